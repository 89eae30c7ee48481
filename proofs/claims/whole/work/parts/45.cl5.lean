section CP5
variable {G : sm_G} {h : sm_H} {g n p q k c K : Nat} {P P2 : Nat → Nat} {B : Nat → Int32} {S T : gm_S} {x : Int64} {S2 : gm_S} {x2 : Int64} {B2 : Nat → Int32} {g2 : Nat}
def cl_hg (G : sm_G) (h : sm_H) (g : Nat) (S : gm_S) (x : Int64) (P : Nat → Nat) (B : Nat → Int32) : Prop := ∀ o, o < 27 → h (g + o) = some (cl_gc G g S x P B o)
theorem hg_self (H : cl_hg G h g S x P B) : h = cl_g G h g S x P B := gl_self H
theorem gl_h : cl_hg G (cl_g G h g S x P B) g S x P B := fun o ho => gl_at ho
theorem hg_0 (H : cl_hg G h g S x P B) : h g = some (.inr (0, cl_gf g S x B)) := H 0 (by omega)
theorem hg_1 (H : cl_hg G h g S x P B) : h (g + 1) = some (sm_ar G 4 4 (cl_ra 4 (g + 7))) := H 1 (by omega)
theorem hg_2 (H : cl_hg G h g S x P B) : h (g + 2) = some (sm_ar G 5 6 (cl_ra 6 (g + 15))) := H 2 (by omega)
theorem hg_3 (H : cl_hg G h g S x P B) : h (g + 3) = some (sm_ai G 3 (cl_ca S)) := H 3 (by omega)
theorem hg_4 (H : cl_hg G h g S x P B) : h (g + 4) = some (sm_ai G 3 (cl_cs S)) := H 4 (by omega)
theorem hg_pl (H : cl_hg G h g S x P B) (hp : p < 4) : cl_hp G h (g + 7 + 2 * p) (cl_r S p) := by
  have := gl_pl (G := G) (h := h) (g := g) (S := S) (x := x) (P := P) (B := B) hp
  rwa [← hg_self H] at this
theorem hg_pq (H : cl_hg G h g S x P B) (hq : q < 6) : cl_hq G h (g + 15 + 2 * q) (S (45 + 4 * q)) (cl_o S q) := by
  have := gl_pq (G := G) (h := h) (g := g) (S := S) (x := x) (P := P) (B := B) hq
  rwa [← hg_self H] at this
theorem hg_o (H : cl_hg G h g2 S2 x2 P2 B2) (ha : g2 + 27 ≤ g ∨ g + 27 ≤ g2) : cl_hg G (cl_g G h g S x P B) g2 S2 x2 P2 B2 := fun o ho => (gl_out (by omega)).trans (H o ho)
theorem cg_ends (T : gm_S) {p : Nat} (hp : p < 4) : ∀ i, i < 69 → cl_w (va_up (cl_w T p (cp_en (cl_r T p) (T 5))) 12 (T 12 + cp_lost (cl_r T p) (T 5))) p (va_up (va_up (cl_r (va_up (cl_w T p (cp_en (cl_r T p) (T 5))) 12 (T 12 + cp_lost (cl_r T p) (T 5))) p) 6 (cl_r (va_up (cl_w T p (cp_en (cl_r T p) (T 5))) 12 (T 12 + cp_lost (cl_r T p) (T 5))) p 5)) 7 0) i = gm_ends T p i := by
  have R : ∀ w, w < 8 → cl_r (va_up (cl_w T p (cp_en (cl_r T p) (T 5))) 12 (T 12 + cp_lost (cl_r T p) (T 5))) p w = cp_en (cl_r T p) (T 5) w := fun w hw => by
    show va_up _ 12 _ (13 + 8 * p + w) = _
    rw [up_ne (by omega), cl_w_in hw]
  intro i hi
  by_cases hr : 13 + 8 * p ≤ i ∧ i < 13 + 8 * p + 8
  · obtain ⟨w, rfl⟩ : ∃ w, i = 13 + 8 * p + w := ⟨i - (13 + 8 * p), by omega⟩
    have hw : w < 8 := by omega
    rw [cl_w_in hw]
    rcases (show w = 0 ∨ w = 1 ∨ w = 2 ∨ w = 3 ∨ w = 4 ∨ w = 5 ∨ w = 6 ∨ w = 7 by omega) with rfl | rfl | rfl | rfl | rfl | rfl | rfl | rfl
    · rw [up_ne (by omega), up_ne (by omega), R 0 (by omega)]; unfold gm_ends; rw [if_neg (by omega), if_neg (by omega), if_neg (by omega), if_neg (by omega), if_neg (by omega), if_neg (by omega)]; rfl
    · rw [up_ne (by omega), up_ne (by omega), R 1 (by omega)]; unfold gm_ends; rw [if_pos rfl]; rfl
    · rw [up_ne (by omega), up_ne (by omega), R 2 (by omega)]; unfold gm_ends; rw [if_neg (by omega), if_pos rfl]; rfl
    · rw [up_ne (by omega), up_ne (by omega), R 3 (by omega)]; unfold gm_ends; rw [if_neg (by omega), if_neg (by omega), if_pos rfl]; rfl
    · rw [up_ne (by omega), up_ne (by omega), R 4 (by omega)]; unfold gm_ends; rw [if_neg (by omega), if_neg (by omega), if_neg (by omega), if_neg (by omega), if_neg (by omega), if_neg (by omega)]; rfl
    · rw [up_ne (by omega), up_ne (by omega), R 5 (by omega)]; unfold gm_ends; rw [if_neg (by omega), if_neg (by omega), if_neg (by omega), if_neg (by omega), if_neg (by omega), if_neg (by omega)]; rfl
    · rw [up_ne (by omega), up_eq, R 5 (by omega)]; unfold gm_ends; rw [if_neg (by omega), if_neg (by omega), if_neg (by omega), if_neg (by omega), if_pos rfl]; rfl
    · rw [up_eq]; unfold gm_ends; rw [if_neg (by omega), if_neg (by omega), if_neg (by omega), if_neg (by omega), if_neg (by omega), if_pos rfl]
  · rw [cl_w_out (by omega)]
    by_cases e : i = 12
    · subst e; rw [up_eq]; unfold gm_ends; rw [if_neg (by omega), if_neg (by omega), if_neg (by omega), if_pos rfl]; rfl
    · rw [up_ne e, cl_w_out (by omega)]; unfold gm_ends; rw [if_neg (by omega), if_neg (by omega), if_neg (by omega), if_neg (by omega), if_neg (by omega), if_neg (by omega)]
/-- the first n places are empty -/
def cg_z (S : gm_S) (n : Nat) : gm_S := fun i => if 45 ≤ i ∧ i < 45 + 4 * n ∧ (i - 45) % 4 = 0 then 0 else S i
theorem cg_z_0 (S : gm_S) : cg_z S 0 = S := by funext i; unfold cg_z; rw [if_neg (by omega)]
theorem cg_z_s (S : gm_S) (n : Nat) : ∀ i, i < 69 → va_up (cg_z S n) (45 + 4 * n) 0 i = cg_z S (n + 1) i := by
  intro i hi; unfold va_up cg_z; (repeat' split) <;> first | rfl | omega
theorem cg_z_o {S : gm_S} {n i : Nat} (hi : i < 45) : cg_z S n i = S i := by unfold cg_z; rw [if_neg (by omega)]
theorem gm_pr_o {S : gm_S} {n i : Nat} (hi : i < 7 ∨ 10 ≤ i) (hn : n ≤ 3) : gm_pr S n i = S i := by unfold gm_pr; rw [if_neg (by omega)]
theorem cg_end (S : gm_S) (x : Int64) : ∀ i, i < 69 → va_up (va_up (va_up (va_up (gm_pr (cg_z (gm_endsN S (S 3)) 6) 3) 5 (gm_die (gm_nx x))) 6 (gm_endsN S (S 3) 6 + 1)) 10 ((S 10 + 1) % S 3)) 4 ((S 10 + 1) % S 3) i = gm_end true S x i := by
  intro i hi; unfold va_up gm_end gm_pr cg_z
  simp only [true_implies]
  (repeat' split) <;> first | rfl | omega | (subst_vars; first | rfl | omega)
theorem k0_endRound (hM : gm_M K S) : sm_F G mX0_endRound 1 [.ref g] (cl_g G h g S x P B) (.inl none) (cl_g G h g (gm_end true S x) (gm_nx x) P B) := by
  unfold sm_F sm_C
  show sm_V G _ _ _ 0 0 0 [(0, .ref g)] [] _
  obtain ⟨n3, n31, n4, n5, n51, n6, n10⟩ := hM.n; have k2 := hM.k2; have s0 := hM.s0; have kk := hM.k; have pr := hM.pr
  refine sv_iconst (nI 0) dX0_endRound_0 (by decide) ?_
  refine sv_istore_n (lv' := [(1, _), (0, _)]) dX0_endRound_1 (by decide) rfl ?_
  refine sv_sub [0, 1] rfl (sv_loop (pc := 2) (lv := fun n => [(1, .int (nI n)), (0, .ref g)]) (hp := fun n => (cl_g G h g (gm_endsN S n) x P B)) (I := fun n => True) (N := S 3) (trivial) ?_ ?_)
  · intro hI
    show sm_V G _ _ _ _ _ _ [(1, .int (nI (S 3))), (0, .ref g)] [] (cl_g G h g (gm_endsN S (S 3)) x P B)
    have kT := gm_endsN_K hM.k (S 3); have t3 : gm_endsN S (S 3) 3 = S 3 := gm_endsN_lo S (by omega) _; have t5 : gm_endsN S (S 3) 5 = S 5 := gm_endsN_lo S (by omega) _
    refine sv_iload_n dX0_endRound_2 rfl ?_
    refine sv_aload_n dX0_endRound_3 rfl ?_
    refine kg_g4 gl_0 dX0_endRound_4 sf_X0_30 ?_
    refine sv_icmpN_ge 52 dX0_endRound_7 (by decide) (by omega) (by omega) (fun c_7 => ?_) (fun c_7 => absurd c_7 (by omega))
    refine sv_iconst (nI 0) dX0_endRound_52 (by decide) ?_
    refine sv_istore_n (lv' := [(1, _), (0, _)]) dX0_endRound_53 (by decide) rfl ?_
    refine sv_heap (h' := (cl_g G h g (cg_z (gm_endsN S (S 3)) 0) x P B)) (congrArg (fun T => cl_g G h g T x P B) (cg_z_0 _).symm) ?_
    refine sv_sub [0, 1] rfl (sv_loop (pc := 54) (lv := fun q => [(1, .int (nI q)), (0, .ref g)]) (hp := fun q => (cl_g G h g (cg_z (gm_endsN S (S 3)) q) x P B)) (I := fun q => True) (N := 6) (trivial) ?_ ?_)
    · intro hI_q
      show sm_V G _ _ _ _ _ _ [(1, .int (nI 6)), (0, .ref g)] [] (cl_g G h g (cg_z (gm_endsN S (S 3)) 6) x P B)
      refine sv_iload_n dX0_endRound_54 rfl ?_
      refine sv_bipush (nI 6) dX0_endRound_55 (by decide) ?_
      refine sv_icmpN_ge 76 dX0_endRound_57 (by decide) (by omega) (by omega) (fun c_57 => ?_) (fun c_57 => absurd c_57 (by omega))
      refine sv_iconst (nI 0) dX0_endRound_76 (by decide) ?_
      refine sv_istore_n (lv' := [(1, _), (0, _)]) dX0_endRound_77 (by decide) rfl ?_
      refine sv_heap (h' := (cl_g G h g (gm_pr (cg_z (gm_endsN S (S 3)) 6) 0) x P B)) (congrArg (fun T => cl_g G h g T x P B) (gm_pr_0 _).symm) ?_
      refine sv_sub [0, 1] rfl (sv_loop (pc := 78) (lv := fun k => [(1, .int (nI k)), (0, .ref g)]) (hp := fun k => (cl_g G h g (gm_pr (cg_z (gm_endsN S (S 3)) 6) k) x P B)) (I := fun k => True) (N := 3) (trivial) ?_ ?_)
      · intro hI_k
        show sm_V G _ _ _ _ _ _ [(1, .int (nI 3)), (0, .ref g)] [] (cl_g G h g (gm_pr (cg_z (gm_endsN S (S 3)) 6) 3) x P B)
        refine sv_iload_n dX0_endRound_78 rfl ?_
        refine sv_iconst (nI 3) dX0_endRound_79 (by decide) ?_
        refine sv_icmpN_ge 108 dX0_endRound_80 (by decide) (by omega) (by omega) (fun c_80 => ?_) (fun c_80 => absurd c_80 (by omega))
        refine sv_aload_n dX0_endRound_108 rfl ?_
        refine sv_aload_n dX0_endRound_109 rfl ?_
        refine kg_g11 gl_0 dX0_endRound_110 sf_X0_52 ?_
        refine sv_callSN (As := [_]) sc_X0_81 (k5_nextX) rfl rfl (Nat.le_of_ble_eq_true rfl) dX0_endRound_113 ⟨by decide, by decide⟩ ⟨Nat.le_refl _, Nat.le_refl _⟩ (Nat.le_of_ble_eq_true rfl) ?_
        refine kg_p11 dX0_endRound_116 sf_X0_52 ?_
        refine sv_aload_n dX0_endRound_119 rfl ?_
        refine sv_aload_n dX0_endRound_120 rfl ?_
        refine kg_g11 gl_0 dX0_endRound_121 sf_X0_52 ?_
        refine sv_callSN (As := [_]) sc_X0_85 (k5_weatherOf) rfl rfl (Nat.le_of_ble_eq_true rfl) dX0_endRound_124 ⟨by decide, by decide⟩ ⟨Nat.le_refl _, Nat.le_refl _⟩ (Nat.le_of_ble_eq_true rfl) ?_
        refine kg_p7 dX0_endRound_127 sf_X0_40 ?_
        refine sv_aload_n dX0_endRound_130 rfl ?_
        refine sv_dup dX0_endRound_131 rfl ?_
        refine kg_g8 gl_0 dX0_endRound_132 sf_X0_43 ?_
        refine sv_top (nI ((gm_endsN S (S 3)) 6)) (congrArg nI (by rw [up_ne (by omega), gm_pr_o (by omega) (by omega), cg_z_o (by omega)])) ?_
        refine sv_iconst (nI 1) dX0_endRound_135 (by decide) ?_
        refine sv_iaddN dX0_endRound_136 ?_
        refine kg_p8 dX0_endRound_137 sf_X0_43 ?_
        refine sv_aload_n dX0_endRound_140 rfl ?_
        have u1 : ∀ i, i ≠ 5 → i ≠ 6 → i < 12 → ¬ (7 ≤ i ∧ i < 10) → va_up (va_up (gm_pr (cg_z (gm_endsN S (S 3)) 6) 3) 5 (gm_die (gm_nx x))) 6 ((gm_endsN S (S 3)) 6 + 1) i = S i := fun i a b c d => by rw [up_ne b, up_ne a, gm_pr_o (by omega) (by omega), cg_z_o (by omega)]; exact gm_endsN_lo S (by omega) _
        have u10 := u1 10 (by omega) (by omega) (by omega) (by omega); have u33 := u1 3 (by omega) (by omega) (by omega) (by omega)
        have u3 : va_up (va_up (gm_pr (cg_z (gm_endsN S (S 3)) 6) 3) 5 (gm_die (gm_nx x))) 6 ((gm_endsN S (S 3)) 6 + 1) 10 < va_up (va_up (gm_pr (cg_z (gm_endsN S (S 3)) 6) 3) 5 (gm_die (gm_nx x))) 6 ((gm_endsN S (S 3)) 6 + 1) 3 := by rw [u10, u33]; exact n10
        have u31 : va_up (va_up (gm_pr (cg_z (gm_endsN S (S 3)) 6) 3) 5 (gm_die (gm_nx x))) 6 ((gm_endsN S (S 3)) 6 + 1) 3 ≤ 4 := by rw [u33]; exact n31
        have u4 : nI ((va_up (va_up (gm_pr (cg_z (gm_endsN S (S 3)) 6) 3) 5 (gm_die (gm_nx x))) 6 ((gm_endsN S (S 3)) 6 + 1) 10 + 1) % va_up (va_up (gm_pr (cg_z (gm_endsN S (S 3)) 6) 3) 5 (gm_die (gm_nx x))) 6 ((gm_endsN S (S 3)) 6 + 1) 3) = nI ((S 10 + 1) % S 3) := by rw [u10, u33]
        refine sv_aload_n dX0_endRound_141 rfl ?_
        refine sv_aload_n dX0_endRound_142 rfl ?_
        refine kg_g6 gl_0 dX0_endRound_143 sf_X0_37 ?_
        refine sv_callV (As := [_]) sc_X0_199 (k0_playerBehind u3 u31) rfl rfl (Nat.le_of_ble_eq_true rfl) dX0_endRound_146 ⟨by decide, by decide⟩ ⟨Nat.le_refl _, Nat.le_refl _⟩ (Nat.le_of_ble_eq_true rfl) gl_0 (List.cons_ne_nil _ _) rfl ?_
        refine sv_top (nI ((S 10 + 1) % S 3)) u4 ?_
        refine kg_p6 dX0_endRound_149 sf_X0_37 ?_
        refine sv_aload_n dX0_endRound_152 rfl ?_
        refine sv_aload_n dX0_endRound_153 rfl ?_
        refine kg_g6 gl_0 dX0_endRound_154 sf_X0_37 ?_
        refine sv_top (nI ((S 10 + 1) % S 3)) (congrArg nI up_eq) ?_
        refine kg_p5 dX0_endRound_157 sf_X0_34 ?_
        refine sv_vret dX0_endRound_160 rfl (Nat.le_refl _) (Nat.le_refl _) ?_
        exact ⟨rfl, gl_eqS (cg_end S x)⟩
      · intro k hn_k hI_k ih_k
        show sm_V G _ _ _ _ _ _ [(1, .int (nI k)), (0, .ref g)] [] (cl_g G h g (gm_pr (cg_z (gm_endsN S (S 3)) 6) k) x P B)
        have pz : (cg_z (gm_endsN S (S 3)) 6) (7 + k) = S (7 + k) := (cg_z_o (by omega)).trans (gm_endsN_lo S (by omega) _)
        have pa : gm_pr (cg_z (gm_endsN S (S 3)) 6) k (7 + k) = (cg_z (gm_endsN S (S 3)) 6) (7 + k) := gm_pr_at _ _
        have pk := pr k (by omega)
        refine sv_iload_n dX0_endRound_78 rfl ?_
        refine sv_iconst (nI 3) dX0_endRound_79 (by decide) ?_
        refine sv_icmpN_ge 108 dX0_endRound_80 (by decide) (by omega) (by omega) (fun c_80 => absurd c_80 (by omega)) (fun c_80 => ?_)
        refine sv_aload_n dX0_endRound_83 rfl ?_
        refine kg_g2 gl_0 dX0_endRound_84 sf_X0_23 ?_
        refine sv_iload_n dX0_endRound_87 rfl ?_
        refine sv_bipush (nI 9) dX0_endRound_88 (by decide) ?_
        refine sv_aload_n dX0_endRound_90 rfl ?_
        refine kg_g2 gl_0 dX0_endRound_91 sf_X0_23 ?_
        refine sv_iload_n dX0_endRound_94 rfl ?_
        refine kg_ldr gl_3 dX0_endRound_95 (by omega) ?_
        refine sv_iconst (nI 1) dX0_endRound_96 (by decide) ?_
        refine sv_iaddN dX0_endRound_97 ?_
        refine sv_mmin sj_X0_211 dX0_endRound_98 (Nat.le_of_ble_eq_true rfl) (Nat.le_of_ble_eq_true rfl) (Nat.le_refl _) (Nat.le_refl _) ?_
        refine sv_top (nI (min 9 ((cg_z (gm_endsN S (S 3)) 6) (7 + k) + 1))) (by rw [pa]; exact pk_min (by omega) (by omega)) ?_
        refine kg_str dX0_endRound_101 (by omega) ?_
        refine sv_heap (h' := (cl_g G h g (gm_pr (cg_z (gm_endsN S (S 3)) 6) (k + 1)) x P B)) (congrArg (fun T => cl_g G h g T x P B) (gm_pr_s _ k _ (by split <;> omega))) ?_
        refine sv_iinc1 (lv' := [(1, _), (0, _)]) dX0_endRound_102 rfl (by decide) rfl ?_
        refine sv_goto 78 dX0_endRound_105 (by decide) ?_
        exact sv_sub [0, 1] rfl (ih_k trivial)
    · intro q hn_q hI_q ih_q
      show sm_V G _ _ _ _ _ _ [(1, .int (nI q)), (0, .ref g)] [] (cl_g G h g (cg_z (gm_endsN S (S 3)) q) x P B)
      refine sv_iload_n dX0_endRound_54 rfl ?_
      refine sv_bipush (nI 6) dX0_endRound_55 (by decide) ?_
      refine sv_icmpN_ge 76 dX0_endRound_57 (by decide) (by omega) (by omega) (fun c_57 => absurd c_57 (by omega)) (fun c_57 => ?_)
      refine sv_aload_n dX0_endRound_60 rfl ?_
      refine kg_g1 gl_0 dX0_endRound_61 sf_X0_19 ?_
      refine sv_iload_n dX0_endRound_64 rfl ?_
      refine kg_ldq gl_2 dX0_endRound_65 (by omega) ?_
      refine sv_iconst (nI 0) dX0_endRound_66 (by decide) ?_
      refine kgq_p1 (by omega) dX0_endRound_67 sf_X0_77 ?_
      refine sv_heap (h' := (cl_g G h g (cg_z (gm_endsN S (S 3)) (q + 1)) x P B)) (gl_eqS (cg_z_s _ q)) ?_
      refine sv_iinc1 (lv' := [(1, _), (0, _)]) dX0_endRound_70 rfl (by decide) rfl ?_
      refine sv_goto 54 dX0_endRound_73 (by decide) ?_
      exact sv_sub [0, 1] rfl (ih_q trivial)
  · intro n hn hI ih
    show sm_V G _ _ _ _ _ _ [(1, .int (nI n)), (0, .ref g)] [] (cl_g G h g (gm_endsN S n) x P B)
    have kT := gm_endsN_K hM.k (n); have t3 : gm_endsN S (n) 3 = S 3 := gm_endsN_lo S (by omega) _; have t5 : gm_endsN S (n) 5 = S 5 := gm_endsN_lo S (by omega) _
    have f1 : cl_r (gm_endsN S n) n 1 < 2 ^ 28 := (by show gm_endsN S n (13 + 8 * n + 1) < _; have := kT (13 + 8 * n + 1) (by omega) (by omega); omega)
    have f2 : cl_r (gm_endsN S n) n 2 < 2 ^ 28 := (by show gm_endsN S n (13 + 8 * n + 2) < _; have := kT (13 + 8 * n + 2) (by omega) (by omega); omega)
    have f3 : cl_r (gm_endsN S n) n 3 < 2 ^ 28 := (by show gm_endsN S n (13 + 8 * n + 3) < _; have := kT (13 + 8 * n + 3) (by omega) (by omega); omega)
    have f4 : cl_r (gm_endsN S n) n 4 < 2 ^ 28 := (by show gm_endsN S n (13 + 8 * n + 4) < _; have := kT (13 + 8 * n + 4) (by omega) (by omega); omega)
    refine sv_iload_n dX0_endRound_2 rfl ?_
    refine sv_aload_n dX0_endRound_3 rfl ?_
    refine kg_g4 gl_0 dX0_endRound_4 sf_X0_30 ?_
    refine sv_icmpN_ge 52 dX0_endRound_7 (by decide) (by omega) (by omega) (fun c_7 => absurd c_7 (by omega)) (fun c_7 => ?_)
    refine sv_iload_n dX0_endRound_10 rfl ?_
    refine sv_iconst (nI 4) dX0_endRound_11 (by decide) ?_
    refine sv_icmpN_ge 52 dX0_endRound_12 (by decide) (by omega) (by omega) (fun c_12 => absurd c_12 (by omega)) (fun c_12 => ?_)
    refine sv_aload_n dX0_endRound_15 rfl ?_
    refine sv_dup dX0_endRound_16 rfl ?_
    refine kg_g10 gl_0 dX0_endRound_17 sf_X0_49 ?_
    refine sv_aload_n dX0_endRound_20 rfl ?_
    refine kg_g0 gl_0 dX0_endRound_21 sf_X0_11 ?_
    refine sv_iload_n dX0_endRound_24 rfl ?_
    refine kg_ldp gl_1 dX0_endRound_25 (by omega) ?_
    refine sv_aload_n dX0_endRound_26 rfl ?_
    refine kg_g7 gl_0 dX0_endRound_27 sf_X0_40 ?_
    refine sv_callV (As := [_]) sc_X0_193 (k3_loseGoods (gl_pl (by omega)) (by omega) f1 f2 f3 f4) rfl rfl (Nat.le_of_ble_eq_true rfl) dX0_endRound_30 ⟨by decide, by decide⟩ ⟨Nat.le_refl _, Nat.le_refl _⟩ (Nat.le_of_ble_eq_true rfl) (gl_pl (by omega)).1 (List.cons_ne_nil _ _) rfl ?_
    refine sv_heap (gl_wp (by omega)) ?_
    refine sv_iaddN dX0_endRound_33 ?_
    refine kg_p10 dX0_endRound_34 sf_X0_49 ?_
    refine sv_aload_n dX0_endRound_37 rfl ?_
    refine kg_g0 gl_0 dX0_endRound_38 sf_X0_11 ?_
    refine sv_iload_n dX0_endRound_41 rfl ?_
    refine kg_ldp gl_1 dX0_endRound_42 (by omega) ?_
    refine sv_callV (As := []) sc_X0_208 (k3_startRound (gl_pl (by omega))) rfl rfl (Nat.le_of_ble_eq_true rfl) dX0_endRound_43 ⟨by decide, by decide⟩ ⟨Nat.le_refl _, Nat.le_refl _⟩ (Nat.le_of_ble_eq_true rfl) (gl_pl (by omega)).1 (List.cons_ne_nil _ _) rfl ?_
    refine sv_heap (gl_wp (by omega)) ?_
    refine sv_heap (gl_eqS (cg_ends _ (by omega))) ?_
    refine sv_iinc1 (lv' := [(1, _), (0, _)]) dX0_endRound_46 rfl (by decide) rfl ?_
    refine sv_goto 2 dX0_endRound_49 (by decide) ?_
    exact sv_sub [0, 1] rfl (ih trivial)
theorem cg_rdy_f {p : Nat} (h : b2n (decide (0 < cl_r S p 6 ∧ cl_r S p 7 = 0)) = 0) : gm_rdy S p = false := b2n_f h
theorem cg_rdy_t {p : Nat} (h : b2n (decide (0 < cl_r S p 6 ∧ cl_r S p 7 = 0)) ≠ 0) : gm_rdy S p = true := b2n_1 h
theorem k0_endTurn (hM : gm_M K S) : sm_F G mX0_endTurn 2 [.ref g] (cl_g G h g S x P B) (.inl none) (cl_g G h g (gm_go true S x).1 (gm_go true S x).2 P B) := by
  unfold sm_F sm_C
  show sm_V G _ _ _ 0 0 0 [(0, .ref g)] [] _
  obtain ⟨n3, n31, n4, n5, n51, n6, n10⟩ := hM.n; have k2 := hM.k2; have s0 := hM.s0; have kk := hM.k; have pr := hM.pr
  refine sv_aload_n dX0_endTurn_0 rfl ?_
  refine kg_g5 gl_0 dX0_endTurn_1 sf_X0_34 ?_
  refine sv_top (nI ((S 4 + 0) % S 3)) (congrArg nI (Nat.mod_eq_of_lt n4).symm) ?_
  refine sv_istore_n (lv' := [(1, _), (0, _)]) dX0_endTurn_4 (by decide) rfl ?_
  refine sv_iconst (nI 0) dX0_endTurn_5 (by decide) ?_
  refine sv_istore_n (lv' := [(2, _), (1, _), (0, _)]) dX0_endTurn_6 (by decide) rfl ?_
  refine sv_sub [0, 1, 2] rfl (sv_loop (pc := 7) (lv := fun n => [(2, .int (nI n)), (1, .int (nI ((S 4 + n) % S 3))), (0, .ref g)]) (hp := fun n => (cl_g G h g S x P B)) (I := fun n => gm_nxt S = gm_fnd S (S 3 - n) (n + 1)) (N := S 3) (rfl) ?_ ?_)
  · intro hI
    show sm_V G _ _ _ _ _ _ [(2, .int (nI (S 3))), (1, .int (nI ((S 4 + (S 3)) % S 3))), (0, .ref g)] [] (cl_g G h g S x P B)
    refine sv_iload_n dX0_endTurn_7 rfl ?_
    refine sv_aload_n dX0_endTurn_8 rfl ?_
    refine kg_g4 gl_0 dX0_endTurn_9 sf_X0_30 ?_
    refine sv_icmpN_ge 45 dX0_endTurn_12 (by decide) (by first | omega | exact Nat.lt_trans (b2n_lt _) (by decide)) (by first | omega | exact Nat.lt_trans (b2n_lt _) (by decide)) (fun c_12 => ?_) (fun c_12 => absurd c_12 (by omega))
    refine sv_aload_n dX0_endTurn_45 rfl ?_
    refine sv_callV (As := []) sc_X0_205 (k0_endRound hM) rfl rfl (Nat.le_of_ble_eq_true rfl) dX0_endTurn_46 ⟨by decide, by decide⟩ ⟨Nat.le_refl _, Nat.le_refl _⟩ (Nat.le_of_ble_eq_true rfl) gl_0 (List.cons_ne_nil _ _) rfl ?_
    refine sv_vret dX0_endTurn_49 rfl (Nat.le_refl _) (Nat.le_refl _) ?_
    have e4 : gm_nxt S = 4 := by rw [hI, Nat.sub_self]; rfl
    exact ⟨rfl, by rw [show gm_go true S x = (gm_end true S x, gm_nx x) from if_pos e4]⟩
  · intro n hn hI ih
    show sm_V G _ _ _ _ _ _ [(2, .int (nI n)), (1, .int (nI ((S 4 + n) % S 3))), (0, .ref g)] [] (cl_g G h g S x P B)
    have hm : (S 4 + (n + 1)) % S 3 < S 3 := Nat.mod_lt _ (by omega); have hm0 : (S 4 + n) % S 3 < S 3 := Nat.mod_lt _ (by omega)
    have b6 : cl_r S ((S 4 + (n + 1)) % S 3) 6 < 2 ^ 31 := (by have := kk (13 + 8 * ((S 4 + (n + 1)) % S 3) + 6) (by omega) (by omega); show S (13 + 8 * ((S 4 + (n + 1)) % S 3) + 6) < _; omega)
    refine sv_iload_n dX0_endTurn_7 rfl ?_
    refine sv_aload_n dX0_endTurn_8 rfl ?_
    refine kg_g4 gl_0 dX0_endTurn_9 sf_X0_30 ?_
    refine sv_icmpN_ge 45 dX0_endTurn_12 (by decide) (by first | omega | exact Nat.lt_trans (b2n_lt _) (by decide)) (by first | omega | exact Nat.lt_trans (b2n_lt _) (by decide)) (fun c_12 => absurd c_12 (by omega)) (fun c_12 => ?_)
    refine sv_aload_n dX0_endTurn_15 rfl ?_
    refine sv_iload_n dX0_endTurn_16 rfl ?_
    refine sv_callV (As := [_]) sc_X0_199 (k0_playerBehind (by omega) (by omega)) rfl rfl (Nat.le_of_ble_eq_true rfl) dX0_endTurn_17 ⟨by decide, by decide⟩ ⟨Nat.le_refl _, Nat.le_refl _⟩ (Nat.le_of_ble_eq_true rfl) gl_0 (List.cons_ne_nil _ _) rfl ?_
    refine sv_top (nI ((S 4 + (n + 1)) % S 3)) (congrArg nI (Nat.mod_add_mod _ _ _)) ?_
    refine sv_istore_n (lv' := [(1, _), (2, _), (0, _)]) dX0_endTurn_20 (by decide) rfl ?_
    refine sv_aload_n dX0_endTurn_21 rfl ?_
    refine kg_g0 gl_0 dX0_endTurn_22 sf_X0_11 ?_
    refine sv_iload_n dX0_endTurn_25 rfl ?_
    refine kg_ldp gl_1 dX0_endTurn_26 (by first | omega | exact Nat.lt_trans (b2n_lt _) (by decide)) ?_
    refine sv_callV (As := []) sc_X0_202 (k3_isReady (gl_pl (by omega)) b6) rfl rfl (Nat.le_of_ble_eq_true rfl) dX0_endTurn_27 ⟨by decide, by decide⟩ ⟨Nat.le_refl _, Nat.le_refl _⟩ (Nat.le_of_ble_eq_true rfl) (gl_pl (by omega)).1 (List.cons_ne_nil _ _) rfl ?_
    refine sv_ifN_eq 39 dX0_endTurn_30 (by decide) (by first | omega | exact Nat.lt_trans (b2n_lt _) (by decide)) (fun c_30 => ?_) (fun c_30 => ?_)
    · refine sv_iinc1 (lv' := [(2, _), (1, _), (0, _)]) dX0_endTurn_39 rfl (by decide) rfl ?_
      refine sv_goto 7 dX0_endTurn_42 (by decide) ?_
      exact sv_sub [0, 1, 2] rfl (ih (gm_fnd_f hI hn (cg_rdy_f c_30)))
    · refine sv_aload_n dX0_endTurn_33 rfl ?_
      refine sv_iload_n dX0_endTurn_34 rfl ?_
      refine kg_p5 dX0_endTurn_35 sf_X0_34 ?_
      refine sv_vret dX0_endTurn_38 rfl (Nat.le_refl _) (Nat.le_refl _) ?_
      have e := gm_fnd_t hI hn (cg_rdy_t c_30)
      exact ⟨rfl, by rw [show gm_go true S x = (va_up S 4 (gm_nxt S), x) from if_neg (by omega), e]⟩
theorem k0_passTurn0 (hI : gm_I K S) (hon : gm_on S = false) : sm_F G mX0_passTurn 3 [.ref g] (cl_g G h g S x P B) (.inl (some (.int (nI 0)))) (cl_g G h g S x P B) := by
  unfold sm_F sm_C
  show sm_V G _ _ _ 0 0 0 [(0, .ref g)] [] _
  obtain ⟨d3, d6, d0, d1, d2, d4, dK⟩ := cg_d hI
  refine sv_aload_n dX0_passTurn_0 rfl ?_
  refine sv_callV (As := []) sc_X0_96 (k0_hasTurn (by omega) (by omega) (by omega)) rfl rfl (Nat.le_of_ble_eq_true rfl) dX0_passTurn_1 ⟨by decide, by decide⟩ ⟨Nat.le_refl _, Nat.le_refl _⟩ (Nat.le_of_ble_eq_true rfl) gl_0 (List.cons_ne_nil _ _) rfl ?_
  refine sv_top (nI 0) (by rw [hon]; rfl) ?_
  refine sv_ifN_ne 9 dX0_passTurn_4 (by decide) (by omega) (fun c_4 => absurd c_4 (by omega)) (fun c_4 => ?_)
  refine sv_iconst (nI 0) dX0_passTurn_7 (by decide) ?_
  refine sv_iret dX0_passTurn_8 rfl rfl (Nat.le_refl _) (Nat.le_refl _) ?_
  exact ⟨rfl, rfl⟩
theorem k0_passTurnK (hI : gm_I K S) (hon : gm_on S = true) (hK9 : 12 ≤ K) : sm_F G mX0_passTurn 3 [.ref g] (cl_g G h g S x P B) (.inl (some (.int (nI 1)))) (cl_g G h g (gm_pass true S x).1 (gm_pass true S x).2 P B) := by
  unfold sm_F sm_C
  show sm_V G _ _ _ 0 0 0 [(0, .ref g)] [] _
  obtain ⟨d3, d6, d0, d1, d2, d4, dK⟩ := cg_d hI
  have hM := gm_IM hI hon; obtain ⟨n3, n31, n4, n5, n51, n6, n10⟩ := hM.n
  refine sv_aload_n dX0_passTurn_0 rfl ?_
  refine sv_callV (As := []) sc_X0_96 (k0_hasTurn (by omega) (by omega) (by omega)) rfl rfl (Nat.le_of_ble_eq_true rfl) dX0_passTurn_1 ⟨by decide, by decide⟩ ⟨Nat.le_refl _, Nat.le_refl _⟩ (Nat.le_of_ble_eq_true rfl) gl_0 (List.cons_ne_nil _ _) rfl ?_
  refine sv_top (nI 1) (by rw [hon]; rfl) ?_
  refine sv_ifN_ne 9 dX0_passTurn_4 (by decide) (by omega) (fun c_4 => ?_) (fun c_4 => absurd c_4 (by omega))
  refine sv_aload_n dX0_passTurn_9 rfl ?_
  refine kg_g0 gl_0 dX0_passTurn_10 sf_X0_11 ?_
  refine sv_aload_n dX0_passTurn_13 rfl ?_
  refine kg_g5 gl_0 dX0_passTurn_14 sf_X0_34 ?_
  refine kg_ldp gl_1 dX0_passTurn_17 (by omega) ?_
  refine sv_iconst (nI 1) dX0_passTurn_18 (by decide) ?_
  refine kgp_p5 (v := 1) (by decide) (by omega) dX0_passTurn_19 sf_X0_176 ?_
  refine sv_aload_n dX0_passTurn_22 rfl ?_
  refine sv_callV (As := []) sc_X0_164 (k0_endTurn (gm_pass_M hM hK9)) rfl rfl (Nat.le_of_ble_eq_true rfl) dX0_passTurn_23 ⟨by decide, by decide⟩ ⟨Nat.le_refl _, Nat.le_refl _⟩ (Nat.le_of_ble_eq_true rfl) gl_0 (List.cons_ne_nil _ _) rfl ?_
  refine sv_iconst (nI 1) dX0_passTurn_26 (by decide) ?_
  refine sv_iret dX0_passTurn_27 rfl rfl (Nat.le_refl _) (Nat.le_refl _) ?_
  exact ⟨rfl, rfl⟩
def cg_cc (S S2 : gm_S) (a n : Nat) : gm_S := fun i => if a ≤ i ∧ i < a + n then S2 i else S i
theorem cg_cc_0 (S S2 : gm_S) (a : Nat) : cg_cc S S2 a 0 = S := by funext i; unfold cg_cc; rw [if_neg (by omega)]
theorem cg_cc_p {T : gm_S} {n : Nat} : ∀ i, i < 69 → cl_w (cg_cc T S2 13 (8 * n)) n (cl_r S2 n) i = cg_cc T S2 13 (8 * (n + 1)) i := by
  intro i hi; unfold cl_w cl_r cg_cc
  by_cases e : 13 + 8 * n ≤ i ∧ i < 13 + 8 * n + 8
  · rw [if_pos e, if_pos (by omega), show 13 + 8 * n + (i - (13 + 8 * n)) = i by omega]
  · rw [if_neg e]; split
    · rw [if_pos (by omega)]
    · rw [if_neg (by omega)]
theorem cg_cc_q {T : gm_S} {n : Nat} : ∀ i, i < 69 → cl_v (cg_cc T S2 45 (4 * n)) n (S2 (45 + 4 * n)) (cl_o S2 n) i = cg_cc T S2 45 (4 * (n + 1)) i := by
  intro i hi; unfold cl_v cl_o cg_cc
  by_cases e : i = 45 + 4 * n
  · rw [if_pos e, if_pos (by omega), e]
  · rw [if_neg e]
    by_cases e2 : 45 + 4 * n + 1 ≤ i ∧ i < 45 + 4 * n + 4
    · rw [if_pos e2, if_pos (by omega), show 45 + 4 * n + 1 + (i - (45 + 4 * n + 1)) = i by omega]
    · rw [if_neg e2]; split
      · rw [if_pos (by omega)]
      · rw [if_neg (by omega)]
theorem cg_cc_1 {T : gm_S} {a n : Nat} : va_up (cg_cc T S2 a n) (a + n) (S2 (a + n)) = cg_cc T S2 a (n + 1) := by
  funext i; unfold va_up cg_cc; (repeat' split) <;> first | rfl | omega | (subst_vars; rfl)
theorem cg_cc_10 {T : gm_S} {n : Nat} : va_up (cg_cc T S2 0 n) n (S2 n) = cg_cc T S2 0 (n + 1) := by
  have := cg_cc_1 (S2 := S2) (T := T) (a := 0) (n := n); rwa [Nat.zero_add] at this
theorem cg_cc_e (S S2 : gm_S) : ∀ i, i < 69 → va_up (va_up (va_up (va_up (va_up (va_up (va_up (cg_cc (cg_cc (cg_cc (cg_cc S S2 13 (8 * 4)) S2 45 (4 * 6)) S2 7 3) S2 0 3) 3 (S2 3)) 4 (S2 4)) 10 (S2 10)) 5 (S2 5)) 6 (S2 6)) 11 (S2 11)) 12 (S2 12) i = S2 i := by
  intro i hi; unfold va_up cg_cc; (repeat' split) <;> first | rfl | omega | (subst_vars; rfl)
theorem k0_copyFrom (H : cl_hg G h g2 S2 x2 P2 B2) (ha : g2 + 27 ≤ g ∨ g + 27 ≤ g2) : sm_F G mX0_copyFrom 1 [.ref g, .ref g2] (cl_g G h g S x P B) (.inl none) (cl_g G h g S2 x2 P B) := by
  unfold sm_F sm_C
  show sm_V G _ _ _ 0 0 0 [(0, .ref g), (1, .ref g2)] [] _
  refine sv_iconst (nI 0) dX0_copyFrom_0 (by decide) ?_
  refine sv_istore_n (lv' := [(2, _), (0, _), (1, _)]) dX0_copyFrom_1 (by decide) rfl ?_
  refine sv_heap (h' := (cl_g G h g (cg_cc S S2 13 (8 * 0)) x P B)) (congrArg (fun T => cl_g G h g T x P B) (cg_cc_0 _ _ _).symm) ?_
  refine sv_sub [0, 1, 2] rfl (sv_loop (pc := 2) (lv := fun n => [(2, .int (nI n)), (0, .ref g), (1, .ref g2)]) (hp := fun n => (cl_g G h g (cg_cc S S2 13 (8 * n)) x P B)) (I := fun n => True) (N := 4) (trivial) ?_ ?_)
  · intro hI
    show sm_V G _ _ _ _ _ _ [(2, .int (nI 4)), (0, .ref g), (1, .ref g2)] [] (cl_g G h g (cg_cc S S2 13 (8 * 4)) x P B)
    refine sv_iload_n dX0_copyFrom_2 rfl ?_
    refine sv_iconst (nI 4) dX0_copyFrom_3 (by decide) ?_
    refine sv_icmpN_ge 28 dX0_copyFrom_4 (by decide) (by omega) (by omega) (fun c_4 => ?_) (fun c_4 => absurd c_4 (by omega))
    refine sv_iconst (nI 0) dX0_copyFrom_28 (by decide) ?_
    refine sv_istore_n (lv' := [(2, _), (0, _), (1, _)]) dX0_copyFrom_29 (by decide) rfl ?_
    refine sv_heap (h' := (cl_g G h g (cg_cc (cg_cc S S2 13 (8 * 4)) S2 45 (4 * 0)) x P B)) (congrArg (fun T => cl_g G h g T x P B) (cg_cc_0 _ _ _).symm) ?_
    refine sv_sub [0, 1, 2] rfl (sv_loop (pc := 30) (lv := fun q => [(2, .int (nI q)), (0, .ref g), (1, .ref g2)]) (hp := fun q => (cl_g G h g (cg_cc (cg_cc S S2 13 (8 * 4)) S2 45 (4 * q)) x P B)) (I := fun q => True) (N := 6) (trivial) ?_ ?_)
    · intro hI_q
      show sm_V G _ _ _ _ _ _ [(2, .int (nI 6)), (0, .ref g), (1, .ref g2)] [] (cl_g G h g (cg_cc (cg_cc S S2 13 (8 * 4)) S2 45 (4 * 6)) x P B)
      refine sv_iload_n dX0_copyFrom_30 rfl ?_
      refine sv_bipush (nI 6) dX0_copyFrom_31 (by decide) ?_
      refine sv_icmpN_ge 57 dX0_copyFrom_33 (by decide) (by omega) (by omega) (fun c_33 => ?_) (fun c_33 => absurd c_33 (by omega))
      refine sv_iconst (nI 0) dX0_copyFrom_57 (by decide) ?_
      refine sv_istore_n (lv' := [(2, _), (0, _), (1, _)]) dX0_copyFrom_58 (by decide) rfl ?_
      refine sv_heap (h' := (cl_g G h g (cg_cc (cg_cc (cg_cc S S2 13 (8 * 4)) S2 45 (4 * 6)) S2 7 0) x P B)) (congrArg (fun T => cl_g G h g T x P B) (cg_cc_0 _ _ _).symm) ?_
      refine sv_sub [0, 1, 2] rfl (sv_loop (pc := 59) (lv := fun k => [(2, .int (nI k)), (0, .ref g), (1, .ref g2)]) (hp := fun k => (cl_g G h g (cg_cc (cg_cc (cg_cc S S2 13 (8 * 4)) S2 45 (4 * 6)) S2 7 k) x P B)) (I := fun k => True) (N := 3) (trivial) ?_ ?_)
      · intro hI_k
        show sm_V G _ _ _ _ _ _ [(2, .int (nI 3)), (0, .ref g), (1, .ref g2)] [] (cl_g G h g (cg_cc (cg_cc (cg_cc S S2 13 (8 * 4)) S2 45 (4 * 6)) S2 7 3) x P B)
        refine sv_iload_n dX0_copyFrom_59 rfl ?_
        refine sv_iconst (nI 3) dX0_copyFrom_60 (by decide) ?_
        refine sv_icmpN_ge 82 dX0_copyFrom_61 (by decide) (by omega) (by omega) (fun c_61 => ?_) (fun c_61 => absurd c_61 (by omega))
        refine sv_iconst (nI 0) dX0_copyFrom_82 (by decide) ?_
        refine sv_istore_n (lv' := [(2, _), (0, _), (1, _)]) dX0_copyFrom_83 (by decide) rfl ?_
        refine sv_heap (h' := (cl_g G h g (cg_cc (cg_cc (cg_cc (cg_cc S S2 13 (8 * 4)) S2 45 (4 * 6)) S2 7 3) S2 0 0) x P B)) (congrArg (fun T => cl_g G h g T x P B) (cg_cc_0 _ _ _).symm) ?_
        refine sv_sub [0, 1, 2] rfl (sv_loop (pc := 84) (lv := fun c => [(2, .int (nI c)), (0, .ref g), (1, .ref g2)]) (hp := fun c => (cl_g G h g (cg_cc (cg_cc (cg_cc (cg_cc S S2 13 (8 * 4)) S2 45 (4 * 6)) S2 7 3) S2 0 c) x P B)) (I := fun c => True) (N := 3) (trivial) ?_ ?_)
        · intro hI_c
          show sm_V G _ _ _ _ _ _ [(2, .int (nI 3)), (0, .ref g), (1, .ref g2)] [] (cl_g G h g (cg_cc (cg_cc (cg_cc (cg_cc S S2 13 (8 * 4)) S2 45 (4 * 6)) S2 7 3) S2 0 3) x P B)
          refine sv_iload_n dX0_copyFrom_84 rfl ?_
          refine sv_iconst (nI 3) dX0_copyFrom_85 (by decide) ?_
          refine sv_icmpN_ge 107 dX0_copyFrom_86 (by decide) (by omega) (by omega) (fun c_86 => ?_) (fun c_86 => absurd c_86 (by omega))
          refine sv_aload_n dX0_copyFrom_107 rfl ?_
          refine sv_aload_n dX0_copyFrom_108 rfl ?_
          refine kg_g4 (hg_0 (hg_o H ha)) dX0_copyFrom_109 sf_X0_30 ?_
          refine kg_p4 dX0_copyFrom_112 sf_X0_30 ?_
          refine sv_aload_n dX0_copyFrom_115 rfl ?_
          refine sv_aload_n dX0_copyFrom_116 rfl ?_
          refine kg_g5 (hg_0 (hg_o H ha)) dX0_copyFrom_117 sf_X0_34 ?_
          refine kg_p5 dX0_copyFrom_120 sf_X0_34 ?_
          refine sv_aload_n dX0_copyFrom_123 rfl ?_
          refine sv_aload_n dX0_copyFrom_124 rfl ?_
          refine kg_g6 (hg_0 (hg_o H ha)) dX0_copyFrom_125 sf_X0_37 ?_
          refine kg_p6 dX0_copyFrom_128 sf_X0_37 ?_
          refine sv_aload_n dX0_copyFrom_131 rfl ?_
          refine sv_aload_n dX0_copyFrom_132 rfl ?_
          refine kg_g7 (hg_0 (hg_o H ha)) dX0_copyFrom_133 sf_X0_40 ?_
          refine kg_p7 dX0_copyFrom_136 sf_X0_40 ?_
          refine sv_aload_n dX0_copyFrom_139 rfl ?_
          refine sv_aload_n dX0_copyFrom_140 rfl ?_
          refine kg_g8 (hg_0 (hg_o H ha)) dX0_copyFrom_141 sf_X0_43 ?_
          refine kg_p8 dX0_copyFrom_144 sf_X0_43 ?_
          refine sv_aload_n dX0_copyFrom_147 rfl ?_
          refine sv_aload_n dX0_copyFrom_148 rfl ?_
          refine kg_g9 (hg_0 (hg_o H ha)) dX0_copyFrom_149 sf_X0_46 ?_
          refine kg_p9 dX0_copyFrom_152 sf_X0_46 ?_
          refine sv_aload_n dX0_copyFrom_155 rfl ?_
          refine sv_aload_n dX0_copyFrom_156 rfl ?_
          refine kg_g10 (hg_0 (hg_o H ha)) dX0_copyFrom_157 sf_X0_49 ?_
          refine kg_p10 dX0_copyFrom_160 sf_X0_49 ?_
          refine sv_aload_n dX0_copyFrom_163 rfl ?_
          refine sv_aload_n dX0_copyFrom_164 rfl ?_
          refine kg_g11 (hg_0 (hg_o H ha)) dX0_copyFrom_165 sf_X0_52 ?_
          refine kg_p11 dX0_copyFrom_168 sf_X0_52 ?_
          refine sv_vret dX0_copyFrom_171 rfl (Nat.le_refl _) (Nat.le_refl _) ?_
          exact ⟨rfl, gl_eqS (cg_cc_e S S2)⟩
        · intro c hn_c hI_c ih_c
          show sm_V G _ _ _ _ _ _ [(2, .int (nI c)), (0, .ref g), (1, .ref g2)] [] (cl_g G h g (cg_cc (cg_cc (cg_cc (cg_cc S S2 13 (8 * 4)) S2 45 (4 * 6)) S2 7 3) S2 0 c) x P B)
          refine sv_iload_n dX0_copyFrom_84 rfl ?_
          refine sv_iconst (nI 3) dX0_copyFrom_85 (by decide) ?_
          refine sv_icmpN_ge 107 dX0_copyFrom_86 (by decide) (by omega) (by omega) (fun c_86 => absurd c_86 (by omega)) (fun c_86 => ?_)
          refine sv_aload_n dX0_copyFrom_89 rfl ?_
          refine kg_g3 gl_0 dX0_copyFrom_90 sf_X0_27 ?_
          refine sv_iload_n dX0_copyFrom_93 rfl ?_
          refine sv_aload_n dX0_copyFrom_94 rfl ?_
          refine kg_g3 (hg_0 (hg_o H ha)) dX0_copyFrom_95 sf_X0_27 ?_
          refine sv_iload_n dX0_copyFrom_98 rfl ?_
          refine kg_lds (hg_4 (hg_o H ha)) dX0_copyFrom_99 (by omega) ?_
          refine kg_sts dX0_copyFrom_100 (by omega) ?_
          refine sv_heap (h' := (cl_g G h g (cg_cc (cg_cc (cg_cc (cg_cc S S2 13 (8 * 4)) S2 45 (4 * 6)) S2 7 3) S2 0 (c + 1)) x P B)) (congrArg (fun T => cl_g G h g T x P B) cg_cc_10) ?_
          refine sv_iinc1 (lv' := [(2, _), (0, _), (1, _)]) dX0_copyFrom_101 rfl (by decide) rfl ?_
          refine sv_goto 84 dX0_copyFrom_104 (by decide) ?_
          exact sv_sub [0, 1, 2] rfl (ih_c trivial)
      · intro k hn_k hI_k ih_k
        show sm_V G _ _ _ _ _ _ [(2, .int (nI k)), (0, .ref g), (1, .ref g2)] [] (cl_g G h g (cg_cc (cg_cc (cg_cc S S2 13 (8 * 4)) S2 45 (4 * 6)) S2 7 k) x P B)
        refine sv_iload_n dX0_copyFrom_59 rfl ?_
        refine sv_iconst (nI 3) dX0_copyFrom_60 (by decide) ?_
        refine sv_icmpN_ge 82 dX0_copyFrom_61 (by decide) (by omega) (by omega) (fun c_61 => absurd c_61 (by omega)) (fun c_61 => ?_)
        refine sv_aload_n dX0_copyFrom_64 rfl ?_
        refine kg_g2 gl_0 dX0_copyFrom_65 sf_X0_23 ?_
        refine sv_iload_n dX0_copyFrom_68 rfl ?_
        refine sv_aload_n dX0_copyFrom_69 rfl ?_
        refine kg_g2 (hg_0 (hg_o H ha)) dX0_copyFrom_70 sf_X0_23 ?_
        refine sv_iload_n dX0_copyFrom_73 rfl ?_
        refine kg_ldr (hg_3 (hg_o H ha)) dX0_copyFrom_74 (by omega) ?_
        refine kg_str dX0_copyFrom_75 (by omega) ?_
        refine sv_heap (h' := (cl_g G h g (cg_cc (cg_cc (cg_cc S S2 13 (8 * 4)) S2 45 (4 * 6)) S2 7 (k + 1)) x P B)) (congrArg (fun T => cl_g G h g T x P B) cg_cc_1) ?_
        refine sv_iinc1 (lv' := [(2, _), (0, _), (1, _)]) dX0_copyFrom_76 rfl (by decide) rfl ?_
        refine sv_goto 59 dX0_copyFrom_79 (by decide) ?_
        exact sv_sub [0, 1, 2] rfl (ih_k trivial)
    · intro q hn_q hI_q ih_q
      show sm_V G _ _ _ _ _ _ [(2, .int (nI q)), (0, .ref g), (1, .ref g2)] [] (cl_g G h g (cg_cc (cg_cc S S2 13 (8 * 4)) S2 45 (4 * q)) x P B)
      refine sv_iload_n dX0_copyFrom_30 rfl ?_
      refine sv_bipush (nI 6) dX0_copyFrom_31 (by decide) ?_
      refine sv_icmpN_ge 57 dX0_copyFrom_33 (by decide) (by omega) (by omega) (fun c_33 => absurd c_33 (by omega)) (fun c_33 => ?_)
      refine sv_aload_n dX0_copyFrom_36 rfl ?_
      refine kg_g1 gl_0 dX0_copyFrom_37 sf_X0_19 ?_
      refine sv_iload_n dX0_copyFrom_40 rfl ?_
      refine kg_ldq gl_2 dX0_copyFrom_41 (by omega) ?_
      refine sv_aload_n dX0_copyFrom_42 rfl ?_
      refine kg_g1 (hg_0 (hg_o H ha)) dX0_copyFrom_43 sf_X0_19 ?_
      refine sv_iload_n dX0_copyFrom_46 rfl ?_
      refine kg_ldq (hg_2 (hg_o H ha)) dX0_copyFrom_47 (by omega) ?_
      refine sv_callV (As := [_]) sc_X0_93 (k2_copyFrom (gl_pq (by omega)) (hg_pq (hg_o H ha) (by omega)) (by omega)) rfl rfl (Nat.le_of_ble_eq_true rfl) dX0_copyFrom_48 ⟨by decide, by decide⟩ ⟨Nat.le_refl _, Nat.le_refl _⟩ (Nat.le_of_ble_eq_true rfl) (gl_pq (by omega)).1 (List.cons_ne_nil _ _) rfl ?_
      refine sv_heap (gl_wq (by omega)) ?_
      refine sv_heap (gl_eqS cg_cc_q) ?_
      refine sv_iinc1 (lv' := [(2, _), (0, _), (1, _)]) dX0_copyFrom_51 rfl (by decide) rfl ?_
      refine sv_goto 30 dX0_copyFrom_54 (by decide) ?_
      exact sv_sub [0, 1, 2] rfl (ih_q trivial)
  · intro n hn hI ih
    show sm_V G _ _ _ _ _ _ [(2, .int (nI n)), (0, .ref g), (1, .ref g2)] [] (cl_g G h g (cg_cc S S2 13 (8 * n)) x P B)
    refine sv_iload_n dX0_copyFrom_2 rfl ?_
    refine sv_iconst (nI 4) dX0_copyFrom_3 (by decide) ?_
    refine sv_icmpN_ge 28 dX0_copyFrom_4 (by decide) (by omega) (by omega) (fun c_4 => absurd c_4 (by omega)) (fun c_4 => ?_)
    refine sv_aload_n dX0_copyFrom_7 rfl ?_
    refine kg_g0 gl_0 dX0_copyFrom_8 sf_X0_11 ?_
    refine sv_iload_n dX0_copyFrom_11 rfl ?_
    refine kg_ldp gl_1 dX0_copyFrom_12 (by omega) ?_
    refine sv_aload_n dX0_copyFrom_13 rfl ?_
    refine kg_g0 (hg_0 (hg_o H ha)) dX0_copyFrom_14 sf_X0_11 ?_
    refine sv_iload_n dX0_copyFrom_17 rfl ?_
    refine kg_ldp (hg_1 (hg_o H ha)) dX0_copyFrom_18 (by omega) ?_
    refine sv_callV (As := [_]) sc_X0_89 (k3_copyFrom (gl_pl (by omega)) (hg_pl (hg_o H ha) (by omega)) (by omega)) rfl rfl (Nat.le_of_ble_eq_true rfl) dX0_copyFrom_19 ⟨by decide, by decide⟩ ⟨Nat.le_refl _, Nat.le_refl _⟩ (Nat.le_of_ble_eq_true rfl) (gl_pl (by omega)).1 (List.cons_ne_nil _ _) rfl ?_
    refine sv_heap (gl_wp (by omega)) ?_
    refine sv_heap (gl_eqS cg_cc_p) ?_
    refine sv_iinc1 (lv' := [(2, _), (0, _), (1, _)]) dX0_copyFrom_22 rfl (by decide) rfl ?_
    refine sv_goto 2 dX0_copyFrom_25 (by decide) ?_
    exact sv_sub [0, 1, 2] rfl (ih trivial)
def cg_fp (n : Nat) : Nat := if n = 2 then 6 else 3
def cg_fs (n : Nat) : Nat := if n = 0 then 6 else if n = 1 then 1 else 2
theorem cg_fp_at : ∀ n, n < 3 → ([3, 3, 6] : List Int32).getD n 0 = nI (cg_fp n) := by decide
theorem cg_fs_at : ∀ n, n < 3 → ([6, 1, 2] : List Int32).getD n 0 = nI (cg_fs n) := by decide
/-- the class's new game: all four players begin, owners stay -/
def cg_new (S : gm_S) (p : Nat) (y : Int64) : gm_S := fun i => if i < 3 then S i else if i = 3 then p else if i = 5 then gm_die (gm_nx y) else if 7 ≤ i ∧ i < 10 then cg_fp (i - 7) else if i < 13 then 0 else if i < 45 then gm_b8 ((i - 13) % 8) else if (i - 45) % 4 = 0 then 0 else S i
/-- the first n players begin -/
def cg_b (S : gm_S) (n : Nat) : gm_S := fun i => if 13 ≤ i ∧ i < 13 + 8 * n then gm_b8 ((i - 13) % 8) else S i
theorem cg_b_0 (S : gm_S) : cg_b S 0 = S := by funext i; unfold cg_b; rw [if_neg (by omega)]
theorem cg_b_s {S : gm_S} {n : Nat} : ∀ i, i < 69 → cl_w (cg_b S n) n gm_b8 i = cg_b S (n + 1) i := by
  intro i hi; unfold cl_w cg_b
  by_cases e : 13 + 8 * n ≤ i ∧ i < 13 + 8 * n + 8
  · rw [if_pos e, if_pos (by omega), show (i - 13) % 8 = i - (13 + 8 * n) by omega]
  · rw [if_neg e]; split
    · rw [if_pos (by omega)]
    · rw [if_neg (by omega)]
/-- the first n prices, settings -/
def cg_pp (S : gm_S) (n : Nat) : gm_S := fun i => if 7 ≤ i ∧ i < 7 + n then cg_fp (i - 7) else S i
theorem cg_pp_0 (S : gm_S) : cg_pp S 0 = S := by funext i; unfold cg_pp; rw [if_neg (by omega)]
theorem cg_pp_s {S : gm_S} {n : Nat} : va_up (cg_pp S n) (7 + n) (cg_fp n) = cg_pp S (n + 1) := by
  funext i; unfold va_up cg_pp
  by_cases e : i = 7 + n
  · rw [if_pos e, if_pos (by omega), e, Nat.add_sub_cancel_left]
  · rw [if_neg e]; split
    · rw [if_pos (by omega)]
    · rw [if_neg (by omega)]
def cg_ss (S : gm_S) (n : Nat) : gm_S := fun i => if i < n then cg_fs i else S i
theorem cg_ss_0 (S : gm_S) : cg_ss S 0 = S := by funext i; unfold cg_ss; rw [if_neg (by omega)]
theorem cg_ss_s {S : gm_S} {n : Nat} : va_up (cg_ss S n) n (cg_fs n) = cg_ss S (n + 1) := by
  funext i; unfold va_up cg_ss; (repeat' split) <;> first | rfl | omega | (subst_vars; rfl)
theorem cg_new_e {S : gm_S} {p : Nat} {y : Int64} : ∀ i, i < 69 → va_up (cg_pp (cg_z (cg_b (va_up (va_up (va_up (va_up (va_up (va_up S 3 p) 4 0) 10 0) 6 0) 11 0) 12 0) 4) 6) 3) 5 (gm_die (gm_nx y)) i = cg_new S p y i := by
  intro i hi; simp only [va_up, cg_pp, cg_z, cg_b, cg_new]; (repeat' split) <;> first | rfl | omega
theorem k0_startGame {y : Int64} : sm_F G mX0_startGame 2 [.ref g, .int (nI p), .long y] (cl_g G h g S x P B) (.inl none) (cl_g G h g (cg_new S p y) (gm_nx y) P B) := by
  unfold sm_F sm_C
  show sm_V G _ _ _ 0 0 0 [(0, .ref g), (1, .int (nI p)), (2, .long y)] [] _
  refine sv_aload_n dX0_startGame_0 rfl ?_
  refine sv_iload_n dX0_startGame_1 rfl ?_
  refine kg_p4 dX0_startGame_2 sf_X0_30 ?_
  refine sv_aload_n dX0_startGame_5 rfl ?_
  refine sv_iconst (nI 0) dX0_startGame_6 (by decide) ?_
  refine kg_p5 dX0_startGame_7 sf_X0_34 ?_
  refine sv_aload_n dX0_startGame_10 rfl ?_
  refine sv_iconst (nI 0) dX0_startGame_11 (by decide) ?_
  refine kg_p6 dX0_startGame_12 sf_X0_37 ?_
  refine sv_aload_n dX0_startGame_15 rfl ?_
  refine sv_iconst (nI 0) dX0_startGame_16 (by decide) ?_
  refine kg_p8 dX0_startGame_17 sf_X0_43 ?_
  refine sv_aload_n dX0_startGame_20 rfl ?_
  refine sv_iconst (nI 0) dX0_startGame_21 (by decide) ?_
  refine kg_p9 dX0_startGame_22 sf_X0_46 ?_
  refine sv_aload_n dX0_startGame_25 rfl ?_
  refine sv_iconst (nI 0) dX0_startGame_26 (by decide) ?_
  refine kg_p10 dX0_startGame_27 sf_X0_49 ?_
  refine sv_iconst (nI 0) dX0_startGame_30 (by decide) ?_
  refine sv_istore (lv' := [(4, _), (0, _), (1, _), (2, _)]) dX0_startGame_31 (by decide) rfl ?_
  refine sv_heap (h' := (cl_g G h g (cg_b (va_up (va_up (va_up (va_up (va_up (va_up S 3 p) 4 0) 10 0) 6 0) 11 0) 12 0) 0) x P B)) (congrArg (fun T => cl_g G h g T x P B) (cg_b_0 _).symm) ?_
  refine sv_sub [0, 1, 3] rfl (sv_loop (pc := 33) (lv := fun n => [(4, .int (nI n)), (0, .ref g), (2, .long y)]) (hp := fun n => (cl_g G h g (cg_b (va_up (va_up (va_up (va_up (va_up (va_up S 3 p) 4 0) 10 0) 6 0) 11 0) 12 0) n) x P B)) (I := fun n => True) (N := 4) (trivial) ?_ ?_)
  · intro hI
    show sm_V G _ _ _ _ _ _ [(4, .int (nI 4)), (0, .ref g), (2, .long y)] [] (cl_g G h g (cg_b (va_up (va_up (va_up (va_up (va_up (va_up S 3 p) 4 0) 10 0) 6 0) 11 0) 12 0) 4) x P B)
    refine sv_iload dX0_startGame_33 rfl ?_
    refine sv_iconst (nI 4) dX0_startGame_35 (by decide) ?_
    refine sv_icmpN_ge 55 dX0_startGame_36 (by decide) (by omega) (by omega) (fun c_36 => ?_) (fun c_36 => absurd c_36 (by omega))
    refine sv_iconst (nI 0) dX0_startGame_55 (by decide) ?_
    refine sv_istore (lv' := [(4, _), (0, _), (2, _)]) dX0_startGame_56 (by decide) rfl ?_
    refine sv_heap (h' := (cl_g G h g (cg_z (cg_b (va_up (va_up (va_up (va_up (va_up (va_up S 3 p) 4 0) 10 0) 6 0) 11 0) 12 0) 4) 0) x P B)) (congrArg (fun T => cl_g G h g T x P B) (cg_z_0 _).symm) ?_
    refine sv_sub [0, 1, 2] rfl (sv_loop (pc := 58) (lv := fun q => [(4, .int (nI q)), (0, .ref g), (2, .long y)]) (hp := fun q => (cl_g G h g (cg_z (cg_b (va_up (va_up (va_up (va_up (va_up (va_up S 3 p) 4 0) 10 0) 6 0) 11 0) 12 0) 4) q) x P B)) (I := fun q => True) (N := 6) (trivial) ?_ ?_)
    · intro hI_q
      show sm_V G _ _ _ _ _ _ [(4, .int (nI 6)), (0, .ref g), (2, .long y)] [] (cl_g G h g (cg_z (cg_b (va_up (va_up (va_up (va_up (va_up (va_up S 3 p) 4 0) 10 0) 6 0) 11 0) 12 0) 4) 6) x P B)
      refine sv_iload dX0_startGame_58 rfl ?_
      refine sv_bipush (nI 6) dX0_startGame_60 (by decide) ?_
      refine sv_icmpN_ge 82 dX0_startGame_62 (by decide) (by omega) (by omega) (fun c_62 => ?_) (fun c_62 => absurd c_62 (by omega))
      refine sv_iconst (nI 0) dX0_startGame_82 (by decide) ?_
      refine sv_istore (lv' := [(4, _), (0, _), (2, _)]) dX0_startGame_83 (by decide) rfl ?_
      refine sv_heap (h' := (cl_g G h g (cg_pp (cg_z (cg_b (va_up (va_up (va_up (va_up (va_up (va_up S 3 p) 4 0) 10 0) 6 0) 11 0) 12 0) 4) 6) 0) x P B)) (congrArg (fun T => cl_g G h g T x P B) (cg_pp_0 _).symm) ?_
      refine sv_sub [0, 1, 2] rfl (sv_loop (pc := 85) (lv := fun k => [(4, .int (nI k)), (0, .ref g), (2, .long y)]) (hp := fun k => (cl_g G h g (cg_pp (cg_z (cg_b (va_up (va_up (va_up (va_up (va_up (va_up S 3 p) 4 0) 10 0) 6 0) 11 0) 12 0) 4) 6) k) x P B)) (I := fun k => True) (N := 3) (trivial) ?_ ?_)
      · intro hI_k
        show sm_V G _ _ _ _ _ _ [(4, .int (nI 3)), (0, .ref g), (2, .long y)] [] (cl_g G h g (cg_pp (cg_z (cg_b (va_up (va_up (va_up (va_up (va_up (va_up S 3 p) 4 0) 10 0) 6 0) 11 0) 12 0) 4) 6) 3) x P B)
        refine sv_iload dX0_startGame_85 rfl ?_
        refine sv_iconst (nI 3) dX0_startGame_87 (by decide) ?_
        refine sv_icmpN_ge 110 dX0_startGame_88 (by decide) (by omega) (by omega) (fun c_88 => ?_) (fun c_88 => absurd c_88 (by omega))
        refine sv_aload_n dX0_startGame_110 rfl ?_
        refine sv_lload_n dX0_startGame_111 rfl ?_
        refine sv_callSN (As := [_]) sc_X0_81 (k5_nextX) rfl rfl (Nat.le_of_ble_eq_true rfl) dX0_startGame_112 ⟨by decide, by decide⟩ ⟨Nat.le_refl _, Nat.le_refl _⟩ (Nat.le_of_ble_eq_true rfl) ?_
        refine kg_p11 dX0_startGame_115 sf_X0_52 ?_
        refine sv_aload_n dX0_startGame_118 rfl ?_
        refine sv_aload_n dX0_startGame_119 rfl ?_
        refine kg_g11 gl_0 dX0_startGame_120 sf_X0_52 ?_
        refine sv_callSN (As := [_]) sc_X0_85 (k5_weatherOf) rfl rfl (Nat.le_of_ble_eq_true rfl) dX0_startGame_123 ⟨by decide, by decide⟩ ⟨Nat.le_refl _, Nat.le_refl _⟩ (Nat.le_of_ble_eq_true rfl) ?_
        refine kg_p7 dX0_startGame_126 sf_X0_40 ?_
        refine sv_vret dX0_startGame_129 rfl (Nat.le_refl _) (Nat.le_refl _) ?_
        exact ⟨rfl, gl_eqS cg_new_e⟩
      · intro k hn_k hI_k ih_k
        show sm_V G _ _ _ _ _ _ [(4, .int (nI k)), (0, .ref g), (2, .long y)] [] (cl_g G h g (cg_pp (cg_z (cg_b (va_up (va_up (va_up (va_up (va_up (va_up S 3 p) 4 0) 10 0) 6 0) 11 0) 12 0) 4) 6) k) x P B)
        refine sv_iload dX0_startGame_85 rfl ?_
        refine sv_iconst (nI 3) dX0_startGame_87 (by decide) ?_
        refine sv_icmpN_ge 110 dX0_startGame_88 (by decide) (by omega) (by omega) (fun c_88 => absurd c_88 (by omega)) (fun c_88 => ?_)
        refine sv_aload_n dX0_startGame_91 rfl ?_
        refine kg_g2 gl_0 dX0_startGame_92 sf_X0_23 ?_
        refine sv_iload dX0_startGame_95 rfl ?_
        refine sv_getsN 6 rfl dX0_startGame_97 sg_X0_78 ?_
        refine sv_iload dX0_startGame_100 rfl ?_
        refine sv_sald (v := nI (cg_fp k)) 6 rfl dX0_startGame_102 (vp_in_nI (by show k < 3; omega) (by decide)) (by rw [nI_clamp (by omega)]; exact cg_fp_at k (by omega)) ?_
        refine kg_str dX0_startGame_103 (by omega) ?_
        refine sv_heap (h' := (cl_g G h g (cg_pp (cg_z (cg_b (va_up (va_up (va_up (va_up (va_up (va_up S 3 p) 4 0) 10 0) 6 0) 11 0) 12 0) 4) 6) (k + 1)) x P B)) (congrArg (fun T => cl_g G h g T x P B) cg_pp_s) ?_
        refine sv_iinc1 (lv' := [(4, _), (0, _), (2, _)]) dX0_startGame_104 rfl (by decide) rfl ?_
        refine sv_goto 85 dX0_startGame_107 (by decide) ?_
        exact sv_sub [0, 1, 2] rfl (ih_k trivial)
    · intro q hn_q hI_q ih_q
      show sm_V G _ _ _ _ _ _ [(4, .int (nI q)), (0, .ref g), (2, .long y)] [] (cl_g G h g (cg_z (cg_b (va_up (va_up (va_up (va_up (va_up (va_up S 3 p) 4 0) 10 0) 6 0) 11 0) 12 0) 4) q) x P B)
      refine sv_iload dX0_startGame_58 rfl ?_
      refine sv_bipush (nI 6) dX0_startGame_60 (by decide) ?_
      refine sv_icmpN_ge 82 dX0_startGame_62 (by decide) (by omega) (by omega) (fun c_62 => absurd c_62 (by omega)) (fun c_62 => ?_)
      refine sv_aload_n dX0_startGame_65 rfl ?_
      refine kg_g1 gl_0 dX0_startGame_66 sf_X0_19 ?_
      refine sv_iload dX0_startGame_69 rfl ?_
      refine kg_ldq gl_2 dX0_startGame_71 (by omega) ?_
      refine sv_iconst (nI 0) dX0_startGame_72 (by decide) ?_
      refine kgq_p1 (by omega) dX0_startGame_73 sf_X0_77 ?_
      refine sv_heap (h' := (cl_g G h g (cg_z (cg_b (va_up (va_up (va_up (va_up (va_up (va_up S 3 p) 4 0) 10 0) 6 0) 11 0) 12 0) 4) (q + 1)) x P B)) (gl_eqS (cg_z_s _ q)) ?_
      refine sv_iinc1 (lv' := [(4, _), (0, _), (2, _)]) dX0_startGame_76 rfl (by decide) rfl ?_
      refine sv_goto 58 dX0_startGame_79 (by decide) ?_
      exact sv_sub [0, 1, 2] rfl (ih_q trivial)
  · intro n hn hI ih
    show sm_V G _ _ _ _ _ _ [(4, .int (nI n)), (0, .ref g), (2, .long y)] [] (cl_g G h g (cg_b (va_up (va_up (va_up (va_up (va_up (va_up S 3 p) 4 0) 10 0) 6 0) 11 0) 12 0) n) x P B)
    refine sv_iload dX0_startGame_33 rfl ?_
    refine sv_iconst (nI 4) dX0_startGame_35 (by decide) ?_
    refine sv_icmpN_ge 55 dX0_startGame_36 (by decide) (by omega) (by omega) (fun c_36 => absurd c_36 (by omega)) (fun c_36 => ?_)
    refine sv_aload_n dX0_startGame_39 rfl ?_
    refine kg_g0 gl_0 dX0_startGame_40 sf_X0_11 ?_
    refine sv_iload dX0_startGame_43 rfl ?_
    refine kg_ldp gl_1 dX0_startGame_45 (by omega) ?_
    refine sv_callV (As := []) sc_X0_74 (k3_clear (gl_pl (by omega))) rfl rfl (Nat.le_of_ble_eq_true rfl) dX0_startGame_46 ⟨by decide, by decide⟩ ⟨Nat.le_refl _, Nat.le_refl _⟩ (Nat.le_of_ble_eq_true rfl) (gl_pl (by omega)).1 (List.cons_ne_nil _ _) rfl ?_
    refine sv_heap (gl_wp (by omega)) ?_
    refine sv_heap (gl_eqS cg_b_s) ?_
    refine sv_iinc1 (lv' := [(4, _), (0, _), (2, _)]) dX0_startGame_49 rfl (by decide) rfl ?_
    refine sv_goto 33 dX0_startGame_52 (by decide) ?_
    exact sv_sub [0, 1, 2] rfl (ih trivial)
theorem k0_clearAll  : sm_F G mX0_clearAll 0 [.ref g] (cl_g G h g S x P B) (.inl none) (cl_g G h g (va_up (cg_ss S 3) 3 0) x P B) := by
  unfold sm_F sm_C
  show sm_V G _ _ _ 0 0 0 [(0, .ref g)] [] _
  refine sv_iconst (nI 0) dX0_clearAll_0 (by decide) ?_
  refine sv_istore_n (lv' := [(1, _), (0, _)]) dX0_clearAll_1 (by decide) rfl ?_
  refine sv_heap (h' := (cl_g G h g (cg_ss S 0) x P B)) (congrArg (fun T => cl_g G h g T x P B) (cg_ss_0 _).symm) ?_
  refine sv_sub [0, 1] rfl (sv_loop (pc := 2) (lv := fun k => [(1, .int (nI k)), (0, .ref g)]) (hp := fun k => (cl_g G h g (cg_ss S k) x P B)) (I := fun k => True) (N := 3) (trivial) ?_ ?_)
  · intro hI_k
    show sm_V G _ _ _ _ _ _ [(1, .int (nI 3)), (0, .ref g)] [] (cl_g G h g (cg_ss S 3) x P B)
    refine sv_iload_n dX0_clearAll_2 rfl ?_
    refine sv_iconst (nI 3) dX0_clearAll_3 (by decide) ?_
    refine sv_icmpN_ge 24 dX0_clearAll_4 (by decide) (by omega) (by omega) (fun c_4 => ?_) (fun c_4 => absurd c_4 (by omega))
    refine sv_aload_n dX0_clearAll_24 rfl ?_
    refine sv_iconst (nI 0) dX0_clearAll_25 (by decide) ?_
    refine kg_p4 dX0_clearAll_26 sf_X0_30 ?_
    refine sv_vret dX0_clearAll_29 rfl (Nat.le_refl _) (Nat.le_refl _) ?_
    exact ⟨rfl, rfl⟩
  · intro k hn_k hI_k ih_k
    show sm_V G _ _ _ _ _ _ [(1, .int (nI k)), (0, .ref g)] [] (cl_g G h g (cg_ss S k) x P B)
    refine sv_iload_n dX0_clearAll_2 rfl ?_
    refine sv_iconst (nI 3) dX0_clearAll_3 (by decide) ?_
    refine sv_icmpN_ge 24 dX0_clearAll_4 (by decide) (by omega) (by omega) (fun c_4 => absurd c_4 (by omega)) (fun c_4 => ?_)
    refine sv_aload_n dX0_clearAll_7 rfl ?_
    refine kg_g3 gl_0 dX0_clearAll_8 sf_X0_27 ?_
    refine sv_iload_n dX0_clearAll_11 rfl ?_
    refine sv_getsN 2 rfl dX0_clearAll_12 sg_X0_71 ?_
    refine sv_iload_n dX0_clearAll_15 rfl ?_
    refine sv_sald (v := nI (cg_fs k)) 2 rfl dX0_clearAll_16 (vp_in_nI (by show k < 3; omega) (by decide)) (by rw [nI_clamp (by omega)]; exact cg_fs_at k (by omega)) ?_
    refine kg_sts dX0_clearAll_17 (by omega) ?_
    refine sv_heap (h' := (cl_g G h g (cg_ss S (k + 1)) x P B)) (congrArg (fun T => cl_g G h g T x P B) cg_ss_s) ?_
    refine sv_iinc1 (lv' := [(1, _), (0, _)]) dX0_clearAll_18 rfl (by decide) rfl ?_
    refine sv_goto 2 dX0_clearAll_21 (by decide) ?_
    exact sv_sub [0, 1] rfl (ih_k trivial)
theorem cg_los {p q : Nat} (hq : q < 3) : cl_r S p (1 + q) - cp_en (cl_r S p) (S 5) (1 + q) = gm_loss S p q ∧ cp_en (cl_r S p) (S 5) (1 + q) ≤ cl_r S p (1 + q) := by
  have l1 := gm_ls_le S p; have l2 := gm_lf_le S p; have l3 := gm_lc_le S p
  rcases (show q = 0 ∨ q = 1 ∨ q = 2 by omega) with rfl | rfl | rfl
  · show S (13 + 8 * p + 1) - (S (13 + 8 * p + 1) - gm_ls S p) = gm_ls S p ∧ S (13 + 8 * p + 1) - gm_ls S p ≤ S (13 + 8 * p + 1); omega
  · show S (13 + 8 * p + 2) - (S (13 + 8 * p + 2) - gm_lf S p) = gm_lf S p ∧ S (13 + 8 * p + 2) - gm_lf S p ≤ S (13 + 8 * p + 2); omega
  · show S (13 + 8 * p + 3) - (S (13 + 8 * p + 3) - gm_lc S p) = gm_lc S p ∧ S (13 + 8 * p + 3) - gm_lc S p ≤ S (13 + 8 * p + 3); omega
theorem k0_lossOf (hI : gm_I K S) (hp : p < 4) (hq : q < 3) : sm_F G mX0_lossOf 1 [.ref g, .int (nI p), .int (nI q)] (cl_g G h g S x P B) (.inl (some (.int (nI (gm_loss S p q))))) (cl_g G h g S x (cp_en (cl_r S p) (S 5)) B) := by
  unfold sm_F sm_C
  show sm_V G _ _ _ 0 0 0 [(0, .ref g), (1, .int (nI p)), (2, .int (nI q))] [] _
  obtain ⟨d3, d6, d0, d1, d2, d4, dK⟩ := cg_d hI
  have kk := hI.2.1; have k5 := kk 5 (by omega) (by omega)
  have f1 : cl_r S p 1 < 2 ^ 28 := (by show S (13 + 8 * p + 1) < _; have := kk (13 + 8 * p + 1) (by omega) (by omega); omega)
  have f2 : cl_r S p 2 < 2 ^ 28 := (by show S (13 + 8 * p + 2) < _; have := kk (13 + 8 * p + 2) (by omega) (by omega); omega)
  have f3 : cl_r S p 3 < 2 ^ 28 := (by show S (13 + 8 * p + 3) < _; have := kk (13 + 8 * p + 3) (by omega) (by omega); omega)
  have f4 : cl_r S p 4 < 2 ^ 28 := (by show S (13 + 8 * p + 4) < _; have := kk (13 + 8 * p + 4) (by omega) (by omega); omega)
  refine sv_aload_n dX0_lossOf_0 rfl ?_
  refine kg_g12 gl_0 dX0_lossOf_1 sf_X0_57 ?_
  refine sv_aload_n dX0_lossOf_4 rfl ?_
  refine kg_g0 gl_0 dX0_lossOf_5 sf_X0_11 ?_
  refine sv_iload_n dX0_lossOf_8 rfl ?_
  refine kg_ldp gl_1 dX0_lossOf_9 (by omega) ?_
  refine sv_callV (As := [_]) sc_X0_89 (k3_copyFrom gl_af (gl_pl (by omega)) (by omega)) rfl rfl (Nat.le_of_ble_eq_true rfl) dX0_lossOf_10 ⟨by decide, by decide⟩ ⟨Nat.le_refl _, Nat.le_refl _⟩ (Nat.le_of_ble_eq_true rfl) gl_af.1 (List.cons_ne_nil _ _) rfl ?_
  refine sv_heap gl_wa ?_
  refine sv_aload_n dX0_lossOf_13 rfl ?_
  refine kg_g12 gl_0 dX0_lossOf_14 sf_X0_57 ?_
  refine sv_aload_n dX0_lossOf_17 rfl ?_
  refine kg_g7 gl_0 dX0_lossOf_18 sf_X0_40 ?_
  refine sv_callV (As := [_]) sc_X0_193 (k3_loseGoods gl_af (by omega) f1 f2 f3 f4) rfl rfl (Nat.le_of_ble_eq_true rfl) dX0_lossOf_21 ⟨by decide, by decide⟩ ⟨Nat.le_refl _, Nat.le_refl _⟩ (Nat.le_of_ble_eq_true rfl) gl_af.1 (List.cons_ne_nil _ _) rfl ?_
  refine sv_heap gl_wa ?_
  refine sv_pop dX0_lossOf_24 rfl ?_
  refine sv_aload_n dX0_lossOf_25 rfl ?_
  refine kg_g0 gl_0 dX0_lossOf_26 sf_X0_11 ?_
  refine sv_iload_n dX0_lossOf_29 rfl ?_
  refine kg_ldp gl_1 dX0_lossOf_30 (by omega) ?_
  refine kp_g0 (gl_pl (by omega)) dX0_lossOf_31 sf_X0_196 ?_
  refine sv_iload_n dX0_lossOf_34 rfl ?_
  refine kp_ld (gl_pl (by omega)) dX0_lossOf_35 (by omega) ?_
  refine sv_aload_n dX0_lossOf_36 rfl ?_
  refine kg_g12 gl_0 dX0_lossOf_37 sf_X0_57 ?_
  refine kp_g0 gl_af dX0_lossOf_40 sf_X0_196 ?_
  refine sv_iload_n dX0_lossOf_43 rfl ?_
  refine kp_ld gl_af dX0_lossOf_44 (by omega) ?_
  obtain ⟨l1, l2⟩ := cg_los (S := S) (p := p) hq
  refine sv_isubN dX0_lossOf_45 l2 ?_
  refine sv_iret dX0_lossOf_46 rfl rfl (Nat.le_refl _) (Nat.le_refl _) ?_
  exact ⟨ri (cg_los hq).1, rfl⟩
end CP5
