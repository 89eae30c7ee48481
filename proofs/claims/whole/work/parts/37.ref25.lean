section SR25
variable {G : sm_G} {h : sm_H} {m : Nat} {F : Nat → Int32} {X : Nat → Int64} {A : Nat → Nat → Int32} {L : Nat → Nat → Int64} {S : Nat → Nat} {K : Nat}
/-! turns by lot -/
theorem gm_sim_I {z : Bool} {x : Int64} {r : Nat} (hI : gm_I K S) (hon : gm_on S = true) (hK : K + 40 < 2 ^ 26) (hK9 : 12 ≤ K) : gm_I (K + 40) (gm_sim z S x r).1 := by
  obtain ⟨a, b, d⟩ := gm_s_ch r
  unfold gm_sim
  split
  · exact gm_I_up (gm_pass_I hI hon hK9) (by omega) hK
  split
  · rename_i h; exact gm_put_I hI a b d h hK hK9
  · exact gm_play_I hI hon hK hK9
theorem gm_sim_69 {z : Bool} {x : Int64} {r : Nat} (hI : gm_I K S) (hon : gm_on S = true) (hK : K + 40 < 2 ^ 26) (hK9 : 12 ≤ K) : ∀ i, 69 ≤ i → (gm_sim z S x r).1 i = S i := by
  obtain ⟨a, b, d⟩ := gm_s_ch r
  unfold gm_sim
  split
  · exact gm_pass_69 hI hon hK9
  split
  · rename_i h; exact gm_put_69 hI a b d h hK hK9
  · exact gm_play_69 hI hon hK hK9
def gm_siN (z : Bool) : Nat → gm_S → Int64 → Int64 → gm_S × Int64
  | 0, S, x, _ => (S, x)
  | f + 1, S, x, y => if gm_on S = true then gm_siN z f (gm_sim z S x (gm_r (gm_nx y))).1 (gm_sim z S x (gm_r (gm_nx y))).2 (gm_nx y) else (S, x)
theorem gm_siN_s {z : Bool} {f : Nat} {x y : Int64} (h : gm_on S = true) : gm_siN z (f + 1) S x y = gm_siN z f (gm_sim z S x (gm_r (gm_nx y))).1 (gm_sim z S x (gm_r (gm_nx y))).2 (gm_nx y) := by
  rw [gm_siN, if_pos h]
/-- i, the lot, and what the reference holds -/
abbrev gm_Ss : Type := Nat × Int64 × gm_Gs
def gm_si (K n : Nat) (F : Nat → Int32) (X : Nat → Int64) (A : Nat → Nat → Int32) (S : gm_S) (R : gm_S × Int64) (s : gm_Ss) : Prop :=
  s.1 ≤ n ∧ gm_ag F X A s.2.2.1 s.2.2.2.1 s.2.2.2.2.1 ∧ (∀ i, 69 ≤ i → s.2.2.2.2.2.1 i = S i) ∧ gm_I (K + 40 * s.1) s.2.2.2.2.2.1 ∧ gm_siN false (n - s.1) s.2.2.2.2.2.1 s.2.2.2.2.2.2 s.2.1 = R
theorem gm_si_e {n : Nat} {R : gm_S × Int64} {s : gm_Ss} (h : gm_si K n F X A S R s) (he : n ≤ s.1 ∨ gm_on s.2.2.2.2.2.1 = false) : R = (s.2.2.2.2.2.1, s.2.2.2.2.2.2) := by
  obtain ⟨a, b, c, d, e⟩ := h
  rw [← e]
  rcases he with he | he
  · rw [show n - s.1 = 0 by omega]; rfl
  · cases n - s.1 with
    | zero => rfl
    | succ f => unfold gm_siN; rw [if_neg (ne_t he)]
theorem gm_si_s {n : Nat} {R : gm_S × Int64} {s : gm_Ss} {F1 : Nat → Int32} {X1 : Nat → Int64} {A1 : Nat → Nat → Int32} {y2 : Int64} {r2 : Nat} {T2 : gm_S × Int64} (h : gm_si K n F X A S R s) (hn : s.1 < n) (hn2 : n ≤ 80) (hon : gm_on s.2.2.2.2.2.1 = true) (hK : K + 60000 < 2 ^ 26) (hK9 : 12 ≤ K) (ha : gm_ag F X A F1 X1 A1) (hy : gm_nx s.2.1 = y2) (hr : gm_r y2 = r2) (hT : gm_sim false s.2.2.2.2.2.1 s.2.2.2.2.2.2 r2 = T2) :
    gm_si K n F X A S R (s.1 + 1, y2, F1, X1, A1, T2.1, T2.2) := by
  obtain ⟨a, b, c, d, e⟩ := h
  have e2 := e
  rw [show n - s.1 = n - (s.1 + 1) + 1 by omega, gm_siN_s hon, hy, hr, hT] at e2
  have i2 : gm_I (K + 40 * (s.1 + 1)) T2.1 := by
    rw [← hT, show K + 40 * (s.1 + 1) = K + 40 * s.1 + 40 by omega]; exact gm_sim_I d hon (by omega) (by omega)
  have i3 : ∀ i, 69 ≤ i → T2.1 i = S i := fun i hi => by rw [← hT]; exact (gm_sim_69 d hon (by omega) (by omega) i hi).trans (c i hi)
  exact ⟨hn, ha, i3, i2, e2⟩
theorem gm_sim3 (S : gm_S) (r : Nat) : r % 8 = 7 ∨ (r % 8 ≠ 7 ∧ gm_can S (gm_sq r) (gm_sc r) = true) ∨ (r % 8 ≠ 7 ∧ gm_can S (gm_sq r) (gm_sc r) = false) := by
  by_cases h : r % 8 = 7
  · exact .inl h
  · cases e : gm_can S (gm_sq r) (gm_sc r) with
    | true => exact .inr (.inl ⟨h, rfl⟩)
    | false => exact .inr (.inr ⟨h, rfl⟩)
def gm_sR (v : Int32) (S : gm_S) : Nat → Int32
  | 0 => v
  | n + 1 => gm_sR v S n + nI (gm_tot S n)
/-- what is told of the turns by lot -/
def gm_sians (S T : gm_S) : Int32 := gm_sR (nI 1000 * (nI (T 11) - nI (S 11))) T (T 3)
theorem c6_simulate0 {y : Int64} {w : Int32} (hw : gm_in (nI 1) w (nI 80) = false) : sm_F G mX6_simulate 1 [.ref m, .long y, .int w] (sm_om G h m F X (sm_as A S) L) (.inl (some (.int (nI 0)))) (sm_om G h m (va_up F 0 (nI 1)) X (sm_as A S) L) := by
  unfold sm_F sm_C
  show sm_V G _ _ _ 0 0 0 [(0, .ref m), (1, .long y), (3, .int w)] [] _
  refine sv_aload_n dX6_simulate_0 rfl ?_
  refine sv_iconst (nI 0) dX6_simulate_1 (by decide) ?_
  refine rm_put0 rfl dX6_simulate_2 ?_
  refine sv_iload_n dX6_simulate_5 rfl ?_
  refine sv_iconst (nI 1) dX6_simulate_6 (by decide) ?_
  refine sv_bipush (nI 80) dX6_simulate_7 (by decide) ?_
  refine sv_callS (As := [_, _, _]) sc_X6_53 (c6_inG) rfl rfl (Nat.le_of_ble_eq_true rfl) dX6_simulate_9 ⟨by decide, by decide⟩ ⟨Nat.le_refl _, Nat.le_refl _⟩ (Nat.le_of_ble_eq_true rfl) ?_
  refine sv_ifN_ne 21 dX6_simulate_12 (by decide) (by first | omega | (have z := b2n_lt (gm_in (nI 1) w (nI 80)); omega)) (fun c_12 => absurd c_12 (fun z => z ((b2n_0 _).mpr hw))) (fun c_12 => ?_)
  refine sv_aload_n dX6_simulate_15 rfl ?_
  refine sv_iconst (nI 1) dX6_simulate_16 (by decide) ?_
  refine sv_callV (As := [_]) sc_X6_167 (c6_fails) rfl rfl (Nat.le_of_ble_eq_true rfl) dX6_simulate_17 ⟨by decide, by decide⟩ ⟨Nat.le_refl _, Nat.le_refl _⟩ (Nat.le_of_ble_eq_true rfl) om_0 (List.cons_ne_nil _ _) rfl ?_
  refine sv_iret dX6_simulate_20 rfl rfl (Nat.le_refl _) (Nat.le_refl _) ?_
  exact ⟨rfl, om_FXAL (up_up _ _ _ _) rfl rfl rfl⟩
theorem c6_simulateK {x y : Int64} {n : Nat} (hI : gm_I K S) (hK : K + 60000 < 2 ^ 26) (hK9 : 12 ≤ K) (hn1 : 1 ≤ n) (hn2 : n ≤ 80) : sm_C G mX6_simulate 8 0 0 [.ref m, .long y, .int (nI n)] (sm_om G h m F (va_up X 2 x) (sm_as A S) L) (fun r1 h1 => r1 = .inl (some (.int (gm_sians S (gm_siN false n S x y).1))) ∧ ∃ F1 X1 A1, gm_ag (va_up F 0 (nI 0)) (va_up X 14 x) (gm_kp A S 69) F1 X1 A1 ∧ h1 = sm_om G h m F1 (va_up X1 2 x) (sm_as A1 S) L) := by
  unfold sm_C
  show sm_V G _ _ _ 0 0 0 [(0, .ref m), (1, .long y), (3, .int (nI n))] [] _
  refine sv_aload_n dX6_simulate_0 rfl ?_
  refine sv_iconst (nI 0) dX6_simulate_1 (by decide) ?_
  refine rm_put0 rfl dX6_simulate_2 ?_
  refine sv_iload_n dX6_simulate_5 rfl ?_
  refine sv_iconst (nI 1) dX6_simulate_6 (by decide) ?_
  refine sv_bipush (nI 80) dX6_simulate_7 (by decide) ?_
  refine sv_callS (As := [_, _, _]) sc_X6_53 (c6_in (by omega) (by omega) (by omega)) rfl rfl (Nat.le_of_ble_eq_true rfl) dX6_simulate_9 ⟨by decide, by decide⟩ ⟨Nat.le_refl _, Nat.le_refl _⟩ (Nat.le_of_ble_eq_true rfl) ?_
  refine sv_ifN_ne 21 dX6_simulate_12 (by decide) (by first | omega | exact Nat.lt_trans (b2n_lt _) (by decide)) (fun c_12 => ?_) (fun c_12 => absurd c_12 (by rw [b2n_0, decide_eq_false_iff_not]; omega))
  refine sv_aload_n dX6_simulate_21 rfl ?_
  refine sv_callV (As := []) sc_X6_236 (c6_keeps) rfl rfl (Nat.le_of_ble_eq_true rfl) dX6_simulate_22 ⟨by decide, by decide⟩ ⟨Nat.le_refl _, Nat.le_refl _⟩ (Nat.le_of_ble_eq_true rfl) om_0 (List.cons_ne_nil _ _) rfl ?_
  refine sv_lload_n dX6_simulate_25 rfl ?_
  refine sv_lstore (lv' := [(4, _), (0, _), (1, _), (3, _)]) dX6_simulate_26 (by decide) rfl ?_
  refine sv_aload_n dX6_simulate_28 rfl ?_
  refine rm_get1 rfl dX6_simulate_29 ?_
  refine sv_bipush (nI 11) dX6_simulate_32 (by decide) ?_
  refine rm_ld1N dX6_simulate_34 (by first | omega | exact Nat.lt_trans (b2n_lt _) (by decide)) ?_
  refine sv_istore (lv' := [(6, _), (4, _), (0, _), (1, _), (3, _)]) dX6_simulate_35 (by decide) rfl ?_
  refine sv_iconst (nI 0) dX6_simulate_37 (by decide) ?_
  refine sv_istore (lv' := [(7, _), (6, _), (4, _), (0, _), (1, _), (3, _)]) dX6_simulate_38 (by decide) rfl ?_
  refine sv_heap (h' := (sm_om G h m (va_up F 0 (nI 0)) (va_up (va_up X 14 x) 2 x) (sm_as (gm_kp A S 69) S) L)) (om_FXAL rfl gm_kpX rfl rfl) (sv_sub [0, 2, 1, 5, 3] rfl (sv_rec (pc := 40) (fun s : gm_Ss => n - s.1) (I := gm_si K n (va_up F 0 (nI 0)) (va_up X 14 x) (gm_kp A S 69) S (gm_siN false n S x y)) (lv := fun s => [(7, .int (nI s.1)), (4, .long s.2.1), (6, .int (nI (S 11))), (3, .int (nI n)), (0, .ref m)]) (hp := fun s => (sm_om G h m s.2.2.1 (va_up s.2.2.2.1 2 s.2.2.2.2.2.2) (sm_as s.2.2.2.2.1 s.2.2.2.2.2.1) L)) (0, y, (va_up F 0 (nI 0)), (va_up X 14 x), (gm_kp A S 69), S, x) ⟨Nat.zero_le _, ⟨fun _ _ _ _ => rfl, fun _ _ _ => rfl, fun _ _ => rfl⟩, fun _ _ => rfl, hI, rfl⟩ ?_))
  · intro s hi ih
    show sm_V G _ _ _ _ _ _ [(7, .int (nI s.1)), (4, .long s.2.1), (6, .int (nI (S 11))), (3, .int (nI n)), (0, .ref m)] [] (sm_om G h m s.2.2.1 (va_up s.2.2.2.1 2 s.2.2.2.2.2.2) (sm_as s.2.2.2.2.1 s.2.2.2.2.2.1) L)
    obtain ⟨hle, hg, hb, i1, hf⟩ := id hi
    have d3 := i1.2.1 3 (by omega) (by omega); have d6 := i1.2.1 6 (by omega) (by omega); have d0 := i1.2.1 0 (by omega) (by omega); have dK := i1.2.2.1
    have d34 : s.2.2.2.2.2.1 3 ≤ 4 := by have q := i1.2.2.2.2; omega
    refine sv_iload dX6_simulate_40 rfl ?_
    refine sv_iload_n dX6_simulate_42 rfl ?_
    refine sv_icmpN_ge 76 dX6_simulate_43 (by decide) (by first | omega | exact Nat.lt_trans (b2n_lt _) (by decide)) (by first | omega | exact Nat.lt_trans (b2n_lt _) (by decide)) (fun c_43 => ?_) (fun c_43 => ?_)
    · have ef := gm_si_e hi (.inl c_43)
      refine sv_sipush (nI 1000) dX6_simulate_76 (by decide) ?_
      refine sv_aload_n dX6_simulate_79 rfl ?_
      refine rm_get1 rfl dX6_simulate_80 ?_
      refine sv_bipush (nI 11) dX6_simulate_83 (by decide) ?_
      refine rm_ld1N dX6_simulate_85 (by first | omega | exact Nat.lt_trans (b2n_lt _) (by decide)) ?_
      refine sv_iload dX6_simulate_86 rfl ?_
      refine sv_isub dX6_simulate_88 ?_
      refine sv_imul dX6_simulate_89 ?_
      refine sv_istore (lv' := [(7, _), (4, _), (6, _), (3, _), (0, _)]) dX6_simulate_90 (by decide) rfl ?_
      refine sv_iconst (nI 0) dX6_simulate_92 (by decide) ?_
      refine sv_istore (lv' := [(8, _), (7, _), (4, _), (6, _), (3, _), (0, _)]) dX6_simulate_93 (by decide) rfl ?_
      refine sv_sub [0, 1, 5] rfl (sv_loop (pc := 95) (lv := fun p => [(8, .int (nI p)), (7, .int (gm_sR (nI 1000 * (nI (s.2.2.2.2.2.1 11) - nI (S 11))) s.2.2.2.2.2.1 p)), (0, .ref m)]) (hp := fun p => (sm_om G h m s.2.2.1 (va_up s.2.2.2.1 2 s.2.2.2.2.2.2) (sm_as s.2.2.2.2.1 s.2.2.2.2.2.1) L)) (I := fun p => True) (N := s.2.2.2.2.2.1 3) (trivial) ?_ ?_)
      · intro hI_p
        show sm_V G _ _ _ _ _ _ [(8, .int (nI (s.2.2.2.2.2.1 3))), (7, .int (gm_sR (nI 1000 * (nI (s.2.2.2.2.2.1 11) - nI (S 11))) s.2.2.2.2.2.1 (s.2.2.2.2.2.1 3))), (0, .ref m)] [] (sm_om G h m s.2.2.1 (va_up s.2.2.2.1 2 s.2.2.2.2.2.2) (sm_as s.2.2.2.2.1 s.2.2.2.2.2.1) L)
        refine sv_iload dX6_simulate_95 rfl ?_
        refine sv_aload_n dX6_simulate_97 rfl ?_
        refine rm_get1 rfl dX6_simulate_98 ?_
        refine sv_iconst (nI 3) dX6_simulate_101 (by decide) ?_
        refine rm_ld1N dX6_simulate_102 (by first | omega | exact Nat.lt_trans (b2n_lt _) (by decide)) ?_
        refine sv_icmpN_ge 123 dX6_simulate_103 (by decide) (by first | omega | exact Nat.lt_trans (b2n_lt _) (by decide)) (by first | omega | exact Nat.lt_trans (b2n_lt _) (by decide)) (fun c_103 => ?_) (fun c_103 => absurd c_103 (by omega))
        refine sv_aload_n dX6_simulate_123 rfl ?_
        refine sv_callV (As := []) sc_X6_242 (c6_takesKept (T := S) (fun i hi9 => by rw [hg.2.2 13 (by omega)]; show (if i < 69 then nI (S i) else A 13 i) = _; rw [if_pos hi9]) hb) rfl rfl (Nat.le_of_ble_eq_true rfl) dX6_simulate_124 ⟨by decide, by decide⟩ ⟨Nat.le_refl _, Nat.le_refl _⟩ (Nat.le_of_ble_eq_true rfl) om_0 (List.cons_ne_nil _ _) rfl ?_
        refine sv_iload dX6_simulate_127 rfl ?_
        refine sv_iret dX6_simulate_129 rfl rfl (Nat.le_refl _) (Nat.le_refl _) ?_
        exact ⟨rI (by rw [ef]; rfl), _, _, _, hg, om_FXAL rfl (by rw [up_up]; exact congrArg (va_up s.2.2.2.1 2) ((up_ne (by omega)).trans ((hg.2.1 14 (by omega) (by omega)).trans up_eq))) rfl rfl⟩
      · intro p hn_p hI_p ih_p
        show sm_V G _ _ _ _ _ _ [(8, .int (nI p)), (7, .int (gm_sR (nI 1000 * (nI (s.2.2.2.2.2.1 11) - nI (S 11))) s.2.2.2.2.2.1 p)), (0, .ref m)] [] (sm_om G h m s.2.2.1 (va_up s.2.2.2.1 2 s.2.2.2.2.2.2) (sm_as s.2.2.2.2.1 s.2.2.2.2.2.1) L)
        refine sv_iload dX6_simulate_95 rfl ?_
        refine sv_aload_n dX6_simulate_97 rfl ?_
        refine rm_get1 rfl dX6_simulate_98 ?_
        refine sv_iconst (nI 3) dX6_simulate_101 (by decide) ?_
        refine rm_ld1N dX6_simulate_102 (by first | omega | exact Nat.lt_trans (b2n_lt _) (by decide)) ?_
        refine sv_icmpN_ge 123 dX6_simulate_103 (by decide) (by first | omega | exact Nat.lt_trans (b2n_lt _) (by decide)) (by first | omega | exact Nat.lt_trans (b2n_lt _) (by decide)) (fun c_103 => absurd c_103 (by omega)) (fun c_103 => ?_)
        refine sv_iload dX6_simulate_106 rfl ?_
        refine sv_aload_n dX6_simulate_108 rfl ?_
        refine sv_iload dX6_simulate_109 rfl ?_
        refine sv_callV (As := [_]) sc_X6_134 (c6_total (by omega)) rfl rfl (Nat.le_of_ble_eq_true rfl) dX6_simulate_111 ⟨by decide, by decide⟩ ⟨Nat.le_refl _, Nat.le_refl _⟩ (Nat.le_of_ble_eq_true rfl) om_0 (List.cons_ne_nil _ _) rfl ?_
        refine sv_iadd dX6_simulate_114 ?_
        refine sv_istore (lv' := [(7, _), (8, _), (0, _)]) dX6_simulate_115 (by decide) rfl ?_
        refine sv_iinc1 (lv' := [(8, _), (7, _), (0, _)]) dX6_simulate_117 rfl (by decide) rfl ?_
        refine sv_goto 95 dX6_simulate_120 (by decide) ?_
        exact sv_sub [0, 1, 2] rfl (ih_p trivial)
    · refine sv_aload_n dX6_simulate_46 rfl ?_
      refine sv_callV (As := []) sc_X6_106 (c6_isOn (by omega) (by omega) (by omega)) rfl rfl (Nat.le_of_ble_eq_true rfl) dX6_simulate_47 ⟨by decide, by decide⟩ ⟨Nat.le_refl _, Nat.le_refl _⟩ (Nat.le_of_ble_eq_true rfl) om_0 (List.cons_ne_nil _ _) rfl ?_
      refine sv_ifN_eq 76 dX6_simulate_50 (by decide) (by first | omega | exact Nat.lt_trans (b2n_lt _) (by decide)) (fun c_50 => ?_) (fun c_50 => ?_)
      · have ef := gm_si_e hi (.inr (b2n_f c_50))
        refine sv_sipush (nI 1000) dX6_simulate_76 (by decide) ?_
        refine sv_aload_n dX6_simulate_79 rfl ?_
        refine rm_get1 rfl dX6_simulate_80 ?_
        refine sv_bipush (nI 11) dX6_simulate_83 (by decide) ?_
        refine rm_ld1N dX6_simulate_85 (by first | omega | exact Nat.lt_trans (b2n_lt _) (by decide)) ?_
        refine sv_iload dX6_simulate_86 rfl ?_
        refine sv_isub dX6_simulate_88 ?_
        refine sv_imul dX6_simulate_89 ?_
        refine sv_istore (lv' := [(7, _), (4, _), (6, _), (3, _), (0, _)]) dX6_simulate_90 (by decide) rfl ?_
        refine sv_iconst (nI 0) dX6_simulate_92 (by decide) ?_
        refine sv_istore (lv' := [(8, _), (7, _), (4, _), (6, _), (3, _), (0, _)]) dX6_simulate_93 (by decide) rfl ?_
        refine sv_sub [0, 1, 5] rfl (sv_loop (pc := 95) (lv := fun p => [(8, .int (nI p)), (7, .int (gm_sR (nI 1000 * (nI (s.2.2.2.2.2.1 11) - nI (S 11))) s.2.2.2.2.2.1 p)), (0, .ref m)]) (hp := fun p => (sm_om G h m s.2.2.1 (va_up s.2.2.2.1 2 s.2.2.2.2.2.2) (sm_as s.2.2.2.2.1 s.2.2.2.2.2.1) L)) (I := fun p => True) (N := s.2.2.2.2.2.1 3) (trivial) ?_ ?_)
        · intro hI_p
          show sm_V G _ _ _ _ _ _ [(8, .int (nI (s.2.2.2.2.2.1 3))), (7, .int (gm_sR (nI 1000 * (nI (s.2.2.2.2.2.1 11) - nI (S 11))) s.2.2.2.2.2.1 (s.2.2.2.2.2.1 3))), (0, .ref m)] [] (sm_om G h m s.2.2.1 (va_up s.2.2.2.1 2 s.2.2.2.2.2.2) (sm_as s.2.2.2.2.1 s.2.2.2.2.2.1) L)
          refine sv_iload dX6_simulate_95 rfl ?_
          refine sv_aload_n dX6_simulate_97 rfl ?_
          refine rm_get1 rfl dX6_simulate_98 ?_
          refine sv_iconst (nI 3) dX6_simulate_101 (by decide) ?_
          refine rm_ld1N dX6_simulate_102 (by first | omega | exact Nat.lt_trans (b2n_lt _) (by decide)) ?_
          refine sv_icmpN_ge 123 dX6_simulate_103 (by decide) (by first | omega | exact Nat.lt_trans (b2n_lt _) (by decide)) (by first | omega | exact Nat.lt_trans (b2n_lt _) (by decide)) (fun c_103 => ?_) (fun c_103 => absurd c_103 (by omega))
          refine sv_aload_n dX6_simulate_123 rfl ?_
          refine sv_callV (As := []) sc_X6_242 (c6_takesKept (T := S) (fun i hi9 => by rw [hg.2.2 13 (by omega)]; show (if i < 69 then nI (S i) else A 13 i) = _; rw [if_pos hi9]) hb) rfl rfl (Nat.le_of_ble_eq_true rfl) dX6_simulate_124 ⟨by decide, by decide⟩ ⟨Nat.le_refl _, Nat.le_refl _⟩ (Nat.le_of_ble_eq_true rfl) om_0 (List.cons_ne_nil _ _) rfl ?_
          refine sv_iload dX6_simulate_127 rfl ?_
          refine sv_iret dX6_simulate_129 rfl rfl (Nat.le_refl _) (Nat.le_refl _) ?_
          exact ⟨rI (by rw [ef]; rfl), _, _, _, hg, om_FXAL rfl (by rw [up_up]; exact congrArg (va_up s.2.2.2.1 2) ((up_ne (by omega)).trans ((hg.2.1 14 (by omega) (by omega)).trans up_eq))) rfl rfl⟩
        · intro p hn_p hI_p ih_p
          show sm_V G _ _ _ _ _ _ [(8, .int (nI p)), (7, .int (gm_sR (nI 1000 * (nI (s.2.2.2.2.2.1 11) - nI (S 11))) s.2.2.2.2.2.1 p)), (0, .ref m)] [] (sm_om G h m s.2.2.1 (va_up s.2.2.2.1 2 s.2.2.2.2.2.2) (sm_as s.2.2.2.2.1 s.2.2.2.2.2.1) L)
          refine sv_iload dX6_simulate_95 rfl ?_
          refine sv_aload_n dX6_simulate_97 rfl ?_
          refine rm_get1 rfl dX6_simulate_98 ?_
          refine sv_iconst (nI 3) dX6_simulate_101 (by decide) ?_
          refine rm_ld1N dX6_simulate_102 (by first | omega | exact Nat.lt_trans (b2n_lt _) (by decide)) ?_
          refine sv_icmpN_ge 123 dX6_simulate_103 (by decide) (by first | omega | exact Nat.lt_trans (b2n_lt _) (by decide)) (by first | omega | exact Nat.lt_trans (b2n_lt _) (by decide)) (fun c_103 => absurd c_103 (by omega)) (fun c_103 => ?_)
          refine sv_iload dX6_simulate_106 rfl ?_
          refine sv_aload_n dX6_simulate_108 rfl ?_
          refine sv_iload dX6_simulate_109 rfl ?_
          refine sv_callV (As := [_]) sc_X6_134 (c6_total (by omega)) rfl rfl (Nat.le_of_ble_eq_true rfl) dX6_simulate_111 ⟨by decide, by decide⟩ ⟨Nat.le_refl _, Nat.le_refl _⟩ (Nat.le_of_ble_eq_true rfl) om_0 (List.cons_ne_nil _ _) rfl ?_
          refine sv_iadd dX6_simulate_114 ?_
          refine sv_istore (lv' := [(7, _), (8, _), (0, _)]) dX6_simulate_115 (by decide) rfl ?_
          refine sv_iinc1 (lv' := [(8, _), (7, _), (0, _)]) dX6_simulate_117 rfl (by decide) rfl ?_
          refine sv_goto 95 dX6_simulate_120 (by decide) ?_
          exact sv_sub [0, 1, 2] rfl (ih_p trivial)
      · refine sv_lload dX6_simulate_53 rfl ?_
        refine sv_callS (As := [_]) sc_X6_70 (c6_next) rfl rfl (Nat.le_of_ble_eq_true rfl) dX6_simulate_55 ⟨by decide, by decide⟩ ⟨Nat.le_refl _, Nat.le_refl _⟩ (Nat.le_of_ble_eq_true rfl) ?_
        obtain ⟨y2, hy2⟩ : ∃ y2, gm_nx s.2.1 = y2 := ⟨_, rfl⟩
        refine sv_topl y2 hy2 ?_
        refine sv_lstore (lv' := [(4, _), (7, _), (6, _), (3, _), (0, _)]) dX6_simulate_58 (by decide) rfl ?_
        refine sv_aload_n dX6_simulate_60 rfl ?_
        refine sv_lload dX6_simulate_61 rfl ?_
        refine sv_bipush (nI 33) dX6_simulate_63 (by decide) ?_
        refine sv_lushr dX6_simulate_65 ?_
        refine sv_l2i dX6_simulate_66 ?_
        obtain ⟨r2, hr2⟩ : ∃ r2, gm_r y2 = r2 := ⟨_, rfl⟩
        have hrl : r2 < 2 ^ 31 := hr2 ▸ gm_r_lt y2
        refine sv_top (nI r2) ((gm_r_eq _).trans (congrArg nI hr2)) ?_
        rcases gm_sim3 s.2.2.2.2.2.1 r2 with h7 | ⟨h7, hcan⟩ | ⟨h7, hcan⟩
        · skip
          refine sv_callV (As := [_]) sc_X6_261 (c6_simulates1 i1 (by omega) (by omega) hrl (b2n_1 c_50) h7) rfl rfl (Nat.le_of_ble_eq_true rfl) dX6_simulate_67 ⟨by decide, by decide⟩ ⟨Nat.le_refl _, Nat.le_refl _⟩ (Nat.le_of_ble_eq_true rfl) om_0 (List.cons_ne_nil _ _) rfl ?_
          obtain ⟨T2, hT2⟩ : ∃ T2, gm_sim false s.2.2.2.2.2.1 s.2.2.2.2.2.2 r2 = T2 := ⟨_, rfl⟩
          rw [hT2]
          refine sv_iinc1 (lv' := [(7, _), (4, _), (6, _), (3, _), (0, _)]) dX6_simulate_70 rfl (by decide) rfl ?_
          refine sv_goto 40 dX6_simulate_73 (by decide) ?_
          exact sv_sub [0, 1, 2, 3, 4] rfl (ih (s.1 + 1, y2, s.2.2.1, s.2.2.2.1, s.2.2.2.2.1, T2.1, T2.2) (by show n - (s.1 + 1) < n - s.1; omega) (gm_si_s hi c_43 hn2 (b2n_1 c_50) hK hK9 hg hy2 hr2 hT2))
        · skip
          refine sv_callV (As := [_]) sc_X6_261 (c6_simulates2 i1 (by omega) (by omega) hrl (b2n_1 c_50) h7 hcan) rfl rfl (Nat.le_of_ble_eq_true rfl) dX6_simulate_67 ⟨by decide, by decide⟩ ⟨Nat.le_refl _, Nat.le_refl _⟩ (Nat.le_of_ble_eq_true rfl) om_0 (List.cons_ne_nil _ _) rfl ?_
          obtain ⟨T2, hT2⟩ : ∃ T2, gm_sim false s.2.2.2.2.2.1 s.2.2.2.2.2.2 r2 = T2 := ⟨_, rfl⟩
          rw [hT2]
          refine sv_iinc1 (lv' := [(7, _), (4, _), (6, _), (3, _), (0, _)]) dX6_simulate_70 rfl (by decide) rfl ?_
          refine sv_goto 40 dX6_simulate_73 (by decide) ?_
          exact sv_sub [0, 1, 2, 3, 4] rfl (ih (s.1 + 1, y2, s.2.2.1, s.2.2.2.1, s.2.2.2.2.1, T2.1, T2.2) (by show n - (s.1 + 1) < n - s.1; omega) (gm_si_s hi c_43 hn2 (b2n_1 c_50) hK hK9 hg hy2 hr2 hT2))
        · skip
          refine sv_callV (As := [_]) sc_X6_261 (c6_simulates3 i1 (by omega) (by omega) hrl (b2n_1 c_50) h7 hcan) rfl rfl (Nat.le_of_ble_eq_true rfl) dX6_simulate_67 ⟨by decide, by decide⟩ ⟨Nat.le_refl _, Nat.le_refl _⟩ (Nat.le_of_ble_eq_true rfl) om_0 (List.cons_ne_nil _ _) rfl ?_
          obtain ⟨T2, hT2⟩ : ∃ T2, gm_sim false s.2.2.2.2.2.1 s.2.2.2.2.2.2 r2 = T2 := ⟨_, rfl⟩
          rw [hT2]
          refine sv_iinc1 (lv' := [(7, _), (4, _), (6, _), (3, _), (0, _)]) dX6_simulate_70 rfl (by decide) rfl ?_
          refine sv_goto 40 dX6_simulate_73 (by decide) ?_
          exact sv_sub [0, 1, 2, 3, 4] rfl (ih (s.1 + 1, y2, (gm_FB s.2.2.1 (gm_bst s.2.2.2.2.2.1)), (gm_kX (gm_any s.2.2.2.2.2.1) (va_up s.2.2.2.1 2 s.2.2.2.2.2.2)), (gm_kA (gm_any s.2.2.2.2.2.1) s.2.2.2.2.1 s.2.2.2.2.2.1), T2.1, T2.2) (by show n - (s.1 + 1) < n - s.1; omega) (gm_si_s hi c_43 hn2 (b2n_1 c_50) hK hK9 (gm_ag_r _ _ hg) hy2 hr2 hT2))
end SR25
