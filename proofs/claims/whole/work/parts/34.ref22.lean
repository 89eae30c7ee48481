section SR22
variable {G : sm_G} {h : sm_H} {m : Nat} {F : Nat → Int32} {X : Nat → Int64} {A : Nat → Nat → Int32} {L : Nat → Nat → Int64} {S : Nat → Nat} {K : Nat}
/-! a game played to its end -/
theorem gm_ends_hi (S : gm_S) {p i : Nat} (hp : p < 4) (hi : 45 ≤ i) : gm_ends S p i = S i := by
  unfold gm_ends; rw [if_neg (by omega), if_neg (by omega), if_neg (by omega), if_neg (by omega), if_neg (by omega), if_neg (by omega)]
theorem gm_endsN_hi (S : gm_S) {i : Nat} (hi : 45 ≤ i) : ∀ n, n ≤ 4 → gm_endsN S n i = S i := by
  intro n
  induction n with
  | zero => intro _; rfl
  | succ n ih => intro hn; show gm_ends (gm_endsN S n) n i = _; rw [gm_ends_hi _ (by omega) hi, ih (by omega)]
theorem gm_go_69 {z : Bool} {x : Int64} (hM : gm_M K S) : ∀ i, 69 ≤ i → (gm_go z S x).1 i = S i := by
  intro i hi
  have := hM.n
  unfold gm_go; split
  · simp only; rw [gm_end_at S x (by omega), gm_endsN_hi S (by omega) _ (by omega)]
  · simp only; rw [up_ne (by omega)]
theorem gm_pass_69 {z : Bool} {x : Int64} (hI : gm_I K S) (hon : gm_on S = true) (hK9 : 12 ≤ K) : ∀ i, 69 ≤ i → (gm_pass z S x).1 i = S i := by
  intro i hi
  have hM := gm_IM hI hon
  have := hM.n
  exact (gm_go_69 (gm_pass_M hM hK9) i hi).trans (up_ne (by omega))
theorem gm_put_69 {z : Bool} {x : Int64} {q c : Nat} (hI : gm_I K S) (hq : q < 6) (hc : c < 24) (hch : gm_ch q c = true) (hcan : gm_can S q c = true) (hK : K + 40 < 2 ^ 26) (hK9 : 12 ≤ K) : ∀ i, 69 ≤ i → (gm_put z S x q c).1 i = S i := fun i hi =>
  (gm_go_69 (gm_pl_M hI hq hc hch hcan hK hK9) i hi).trans (gm_pl_69 hI hq hc (gm_chg hc hch) hcan i hi)
theorem gm_play_69 {z : Bool} {x : Int64} (hI : gm_I K S) (hon : gm_on S = true) (hK : K + 40 < 2 ^ 26) (hK9 : 12 ≤ K) : ∀ i, 69 ≤ i → (gm_play z S x).1 i = S i := by
  unfold gm_play
  split
  · rename_i e
    rcases gm_bst_ok S with h | ⟨h1, h2, h3, h4, h5⟩
    · omega
    · exact gm_put_69 hI h1 h2 h3 h4 hK hK9
  · exact gm_pass_69 hI hon hK9
theorem gm_mu_I (hI : gm_I K S) : gm_mu S ≤ 1300 := by
  by_cases e : S 3 = 0
  · have := hI.1; unfold gm_mu; rw [e]; show 100 * (S 0 - S 6) + 0 ≤ 1300; omega
  · obtain ⟨⟨j0, j01, j1, j2, j21⟩, jK, jK2, jw, j3, j31, j4, j5, j51, j6, jp, j10, jh, jpl, jow⟩ := gm_IJ hI (by omega)
    have := gm_ms_le (S := S) (fun p hp => by have := jpl p hp; unfold gm_mp; omega) (S 3) (Nat.le_refl _)
    unfold gm_mu; omega
def gm_goN (z : Bool) : Nat → gm_S → Int64 → gm_S × Int64
  | 0, S, x => (S, x)
  | f + 1, S, x => if gm_on S = true then gm_goN z f (gm_play z S x).1 (gm_play z S x).2 else (S, x)
def gm_goE (z : Bool) (S : gm_S) (x : Int64) : gm_S × Int64 := gm_goN z 1300 S x
/-- the rubbish of a looking for the best -/
def gm_ag (F : Nat → Int32) (X : Nat → Int64) (A : Nat → Nat → Int32) (F1 : Nat → Int32) (X1 : Nat → Int64) (A1 : Nat → Nat → Int32) : Prop := (∀ i, i ≠ 15 → i ≠ 16 → i ≠ 17 → F1 i = F i) ∧ (∀ i, i ≠ 2 → i ≠ 12 → X1 i = X i) ∧ (∀ k, k ≠ 11 → A1 k = A k)
theorem gm_ag_r {F1 : Nat → Int32} {X1 : Nat → Int64} {A1 : Nat → Nat → Int32} {x : Int64} {S1 : gm_S} (b : Bool) (a : Nat × Nat × Nat) (h : gm_ag F X A F1 X1 A1) : gm_ag F X A (gm_FB F1 a) (gm_kX b (va_up X1 2 x)) (gm_kA b A1 S1) := by
  obtain ⟨h1, h2, h3⟩ := h
  refine ⟨fun i a1 a2 a3 => ?_, fun i a1 a2 => ?_, fun k a1 => ?_⟩
  · unfold gm_FB; rw [up_ne a3, up_ne a2, up_ne a1]; exact h1 i a1 a2 a3
  · cases b with
    | false => show va_up X1 2 x i = _; rw [up_ne a1]; exact h2 i a1 a2
    | true => show va_up (va_up X1 2 x) 12 _ i = _; rw [up_ne a2, up_ne a1]; exact h2 i a1 a2
  · cases b with
    | false => exact h3 k a1
    | true => show va_up A1 11 _ k = _; rw [up_ne a1]; exact h3 k a1
abbrev gm_Gs : Type := (Nat → Int32) × (Nat → Int64) × (Nat → Nat → Int32) × gm_S × Int64
def gm_gi (K : Nat) (F : Nat → Int32) (X : Nat → Int64) (A : Nat → Nat → Int32) (S : gm_S) (R : gm_S × Int64) (s : gm_Gs) : Prop :=
  gm_ag F X A s.1 s.2.1 s.2.2.1 ∧ (∀ i, 69 ≤ i → s.2.2.2.1 i = S i) ∧ (∃ k, gm_I k s.2.2.2.1 ∧ 12 ≤ k ∧ k + 40 * gm_mu s.2.2.2.1 ≤ K + 40 * 1300) ∧ ∃ f, gm_mu s.2.2.2.1 ≤ f ∧ gm_goN false f s.2.2.2.1 s.2.2.2.2 = R
theorem gm_gi_0 {x : Int64} (hI : gm_I K S) (hK9 : 12 ≤ K) : gm_gi K F X A S (gm_goE false S x) (F, X, A, S, x) :=
  ⟨⟨fun _ _ _ _ => rfl, fun _ _ _ => rfl, fun _ _ => rfl⟩, fun _ _ => rfl, ⟨K, hI, hK9, by have := gm_mu_I hI; show K + 40 * gm_mu S ≤ _; omega⟩, 1300, gm_mu_I hI, rfl⟩
theorem gm_gi_s {R : gm_S × Int64} {s : gm_Gs} (h : gm_gi K F X A S R s) (hon : gm_on s.2.2.2.1 = true) (hK : K + 60000 < 2 ^ 26) : gm_gi K F X A S R (gm_FB s.1 (gm_bst s.2.2.2.1), gm_kX (gm_any s.2.2.2.1) (va_up s.2.1 2 s.2.2.2.2), gm_kA (gm_any s.2.2.2.1) s.2.2.1 s.2.2.2.1, (gm_play false s.2.2.2.1 s.2.2.2.2).1, (gm_play false s.2.2.2.1 s.2.2.2.2).2) ∧ gm_mu (gm_play false s.2.2.2.1 s.2.2.2.2).1 < gm_mu s.2.2.2.1 := by
  obtain ⟨a, b, ⟨k, i1, i2, i3⟩, f, f1, f2⟩ := h
  have mu := gm_mu_play (z := false) (x := s.2.2.2.2) i1 hon (by omega) i2
  refine ⟨⟨gm_ag_r _ _ a, fun i hi => (gm_play_69 i1 hon (by omega) i2 i hi).trans (b i hi), ⟨k + 40, gm_play_I i1 hon (by omega) i2, by omega, by show k + 40 + 40 * gm_mu (gm_play false s.2.2.2.1 s.2.2.2.2).1 ≤ _; omega⟩, f - 1, by show gm_mu (gm_play false s.2.2.2.1 s.2.2.2.2).1 ≤ _; omega, ?_⟩, by omega⟩
  obtain ⟨g, rfl⟩ : ∃ g, f = g + 1 := ⟨f - 1, by omega⟩
  rw [← f2]
  show gm_goN false g _ _ = _
  conv => rhs; unfold gm_goN
  rw [if_pos hon]
theorem gm_gi_e {R : gm_S × Int64} {s : gm_Gs} (h : gm_gi K F X A S R s) (hon : gm_on s.2.2.2.1 = false) : R = (s.2.2.2.1, s.2.2.2.2) := by
  obtain ⟨a, b, c, f, f1, f2⟩ := h
  rw [← f2]
  cases f with
  | zero => rfl
  | succ f => unfold gm_goN; rw [if_neg (ne_t hon)]
/-- what is told of the end -/
def gm_gans (S : gm_S) (k : Nat) : Int32 := if k = 4 then gm_ri S (S 3) else if k < S 3 then nI (gm_tot S k) else -1
theorem gm_kpX {x : Int64} : va_up (va_up X 2 x) 14 (va_up X 2 x 2) = va_up (va_up X 14 x) 2 x := by
  rw [up_eq]; funext i; unfold va_up; (repeat' split) <;> first | rfl | omega
theorem c6_goesOn0 {w : Int32} (hw : gm_in (nI 0) w (nI 4) = false) : sm_F G mX6_goesOn 1 [.ref m, .int w] (sm_om G h m F X (sm_as A S) L) (.inl (some (.int (nI 0)))) (sm_om G h m (va_up F 0 (nI 1)) X (sm_as A S) L) := by
  unfold sm_F sm_C
  show sm_V G _ _ _ 0 0 0 [(0, .ref m), (1, .int w)] [] _
  refine sv_aload_n dX6_goesOn_0 rfl ?_
  refine sv_iconst (nI 0) dX6_goesOn_1 (by decide) ?_
  refine rm_put0 rfl dX6_goesOn_2 ?_
  refine sv_iload_n dX6_goesOn_5 rfl ?_
  refine sv_iconst (nI 0) dX6_goesOn_6 (by decide) ?_
  refine sv_iconst (nI 4) dX6_goesOn_7 (by decide) ?_
  refine sv_callS (As := [_, _, _]) sc_X6_53 (c6_inG) rfl rfl (Nat.le_of_ble_eq_true rfl) dX6_goesOn_8 ⟨by decide, by decide⟩ ⟨Nat.le_refl _, Nat.le_refl _⟩ (Nat.le_of_ble_eq_true rfl) ?_
  refine sv_ifN_ne 20 dX6_goesOn_11 (by decide) (by first | omega | (have z := b2n_lt (gm_in (nI 0) w (nI 4)); omega)) (fun c_11 => absurd c_11 (fun z => z ((b2n_0 _).mpr hw))) (fun c_11 => ?_)
  refine sv_aload_n dX6_goesOn_14 rfl ?_
  refine sv_iconst (nI 1) dX6_goesOn_15 (by decide) ?_
  refine sv_callV (As := [_]) sc_X6_167 (c6_fails) rfl rfl (Nat.le_of_ble_eq_true rfl) dX6_goesOn_16 ⟨by decide, by decide⟩ ⟨Nat.le_refl _, Nat.le_refl _⟩ (Nat.le_of_ble_eq_true rfl) om_0 (List.cons_ne_nil _ _) rfl ?_
  refine sv_iret dX6_goesOn_19 rfl rfl (Nat.le_refl _) (Nat.le_refl _) ?_
  exact ⟨rfl, om_FXAL (up_up _ _ _ _) rfl rfl rfl⟩
theorem c6_goesOnK {x : Int64} {k : Nat} (hI : gm_I K S) (hK : K + 60000 < 2 ^ 26) (hK9 : 12 ≤ K) (hk : k ≤ 4) : sm_C G mX6_goesOn 7 0 0 [.ref m, .int (nI k)] (sm_om G h m F (va_up X 2 x) (sm_as A S) L) (fun r1 h1 => r1 = .inl (some (.int (gm_gans (gm_goE false S x).1 k))) ∧ ∃ F1 X1 A1, gm_ag (va_up F 0 (nI 0)) (va_up X 14 x) (gm_kp A S 69) F1 X1 A1 ∧ h1 = sm_om G h m F1 (va_up X1 2 x) (sm_as A1 S) L) := by
  unfold sm_C
  show sm_V G _ _ _ 0 0 0 [(0, .ref m), (1, .int (nI k))] [] _
  refine sv_aload_n dX6_goesOn_0 rfl ?_
  refine sv_iconst (nI 0) dX6_goesOn_1 (by decide) ?_
  refine rm_put0 rfl dX6_goesOn_2 ?_
  refine sv_iload_n dX6_goesOn_5 rfl ?_
  refine sv_iconst (nI 0) dX6_goesOn_6 (by decide) ?_
  refine sv_iconst (nI 4) dX6_goesOn_7 (by decide) ?_
  refine sv_callS (As := [_, _, _]) sc_X6_53 (c6_in (by omega) (by omega) (by omega)) rfl rfl (Nat.le_of_ble_eq_true rfl) dX6_goesOn_8 ⟨by decide, by decide⟩ ⟨Nat.le_refl _, Nat.le_refl _⟩ (Nat.le_of_ble_eq_true rfl) ?_
  refine sv_ifN_ne 20 dX6_goesOn_11 (by decide) (by first | omega | exact Nat.lt_trans (b2n_lt _) (by decide)) (fun c_11 => ?_) (fun c_11 => absurd c_11 (by rw [b2n_0, decide_eq_false_iff_not]; omega))
  refine sv_aload_n dX6_goesOn_20 rfl ?_
  refine sv_callV (As := []) sc_X6_236 (c6_keeps) rfl rfl (Nat.le_of_ble_eq_true rfl) dX6_goesOn_21 ⟨by decide, by decide⟩ ⟨Nat.le_refl _, Nat.le_refl _⟩ (Nat.le_of_ble_eq_true rfl) om_0 (List.cons_ne_nil _ _) rfl ?_
  refine sv_heap (h' := (sm_om G h m (va_up F 0 (nI 0)) (va_up (va_up X 14 x) 2 x) (sm_as (gm_kp A S 69) S) L)) (om_FXAL rfl gm_kpX rfl rfl) (sv_sub [1, 0] rfl (sv_rec (pc := 24) (fun s : gm_Gs => gm_mu s.2.2.2.1) (I := gm_gi K (va_up F 0 (nI 0)) (va_up X 14 x) (gm_kp A S 69) S (gm_goE false S x)) (lv := fun _ => [(1, .int (nI k)), (0, .ref m)]) (hp := fun s => (sm_om G h m s.1 (va_up s.2.1 2 s.2.2.2.2) (sm_as s.2.2.1 s.2.2.2.1) L)) ((va_up F 0 (nI 0)), (va_up X 14 x), (gm_kp A S 69), S, x) (gm_gi_0 hI hK9) ?_))
  · intro s hi ih
    show sm_V G _ _ _ _ _ _ [(1, .int (nI k)), (0, .ref m)] [] (sm_om G h m s.1 (va_up s.2.1 2 s.2.2.2.2) (sm_as s.2.2.1 s.2.2.2.1) L)
    obtain ⟨ha, hb, ⟨k9, i1, i2, i3⟩, hf⟩ := id hi
    have d3 := i1.2.1 3 (by omega) (by omega); have d6 := i1.2.1 6 (by omega) (by omega); have d0 := i1.2.1 0 (by omega) (by omega); have dK := i1.2.2.1
    have d34 : s.2.2.2.1 3 ≤ 4 := by have q := i1.2.2.2.2; omega
    refine sv_aload_n dX6_goesOn_24 rfl ?_
    refine sv_callV (As := []) sc_X6_106 (c6_isOn (by omega) (by omega) (by omega)) rfl rfl (Nat.le_of_ble_eq_true rfl) dX6_goesOn_25 ⟨by decide, by decide⟩ ⟨Nat.le_refl _, Nat.le_refl _⟩ (Nat.le_of_ble_eq_true rfl) om_0 (List.cons_ne_nil _ _) rfl ?_
    refine sv_ifN_eq 39 dX6_goesOn_28 (by decide) (by first | omega | exact Nat.lt_trans (b2n_lt _) (by decide)) (fun c_28 => ?_) (fun c_28 => ?_)
    · refine sv_iload_n dX6_goesOn_39 rfl ?_
      refine sv_iconst (nI 4) dX6_goesOn_40 (by decide) ?_
      refine sv_icmpN_ne 51 dX6_goesOn_41 (by decide) (by first | omega | exact Nat.lt_trans (b2n_lt _) (by decide)) (by first | omega | exact Nat.lt_trans (b2n_lt _) (by decide)) (fun c_41 => ?_) (fun c_41 => ?_)
      · refine sv_aload_n dX6_goesOn_51 rfl ?_
        refine sv_iload_n dX6_goesOn_52 rfl ?_
        refine sv_callV (As := [_]) sc_X6_218 (c6_isPlayerG (by omega)) rfl rfl (Nat.le_of_ble_eq_true rfl) dX6_goesOn_53 ⟨by decide, by decide⟩ ⟨Nat.le_refl _, Nat.le_refl _⟩ (Nat.le_of_ble_eq_true rfl) om_0 (List.cons_ne_nil _ _) rfl ?_
        refine sv_ifN_eq 67 dX6_goesOn_56 (by decide) (by first | omega | exact Nat.lt_trans (b2n_lt _) (by decide)) (fun c_56 => ?_) (fun c_56 => ?_)
        · have in_k := of_decide_eq_false ((gm_isP_n (S := s.2.2.2.1) (by omega) (by omega)).symm.trans (b2n_f c_56))
          refine sv_iconst (-1) dX6_goesOn_67 (by decide) ?_
          refine sv_istore_n (lv' := [(2, _), (1, _), (0, _)]) dX6_goesOn_68 (by decide) rfl ?_
          refine sv_aload_n dX6_goesOn_69 rfl ?_
          refine sv_callV (As := []) sc_X6_242 (c6_takesKept (T := S) (fun i hi9 => by rw [ha.2.2 13 (by omega)]; show (if i < 69 then nI (S i) else A 13 i) = _; rw [if_pos hi9]) hb) rfl rfl (Nat.le_of_ble_eq_true rfl) dX6_goesOn_70 ⟨by decide, by decide⟩ ⟨Nat.le_refl _, Nat.le_refl _⟩ (Nat.le_of_ble_eq_true rfl) om_0 (List.cons_ne_nil _ _) rfl ?_
          refine sv_iload_n dX6_goesOn_73 rfl ?_
          refine sv_iret dX6_goesOn_74 rfl rfl (Nat.le_refl _) (Nat.le_refl _) ?_
          have ef := gm_gi_e hi (b2n_f c_28)
          exact ⟨rI (by rw [ef]; unfold gm_gans; rw [if_neg c_41, if_neg in_k]), _, _, _, ha, om_FXAL rfl (by rw [up_up]; exact congrArg (va_up s.2.1 2) ((up_ne (by omega)).trans ((ha.2.1 14 (by omega) (by omega)).trans up_eq))) rfl rfl⟩
        · have in_k := of_decide_eq_true ((gm_isP_n (S := s.2.2.2.1) (by omega) (by omega)).symm.trans (b2n_1 c_56))
          refine sv_aload_n dX6_goesOn_59 rfl ?_
          refine sv_iload_n dX6_goesOn_60 rfl ?_
          refine sv_callV (As := [_]) sc_X6_134 (c6_total (by omega)) rfl rfl (Nat.le_of_ble_eq_true rfl) dX6_goesOn_61 ⟨by decide, by decide⟩ ⟨Nat.le_refl _, Nat.le_refl _⟩ (Nat.le_of_ble_eq_true rfl) om_0 (List.cons_ne_nil _ _) rfl ?_
          refine sv_goto 68 dX6_goesOn_64 (by decide) ?_
          refine sv_istore_n (lv' := [(2, _), (1, _), (0, _)]) dX6_goesOn_68 (by decide) rfl ?_
          refine sv_aload_n dX6_goesOn_69 rfl ?_
          refine sv_callV (As := []) sc_X6_242 (c6_takesKept (T := S) (fun i hi9 => by rw [ha.2.2 13 (by omega)]; show (if i < 69 then nI (S i) else A 13 i) = _; rw [if_pos hi9]) hb) rfl rfl (Nat.le_of_ble_eq_true rfl) dX6_goesOn_70 ⟨by decide, by decide⟩ ⟨Nat.le_refl _, Nat.le_refl _⟩ (Nat.le_of_ble_eq_true rfl) om_0 (List.cons_ne_nil _ _) rfl ?_
          refine sv_iload_n dX6_goesOn_73 rfl ?_
          refine sv_iret dX6_goesOn_74 rfl rfl (Nat.le_refl _) (Nat.le_refl _) ?_
          have ef := gm_gi_e hi (b2n_f c_28)
          exact ⟨rI (by rw [ef]; unfold gm_gans; rw [if_neg c_41, if_pos in_k]), _, _, _, ha, om_FXAL rfl (by rw [up_up]; exact congrArg (va_up s.2.1 2) ((up_ne (by omega)).trans ((ha.2.1 14 (by omega) (by omega)).trans up_eq))) rfl rfl⟩
      · refine sv_aload_n dX6_goesOn_44 rfl ?_
        refine sv_callV (As := []) sc_X6_239 (c6_richest i1) rfl rfl (Nat.le_of_ble_eq_true rfl) dX6_goesOn_45 ⟨by decide, by decide⟩ ⟨Nat.le_refl _, Nat.le_refl _⟩ (Nat.le_of_ble_eq_true rfl) om_0 (List.cons_ne_nil _ _) rfl ?_
        refine sv_goto 68 dX6_goesOn_48 (by decide) ?_
        refine sv_istore_n (lv' := [(2, _), (1, _), (0, _)]) dX6_goesOn_68 (by decide) rfl ?_
        refine sv_aload_n dX6_goesOn_69 rfl ?_
        refine sv_callV (As := []) sc_X6_242 (c6_takesKept (T := S) (fun i hi9 => by rw [ha.2.2 13 (by omega)]; show (if i < 69 then nI (S i) else A 13 i) = _; rw [if_pos hi9]) hb) rfl rfl (Nat.le_of_ble_eq_true rfl) dX6_goesOn_70 ⟨by decide, by decide⟩ ⟨Nat.le_refl _, Nat.le_refl _⟩ (Nat.le_of_ble_eq_true rfl) om_0 (List.cons_ne_nil _ _) rfl ?_
        refine sv_iload_n dX6_goesOn_73 rfl ?_
        refine sv_iret dX6_goesOn_74 rfl rfl (Nat.le_refl _) (Nat.le_refl _) ?_
        have ef := gm_gi_e hi (b2n_f c_28)
        exact ⟨rI (by rw [ef]; unfold gm_gans; rw [if_pos c_41]), _, _, _, ha, om_FXAL rfl (by rw [up_up]; exact congrArg (va_up s.2.1 2) ((up_ne (by omega)).trans ((ha.2.1 14 (by omega) (by omega)).trans up_eq))) rfl rfl⟩
    · refine sv_aload_n dX6_goesOn_31 rfl ?_
      refine sv_callV (As := []) sc_X6_230 (c6_plays i1 (b2n_1 c_28) (by omega) i2) rfl rfl (Nat.le_of_ble_eq_true rfl) dX6_goesOn_32 ⟨by decide, by decide⟩ ⟨Nat.le_refl _, Nat.le_refl _⟩ (Nat.le_of_ble_eq_true rfl) om_0 (List.cons_ne_nil _ _) rfl ?_
      refine sv_pop dX6_goesOn_35 rfl ?_
      refine sv_goto 24 dX6_goesOn_36 (by decide) ?_
      exact sv_sub [0, 1] rfl (ih (gm_FB s.1 (gm_bst s.2.2.2.1), gm_kX (gm_any s.2.2.2.1) (va_up s.2.1 2 s.2.2.2.2), gm_kA (gm_any s.2.2.2.1) s.2.2.1 s.2.2.2.1, (gm_play false s.2.2.2.1 s.2.2.2.2).1, (gm_play false s.2.2.2.1 s.2.2.2.2).2) (gm_gi_s hi (b2n_1 c_28) hK).2 (gm_gi_s hi (b2n_1 c_28) hK).1)
end SR22
