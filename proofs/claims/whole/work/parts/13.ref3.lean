section SR3
variable {G : sm_G} {h : sm_H} {m : Nat} {F : Nat → Int32} {X : Nat → Int64} {A : Nat → Nat → Int32} {L : Nat → Nat → Int64} {S : Nat → Nat} {K : Nat}
theorem c6_of0 {p : Nat} (hw : 13 + 8 * p < 69) : sm_F G mX6_of 0 [.ref m, .int (nI p), .int (nI 0)] (sm_om G h m F X (sm_as A S) L) (.inl (some (.int (nI (S (13 + 8 * p)))))) (sm_om G h m F X (sm_as A S) L) := c6_of (w := 0) hw
theorem c6_adds0 {p n : Nat} {v : Int32} (hw : 13 + 8 * p < 69) (hv : nI (S (13 + 8 * p)) + v = nI n) : sm_F G mX6_adds 0 [.ref m, .int (nI p), .int (nI 0), .int v] (sm_om G h m F X (sm_as A S) L) (.inl none) (sm_om G h m F X (sm_as A (va_up S (13 + 8 * p) n)) L) := c6_adds (w := 0) hw hv
theorem b2n_1 {b : Bool} (h : b2n b ≠ 0) : b = true := by cases b <;> simp_all [b2n]
theorem b2n_f {b : Bool} (h : b2n b = 0) : b = false := (b2n_0 b).mp h
theorem gm_fnd_t {n : Nat} (hI : gm_nxt S = gm_fnd S (S 3 - n) (n + 1)) (hn : n < S 3) (hr : gm_rdy S ((S 4 + (n + 1)) % S 3) = true) : gm_nxt S = (S 4 + (n + 1)) % S 3 := by
  rw [hI, show S 3 - n = (S 3 - n - 1) + 1 by omega, gm_fnd, if_pos hr]
theorem gm_fnd_f {n : Nat} (hI : gm_nxt S = gm_fnd S (S 3 - n) (n + 1)) (hn : n < S 3) (hr : gm_rdy S ((S 4 + (n + 1)) % S 3) = false) : gm_nxt S = gm_fnd S (S 3 - (n + 1)) (n + 1 + 1) := by
  rw [hI, show S 3 - n = (S 3 - (n + 1)) + 1 by omega, gm_fnd, hr]; rfl
theorem c6_goesTo {x : Int64} (hK : ∀ i, i ≠ 11 → i ≠ 12 → S i ≤ K) (hK2 : K < 2 ^ 26) (h3 : S 3 ≤ 4) (h31 : 1 ≤ S 3) (h4 : S 4 < S 3) (h10 : S 10 < S 3) : sm_F G mX6_goesTo 4 [.ref m] (sm_om G h m F (va_up X 2 x) (sm_as A S) L) (.inl none) (sm_om G h m F (va_up X 2 (gm_go false S x).2) (sm_as A (gm_go false S x).1) L) := by
  unfold sm_F sm_C
  show sm_V G _ _ _ 0 0 0 [(0, .ref m)] [] _
  refine sv_aload_n dX6_goesTo_0 rfl ?_
  refine rm_get1 rfl dX6_goesTo_1 ?_
  refine sv_iconst (nI 4) dX6_goesTo_4 (by decide) ?_
  refine rm_ld1N dX6_goesTo_5 (by omega) ?_
  refine sv_istore_n (lv' := [(1, _), (0, _)]) dX6_goesTo_6 (by decide) rfl ?_
  refine sv_iconst (nI 1) dX6_goesTo_7 (by decide) ?_
  refine sv_istore_n (lv' := [(2, _), (1, _), (0, _)]) dX6_goesTo_8 (by decide) rfl ?_
  refine sv_sub [0, 2, 1] rfl (sv_loop (pc := 9) (lv := fun n => [(2, .int (nI (n + 1))), (0, .ref m), (1, .int (nI (S 4)))]) (hp := fun n => (sm_om G h m F (va_up X 2 x) (sm_as A S) L)) (I := fun n => gm_nxt S = gm_fnd S (S 3 - n) (n + 1)) (N := S 3) (rfl) ?_ ?_)
  · intro hI
    show sm_V G _ _ _ _ _ _ [(2, .int (nI ((S 3) + 1))), (0, .ref m), (1, .int (nI (S 4)))] [] (sm_om G h m F (va_up X 2 x) (sm_as A S) L)
    refine sv_iload_n dX6_goesTo_9 rfl ?_
    refine sv_aload_n dX6_goesTo_10 rfl ?_
    refine rm_get1 rfl dX6_goesTo_11 ?_
    refine sv_iconst (nI 3) dX6_goesTo_14 (by decide) ?_
    refine rm_ld1N dX6_goesTo_15 (by omega) ?_
    refine sv_icmpN_gt 64 dX6_goesTo_16 (by decide) (by omega) (by omega) (fun c_16 => ?_) (fun c_16 => absurd c_16 (by omega))
    refine sv_aload_n dX6_goesTo_64 rfl ?_
    refine sv_callV (As := []) sc_X6_96 (c6_endsRound hK hK2 h3 h10) rfl rfl (Nat.le_of_ble_eq_true rfl) dX6_goesTo_65 ⟨by decide, by decide⟩ ⟨Nat.le_refl _, Nat.le_refl _⟩ (Nat.le_of_ble_eq_true rfl) om_0 (List.cons_ne_nil _ _) rfl ?_
    refine sv_vret dX6_goesTo_68 rfl (Nat.le_refl _) (Nat.le_refl _) ?_
    have e4 : gm_nxt S = 4 := by rw [hI, Nat.sub_self]; rfl
    exact ⟨rfl, by rw [show gm_go false S x = (gm_end false S x, gm_nx x) from if_pos e4]⟩
  · intro n hn hI ih
    show sm_V G _ _ _ _ _ _ [(2, .int (nI (n + 1))), (0, .ref m), (1, .int (nI (S 4)))] [] (sm_om G h m F (va_up X 2 x) (sm_as A S) L)
    have hm : (S 4 + (n + 1)) % S 3 < S 3 := Nat.mod_lt _ (by omega)
    have b6 := hK (13 + 8 * ((S 4 + (n + 1)) % S 3) + 6) (by omega) (by omega); have b7 := hK (13 + 8 * ((S 4 + (n + 1)) % S 3) + 7) (by omega) (by omega)
    refine sv_iload_n dX6_goesTo_9 rfl ?_
    refine sv_aload_n dX6_goesTo_10 rfl ?_
    refine rm_get1 rfl dX6_goesTo_11 ?_
    refine sv_iconst (nI 3) dX6_goesTo_14 (by decide) ?_
    refine rm_ld1N dX6_goesTo_15 (by omega) ?_
    refine sv_icmpN_gt 64 dX6_goesTo_16 (by decide) (by omega) (by omega) (fun c_16 => absurd c_16 (by omega)) (fun c_16 => ?_)
    refine sv_iload_n dX6_goesTo_19 rfl ?_
    refine sv_iload_n dX6_goesTo_20 rfl ?_
    refine sv_iaddN dX6_goesTo_21 ?_
    refine sv_aload_n dX6_goesTo_22 rfl ?_
    refine rm_get1 rfl dX6_goesTo_23 ?_
    refine sv_iconst (nI 3) dX6_goesTo_26 (by decide) ?_
    refine rm_ld1N dX6_goesTo_27 (by omega) ?_
    refine sv_iremN dX6_goesTo_28 (by omega) (by omega) (by omega) ?_
    refine sv_istore_n (lv' := [(3, _), (2, _), (0, _), (1, _)]) dX6_goesTo_29 (by decide) rfl ?_
    refine sv_aload_n dX6_goesTo_30 rfl ?_
    refine sv_iload_n dX6_goesTo_31 rfl ?_
    refine sv_bipush (nI 6) dX6_goesTo_32 (by decide) ?_
    refine sv_callV (As := [_, _]) sc_X6_78 (c6_of (by omega)) rfl rfl (Nat.le_of_ble_eq_true rfl) dX6_goesTo_34 ⟨by decide, by decide⟩ ⟨Nat.le_refl _, Nat.le_refl _⟩ (Nat.le_of_ble_eq_true rfl) om_0 (List.cons_ne_nil _ _) rfl ?_
    refine sv_ifN_le 58 dX6_goesTo_37 (by decide) (by omega) (fun c_37 => ?_) (fun c_37 => ?_)
    · refine sv_iinc1 (lv' := [(2, _), (3, _), (0, _), (1, _)]) dX6_goesTo_58 rfl (by decide) rfl ?_
      refine sv_goto 9 dX6_goesTo_61 (by decide) ?_
      exact sv_sub [0, 2, 3] rfl (ih (gm_fnd_f hI hn (decide_eq_false (by omega))))
    · refine sv_aload_n dX6_goesTo_40 rfl ?_
      refine sv_iload_n dX6_goesTo_41 rfl ?_
      refine sv_bipush (nI 7) dX6_goesTo_42 (by decide) ?_
      refine sv_callV (As := [_, _]) sc_X6_78 (c6_of (by omega)) rfl rfl (Nat.le_of_ble_eq_true rfl) dX6_goesTo_44 ⟨by decide, by decide⟩ ⟨Nat.le_refl _, Nat.le_refl _⟩ (Nat.le_of_ble_eq_true rfl) om_0 (List.cons_ne_nil _ _) rfl ?_
      refine sv_ifN_ne 58 dX6_goesTo_47 (by decide) (by omega) (fun c_47 => ?_) (fun c_47 => ?_)
      · refine sv_iinc1 (lv' := [(2, _), (3, _), (0, _), (1, _)]) dX6_goesTo_58 rfl (by decide) rfl ?_
        refine sv_goto 9 dX6_goesTo_61 (by decide) ?_
        exact sv_sub [0, 2, 3] rfl (ih (gm_fnd_f hI hn (decide_eq_false (by omega))))
      · refine sv_aload_n dX6_goesTo_50 rfl ?_
        refine rm_get1 rfl dX6_goesTo_51 ?_
        refine sv_iconst (nI 4) dX6_goesTo_54 (by decide) ?_
        refine sv_iload_n dX6_goesTo_55 rfl ?_
        refine rm_st1N dX6_goesTo_56 (by omega) ?_
        refine sv_vret dX6_goesTo_57 rfl (Nat.le_refl _) (Nat.le_refl _) ?_
        have e := gm_fnd_t hI hn (decide_eq_true ⟨by omega, by omega⟩)
        exact ⟨rfl, by rw [show gm_go false S x = (va_up S 4 (gm_nxt S), x) from if_neg (by omega), e]⟩
theorem c6_passes {x : Int64} (hK : ∀ i, i ≠ 11 → i ≠ 12 → S i ≤ K) (hK2 : K < 2 ^ 26) (hK1 : 1 ≤ K) (h3 : S 3 ≤ 4) (h31 : 1 ≤ S 3) (h4 : S 4 < S 3) (h10 : S 10 < S 3) : sm_F G mX6_passes 5 [.ref m] (sm_om G h m F (va_up X 2 x) (sm_as A S) L) (.inl none) (sm_om G h m F (va_up X 2 (gm_pass false S x).2) (sm_as A (gm_pass false S x).1) L) := by
  unfold sm_F sm_C
  show sm_V G _ _ _ 0 0 0 [(0, .ref m)] [] _
  refine sv_aload_n dX6_passes_0 rfl ?_
  refine rm_get1 rfl dX6_passes_1 ?_
  refine sv_bipush (nI 13) dX6_passes_4 (by decide) ?_
  refine sv_bipush (nI 8) dX6_passes_6 (by decide) ?_
  refine sv_aload_n dX6_passes_8 rfl ?_
  refine rm_get1 rfl dX6_passes_9 ?_
  refine sv_iconst (nI 4) dX6_passes_12 (by decide) ?_
  refine rm_ld1N dX6_passes_13 (by omega) ?_
  refine sv_imulN dX6_passes_14 ?_
  refine sv_iaddN dX6_passes_15 ?_
  refine sv_bipush (nI 7) dX6_passes_16 (by decide) ?_
  refine sv_iaddN dX6_passes_18 ?_
  refine sv_iconst (nI 1) dX6_passes_19 (by decide) ?_
  refine rm_st1N dX6_passes_20 (by omega) ?_
  refine sv_aload_n dX6_passes_21 rfl ?_
  refine sv_callV (As := []) sc_X6_158 (c6_goesTo (S := va_up S (13 + 8 * S 4 + 7) 1) (K := K) (fun i a b => by unfold va_up; split; exact hK1; exact hK i a b) hK2 (by rw [up_ne (by omega)]; omega) (by rw [up_ne (by omega)]; omega) (by rw [up_ne (by omega), up_ne (by omega)]; omega) (by rw [up_ne (by omega), up_ne (by omega)]; omega)) rfl rfl (Nat.le_of_ble_eq_true rfl) dX6_passes_22 ⟨by decide, by decide⟩ ⟨Nat.le_refl _, Nat.le_refl _⟩ (Nat.le_of_ble_eq_true rfl) om_0 (List.cons_ne_nil _ _) rfl ?_
  refine sv_vret dX6_passes_25 rfl (Nat.le_refl _) (Nat.le_refl _) ?_
  exact ⟨rfl, rfl⟩
theorem c6_inR {a b c : Int32} : sm_F G mX6_in 0 [.int a, .int b, .int c] h (.inl (some (.int (nI (b2n (decide (b ≤ a ∧ a ≤ c))))))) h := by
  unfold sm_F sm_C
  show sm_V G _ _ _ 0 0 0 [(0, .int a), (1, .int b), (2, .int c)] [] _
  refine sv_iload_n dX6_in_0 rfl ?_
  refine sv_iload_n dX6_in_1 rfl ?_
  refine sv_icmp_lt 14 dX6_in_2 (by decide) (fun c_2 => ?_) (fun c_2 => ?_)
  · refine sv_iconst (nI 0) dX6_in_14 (by decide) ?_
    refine sv_iret dX6_in_15 rfl rfl (Nat.le_refl _) (Nat.le_refl _) ?_
    exact ⟨rf0 (fun z => absurd z.1 (Int32.not_le.mpr c_2)), rfl⟩
  · refine sv_iload_n dX6_in_5 rfl ?_
    refine sv_iload_n dX6_in_6 rfl ?_
    refine sv_icmp_gt 14 dX6_in_7 (by decide) (fun c_7 => ?_) (fun c_7 => ?_)
    · refine sv_iconst (nI 0) dX6_in_14 (by decide) ?_
      refine sv_iret dX6_in_15 rfl rfl (Nat.le_refl _) (Nat.le_refl _) ?_
      exact ⟨rf0 (fun z => absurd z.2 (Int32.not_le.mpr c_7)), rfl⟩
    · refine sv_iconst (nI 1) dX6_in_10 (by decide) ?_
      refine sv_goto 15 dX6_in_11 (by decide) ?_
      refine sv_iret dX6_in_15 rfl rfl (Nat.le_refl _) (Nat.le_refl _) ?_
      exact ⟨rt1 ⟨Int32.not_lt.mp c_2, Int32.not_lt.mp c_7⟩, rfl⟩
/-- which choices there are -/
def gm_ch (q c : Nat) : Bool := if q = 2 then decide (1 ≤ c ∧ c ≤ 3) else if q = 3 then decide (1 ≤ c ∧ c ≤ 23 ∧ 1 ≤ c % 10 ∧ c % 10 ≤ 3) else decide (c = 0)
def gm_chR (q : Nat) (c : Int32) : Bool := if q = 2 then decide (nI 1 ≤ c ∧ c ≤ nI 3) else if q = 3 then decide (nI 1 ≤ c ∧ c ≤ nI 23) && decide (nI 1 ≤ c - c / nI 10 * nI 10 ∧ c - c / nI 10 * nI 10 ≤ nI 3) else decide (c = 0)
theorem gm_chR_n {q k : Nat} (hk : k < 2 ^ 31) : gm_chR q (nI k) = gm_ch q k := by
  unfold gm_chR gm_ch
  have h1 : (nI 1 ≤ nI k) = (1 ≤ k) := propext (nI_leI (by decide) hk)
  have h2 : (nI k ≤ nI 3) = (k ≤ 3) := propext (nI_leI hk (by decide))
  have h3 : (nI k ≤ nI 23) = (k ≤ 23) := propext (nI_leI hk (by decide))
  have h4 : (nI 1 ≤ nI (k % 10)) = (1 ≤ k % 10) := propext (nI_leI (by decide) (by omega))
  have h5 : (nI (k % 10) ≤ nI 3) = (k % 10 ≤ 3) := propext (nI_leI (by omega) (by decide))
  have h6 : (nI k = 0) = (k = 0) := propext (sm_n0 hk)
  have h7 : nI k - nI k / nI 10 * nI 10 = nI (k % 10) := pk_rem hk (by decide) (by decide)
  simp only [h7, h1, h2, h3, h4, h5, h6]
  (repeat' split) <;> first | rfl | (rw [Bool.eq_iff_iff]; simp only [Bool.and_eq_true, decide_eq_true_eq]; omega)
theorem gm_chR_o {q : Nat} {c : Int32} (h : ¬ ∃ k, k < 24 ∧ c = nI k) : gm_chR q c = false := by
  have key : ∀ n, n < 24 → ¬ (nI 0 ≤ c ∧ c ≤ nI n) := by
    intro n hn z
    obtain ⟨j, hj, e⟩ := nI_of (x := c) (by rw [← nI_0]; exact Int32.not_lt.mpr z.1)
    refine h ⟨j, ?_, e⟩
    have := z.2
    rw [e, nI_leI hj (by omega)] at this
    omega
  have h01 : nI 0 ≤ nI 1 := by decide
  unfold gm_chR
  (repeat' split)
  · exact decide_eq_false (fun z => key 3 (by omega) ⟨Int32.le_trans h01 z.1, z.2⟩)
  · rw [decide_eq_false (fun z => key 23 (by omega) ⟨Int32.le_trans h01 z.1, z.2⟩)]; rfl
  · exact decide_eq_false (fun z => h ⟨0, by omega, z⟩)
theorem c6_isChoice {q : Nat} {c : Int32} (hq : q < 2 ^ 31) : sm_F G mX6_isChoice 1 [.int (nI q), .int c] h (.inl (some (.int (nI (b2n (gm_chR q c)))))) h := by
  unfold sm_F sm_C
  show sm_V G _ _ _ 0 0 0 [(0, .int (nI q)), (1, .int c)] [] _
  refine sv_iload_n dX6_isChoice_0 rfl ?_
  refine sv_iconst (nI 2) dX6_isChoice_1 (by decide) ?_
  refine sv_icmpN_ne 12 dX6_isChoice_2 (by decide) (by first | omega | (have z := b2n_lt (decide (nI 1 ≤ c ∧ c ≤ nI 23)); omega) | (have z := b2n_lt (decide (nI 1 ≤ c - c / nI 10 * nI 10 ∧ c - c / nI 10 * nI 10 ≤ nI 3)); omega)) (by first | omega | (have z := b2n_lt (decide (nI 1 ≤ c ∧ c ≤ nI 23)); omega) | (have z := b2n_lt (decide (nI 1 ≤ c - c / nI 10 * nI 10 ∧ c - c / nI 10 * nI 10 ≤ nI 3)); omega)) (fun c_2 => ?_) (fun c_2 => ?_)
  · refine sv_iload_n dX6_isChoice_12 rfl ?_
    refine sv_iconst (nI 3) dX6_isChoice_13 (by decide) ?_
    refine sv_icmpN_ne 47 dX6_isChoice_14 (by decide) (by first | omega | (have z := b2n_lt (decide (nI 1 ≤ c ∧ c ≤ nI 23)); omega) | (have z := b2n_lt (decide (nI 1 ≤ c - c / nI 10 * nI 10 ∧ c - c / nI 10 * nI 10 ≤ nI 3)); omega)) (by first | omega | (have z := b2n_lt (decide (nI 1 ≤ c ∧ c ≤ nI 23)); omega) | (have z := b2n_lt (decide (nI 1 ≤ c - c / nI 10 * nI 10 ∧ c - c / nI 10 * nI 10 ≤ nI 3)); omega)) (fun c_14 => ?_) (fun c_14 => ?_)
    · refine sv_iload_n dX6_isChoice_47 rfl ?_
      refine sv_if_ne 55 dX6_isChoice_48 (by decide) (fun c_48 => ?_) (fun c_48 => ?_)
      · refine sv_iconst (nI 0) dX6_isChoice_55 (by decide) ?_
        refine sv_iret dX6_isChoice_56 rfl rfl (Nat.le_refl _) (Nat.le_refl _) ?_
        refine ⟨?_, rfl⟩
        first
          | exact (by unfold gm_chR; rw [if_neg c_2, if_neg c_14]; first | exact rt1 c_48 | exact rf0 c_48)
          | exact (by unfold gm_chR; rw [if_neg c_2, if_pos (by omega)]; first | (rw [b2n_f c_24]; rfl) | (rw [b2n_1 c_24, b2n_f c_36]; rfl) | (rw [b2n_1 c_24, b2n_1 c_36]; rfl))
      · refine sv_iconst (nI 1) dX6_isChoice_51 (by decide) ?_
        refine sv_goto 56 dX6_isChoice_52 (by decide) ?_
        refine sv_iret dX6_isChoice_56 rfl rfl (Nat.le_refl _) (Nat.le_refl _) ?_
        refine ⟨?_, rfl⟩
        first
          | exact (by unfold gm_chR; rw [if_neg c_2, if_neg c_14]; first | exact rt1 c_48 | exact rf0 c_48)
          | exact (by unfold gm_chR; rw [if_neg c_2, if_pos (by omega)]; first | (rw [b2n_f c_24]; rfl) | (rw [b2n_1 c_24, b2n_f c_36]; rfl) | (rw [b2n_1 c_24, b2n_1 c_36]; rfl))
    · refine sv_iload_n dX6_isChoice_17 rfl ?_
      refine sv_iconst (nI 1) dX6_isChoice_18 (by decide) ?_
      refine sv_bipush (nI 23) dX6_isChoice_19 (by decide) ?_
      refine sv_callS (As := [_, _, _]) sc_X6_53 (c6_inR) rfl rfl (Nat.le_of_ble_eq_true rfl) dX6_isChoice_21 ⟨by decide, by decide⟩ ⟨Nat.le_refl _, Nat.le_refl _⟩ (Nat.le_of_ble_eq_true rfl) ?_
      refine sv_ifN_eq 43 dX6_isChoice_24 (by decide) (by first | omega | (have z := b2n_lt (decide (nI 1 ≤ c ∧ c ≤ nI 23)); omega) | (have z := b2n_lt (decide (nI 1 ≤ c - c / nI 10 * nI 10 ∧ c - c / nI 10 * nI 10 ≤ nI 3)); omega)) (fun c_24 => ?_) (fun c_24 => ?_)
      · refine sv_iconst (nI 0) dX6_isChoice_43 (by decide) ?_
        refine sv_goto 56 dX6_isChoice_44 (by decide) ?_
        refine sv_iret dX6_isChoice_56 rfl rfl (Nat.le_refl _) (Nat.le_refl _) ?_
        refine ⟨?_, rfl⟩
        first
          | exact (by unfold gm_chR; rw [if_neg c_2, if_neg c_14]; first | exact rt1 c_48 | exact rf0 c_48)
          | exact (by unfold gm_chR; rw [if_neg c_2, if_pos (by omega)]; first | (rw [b2n_f c_24]; rfl) | (rw [b2n_1 c_24, b2n_f c_36]; rfl) | (rw [b2n_1 c_24, b2n_1 c_36]; rfl))
      · refine sv_iload_n dX6_isChoice_27 rfl ?_
        refine sv_bipush (nI 10) dX6_isChoice_28 (by decide) ?_
        refine sv_irem dX6_isChoice_30 (by decide) ?_
        refine sv_iconst (nI 1) dX6_isChoice_31 (by decide) ?_
        refine sv_iconst (nI 3) dX6_isChoice_32 (by decide) ?_
        refine sv_callS (As := [_, _, _]) sc_X6_53 (c6_inR) rfl rfl (Nat.le_of_ble_eq_true rfl) dX6_isChoice_33 ⟨by decide, by decide⟩ ⟨Nat.le_refl _, Nat.le_refl _⟩ (Nat.le_of_ble_eq_true rfl) ?_
        refine sv_ifN_eq 43 dX6_isChoice_36 (by decide) (by first | omega | (have z := b2n_lt (decide (nI 1 ≤ c ∧ c ≤ nI 23)); omega) | (have z := b2n_lt (decide (nI 1 ≤ c - c / nI 10 * nI 10 ∧ c - c / nI 10 * nI 10 ≤ nI 3)); omega)) (fun c_36 => ?_) (fun c_36 => ?_)
        · refine sv_iconst (nI 0) dX6_isChoice_43 (by decide) ?_
          refine sv_goto 56 dX6_isChoice_44 (by decide) ?_
          refine sv_iret dX6_isChoice_56 rfl rfl (Nat.le_refl _) (Nat.le_refl _) ?_
          refine ⟨?_, rfl⟩
          first
            | exact (by unfold gm_chR; rw [if_neg c_2, if_neg c_14]; first | exact rt1 c_48 | exact rf0 c_48)
            | exact (by unfold gm_chR; rw [if_neg c_2, if_pos (by omega)]; first | (rw [b2n_f c_24]; rfl) | (rw [b2n_1 c_24, b2n_f c_36]; rfl) | (rw [b2n_1 c_24, b2n_1 c_36]; rfl))
        · refine sv_iconst (nI 1) dX6_isChoice_39 (by decide) ?_
          refine sv_goto 56 dX6_isChoice_40 (by decide) ?_
          refine sv_iret dX6_isChoice_56 rfl rfl (Nat.le_refl _) (Nat.le_refl _) ?_
          refine ⟨?_, rfl⟩
          first
            | exact (by unfold gm_chR; rw [if_neg c_2, if_neg c_14]; first | exact rt1 c_48 | exact rf0 c_48)
            | exact (by unfold gm_chR; rw [if_neg c_2, if_pos (by omega)]; first | (rw [b2n_f c_24]; rfl) | (rw [b2n_1 c_24, b2n_f c_36]; rfl) | (rw [b2n_1 c_24, b2n_1 c_36]; rfl))
  · refine sv_iload_n dX6_isChoice_5 rfl ?_
    refine sv_iconst (nI 1) dX6_isChoice_6 (by decide) ?_
    refine sv_iconst (nI 3) dX6_isChoice_7 (by decide) ?_
    refine sv_callS (As := [_, _, _]) sc_X6_53 (c6_inR) rfl rfl (Nat.le_of_ble_eq_true rfl) dX6_isChoice_8 ⟨by decide, by decide⟩ ⟨Nat.le_refl _, Nat.le_refl _⟩ (Nat.le_of_ble_eq_true rfl) ?_
    refine sv_iret dX6_isChoice_11 rfl (nar_b (b2n_lt _)) (Nat.le_refl _) (Nat.le_refl _) ?_
    exact ⟨by rw [gm_chR, if_pos (by omega)], rfl⟩
theorem c6_canWork {q c n : Nat} (hq : q < 6) (hc : c < 24) (hn : n < 2 ^ 31) (h4 : S 4 < 4) (hK : ∀ i, i ≠ 11 → i ≠ 12 → S i ≤ K) (hK2 : K < 2 ^ 26) (hg : q = 3 → c / 10 < 3) : sm_F G mX6_canWork 1 [.ref m, .int (nI q), .int (nI c), .int (nI n)] (sm_om G h m F X (sm_as A S) L) (.inl (some (.int (nI (b2n (gm_wk S q c n)))))) (sm_om G h m F X (sm_as A S) L) := by
  unfold sm_F sm_C
  show sm_V G _ _ _ 0 0 0 [(0, .ref m), (1, .int (nI q)), (2, .int (nI c)), (3, .int (nI n))] [] _
  have b2 := hK (13 + 8 * S 4 + 2) (by omega) (by omega); have b4 := hK (13 + 8 * S 4 + 4) (by omega) (by omega); have b5 := hK (13 + 8 * S 4 + 5) (by omega) (by omega); have b1 := hK (13 + 8 * S 4 + (1 + c / 10)) (by omega) (by omega)
  refine sv_aload_n dX6_canWork_0 rfl ?_
  refine rm_get1 rfl dX6_canWork_1 ?_
  refine sv_iconst (nI 4) dX6_canWork_4 (by decide) ?_
  refine rm_ld1N dX6_canWork_5 (by omega) ?_
  refine sv_istore (lv' := [(4, _), (0, _), (1, _), (2, _), (3, _)]) dX6_canWork_6 (by decide) rfl ?_
  refine sv_iload_n dX6_canWork_8 rfl ?_
  rcases (show q = 0 ∨ q = 1 ∨ q = 2 ∨ q = 3 ∨ q = 4 ∨ q = 5 from by omega) with rfl | rfl | rfl | rfl | rfl | rfl
  · refine sv_tableOut 132 dX6_canWork_9 (by decide) (by decide) ?_
    refine sv_iconst (nI 1) dX6_canWork_132 (by decide) ?_
    refine sv_iret dX6_canWork_133 rfl rfl (Nat.le_refl _) (Nat.le_refl _) ?_
    first | exact ⟨rt1 (by simp; try omega), rfl⟩ | exact ⟨rf0 (by simp; try omega), rfl⟩
  · refine sv_tableOut 132 dX6_canWork_9 (by decide) (by decide) ?_
    refine sv_iconst (nI 1) dX6_canWork_132 (by decide) ?_
    refine sv_iret dX6_canWork_133 rfl rfl (Nat.le_refl _) (Nat.le_refl _) ?_
    first | exact ⟨rt1 (by simp; try omega), rfl⟩ | exact ⟨rf0 (by simp; try omega), rfl⟩
  · refine sv_tableIn (off := 31) 40 dX6_canWork_9 (by decide) (by decide) (by decide) (by decide) ?_
    refine sv_aload_n dX6_canWork_40 rfl ?_
    refine sv_iload dX6_canWork_41 rfl ?_
    refine sv_iconst (nI 2) dX6_canWork_43 (by decide) ?_
    refine sv_callV (As := [_, _]) sc_X6_78 (c6_of (by omega)) rfl rfl (Nat.le_of_ble_eq_true rfl) dX6_canWork_44 ⟨by decide, by decide⟩ ⟨Nat.le_refl _, Nat.le_refl _⟩ (Nat.le_of_ble_eq_true rfl) om_0 (List.cons_ne_nil _ _) rfl ?_
    refine sv_iload_n dX6_canWork_47 rfl ?_
    refine sv_icmpN_lt 60 dX6_canWork_48 (by decide) (by omega) (by omega) (fun c_48 => ?_) (fun c_48 => ?_)
    · refine sv_iconst (nI 0) dX6_canWork_60 (by decide) ?_
      refine sv_iret dX6_canWork_61 rfl rfl (Nat.le_refl _) (Nat.le_refl _) ?_
      first | exact ⟨rt1 (by simp; try omega), rfl⟩ | exact ⟨rf0 (by simp; try omega), rfl⟩
    · refine sv_iload_n dX6_canWork_51 rfl ?_
      refine sv_iload_n dX6_canWork_52 rfl ?_
      refine sv_icmpN_lt 60 dX6_canWork_53 (by decide) (by omega) (by omega) (fun c_53 => ?_) (fun c_53 => ?_)
      · refine sv_iconst (nI 0) dX6_canWork_60 (by decide) ?_
        refine sv_iret dX6_canWork_61 rfl rfl (Nat.le_refl _) (Nat.le_refl _) ?_
        first | exact ⟨rt1 (by simp; try omega), rfl⟩ | exact ⟨rf0 (by simp; try omega), rfl⟩
      · refine sv_iconst (nI 1) dX6_canWork_56 (by decide) ?_
        refine sv_goto 61 dX6_canWork_57 (by decide) ?_
        refine sv_iret dX6_canWork_61 rfl rfl (Nat.le_refl _) (Nat.le_refl _) ?_
        first | exact ⟨rt1 (by simp; try omega), rfl⟩ | exact ⟨rf0 (by simp; try omega), rfl⟩
  · refine sv_tableIn (off := 53) 62 dX6_canWork_9 (by decide) (by decide) (by decide) (by decide) ?_
    refine sv_aload_n dX6_canWork_62 rfl ?_
    refine sv_iload dX6_canWork_63 rfl ?_
    refine sv_iconst (nI 1) dX6_canWork_65 (by decide) ?_
    refine sv_iload_n dX6_canWork_66 rfl ?_
    refine sv_bipush (nI 10) dX6_canWork_67 (by decide) ?_
    refine sv_idivN dX6_canWork_69 (by omega) (by omega) (by omega) ?_
    refine sv_iaddN dX6_canWork_70 ?_
    refine sv_callV (As := [_, _]) sc_X6_78 (c6_of (by omega)) rfl rfl (Nat.le_of_ble_eq_true rfl) dX6_canWork_71 ⟨by decide, by decide⟩ ⟨Nat.le_refl _, Nat.le_refl _⟩ (Nat.le_of_ble_eq_true rfl) om_0 (List.cons_ne_nil _ _) rfl ?_
    refine sv_iload_n dX6_canWork_74 rfl ?_
    refine sv_bipush (nI 10) dX6_canWork_75 (by decide) ?_
    refine sv_iremN dX6_canWork_77 (by omega) (by omega) (by omega) ?_
    refine sv_icmpN_lt 85 dX6_canWork_78 (by decide) (by omega) (by omega) (fun c_78 => ?_) (fun c_78 => ?_)
    · refine sv_iconst (nI 0) dX6_canWork_85 (by decide) ?_
      refine sv_iret dX6_canWork_86 rfl rfl (Nat.le_refl _) (Nat.le_refl _) ?_
      first | exact ⟨rt1 (by simp; try omega), rfl⟩ | exact ⟨rf0 (by simp; try omega), rfl⟩
    · refine sv_iconst (nI 1) dX6_canWork_81 (by decide) ?_
      refine sv_goto 86 dX6_canWork_82 (by decide) ?_
      refine sv_iret dX6_canWork_86 rfl rfl (Nat.le_refl _) (Nat.le_refl _) ?_
      first | exact ⟨rt1 (by simp; try omega), rfl⟩ | exact ⟨rf0 (by simp; try omega), rfl⟩
  · refine sv_tableIn (off := 78) 87 dX6_canWork_9 (by decide) (by decide) (by decide) (by decide) ?_
    refine sv_iload_n dX6_canWork_87 rfl ?_
    refine sv_iconst (nI 5) dX6_canWork_88 (by decide) ?_
    refine sv_icmpN_lt 107 dX6_canWork_89 (by decide) (by omega) (by omega) (fun c_89 => ?_) (fun c_89 => ?_)
    · refine sv_iconst (nI 0) dX6_canWork_107 (by decide) ?_
      refine sv_iret dX6_canWork_108 rfl rfl (Nat.le_refl _) (Nat.le_refl _) ?_
      first | exact ⟨rt1 (by simp; try omega), rfl⟩ | exact ⟨rf0 (by simp; try omega), rfl⟩
    · refine sv_aload_n dX6_canWork_92 rfl ?_
      refine sv_iload dX6_canWork_93 rfl ?_
      refine sv_iconst (nI 5) dX6_canWork_95 (by decide) ?_
      refine sv_callV (As := [_, _]) sc_X6_78 (c6_of (by omega)) rfl rfl (Nat.le_of_ble_eq_true rfl) dX6_canWork_96 ⟨by decide, by decide⟩ ⟨Nat.le_refl _, Nat.le_refl _⟩ (Nat.le_of_ble_eq_true rfl) om_0 (List.cons_ne_nil _ _) rfl ?_
      refine sv_iconst (nI 5) dX6_canWork_99 (by decide) ?_
      refine sv_icmpN_ge 107 dX6_canWork_100 (by decide) (by omega) (by omega) (fun c_100 => ?_) (fun c_100 => ?_)
      · refine sv_iconst (nI 0) dX6_canWork_107 (by decide) ?_
        refine sv_iret dX6_canWork_108 rfl rfl (Nat.le_refl _) (Nat.le_refl _) ?_
        first | exact ⟨rt1 (by simp; try omega), rfl⟩ | exact ⟨rf0 (by simp; try omega), rfl⟩
      · refine sv_iconst (nI 1) dX6_canWork_103 (by decide) ?_
        refine sv_goto 108 dX6_canWork_104 (by decide) ?_
        refine sv_iret dX6_canWork_108 rfl rfl (Nat.le_refl _) (Nat.le_refl _) ?_
        first | exact ⟨rt1 (by simp; try omega), rfl⟩ | exact ⟨rf0 (by simp; try omega), rfl⟩
  · refine sv_tableIn (off := 100) 109 dX6_canWork_9 (by decide) (by decide) (by decide) (by decide) ?_
    refine sv_iload_n dX6_canWork_109 rfl ?_
    refine sv_iconst (nI 2) dX6_canWork_110 (by decide) ?_
    refine sv_icmpN_lt 130 dX6_canWork_111 (by decide) (by omega) (by omega) (fun c_111 => ?_) (fun c_111 => ?_)
    · refine sv_iconst (nI 0) dX6_canWork_130 (by decide) ?_
      refine sv_iret dX6_canWork_131 rfl rfl (Nat.le_refl _) (Nat.le_refl _) ?_
      first | exact ⟨rt1 (by simp; try omega), rfl⟩ | exact ⟨rf0 (by simp; try omega), rfl⟩
    · refine sv_aload_n dX6_canWork_114 rfl ?_
      refine sv_iload dX6_canWork_115 rfl ?_
      refine sv_iconst (nI 4) dX6_canWork_117 (by decide) ?_
      refine sv_callV (As := [_, _]) sc_X6_78 (c6_of (by omega)) rfl rfl (Nat.le_of_ble_eq_true rfl) dX6_canWork_118 ⟨by decide, by decide⟩ ⟨Nat.le_refl _, Nat.le_refl _⟩ (Nat.le_of_ble_eq_true rfl) om_0 (List.cons_ne_nil _ _) rfl ?_
      refine sv_bipush (nI 30) dX6_canWork_121 (by decide) ?_
      refine sv_icmpN_ge 130 dX6_canWork_123 (by decide) (by omega) (by omega) (fun c_123 => ?_) (fun c_123 => ?_)
      · refine sv_iconst (nI 0) dX6_canWork_130 (by decide) ?_
        refine sv_iret dX6_canWork_131 rfl rfl (Nat.le_refl _) (Nat.le_refl _) ?_
        first | exact ⟨rt1 (by simp; try omega), rfl⟩ | exact ⟨rf0 (by simp; try omega), rfl⟩
      · refine sv_iconst (nI 1) dX6_canWork_126 (by decide) ?_
        refine sv_goto 131 dX6_canWork_127 (by decide) ?_
        refine sv_iret dX6_canWork_131 rfl rfl (Nat.le_refl _) (Nat.le_refl _) ?_
        first | exact ⟨rt1 (by simp; try omega), rfl⟩ | exact ⟨rf0 (by simp; try omega), rfl⟩
theorem gm_bk_le (S : gm_S) (q : Nat) : gm_bk S q ≤ 3 := by unfold gm_bk; (repeat' split) <;> omega
theorem gm_bk_lt {S : gm_S} {q : Nat} (h : gm_bk S q ≠ 3) : gm_bk S q < S (45 + 4 * q) ∧ S (45 + 4 * q + 1 + gm_bk S q) ≠ S 4 := by
  revert h; unfold gm_bk; (repeat' split) <;> intro h <;> first | (refine ⟨by omega, ?_⟩; simp_all) | exact absurd rfl h
theorem gm_bki_m1 (S : gm_S) (q : Nat) : gm_bki S q = -1 ↔ gm_bk S q = 3 := by
  have := gm_bk_le S q
  unfold gm_bki
  split
  · simp_all
  · rename_i h
    refine ⟨fun e => ?_, fun e => absurd e h⟩
    have hh : gm_bk S q = 0 ∨ gm_bk S q = 1 ∨ gm_bk S q = 2 := by omega
    rcases hh with z | z | z <;> rw [z] at e <;> exact absurd e (by decide)
theorem gm_can_full {c q : Nat} (h1 : gm_on S = true) (h2 : gm_full S q = true) : gm_can S q c = (decide (gm_bk S q ≠ 3) && decide (S 1 ≤ S (13 + 8 * S 4)) && gm_wk S q c (S (13 + 8 * S 4) - S 1)) := by simp [gm_can, gm_toll, h1, h2]
theorem gm_can_free {c q : Nat} (h1 : gm_on S = true) (h2 : gm_full S q = false) : gm_can S q c = gm_wk S q c (S (13 + 8 * S 4)) := by simp [gm_can, gm_toll, h1, h2]
theorem gm_can_off {c q : Nat} (h1 : gm_on S = false) : gm_can S q c = false := by simp [gm_can, h1]
/-- a game is on -/
def gm_J (K : Nat) (S : gm_S) : Prop := (1 ≤ S 0 ∧ S 0 ≤ 12 ∧ S 1 ≤ 5 ∧ 1 ≤ S 2 ∧ S 2 ≤ 3) ∧ (∀ i, i ≠ 11 → i ≠ 12 → S i ≤ K) ∧ K < 2 ^ 26 ∧ (∀ q, q < 6 → S (45 + 4 * q) ≤ 3) ∧
   2 ≤ S 3 ∧ S 3 ≤ 4 ∧ S 4 < S 3 ∧ 1 ≤ S 5 ∧ S 5 ≤ 6 ∧ S 6 ≤ 12 ∧ (∀ g, g < 3 → 1 ≤ S (7 + g) ∧ S (7 + g) ≤ 9) ∧ S 10 < S 3 ∧ (0 < S (13 + 8 * S 4 + 6) ∧ S (13 + 8 * S 4 + 7) = 0) ∧
    (∀ p, p < S 3 → S (13 + 8 * p + 4) ≤ 32 ∧ 1 ≤ S (13 + 8 * p + 5) ∧ S (13 + 8 * p + 5) ≤ 5 ∧ S (13 + 8 * p + 6) ≤ S (13 + 8 * p + 5) ∧ S (13 + 8 * p + 7) ≤ 1) ∧
    (∀ q k, q < 6 → k < S (45 + 4 * q) → S (45 + 4 * q + 1 + k) < S 3)
theorem gm_IJ (h : gm_I K S) (h3 : 0 < S 3) : gm_J K S := by
  obtain ⟨a, b, c, e, f | ⟨f1, f2, f3, f4, f5, f6, f7, f8, f9, f10, f11⟩⟩ := h
  · omega
  · exact ⟨a, b, c, e, f1, f2, f3, f4, f5, f6, f7, f8, of_decide_eq_true f9, f10, f11⟩
theorem gm_on_i {S : gm_S} (h : gm_on S = true) : 0 < S 3 ∧ S 6 < S 0 := of_decide_eq_true h
theorem c6_canPlace {q c : Nat} (hI : gm_I K S) (hq : q < 6) (hc : c < 24) (hg : q = 3 → c / 10 < 3) : sm_F G mX6_canPlace 2 [.ref m, .int (nI q), .int (nI c)] (sm_om G h m F X (sm_as A S) L) (.inl (some (.int (nI (b2n (gm_can S q c)))))) (sm_om G h m F X (sm_as A S) L) := by
  unfold sm_F sm_C
  show sm_V G _ _ _ 0 0 0 [(0, .ref m), (1, .int (nI q)), (2, .int (nI c))] [] _
  refine sv_aload_n dX6_canPlace_0 rfl ?_
  refine sv_callV (As := []) sc_X6_106 (c6_isOn (by have := hI.2.1 3 (by omega) (by omega); have := hI.2.2.1; omega) (by have := hI.2.1 6 (by omega) (by omega); have := hI.2.2.1; omega) (by have := hI.1; omega)) rfl rfl (Nat.le_of_ble_eq_true rfl) dX6_canPlace_1 ⟨by decide, by decide⟩ ⟨Nat.le_refl _, Nat.le_refl _⟩ (Nat.le_of_ble_eq_true rfl) om_0 (List.cons_ne_nil _ _) rfl ?_
  refine sv_ifN_ne 9 dX6_canPlace_4 (by decide) (by first | omega | (have z := b2n_lt (gm_on S); omega) | (have z := b2n_lt (gm_full S q); omega) | (have z := b2n_lt (gm_wk S q c (S (13 + 8 * S 4) - S 1)); omega) | (have z := b2n_lt (gm_wk S q c (S (13 + 8 * S 4))); omega)) (fun c_4 => ?_) (fun c_4 => ?_)
  · have hon := b2n_1 c_4
    obtain ⟨⟨j0, j01, j1, j2, j21⟩, jK, jK2, jw, j3, j31, j4, j5, j51, j6, jp, j10, ⟨jh, jps⟩, jpl, jow⟩ := gm_IJ hI (gm_on_i hon).1
    have b0 := jK (13 + 8 * S 4) (by omega) (by omega)
    have bw := jw q hq
    refine sv_aload_n dX6_canPlace_9 rfl ?_
    refine sv_aload_n dX6_canPlace_10 rfl ?_
    refine rm_get1 rfl dX6_canPlace_11 ?_
    refine sv_iconst (nI 4) dX6_canPlace_14 (by decide) ?_
    refine rm_ld1N dX6_canPlace_15 (by first | omega | (have z := b2n_lt (gm_on S); omega) | (have z := b2n_lt (gm_full S q); omega) | (have z := b2n_lt (gm_wk S q c (S (13 + 8 * S 4) - S 1)); omega) | (have z := b2n_lt (gm_wk S q c (S (13 + 8 * S 4))); omega)) ?_
    refine sv_iconst (nI 0) dX6_canPlace_16 (by decide) ?_
    refine sv_callV (As := [_, _]) sc_X6_78 (c6_of0 (by omega)) rfl rfl (Nat.le_of_ble_eq_true rfl) dX6_canPlace_17 ⟨by decide, by decide⟩ ⟨Nat.le_refl _, Nat.le_refl _⟩ (Nat.le_of_ble_eq_true rfl) om_0 (List.cons_ne_nil _ _) rfl ?_
    refine sv_aload_n dX6_canPlace_20 rfl ?_
    refine sv_iload_n dX6_canPlace_21 rfl ?_
    refine sv_callV (As := [_]) sc_X6_110 (c6_isFull hq (by omega) (by omega)) rfl rfl (Nat.le_of_ble_eq_true rfl) dX6_canPlace_22 ⟨by decide, by decide⟩ ⟨Nat.le_refl _, Nat.le_refl _⟩ (Nat.le_of_ble_eq_true rfl) om_0 (List.cons_ne_nil _ _) rfl ?_
    refine sv_ifN_eq 37 dX6_canPlace_25 (by decide) (by first | omega | (have z := b2n_lt (gm_on S); omega) | (have z := b2n_lt (gm_full S q); omega) | (have z := b2n_lt (gm_wk S q c (S (13 + 8 * S 4) - S 1)); omega) | (have z := b2n_lt (gm_wk S q c (S (13 + 8 * S 4))); omega)) (fun c_25 => ?_) (fun c_25 => ?_)
    · refine sv_iconst (nI 0) dX6_canPlace_37 (by decide) ?_
      refine sv_isubN dX6_canPlace_38 (by omega) ?_
      refine sv_top (nI (S (13 + 8 * S 4))) rfl ?_
      refine sv_istore_n (lv' := [(3, _), (0, _), (1, _), (2, _)]) dX6_canPlace_39 (by decide) rfl ?_
      refine sv_aload_n dX6_canPlace_40 rfl ?_
      refine sv_iload_n dX6_canPlace_41 rfl ?_
      refine sv_callV (As := [_]) sc_X6_110 (c6_isFull hq (by omega) (by omega)) rfl rfl (Nat.le_of_ble_eq_true rfl) dX6_canPlace_42 ⟨by decide, by decide⟩ ⟨Nat.le_refl _, Nat.le_refl _⟩ (Nat.le_of_ble_eq_true rfl) om_0 (List.cons_ne_nil _ _) rfl ?_
      refine sv_ifN_eq 57 dX6_canPlace_45 (by decide) (by first | omega | (have z := b2n_lt (gm_on S); omega) | (have z := b2n_lt (gm_full S q); omega) | (have z := b2n_lt (gm_wk S q c (S (13 + 8 * S 4) - S 1)); omega) | (have z := b2n_lt (gm_wk S q c (S (13 + 8 * S 4))); omega)) (fun c_45 => ?_) (fun c_45 => ?_)
      · refine sv_iload_n dX6_canPlace_57 rfl ?_
        refine sv_ifN_lt 75 dX6_canPlace_58 (by decide) (by first | omega | (have z := b2n_lt (gm_on S); omega) | (have z := b2n_lt (gm_full S q); omega) | (have z := b2n_lt (gm_wk S q c (S (13 + 8 * S 4) - S 1)); omega) | (have z := b2n_lt (gm_wk S q c (S (13 + 8 * S 4))); omega)) (fun c_58 => absurd c_58 (fun z => z.elim)) (fun c_58 => ?_)
        refine sv_aload_n dX6_canPlace_61 rfl ?_
        refine sv_iload_n dX6_canPlace_62 rfl ?_
        refine sv_iload_n dX6_canPlace_63 rfl ?_
        refine sv_iload_n dX6_canPlace_64 rfl ?_
        refine sv_callV (As := [_, _, _]) sc_X6_117 (c6_canWork hq hc (by omega) (by omega) jK jK2 hg) rfl rfl (Nat.le_of_ble_eq_true rfl) dX6_canPlace_65 ⟨by decide, by decide⟩ ⟨Nat.le_refl _, Nat.le_refl _⟩ (Nat.le_of_ble_eq_true rfl) om_0 (List.cons_ne_nil _ _) rfl ?_
        refine sv_ifN_eq 75 dX6_canPlace_68 (by decide) (by first | omega | (have z := b2n_lt (gm_on S); omega) | (have z := b2n_lt (gm_full S q); omega) | (have z := b2n_lt (gm_wk S q c (S (13 + 8 * S 4) - S 1)); omega) | (have z := b2n_lt (gm_wk S q c (S (13 + 8 * S 4))); omega)) (fun c_68 => ?_) (fun c_68 => ?_)
        · refine sv_iconst (nI 0) dX6_canPlace_75 (by decide) ?_
          refine sv_iret dX6_canPlace_76 rfl rfl (Nat.le_refl _) (Nat.le_refl _) ?_
          refine ⟨?_, rfl⟩
          first
            | (exfalso; omega)
            | (refine rbf ?_; rw [gm_can_full hon (b2n_1 c_25)]; simp only [(gm_bki_m1 S q).mp c_54]; rfl)
            | (refine rbf ?_; rw [gm_can_full hon (b2n_1 c_25), decide_eq_false (show ¬ S 1 ≤ S (13 + 8 * S 4) by omega)]; simp; done)
            | (refine rbf ?_; rw [gm_can_full hon (b2n_1 c_25), b2n_f c_68]; simp; done)
            | (refine rbf ?_; rw [gm_can_free hon (b2n_f c_25), b2n_f c_68]; done)
            | (refine rbt ?_; rw [gm_can_full hon (b2n_1 c_25), b2n_1 c_68]; simp [show S 1 ≤ S (13 + 8 * S 4) from hr, show ¬ gm_bk S q = 3 from fun z => c_54 ((gm_bki_m1 S q).mpr z)])
            | (refine rbt ?_; rw [gm_can_free hon (b2n_f c_25), b2n_1 c_68]; done)
        · refine sv_iconst (nI 1) dX6_canPlace_71 (by decide) ?_
          refine sv_goto 76 dX6_canPlace_72 (by decide) ?_
          refine sv_iret dX6_canPlace_76 rfl rfl (Nat.le_refl _) (Nat.le_refl _) ?_
          refine ⟨?_, rfl⟩
          first
            | (exfalso; omega)
            | (refine rbf ?_; rw [gm_can_full hon (b2n_1 c_25)]; simp only [(gm_bki_m1 S q).mp c_54]; rfl)
            | (refine rbf ?_; rw [gm_can_full hon (b2n_1 c_25), decide_eq_false (show ¬ S 1 ≤ S (13 + 8 * S 4) by omega)]; simp; done)
            | (refine rbf ?_; rw [gm_can_full hon (b2n_1 c_25), b2n_f c_68]; simp; done)
            | (refine rbf ?_; rw [gm_can_free hon (b2n_f c_25), b2n_f c_68]; done)
            | (refine rbt ?_; rw [gm_can_full hon (b2n_1 c_25), b2n_1 c_68]; simp [show S 1 ≤ S (13 + 8 * S 4) from hr, show ¬ gm_bk S q = 3 from fun z => c_54 ((gm_bki_m1 S q).mpr z)])
            | (refine rbt ?_; rw [gm_can_free hon (b2n_f c_25), b2n_1 c_68]; done)
      · refine sv_aload_n dX6_canPlace_48 rfl ?_
        refine sv_iload_n dX6_canPlace_49 rfl ?_
        refine sv_callV (As := [_]) sc_X6_114 (c6_bumpedAt hq bw (by omega) (fun k hk => by have := jow q k hq hk; omega)) rfl rfl (Nat.le_of_ble_eq_true rfl) dX6_canPlace_50 ⟨by decide, by decide⟩ ⟨Nat.le_refl _, Nat.le_refl _⟩ (Nat.le_of_ble_eq_true rfl) om_0 (List.cons_ne_nil _ _) rfl ?_
        refine sv_iconst (-1) dX6_canPlace_53 (by decide) ?_
        refine sv_icmp_eq 75 dX6_canPlace_54 (by decide) (fun c_54 => ?_) (fun c_54 => ?_)
        · refine sv_iconst (nI 0) dX6_canPlace_75 (by decide) ?_
          refine sv_iret dX6_canPlace_76 rfl rfl (Nat.le_refl _) (Nat.le_refl _) ?_
          refine ⟨?_, rfl⟩
          first
            | (exfalso; omega)
            | (refine rbf ?_; rw [gm_can_full hon (b2n_1 c_25)]; simp only [(gm_bki_m1 S q).mp c_54]; rfl)
            | (refine rbf ?_; rw [gm_can_full hon (b2n_1 c_25), decide_eq_false (show ¬ S 1 ≤ S (13 + 8 * S 4) by omega)]; simp; done)
            | (refine rbf ?_; rw [gm_can_full hon (b2n_1 c_25), b2n_f c_68]; simp; done)
            | (refine rbf ?_; rw [gm_can_free hon (b2n_f c_25), b2n_f c_68]; done)
            | (refine rbt ?_; rw [gm_can_full hon (b2n_1 c_25), b2n_1 c_68]; simp [show S 1 ≤ S (13 + 8 * S 4) from hr, show ¬ gm_bk S q = 3 from fun z => c_54 ((gm_bki_m1 S q).mpr z)])
            | (refine rbt ?_; rw [gm_can_free hon (b2n_f c_25), b2n_1 c_68]; done)
        · refine sv_iload_n dX6_canPlace_57 rfl ?_
          refine sv_ifN_lt 75 dX6_canPlace_58 (by decide) (by first | omega | (have z := b2n_lt (gm_on S); omega) | (have z := b2n_lt (gm_full S q); omega) | (have z := b2n_lt (gm_wk S q c (S (13 + 8 * S 4) - S 1)); omega) | (have z := b2n_lt (gm_wk S q c (S (13 + 8 * S 4))); omega)) (fun c_58 => absurd c_58 (fun z => z.elim)) (fun c_58 => ?_)
          refine sv_aload_n dX6_canPlace_61 rfl ?_
          refine sv_iload_n dX6_canPlace_62 rfl ?_
          refine sv_iload_n dX6_canPlace_63 rfl ?_
          refine sv_iload_n dX6_canPlace_64 rfl ?_
          refine sv_callV (As := [_, _, _]) sc_X6_117 (c6_canWork hq hc (by omega) (by omega) jK jK2 hg) rfl rfl (Nat.le_of_ble_eq_true rfl) dX6_canPlace_65 ⟨by decide, by decide⟩ ⟨Nat.le_refl _, Nat.le_refl _⟩ (Nat.le_of_ble_eq_true rfl) om_0 (List.cons_ne_nil _ _) rfl ?_
          refine sv_ifN_eq 75 dX6_canPlace_68 (by decide) (by first | omega | (have z := b2n_lt (gm_on S); omega) | (have z := b2n_lt (gm_full S q); omega) | (have z := b2n_lt (gm_wk S q c (S (13 + 8 * S 4) - S 1)); omega) | (have z := b2n_lt (gm_wk S q c (S (13 + 8 * S 4))); omega)) (fun c_68 => ?_) (fun c_68 => ?_)
          · refine sv_iconst (nI 0) dX6_canPlace_75 (by decide) ?_
            refine sv_iret dX6_canPlace_76 rfl rfl (Nat.le_refl _) (Nat.le_refl _) ?_
            refine ⟨?_, rfl⟩
            first
              | (exfalso; omega)
              | (refine rbf ?_; rw [gm_can_full hon (b2n_1 c_25)]; simp only [(gm_bki_m1 S q).mp c_54]; rfl)
              | (refine rbf ?_; rw [gm_can_full hon (b2n_1 c_25), decide_eq_false (show ¬ S 1 ≤ S (13 + 8 * S 4) by omega)]; simp; done)
              | (refine rbf ?_; rw [gm_can_full hon (b2n_1 c_25), b2n_f c_68]; simp; done)
              | (refine rbf ?_; rw [gm_can_free hon (b2n_f c_25), b2n_f c_68]; done)
              | (refine rbt ?_; rw [gm_can_full hon (b2n_1 c_25), b2n_1 c_68]; simp [show S 1 ≤ S (13 + 8 * S 4) from hr, show ¬ gm_bk S q = 3 from fun z => c_54 ((gm_bki_m1 S q).mpr z)])
              | (refine rbt ?_; rw [gm_can_free hon (b2n_f c_25), b2n_1 c_68]; done)
          · refine sv_iconst (nI 1) dX6_canPlace_71 (by decide) ?_
            refine sv_goto 76 dX6_canPlace_72 (by decide) ?_
            refine sv_iret dX6_canPlace_76 rfl rfl (Nat.le_refl _) (Nat.le_refl _) ?_
            refine ⟨?_, rfl⟩
            first
              | (exfalso; omega)
              | (refine rbf ?_; rw [gm_can_full hon (b2n_1 c_25)]; simp only [(gm_bki_m1 S q).mp c_54]; rfl)
              | (refine rbf ?_; rw [gm_can_full hon (b2n_1 c_25), decide_eq_false (show ¬ S 1 ≤ S (13 + 8 * S 4) by omega)]; simp; done)
              | (refine rbf ?_; rw [gm_can_full hon (b2n_1 c_25), b2n_f c_68]; simp; done)
              | (refine rbf ?_; rw [gm_can_free hon (b2n_f c_25), b2n_f c_68]; done)
              | (refine rbt ?_; rw [gm_can_full hon (b2n_1 c_25), b2n_1 c_68]; simp [show S 1 ≤ S (13 + 8 * S 4) from hr, show ¬ gm_bk S q = 3 from fun z => c_54 ((gm_bki_m1 S q).mpr z)])
              | (refine rbt ?_; rw [gm_can_free hon (b2n_f c_25), b2n_1 c_68]; done)
    · refine sv_aload_n dX6_canPlace_28 rfl ?_
      refine rm_get1 rfl dX6_canPlace_29 ?_
      refine sv_iconst (nI 1) dX6_canPlace_32 (by decide) ?_
      refine rm_ld1N dX6_canPlace_33 (by first | omega | (have z := b2n_lt (gm_on S); omega) | (have z := b2n_lt (gm_full S q); omega) | (have z := b2n_lt (gm_wk S q c (S (13 + 8 * S 4) - S 1)); omega) | (have z := b2n_lt (gm_wk S q c (S (13 + 8 * S 4))); omega)) ?_
      refine sv_goto 38 dX6_canPlace_34 (by decide) ?_
      rcases Nat.lt_or_ge (S (13 + 8 * S 4)) (S 1) with hr | hr
      · refine sv_isub dX6_canPlace_38 ?_
        refine sv_istore_n (lv' := [(3, _), (0, _), (1, _), (2, _)]) dX6_canPlace_39 (by decide) rfl ?_
        refine sv_aload_n dX6_canPlace_40 rfl ?_
        refine sv_iload_n dX6_canPlace_41 rfl ?_
        refine sv_callV (As := [_]) sc_X6_110 (c6_isFull hq (by omega) (by omega)) rfl rfl (Nat.le_of_ble_eq_true rfl) dX6_canPlace_42 ⟨by decide, by decide⟩ ⟨Nat.le_refl _, Nat.le_refl _⟩ (Nat.le_of_ble_eq_true rfl) om_0 (List.cons_ne_nil _ _) rfl ?_
        refine sv_ifN_eq 57 dX6_canPlace_45 (by decide) (by first | omega | (have z := b2n_lt (gm_on S); omega) | (have z := b2n_lt (gm_full S q); omega) | (have z := b2n_lt (gm_wk S q c (S (13 + 8 * S 4) - S 1)); omega) | (have z := b2n_lt (gm_wk S q c (S (13 + 8 * S 4))); omega)) (fun c_45 => ?_) (fun c_45 => ?_)
        · refine sv_iload_n dX6_canPlace_57 rfl ?_
          refine sv_if_lt 75 dX6_canPlace_58 (by decide) (fun c_58 => ?_) (fun c_58 => absurd c_58 (fun z => z (pk_sneg (by omega) hr)))
          refine sv_iconst (nI 0) dX6_canPlace_75 (by decide) ?_
          refine sv_iret dX6_canPlace_76 rfl rfl (Nat.le_refl _) (Nat.le_refl _) ?_
          refine ⟨?_, rfl⟩
          first
            | (exfalso; omega)
            | (refine rbf ?_; rw [gm_can_full hon (b2n_1 c_25)]; simp only [(gm_bki_m1 S q).mp c_54]; rfl)
            | (refine rbf ?_; rw [gm_can_full hon (b2n_1 c_25), decide_eq_false (show ¬ S 1 ≤ S (13 + 8 * S 4) by omega)]; simp; done)
            | (refine rbf ?_; rw [gm_can_full hon (b2n_1 c_25), b2n_f c_68]; simp; done)
            | (refine rbf ?_; rw [gm_can_free hon (b2n_f c_25), b2n_f c_68]; done)
            | (refine rbt ?_; rw [gm_can_full hon (b2n_1 c_25), b2n_1 c_68]; simp [show S 1 ≤ S (13 + 8 * S 4) from hr, show ¬ gm_bk S q = 3 from fun z => c_54 ((gm_bki_m1 S q).mpr z)])
            | (refine rbt ?_; rw [gm_can_free hon (b2n_f c_25), b2n_1 c_68]; done)
        · refine sv_aload_n dX6_canPlace_48 rfl ?_
          refine sv_iload_n dX6_canPlace_49 rfl ?_
          refine sv_callV (As := [_]) sc_X6_114 (c6_bumpedAt hq bw (by omega) (fun k hk => by have := jow q k hq hk; omega)) rfl rfl (Nat.le_of_ble_eq_true rfl) dX6_canPlace_50 ⟨by decide, by decide⟩ ⟨Nat.le_refl _, Nat.le_refl _⟩ (Nat.le_of_ble_eq_true rfl) om_0 (List.cons_ne_nil _ _) rfl ?_
          refine sv_iconst (-1) dX6_canPlace_53 (by decide) ?_
          refine sv_icmp_eq 75 dX6_canPlace_54 (by decide) (fun c_54 => ?_) (fun c_54 => ?_)
          · refine sv_iconst (nI 0) dX6_canPlace_75 (by decide) ?_
            refine sv_iret dX6_canPlace_76 rfl rfl (Nat.le_refl _) (Nat.le_refl _) ?_
            refine ⟨?_, rfl⟩
            first
              | (exfalso; omega)
              | (refine rbf ?_; rw [gm_can_full hon (b2n_1 c_25)]; simp only [(gm_bki_m1 S q).mp c_54]; rfl)
              | (refine rbf ?_; rw [gm_can_full hon (b2n_1 c_25), decide_eq_false (show ¬ S 1 ≤ S (13 + 8 * S 4) by omega)]; simp; done)
              | (refine rbf ?_; rw [gm_can_full hon (b2n_1 c_25), b2n_f c_68]; simp; done)
              | (refine rbf ?_; rw [gm_can_free hon (b2n_f c_25), b2n_f c_68]; done)
              | (refine rbt ?_; rw [gm_can_full hon (b2n_1 c_25), b2n_1 c_68]; simp [show S 1 ≤ S (13 + 8 * S 4) from hr, show ¬ gm_bk S q = 3 from fun z => c_54 ((gm_bki_m1 S q).mpr z)])
              | (refine rbt ?_; rw [gm_can_free hon (b2n_f c_25), b2n_1 c_68]; done)
          · refine sv_iload_n dX6_canPlace_57 rfl ?_
            refine sv_if_lt 75 dX6_canPlace_58 (by decide) (fun c_58 => ?_) (fun c_58 => absurd c_58 (fun z => z (pk_sneg (by omega) hr)))
            refine sv_iconst (nI 0) dX6_canPlace_75 (by decide) ?_
            refine sv_iret dX6_canPlace_76 rfl rfl (Nat.le_refl _) (Nat.le_refl _) ?_
            refine ⟨?_, rfl⟩
            first
              | (exfalso; omega)
              | (refine rbf ?_; rw [gm_can_full hon (b2n_1 c_25)]; simp only [(gm_bki_m1 S q).mp c_54]; rfl)
              | (refine rbf ?_; rw [gm_can_full hon (b2n_1 c_25), decide_eq_false (show ¬ S 1 ≤ S (13 + 8 * S 4) by omega)]; simp; done)
              | (refine rbf ?_; rw [gm_can_full hon (b2n_1 c_25), b2n_f c_68]; simp; done)
              | (refine rbf ?_; rw [gm_can_free hon (b2n_f c_25), b2n_f c_68]; done)
              | (refine rbt ?_; rw [gm_can_full hon (b2n_1 c_25), b2n_1 c_68]; simp [show S 1 ≤ S (13 + 8 * S 4) from hr, show ¬ gm_bk S q = 3 from fun z => c_54 ((gm_bki_m1 S q).mpr z)])
              | (refine rbt ?_; rw [gm_can_free hon (b2n_f c_25), b2n_1 c_68]; done)
      · refine sv_isubN dX6_canPlace_38 hr ?_
        refine sv_istore_n (lv' := [(3, _), (0, _), (1, _), (2, _)]) dX6_canPlace_39 (by decide) rfl ?_
        refine sv_aload_n dX6_canPlace_40 rfl ?_
        refine sv_iload_n dX6_canPlace_41 rfl ?_
        refine sv_callV (As := [_]) sc_X6_110 (c6_isFull hq (by omega) (by omega)) rfl rfl (Nat.le_of_ble_eq_true rfl) dX6_canPlace_42 ⟨by decide, by decide⟩ ⟨Nat.le_refl _, Nat.le_refl _⟩ (Nat.le_of_ble_eq_true rfl) om_0 (List.cons_ne_nil _ _) rfl ?_
        refine sv_ifN_eq 57 dX6_canPlace_45 (by decide) (by first | omega | (have z := b2n_lt (gm_on S); omega) | (have z := b2n_lt (gm_full S q); omega) | (have z := b2n_lt (gm_wk S q c (S (13 + 8 * S 4) - S 1)); omega) | (have z := b2n_lt (gm_wk S q c (S (13 + 8 * S 4))); omega)) (fun c_45 => ?_) (fun c_45 => ?_)
        · refine sv_iload_n dX6_canPlace_57 rfl ?_
          refine sv_ifN_lt 75 dX6_canPlace_58 (by decide) (by first | omega | (have z := b2n_lt (gm_on S); omega) | (have z := b2n_lt (gm_full S q); omega) | (have z := b2n_lt (gm_wk S q c (S (13 + 8 * S 4) - S 1)); omega) | (have z := b2n_lt (gm_wk S q c (S (13 + 8 * S 4))); omega)) (fun c_58 => absurd c_58 (fun z => z.elim)) (fun c_58 => ?_)
          refine sv_aload_n dX6_canPlace_61 rfl ?_
          refine sv_iload_n dX6_canPlace_62 rfl ?_
          refine sv_iload_n dX6_canPlace_63 rfl ?_
          refine sv_iload_n dX6_canPlace_64 rfl ?_
          refine sv_callV (As := [_, _, _]) sc_X6_117 (c6_canWork hq hc (by omega) (by omega) jK jK2 hg) rfl rfl (Nat.le_of_ble_eq_true rfl) dX6_canPlace_65 ⟨by decide, by decide⟩ ⟨Nat.le_refl _, Nat.le_refl _⟩ (Nat.le_of_ble_eq_true rfl) om_0 (List.cons_ne_nil _ _) rfl ?_
          refine sv_ifN_eq 75 dX6_canPlace_68 (by decide) (by first | omega | (have z := b2n_lt (gm_on S); omega) | (have z := b2n_lt (gm_full S q); omega) | (have z := b2n_lt (gm_wk S q c (S (13 + 8 * S 4) - S 1)); omega) | (have z := b2n_lt (gm_wk S q c (S (13 + 8 * S 4))); omega)) (fun c_68 => ?_) (fun c_68 => ?_)
          · refine sv_iconst (nI 0) dX6_canPlace_75 (by decide) ?_
            refine sv_iret dX6_canPlace_76 rfl rfl (Nat.le_refl _) (Nat.le_refl _) ?_
            refine ⟨?_, rfl⟩
            first
              | (exfalso; omega)
              | (refine rbf ?_; rw [gm_can_full hon (b2n_1 c_25)]; simp only [(gm_bki_m1 S q).mp c_54]; rfl)
              | (refine rbf ?_; rw [gm_can_full hon (b2n_1 c_25), decide_eq_false (show ¬ S 1 ≤ S (13 + 8 * S 4) by omega)]; simp; done)
              | (refine rbf ?_; rw [gm_can_full hon (b2n_1 c_25), b2n_f c_68]; simp; done)
              | (refine rbf ?_; rw [gm_can_free hon (b2n_f c_25), b2n_f c_68]; done)
              | (refine rbt ?_; rw [gm_can_full hon (b2n_1 c_25), b2n_1 c_68]; simp [show S 1 ≤ S (13 + 8 * S 4) from hr, show ¬ gm_bk S q = 3 from fun z => c_54 ((gm_bki_m1 S q).mpr z)])
              | (refine rbt ?_; rw [gm_can_free hon (b2n_f c_25), b2n_1 c_68]; done)
          · refine sv_iconst (nI 1) dX6_canPlace_71 (by decide) ?_
            refine sv_goto 76 dX6_canPlace_72 (by decide) ?_
            refine sv_iret dX6_canPlace_76 rfl rfl (Nat.le_refl _) (Nat.le_refl _) ?_
            refine ⟨?_, rfl⟩
            first
              | (exfalso; omega)
              | (refine rbf ?_; rw [gm_can_full hon (b2n_1 c_25)]; simp only [(gm_bki_m1 S q).mp c_54]; rfl)
              | (refine rbf ?_; rw [gm_can_full hon (b2n_1 c_25), decide_eq_false (show ¬ S 1 ≤ S (13 + 8 * S 4) by omega)]; simp; done)
              | (refine rbf ?_; rw [gm_can_full hon (b2n_1 c_25), b2n_f c_68]; simp; done)
              | (refine rbf ?_; rw [gm_can_free hon (b2n_f c_25), b2n_f c_68]; done)
              | (refine rbt ?_; rw [gm_can_full hon (b2n_1 c_25), b2n_1 c_68]; simp [show S 1 ≤ S (13 + 8 * S 4) from hr, show ¬ gm_bk S q = 3 from fun z => c_54 ((gm_bki_m1 S q).mpr z)])
              | (refine rbt ?_; rw [gm_can_free hon (b2n_f c_25), b2n_1 c_68]; done)
        · refine sv_aload_n dX6_canPlace_48 rfl ?_
          refine sv_iload_n dX6_canPlace_49 rfl ?_
          refine sv_callV (As := [_]) sc_X6_114 (c6_bumpedAt hq bw (by omega) (fun k hk => by have := jow q k hq hk; omega)) rfl rfl (Nat.le_of_ble_eq_true rfl) dX6_canPlace_50 ⟨by decide, by decide⟩ ⟨Nat.le_refl _, Nat.le_refl _⟩ (Nat.le_of_ble_eq_true rfl) om_0 (List.cons_ne_nil _ _) rfl ?_
          refine sv_iconst (-1) dX6_canPlace_53 (by decide) ?_
          refine sv_icmp_eq 75 dX6_canPlace_54 (by decide) (fun c_54 => ?_) (fun c_54 => ?_)
          · refine sv_iconst (nI 0) dX6_canPlace_75 (by decide) ?_
            refine sv_iret dX6_canPlace_76 rfl rfl (Nat.le_refl _) (Nat.le_refl _) ?_
            refine ⟨?_, rfl⟩
            first
              | (exfalso; omega)
              | (refine rbf ?_; rw [gm_can_full hon (b2n_1 c_25)]; simp only [(gm_bki_m1 S q).mp c_54]; rfl)
              | (refine rbf ?_; rw [gm_can_full hon (b2n_1 c_25), decide_eq_false (show ¬ S 1 ≤ S (13 + 8 * S 4) by omega)]; simp; done)
              | (refine rbf ?_; rw [gm_can_full hon (b2n_1 c_25), b2n_f c_68]; simp; done)
              | (refine rbf ?_; rw [gm_can_free hon (b2n_f c_25), b2n_f c_68]; done)
              | (refine rbt ?_; rw [gm_can_full hon (b2n_1 c_25), b2n_1 c_68]; simp [show S 1 ≤ S (13 + 8 * S 4) from hr, show ¬ gm_bk S q = 3 from fun z => c_54 ((gm_bki_m1 S q).mpr z)])
              | (refine rbt ?_; rw [gm_can_free hon (b2n_f c_25), b2n_1 c_68]; done)
          · refine sv_iload_n dX6_canPlace_57 rfl ?_
            refine sv_ifN_lt 75 dX6_canPlace_58 (by decide) (by first | omega | (have z := b2n_lt (gm_on S); omega) | (have z := b2n_lt (gm_full S q); omega) | (have z := b2n_lt (gm_wk S q c (S (13 + 8 * S 4) - S 1)); omega) | (have z := b2n_lt (gm_wk S q c (S (13 + 8 * S 4))); omega)) (fun c_58 => absurd c_58 (fun z => z.elim)) (fun c_58 => ?_)
            refine sv_aload_n dX6_canPlace_61 rfl ?_
            refine sv_iload_n dX6_canPlace_62 rfl ?_
            refine sv_iload_n dX6_canPlace_63 rfl ?_
            refine sv_iload_n dX6_canPlace_64 rfl ?_
            refine sv_callV (As := [_, _, _]) sc_X6_117 (c6_canWork hq hc (by omega) (by omega) jK jK2 hg) rfl rfl (Nat.le_of_ble_eq_true rfl) dX6_canPlace_65 ⟨by decide, by decide⟩ ⟨Nat.le_refl _, Nat.le_refl _⟩ (Nat.le_of_ble_eq_true rfl) om_0 (List.cons_ne_nil _ _) rfl ?_
            refine sv_ifN_eq 75 dX6_canPlace_68 (by decide) (by first | omega | (have z := b2n_lt (gm_on S); omega) | (have z := b2n_lt (gm_full S q); omega) | (have z := b2n_lt (gm_wk S q c (S (13 + 8 * S 4) - S 1)); omega) | (have z := b2n_lt (gm_wk S q c (S (13 + 8 * S 4))); omega)) (fun c_68 => ?_) (fun c_68 => ?_)
            · refine sv_iconst (nI 0) dX6_canPlace_75 (by decide) ?_
              refine sv_iret dX6_canPlace_76 rfl rfl (Nat.le_refl _) (Nat.le_refl _) ?_
              refine ⟨?_, rfl⟩
              first
                | (exfalso; omega)
                | (refine rbf ?_; rw [gm_can_full hon (b2n_1 c_25)]; simp only [(gm_bki_m1 S q).mp c_54]; rfl)
                | (refine rbf ?_; rw [gm_can_full hon (b2n_1 c_25), decide_eq_false (show ¬ S 1 ≤ S (13 + 8 * S 4) by omega)]; simp; done)
                | (refine rbf ?_; rw [gm_can_full hon (b2n_1 c_25), b2n_f c_68]; simp; done)
                | (refine rbf ?_; rw [gm_can_free hon (b2n_f c_25), b2n_f c_68]; done)
                | (refine rbt ?_; rw [gm_can_full hon (b2n_1 c_25), b2n_1 c_68]; simp [show S 1 ≤ S (13 + 8 * S 4) from hr, show ¬ gm_bk S q = 3 from fun z => c_54 ((gm_bki_m1 S q).mpr z)])
                | (refine rbt ?_; rw [gm_can_free hon (b2n_f c_25), b2n_1 c_68]; done)
            · refine sv_iconst (nI 1) dX6_canPlace_71 (by decide) ?_
              refine sv_goto 76 dX6_canPlace_72 (by decide) ?_
              refine sv_iret dX6_canPlace_76 rfl rfl (Nat.le_refl _) (Nat.le_refl _) ?_
              refine ⟨?_, rfl⟩
              first
                | (exfalso; omega)
                | (refine rbf ?_; rw [gm_can_full hon (b2n_1 c_25)]; simp only [(gm_bki_m1 S q).mp c_54]; rfl)
                | (refine rbf ?_; rw [gm_can_full hon (b2n_1 c_25), decide_eq_false (show ¬ S 1 ≤ S (13 + 8 * S 4) by omega)]; simp; done)
                | (refine rbf ?_; rw [gm_can_full hon (b2n_1 c_25), b2n_f c_68]; simp; done)
                | (refine rbf ?_; rw [gm_can_free hon (b2n_f c_25), b2n_f c_68]; done)
                | (refine rbt ?_; rw [gm_can_full hon (b2n_1 c_25), b2n_1 c_68]; simp [show S 1 ≤ S (13 + 8 * S 4) from hr, show ¬ gm_bk S q = 3 from fun z => c_54 ((gm_bki_m1 S q).mpr z)])
                | (refine rbt ?_; rw [gm_can_free hon (b2n_f c_25), b2n_1 c_68]; done)
  · refine sv_iconst (nI 0) dX6_canPlace_7 (by decide) ?_
    refine sv_iret dX6_canPlace_8 rfl rfl (Nat.le_refl _) (Nat.le_refl _) ?_
    exact ⟨rbf (gm_can_off (b2n_f c_4)), rfl⟩
end SR3
