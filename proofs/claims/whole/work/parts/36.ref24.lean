section SR24
variable {G : sm_G} {h : sm_H} {m : Nat} {F : Nat → Int32} {X : Nat → Int64} {A : Nat → Nat → Int32} {L : Nat → Nat → Int64} {S : Nat → Nat} {K : Nat}
/-- what a line of a script asks -/
def gm_dq (S : gm_S) (t a b c : Nat) : Bool :=
  if t = 5 then decide (a < S 3 ∧ 10 * b + c ≤ gm_tot S a)
  else if t = 6 then decide (a ≤ 5 ∧ c = 0 ∧ b ≤ S (45 + 4 * a))
  else if t = 7 then decide (a ≤ 2 ∧ c = 0 ∧ 0 < S 3 ∧ b ≤ S (7 + a))
  else if t = 8 then decide (a + b = 0 ∧ gm_on S = true ∧ S 4 = c)
  else if t = 9 then decide (a < S 3 ∧ b ≤ 2 ∧ c ≤ S (13 + 8 * a + (1 + b)))
  else false
theorem gm_dq_5 {a b c : Nat} : gm_dq S 5 a b c = decide (a < S 3 ∧ 10 * b + c ≤ gm_tot S a) := rfl
theorem gm_dq_6 {a b c : Nat} : gm_dq S 6 a b c = decide (a ≤ 5 ∧ c = 0 ∧ b ≤ S (45 + 4 * a)) := rfl
theorem gm_dq_7 {a b c : Nat} : gm_dq S 7 a b c = decide (a ≤ 2 ∧ c = 0 ∧ 0 < S 3 ∧ b ≤ S (7 + a)) := rfl
theorem gm_dq_8 {a b c : Nat} : gm_dq S 8 a b c = decide (a + b = 0 ∧ gm_on S = true ∧ S 4 = c) := rfl
theorem gm_dq_9 {a b c : Nat} : gm_dq S 9 a b c = decide (a < S 3 ∧ b ≤ 2 ∧ c ≤ S (13 + 8 * a + (1 + b))) := rfl
theorem c6_doesP {x : Int64} (hI : gm_I K S) (hK : K + 40 < 2 ^ 26) (hK9 : 12 ≤ K) {a b c : Nat} (ha : a < 10) (hb : b < 10) (hc9 : c < 10) (hq : a < 6) (hc : 10 * b + c < 24) (hch : gm_ch a (10 * b + c) = true) (hcan : gm_can S a (10 * b + c) = true) : sm_F G mX6_does 6 [.ref m, .int (nI 1), .int (nI a), .int (nI b), .int (nI c)] (sm_om G h m F (va_up X 2 x) (sm_as A S) L) (.inl (some (.int (nI 1)))) (sm_om G h m F (va_up X 2 (gm_put false S x a (10 * b + c)).2) (sm_as A (gm_put false S x a (10 * b + c)).1) L) := by
  unfold sm_F sm_C
  show sm_V G _ _ _ 0 0 0 [(0, .ref m), (1, .int (nI 1)), (2, .int (nI a)), (3, .int (nI b)), (4, .int (nI c))] [] _
  refine sv_iload_n dX6_does_0 rfl ?_
  refine sv_tableIn (off := 51) 52 dX6_does_1 (by decide) (by decide) (by decide) (by decide) ?_
  refine sv_aload_n dX6_does_52 rfl ?_
  refine sv_iload_n dX6_does_53 rfl ?_
  refine sv_bipush (nI 10) dX6_does_54 (by decide) ?_
  refine sv_iload_n dX6_does_56 rfl ?_
  refine sv_imulN dX6_does_57 ?_
  refine sv_iload dX6_does_58 rfl ?_
  refine sv_iaddN dX6_does_60 ?_
  refine sv_callV (As := [_, _]) sc_X6_245 (c6_doesPlaceK hI hK hK9 hq hc hch hcan) rfl rfl (Nat.le_of_ble_eq_true rfl) dX6_does_61 ⟨by decide, by decide⟩ ⟨Nat.le_refl _, Nat.le_refl _⟩ (Nat.le_of_ble_eq_true rfl) om_0 (List.cons_ne_nil _ _) rfl ?_
  refine sv_iret dX6_does_64 rfl rfl (Nat.le_refl _) (Nat.le_refl _) ?_
  exact ⟨rfl, rfl⟩
theorem c6_doesT {x : Int64} (hI : gm_I K S) (hK : K + 40 < 2 ^ 26) (hK9 : 12 ≤ K) {a b c : Nat} (ha : a < 10) (hb : b < 10) (hc9 : c < 10) (hz : a + b + c = 0) (hon : gm_on S = true) : sm_F G mX6_does 7 [.ref m, .int (nI 2), .int (nI a), .int (nI b), .int (nI c)] (sm_om G h m F (va_up X 2 x) (sm_as A S) L) (.inl (some (.int (nI 1)))) (sm_om G h m F (va_up X 2 (gm_pass false S x).2) (sm_as A (gm_pass false S x).1) L) := by
  unfold sm_F sm_C
  show sm_V G _ _ _ 0 0 0 [(0, .ref m), (1, .int (nI 2)), (2, .int (nI a)), (3, .int (nI b)), (4, .int (nI c))] [] _
  refine sv_iload_n dX6_does_0 rfl ?_
  refine sv_tableIn (off := 64) 65 dX6_does_1 (by decide) (by decide) (by decide) (by decide) ?_
  refine sv_iload_n dX6_does_65 rfl ?_
  refine sv_iload_n dX6_does_66 rfl ?_
  refine sv_iaddN dX6_does_67 ?_
  refine sv_iload dX6_does_68 rfl ?_
  refine sv_iaddN dX6_does_70 ?_
  refine sv_ifN_ne 95 dX6_does_71 (by decide) (by omega) (fun c_71 => absurd c_71 (fun z => z hz)) (fun c_71 => ?_)
  refine sv_aload_n dX6_does_74 rfl ?_
  refine sv_iload_n dX6_does_75 rfl ?_
  refine sv_iconst (nI 3) dX6_does_76 (by decide) ?_
  refine sv_icmpN_ne 84 dX6_does_77 (by decide) (by omega) (by omega) (fun c_77 => ?_) (fun c_77 => absurd c_77 (by decide))
  refine sv_iconst (nI 0) dX6_does_84 (by decide) ?_
  refine sv_callV (As := [_]) sc_X6_248 (c6_doesTurnP hI hK hK9 hon) rfl rfl (Nat.le_of_ble_eq_true rfl) dX6_does_85 ⟨by decide, by decide⟩ ⟨Nat.le_refl _, Nat.le_refl _⟩ (Nat.le_of_ble_eq_true rfl) om_0 (List.cons_ne_nil _ _) rfl ?_
  refine sv_ifN_eq 95 dX6_does_88 (by decide) (by omega) (fun c_88 => absurd c_88 (by decide)) (fun c_88 => ?_)
  refine sv_iconst (nI 1) dX6_does_91 (by decide) ?_
  refine sv_goto 96 dX6_does_92 (by decide) ?_
  refine sv_iret dX6_does_96 rfl rfl (Nat.le_refl _) (Nat.le_refl _) ?_
  exact ⟨rfl, rfl⟩
theorem c6_doesY {x : Int64} (hI : gm_I K S) (hK : K + 40 < 2 ^ 26) (hK9 : 12 ≤ K) {a b c : Nat} (ha : a < 10) (hb : b < 10) (hc9 : c < 10) (hz : a + b + c = 0) (hon : gm_on S = true) : sm_F G mX6_does 8 [.ref m, .int (nI 3), .int (nI a), .int (nI b), .int (nI c)] (sm_om G h m F (va_up X 2 x) (sm_as A S) L) (.inl (some (.int (nI 1)))) (sm_om G h m (gm_FB F (gm_bst S)) (va_up (gm_kX (gm_any S) (va_up X 2 x)) 2 (gm_play false S x).2) (sm_as (gm_kA (gm_any S) A S) (gm_play false S x).1) L) := by
  unfold sm_F sm_C
  show sm_V G _ _ _ 0 0 0 [(0, .ref m), (1, .int (nI 3)), (2, .int (nI a)), (3, .int (nI b)), (4, .int (nI c))] [] _
  refine sv_iload_n dX6_does_0 rfl ?_
  refine sv_tableIn (off := 64) 65 dX6_does_1 (by decide) (by decide) (by decide) (by decide) ?_
  refine sv_iload_n dX6_does_65 rfl ?_
  refine sv_iload_n dX6_does_66 rfl ?_
  refine sv_iaddN dX6_does_67 ?_
  refine sv_iload dX6_does_68 rfl ?_
  refine sv_iaddN dX6_does_70 ?_
  refine sv_ifN_ne 95 dX6_does_71 (by decide) (by omega) (fun c_71 => absurd c_71 (fun z => z hz)) (fun c_71 => ?_)
  refine sv_aload_n dX6_does_74 rfl ?_
  refine sv_iload_n dX6_does_75 rfl ?_
  refine sv_iconst (nI 3) dX6_does_76 (by decide) ?_
  refine sv_icmpN_ne 84 dX6_does_77 (by decide) (by omega) (by omega) (fun c_77 => absurd c_77 (fun z => z rfl)) (fun c_77 => ?_)
  refine sv_iconst (nI 1) dX6_does_80 (by decide) ?_
  refine sv_goto 85 dX6_does_81 (by decide) ?_
  refine sv_callV (As := [_]) sc_X6_248 (c6_doesTurnY hI hK hK9 hon) rfl rfl (Nat.le_of_ble_eq_true rfl) dX6_does_85 ⟨by decide, by decide⟩ ⟨Nat.le_refl _, Nat.le_refl _⟩ (Nat.le_of_ble_eq_true rfl) om_0 (List.cons_ne_nil _ _) rfl ?_
  refine sv_ifN_eq 95 dX6_does_88 (by decide) (by omega) (fun c_88 => absurd c_88 (by decide)) (fun c_88 => ?_)
  refine sv_iconst (nI 1) dX6_does_91 (by decide) ?_
  refine sv_goto 96 dX6_does_92 (by decide) ?_
  refine sv_iret dX6_does_96 rfl rfl (Nat.le_refl _) (Nat.le_refl _) ?_
  exact ⟨rfl, rfl⟩
theorem c6_doesS {a b c : Nat} (ha : a < 10) (hb : b < 10) (hc9 : c < 10) (hs : gm_isS (nI a) (nI (10 * b + c)) = true) (hw : a < 3) : sm_F G mX6_does 3 [.ref m, .int (nI 4), .int (nI a), .int (nI b), .int (nI c)] (sm_om G h m F X (sm_as A S) L) (.inl (some (.int (nI 1)))) (sm_om G h m F X (sm_as A (va_up S a (10 * b + c))) L) := by
  unfold sm_F sm_C
  show sm_V G _ _ _ 0 0 0 [(0, .ref m), (1, .int (nI 4)), (2, .int (nI a)), (3, .int (nI b)), (4, .int (nI c))] [] _
  refine sv_iload_n dX6_does_0 rfl ?_
  refine sv_tableIn (off := 96) 97 dX6_does_1 (by decide) (by decide) (by decide) (by decide) ?_
  refine sv_aload_n dX6_does_97 rfl ?_
  refine sv_iload_n dX6_does_98 rfl ?_
  refine sv_bipush (nI 10) dX6_does_99 (by decide) ?_
  refine sv_iload_n dX6_does_101 rfl ?_
  refine sv_imulN dX6_does_102 ?_
  refine sv_iload dX6_does_103 rfl ?_
  refine sv_iaddN dX6_does_105 ?_
  refine sv_callV (As := [_, _]) sc_X6_252 (c6_doesSetK hs hw) rfl rfl (Nat.le_of_ble_eq_true rfl) dX6_does_106 ⟨by decide, by decide⟩ ⟨Nat.le_refl _, Nat.le_refl _⟩ (Nat.le_of_ble_eq_true rfl) om_0 (List.cons_ne_nil _ _) rfl ?_
  refine sv_iret dX6_does_109 rfl rfl (Nat.le_refl _) (Nat.le_refl _) ?_
  exact ⟨rfl, rfl⟩
theorem c6_doesQ {t : Nat} (hI : gm_I K S) (ht : t < 10) {a b c : Nat} (ha : a < 10) (hb : b < 10) (hc9 : c < 10) (h1 : t = 1 → gm_ref S (nI a) (nI (10 * b + c)) ≠ 0) (h2 : t = 2 ∨ t = 3 → a + b + c ≠ 0 ∨ gm_on S = false) (h4 : t = 4 → gm_isS (nI a) (nI (10 * b + c)) = false) : sm_F G mX6_does 5 [.ref m, .int (nI t), .int (nI a), .int (nI b), .int (nI c)] (sm_om G h m F X (sm_as A S) L) (.inl (some (.int (nI (b2n (gm_dq S t a b c)))))) (sm_om G h m F X (sm_as A S) L) := by
  unfold sm_F sm_C
  show sm_V G _ _ _ 0 0 0 [(0, .ref m), (1, .int (nI t)), (2, .int (nI a)), (3, .int (nI b)), (4, .int (nI c))] [] _
  have b3 := hI.2.1 3 (by omega) (by omega); have b6 := hI.2.1 6 (by omega) (by omega); have b0 := hI.2.1 0 (by omega) (by omega); have bK := hI.2.2.1
  have b34 : S 3 ≤ 4 := by have q := hI.2.2.2.2; omega
  have b4 := hI.2.1 4 (by omega) (by omega)
  refine sv_iload_n dX6_does_0 rfl ?_
  rcases (show t = 0 ∨ t = 1 ∨ t = 2 ∨ t = 3 ∨ t = 4 ∨ t = 5 ∨ t = 6 ∨ t = 7 ∨ t = 8 ∨ t = 9 from by omega) with rfl | rfl | rfl | rfl | rfl | rfl | rfl | rfl | rfl | rfl
  · refine sv_tableOut 274 dX6_does_1 (by decide) (by decide) ?_
    refine sv_iconst (nI 0) dX6_does_274 (by decide) ?_
    refine sv_iret dX6_does_275 rfl rfl (Nat.le_refl _) (Nat.le_refl _) ?_
    exact ⟨rfl, rfl⟩
  · refine sv_tableIn (off := 51) 52 dX6_does_1 (by decide) (by decide) (by decide) (by decide) ?_
    refine sv_aload_n dX6_does_52 rfl ?_
    refine sv_iload_n dX6_does_53 rfl ?_
    refine sv_bipush (nI 10) dX6_does_54 (by decide) ?_
    refine sv_iload_n dX6_does_56 rfl ?_
    refine sv_imulN dX6_does_57 ?_
    refine sv_iload dX6_does_58 rfl ?_
    refine sv_iaddN dX6_does_60 ?_
    refine sv_callV (As := [_, _]) sc_X6_245 (c6_doesPlace0 hI (h1 rfl)) rfl rfl (Nat.le_of_ble_eq_true rfl) dX6_does_61 ⟨by decide, by decide⟩ ⟨Nat.le_refl _, Nat.le_refl _⟩ (Nat.le_of_ble_eq_true rfl) om_0 (List.cons_ne_nil _ _) rfl ?_
    refine sv_iret dX6_does_64 rfl rfl (Nat.le_refl _) (Nat.le_refl _) ?_
    exact ⟨rfl, rfl⟩
  · refine sv_tableIn (off := 64) 65 dX6_does_1 (by decide) (by decide) (by decide) (by decide) ?_
    refine sv_iload_n dX6_does_65 rfl ?_
    refine sv_iload_n dX6_does_66 rfl ?_
    refine sv_iaddN dX6_does_67 ?_
    refine sv_iload dX6_does_68 rfl ?_
    refine sv_iaddN dX6_does_70 ?_
    refine sv_ifN_ne 95 dX6_does_71 (by decide) (by first | omega | (have z := b2n_lt (gm_on S); omega) | (have z := b2n_lt (gm_isP S (nI a)); omega) | exact gm_tot_lt hI (by omega) | exact Nat.lt_trans (b2n_lt _) (by decide)) (fun c_71 => ?_) (fun c_71 => ?_)
    · refine sv_iconst (nI 0) dX6_does_95 (by decide) ?_
      refine sv_iret dX6_does_96 rfl rfl (Nat.le_refl _) (Nat.le_refl _) ?_
      exact ⟨rfl, rfl⟩
    · refine sv_aload_n dX6_does_74 rfl ?_
      refine sv_iload_n dX6_does_75 rfl ?_
      refine sv_iconst (nI 3) dX6_does_76 (by decide) ?_
      refine sv_icmpN_ne 84 dX6_does_77 (by decide) (by first | omega | (have z := b2n_lt (gm_on S); omega) | (have z := b2n_lt (gm_isP S (nI a)); omega) | exact gm_tot_lt hI (by omega) | exact Nat.lt_trans (b2n_lt _) (by decide)) (by first | omega | (have z := b2n_lt (gm_on S); omega) | (have z := b2n_lt (gm_isP S (nI a)); omega) | exact gm_tot_lt hI (by omega) | exact Nat.lt_trans (b2n_lt _) (by decide)) (fun c_77 => ?_) (fun c_77 => absurd c_77 (by decide))
      refine sv_iconst (nI 0) dX6_does_84 (by decide) ?_
      refine sv_callV (As := [_]) sc_X6_248 (c6_doesTurn0 (k := 0) hI ((h2 (by omega)).resolve_left (fun z => z (by omega)))) rfl rfl (Nat.le_of_ble_eq_true rfl) dX6_does_85 ⟨by decide, by decide⟩ ⟨Nat.le_refl _, Nat.le_refl _⟩ (Nat.le_of_ble_eq_true rfl) om_0 (List.cons_ne_nil _ _) rfl ?_
      refine sv_ifN_eq 95 dX6_does_88 (by decide) (by first | omega | (have z := b2n_lt (gm_on S); omega) | (have z := b2n_lt (gm_isP S (nI a)); omega) | exact gm_tot_lt hI (by omega) | exact Nat.lt_trans (b2n_lt _) (by decide)) (fun c_88 => ?_) (fun c_88 => absurd c_88 (fun z => z rfl))
      refine sv_iconst (nI 0) dX6_does_95 (by decide) ?_
      refine sv_iret dX6_does_96 rfl rfl (Nat.le_refl _) (Nat.le_refl _) ?_
      exact ⟨rfl, rfl⟩
  · refine sv_tableIn (off := 64) 65 dX6_does_1 (by decide) (by decide) (by decide) (by decide) ?_
    refine sv_iload_n dX6_does_65 rfl ?_
    refine sv_iload_n dX6_does_66 rfl ?_
    refine sv_iaddN dX6_does_67 ?_
    refine sv_iload dX6_does_68 rfl ?_
    refine sv_iaddN dX6_does_70 ?_
    refine sv_ifN_ne 95 dX6_does_71 (by decide) (by first | omega | (have z := b2n_lt (gm_on S); omega) | (have z := b2n_lt (gm_isP S (nI a)); omega) | exact gm_tot_lt hI (by omega) | exact Nat.lt_trans (b2n_lt _) (by decide)) (fun c_71 => ?_) (fun c_71 => ?_)
    · refine sv_iconst (nI 0) dX6_does_95 (by decide) ?_
      refine sv_iret dX6_does_96 rfl rfl (Nat.le_refl _) (Nat.le_refl _) ?_
      exact ⟨rfl, rfl⟩
    · refine sv_aload_n dX6_does_74 rfl ?_
      refine sv_iload_n dX6_does_75 rfl ?_
      refine sv_iconst (nI 3) dX6_does_76 (by decide) ?_
      refine sv_icmpN_ne 84 dX6_does_77 (by decide) (by first | omega | (have z := b2n_lt (gm_on S); omega) | (have z := b2n_lt (gm_isP S (nI a)); omega) | exact gm_tot_lt hI (by omega) | exact Nat.lt_trans (b2n_lt _) (by decide)) (by first | omega | (have z := b2n_lt (gm_on S); omega) | (have z := b2n_lt (gm_isP S (nI a)); omega) | exact gm_tot_lt hI (by omega) | exact Nat.lt_trans (b2n_lt _) (by decide)) (fun c_77 => absurd c_77 (fun z => z rfl)) (fun c_77 => ?_)
      refine sv_iconst (nI 1) dX6_does_80 (by decide) ?_
      refine sv_goto 85 dX6_does_81 (by decide) ?_
      refine sv_callV (As := [_]) sc_X6_248 (c6_doesTurn0 (k := 1) hI ((h2 (by omega)).resolve_left (fun z => z (by omega)))) rfl rfl (Nat.le_of_ble_eq_true rfl) dX6_does_85 ⟨by decide, by decide⟩ ⟨Nat.le_refl _, Nat.le_refl _⟩ (Nat.le_of_ble_eq_true rfl) om_0 (List.cons_ne_nil _ _) rfl ?_
      refine sv_ifN_eq 95 dX6_does_88 (by decide) (by first | omega | (have z := b2n_lt (gm_on S); omega) | (have z := b2n_lt (gm_isP S (nI a)); omega) | exact gm_tot_lt hI (by omega) | exact Nat.lt_trans (b2n_lt _) (by decide)) (fun c_88 => ?_) (fun c_88 => absurd c_88 (fun z => z rfl))
      refine sv_iconst (nI 0) dX6_does_95 (by decide) ?_
      refine sv_iret dX6_does_96 rfl rfl (Nat.le_refl _) (Nat.le_refl _) ?_
      exact ⟨rfl, rfl⟩
  · refine sv_tableIn (off := 96) 97 dX6_does_1 (by decide) (by decide) (by decide) (by decide) ?_
    refine sv_aload_n dX6_does_97 rfl ?_
    refine sv_iload_n dX6_does_98 rfl ?_
    refine sv_bipush (nI 10) dX6_does_99 (by decide) ?_
    refine sv_iload_n dX6_does_101 rfl ?_
    refine sv_imulN dX6_does_102 ?_
    refine sv_iload dX6_does_103 rfl ?_
    refine sv_iaddN dX6_does_105 ?_
    refine sv_callV (As := [_, _]) sc_X6_252 (c6_doesSet0 (h4 rfl)) rfl rfl (Nat.le_of_ble_eq_true rfl) dX6_does_106 ⟨by decide, by decide⟩ ⟨Nat.le_refl _, Nat.le_refl _⟩ (Nat.le_of_ble_eq_true rfl) om_0 (List.cons_ne_nil _ _) rfl ?_
    refine sv_iret dX6_does_109 rfl rfl (Nat.le_refl _) (Nat.le_refl _) ?_
    exact ⟨rfl, rfl⟩
  · refine sv_tableIn (off := 109) 110 dX6_does_1 (by decide) (by decide) (by decide) (by decide) ?_
    refine sv_aload_n dX6_does_110 rfl ?_
    refine sv_iload_n dX6_does_111 rfl ?_
    refine sv_callV (As := [_]) sc_X6_218 (c6_isPlayerG (by omega)) rfl rfl (Nat.le_of_ble_eq_true rfl) dX6_does_112 ⟨by decide, by decide⟩ ⟨Nat.le_refl _, Nat.le_refl _⟩ (Nat.le_of_ble_eq_true rfl) om_0 (List.cons_ne_nil _ _) rfl ?_
    refine sv_ifN_eq 137 dX6_does_115 (by decide) (by first | omega | (have z := b2n_lt (gm_on S); omega) | (have z := b2n_lt (gm_isP S (nI a)); omega) | exact gm_tot_lt hI (by omega) | exact Nat.lt_trans (b2n_lt _) (by decide)) (fun c_115 => ?_) (fun c_115 => ?_)
    · have in_a := of_decide_eq_false ((gm_isP_n (S := S) (by omega) (by omega)).symm.trans (b2n_f c_115))
      refine sv_iconst (nI 0) dX6_does_137 (by decide) ?_
      refine sv_iret dX6_does_138 rfl rfl (Nat.le_refl _) (Nat.le_refl _) ?_
      refine ⟨ri ?_, rfl⟩
      rw [gm_dq_5]
      rw [show ∀ q : Prop, ∀ [Decidable q], ¬ q → b2n (decide q) = 0 from fun q _ z => by rw [decide_eq_false z]; rfl]
      omega
    · have in_a := of_decide_eq_true ((gm_isP_n (S := S) (by omega) (by omega)).symm.trans (b2n_1 c_115))
      refine sv_aload_n dX6_does_118 rfl ?_
      refine sv_iload_n dX6_does_119 rfl ?_
      refine sv_callV (As := [_]) sc_X6_134 (c6_total (by omega)) rfl rfl (Nat.le_of_ble_eq_true rfl) dX6_does_120 ⟨by decide, by decide⟩ ⟨Nat.le_refl _, Nat.le_refl _⟩ (Nat.le_of_ble_eq_true rfl) om_0 (List.cons_ne_nil _ _) rfl ?_
      refine sv_bipush (nI 10) dX6_does_123 (by decide) ?_
      refine sv_iload_n dX6_does_125 rfl ?_
      refine sv_imulN dX6_does_126 ?_
      refine sv_iload dX6_does_127 rfl ?_
      refine sv_iaddN dX6_does_129 ?_
      refine sv_icmpN_lt 137 dX6_does_130 (by decide) (by first | omega | (have z := b2n_lt (gm_on S); omega) | (have z := b2n_lt (gm_isP S (nI a)); omega) | exact gm_tot_lt hI (by omega) | exact Nat.lt_trans (b2n_lt _) (by decide)) (by first | omega | (have z := b2n_lt (gm_on S); omega) | (have z := b2n_lt (gm_isP S (nI a)); omega) | exact gm_tot_lt hI (by omega) | exact Nat.lt_trans (b2n_lt _) (by decide)) (fun c_130 => ?_) (fun c_130 => ?_)
      · refine sv_iconst (nI 0) dX6_does_137 (by decide) ?_
        refine sv_iret dX6_does_138 rfl rfl (Nat.le_refl _) (Nat.le_refl _) ?_
        refine ⟨ri ?_, rfl⟩
        rw [gm_dq_5]
        rw [show ∀ q : Prop, ∀ [Decidable q], ¬ q → b2n (decide q) = 0 from fun q _ z => by rw [decide_eq_false z]; rfl]
        omega
      · refine sv_iconst (nI 1) dX6_does_133 (by decide) ?_
        refine sv_goto 138 dX6_does_134 (by decide) ?_
        refine sv_iret dX6_does_138 rfl rfl (Nat.le_refl _) (Nat.le_refl _) ?_
        refine ⟨ri ?_, rfl⟩
        rw [gm_dq_5]
        rw [show ∀ q : Prop, ∀ [Decidable q], q → b2n (decide q) = 1 from fun q _ z => by rw [decide_eq_true z]; rfl]
        omega
  · refine sv_tableIn (off := 138) 139 dX6_does_1 (by decide) (by decide) (by decide) (by decide) ?_
    refine sv_iload_n dX6_does_139 rfl ?_
    refine sv_callS (As := [_]) sc_X6_221 (c6_isPlace) rfl rfl (Nat.le_of_ble_eq_true rfl) dX6_does_140 ⟨by decide, by decide⟩ ⟨Nat.le_refl _, Nat.le_refl _⟩ (Nat.le_of_ble_eq_true rfl) ?_
    refine sv_ifN_eq 164 dX6_does_143 (by decide) (by first | omega | (have z := b2n_lt (gm_on S); omega) | (have z := b2n_lt (gm_isP S (nI a)); omega) | exact gm_tot_lt hI (by omega) | exact Nat.lt_trans (b2n_lt _) (by decide)) (fun c_143 => ?_) (fun c_143 => ?_)
    · have in_a := of_decide_eq_false ((gm_in_n (a := 0) (b := 5) (k := a) (by omega) (by omega) (by omega)).symm.trans (b2n_f c_143))
      refine sv_iconst (nI 0) dX6_does_164 (by decide) ?_
      refine sv_iret dX6_does_165 rfl rfl (Nat.le_refl _) (Nat.le_refl _) ?_
      refine ⟨ri ?_, rfl⟩
      rw [gm_dq_6]
      rw [show ∀ q : Prop, ∀ [Decidable q], ¬ q → b2n (decide q) = 0 from fun q _ z => by rw [decide_eq_false z]; rfl]
      omega
    · have in_a := of_decide_eq_true ((gm_in_n (a := 0) (b := 5) (k := a) (by omega) (by omega) (by omega)).symm.trans (b2n_1 c_143))
      have bw := hI.2.2.2.1 a (by omega)
      refine sv_iload dX6_does_146 rfl ?_
      refine sv_ifN_ne 164 dX6_does_148 (by decide) (by first | omega | (have z := b2n_lt (gm_on S); omega) | (have z := b2n_lt (gm_isP S (nI a)); omega) | exact gm_tot_lt hI (by omega) | exact Nat.lt_trans (b2n_lt _) (by decide)) (fun c_148 => ?_) (fun c_148 => ?_)
      · refine sv_iconst (nI 0) dX6_does_164 (by decide) ?_
        refine sv_iret dX6_does_165 rfl rfl (Nat.le_refl _) (Nat.le_refl _) ?_
        refine ⟨ri ?_, rfl⟩
        rw [gm_dq_6]
        rw [show ∀ q : Prop, ∀ [Decidable q], ¬ q → b2n (decide q) = 0 from fun q _ z => by rw [decide_eq_false z]; rfl]
        omega
      · refine sv_aload_n dX6_does_151 rfl ?_
        refine sv_iload_n dX6_does_152 rfl ?_
        refine sv_callV (As := [_]) sc_X6_99 (c6_workersAt (by omega)) rfl rfl (Nat.le_of_ble_eq_true rfl) dX6_does_153 ⟨by decide, by decide⟩ ⟨Nat.le_refl _, Nat.le_refl _⟩ (Nat.le_of_ble_eq_true rfl) om_0 (List.cons_ne_nil _ _) rfl ?_
        refine sv_iload_n dX6_does_156 rfl ?_
        refine sv_icmpN_lt 164 dX6_does_157 (by decide) (by first | omega | (have z := b2n_lt (gm_on S); omega) | (have z := b2n_lt (gm_isP S (nI a)); omega) | exact gm_tot_lt hI (by omega) | exact Nat.lt_trans (b2n_lt _) (by decide)) (by first | omega | (have z := b2n_lt (gm_on S); omega) | (have z := b2n_lt (gm_isP S (nI a)); omega) | exact gm_tot_lt hI (by omega) | exact Nat.lt_trans (b2n_lt _) (by decide)) (fun c_157 => ?_) (fun c_157 => ?_)
        · refine sv_iconst (nI 0) dX6_does_164 (by decide) ?_
          refine sv_iret dX6_does_165 rfl rfl (Nat.le_refl _) (Nat.le_refl _) ?_
          refine ⟨ri ?_, rfl⟩
          rw [gm_dq_6]
          rw [show ∀ q : Prop, ∀ [Decidable q], ¬ q → b2n (decide q) = 0 from fun q _ z => by rw [decide_eq_false z]; rfl]
          omega
        · refine sv_iconst (nI 1) dX6_does_160 (by decide) ?_
          refine sv_goto 165 dX6_does_161 (by decide) ?_
          refine sv_iret dX6_does_165 rfl rfl (Nat.le_refl _) (Nat.le_refl _) ?_
          refine ⟨ri ?_, rfl⟩
          rw [gm_dq_6]
          rw [show ∀ q : Prop, ∀ [Decidable q], q → b2n (decide q) = 1 from fun q _ z => by rw [decide_eq_true z]; rfl]
          omega
  · refine sv_tableIn (off := 165) 166 dX6_does_1 (by decide) (by decide) (by decide) (by decide) ?_
    refine sv_iload_n dX6_does_166 rfl ?_
    refine sv_iconst (nI 0) dX6_does_167 (by decide) ?_
    refine sv_iconst (nI 2) dX6_does_168 (by decide) ?_
    refine sv_callS (As := [_, _, _]) sc_X6_53 (c6_in (by omega) (by omega) (by omega)) rfl rfl (Nat.le_of_ble_eq_true rfl) dX6_does_169 ⟨by decide, by decide⟩ ⟨Nat.le_refl _, Nat.le_refl _⟩ (Nat.le_of_ble_eq_true rfl) ?_
    refine sv_ifN_eq 206 dX6_does_172 (by decide) (by first | omega | (have z := b2n_lt (gm_on S); omega) | (have z := b2n_lt (gm_isP S (nI a)); omega) | exact gm_tot_lt hI (by omega) | exact Nat.lt_trans (b2n_lt _) (by decide)) (fun c_172 => ?_) (fun c_172 => ?_)
    · have in_a := b2n_e c_172
      refine sv_iconst (nI 0) dX6_does_206 (by decide) ?_
      refine sv_iret dX6_does_207 rfl rfl (Nat.le_refl _) (Nat.le_refl _) ?_
      refine ⟨ri ?_, rfl⟩
      rw [gm_dq_7]
      rw [show ∀ q : Prop, ∀ [Decidable q], ¬ q → b2n (decide q) = 0 from fun q _ z => by rw [decide_eq_false z]; rfl]
      omega
    · have in_a := b2n_d c_172
      have b7 := hI.2.1 (7 + a) (by omega) (by omega)
      refine sv_iload dX6_does_175 rfl ?_
      refine sv_ifN_ne 206 dX6_does_177 (by decide) (by first | omega | (have z := b2n_lt (gm_on S); omega) | (have z := b2n_lt (gm_isP S (nI a)); omega) | exact gm_tot_lt hI (by omega) | exact Nat.lt_trans (b2n_lt _) (by decide)) (fun c_177 => ?_) (fun c_177 => ?_)
      · refine sv_iconst (nI 0) dX6_does_206 (by decide) ?_
        refine sv_iret dX6_does_207 rfl rfl (Nat.le_refl _) (Nat.le_refl _) ?_
        refine ⟨ri ?_, rfl⟩
        rw [gm_dq_7]
        rw [show ∀ q : Prop, ∀ [Decidable q], ¬ q → b2n (decide q) = 0 from fun q _ z => by rw [decide_eq_false z]; rfl]
        omega
      · refine sv_aload_n dX6_does_180 rfl ?_
        refine rm_get1 rfl dX6_does_181 ?_
        refine sv_iconst (nI 3) dX6_does_184 (by decide) ?_
        refine rm_ld1N dX6_does_185 (by first | omega | (have z := b2n_lt (gm_on S); omega) | (have z := b2n_lt (gm_isP S (nI a)); omega) | exact gm_tot_lt hI (by omega) | exact Nat.lt_trans (b2n_lt _) (by decide)) ?_
        refine sv_ifN_le 206 dX6_does_186 (by decide) (by first | omega | (have z := b2n_lt (gm_on S); omega) | (have z := b2n_lt (gm_isP S (nI a)); omega) | exact gm_tot_lt hI (by omega) | exact Nat.lt_trans (b2n_lt _) (by decide)) (fun c_186 => ?_) (fun c_186 => ?_)
        · refine sv_iconst (nI 0) dX6_does_206 (by decide) ?_
          refine sv_iret dX6_does_207 rfl rfl (Nat.le_refl _) (Nat.le_refl _) ?_
          refine ⟨ri ?_, rfl⟩
          rw [gm_dq_7]
          rw [show ∀ q : Prop, ∀ [Decidable q], ¬ q → b2n (decide q) = 0 from fun q _ z => by rw [decide_eq_false z]; rfl]
          omega
        · refine sv_aload_n dX6_does_189 rfl ?_
          refine rm_get1 rfl dX6_does_190 ?_
          refine sv_bipush (nI 7) dX6_does_193 (by decide) ?_
          refine sv_iload_n dX6_does_195 rfl ?_
          refine sv_iaddN dX6_does_196 ?_
          refine rm_ld1N dX6_does_197 (by first | omega | (have z := b2n_lt (gm_on S); omega) | (have z := b2n_lt (gm_isP S (nI a)); omega) | exact gm_tot_lt hI (by omega) | exact Nat.lt_trans (b2n_lt _) (by decide)) ?_
          refine sv_iload_n dX6_does_198 rfl ?_
          refine sv_icmpN_lt 206 dX6_does_199 (by decide) (by first | omega | (have z := b2n_lt (gm_on S); omega) | (have z := b2n_lt (gm_isP S (nI a)); omega) | exact gm_tot_lt hI (by omega) | exact Nat.lt_trans (b2n_lt _) (by decide)) (by first | omega | (have z := b2n_lt (gm_on S); omega) | (have z := b2n_lt (gm_isP S (nI a)); omega) | exact gm_tot_lt hI (by omega) | exact Nat.lt_trans (b2n_lt _) (by decide)) (fun c_199 => ?_) (fun c_199 => ?_)
          · refine sv_iconst (nI 0) dX6_does_206 (by decide) ?_
            refine sv_iret dX6_does_207 rfl rfl (Nat.le_refl _) (Nat.le_refl _) ?_
            refine ⟨ri ?_, rfl⟩
            rw [gm_dq_7]
            rw [show ∀ q : Prop, ∀ [Decidable q], ¬ q → b2n (decide q) = 0 from fun q _ z => by rw [decide_eq_false z]; rfl]
            omega
          · refine sv_iconst (nI 1) dX6_does_202 (by decide) ?_
            refine sv_goto 207 dX6_does_203 (by decide) ?_
            refine sv_iret dX6_does_207 rfl rfl (Nat.le_refl _) (Nat.le_refl _) ?_
            refine ⟨ri ?_, rfl⟩
            rw [gm_dq_7]
            rw [show ∀ q : Prop, ∀ [Decidable q], q → b2n (decide q) = 1 from fun q _ z => by rw [decide_eq_true z]; rfl]
            omega
  · refine sv_tableIn (off := 207) 208 dX6_does_1 (by decide) (by decide) (by decide) (by decide) ?_
    refine sv_iload_n dX6_does_208 rfl ?_
    refine sv_iload_n dX6_does_209 rfl ?_
    refine sv_iaddN dX6_does_210 ?_
    refine sv_ifN_ne 236 dX6_does_211 (by decide) (by first | omega | (have z := b2n_lt (gm_on S); omega) | (have z := b2n_lt (gm_isP S (nI a)); omega) | exact gm_tot_lt hI (by omega) | exact Nat.lt_trans (b2n_lt _) (by decide)) (fun c_211 => ?_) (fun c_211 => ?_)
    · refine sv_iconst (nI 0) dX6_does_236 (by decide) ?_
      refine sv_iret dX6_does_237 rfl rfl (Nat.le_refl _) (Nat.le_refl _) ?_
      refine ⟨ri ?_, rfl⟩
      rw [gm_dq_8]
      rw [show ∀ q : Prop, ∀ [Decidable q], ¬ q → b2n (decide q) = 0 from fun q _ z => by rw [decide_eq_false z]; rfl]
      rintro ⟨x1, x2, x3⟩
      first | omega | (rw [b2n_f c_218] at x2; cases x2)
    · refine sv_aload_n dX6_does_214 rfl ?_
      refine sv_callV (As := []) sc_X6_106 (c6_isOn (by omega) (by omega) (by omega)) rfl rfl (Nat.le_of_ble_eq_true rfl) dX6_does_215 ⟨by decide, by decide⟩ ⟨Nat.le_refl _, Nat.le_refl _⟩ (Nat.le_of_ble_eq_true rfl) om_0 (List.cons_ne_nil _ _) rfl ?_
      refine sv_ifN_eq 236 dX6_does_218 (by decide) (by first | omega | (have z := b2n_lt (gm_on S); omega) | (have z := b2n_lt (gm_isP S (nI a)); omega) | exact gm_tot_lt hI (by omega) | exact Nat.lt_trans (b2n_lt _) (by decide)) (fun c_218 => ?_) (fun c_218 => ?_)
      · refine sv_iconst (nI 0) dX6_does_236 (by decide) ?_
        refine sv_iret dX6_does_237 rfl rfl (Nat.le_refl _) (Nat.le_refl _) ?_
        refine ⟨ri ?_, rfl⟩
        rw [gm_dq_8]
        rw [show ∀ q : Prop, ∀ [Decidable q], ¬ q → b2n (decide q) = 0 from fun q _ z => by rw [decide_eq_false z]; rfl]
        rintro ⟨x1, x2, x3⟩
        first | omega | (rw [b2n_f c_218] at x2; cases x2)
      · have hon := b2n_1 c_218
        refine sv_aload_n dX6_does_221 rfl ?_
        refine rm_get1 rfl dX6_does_222 ?_
        refine sv_iconst (nI 4) dX6_does_225 (by decide) ?_
        refine rm_ld1N dX6_does_226 (by first | omega | (have z := b2n_lt (gm_on S); omega) | (have z := b2n_lt (gm_isP S (nI a)); omega) | exact gm_tot_lt hI (by omega) | exact Nat.lt_trans (b2n_lt _) (by decide)) ?_
        refine sv_iload dX6_does_227 rfl ?_
        refine sv_icmpN_ne 236 dX6_does_229 (by decide) (by first | omega | (have z := b2n_lt (gm_on S); omega) | (have z := b2n_lt (gm_isP S (nI a)); omega) | exact gm_tot_lt hI (by omega) | exact Nat.lt_trans (b2n_lt _) (by decide)) (by first | omega | (have z := b2n_lt (gm_on S); omega) | (have z := b2n_lt (gm_isP S (nI a)); omega) | exact gm_tot_lt hI (by omega) | exact Nat.lt_trans (b2n_lt _) (by decide)) (fun c_229 => ?_) (fun c_229 => ?_)
        · refine sv_iconst (nI 0) dX6_does_236 (by decide) ?_
          refine sv_iret dX6_does_237 rfl rfl (Nat.le_refl _) (Nat.le_refl _) ?_
          refine ⟨ri ?_, rfl⟩
          rw [gm_dq_8]
          rw [show ∀ q : Prop, ∀ [Decidable q], ¬ q → b2n (decide q) = 0 from fun q _ z => by rw [decide_eq_false z]; rfl]
          rintro ⟨x1, x2, x3⟩
          first | omega | (rw [b2n_f c_218] at x2; cases x2)
        · refine sv_iconst (nI 1) dX6_does_232 (by decide) ?_
          refine sv_goto 237 dX6_does_233 (by decide) ?_
          refine sv_iret dX6_does_237 rfl rfl (Nat.le_refl _) (Nat.le_refl _) ?_
          refine ⟨ri ?_, rfl⟩
          rw [gm_dq_8]
          rw [show ∀ q : Prop, ∀ [Decidable q], q → b2n (decide q) = 1 from fun q _ z => by rw [decide_eq_true z]; rfl]
          exact ⟨by omega, hon, by omega⟩
  · refine sv_tableIn (off := 237) 238 dX6_does_1 (by decide) (by decide) (by decide) (by decide) ?_
    refine sv_aload_n dX6_does_238 rfl ?_
    refine sv_iload_n dX6_does_239 rfl ?_
    refine sv_callV (As := [_]) sc_X6_218 (c6_isPlayerG (by omega)) rfl rfl (Nat.le_of_ble_eq_true rfl) dX6_does_240 ⟨by decide, by decide⟩ ⟨Nat.le_refl _, Nat.le_refl _⟩ (Nat.le_of_ble_eq_true rfl) om_0 (List.cons_ne_nil _ _) rfl ?_
    refine sv_ifN_eq 272 dX6_does_243 (by decide) (by first | omega | (have z := b2n_lt (gm_on S); omega) | (have z := b2n_lt (gm_isP S (nI a)); omega) | exact gm_tot_lt hI (by omega) | exact Nat.lt_trans (b2n_lt _) (by decide)) (fun c_243 => ?_) (fun c_243 => ?_)
    · have in_a := of_decide_eq_false ((gm_isP_n (S := S) (by omega) (by omega)).symm.trans (b2n_f c_243))
      refine sv_iconst (nI 0) dX6_does_272 (by decide) ?_
      refine sv_iret dX6_does_273 rfl rfl (Nat.le_refl _) (Nat.le_refl _) ?_
      refine ⟨ri ?_, rfl⟩
      rw [gm_dq_9]
      rw [show ∀ q : Prop, ∀ [Decidable q], ¬ q → b2n (decide q) = 0 from fun q _ z => by rw [decide_eq_false z]; rfl]
      first | omega | (have in_b := b2n_e c_252; omega)
    · have in_a := of_decide_eq_true ((gm_isP_n (S := S) (by omega) (by omega)).symm.trans (b2n_1 c_243))
      refine sv_iload_n dX6_does_246 rfl ?_
      refine sv_iconst (nI 0) dX6_does_247 (by decide) ?_
      refine sv_iconst (nI 2) dX6_does_248 (by decide) ?_
      refine sv_callS (As := [_, _, _]) sc_X6_53 (c6_in (by omega) (by omega) (by omega)) rfl rfl (Nat.le_of_ble_eq_true rfl) dX6_does_249 ⟨by decide, by decide⟩ ⟨Nat.le_refl _, Nat.le_refl _⟩ (Nat.le_of_ble_eq_true rfl) ?_
      refine sv_ifN_eq 272 dX6_does_252 (by decide) (by first | omega | (have z := b2n_lt (gm_on S); omega) | (have z := b2n_lt (gm_isP S (nI a)); omega) | exact gm_tot_lt hI (by omega) | exact Nat.lt_trans (b2n_lt _) (by decide)) (fun c_252 => ?_) (fun c_252 => ?_)
      · refine sv_iconst (nI 0) dX6_does_272 (by decide) ?_
        refine sv_iret dX6_does_273 rfl rfl (Nat.le_refl _) (Nat.le_refl _) ?_
        refine ⟨ri ?_, rfl⟩
        rw [gm_dq_9]
        rw [show ∀ q : Prop, ∀ [Decidable q], ¬ q → b2n (decide q) = 0 from fun q _ z => by rw [decide_eq_false z]; rfl]
        first | omega | (have in_b := b2n_e c_252; omega)
      · have in_b := b2n_d c_252
        have bo := hI.2.1 (13 + 8 * a + (1 + b)) (by omega) (by omega)
        refine sv_aload_n dX6_does_255 rfl ?_
        refine sv_iload_n dX6_does_256 rfl ?_
        refine sv_iconst (nI 1) dX6_does_257 (by decide) ?_
        refine sv_iload_n dX6_does_258 rfl ?_
        refine sv_iaddN dX6_does_259 ?_
        refine sv_callV (As := [_, _]) sc_X6_78 (c6_of (p := a) (w := 1 + b) (by omega)) rfl rfl (Nat.le_of_ble_eq_true rfl) dX6_does_260 ⟨by decide, by decide⟩ ⟨Nat.le_refl _, Nat.le_refl _⟩ (Nat.le_of_ble_eq_true rfl) om_0 (List.cons_ne_nil _ _) rfl ?_
        refine sv_iload dX6_does_263 rfl ?_
        refine sv_icmpN_lt 272 dX6_does_265 (by decide) (by first | omega | (have z := b2n_lt (gm_on S); omega) | (have z := b2n_lt (gm_isP S (nI a)); omega) | exact gm_tot_lt hI (by omega) | exact Nat.lt_trans (b2n_lt _) (by decide)) (by first | omega | (have z := b2n_lt (gm_on S); omega) | (have z := b2n_lt (gm_isP S (nI a)); omega) | exact gm_tot_lt hI (by omega) | exact Nat.lt_trans (b2n_lt _) (by decide)) (fun c_265 => ?_) (fun c_265 => ?_)
        · refine sv_iconst (nI 0) dX6_does_272 (by decide) ?_
          refine sv_iret dX6_does_273 rfl rfl (Nat.le_refl _) (Nat.le_refl _) ?_
          refine ⟨ri ?_, rfl⟩
          rw [gm_dq_9]
          rw [show ∀ q : Prop, ∀ [Decidable q], ¬ q → b2n (decide q) = 0 from fun q _ z => by rw [decide_eq_false z]; rfl]
          first | omega | (have in_b := b2n_e c_252; omega)
        · refine sv_iconst (nI 1) dX6_does_268 (by decide) ?_
          refine sv_goto 273 dX6_does_269 (by decide) ?_
          refine sv_iret dX6_does_273 rfl rfl (Nat.le_refl _) (Nat.le_refl _) ?_
          refine ⟨ri ?_, rfl⟩
          rw [gm_dq_9]
          rw [show ∀ q : Prop, ∀ [Decidable q], q → b2n (decide q) = 1 from fun q _ z => by rw [decide_eq_true z]; rfl]
          omega
end SR24
