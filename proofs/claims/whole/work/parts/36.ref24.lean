section SR24
variable {G : sm_G} {h : sm_H} {m : Nat} {F : Nat → Int32} {X : Nat → Int64} {A : Nat → Nat → Int32} {L : Nat → Nat → Int64} {S : Nat → Nat} {K : Nat}
/-- what a line of a script asks -/
def gm_dq (S : gm_S) (t a b c : Nat) : Bool :=
  if t = 5 then decide (a < S 3 ∧ 10 * b + c ≤ gm_tot S a)
  else if t = 6 then decide (a ≤ 5 ∧ c = 0 ∧ b ≤ S (45 + 4 * a))
  else if t = 7 then decide (a ≤ 2 ∧ c = 0 ∧ 0 < S 3 ∧ b ≤ S (7 + a))
  else if t = 8 then decide (a + b = 0 ∧ gm_on S = true ∧ S 4 = c)
  else if t = 9 then decide (a < S 3 ∧ b ≤ 2 ∧ c ≤ S (13 + 8 * a + (1 + b)))
  else false
theorem gm_dq_5 {a b c : Nat} : gm_dq S 5 a b c = decide (a < S 3 ∧ 10 * b + c ≤ gm_tot S a) := rfl
theorem gm_dq_6 {a b c : Nat} : gm_dq S 6 a b c = decide (a ≤ 5 ∧ c = 0 ∧ b ≤ S (45 + 4 * a)) := rfl
theorem gm_dq_7 {a b c : Nat} : gm_dq S 7 a b c = decide (a ≤ 2 ∧ c = 0 ∧ 0 < S 3 ∧ b ≤ S (7 + a)) := rfl
theorem gm_dq_8 {a b c : Nat} : gm_dq S 8 a b c = decide (a + b = 0 ∧ gm_on S = true ∧ S 4 = c) := rfl
theorem gm_dq_9 {a b c : Nat} : gm_dq S 9 a b c = decide (a < S 3 ∧ b ≤ 2 ∧ c ≤ S (13 + 8 * a + (1 + b))) := rfl
theorem c6_doesP {x : Int64} (hI : gm_I K S) (hK : K + 40 < 2 ^ 26) (hK9 : 12 ≤ K) {a b c : Nat} (ha : a < 10) (hb : b < 10) (hc9 : c < 10) (hq : a < 6) (hc : 10 * b + c < 24) (hch : gm_ch a (10 * b + c) = true) (hcan : gm_can S a (10 * b + c) = true) : sm_F G mX6_does 6 [.ref m, .int (nI 1), .int (nI a), .int (nI b), .int (nI c)] (sm_om G h m F (va_up X 2 x) (sm_as A S) L) (.inl (some (.int (nI 1)))) (sm_om G h m F (va_up X 2 (gm_put false S x a (10 * b + c)).2) (sm_as A (gm_put false S x a (10 * b + c)).1) L) := by
  unfold sm_F sm_C
  show sm_V G _ _ _ 0 0 0 [(0, .ref m), (1, .int (nI 1)), (2, .int (nI a)), (3, .int (nI b)), (4, .int (nI c))] [] _
  refine sv_iload_n dX6_does_0 rfl ?_
  refine sv_tableIn (off := 51) 52 dX6_does_1 (by decide) (by decide) (by decide) (by decide) ?_
  refine sv_aload_n dX6_does_52 rfl ?_
  refine sv_iload_n dX6_does_53 rfl ?_
  refine sv_bipush (nI 10) dX6_does_54 (by decide) ?_
  refine sv_iload_n dX6_does_56 rfl ?_
  refine sv_imulN dX6_does_57 ?_
  refine sv_iload dX6_does_58 rfl ?_
  refine sv_iaddN dX6_does_60 ?_
  refine sv_callV (As := [_, _]) sc_X6_245 (c6_doesPlaceK hI hK hK9 hq hc hch hcan) rfl rfl (Nat.le_of_ble_eq_true rfl) dX6_does_61 ⟨by decide, by decide⟩ ⟨Nat.le_refl _, Nat.le_refl _⟩ (Nat.le_of_ble_eq_true rfl) om_0 (List.cons_ne_nil _ _) rfl ?_
  refine sv_iret dX6_does_64 rfl rfl (Nat.le_refl _) (Nat.le_refl _) ?_
  exact ⟨rfl, rfl⟩
theorem c6_doesT {x : Int64} (hI : gm_I K S) (hK : K + 40 < 2 ^ 26) (hK9 : 12 ≤ K) {a b c : Nat} (ha : a < 10) (hb : b < 10) (hc9 : c < 10) (hz : a + b + c = 0) (hon : gm_on S = true) : sm_F G mX6_does 7 [.ref m, .int (nI 2), .int (nI a), .int (nI b), .int (nI c)] (sm_om G h m F (va_up X 2 x) (sm_as A S) L) (.inl (some (.int (nI 1)))) (sm_om G h m F (va_up X 2 (gm_pass false S x).2) (sm_as A (gm_pass false S x).1) L) := by
  unfold sm_F sm_C
  show sm_V G _ _ _ 0 0 0 [(0, .ref m), (1, .int (nI 2)), (2, .int (nI a)), (3, .int (nI b)), (4, .int (nI c))] [] _
  refine sv_iload_n dX6_does_0 rfl ?_
  refine sv_tableIn (off := 64) 65 dX6_does_1 (by decide) (by decide) (by decide) (by decide) ?_
  refine sv_iload_n dX6_does_65 rfl ?_
  refine sv_iload_n dX6_does_66 rfl ?_
  refine sv_iaddN dX6_does_67 ?_
  refine sv_iload dX6_does_68 rfl ?_
  refine sv_iaddN dX6_does_70 ?_
  refine sv_ifN_ne 95 dX6_does_71 (by decide) (by omega) (fun c_71 => absurd c_71 (fun z => z hz)) (fun c_71 => ?_)
  refine sv_aload_n dX6_does_74 rfl ?_
  refine sv_iload_n dX6_does_75 rfl ?_
  refine sv_iconst (nI 3) dX6_does_76 (by decide) ?_
  refine sv_icmpN_ne 84 dX6_does_77 (by decide) (by omega) (by omega) (fun c_77 => ?_) (fun c_77 => absurd c_77 (by decide))
  refine sv_iconst (nI 0) dX6_does_84 (by decide) ?_
  refine sv_callV (As := [_]) sc_X6_248 (c6_doesTurnP hI hK hK9 hon) rfl rfl (Nat.le_of_ble_eq_true rfl) dX6_does_85 ⟨by decide, by decide⟩ ⟨Nat.le_refl _, Nat.le_refl _⟩ (Nat.le_of_ble_eq_true rfl) om_0 (List.cons_ne_nil _ _) rfl ?_
  refine sv_ifN_eq 95 dX6_does_88 (by decide) (by omega) (fun c_88 => absurd c_88 (by decide)) (fun c_88 => ?_)
  refine sv_iconst (nI 1) dX6_does_91 (by decide) ?_
  refine sv_goto 96 dX6_does_92 (by decide) ?_
  refine sv_iret dX6_does_96 rfl rfl (Nat.le_refl _) (Nat.le_refl _) ?_
  exact ⟨rfl, rfl⟩
theorem c6_doesY {x : Int64} (hI : gm_I K S) (hK : K + 40 < 2 ^ 26) (hK9 : 12 ≤ K) {a b c : Nat} (ha : a < 10) (hb : b < 10) (hc9 : c < 10) (hz : a + b + c = 0) (hon : gm_on S = true) : sm_F G mX6_does 8 [.ref m, .int (nI 3), .int (nI a), .int (nI b), .int (nI c)] (sm_om G h m F (va_up X 2 x) (sm_as A S) L) (.inl (some (.int (nI 1)))) (sm_om G h m (gm_FB F (gm_bst S)) (va_up (gm_kX (gm_any S) (va_up X 2 x)) 2 (gm_play false S x).2) (sm_as (gm_kA (gm_any S) A S) (gm_play false S x).1) L) := by
  unfold sm_F sm_C
  show sm_V G _ _ _ 0 0 0 [(0, .ref m), (1, .int (nI 3)), (2, .int (nI a)), (3, .int (nI b)), (4, .int (nI c))] [] _
  refine sv_iload_n dX6_does_0 rfl ?_
  refine sv_tableIn (off := 64) 65 dX6_does_1 (by decide) (by decide) (by decide) (by decide) ?_
  refine sv_iload_n dX6_does_65 rfl ?_
  refine sv_iload_n dX6_does_66 rfl ?_
  refine sv_iaddN dX6_does_67 ?_
  refine sv_iload dX6_does_68 rfl ?_
  refine sv_iaddN dX6_does_70 ?_
  refine sv_ifN_ne 95 dX6_does_71 (by decide) (by omega) (fun c_71 => absurd c_71 (fun z => z hz)) (fun c_71 => ?_)
  refine sv_aload_n dX6_does_74 rfl ?_
  refine sv_iload_n dX6_does_75 rfl ?_
  refine sv_iconst (nI 3) dX6_does_76 (by decide) ?_
  refine sv_icmpN_ne 84 dX6_does_77 (by decide) (by omega) (by omega) (fun c_77 => absurd c_77 (fun z => z rfl)) (fun c_77 => ?_)
  refine sv_iconst (nI 1) dX6_does_80 (by decide) ?_
  refine sv_goto 85 dX6_does_81 (by decide) ?_
  refine sv_callV (As := [_]) sc_X6_248 (c6_doesTurnY hI hK hK9 hon) rfl rfl (Nat.le_of_ble_eq_true rfl) dX6_does_85 ⟨by decide, by decide⟩ ⟨Nat.le_refl _, Nat.le_refl _⟩ (Nat.le_of_ble_eq_true rfl) om_0 (List.cons_ne_nil _ _) rfl ?_
  refine sv_ifN_eq 95 dX6_does_88 (by decide) (by omega) (fun c_88 => absurd c_88 (by decide)) (fun c_88 => ?_)
  refine sv_iconst (nI 1) dX6_does_91 (by decide) ?_
  refine sv_goto 96 dX6_does_92 (by decide) ?_
  refine sv_iret dX6_does_96 rfl rfl (Nat.le_refl _) (Nat.le_refl _) ?_
  exact ⟨rfl, rfl⟩
theorem c6_doesS {a b c : Nat} (ha : a < 10) (hb : b < 10) (hc9 : c < 10) (hs : gm_isS (nI a) (nI (10 * b + c)) = true) (hw : a < 3) : sm_F G mX6_does 3 [.ref m, .int (nI 4), .int (nI a), .int (nI b), .int (nI c)] (sm_om G h m F X (sm_as A S) L) (.inl (some (.int (nI 1)))) (sm_om G h m F X (sm_as A (va_up S a (10 * b + c))) L) := by
  unfold sm_F sm_C
  show sm_V G _ _ _ 0 0 0 [(0, .ref m), (1, .int (nI 4)), (2, .int (nI a)), (3, .int (nI b)), (4, .int (nI c))] [] _
  refine sv_iload_n dX6_does_0 rfl ?_
  refine sv_tableIn (off := 96) 97 dX6_does_1 (by decide) (by decide) (by decide) (by decide) ?_
  refine sv_aload_n dX6_does_97 rfl ?_
  refine sv_iload_n dX6_does_98 rfl ?_
  refine sv_bipush (nI 10) dX6_does_99 (by decide) ?_
  refine sv_iload_n dX6_does_101 rfl ?_
  refine sv_imulN dX6_does_102 ?_
  refine sv_iload dX6_does_103 rfl ?_
  refine sv_iaddN dX6_does_105 ?_
  refine sv_callV (As := [_, _]) sc_X6_252 (c6_doesSetK hs hw) rfl rfl (Nat.le_of_ble_eq_true rfl) dX6_does_106 ⟨by decide, by decide⟩ ⟨Nat.le_refl _, Nat.le_refl _⟩ (Nat.le_of_ble_eq_true rfl) om_0 (List.cons_ne_nil _ _) rfl ?_
  refine sv_iret dX6_does_109 rfl rfl (Nat.le_refl _) (Nat.le_refl _) ?_
  exact ⟨rfl, rfl⟩
end SR24
