section SR17
variable {G : sm_G} {h : sm_H} {m : Nat} {F : Nat → Int32} {X : Nat → Int64} {A : Nat → Nat → Int32} {L : Nat → Nat → Int64} {S : Nat → Nat} {K : Nat} {B : Nat → Nat} {n p mc : Nat}
/-! reading the text -/
def gm_let (B : Nat → Nat) (n p : Nat) : Nat := if p < n then B p else 0
theorem gm_let_t (h : p < n) : gm_let B n p = B p := by unfold gm_let; rw [if_pos h]
theorem gm_let_f (h : n ≤ p) : gm_let B n p = 0 := by unfold gm_let; rw [if_neg (by omega)]
theorem gm_let_lt (hB : ∀ i, i < n → B i < 256) : gm_let B n p < 256 := by unfold gm_let; split; exact hB p (by assumption); omega
def gm_pof (l : Nat) : Nat := if l = 45 then 6 else if l = 104 then 4 else if l = 108 then 2 else if l = 109 then 3 else if l = 110 then 1 else if l = 112 then 0 else if l = 114 then 5 else 7
def gm_pi (l : Nat) : Int32 := if gm_pof l = 7 then -1 else nI (gm_pof l)
theorem gm_po_off : ∀ l : Nat, l < 256 → Op.lookupswitch.offset [(45, 79), (104, 75), (108, 71), (109, 73), (110, 69), (112, 67), (114, 77)] 82 (l : Int) = (if l = 45 then 79 else if l = 104 then 75 else if l = 108 then 71 else if l = 109 then 73 else if l = 110 then 69 else if l = 112 then 67 else if l = 114 then 77 else 82) := by decide +kernel
theorem c6_placeOf {l : Nat} (hl : l < 256) : sm_F G mX6_placeOf 0 [.int (nI l)] h (.inl (some (.int (gm_pi l)))) h := by
  unfold sm_F sm_C
  show sm_V G _ _ _ 0 0 0 [(0, .int (nI l))] [] _
  refine sv_iload_n dX6_placeOf_0 rfl ?_
  have ho := gm_po_off l hl
  rw [← nI_toInt (n := l) (by omega)] at ho
  by_cases e45 : l = 45
  · subst e45
    refine sv_lookup (off := 79) 80 dX6_placeOf_1 (by decide) (ho.trans (by decide)) (by decide) ?_
    refine sv_bipush (nI 6) dX6_placeOf_80 (by decide) ?_
    refine sv_iret dX6_placeOf_82 rfl rfl (Nat.le_refl _) (Nat.le_refl _) ?_
    exact ⟨rfl, rfl⟩
  by_cases e104 : l = 104
  · subst e104
    refine sv_lookup (off := 75) 76 dX6_placeOf_1 (by decide) (ho.trans (by decide)) (by decide) ?_
    refine sv_iconst (nI 4) dX6_placeOf_76 (by decide) ?_
    refine sv_iret dX6_placeOf_77 rfl rfl (Nat.le_refl _) (Nat.le_refl _) ?_
    exact ⟨rfl, rfl⟩
  by_cases e108 : l = 108
  · subst e108
    refine sv_lookup (off := 71) 72 dX6_placeOf_1 (by decide) (ho.trans (by decide)) (by decide) ?_
    refine sv_iconst (nI 2) dX6_placeOf_72 (by decide) ?_
    refine sv_iret dX6_placeOf_73 rfl rfl (Nat.le_refl _) (Nat.le_refl _) ?_
    exact ⟨rfl, rfl⟩
  by_cases e109 : l = 109
  · subst e109
    refine sv_lookup (off := 73) 74 dX6_placeOf_1 (by decide) (ho.trans (by decide)) (by decide) ?_
    refine sv_iconst (nI 3) dX6_placeOf_74 (by decide) ?_
    refine sv_iret dX6_placeOf_75 rfl rfl (Nat.le_refl _) (Nat.le_refl _) ?_
    exact ⟨rfl, rfl⟩
  by_cases e110 : l = 110
  · subst e110
    refine sv_lookup (off := 69) 70 dX6_placeOf_1 (by decide) (ho.trans (by decide)) (by decide) ?_
    refine sv_iconst (nI 1) dX6_placeOf_70 (by decide) ?_
    refine sv_iret dX6_placeOf_71 rfl rfl (Nat.le_refl _) (Nat.le_refl _) ?_
    exact ⟨rfl, rfl⟩
  by_cases e112 : l = 112
  · subst e112
    refine sv_lookup (off := 67) 68 dX6_placeOf_1 (by decide) (ho.trans (by decide)) (by decide) ?_
    refine sv_iconst (nI 0) dX6_placeOf_68 (by decide) ?_
    refine sv_iret dX6_placeOf_69 rfl rfl (Nat.le_refl _) (Nat.le_refl _) ?_
    exact ⟨rfl, rfl⟩
  by_cases e114 : l = 114
  · subst e114
    refine sv_lookup (off := 77) 78 dX6_placeOf_1 (by decide) (ho.trans (by decide)) (by decide) ?_
    refine sv_iconst (nI 5) dX6_placeOf_78 (by decide) ?_
    refine sv_iret dX6_placeOf_79 rfl rfl (Nat.le_refl _) (Nat.le_refl _) ?_
    exact ⟨rfl, rfl⟩
  have e7 : gm_pof l = 7 := by unfold gm_pof; simp only [e45, e104, e108, e109, e110, e112, e114, if_false]
  rw [if_neg e45, if_neg e104, if_neg e108, if_neg e109, if_neg e110, if_neg e112, if_neg e114] at ho
  refine sv_lookup (off := 82) 83 dX6_placeOf_1 (by decide) ho (by decide) ?_
  refine sv_iconst (-1) dX6_placeOf_83 (by decide) ?_
  refine sv_iret dX6_placeOf_84 rfl rfl (Nat.le_refl _) (Nat.le_refl _) ?_
  exact ⟨rI (by unfold gm_pi; rw [if_pos e7]), rfl⟩
theorem c6_letter (h18 : F 18 = nI p) (h10 : F 10 = nI n) (hn : n ≤ 120) (hp : p ≤ n) (hB : ∀ i, i < n → A 9 i = nI (B i)) : sm_F G mX6_letter 0 [.ref m] (sm_om G h m F X (sm_as A S) L) (.inl (some (.int (nI (gm_let B n p))))) (sm_om G h m F X (sm_as A S) L) := by
  unfold sm_F sm_C
  show sm_V G _ _ _ 0 0 0 [(0, .ref m)] [] _
  refine sv_aload_n dX6_letter_0 rfl ?_
  refine rm_get18 rfl dX6_letter_1 ?_
  refine sv_top (nI p) (h18) ?_
  refine sv_aload_n dX6_letter_4 rfl ?_
  refine rm_get10 rfl dX6_letter_5 ?_
  refine sv_top (nI n) (h10) ?_
  refine sv_icmpN_ge 23 dX6_letter_8 (by decide) (by omega) (by omega) (fun c_8 => ?_) (fun c_8 => ?_)
  · refine sv_iconst (nI 0) dX6_letter_23 (by decide) ?_
    refine sv_iret dX6_letter_24 rfl rfl (Nat.le_refl _) (Nat.le_refl _) ?_
    exact ⟨rI (by first | rw [gm_let_f (by omega)] | (rw [gm_let_t (by omega)]; rw [as_k 9 (by omega)]; exact hB p (by omega))), rfl⟩
  · refine sv_aload_n dX6_letter_11 rfl ?_
    refine rm_get9 rfl dX6_letter_12 ?_
    refine sv_aload_n dX6_letter_15 rfl ?_
    refine rm_get18 rfl dX6_letter_16 ?_
    refine sv_top (nI p) (h18) ?_
    refine rm_ld9 dX6_letter_19 (by omega) ?_
    refine sv_goto 24 dX6_letter_20 (by decide) ?_
    refine sv_iret dX6_letter_24 rfl rfl (Nat.le_refl _) (Nat.le_refl _) ?_
    exact ⟨rI (by first | rw [gm_let_f (by omega)] | (rw [gm_let_t (by omega)]; rw [as_k 9 (by omega)]; exact hB p (by omega))), rfl⟩
def gm_wo (B : Nat → Nat) (n : Nat) (k : Bool) (p lo hi : Nat) : Bool := k && decide (p < n ∧ lo ≤ gm_let B n p ∧ gm_let B n p ≤ hi)
theorem gm_wo_1 {k : Bool} {lo hi : Nat} (h : k = true) (h1 : p < n) (h2 : lo ≤ gm_let B n p ∧ gm_let B n p ≤ hi) : gm_wo B n k p lo hi = true := by unfold gm_wo; rw [h, decide_eq_true ⟨h1, h2⟩]; rfl
theorem gm_wo_2 {k : Bool} {lo hi : Nat} (h : k = false) : gm_wo B n k p lo hi = false := by unfold gm_wo; rw [h]; rfl
theorem gm_wo_3 {k : Bool} {lo hi : Nat} (h : ¬ p < n) : gm_wo B n k p lo hi = false := by unfold gm_wo; rw [decide_eq_false (fun z => h z.1), Bool.and_false]
theorem gm_wo_4 {k : Bool} {lo hi : Nat} (h : ¬ (lo ≤ gm_let B n p ∧ gm_let B n p ≤ hi)) : gm_wo B n k p lo hi = false := by unfold gm_wo; rw [decide_eq_false (fun z => h z.2), Bool.and_false]
theorem b2n_d {q : Prop} [Decidable q] (h : b2n (decide q) ≠ 0) : q := of_decide_eq_true (b2n_1 h)
theorem b2n_e {q : Prop} [Decidable q] (h : b2n (decide q) = 0) : ¬ q := of_decide_eq_false (b2n_f h)
theorem c6_wants {k : Bool} {lo hi : Nat} (h18 : F 18 = nI p) (h10 : F 10 = nI n) (hn : n ≤ 120) (hp : p ≤ n) (hB : ∀ i, i < n → A 9 i = nI (B i)) (hB2 : ∀ i, i < n → B i < 256) (h19 : F 19 = nI (b2n k)) (hlo : lo < 2 ^ 31) (hhi : hi < 2 ^ 31) : sm_F G mX6_wants 1 [.ref m, .int (nI lo), .int (nI hi)] (sm_om G h m F X (sm_as A S) L) (.inl (some (.int (nI (gm_let B n p) - nI lo)))) (sm_om G h m (va_up (va_up F 19 (nI (b2n (gm_wo B n k p lo hi)))) 18 (nI (p + b2n (gm_wo B n k p lo hi)))) X (sm_as A S) L) := by
  unfold sm_F sm_C
  show sm_V G _ _ _ 0 0 0 [(0, .ref m), (1, .int (nI lo)), (2, .int (nI hi))] [] _
  have gl := gm_let_lt (p := p) hB2
  refine sv_cut (c9 := 0) (s9 := 0) (p9 := 36) (l9 := [(0, .ref m), (1, .int (nI lo)), (2, .int (nI hi))]) (t9 := [.int (nI (b2n (gm_wo B n k p lo hi))), .ref m]) (h9 := (sm_om G h m F X (sm_as A S) L)) ?_ (fun k_36 => ?_)
  · refine rm_put19 rfl dX6_wants_36 (nar_b (b2n_lt _)) (fit_b (b2n_lt _)) ?_
    refine sv_aload_n dX6_wants_39 rfl ?_
    refine sv_callV (As := []) sc_X6_180 (c6_letter (F := (va_up F 19 (nI (b2n (gm_wo B n k p lo hi))))) ((up_ne (by omega)).trans h18) ((up_ne (by omega)).trans h10) hn hp hB) rfl rfl (Nat.le_of_ble_eq_true rfl) dX6_wants_40 ⟨by decide, by decide⟩ ⟨Nat.le_refl _, Nat.le_refl _⟩ (Nat.le_of_ble_eq_true rfl) om_0 (List.cons_ne_nil _ _) rfl ?_
    refine sv_iload_n dX6_wants_43 rfl ?_
    refine sv_isub dX6_wants_44 ?_
    refine sv_istore_n (lv' := [(3, _), (0, _), (1, _), (2, _)]) dX6_wants_45 (by decide) rfl ?_
    refine sv_aload_n dX6_wants_46 rfl ?_
    refine sv_dup dX6_wants_47 rfl ?_
    refine rm_get18 rfl dX6_wants_48 ?_
    refine sv_top (nI p) ((up_ne (by omega)).trans h18) ?_
    refine sv_aload_n dX6_wants_51 rfl ?_
    refine rm_get19 rfl dX6_wants_52 ?_
    refine sv_top (nI (b2n (gm_wo B n k p lo hi))) (up_eq) ?_
    refine sv_ifN_eq 62 dX6_wants_55 (by decide) (by first | omega | exact Nat.lt_trans (b2n_lt _) (by decide)) (fun c_55 => ?_) (fun c_55 => ?_)
    · refine sv_iconst (nI 0) dX6_wants_62 (by decide) ?_
      refine sv_iaddN dX6_wants_63 ?_
      refine rm_put18 rfl dX6_wants_64 ?_
      refine sv_iload_n dX6_wants_67 rfl ?_
      refine sv_iret dX6_wants_68 rfl rfl (Nat.le_refl _) (Nat.le_refl _) ?_
      exact ⟨rfl, om_FXAL (by first | (rw [b2n_1 c_55]; rfl) | (rw [b2n_f c_55]; rfl)) rfl rfl rfl⟩
    · refine sv_iconst (nI 1) dX6_wants_58 (by decide) ?_
      refine sv_goto 63 dX6_wants_59 (by decide) ?_
      refine sv_iaddN dX6_wants_63 ?_
      refine rm_put18 rfl dX6_wants_64 ?_
      refine sv_iload_n dX6_wants_67 rfl ?_
      refine sv_iret dX6_wants_68 rfl rfl (Nat.le_refl _) (Nat.le_refl _) ?_
      exact ⟨rfl, om_FXAL (by first | (rw [b2n_1 c_55]; rfl) | (rw [b2n_f c_55]; rfl)) rfl rfl rfl⟩
  refine sv_aload_n dX6_wants_0 rfl ?_
  refine sv_aload_n dX6_wants_1 rfl ?_
  refine rm_get19 rfl dX6_wants_2 ?_
  refine sv_top (nI (b2n k)) (h19) ?_
  refine sv_ifN_eq 35 dX6_wants_5 (by decide) (by first | omega | exact Nat.lt_trans (b2n_lt _) (by decide)) (fun c_5 => ?_) (fun c_5 => ?_)
  · refine sv_iconst (nI 0) dX6_wants_35 (by decide) ?_
    refine sv_top (nI (b2n (gm_wo B n k p lo hi))) (by rw [gm_wo_2 (b2n_f c_5)]; rfl) ?_
    exact sv_sub [0, 1, 2] rfl k_36
  · refine sv_aload_n dX6_wants_8 rfl ?_
    refine rm_get18 rfl dX6_wants_9 ?_
    refine sv_top (nI p) (h18) ?_
    refine sv_aload_n dX6_wants_12 rfl ?_
    refine rm_get10 rfl dX6_wants_13 ?_
    refine sv_top (nI n) (h10) ?_
    refine sv_icmpN_ge 35 dX6_wants_16 (by decide) (by first | omega | exact Nat.lt_trans (b2n_lt _) (by decide)) (by first | omega | exact Nat.lt_trans (b2n_lt _) (by decide)) (fun c_16 => ?_) (fun c_16 => ?_)
    · refine sv_iconst (nI 0) dX6_wants_35 (by decide) ?_
      refine sv_top (nI (b2n (gm_wo B n k p lo hi))) (by rw [gm_wo_3 (by omega)]; rfl) ?_
      exact sv_sub [0, 1, 2] rfl k_36
    · refine sv_aload_n dX6_wants_19 rfl ?_
      refine sv_callV (As := []) sc_X6_180 (c6_letter h18 h10 hn hp hB) rfl rfl (Nat.le_of_ble_eq_true rfl) dX6_wants_20 ⟨by decide, by decide⟩ ⟨Nat.le_refl _, Nat.le_refl _⟩ (Nat.le_of_ble_eq_true rfl) om_0 (List.cons_ne_nil _ _) rfl ?_
      refine sv_iload_n dX6_wants_23 rfl ?_
      refine sv_iload_n dX6_wants_24 rfl ?_
      refine sv_callS (As := [_, _, _]) sc_X6_53 (c6_in (by omega) (by omega) (by omega)) rfl rfl (Nat.le_of_ble_eq_true rfl) dX6_wants_25 ⟨by decide, by decide⟩ ⟨Nat.le_refl _, Nat.le_refl _⟩ (Nat.le_of_ble_eq_true rfl) ?_
      refine sv_ifN_eq 35 dX6_wants_28 (by decide) (by first | omega | exact Nat.lt_trans (b2n_lt _) (by decide)) (fun c_28 => ?_) (fun c_28 => ?_)
      · refine sv_iconst (nI 0) dX6_wants_35 (by decide) ?_
        refine sv_top (nI (b2n (gm_wo B n k p lo hi))) (by rw [gm_wo_4 (b2n_e c_28)]; rfl) ?_
        exact sv_sub [0, 1, 2] rfl k_36
      · refine sv_iconst (nI 1) dX6_wants_31 (by decide) ?_
        refine sv_goto 36 dX6_wants_32 (by decide) ?_
        refine sv_top (nI (b2n (gm_wo B n k p lo hi))) (by rw [gm_wo_1 (b2n_1 c_5) (by omega) (b2n_d c_28)]; rfl) ?_
        exact sv_sub [0, 1, 2] rfl k_36
end SR17
