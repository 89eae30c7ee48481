section SR23
variable {G : sm_G} {h : sm_H} {m : Nat} {F : Nat → Int32} {X : Nat → Int64} {A : Nat → Nat → Int32} {L : Nat → Nat → Int64} {S : Nat → Nat} {K : Nat}
theorem c6_doesPlace0 {q c : Int32} (hI : gm_I K S) (hr : gm_ref S q c ≠ 0) : sm_F G mX6_doesPlace 4 [.ref m, .int q, .int c] (sm_om G h m F X (sm_as A S) L) (.inl (some (.int (nI 0)))) (sm_om G h m F X (sm_as A S) L) := by
  unfold sm_F sm_C
  show sm_V G _ _ _ 0 0 0 [(0, .ref m), (1, .int q), (2, .int c)] [] _
  refine sv_aload_n dX6_doesPlace_0 rfl ?_
  refine sv_iload_n dX6_doesPlace_1 rfl ?_
  refine sv_iload_n dX6_doesPlace_2 rfl ?_
  refine sv_callV (As := [_, _]) sc_X6_227 (c6_refuses hI) rfl rfl (Nat.le_of_ble_eq_true rfl) dX6_doesPlace_3 ⟨by decide, by decide⟩ ⟨Nat.le_refl _, Nat.le_refl _⟩ (Nat.le_of_ble_eq_true rfl) om_0 (List.cons_ne_nil _ _) rfl ?_
  refine sv_ifN_ne 13 dX6_doesPlace_6 (by decide) (by have := gm_ref_lt S q c; omega) (fun c_6 => ?_) (fun c_6 => absurd c_6 (fun z => hr z))
  refine sv_iconst (nI 0) dX6_doesPlace_13 (by decide) ?_
  refine sv_istore_n (lv' := [(3, _), (0, _), (1, _), (2, _)]) dX6_doesPlace_14 (by decide) rfl ?_
  refine sv_iload_n dX6_doesPlace_15 rfl ?_
  refine sv_ifN_eq 30 dX6_doesPlace_16 (by decide) (by have := gm_ref_lt S q c; omega) (fun c_16 => ?_) (fun c_16 => absurd c_16 (by decide))
  refine sv_iload_n dX6_doesPlace_30 rfl ?_
  refine sv_iret dX6_doesPlace_31 rfl rfl (Nat.le_refl _) (Nat.le_refl _) ?_
  exact ⟨rfl, rfl⟩
theorem c6_doesPlaceK {x : Int64} (hI : gm_I K S) (hK : K + 40 < 2 ^ 26) (hK9 : 12 ≤ K) {q c : Nat} (hq : q < 6) (hc : c < 24) (hch : gm_ch q c = true) (hcan : gm_can S q c = true) : sm_F G mX6_doesPlace 5 [.ref m, .int (nI q), .int (nI c)] (sm_om G h m F (va_up X 2 x) (sm_as A S) L) (.inl (some (.int (nI 1)))) (sm_om G h m F (va_up X 2 (gm_put false S x q c).2) (sm_as A (gm_put false S x q c).1) L) := by
  unfold sm_F sm_C
  show sm_V G _ _ _ 0 0 0 [(0, .ref m), (1, .int (nI q)), (2, .int (nI c))] [] _
  have hM := gm_pl_M hI hq hc hch hcan hK hK9
  have hn := hM.n
  refine sv_aload_n dX6_doesPlace_0 rfl ?_
  refine sv_iload_n dX6_doesPlace_1 rfl ?_
  refine sv_iload_n dX6_doesPlace_2 rfl ?_
  refine sv_callV (As := [_, _]) sc_X6_227 (c6_refuses hI) rfl rfl (Nat.le_of_ble_eq_true rfl) dX6_doesPlace_3 ⟨by decide, by decide⟩ ⟨Nat.le_refl _, Nat.le_refl _⟩ (Nat.le_of_ble_eq_true rfl) om_0 (List.cons_ne_nil _ _) rfl ?_
  refine sv_top (nI 0) (by rw [gm_ref_0 (by omega) (by omega) (decide_eq_true (by rw [nI_leI (by omega) (by omega), nI_leI (by omega) (by omega)]; omega)) (by rw [gm_chR_n (by omega)]; exact hch) hcan]) ?_
  refine sv_ifN_ne 13 dX6_doesPlace_6 (by decide) (by omega) (fun c_6 => absurd c_6 (fun z => z rfl)) (fun c_6 => ?_)
  refine sv_iconst (nI 1) dX6_doesPlace_9 (by decide) ?_
  refine sv_goto 14 dX6_doesPlace_10 (by decide) ?_
  refine sv_istore_n (lv' := [(3, _), (0, _), (1, _), (2, _)]) dX6_doesPlace_14 (by decide) rfl ?_
  refine sv_iload_n dX6_doesPlace_15 rfl ?_
  refine sv_ifN_eq 30 dX6_doesPlace_16 (by decide) (by omega) (fun c_16 => absurd c_16 (by decide)) (fun c_16 => ?_)
  refine sv_aload_n dX6_doesPlace_19 rfl ?_
  refine sv_iload_n dX6_doesPlace_20 rfl ?_
  refine sv_iload_n dX6_doesPlace_21 rfl ?_
  refine sv_callV (As := [_, _]) sc_X6_137 (c6_places hI hq hc (gm_chg hc hch) hcan) rfl rfl (Nat.le_of_ble_eq_true rfl) dX6_doesPlace_22 ⟨by decide, by decide⟩ ⟨Nat.le_refl _, Nat.le_refl _⟩ (Nat.le_of_ble_eq_true rfl) om_0 (List.cons_ne_nil _ _) rfl ?_
  refine sv_pop dX6_doesPlace_25 rfl ?_
  refine sv_aload_n dX6_doesPlace_26 rfl ?_
  refine sv_callV (As := []) sc_X6_158 (c6_goesTo hM.k hM.k2 (by omega) (by omega) (by omega) (by omega)) rfl rfl (Nat.le_of_ble_eq_true rfl) dX6_doesPlace_27 ⟨by decide, by decide⟩ ⟨Nat.le_refl _, Nat.le_refl _⟩ (Nat.le_of_ble_eq_true rfl) om_0 (List.cons_ne_nil _ _) rfl ?_
  refine sv_iload_n dX6_doesPlace_30 rfl ?_
  refine sv_iret dX6_doesPlace_31 rfl rfl (Nat.le_refl _) (Nat.le_refl _) ?_
  exact ⟨rfl, rfl⟩
theorem c6_doesTurn0 {k : Nat} (hI : gm_I K S) (hon : gm_on S = false) : sm_F G mX6_doesTurn 1 [.ref m, .int (nI k)] (sm_om G h m F X (sm_as A S) L) (.inl (some (.int (nI 0)))) (sm_om G h m F X (sm_as A S) L) := by
  unfold sm_F sm_C
  show sm_V G _ _ _ 0 0 0 [(0, .ref m), (1, .int (nI k))] [] _
  have b3 := hI.2.1 3 (by omega) (by omega); have b6 := hI.2.1 6 (by omega) (by omega); have b0 := hI.2.1 0 (by omega) (by omega); have bK := hI.2.2.1
  refine sv_aload_n dX6_doesTurn_0 rfl ?_
  refine sv_callV (As := []) sc_X6_106 (c6_isOn (by omega) (by omega) (by omega)) rfl rfl (Nat.le_of_ble_eq_true rfl) dX6_doesTurn_1 ⟨by decide, by decide⟩ ⟨Nat.le_refl _, Nat.le_refl _⟩ (Nat.le_of_ble_eq_true rfl) om_0 (List.cons_ne_nil _ _) rfl ?_
  refine sv_istore_n (lv' := [(2, _), (0, _), (1, _)]) dX6_doesTurn_4 (by decide) rfl ?_
  refine sv_iload_n dX6_doesTurn_5 rfl ?_
  refine sv_ifN_eq 25 dX6_doesTurn_6 (by decide) (by first | omega | (have z := b2n_lt (gm_on S); omega)) (fun c_6 => ?_) (fun c_6 => absurd c_6 (fun z => z ((b2n_0 _).mpr hon)))
  refine sv_iload_n dX6_doesTurn_25 rfl ?_
  refine sv_iret dX6_doesTurn_26 rfl (nar_b (b2n_lt _)) (Nat.le_refl _) (Nat.le_refl _) ?_
  exact ⟨ri ((b2n_0 _).mpr hon), rfl⟩
theorem c6_doesTurnP {x : Int64} (hI : gm_I K S) (hK : K + 40 < 2 ^ 26) (hK9 : 12 ≤ K) (hon : gm_on S = true) : sm_F G mX6_doesTurn 6 [.ref m, .int (nI 0)] (sm_om G h m F (va_up X 2 x) (sm_as A S) L) (.inl (some (.int (nI 1)))) (sm_om G h m F (va_up X 2 (gm_pass false S x).2) (sm_as A (gm_pass false S x).1) L) := by
  unfold sm_F sm_C
  show sm_V G _ _ _ 0 0 0 [(0, .ref m), (1, .int (nI 0))] [] _
  have b3 := hI.2.1 3 (by omega) (by omega); have b6 := hI.2.1 6 (by omega) (by omega); have b0 := hI.2.1 0 (by omega) (by omega); have bK := hI.2.2.1
  have hM := gm_IM hI hon
  have hn := hM.n
  refine sv_aload_n dX6_doesTurn_0 rfl ?_
  refine sv_callV (As := []) sc_X6_106 (c6_isOn (by omega) (by omega) (by omega)) rfl rfl (Nat.le_of_ble_eq_true rfl) dX6_doesTurn_1 ⟨by decide, by decide⟩ ⟨Nat.le_refl _, Nat.le_refl _⟩ (Nat.le_of_ble_eq_true rfl) om_0 (List.cons_ne_nil _ _) rfl ?_
  refine sv_istore_n (lv' := [(2, _), (0, _), (1, _)]) dX6_doesTurn_4 (by decide) rfl ?_
  refine sv_iload_n dX6_doesTurn_5 rfl ?_
  refine sv_ifN_eq 25 dX6_doesTurn_6 (by decide) (by first | omega | (have z := b2n_lt (gm_on S); omega)) (fun c_6 => absurd c_6 (fun z => by rw [(b2n_0 _).mp z] at hon; cases hon)) (fun c_6 => ?_)
  refine sv_iload_n dX6_doesTurn_9 rfl ?_
  refine sv_ifN_eq 21 dX6_doesTurn_10 (by decide) (by first | omega | (have z := b2n_lt (gm_on S); omega)) (fun c_10 => ?_) (fun c_10 => absurd c_10 (fun z => z rfl))
  refine sv_aload_n dX6_doesTurn_21 rfl ?_
  refine sv_callV (As := []) sc_X6_164 (c6_passes hM.k hM.k2 (by omega) (by omega) (by omega) (by omega) (by omega)) rfl rfl (Nat.le_of_ble_eq_true rfl) dX6_doesTurn_22 ⟨by decide, by decide⟩ ⟨Nat.le_refl _, Nat.le_refl _⟩ (Nat.le_of_ble_eq_true rfl) om_0 (List.cons_ne_nil _ _) rfl ?_
  refine sv_iload_n dX6_doesTurn_25 rfl ?_
  refine sv_iret dX6_doesTurn_26 rfl (nar_b (b2n_lt _)) (Nat.le_refl _) (Nat.le_refl _) ?_
  exact ⟨ri (by rw [hon]; rfl), rfl⟩
theorem c6_doesTurnY {x : Int64} (hI : gm_I K S) (hK : K + 40 < 2 ^ 26) (hK9 : 12 ≤ K) (hon : gm_on S = true) : sm_F G mX6_doesTurn 7 [.ref m, .int (nI 1)] (sm_om G h m F (va_up X 2 x) (sm_as A S) L) (.inl (some (.int (nI 1)))) (sm_om G h m (gm_FB F (gm_bst S)) (va_up (gm_kX (gm_any S) (va_up X 2 x)) 2 (gm_play false S x).2) (sm_as (gm_kA (gm_any S) A S) (gm_play false S x).1) L) := by
  unfold sm_F sm_C
  show sm_V G _ _ _ 0 0 0 [(0, .ref m), (1, .int (nI 1))] [] _
  have b3 := hI.2.1 3 (by omega) (by omega); have b6 := hI.2.1 6 (by omega) (by omega); have b0 := hI.2.1 0 (by omega) (by omega); have bK := hI.2.2.1
  refine sv_aload_n dX6_doesTurn_0 rfl ?_
  refine sv_callV (As := []) sc_X6_106 (c6_isOn (by omega) (by omega) (by omega)) rfl rfl (Nat.le_of_ble_eq_true rfl) dX6_doesTurn_1 ⟨by decide, by decide⟩ ⟨Nat.le_refl _, Nat.le_refl _⟩ (Nat.le_of_ble_eq_true rfl) om_0 (List.cons_ne_nil _ _) rfl ?_
  refine sv_istore_n (lv' := [(2, _), (0, _), (1, _)]) dX6_doesTurn_4 (by decide) rfl ?_
  refine sv_iload_n dX6_doesTurn_5 rfl ?_
  refine sv_ifN_eq 25 dX6_doesTurn_6 (by decide) (by first | omega | (have z := b2n_lt (gm_on S); omega)) (fun c_6 => absurd c_6 (fun z => by rw [(b2n_0 _).mp z] at hon; cases hon)) (fun c_6 => ?_)
  refine sv_iload_n dX6_doesTurn_9 rfl ?_
  refine sv_ifN_eq 21 dX6_doesTurn_10 (by decide) (by first | omega | (have z := b2n_lt (gm_on S); omega)) (fun c_10 => absurd c_10 (by decide)) (fun c_10 => ?_)
  refine sv_aload_n dX6_doesTurn_13 rfl ?_
  refine sv_callV (As := []) sc_X6_230 (c6_plays hI hon hK hK9) rfl rfl (Nat.le_of_ble_eq_true rfl) dX6_doesTurn_14 ⟨by decide, by decide⟩ ⟨Nat.le_refl _, Nat.le_refl _⟩ (Nat.le_of_ble_eq_true rfl) om_0 (List.cons_ne_nil _ _) rfl ?_
  refine sv_pop dX6_doesTurn_17 rfl ?_
  refine sv_goto 25 dX6_doesTurn_18 (by decide) ?_
  refine sv_iload_n dX6_doesTurn_25 rfl ?_
  refine sv_iret dX6_doesTurn_26 rfl (nar_b (b2n_lt _)) (Nat.le_refl _) (Nat.le_refl _) ?_
  exact ⟨ri (by rw [hon]; rfl), rfl⟩
theorem c6_doesSet0 {w v : Nat} (hs : gm_isS (nI w) (nI v) = false) : sm_F G mX6_doesSet 2 [.ref m, .int (nI w), .int (nI v)] (sm_om G h m F X (sm_as A S) L) (.inl (some (.int (nI 0)))) (sm_om G h m F X (sm_as A S) L) := by
  unfold sm_F sm_C
  show sm_V G _ _ _ 0 0 0 [(0, .ref m), (1, .int (nI w)), (2, .int (nI v))] [] _
  refine sv_iload_n dX6_doesSet_0 rfl ?_
  refine sv_iload_n dX6_doesSet_1 rfl ?_
  refine sv_callS (As := [_, _]) sc_X6_233 (c6_isSetting) rfl rfl (Nat.le_of_ble_eq_true rfl) dX6_doesSet_2 ⟨by decide, by decide⟩ ⟨Nat.le_refl _, Nat.le_refl _⟩ (Nat.le_of_ble_eq_true rfl) ?_
  refine sv_istore_n (lv' := [(3, _), (0, _), (1, _), (2, _)]) dX6_doesSet_5 (by decide) rfl ?_
  refine sv_iload_n dX6_doesSet_6 rfl ?_
  refine sv_ifN_eq 17 dX6_doesSet_7 (by decide) (by first | omega | (have z := b2n_lt (gm_isS (nI w) (nI v)); omega)) (fun c_7 => ?_) (fun c_7 => absurd c_7 (fun z => z ((b2n_0 _).mpr hs)))
  refine sv_iload_n dX6_doesSet_17 rfl ?_
  refine sv_iret dX6_doesSet_18 rfl (nar_b (b2n_lt _)) (Nat.le_refl _) (Nat.le_refl _) ?_
  exact ⟨ri ((b2n_0 _).mpr hs), rfl⟩
theorem c6_doesSetK {w v : Nat} (hs : gm_isS (nI w) (nI v) = true) (hw : w < 3) : sm_F G mX6_doesSet 2 [.ref m, .int (nI w), .int (nI v)] (sm_om G h m F X (sm_as A S) L) (.inl (some (.int (nI 1)))) (sm_om G h m F X (sm_as A (va_up S w v)) L) := by
  unfold sm_F sm_C
  show sm_V G _ _ _ 0 0 0 [(0, .ref m), (1, .int (nI w)), (2, .int (nI v))] [] _
  refine sv_iload_n dX6_doesSet_0 rfl ?_
  refine sv_iload_n dX6_doesSet_1 rfl ?_
  refine sv_callS (As := [_, _]) sc_X6_233 (c6_isSetting) rfl rfl (Nat.le_of_ble_eq_true rfl) dX6_doesSet_2 ⟨by decide, by decide⟩ ⟨Nat.le_refl _, Nat.le_refl _⟩ (Nat.le_of_ble_eq_true rfl) ?_
  refine sv_istore_n (lv' := [(3, _), (0, _), (1, _), (2, _)]) dX6_doesSet_5 (by decide) rfl ?_
  refine sv_iload_n dX6_doesSet_6 rfl ?_
  refine sv_ifN_eq 17 dX6_doesSet_7 (by decide) (by first | omega | (have z := b2n_lt (gm_isS (nI w) (nI v)); omega)) (fun c_7 => absurd c_7 (fun z => by rw [(b2n_0 _).mp z] at hs; cases hs)) (fun c_7 => ?_)
  refine sv_aload_n dX6_doesSet_10 rfl ?_
  refine rm_get1 rfl dX6_doesSet_11 ?_
  refine sv_iload_n dX6_doesSet_14 rfl ?_
  refine sv_iload_n dX6_doesSet_15 rfl ?_
  refine rm_st1N dX6_doesSet_16 (by first | omega | (have z := b2n_lt (gm_isS (nI w) (nI v)); omega)) ?_
  refine sv_iload_n dX6_doesSet_17 rfl ?_
  refine sv_iret dX6_doesSet_18 rfl (nar_b (b2n_lt _)) (Nat.le_refl _) (Nat.le_refl _) ?_
  exact ⟨ri (by rw [hs]; rfl), rfl⟩
/-! one turn by lot -/
def gm_sq (r : Nat) : Nat := r / 8 % 6
def gm_sc (r : Nat) : Nat := if gm_sq r = 2 then 1 + r / 64 % 3 else if gm_sq r = 3 then 10 * (r / 64 % 3) + 1 + r / 256 % 3 else 0
theorem gm_s_ch (r : Nat) : gm_sq r < 6 ∧ gm_sc r < 24 ∧ gm_ch (gm_sq r) (gm_sc r) = true := by
  have h : gm_sq r < 6 := Nat.mod_lt _ (by decide)
  refine ⟨h, ?_, ?_⟩
  · unfold gm_sc; (repeat' split) <;> omega
  · unfold gm_ch gm_sc
    by_cases e2 : gm_sq r = 2
    · rw [if_pos e2, if_pos e2]; exact decide_eq_true (by omega)
    · rw [if_neg e2]
      by_cases e3 : gm_sq r = 3
      · rw [if_pos e3, if_neg e2, if_pos e3]
        have hu : r / 64 % 3 < 3 := Nat.mod_lt _ (by decide)
        have hw : r / 256 % 3 < 3 := Nat.mod_lt _ (by decide)
        generalize r / 64 % 3 = u at *
        generalize r / 256 % 3 = w at *
        rcases (show u = 0 ∨ u = 1 ∨ u = 2 by omega) with rfl | rfl | rfl <;> exact decide_eq_true (by omega)
      · rw [if_neg e3, if_neg e2, if_neg e3]; rfl
theorem gm_sc_2 {r : Nat} (h : gm_sq r = 2) : gm_sc r = 1 + r / 64 % 3 := by unfold gm_sc; rw [if_pos h]
theorem gm_sc_3 {r : Nat} (h2 : gm_sq r ≠ 2) (h : gm_sq r = 3) : gm_sc r = 10 * (r / 64 % 3) + 1 + r / 256 % 3 := by unfold gm_sc; rw [if_neg h2, if_pos h]
theorem gm_sc_0 {r : Nat} (h2 : gm_sq r ≠ 2) (h : gm_sq r ≠ 3) : gm_sc r = 0 := by unfold gm_sc; rw [if_neg h2, if_neg h]
def gm_sim (z : Bool) (S : gm_S) (x : Int64) (r : Nat) : gm_S × Int64 := if r % 8 = 7 then gm_pass z S x else if gm_can S (gm_sq r) (gm_sc r) = true then gm_put z S x (gm_sq r) (gm_sc r) else gm_play z S x
theorem c6_simulates1 {x : Int64} (hI : gm_I K S) (hK : K + 40 < 2 ^ 26) (hK9 : 12 ≤ K) {r : Nat} (hr : r < 2 ^ 31) (hon : gm_on S = true) (h7 : r % 8 = 7) : sm_F G mX6_simulates 7 [.ref m, .int (nI r)] (sm_om G h m F (va_up X 2 x) (sm_as A S) L) (.inl none) (sm_om G h m F (va_up X 2 (gm_sim false S x r).2) (sm_as A (gm_sim false S x r).1) L) := by
  unfold sm_F sm_C
  show sm_V G _ _ _ 0 0 0 [(0, .ref m), (1, .int (nI r))] [] _
  have hM := gm_IM hI hon
  have hn := hM.n
  obtain ⟨sq, sc, sch⟩ := gm_s_ch r
  refine sv_cut (c9 := 0) (s9 := 0) (p9 := 52) (l9 := [(0, .ref m), (1, .int (nI r)), (2, .int (nI (gm_sq r)))]) (t9 := [.int (nI (gm_sc r))]) (h9 := (sm_om G h m F (va_up X 2 x) (sm_as A S) L)) ?_ (fun k_52 => ?_)
  · refine sv_istore_n (lv' := [(3, _), (0, _), (1, _), (2, _)]) dX6_simulates_52 (by decide) rfl ?_
    refine sv_iload_n dX6_simulates_53 rfl ?_
    refine sv_bipush (nI 8) dX6_simulates_54 (by decide) ?_
    refine sv_iremN dX6_simulates_56 (by first | omega | (have z := b2n_lt (gm_can S (gm_sq r) (gm_sc r)); omega)) (by first | omega | (have z := b2n_lt (gm_can S (gm_sq r) (gm_sc r)); omega)) (by first | omega | (have z := b2n_lt (gm_can S (gm_sq r) (gm_sc r)); omega)) ?_
    refine sv_bipush (nI 7) dX6_simulates_57 (by decide) ?_
    refine sv_icmpN_ne 69 dX6_simulates_59 (by decide) (by first | omega | (have z := b2n_lt (gm_can S (gm_sq r) (gm_sc r)); omega)) (by first | omega | (have z := b2n_lt (gm_can S (gm_sq r) (gm_sc r)); omega)) (fun c_59 => absurd c_59 (fun z => z h7)) (fun c_59 => ?_)
    refine sv_aload_n dX6_simulates_62 rfl ?_
    refine sv_callV (As := []) sc_X6_164 (c6_passes hM.k hM.k2 (by omega) (by omega) (by omega) (by omega) (by omega)) rfl rfl (Nat.le_of_ble_eq_true rfl) dX6_simulates_63 ⟨by decide, by decide⟩ ⟨Nat.le_refl _, Nat.le_refl _⟩ (Nat.le_of_ble_eq_true rfl) om_0 (List.cons_ne_nil _ _) rfl ?_
    refine sv_goto 97 dX6_simulates_66 (by decide) ?_
    refine sv_vret dX6_simulates_97 rfl (Nat.le_refl _) (Nat.le_refl _) ?_
    exact ⟨rfl, by unfold gm_sim; rw [if_pos h7]⟩
  refine sv_iload_n dX6_simulates_0 rfl ?_
  refine sv_bipush (nI 8) dX6_simulates_1 (by decide) ?_
  refine sv_idivN dX6_simulates_3 (by first | omega | (have z := b2n_lt (gm_can S (gm_sq r) (gm_sc r)); omega)) (by first | omega | (have z := b2n_lt (gm_can S (gm_sq r) (gm_sc r)); omega)) (by first | omega | (have z := b2n_lt (gm_can S (gm_sq r) (gm_sc r)); omega)) ?_
  refine sv_bipush (nI 6) dX6_simulates_4 (by decide) ?_
  refine sv_iremN dX6_simulates_6 (by first | omega | (have z := b2n_lt (gm_can S (gm_sq r) (gm_sc r)); omega)) (by first | omega | (have z := b2n_lt (gm_can S (gm_sq r) (gm_sc r)); omega)) (by first | omega | (have z := b2n_lt (gm_can S (gm_sq r) (gm_sc r)); omega)) ?_
  refine sv_istore_n (lv' := [(2, _), (0, _), (1, _)]) dX6_simulates_7 (by decide) rfl ?_
  refine sv_iload_n dX6_simulates_8 rfl ?_
  refine sv_iconst (nI 2) dX6_simulates_9 (by decide) ?_
  refine sv_icmpN_ne 24 dX6_simulates_10 (by decide) (by first | omega | (have z := b2n_lt (gm_can S (gm_sq r) (gm_sc r)); omega)) (by first | omega | (have z := b2n_lt (gm_can S (gm_sq r) (gm_sc r)); omega)) (fun c_10 => ?_) (fun c_10 => ?_)
  · refine sv_iload_n dX6_simulates_24 rfl ?_
    refine sv_iconst (nI 3) dX6_simulates_25 (by decide) ?_
    refine sv_icmpN_ne 51 dX6_simulates_26 (by decide) (by first | omega | (have z := b2n_lt (gm_can S (gm_sq r) (gm_sc r)); omega)) (by first | omega | (have z := b2n_lt (gm_can S (gm_sq r) (gm_sc r)); omega)) (fun c_26 => ?_) (fun c_26 => ?_)
    · refine sv_iconst (nI 0) dX6_simulates_51 (by decide) ?_
      refine sv_top (nI (gm_sc r)) (by rw [gm_sc_0 c_10 c_26]) ?_
      exact sv_sub [1, 2, 0] rfl k_52
    · refine sv_bipush (nI 10) dX6_simulates_29 (by decide) ?_
      refine sv_iload_n dX6_simulates_31 rfl ?_
      refine sv_bipush (nI 64) dX6_simulates_32 (by decide) ?_
      refine sv_idivN dX6_simulates_34 (by first | omega | (have z := b2n_lt (gm_can S (gm_sq r) (gm_sc r)); omega)) (by first | omega | (have z := b2n_lt (gm_can S (gm_sq r) (gm_sc r)); omega)) (by first | omega | (have z := b2n_lt (gm_can S (gm_sq r) (gm_sc r)); omega)) ?_
      refine sv_iconst (nI 3) dX6_simulates_35 (by decide) ?_
      refine sv_iremN dX6_simulates_36 (by first | omega | (have z := b2n_lt (gm_can S (gm_sq r) (gm_sc r)); omega)) (by first | omega | (have z := b2n_lt (gm_can S (gm_sq r) (gm_sc r)); omega)) (by first | omega | (have z := b2n_lt (gm_can S (gm_sq r) (gm_sc r)); omega)) ?_
      refine sv_imulN dX6_simulates_37 ?_
      refine sv_iconst (nI 1) dX6_simulates_38 (by decide) ?_
      refine sv_iaddN dX6_simulates_39 ?_
      refine sv_iload_n dX6_simulates_40 rfl ?_
      refine sv_sipush (nI 256) dX6_simulates_41 (by decide) ?_
      refine sv_idivN dX6_simulates_44 (by first | omega | (have z := b2n_lt (gm_can S (gm_sq r) (gm_sc r)); omega)) (by first | omega | (have z := b2n_lt (gm_can S (gm_sq r) (gm_sc r)); omega)) (by first | omega | (have z := b2n_lt (gm_can S (gm_sq r) (gm_sc r)); omega)) ?_
      refine sv_iconst (nI 3) dX6_simulates_45 (by decide) ?_
      refine sv_iremN dX6_simulates_46 (by first | omega | (have z := b2n_lt (gm_can S (gm_sq r) (gm_sc r)); omega)) (by first | omega | (have z := b2n_lt (gm_can S (gm_sq r) (gm_sc r)); omega)) (by first | omega | (have z := b2n_lt (gm_can S (gm_sq r) (gm_sc r)); omega)) ?_
      refine sv_iaddN dX6_simulates_47 ?_
      refine sv_goto 52 dX6_simulates_48 (by decide) ?_
      refine sv_top (nI (gm_sc r)) (by rw [gm_sc_3 c_10 c_26]) ?_
      exact sv_sub [1, 2, 0] rfl k_52
  · refine sv_iconst (nI 1) dX6_simulates_13 (by decide) ?_
    refine sv_iload_n dX6_simulates_14 rfl ?_
    refine sv_bipush (nI 64) dX6_simulates_15 (by decide) ?_
    refine sv_idivN dX6_simulates_17 (by first | omega | (have z := b2n_lt (gm_can S (gm_sq r) (gm_sc r)); omega)) (by first | omega | (have z := b2n_lt (gm_can S (gm_sq r) (gm_sc r)); omega)) (by first | omega | (have z := b2n_lt (gm_can S (gm_sq r) (gm_sc r)); omega)) ?_
    refine sv_iconst (nI 3) dX6_simulates_18 (by decide) ?_
    refine sv_iremN dX6_simulates_19 (by first | omega | (have z := b2n_lt (gm_can S (gm_sq r) (gm_sc r)); omega)) (by first | omega | (have z := b2n_lt (gm_can S (gm_sq r) (gm_sc r)); omega)) (by first | omega | (have z := b2n_lt (gm_can S (gm_sq r) (gm_sc r)); omega)) ?_
    refine sv_iaddN dX6_simulates_20 ?_
    refine sv_goto 52 dX6_simulates_21 (by decide) ?_
    refine sv_top (nI (gm_sc r)) (by rw [gm_sc_2 c_10]) ?_
    exact sv_sub [1, 2, 0] rfl k_52
theorem c6_simulates2 {x : Int64} (hI : gm_I K S) (hK : K + 40 < 2 ^ 26) (hK9 : 12 ≤ K) {r : Nat} (hr : r < 2 ^ 31) (hon : gm_on S = true) (h7 : r % 8 ≠ 7) (hcan : gm_can S (gm_sq r) (gm_sc r) = true) : sm_F G mX6_simulates 7 [.ref m, .int (nI r)] (sm_om G h m F (va_up X 2 x) (sm_as A S) L) (.inl none) (sm_om G h m F (va_up X 2 (gm_sim false S x r).2) (sm_as A (gm_sim false S x r).1) L) := by
  unfold sm_F sm_C
  show sm_V G _ _ _ 0 0 0 [(0, .ref m), (1, .int (nI r))] [] _
  have hM := gm_pl_M hI (gm_s_ch r).1 (gm_s_ch r).2.1 (gm_s_ch r).2.2 hcan hK hK9
  have hn := hM.n
  obtain ⟨sq, sc, sch⟩ := gm_s_ch r
  refine sv_cut (c9 := 0) (s9 := 0) (p9 := 52) (l9 := [(0, .ref m), (1, .int (nI r)), (2, .int (nI (gm_sq r)))]) (t9 := [.int (nI (gm_sc r))]) (h9 := (sm_om G h m F (va_up X 2 x) (sm_as A S) L)) ?_ (fun k_52 => ?_)
  · refine sv_istore_n (lv' := [(3, _), (0, _), (1, _), (2, _)]) dX6_simulates_52 (by decide) rfl ?_
    refine sv_iload_n dX6_simulates_53 rfl ?_
    refine sv_bipush (nI 8) dX6_simulates_54 (by decide) ?_
    refine sv_iremN dX6_simulates_56 (by first | omega | (have z := b2n_lt (gm_can S (gm_sq r) (gm_sc r)); omega)) (by first | omega | (have z := b2n_lt (gm_can S (gm_sq r) (gm_sc r)); omega)) (by first | omega | (have z := b2n_lt (gm_can S (gm_sq r) (gm_sc r)); omega)) ?_
    refine sv_bipush (nI 7) dX6_simulates_57 (by decide) ?_
    refine sv_icmpN_ne 69 dX6_simulates_59 (by decide) (by first | omega | (have z := b2n_lt (gm_can S (gm_sq r) (gm_sc r)); omega)) (by first | omega | (have z := b2n_lt (gm_can S (gm_sq r) (gm_sc r)); omega)) (fun c_59 => ?_) (fun c_59 => absurd c_59 (fun z => h7 z))
    refine sv_aload_n dX6_simulates_69 rfl ?_
    refine sv_iload_n dX6_simulates_70 rfl ?_
    refine sv_iload_n dX6_simulates_71 rfl ?_
    refine sv_callV (As := [_, _]) sc_X6_127 (c6_canPlace hI sq sc (fun e => (gm_chg sc sch e).1)) rfl rfl (Nat.le_of_ble_eq_true rfl) dX6_simulates_72 ⟨by decide, by decide⟩ ⟨Nat.le_refl _, Nat.le_refl _⟩ (Nat.le_of_ble_eq_true rfl) om_0 (List.cons_ne_nil _ _) rfl ?_
    refine sv_ifN_eq 92 dX6_simulates_75 (by decide) (by first | omega | (have z := b2n_lt (gm_can S (gm_sq r) (gm_sc r)); omega)) (fun c_75 => absurd c_75 (fun z => by rw [(b2n_0 _).mp z] at hcan; cases hcan)) (fun c_75 => ?_)
    refine sv_aload_n dX6_simulates_78 rfl ?_
    refine sv_iload_n dX6_simulates_79 rfl ?_
    refine sv_iload_n dX6_simulates_80 rfl ?_
    refine sv_callV (As := [_, _]) sc_X6_137 (c6_places hI sq sc (gm_chg sc sch) hcan) rfl rfl (Nat.le_of_ble_eq_true rfl) dX6_simulates_81 ⟨by decide, by decide⟩ ⟨Nat.le_refl _, Nat.le_refl _⟩ (Nat.le_of_ble_eq_true rfl) om_0 (List.cons_ne_nil _ _) rfl ?_
    refine sv_pop dX6_simulates_84 rfl ?_
    refine sv_aload_n dX6_simulates_85 rfl ?_
    refine sv_callV (As := []) sc_X6_158 (c6_goesTo hM.k hM.k2 (by omega) (by omega) (by omega) (by omega)) rfl rfl (Nat.le_of_ble_eq_true rfl) dX6_simulates_86 ⟨by decide, by decide⟩ ⟨Nat.le_refl _, Nat.le_refl _⟩ (Nat.le_of_ble_eq_true rfl) om_0 (List.cons_ne_nil _ _) rfl ?_
    refine sv_goto 97 dX6_simulates_89 (by decide) ?_
    refine sv_vret dX6_simulates_97 rfl (Nat.le_refl _) (Nat.le_refl _) ?_
    exact ⟨rfl, by unfold gm_sim; rw [if_neg h7, if_pos hcan]; rfl⟩
  refine sv_iload_n dX6_simulates_0 rfl ?_
  refine sv_bipush (nI 8) dX6_simulates_1 (by decide) ?_
  refine sv_idivN dX6_simulates_3 (by first | omega | (have z := b2n_lt (gm_can S (gm_sq r) (gm_sc r)); omega)) (by first | omega | (have z := b2n_lt (gm_can S (gm_sq r) (gm_sc r)); omega)) (by first | omega | (have z := b2n_lt (gm_can S (gm_sq r) (gm_sc r)); omega)) ?_
  refine sv_bipush (nI 6) dX6_simulates_4 (by decide) ?_
  refine sv_iremN dX6_simulates_6 (by first | omega | (have z := b2n_lt (gm_can S (gm_sq r) (gm_sc r)); omega)) (by first | omega | (have z := b2n_lt (gm_can S (gm_sq r) (gm_sc r)); omega)) (by first | omega | (have z := b2n_lt (gm_can S (gm_sq r) (gm_sc r)); omega)) ?_
  refine sv_istore_n (lv' := [(2, _), (0, _), (1, _)]) dX6_simulates_7 (by decide) rfl ?_
  refine sv_iload_n dX6_simulates_8 rfl ?_
  refine sv_iconst (nI 2) dX6_simulates_9 (by decide) ?_
  refine sv_icmpN_ne 24 dX6_simulates_10 (by decide) (by first | omega | (have z := b2n_lt (gm_can S (gm_sq r) (gm_sc r)); omega)) (by first | omega | (have z := b2n_lt (gm_can S (gm_sq r) (gm_sc r)); omega)) (fun c_10 => ?_) (fun c_10 => ?_)
  · refine sv_iload_n dX6_simulates_24 rfl ?_
    refine sv_iconst (nI 3) dX6_simulates_25 (by decide) ?_
    refine sv_icmpN_ne 51 dX6_simulates_26 (by decide) (by first | omega | (have z := b2n_lt (gm_can S (gm_sq r) (gm_sc r)); omega)) (by first | omega | (have z := b2n_lt (gm_can S (gm_sq r) (gm_sc r)); omega)) (fun c_26 => ?_) (fun c_26 => ?_)
    · refine sv_iconst (nI 0) dX6_simulates_51 (by decide) ?_
      refine sv_top (nI (gm_sc r)) (by rw [gm_sc_0 c_10 c_26]) ?_
      exact sv_sub [1, 2, 0] rfl k_52
    · refine sv_bipush (nI 10) dX6_simulates_29 (by decide) ?_
      refine sv_iload_n dX6_simulates_31 rfl ?_
      refine sv_bipush (nI 64) dX6_simulates_32 (by decide) ?_
      refine sv_idivN dX6_simulates_34 (by first | omega | (have z := b2n_lt (gm_can S (gm_sq r) (gm_sc r)); omega)) (by first | omega | (have z := b2n_lt (gm_can S (gm_sq r) (gm_sc r)); omega)) (by first | omega | (have z := b2n_lt (gm_can S (gm_sq r) (gm_sc r)); omega)) ?_
      refine sv_iconst (nI 3) dX6_simulates_35 (by decide) ?_
      refine sv_iremN dX6_simulates_36 (by first | omega | (have z := b2n_lt (gm_can S (gm_sq r) (gm_sc r)); omega)) (by first | omega | (have z := b2n_lt (gm_can S (gm_sq r) (gm_sc r)); omega)) (by first | omega | (have z := b2n_lt (gm_can S (gm_sq r) (gm_sc r)); omega)) ?_
      refine sv_imulN dX6_simulates_37 ?_
      refine sv_iconst (nI 1) dX6_simulates_38 (by decide) ?_
      refine sv_iaddN dX6_simulates_39 ?_
      refine sv_iload_n dX6_simulates_40 rfl ?_
      refine sv_sipush (nI 256) dX6_simulates_41 (by decide) ?_
      refine sv_idivN dX6_simulates_44 (by first | omega | (have z := b2n_lt (gm_can S (gm_sq r) (gm_sc r)); omega)) (by first | omega | (have z := b2n_lt (gm_can S (gm_sq r) (gm_sc r)); omega)) (by first | omega | (have z := b2n_lt (gm_can S (gm_sq r) (gm_sc r)); omega)) ?_
      refine sv_iconst (nI 3) dX6_simulates_45 (by decide) ?_
      refine sv_iremN dX6_simulates_46 (by first | omega | (have z := b2n_lt (gm_can S (gm_sq r) (gm_sc r)); omega)) (by first | omega | (have z := b2n_lt (gm_can S (gm_sq r) (gm_sc r)); omega)) (by first | omega | (have z := b2n_lt (gm_can S (gm_sq r) (gm_sc r)); omega)) ?_
      refine sv_iaddN dX6_simulates_47 ?_
      refine sv_goto 52 dX6_simulates_48 (by decide) ?_
      refine sv_top (nI (gm_sc r)) (by rw [gm_sc_3 c_10 c_26]) ?_
      exact sv_sub [1, 2, 0] rfl k_52
  · refine sv_iconst (nI 1) dX6_simulates_13 (by decide) ?_
    refine sv_iload_n dX6_simulates_14 rfl ?_
    refine sv_bipush (nI 64) dX6_simulates_15 (by decide) ?_
    refine sv_idivN dX6_simulates_17 (by first | omega | (have z := b2n_lt (gm_can S (gm_sq r) (gm_sc r)); omega)) (by first | omega | (have z := b2n_lt (gm_can S (gm_sq r) (gm_sc r)); omega)) (by first | omega | (have z := b2n_lt (gm_can S (gm_sq r) (gm_sc r)); omega)) ?_
    refine sv_iconst (nI 3) dX6_simulates_18 (by decide) ?_
    refine sv_iremN dX6_simulates_19 (by first | omega | (have z := b2n_lt (gm_can S (gm_sq r) (gm_sc r)); omega)) (by first | omega | (have z := b2n_lt (gm_can S (gm_sq r) (gm_sc r)); omega)) (by first | omega | (have z := b2n_lt (gm_can S (gm_sq r) (gm_sc r)); omega)) ?_
    refine sv_iaddN dX6_simulates_20 ?_
    refine sv_goto 52 dX6_simulates_21 (by decide) ?_
    refine sv_top (nI (gm_sc r)) (by rw [gm_sc_2 c_10]) ?_
    exact sv_sub [1, 2, 0] rfl k_52
theorem c6_simulates3 {x : Int64} (hI : gm_I K S) (hK : K + 40 < 2 ^ 26) (hK9 : 12 ≤ K) {r : Nat} (hr : r < 2 ^ 31) (hon : gm_on S = true) (h7 : r % 8 ≠ 7) (hcan : gm_can S (gm_sq r) (gm_sc r) = false) : sm_F G mX6_simulates 7 [.ref m, .int (nI r)] (sm_om G h m F (va_up X 2 x) (sm_as A S) L) (.inl none) (sm_om G h m (gm_FB F (gm_bst S)) (va_up (gm_kX (gm_any S) (va_up X 2 x)) 2 (gm_sim false S x r).2) (sm_as (gm_kA (gm_any S) A S) (gm_sim false S x r).1) L) := by
  unfold sm_F sm_C
  show sm_V G _ _ _ 0 0 0 [(0, .ref m), (1, .int (nI r))] [] _
  have hM := gm_IM hI hon
  obtain ⟨sq, sc, sch⟩ := gm_s_ch r
  refine sv_cut (c9 := 0) (s9 := 0) (p9 := 52) (l9 := [(0, .ref m), (1, .int (nI r)), (2, .int (nI (gm_sq r)))]) (t9 := [.int (nI (gm_sc r))]) (h9 := (sm_om G h m F (va_up X 2 x) (sm_as A S) L)) ?_ (fun k_52 => ?_)
  · refine sv_istore_n (lv' := [(3, _), (0, _), (1, _), (2, _)]) dX6_simulates_52 (by decide) rfl ?_
    refine sv_iload_n dX6_simulates_53 rfl ?_
    refine sv_bipush (nI 8) dX6_simulates_54 (by decide) ?_
    refine sv_iremN dX6_simulates_56 (by first | omega | (have z := b2n_lt (gm_can S (gm_sq r) (gm_sc r)); omega)) (by first | omega | (have z := b2n_lt (gm_can S (gm_sq r) (gm_sc r)); omega)) (by first | omega | (have z := b2n_lt (gm_can S (gm_sq r) (gm_sc r)); omega)) ?_
    refine sv_bipush (nI 7) dX6_simulates_57 (by decide) ?_
    refine sv_icmpN_ne 69 dX6_simulates_59 (by decide) (by first | omega | (have z := b2n_lt (gm_can S (gm_sq r) (gm_sc r)); omega)) (by first | omega | (have z := b2n_lt (gm_can S (gm_sq r) (gm_sc r)); omega)) (fun c_59 => ?_) (fun c_59 => absurd c_59 (fun z => h7 z))
    refine sv_aload_n dX6_simulates_69 rfl ?_
    refine sv_iload_n dX6_simulates_70 rfl ?_
    refine sv_iload_n dX6_simulates_71 rfl ?_
    refine sv_callV (As := [_, _]) sc_X6_127 (c6_canPlace hI sq sc (fun e => (gm_chg sc sch e).1)) rfl rfl (Nat.le_of_ble_eq_true rfl) dX6_simulates_72 ⟨by decide, by decide⟩ ⟨Nat.le_refl _, Nat.le_refl _⟩ (Nat.le_of_ble_eq_true rfl) om_0 (List.cons_ne_nil _ _) rfl ?_
    refine sv_ifN_eq 92 dX6_simulates_75 (by decide) (by first | omega | (have z := b2n_lt (gm_can S (gm_sq r) (gm_sc r)); omega)) (fun c_75 => ?_) (fun c_75 => absurd c_75 (fun z => z ((b2n_0 _).mpr hcan)))
    refine sv_aload_n dX6_simulates_92 rfl ?_
    refine sv_callV (As := []) sc_X6_230 (c6_plays hI hon hK hK9) rfl rfl (Nat.le_of_ble_eq_true rfl) dX6_simulates_93 ⟨by decide, by decide⟩ ⟨Nat.le_refl _, Nat.le_refl _⟩ (Nat.le_of_ble_eq_true rfl) om_0 (List.cons_ne_nil _ _) rfl ?_
    refine sv_pop dX6_simulates_96 rfl ?_
    refine sv_vret dX6_simulates_97 rfl (Nat.le_refl _) (Nat.le_refl _) ?_
    exact ⟨rfl, by unfold gm_sim; rw [if_neg h7, if_neg (ne_t hcan)]⟩
  refine sv_iload_n dX6_simulates_0 rfl ?_
  refine sv_bipush (nI 8) dX6_simulates_1 (by decide) ?_
  refine sv_idivN dX6_simulates_3 (by first | omega | (have z := b2n_lt (gm_can S (gm_sq r) (gm_sc r)); omega)) (by first | omega | (have z := b2n_lt (gm_can S (gm_sq r) (gm_sc r)); omega)) (by first | omega | (have z := b2n_lt (gm_can S (gm_sq r) (gm_sc r)); omega)) ?_
  refine sv_bipush (nI 6) dX6_simulates_4 (by decide) ?_
  refine sv_iremN dX6_simulates_6 (by first | omega | (have z := b2n_lt (gm_can S (gm_sq r) (gm_sc r)); omega)) (by first | omega | (have z := b2n_lt (gm_can S (gm_sq r) (gm_sc r)); omega)) (by first | omega | (have z := b2n_lt (gm_can S (gm_sq r) (gm_sc r)); omega)) ?_
  refine sv_istore_n (lv' := [(2, _), (0, _), (1, _)]) dX6_simulates_7 (by decide) rfl ?_
  refine sv_iload_n dX6_simulates_8 rfl ?_
  refine sv_iconst (nI 2) dX6_simulates_9 (by decide) ?_
  refine sv_icmpN_ne 24 dX6_simulates_10 (by decide) (by first | omega | (have z := b2n_lt (gm_can S (gm_sq r) (gm_sc r)); omega)) (by first | omega | (have z := b2n_lt (gm_can S (gm_sq r) (gm_sc r)); omega)) (fun c_10 => ?_) (fun c_10 => ?_)
  · refine sv_iload_n dX6_simulates_24 rfl ?_
    refine sv_iconst (nI 3) dX6_simulates_25 (by decide) ?_
    refine sv_icmpN_ne 51 dX6_simulates_26 (by decide) (by first | omega | (have z := b2n_lt (gm_can S (gm_sq r) (gm_sc r)); omega)) (by first | omega | (have z := b2n_lt (gm_can S (gm_sq r) (gm_sc r)); omega)) (fun c_26 => ?_) (fun c_26 => ?_)
    · refine sv_iconst (nI 0) dX6_simulates_51 (by decide) ?_
      refine sv_top (nI (gm_sc r)) (by rw [gm_sc_0 c_10 c_26]) ?_
      exact sv_sub [1, 2, 0] rfl k_52
    · refine sv_bipush (nI 10) dX6_simulates_29 (by decide) ?_
      refine sv_iload_n dX6_simulates_31 rfl ?_
      refine sv_bipush (nI 64) dX6_simulates_32 (by decide) ?_
      refine sv_idivN dX6_simulates_34 (by first | omega | (have z := b2n_lt (gm_can S (gm_sq r) (gm_sc r)); omega)) (by first | omega | (have z := b2n_lt (gm_can S (gm_sq r) (gm_sc r)); omega)) (by first | omega | (have z := b2n_lt (gm_can S (gm_sq r) (gm_sc r)); omega)) ?_
      refine sv_iconst (nI 3) dX6_simulates_35 (by decide) ?_
      refine sv_iremN dX6_simulates_36 (by first | omega | (have z := b2n_lt (gm_can S (gm_sq r) (gm_sc r)); omega)) (by first | omega | (have z := b2n_lt (gm_can S (gm_sq r) (gm_sc r)); omega)) (by first | omega | (have z := b2n_lt (gm_can S (gm_sq r) (gm_sc r)); omega)) ?_
      refine sv_imulN dX6_simulates_37 ?_
      refine sv_iconst (nI 1) dX6_simulates_38 (by decide) ?_
      refine sv_iaddN dX6_simulates_39 ?_
      refine sv_iload_n dX6_simulates_40 rfl ?_
      refine sv_sipush (nI 256) dX6_simulates_41 (by decide) ?_
      refine sv_idivN dX6_simulates_44 (by first | omega | (have z := b2n_lt (gm_can S (gm_sq r) (gm_sc r)); omega)) (by first | omega | (have z := b2n_lt (gm_can S (gm_sq r) (gm_sc r)); omega)) (by first | omega | (have z := b2n_lt (gm_can S (gm_sq r) (gm_sc r)); omega)) ?_
      refine sv_iconst (nI 3) dX6_simulates_45 (by decide) ?_
      refine sv_iremN dX6_simulates_46 (by first | omega | (have z := b2n_lt (gm_can S (gm_sq r) (gm_sc r)); omega)) (by first | omega | (have z := b2n_lt (gm_can S (gm_sq r) (gm_sc r)); omega)) (by first | omega | (have z := b2n_lt (gm_can S (gm_sq r) (gm_sc r)); omega)) ?_
      refine sv_iaddN dX6_simulates_47 ?_
      refine sv_goto 52 dX6_simulates_48 (by decide) ?_
      refine sv_top (nI (gm_sc r)) (by rw [gm_sc_3 c_10 c_26]) ?_
      exact sv_sub [1, 2, 0] rfl k_52
  · refine sv_iconst (nI 1) dX6_simulates_13 (by decide) ?_
    refine sv_iload_n dX6_simulates_14 rfl ?_
    refine sv_bipush (nI 64) dX6_simulates_15 (by decide) ?_
    refine sv_idivN dX6_simulates_17 (by first | omega | (have z := b2n_lt (gm_can S (gm_sq r) (gm_sc r)); omega)) (by first | omega | (have z := b2n_lt (gm_can S (gm_sq r) (gm_sc r)); omega)) (by first | omega | (have z := b2n_lt (gm_can S (gm_sq r) (gm_sc r)); omega)) ?_
    refine sv_iconst (nI 3) dX6_simulates_18 (by decide) ?_
    refine sv_iremN dX6_simulates_19 (by first | omega | (have z := b2n_lt (gm_can S (gm_sq r) (gm_sc r)); omega)) (by first | omega | (have z := b2n_lt (gm_can S (gm_sq r) (gm_sc r)); omega)) (by first | omega | (have z := b2n_lt (gm_can S (gm_sq r) (gm_sc r)); omega)) ?_
    refine sv_iaddN dX6_simulates_20 ?_
    refine sv_goto 52 dX6_simulates_21 (by decide) ?_
    refine sv_top (nI (gm_sc r)) (by rw [gm_sc_2 c_10]) ?_
    exact sv_sub [1, 2, 0] rfl k_52
end SR23
