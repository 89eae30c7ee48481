section SR8
variable {G : sm_G} {h : sm_H} {m : Nat} {F : Nat → Int32} {X : Nat → Int64} {A : Nat → Nat → Int32} {L : Nat → Nat → Int64} {S : Nat → Nat} {K : Nat}
theorem gm_kX_x {x : Int64} (b : Bool) : gm_kX b (va_up X 2 x) = va_up (gm_kX b (va_up X 2 x)) 2 x := by
  funext i
  by_cases e : i = 2
  · subst e; rw [up_eq, gm_kX_2, up_eq]
  · rw [up_ne e]
theorem om_X {X1 X2 : Nat → Int64} (e : X1 = X2) : sm_om G h m F X1 (sm_as A S) L = sm_om G h m F X2 (sm_as A S) L := by rw [e]
theorem gm_h_6 {x : Int64} : gm_h G h m F (va_up X 2 x) A S L (gm_out S 6) = sm_om G h m (gm_FB F (gm_bst S)) (va_up (gm_kX (gm_any S) (va_up X 2 x)) 2 x) (sm_as (gm_kA (gm_any S) A S) S) L := by
  unfold gm_h; rw [gm_out_2, ← gm_kX_x]; rfl
theorem gm_pans_t (h : 100 < (gm_bst S).1) : gm_pans S = nI (gm_bst S).1 := by unfold gm_pans; rw [if_pos h]
theorem gm_pans_f (h : ¬ 100 < (gm_bst S).1) : gm_pans S = -1 := by unfold gm_pans; rw [if_neg h]
theorem gm_play_t {z : Bool} {x : Int64} (h : 100 < (gm_bst S).1) : gm_play z S x = gm_put z S x (gm_bst S).2.1 (gm_bst S).2.2 := by unfold gm_play; rw [if_pos h]
theorem gm_play_f {z : Bool} {x : Int64} (h : ¬ 100 < (gm_bst S).1) : gm_play z S x = gm_pass z S x := by unfold gm_play; rw [if_neg h]
theorem gm_e_le {a : Nat × Nat × Nat} (h : a.1 < 2 ^ 31) : gm_e a a.1 ≤ nI 100 ↔ ¬ 100 < a.1 := by
  unfold gm_e; split
  · rename_i e; constructor
    · intro _; omega
    · intro _; decide
  · rw [nI_leI h (by decide)]; omega
theorem gm_bst_lt (hI : gm_I K S) : (gm_bst S).1 < 2 ^ 31 := by
  rcases gm_bst_ok S with h | ⟨h1, h2, h3, h4, h5⟩
  · omega
  · rw [h5]; exact (gm_can_on2 hI h1 h2 h3 h4).2
theorem c6_plays {x : Int64} (hI : gm_I K S) (hon : gm_on S = true) (hK : K + 40 < 2 ^ 26) (hK9 : 12 ≤ K) : sm_F G mX6_plays 6 [.ref m] (sm_om G h m F (va_up X 2 x) (sm_as A S) L) (.inl (some (.int (gm_pans S)))) (sm_om G h m (gm_FB F (gm_bst S)) (va_up (gm_kX (gm_any S) (va_up X 2 x)) 2 (gm_play false S x).2) (sm_as (gm_kA (gm_any S) A S) (gm_play false S x).1) L) := by
  unfold sm_F sm_C
  show sm_V G _ _ _ 0 0 0 [(0, .ref m)] [] _
  refine sv_aload_n dX6_plays_0 rfl ?_
  refine sv_callV (As := []) sc_X6_161 (c6_findsBest hI) rfl rfl (Nat.le_of_ble_eq_true rfl) dX6_plays_1 ⟨by decide, by decide⟩ ⟨Nat.le_refl _, Nat.le_refl _⟩ (Nat.le_of_ble_eq_true rfl) om_0 (List.cons_ne_nil _ _) rfl ?_
  refine sv_heap (h' := (sm_om G h m (gm_FB F (gm_bst S)) (va_up (gm_kX (gm_any S) (va_up X 2 x)) 2 x) (sm_as (gm_kA (gm_any S) A S) S) L)) (gm_h_6) ?_
  refine sv_aload_n dX6_plays_4 rfl ?_
  refine rm_get15 rfl dX6_plays_5 ?_
  refine sv_top (gm_e (gm_bst S) (gm_bst S).1) (gm_FB_15 _ _) ?_
  refine sv_istore_n (lv' := [(1, _), (0, _)]) dX6_plays_8 (by decide) rfl ?_
  refine sv_iload_n dX6_plays_9 rfl ?_
  refine sv_bipush (nI 100) dX6_plays_10 (by decide) ?_
  refine sv_icmp_le 34 dX6_plays_12 (by decide) (fun c_12 => ?_) (fun c_12 => ?_)
  · have hb : ¬ 100 < (gm_bst S).1 := (gm_e_le (gm_bst_lt hI)).mp c_12
    have hM := gm_IM hI hon
    have hn := hM.n
    refine sv_aload_n dX6_plays_34 rfl ?_
    refine sv_callV (As := []) sc_X6_164 (c6_passes hM.k hM.k2 (by omega) (by omega) (by omega) (by omega) (by omega)) rfl rfl (Nat.le_of_ble_eq_true rfl) dX6_plays_35 ⟨by decide, by decide⟩ ⟨Nat.le_refl _, Nat.le_refl _⟩ (Nat.le_of_ble_eq_true rfl) om_0 (List.cons_ne_nil _ _) rfl ?_
    refine sv_iconst (-1) dX6_plays_38 (by decide) ?_
    refine sv_iret dX6_plays_39 rfl rfl (Nat.le_refl _) (Nat.le_refl _) ?_
    exact ⟨rI (gm_pans_f hb).symm, by rw [gm_play_f hb]⟩
  · have hb : 100 < (gm_bst S).1 := Classical.not_not.mp (fun z => c_12 ((gm_e_le (gm_bst_lt hI)).mpr z))
    obtain ⟨h1, h2, h3, h4, h5⟩ := (gm_bst_ok S).resolve_left (by omega)
    have hM := gm_pl_M hI h1 h2 h3 h4 hK hK9
    have hn := hM.n
    refine sv_aload_n dX6_plays_15 rfl ?_
    refine sv_aload_n dX6_plays_16 rfl ?_
    refine rm_get16 rfl dX6_plays_17 ?_
    refine sv_top (nI (gm_bst S).2.1) (by rw [gm_FB_16]; exact gm_e_p (by omega)) ?_
    refine sv_aload_n dX6_plays_20 rfl ?_
    refine rm_get17 rfl dX6_plays_21 ?_
    refine sv_top (nI (gm_bst S).2.2) (by rw [gm_FB_17]; exact gm_e_p (by omega)) ?_
    refine sv_callV (As := [_, _]) sc_X6_137 (c6_places hI h1 h2 (gm_chg h2 h3) h4) rfl rfl (Nat.le_of_ble_eq_true rfl) dX6_plays_24 ⟨by decide, by decide⟩ ⟨Nat.le_refl _, Nat.le_refl _⟩ (Nat.le_of_ble_eq_true rfl) om_0 (List.cons_ne_nil _ _) rfl ?_
    refine sv_pop dX6_plays_27 rfl ?_
    refine sv_aload_n dX6_plays_28 rfl ?_
    refine sv_callV (As := []) sc_X6_158 (c6_goesTo hM.k hM.k2 (by omega) (by omega) (by omega) (by omega)) rfl rfl (Nat.le_of_ble_eq_true rfl) dX6_plays_29 ⟨by decide, by decide⟩ ⟨Nat.le_refl _, Nat.le_refl _⟩ (Nat.le_of_ble_eq_true rfl) om_0 (List.cons_ne_nil _ _) rfl ?_
    refine sv_iload_n dX6_plays_32 rfl ?_
    refine sv_iret dX6_plays_33 rfl rfl (Nat.le_refl _) (Nat.le_refl _) ?_
    exact ⟨rI (by rw [gm_pans_t hb]; exact gm_e_p (by omega)), by rw [gm_play_t hb]; rfl⟩
end SR8
