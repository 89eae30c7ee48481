section SR5
variable {G : sm_G} {h : sm_H} {m : Nat} {F : Nat → Int32} {X : Nat → Int64} {A : Nat → Nat → Int32} {L : Nat → Nat → Int64} {S : Nat → Nat} {K : Nat}
theorem gm_can_on {q c : Nat} (h : gm_can S q c = true) : gm_on S = true := by
  cases e : gm_on S with
  | true => rfl
  | false => rw [gm_can_off e] at h; cases h
theorem gm_can_fE {q c : Nat} (h : gm_can S q c = true) (hf : gm_full S q = true) : gm_bk S q ≠ 3 ∧ S 1 ≤ S (13 + 8 * S 4) := by
  rw [gm_can_full (gm_can_on h) hf] at h; simp only [Bool.and_eq_true, decide_eq_true_eq] at h; exact h.1
theorem gm_can_w {q c : Nat} (h : gm_can S q c = true) : gm_wk S q c (S (13 + 8 * S 4) - gm_toll S q) = true := by
  unfold gm_can at h; simp only [Bool.and_eq_true] at h; exact h.2
theorem gm_can_t {q c : Nat} (h : gm_can S q c = true) : gm_toll S q ≤ S (13 + 8 * S 4) := by
  unfold gm_can at h; simp only [Bool.and_eq_true, decide_eq_true_eq] at h; exact h.1.2
theorem gm_sh_0 (S : gm_S) (q k : Nat) : gm_sh S q k 0 = S := by funext i; unfold gm_sh; split <;> first | rfl | omega
theorem gm_sh_s (S : gm_S) (q k n : Nat) : va_up (gm_sh S q k n) (45 + 4 * q + 1 + (k + n)) (gm_sh S q k n (45 + 4 * q + 2 + (k + n))) = gm_sh S q k (n + 1) := by
  have e : gm_sh S q k n (45 + 4 * q + 2 + (k + n)) = S (45 + 4 * q + 1 + (k + n) + 1) := by unfold gm_sh; rw [if_neg (by omega)]; congr 1; omega
  rw [e]; funext i; unfold va_up gm_sh
  (repeat' split) <;> first | rfl | omega | (subst_vars; first | rfl | omega)
theorem gm_sh_at {S : gm_S} {q k n i : Nat} (h : i < 45 + 4 * q + 1 + k ∨ 45 + 4 * q + 1 + k + n ≤ i) : gm_sh S q k n i = S i := by unfold gm_sh; rw [if_neg (by omega)]
theorem gm_bump_at {S : gm_S} {q k i : Nat} (hk : k < S (45 + 4 * q)) (h : i < 45 + 4 * q ∨ 45 + 4 * q + S (45 + 4 * q) ≤ i) (h1 : i ≠ 11) (h2 : i ≠ 13 + 8 * S 4) (h3 : i ≠ 13 + 8 * S (45 + 4 * q + 1 + k)) : gm_bump S q k i = S i := by
  unfold gm_bump; rw [up_ne h3, up_ne h2, up_ne h1, up_ne (by omega), gm_sh_at (by omega)]
theorem gm_bump_w {S : gm_S} {q k : Nat} (h4 : S 4 < 4) (ho : S (45 + 4 * q + 1 + k) < 4) : gm_bump S q k (45 + 4 * q) = S (45 + 4 * q) - 1 := by
  unfold gm_bump; rw [up_ne (by omega), up_ne (by omega), up_ne (by omega), up_eq]
theorem gm_bump_c {S : gm_S} {q k : Nat} (ho : S (45 + 4 * q + 1 + k) ≠ S 4) : gm_bump S q k (13 + 8 * S 4) = S (13 + 8 * S 4) - S 1 := by
  unfold gm_bump; rw [up_ne (by omega), up_eq]
/-- the row behind the bumping -/
theorem gm_bd_f {q : Nat} (h : gm_full S q = true) : gm_bd S q = gm_bump S q (gm_bk S q) := by unfold gm_bd; rw [if_pos h]
theorem gm_bd_n {q : Nat} (h : gm_full S q = false) : gm_bd S q = S := by unfold gm_bd; rw [if_neg (by rw [h]; decide)]
theorem gm_who_f {q : Nat} (h : gm_full S q = true) : gm_who S q = nI (S (45 + 4 * q + 1 + gm_bk S q)) := by unfold gm_who; rw [if_pos h]
theorem gm_who_n {q : Nat} (h : gm_full S q = false) : gm_who S q = -1 := by unfold gm_who; rw [if_neg (by rw [h]; decide)]
theorem gm_bd_x {q c : Nat} (hJ : gm_J K S) (hq : q < 6) (hcan : gm_can S q c = true) : gm_bd S q (45 + 4 * q) ≤ 2 ∧ gm_bd S q 4 = S 4 ∧ (∀ i, i < 11 → gm_bd S q i = S i) ∧ (∀ p w, p < 4 → 1 ≤ w → w < 8 → gm_bd S q (13 + 8 * p + w) = S (13 + 8 * p + w)) ∧ gm_bd S q (13 + 8 * S 4) = S (13 + 8 * S 4) - gm_toll S q := by
  obtain ⟨⟨j0, j01, j1, j2, j21⟩, jK, jK2, jw, j3, j31, j4, j5, j51, j6, jp, j10, ⟨jh, jps⟩, jpl, jow⟩ := hJ
  have bw := jw q hq
  cases hf : gm_full S q with
  | false =>
    have hf2 : ¬ S 2 ≤ S (45 + 4 * q) := of_decide_eq_false hf
    rw [gm_bd_n hf]
    exact ⟨by omega, rfl, fun _ _ => rfl, fun _ _ _ _ _ => rfl, by unfold gm_toll; rw [hf]; simp⟩
  | true =>
    obtain ⟨hb, hc⟩ := gm_can_fE hcan hf
    obtain ⟨hk, hne⟩ := gm_bk_lt hb
    have ho := jow q _ hq hk
    rw [gm_bd_f hf]
    exact ⟨by rw [gm_bump_w (by omega) (by omega)]; omega, gm_bump_at hk (by omega) (by omega) (by omega) (by omega), fun i hi => gm_bump_at hk (by omega) (by omega) (by omega) (by omega), fun p w hp h1 h2 => gm_bump_at hk (by omega) (by omega) (by omega) (by omega),
      by rw [gm_bump_c hne]; unfold gm_toll; rw [hf]; rfl⟩
theorem gm_S2_x {q c : Nat} (hJ : gm_J K S) (hq : q < 6) (hcan : gm_can S q c = true) : (∀ i, i < 11 → gm_add (gm_bd S q) q i = S i) ∧ (∀ p w, p < 4 → 1 ≤ w → w < 8 → w ≠ 6 → gm_add (gm_bd S q) q (13 + 8 * p + w) = S (13 + 8 * p + w)) ∧ gm_add (gm_bd S q) q (13 + 8 * S 4) = S (13 + 8 * S 4) - gm_toll S q := by
  obtain ⟨f1, f2, f3, f4, f5⟩ := gm_bd_x hJ hq hcan
  have j4 := hJ.2.2.2.2.2.2.1; have j31 := hJ.2.2.2.2.2.1
  unfold gm_add
  rw [f2]
  exact ⟨fun i hi => by rw [up_ne (by omega), up_ne (by omega), up_ne (by omega)]; exact f3 i hi, fun p w hp h1 h2 h6 => by rw [up_ne (by omega), up_ne (by omega), up_ne (by omega)]; exact f4 p w hp h1 h2,
    by rw [up_ne (by omega), up_ne (by omega), up_ne (by omega)]; exact f5⟩
theorem gm_S2_w {q c : Nat} (hJ : gm_J K S) (hq : q < 6) (hc : c < 24) (hcan : gm_can S q c = true) : gm_wk (gm_add (gm_bd S q) q) q c (gm_add (gm_bd S q) q (13 + 8 * gm_add (gm_bd S q) q 4)) = true := by
  obtain ⟨g1, g2, g3⟩ := gm_S2_x hJ hq hcan
  have j4 := hJ.2.2.2.2.2.2.1; have j31 := hJ.2.2.2.2.2.1
  have e := gm_can_w hcan
  unfold gm_wk at e ⊢
  rw [g1 4 (by omega), g3, g2 (S 4) 2 (by omega) (by omega) (by omega) (by omega), g2 (S 4) (1 + c / 10) (by omega) (by omega) (by omega) (by omega), g2 (S 4) 5 (by omega) (by omega) (by omega) (by omega), g2 (S 4) 4 (by omega) (by omega) (by omega) (by omega)]
  exact e
theorem c6_places {q c : Nat} (hI : gm_I K S) (hq : q < 6) (hc : c < 24) (hg : q = 3 → c / 10 < 3 ∧ 1 ≤ c % 10 ∧ c % 10 ≤ 3) (hcan : gm_can S q c = true) : sm_F G mX6_places 3 [.ref m, .int (nI q), .int (nI c)] (sm_om G h m F X (sm_as A S) L) (.inl (some (.int (gm_who S q)))) (sm_om G h m F X (sm_as A (gm_pl S q c)) L) := by
  unfold sm_F sm_C
  show sm_V G _ _ _ 0 0 0 [(0, .ref m), (1, .int (nI q)), (2, .int (nI c))] [] _
  have hon := gm_can_on hcan
  have hJ := gm_IJ hI (gm_on_i hon).1
  obtain ⟨⟨j0, j01, j1, j2, j21⟩, jK, jK2, jw, j3, j31, j4, j5, j51, j6, jp, j10, ⟨jh, jps⟩, jpl, jow⟩ := id hJ
  have bw := jw q hq
  obtain ⟨bd1, bd2, bd3, bd4, bd5⟩ := gm_bd_x hJ hq hcan
  have bd6 := bd4 (S 4) 6 (by omega) (by omega) (by omega)
  refine sv_cut (c9 := 0) (s9 := 0) (p9 := 136) (l9 := [(5, .int (gm_who S q)), (4, .int (nI (45 + 4 * q))), (3, .int (nI (S 4))), (1, .int (nI q)), (2, .int (nI c)), (0, .ref m)]) (t9 := []) (h9 := (sm_om G h m F X (sm_as A (gm_bd S q)) L)) ?_ (fun k_136 => ?_)
  · refine sv_aload_n dX6_places_136 rfl ?_
    refine rm_get1 rfl dX6_places_137 ?_
    refine sv_iload dX6_places_140 rfl ?_
    refine sv_iconst (nI 1) dX6_places_142 (by decide) ?_
    refine sv_iaddN dX6_places_143 ?_
    refine sv_aload_n dX6_places_144 rfl ?_
    refine rm_get1 rfl dX6_places_145 ?_
    refine sv_iload dX6_places_148 rfl ?_
    refine rm_ld1N dX6_places_150 (by first | omega | (have z := b2n_lt (gm_full S q); omega)) ?_
    refine sv_iaddN dX6_places_151 ?_
    refine sv_iload_n dX6_places_152 rfl ?_
    refine rm_st1N dX6_places_153 (by first | omega | (have z := b2n_lt (gm_full S q); omega)) ?_
    refine sv_aload_n dX6_places_154 rfl ?_
    refine rm_get1 rfl dX6_places_155 ?_
    refine sv_iload dX6_places_158 rfl ?_
    refine sv_dup2 dX6_places_160 rfl rfl ?_
    refine rm_ld1N dX6_places_161 (by first | omega | (have z := b2n_lt (gm_full S q); omega)) ?_
    refine sv_top (nI (gm_bd S q (45 + 4 * q))) (congrArg nI (up_ne (by omega))) ?_
    refine sv_iconst (nI 1) dX6_places_162 (by decide) ?_
    refine sv_iaddN dX6_places_163 ?_
    refine rm_st1N dX6_places_164 (by first | omega | (have z := b2n_lt (gm_full S q); omega)) ?_
    refine sv_aload_n dX6_places_165 rfl ?_
    refine sv_iload_n dX6_places_166 rfl ?_
    refine sv_bipush (nI 6) dX6_places_167 (by decide) ?_
    refine sv_iconst (-1) dX6_places_169 (by decide) ?_
    refine sv_callV (As := [_, _, _]) sc_X6_85 (c6_adds (p := S 4) (w := 6) (n := gm_bd S q (13 + 8 * S 4 + 6) - 1) (by omega) (by rw [up_ne (by omega), up_ne (by omega)]; exact nI_m1 (by omega))) rfl rfl (Nat.le_of_ble_eq_true rfl) dX6_places_170 ⟨by decide, by decide⟩ ⟨Nat.le_refl _, Nat.le_refl _⟩ (Nat.le_of_ble_eq_true rfl) om_0 (List.cons_ne_nil _ _) rfl ?_
    refine sv_heap (h' := (sm_om G h m F X (sm_as A (gm_add (gm_bd S q) q)) L)) (om_S (by unfold gm_add; rw [bd2])) ?_
    refine sv_aload_n dX6_places_173 rfl ?_
    refine sv_iload_n dX6_places_174 rfl ?_
    refine sv_iload_n dX6_places_175 rfl ?_
    refine sv_callV (As := [_, _]) sc_X6_123 (c6_works (S := gm_add (gm_bd S q) q) hq hc hg (gm_S2_w hJ hq hc hcan) (by rw [(gm_S2_x hJ hq hcan).1 4 (by omega)]; omega) (by rw [(gm_S2_x hJ hq hcan).1 5 (by omega)]; omega) (fun g hg9 => by rw [(gm_S2_x hJ hq hcan).1 (7 + g) (by omega)]; exact jp g hg9)) rfl rfl (Nat.le_of_ble_eq_true rfl) dX6_places_176 ⟨by decide, by decide⟩ ⟨Nat.le_refl _, Nat.le_refl _⟩ (Nat.le_of_ble_eq_true rfl) om_0 (List.cons_ne_nil _ _) rfl ?_
    refine sv_iload dX6_places_179 rfl ?_
    refine sv_iret dX6_places_181 rfl rfl (Nat.le_refl _) (Nat.le_refl _) ?_
    exact ⟨rfl, om_S rfl⟩
  refine sv_aload_n dX6_places_0 rfl ?_
  refine rm_get1 rfl dX6_places_1 ?_
  refine sv_iconst (nI 4) dX6_places_4 (by decide) ?_
  refine rm_ld1N dX6_places_5 (by first | omega | (have z := b2n_lt (gm_full S q); omega)) ?_
  refine sv_istore_n (lv' := [(3, _), (0, _), (1, _), (2, _)]) dX6_places_6 (by decide) rfl ?_
  refine sv_bipush (nI 45) dX6_places_7 (by decide) ?_
  refine sv_iconst (nI 4) dX6_places_9 (by decide) ?_
  refine sv_iload_n dX6_places_10 rfl ?_
  refine sv_imulN dX6_places_11 ?_
  refine sv_iaddN dX6_places_12 ?_
  refine sv_istore (lv' := [(4, _), (3, _), (0, _), (1, _), (2, _)]) dX6_places_13 (by decide) rfl ?_
  refine sv_iconst (-1) dX6_places_15 (by decide) ?_
  refine sv_istore (lv' := [(5, _), (4, _), (3, _), (0, _), (1, _), (2, _)]) dX6_places_16 (by decide) rfl ?_
  refine sv_aload_n dX6_places_18 rfl ?_
  refine sv_iload_n dX6_places_19 rfl ?_
  refine sv_callV (As := [_]) sc_X6_110 (c6_isFull hq (by omega) (by omega)) rfl rfl (Nat.le_of_ble_eq_true rfl) dX6_places_20 ⟨by decide, by decide⟩ ⟨Nat.le_refl _, Nat.le_refl _⟩ (Nat.le_of_ble_eq_true rfl) om_0 (List.cons_ne_nil _ _) rfl ?_
  refine sv_ifN_eq 136 dX6_places_23 (by decide) (by first | omega | (have z := b2n_lt (gm_full S q); omega)) (fun c_23 => ?_) (fun c_23 => ?_)
  · exact sv_sub [0, 1, 2, 4, 5, 3] (by have e := gm_who_n (q := q) (b2n_f c_23); rw [e]; first | done | rfl) (sv_heap (om_S (gm_bd_n (b2n_f c_23)).symm) k_136)
  · have hf := b2n_1 c_23
    obtain ⟨hb, hcn⟩ := gm_can_fE hcan hf
    obtain ⟨hk, hne⟩ := gm_bk_lt hb
    have ho := jow q _ hq hk
    refine sv_aload_n dX6_places_26 rfl ?_
    refine sv_iload_n dX6_places_27 rfl ?_
    refine sv_callV (As := [_]) sc_X6_114 (c6_bumpedAt hq bw (by omega) (fun k hk => by have := jow q k hq hk; omega)) rfl rfl (Nat.le_of_ble_eq_true rfl) dX6_places_28 ⟨by decide, by decide⟩ ⟨Nat.le_refl _, Nat.le_refl _⟩ (Nat.le_of_ble_eq_true rfl) om_0 (List.cons_ne_nil _ _) rfl ?_
    refine sv_top (nI (gm_bk S q)) (if_neg hb) ?_
    refine sv_istore (lv' := [(6, _), (5, _), (4, _), (3, _), (0, _), (1, _), (2, _)]) dX6_places_31 (by decide) rfl ?_
    refine sv_aload_n dX6_places_33 rfl ?_
    refine sv_iload_n dX6_places_34 rfl ?_
    refine sv_iload dX6_places_35 rfl ?_
    refine sv_callV (As := [_, _]) sc_X6_103 (c6_ownerAt (by omega)) rfl rfl (Nat.le_of_ble_eq_true rfl) dX6_places_37 ⟨by decide, by decide⟩ ⟨Nat.le_refl _, Nat.le_refl _⟩ (Nat.le_of_ble_eq_true rfl) om_0 (List.cons_ne_nil _ _) rfl ?_
    refine sv_istore (lv' := [(5, _), (6, _), (4, _), (3, _), (0, _), (1, _), (2, _)]) dX6_places_40 (by decide) rfl ?_
    refine sv_iload dX6_places_42 rfl ?_
    refine sv_istore (lv' := [(7, _), (5, _), (6, _), (4, _), (3, _), (0, _), (1, _), (2, _)]) dX6_places_44 (by decide) rfl ?_
    refine sv_heap (h' := (sm_om G h m F X (sm_as A (gm_sh S q (gm_bk S q) 0)) L)) (om_S (gm_sh_0 S q _).symm) ?_
    refine sv_sub [0, 5, 6, 7, 4, 3, 1] rfl (sv_loop (pc := 46) (lv := fun n => [(7, .int (nI (gm_bk S q + n))), (0, .ref m), (1, .int (nI q)), (2, .int (nI c)), (3, .int (nI (S 4))), (4, .int (nI (45 + 4 * q))), (5, .int (nI (S (45 + 4 * q + 1 + gm_bk S q))))]) (hp := fun n => (sm_om G h m F X (sm_as A (gm_sh S q (gm_bk S q) n)) L)) (I := fun n => True) (N := S (45 + 4 * q) - 1 - gm_bk S q) (trivial) ?_ ?_)
    · intro hI
      show sm_V G _ _ _ _ _ _ [(7, .int (nI (gm_bk S q + (S (45 + 4 * q) - 1 - gm_bk S q)))), (0, .ref m), (1, .int (nI q)), (2, .int (nI c)), (3, .int (nI (S 4))), (4, .int (nI (45 + 4 * q))), (5, .int (nI (S (45 + 4 * q + 1 + gm_bk S q))))] [] (sm_om G h m F X (sm_as A (gm_sh S q (gm_bk S q) (S (45 + 4 * q) - 1 - gm_bk S q))) L)
      refine sv_iload dX6_places_46 rfl ?_
      refine sv_aload_n dX6_places_48 rfl ?_
      refine sv_iload_n dX6_places_49 rfl ?_
      refine sv_callV (As := [_]) sc_X6_99 (c6_workersAt (by omega)) rfl rfl (Nat.le_of_ble_eq_true rfl) dX6_places_50 ⟨by decide, by decide⟩ ⟨Nat.le_refl _, Nat.le_refl _⟩ (Nat.le_of_ble_eq_true rfl) om_0 (List.cons_ne_nil _ _) rfl ?_
      refine sv_top (nI (S (45 + 4 * q))) (congrArg nI (gm_sh_at (by omega))) ?_
      refine sv_iconst (nI 1) dX6_places_53 (by decide) ?_
      refine sv_isubN dX6_places_54 (by first | omega | (have z := b2n_lt (gm_full S q); omega)) ?_
      refine sv_icmpN_ge 88 dX6_places_55 (by decide) (by first | omega | (have z := b2n_lt (gm_full S q); omega)) (by first | omega | (have z := b2n_lt (gm_full S q); omega)) (fun c_55 => ?_) (fun c_55 => absurd c_55 (by omega))
      refine sv_aload_n dX6_places_88 rfl ?_
      refine rm_get1 rfl dX6_places_89 ?_
      refine sv_iload dX6_places_92 rfl ?_
      refine sv_dup2 dX6_places_94 rfl rfl ?_
      refine rm_ld1N dX6_places_95 (by first | omega | (have z := b2n_lt (gm_full S q); omega)) ?_
      refine sv_top (nI (S (45 + 4 * q))) (congrArg nI (gm_sh_at (by omega))) ?_
      refine sv_iconst (nI 1) dX6_places_96 (by decide) ?_
      refine sv_isubN dX6_places_97 (by first | omega | (have z := b2n_lt (gm_full S q); omega)) ?_
      refine rm_st1N dX6_places_98 (by first | omega | (have z := b2n_lt (gm_full S q); omega)) ?_
      refine sv_aload_n dX6_places_99 rfl ?_
      refine rm_get1 rfl dX6_places_100 ?_
      refine sv_bipush (nI 11) dX6_places_103 (by decide) ?_
      refine sv_dup2 dX6_places_105 rfl rfl ?_
      refine rm_ld1N dX6_places_106 (by first | omega | (have z := b2n_lt (gm_full S q); omega)) ?_
      refine sv_top (nI (S 11)) (congrArg nI (by rw [up_ne (by omega), gm_sh_at (by omega)])) ?_
      refine sv_iconst (nI 1) dX6_places_107 (by decide) ?_
      refine sv_iaddN dX6_places_108 ?_
      refine rm_st1N dX6_places_109 (by first | omega | (have z := b2n_lt (gm_full S q); omega)) ?_
      refine sv_aload_n dX6_places_110 rfl ?_
      refine sv_iload_n dX6_places_111 rfl ?_
      refine sv_iconst (nI 0) dX6_places_112 (by decide) ?_
      refine sv_aload_n dX6_places_113 rfl ?_
      refine rm_get1 rfl dX6_places_114 ?_
      refine sv_iconst (nI 1) dX6_places_117 (by decide) ?_
      refine rm_ld1N dX6_places_118 (by first | omega | (have z := b2n_lt (gm_full S q); omega)) ?_
      refine sv_top (nI (S 1)) (congrArg nI (by rw [up_ne (by omega), up_ne (by omega), gm_sh_at (by omega)])) ?_
      refine sv_ineg dX6_places_119 ?_
      refine sv_callV (As := [_, _, _]) sc_X6_85 (c6_adds0 (p := S 4) (n := S (13 + 8 * S 4) - S 1) (by omega) (by rw [up_ne (by omega), up_ne (by omega), gm_sh_at (by omega)]; exact nI_neg hcn)) rfl rfl (Nat.le_of_ble_eq_true rfl) dX6_places_120 ⟨by decide, by decide⟩ ⟨Nat.le_refl _, Nat.le_refl _⟩ (Nat.le_of_ble_eq_true rfl) om_0 (List.cons_ne_nil _ _) rfl ?_
      refine sv_aload_n dX6_places_123 rfl ?_
      refine sv_iload dX6_places_124 rfl ?_
      refine sv_iconst (nI 0) dX6_places_126 (by decide) ?_
      refine sv_aload_n dX6_places_127 rfl ?_
      refine rm_get1 rfl dX6_places_128 ?_
      refine sv_iconst (nI 1) dX6_places_131 (by decide) ?_
      refine rm_ld1N dX6_places_132 (by first | omega | (have z := b2n_lt (gm_full S q); omega)) ?_
      refine sv_top (nI (S 1)) (congrArg nI (by rw [up_ne (by omega), up_ne (by omega), up_ne (by omega), gm_sh_at (by omega)])) ?_
      refine sv_callV (As := [_, _, _]) sc_X6_85 (c6_adds0 (p := S (45 + 4 * q + 1 + gm_bk S q)) (n := S (13 + 8 * S (45 + 4 * q + 1 + gm_bk S q)) + S 1) (by omega) (by rw [up_ne (by omega), up_ne (by omega), up_ne (by omega), gm_sh_at (by omega)]; exact nI_add _ _)) rfl rfl (Nat.le_of_ble_eq_true rfl) dX6_places_133 ⟨by decide, by decide⟩ ⟨Nat.le_refl _, Nat.le_refl _⟩ (Nat.le_of_ble_eq_true rfl) om_0 (List.cons_ne_nil _ _) rfl ?_
      exact sv_sub [6, 5, 4, 2, 3, 1] (by have e := gm_who_f (q := q) hf; rw [e]; first | done | rfl) (sv_heap (om_S (gm_bd_f hf).symm) k_136)
    · intro n hn hI ih
      show sm_V G _ _ _ _ _ _ [(7, .int (nI (gm_bk S q + n))), (0, .ref m), (1, .int (nI q)), (2, .int (nI c)), (3, .int (nI (S 4))), (4, .int (nI (45 + 4 * q))), (5, .int (nI (S (45 + 4 * q + 1 + gm_bk S q))))] [] (sm_om G h m F X (sm_as A (gm_sh S q (gm_bk S q) n)) L)
      refine sv_iload dX6_places_46 rfl ?_
      refine sv_aload_n dX6_places_48 rfl ?_
      refine sv_iload_n dX6_places_49 rfl ?_
      refine sv_callV (As := [_]) sc_X6_99 (c6_workersAt (by omega)) rfl rfl (Nat.le_of_ble_eq_true rfl) dX6_places_50 ⟨by decide, by decide⟩ ⟨Nat.le_refl _, Nat.le_refl _⟩ (Nat.le_of_ble_eq_true rfl) om_0 (List.cons_ne_nil _ _) rfl ?_
      refine sv_top (nI (S (45 + 4 * q))) (congrArg nI (gm_sh_at (by omega))) ?_
      refine sv_iconst (nI 1) dX6_places_53 (by decide) ?_
      refine sv_isubN dX6_places_54 (by first | omega | (have z := b2n_lt (gm_full S q); omega)) ?_
      refine sv_icmpN_ge 88 dX6_places_55 (by decide) (by first | omega | (have z := b2n_lt (gm_full S q); omega)) (by first | omega | (have z := b2n_lt (gm_full S q); omega)) (fun c_55 => absurd c_55 (by omega)) (fun c_55 => ?_)
      refine sv_aload_n dX6_places_58 rfl ?_
      refine rm_get1 rfl dX6_places_59 ?_
      refine sv_iload dX6_places_62 rfl ?_
      refine sv_iconst (nI 1) dX6_places_64 (by decide) ?_
      refine sv_iaddN dX6_places_65 ?_
      refine sv_iload dX6_places_66 rfl ?_
      refine sv_iaddN dX6_places_68 ?_
      refine sv_aload_n dX6_places_69 rfl ?_
      refine rm_get1 rfl dX6_places_70 ?_
      refine sv_iload dX6_places_73 rfl ?_
      refine sv_iconst (nI 2) dX6_places_75 (by decide) ?_
      refine sv_iaddN dX6_places_76 ?_
      refine sv_iload dX6_places_77 rfl ?_
      refine sv_iaddN dX6_places_79 ?_
      refine rm_ld1N dX6_places_80 (by first | omega | (have z := b2n_lt (gm_full S q); omega)) ?_
      refine rm_st1N dX6_places_81 (by first | omega | (have z := b2n_lt (gm_full S q); omega)) ?_
      refine sv_heap (h' := (sm_om G h m F X (sm_as A (gm_sh S q (gm_bk S q) (n + 1))) L)) (om_S (gm_sh_s S q _ n)) ?_
      refine sv_iinc1 (lv' := [(7, _), (0, _), (1, _), (2, _), (3, _), (4, _), (5, _)]) dX6_places_82 rfl (by decide) rfl ?_
      refine sv_goto 46 dX6_places_85 (by decide) ?_
      exact sv_sub [0, 1, 2, 3, 4, 5, 6] rfl (ih trivial)
end SR5
