section SR10
variable {G : sm_G} {h : sm_H} {m : Nat} {F : Nat → Int32} {X : Nat → Int64} {A : Nat → Nat → Int32} {L : Nat → Nat → Int64} {S : Nat → Nat} {K : Nat}
def gm_isP (S : gm_S) (p : Int32) : Bool := decide (S 3 ≠ 0 ∧ gm_in (nI 0) p (nI (S 3 - 1)) = true)
theorem gm_isP_k {p : Int32} (h3 : S 3 < 2 ^ 31) (h : gm_isP S p = true) : ∃ k, p = nI k ∧ k < S 3 := by
  obtain ⟨h1, h2⟩ := of_decide_eq_true h
  obtain ⟨k, e, k1, k2⟩ := gm_in_k (by omega) (by omega) h2
  exact ⟨k, e, by omega⟩
theorem gm_isP_n {k : Nat} (h3 : S 3 < 2 ^ 31) (hk : k < 2 ^ 31) : gm_isP S (nI k) = decide (k < S 3) := by
  unfold gm_isP
  rw [gm_in_n (by omega) (by omega) hk]
  by_cases e : k < S 3
  · rw [decide_eq_true e]; exact decide_eq_true ⟨by omega, decide_eq_true ⟨by omega, by omega⟩⟩
  · rw [decide_eq_false e]; exact decide_eq_false (fun ⟨a, b⟩ => by have := of_decide_eq_true b; omega)
theorem gm_isP_raw {p : Int32} (h3 : S 3 < 2 ^ 31) : nI (b2n (decide (nI 0 ≤ p ∧ p ≤ nI (S 3) - nI 1))) = nI (b2n (gm_isP S p)) := by
  unfold gm_isP
  by_cases e : S 3 = 0
  · rw [e]
    have h1 : ¬ (nI 0 ≤ p ∧ p ≤ nI 0 - nI 1) := by
      rintro ⟨a, b⟩
      rw [Int32.le_iff_toInt_le] at a b
      have e1 : (nI 0).toInt = 0 := by decide
      have e2 : (nI 0 - nI 1).toInt = -1 := by decide
      omega
    rw [decide_eq_false h1, decide_eq_false (by rintro ⟨a, -⟩; exact a rfl)]
  · rw [pk_sub (by omega)]
    unfold gm_in
    simp [e]
theorem ne_1 {a : Nat} (h : a < 2 ^ 31) : nI a ≠ -1 := by
  intro e
  have := congrArg Int32.toInt e
  rw [nI_toInt h] at this
  have e2 : (-1 : Int32).toInt = -1 := by decide
  omega
theorem w_k {k : Int32} {n : Nat} (hn : n < 2 ^ 31) (h0 : 0 ≤ k) (h : ¬ nI n ≤ k) : ∃ j, k = nI j ∧ j < n := by
  rw [Int32.le_iff_toInt_le] at h0
  rw [Int32.le_iff_toInt_le, nI_toInt hn] at h
  have e0 : (0 : Int32).toInt = 0 := by decide
  exact ⟨k.toInt.toNat, Int32.toInt_inj.mp (by rw [nI_toInt (by omega)]; omega), by omega⟩
theorem w_lt {k : Int32} {n : Nat} (h : nI n ≤ k) : ¬ k < nI n := by rw [Int32.le_iff_toInt_le] at h; rw [Int32.lt_iff_toInt_lt]; omega
theorem an_pl_0 {p w : Int32} (h : gm_isP S p = false) : an_player S p w = (nI 1, nI 0) := by unfold an_player; rw [if_neg (of_decide_eq_false h)]
theorem an_pl_2 {p w : Int32} (h : gm_isP S p = true) (h2 : gm_in (nI 0) w (nI 8) = false) : an_player S p w = (nI 2, nI 0) := by unfold an_player; rw [if_pos (of_decide_eq_true h), if_neg (ne_t h2)]
theorem an_pl_k {p k : Nat} (h : gm_isP S (nI p) = true) (h2 : gm_in (nI 0) (nI k) (nI 8) = true) (hp : p < 2 ^ 31) (hk : k < 2 ^ 31) : an_player S (nI p) (nI k) = (nI 0, nI (gm_pla S p k)) := by unfold an_player; rw [if_pos (of_decide_eq_true h), if_pos h2, i2_nI hp, i2_nI hk]
theorem gm_pla_8 {p k : Nat} (h : k = 8) : gm_pla S p k = gm_tot S p := by unfold gm_pla; rw [if_pos h]
theorem gm_pla_k {p k : Nat} (h : k ≠ 8) : gm_pla S p k = S (13 + 8 * p + k) := by unfold gm_pla; rw [if_neg h]
def an_loses (S : gm_S) (p g : Int32) : Int32 × Int32 := if gm_isP S p = true then (if gm_in (nI 0) g (nI 2) = true then (nI 0, nI (if gm_on S = true then gm_loss S (i2 p) (i2 g) else 0)) else (nI 2, nI 0)) else (nI 1, nI 0)
def gm_bmp (S : gm_S) (q : Nat) : Int32 := if gm_on S = true ∧ gm_full S q = true ∧ gm_bk S q ≠ 3 then nI (S (45 + 4 * q + 1 + gm_bk S q)) else -1
def an_bumps (S : gm_S) (q : Int32) : Int32 × Int32 := if gm_in (nI 0) q (nI 5) = true then (nI 0, gm_bmp S (i2 q)) else (nI 1, nI 0)
/-- whether a bringing is tried -/
def gm_try (S : gm_S) (q c : Int32) : Bool := gm_in (nI 0) q (nI 5) && gm_chR (i2 q) c && gm_can S (i2 q) (i2 c)
def an_brings (S : gm_S) (q c : Int32) : Int32 × Int32 := if gm_in (nI 0) q (nI 5) = true then (if gm_chR (i2 q) c = true then (nI 0, gm_bv S (i2 q) (i2 c)) else (nI 2, nI 0)) else (nI 1, nI 0)
def gm_bsw (a : Nat × Nat × Nat) (k : Nat) : Int32 := if k = 0 then gm_e a a.1 else if k = 1 then gm_e a a.2.1 else gm_e a a.2.2
def an_best (S : gm_S) (w : Int32) : Int32 × Int32 := if gm_in (nI 0) w (nI 2) = true then (nI 0, gm_bsw (gm_bst S) (i2 w)) else (nI 1, nI 0)
def gm_nxN (x : Int64) : Nat → Int64
  | 0 => x
  | n + 1 => gm_nx (gm_nxN x n)
def gm_wea (S : gm_S) (x : Int64) (n : Nat) : Int32 := if S 3 = 0 then -1 else nI (gm_die (gm_nxN x n))
def an_weather (S : gm_S) (x : Int64) (n : Int32) : Int32 × Int32 := if gm_in (nI 1) n (nI 12) = true then (nI 0, gm_wea S x (i2 n)) else (nI 1, nI 0)
theorem gm_ch_k {q : Nat} {c : Int32} (h : gm_chR q c = true) : ∃ k, c = nI k ∧ k < 24 := by
  rcases Classical.em (∃ k, k < 24 ∧ c = nI k) with ⟨k, h1, h2⟩ | e
  · exact ⟨k, h2, h1⟩
  · rw [gm_chR_o e] at h; cases h
theorem c6_isPlayerG {p : Int32} (h3 : S 3 < 2 ^ 31) : sm_F G mX6_isPlayer 1 [.ref m, .int p] (sm_om G h m F X (sm_as A S) L) (.inl (some (.int (nI (b2n (gm_isP S p)))))) (sm_om G h m F X (sm_as A S) L) := by
  unfold sm_F sm_C
  show sm_V G _ _ _ 0 0 0 [(0, .ref m), (1, .int p)] [] _
  refine sv_iload_n dX6_isPlayer_0 rfl ?_
  refine sv_iconst (nI 0) dX6_isPlayer_1 (by decide) ?_
  refine sv_aload_n dX6_isPlayer_2 rfl ?_
  refine rm_get1 rfl dX6_isPlayer_3 ?_
  refine sv_iconst (nI 3) dX6_isPlayer_6 (by decide) ?_
  refine rm_ld1N dX6_isPlayer_7 (by omega) ?_
  refine sv_iconst (nI 1) dX6_isPlayer_8 (by decide) ?_
  refine sv_isub dX6_isPlayer_9 ?_
  refine sv_callS (As := [_, _, _]) sc_X6_53 (c6_inR) rfl rfl (Nat.le_of_ble_eq_true rfl) dX6_isPlayer_10 ⟨by decide, by decide⟩ ⟨Nat.le_refl _, Nat.le_refl _⟩ (Nat.le_of_ble_eq_true rfl) ?_
  refine sv_top _ (gm_isP_raw h3) ?_
  refine sv_iret dX6_isPlayer_13 rfl (nar_b (b2n_lt _)) (Nat.le_refl _) (Nat.le_refl _) ?_
  exact ⟨rfl, rfl⟩
theorem c6_player {p w : Int32} (hI : gm_I K S) : sm_F G mX6_player 3 [.ref m, .int p, .int w] (sm_om G h m F X (sm_as A S) L) (.inl (some (.int ((an_player S p w).2)))) (sm_om G h m (va_up F 0 (an_player S p w).1) X (sm_as A S) L) := by
  unfold sm_F sm_C
  show sm_V G _ _ _ 0 0 0 [(0, .ref m), (1, .int p), (2, .int w)] [] _
  have b3 := hI.2.1 3 (by omega) (by omega); have b6 := hI.2.1 6 (by omega) (by omega); have b0 := hI.2.1 0 (by omega) (by omega); have bK := hI.2.2.1
  have b34 : S 3 ≤ 4 := by have q := hI.2.2.2.2; omega
  refine sv_aload_n dX6_player_0 rfl ?_
  refine sv_iconst (nI 0) dX6_player_1 (by decide) ?_
  refine rm_put0 rfl dX6_player_2 ?_
  refine sv_aload_n dX6_player_5 rfl ?_
  refine sv_iload_n dX6_player_6 rfl ?_
  refine sv_callV (As := [_]) sc_X6_218 (c6_isPlayerG (by omega)) rfl rfl (Nat.le_of_ble_eq_true rfl) dX6_player_7 ⟨by decide, by decide⟩ ⟨Nat.le_refl _, Nat.le_refl _⟩ (Nat.le_of_ble_eq_true rfl) om_0 (List.cons_ne_nil _ _) rfl ?_
  refine sv_ifN_ne 19 dX6_player_10 (by decide) (by first | omega | (have z := b2n_lt (gm_isP S p); omega) | (have z := b2n_lt (gm_isP S (nI p9)); omega) | (have z := b2n_lt (gm_in (nI 0) w (nI 8)); omega)) (fun c_10 => ?_) (fun c_10 => ?_)
  · have in_p := b2n_1 c_10
    obtain ⟨p9, rfl, p9_1⟩ := gm_isP_k (by omega) in_p
    refine sv_iload_n dX6_player_19 rfl ?_
    refine sv_iconst (nI 0) dX6_player_20 (by decide) ?_
    refine sv_bipush (nI 8) dX6_player_21 (by decide) ?_
    refine sv_callS (As := [_, _, _]) sc_X6_53 (c6_inG) rfl rfl (Nat.le_of_ble_eq_true rfl) dX6_player_23 ⟨by decide, by decide⟩ ⟨Nat.le_refl _, Nat.le_refl _⟩ (Nat.le_of_ble_eq_true rfl) ?_
    refine sv_ifN_ne 37 dX6_player_26 (by decide) (by first | omega | (have z := b2n_lt (gm_isP S p); omega) | (have z := b2n_lt (gm_isP S (nI p9)); omega) | (have z := b2n_lt (gm_in (nI 0) w (nI 8)); omega)) (fun c_26 => ?_) (fun c_26 => ?_)
    · have in_w := b2n_1 c_26
      obtain ⟨k, rfl, k_1, k_2⟩ := gm_in_k (by omega) (by omega) in_w
      refine sv_iload_n dX6_player_37 rfl ?_
      refine sv_bipush (nI 8) dX6_player_38 (by decide) ?_
      refine sv_icmpN_ne 51 dX6_player_40 (by decide) (by first | omega | (have z := b2n_lt (gm_isP S p); omega) | (have z := b2n_lt (gm_isP S (nI p9)); omega) | (have z := b2n_lt (gm_in (nI 0) w (nI 8)); omega)) (by first | omega | (have z := b2n_lt (gm_isP S p); omega) | (have z := b2n_lt (gm_isP S (nI p9)); omega) | (have z := b2n_lt (gm_in (nI 0) w (nI 8)); omega)) (fun c_40 => ?_) (fun c_40 => ?_)
      · refine sv_iload_n dX6_player_51 rfl ?_
        refine sv_bipush (nI 7) dX6_player_52 (by decide) ?_
        refine sv_icmpN_ne 67 dX6_player_54 (by decide) (by first | omega | (have z := b2n_lt (gm_isP S p); omega) | (have z := b2n_lt (gm_isP S (nI p9)); omega) | (have z := b2n_lt (gm_in (nI 0) w (nI 8)); omega)) (by first | omega | (have z := b2n_lt (gm_isP S p); omega) | (have z := b2n_lt (gm_isP S (nI p9)); omega) | (have z := b2n_lt (gm_in (nI 0) w (nI 8)); omega)) (fun c_54 => ?_) (fun c_54 => ?_)
        · refine sv_aload_n dX6_player_67 rfl ?_
          refine sv_iload_n dX6_player_68 rfl ?_
          refine sv_iload_n dX6_player_69 rfl ?_
          refine sv_callV (As := [_, _]) sc_X6_78 (c6_of (p := p9) (w := k) (by omega)) rfl rfl (Nat.le_of_ble_eq_true rfl) dX6_player_70 ⟨by decide, by decide⟩ ⟨Nat.le_refl _, Nat.le_refl _⟩ (Nat.le_of_ble_eq_true rfl) om_0 (List.cons_ne_nil _ _) rfl ?_
          refine sv_iret dX6_player_73 rfl rfl (Nat.le_refl _) (Nat.le_refl _) ?_
          exact api_l ((an_pl_k in_p in_w (by omega) (by omega)).trans (by rw [gm_pla_k c_40])) (by first | rfl | exact up_up _ _ _ _)
        · refine sv_aload_n dX6_player_57 rfl ?_
          refine sv_iload_n dX6_player_58 rfl ?_
          refine sv_bipush (nI 7) dX6_player_59 (by decide) ?_
          refine sv_callV (As := [_, _]) sc_X6_78 (c6_of (p := p9) (w := 7) (by omega)) rfl rfl (Nat.le_of_ble_eq_true rfl) dX6_player_61 ⟨by decide, by decide⟩ ⟨Nat.le_refl _, Nat.le_refl _⟩ (Nat.le_of_ble_eq_true rfl) om_0 (List.cons_ne_nil _ _) rfl ?_
          refine sv_goto 73 dX6_player_64 (by decide) ?_
          refine sv_iret dX6_player_73 rfl rfl (Nat.le_refl _) (Nat.le_refl _) ?_
          subst c_54
          exact api_l ((an_pl_k in_p in_w (by omega) (by omega)).trans (by rw [gm_pla_k c_40])) (by first | rfl | exact up_up _ _ _ _)
      · refine sv_aload_n dX6_player_43 rfl ?_
        refine sv_iload_n dX6_player_44 rfl ?_
        refine sv_callV (As := [_]) sc_X6_134 (c6_total (by omega)) rfl rfl (Nat.le_of_ble_eq_true rfl) dX6_player_45 ⟨by decide, by decide⟩ ⟨Nat.le_refl _, Nat.le_refl _⟩ (Nat.le_of_ble_eq_true rfl) om_0 (List.cons_ne_nil _ _) rfl ?_
        refine sv_goto 73 dX6_player_48 (by decide) ?_
        refine sv_iret dX6_player_73 rfl rfl (Nat.le_refl _) (Nat.le_refl _) ?_
        exact api_l ((an_pl_k in_p in_w (by omega) (by omega)).trans (by rw [gm_pla_8 c_40])) (by first | rfl | exact up_up _ _ _ _)
    · refine sv_aload_n dX6_player_29 rfl ?_
      refine sv_iconst (nI 2) dX6_player_30 (by decide) ?_
      refine sv_callV (As := [_]) sc_X6_167 (c6_fails) rfl rfl (Nat.le_of_ble_eq_true rfl) dX6_player_31 ⟨by decide, by decide⟩ ⟨Nat.le_refl _, Nat.le_refl _⟩ (Nat.le_of_ble_eq_true rfl) om_0 (List.cons_ne_nil _ _) rfl ?_
      refine sv_goto 73 dX6_player_34 (by decide) ?_
      refine sv_iret dX6_player_73 rfl rfl (Nat.le_refl _) (Nat.le_refl _) ?_
      exact api_l (an_pl_2 in_p (b2n_f c_26)) (by first | rfl | exact up_up _ _ _ _)
  · refine sv_aload_n dX6_player_13 rfl ?_
    refine sv_iconst (nI 1) dX6_player_14 (by decide) ?_
    refine sv_callV (As := [_]) sc_X6_167 (c6_fails) rfl rfl (Nat.le_of_ble_eq_true rfl) dX6_player_15 ⟨by decide, by decide⟩ ⟨Nat.le_refl _, Nat.le_refl _⟩ (Nat.le_of_ble_eq_true rfl) om_0 (List.cons_ne_nil _ _) rfl ?_
    refine sv_iret dX6_player_18 rfl rfl (Nat.le_refl _) (Nat.le_refl _) ?_
    exact api_l (an_pl_0 (b2n_f c_10)) (by first | rfl | exact up_up _ _ _ _)
theorem an_w_1 {q k : Int32} (h : gm_in (nI 0) q (nI 5) = false) : an_worker S q k = (nI 1, nI 0) := by unfold an_worker; rw [if_neg (ne_t h)]
theorem an_w_2 {q k : Int32} (h : gm_in (nI 0) q (nI 5) = true) (h2 : ¬ 0 ≤ k) : an_worker S q k = (nI 2, nI 0) := by unfold an_worker; rw [if_pos h, if_neg h2]
theorem an_w_3 {q : Nat} {k : Int32} (hq : q < 2 ^ 31) (h : gm_in (nI 0) (nI q) (nI 5) = true) (h2 : 0 ≤ k) (h3 : nI (S (45 + 4 * q)) ≤ k) : an_worker S (nI q) k = (nI 0, -1) := by unfold an_worker; rw [if_pos h, if_pos h2, i2_nI hq, if_neg (w_lt h3)]
theorem an_w_4 {q k : Nat} (hq : q < 2 ^ 31) (hk : k < S (45 + 4 * q)) (hw : S (45 + 4 * q) < 2 ^ 31) (h : gm_in (nI 0) (nI q) (nI 5) = true) : an_worker S (nI q) (nI k) = (nI 0, nI (S (45 + 4 * q + 1 + k))) := by unfold an_worker; rw [if_pos h, if_pos (by rw [← nI_0, nI_leI (by omega) (by omega)]; omega), i2_nI hq, if_pos ((nI_ltI (by omega) hw).mpr hk), i2_nI (by omega)]
theorem c6_worker {q k : Int32} (hI : gm_I K S) : sm_F G mX6_worker 2 [.ref m, .int q, .int k] (sm_om G h m F X (sm_as A S) L) (.inl (some (.int ((an_worker S q k).2)))) (sm_om G h m (va_up F 0 (an_worker S q k).1) X (sm_as A S) L) := by
  unfold sm_F sm_C
  show sm_V G _ _ _ 0 0 0 [(0, .ref m), (1, .int q), (2, .int k)] [] _
  have b3 := hI.2.1 3 (by omega) (by omega); have b6 := hI.2.1 6 (by omega) (by omega); have b0 := hI.2.1 0 (by omega) (by omega); have bK := hI.2.2.1
  refine sv_aload_n dX6_worker_0 rfl ?_
  refine sv_iconst (nI 0) dX6_worker_1 (by decide) ?_
  refine rm_put0 rfl dX6_worker_2 ?_
  refine sv_iload_n dX6_worker_5 rfl ?_
  refine sv_callS (As := [_]) sc_X6_221 (c6_isPlace) rfl rfl (Nat.le_of_ble_eq_true rfl) dX6_worker_6 ⟨by decide, by decide⟩ ⟨Nat.le_refl _, Nat.le_refl _⟩ (Nat.le_of_ble_eq_true rfl) ?_
  refine sv_ifN_ne 18 dX6_worker_9 (by decide) (by first | omega | (have z := b2n_lt (gm_in (nI 0) q (nI 5)); omega)) (fun c_9 => ?_) (fun c_9 => ?_)
  · have in_q := b2n_1 c_9
    obtain ⟨q9, rfl, q9_1, q9_2⟩ := gm_in_k (by omega) (by omega) in_q
    have bw := hI.2.2.2.1 q9 (by omega)
    refine sv_iload_n dX6_worker_18 rfl ?_
    refine sv_if_ge 28 dX6_worker_19 (by decide) (fun c_19 => ?_) (fun c_19 => ?_)
    · refine sv_iload_n dX6_worker_28 rfl ?_
      refine sv_aload_n dX6_worker_29 rfl ?_
      refine sv_iload_n dX6_worker_30 rfl ?_
      refine sv_callV (As := [_]) sc_X6_99 (c6_workersAt (by omega)) rfl rfl (Nat.le_of_ble_eq_true rfl) dX6_worker_31 ⟨by decide, by decide⟩ ⟨Nat.le_refl _, Nat.le_refl _⟩ (Nat.le_of_ble_eq_true rfl) om_0 (List.cons_ne_nil _ _) rfl ?_
      refine sv_icmp_ge 46 dX6_worker_34 (by decide) (fun c_34 => ?_) (fun c_34 => ?_)
      · refine sv_iconst (-1) dX6_worker_46 (by decide) ?_
        refine sv_iret dX6_worker_47 rfl rfl (Nat.le_refl _) (Nat.le_refl _) ?_
        exact api_l (an_w_3 (by omega) in_q c_19 c_34) (by first | rfl | exact up_up _ _ _ _)
      · obtain ⟨j, rfl, j_1⟩ := w_k (by omega) c_19 c_34
        refine sv_aload_n dX6_worker_37 rfl ?_
        refine sv_iload_n dX6_worker_38 rfl ?_
        refine sv_iload_n dX6_worker_39 rfl ?_
        refine sv_callV (As := [_, _]) sc_X6_103 (c6_ownerAt (by omega)) rfl rfl (Nat.le_of_ble_eq_true rfl) dX6_worker_40 ⟨by decide, by decide⟩ ⟨Nat.le_refl _, Nat.le_refl _⟩ (Nat.le_of_ble_eq_true rfl) om_0 (List.cons_ne_nil _ _) rfl ?_
        refine sv_goto 47 dX6_worker_43 (by decide) ?_
        refine sv_iret dX6_worker_47 rfl rfl (Nat.le_refl _) (Nat.le_refl _) ?_
        exact api_l (an_w_4 (by omega) j_1 (by omega) in_q) (by first | rfl | exact up_up _ _ _ _)
    · refine sv_aload_n dX6_worker_22 rfl ?_
      refine sv_iconst (nI 2) dX6_worker_23 (by decide) ?_
      refine sv_callV (As := [_]) sc_X6_167 (c6_fails) rfl rfl (Nat.le_of_ble_eq_true rfl) dX6_worker_24 ⟨by decide, by decide⟩ ⟨Nat.le_refl _, Nat.le_refl _⟩ (Nat.le_of_ble_eq_true rfl) om_0 (List.cons_ne_nil _ _) rfl ?_
      refine sv_iret dX6_worker_27 rfl rfl (Nat.le_refl _) (Nat.le_refl _) ?_
      exact api_l (an_w_2 in_q c_19) (by first | rfl | exact up_up _ _ _ _)
  · refine sv_aload_n dX6_worker_12 rfl ?_
    refine sv_iconst (nI 1) dX6_worker_13 (by decide) ?_
    refine sv_callV (As := [_]) sc_X6_167 (c6_fails) rfl rfl (Nat.le_of_ble_eq_true rfl) dX6_worker_14 ⟨by decide, by decide⟩ ⟨Nat.le_refl _, Nat.le_refl _⟩ (Nat.le_of_ble_eq_true rfl) om_0 (List.cons_ne_nil _ _) rfl ?_
    refine sv_iret dX6_worker_17 rfl rfl (Nat.le_refl _) (Nat.le_refl _) ?_
    exact api_l (an_w_1 (b2n_f c_9)) (by first | rfl | exact up_up _ _ _ _)
theorem c6_setting {w : Int32} : sm_F G mX6_setting 1 [.ref m, .int w] (sm_om G h m F X (sm_as A S) L) (.inl (some (.int ((an_setting S w).2)))) (sm_om G h m (va_up F 0 (an_setting S w).1) X (sm_as A S) L) := by
  unfold sm_F sm_C
  show sm_V G _ _ _ 0 0 0 [(0, .ref m), (1, .int w)] [] _
  refine sv_aload_n dX6_setting_0 rfl ?_
  refine sv_iconst (nI 0) dX6_setting_1 (by decide) ?_
  refine rm_put0 rfl dX6_setting_2 ?_
  refine sv_iload_n dX6_setting_5 rfl ?_
  refine sv_iconst (nI 0) dX6_setting_6 (by decide) ?_
  refine sv_iconst (nI 2) dX6_setting_7 (by decide) ?_
  refine sv_callS (As := [_, _, _]) sc_X6_53 (c6_inG) rfl rfl (Nat.le_of_ble_eq_true rfl) dX6_setting_8 ⟨by decide, by decide⟩ ⟨Nat.le_refl _, Nat.le_refl _⟩ (Nat.le_of_ble_eq_true rfl) ?_
  refine sv_ifN_eq 23 dX6_setting_11 (by decide) (by first | omega | (have z := b2n_lt (gm_in (nI 0) w (nI 2)); omega)) (fun c_11 => ?_) (fun c_11 => ?_)
  · refine sv_aload_n dX6_setting_23 rfl ?_
    refine sv_iconst (nI 1) dX6_setting_24 (by decide) ?_
    refine sv_callV (As := [_]) sc_X6_167 (c6_fails) rfl rfl (Nat.le_of_ble_eq_true rfl) dX6_setting_25 ⟨by decide, by decide⟩ ⟨Nat.le_refl _, Nat.le_refl _⟩ (Nat.le_of_ble_eq_true rfl) om_0 (List.cons_ne_nil _ _) rfl ?_
    refine sv_iret dX6_setting_28 rfl rfl (Nat.le_refl _) (Nat.le_refl _) ?_
    exact api_l (by unfold an_setting; rw [if_neg (ne_t (b2n_f c_11))]) (by first | rfl | exact up_up _ _ _ _)
  · have in_w := b2n_1 (by omega)
    obtain ⟨k, rfl, k_1, k_2⟩ := gm_in_k (by omega) (by omega) in_w
    refine sv_aload_n dX6_setting_14 rfl ?_
    refine rm_get1 rfl dX6_setting_15 ?_
    refine sv_iload_n dX6_setting_18 rfl ?_
    refine rm_ld1N dX6_setting_19 (by first | omega | (have z := b2n_lt (gm_in (nI 0) w (nI 2)); omega)) ?_
    refine sv_goto 28 dX6_setting_20 (by decide) ?_
    refine sv_iret dX6_setting_28 rfl rfl (Nat.le_refl _) (Nat.le_refl _) ?_
    exact api_l (by unfold an_setting; rw [if_pos in_w, i2_nI (by omega)]) (by first | rfl | exact up_up _ _ _ _)
theorem c6_weather {w : Int32} (hI : gm_I K S) : sm_F G mX6_weather 1 [.ref m, .int w] (sm_om G h m F X (sm_as A S) L) (.inl (some (.int ((an_weather S (X 2) w).2)))) (sm_om G h m (va_up F 0 (an_weather S (X 2) w).1) X (sm_as A S) L) := by
  unfold sm_F sm_C
  show sm_V G _ _ _ 0 0 0 [(0, .ref m), (1, .int w)] [] _
  have b3 := hI.2.1 3 (by omega) (by omega); have b6 := hI.2.1 6 (by omega) (by omega); have b0 := hI.2.1 0 (by omega) (by omega); have bK := hI.2.2.1
  refine sv_aload_n dX6_weather_0 rfl ?_
  refine sv_iconst (nI 0) dX6_weather_1 (by decide) ?_
  refine rm_put0 rfl dX6_weather_2 ?_
  refine sv_iload_n dX6_weather_5 rfl ?_
  refine sv_iconst (nI 1) dX6_weather_6 (by decide) ?_
  refine sv_bipush (nI 12) dX6_weather_7 (by decide) ?_
  refine sv_callS (As := [_, _, _]) sc_X6_53 (c6_inG) rfl rfl (Nat.le_of_ble_eq_true rfl) dX6_weather_9 ⟨by decide, by decide⟩ ⟨Nat.le_refl _, Nat.le_refl _⟩ (Nat.le_of_ble_eq_true rfl) ?_
  refine sv_ifN_ne 21 dX6_weather_12 (by decide) (by first | omega | (have z := b2n_lt (gm_in (nI 1) w (nI 12)); omega)) (fun c_12 => ?_) (fun c_12 => ?_)
  · have in_w := b2n_1 c_12
    obtain ⟨k, rfl, k_1, k_2⟩ := gm_in_k (by omega) (by omega) in_w
    refine sv_aload_n dX6_weather_21 rfl ?_
    refine rm_get2 rfl dX6_weather_22 ?_
    refine sv_lstore_n (lv' := [(2, _), (0, _), (1, _)]) dX6_weather_25 (by decide) rfl ?_
    refine sv_iconst (nI 0) dX6_weather_26 (by decide) ?_
    refine sv_istore (lv' := [(4, _), (2, _), (0, _), (1, _)]) dX6_weather_27 (by decide) rfl ?_
    refine sv_sub [0, 1, 3, 2] rfl (sv_loop (pc := 29) (lv := fun n => [(4, .int (nI n)), (2, .long (gm_nxN (X 2) n)), (1, .int (nI k)), (0, .ref m)]) (hp := fun n => (sm_om G h m (va_up F 0 (nI 0)) X (sm_as A S) L)) (I := fun n => True) (N := k) (trivial) ?_ ?_)
    · intro hI
      show sm_V G _ _ _ _ _ _ [(4, .int (nI k)), (2, .long (gm_nxN (X 2) k)), (1, .int (nI k)), (0, .ref m)] [] (sm_om G h m (va_up F 0 (nI 0)) X (sm_as A S) L)
      refine sv_iload dX6_weather_29 rfl ?_
      refine sv_iload_n dX6_weather_31 rfl ?_
      refine sv_icmpN_ge 46 dX6_weather_32 (by decide) (by first | omega | (have z := b2n_lt (gm_in (nI 1) w (nI 12)); omega)) (by first | omega | (have z := b2n_lt (gm_in (nI 1) w (nI 12)); omega)) (fun c_32 => ?_) (fun c_32 => absurd c_32 (by omega))
      refine sv_aload_n dX6_weather_46 rfl ?_
      refine rm_get1 rfl dX6_weather_47 ?_
      refine sv_iconst (nI 3) dX6_weather_50 (by decide) ?_
      refine rm_ld1N dX6_weather_51 (by first | omega | (have z := b2n_lt (gm_in (nI 1) w (nI 12)); omega)) ?_
      refine sv_ifN_ne 59 dX6_weather_52 (by decide) (by first | omega | (have z := b2n_lt (gm_in (nI 1) w (nI 12)); omega)) (fun c_52 => ?_) (fun c_52 => ?_)
      · refine sv_lload_n dX6_weather_59 rfl ?_
        refine sv_callS (As := [_]) sc_X6_74 (c6_die) rfl rfl (Nat.le_of_ble_eq_true rfl) dX6_weather_60 ⟨by decide, by decide⟩ ⟨Nat.le_refl _, Nat.le_refl _⟩ (Nat.le_of_ble_eq_true rfl) ?_
        refine sv_iret dX6_weather_63 rfl rfl (Nat.le_refl _) (Nat.le_refl _) ?_
        exact api_l (by unfold an_weather gm_wea; rw [if_pos in_w, if_neg c_52, i2_nI (by omega)]) (by first | rfl | exact up_up _ _ _ _)
      · refine sv_iconst (-1) dX6_weather_55 (by decide) ?_
        refine sv_goto 63 dX6_weather_56 (by decide) ?_
        refine sv_iret dX6_weather_63 rfl rfl (Nat.le_refl _) (Nat.le_refl _) ?_
        exact api_l (by unfold an_weather gm_wea; rw [if_pos in_w, if_pos c_52]) (by first | rfl | exact up_up _ _ _ _)
    · intro n hn hI ih
      show sm_V G _ _ _ _ _ _ [(4, .int (nI n)), (2, .long (gm_nxN (X 2) n)), (1, .int (nI k)), (0, .ref m)] [] (sm_om G h m (va_up F 0 (nI 0)) X (sm_as A S) L)
      refine sv_iload dX6_weather_29 rfl ?_
      refine sv_iload_n dX6_weather_31 rfl ?_
      refine sv_icmpN_ge 46 dX6_weather_32 (by decide) (by first | omega | (have z := b2n_lt (gm_in (nI 1) w (nI 12)); omega)) (by first | omega | (have z := b2n_lt (gm_in (nI 1) w (nI 12)); omega)) (fun c_32 => absurd c_32 (by omega)) (fun c_32 => ?_)
      refine sv_lload_n dX6_weather_35 rfl ?_
      refine sv_callS (As := [_]) sc_X6_70 (c6_next) rfl rfl (Nat.le_of_ble_eq_true rfl) dX6_weather_36 ⟨by decide, by decide⟩ ⟨Nat.le_refl _, Nat.le_refl _⟩ (Nat.le_of_ble_eq_true rfl) ?_
      refine sv_lstore_n (lv' := [(2, _), (4, _), (1, _), (0, _)]) dX6_weather_39 (by decide) rfl ?_
      refine sv_iinc1 (lv' := [(4, _), (2, _), (1, _), (0, _)]) dX6_weather_40 rfl (by decide) rfl ?_
      refine sv_goto 29 dX6_weather_43 (by decide) ?_
      exact sv_sub [0, 1, 2, 3] rfl (ih trivial)
  · refine sv_aload_n dX6_weather_15 rfl ?_
    refine sv_iconst (nI 1) dX6_weather_16 (by decide) ?_
    refine sv_callV (As := [_]) sc_X6_167 (c6_fails) rfl rfl (Nat.le_of_ble_eq_true rfl) dX6_weather_17 ⟨by decide, by decide⟩ ⟨Nat.le_refl _, Nat.le_refl _⟩ (Nat.le_of_ble_eq_true rfl) om_0 (List.cons_ne_nil _ _) rfl ?_
    refine sv_iret dX6_weather_20 rfl rfl (Nat.le_refl _) (Nat.le_refl _) ?_
    exact api_l (by unfold an_weather; rw [if_neg (ne_t (b2n_f c_12))]) (by first | rfl | exact up_up _ _ _ _)
end SR10
