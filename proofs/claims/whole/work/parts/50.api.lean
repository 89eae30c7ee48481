section CAP
variable {G : sm_G} {h : sm_H} {m n K : Nat} {V : mw_V} {R : mw_R} {t : mw_T}
theorem in_t {a b : Nat} {x : Int32} (ha : a < 2 ^ 31) (hb : b < 2 ^ 31) (c1 : ¬ x < nI a) (c2 : x ≤ nI b) : gm_in (nI a) x (nI b) = true := decide_eq_true ⟨Int32.not_lt.mp c1, c2⟩
theorem in_t2 {a b : Nat} {x : Int32} (ha : a < 2 ^ 31) (hb : b + 1 < 2 ^ 31) (c1 : ¬ x < nI a) (c2 : ¬ nI (b + 1) ≤ x) : gm_in (nI a) x (nI b) = true := by
  refine in_t ha (by omega) c1 ?_
  rw [Int32.le_iff_toInt_le, nI_toInt hb] at c2
  rw [Int32.le_iff_toInt_le, nI_toInt (by omega)]
  omega
theorem in_f1 {a b : Nat} {x : Int32} (c1 : x < nI a) : gm_in (nI a) x (nI b) = false := decide_eq_false (fun z => absurd z.1 (Int32.not_le.mpr c1))
theorem in_f2 {a b : Nat} {x : Int32} (c2 : ¬ x ≤ nI b) : gm_in (nI a) x (nI b) = false := decide_eq_false (fun z => c2 z.2)
theorem in_f3 {a b : Nat} {x : Int32} (hb : b + 1 < 2 ^ 31) (c2 : nI (b + 1) ≤ x) : gm_in (nI a) x (nI b) = false := by
  refine in_f2 ?_
  rw [Int32.le_iff_toInt_le, nI_toInt hb] at c2
  rw [Int32.le_iff_toInt_le, nI_toInt (by omega)]
  omega
theorem k5_isPlace {w : Int32} : sm_F G mX5_isPlace 0 [.int w] h (.inl (some (.int (nI (b2n (gm_in (nI 0) w (nI 5))))))) h := by
  unfold sm_F sm_C
  show sm_V G _ _ _ 0 0 0 [(0, .int w)] [] _
  refine sv_iload_n dX5_isPlace_0 rfl ?_
  refine sv_if_lt 14 dX5_isPlace_1 (by decide) (fun c_1 => ?_) (fun c_1 => ?_)
  · refine sv_iconst (nI 0) dX5_isPlace_14 (by decide) ?_
    refine sv_iret dX5_isPlace_15 rfl rfl (Nat.le_refl _) (Nat.le_refl _) ?_
    first | exact ⟨rbt (in_t2 (a := 0) (b := 5) (by omega) (by omega) c_1 c_7), rfl⟩ | exact ⟨rbf (in_f1 (a := 0) c_1), rfl⟩ | exact ⟨rbf (in_f3 (b := 5) (by omega) c_7), rfl⟩
  · refine sv_iload_n dX5_isPlace_4 rfl ?_
    refine sv_bipush (nI 6) dX5_isPlace_5 (by decide) ?_
    refine sv_icmp_ge 14 dX5_isPlace_7 (by decide) (fun c_7 => ?_) (fun c_7 => ?_)
    · refine sv_iconst (nI 0) dX5_isPlace_14 (by decide) ?_
      refine sv_iret dX5_isPlace_15 rfl rfl (Nat.le_refl _) (Nat.le_refl _) ?_
      first | exact ⟨rbt (in_t2 (a := 0) (b := 5) (by omega) (by omega) c_1 c_7), rfl⟩ | exact ⟨rbf (in_f1 (a := 0) c_1), rfl⟩ | exact ⟨rbf (in_f3 (b := 5) (by omega) c_7), rfl⟩
    · refine sv_iconst (nI 1) dX5_isPlace_10 (by decide) ?_
      refine sv_goto 15 dX5_isPlace_11 (by decide) ?_
      refine sv_iret dX5_isPlace_15 rfl rfl (Nat.le_refl _) (Nat.le_refl _) ?_
      first | exact ⟨rbt (in_t2 (a := 0) (b := 5) (by omega) (by omega) c_1 c_7), rfl⟩ | exact ⟨rbf (in_f1 (a := 0) c_1), rfl⟩ | exact ⟨rbf (in_f3 (b := 5) (by omega) c_7), rfl⟩
theorem k5_isGood {w : Int32} : sm_F G mX5_isGood 0 [.int w] h (.inl (some (.int (nI (b2n (gm_in (nI 0) w (nI 2))))))) h := by
  unfold sm_F sm_C
  show sm_V G _ _ _ 0 0 0 [(0, .int w)] [] _
  refine sv_iload_n dX5_isGood_0 rfl ?_
  refine sv_if_lt 13 dX5_isGood_1 (by decide) (fun c_1 => ?_) (fun c_1 => ?_)
  · refine sv_iconst (nI 0) dX5_isGood_13 (by decide) ?_
    refine sv_iret dX5_isGood_14 rfl rfl (Nat.le_refl _) (Nat.le_refl _) ?_
    first | exact ⟨rbt (in_t2 (a := 0) (b := 2) (by omega) (by omega) c_1 c_6), rfl⟩ | exact ⟨rbf (in_f1 (a := 0) c_1), rfl⟩ | exact ⟨rbf (in_f3 (b := 2) (by omega) c_6), rfl⟩
  · refine sv_iload_n dX5_isGood_4 rfl ?_
    refine sv_iconst (nI 3) dX5_isGood_5 (by decide) ?_
    refine sv_icmp_ge 13 dX5_isGood_6 (by decide) (fun c_6 => ?_) (fun c_6 => ?_)
    · refine sv_iconst (nI 0) dX5_isGood_13 (by decide) ?_
      refine sv_iret dX5_isGood_14 rfl rfl (Nat.le_refl _) (Nat.le_refl _) ?_
      first | exact ⟨rbt (in_t2 (a := 0) (b := 2) (by omega) (by omega) c_1 c_6), rfl⟩ | exact ⟨rbf (in_f1 (a := 0) c_1), rfl⟩ | exact ⟨rbf (in_f3 (b := 2) (by omega) c_6), rfl⟩
    · refine sv_iconst (nI 1) dX5_isGood_9 (by decide) ?_
      refine sv_goto 14 dX5_isGood_10 (by decide) ?_
      refine sv_iret dX5_isGood_14 rfl rfl (Nat.le_refl _) (Nat.le_refl _) ?_
      first | exact ⟨rbt (in_t2 (a := 0) (b := 2) (by omega) (by omega) c_1 c_6), rfl⟩ | exact ⟨rbf (in_f1 (a := 0) c_1), rfl⟩ | exact ⟨rbf (in_f3 (b := 2) (by omega) c_6), rfl⟩
theorem k5_isSetting {w : Int32} : sm_F G mX5_isSetting 0 [.int w] h (.inl (some (.int (nI (b2n (gm_in (nI 0) w (nI 2))))))) h := by
  unfold sm_F sm_C
  show sm_V G _ _ _ 0 0 0 [(0, .int w)] [] _
  refine sv_iload_n dX5_isSetting_0 rfl ?_
  refine sv_if_lt 13 dX5_isSetting_1 (by decide) (fun c_1 => ?_) (fun c_1 => ?_)
  · refine sv_iconst (nI 0) dX5_isSetting_13 (by decide) ?_
    refine sv_iret dX5_isSetting_14 rfl rfl (Nat.le_refl _) (Nat.le_refl _) ?_
    first | exact ⟨rbt (in_t2 (a := 0) (b := 2) (by omega) (by omega) c_1 c_6), rfl⟩ | exact ⟨rbf (in_f1 (a := 0) c_1), rfl⟩ | exact ⟨rbf (in_f3 (b := 2) (by omega) c_6), rfl⟩
  · refine sv_iload_n dX5_isSetting_4 rfl ?_
    refine sv_iconst (nI 3) dX5_isSetting_5 (by decide) ?_
    refine sv_icmp_ge 13 dX5_isSetting_6 (by decide) (fun c_6 => ?_) (fun c_6 => ?_)
    · refine sv_iconst (nI 0) dX5_isSetting_13 (by decide) ?_
      refine sv_iret dX5_isSetting_14 rfl rfl (Nat.le_refl _) (Nat.le_refl _) ?_
      first | exact ⟨rbt (in_t2 (a := 0) (b := 2) (by omega) (by omega) c_1 c_6), rfl⟩ | exact ⟨rbf (in_f1 (a := 0) c_1), rfl⟩ | exact ⟨rbf (in_f3 (b := 2) (by omega) c_6), rfl⟩
    · refine sv_iconst (nI 1) dX5_isSetting_9 (by decide) ?_
      refine sv_goto 14 dX5_isSetting_10 (by decide) ?_
      refine sv_iret dX5_isSetting_14 rfl rfl (Nat.le_refl _) (Nat.le_refl _) ?_
      first | exact ⟨rbt (in_t2 (a := 0) (b := 2) (by omega) (by omega) c_1 c_6), rfl⟩ | exact ⟨rbf (in_f1 (a := 0) c_1), rfl⟩ | exact ⟨rbf (in_f3 (b := 2) (by omega) c_6), rfl⟩
theorem k5_isAmount {w : Int32} : sm_F G mX5_isAmount 0 [.int w] h (.inl (some (.int (nI (b2n (gm_in (nI 1) w (nI 3))))))) h := by
  unfold sm_F sm_C
  show sm_V G _ _ _ 0 0 0 [(0, .int w)] [] _
  refine sv_iload_n dX5_isAmount_0 rfl ?_
  refine sv_iconst (nI 1) dX5_isAmount_1 (by decide) ?_
  refine sv_icmp_lt 14 dX5_isAmount_2 (by decide) (fun c_2 => ?_) (fun c_2 => ?_)
  · refine sv_iconst (nI 0) dX5_isAmount_14 (by decide) ?_
    refine sv_iret dX5_isAmount_15 rfl rfl (Nat.le_refl _) (Nat.le_refl _) ?_
    first | exact ⟨rbt (in_t (by omega) (by omega) c_2 (Int32.not_lt.mp c_7)), rfl⟩ | exact ⟨rbf (in_f1 c_2), rfl⟩ | exact ⟨rbf (in_f2 (Int32.not_le.mpr c_7)), rfl⟩
  · refine sv_iload_n dX5_isAmount_5 rfl ?_
    refine sv_iconst (nI 3) dX5_isAmount_6 (by decide) ?_
    refine sv_icmp_gt 14 dX5_isAmount_7 (by decide) (fun c_7 => ?_) (fun c_7 => ?_)
    · refine sv_iconst (nI 0) dX5_isAmount_14 (by decide) ?_
      refine sv_iret dX5_isAmount_15 rfl rfl (Nat.le_refl _) (Nat.le_refl _) ?_
      first | exact ⟨rbt (in_t (by omega) (by omega) c_2 (Int32.not_lt.mp c_7)), rfl⟩ | exact ⟨rbf (in_f1 c_2), rfl⟩ | exact ⟨rbf (in_f2 (Int32.not_le.mpr c_7)), rfl⟩
    · refine sv_iconst (nI 1) dX5_isAmount_10 (by decide) ?_
      refine sv_goto 15 dX5_isAmount_11 (by decide) ?_
      refine sv_iret dX5_isAmount_15 rfl rfl (Nat.le_refl _) (Nat.le_refl _) ?_
      first | exact ⟨rbt (in_t (by omega) (by omega) c_2 (Int32.not_lt.mp c_7)), rfl⟩ | exact ⟨rbf (in_f1 c_2), rfl⟩ | exact ⟨rbf (in_f2 (Int32.not_le.mpr c_7)), rfl⟩
def ax_l (k : Nat) : Nat := if k = 1 then 0 else 1
def ax_g (k : Nat) : Nat := if k = 0 then 12 else if k = 1 then 5 else 3
theorem ax_l_at : ∀ n, n < 3 → ([1, 0, 1] : List Int32).getD n 0 = nI (ax_l n) := by decide
theorem ax_g_at : ∀ n, n < 3 → ([12, 5, 3] : List Int32).getD n 0 = nI (ax_g n) := by decide
theorem ax_isS {k : Nat} {v : Int32} (hk : k < 3) : gm_isS (nI k) v = decide (nI (ax_l k) ≤ v ∧ v ≤ nI (ax_g k)) := by
  rcases (show k = 0 ∨ k = 1 ∨ k = 2 by omega) with rfl | rfl | rfl <;> rfl
theorem k5_isSettingValue {k : Nat} {w : Int32} (hk : k < 3) : sm_F G mX5_isSettingValue 1 [.int (nI k), .int w] h (.inl (some (.int (nI (b2n (gm_isS (nI k) w)))))) h := by
  unfold sm_F sm_C
  show sm_V G _ _ _ 0 0 0 [(0, .int (nI k)), (1, .int w)] [] _
  refine sv_iload_n dX5_isSettingValue_0 rfl ?_
  refine sv_callS (As := [_]) sc_X5_145 (k5_isSetting) rfl rfl (Nat.le_of_ble_eq_true rfl) dX5_isSettingValue_1 ⟨by decide, by decide⟩ ⟨Nat.zero_le _, Nat.zero_le _⟩ (Nat.le_of_ble_eq_true rfl) ?_
  refine sv_top (nI 1) (by rw [gm_in_n (by omega) (by omega) (by omega), decide_eq_true ⟨by omega, by omega⟩]; rfl) ?_
  refine sv_ifN_eq 29 dX5_isSettingValue_4 (by decide) (by omega) (fun c_4 => absurd c_4 (by omega)) (fun c_4 => ?_)
  refine sv_iload_n dX5_isSettingValue_7 rfl ?_
  refine sv_gets 1 rfl dX5_isSettingValue_8 sg_X5_296 ?_
  refine sv_iload_n dX5_isSettingValue_11 rfl ?_
  refine sv_sald (v := nI (ax_l k)) 1 rfl dX5_isSettingValue_12 (vp_in_nI (by show k < 3; omega) (by decide)) (by rw [nI_clamp (by omega)]; exact ax_l_at k (by omega)) ?_
  refine sv_icmp_lt 29 dX5_isSettingValue_13 (by decide) (fun c_13 => ?_) (fun c_13 => ?_)
  · refine sv_iconst (nI 0) dX5_isSettingValue_29 (by decide) ?_
    refine sv_iret dX5_isSettingValue_30 rfl rfl (Nat.le_refl _) (Nat.le_refl _) ?_
    first | exact ⟨rbt ((ax_isS hk).trans (decide_eq_true ⟨Int32.not_lt.mp c_13, Int32.not_lt.mp c_22⟩)), rfl⟩ | exact ⟨rbf ((ax_isS hk).trans (decide_eq_false (fun z => absurd z.1 (Int32.not_le.mpr c_13)))), rfl⟩ | exact ⟨rbf ((ax_isS hk).trans (decide_eq_false (fun z => absurd z.2 (Int32.not_le.mpr c_22)))), rfl⟩
  · refine sv_iload_n dX5_isSettingValue_16 rfl ?_
    refine sv_gets 3 rfl dX5_isSettingValue_17 sg_X5_299 ?_
    refine sv_iload_n dX5_isSettingValue_20 rfl ?_
    refine sv_sald (v := nI (ax_g k)) 3 rfl dX5_isSettingValue_21 (vp_in_nI (by show k < 3; omega) (by decide)) (by rw [nI_clamp (by omega)]; exact ax_g_at k (by omega)) ?_
    refine sv_icmp_gt 29 dX5_isSettingValue_22 (by decide) (fun c_22 => ?_) (fun c_22 => ?_)
    · refine sv_iconst (nI 0) dX5_isSettingValue_29 (by decide) ?_
      refine sv_iret dX5_isSettingValue_30 rfl rfl (Nat.le_refl _) (Nat.le_refl _) ?_
      first | exact ⟨rbt ((ax_isS hk).trans (decide_eq_true ⟨Int32.not_lt.mp c_13, Int32.not_lt.mp c_22⟩)), rfl⟩ | exact ⟨rbf ((ax_isS hk).trans (decide_eq_false (fun z => absurd z.1 (Int32.not_le.mpr c_13)))), rfl⟩ | exact ⟨rbf ((ax_isS hk).trans (decide_eq_false (fun z => absurd z.2 (Int32.not_le.mpr c_22)))), rfl⟩
    · refine sv_iconst (nI 1) dX5_isSettingValue_25 (by decide) ?_
      refine sv_goto 30 dX5_isSettingValue_26 (by decide) ?_
      refine sv_iret dX5_isSettingValue_30 rfl rfl (Nat.le_refl _) (Nat.le_refl _) ?_
      first | exact ⟨rbt ((ax_isS hk).trans (decide_eq_true ⟨Int32.not_lt.mp c_13, Int32.not_lt.mp c_22⟩)), rfl⟩ | exact ⟨rbf ((ax_isS hk).trans (decide_eq_false (fun z => absurd z.1 (Int32.not_le.mpr c_13)))), rfl⟩ | exact ⟨rbf ((ax_isS hk).trans (decide_eq_false (fun z => absurd z.2 (Int32.not_le.mpr c_22)))), rfl⟩
theorem k5_isSettingValue0 {u w : Int32} (hu : gm_in (nI 0) u (nI 2) = false) : sm_F G mX5_isSettingValue 1 [.int u, .int w] h (.inl (some (.int (nI 0)))) h := by
  unfold sm_F sm_C
  show sm_V G _ _ _ 0 0 0 [(0, .int u), (1, .int w)] [] _
  refine sv_iload_n dX5_isSettingValue_0 rfl ?_
  refine sv_callS (As := [_]) sc_X5_145 (k5_isSetting) rfl rfl (Nat.le_of_ble_eq_true rfl) dX5_isSettingValue_1 ⟨by decide, by decide⟩ ⟨Nat.zero_le _, Nat.zero_le _⟩ (Nat.le_of_ble_eq_true rfl) ?_
  refine sv_top (nI 0) (by rw [hu]; rfl) ?_
  refine sv_ifN_eq 29 dX5_isSettingValue_4 (by decide) (by omega) (fun c_4 => ?_) (fun c_4 => absurd c_4 (by omega))
  refine sv_iconst (nI 0) dX5_isSettingValue_29 (by decide) ?_
  refine sv_iret dX5_isSettingValue_30 rfl rfl (Nat.le_refl _) (Nat.le_refl _) ?_
  exact ⟨rfl, rfl⟩
theorem ax_d10 {c : Int32} (h0 : c < 0) (h : gm_in (nI 0) (c / nI 10) (nI 2) = true) : gm_in (nI 1) (c - c / nI 10 * nI 10) (nI 3) = false := by
  have h1 := (of_decide_eq_true h).1
  have e : (c / nI 10).toInt = c.toInt.tdiv 10 := Jvm.Kit.i32_div (y := nI 10) (by rintro ⟨-, z⟩; exact absurd z (by decide))
  rw [Int32.lt_iff_toInt_lt, show (0 : Int32).toInt = 0 from rfl] at h0
  rw [Int32.le_iff_toInt_le, show (nI 0).toInt = 0 from rfl, e] at h1
  have e0 : c.toInt.tdiv 10 = 0 := by
    have h2 : 0 ≤ (-c.toInt).tdiv 10 := Int.tdiv_nonneg (by omega) (by omega)
    rw [Int.neg_tdiv] at h2
    omega
  have e1 : c / nI 10 = 0 := Int32.toInt_inj.mp (by rw [e, e0]; rfl)
  rw [e1]
  refine in_f1 ?_
  rw [show (0 : Int32) * nI 10 = 0 from rfl, Int32.sub_zero, Int32.lt_iff_toInt_lt, show (nI 1).toInt = 1 from rfl]
  omega
theorem ax_ch3 {c : Int32} : gm_chR 3 c = (gm_in (nI 0) (c / nI 10) (nI 2) && gm_in (nI 1) (c - c / nI 10 * nI 10) (nI 3)) := by
  have e3 : gm_chR 3 c = (decide (nI 1 ≤ c ∧ c ≤ nI 23) && decide (nI 1 ≤ c - c / nI 10 * nI 10 ∧ c - c / nI 10 * nI 10 ≤ nI 3)) := rfl
  by_cases h0 : c < 0
  · have z : decide (nI 1 ≤ c ∧ c ≤ nI 23) = false := decide_eq_false (fun z => by
      have := z.1
      rw [Int32.le_iff_toInt_le, show (nI 1).toInt = 1 from rfl] at this
      rw [Int32.lt_iff_toInt_lt, show (0 : Int32).toInt = 0 from rfl] at h0
      omega)
    rw [e3, z, Bool.false_and]
    cases hd : gm_in (nI 0) (c / nI 10) (nI 2) with
    | false => rfl
    | true => rw [ax_d10 h0 hd]; rfl
  · obtain ⟨k, hk, rfl⟩ : ∃ k, k < 2 ^ 31 ∧ c = nI k := by
      rw [Int32.lt_iff_toInt_lt, show (0 : Int32).toInt = 0 from rfl] at h0
      have := Int32.toInt_lt c
      refine ⟨c.toInt.toNat, by omega, Int32.toInt_inj.mp ?_⟩
      rw [nI_toInt (by omega)]; omega
    rw [gm_chR_n hk, pk_div hk (by omega) (by omega), show nI k - nI (k / 10) * nI 10 = nI (k % 10) by rw [pk_mul, pk_sub (by omega)]; congr 1; omega, gm_in_n (by omega) (by omega) (by omega), gm_in_n (by omega) (by omega) (by omega)]
    show decide (1 ≤ k ∧ k ≤ 23 ∧ 1 ≤ k % 10 ∧ k % 10 ≤ 3) = _
    rw [← Bool.decide_and]
    exact decide_eq_decide.mpr (by omega)
theorem ax_cho {q : Nat} {c : Int32} (h2 : q ≠ 2) (h3 : q ≠ 3) : gm_chR q c = decide (c = 0) := by unfold gm_chR; rw [if_neg h2, if_neg h3]
theorem ax_off : ∀ l : Nat, l < 6 → l ≠ 2 ∧ l ≠ 3 → Op.lookupswitch.offset [(2, 27), (3, 32)] 58 (nI l).toInt = 58 := by decide
theorem k5_isChoice {q : Nat} {w : Int32} (hq : q < 6) : sm_F G mX5_isChoice 1 [.int (nI q), .int w] h (.inl (some (.int (nI (b2n (gm_chR q w)))))) h := by
  unfold sm_F sm_C
  show sm_V G _ _ _ 0 0 0 [(0, .int (nI q)), (1, .int w)] [] _
  refine sv_iload_n dX5_isChoice_0 rfl ?_
  rcases (show q = 2 ∨ q = 3 ∨ (q ≠ 2 ∧ q ≠ 3) by omega) with rfl | rfl | ⟨e2, e3⟩
  · refine sv_lookup (off := 27) 28 dX5_isChoice_1 (by decide) (by decide) (by decide) ?_
    refine sv_iload_n dX5_isChoice_28 rfl ?_
    refine sv_callS (As := [_]) sc_X5_302 (k5_isAmount) rfl rfl (Nat.le_of_ble_eq_true rfl) dX5_isChoice_29 ⟨by decide, by decide⟩ ⟨Nat.zero_le _, Nat.zero_le _⟩ (Nat.le_of_ble_eq_true rfl) ?_
    refine sv_iret dX5_isChoice_32 rfl (nar_b (b2n_lt _)) (Nat.le_refl _) (Nat.le_refl _) ?_
    exact ⟨rfl, rfl⟩
  · refine sv_lookup (off := 32) 33 dX5_isChoice_1 (by decide) (by decide) (by decide) ?_
    refine sv_iload_n dX5_isChoice_33 rfl ?_
    refine sv_bipush (nI 10) dX5_isChoice_34 (by decide) ?_
    refine sv_idiv dX5_isChoice_36 (by decide) ?_
    refine sv_callS (As := [_]) sc_X5_216 (k5_isGood) rfl rfl (Nat.le_of_ble_eq_true rfl) dX5_isChoice_37 ⟨by decide, by decide⟩ ⟨Nat.zero_le _, Nat.zero_le _⟩ (Nat.le_of_ble_eq_true rfl) ?_
    refine sv_ifN_eq 57 dX5_isChoice_40 (by decide) (Nat.lt_trans (b2n_lt _) (by decide)) (fun c_40 => ?_) (fun c_40 => ?_)
    · refine sv_iconst (nI 0) dX5_isChoice_57 (by decide) ?_
      refine sv_iret dX5_isChoice_58 rfl rfl (Nat.le_refl _) (Nat.le_refl _) ?_
      first | exact ⟨rbt (by rw [ax_ch3, b2n_1 c_40, b2n_1 c_50]; rfl), rfl⟩ | exact ⟨rbf (by rw [ax_ch3, b2n_f c_40]; rfl), rfl⟩ | exact ⟨rbf (by rw [ax_ch3, b2n_f c_50, Bool.and_false]), rfl⟩
    · refine sv_iload_n dX5_isChoice_43 rfl ?_
      refine sv_bipush (nI 10) dX5_isChoice_44 (by decide) ?_
      refine sv_irem dX5_isChoice_46 (by decide) ?_
      refine sv_callS (As := [_]) sc_X5_302 (k5_isAmount) rfl rfl (Nat.le_of_ble_eq_true rfl) dX5_isChoice_47 ⟨by decide, by decide⟩ ⟨Nat.zero_le _, Nat.zero_le _⟩ (Nat.le_of_ble_eq_true rfl) ?_
      refine sv_ifN_eq 57 dX5_isChoice_50 (by decide) (Nat.lt_trans (b2n_lt _) (by decide)) (fun c_50 => ?_) (fun c_50 => ?_)
      · refine sv_iconst (nI 0) dX5_isChoice_57 (by decide) ?_
        refine sv_iret dX5_isChoice_58 rfl rfl (Nat.le_refl _) (Nat.le_refl _) ?_
        first | exact ⟨rbt (by rw [ax_ch3, b2n_1 c_40, b2n_1 c_50]; rfl), rfl⟩ | exact ⟨rbf (by rw [ax_ch3, b2n_f c_40]; rfl), rfl⟩ | exact ⟨rbf (by rw [ax_ch3, b2n_f c_50, Bool.and_false]), rfl⟩
      · refine sv_iconst (nI 1) dX5_isChoice_53 (by decide) ?_
        refine sv_goto 58 dX5_isChoice_54 (by decide) ?_
        refine sv_iret dX5_isChoice_58 rfl rfl (Nat.le_refl _) (Nat.le_refl _) ?_
        first | exact ⟨rbt (by rw [ax_ch3, b2n_1 c_40, b2n_1 c_50]; rfl), rfl⟩ | exact ⟨rbf (by rw [ax_ch3, b2n_f c_40]; rfl), rfl⟩ | exact ⟨rbf (by rw [ax_ch3, b2n_f c_50, Bool.and_false]), rfl⟩
  · refine sv_lookup (off := 58) 59 dX5_isChoice_1 (by decide) (ax_off q hq ⟨e2, e3⟩) (by decide) ?_
    refine sv_iload_n dX5_isChoice_59 rfl ?_
    refine sv_if_ne 67 dX5_isChoice_60 (by decide) (fun c_60 => ?_) (fun c_60 => ?_)
    · refine sv_iconst (nI 0) dX5_isChoice_67 (by decide) ?_
      refine sv_iret dX5_isChoice_68 rfl rfl (Nat.le_refl _) (Nat.le_refl _) ?_
      first | exact ⟨rbt ((ax_cho e2 e3).trans (decide_eq_true c_60)), rfl⟩ | exact ⟨rbf ((ax_cho e2 e3).trans (decide_eq_false c_60)), rfl⟩
    · refine sv_iconst (nI 1) dX5_isChoice_63 (by decide) ?_
      refine sv_goto 68 dX5_isChoice_64 (by decide) ?_
      refine sv_iret dX5_isChoice_68 rfl rfl (Nat.le_refl _) (Nat.le_refl _) ?_
      first | exact ⟨rbt ((ax_cho e2 e3).trans (decide_eq_true c_60)), rfl⟩ | exact ⟨rbf ((ax_cho e2 e3).trans (decide_eq_false c_60)), rfl⟩
/-- calls whose end hides the games' rubbish -/
theorem sv_callM {M : sm_M} {R9 : Room} {Z : sm_Z} {cells slots pc : Nat} {lv : List (Nat × Value)} {st rest : List Value} {h2 : sm_H} {V2 : mw_V} {t2 : mw_T} {y2 : MethodName} {cc2 : ByteArray} {nL2 : Nat} {ret2 : Option FieldType} {d2 idx b : Nat} {As : List Value} {vv : Option Value} {ci : Nat} {fs : List Value} {T : u_T} {N : Nat} (hs : sm_sV M.1.cls idx (y2, cc2, nL2, ret2, []) n) (hc : sm_C G (y2, cc2, nL2, ret2, []) d2 0 0 (.ref b :: As) h2 (mQ G h m (.inl vv) V2 t2)) (hst : st = As.reverse ++ .ref b :: rest) (hn : As.length = n) (hlen : (lg_sl (.ref b :: As)).length ≤ nL2) (hd : decode M.2.1 pc = .ok (.invokevirtual idx, 3)) (hRm : d2 + 1 ≤ R9.frames ∧ 8 + (nL2 + 11) + 30 * d2 ≤ R9.locals) (hcs : cells ≤ R9.cells ∧ slots ≤ R9.slots) (hcat : (rest.map fun v => v.category).sum ≤ 8)
    (hb : h2 b = some (.inr (ci, fs))) (hf : fs ≠ []) (hci : vwCl[ci]? = some (y2.cls, T, N)) (kk : ∀ R2, sm_V G M R9 Z cells slots (pc + 3) lv (vv.toList ++ rest) (mw G h m V2 R2 t2)) : sm_V G M R9 Z cells slots pc lv st h2 :=
  sv_invV hs hc hst hn hlen hd hRm hcs hcat hb hf hci (fun v1 h1 q => by obtain ⟨q1, R2, rfl⟩ := q; cases q1; exact kk R2) (fun E h1 q => by obtain ⟨q1, -⟩ := q; cases q1)
theorem mw_fg (h0 : h 0 = none) (hm : 0 < m) : sm_fg (mw G h m V R t) = mw G h m V R t := by
  funext b; unfold sm_fg; split
  · rename_i e; subst e; rw [mw_out (by omega), h0]
  · rfl
theorem tl_w {n2 : Nat} {B2 : Nat → Nat} {M2 : sm_M} {d : Nat} {As : List Value} {r : sm_O} (hc : sm_F G M2 d As (mw G h m V R t) r (cl_t G (mw G h m V R t) (m + 1) n2 B2)) : sm_F G M2 d As (mw G h m V R t) r (mw G h m V R (n2, B2, t.2.2)) := by
  rw [mw_wt] at hc; exact hc
theorem k5_append1 {c : Int32} (hc : gm_in (nI 0) c (nI 255) = false) (h0 : h 0 = none) (hm : 0 < m) : sm_C G mX5_append 6 1 6 [.ref m, .int c] (mw G h m V R t) (mQ G h m (.inr "java/lang/IllegalArgumentException") V t) := by
  unfold sm_C
  show sm_V G _ _ _ 0 0 0 [(0, .ref m), (1, .int c)] [] _
  refine sv_iload_n dX5_append_0 rfl ?_
  refine sv_if_lt 11 dX5_append_1 (by decide) (fun c_1 => ?_) (fun c_1 => ?_)
  · exact sv_throw 0 sx_iae rfl rfl rfl dX5_append_11 dX5_append_14 dX5_append_15 dX5_append_17 dX5_append_20 ⟨(Nat.le_of_ble_eq_true rfl), (Nat.le_of_ble_eq_true rfl)⟩ ⟨(Nat.le_of_ble_eq_true rfl), (Nat.le_of_ble_eq_true rfl)⟩ (Nat.le_of_ble_eq_true rfl) (Nat.le_of_ble_eq_true rfl) ⟨rfl, _, mw_fg h0 hm⟩
  · refine sv_iload_n dX5_append_4 rfl ?_
    refine sv_sipush (nI 255) dX5_append_5 (by decide) ?_
    refine sv_icmp_le 21 dX5_append_8 (by decide) (fun c_8 => absurd c_8 ((fun z => absurd (in_t (a := 0) (b := 255) (by omega) (by omega) c_1 z) (ne_t hc)) c_8)) (fun c_8 => ?_)
    exact sv_throw 0 sx_iae rfl rfl rfl dX5_append_11 dX5_append_14 dX5_append_15 dX5_append_17 dX5_append_20 ⟨(Nat.le_of_ble_eq_true rfl), (Nat.le_of_ble_eq_true rfl)⟩ ⟨(Nat.le_of_ble_eq_true rfl), (Nat.le_of_ble_eq_true rfl)⟩ (Nat.le_of_ble_eq_true rfl) (Nat.le_of_ble_eq_true rfl) ⟨rfl, _, mw_fg h0 hm⟩
theorem k5_append2 (hc : n < 256) (ht : t.1 = 120) (h0 : h 0 = none) (hm : 0 < m) : sm_C G mX5_append 6 1 6 [.ref m, .int (nI n)] (mw G h m V R t) (mQ G h m (.inr "java/lang/IllegalStateException") V t) := by
  unfold sm_C
  show sm_V G _ _ _ 0 0 0 [(0, .ref m), (1, .int (nI n))] [] _
  refine sv_iload_n dX5_append_0 rfl ?_
  refine sv_ifN_lt 11 dX5_append_1 (by decide) (by omega) (fun c_1 => absurd c_1 (fun q => q)) (fun c_1 => ?_)
  refine sv_iload_n dX5_append_4 rfl ?_
  refine sv_sipush (nI 255) dX5_append_5 (by decide) ?_
  refine sv_icmpN_le 21 dX5_append_8 (by decide) (by omega) (by omega) (fun c_8 => ?_) (fun c_8 => absurd c_8 (by omega))
  refine sv_aload_n dX5_append_21 rfl ?_
  refine km_g0 dX5_append_22 sf_X5_10 ?_
  refine sv_iload_n dX5_append_25 rfl ?_
  refine sv_i2c dX5_append_26 ?_
  refine sv_top (nI n) (i2c_ch n (by omega)) ?_
  refine sv_callV (As := [_]) sc_X5_48 (k4_add0 mw_t ht) rfl rfl (Nat.le_of_ble_eq_true rfl) dX5_append_27 ⟨by decide, by decide⟩ ⟨Nat.zero_le _, Nat.zero_le _⟩ (Nat.le_of_ble_eq_true rfl) mw_t.1 (List.cons_ne_nil _ _) rfl ?_
  refine sv_ifN_ne 43 dX5_append_30 (by decide) (by omega) (fun c_30 => absurd c_30 (by omega)) (fun c_30 => ?_)
  exact sv_throw 1 sx_ise rfl rfl rfl dX5_append_33 dX5_append_36 dX5_append_37 dX5_append_39 dX5_append_42 ⟨(Nat.le_of_ble_eq_true rfl), (Nat.le_of_ble_eq_true rfl)⟩ ⟨(Nat.le_of_ble_eq_true rfl), (Nat.le_of_ble_eq_true rfl)⟩ (Nat.le_of_ble_eq_true rfl) (Nat.le_of_ble_eq_true rfl) ⟨rfl, _, mw_fg h0 hm⟩
theorem k5_appendK (hc : n < 256) (ht : t.1 < 120) : sm_C G mX5_append 1 0 0 [.ref m, .int (nI n)] (mw G h m V R t) (mQ G h m (.inl (some (.int (nI (t.1 + 1))))) V (t.1 + 1, va_up t.2.1 t.1 n, t.2.2)) := by
  unfold sm_C
  show sm_V G _ _ _ 0 0 0 [(0, .ref m), (1, .int (nI n))] [] _
  refine sv_iload_n dX5_append_0 rfl ?_
  refine sv_ifN_lt 11 dX5_append_1 (by decide) (by omega) (fun c_1 => absurd c_1 (fun q => q)) (fun c_1 => ?_)
  refine sv_iload_n dX5_append_4 rfl ?_
  refine sv_sipush (nI 255) dX5_append_5 (by decide) ?_
  refine sv_icmpN_le 21 dX5_append_8 (by decide) (by omega) (by omega) (fun c_8 => ?_) (fun c_8 => absurd c_8 (by omega))
  refine sv_aload_n dX5_append_21 rfl ?_
  refine km_g0 dX5_append_22 sf_X5_10 ?_
  refine sv_iload_n dX5_append_25 rfl ?_
  refine sv_i2c dX5_append_26 ?_
  refine sv_top (nI n) (i2c_ch n (by omega)) ?_
  refine sv_callV (As := [_]) sc_X5_48 (tl_w (k4_addK mw_t ht hc)) rfl rfl (Nat.le_of_ble_eq_true rfl) dX5_append_27 ⟨by decide, by decide⟩ ⟨Nat.zero_le _, Nat.zero_le _⟩ (Nat.le_of_ble_eq_true rfl) mw_t.1 (List.cons_ne_nil _ _) rfl ?_
  refine sv_ifN_ne 43 dX5_append_30 (by decide) (by omega) (fun c_30 => ?_) (fun c_30 => absurd c_30 (by omega))
  refine sv_aload_n dX5_append_43 rfl ?_
  refine km_g0 dX5_append_44 sf_X5_10 ?_
  refine kt_g1 mw_t dX5_append_47 sf_X5_57 ?_
  refine sv_iret dX5_append_50 rfl rfl (Nat.le_refl _) (Nat.le_refl _) ?_
  exact mQi _ rfl rfl
theorem k5_clearText  : sm_C G mX5_clearText 0 0 0 [.ref m] (mw G h m V R t) (mQ G h m (.inl (some (.int (nI t.1)))) V (0, t.2.1, t.2.2)) := by
  unfold sm_C
  show sm_V G _ _ _ 0 0 0 [(0, .ref m)] [] _
  refine sv_aload_n dX5_clearText_0 rfl ?_
  refine km_g0 dX5_clearText_1 sf_X5_10 ?_
  refine kt_g1 mw_t dX5_clearText_4 sf_X5_57 ?_
  refine sv_istore_n (lv' := [(1, _), (0, _)]) dX5_clearText_7 (by decide) rfl ?_
  refine sv_aload_n dX5_clearText_8 rfl ?_
  refine km_g0 dX5_clearText_9 sf_X5_10 ?_
  refine sv_iconst (nI 0) dX5_clearText_12 (by decide) ?_
  refine sv_heap (tl_self mw_t) ?_
  refine kt_p1 dX5_clearText_13 sf_X5_57 ?_
  refine sv_heap mw_wt ?_
  refine sv_iload_n dX5_clearText_16 rfl ?_
  refine sv_iret dX5_clearText_17 rfl rfl (Nat.le_refl _) (Nat.le_refl _) ?_
  exact mQi _ rfl rfl
theorem k5_errorPosition {A : Nat → Int32} (hn : t.1 ≤ 120) (hB : ∀ i, i < t.1 → t.2.1 i < 256) : sm_C G mX5_errorPosition 4 0 0 [.ref m] (mw G h m V R t) (mQ G h m (.inl (some (.int (gm_rans (gm_read t.2.1 t.1 A))))) V t) := by
  unfold sm_C
  show sm_V G _ _ _ 0 0 0 [(0, .ref m)] [] _
  refine sv_aload_n dX5_errorPosition_0 rfl ?_
  refine km_g0 dX5_errorPosition_1 sf_X5_10 ?_
  refine sv_callV (As := []) sc_X5_61 (k4_findFault (M := A) mw_t hn hB) rfl rfl (Nat.le_of_ble_eq_true rfl) dX5_errorPosition_4 ⟨by decide, by decide⟩ ⟨Nat.zero_le _, Nat.zero_le _⟩ (Nat.le_of_ble_eq_true rfl) mw_t.1 (List.cons_ne_nil _ _) rfl ?_
  refine sv_iret dX5_errorPosition_7 rfl rfl (Nat.le_refl _) (Nat.le_refl _) ?_
  exact mQi _ rfl rfl
theorem k5_about1 {w : Int32} (hw : gm_in (nI 0) w (nI 11) = false) (h0 : h 0 = none) (hm : 0 < m) : sm_C G mX5_about 6 1 6 [.ref m, .int w] (mw G h m V R t) (mQ G h m (.inr "java/lang/IllegalArgumentException") V t) := by
  unfold sm_C
  show sm_V G _ _ _ 0 0 0 [(0, .ref m), (1, .int w)] [] _
  refine sv_iload_n dX5_about_0 rfl ?_
  refine sv_if_lt 10 dX5_about_1 (by decide) (fun c_1 => ?_) (fun c_1 => ?_)
  · exact sv_throw 3 sx_iae rfl rfl rfl dX5_about_10 dX5_about_13 dX5_about_14 dX5_about_16 dX5_about_19 ⟨(Nat.le_of_ble_eq_true rfl), (Nat.le_of_ble_eq_true rfl)⟩ ⟨(Nat.le_of_ble_eq_true rfl), (Nat.le_of_ble_eq_true rfl)⟩ (Nat.le_of_ble_eq_true rfl) (Nat.le_of_ble_eq_true rfl) ⟨rfl, _, mw_fg h0 hm⟩
  · refine sv_iload_n dX5_about_4 rfl ?_
    refine sv_bipush (nI 11) dX5_about_5 (by decide) ?_
    refine sv_icmp_le 20 dX5_about_7 (by decide) (fun c_7 => absurd c_7 ((fun z => absurd (in_t (a := 0) (b := 11) (by omega) (by omega) c_1 z) (ne_t hw)) c_7)) (fun c_7 => ?_)
    exact sv_throw 3 sx_iae rfl rfl rfl dX5_about_10 dX5_about_13 dX5_about_14 dX5_about_16 dX5_about_19 ⟨(Nat.le_of_ble_eq_true rfl), (Nat.le_of_ble_eq_true rfl)⟩ ⟨(Nat.le_of_ble_eq_true rfl), (Nat.le_of_ble_eq_true rfl)⟩ (Nat.le_of_ble_eq_true rfl) (Nat.le_of_ble_eq_true rfl) ⟨rfl, _, mw_fg h0 hm⟩
theorem k5_aboutK (hI : gm_I K (V 0).1) (hn : n ≤ 11) : sm_C G mX5_about 3 0 0 [.ref m, .int (nI n)] (mw G h m V R t) (mQ G h m (.inl (some (.int (gm_abo (V 0).1 n)))) V t) := by
  unfold sm_C
  show sm_V G _ _ _ 0 0 0 [(0, .ref m), (1, .int (nI n))] [] _
  refine sv_iload_n dX5_about_0 rfl ?_
  refine sv_ifN_lt 10 dX5_about_1 (by decide) (by omega) (fun c_1 => absurd c_1 (fun q => q)) (fun c_1 => ?_)
  refine sv_iload_n dX5_about_4 rfl ?_
  refine sv_bipush (nI 11) dX5_about_5 (by decide) ?_
  refine sv_icmpN_le 20 dX5_about_7 (by decide) (by omega) (by omega) (fun c_7 => ?_) (fun c_7 => absurd c_7 (by omega))
  refine sv_aload_n dX5_about_20 rfl ?_
  refine km_g1 dX5_about_21 sf_X5_19 ?_
  refine sv_iload_n dX5_about_24 rfl ?_
  refine sv_callV (As := [_]) sc_X5_110 (mf_r mw_gn (k0_number hI hn)) rfl rfl (Nat.le_of_ble_eq_true rfl) dX5_about_25 ⟨by decide, by decide⟩ ⟨Nat.zero_le _, Nat.zero_le _⟩ (Nat.le_of_ble_eq_true rfl) (hg_0 mw_gn) (List.cons_ne_nil _ _) rfl ?_
  refine sv_iret dX5_about_28 rfl rfl (Nat.le_refl _) (Nat.le_refl _) ?_
  exact mQi _ rfl rfl
theorem k5_player1 {p w : Int32} (hI : gm_I K (V 0).1) (hp : gm_isP (V 0).1 p = false) (h0 : h 0 = none) (hm : 0 < m) : sm_C G mX5_player 6 1 6 [.ref m, .int p, .int w] (mw G h m V R t) (mQ G h m (.inr "java/lang/IndexOutOfBoundsException") V t) := by
  unfold sm_C
  show sm_V G _ _ _ 0 0 0 [(0, .ref m), (1, .int p), (2, .int w)] [] _
  obtain ⟨d3, d6, d0, d1, d2, d4, dK⟩ := cg_d hI
  refine sv_aload_n dX5_player_0 rfl ?_
  refine km_g1 dX5_player_1 sf_X5_19 ?_
  refine sv_iload_n dX5_player_4 rfl ?_
  refine sv_callV (As := [_]) sc_X5_113 (mf_r mw_gn (k0_hasPlayer (by omega))) rfl rfl (Nat.le_of_ble_eq_true rfl) dX5_player_5 ⟨by decide, by decide⟩ ⟨Nat.zero_le _, Nat.zero_le _⟩ (Nat.le_of_ble_eq_true rfl) (hg_0 mw_gn) (List.cons_ne_nil _ _) rfl ?_
  refine sv_top (nI 0) (by rw [hp]; rfl) ?_
  refine sv_ifN_ne 21 dX5_player_8 (by decide) (by omega) (fun c_8 => absurd c_8 (by omega)) (fun c_8 => ?_)
  exact sv_throw 4 sx_ioo rfl rfl rfl dX5_player_11 dX5_player_14 dX5_player_15 dX5_player_17 dX5_player_20 ⟨(Nat.le_of_ble_eq_true rfl), (Nat.le_of_ble_eq_true rfl)⟩ ⟨(Nat.le_of_ble_eq_true rfl), (Nat.le_of_ble_eq_true rfl)⟩ (Nat.le_of_ble_eq_true rfl) (Nat.le_of_ble_eq_true rfl) ⟨rfl, _, mw_fg h0 hm⟩
theorem k5_player2 {p w : Int32} (hI : gm_I K (V 0).1) (hp : gm_isP (V 0).1 p = true) (hw : gm_in (nI 0) w (nI 8) = false) (h0 : h 0 = none) (hm : 0 < m) : sm_C G mX5_player 6 1 6 [.ref m, .int p, .int w] (mw G h m V R t) (mQ G h m (.inr "java/lang/IllegalArgumentException") V t) := by
  unfold sm_C
  show sm_V G _ _ _ 0 0 0 [(0, .ref m), (1, .int p), (2, .int w)] [] _
  obtain ⟨d3, d6, d0, d1, d2, d4, dK⟩ := cg_d hI
  refine sv_aload_n dX5_player_0 rfl ?_
  refine km_g1 dX5_player_1 sf_X5_19 ?_
  refine sv_iload_n dX5_player_4 rfl ?_
  refine sv_callV (As := [_]) sc_X5_113 (mf_r mw_gn (k0_hasPlayer (by omega))) rfl rfl (Nat.le_of_ble_eq_true rfl) dX5_player_5 ⟨by decide, by decide⟩ ⟨Nat.zero_le _, Nat.zero_le _⟩ (Nat.le_of_ble_eq_true rfl) (hg_0 mw_gn) (List.cons_ne_nil _ _) rfl ?_
  refine sv_top (nI 1) (by rw [hp]; rfl) ?_
  refine sv_ifN_ne 21 dX5_player_8 (by decide) (by omega) (fun c_8 => ?_) (fun c_8 => absurd c_8 (by omega))
  refine sv_iload_n dX5_player_21 rfl ?_
  refine sv_if_lt 31 dX5_player_22 (by decide) (fun c_22 => ?_) (fun c_22 => ?_)
  · exact sv_throw 5 sx_iae rfl rfl rfl dX5_player_31 dX5_player_34 dX5_player_35 dX5_player_37 dX5_player_40 ⟨(Nat.le_of_ble_eq_true rfl), (Nat.le_of_ble_eq_true rfl)⟩ ⟨(Nat.le_of_ble_eq_true rfl), (Nat.le_of_ble_eq_true rfl)⟩ (Nat.le_of_ble_eq_true rfl) (Nat.le_of_ble_eq_true rfl) ⟨rfl, _, mw_fg h0 hm⟩
  · refine sv_iload_n dX5_player_25 rfl ?_
    refine sv_bipush (nI 8) dX5_player_26 (by decide) ?_
    refine sv_icmp_le 41 dX5_player_28 (by decide) (fun c_28 => absurd c_28 ((fun z => absurd (in_t (a := 0) (b := 8) (by omega) (by omega) c_22 z) (ne_t hw)) c_28)) (fun c_28 => ?_)
    exact sv_throw 5 sx_iae rfl rfl rfl dX5_player_31 dX5_player_34 dX5_player_35 dX5_player_37 dX5_player_40 ⟨(Nat.le_of_ble_eq_true rfl), (Nat.le_of_ble_eq_true rfl)⟩ ⟨(Nat.le_of_ble_eq_true rfl), (Nat.le_of_ble_eq_true rfl)⟩ (Nat.le_of_ble_eq_true rfl) (Nat.le_of_ble_eq_true rfl) ⟨rfl, _, mw_fg h0 hm⟩
theorem ax_pla {S : gm_S} {p k : Nat} (h7 : S (13 + 8 * p + 7) ≤ 1) : cp_nr (cl_r S p) k = gm_pla S p k := by
  unfold cp_nr gm_pla
  by_cases e8 : k = 8
  · rw [if_pos e8, if_pos e8]; rfl
  rw [if_neg e8, if_neg e8]
  by_cases e7 : k = 7
  · rw [if_pos e7, e7]; exact b2n_ne (show S (13 + 8 * p + 7) < 2 by omega)
  · rw [if_neg e7]; rfl
theorem k5_playerK {p k : Nat} (hI : gm_I K (V 0).1) (hp : p < (V 0).1 3) (hk : k ≤ 8) : sm_C G mX5_player 2 0 0 [.ref m, .int (nI p), .int (nI k)] (mw G h m V R t) (mQ G h m (.inl (some (.int (nI (gm_pla (V 0).1 p k))))) V t) := by
  unfold sm_C
  show sm_V G _ _ _ 0 0 0 [(0, .ref m), (1, .int (nI p)), (2, .int (nI k))] [] _
  obtain ⟨d3, d6, d0, d1, d2, d4, dK⟩ := cg_d hI
  have h7 : (V 0).1 (13 + 8 * p + 7) ≤ 1 := by
    obtain ⟨⟨j0, j01, j1, j2, j21⟩, jK, jK2, jw, j3, j31, j4, j5, j51, j6, jp, j10, jh, jpl, jow⟩ := gm_IJ hI (by omega)
    exact (jpl p hp).2.2.2.2
  refine sv_aload_n dX5_player_0 rfl ?_
  refine km_g1 dX5_player_1 sf_X5_19 ?_
  refine sv_iload_n dX5_player_4 rfl ?_
  refine sv_callV (As := [_]) sc_X5_113 (mf_r mw_gn (k0_hasPlayer (by omega))) rfl rfl (Nat.le_of_ble_eq_true rfl) dX5_player_5 ⟨by decide, by decide⟩ ⟨Nat.zero_le _, Nat.zero_le _⟩ (Nat.le_of_ble_eq_true rfl) (hg_0 mw_gn) (List.cons_ne_nil _ _) rfl ?_
  refine sv_top (nI 1) (by rw [gm_isP_n (by omega) (by omega), decide_eq_true hp]; rfl) ?_
  refine sv_ifN_ne 21 dX5_player_8 (by decide) (by omega) (fun c_8 => ?_) (fun c_8 => absurd c_8 (by omega))
  refine sv_iload_n dX5_player_21 rfl ?_
  refine sv_ifN_lt 31 dX5_player_22 (by decide) (by omega) (fun c_22 => absurd c_22 (fun q => q)) (fun c_22 => ?_)
  refine sv_iload_n dX5_player_25 rfl ?_
  refine sv_bipush (nI 8) dX5_player_26 (by decide) ?_
  refine sv_icmpN_le 41 dX5_player_28 (by decide) (by omega) (by omega) (fun c_28 => ?_) (fun c_28 => absurd c_28 (by omega))
  refine sv_aload_n dX5_player_41 rfl ?_
  refine km_g1 dX5_player_42 sf_X5_19 ?_
  refine kg_g0 (hg_0 mw_gn) dX5_player_45 sf_X5_123 ?_
  refine sv_iload_n dX5_player_48 rfl ?_
  refine kg_ldp (hg_1 mw_gn) dX5_player_49 (by omega) ?_
  refine sv_iload_n dX5_player_50 rfl ?_
  refine sv_callV (As := [_]) sc_X5_126 (k3_number (hg_pl mw_gn (by omega)) hk) rfl rfl (Nat.le_of_ble_eq_true rfl) dX5_player_51 ⟨by decide, by decide⟩ ⟨Nat.zero_le _, Nat.zero_le _⟩ (Nat.le_of_ble_eq_true rfl) (hg_pl mw_gn (by omega)).1 (List.cons_ne_nil _ _) rfl ?_
  refine sv_iret dX5_player_54 rfl rfl (Nat.le_refl _) (Nat.le_refl _) ?_
  exact mQi _ (ri (ax_pla h7)) rfl
theorem k5_worker1 {q w : Int32} (hq : gm_in (nI 0) q (nI 5) = false) (h0 : h 0 = none) (hm : 0 < m) : sm_C G mX5_worker 6 1 6 [.ref m, .int q, .int w] (mw G h m V R t) (mQ G h m (.inr "java/lang/IndexOutOfBoundsException") V t) := by
  unfold sm_C
  show sm_V G _ _ _ 0 0 0 [(0, .ref m), (1, .int q), (2, .int w)] [] _
  refine sv_iload_n dX5_worker_0 rfl ?_
  refine sv_callS (As := [_]) sc_X5_129 (k5_isPlace) rfl rfl (Nat.le_of_ble_eq_true rfl) dX5_worker_1 ⟨by decide, by decide⟩ ⟨Nat.zero_le _, Nat.zero_le _⟩ (Nat.le_of_ble_eq_true rfl) ?_
  refine sv_top (nI 0) (by rw [hq]; rfl) ?_
  refine sv_ifN_ne 17 dX5_worker_4 (by decide) (by omega) (fun c_4 => absurd c_4 (by omega)) (fun c_4 => ?_)
  exact sv_throw 6 sx_ioo rfl rfl rfl dX5_worker_7 dX5_worker_10 dX5_worker_11 dX5_worker_13 dX5_worker_16 ⟨(Nat.le_of_ble_eq_true rfl), (Nat.le_of_ble_eq_true rfl)⟩ ⟨(Nat.le_of_ble_eq_true rfl), (Nat.le_of_ble_eq_true rfl)⟩ (Nat.le_of_ble_eq_true rfl) (Nat.le_of_ble_eq_true rfl) ⟨rfl, _, mw_fg h0 hm⟩
theorem k5_worker2 {q w : Int32} (hq : gm_in (nI 0) q (nI 5) = true) (hw : ¬ 0 ≤ w) (h0 : h 0 = none) (hm : 0 < m) : sm_C G mX5_worker 6 1 6 [.ref m, .int q, .int w] (mw G h m V R t) (mQ G h m (.inr "java/lang/IllegalArgumentException") V t) := by
  unfold sm_C
  show sm_V G _ _ _ 0 0 0 [(0, .ref m), (1, .int q), (2, .int w)] [] _
  refine sv_iload_n dX5_worker_0 rfl ?_
  refine sv_callS (As := [_]) sc_X5_129 (k5_isPlace) rfl rfl (Nat.le_of_ble_eq_true rfl) dX5_worker_1 ⟨by decide, by decide⟩ ⟨Nat.zero_le _, Nat.zero_le _⟩ (Nat.le_of_ble_eq_true rfl) ?_
  refine sv_top (nI 1) (by rw [hq]; rfl) ?_
  refine sv_ifN_ne 17 dX5_worker_4 (by decide) (by omega) (fun c_4 => ?_) (fun c_4 => absurd c_4 (by omega))
  refine sv_iload_n dX5_worker_17 rfl ?_
  refine sv_if_ge 31 dX5_worker_18 (by decide) (fun c_18 => absurd c_18 (hw)) (fun c_18 => ?_)
  exact sv_throw 7 sx_iae rfl rfl rfl dX5_worker_21 dX5_worker_24 dX5_worker_25 dX5_worker_27 dX5_worker_30 ⟨(Nat.le_of_ble_eq_true rfl), (Nat.le_of_ble_eq_true rfl)⟩ ⟨(Nat.le_of_ble_eq_true rfl), (Nat.le_of_ble_eq_true rfl)⟩ (Nat.le_of_ble_eq_true rfl) (Nat.le_of_ble_eq_true rfl) ⟨rfl, _, mw_fg h0 hm⟩
theorem k5_workerK {q k : Nat} (hI : gm_I K (V 0).1) (hq : q < 6) (hk : k < 2 ^ 31) : sm_C G mX5_worker 1 0 0 [.ref m, .int (nI q), .int (nI k)] (mw G h m V R t) (mQ G h m (.inl (some (.int (cq_at ((V 0).1 (45 + 4 * q)) (cl_o (V 0).1 q) k)))) V t) := by
  unfold sm_C
  show sm_V G _ _ _ 0 0 0 [(0, .ref m), (1, .int (nI q)), (2, .int (nI k))] [] _
  refine sv_iload_n dX5_worker_0 rfl ?_
  refine sv_callS (As := [_]) sc_X5_129 (k5_isPlace) rfl rfl (Nat.le_of_ble_eq_true rfl) dX5_worker_1 ⟨by decide, by decide⟩ ⟨Nat.zero_le _, Nat.zero_le _⟩ (Nat.le_of_ble_eq_true rfl) ?_
  refine sv_top (nI 1) (by rw [gm_in_n (by omega) (by omega) (by omega), decide_eq_true ⟨by omega, by omega⟩]; rfl) ?_
  refine sv_ifN_ne 17 dX5_worker_4 (by decide) (by omega) (fun c_4 => ?_) (fun c_4 => absurd c_4 (by omega))
  refine sv_iload_n dX5_worker_17 rfl ?_
  refine sv_ifN_ge 31 dX5_worker_18 (by decide) (by omega) (fun c_18 => ?_) (fun c_18 => absurd c_18 (fun z => z))
  refine sv_aload_n dX5_worker_31 rfl ?_
  refine km_g1 dX5_worker_32 sf_X5_19 ?_
  refine kg_g1 (hg_0 mw_gn) dX5_worker_35 sf_X5_136 ?_
  refine sv_iload_n dX5_worker_38 rfl ?_
  refine kg_ldq (hg_2 mw_gn) dX5_worker_39 (by omega) ?_
  refine sv_iload_n dX5_worker_40 rfl ?_
  refine sv_callV (As := [_]) sc_X5_140 (k2_ownerAt (hg_pq mw_gn hq) (hI.2.2.2.1 q hq) hk) rfl rfl (Nat.le_of_ble_eq_true rfl) dX5_worker_41 ⟨by decide, by decide⟩ ⟨Nat.zero_le _, Nat.zero_le _⟩ (Nat.le_of_ble_eq_true rfl) (hg_pq mw_gn hq).1 (List.cons_ne_nil _ _) rfl ?_
  refine sv_iret dX5_worker_44 rfl rfl (Nat.le_refl _) (Nat.le_refl _) ?_
  exact mQi _ rfl rfl
theorem k5_setting1 {w : Int32} (hw : gm_in (nI 0) w (nI 2) = false) (h0 : h 0 = none) (hm : 0 < m) : sm_C G mX5_setting 6 1 6 [.ref m, .int w] (mw G h m V R t) (mQ G h m (.inr "java/lang/IllegalArgumentException") V t) := by
  unfold sm_C
  show sm_V G _ _ _ 0 0 0 [(0, .ref m), (1, .int w)] [] _
  refine sv_iload_n dX5_setting_0 rfl ?_
  refine sv_callS (As := [_]) sc_X5_145 (k5_isSetting) rfl rfl (Nat.le_of_ble_eq_true rfl) dX5_setting_1 ⟨by decide, by decide⟩ ⟨Nat.zero_le _, Nat.zero_le _⟩ (Nat.le_of_ble_eq_true rfl) ?_
  refine sv_top (nI 0) (by rw [hw]; rfl) ?_
  refine sv_ifN_ne 17 dX5_setting_4 (by decide) (by omega) (fun c_4 => absurd c_4 (by omega)) (fun c_4 => ?_)
  exact sv_throw 8 sx_iae rfl rfl rfl dX5_setting_7 dX5_setting_10 dX5_setting_11 dX5_setting_13 dX5_setting_16 ⟨(Nat.le_of_ble_eq_true rfl), (Nat.le_of_ble_eq_true rfl)⟩ ⟨(Nat.le_of_ble_eq_true rfl), (Nat.le_of_ble_eq_true rfl)⟩ (Nat.le_of_ble_eq_true rfl) (Nat.le_of_ble_eq_true rfl) ⟨rfl, _, mw_fg h0 hm⟩
theorem k5_settingK (hn : n < 3) : sm_C G mX5_setting 1 0 0 [.ref m, .int (nI n)] (mw G h m V R t) (mQ G h m (.inl (some (.int (nI ((V 0).1 n))))) V t) := by
  unfold sm_C
  show sm_V G _ _ _ 0 0 0 [(0, .ref m), (1, .int (nI n))] [] _
  refine sv_iload_n dX5_setting_0 rfl ?_
  refine sv_callS (As := [_]) sc_X5_145 (k5_isSetting) rfl rfl (Nat.le_of_ble_eq_true rfl) dX5_setting_1 ⟨by decide, by decide⟩ ⟨Nat.zero_le _, Nat.zero_le _⟩ (Nat.le_of_ble_eq_true rfl) ?_
  refine sv_top (nI 1) (by rw [gm_in_n (by omega) (by omega) (by omega), decide_eq_true ⟨by omega, by omega⟩]; rfl) ?_
  refine sv_ifN_ne 17 dX5_setting_4 (by decide) (by omega) (fun c_4 => ?_) (fun c_4 => absurd c_4 (by omega))
  refine sv_aload_n dX5_setting_17 rfl ?_
  refine km_g1 dX5_setting_18 sf_X5_19 ?_
  refine kg_g3 (hg_0 mw_gn) dX5_setting_21 sf_X5_150 ?_
  refine sv_iload_n dX5_setting_24 rfl ?_
  refine kg_lds (hg_4 mw_gn) dX5_setting_25 (by omega) ?_
  refine sv_iret dX5_setting_26 rfl rfl (Nat.le_refl _) (Nat.le_refl _) ?_
  exact mQi _ rfl rfl
end CAP
