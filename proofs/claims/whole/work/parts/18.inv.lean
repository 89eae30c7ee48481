section SIV
variable {S T U : gm_S} {K q c : Nat} {x : Int64} {z : Bool}
/-- a game that is on, between a deed and the next one's turn -/
abbrev gm_M (K : Nat) (S : gm_S) : Prop := (1 ≤ S 0 ∧ S 0 ≤ 12 ∧ S 1 ≤ 5 ∧ 1 ≤ S 2 ∧ S 2 ≤ 3) ∧
  (∀ i, i ≠ 11 → i ≠ 12 → S i ≤ K) ∧
  K < 2 ^ 26 ∧
  (∀ q, q < 6 → S (45 + 4 * q) ≤ 3) ∧
  (2 ≤ S 3 ∧ S 3 ≤ 4 ∧ S 4 < S 3 ∧ 1 ≤ S 5 ∧ S 5 ≤ 6 ∧ S 6 < S 0 ∧ S 10 < S 3) ∧
  (∀ g, g < 3 → 1 ≤ S (7 + g) ∧ S (7 + g) ≤ 9) ∧
  (∀ p, p < S 3 → S (13 + 8 * p + 4) ≤ 32 ∧ 1 ≤ S (13 + 8 * p + 5) ∧ S (13 + 8 * p + 5) ≤ 5 ∧ S (13 + 8 * p + 6) ≤ S (13 + 8 * p + 5) ∧ S (13 + 8 * p + 7) ≤ 1) ∧
  (∀ q k, q < 6 → k < S (45 + 4 * q) → S (45 + 4 * q + 1 + k) < S 3)
theorem gm_M.s0 (h : gm_M K S) : (1 ≤ S 0 ∧ S 0 ≤ 12 ∧ S 1 ≤ 5 ∧ 1 ≤ S 2 ∧ S 2 ≤ 3) := h.1
theorem gm_M.k (h : gm_M K S) : (∀ i, i ≠ 11 → i ≠ 12 → S i ≤ K) := h.2.1
theorem gm_M.k2 (h : gm_M K S) : K < 2 ^ 26 := h.2.2.1
theorem gm_M.w (h : gm_M K S) : (∀ q, q < 6 → S (45 + 4 * q) ≤ 3) := h.2.2.2.1
theorem gm_M.n (h : gm_M K S) : (2 ≤ S 3 ∧ S 3 ≤ 4 ∧ S 4 < S 3 ∧ 1 ≤ S 5 ∧ S 5 ≤ 6 ∧ S 6 < S 0 ∧ S 10 < S 3) := h.2.2.2.2.1
theorem gm_M.pr (h : gm_M K S) : (∀ g, g < 3 → 1 ≤ S (7 + g) ∧ S (7 + g) ≤ 9) := h.2.2.2.2.2.1
theorem gm_M.pl (h : gm_M K S) : (∀ p, p < S 3 → S (13 + 8 * p + 4) ≤ 32 ∧ 1 ≤ S (13 + 8 * p + 5) ∧ S (13 + 8 * p + 5) ≤ 5 ∧ S (13 + 8 * p + 6) ≤ S (13 + 8 * p + 5) ∧ S (13 + 8 * p + 7) ≤ 1) := h.2.2.2.2.2.2.1
theorem gm_M.ow (h : gm_M K S) : (∀ q k, q < 6 → k < S (45 + 4 * q) → S (45 + 4 * q + 1 + k) < S 3) := h.2.2.2.2.2.2.2
theorem gm_IM (hI : gm_I K S) (hon : gm_on S = true) : gm_M K S := by
  obtain ⟨h3, h6⟩ := gm_on_i hon
  obtain ⟨⟨j0, j01, j1, j2, j21⟩, jK, jK2, jw, j3, j31, j4, j5, j51, j6, jp, j10, ⟨jh, jps⟩, jpl, jow⟩ := gm_IJ hI h3
  exact ⟨⟨j0, j01, j1, j2, j21⟩, jK, jK2, jw, ⟨j3, j31, j4, j5, j51, h6, j10⟩, jp, jpl, jow⟩
theorem gm_M_up {K' : Nat} (hM : gm_M K S) (h : K ≤ K') (h2 : K' < 2 ^ 26) : gm_M K' S := ⟨hM.s0, fun i a b => by have := hM.k i a b; omega, h2, hM.w, hM.n, hM.pr, hM.pl, hM.ow⟩
theorem gm_I_up {K' : Nat} (hI : gm_I K S) (h : K ≤ K') (h2 : K' < 2 ^ 26) : gm_I K' S := by
  obtain ⟨a, b, d, e⟩ := hI
  exact ⟨a, fun i x y => by have := b i x y; omega, h2, e⟩
/-- what changes only players, prices -/
theorem gm_M_of {K' : Nat} (hM : gm_M K T) (hlo : ∀ i, i < 7 → U i = T i) (h10 : U 10 = T 10) (hhi : ∀ i, 45 ≤ i → U i = T i) (hp : ∀ g, g < 3 → 1 ≤ U (7 + g) ∧ U (7 + g) ≤ 9) (hK : ∀ i, i ≠ 11 → i ≠ 12 → U i ≤ K') (hK2 : K' < 2 ^ 26)
    (hpl : ∀ p, p < T 3 → U (13 + 8 * p + 4) ≤ 32 ∧ 1 ≤ U (13 + 8 * p + 5) ∧ U (13 + 8 * p + 5) ≤ 5 ∧ U (13 + 8 * p + 6) ≤ U (13 + 8 * p + 5) ∧ U (13 + 8 * p + 7) ≤ 1) : gm_M K' U := by
  obtain ⟨a, b, d, e, f, g, hh, w⟩ := hM
  refine ⟨?_, hK, hK2, ?_, ?_, hp, ?_, ?_⟩
  · rw [hlo 0 (by omega), hlo 1 (by omega), hlo 2 (by omega)]; exact a
  · intro q hq; rw [hhi _ (by omega)]; exact e q hq
  · rw [hlo 0 (by omega), hlo 3 (by omega), hlo 4 (by omega), hlo 5 (by omega), hlo 6 (by omega), h10]; exact f
  · intro p h; rw [hlo 3 (by omega)] at h; exact hpl p h
  · intro q k hq hk; rw [hhi _ (by omega)] at hk ⊢; rw [hlo 3 (by omega)]; exact w q k hq hk
theorem gm_up_le {v K' : Nat} {S : gm_S} {k : Nat} (h : ∀ i, i ≠ 11 → i ≠ 12 → S i ≤ K') (hv : v ≤ K') : ∀ i, i ≠ 11 → i ≠ 12 → va_up S k v i ≤ K' := by
  intro i a b; unfold va_up; split
  · exact hv
  · exact h i a b
theorem gm_do_M (hM : gm_M K T) (hq : q < 6) (hc : c < 24) (hg : q = 3 → c / 10 < 3 ∧ 1 ≤ c % 10 ∧ c % 10 ≤ 3) (hw : gm_wk T q c (T (13 + 8 * T 4)) = true) (h2c : q = 2 → c ≤ 3) (hK : K + 30 < 2 ^ 26) (hK9 : 12 ≤ K) : gm_M (K + 30) (gm_do T q c) := by
  obtain ⟨n1, n2, n3, n4, n5, n6, n7⟩ := hM.n
  have kk : ∀ i, i ≠ 11 → i ≠ 12 → T i ≤ K + 30 := fun i a b => by have := hM.k i a b; omega
  unfold gm_wk at hw
  simp only [decide_eq_true_eq] at hw
  obtain ⟨w2, w3, w4, w5⟩ := hw
  have k0 := hM.k (13 + 8 * T 4) (by omega) (by omega)
  have k1 := hM.k (13 + 8 * T 4 + 1) (by omega) (by omega)
  have k2 := hM.k (13 + 8 * T 4 + 2) (by omega) (by omega)
  have k3 := hM.k (13 + 8 * T 4 + 3) (by omega) (by omega)
  have k4 := hM.k (13 + 8 * T 4 + 4) (by omega) (by omega)
  have k5 := hM.k (13 + 8 * T 4 + 5) (by omega) (by omega)
  have k6 := hM.k (13 + 8 * T 4 + 6) (by omega) (by omega)
  rcases (show q = 0 ∨ q = 1 ∨ q = 2 ∨ q = 3 ∨ q = 4 ∨ q = 5 by omega) with rfl | rfl | rfl | rfl | rfl | rfl
  · show gm_M (K + 30) (va_up T (13 + 8 * T 4 + 1) (T (13 + 8 * T 4 + 1) + T 5))
    refine gm_M_of hM (fun i hi => up_ne (by omega)) (up_ne (by omega)) (fun i hi => up_ne (by omega)) (fun g hg9 => by rw [up_ne (by omega)]; exact hM.pr g hg9) (gm_up_le kk (by omega)) hK (fun p hp => ?_)
    rw [up_ne (by omega), up_ne (by omega), up_ne (by omega), up_ne (by omega)]; exact hM.pl p hp
  · show gm_M (K + 30) (va_up T (13 + 8 * T 4 + 2) (T (13 + 8 * T 4 + 2) + (7 - T 5)))
    refine gm_M_of hM (fun i hi => up_ne (by omega)) (up_ne (by omega)) (fun i hi => up_ne (by omega)) (fun g hg9 => by rw [up_ne (by omega)]; exact hM.pr g hg9) (gm_up_le kk (by omega)) hK (fun p hp => ?_)
    rw [up_ne (by omega), up_ne (by omega), up_ne (by omega), up_ne (by omega)]; exact hM.pl p hp
  · show gm_M (K + 30) (va_up (va_up (va_up T (13 + 8 * T 4 + 2) (T (13 + 8 * T 4 + 2) - c)) (13 + 8 * T 4) (T (13 + 8 * T 4) - c)) (13 + 8 * T 4 + 3) (T (13 + 8 * T 4 + 3) + 2 * c))
    have := h2c rfl
    refine gm_M_of hM (fun i hi => by rw [up_ne (by omega), up_ne (by omega), up_ne (by omega)]) (by rw [up_ne (by omega), up_ne (by omega), up_ne (by omega)]) (fun i hi => by rw [up_ne (by omega), up_ne (by omega), up_ne (by omega)]) (fun g hg9 => by rw [up_ne (by omega), up_ne (by omega), up_ne (by omega)]; exact hM.pr g hg9) (gm_up_le (gm_up_le (gm_up_le kk (by omega)) (by omega)) (by omega)) hK (fun p hp => ?_)
    have e : ∀ w, 4 ≤ w → w < 8 → va_up (va_up (va_up T (13 + 8 * T 4 + 2) (T (13 + 8 * T 4 + 2) - c)) (13 + 8 * T 4) (T (13 + 8 * T 4) - c)) (13 + 8 * T 4 + 3) (T (13 + 8 * T 4 + 3) + 2 * c) (13 + 8 * p + w) = T (13 + 8 * p + w) := fun w h1 h2 => by rw [up_ne (by omega), up_ne (by omega), up_ne (by omega)]
    rw [e 4 (by omega) (by omega), e 5 (by omega) (by omega), e 6 (by omega) (by omega), e 7 (by omega) (by omega)]; exact hM.pl p hp
  · obtain ⟨x1, x2, x3⟩ := hg rfl
    have ed : gm_do T 3 c = gm_sst (va_up T (13 + 8 * T 4 + (1 + c / 10)) (T (13 + 8 * T 4 + (1 + c / 10)) - c % 10)) (T 4) (c / 10) (c % 10) := by
      unfold gm_do; rw [if_neg (by omega), if_neg (by omega), if_neg (by omega), if_pos rfl]
    rw [ed]
    have kg := hM.k (13 + 8 * T 4 + (1 + c / 10)) (by omega) (by omega)
    generalize c / 10 = g at *
    generalize c % 10 = n at *
    have kU : ∀ i, i ≠ 11 → i ≠ 12 → va_up T (13 + 8 * T 4 + (1 + g)) (T (13 + 8 * T 4 + (1 + g)) - n) i ≤ K := gm_up_le hM.k (by omega)
    obtain ⟨p1, p2⟩ := hM.pr g x1
    have e7 : va_up T (13 + 8 * T 4 + (1 + g)) (T (13 + 8 * T 4 + (1 + g)) - n) (7 + g) = T (7 + g) := up_ne (by omega)
    have sl : gm_sell (T (7 + g)) n ≤ 27 := by
      unfold gm_sell; (repeat' split) <;> omega
    have nn : ∀ i, i ≠ 13 + 8 * T 4 → i ≠ 7 + g → i ≠ 13 + 8 * T 4 + (1 + g) → gm_sst (va_up T (13 + 8 * T 4 + (1 + g)) (T (13 + 8 * T 4 + (1 + g)) - n)) (T 4) g n i = T i := fun i a1 a2 a3 => by
      unfold gm_sst; rw [if_neg a1, if_neg a2, up_ne a3]
    refine gm_M_of hM (fun i hi => nn i (by omega) (by omega) (by omega)) (nn 10 (by omega) (by omega) (by omega)) (fun i hi => nn i (by omega) (by omega) (by omega)) (fun g9 hg9 => ?_) (fun i a1 a2 => ?_) hK (fun p hp => ?_)
    · by_cases e : g9 = g
      · subst e
        unfold gm_sst; rw [if_neg (by omega), if_pos rfl, e7]; omega
      · rw [nn _ (by omega) (by omega) (by omega)]; exact hM.pr g9 hg9
    · have := kU i a1 a2
      unfold gm_sst; split
      · rw [e7]; omega
      · split <;> omega
    · have e : ∀ w, 4 ≤ w → w < 8 → gm_sst (va_up T (13 + 8 * T 4 + (1 + g)) (T (13 + 8 * T 4 + (1 + g)) - n)) (T 4) g n (13 + 8 * p + w) = T (13 + 8 * p + w) := fun w h1 h2 => nn _ (by omega) (by omega) (by omega)
      rw [e 4 (by omega) (by omega), e 5 (by omega) (by omega), e 6 (by omega) (by omega), e 7 (by omega) (by omega)]; exact hM.pl p hp
  · obtain ⟨v1, v2⟩ := w4 rfl
    show gm_M (K + 30) (va_up (va_up (va_up T (13 + 8 * T 4) (T (13 + 8 * T 4) - 5)) (13 + 8 * T 4 + 5) (T (13 + 8 * T 4 + 5) + 1)) (13 + 8 * T 4 + 6) (T (13 + 8 * T 4 + 6) + 1))
    refine gm_M_of hM (fun i hi => by rw [up_ne (by omega), up_ne (by omega), up_ne (by omega)]) (by rw [up_ne (by omega), up_ne (by omega), up_ne (by omega)]) (fun i hi => by rw [up_ne (by omega), up_ne (by omega), up_ne (by omega)]) (fun g hg9 => by rw [up_ne (by omega), up_ne (by omega), up_ne (by omega)]; exact hM.pr g hg9) (gm_up_le (gm_up_le (gm_up_le kk (by omega)) (by omega)) (by omega)) hK (fun p hp => ?_)
    have hpl := hM.pl p hp
    by_cases e : p = T 4
    · subst e
      rw [up_eq, up_ne (by omega), up_ne (by omega), up_ne (by omega), up_ne (by omega), up_eq, up_ne (by omega), up_ne (by omega), up_ne (by omega)]
      omega
    · have e : ∀ w, 4 ≤ w → w < 8 → va_up (va_up (va_up T (13 + 8 * T 4) (T (13 + 8 * T 4) - 5)) (13 + 8 * T 4 + 5) (T (13 + 8 * T 4 + 5) + 1)) (13 + 8 * T 4 + 6) (T (13 + 8 * T 4 + 6) + 1) (13 + 8 * p + w) = T (13 + 8 * p + w) := fun w h1 h2 => by rw [up_ne (by omega), up_ne (by omega), up_ne (by omega)]
      rw [e 4 (by omega) (by omega), e 5 (by omega) (by omega), e 6 (by omega) (by omega), e 7 (by omega) (by omega)]; exact hpl
  · obtain ⟨v1, v2⟩ := w5 rfl
    show gm_M (K + 30) (va_up (va_up T (13 + 8 * T 4) (T (13 + 8 * T 4) - 2)) (13 + 8 * T 4 + 4) (T (13 + 8 * T 4 + 4) + 3))
    refine gm_M_of hM (fun i hi => by rw [up_ne (by omega), up_ne (by omega)]) (by rw [up_ne (by omega), up_ne (by omega)]) (fun i hi => by rw [up_ne (by omega), up_ne (by omega)]) (fun g hg9 => by rw [up_ne (by omega), up_ne (by omega)]; exact hM.pr g hg9) (gm_up_le (gm_up_le kk (by omega)) (by omega)) hK (fun p hp => ?_)
    have hpl := hM.pl p hp
    by_cases e : p = T 4
    · subst e
      rw [up_eq, up_ne (by omega), up_ne (by omega), up_ne (by omega), up_ne (by omega), up_ne (by omega), up_ne (by omega)]
      omega
    · have e : ∀ w, 4 ≤ w → w < 8 → va_up (va_up T (13 + 8 * T 4) (T (13 + 8 * T 4) - 2)) (13 + 8 * T 4 + 4) (T (13 + 8 * T 4 + 4) + 3) (13 + 8 * p + w) = T (13 + 8 * p + w) := fun w h1 h2 => by rw [up_ne (by omega), up_ne (by omega)]
      rw [e 4 (by omega) (by omega), e 5 (by omega) (by omega), e 6 (by omega) (by omega), e 7 (by omega) (by omega)]; exact hpl
theorem gm_add_M (hM : gm_M K T) (hq : q < 6) (h2 : T (45 + 4 * q) ≤ 2) (hK9 : 12 ≤ K) : gm_M K (gm_add T q) := by
  obtain ⟨n1, n2, n3, n4, n5, n6, n7⟩ := hM.n
  have lo : ∀ i, i < 19 → gm_add T q i = T i := fun i hi => by unfold gm_add; rw [up_ne (by omega), up_ne (by omega), up_ne (by omega)]
  have pl : ∀ p w, p < 4 → w < 8 → w ≠ 6 → gm_add T q (13 + 8 * p + w) = T (13 + 8 * p + w) := fun p w h1 h2 h3 => by unfold gm_add; rw [up_ne (by omega), up_ne (by omega), up_ne (by omega)]
  refine ⟨?_, ?_, hM.k2, ?_, ?_, ?_, ?_, ?_⟩
  · rw [lo 0 (by omega), lo 1 (by omega), lo 2 (by omega)]; exact hM.s0
  · have k6 := hM.k (13 + 8 * T 4 + 6) (by omega) (by omega)
    exact gm_up_le (gm_up_le (gm_up_le hM.k (by omega)) (by omega)) (by omega)
  · intro q9 hq9
    unfold gm_add
    rw [up_ne (by omega)]
    by_cases e : q9 = q
    · subst e; rw [up_eq]; omega
    · rw [up_ne (by omega), up_ne (by omega)]; exact hM.w q9 hq9
  · rw [lo 0 (by omega), lo 3 (by omega), lo 4 (by omega), lo 5 (by omega), lo 6 (by omega), lo 10 (by omega)]; exact hM.n
  · intro g hg; rw [lo _ (by omega)]; exact hM.pr g hg
  · intro p hp
    rw [lo 3 (by omega)] at hp
    have hpl := hM.pl p hp
    rw [pl p 4 (by omega) (by omega) (by omega), pl p 5 (by omega) (by omega) (by omega), pl p 7 (by omega) (by omega) (by omega)]
    have e6 : gm_add T q (13 + 8 * p + 6) ≤ T (13 + 8 * p + 6) := by
      unfold gm_add
      by_cases e : p = T 4
      · subst e; rw [up_eq]; omega
      · rw [up_ne (by omega), up_ne (by omega), up_ne (by omega)]; omega
    omega
  · intro q9 k hq9 hk
    rw [lo 3 (by omega)]
    unfold gm_add at hk ⊢
    rw [up_ne (by omega)] at hk ⊢
    by_cases e : q9 = q
    · subst e
      rw [up_eq] at hk
      rw [up_ne (by omega)]
      by_cases e2 : k = T (45 + 4 * q9)
      · subst e2; rw [up_eq]; omega
      · rw [up_ne (by omega)]; exact hM.ow q9 k hq9 (by omega)
    · have w9 := hM.w q9 hq9
      rw [up_ne (by omega), up_ne (by omega)] at hk
      rw [up_ne (by omega), up_ne (by omega)]; exact hM.ow q9 k hq9 hk
theorem gm_bd_M (hI : gm_I K S) (hq : q < 6) (hcan : gm_can S q c = true) (hK : K + 5 < 2 ^ 26) : gm_M (K + 5) (gm_bd S q) := by
  have hM := gm_IM hI (gm_can_on hcan)
  have hJ := gm_IJ hI (gm_on_i (gm_can_on hcan)).1
  obtain ⟨n1, n2, n3, n4, n5, n6, n7⟩ := hM.n
  cases hf : gm_full S q with
  | false => rw [gm_bd_n hf]; exact gm_M_up hM (by omega) hK
  | true =>
    obtain ⟨f1, f2, f3, f4, f5⟩ := gm_bd_x hJ hq hcan
    obtain ⟨hb, hcn⟩ := gm_can_fE hcan hf
    obtain ⟨hk, hne⟩ := gm_bk_lt hb
    rw [gm_bd_f hf] at *
    generalize gm_bk S q = k at *
    have bw := hM.w q hq
    have ho := hM.ow q k hq hk
    refine ⟨?_, ?_, hK, ?_, ?_, ?_, ?_, ?_⟩
    · rw [f3 0 (by omega), f3 1 (by omega), f3 2 (by omega)]; exact hM.s0
    · have k1 := hM.k (13 + 8 * S 4) (by omega) (by omega)
      have k2 := hM.k (13 + 8 * S (45 + 4 * q + 1 + k)) (by omega) (by omega)
      have k3 := hM.s0
      intro i a b
      unfold gm_bump va_up
      split
      · omega
      split
      · omega
      split
      · omega
      unfold gm_sh
      split
      · have := hM.k (i + 1) (by omega) (by omega); omega
      · have := hM.k i a b; omega
    · intro q9 hq9
      by_cases e : q9 = q
      · subst e; omega
      · rw [gm_bump_at hk (by omega) (by omega) (by omega) (by omega)]; exact hM.w q9 hq9
    · rw [f3 0 (by omega), f3 3 (by omega), f3 4 (by omega), f3 5 (by omega), f3 6 (by omega), f3 10 (by omega)]; exact hM.n
    · intro g hg; rw [f3 _ (by omega)]; exact hM.pr g hg
    · intro p hp
      rw [f3 3 (by omega)] at hp
      rw [f4 p 4 (by omega) (by omega) (by omega), f4 p 5 (by omega) (by omega) (by omega), f4 p 6 (by omega) (by omega) (by omega), f4 p 7 (by omega) (by omega) (by omega)]
      exact hM.pl p hp
    · intro q9 k9 hq9 hk9
      rw [f3 3 (by omega)]
      by_cases e : q9 = q
      · subst e
        rw [gm_bump_w (by omega) (by omega)] at hk9
        unfold gm_bump
        rw [up_ne (by omega), up_ne (by omega), up_ne (by omega), up_ne (by omega)]
        unfold gm_sh
        split
        · have := hM.ow q9 (k9 + 1) hq9 (by omega)
          rw [show 45 + 4 * q9 + 1 + k9 + 1 = 45 + 4 * q9 + 1 + (k9 + 1) by omega]; exact this
        · exact hM.ow q9 k9 hq9 (by omega)
      · have w9 := hM.w q9 hq9
        rw [gm_bump_at hk (by omega) (by omega) (by omega) (by omega)] at hk9
        rw [gm_bump_at hk (by omega) (by omega) (by omega) (by omega)]
        exact hM.ow q9 k9 hq9 hk9
theorem gm_pl_M (hI : gm_I K S) (hq : q < 6) (hc : c < 24) (hch : gm_ch q c = true) (hcan : gm_can S q c = true) (hK : K + 40 < 2 ^ 26) (hK9 : 12 ≤ K) : gm_M (K + 40) (gm_pl S q c) := by
  have hJ := gm_IJ hI (gm_on_i (gm_can_on hcan)).1
  have hw := gm_S2_w hJ hq hc hcan
  have hb := (gm_bd_x hJ hq hcan).1
  have hB := gm_bd_M hI hq hcan (by omega)
  have hA := gm_add_M hB hq hb (by omega)
  unfold gm_pl
  exact gm_M_up (gm_do_M hA hq hc (gm_chg hc hch) hw (fun e => by subst e; unfold gm_ch at hch; simp at hch; omega) (by omega) (by omega)) (by omega) hK
/-! whose turn it is next -/
theorem gm_fnd_ok (S : gm_S) (h3 : 0 < S 3) : ∀ f k, gm_fnd S f k = 4 ∨ (gm_fnd S f k < S 3 ∧ gm_rdy S (gm_fnd S f k) = true) := by
  intro f
  induction f with
  | zero => intro k; exact .inl rfl
  | succ f ih =>
    intro k
    unfold gm_fnd
    split
    · rename_i e; exact .inr ⟨Nat.mod_lt _ h3, e⟩
    · exact ih (k + 1)
theorem gm_I_of (hM : gm_M K S) (h6 : S 6 ≤ 12) (hr : gm_rdy S (S 4) = true) : gm_I K S :=
  ⟨hM.s0, hM.k, hM.k2, hM.w, .inr ⟨hM.n.1, hM.n.2.1, hM.n.2.2.1, hM.n.2.2.2.1, hM.n.2.2.2.2.1, h6, hM.pr, hM.n.2.2.2.2.2.2, hr, hM.pl, hM.ow⟩⟩
theorem gm_turn_I {n : Nat} (hM : gm_M K S) (hn : n < S 3) (hr : gm_rdy S n = true) (h4 : n ≤ K) : gm_I K (va_up S 4 n) := by
  obtain ⟨n1, n2, n3, n4, n5, n6, n7⟩ := hM.n
  have e : ∀ i, i ≠ 4 → va_up S 4 n i = S i := fun i h => up_ne h
  refine gm_I_of ⟨?_, gm_up_le hM.k h4, hM.k2, ?_, ?_, ?_, ?_, ?_⟩ ?_ ?_
  · rw [e 0 (by omega), e 1 (by omega), e 2 (by omega)]; exact hM.s0
  · intro q hq; rw [e _ (by omega)]; exact hM.w q hq
  · rw [e 0 (by omega), e 3 (by omega), e 5 (by omega), e 6 (by omega), e 10 (by omega), up_eq]; exact ⟨n1, n2, hn, n4, n5, n6, n7⟩
  · intro g hg; rw [e _ (by omega)]; exact hM.pr g hg
  · intro p hp
    rw [e 3 (by omega)] at hp
    rw [e _ (by omega), e _ (by omega), e _ (by omega), e _ (by omega)]; exact hM.pl p hp
  · intro q k hq hk
    rw [e _ (by omega)] at hk
    rw [e _ (by omega), e 3 (by omega)]; exact hM.ow q k hq hk
  · have := hM.s0; rw [e 6 (by omega)]; omega
  · rw [up_eq]; unfold gm_rdy at hr ⊢; rw [e _ (by omega), e _ (by omega)]; exact hr
theorem gm_endsN_p (S : gm_S) : ∀ n p, p < 4 → gm_endsN S n (13 + 8 * p + 4) = S (13 + 8 * p + 4) ∧ gm_endsN S n (13 + 8 * p + 5) = S (13 + 8 * p + 5) ∧ gm_endsN S n (13 + 8 * p + 6) = (if p < n then S (13 + 8 * p + 5) else S (13 + 8 * p + 6)) ∧ gm_endsN S n (13 + 8 * p + 7) = (if p < n then 0 else S (13 + 8 * p + 7)) := by
  intro n
  induction n with
  | zero => intro p hp; exact ⟨rfl, rfl, by rw [if_neg (by omega)]; rfl, by rw [if_neg (by omega)]; rfl⟩
  | succ n ih =>
    intro p hp
    obtain ⟨a1, a2, a3, a4⟩ := ih p hp
    show gm_ends (gm_endsN S n) n _ = _ ∧ gm_ends (gm_endsN S n) n _ = _ ∧ gm_ends (gm_endsN S n) n _ = _ ∧ gm_ends (gm_endsN S n) n _ = _
    unfold gm_ends
    by_cases e : p = n
    · subst e
      refine ⟨?_, ?_, ?_, ?_⟩
      · repeat rw [if_neg (by omega)]
        exact a1
      · repeat rw [if_neg (by omega)]
        exact a2
      · rw [if_neg (by omega), if_neg (by omega), if_neg (by omega), if_neg (by omega), if_pos rfl, if_pos (by omega)]; exact a2
      · rw [if_neg (by omega), if_neg (by omega), if_neg (by omega), if_neg (by omega), if_neg (by omega), if_pos rfl, if_pos (by omega)]
    · refine ⟨?_, ?_, ?_, ?_⟩
      · rw [if_neg (by omega), if_neg (by omega), if_neg (by omega), if_neg (by omega), if_neg (by omega), if_neg (by omega)]; exact a1
      · rw [if_neg (by omega), if_neg (by omega), if_neg (by omega), if_neg (by omega), if_neg (by omega), if_neg (by omega)]; exact a2
      · rw [if_neg (by omega), if_neg (by omega), if_neg (by omega), if_neg (by omega), if_neg (by omega), if_neg (by omega), a3]
        by_cases e2 : p < n
        · rw [if_pos e2, if_pos (by omega)]
        · rw [if_neg e2, if_neg (by omega)]
      · rw [if_neg (by omega), if_neg (by omega), if_neg (by omega), if_neg (by omega), if_neg (by omega), if_neg (by omega), a4]
        by_cases e2 : p < n
        · rw [if_pos e2, if_pos (by omega)]
        · rw [if_neg e2, if_neg (by omega)]
theorem gm_die_le (x : Int64) : 1 ≤ gm_die x ∧ gm_die x ≤ 6 := by unfold gm_die; omega
theorem gm_end_at (S : gm_S) (x : Int64) {i : Nat} (h : i < 4 ∨ (11 ≤ i ∧ i < 45) ∨ 69 ≤ i) : gm_end z S x i = gm_endsN S (S 3) i := by
  unfold gm_end
  rw [if_neg (by omega), if_neg (by omega), if_neg (by omega), if_neg (by omega), if_neg (by omega), if_neg (by omega)]
theorem gm_end_I (hM : gm_M K S) (hK9 : 12 ≤ K) : gm_I K (gm_end z S x) := by
  obtain ⟨n1, n2, n3, n4, n5, n6, n7⟩ := hM.n
  obtain ⟨d1, d2⟩ := gm_die_le (gm_nx x)
  have s0 := hM.s0
  have lo : ∀ i, i < 4 → gm_end z S x i = S i := fun i hi => by rw [gm_end_at S x (by omega)]; exact gm_endsN_lo S (by omega) _
  have e4 : gm_end z S x 4 = (S 10 + 1) % S 3 := rfl
  have e5 : gm_end z S x 5 = gm_die (gm_nx x) := rfl
  have e6 : gm_end z S x 6 = S 6 + 1 := by show gm_endsN S (S 3) 6 + 1 = _; rw [gm_endsN_lo S (by omega)]
  have e10 : gm_end z S x 10 = (S 10 + 1) % S 3 := rfl
  have m : (S 10 + 1) % S 3 < S 3 := Nat.mod_lt _ (by omega)
  have epr : ∀ g, g < 3 → gm_end z S x (7 + g) = if S (7 + g) < 9 then S (7 + g) + 1 else S (7 + g) := fun g hg => by
    unfold gm_end
    rw [if_neg (by omega), if_neg (by omega), if_neg (by omega), if_pos (by omega), gm_endsN_lo S (by omega)]
  have ew : ∀ q, q < 6 → gm_end z S x (45 + 4 * q) = 0 := fun q hq => by
    unfold gm_end
    rw [if_neg (by omega), if_neg (by omega), if_neg (by omega), if_neg (by omega), if_neg (by omega), if_pos ⟨by omega, by omega, fun _ => by omega⟩]
  have epl : ∀ p w, p < 4 → w < 8 → gm_end z S x (13 + 8 * p + w) = gm_endsN S (S 3) (13 + 8 * p + w) := fun p w h1 h2 => gm_end_at S x (by omega)
  have eN := gm_endsN_p S (S 3)
  refine ⟨?_, ?_, hM.k2, ?_, .inr ⟨?_, ?_, ?_, ?_, ?_, ?_, ?_, ?_, ?_, ?_, ?_⟩⟩
  · rw [lo 0 (by omega), lo 1 (by omega), lo 2 (by omega)]; exact hM.s0
  · intro i a b
    have kN := gm_endsN_K hM.k (S 3)
    unfold gm_end
    split
    · omega
    split
    · omega
    split
    · rename_i e; subst e; rw [gm_endsN_lo S (by omega)]; omega
    split
    · have := kN i a b
      split <;> omega
    split
    · omega
    split
    · omega
    · exact kN i a b
  · intro q hq; rw [ew q hq]; omega
  · rw [lo 3 (by omega)]; exact n1
  · rw [lo 3 (by omega)]; exact n2
  · rw [lo 3 (by omega), e4]; exact m
  · rw [e5]; exact d1
  · rw [e5]; exact d2
  · rw [e6]; omega
  · intro g hg; have := hM.pr g hg; rw [epr g hg]; split <;> omega
  · rw [lo 3 (by omega), e10]; exact m
  · rw [e4]
    unfold gm_rdy
    obtain ⟨a1, a2, a3, a4⟩ := eN ((S 10 + 1) % S 3) (by omega)
    rw [epl _ 6 (by omega) (by omega), epl _ 7 (by omega) (by omega), a3, a4, if_pos m, if_pos m]
    exact decide_eq_true ⟨by have := hM.pl _ m; omega, rfl⟩
  · intro p hp
    rw [lo 3 (by omega)] at hp
    obtain ⟨a1, a2, a3, a4⟩ := eN p (by omega)
    rw [epl _ 4 (by omega) (by omega), epl _ 5 (by omega) (by omega), epl _ 6 (by omega) (by omega), epl _ 7 (by omega) (by omega), a1, a2, a3, a4, if_pos hp, if_pos hp]
    have := hM.pl p hp
    omega
  · intro q k hq hk; rw [ew q hq] at hk; omega
theorem gm_go_I (hM : gm_M K S) (hK9 : 12 ≤ K) : gm_I K (gm_go z S x).1 := by
  unfold gm_go
  split
  · exact gm_end_I hM hK9
  · rename_i e
    rcases gm_fnd_ok S (by have := hM.n; omega) (S 3) 1 with h | ⟨h1, h2⟩
    · exact absurd h e
    · exact gm_turn_I hM h1 h2 (by have := hM.n; have : gm_nxt S < S 3 := h1; omega)
theorem gm_pass_M (hM : gm_M K S) (hK9 : 12 ≤ K) : gm_M K (va_up S (13 + 8 * S 4 + 7) 1) := by
  obtain ⟨n1, n2, n3, n4, n5, n6, n7⟩ := hM.n
  refine gm_M_of hM (fun i hi => up_ne (by omega)) (up_ne (by omega)) (fun i hi => up_ne (by omega)) (fun g hg9 => by rw [up_ne (by omega)]; exact hM.pr g hg9) (gm_up_le hM.k (by omega)) hM.k2 (fun p hp => ?_)
  have hpl := hM.pl p hp
  by_cases e : p = S 4
  · subst e; rw [up_ne (by omega), up_ne (by omega), up_ne (by omega), up_eq]; omega
  · rw [up_ne (by omega), up_ne (by omega), up_ne (by omega), up_ne (by omega)]; exact hpl
theorem gm_pass_I (hI : gm_I K S) (hon : gm_on S = true) (hK9 : 12 ≤ K) : gm_I K (gm_pass z S x).1 := gm_go_I (gm_pass_M (gm_IM hI hon) hK9) hK9
theorem gm_put_I (hI : gm_I K S) (hq : q < 6) (hc : c < 24) (hch : gm_ch q c = true) (hcan : gm_can S q c = true) (hK : K + 40 < 2 ^ 26) (hK9 : 12 ≤ K) : gm_I (K + 40) (gm_put z S x q c).1 := gm_go_I (gm_pl_M hI hq hc hch hcan hK hK9) (by omega)
/-- the best is a choice that can be placed, if it brings more than nothing -/
theorem gm_bst_ok (S : gm_S) : (gm_bst S).1 = 0 ∨ ((gm_bst S).2.1 < 6 ∧ (gm_bst S).2.2 < 24 ∧ gm_ch (gm_bst S).2.1 (gm_bst S).2.2 = true ∧ gm_can S (gm_bst S).2.1 (gm_bst S).2.2 = true ∧ (gm_bst S).1 = gm_brg S (gm_bst S).2.1 (gm_bst S).2.2) := by
  have key : ∀ (l : List (Nat × Nat)) (a : Nat × Nat × Nat), (∀ w, w ∈ l → w.1 < 6 ∧ w.2 < 24 ∧ gm_ch w.1 w.2 = true) → (a.1 = 0 ∨ (a.2.1 < 6 ∧ a.2.2 < 24 ∧ gm_ch a.2.1 a.2.2 = true ∧ gm_can S a.2.1 a.2.2 = true ∧ a.1 = gm_brg S a.2.1 a.2.2)) →
      ((l.foldl (gm_bs S) a).1 = 0 ∨ ((l.foldl (gm_bs S) a).2.1 < 6 ∧ (l.foldl (gm_bs S) a).2.2 < 24 ∧ gm_ch (l.foldl (gm_bs S) a).2.1 (l.foldl (gm_bs S) a).2.2 = true ∧ gm_can S (l.foldl (gm_bs S) a).2.1 (l.foldl (gm_bs S) a).2.2 = true ∧ (l.foldl (gm_bs S) a).1 = gm_brg S (l.foldl (gm_bs S) a).2.1 (l.foldl (gm_bs S) a).2.2)) := by
    intro l
    induction l with
    | nil => intro a _ h; exact h
    | cons w l ih =>
      intro a hl ha
      rw [List.foldl_cons]
      refine ih _ (fun w9 h9 => hl w9 (List.mem_cons_of_mem _ h9)) ?_
      obtain ⟨l1, l2, l3⟩ := hl w (List.mem_cons_self ..)
      unfold gm_bs
      split
      · rename_i e; exact .inr ⟨l1, l2, l3, e.1, rfl⟩
      · exact ha
  exact key gm_all _ (by decide) (.inl rfl)
theorem gm_play_I (hI : gm_I K S) (hon : gm_on S = true) (hK : K + 40 < 2 ^ 26) (hK9 : 12 ≤ K) : gm_I (K + 40) (gm_play z S x).1 := by
  unfold gm_play
  split
  · rename_i e
    rcases gm_bst_ok S with h | ⟨h1, h2, h3, h4, h5⟩
    · omega
    · exact gm_put_I hI h1 h2 h3 h4 hK hK9
  · exact gm_I_up (gm_pass_I hI hon hK9) (by omega) hK
end SIV
