section SMU
variable {S T U : gm_S} {K q c : Nat} {x : Int64} {z : Bool}
/-- what a player may still do in a round -/
def gm_mp (S : gm_S) (p : Nat) : Nat := (1 - S (13 + 8 * p + 7)) + S (13 + 8 * p + 6) + 2 * (5 - S (13 + 8 * p + 5))
def gm_ms (S : gm_S) : Nat → Nat
  | 0 => 0
  | n + 1 => gm_ms S n + gm_mp S n
/-- how many turns there may still be -/
def gm_mu (S : gm_S) : Nat := 100 * (S 0 - S 6) + gm_ms S (S 3)
theorem gm_ms_eq (h : ∀ p, p < 4 → gm_mp S p = gm_mp T p) : ∀ n, n ≤ 4 → gm_ms S n = gm_ms T n := by
  intro n
  induction n with
  | zero => intro _; rfl
  | succ n ih => intro hn; show gm_ms S n + gm_mp S n = gm_ms T n + gm_mp T n; rw [ih (by omega), h n (by omega)]
theorem gm_ms_lt {p : Nat} (h : ∀ k, k ≠ p → k < 4 → gm_mp S k = gm_mp T k) (hp : gm_mp S p + 1 ≤ gm_mp T p) : ∀ n, n ≤ 4 → (n ≤ p → gm_ms S n = gm_ms T n) ∧ (p < n → gm_ms S n + 1 ≤ gm_ms T n) := by
  intro n
  induction n with
  | zero => intro _; exact ⟨fun _ => rfl, fun z => by omega⟩
  | succ n ih =>
    intro hn
    obtain ⟨a, b⟩ := ih (by omega)
    constructor
    · intro hle; show gm_ms S n + gm_mp S n = gm_ms T n + gm_mp T n; rw [a (by omega), h n (by omega) (by omega)]
    · intro hlt
      show gm_ms S n + gm_mp S n + 1 ≤ gm_ms T n + gm_mp T n
      by_cases e : n = p
      · subst e; rw [a (by omega)]; omega
      · have := b (by omega); rw [h n e (by omega)]; omega
theorem gm_ms_le (h : ∀ p, p < S 3 → gm_mp S p ≤ 14) : ∀ n, n ≤ S 3 → gm_ms S n ≤ 14 * n := by
  intro n
  induction n with
  | zero => intro _; exact Nat.le_refl _
  | succ n ih => intro hn; have := ih (by omega); have := h n (by omega); show gm_ms S n + gm_mp S n ≤ 14 * (n + 1); omega
theorem gm_mp_le (h : gm_M K S) {p : Nat} (hp : p < S 3) : gm_mp S p ≤ 14 := by have := h.pl p hp; unfold gm_mp; omega
theorem gm_mu_le (h : gm_M K S) : gm_mu S ≤ 1256 := by
  have := gm_ms_le (fun p hp => gm_mp_le h hp) (S 3) (Nat.le_refl _)
  have := h.n; have := h.s0; unfold gm_mu; omega
theorem gm_mu_turn (k : Nat) : gm_mu (va_up S 4 k) = gm_mu S := by
  have e : ∀ i, i ≠ 4 → va_up S 4 k i = S i := fun i h => up_ne h
  unfold gm_mu
  rw [e 0 (by omega), e 6 (by omega), e 3 (by omega)]
  have key : ∀ n, gm_ms (va_up S 4 k) n = gm_ms S n := by
    intro n
    induction n with
    | zero => rfl
    | succ n ih => show gm_ms (va_up S 4 k) n + gm_mp (va_up S 4 k) n = _; rw [ih]; unfold gm_mp; rw [e _ (by omega), e _ (by omega), e _ (by omega)]; rfl
  rw [key]
theorem gm_mu_end (hM : gm_M K S) (hK9 : 12 ≤ K) : gm_mu (gm_end z S x) + 44 ≤ gm_mu S := by
  obtain ⟨n1, n2, n3, n4, n5, n6, n7⟩ := hM.n
  have lo : ∀ i, i < 4 → gm_end z S x i = S i := fun i hi => by rw [gm_end_at S x (by omega)]; exact gm_endsN_lo S (by omega) _
  have e6 : gm_end z S x 6 = S 6 + 1 := by show gm_endsN S (S 3) 6 + 1 = _; rw [gm_endsN_lo S (by omega)]
  have e3 := lo 3 (by omega)
  have hI := gm_end_I (z := z) (x := x) hM hK9
  have b : ∀ p, p < gm_end z S x 3 → gm_mp (gm_end z S x) p ≤ 14 := by
    intro p hp
    rw [e3] at hp
    obtain ⟨a1, a2, a3, a4⟩ := gm_endsN_p S (S 3) p (by omega)
    have := hM.pl p hp
    unfold gm_mp
    rw [gm_end_at S x (by omega), gm_end_at S x (by omega), gm_end_at S x (by omega), a2, a3, a4, if_pos hp, if_pos hp]
    omega
  have := gm_ms_le b (S 3) (by omega)
  unfold gm_mu
  rw [lo 0 (by omega), e6, e3]
  omega
theorem gm_mu_go (hM : gm_M K S) (hK9 : 12 ≤ K) : gm_mu (gm_go z S x).1 ≤ gm_mu S := by
  unfold gm_go
  split
  · have := gm_mu_end (z := z) (x := x) hM hK9; simp only; omega
  · simp only; rw [gm_mu_turn]; exact Nat.le_refl _
theorem gm_mu_pass (hI : gm_I K S) (hon : gm_on S = true) (hK9 : 12 ≤ K) : gm_mu (gm_pass z S x).1 + 1 ≤ gm_mu S := by
  have hM := gm_IM hI hon
  have hJ := gm_IJ hI (gm_on_i hon).1
  obtain ⟨n1, n2, n3, n4, n5, n6, n7⟩ := hM.n
  have hr : S (13 + 8 * S 4 + 7) = 0 := hJ.2.2.2.2.2.2.2.2.2.2.2.2.1.2
  have g := gm_mu_go (z := z) (x := x) (gm_pass_M hM hK9) hK9
  have e : gm_mu (va_up S (13 + 8 * S 4 + 7) 1) + 1 ≤ gm_mu S := by
    have k := (gm_ms_lt (S := va_up S (13 + 8 * S 4 + 7) 1) (T := S) (p := S 4) (fun k h1 h2 => by unfold gm_mp; rw [up_ne (by omega), up_ne (by omega), up_ne (by omega)]) (by unfold gm_mp; rw [up_eq, up_ne (by omega), up_ne (by omega), hr]; omega) (S 3) (by omega)).2 (by omega)
    unfold gm_mu
    rw [up_ne (by omega), up_ne (by omega), up_ne (by omega)]
    omega
  unfold gm_pass
  omega
/-- what a placing does to what a player may still do -/
theorem gm_do_mp (hM : gm_M K T) (hq : q < 6) (hc : c < 24) (hg : q = 3 → c / 10 < 3 ∧ 1 ≤ c % 10 ∧ c % 10 ≤ 3) (hw : gm_wk T q c (T (13 + 8 * T 4)) = true) : (∀ p, p < 4 → gm_mp (gm_do T q c) p ≤ gm_mp T p) ∧ (∀ p, p ≠ T 4 → p < 4 → gm_mp (gm_do T q c) p = gm_mp T p) ∧ (∀ i, i < 7 → gm_do T q c i = T i) := by
  obtain ⟨n1, n2, n3, n4, n5, n6, n7⟩ := hM.n
  unfold gm_wk at hw
  simp only [decide_eq_true_eq] at hw
  obtain ⟨w2, w3, w4, w5⟩ := hw
  rcases (show q = 0 ∨ q = 1 ∨ q = 2 ∨ q = 3 ∨ q = 4 ∨ q = 5 by omega) with rfl | rfl | rfl | rfl | rfl | rfl
  · have e : ∀ i, i ≠ 13 + 8 * T 4 + 1 → gm_do T 0 c i = T i := fun i h => up_ne h
    have m : ∀ p, p < 4 → gm_mp (gm_do T 0 c) p = gm_mp T p := fun p hp => by unfold gm_mp; rw [e _ (by omega), e _ (by omega), e _ (by omega)]
    exact ⟨fun p hp => Nat.le_of_eq (m p hp), fun p _ hp => m p hp, fun i hi => e i (by omega)⟩
  · have e : ∀ i, i ≠ 13 + 8 * T 4 + 2 → gm_do T 1 c i = T i := fun i h => up_ne h
    have m : ∀ p, p < 4 → gm_mp (gm_do T 1 c) p = gm_mp T p := fun p hp => by unfold gm_mp; rw [e _ (by omega), e _ (by omega), e _ (by omega)]
    exact ⟨fun p hp => Nat.le_of_eq (m p hp), fun p _ hp => m p hp, fun i hi => e i (by omega)⟩
  · have e : ∀ i, i ≠ 13 + 8 * T 4 + 2 → i ≠ 13 + 8 * T 4 → i ≠ 13 + 8 * T 4 + 3 → gm_do T 2 c i = T i := fun i h1 h2 h3 => (up_ne h3).trans ((up_ne h2).trans (up_ne h1))
    have m : ∀ p, p < 4 → gm_mp (gm_do T 2 c) p = gm_mp T p := fun p hp => by unfold gm_mp; rw [e _ (by omega) (by omega) (by omega), e _ (by omega) (by omega) (by omega), e _ (by omega) (by omega) (by omega)]
    exact ⟨fun p hp => Nat.le_of_eq (m p hp), fun p _ hp => m p hp, fun i hi => e i (by omega) (by omega) (by omega)⟩
  · obtain ⟨x1, x2, x3⟩ := hg rfl
    have e : ∀ i, i ≠ 13 + 8 * T 4 → i ≠ 7 + c / 10 → i ≠ 13 + 8 * T 4 + (1 + c / 10) → gm_do T 3 c i = T i := fun i a1 a2 a3 => by
      unfold gm_do; rw [if_neg (by omega), if_neg (by omega), if_neg (by omega), if_pos rfl]
      unfold gm_sst; rw [if_neg a1, if_neg a2, up_ne a3]
    have m : ∀ p, p < 4 → gm_mp (gm_do T 3 c) p = gm_mp T p := fun p hp => by unfold gm_mp; rw [e _ (by omega) (by omega) (by omega), e _ (by omega) (by omega) (by omega), e _ (by omega) (by omega) (by omega)]
    exact ⟨fun p hp => Nat.le_of_eq (m p hp), fun p _ hp => m p hp, fun i hi => e i (by omega) (by omega) (by omega)⟩
  · obtain ⟨v1, v2⟩ := w4 rfl
    have ed : gm_do T 4 c = va_up (va_up (va_up T (13 + 8 * T 4) (T (13 + 8 * T 4) - 5)) (13 + 8 * T 4 + 5) (T (13 + 8 * T 4 + 5) + 1)) (13 + 8 * T 4 + 6) (T (13 + 8 * T 4 + 6) + 1) := rfl
    have e : ∀ i, i ≠ 13 + 8 * T 4 → i ≠ 13 + 8 * T 4 + 5 → i ≠ 13 + 8 * T 4 + 6 → gm_do T 4 c i = T i := fun i h1 h2 h3 => (up_ne h3).trans ((up_ne h2).trans (up_ne h1))
    have m : ∀ p, p ≠ T 4 → p < 4 → gm_mp (gm_do T 4 c) p = gm_mp T p := fun p h hp => by unfold gm_mp; rw [e _ (by omega) (by omega) (by omega), e _ (by omega) (by omega) (by omega), e _ (by omega) (by omega) (by omega)]
    refine ⟨fun p hp => ?_, m, fun i hi => e i (by omega) (by omega) (by omega)⟩
    by_cases h : p = T 4
    · rw [h]
      unfold gm_mp
      rw [e (13 + 8 * T 4 + 7) (by omega) (by omega) (by omega), ed, up_eq, up_ne (by omega), up_eq]
      omega
    · exact Nat.le_of_eq (m p h hp)
  · have e : ∀ i, i ≠ 13 + 8 * T 4 → i ≠ 13 + 8 * T 4 + 4 → gm_do T 5 c i = T i := fun i h1 h2 => (up_ne h2).trans (up_ne h1)
    have m : ∀ p, p < 4 → gm_mp (gm_do T 5 c) p = gm_mp T p := fun p hp => by unfold gm_mp; rw [e _ (by omega) (by omega), e _ (by omega) (by omega), e _ (by omega) (by omega)]
    exact ⟨fun p hp => Nat.le_of_eq (m p hp), fun p _ hp => m p hp, fun i hi => e i (by omega) (by omega)⟩
theorem gm_mu_put (hI : gm_I K S) (hq : q < 6) (hc : c < 24) (hch : gm_ch q c = true) (hcan : gm_can S q c = true) (hK : K + 40 < 2 ^ 26) (hK9 : 12 ≤ K) : gm_mu (gm_put z S x q c).1 + 1 ≤ gm_mu S := by
  have hon := gm_can_on hcan
  have hM := gm_IM hI hon
  have hJ := gm_IJ hI (gm_on_i hon).1
  obtain ⟨n1, n2, n3, n4, n5, n6, n7⟩ := hM.n
  have hr : 0 < S (13 + 8 * S 4 + 6) := hJ.2.2.2.2.2.2.2.2.2.2.2.2.1.1
  have hw := gm_S2_w hJ hq hc hcan
  have hb := (gm_bd_x hJ hq hcan)
  have hB := gm_bd_M hI hq hcan (by omega)
  have hA := gm_add_M hB hq hb.1 (by omega)
  obtain ⟨g1, g2, g3⟩ := gm_S2_x hJ hq hcan
  obtain ⟨d1, d2, d3⟩ := gm_do_mp hA hq hc (gm_chg hc hch) hw
  have g4 := g1 4 (by omega)
  have hM2 := gm_pl_M hI hq hc hch hcan hK hK9
  have g := gm_mu_go (z := z) (x := x) hM2 (by omega)
  have e6 : gm_add (gm_bd S q) q (13 + 8 * S 4 + 6) = S (13 + 8 * S 4 + 6) - 1 := by
    unfold gm_add; rw [hb.2.1, up_eq, hb.2.2.2.1 (S 4) 6 (by omega) (by omega) (by omega)]
  have e6o : ∀ p, p ≠ S 4 → p < 4 → gm_add (gm_bd S q) q (13 + 8 * p + 6) = S (13 + 8 * p + 6) := fun p h hp => by
    unfold gm_add; rw [hb.2.1, up_ne (by omega), up_ne (by omega), up_ne (by omega), hb.2.2.2.1 p 6 hp (by omega) (by omega)]
  have mo : ∀ p, p ≠ S 4 → p < 4 → gm_mp (gm_add (gm_bd S q) q) p = gm_mp S p := fun p h hp => by
    unfold gm_mp; rw [e6o p h hp, g2 p 5 hp (by omega) (by omega) (by omega), g2 p 7 hp (by omega) (by omega) (by omega)]
  have ml : gm_mp (gm_add (gm_bd S q) q) (S 4) + 1 ≤ gm_mp S (S 4) := by
    unfold gm_mp; rw [e6, g2 (S 4) 5 (by omega) (by omega) (by omega) (by omega), g2 (S 4) 7 (by omega) (by omega) (by omega) (by omega)]; omega
  have k := (gm_ms_lt (S := gm_pl S q c) (T := S) (p := S 4) (fun p h1 h2 => (d2 p (by omega) h2).trans (mo p h1 h2)) (by have := d1 (S 4) (by omega); unfold gm_pl; omega) (S 3) (by omega)).2 (by omega)
  have e : gm_mu (gm_pl S q c) + 1 ≤ gm_mu S := by
    have h0 : gm_pl S q c 0 = S 0 := (d3 0 (by omega)).trans (g1 0 (by omega))
    have h6 : gm_pl S q c 6 = S 6 := (d3 6 (by omega)).trans (g1 6 (by omega))
    have h3 : gm_pl S q c 3 = S 3 := (d3 3 (by omega)).trans (g1 3 (by omega))
    unfold gm_mu
    rw [h0, h6, h3]
    omega
  unfold gm_put
  omega
theorem gm_mu_play (hI : gm_I K S) (hon : gm_on S = true) (hK : K + 40 < 2 ^ 26) (hK9 : 12 ≤ K) : gm_mu (gm_play z S x).1 + 1 ≤ gm_mu S := by
  unfold gm_play
  split
  · rename_i e
    rcases gm_bst_ok S with h | ⟨h1, h2, h3, h4, h5⟩
    · omega
    · exact gm_mu_put hI h1 h2 h3 h4 hK hK9
  · exact gm_mu_pass hI hon hK9
end SMU
