section CRL
variable {S T : gm_S} {K q c p i v : Nat} {x : Int64} {z : Bool}
/-! THE TWO SIDES' GAMES: alike but for the owners of workers who are gone and for players beyond the number -/
def gm_L (S T : gm_S) : Prop := (∀ i, i < 13 → S i = T i) ∧ (∀ p w, p < S 3 → w < 8 → S (13 + 8 * p + w) = T (13 + 8 * p + w)) ∧ (∀ q, q < 6 → S (45 + 4 * q) = T (45 + 4 * q)) ∧ (∀ q k, q < 6 → k < 3 → k < S (45 + 4 * q) → S (45 + 4 * q + 1 + k) = T (45 + 4 * q + 1 + k))
theorem gm_L.lo (h : gm_L S T) (i : Nat) (hi : i < 13) : T i = S i := (h.1 i hi).symm
theorem gm_L.pl (h : gm_L S T) (p w : Nat) (hp : p < S 3) (hw : w < 8) : T (13 + 8 * p + w) = S (13 + 8 * p + w) := (h.2.1 p w hp hw).symm
theorem gm_L.p0 (h : gm_L S T) (p : Nat) (hp : p < S 3) : T (13 + 8 * p) = S (13 + 8 * p) := h.pl p 0 hp (by decide)
theorem gm_L.ct (h : gm_L S T) (q : Nat) (hq : q < 6) : T (45 + 4 * q) = S (45 + 4 * q) := (h.2.2.1 q hq).symm
theorem gm_L.ow (h : gm_L S T) (q k : Nat) (hq : q < 6) (hk : k < 3) (hc : k < S (45 + 4 * q)) : T (45 + 4 * q + 1 + k) = S (45 + 4 * q + 1 + k) := (h.2.2.2 q k hq hk hc).symm
theorem gm_L_r (S : gm_S) : gm_L S S := ⟨fun _ _ => rfl, fun _ _ _ _ => rfl, fun _ _ => rfl, fun _ _ _ _ _ => rfl⟩
theorem gm_L_on (h : gm_L S T) : gm_on T = gm_on S := by unfold gm_on; rw [h.lo 3 (by decide), h.lo 6 (by decide), h.lo 0 (by decide)]
theorem gm_L_full (h : gm_L S T) (hq : q < 6) : gm_full T q = gm_full S q := by unfold gm_full; rw [h.lo 2 (by decide), h.ct q hq]
theorem gm_L_bk (h : gm_L S T) (hq : q < 6) : gm_bk T q = gm_bk S q := by
  have e : ∀ k, k < 3 → ((k < T (45 + 4 * q) ∧ T (45 + 4 * q + 1 + k) ≠ T 4) ↔ (k < S (45 + 4 * q) ∧ S (45 + 4 * q + 1 + k) ≠ S 4)) := fun k hk => by
    rw [h.ct q hq, h.lo 4 (by decide)]
    exact ⟨fun a => ⟨a.1, by rw [← h.ow q k hq hk a.1]; exact a.2⟩, fun a => ⟨a.1, by rw [h.ow q k hq hk a.1]; exact a.2⟩⟩
  unfold gm_bk
  exact ite_congr (propext (e 0 (by decide))) (fun _ => rfl) (fun _ => ite_congr (propext (e 1 (by decide))) (fun _ => rfl) (fun _ => ite_congr (propext (e 2 (by decide))) (fun _ => rfl) (fun _ => rfl)))
theorem gm_L_tot (h : gm_L S T) (hp : p < S 3) : gm_tot T p = gm_tot S p := by
  unfold gm_tot; rw [h.p0 p hp, h.pl p 1 hp (by decide), h.pl p 2 hp (by decide), h.pl p 3 hp (by decide), h.pl p 5 hp (by decide)]
theorem gm_L_wk (h : gm_L S T) (h4 : S 4 < S 3) (hg : q = 3 → c / 10 < 3 ∧ 1 ≤ c % 10 ∧ c % 10 ≤ 3) (n : Nat) : gm_wk T q c n = gm_wk S q c n := by
  unfold gm_wk
  rw [h.lo 4 (by decide)]
  refine decide_eq_decide.mpr (and_congr ?_ (and_congr (imp_congr_right fun e => ?_) (and_congr ?_ ?_)))
  · rw [h.pl _ 2 h4 (by decide)]
  · rw [h.pl _ (1 + c / 10) h4 (by have := hg e; omega)]
  · rw [h.pl _ 5 h4 (by decide)]
  · rw [h.pl _ 4 h4 (by decide)]
theorem gm_L_toll (h : gm_L S T) (hq : q < 6) : gm_toll T q = gm_toll S q := by unfold gm_toll; rw [gm_L_full h hq, h.lo 1 (by decide)]
theorem gm_L_can (h : gm_L S T) (hI : gm_I K S) (hq : q < 6) (hg : q = 3 → c / 10 < 3 ∧ 1 ≤ c % 10 ∧ c % 10 ≤ 3) : gm_can T q c = gm_can S q c := by
  cases hon : gm_on S with
  | false => rw [gm_can_off hon, gm_can_off (by rw [gm_L_on h]; exact hon)]
  | true =>
    have h4 := (gm_IM hI hon).n.2.2.1
    unfold gm_can
    rw [gm_L_on h, gm_L_full h hq, gm_L_bk h hq, gm_L_toll h hq, h.lo 4 (by decide), h.p0 _ h4, gm_L_wk h h4 hg]
theorem gm_L_own (h : gm_L S T) (hI : gm_I K S) (hq : q < 6) (hb : gm_bk S q ≠ 3) : T (45 + 4 * q + 1 + gm_bk S q) = S (45 + 4 * q + 1 + gm_bk S q) := by
  have := gm_bk_le S q
  exact h.ow q _ hq (by omega) (gm_bk_lt hb).1
theorem gm_L_who (h : gm_L S T) (hI : gm_I K S) (hq : q < 6) (hcan : gm_can S q c = true) : gm_who T q = gm_who S q := by
  unfold gm_who
  rw [gm_L_full h hq, gm_L_bk h hq]
  cases hf : gm_full S q with
  | false => rfl
  | true => rw [if_pos rfl, if_pos rfl, gm_L_own h hI hq (gm_can_fE hcan hf).1]
theorem gm_L_up (h : gm_L S T) (v : Nat) (h3 : i ≠ 3) (hi : i < 45) : gm_L (va_up S i v) (va_up T i v) := by
  refine ⟨fun j hj => ?_, fun p w hp hw => ?_, fun q hq => ?_, fun q k hq hk hc => ?_⟩
  · unfold va_up; split
    · rfl
    · exact h.1 j hj
  · rw [up_ne (by omega)] at hp
    unfold va_up; split
    · rfl
    · exact h.2.1 p w hp hw
  · rw [up_ne (by omega), up_ne (by omega)]; exact h.2.2.1 q hq
  · rw [up_ne (by omega)] at hc
    rw [up_ne (by omega), up_ne (by omega)]; exact h.2.2.2 q k hq hk hc
theorem gm_sst_e (U : gm_S) (p g n : Nat) : gm_sst U p g n = va_up (va_up U (7 + g) (max 1 (U (7 + g) - n))) (13 + 8 * p) (U (13 + 8 * p) + gm_sell (U (7 + g)) n) := by
  funext i
  unfold gm_sst va_up
  by_cases h1 : i = 13 + 8 * p
  · rw [if_pos h1, if_pos h1, h1]
  · rw [if_neg h1, if_neg h1]
    by_cases h2 : i = 7 + g
    · rw [if_pos h2, if_pos h2, h2]
    · rw [if_neg h2, if_neg h2]
theorem gm_L_sst (h : gm_L S T) {g n : Nat} (hp : p < S 3) (h34 : S 3 ≤ 4) (hg : g < 3) : gm_L (gm_sst S p g n) (gm_sst T p g n) := by
  rw [gm_sst_e, gm_sst_e, h.lo (7 + g) (by omega), h.p0 p hp]
  exact gm_L_up (gm_L_up h _ (by omega) (by omega)) _ (by omega) (by omega)
theorem gm_L_do (h : gm_L S T) (h4 : S 4 < S 3) (h34 : S 3 ≤ 4) (hq : q < 6) (hg : q = 3 → c / 10 < 3 ∧ 1 ≤ c % 10 ∧ c % 10 ≤ 3) : gm_L (gm_do S q c) (gm_do T q c) := by
  have e4 := h.lo 4 (by decide)
  have e5 := h.lo 5 (by decide)
  have f0 := h.p0 _ h4
  have f := fun w hw => h.pl (S 4) w h4 hw
  rcases (show q = 0 ∨ q = 1 ∨ q = 2 ∨ q = 3 ∨ q = 4 ∨ q = 5 by omega) with rfl | rfl | rfl | rfl | rfl | rfl
  · show gm_L (va_up S (13 + 8 * S 4 + 1) (S (13 + 8 * S 4 + 1) + S 5)) (va_up T (13 + 8 * T 4 + 1) (T (13 + 8 * T 4 + 1) + T 5))
    rw [e4, e5, f 1 (by decide)]
    exact gm_L_up h _ (by omega) (by omega)
  · show gm_L (va_up S (13 + 8 * S 4 + 2) (S (13 + 8 * S 4 + 2) + (7 - S 5))) (va_up T (13 + 8 * T 4 + 2) (T (13 + 8 * T 4 + 2) + (7 - T 5)))
    rw [e4, e5, f 2 (by decide)]
    exact gm_L_up h _ (by omega) (by omega)
  · show gm_L (va_up (va_up (va_up S (13 + 8 * S 4 + 2) (S (13 + 8 * S 4 + 2) - c)) (13 + 8 * S 4) (S (13 + 8 * S 4) - c)) (13 + 8 * S 4 + 3) (S (13 + 8 * S 4 + 3) + 2 * c)) (va_up (va_up (va_up T (13 + 8 * T 4 + 2) (T (13 + 8 * T 4 + 2) - c)) (13 + 8 * T 4) (T (13 + 8 * T 4) - c)) (13 + 8 * T 4 + 3) (T (13 + 8 * T 4 + 3) + 2 * c))
    rw [e4, f 2 (by decide), f0, f 3 (by decide)]
    exact gm_L_up (gm_L_up (gm_L_up h _ (by omega) (by omega)) _ (by omega) (by omega)) _ (by omega) (by omega)
  · show gm_L (gm_sst (va_up S (13 + 8 * S 4 + (1 + c / 10)) (S (13 + 8 * S 4 + (1 + c / 10)) - c % 10)) (S 4) (c / 10) (c % 10)) (gm_sst (va_up T (13 + 8 * T 4 + (1 + c / 10)) (T (13 + 8 * T 4 + (1 + c / 10)) - c % 10)) (T 4) (c / 10) (c % 10))
    have := hg rfl
    rw [e4, f (1 + c / 10) (by omega)]
    exact gm_L_sst (gm_L_up h _ (by omega) (by omega)) (by rw [up_ne (by omega)]; exact h4) (by rw [up_ne (by omega)]; exact h34) (by omega)
  · show gm_L (va_up (va_up (va_up S (13 + 8 * S 4) (S (13 + 8 * S 4) - 5)) (13 + 8 * S 4 + 5) (S (13 + 8 * S 4 + 5) + 1)) (13 + 8 * S 4 + 6) (S (13 + 8 * S 4 + 6) + 1)) (va_up (va_up (va_up T (13 + 8 * T 4) (T (13 + 8 * T 4) - 5)) (13 + 8 * T 4 + 5) (T (13 + 8 * T 4 + 5) + 1)) (13 + 8 * T 4 + 6) (T (13 + 8 * T 4 + 6) + 1))
    rw [e4, f0, f 5 (by decide), f 6 (by decide)]
    exact gm_L_up (gm_L_up (gm_L_up h _ (by omega) (by omega)) _ (by omega) (by omega)) _ (by omega) (by omega)
  · show gm_L (va_up (va_up S (13 + 8 * S 4) (S (13 + 8 * S 4) - 2)) (13 + 8 * S 4 + 4) (S (13 + 8 * S 4 + 4) + 3)) (va_up (va_up T (13 + 8 * T 4) (T (13 + 8 * T 4) - 2)) (13 + 8 * T 4 + 4) (T (13 + 8 * T 4 + 4) + 3))
    rw [e4, f0, f 4 (by decide)]
    exact gm_L_up (gm_L_up h _ (by omega) (by omega)) _ (by omega) (by omega)
theorem gm_L_add (h : gm_L S T) (h4 : S 4 < S 3) (h34 : S 3 ≤ 4) (hq : q < 6) (h2 : S (45 + 4 * q) ≤ 2) : gm_L (gm_add S q) (gm_add T q) := by
  unfold gm_add
  rw [h.lo 4 (by decide), h.ct q hq, h.pl _ 6 h4 (by decide)]
  refine gm_L_up ⟨fun j hj => ?_, fun p w hp hw => ?_, fun q9 hq9 => ?_, fun q9 k hq9 hk hc => ?_⟩ _ (by omega) (by omega)
  · rw [up_ne (by omega), up_ne (by omega), up_ne (by omega), up_ne (by omega)]; exact h.1 j hj
  · rw [up_ne (by omega), up_ne (by omega)] at hp
    rw [up_ne (by omega), up_ne (by omega), up_ne (by omega), up_ne (by omega)]; exact h.2.1 p w hp hw
  · by_cases e : q9 = q
    · rw [e, up_eq, up_eq]
    · rw [up_ne (by omega), up_ne (by omega), up_ne (by omega), up_ne (by omega)]; exact h.2.2.1 q9 hq9
  · by_cases e : q9 = q
    · subst e
      rw [up_eq] at hc
      have e9 : ∀ U : gm_S, va_up (va_up U (45 + 4 * q9 + 1 + S (45 + 4 * q9)) (S 4)) (45 + 4 * q9) (S (45 + 4 * q9) + 1) (45 + 4 * q9 + 1 + k) = va_up U (45 + 4 * q9 + 1 + S (45 + 4 * q9)) (S 4) (45 + 4 * q9 + 1 + k) := fun U => up_ne (by omega)
      rw [e9 S, e9 T]
      by_cases e2 : k = S (45 + 4 * q9)
      · rw [e2, up_eq, up_eq]
      · rw [up_ne (by omega), up_ne (by omega)]; exact h.2.2.2 q9 k hq9 hk (by omega)
    · rw [up_ne (by omega), up_ne (by omega)] at hc
      rw [up_ne (by omega), up_ne (by omega), up_ne (by omega), up_ne (by omega)]; exact h.2.2.2 q9 k hq9 hk hc
theorem gm_sh_o {k n : Nat} (hi : i ≤ 45 + 4 * q ∨ 45 + 4 * q + 4 ≤ i) (hn : k + n ≤ 2) : gm_sh S q k n i = S i := by
  unfold gm_sh; rw [if_neg (by omega)]
theorem gm_L_bump {k : Nat} (h : gm_L S T) (h4 : S 4 < S 3) (h34 : S 3 ≤ 4) (hq : q < 6) (hk : k < S (45 + 4 * q)) (h2 : S (45 + 4 * q) ≤ 3) (ho : S (45 + 4 * q + 1 + k) < S 3) : gm_L (gm_bump S q k) (gm_bump T q k) := by
  unfold gm_bump
  rw [h.lo 4 (by decide), h.lo 1 (by decide), h.lo 11 (by decide), h.ct q hq, h.p0 _ h4, h.ow q k hq (by omega) hk, h.p0 _ ho]
  refine gm_L_up (gm_L_up (gm_L_up ⟨fun j hj => ?_, fun p w hp hw => ?_, fun q9 hq9 => ?_, fun q9 k9 hq9 hk9 hc => ?_⟩ _ (by omega) (by omega)) _ (by omega) (by omega)) _ (by omega) (by omega)
  · rw [up_ne (by omega), up_ne (by omega), gm_sh_o (by omega) (by omega), gm_sh_o (by omega) (by omega)]; exact h.1 j hj
  · rw [up_ne (by omega), gm_sh_o (by omega) (by omega)] at hp
    rw [up_ne (by omega), up_ne (by omega), gm_sh_o (by omega) (by omega), gm_sh_o (by omega) (by omega)]; exact h.2.1 p w hp hw
  · by_cases e : q9 = q
    · rw [e, up_eq, up_eq]
    · rw [up_ne (by omega), up_ne (by omega), gm_sh_o (by omega) (by omega), gm_sh_o (by omega) (by omega)]; exact h.2.2.1 q9 hq9
  · by_cases e : q9 = q
    · subst e
      rw [up_eq] at hc
      rw [up_ne (by omega), up_ne (by omega)]
      unfold gm_sh
      split
      · exact h.2.2.2 q9 (k9 + 1) hq9 (by omega) (by omega)
      · exact h.2.2.2 q9 k9 hq9 (by omega) (by omega)
    · rw [up_ne (by omega), gm_sh_o (by omega) (by omega)] at hc
      rw [up_ne (by omega), up_ne (by omega), gm_sh_o (by omega) (by omega), gm_sh_o (by omega) (by omega)]; exact h.2.2.2 q9 k9 hq9 hk9 hc
theorem gm_L_pl (h : gm_L S T) (hI : gm_I K S) (hq : q < 6) (hc : c < 24) (hch : gm_ch q c = true) (hcan : gm_can S q c = true) (hK : K + 40 < 2 ^ 26) (hK9 : 12 ≤ K) : gm_L (gm_pl S q c) (gm_pl T q c) := by
  have hM := gm_IM hI (gm_can_on hcan)
  have hJ := gm_IJ hI (gm_on_i (gm_can_on hcan)).1
  have hb := (gm_bd_x hJ hq hcan).1
  have hB := gm_bd_M hI hq hcan (by omega)
  have hA := gm_add_M hB hq hb (by omega)
  have b1 : gm_L (gm_bd S q) (gm_bd T q) := by
    unfold gm_bd
    rw [gm_L_full h hq, gm_L_bk h hq]
    cases hf : gm_full S q with
    | false => exact h
    | true =>
      have e3 := (gm_can_fE hcan hf).1
      rw [if_pos rfl, if_pos rfl]
      exact gm_L_bump h hM.n.2.2.1 hM.n.2.1 hq (gm_bk_lt e3).1 (hM.w q hq) (hM.ow q _ hq (gm_bk_lt e3).1)
  unfold gm_pl
  exact gm_L_do (gm_L_add b1 hB.n.2.2.1 hB.n.2.1 hq hb) hA.n.2.2.1 hA.n.2.1 hq (gm_chg hc hch)
end CRL
