section CRN
variable {S T : gm_S} {K q c p i v n : Nat} {x y : Int64} {z : Bool}
/-! scripts, lots, games out of a text: alike on both sides -/
theorem nI_ij {a b : Nat} (h : nI a = nI b) (ha : a < 2 ^ 31) (hb : b < 2 ^ 31) : a = b := by
  have e := congrArg i2 h
  rwa [i2_nI ha, i2_nI hb] at e
theorem gm_L_ref (h : gm_L S T) (hI : gm_I K S) (w u : Int32) : gm_ref T w u = gm_ref S w u := by
  unfold gm_ref
  by_cases e1 : gm_in (nI 0) w (nI 5) = true
  · rw [if_pos e1, if_pos e1]
    obtain ⟨q, rfl, hq, hq5⟩ := gm_in_k (by decide) (by decide) e1
    rw [i2_nI (by omega)]
    by_cases e2 : gm_chR q u = true
    · rw [if_pos e2, if_pos e2]
      obtain ⟨k, rfl, hk⟩ := gm_ch_k e2
      rw [i2_nI (by omega)]
      rw [gm_L_can h hI (by omega) (gm_chg hk (by rw [← gm_chR_n (by omega)]; exact e2))]
    · rw [if_neg e2, if_neg e2]
  · rw [if_neg e1, if_neg e1]
theorem gm_L_sim (h : gm_L S T) (hI : gm_I K S) (hon : gm_on S = true) (hK : K + 40 < 2 ^ 26) (hK9 : 12 ≤ K) (r : Nat) : gm_L2 (gm_sim false S x r) (gm_sim true T x r) := by
  obtain ⟨l1, l2, l3⟩ := gm_s_ch r
  unfold gm_sim
  split
  · exact gm_L_pass h hI hon hK9
  · rw [gm_L_can h hI l1 (gm_chg l2 l3)]
    split
    · rename_i e; exact gm_L_put h hI l1 l2 l3 e hK hK9
    · exact gm_L_play h hI hon hK hK9
theorem gm_L_siN : ∀ (f : Nat) {S T : gm_S} {x y : Int64} {K : Nat}, gm_L S T → gm_I K S → K + 40 * f < 2 ^ 26 → 12 ≤ K → gm_L2 (gm_siN false f S x y) (gm_siN true f T x y)
  | 0, _, _, _, _, _, h, _, _, _ => ⟨h, rfl⟩
  | f + 1, S, T, x, y, K, h, hI, hK, hK9 => by
    cases hon : gm_on S with
    | false =>
      unfold gm_siN
      rw [if_neg (ne_t hon), if_neg (ne_t (by rw [gm_L_on h]; exact hon))]
      exact ⟨h, rfl⟩
    | true =>
      rw [gm_siN_s hon, gm_siN_s (by rw [gm_L_on h]; exact hon)]
      obtain ⟨y2, hy2⟩ : ∃ y2, gm_nx y = y2 := ⟨_, rfl⟩
      rw [hy2]
      have e := gm_L_sim (x := x) h hI hon (by omega) hK9 (gm_r y2)
      have j := gm_sim_I (z := false) (x := x) (r := gm_r y2) hI hon (by omega) hK9
      rw [e.2]
      exact gm_L_siN f e.1 j (by omega) (by omega)
theorem gm_L_sR {a : Int32} (h : gm_L S T) : ∀ n, n ≤ S 3 → gm_sR a T n = gm_sR a S n
  | 0, _ => rfl
  | n + 1, hn => by unfold gm_sR; rw [gm_L_sR h n (by omega), gm_L_tot h (by omega)]
theorem gm_L_sians {S2 T2 : gm_S} (h : gm_L S T) (h2 : gm_L S2 T2) : gm_sians T T2 = gm_sians S S2 := by
  unfold gm_sians
  rw [h.lo 11 (by decide), h2.lo 11 (by decide), h2.lo 3 (by decide), gm_L_sR h2 _ (Nat.le_refl _)]
theorem gm_L_dq (h : gm_L S T) (t a b c : Nat) : gm_dq T t a b c = gm_dq S t a b c := by
  unfold gm_dq
  rw [gm_L_on h, h.lo 3 (by decide), h.lo 4 (by decide)]
  refine ite_congr rfl (fun _ => ?_) (fun _ => ite_congr rfl (fun _ => ?_) (fun _ => ite_congr rfl (fun _ => ?_) (fun _ => ite_congr rfl (fun _ => rfl) (fun _ => ite_congr rfl (fun _ => ?_) (fun _ => rfl)))))
  · exact decide_eq_decide.mpr (and_congr_right fun e => by rw [gm_L_tot h e])
  · exact decide_eq_decide.mpr (and_congr_right fun e => by rw [h.ct a (by omega)])
  · exact decide_eq_decide.mpr (and_congr_right fun e => by rw [h.lo (7 + a) (by omega)])
  · exact decide_eq_decide.mpr (and_congr_right fun e => and_congr_right fun e2 => by rw [h.pl a (1 + b) e (by omega)])
/-- a line's results that are alike -/
theorem gm_L_dst (h : gm_L S T) (hI : gm_I K S) (hK : K + 40 < 2 ^ 26) (hK9 : 12 ≤ K) (r : Nat) : (gm_dst true T x r).1 = (gm_dst false S x r).1 ∧ gm_L2 (gm_dst false S x r).2 (gm_dst true T x r).2 := by
  unfold gm_dst
  rw [gm_L_ref h hI, gm_L_on h, gm_L_dq h]
  split
  · rename_i e
    obtain ⟨a, b, ha, hb, l1, l2, l3, l4⟩ := gm_ref_k e.2
    have ea : r / 100 % 10 = a := nI_ij ha (by omega) (by omega)
    have eb : 10 * (r / 10 % 10) + r % 10 = b := nI_ij hb (by omega) (by omega)
    rw [ea, eb]
    exact ⟨rfl, gm_L_put h hI l1 l2 l3 l4 hK hK9⟩
  · split
    · rename_i e; exact ⟨rfl, gm_L_pass h hI e.2.2 hK9⟩
    · split
      · rename_i e; exact ⟨rfl, gm_L_play h hI e.2.2 hK hK9⟩
      · split
        · rename_i e
          obtain ⟨a, b, ha, hb, hab⟩ := gm_isS_k e.2
          have ea := nI_ij ha (by omega) (by omega)
          exact ⟨rfl, gm_L_up h _ (by omega) (by omega), rfl⟩
        · exact ⟨rfl, h, rfl⟩
theorem gm_L_scr (v n : Nat) : ∀ (m : Nat) {S T : gm_S} {x : Int64} {K : Nat}, gm_L S T → gm_I K S → K + 40 * m < 2 ^ 26 → 12 ≤ K → gm_scr true v n m T x = gm_scr false v n m S x
  | 0, _, _, _, _, _, _, _, _ => rfl
  | m + 1, S, T, x, K, h, hI, hK, hK9 => by
    unfold gm_scr
    have e := gm_L_dst (x := x) h hI (by omega) hK9 (v / gm_p4 m % 10000)
    have j := gm_dst_I (z := false) (x := x) (q := v / gm_p4 m % 10000) hI (by omega) hK9
    rw [e.1, e.2.2, gm_L_scr v n m e.2.1 j.1 (by omega) (by omega)]
theorem gm_L_lv (h : gm_L S T) (hI : gm_I K S) (hK : K + 40 < 2 ^ 26) (hK9 : 12 ≤ K) (hqc : q = 6 ∨ (q < 6 ∧ c < 24 ∧ gm_ch q c = true)) : (gm_lv true T x q c).1 = (gm_lv false S x q c).1 ∧ gm_L2 (gm_lv false S x q c).2 (gm_lv true T x q c).2 := by
  unfold gm_lv
  rw [gm_L_on h]
  split
  · split
    · rename_i e; exact ⟨rfl, gm_L_pass h hI e hK9⟩
    · exact ⟨rfl, h, rfl⟩
  · rename_i e6
    obtain ⟨l1, l2, l3⟩ := hqc.resolve_left e6
    rw [gm_L_can h hI l1 (gm_chg l2 l3)]
    split
    · rename_i e; exact ⟨rfl, gm_L_put h hI l1 l2 l3 e hK hK9⟩
    · exact ⟨rfl, h, rfl⟩
theorem gm_L_ldN {B : Nat → Nat} {M : Nat → Int32} (h : gm_L S T) (hI : gm_I K S) (hK : K + 5000 < 2 ^ 26) (hK9 : 12 ≤ K) : ∀ k, k ≤ (gm_read B n M).2.2.1 → k ≤ 120 → (gm_ldN true (gm_read B n M).2.2.2 T x k).1 = (gm_ldN false (gm_read B n M).2.2.2 S x k).1 ∧ gm_L2 (gm_ldN false (gm_read B n M).2.2.2 S x k).2 (gm_ldN true (gm_read B n M).2.2.2 T x k).2 ∧ gm_I (K + 40 * k) (gm_ldN false (gm_read B n M).2.2.2 S x k).2.1
  | 0, _, _ => ⟨rfl, ⟨h, rfl⟩, hI⟩
  | k + 1, hk, hk2 => by
    obtain ⟨i1, i2_, i3⟩ := gm_L_ldN (B := B) (M := M) h hI hK hK9 k (by omega) (by omega)
    obtain ⟨q, c, m1, m2, m3, m4⟩ := gm_mvo_i (gm_mvo_r (B := B) (n := n) M) (i := k) (by omega)
    have m5 : q = 6 ∨ i2 ((gm_read B n M).2.2.2 (2 * k + 1)) = c := by
      rcases m4 with m4 | m4
      · exact .inl m4
      · exact .inr m4.2.2.2
    have m6 : q = 6 ∨ (q < 6 ∧ c < 24 ∧ gm_ch q c = true) := by
      rcases m4 with m4 | m4
      · exact .inl m4
      · exact .inr ⟨m4.1, m4.2.1, m4.2.2.1⟩
    rw [gm_ldN_s m3 m5, gm_ldN_s m3 m5, i1, i2_.2]
    have e := gm_L_lv (x := (gm_ldN false (gm_read B n M).2.2.2 S x k).2.2) i2_.1 i3 (by omega) (by omega) m6
    have j := gm_lv_I (z := false) (x := (gm_ldN false (gm_read B n M).2.2.2 S x k).2.2) i3 (by omega) (by omega) m6
    exact ⟨by rw [e.1], e.2, j⟩
theorem gm_L_new {U V : gm_S} (h0 : U 0 = V 0 ∧ U 1 = V 1 ∧ U 2 = V 2) (hp : p ≤ 4) : gm_L (gm_new U p y) (cg_new V p y) := by
  unfold gm_new cg_new
  obtain ⟨d, hd⟩ : ∃ d, gm_die (gm_nx y) = d := ⟨_, rfl⟩
  rw [hd]
  refine ⟨fun i hi => ?_, fun r w hr hw => ?_, fun q hq => ?_, fun q k hq hk hc => ?_⟩
  · rcases (show i = 0 ∨ i = 1 ∨ i = 2 ∨ i = 3 ∨ i = 4 ∨ i = 5 ∨ i = 6 ∨ i = 7 ∨ i = 8 ∨ i = 9 ∨ i = 10 ∨ i = 11 ∨ i = 12 by omega) with rfl | rfl | rfl | rfl | rfl | rfl | rfl | rfl | rfl | rfl | rfl | rfl | rfl
    · exact h0.1
    · exact h0.2.1
    · exact h0.2.2
    all_goals first | (rw [up_ne (by decide)]; rfl) | (rw [up_eq]; rfl)
  · have e3 : va_up (gm_bg U p p) 5 d 3 = p := by rw [up_ne (by decide)]; rfl
    rw [e3] at hr
    rw [up_ne (by omega)]
    unfold gm_bg
    dsimp only
    rw [if_neg (by omega), if_neg (by omega), if_neg (by omega), if_neg (by omega), if_neg (by omega), if_pos (by omega), if_neg (by omega), if_neg (by omega), if_neg (by omega), if_neg (by omega), if_neg (by omega), if_pos (by omega)]
  · rw [up_ne (by omega)]
    unfold gm_bg
    dsimp only
    rw [if_neg (by omega), if_neg (by omega), if_neg (by omega), if_neg (by omega), if_neg (by omega), if_neg (by omega), if_pos (by omega), if_neg (by omega), if_neg (by omega), if_neg (by omega), if_neg (by omega), if_neg (by omega), if_neg (by omega), if_pos (by omega)]
  · rw [up_ne (by omega)] at hc
    unfold gm_bg at hc
    rw [if_neg (by omega), if_neg (by omega), if_neg (by omega), if_neg (by omega), if_neg (by omega), if_neg (by omega), if_pos (by omega)] at hc
    omega
end CRN
