section CRM
variable {S T : gm_S} {K q c p i v n : Nat} {x y : Int64} {z : Bool}
/-! the end of a round, the turn, the best, scripts, lots: alike on both sides -/
theorem gm_L_rdy (h : gm_L S T) (hp : p < S 3) : gm_rdy T p = gm_rdy S p := by unfold gm_rdy; rw [h.pl p 6 hp (by decide), h.pl p 7 hp (by decide)]
theorem gm_L_ls (h : gm_L S T) (hp : p < S 3) : gm_ov T p = gm_ov S p ∧ gm_lf T p = gm_lf S p ∧ gm_lr T p = gm_lr S p ∧ gm_lc T p = gm_lc S p ∧ gm_ls T p = gm_ls S p := by
  have e1 : gm_ov T p = gm_ov S p := by unfold gm_ov; rw [h.pl p 1 hp (by decide), h.pl p 2 hp (by decide), h.pl p 3 hp (by decide), h.pl p 4 hp (by decide)]
  have e2 : gm_lf T p = gm_lf S p := by unfold gm_lf; rw [e1, h.pl p 2 hp (by decide)]
  have e3 : gm_lr T p = gm_lr S p := by unfold gm_lr; rw [e1, e2, h.pl p 1 hp (by decide)]
  have e4 : gm_lc T p = gm_lc S p := by unfold gm_lc; rw [e1, e2, e3]
  refine ⟨e1, e2, e3, e4, ?_⟩
  unfold gm_ls; rw [e3, h.lo 5 (by decide), h.pl p 1 hp (by decide)]
theorem gm_L_loss (h : gm_L S T) (hp : p < S 3) (g : Nat) : gm_loss T p g = gm_loss S p g := by
  obtain ⟨e1, e2, e3, e4, e5⟩ := gm_L_ls h hp
  unfold gm_loss; rw [e5, e2, e4]
theorem gm_L_ends (h : gm_L S T) (hp : p < S 3) (e : T i = S i) : gm_ends T p i = gm_ends S p i := by
  obtain ⟨e1, e2, e3, e4, e5⟩ := gm_L_ls h hp
  unfold gm_ends; rw [e5, e2, e4, e, h.pl p 5 hp (by decide)]
theorem gm_L_endsL (h : gm_L S T) (hp : p < S 3) (h34 : S 3 ≤ 4) : gm_L (gm_ends S p) (gm_ends T p) := by
  refine ⟨fun j hj => (gm_L_ends h hp (h.lo j hj)).symm, fun p9 w hp9 hw => ?_, fun q hq => (gm_L_ends h hp (h.ct q hq)).symm, fun q k hq hk hc => ?_⟩
  · rw [gm_ends_lo S (by decide)] at hp9
    exact (gm_L_ends h hp (h.pl p9 w hp9 hw)).symm
  · rw [gm_ends_hi S (by omega) (by omega)] at hc
    exact (gm_L_ends h hp (h.ow q k hq hk hc)).symm
theorem gm_L_endsN (h : gm_L S T) (h34 : S 3 ≤ 4) : ∀ n, n ≤ S 3 → gm_L (gm_endsN S n) (gm_endsN T n)
  | 0, _ => h
  | n + 1, hn => by
    have ih := gm_L_endsN h h34 n (by omega)
    have e3 := gm_endsN_lo S (i := 3) (by decide) n
    exact gm_L_endsL ih (by rw [e3]; omega) (by rw [e3]; exact h34)
theorem gm_L_endx (h : gm_L S T) (E : gm_endsN T (S 3) i = gm_endsN S (S 3) i) (hi : i < 45) : gm_end true T x i = gm_end false S x i := by
  unfold gm_end
  rw [h.lo 3 (by decide), h.lo 10 (by decide)]
  rw [E, if_neg (c := 45 ≤ i ∧ i < 69 ∧ (true = true → (i - 45) % 4 = 0)) (fun e => absurd e.1 (by omega)), if_neg (c := 45 ≤ i ∧ i < 69 ∧ (false = true → (i - 45) % 4 = 0)) (fun e => absurd e.1 (by omega))]
theorem gm_end_c (hq : q < 6) : gm_end z S x (45 + 4 * q) = 0 := by
  unfold gm_end
  rw [if_neg (by omega), if_neg (by omega), if_neg (by omega), if_neg (by omega), if_neg (by omega), if_pos ⟨by omega, by omega, fun _ => by omega⟩]
theorem gm_L_end (h : gm_L S T) (h34 : S 3 ≤ 4) : gm_L (gm_end false S x) (gm_end true T x) := by
  have eN := gm_L_endsN h h34 (S 3) (Nat.le_refl _)
  refine ⟨fun j hj => (gm_L_endx h (eN.lo j hj) (by omega)).symm, fun p w hp hw => ?_, fun q hq => by rw [gm_end_c hq, gm_end_c hq], fun q k hq hk hc => ?_⟩
  · rw [gm_end_at S x (by omega), gm_endsN_lo S (by decide)] at hp
    exact (gm_L_endx h (eN.pl p w (by rw [gm_endsN_lo S (by decide)]; exact hp) hw) (by omega)).symm
  · rw [gm_end_c hq] at hc; omega
theorem gm_L_fnd (h : gm_L S T) (h3 : 0 < S 3) : ∀ f k, gm_fnd T f k = gm_fnd S f k
  | 0, _ => rfl
  | f + 1, k => by
    have m := Nat.mod_lt (S 4 + k) h3
    unfold gm_fnd
    rw [h.lo 3 (by decide), h.lo 4 (by decide), gm_L_rdy h m, gm_L_fnd h h3 f (k + 1)]
theorem gm_L_nxt (h : gm_L S T) (h3 : 0 < S 3) : gm_nxt T = gm_nxt S := by unfold gm_nxt; rw [h.lo 3 (by decide), gm_L_fnd h h3]
/-- two turns' results that are alike -/
def gm_L2 (a b : gm_S × Int64) : Prop := gm_L a.1 b.1 ∧ b.2 = a.2
theorem gm_L_go (h : gm_L S T) (hM : gm_M K S) : gm_L2 (gm_go false S x) (gm_go true T x) := by
  obtain ⟨n1, n2, n3, n4, n5, n6, n7⟩ := hM.n
  unfold gm_go
  rw [gm_L_nxt h (by omega)]
  split
  · exact ⟨gm_L_end h n2, rfl⟩
  · exact ⟨gm_L_up h _ (by decide) (by decide), rfl⟩
theorem gm_L_pass (h : gm_L S T) (hI : gm_I K S) (hon : gm_on S = true) (hK9 : 12 ≤ K) : gm_L2 (gm_pass false S x) (gm_pass true T x) := by
  obtain ⟨n1, n2, n3, n4, n5, n6, n7⟩ := (gm_IM hI hon).n
  unfold gm_pass
  rw [h.lo 4 (by decide)]
  exact gm_L_go (gm_L_up h _ (by omega) (by omega)) (gm_pass_M (gm_IM hI hon) hK9)
theorem gm_L_put (h : gm_L S T) (hI : gm_I K S) (hq : q < 6) (hc : c < 24) (hch : gm_ch q c = true) (hcan : gm_can S q c = true) (hK : K + 40 < 2 ^ 26) (hK9 : 12 ≤ K) : gm_L2 (gm_put false S x q c) (gm_put true T x q c) :=
  gm_L_go (gm_L_pl h hI hq hc hch hcan hK hK9) (gm_pl_M hI hq hc hch hcan hK hK9)
theorem gm_L_brg (h : gm_L S T) (hI : gm_I K S) (hq : q < 6) (hc : c < 24) (hch : gm_ch q c = true) (hcan : gm_can S q c = true) (hK : K + 40 < 2 ^ 26) (hK9 : 12 ≤ K) : gm_brg T q c = gm_brg S q c := by
  have hM := gm_IM hI (gm_can_on hcan)
  obtain ⟨n1, n2, n3, n4, n5, n6, n7⟩ := hM.n
  have hJ := gm_IJ hI (gm_on_i (gm_can_on hcan)).1
  have e3 : gm_pl S q c 3 = S 3 := by
    have b := gm_bd_x hJ hq hcan
    have b3 := b.2.2.1 3 (by decide)
    have b4 := b.2.1
    have hB := gm_bd_M hI hq hcan (by omega)
    have hA := gm_add_M hB hq b.1 (by omega)
    have a3 : gm_add (gm_bd S q) q 3 = S 3 := by unfold gm_add; rw [up_ne (by omega), up_ne (by omega), up_ne (by omega)]; exact b3
    unfold gm_pl
    have hg := gm_chg hc hch
    generalize hU : gm_add (gm_bd S q) q = U at hA a3 ⊢
    rcases (show q = 0 ∨ q = 1 ∨ q = 2 ∨ q = 3 ∨ q = 4 ∨ q = 5 by omega) with rfl | rfl | rfl | rfl | rfl | rfl
    · show va_up U (13 + 8 * U 4 + 1) (U (13 + 8 * U 4 + 1) + U 5) 3 = S 3
      rw [up_ne (by omega)]; exact a3
    · show va_up U (13 + 8 * U 4 + 2) (U (13 + 8 * U 4 + 2) + (7 - U 5)) 3 = S 3
      rw [up_ne (by omega)]; exact a3
    · show va_up (va_up (va_up U (13 + 8 * U 4 + 2) (U (13 + 8 * U 4 + 2) - c)) (13 + 8 * U 4) (U (13 + 8 * U 4) - c)) (13 + 8 * U 4 + 3) (U (13 + 8 * U 4 + 3) + 2 * c) 3 = S 3
      rw [up_ne (by omega), up_ne (by omega), up_ne (by omega)]; exact a3
    · show gm_sst (va_up U (13 + 8 * U 4 + (1 + c / 10)) (U (13 + 8 * U 4 + (1 + c / 10)) - c % 10)) (U 4) (c / 10) (c % 10) 3 = S 3
      rw [gm_sst_e, up_ne (by omega), up_ne (by omega), up_ne (by omega)]; exact a3
    · show va_up (va_up (va_up U (13 + 8 * U 4) (U (13 + 8 * U 4) - 5)) (13 + 8 * U 4 + 5) (U (13 + 8 * U 4 + 5) + 1)) (13 + 8 * U 4 + 6) (U (13 + 8 * U 4 + 6) + 1) 3 = S 3
      rw [up_ne (by omega), up_ne (by omega), up_ne (by omega)]; exact a3
    · show va_up (va_up U (13 + 8 * U 4) (U (13 + 8 * U 4) - 2)) (13 + 8 * U 4 + 4) (U (13 + 8 * U 4 + 4) + 3) 3 = S 3
      rw [up_ne (by omega), up_ne (by omega)]; exact a3
  unfold gm_brg
  rw [h.lo 4 (by decide), gm_L_tot h n3, gm_L_tot (gm_L_pl h hI hq hc hch hcan hK hK9) (by rw [e3]; exact n3)]
theorem gm_L_bv (h : gm_L S T) (hI : gm_I K S) (hq : q < 6) (hc : c < 24) (hch : gm_ch q c = true) (hK : K + 40 < 2 ^ 26) (hK9 : 12 ≤ K) : gm_bv T q c = gm_bv S q c := by
  unfold gm_bv
  rw [gm_L_can h hI hq (gm_chg hc hch)]
  cases hcan : gm_can S q c with
  | false => rfl
  | true => rw [gm_L_brg h hI hq hc hch hcan hK hK9]
theorem gm_fl {α β : Type} {f g : α → β → α} : ∀ (l : List β) (a : α), (∀ a w, w ∈ l → f a w = g a w) → l.foldl f a = l.foldl g a
  | [], _, _ => rfl
  | w :: l, a, h => by
    rw [List.foldl_cons, List.foldl_cons, h a w (List.mem_cons_self ..)]
    exact gm_fl l _ (fun a9 w9 h9 => h a9 w9 (List.mem_cons_of_mem _ h9))
theorem gm_L_bst (h : gm_L S T) (hI : gm_I K S) (hK : K + 40 < 2 ^ 26) (hK9 : 12 ≤ K) : gm_bst T = gm_bst S := by
  unfold gm_bst
  refine gm_fl _ _ (fun a w hw => ?_)
  obtain ⟨l1, l2, l3⟩ := (show ∀ w, w ∈ gm_all → w.1 < 6 ∧ w.2 < 24 ∧ gm_ch w.1 w.2 = true by decide) w hw
  unfold gm_bs
  rw [gm_L_can h hI l1 (gm_chg l2 l3)]
  cases hcan : gm_can S w.1 w.2 with
  | false => rw [if_neg (fun e => absurd e.1 (by decide)), if_neg (fun e => absurd e.1 (by decide))]
  | true => rw [gm_L_brg h hI l1 l2 l3 hcan hK hK9]
theorem gm_L_play (h : gm_L S T) (hI : gm_I K S) (hon : gm_on S = true) (hK : K + 40 < 2 ^ 26) (hK9 : 12 ≤ K) : gm_L2 (gm_play false S x) (gm_play true T x) := by
  unfold gm_play
  rw [gm_L_bst h hI hK hK9]
  split
  · rename_i e
    rcases gm_bst_ok S with e2 | ⟨h1, h2, h3, h4, h5⟩
    · omega
    · exact gm_L_put h hI h1 h2 h3 h4 hK hK9
  · exact gm_L_pass h hI hon hK9
theorem gm_L_pans (h : gm_L S T) (hI : gm_I K S) (hK : K + 40 < 2 ^ 26) (hK9 : 12 ≤ K) : gm_pans T = gm_pans S := by unfold gm_pans; rw [gm_L_bst h hI hK hK9]
theorem gm_L_bmp (h : gm_L S T) (hI : gm_I K S) (hq : q < 6) : gm_bmp T q = gm_bmp S q := by
  unfold gm_bmp
  rw [gm_L_on h, gm_L_full h hq, gm_L_bk h hq]
  by_cases e : gm_on S = true ∧ gm_full S q = true ∧ gm_bk S q ≠ 3
  · rw [if_pos e, if_pos e, gm_L_own h hI hq e.2.2]
  · rw [if_neg e, if_neg e]
theorem gm_L_cur (h : gm_L S T) : gm_cur T = gm_cur S := by unfold gm_cur; rw [gm_L_on h, h.lo 4 (by decide)]
theorem gm_L_isP (h : gm_L S T) (w : Int32) : gm_isP T w = gm_isP S w := by unfold gm_isP; rw [h.lo 3 (by decide)]
theorem gm_L_pla (h : gm_L S T) (hp : p < S 3) {k : Nat} (hk : k ≤ 8) : gm_pla T p k = gm_pla S p k := by
  unfold gm_pla
  rw [gm_L_tot h hp]
  split
  · rfl
  · exact h.pl p k hp (by omega)
theorem gm_L_abo (h : gm_L S T) {k : Nat} (hk : k ≤ 11) : gm_abo T k = gm_abo S k := by
  have e9 : gm_atp T = gm_atp S := by
    unfold gm_atp
    rw [h.ct 0 (by decide), h.ct 1 (by decide), h.ct 2 (by decide), h.ct 3 (by decide), h.ct 4 (by decide), h.ct 5 (by decide)]
  unfold gm_abo gm_tls
  rw [gm_L_on h, e9, h.lo 3 (by decide), h.lo 4 (by decide), h.lo 5 (by decide), h.lo 6 (by decide), h.lo 10 (by decide), h.lo 11 (by decide), h.lo 12 (by decide)]
  by_cases e : k = 11
  · subst e; split
    · rfl
    · rfl
  · rw [h.lo (7 + k - 5) (by omega)]
theorem gm_L_wea (h : gm_L S T) : gm_wea T x n = gm_wea S x n := by unfold gm_wea; rw [h.lo 3 (by decide)]
theorem gm_L_rj (h : gm_L S T) : ∀ n, n < S 3 → gm_rj T n = gm_rj S n
  | 0, _ => rfl
  | n + 1, hn => by
    have := gm_rj_le S n
    unfold gm_rj
    rw [gm_L_rj h n (by omega), gm_L_tot h (p := gm_rj S n) (by omega), gm_L_tot h hn]
theorem gm_L_ri (h : gm_L S T) : gm_ri T (S 3) = gm_ri S (S 3) := by
  unfold gm_ri
  split
  · rfl
  · rw [gm_L_rj h _ (by omega)]
theorem gm_L_gans (h : gm_L S T) (n : Nat) : gm_gans T n = gm_gans S n := by
  unfold gm_gans
  rw [h.lo 3 (by decide), gm_L_ri h]
  split
  · rfl
  · split
    · rename_i e; rw [gm_L_tot h e]
    · rfl
theorem gm_L_goN : ∀ (f : Nat) {S T : gm_S} {x : Int64} {K : Nat}, gm_L S T → gm_I K S → K + 40 * f < 2 ^ 26 → 12 ≤ K → gm_L2 (gm_goN false f S x) (gm_goN true f T x)
  | 0, _, _, _, _, h, _, _, _ => ⟨h, rfl⟩
  | f + 1, S, T, x, K, h, hI, hK, hK9 => by
    unfold gm_goN
    rw [gm_L_on h]
    cases hon : gm_on S with
    | false => exact ⟨h, rfl⟩
    | true =>
      rw [if_pos rfl, if_pos rfl]
      have e := gm_L_play (x := x) h hI hon (by omega) hK9
      have j := gm_play_I (z := false) (x := x) hI hon (by omega) hK9
      rw [e.2]
      exact gm_L_goN f e.1 j (by omega) (by omega)
theorem gm_L_goE (h : gm_L S T) (hI : gm_I K S) (hK : K + 60000 < 2 ^ 26) (hK9 : 12 ≤ K) : gm_L2 (gm_goE false S x) (gm_goE true T x) := gm_L_goN 1300 h hI (by omega) hK9
end CRM
