section SR20
variable {G : sm_G} {h : sm_H} {m : Nat} {F : Nat → Int32} {X : Nat → Int64} {A : Nat → Nat → Int32} {L : Nat → Nat → Int64} {S : Nat → Nat} {K : Nat} {B : Nat → Nat} {n p mc : Nat}
theorem c6_errorPosition (h10 : F 10 = nI n) (hn : n ≤ 120) (hB : ∀ i, i < n → A 9 i = nI (B i)) (hB2 : ∀ i, i < n → B i < 256) : sm_F G mX6_errorPosition 4 [.ref m] (sm_om G h m F X (sm_as A S) L) (.inl (some (.int (gm_rans (gm_read B n (A 22)))))) (gm_rh G h m (va_up F 0 (nI 0)) X A S L (gm_ha B n) (gm_hbb B n) (gm_read B n (A 22))) := by
  unfold sm_F sm_C
  show sm_V G _ _ _ 0 0 0 [(0, .ref m)] [] _
  refine sv_aload_n dX6_errorPosition_0 rfl ?_
  refine sv_iconst (nI 0) dX6_errorPosition_1 (by decide) ?_
  refine rm_put0 rfl dX6_errorPosition_2 ?_
  refine sv_aload_n dX6_errorPosition_5 rfl ?_
  refine sv_callV (As := []) sc_X6_202 (c6_reads ((up_ne (by omega)).trans h10) hn hB hB2) rfl rfl (Nat.le_of_ble_eq_true rfl) dX6_errorPosition_6 ⟨by decide, by decide⟩ ⟨Nat.le_refl _, Nat.le_refl _⟩ (Nat.le_of_ble_eq_true rfl) om_0 (List.cons_ne_nil _ _) rfl ?_
  refine sv_iret dX6_errorPosition_9 rfl rfl (Nat.le_refl _) (Nat.le_refl _) ?_
  exact ⟨rfl, rfl⟩
theorem gm_rans_f {s : gm_St} (h : s.1 = false) (hp : s.2.1 < 2 ^ 31) : gm_rans s ≠ -1 := by unfold gm_rans; rw [if_neg (ne_t h)]; exact ne_1 hp
theorem gm_rans_t {s : gm_St} (h : s.1 = true) : gm_rans s = -1 := by unfold gm_rans; rw [if_pos h]
theorem gm_rdN_le {M : Nat → Int32} (f : Nat) : ∀ s : gm_St, s.2.1 ≤ n → (gm_rdN B n f s).2.1 ≤ n := by
  induction f with
  | zero => intro s h; exact h
  | succ f ih =>
    intro s h
    unfold gm_rdN
    split
    · rename_i e; exact ih _ (gm_rm_p e.2).2.1
    · exact h
theorem gm_read_le (M : Nat → Int32) : (gm_read B n M).2.1 ≤ n := gm_rdN_le (M := M) 121 _ (gm_j4_le B n)
theorem gm_read_k {M : Nat → Int32} (h : (gm_read B n M).1 = true) : gm_k4 B n = true := by
  cases e : gm_k4 B n with
  | true => rfl
  | false =>
    unfold gm_read gm_rdN at h
    rw [if_neg (by rintro ⟨z, -⟩; simp only at z; rw [e] at z; cases z)] at h
    simp only at h; rw [e] at h; cases h
/-- the players, the seed that the text names -/
def gm_tp (B : Nat → Nat) : Nat := B 1 - 48
def gm_ts (B : Nat → Nat) : Nat := 10 * (B 2 - 48) + (B 3 - 48)
theorem gm_wo_b {k : Bool} {lo hi : Nat} (h : gm_wo B n k p lo hi = true) : p < n ∧ lo ≤ B p ∧ B p ≤ hi := by
  have l := gm_wo_lt h
  unfold gm_wo at h; simp at h
  have := h.2.2; rw [gm_let_t l] at this; exact ⟨l, this⟩
theorem gm_hd (h : gm_k4 B n = true) : gm_ha B n = nI (gm_tp B) ∧ gm_hbb B n = nI (gm_ts B) ∧ 2 ≤ gm_tp B ∧ gm_tp B ≤ 4 ∧ gm_ts B < 100 := by
  have h3 : gm_k3 B n = true := gm_wo_k h
  have h2 : gm_k2 B n = true := gm_wo_k h3
  have h1 : gm_k1 B n = true := gm_wo_k h2
  have j1 : gm_j1 B n = 1 := by unfold gm_j1; rw [h1]; rfl
  have j2 : gm_j2 B n = 2 := by unfold gm_j2; rw [j1, h2]; rfl
  have j3 : gm_j3 B n = 3 := by unfold gm_j3; rw [j2, h3]; rfl
  have w2 := gm_wo_b h2; have w3 := gm_wo_b h3; have w4 := gm_wo_b h
  rw [j1] at w2; rw [j2] at w3; rw [j3] at w4
  refine ⟨?_, ?_, ?_, ?_, ?_⟩
  · unfold gm_ha gm_tp; rw [j1, gm_let_t w2.1, pk_sub w2.2.1, nI_add]; congr 1; omega
  · unfold gm_hbb gm_hb0 gm_ts; rw [j2, j3, gm_let_t w3.1, gm_let_t w4.1, pk_sub w3.2.1, pk_sub w4.2.1, pk_mul, nI_add]
  · unfold gm_tp; omega
  · unfold gm_tp; omega
  · unfold gm_ts; omega
/-- what is read of moves is a choice each -/
def gm_mvo (s : gm_St) : Prop := ∀ i, i < s.2.2.1 → ∃ q c, s.2.2.2 (2 * i) = nI q ∧ s.2.2.2 (2 * i + 1) = nI c ∧ (q = 6 ∨ (q < 6 ∧ c < 24 ∧ gm_ch q c = true))
theorem gm_rm_ch (h : (gm_rm B n p).1 = true) : ∃ q c, gm_pi (gm_let B n p) = nI q ∧ (gm_rm B n p).2.2 = nI c ∧ (q = 6 ∨ (q < 6 ∧ c < 24 ∧ gm_ch q c = true)) := by
  unfold gm_rm at h ⊢
  split at h
  · rename_i e
    simp only at h
    have w := gm_wo_b h
    refine ⟨2, B (p + 1) - 49 + 1, by rw [gm_pi_n (by omega), e], ?_, .inr ⟨by omega, by omega, ?_⟩⟩
    · rw [if_pos e]; simp only; rw [gm_let_t w.1, pk_sub w.2.1, nI_add]
    · unfold gm_ch; rw [if_pos rfl]; exact decide_eq_true (by omega)
  split at h
  · rename_i e1 e
    simp only at h
    have h3 := gm_wo_k h
    have w := gm_wo_b h
    have w3 := gm_wo_b h3
    rw [h3, show b2n true = 1 from rfl] at w
    refine ⟨3, 10 * (B (p + 1) - 48) + (B (p + 1 + 1) - 49 + 1), by rw [gm_pi_n (by omega), e], ?_, .inr ⟨by omega, by omega, ?_⟩⟩
    · rw [if_neg e1, if_pos e]; simp only; rw [h3, show b2n true = 1 from rfl, gm_let_t w.1, gm_let_t w3.1, pk_sub w.2.1, pk_sub w3.2.1, nI_add, pk_mul, nI_add]
    · unfold gm_ch; rw [if_neg (by omega), if_pos rfl]; exact decide_eq_true (by omega)
  · rename_i e1 e2
    simp only at h
    have e := of_decide_eq_true h
    rw [if_neg e1, if_neg e2]
    have l := gm_pof_lt (gm_let B n p)
    refine ⟨gm_pof (gm_let B n p), 0, gm_pi_n e, rfl, ?_⟩
    by_cases e6 : gm_pof (gm_let B n p) = 6
    · exact .inl e6
    · exact .inr ⟨by omega, by omega, by unfold gm_ch; rw [if_neg e1, if_neg e2]; rfl⟩
theorem gm_mvo_s {s : gm_St} (h : gm_mvo s) : gm_mvo (gm_rs B n s) := by
  intro i hi
  show ∃ q c, va_up (va_up s.2.2.2 (2 * s.2.2.1) (gm_pi (gm_let B n s.2.1))) (2 * s.2.2.1 + 1) (gm_rm B n s.2.1).2.2 (2 * i) = nI q ∧ va_up (va_up s.2.2.2 (2 * s.2.2.1) (gm_pi (gm_let B n s.2.1))) (2 * s.2.2.1 + 1) (gm_rm B n s.2.1).2.2 (2 * i + 1) = nI c ∧ _
  have hi' : i < s.2.2.1 + b2n (gm_rm B n s.2.1).1 := hi
  by_cases e : i = s.2.2.1
  · have e1 : (gm_rm B n s.2.1).1 = true := by
      cases z : (gm_rm B n s.2.1).1 with
      | true => rfl
      | false => rw [z] at hi'; have : i < s.2.2.1 + 0 := hi'; omega
    obtain ⟨q, c, a1, a2, a3⟩ := gm_rm_ch e1
    rw [e]
    refine ⟨q, c, ?_, ?_, a3⟩
    · rw [up_ne (by omega), up_eq]; exact a1
    · rw [up_eq]; exact a2
  · have := b2n_lt (gm_rm B n s.2.1).1
    obtain ⟨q, c, a1, a2, a3⟩ := h i (by omega)
    refine ⟨q, c, ?_, ?_, a3⟩
    · rw [up_ne (by omega), up_ne (by omega)]; exact a1
    · rw [up_ne (by omega), up_ne (by omega)]; exact a2
theorem gm_mvo_r (M : Nat → Int32) : gm_mvo (gm_read B n M) := by
  have key : ∀ f s, gm_mvo s → gm_mvo (gm_rdN B n f s) := by
    intro f
    induction f with
    | zero => intro s h; exact h
    | succ f ih =>
      intro s h
      unfold gm_rdN
      split
      · exact ih _ (gm_mvo_s h)
      · exact h
  exact key 121 _ (fun i hi => by have : i < 0 := hi; omega)
theorem gm_mc_le {M : Nat → Int32} (hn : n ≤ 120) : (gm_read B n M).1 = true → (gm_read B n M).2.2.1 ≤ 116 := by
  have key : ∀ f s, gm_rdi B n M s → ∃ s', gm_rdN B n f s = s' ∧ gm_rdi B n M s' := by
    intro f
    induction f with
    | zero => intro s h; exact ⟨s, rfl, h⟩
    | succ f ih =>
      intro s h
      unfold gm_rdN
      split
      · rename_i e; exact ih _ (gm_rdi_s h e.1 e.2).1
      · exact ⟨s, rfl, h⟩
  obtain ⟨s', e, h⟩ := key 121 _ (gm_rdi_0 hn)
  intro h1
  have e' : gm_read B n M = s' := e
  rw [e'] at h1 ⊢
  have := h.1; have := h.2.1 h1; omega
/-! a game from a text -/
def gm_ldN (z : Bool) (M : Nat → Int32) (S : gm_S) (x : Int64) : Nat → Nat × gm_S × Int64
  | 0 => (0, S, x)
  | k + 1 => ((gm_ldN z M S x k).1 + (gm_lv z (gm_ldN z M S x k).2.1 (gm_ldN z M S x k).2.2 (i2 (M (2 * k))) (i2 (M (2 * k + 1)))).1, (gm_lv z (gm_ldN z M S x k).2.1 (gm_ldN z M S x k).2.2 (i2 (M (2 * k))) (i2 (M (2 * k + 1)))).2)
theorem gm_lv_I {z : Bool} {x : Int64} {q c : Nat} (hI : gm_I K S) (hK : K + 40 < 2 ^ 26) (hK9 : 12 ≤ K) (hqc : q = 6 ∨ (q < 6 ∧ c < 24 ∧ gm_ch q c = true)) : gm_I (K + 40) (gm_lv z S x q c).2.1 := by
  unfold gm_lv
  split
  · split
    · rename_i e; exact gm_I_up (gm_pass_I hI e hK9) (by omega) hK
    · exact gm_I_up hI (by omega) hK
  · rename_i e0
    obtain ⟨a, b, d⟩ := hqc.resolve_left e0
    split
    · rename_i e; exact gm_put_I hI a b d e hK hK9
    · exact gm_I_up hI (by omega) hK
theorem gm_new_I {x : Int64} {p : Nat} (hS : 1 ≤ S 0 ∧ S 0 ≤ 12 ∧ S 1 ≤ 5 ∧ 1 ≤ S 2 ∧ S 2 ≤ 3) (hk : ∀ i, i ≠ 11 → i ≠ 12 → S i ≤ K) (hK : K < 2 ^ 26) (hK9 : 12 ≤ K) (hp2 : 2 ≤ p) (hp : p ≤ 4) : gm_I K (gm_new S p x) := by
  obtain ⟨d1, d2⟩ := gm_die_le (gm_nx x)
  have lo : ∀ i, i < 3 → gm_new S p x i = S i := fun i hi => by unfold gm_new; rw [up_ne (by omega)]; unfold gm_bg; rw [if_pos hi]
  have e3 : gm_new S p x 3 = p := rfl
  have e5 : gm_new S p x 5 = gm_die (gm_nx x) := rfl
  have z : ∀ i, i ≠ 5 → gm_new S p x i = gm_bg S p p i := fun i hi => by unfold gm_new; rw [up_ne hi]
  have b8 : ∀ w, gm_b8 w ≤ 6 := fun w => by unfold gm_b8; (repeat' split) <;> omega
  have pl : ∀ q w, q < p → w < 8 → gm_new S p x (13 + 8 * q + w) = gm_b8 w := fun q w hq hw => by
    rw [z _ (by omega)]
    unfold gm_bg
    rw [if_neg (by omega), if_neg (by omega), if_neg (by omega), if_neg (by omega), if_neg (by omega), if_pos (by omega), show (13 + 8 * q + w - 13) % 8 = w by omega]
  have wz : ∀ i, 45 ≤ i → i < 69 → gm_new S p x i = 0 := fun i h1 h2 => by
    rw [z _ (by omega)]
    unfold gm_bg
    rw [if_neg (by omega), if_neg (by omega), if_neg (by omega), if_neg (by omega), if_neg (by omega), if_neg (by omega), if_pos h2]
  refine ⟨?_, ?_, hK, ?_, .inr ⟨?_, ?_, ?_, ?_, ?_, ?_, ?_, ?_, ?_, ?_, ?_⟩⟩
  · rw [lo 0 (by omega), lo 1 (by omega), lo 2 (by omega)]; exact hS
  · intro i a b
    by_cases e : i = 5
    · subst e; rw [e5]; omega
    · rw [z i e]
      have := b8 ((i - 13) % 8)
      have := hk i a b
      unfold gm_bg; (repeat' split) <;> omega
  · intro q hq; rw [wz _ (by omega) (by omega)]; omega
  · rw [e3]; exact hp2
  · rw [e3]; exact hp
  · rw [e3]; show 0 < p; omega
  · rw [e5]; exact d1
  · rw [e5]; exact d2
  · show 0 ≤ 12; omega
  · intro g hg
    rcases (show g = 0 ∨ g = 1 ∨ g = 2 by omega) with rfl | rfl | rfl
    · show 1 ≤ 3 ∧ 3 ≤ 9; omega
    · show 1 ≤ 3 ∧ 3 ≤ 9; omega
    · show 1 ≤ 6 ∧ 6 ≤ 9; omega
  · rw [e3]; show 0 < p; omega
  · show gm_rdy _ 0 = true
    unfold gm_rdy
    rw [pl 0 6 (by omega) (by omega), pl 0 7 (by omega) (by omega)]; rfl
  · intro q hq
    rw [e3] at hq
    rw [pl q 4 hq (by omega), pl q 5 hq (by omega), pl q 6 hq (by omega), pl q 7 hq (by omega)]
    decide
  · intro q k hq hk; rw [wz _ (by omega) (by omega)] at hk; omega
theorem gm_s0_k (hk : ∀ i, i ≠ 11 → i ≠ 12 → S i ≤ K) (hK9 : 12 ≤ K) : (1 ≤ gm_s0 S 0 ∧ gm_s0 S 0 ≤ 12 ∧ gm_s0 S 1 ≤ 5 ∧ 1 ≤ gm_s0 S 2 ∧ gm_s0 S 2 ≤ 3) ∧ ∀ i, i ≠ 11 → i ≠ 12 → gm_s0 S i ≤ K := by
  refine ⟨by show 1 ≤ 6 ∧ 6 ≤ 12 ∧ 1 ≤ 5 ∧ 1 ≤ 2 ∧ 2 ≤ 3; omega, fun i a b => ?_⟩
  have := hk i a b
  simp only [gm_s0, gm_z0, va_up]; (repeat' split) <;> omega
end SR20
