section SR19
variable {G : sm_G} {h : sm_H} {m : Nat} {F : Nat → Int32} {X : Nat → Int64} {A : Nat → Nat → Int32} {L : Nat → Nat → Int64} {S : Nat → Nat} {K : Nat} {B : Nat → Nat} {n p mc : Nat}
def gm_RF (F : Nat → Int32) (p : Nat) (k : Bool) (mc : Nat) (a b : Int32) : Nat → Int32 := va_up (va_up (va_up (va_up (va_up F 18 (nI p)) 19 (nI (b2n k))) 23 (nI mc)) 20 a) 21 b
section RF
variable {k k' : Bool} {p' mc' : Nat} {a b a' b' : Int32}
theorem gm_RF_18 : gm_RF F p k mc a b 18 = nI p := by simp [gm_RF, va_up]
theorem gm_RF_19 : gm_RF F p k mc a b 19 = nI (b2n k) := by simp [gm_RF, va_up]
theorem gm_RF_20 : gm_RF F p k mc a b 20 = a := by simp [gm_RF, va_up]
theorem gm_RF_21 : gm_RF F p k mc a b 21 = b := by simp [gm_RF, va_up]
theorem gm_RF_23 : gm_RF F p k mc a b 23 = nI mc := by simp [gm_RF, va_up]
theorem gm_RF_o {i : Nat} (h : i < 18) : gm_RF F p k mc a b i = F i := by unfold gm_RF; rw [up_ne (by omega), up_ne (by omega), up_ne (by omega), up_ne (by omega), up_ne (by omega)]
theorem gm_RF_w : va_up (va_up (gm_RF F p k mc a b) 19 (nI (b2n k'))) 18 (nI p') = gm_RF F p' k' mc a b := by funext i; unfold gm_RF va_up; (repeat' split) <;> first | rfl | omega
theorem gm_RF_u20 : va_up (gm_RF F p k mc a b) 20 a' = gm_RF F p k mc a' b := by funext i; unfold gm_RF va_up; (repeat' split) <;> first | rfl | omega
theorem gm_RF_u21 : va_up (gm_RF F p k mc a b) 21 b' = gm_RF F p k mc a b' := by funext i; unfold gm_RF va_up; (repeat' split) <;> first | rfl | omega
theorem gm_RF_0 : va_up (va_up (va_up F 18 (nI 0)) 19 (nI 1)) 23 (nI 0) = gm_RF F 0 true 0 (F 20) (F 21) := by
  funext i; unfold gm_RF va_up; (repeat' split) <;> first | rfl | omega | (subst_vars; first | rfl | omega)
theorem gm_RF_m : gm_rmF' (gm_RF F p k mc a b) B n p mc = gm_RF F (gm_rm B n p).2.1 (gm_rm B n p).1 (mc + b2n (gm_rm B n p).1) a b := by
  unfold gm_rmF'; funext i; unfold gm_RF va_up; (repeat' split) <;> first | rfl | omega
end RF
def gm_k1 (B : Nat → Nat) (n : Nat) : Bool := gm_wo B n true 0 83 83
def gm_j1 (B : Nat → Nat) (n : Nat) : Nat := 0 + b2n (gm_k1 B n)
def gm_k2 (B : Nat → Nat) (n : Nat) : Bool := gm_wo B n (gm_k1 B n) (gm_j1 B n) 50 52
def gm_j2 (B : Nat → Nat) (n : Nat) : Nat := gm_j1 B n + b2n (gm_k2 B n)
def gm_k3 (B : Nat → Nat) (n : Nat) : Bool := gm_wo B n (gm_k2 B n) (gm_j2 B n) 48 57
def gm_j3 (B : Nat → Nat) (n : Nat) : Nat := gm_j2 B n + b2n (gm_k3 B n)
def gm_k4 (B : Nat → Nat) (n : Nat) : Bool := gm_wo B n (gm_k3 B n) (gm_j3 B n) 48 57
def gm_j4 (B : Nat → Nat) (n : Nat) : Nat := gm_j3 B n + b2n (gm_k4 B n)
def gm_ha (B : Nat → Nat) (n : Nat) : Int32 := nI (gm_let B n (gm_j1 B n)) - nI 50 + nI 2
def gm_hb0 (B : Nat → Nat) (n : Nat) : Int32 := nI 10 * (nI (gm_let B n (gm_j2 B n)) - nI 48)
def gm_hbb (B : Nat → Nat) (n : Nat) : Int32 := gm_hb0 B n + (nI (gm_let B n (gm_j3 B n)) - nI 48)
theorem gm_j1_le (B : Nat → Nat) (n : Nat) : gm_j1 B n ≤ n := gm_wo_p (Nat.zero_le _)
theorem gm_j2_le (B : Nat → Nat) (n : Nat) : gm_j2 B n ≤ n := gm_wo_p (gm_j1_le B n)
theorem gm_j3_le (B : Nat → Nat) (n : Nat) : gm_j3 B n ≤ n := gm_wo_p (gm_j2_le B n)
theorem gm_j4_le (B : Nat → Nat) (n : Nat) : gm_j4 B n ≤ n := gm_wo_p (gm_j3_le B n)
theorem gm_wo_k {k : Bool} {lo hi : Nat} (h : gm_wo B n k p lo hi = true) : k = true := by unfold gm_wo at h; simp at h; exact h.1
theorem gm_j4_4 (h : gm_k4 B n = true) : gm_j4 B n = 4 := by
  have h3 : gm_k3 B n = true := gm_wo_k h
  have h2 : gm_k2 B n = true := gm_wo_k h3
  have h1 : gm_k1 B n = true := gm_wo_k h2
  unfold gm_j4 gm_j3 gm_j2 gm_j1; rw [h, h3, h2, h1]; rfl
/-- ok, place, moves, the moves -/
abbrev gm_St : Type := Bool × Nat × Nat × (Nat → Int32)
def gm_rs (B : Nat → Nat) (n : Nat) (s : gm_St) : gm_St := ((gm_rm B n s.2.1).1, (gm_rm B n s.2.1).2.1, s.2.2.1 + b2n (gm_rm B n s.2.1).1, va_up (va_up s.2.2.2 (2 * s.2.2.1) (gm_pi (gm_let B n s.2.1))) (2 * s.2.2.1 + 1) (gm_rm B n s.2.1).2.2)
def gm_rdN (B : Nat → Nat) (n : Nat) : Nat → gm_St → gm_St
  | 0, s => s
  | f + 1, s => if s.1 = true ∧ s.2.1 < n then gm_rdN B n f (gm_rs B n s) else s
def gm_read (B : Nat → Nat) (n : Nat) (M : Nat → Int32) : gm_St := gm_rdN B n 121 (gm_k4 B n, gm_j4 B n, 0, M)
def gm_rdi (B : Nat → Nat) (n : Nat) (M : Nat → Int32) (s : gm_St) : Prop := s.2.1 ≤ n ∧ (s.1 = true → s.2.2.1 + 4 ≤ s.2.1) ∧ ∃ f, (s.1 = false ∨ n ≤ s.2.1 + f) ∧ gm_rdN B n f s = gm_read B n M
theorem gm_rdi_0 {M : Nat → Int32} (hn : n ≤ 120) : gm_rdi B n M (gm_k4 B n, gm_j4 B n, 0, M) := ⟨gm_j4_le B n, fun h => by have := gm_j4_4 h; show 0 + 4 ≤ gm_j4 B n; omega, 121, .inr (by omega), rfl⟩
theorem gm_rm_p (hp : p < n) : p ≤ (gm_rm B n p).2.1 ∧ (gm_rm B n p).2.1 ≤ n ∧ ((gm_rm B n p).1 = true → p + 1 ≤ (gm_rm B n p).2.1) := by
  unfold gm_rm
  split
  · have := gm_wo_p (B := B) (k := true) (lo := 49) (hi := 51) (show p + 1 ≤ n by omega)
    exact ⟨by simp only; omega, this, fun _ => by simp only; omega⟩
  split
  · have w1 := gm_wo_p (B := B) (k := true) (lo := 48) (hi := 50) (show p + 1 ≤ n by omega)
    have w2 := gm_wo_p (B := B) (k := gm_wo B n true (p + 1) 48 50) (lo := 49) (hi := 51) w1
    exact ⟨by simp only; omega, w2, fun _ => by simp only; omega⟩
  · unfold gm_p1
    cases e : gm_o1 B n p with
    | true => exact ⟨by show p ≤ p + 1; omega, by show p + 1 ≤ n; omega, fun _ => by show p + 1 ≤ p + 1; omega⟩
    | false => exact ⟨by show p ≤ p + 0; omega, by show p + 0 ≤ n; omega, fun z => by cases z⟩
theorem gm_rdi_s {M : Nat → Int32} {s : gm_St} (h : gm_rdi B n M s) (h1 : s.1 = true) (h2 : s.2.1 < n) : gm_rdi B n M (gm_rs B n s) ∧ 2 * (n - (gm_rs B n s).2.1) + b2n (gm_rs B n s).1 < 2 * (n - s.2.1) + b2n s.1 := by
  obtain ⟨a, b, f, c, d⟩ := h
  obtain ⟨p1, p2, p3⟩ := gm_rm_p (B := B) h2
  have b4 := b h1
  refine ⟨⟨p2, fun z => ?_, f - 1, ?_, ?_⟩, ?_⟩
  · have q3 := p3 z
    show s.2.2.1 + b2n (gm_rm B n s.2.1).1 + 4 ≤ (gm_rm B n s.2.1).2.1
    have : b2n (gm_rm B n s.2.1).1 ≤ 1 := by have := b2n_lt (gm_rm B n s.2.1).1; omega
    omega
  · cases e : (gm_rm B n s.2.1).1 with
    | false => exact .inl e
    | true =>
      have q3 := p3 e
      rcases c with c | c
      · rw [c] at h1; cases h1
      · exact .inr (by show n ≤ (gm_rm B n s.2.1).2.1 + (f - 1); omega)
  · rcases c with c | c
    · rw [c] at h1; cases h1
    · obtain ⟨g, rfl⟩ : ∃ g, f = g + 1 := ⟨f - 1, by omega⟩
      rw [← d]
      show gm_rdN B n g _ = _
      conv => rhs; unfold gm_rdN
      rw [if_pos ⟨h1, h2⟩]
  · show 2 * (n - (gm_rm B n s.2.1).2.1) + b2n (gm_rm B n s.2.1).1 < _
    rw [h1, show b2n true = 1 from rfl]
    cases e : (gm_rm B n s.2.1).1 with
    | false => rw [show b2n false = 0 from rfl]; omega
    | true => have q3 := p3 e; rw [show b2n true = 1 from rfl]; omega
theorem gm_rdi_e {M : Nat → Int32} {s : gm_St} (h : gm_rdi B n M s) (h1 : ¬ (s.1 = true ∧ s.2.1 < n)) : gm_read B n M = s := by
  obtain ⟨a, b, f, c, d⟩ := h
  rw [← d]
  cases f with
  | zero => rfl
  | succ f => unfold gm_rdN; rw [if_neg h1]
def gm_rans (s : gm_St) : Int32 := if s.1 = true then -1 else nI s.2.1
theorem sv_rec {σ : Type} {M : sm_M} {R : Room} {Z : sm_Z} {cells slots pc : Nat} (μ : σ → Nat) {I : σ → Prop} {lv : σ → List (Nat × Value)} {hp : σ → sm_H} (s : σ) (h0 : I s) (st : ∀ s, I s → (∀ s', μ s' < μ s → I s' → sm_V G M R Z cells slots pc (lv s') [] (hp s')) → sm_V G M R Z cells slots pc (lv s) [] (hp s)) : sm_V G M R Z cells slots pc (lv s) [] (hp s) := by
  have key : ∀ k s, μ s < k → I s → sm_V G M R Z cells slots pc (lv s) [] (hp s) := by
    intro k
    induction k with
    | zero => intro s h; omega
    | succ k ih => intro s h hs; exact st s hs (fun s' h' => ih s' (by omega))
  exact key (μ s + 1) s (by omega) h0
/-- the reference while the text is read -/
def gm_rh (G : sm_G) (h : sm_H) (m : Nat) (F : Nat → Int32) (X : Nat → Int64) (A : Nat → Nat → Int32) (S : gm_S) (L : Nat → Nat → Int64) (a b : Int32) (s : gm_St) : sm_H := sm_om G h m (gm_RF F s.2.1 s.1 s.2.2.1 a b) X (sm_as (va_up A 22 s.2.2.2) S) L
theorem gm_rh_s {a b : Int32} {s : gm_St} : sm_om G h m (gm_rmF' (gm_RF F s.2.1 s.1 s.2.2.1 a b) B n s.2.1 s.2.2.1) X (sm_as (gm_rmA' (va_up A 22 s.2.2.2) B n s.2.1 s.2.2.1) S) L = gm_rh G h m F X A S L a b (gm_rs B n s) := by
  unfold gm_rh
  rw [gm_RF_m]
  unfold gm_rmA'
  rw [up_eq, up_up]
  rfl
theorem c6_reads (h10 : F 10 = nI n) (hn : n ≤ 120) (hB : ∀ i, i < n → A 9 i = nI (B i)) (hB2 : ∀ i, i < n → B i < 256) : sm_F G mX6_reads 3 [.ref m] (sm_om G h m F X (sm_as A S) L) (.inl (some (.int (gm_rans (gm_read B n (A 22)))))) (gm_rh G h m F X A S L (gm_ha B n) (gm_hbb B n) (gm_read B n (A 22))) := by
  unfold sm_F sm_C
  show sm_V G _ _ _ 0 0 0 [(0, .ref m)] [] _
  refine sv_aload_n dX6_reads_0 rfl ?_
  refine sv_iconst (nI 0) dX6_reads_1 (by decide) ?_
  refine rm_put18 rfl dX6_reads_2 ?_
  refine sv_aload_n dX6_reads_5 rfl ?_
  refine sv_iconst (nI 1) dX6_reads_6 (by decide) ?_
  refine rm_put19 rfl dX6_reads_7 (nar_b (by decide)) (fit_b (by decide)) ?_
  refine sv_aload_n dX6_reads_10 rfl ?_
  refine sv_iconst (nI 0) dX6_reads_11 (by decide) ?_
  refine rm_put23 rfl dX6_reads_12 ?_
  refine sv_heap (h' := (sm_om G h m (gm_RF F 0 true 0 (F 20) (F 21)) X (sm_as A S) L)) (om_FXAL gm_RF_0 rfl rfl rfl) ?_
  refine sv_aload_n dX6_reads_15 rfl ?_
  refine sv_bipush (nI 83) dX6_reads_16 (by decide) ?_
  refine sv_bipush (nI 83) dX6_reads_18 (by decide) ?_
  refine sv_callV (As := [_, _]) sc_X6_187 (c6_wants (F := (gm_RF F 0 true 0 (F 20) (F 21))) (p := 0) (k := true) gm_RF_18 ((gm_RF_o (by omega)).trans h10) hn (Nat.zero_le _) hB hB2 gm_RF_19 (by omega) (by omega)) rfl rfl (Nat.le_of_ble_eq_true rfl) dX6_reads_20 ⟨by decide, by decide⟩ ⟨Nat.le_refl _, Nat.le_refl _⟩ (Nat.le_of_ble_eq_true rfl) om_0 (List.cons_ne_nil _ _) rfl ?_
  refine sv_heap (h' := (sm_om G h m (gm_RF F (gm_j1 B n) (gm_k1 B n) 0 (F 20) (F 21)) X (sm_as A S) L)) (om_FXAL gm_RF_w rfl rfl rfl) ?_
  refine sv_pop dX6_reads_23 rfl ?_
  refine sv_aload_n dX6_reads_24 rfl ?_
  refine sv_aload_n dX6_reads_25 rfl ?_
  refine sv_bipush (nI 50) dX6_reads_26 (by decide) ?_
  refine sv_bipush (nI 52) dX6_reads_28 (by decide) ?_
  refine sv_callV (As := [_, _]) sc_X6_187 (c6_wants (F := (gm_RF F (gm_j1 B n) (gm_k1 B n) 0 (F 20) (F 21))) (p := gm_j1 B n) (k := gm_k1 B n) gm_RF_18 ((gm_RF_o (by omega)).trans h10) hn (gm_j1_le B n) hB hB2 gm_RF_19 (by omega) (by omega)) rfl rfl (Nat.le_of_ble_eq_true rfl) dX6_reads_30 ⟨by decide, by decide⟩ ⟨Nat.le_refl _, Nat.le_refl _⟩ (Nat.le_of_ble_eq_true rfl) om_0 (List.cons_ne_nil _ _) rfl ?_
  refine sv_heap (h' := (sm_om G h m (gm_RF F (gm_j2 B n) (gm_k2 B n) 0 (F 20) (F 21)) X (sm_as A S) L)) (om_FXAL gm_RF_w rfl rfl rfl) ?_
  refine sv_iconst (nI 2) dX6_reads_33 (by decide) ?_
  refine sv_iadd dX6_reads_34 ?_
  refine rm_put20 rfl dX6_reads_35 ?_
  refine sv_heap (h' := (sm_om G h m (gm_RF F (gm_j2 B n) (gm_k2 B n) 0 (gm_ha B n) (F 21)) X (sm_as A S) L)) (om_FXAL gm_RF_u20 rfl rfl rfl) ?_
  refine sv_aload_n dX6_reads_38 rfl ?_
  refine sv_bipush (nI 10) dX6_reads_39 (by decide) ?_
  refine sv_aload_n dX6_reads_41 rfl ?_
  refine sv_bipush (nI 48) dX6_reads_42 (by decide) ?_
  refine sv_bipush (nI 57) dX6_reads_44 (by decide) ?_
  refine sv_callV (As := [_, _]) sc_X6_187 (c6_wants (F := (gm_RF F (gm_j2 B n) (gm_k2 B n) 0 (gm_ha B n) (F 21))) (p := gm_j2 B n) (k := gm_k2 B n) gm_RF_18 ((gm_RF_o (by omega)).trans h10) hn (gm_j2_le B n) hB hB2 gm_RF_19 (by omega) (by omega)) rfl rfl (Nat.le_of_ble_eq_true rfl) dX6_reads_46 ⟨by decide, by decide⟩ ⟨Nat.le_refl _, Nat.le_refl _⟩ (Nat.le_of_ble_eq_true rfl) om_0 (List.cons_ne_nil _ _) rfl ?_
  refine sv_heap (h' := (sm_om G h m (gm_RF F (gm_j3 B n) (gm_k3 B n) 0 (gm_ha B n) (F 21)) X (sm_as A S) L)) (om_FXAL gm_RF_w rfl rfl rfl) ?_
  refine sv_imul dX6_reads_49 ?_
  refine rm_put21 rfl dX6_reads_50 ?_
  refine sv_heap (h' := (sm_om G h m (gm_RF F (gm_j3 B n) (gm_k3 B n) 0 (gm_ha B n) (gm_hb0 B n)) X (sm_as A S) L)) (om_FXAL gm_RF_u21 rfl rfl rfl) ?_
  refine sv_aload_n dX6_reads_53 rfl ?_
  refine sv_dup dX6_reads_54 rfl ?_
  refine rm_get21 rfl dX6_reads_55 ?_
  refine sv_top (gm_hb0 B n) (gm_RF_21) ?_
  refine sv_aload_n dX6_reads_58 rfl ?_
  refine sv_bipush (nI 48) dX6_reads_59 (by decide) ?_
  refine sv_bipush (nI 57) dX6_reads_61 (by decide) ?_
  refine sv_callV (As := [_, _]) sc_X6_187 (c6_wants (F := (gm_RF F (gm_j3 B n) (gm_k3 B n) 0 (gm_ha B n) (gm_hb0 B n))) (p := gm_j3 B n) (k := gm_k3 B n) gm_RF_18 ((gm_RF_o (by omega)).trans h10) hn (gm_j3_le B n) hB hB2 gm_RF_19 (by omega) (by omega)) rfl rfl (Nat.le_of_ble_eq_true rfl) dX6_reads_63 ⟨by decide, by decide⟩ ⟨Nat.le_refl _, Nat.le_refl _⟩ (Nat.le_of_ble_eq_true rfl) om_0 (List.cons_ne_nil _ _) rfl ?_
  refine sv_heap (h' := (sm_om G h m (gm_RF F (gm_j4 B n) (gm_k4 B n) 0 (gm_ha B n) (gm_hb0 B n)) X (sm_as A S) L)) (om_FXAL gm_RF_w rfl rfl rfl) ?_
  refine sv_iadd dX6_reads_66 ?_
  refine rm_put21 rfl dX6_reads_67 ?_
  refine sv_heap (h' := (gm_rh G h m F X A S L (gm_ha B n) (gm_hbb B n) (gm_k4 B n, gm_j4 B n, 0, A 22))) (by rw [gm_RF_u21]; exact om_FXAL rfl rfl (by rw [show va_up A 22 (A 22) = A from up_id _ _]) rfl) (sv_sub [0] rfl (sv_rec (pc := 70) (fun s : gm_St => 2 * (n - s.2.1) + b2n s.1) (I := gm_rdi B n (A 22)) (lv := fun _ => [(0, .ref m)]) (hp := fun s => (gm_rh G h m F X A S L (gm_ha B n) (gm_hbb B n) s)) (gm_k4 B n, gm_j4 B n, 0, A 22) (gm_rdi_0 hn) ?_))
  · intro s hi ih
    show sm_V G _ _ _ _ _ _ [(0, .ref m)] [] (gm_rh G h m F X A S L (gm_ha B n) (gm_hbb B n) s)
    have i1 := hi.1
    refine sv_aload_n dX6_reads_70 rfl ?_
    refine rm_get19 rfl dX6_reads_71 ?_
    refine sv_top (nI (b2n s.1)) (gm_RF_19) ?_
    refine sv_ifN_eq 95 dX6_reads_74 (by decide) (by first | omega | exact Nat.lt_trans (b2n_lt _) (by decide)) (fun c_74 => ?_) (fun c_74 => ?_)
    · refine sv_aload_n dX6_reads_95 rfl ?_
      refine rm_get19 rfl dX6_reads_96 ?_
      refine sv_top (nI (b2n s.1)) (gm_RF_19) ?_
      refine sv_ifN_eq 106 dX6_reads_99 (by decide) (by first | omega | exact Nat.lt_trans (b2n_lt _) (by decide)) (fun c_99 => ?_) (fun c_99 => ?_)
      · refine sv_aload_n dX6_reads_106 rfl ?_
        refine rm_get18 rfl dX6_reads_107 ?_
        refine sv_top (nI s.2.1) (gm_RF_18) ?_
        refine sv_iret dX6_reads_110 rfl rfl (Nat.le_refl _) (Nat.le_refl _) ?_
        have ef := gm_rdi_e hi (fun z => by rw [b2n_f c_74] at z; cases z.1)
        exact ⟨rI (by rw [ef]; unfold gm_rans; rw [if_neg (ne_t (b2n_f c_99))]), by rw [ef]; rfl⟩
      · refine sv_iconst (-1) dX6_reads_102 (by decide) ?_
        refine sv_goto 110 dX6_reads_103 (by decide) ?_
        refine sv_iret dX6_reads_110 rfl rfl (Nat.le_refl _) (Nat.le_refl _) ?_
        have ef := gm_rdi_e hi (fun z => by rw [b2n_f c_74] at z; cases z.1)
        exact ⟨rI (by rw [ef]; unfold gm_rans; rw [if_pos (b2n_1 c_99)]), by rw [ef]; rfl⟩
    · refine sv_aload_n dX6_reads_77 rfl ?_
      refine rm_get18 rfl dX6_reads_78 ?_
      refine sv_top (nI s.2.1) (gm_RF_18) ?_
      refine sv_aload_n dX6_reads_81 rfl ?_
      refine rm_get10 rfl dX6_reads_82 ?_
      refine sv_top (nI n) ((gm_RF_o (by omega)).trans h10) ?_
      refine sv_icmpN_ge 95 dX6_reads_85 (by decide) (by first | omega | exact Nat.lt_trans (b2n_lt _) (by decide)) (by first | omega | exact Nat.lt_trans (b2n_lt _) (by decide)) (fun c_85 => ?_) (fun c_85 => ?_)
      · refine sv_aload_n dX6_reads_95 rfl ?_
        refine rm_get19 rfl dX6_reads_96 ?_
        refine sv_top (nI (b2n s.1)) (gm_RF_19) ?_
        refine sv_ifN_eq 106 dX6_reads_99 (by decide) (by first | omega | exact Nat.lt_trans (b2n_lt _) (by decide)) (fun c_99 => ?_) (fun c_99 => ?_)
        · refine sv_aload_n dX6_reads_106 rfl ?_
          refine rm_get18 rfl dX6_reads_107 ?_
          refine sv_top (nI s.2.1) (gm_RF_18) ?_
          refine sv_iret dX6_reads_110 rfl rfl (Nat.le_refl _) (Nat.le_refl _) ?_
          have ef := gm_rdi_e hi (fun z => by have := z.2; omega)
          exact ⟨rI (by rw [ef]; unfold gm_rans; rw [if_neg (ne_t (b2n_f c_99))]), by rw [ef]; rfl⟩
        · refine sv_iconst (-1) dX6_reads_102 (by decide) ?_
          refine sv_goto 110 dX6_reads_103 (by decide) ?_
          refine sv_iret dX6_reads_110 rfl rfl (Nat.le_refl _) (Nat.le_refl _) ?_
          have ef := gm_rdi_e hi (fun z => by have := z.2; omega)
          exact ⟨rI (by rw [ef]; unfold gm_rans; rw [if_pos (b2n_1 c_99)]), by rw [ef]; rfl⟩
      · refine sv_aload_n dX6_reads_88 rfl ?_
        refine sv_callV (As := []) sc_X6_199 (c6_readsMove gm_RF_18 ((gm_RF_o (by omega)).trans h10) hn (by omega) (fun i hi9 => by rw [up_ne (by omega)]; exact hB i hi9) hB2 gm_RF_23 (by have := hi.2.1 (b2n_1 c_74); omega)) rfl rfl (Nat.le_of_ble_eq_true rfl) dX6_reads_89 ⟨by decide, by decide⟩ ⟨Nat.le_refl _, Nat.le_refl _⟩ (Nat.le_of_ble_eq_true rfl) om_0 (List.cons_ne_nil _ _) rfl ?_
        refine sv_goto 70 dX6_reads_92 (by decide) ?_
        exact sv_sub [0] rfl (sv_heap gm_rh_s (ih _ (gm_rdi_s hi (b2n_1 c_74) c_85).2 (gm_rdi_s hi (b2n_1 c_74) c_85).1))
end SR19
