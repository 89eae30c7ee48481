section CLC
variable {G : sm_G} {h : sm_H} {K n c x k : Nat} {F F2 : Nat → Int32} {X X2 : Nat → Int64} {A A2 : Nat → Nat → Int32} {L L2 : Nat → Nat → Int64} {S S2 : gm_S} {V : mw_V} {B f : Nat → Nat} {y : Int64} {v v2 : gm_S × Int64}
/-! THE RELATION of the reference's object with the market -/
def lc_r (K : Nat) (S : gm_S) (y : Int64) (v : gm_S × Int64) : Prop := gm_L S v.1 ∧ y = v.2 ∧ gm_I K S ∧ gm_I K v.1 ∧ ∀ i, 69 ≤ i → S i = 0
/-- a state in a row of numbers -/
def lc_s (K : Nat) (a : Nat → Int32) (b : Nat) (y : Int64) (v : gm_S × Int64) : Prop := ∃ H : gm_S, lc_r K H y v ∧ ∀ i, i < 69 → a (b + i) = nI (H i)
def lc_t (F : Nat → Int32) (A : Nat → Nat → Int32) (n : Nat) (B : Nat → Nat) : Prop := F 10 = nI n ∧ n ≤ 120 ∧ ∀ i, i < n → A 9 i = nI (B i) ∧ B i < 256
/-- where the class keeps the j-th of c remembered states, the next to be laid at x -/
def lc_j (x c j : Nat) : Nat := (x + 14 - c + j) % 14
def lc_h (K : Nat) (F : Nat → Int32) (A : Nat → Nat → Int32) (L : Nat → Nat → Int64) (V : mw_V) (c x : Nat) : Prop := F 5 = nI c ∧ c ≤ 14 ∧ x < 14 ∧ ∀ j, j < c → lc_s K (A 3) (69 * j) (L 4 j) (V (2 + lc_j x c j))
def lc_o (K : Nat) (A : Nat → Nat → Int32) (L : Nat → Nat → Int64) (V : mw_V) (f : Nat → Nat) : Prop := ∀ k, k < 2 → (f k = 0 ∧ A 8 k = nI 0) ∨ (f k ≠ 0 ∧ A 8 k = nI 1 ∧ lc_s K (A 6) (69 * k) (L 7 k) (V (16 + k)))
def lc (K : Nat) (F : Nat → Int32) (X : Nat → Int64) (A : Nat → Nat → Int32) (S : gm_S) (L : Nat → Nat → Int64) (V : mw_V) (n : Nat) (B : Nat → Nat) (c x : Nat) (f : Nat → Nat) : Prop :=
  lc_t F A n B ∧ lc_r K S (X 2) (V 0) ∧ lc_h K F A L V c x ∧ lc_o K A L V f
theorem lc_r_up {K2 : Nat} (h : lc_r K S y v) (hk : K ≤ K2) (hk2 : K2 < 2 ^ 26) : lc_r K2 S y v := ⟨h.1, h.2.1, gm_I_up h.2.2.1 hk hk2, gm_I_up h.2.2.2.1 hk hk2, h.2.2.2.2⟩
theorem lc_s_up {K2 : Nat} {a : Nat → Int32} {b : Nat} (h : lc_s K a b y v) (hk : K ≤ K2) (hk2 : K2 < 2 ^ 26) : lc_s K2 a b y v := by
  obtain ⟨H, h1, h2⟩ := h
  exact ⟨H, lc_r_up h1 hk hk2, h2⟩
theorem lc_h_up {K2 : Nat} (h : lc_h K F A L V c x) (hk : K ≤ K2) (hk2 : K2 < 2 ^ 26) : lc_h K2 F A L V c x := ⟨h.1, h.2.1, h.2.2.1, fun j hj => lc_s_up (h.2.2.2 j hj) hk hk2⟩
theorem lc_o_up {K2 : Nat} (h : lc_o K A L V f) (hk : K ≤ K2) (hk2 : K2 < 2 ^ 26) : lc_o K2 A L V f := fun k hk9 => by
  rcases h k hk9 with e | ⟨e1, e2, e3⟩
  · exact .inl e
  · exact .inr ⟨e1, e2, lc_s_up e3 hk hk2⟩
theorem lc_up {K2 : Nat} (h : lc K F X A S L V n B c x f) (hk : K ≤ K2) (hk2 : K2 < 2 ^ 26) : lc K2 F X A S L V n B c x f := ⟨h.1, lc_r_up h.2.1 hk hk2, lc_h_up h.2.2.1 hk hk2, lc_o_up h.2.2.2 hk hk2⟩
/-- what lies elsewhere doesn't matter -/
theorem lc_h_of {V2 : mw_V} (h : lc_h K F A L V c x) (h5 : F2 5 = F 5) (h3 : A2 3 = A 3) (h4 : L2 4 = L 4) (hV : ∀ j, j < 14 → V2 (2 + j) = V (2 + j)) : lc_h K F2 A2 L2 V2 c x := by
  refine ⟨h5.trans h.1, h.2.1, h.2.2.1, fun j hj => ?_⟩
  rw [h3, h4, hV (lc_j x c j) (Nat.mod_lt _ (by decide))]; exact h.2.2.2 j hj
theorem lc_o_of {V2 : mw_V} (h : lc_o K A L V f) (h6 : A2 6 = A 6) (h8 : A2 8 = A 8) (h7 : L2 7 = L 7) (hV : ∀ k, k < 2 → V2 (16 + k) = V (16 + k)) : lc_o K A2 L2 V2 f := fun k hk => by
  rw [h6, h8, h7, hV k hk]; exact h k hk
theorem lc_t_of (h : lc_t F A n B) (h10 : F2 10 = F 10) (h9 : A2 9 = A 9) : lc_t F2 A2 n B := ⟨h10.trans h.1, h.2.1, fun i hi => by rw [h9]; exact h.2.2 i hi⟩
/-- nothing that counts has changed -/
theorem lc_same (h : lc K F X A S L V n B c x f) (h10 : F2 10 = F 10) (h5 : F2 5 = F 5) (hX : X2 2 = X 2) (h3 : A2 3 = A 3) (h6 : A2 6 = A 6) (h8 : A2 8 = A 8) (h9 : A2 9 = A 9) (v1 : gm_S × Int64) : lc K F2 X2 A2 S L (va_up V 1 v1) n B c x f :=
  ⟨lc_t_of h.1 h10 h9, by rw [hX]; exact h.2.1, lc_h_of h.2.2.1 h5 h3 rfl (fun j _ => up_ne (by omega)), lc_o_of h.2.2.2 h6 h8 rfl (fun k _ => up_ne (by omega))⟩
theorem lc_j_lt {j : Nat} : lc_j x c j < 14 := Nat.mod_lt _ (by decide)
/-- the state is remembered, and another one stands -/
theorem lc_rem (h : lc K F X A S L V n B c x f) (hr : lc_r K S2 (X2 2) v2) (h10 : F2 10 = F 10) (v1 : gm_S × Int64) : lc K (gm_rmF c F2) X2 (gm_rmA c A S) S2 (gm_rmL c L (X 2)) (va_up (va_up (va_up V (2 + x) (V 0)) 0 v2) 1 v1) n B (mw_ct c) (mw_nx x) f := by
  obtain ⟨ht, hr0, ⟨h5, hc, hx, hh⟩, ho⟩ := h
  have e0 : ∀ k, 2 ≤ k → k ≠ 2 + x → va_up (va_up (va_up V (2 + x) (V 0)) 0 v2) 1 v1 k = V k := fun k h1 h2 => by rw [up_ne (by omega), up_ne (by omega), up_ne h2]
  have e1 : va_up (va_up (va_up V (2 + x) (V 0)) 0 v2) 1 v1 (2 + x) = V 0 := by rw [up_ne (by omega), up_ne (by omega), up_eq]
  refine ⟨⟨by unfold gm_rmF; rw [up_ne (by omega)]; exact h10.trans ht.1, ht.2.1, fun i hi => ?_⟩, by rw [up_ne (by omega), up_eq]; exact hr, ⟨?_, ?_, ?_, fun j hj => ?_⟩, ?_⟩
  · unfold gm_rmA; rw [up_ne (by omega)]; exact ht.2.2 i hi
  · unfold gm_rmF; rw [up_eq]; congr 1; unfold mw_ct; split <;> omega
  · unfold mw_ct; split <;> omega
  · exact mw_nx_lt
  · have hjc : j < c + 1 := by unfold mw_ct at hj; split at hj <;> omega
    have a3 : gm_rmA c A S 3 = gm_w3 (gm_q3 c A) (min c 13) S 69 := up_eq
    have l4 : gm_rmL c L (X 2) 4 = va_up (gm_q4 c L) (min c 13) (X 2) := up_eq
    rw [a3, l4]
    by_cases e : j = min c 13
    · have p : lc_j (mw_nx x) (mw_ct c) j = x := by unfold lc_j mw_nx mw_ct; split <;> split <;> omega
      rw [p, e1, e, up_eq]
      refine ⟨S, hr0, fun i hi => ?_⟩
      unfold gm_w3
      rw [if_pos (by omega)]
      congr 2; omega
    · rw [up_ne e]
      by_cases e14 : c = 14
      · have p : lc_j (mw_nx x) (mw_ct c) j = lc_j x c (j + 1) := by unfold lc_j mw_nx mw_ct; split <;> split <;> omega
        have p2 : lc_j x c (j + 1) ≠ x := by unfold lc_j; omega
        have hj1 : j < 13 := by unfold mw_ct at hj; split at hj <;> omega
        obtain ⟨H, H1, H2⟩ := hh (j + 1) (by omega)
        rw [p, e0 _ (by omega) (by omega)]
        refine ⟨H, ?_, fun i hi => ?_⟩
        · unfold gm_q4 gm_s3; rw [if_pos e14, if_pos hj1]; exact H1
        · unfold gm_w3 gm_q3 gm_s3
          rw [if_neg (by omega), if_pos e14, if_pos (by omega), ← H2 i hi]
          congr 1; omega
      · have p : lc_j (mw_nx x) (mw_ct c) j = lc_j x c j := by unfold lc_j mw_nx mw_ct; split <;> split <;> omega
        have hj1 : j < c := by omega
        have p2 : lc_j x c j ≠ x := by unfold lc_j; omega
        obtain ⟨H, H1, H2⟩ := hh j hj1
        rw [p, e0 _ (by omega) (by omega)]
        refine ⟨H, ?_, fun i hi => ?_⟩
        · unfold gm_q4; rw [if_neg e14]; exact H1
        · unfold gm_w3 gm_q3
          rw [if_neg (by omega), if_neg e14]; exact H2 i hi
  · refine lc_o_of ho (by unfold gm_rmA; rw [up_ne (by omega)]) (by unfold gm_rmA; rw [up_ne (by omega)]) (by unfold gm_rmL; rw [up_ne (by omega)]) (fun k hk => e0 _ (by omega) (by omega))
/-- the last remembered state comes back -/
theorem lc_back (h : lc K F X A S L V n B c x f) (h0 : 0 < c) (h10 : F2 10 = F 10) (h5 : F2 5 = nI (c - 1)) (hX : X2 2 = L 4 (c - 1)) : ∃ H : gm_S, (∀ i, i < 69 → A 3 (69 * (c - 1) + i) = nI (H i)) ∧ (∀ i, 69 ≤ i → S i = H i) ∧ ∀ v1, lc K F2 X2 A H L (va_up (va_up V 0 (V (2 + mw_pv x))) 1 v1) n B (c - 1) (mw_pv x) f := by
  obtain ⟨ht, hr0, ⟨h59, hc, hx, hh⟩, ho⟩ := h
  obtain ⟨H, H1, H2⟩ := hh (c - 1) (by omega)
  have p : lc_j x c (c - 1) = mw_pv x := by unfold lc_j mw_pv; split <;> omega
  rw [p] at H1
  refine ⟨H, H2, fun i hi => by rw [hr0.2.2.2.2 i hi, H1.2.2.2.2 i hi], fun v1 => ⟨lc_t_of ht h10 rfl, by rw [hX, up_ne (by omega), up_eq]; exact H1, ⟨h5, by omega, mw_pv_lt hx, fun j hj => ?_⟩, lc_o_of ho rfl rfl rfl (fun k _ => by rw [up_ne (by omega), up_ne (by omega)])⟩⟩
  have q : lc_j (mw_pv x) (c - 1) j = lc_j x c j := by unfold lc_j mw_pv; split <;> omega
  rw [q, up_ne (by omega), up_ne (by omega)]
  exact hh j (by omega)
/-- the state is laid in a slot -/
theorem lc_save (h : lc K F X A S L V n B c x f) (hk : k < 2) (h10 : F2 10 = F 10) (h5 : F2 5 = F 5) (v1 : gm_S × Int64) : lc K F2 X (gm_svA k A S) S (va_up L 7 (va_up (L 7) k (X 2))) (va_up (va_up V (16 + k) (V 0)) 1 v1) n B c x (va_up f k 1) := by
  obtain ⟨ht, hr0, hh, ho⟩ := h
  refine ⟨⟨h10.trans ht.1, ht.2.1, fun i hi => by unfold gm_svA; rw [up_ne (by omega), up_ne (by omega)]; exact ht.2.2 i hi⟩, by rw [up_ne (by omega), up_ne (by omega)]; exact hr0, lc_h_of hh h5 (by unfold gm_svA; rw [up_ne (by omega), up_ne (by omega)]) (up_ne (by omega)) (fun j _ => by rw [up_ne (by omega), up_ne (by omega)]), fun k9 hk9 => ?_⟩
  have a8 : gm_svA k A S 8 = va_up (A 8) k (nI 1) := up_eq
  have a6 : gm_svA k A S 6 = gm_w3 (A 6) k S 69 := by unfold gm_svA; rw [up_ne (by omega), up_eq]
  rw [a8, a6, up_eq, up_ne (show 16 + k9 ≠ 1 by omega)]
  by_cases e : k9 = k
  · subst e
    rw [up_eq, up_eq, up_eq, up_eq]
    refine .inr ⟨by decide, rfl, S, hr0, fun i hi => ?_⟩
    unfold gm_w3; rw [if_pos (by omega)]; congr 2; omega
  · rw [up_ne e, up_ne e, up_ne e, up_ne (show 16 + k9 ≠ 16 + k by omega)]
    rcases ho k9 hk9 with q | ⟨q1, q2, H, q3, q4⟩
    · exact .inl q
    · refine .inr ⟨q1, q2, H, q3, fun i hi => ?_⟩
      unfold gm_w3; rw [if_neg (by omega)]; exact q4 i hi
/-- the slot's state comes back -/
theorem lc_load (h : lc K F X A S L V n B c x f) (hk : k < 2) (hf : f k ≠ 0) (h10 : F2 10 = F 10) (h5 : F2 5 = nI 0) (hX : X2 2 = L 7 k) : A 8 k = nI 1 ∧ ∃ H : gm_S, gm_L H (V (16 + k)).1 ∧ (∀ i, i < 69 → A 6 (69 * k + i) = nI (H i)) ∧ (∀ i, 69 ≤ i → S i = H i) ∧ ∀ v1, lc K F2 X2 A H L (va_up (va_up V 0 (V (16 + k))) 1 v1) n B 0 x f := by
  obtain ⟨ht, hr0, ⟨h59, hc, hx, hh⟩, ho⟩ := h
  rcases ho k hk with q | ⟨q1, q2, H, q3, q4⟩
  · exact absurd q.1 hf
  · exact ⟨q2, H, q3.1, q4, fun i hi => by rw [hr0.2.2.2.2 i hi, q3.2.2.2.2 i hi], fun v1 => ⟨lc_t_of ht h10 rfl, by rw [hX, up_ne (by omega), up_eq]; exact q3, ⟨h5, by omega, hx, fun j hj => absurd hj (by omega)⟩, lc_o_of ho rfl rfl rfl (fun k _ => by rw [up_ne (by omega), up_ne (by omega)])⟩⟩
end CLC
