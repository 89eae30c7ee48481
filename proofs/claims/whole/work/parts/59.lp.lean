section CLP
variable {G : sm_G} {K n c x : Nat} {F : Nat → Int32} {X : Nat → Int64} {A : Nat → Nat → Int32} {L : Nat → Nat → Int64} {S : gm_S} {V : mw_V} {B f : Nat → Nat} {Mx Mr : sm_M} {As : List Value}
/-! ONE CALL on both sides: what throws, throws alike, and what is answered is the same -/
def lR (G : sm_G) (h : sm_H) (m K k : Nat) (a : Int32) (V : mw_V) (t : mw_T) : sm_Q := fun r1 h1 => r1 = .inl (some (.int a)) ∧ ∃ F2 X2 A2 S2 L2, h1 = sm_om G h m F2 X2 (sm_as A2 S2) L2 ∧ F2 0 = nI k ∧ ∀ v1, lc K F2 X2 A2 S2 L2 (va_up V 1 v1) t.1 t.2.1 t.2.2.1 t.2.2.2.1 t.2.2.2.2
def lp (G : sm_G) (K : Nat) (Mx Mr : sm_M) (As : List Value) (F : Nat → Int32) (X : Nat → Int64) (A : Nat → Nat → Int32) (S : gm_S) (L : Nat → Nat → Int64) (V : mw_V) (t : mw_T) : Prop :=
  ∃ (k : Nat) (a : Int32) (V2 : mw_V) (t2 : mw_T) (d : Nat), k ≤ 3 ∧ d ≤ 9 ∧
  (∀ (h : sm_H) (m o : Nat) (R : mw_R) (O : Nat → Int64), h 0 = none → 0 < m → h o = some (sm_aj G 1 O) → (o < m ∨ m + 493 ≤ o) → sm_C G Mx 8 1 6 (.ref m :: (As ++ [.ref o])) (mw G h m V R t) (lQ G h m o k a.toInt64 V2 t2)) ∧
  (∀ (h : sm_H) (m : Nat), sm_C G Mr d 0 0 (.ref m :: As) (sm_om G h m F X (sm_as A S) L) (lR G h m (K + 5000) k a V2 t2))
theorem va_idX : va_up X 2 (X 2) = X := by
  funext k; unfold va_up; split
  · rename_i e; rw [e]
  · rfl
theorem lc.K2 (hl : lc K F X A S L V n B c x f) (hK : K + 60000 < 2 ^ 26) : lc (K + 5000) F X A S L V n B c x f := lc_up hl (by omega) (by omega)
/-- nothing but a number told: a throw -/
theorem lp_no (hl : lc K F X A S L V n B c x f) (hK : K + 60000 < 2 ^ 26) (k d : Nat) (hk : k ≤ 3) (hd : d ≤ 9)
    (hx : ∀ (h : sm_H) (m o : Nat) (R : mw_R) (O : Nat → Int64), h 0 = none → 0 < m → h o = some (sm_aj G 1 O) → (o < m ∨ m + 493 ≤ o) → sm_C G Mx 8 1 6 (.ref m :: (As ++ [.ref o])) (mw G h m V R (n, B, c, x, f)) (lQ G h m o k (nI 0).toInt64 V (n, B, c, x, f)))
    (hr : ∀ (h : sm_H) (m : Nat), sm_F G Mr d (.ref m :: As) (sm_om G h m F X (sm_as A S) L) (.inl (some (.int (nI 0)))) (sm_om G h m (va_up F 0 (nI k)) X (sm_as A S) L)) : lp G K Mx Mr As F X A S L V (n, B, c, x, f) :=
  ⟨k, nI 0, V, (n, B, c, x, f), d, hk, hd, hx, fun h m => sm_Cm (hr h m) (fun r1 h1 q => ⟨q.1, _, _, _, _, _, q.2, up_eq, fun v1 => lc_same (hl.K2 hK) (up_ne (by decide)) (up_ne (by decide)) rfl rfl rfl rfl rfl v1⟩)⟩
/-- a question: the game stands -/
theorem lp_q (hl : lc K F X A S L V n B c x f) (hK : K + 60000 < 2 ^ 26) (a : Int32) (d : Nat) (hd : d ≤ 9) (V2 : mw_V) (hV : ∀ v1, va_up V2 1 v1 = va_up V 1 v1)
    (hx : ∀ (h : sm_H) (m o : Nat) (R : mw_R) (O : Nat → Int64), h 0 = none → 0 < m → h o = some (sm_aj G 1 O) → (o < m ∨ m + 493 ≤ o) → sm_C G Mx 8 1 6 (.ref m :: (As ++ [.ref o])) (mw G h m V R (n, B, c, x, f)) (lQ G h m o 0 a.toInt64 V2 (n, B, c, x, f)))
    (hr : ∀ (h : sm_H) (m : Nat), sm_C G Mr d 0 0 (.ref m :: As) (sm_om G h m F X (sm_as A S) L) (fun r1 h1 => r1 = .inl (some (.int a)) ∧ ∃ F2 X2 A2, h1 = sm_om G h m F2 X2 (sm_as A2 S) L ∧ F2 0 = nI 0 ∧ F2 10 = F 10 ∧ F2 5 = F 5 ∧ X2 2 = X 2 ∧ A2 3 = A 3 ∧ A2 6 = A 6 ∧ A2 8 = A 8 ∧ A2 9 = A 9)) : lp G K Mx Mr As F X A S L V (n, B, c, x, f) :=
  ⟨0, a, V2, (n, B, c, x, f), d, by decide, hd, hx, fun h m => sm_Cm (hr h m) (fun r1 h1 q => by
    obtain ⟨q0, F2, X2, A2, q1, q2, q3, q4, q5, q6, q7, q8, q9⟩ := q
    exact ⟨q0, F2, X2, A2, S, L, q1, q2, fun v1 => by rw [hV]; exact lc_same (hl.K2 hK) q3 q4 q5 q6 q7 q8 q9 v1⟩)⟩
theorem lp_qF (hl : lc K F X A S L V n B c x f) (hK : K + 60000 < 2 ^ 26) (a : Int32) (d : Nat) (hd : d ≤ 9)
    (hx : ∀ (h : sm_H) (m o : Nat) (R : mw_R) (O : Nat → Int64), h 0 = none → 0 < m → h o = some (sm_aj G 1 O) → (o < m ∨ m + 493 ≤ o) → sm_C G Mx 8 1 6 (.ref m :: (As ++ [.ref o])) (mw G h m V R (n, B, c, x, f)) (lQ G h m o 0 a.toInt64 V (n, B, c, x, f)))
    (hr : ∀ (h : sm_H) (m : Nat), sm_F G Mr d (.ref m :: As) (sm_om G h m F X (sm_as A S) L) (.inl (some (.int a))) (sm_om G h m (va_up F 0 (nI 0)) X (sm_as A S) L)) : lp G K Mx Mr As F X A S L V (n, B, c, x, f) :=
  lp_q hl hK a d hd V (fun _ => rfl) hx (fun h m => sm_Cm (hr h m) (fun r1 h1 q => ⟨q.1, _, _, _, q.2, up_eq, up_ne (by decide), up_ne (by decide), rfl, rfl, rfl, rfl, rfl⟩))
theorem nI_m1i : (-1 : Int32) = -1 := rfl
theorem i32_of {w : Int32} (h : 0 ≤ w) : ∃ k, w = nI k ∧ k < 2 ^ 31 := by
  have h0 : (0 : Int) ≤ w.toInt := Int32.le_iff_toInt_le.mp h
  have h1 := w.toInt_lt
  refine ⟨w.toInt.toNat, Int32.toInt_inj.mp ?_, by omega⟩
  rw [nI_toInt (by omega)]; omega

theorem lp_about (hl : lc K F X A S L V n B c x f) (hK : K + 60000 < 2 ^ 26) (h12 : 12 ≤ K) (w : Int32) : lp G K mL_about mX6_about [.int w] F X A S L V (n, B, c, x, f) := by
  have hI := hl.2.1.2.2.1
  have hJ := hl.2.1.2.2.2.1
  have hL := hl.2.1.1
  have hx2 := hl.2.1.2.1
  have hK9 : 12 ≤ K := h12
  have hI3 : S 3 < 2 ^ 31 := by have := hI.2.1 3 (by decide) (by decide); have := hI.2.2.1; omega
  cases hw : gm_in (nI 0) w (nI 11) with
  | false =>
    exact lp_no hl hK 1 3 (by decide) (by decide) (fun h m o R O h0 hm ho hom => wL_about1 ho hom (k5_about1 hw h0 hm) _) (fun h m => (by have e : an_about S w = (nI 1, nI 0) := (if_neg (ne_t hw)); have q := c6_about (G := G) (h := h) (m := m) (F := F) (X := X) (A := A) (L := L) (S := S) (w := w) hI; rw [e] at q; exact q))
  | true =>
    obtain ⟨k, rfl, -, hk⟩ := gm_in_k (by decide) (by decide) hw
    exact lp_qF hl hK (gm_abo S k) 3 (by decide) (fun h m o R O h0 hm ho hom => wL_aboutN ho hom (d := 3) (by decide) (sm_Cm (by rw [← gm_L_abo hL hk]; exact k5_aboutK hJ hk) mQ_1)) (fun h m => (by have e : an_about S (nI k) = (nI 0, gm_abo S k) := (by unfold an_about; rw [if_pos hw, i2_nI (by omega)]); have q := c6_about (G := G) (h := h) (m := m) (F := F) (X := X) (A := A) (L := L) (S := S) (w := nI k) hI; rw [e] at q; exact q))
theorem lp_player (hl : lc K F X A S L V n B c x f) (hK : K + 60000 < 2 ^ 26) (h12 : 12 ≤ K) (p : Int32) (w : Int32) : lp G K mL_player mX6_player [.int p, .int w] F X A S L V (n, B, c, x, f) := by
  have hI := hl.2.1.2.2.1
  have hJ := hl.2.1.2.2.2.1
  have hL := hl.2.1.1
  have hx2 := hl.2.1.2.1
  have hK9 : 12 ≤ K := h12
  have hI3 : S 3 < 2 ^ 31 := by have := hI.2.1 3 (by decide) (by decide); have := hI.2.2.1; omega
  have hp0 : an_player S p w = if gm_isP S p = true then (if gm_in (nI 0) w (nI 8) = true then (nI 0, nI (gm_pla S (i2 p) (i2 w))) else (nI 2, nI 0)) else (nI 1, nI 0) := by
    unfold an_player gm_isP
    by_cases e : S 3 ≠ 0 ∧ gm_in (nI 0) p (nI (S 3 - 1)) = true
    · rw [if_pos e, if_pos (decide_eq_true e)]
    · rw [if_neg e, if_neg (fun z => e (of_decide_eq_true z))]
  cases hp : gm_isP S p with
  | false =>
    exact lp_no hl hK 1 3 (by decide) (by decide) (fun h m o R O h0 hm ho hom => wL_player1 ho hom (k5_player1 hJ (by rw [gm_L_isP hL]; exact hp) h0 hm) _) (fun h m => (by have e : an_player S p w = (nI 1, nI 0) := (by rw [hp0, if_neg (ne_t hp)]); have q := c6_player (G := G) (h := h) (m := m) (F := F) (X := X) (A := A) (L := L) (S := S) (p := p) (w := w) hI; rw [e] at q; exact q))
  | true =>
    cases hw : gm_in (nI 0) w (nI 8) with
    | false =>
      exact lp_no hl hK 2 3 (by decide) (by decide) (fun h m o R O h0 hm ho hom => wL_player2 ho hom (k5_player2 hJ (by rw [gm_L_isP hL]; exact hp) hw h0 hm) _) (fun h m => (by have e : an_player S p w = (nI 2, nI 0) := (by rw [hp0, if_pos hp, if_neg (ne_t hw)]); have q := c6_player (G := G) (h := h) (m := m) (F := F) (X := X) (A := A) (L := L) (S := S) (p := p) (w := w) hI; rw [e] at q; exact q))
    | true =>
      obtain ⟨k, rfl, -, hk⟩ := gm_in_k (by decide) (by decide) hw
      obtain ⟨p9, rfl, hp9⟩ := gm_isP_k hI3 hp
      have hp3 : p9 < (V 0).1 3 := by rw [hL.lo 3 (by decide)]; exact hp9
      exact lp_qF hl hK (nI (gm_pla S p9 k)) 3 (by decide) (fun h m o R O h0 hm ho hom => wL_playerN ho hom (d := 2) (by decide) (sm_Cm (by rw [← gm_L_pla hL hp9 hk]; exact k5_playerK hJ hp3 hk) mQ_1)) (fun h m => (by have e : an_player S (nI p9) (nI k) = (nI 0, nI (gm_pla S p9 k)) := (by rw [hp0, if_pos hp, if_pos hw, i2_nI (by omega), i2_nI (by omega)]); have q := c6_player (G := G) (h := h) (m := m) (F := F) (X := X) (A := A) (L := L) (S := S) (p := nI p9) (w := nI k) hI; rw [e] at q; exact q))
theorem lp_loses (hl : lc K F X A S L V n B c x f) (hK : K + 60000 < 2 ^ 26) (h12 : 12 ≤ K) (p : Int32) (w : Int32) : lp G K mL_loses mX6_loses [.int p, .int w] F X A S L V (n, B, c, x, f) := by
  have hI := hl.2.1.2.2.1
  have hJ := hl.2.1.2.2.2.1
  have hL := hl.2.1.1
  have hx2 := hl.2.1.2.1
  have hK9 : 12 ≤ K := h12
  have hI3 : S 3 < 2 ^ 31 := by have := hI.2.1 3 (by decide) (by decide); have := hI.2.2.1; omega
  have hp0 : an_loses S p w = if gm_isP S p = true then (if gm_in (nI 0) w (nI 2) = true then (nI 0, nI (if gm_on S = true then gm_loss S (i2 p) (i2 w) else 0)) else (nI 2, nI 0)) else (nI 1, nI 0) := by
    rfl
  cases hp : gm_isP S p with
  | false =>
    exact lp_no hl hK 1 2 (by decide) (by decide) (fun h m o R O h0 hm ho hom => wL_loses1 ho hom (k5_loses1 hJ (by rw [gm_L_isP hL]; exact hp) h0 hm) _) (fun h m => (by have e : an_loses S p w = (nI 1, nI 0) := (by rw [hp0, if_neg (ne_t hp)]); have q := c6_loses (G := G) (h := h) (m := m) (F := F) (X := X) (A := A) (L := L) (S := S) (p := p) (g := w) hI; rw [e] at q; exact q))
  | true =>
    cases hw : gm_in (nI 0) w (nI 2) with
    | false =>
      exact lp_no hl hK 2 2 (by decide) (by decide) (fun h m o R O h0 hm ho hom => wL_loses2 ho hom (k5_loses2 hJ (by rw [gm_L_isP hL]; exact hp) hw h0 hm) _) (fun h m => (by have e : an_loses S p w = (nI 2, nI 0) := (by rw [hp0, if_pos hp, if_neg (ne_t hw)]); have q := c6_loses (G := G) (h := h) (m := m) (F := F) (X := X) (A := A) (L := L) (S := S) (p := p) (g := w) hI; rw [e] at q; exact q))
    | true =>
      obtain ⟨k, rfl, -, hk⟩ := gm_in_k (by decide) (by decide) hw
      obtain ⟨p9, rfl, hp9⟩ := gm_isP_k hI3 hp
      have hp3 : p9 < (V 0).1 3 := by rw [hL.lo 3 (by decide)]; exact hp9
      exact lp_qF hl hK (nI (if gm_on S = true then gm_loss S p9 k else 0)) 2 (by decide) (fun h m o R O h0 hm ho hom => wL_losesN ho hom (d := 2) (by decide) (sm_Cm (by rw [← gm_L_on hL, ← gm_L_loss hL hp9 k]; exact k5_losesK hJ hp3 (by omega)) mQ_1)) (fun h m => (by have e : an_loses S (nI p9) (nI k) = (nI 0, nI (if gm_on S = true then gm_loss S p9 k else 0)) := (by rw [hp0, if_pos hp, if_pos hw, i2_nI (by omega), i2_nI (by omega)]); have q := c6_loses (G := G) (h := h) (m := m) (F := F) (X := X) (A := A) (L := L) (S := S) (p := nI p9) (g := nI k) hI; rw [e] at q; exact q))
theorem lp_worker (hl : lc K F X A S L V n B c x f) (hK : K + 60000 < 2 ^ 26) (h12 : 12 ≤ K) (q : Int32) (w : Int32) : lp G K mL_worker mX6_worker [.int q, .int w] F X A S L V (n, B, c, x, f) := by
  have hI := hl.2.1.2.2.1
  have hJ := hl.2.1.2.2.2.1
  have hL := hl.2.1.1
  have hx2 := hl.2.1.2.1
  have hK9 : 12 ≤ K := h12
  have hI3 : S 3 < 2 ^ 31 := by have := hI.2.1 3 (by decide) (by decide); have := hI.2.2.1; omega
  cases hq : gm_in (nI 0) q (nI 5) with
  | false =>
    exact lp_no hl hK 1 2 (by decide) (by decide) (fun h m o R O h0 hm ho hom => wL_worker1 ho hom (k5_worker1 hq h0 hm) _) (fun h m => (by have e : an_worker S q w = (nI 1, nI 0) := (if_neg (ne_t hq)); have q := c6_worker (G := G) (h := h) (m := m) (F := F) (X := X) (A := A) (L := L) (S := S) (q := q) (k := w) hI; rw [e] at q; exact q))
  | true =>
    by_cases hw : 0 ≤ w
    · obtain ⟨k, rfl, hk⟩ := i32_of hw
      obtain ⟨q9, rfl, -, hq9⟩ := gm_in_k (by decide) (by decide) hq
      have hc3 := hI.2.2.2.1 q9 (by omega)
      have ev : cq_at ((V 0).1 (45 + 4 * q9)) (cl_o (V 0).1 q9) k = if nI k < nI (S (45 + 4 * q9)) then nI (S (45 + 4 * q9 + 1 + k)) else -1 := by
        unfold cq_at cl_o
        rw [hL.ct q9 (by omega)]
        by_cases e : k < S (45 + 4 * q9)
        · rw [if_pos e, if_pos ((nI_ltI hk (by omega)).mpr e), hL.ow q9 k (by omega) (by omega) e]
        · rw [if_neg e, if_neg (fun z => e ((nI_ltI hk (by omega)).mp z))]
      exact lp_qF hl hK (cq_at ((V 0).1 (45 + 4 * q9)) (cl_o (V 0).1 q9) k) 2 (by decide) (fun h m o R O h0 hm ho hom => wL_workerN ho hom (d := 1) (by decide) (sm_Cm (k5_workerK hJ (by omega) hk) mQ_1)) (fun h m => (by have e : an_worker S (nI q9) (nI k) = (nI 0, cq_at ((V 0).1 (45 + 4 * q9)) (cl_o (V 0).1 q9) k) := (by unfold an_worker; rw [if_pos hq, if_pos hw, i2_nI (by omega), i2_nI (by omega), ev]); have q := c6_worker (G := G) (h := h) (m := m) (F := F) (X := X) (A := A) (L := L) (S := S) (q := nI q9) (k := nI k) hI; rw [e] at q; exact q))
    · skip
      exact lp_no hl hK 2 2 (by decide) (by decide) (fun h m o R O h0 hm ho hom => wL_worker2 ho hom (k5_worker2 hq hw h0 hm) _) (fun h m => (by have e : an_worker S q w = (nI 2, nI 0) := (by unfold an_worker; rw [if_pos hq, if_neg hw]); have q := c6_worker (G := G) (h := h) (m := m) (F := F) (X := X) (A := A) (L := L) (S := S) (q := q) (k := w) hI; rw [e] at q; exact q))
theorem lp_setting (hl : lc K F X A S L V n B c x f) (hK : K + 60000 < 2 ^ 26) (h12 : 12 ≤ K) (w : Int32) : lp G K mL_setting mX6_setting [.int w] F X A S L V (n, B, c, x, f) := by
  have hI := hl.2.1.2.2.1
  have hJ := hl.2.1.2.2.2.1
  have hL := hl.2.1.1
  have hx2 := hl.2.1.2.1
  have hK9 : 12 ≤ K := h12
  have hI3 : S 3 < 2 ^ 31 := by have := hI.2.1 3 (by decide) (by decide); have := hI.2.2.1; omega
  cases hw : gm_in (nI 0) w (nI 2) with
  | false =>
    exact lp_no hl hK 1 1 (by decide) (by decide) (fun h m o R O h0 hm ho hom => wL_setting1 ho hom (k5_setting1 hw h0 hm) _) (fun h m => (by have e : an_setting S w = (nI 1, nI 0) := (if_neg (ne_t hw)); have q := c6_setting (G := G) (h := h) (m := m) (F := F) (X := X) (A := A) (L := L) (S := S) (w := w); rw [e] at q; exact q))
  | true =>
    obtain ⟨k, rfl, -, hk⟩ := gm_in_k (by decide) (by decide) hw
    exact lp_qF hl hK (nI (S k)) 1 (by decide) (fun h m o R O h0 hm ho hom => wL_settingN ho hom (d := 1) (by decide) (sm_Cm (by rw [← hL.lo k (by omega)]; exact k5_settingK (by omega)) mQ_1)) (fun h m => (by have e : an_setting S (nI k) = (nI 0, nI (S k)) := (by unfold an_setting; rw [if_pos hw, i2_nI (by omega)]); have q := c6_setting (G := G) (h := h) (m := m) (F := F) (X := X) (A := A) (L := L) (S := S) (w := nI k); rw [e] at q; exact q))
theorem lp_weather (hl : lc K F X A S L V n B c x f) (hK : K + 60000 < 2 ^ 26) (h12 : 12 ≤ K) (w : Int32) : lp G K mL_weather mX6_weather [.int w] F X A S L V (n, B, c, x, f) := by
  have hI := hl.2.1.2.2.1
  have hJ := hl.2.1.2.2.2.1
  have hL := hl.2.1.1
  have hx2 := hl.2.1.2.1
  have hK9 : 12 ≤ K := h12
  have hI3 : S 3 < 2 ^ 31 := by have := hI.2.1 3 (by decide) (by decide); have := hI.2.2.1; omega
  cases hw : gm_in (nI 1) w (nI 12) with
  | false =>
    exact lp_no hl hK 1 1 (by decide) (by decide) (fun h m o R O h0 hm ho hom => wL_weather1 ho hom (k5_weather1 hw h0 hm) _) (fun h m => (by have e : an_weather S (X 2) w = (nI 1, nI 0) := (if_neg (ne_t hw)); have q := c6_weather (G := G) (h := h) (m := m) (F := F) (X := X) (A := A) (L := L) (S := S) (w := w) hI; rw [e] at q; exact q))
  | true =>
    obtain ⟨k, rfl, hk1, hk⟩ := gm_in_k (by decide) (by decide) hw
    have ev : gm_wea (V 0).1 (V 0).2 k = gm_wea S (X 2) k := by rw [← hx2]; exact gm_L_wea hL
    exact lp_qF hl hK (gm_wea S (X 2) k) 1 (by decide) (fun h m o R O h0 hm ho hom => wL_weatherN ho hom (d := 1) (by decide) (sm_Cm (by rw [← ev]; exact k5_weatherK hJ hk1 hk) mQ_1)) (fun h m => (by have e : an_weather S (X 2) (nI k) = (nI 0, gm_wea S (X 2) k) := (by unfold an_weather; rw [if_pos hw, i2_nI (by omega)]); have q := c6_weather (G := G) (h := h) (m := m) (F := F) (X := X) (A := A) (L := L) (S := S) (w := nI k) hI; rw [e] at q; exact q))
theorem lp_bumps (hl : lc K F X A S L V n B c x f) (hK : K + 60000 < 2 ^ 26) (h12 : 12 ≤ K) (q : Int32) : lp G K mL_bumps mX6_bumps [.int q] F X A S L V (n, B, c, x, f) := by
  have hI := hl.2.1.2.2.1
  have hJ := hl.2.1.2.2.2.1
  have hL := hl.2.1.1
  have hx2 := hl.2.1.2.1
  have hK9 : 12 ≤ K := h12
  have hI3 : S 3 < 2 ^ 31 := by have := hI.2.1 3 (by decide) (by decide); have := hI.2.2.1; omega
  cases hq : gm_in (nI 0) q (nI 5) with
  | false =>
    exact lp_no hl hK 1 2 (by decide) (by decide) (fun h m o R O h0 hm ho hom => wL_bumps1 ho hom (k5_bumps1 hq h0 hm) _) (fun h m => (by have e : an_bumps S q = (nI 1, nI 0) := (if_neg (ne_t hq)); have q := c6_bumps (G := G) (h := h) (m := m) (F := F) (X := X) (A := A) (L := L) (S := S) (q := q) hI; rw [e] at q; exact q))
  | true =>
    obtain ⟨k, rfl, -, hk⟩ := gm_in_k (by decide) (by decide) hq
    exact lp_qF hl hK (gm_bmp S k) 2 (by decide) (fun h m o R O h0 hm ho hom => wL_bumpsN ho hom (d := 2) (by decide) (sm_Cm (by rw [← gm_L_bmp hL hI (show k < 6 by omega)]; exact k5_bumpsK hJ (by omega)) mQ_1)) (fun h m => (by have e : an_bumps S (nI k) = (nI 0, gm_bmp S k) := (by unfold an_bumps; rw [if_pos hq, i2_nI (by omega)]); have q := c6_bumps (G := G) (h := h) (m := m) (F := F) (X := X) (A := A) (L := L) (S := S) (q := nI k) hI; rw [e] at q; exact q))
theorem gm_kA_o {A : Nat → Nat → Int32} {S : gm_S} (b : Bool) {k : Nat} (hk : k ≠ 11) : gm_kA b A S k = A k := by
  cases b with
  | false => rfl
  | true => show va_up A 11 _ k = A k; exact up_ne hk
theorem lp_best (hl : lc K F X A S L V n B c x f) (hK : K + 60000 < 2 ^ 26) (h12 : 12 ≤ K) (w : Int32) : lp G K mL_best mX6_best [.int w] F X A S L V (n, B, c, x, f) := by
  have hI := hl.2.1.2.2.1
  have hJ := hl.2.1.2.2.2.1
  have hL := hl.2.1.1
  have hx2 := hl.2.1.2.1
  have hK9 : 12 ≤ K := h12
  have hI3 : S 3 < 2 ^ 31 := by have := hI.2.1 3 (by decide) (by decide); have := hI.2.2.1; omega
  cases hw : gm_in (nI 0) w (nI 2) with
  | false =>
    have e : ∀ (h : sm_H) (m : Nat), gm_hb G h m F X A S L w = sm_om G h m (va_up F 0 (nI 1)) X (sm_as A S) L := fun h m => if_neg (ne_t hw)
    have e2 : an_best S w = (nI 1, nI 0) := if_neg (ne_t hw)
    exact lp_no hl hK 1 6 (by decide) (by decide) (fun h m o R O h0 hm ho hom => wL_best1 ho hom (k5_best1 hw h0 hm) _) (fun h m => (by have q := c6_best (G := G) (h := h) (m := m) (F := F) (X := X) (A := A) (L := L) (S := S) (w := w) hI; rw [e, e2] at q; exact q))
  | true =>
    obtain ⟨k, rfl, -, hk⟩ := gm_in_k (by decide) (by decide) hw
    have e : ∀ (h : sm_H) (m : Nat), gm_hb G h m F X A S L (nI k) = sm_om G h m (gm_FB (va_up F 0 (nI 0)) (gm_bst S)) (gm_kX (gm_any S) X) (sm_as (gm_kA (gm_any S) A S) S) L := fun h m => if_pos hw
    have e2 : an_best S (nI k) = (nI 0, gm_bsw (gm_bst S) k) := by unfold an_best; rw [if_pos hw, i2_nI (by omega)]
    refine lp_q hl hK (gm_bsw (gm_bst S) k) 6 (by decide) V (fun _ => rfl) (fun h m o R O h0 hm ho hom => wL_bestN ho hom (d := 4) (by decide) (sm_Cm (by rw [← gm_L_bst hL hI (by omega) hK9]; exact k5_bestK hJ hk) mQ_1)) (fun h m => ?_)
    have q := c6_best (G := G) (h := h) (m := m) (F := F) (X := X) (A := A) (L := L) (S := S) (w := nI k) hI
    rw [e, e2] at q
    refine sm_Cm q (fun r1 h1 q => ⟨q.1, _, _, _, q.2, ?_⟩)
    unfold gm_FB
    exact ⟨by rw [up_ne (by decide), up_ne (by decide), up_ne (by decide), up_eq], by rw [up_ne (by decide), up_ne (by decide), up_ne (by decide), up_ne (by decide)], by rw [up_ne (by decide), up_ne (by decide), up_ne (by decide), up_ne (by decide)], gm_kX_2 _, gm_kA_o _ (by decide), gm_kA_o _ (by decide), gm_kA_o _ (by decide), gm_kA_o _ (by decide)⟩
theorem lp_brings (hl : lc K F X A S L V n B c x f) (hK : K + 60000 < 2 ^ 26) (h12 : 12 ≤ K) (q : Int32) (w : Int32) : lp G K mL_brings mX6_brings [.int q, .int w] F X A S L V (n, B, c, x, f) := by
  have hI := hl.2.1.2.2.1
  have hJ := hl.2.1.2.2.2.1
  have hL := hl.2.1.1
  have hx2 := hl.2.1.2.1
  have hK9 : 12 ≤ K := h12
  have hI3 : S 3 < 2 ^ 31 := by have := hI.2.1 3 (by decide) (by decide); have := hI.2.2.1; omega
  cases hq : gm_in (nI 0) q (nI 5) with
  | false =>
    have e2 : gm_try S q w = false := by unfold gm_try; rw [hq]; rfl
    exact lp_no hl hK 1 5 (by decide) (by decide) (fun h m o R O h0 hm ho hom => wL_brings1 ho hom (k5_brings1 hq h0 hm) _) (fun h m => (by have e : an_brings S q w = (nI 1, nI 0) := if_neg (ne_t hq); have q9 := c6_brings (G := G) (h := h) (m := m) (F := F) (X := X) (A := A) (L := L) (S := S) (q := q) (c := w) hI; rw [e, e2] at q9; exact q9))
  | true =>
    obtain ⟨q9, rfl, -, hq9⟩ := gm_in_k (by decide) (by decide) hq
    cases hch : gm_chR q9 w with
    | false =>
      have e2 : gm_try S (nI q9) w = false := by unfold gm_try; rw [i2_nI (by omega), hch]; simp
      exact lp_no hl hK 2 5 (by decide) (by decide) (fun h m o R O h0 hm ho hom => wL_brings2 ho hom (k5_brings2 (by omega) hch h0 hm) _) (fun h m => (by have e : an_brings S (nI q9) w = (nI 2, nI 0) := (by unfold an_brings; rw [if_pos hq, i2_nI (by omega), if_neg (ne_t hch)]); have q8 := c6_brings (G := G) (h := h) (m := m) (F := F) (X := X) (A := A) (L := L) (S := S) (q := nI q9) (c := w) hI; rw [e, e2] at q8; exact q8))
    | true =>
      obtain ⟨k, rfl, hk⟩ := gm_ch_k hch
      have hch2 : gm_ch q9 k = true := by rw [← gm_chR_n (by omega)]; exact hch
      have e2 : an_brings S (nI q9) (nI k) = (nI 0, gm_bv S q9 k) := by unfold an_brings; rw [if_pos hq, i2_nI (by omega), if_pos hch, i2_nI (by omega)]
      refine lp_q hl hK (gm_bv S q9 k) 5 (by decide) V (fun _ => rfl) (fun h m o R O h0 hm ho hom => wL_bringsN ho hom (d := 4) (by decide) (sm_Cm (by rw [← gm_L_bv hL hI (show q9 < 6 by omega) hk hch2 (by omega) hK9]; exact k5_bringsK hJ (by omega) hk hch2) mQ_1)) (fun h m => ?_)
      have q := c6_brings (G := G) (h := h) (m := m) (F := F) (X := X) (A := A) (L := L) (S := S) (q := nI q9) (c := nI k) hI
      rw [e2] at q
      exact sm_Cm q (fun r1 h1 q => ⟨q.1, _, _, _, q.2, up_eq, up_ne (by decide), up_ne (by decide), gm_kX_2 _, gm_kA_o _ (by decide), gm_kA_o _ (by decide), gm_kA_o _ (by decide), gm_kA_o _ (by decide)⟩)
theorem lp_goesOn (hl : lc K F X A S L V n B c x f) (hK : K + 60000 < 2 ^ 26) (h12 : 12 ≤ K) (w : Int32) : lp G K mL_goesOn mX6_goesOn [.int w] F X A S L V (n, B, c, x, f) := by
  have hI := hl.2.1.2.2.1
  have hJ := hl.2.1.2.2.2.1
  have hL := hl.2.1.1
  have hx2 := hl.2.1.2.1
  have hK9 : 12 ≤ K := h12
  have hI3 : S 3 < 2 ^ 31 := by have := hI.2.1 3 (by decide) (by decide); have := hI.2.2.1; omega
  cases hw : gm_in (nI 0) w (nI 4) with
  | false =>
    exact lp_no hl hK 1 1 (by decide) (by decide) (fun h m o R O h0 hm ho hom => wL_goesOn1 ho hom (k5_goesOn1 hw h0 hm) _) (fun h m => c6_goesOn0 hw)
  | true =>
    obtain ⟨k, rfl, -, hk⟩ := gm_in_k (by decide) (by decide) hw
    have ev : gm_gans (gm_goE true (V 0).1 (V 0).2).1 k = gm_gans (gm_goE false S (X 2)).1 k := by rw [← hx2]; exact gm_L_gans (gm_L_goE hL hI hK hK9).1 k
    refine lp_q hl hK (gm_gans (gm_goE false S (X 2)).1 k) 7 (by decide) _ (fun v1 => (up_up _ _ _ _).trans (up_up _ _ _ _)) (fun h m o R O h0 hm ho hom => wL_goesOnN ho hom (d := 6) (by decide) (sm_Cm (by rw [← ev]; exact k5_goesOnK hJ hK hK9 hk) mQ_1)) (fun h m => ?_)
    have q := c6_goesOnK (G := G) (h := h) (m := m) (F := F) (X := X) (A := A) (L := L) (S := S) (x := X 2) hI hK hK9 hk
    rw [va_idX] at q
    refine sm_Cm q (fun r1 h1 q => ?_)
    obtain ⟨q1, F1, X1, A1, ⟨a1, a2, a3⟩, q2⟩ := q
    refine ⟨q1, F1, va_up X1 2 (X 2), A1, q2, ?_⟩
    unfold gm_kp at a3
    exact ⟨by rw [a1 0 (by decide) (by decide) (by decide), up_eq], by rw [a1 10 (by decide) (by decide) (by decide), up_ne (by decide)], by rw [a1 5 (by decide) (by decide) (by decide), up_ne (by decide)], up_eq, by rw [a3 3 (by decide), up_ne (by decide)], by rw [a3 6 (by decide), up_ne (by decide)], by rw [a3 8 (by decide), up_ne (by decide)], by rw [a3 9 (by decide), up_ne (by decide)]⟩
theorem lp_runScript (hl : lc K F X A S L V n B c x f) (hK : K + 60000 < 2 ^ 26) (h12 : 12 ≤ K) (w : Int32) (y : Int64) : lp G K mL_runScript mX6_runScript [.int w, .long y] F X A S L V (n, B, c, x, f) := by
  have hI := hl.2.1.2.2.1
  have hJ := hl.2.1.2.2.2.1
  have hL := hl.2.1.1
  have hx2 := hl.2.1.2.1
  have hK9 : 12 ≤ K := h12
  have hI3 : S 3 < 2 ^ 31 := by have := hI.2.1 3 (by decide) (by decide); have := hI.2.2.1; omega
  cases hw : gm_in (nI 1) w (nI 3) with
  | false =>
    exact lp_no hl hK 1 1 (by decide) (by decide) (fun h m o R O h0 hm ho hom => wL_runScript1 ho hom (k5_runScript1 hw h0 hm) _) (fun h m => c6_runScript0 hw)
  | true =>
    obtain ⟨k, rfl, hk1, hk⟩ := gm_in_k (by decide) (by decide) hw
    have hp4 := gm_p4_lt hk
    by_cases hy : y < 0
    · skip
      exact lp_no hl hK 1 1 (by decide) (by decide) (fun h m o R O h0 hm ho hom => wL_runScript1 ho hom (k5_runScript2 hk1 hk hy h0 hm) _) (fun h m => c6_runScript1 hk1 hk (decide_eq_false (fun z => z.1 hy)))
    obtain ⟨v, hv, rfl⟩ := pk_lOf hy
    by_cases hv4 : v < gm_p4 k
    case neg =>
      exact lp_no hl hK 1 1 (by decide) (by decide) (fun h m o R O h0 hm ho hom => wL_runScript1 ho hom (k5_runScript3 hk1 hk hv (by omega) h0 hm) _) (fun h m => c6_runScript1 hk1 hk (decide_eq_false (fun z => hv4 ((pk_lLT hv (by omega)).mp z.2))))
    have ev : gm_scr true v k k (V 0).1 (V 0).2 = gm_scr false v k k S (X 2) := by rw [← hx2]; exact gm_L_scr v k k hL hI (by omega) hK9
    refine lp_q hl hK (gm_scr false v k k S (X 2)) 9 (by decide) V (fun _ => rfl) (fun h m o R O h0 hm ho hom => wL_runScriptN ho hom (d := 6) (by decide) (by rw [← ev]; exact k5_runScriptK hJ hK hK9 hk1 hk hv4)) (fun h m => ?_)
    have q := c6_runScriptK (G := G) (h := h) (m := m) (F := F) (X := X) (A := A) (L := L) (S := S) (x := X 2) hI hK hK9 hk1 hk hv4
    rw [va_idX] at q
    refine sm_Cm q (fun r1 h1 q => ?_)
    obtain ⟨q1, F1, X1, A1, ⟨a1, a2, a3⟩, q2⟩ := q
    refine ⟨q1, F1, va_up X1 2 (X 2), A1, q2, ?_⟩
    unfold gm_kp at a3
    exact ⟨by rw [a1 0 (by decide) (by decide) (by decide), up_eq], by rw [a1 10 (by decide) (by decide) (by decide), up_ne (by decide)], by rw [a1 5 (by decide) (by decide) (by decide), up_ne (by decide)], up_eq, by rw [a3 3 (by decide), up_ne (by decide)], by rw [a3 6 (by decide), up_ne (by decide)], by rw [a3 8 (by decide), up_ne (by decide)], by rw [a3 9 (by decide), up_ne (by decide)]⟩
theorem lp_simulate (hl : lc K F X A S L V n B c x f) (hK : K + 60000 < 2 ^ 26) (h12 : 12 ≤ K) (y : Int64) (w : Int32) : lp G K mL_simulate mX6_simulate [.long y, .int w] F X A S L V (n, B, c, x, f) := by
  have hI := hl.2.1.2.2.1
  have hJ := hl.2.1.2.2.2.1
  have hL := hl.2.1.1
  have hx2 := hl.2.1.2.1
  have hK9 : 12 ≤ K := h12
  have hI3 : S 3 < 2 ^ 31 := by have := hI.2.1 3 (by decide) (by decide); have := hI.2.2.1; omega
  cases hw : gm_in (nI 1) w (nI 80) with
  | false =>
    exact lp_no hl hK 1 1 (by decide) (by decide) (fun h m o R O h0 hm ho hom => wL_simulate1 ho hom (k5_simulate1 hw h0 hm) _) (fun h m => c6_simulate0 hw)
  | true =>
    obtain ⟨k, rfl, hk1, hk⟩ := gm_in_k (by decide) (by decide) hw
    have e3 := hL.lo 3 (by decide)
    refine lp_q hl hK (gm_sians S (gm_siN false k S (X 2) y).1) 8 (by decide) V (fun _ => rfl) (fun h m o R O h0 hm ho hom => wL_simulateN ho hom (d := 7) (by decide) ?_) (fun h m => ?_)
    · by_cases h3 : S 3 = 0
      · have es : gm_sians S (gm_siN false k S (X 2) y).1 = nI 0 := by
          obtain ⟨j, rfl⟩ : ∃ j, k = j + 1 := ⟨k - 1, by omega⟩
          have e : gm_siN false (j + 1) S (X 2) y = (S, X 2) := by
            unfold gm_siN
            rw [if_neg (by unfold gm_on; simp [h3])]
          rw [e]
          show gm_sR (nI 1000 * (nI (S 11) - nI (S 11))) S (S 3) = nI 0
          rw [h3]
          show nI 1000 * (nI (S 11) - nI (S 11)) = nI 0
          rw [Int32.sub_self, Int32.mul_zero]; rfl
        rw [es]
        exact sm_Cm (k5_simulateE hJ hk1 hk (by rw [e3]; exact h3)) mQ_1
      · have e9 : gm_sians (V 0).1 (gm_siN true k (V 0).1 (V 0).2 y).1 = gm_sians S (gm_siN false k S (X 2) y).1 := by
          rw [← hx2]; exact gm_L_sians hL (gm_L_siN k hL hI (by omega) hK9).1
        rw [← e9]
        exact k5_simulateK hJ hK hK9 hk1 hk (by rw [e3]; exact h3)
    · have q := c6_simulateK (G := G) (h := h) (m := m) (F := F) (X := X) (A := A) (L := L) (S := S) (x := X 2) (y := y) hI hK hK9 hk1 hk
      rw [va_idX] at q
      refine sm_Cm q (fun r1 h1 q => ?_)
      obtain ⟨q1, F1, X1, A1, ⟨a1, a2, a3⟩, q2⟩ := q
      refine ⟨q1, F1, va_up X1 2 (X 2), A1, q2, ?_⟩
      unfold gm_kp at a3
      exact ⟨by rw [a1 0 (by decide) (by decide) (by decide), up_eq], by rw [a1 10 (by decide) (by decide) (by decide), up_ne (by decide)], by rw [a1 5 (by decide) (by decide) (by decide), up_ne (by decide)], up_eq, by rw [a3 3 (by decide), up_ne (by decide)], by rw [a3 6 (by decide), up_ne (by decide)], by rw [a3 8 (by decide), up_ne (by decide)], by rw [a3 9 (by decide), up_ne (by decide)]⟩
end CLP
