section CLQ
variable {G : sm_G} {K n c x : Nat} {F : Nat → Int32} {X : Nat → Int64} {A : Nat → Nat → Int32} {L : Nat → Nat → Int64} {S : gm_S} {V : mw_V} {B f : Nat → Nat} {Mx Mr : sm_M} {As : List Value}
/-- the state is remembered, another one stands -/
theorem lp_rm (hl : lc K F X A S L V n B c x f) (hK : K + 60000 < 2 ^ 26) (a : Int32) (d : Nat) (hd : d ≤ 9) (S2 : gm_S) (y2 : Int64) (v2 : gm_S × Int64) (hr2 : lc_r (K + 5000) S2 y2 v2)
    (hx : ∀ (h : sm_H) (m o : Nat) (R : mw_R) (O : Nat → Int64), h 0 = none → 0 < m → h o = some (sm_aj G 1 O) → (o < m ∨ m + 493 ≤ o) → sm_C G Mx 8 1 6 (.ref m :: (As ++ [.ref o])) (mw G h m V R (n, B, c, x, f)) (lQ G h m o 0 a.toInt64 (va_up (mw_rem V (n, B, c, x, f)) 0 v2) (mw_remT (n, B, c, x, f))))
    (hr : ∀ (h : sm_H) (m : Nat), sm_C G Mr d 0 0 (.ref m :: As) (sm_om G h m F X (sm_as A S) L) (fun r1 h1 => r1 = .inl (some (.int a)) ∧ ∃ F2 X2 A2, h1 = sm_om G h m F2 X2 (sm_as A2 S2) (gm_rmL c L (X 2)) ∧ F2 0 = nI 0 ∧ F2 10 = F 10 ∧ F2 5 = nI (min c 13 + 1) ∧ X2 2 = y2 ∧ A2 3 = gm_rmA c A S 3 ∧ A2 6 = A 6 ∧ A2 8 = A 8 ∧ A2 9 = A 9)) : lp G K Mx Mr As F X A S L V (n, B, c, x, f) :=
  ⟨0, a, _, _, d, by decide, hd, hx, fun h m => sm_Cm (hr h m) (fun r1 h1 q => by
    obtain ⟨q0, F2, X2, A2, q1, q2, q3, q4, q5, q6, q7, q8, q9⟩ := q
    refine ⟨q0, F2, X2, A2, S2, _, q1, q2, fun v1 => ?_⟩
    have e := lc_rem (F2 := F) (X2 := va_up X 2 y2) (S2 := S2) (v2 := v2) (hl.K2 hK) (by rw [up_eq]; exact hr2) rfl v1
    have e2 := lc_same (F2 := F2) (X2 := X2) (A2 := A2) e (by unfold gm_rmF; rw [up_ne (by decide)]; exact q3) (by unfold gm_rmF; rw [up_eq]; exact q4) (by rw [up_eq]; exact q5) q6 (by unfold gm_rmA; rw [up_ne (by decide)]; exact q7) (by unfold gm_rmA; rw [up_ne (by decide)]; exact q8) (by unfold gm_rmA; rw [up_ne (by decide)]; exact q9) v1
    rw [up_up] at e2
    exact e2)⟩
theorem lc_r2 {K2 : Nat} {a b : gm_S × Int64} (h : gm_L2 a b) (h1 : gm_I K2 a.1) (h2 : gm_I K2 b.1) (hk : K2 ≤ K + 5000) (hK : K + 60000 < 2 ^ 26) (h69 : ∀ i, 69 ≤ i → a.1 i = S i) (hS : ∀ i, 69 ≤ i → S i = 0) : lc_r (K + 5000) a.1 a.2 b :=
  ⟨h.1, h.2.symm, gm_I_up h1 hk (by omega), gm_I_up h2 hk (by omega), fun i hi => (h69 i hi).trans (hS i hi)⟩

theorem lp_append (hl : lc K F X A S L V n B c x f) (hK : K + 60000 < 2 ^ 26) (h12 : 12 ≤ K) (w : Int32) : lp G K mL_append mX6_append [.int w] F X A S L V (n, B, c, x, f) := by
  have hI := hl.2.1.2.2.1
  have hJ := hl.2.1.2.2.2.1
  have hL := hl.2.1.1
  have hx2 := hl.2.1.2.1
  have hK9 : 12 ≤ K := h12
  have hI3 : S 3 < 2 ^ 31 := by have := hI.2.1 3 (by decide) (by decide); have := hI.2.2.1; omega
  obtain ⟨ht, hr0, hh, hso⟩ := id hl
  have h69 := hr0.2.2.2.2
  cases hw : gm_in (nI 0) w (nI 255) with
  | false =>
    exact lp_no hl hK 1 1 (by decide) (by decide) (fun h m o R O h0 hm ho hom => wL_append1 ho hom (k5_append1 hw h0 hm) _) (fun h m => c6_append1 hw)
  | true =>
    obtain ⟨k, rfl, -, hk⟩ := gm_in_k (by decide) (by decide) hw
    by_cases hn : n = 120
    · skip
      exact lp_no hl hK 2 1 (by decide) (by decide) (fun h m o R O h0 hm ho hom => wL_append2 ho hom (k5_append2 (by omega) hn h0 hm) _) (fun h m => c6_append2 hw (by rw [ht.1, hn]))
    · have hn2 : n < 120 := by have := ht.2.1; omega
      refine ⟨0, nI (n + 1), V, (n + 1, va_up B n k, c, x, f), 1, by decide, by decide, fun h m o R O h0 hm ho hom => wL_appendN ho hom (d := 1) (by decide) (sm_Cm (k5_appendK (t := (n, B, c, x, f)) (by omega) hn2) mQ_1), fun h m => sm_Cm (c6_appendK hw ht.1 hn2) (fun r1 h1 q => ⟨q.1, _, _, _, _, _, q.2, ?_, fun v1 => ?_⟩)⟩
      · rw [up_ne (by decide), up_eq]
      · refine ⟨⟨by rw [up_eq], by omega, fun i hi => ?_⟩, by rw [up_ne (by decide)]; exact lc_r_up hr0 (by omega) (by omega), lc_h_of (lc_h_up hh (by omega) (by omega)) (by rw [up_ne (by decide), up_ne (by decide)]) (up_ne (by decide)) rfl (fun j _ => up_ne (by omega)), lc_o_of (lc_o_up hso (by omega) (by omega)) (up_ne (by decide)) (up_ne (by decide)) rfl (fun k _ => up_ne (by omega))⟩
        rw [up_eq]
        show va_up (A 9) n (nI k) i = nI (va_up B n k i) ∧ va_up B n k i < 256
        have hi : i < n + 1 := hi
        by_cases e : i = n
        · rw [e, up_eq, up_eq]; exact ⟨rfl, by omega⟩
        · rw [up_ne e, up_ne e]; exact ht.2.2 i (by omega)
theorem lp_begin (hl : lc K F X A S L V n B c x f) (hK : K + 60000 < 2 ^ 26) (h12 : 12 ≤ K) (w : Int32) (y : Int64) : lp G K mL_begin mX6_begin [.int w, .long y] F X A S L V (n, B, c, x, f) := by
  have hI := hl.2.1.2.2.1
  have hJ := hl.2.1.2.2.2.1
  have hL := hl.2.1.1
  have hx2 := hl.2.1.2.1
  have hK9 : 12 ≤ K := h12
  have hI3 : S 3 < 2 ^ 31 := by have := hI.2.1 3 (by decide) (by decide); have := hI.2.2.1; omega
  obtain ⟨ht, hr0, hh, hso⟩ := id hl
  have h69 := hr0.2.2.2.2
  cases hw : gm_in (nI 2) w (nI 4) with
  | false =>
    exact lp_no hl hK 1 1 (by decide) (by decide) (fun h m o R O h0 hm ho hom => wL_begin1 ho hom (k5_begin1 hw h0 hm) _) (fun h m => c6_begin0 hw)
  | true =>
    obtain ⟨k, rfl, hk2, hk⟩ := gm_in_k (by decide) (by decide) hw
    obtain ⟨y2, hy2⟩ : ∃ y2, gm_nx y = y2 := ⟨_, rfl⟩
    refine lp_rm hl hK (nI (gm_die y2)) 3 (by decide) (gm_new S k y) y2 (cg_new (V 0).1 k y, y2) ⟨gm_L_new ⟨(hL.lo 0 (by decide)).symm, (hL.lo 1 (by decide)).symm, (hL.lo 2 (by decide)).symm⟩ hk, rfl, gm_I_up (gm_new_I hI.1 hI.2.1 hI.2.2.1 hK9 hk2 hk) (by omega) (by omega), gm_I_up (cg_new_I hJ.1 hJ.2.1 hJ.2.2.1 hK9 hk2 hk) (by omega) (by omega), fun i hi => ?_⟩ (fun h m o R O h0 hm ho hom => wL_beginN ho hom (d := 3) (by decide) (sm_Cm (by have q := k5_beginK (G := G) (h := h) (m := m) (V := V) (R := R) (t := (n, B, c, x, f)) (n := k) (y := y) hh.2.2.1 hh.2.1 hk2 hk; rw [hy2] at q; exact q) mQ_1)) (fun h m => ?_)
    · unfold gm_new gm_bg
      rw [up_ne (by omega), if_neg (by omega), if_neg (by omega), if_neg (by omega), if_neg (by omega), if_neg (by omega), if_neg (by omega), if_neg (by omega)]; exact h69 i hi
    · have q := c6_beginK (G := G) (h := h) (m := m) (F := F) (X := X) (A := A) (L := L) (S := S) (y := y) hh.1 hh.2.1 hk2 hk
      rw [hy2] at q
      exact sm_Cm q (fun r1 h1 q => ⟨q.1, _, _, _, q.2, (by unfold gm_rmF; rw [up_ne (by decide), up_eq]), (by unfold gm_rmF; rw [up_ne (by decide), up_ne (by decide)]), (by unfold gm_rmF; rw [up_eq]), up_eq, rfl, (by unfold gm_rmA; rw [up_ne (by decide)]), (by unfold gm_rmA; rw [up_ne (by decide)]), (by unfold gm_rmA; rw [up_ne (by decide)])⟩)
theorem lp_place (hl : lc K F X A S L V n B c x f) (hK : K + 60000 < 2 ^ 26) (h12 : 12 ≤ K) (q : Int32) (w : Int32) : lp G K mL_place mX6_place [.int q, .int w] F X A S L V (n, B, c, x, f) := by
  have hI := hl.2.1.2.2.1
  have hJ := hl.2.1.2.2.2.1
  have hL := hl.2.1.1
  have hx2 := hl.2.1.2.1
  have hK9 : 12 ≤ K := h12
  have hI3 : S 3 < 2 ^ 31 := by have := hI.2.1 3 (by decide) (by decide); have := hI.2.2.1; omega
  obtain ⟨ht, hr0, hh, hso⟩ := id hl
  have h69 := hr0.2.2.2.2
  cases hq : gm_in (nI 0) q (nI 5) with
  | false =>
    have e := gm_ref_1 (S := S) (c := w) hq
    exact lp_no hl hK 1 4 (by decide) (by decide) (fun h m o R O h0 hm ho hom => wL_place1 ho hom (k5_place1 hq h0 hm) _) (fun h m => (by have q9 := c6_place0 (G := G) (h := h) (m := m) (F := F) (X := X) (A := A) (L := L) (S := S) (q := q) (c := w) hI (by rw [e]; decide); rw [e] at q9; exact q9))
  | true =>
    obtain ⟨q9, rfl, -, hq9⟩ := gm_in_k (by decide) (by decide) hq
    cases hch : gm_chR q9 w with
    | false =>
      have e := gm_ref_2 (S := S) (show q9 < 2 ^ 31 by omega) hq hch
      exact lp_no hl hK 2 4 (by decide) (by decide) (fun h m o R O h0 hm ho hom => wL_place2 ho hom (k5_place2 (by omega) hch h0 hm) _) (fun h m => (by have q8 := c6_place0 (G := G) (h := h) (m := m) (F := F) (X := X) (A := A) (L := L) (S := S) (q := nI q9) (c := w) hI (by rw [e]; decide); rw [e] at q8; exact q8))
    | true =>
      obtain ⟨k, rfl, hk⟩ := gm_ch_k hch
      have hch2 : gm_ch q9 k = true := by rw [← gm_chR_n (by omega)]; exact hch
      have eC := gm_L_can hL hI (show q9 < 6 by omega) (gm_chg hk hch2)
      cases hcan : gm_can S q9 k with
      | false =>
        have e := gm_ref_3 (S := S) (show q9 < 2 ^ 31 by omega) (show k < 2 ^ 31 by omega) hq hch hcan
        exact lp_no hl hK 3 4 (by decide) (by decide) (fun h m o R O h0 hm ho hom => wL_place3 ho hom (k5_place3 hJ (by omega) hk hch2 (eC.trans hcan) h0 hm) _) (fun h m => (by have q8 := c6_place0 (G := G) (h := h) (m := m) (F := F) (X := X) (A := A) (L := L) (S := S) (q := nI q9) (c := nI k) hI (by rw [e]; decide); rw [e] at q8; exact q8))
      | true =>
        have e2 := gm_L_put (x := X 2) hL hI (show q9 < 6 by omega) hk hch2 hcan (by omega) hK9
        refine lp_rm hl hK (gm_who S q9) 5 (by decide) (gm_put false S (X 2) q9 k).1 (gm_put false S (X 2) q9 k).2 (gm_put true (V 0).1 (V 0).2 q9 k) (by rw [← hx2]; exact lc_r2 (S := S) e2 (gm_put_I hI (by omega) hk hch2 hcan (by omega) hK9) (gm_put_I hJ (by omega) hk hch2 (eC.trans hcan) (by omega) hK9) (by omega) hK (gm_put_69 hI (by omega) hk hch2 hcan (by omega) hK9) h69) (fun h m o R O h0 hm ho hom => wL_placeN ho hom (d := 4) (by decide) (sm_Cm (by rw [← gm_L_who hL hI (show q9 < 6 by omega) hcan]; exact k5_placeK (t := (n, B, c, x, f)) hJ (by omega) hk hch2 (eC.trans hcan) hh.2.2.1 hh.2.1 (by omega) hK9) mQ_1)) (fun h m => ?_)
        have q := c6_placeK (G := G) (h := h) (m := m) (F := F) (X := X) (A := A) (L := L) (S := S) (x := X 2) hh.1 hh.2.1 hI (by omega) hK9 (show q9 < 6 by omega) hk hch2 hcan
        rw [va_idX] at q
        exact sm_Cm q (fun r1 h1 q => ⟨q.1, _, _, _, q.2, (by unfold gm_rmF; rw [up_ne (by decide), up_eq]), (by unfold gm_rmF; rw [up_ne (by decide), up_ne (by decide)]), (by unfold gm_rmF; rw [up_eq]), up_eq, rfl, (by unfold gm_rmA; rw [up_ne (by decide)]), (by unfold gm_rmA; rw [up_ne (by decide)]), (by unfold gm_rmA; rw [up_ne (by decide)])⟩)
theorem lp_pass (hl : lc K F X A S L V n B c x f) (hK : K + 60000 < 2 ^ 26) (h12 : 12 ≤ K) : lp G K mL_pass mX6_pass [] F X A S L V (n, B, c, x, f) := by
  have hI := hl.2.1.2.2.1
  have hJ := hl.2.1.2.2.2.1
  have hL := hl.2.1.1
  have hx2 := hl.2.1.2.1
  have hK9 : 12 ≤ K := h12
  have hI3 : S 3 < 2 ^ 31 := by have := hI.2.1 3 (by decide) (by decide); have := hI.2.2.1; omega
  obtain ⟨ht, hr0, hh, hso⟩ := id hl
  have h69 := hr0.2.2.2.2
  have eN := gm_L_on hL
  cases hon : gm_on S with
  | false =>
    exact lp_no hl hK 1 1 (by decide) (by decide) (fun h m o R O h0 hm ho hom => wL_pass1 ho hom (k5_pass1 hJ (eN.trans hon) h0 hm) _) (fun h m => c6_pass0 hI hon)
  | true =>
    have e2 := gm_L_pass (x := X 2) hL hI hon hK9
    refine lp_rm hl hK (gm_cur (gm_pass false S (X 2)).1) 6 (by decide) (gm_pass false S (X 2)).1 (gm_pass false S (X 2)).2 (gm_pass true (V 0).1 (V 0).2) (by rw [← hx2]; exact lc_r2 (S := S) e2 (gm_pass_I hI hon hK9) (gm_pass_I hJ (eN.trans hon) hK9) (by omega) hK (gm_pass_69 hI hon hK9) h69) (fun h m o R O h0 hm ho hom => wL_passN ho hom (d := 4) (by decide) (sm_Cm (by rw [← gm_L_cur e2.1, hx2]; exact k5_passK (t := (n, B, c, x, f)) hJ (eN.trans hon) hh.2.2.1 hh.2.1 hK9) mQ_1)) (fun h m => ?_)
    have q := c6_passK (G := G) (h := h) (m := m) (F := F) (X := X) (A := A) (L := L) (S := S) (x := X 2) hh.1 hh.2.1 hI hon hK9
    rw [va_idX] at q
    exact sm_Cm q (fun r1 h1 q => ⟨q.1, _, _, _, q.2, (by unfold gm_rmF; rw [up_ne (by decide), up_eq]), (by unfold gm_rmF; rw [up_ne (by decide), up_ne (by decide)]), (by unfold gm_rmF; rw [up_eq]), up_eq, rfl, (by unfold gm_rmA; rw [up_ne (by decide)]), (by unfold gm_rmA; rw [up_ne (by decide)]), (by unfold gm_rmA; rw [up_ne (by decide)])⟩)
theorem lp_play (hl : lc K F X A S L V n B c x f) (hK : K + 60000 < 2 ^ 26) (h12 : 12 ≤ K) : lp G K mL_play mX6_play [] F X A S L V (n, B, c, x, f) := by
  have hI := hl.2.1.2.2.1
  have hJ := hl.2.1.2.2.2.1
  have hL := hl.2.1.1
  have hx2 := hl.2.1.2.1
  have hK9 : 12 ≤ K := h12
  have hI3 : S 3 < 2 ^ 31 := by have := hI.2.1 3 (by decide) (by decide); have := hI.2.2.1; omega
  obtain ⟨ht, hr0, hh, hso⟩ := id hl
  have h69 := hr0.2.2.2.2
  have eN := gm_L_on hL
  cases hon : gm_on S with
  | false =>
    exact lp_no hl hK 1 1 (by decide) (by decide) (fun h m o R O h0 hm ho hom => wL_play1 ho hom (k5_play1 hJ (eN.trans hon) h0 hm) _) (fun h m => c6_play0 hI hon)
  | true =>
    have e2 := gm_L_play (x := X 2) hL hI hon (by omega) hK9
    refine lp_rm hl hK (gm_pans S) 7 (by decide) (gm_play false S (X 2)).1 (gm_play false S (X 2)).2 (gm_play true (V 0).1 (V 0).2) (by rw [← hx2]; exact lc_r2 (S := S) e2 (gm_play_I hI hon (by omega) hK9) (gm_play_I hJ (eN.trans hon) (by omega) hK9) (by omega) hK (gm_play_69 hI hon (by omega) hK9) h69) (fun h m o R O h0 hm ho hom => wL_playN ho hom (d := 5) (by decide) (sm_Cm (by rw [← gm_L_pans hL hI (by omega) hK9]; exact k5_playK (t := (n, B, c, x, f)) hJ (eN.trans hon) hh.2.2.1 hh.2.1 (by omega) hK9) mQ_1)) (fun h m => ?_)
    have q := c6_playK (G := G) (h := h) (m := m) (F := F) (X := X) (A := A) (L := L) (S := S) (x := X 2) hh.1 hh.2.1 hI hon (by omega) hK9
    rw [va_idX] at q
    refine sm_Cm q (fun r1 h1 q => ⟨q.1, _, _, _, q.2, ?_⟩)
    unfold gm_FB gm_rmF
    exact ⟨by rw [up_ne (by decide), up_ne (by decide), up_ne (by decide), up_ne (by decide), up_eq], by rw [up_ne (by decide), up_ne (by decide), up_ne (by decide), up_ne (by decide), up_ne (by decide)], by rw [up_ne (by decide), up_ne (by decide), up_ne (by decide), up_eq], up_eq, gm_kA_o _ (by decide), (gm_kA_o _ (by decide)).trans (by unfold gm_rmA; rw [up_ne (by decide)]), (gm_kA_o _ (by decide)).trans (by unfold gm_rmA; rw [up_ne (by decide)]), (gm_kA_o _ (by decide)).trans (by unfold gm_rmA; rw [up_ne (by decide)])⟩
theorem lp_set (hl : lc K F X A S L V n B c x f) (hK : K + 60000 < 2 ^ 26) (h12 : 12 ≤ K) (w : Int32) (u : Int32) : lp G K mL_set mX6_set [.int w, .int u] F X A S L V (n, B, c, x, f) := by
  have hI := hl.2.1.2.2.1
  have hJ := hl.2.1.2.2.2.1
  have hL := hl.2.1.1
  have hx2 := hl.2.1.2.1
  have hK9 : 12 ≤ K := h12
  have hI3 : S 3 < 2 ^ 31 := by have := hI.2.1 3 (by decide) (by decide); have := hI.2.2.1; omega
  obtain ⟨ht, hr0, hh, hso⟩ := id hl
  have h69 := hr0.2.2.2.2
  cases hs : gm_isS w u with
  | false =>
    cases hw : gm_in (nI 0) w (nI 2) with
    | false =>
      exact lp_no hl hK 1 2 (by decide) (by decide) (fun h m o R O h0 hm ho hom => wL_set1 ho hom (k5_set1 hw h0 hm) _) (fun h m => c6_set0 hs)
    | true =>
      obtain ⟨k, rfl, -, hk⟩ := gm_in_k (by decide) (by decide) hw
      exact lp_no hl hK 1 2 (by decide) (by decide) (fun h m o R O h0 hm ho hom => wL_set1 ho hom (k5_set2 (by omega) hs h0 hm) _) (fun h m => c6_set0 hs)
  | true =>
    obtain ⟨k, u9, rfl, rfl, hku⟩ := gm_isS_k hs
    have hk3 : k < 3 := by omega
    refine lp_rm hl hK (nI (S k)) 2 (by decide) (va_up S k u9) (X 2) (va_up (V 0).1 k u9, (V 0).2) ⟨gm_L_up hL _ (by omega) (by omega), hx2, gm_I_up (gm_set_I hI hku hK9) (by omega) (by omega), gm_I_up (gm_set_I hJ hku hK9) (by omega) (by omega), fun i hi => (up_ne (by omega)).trans (h69 i hi)⟩ (fun h m o R O h0 hm ho hom => wL_setN ho hom (d := 3) (by decide) (sm_Cm (by rw [← hL.lo k (by omega)]; exact k5_setK (t := (n, B, c, x, f)) hk3 hs hh.2.2.1 hh.2.1) mQ_1)) (fun h m => ?_)
    have q := c6_setK (G := G) (h := h) (m := m) (F := F) (X := X) (A := A) (L := L) (S := S) hh.1 hh.2.1 hs hk3
    exact sm_Cm q (fun r1 h1 q => ⟨q.1, _, _, _, q.2, (by unfold gm_rmF; rw [up_ne (by decide), up_eq]), (by unfold gm_rmF; rw [up_ne (by decide), up_ne (by decide)]), (by unfold gm_rmF; rw [up_eq]), rfl, rfl, (by unfold gm_rmA; rw [up_ne (by decide)]), (by unfold gm_rmA; rw [up_ne (by decide)]), (by unfold gm_rmA; rw [up_ne (by decide)])⟩)
theorem lp_undo (hl : lc K F X A S L V n B c x f) (hK : K + 60000 < 2 ^ 26) (h12 : 12 ≤ K) : lp G K mL_undo mX6_undo [] F X A S L V (n, B, c, x, f) := by
  have hI := hl.2.1.2.2.1
  have hJ := hl.2.1.2.2.2.1
  have hL := hl.2.1.1
  have hx2 := hl.2.1.2.1
  have hK9 : 12 ≤ K := h12
  have hI3 : S 3 < 2 ^ 31 := by have := hI.2.1 3 (by decide) (by decide); have := hI.2.2.1; omega
  obtain ⟨ht, hr0, hh, hso⟩ := id hl
  have h69 := hr0.2.2.2.2
  by_cases hc0 : c = 0
  · skip
    exact lp_no hl hK 1 1 (by decide) (by decide) (fun h m o R O h0 hm ho hom => wL_undo1 ho hom (k5_undo1 (t := (n, B, c, x, f)) hc0 h0 hm) _) (fun h m => c6_undo0 (by rw [hh.1, hc0]))
  · obtain ⟨H, H1, H2, H3⟩ := lc_back (F2 := va_up (va_up F 0 (nI 0)) 5 (nI (c - 1))) (X2 := va_up X 2 (L 4 (c - 1))) (hl.K2 hK) (by omega) (by rw [up_ne (by decide), up_ne (by decide)]) up_eq up_eq
    exact ⟨0, nI (c - 1), va_up V 0 (V (2 + mw_pv x)), (n, B, c - 1, mw_pv x, f), 1, by decide, by decide, fun h m o R O h0 hm ho hom => wL_undoN ho hom (d := 3) (by decide) (sm_Cm (k5_undoK (t := (n, B, c, x, f)) hh.2.2.1 hh.2.1 (show 0 < c by omega)) mQ_1), fun h m => sm_Cm (c6_undo1 hh.1 (by omega) hh.2.1 H1 H2) (fun r1 h1 q => ⟨q.1, _, _, _, _, _, q.2, by rw [up_ne (by decide), up_eq], H3⟩)⟩
theorem lp_save (hl : lc K F X A S L V n B c x f) (hK : K + 60000 < 2 ^ 26) (h12 : 12 ≤ K) (w : Int32) : lp G K mL_save mX6_save [.int w] F X A S L V (n, B, c, x, f) := by
  have hI := hl.2.1.2.2.1
  have hJ := hl.2.1.2.2.2.1
  have hL := hl.2.1.1
  have hx2 := hl.2.1.2.1
  have hK9 : 12 ≤ K := h12
  have hI3 : S 3 < 2 ^ 31 := by have := hI.2.1 3 (by decide) (by decide); have := hI.2.2.1; omega
  obtain ⟨ht, hr0, hh, hso⟩ := id hl
  have h69 := hr0.2.2.2.2
  cases hw : gm_in (nI 0) w (nI 1) with
  | false =>
    exact lp_no hl hK 1 1 (by decide) (by decide) (fun h m o R O h0 hm ho hom => wL_save1 ho hom (k5_save1 hw h0 hm) _) (fun h m => c6_save0 hw)
  | true =>
    obtain ⟨k, rfl, -, hk⟩ := gm_in_k (by decide) (by decide) hw
    exact ⟨0, nI (S 3), va_up V (16 + k) (V 0), (n, B, c, x, va_up f k 1), 1, by decide, by decide, fun h m o R O h0 hm ho hom => wL_saveN ho hom (d := 2) (by decide) (sm_Cm (by rw [← hL.lo 3 (by decide)]; exact k5_saveK (t := (n, B, c, x, f)) (by omega)) mQ_1), fun h m => sm_Cm (c6_saveK (show k < 2 by omega)) (fun r1 h1 q => ⟨q.1, _, _, _, _, _, q.2, up_eq, fun v1 => lc_save (hl.K2 hK) (by omega) (up_ne (by decide)) (up_ne (by decide)) v1⟩)⟩
theorem lp_restore (hl : lc K F X A S L V n B c x f) (hK : K + 60000 < 2 ^ 26) (h12 : 12 ≤ K) (w : Int32) : lp G K mL_restore mX6_restore [.int w] F X A S L V (n, B, c, x, f) := by
  have hI := hl.2.1.2.2.1
  have hJ := hl.2.1.2.2.2.1
  have hL := hl.2.1.1
  have hx2 := hl.2.1.2.1
  have hK9 : 12 ≤ K := h12
  have hI3 : S 3 < 2 ^ 31 := by have := hI.2.1 3 (by decide) (by decide); have := hI.2.2.1; omega
  obtain ⟨ht, hr0, hh, hso⟩ := id hl
  have h69 := hr0.2.2.2.2
  cases hw : gm_in (nI 0) w (nI 1) with
  | false =>
    exact lp_no hl hK 1 1 (by decide) (by decide) (fun h m o R O h0 hm ho hom => wL_restore1 ho hom (k5_restore1 hw h0 hm) _) (fun h m => c6_restore0 hw)
  | true =>
    obtain ⟨k, rfl, -, hk⟩ := gm_in_k (by decide) (by decide) hw
    by_cases hf : f k = 0
    · have h8 : A 8 k = nI 0 := by
        rcases hso k (by omega) with q | q
        · exact q.2
        · exact absurd hf q.1
      exact lp_no hl hK 2 1 (by decide) (by decide) (fun h m o R O h0 hm ho hom => wL_restore2 ho hom (k5_restore2 (t := (n, B, c, x, f)) (show k < 2 by omega) hf h0 hm) _) (fun h m => c6_restoreE (show k < 2 by omega) h8)
    · obtain ⟨h8, H, H0, H1, H2, H3⟩ := lc_load (F2 := va_up (va_up F 0 (nI 0)) 5 (nI 0)) (X2 := va_up X 2 (L 7 k)) (hl.K2 hK) (show k < 2 by omega) hf (by rw [up_ne (by decide), up_ne (by decide)]) up_eq up_eq
      exact ⟨0, nI (H 3), va_up V 0 (V (16 + k)), (n, B, 0, x, f), 1, by decide, by decide, fun h m o R O h0 hm ho hom => wL_restoreN ho hom (d := 2) (by decide) (sm_Cm (by rw [← H0.lo 3 (by decide)]; exact k5_restoreK (t := (n, B, c, x, f)) (by omega) hf) mQ_1), fun h m => sm_Cm (c6_restoreK (show k < 2 by omega) h8 H1 H2) (fun r1 h1 q => ⟨q.1, _, _, _, _, _, q.2, by rw [up_ne (by decide), up_eq], H3⟩)⟩
theorem gm_lv_69 {z : Bool} {y : Int64} {q k : Nat} (hI : gm_I K S) (hK : K + 40 < 2 ^ 26) (hK9 : 12 ≤ K) (hqc : q = 6 ∨ (q < 6 ∧ k < 24 ∧ gm_ch q k = true)) : ∀ i, 69 ≤ i → (gm_lv z S y q k).2.1 i = S i := by
  unfold gm_lv
  split
  · split
    · rename_i e; exact gm_pass_69 hI e hK9
    · exact fun _ _ => rfl
  · rename_i e6
    obtain ⟨l1, l2, l3⟩ := hqc.resolve_left e6
    split
    · rename_i e; exact gm_put_69 hI l1 l2 l3 e hK hK9
    · exact fun _ _ => rfl
theorem gm_ldI {z : Bool} {y : Int64} {M : Nat → Int32} (hI : gm_I K S) (hK : K + 5000 < 2 ^ 26) (hK9 : 12 ≤ K) : ∀ k, k ≤ (gm_read B n M).2.2.1 → k ≤ 120 → gm_I (K + 40 * k) (gm_ldN z (gm_read B n M).2.2.2 S y k).2.1 ∧ ∀ i, 69 ≤ i → (gm_ldN z (gm_read B n M).2.2.2 S y k).2.1 i = S i
  | 0, _, _ => ⟨hI, fun _ _ => rfl⟩
  | k + 1, hk, hk2 => by
    obtain ⟨i1, i3⟩ := gm_ldI (M := M) (z := z) (y := y) hI hK hK9 k (by omega) (by omega)
    obtain ⟨q, c, m1, m2, m3, m4⟩ := gm_mvo_i (gm_mvo_r (B := B) (n := n) M) (i := k) (by omega)
    have m5 : q = 6 ∨ i2 ((gm_read B n M).2.2.2 (2 * k + 1)) = c := by
      rcases m4 with m4 | m4
      · exact .inl m4
      · exact .inr m4.2.2.2
    have m6 : q = 6 ∨ (q < 6 ∧ c < 24 ∧ gm_ch q c = true) := by
      rcases m4 with m4 | m4
      · exact .inl m4
      · exact .inr ⟨m4.1, m4.2.1, m4.2.2.1⟩
    rw [gm_ldN_s m3 m5]
    have j := gm_lv_I (z := z) (x := (gm_ldN z (gm_read B n M).2.2.2 S y k).2.2) i1 (by omega) (by omega) m6
    have j2 := gm_lv_69 (z := z) (y := (gm_ldN z (gm_read B n M).2.2.2 S y k).2.2) i1 (by omega) (by omega) m6
    exact ⟨j, fun i hi => (j2 i hi).trans (i3 i hi)⟩

theorem lp_load (hl : lc K F X A S L V n B c x f) (hK : K + 60000 < 2 ^ 26) (h12 : 12 ≤ K) : lp G K mL_load mX6_load [] F X A S L V (n, B, c, x, f) := by
  have hI := hl.2.1.2.2.1
  have hJ := hl.2.1.2.2.2.1
  have hL := hl.2.1.1
  have hx2 := hl.2.1.2.1
  have hK9 : 12 ≤ K := h12
  have hI3 : S 3 < 2 ^ 31 := by have := hI.2.1 3 (by decide) (by decide); have := hI.2.2.1; omega
  obtain ⟨ht, hr0, hh, hso⟩ := id hl
  have h69 := hr0.2.2.2.2
  have hB : ∀ i, i < n → A 9 i = nI (B i) := fun i hi => (ht.2.2 i hi).1
  have hB2 : ∀ i, i < n → B i < 256 := fun i hi => (ht.2.2 i hi).2
  cases hr : (gm_read B n (A 22)).1 with
  | false =>
    exact ⟨1, nI 0, V, (n, B, c, x, f), 4, by decide, by decide, fun h m o R O h0 hm ho hom => wL_load1 ho hom (k5_load1 (t := (n, B, c, x, f)) (A := A 22) ht.2.1 hB2 hr h0 hm) _, fun h m => sm_Cm (c6_load0 ht.1 ht.2.1 hB hB2 hr) (fun r1 h1 q => ⟨q.1, _, _, _, _, _, q.2, up_eq, fun v1 => lc_same (hl.K2 hK) (by unfold gm_RF; rw [up_ne (by decide), up_ne (by decide), up_ne (by decide), up_ne (by decide), up_ne (by decide), up_ne (by decide), up_ne (by decide)]) (by unfold gm_RF; rw [up_ne (by decide), up_ne (by decide), up_ne (by decide), up_ne (by decide), up_ne (by decide), up_ne (by decide), up_ne (by decide)]) rfl (up_ne (by decide)) (up_ne (by decide)) (up_ne (by decide)) (up_ne (by decide)) v1⟩)⟩
  | true =>
    have hm := gm_mc_le (B := B) (M := A 22) ht.2.1 hr
    have hd := gm_hd (gm_read_k hr)
    have q1 := fun (h : sm_H) (m : Nat) (R : mw_R) => k5_loadK (G := G) (h := h) (m := m) (V := V) (R := R) (t := (n, B, c, x, f)) (A := A 22) hJ.2.1 (show K + 5000 < 2 ^ 26 by omega) hK9 ht.2.1 hB2 hr
    have q2 := fun (h : sm_H) (m : Nat) => c6_loadK (G := G) (h := h) (m := m) (X := X) (L := L) ht.1 ht.2.1 hB hB2 hr hI.2.1 hK9 (show K + 5000 < 2 ^ 26 by omega)
    dsimp only at q1 q2
    obtain ⟨y, hy⟩ : ∃ y, (nI (gm_ts B)).toInt64 = y := ⟨_, rfl⟩
    obtain ⟨y2, hy2⟩ : ∃ y2, gm_nx y = y2 := ⟨_, rfl⟩
    obtain ⟨S3, hS3⟩ : ∃ S3, gm_new (gm_s0 S) (gm_tp B) y = S3 := ⟨_, rfl⟩
    obtain ⟨T3, hT3⟩ : ∃ T3, cg_new (va_up (cg_ss (V 0).1 3) 3 0) (gm_tp B) y = T3 := ⟨_, rfl⟩
    have g1 : gm_L S3 T3 := by rw [← hS3, ← hT3]; exact gm_L_new ⟨rfl, rfl, rfl⟩ hd.2.2.2.1
    have g2 : gm_I K S3 := by
      rw [← hS3]
      refine gm_new_I (by show 1 ≤ 6 ∧ 6 ≤ 12 ∧ 1 ≤ 5 ∧ 1 ≤ 2 ∧ 2 ≤ 3; omega) (fun i a b => ?_) (by omega) hK9 hd.2.2.1 hd.2.2.2.1
      have := hI.2.1 i a b
      unfold gm_s0 va_up gm_z0; (repeat' split) <;> omega
    have g3 : gm_I K T3 := by
      rw [← hT3]
      exact cg_new_I (by show 1 ≤ 6 ∧ 6 ≤ 12 ∧ 1 ≤ 5 ∧ 1 ≤ 2 ∧ 2 ≤ 3; omega) (fun i a b => by have := hJ.2.1 i a b; unfold va_up cg_ss cg_fs; (repeat' split) <;> omega) (by omega) hK9 hd.2.2.1 hd.2.2.2.1
    have g4 : ∀ i, 69 ≤ i → S3 i = 0 := fun i hi => by
      rw [← hS3]
      unfold gm_new gm_bg
      rw [up_ne (by omega), if_neg (by omega), if_neg (by omega), if_neg (by omega), if_neg (by omega), if_neg (by omega), if_neg (by omega), if_neg (by omega)]
      unfold gm_s0
      rw [up_ne (by omega), up_ne (by omega), up_ne (by omega)]
      unfold gm_z0
      rw [if_neg (by omega)]; exact h69 i hi
    rw [hy, hy2, hS3] at q2
    rw [hy, hy2, hT3] at q1
    have e1 := gm_L_ldN (B := B) (n := n) (M := A 22) (x := y2) g1 g2 (by omega) hK9 (gm_read B n (A 22)).2.2.1 (Nat.le_refl _) (by omega)
    have e2 := gm_ldI (B := B) (n := n) (M := A 22) (z := false) (y := y2) g2 (by omega) hK9 (gm_read B n (A 22)).2.2.1 (Nat.le_refl _) (by omega)
    have e3 := gm_ldI (B := B) (n := n) (M := A 22) (z := true) (y := y2) g3 (by omega) hK9 (gm_read B n (A 22)).2.2.1 (Nat.le_refl _) (by omega)
    rw [e1.1] at q1
    generalize gm_ldN true (gm_read B n (A 22)).2.2.2 T3 y2 (gm_read B n (A 22)).2.2.1 = DT at q1 e1 e3
    generalize gm_ldN false (gm_read B n (A 22)).2.2.2 S3 y2 (gm_read B n (A 22)).2.2.1 = DS at q1 q2 e1 e2
    refine ⟨0, nI DS.1, va_up V 0 DT.2, (n, B, 0, x, mw_z f 2), 7, by decide, by decide, fun h m o R O h0 hm ho hom => wL_loadN ho hom (d := 6) (by decide) (sm_Cm (q1 h m R) mQ_1), fun h m => sm_Cm (q2 h m) (fun r1 h1 q => ⟨q.1, _, _, _, _, _, q.2, ?_, fun v1 => ?_⟩)⟩
    · unfold gm_RF; rw [up_ne (by decide), up_ne (by decide), up_ne (by decide), up_ne (by decide), up_ne (by decide), up_ne (by decide), up_eq]
    · refine ⟨⟨Eq.trans (b := F 10) (by unfold gm_RF; rw [up_ne (by decide), up_ne (by decide), up_ne (by decide), up_ne (by decide), up_ne (by decide), up_ne (by decide), up_ne (by decide)]) ht.1, ht.2.1, fun i hi => ?_⟩, ⟨e1.2.1.1, ?_, gm_I_up e2.1 (by omega) (by omega), ?_, fun i hi => (e2.2 i hi).trans (g4 i hi)⟩, ⟨up_eq, Nat.zero_le 14, hh.2.2.1, fun j hj => absurd (show j < 0 from hj) (Nat.not_lt_zero _)⟩, fun k hk => .inl ⟨by show mw_z f 2 k = 0; unfold mw_z; rw [if_pos hk], ?_⟩⟩
      · unfold gm_A8; rw [up_ne (by decide), up_ne (by decide)]; exact ht.2.2 i hi
      · rw [up_eq, up_ne (by decide), up_eq]; exact e1.2.1.2.symm
      · rw [up_ne (by decide), up_eq]; exact gm_I_up e3.1 (by omega) (by omega)
      · unfold gm_A8; rw [up_eq]
        rcases (show k = 0 ∨ k = 1 by omega) with rfl | rfl
        · rw [up_ne (by decide), up_eq]
        · rw [up_eq]
/-! the two calls that nothing wraps -/
def lp0 (G : sm_G) (K : Nat) (Mx Mr : sm_M) (F : Nat → Int32) (X : Nat → Int64) (A : Nat → Nat → Int32) (S : gm_S) (L : Nat → Nat → Int64) (V : mw_V) (t : mw_T) : Prop :=
  ∃ (a : Int32) (V2 : mw_V) (t2 : mw_T) (d1 d2 : Nat), d1 ≤ 8 ∧ d2 ≤ 8 ∧ (∀ (h : sm_H) (m : Nat) (R : mw_R), sm_C G Mx d1 0 0 [.ref m] (mw G h m V R t) (mQ G h m (.inl (some (.int a))) V2 t2)) ∧ (∀ (h : sm_H) (m : Nat), sm_C G Mr d2 0 0 [.ref m] (sm_om G h m F X (sm_as A S) L) (lR G h m (K + 5000) 0 a V2 t2))
theorem lp_errorPosition (hl : lc K F X A S L V n B c x f) (hK : K + 60000 < 2 ^ 26) : lp0 G K mX5_errorPosition mX6_errorPosition F X A S L V (n, B, c, x, f) := by
  have ht := hl.1
  have hB : ∀ i, i < n → A 9 i = nI (B i) := fun i hi => (ht.2.2 i hi).1
  have hB2 : ∀ i, i < n → B i < 256 := fun i hi => (ht.2.2 i hi).2
  refine ⟨gm_rans (gm_read B n (A 22)), V, (n, B, c, x, f), 4, 4, by decide, by decide, fun h m R => k5_errorPosition (t := (n, B, c, x, f)) (A := A 22) ht.2.1 hB2, fun h m => sm_Cm (c6_errorPosition ht.1 ht.2.1 hB hB2) (fun r1 h1 q => ⟨q.1, _, _, _, _, _, q.2, ?_, fun v1 => lc_same (hl.K2 hK) ?_ ?_ rfl (up_ne (by decide)) (up_ne (by decide)) (up_ne (by decide)) (up_ne (by decide)) v1⟩)⟩
  · unfold gm_RF; rw [up_ne (by decide), up_ne (by decide), up_ne (by decide), up_ne (by decide), up_ne (by decide), up_eq]
  · unfold gm_RF; rw [up_ne (by decide), up_ne (by decide), up_ne (by decide), up_ne (by decide), up_ne (by decide), up_ne (by decide)]
  · unfold gm_RF; rw [up_ne (by decide), up_ne (by decide), up_ne (by decide), up_ne (by decide), up_ne (by decide), up_ne (by decide)]
theorem lp_clearText (hl : lc K F X A S L V n B c x f) (hK : K + 60000 < 2 ^ 26) : lp0 G K mX5_clearText mX6_clearText F X A S L V (n, B, c, x, f) := by
  obtain ⟨ht, hr0, hh, hso⟩ := hl.K2 hK
  refine ⟨nI n, V, (0, B, c, x, f), 0, 0, by decide, by decide, fun h m R => k5_clearText (t := (n, B, c, x, f)), fun h m => (sm_Cm c6_clearText (fun r1 h1 q => ⟨by rw [q.1, ht.1], _, _, _, _, _, q.2, by rw [up_ne (by decide), up_eq], fun v1 => ?_⟩))⟩
  exact ⟨⟨up_eq, Nat.zero_le _, fun i hi => absurd (show i < 0 from hi) (Nat.not_lt_zero _)⟩, by rw [up_ne (by decide)]; exact hr0, lc_h_of hh (by rw [up_ne (by decide), up_ne (by decide)]) rfl rfl (fun j _ => up_ne (by omega)), lc_o_of hso rfl rfl rfl (fun k _ => up_ne (by omega))⟩
end CLQ
