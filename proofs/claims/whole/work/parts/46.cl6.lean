section CP6
variable {G : sm_G} {h : sm_H} {g n p q k c K : Nat} {P P2 : Nat → Nat} {B : Nat → Int32} {S T : gm_S} {x : Int64} {S1 : gm_S} {P9 : Nat → Nat}
theorem cl_Qi {v : Option Value} {F : (Nat → Nat) → (Nat → Int32) → sm_H} {φ : (Nat → Nat) → (Nat → Int32) → Prop} {r : sm_O} {hh : sm_H} (P : Nat → Nat) (B : Nat → Int32) (e : r = .inl v) (eh : hh = F P B) (q : φ P B) : cl_Q v F φ r hh := ⟨e, P, B, eh, q⟩
def cl_tt (_ : Nat → Nat) (_ : Nat → Int32) : Prop := True
theorem cl_tt_i : cl_tt P B := trivial
/-- a player's row ahead of the work, behind the bumping -/
def cg_R (S : gm_S) (q : Nat) : Nat → Nat := fun w => if w = 0 then S (13 + 8 * S 4) - gm_toll S q else if w = 6 then S (13 + 8 * S 4 + 6) - 1 else S (13 + 8 * S 4 + w)
def cl_do (P : Nat → Nat) (q c wx pr : Nat) : Nat → Nat :=
  if q = 0 then va_up P 1 (P 1 + wx) else if q = 1 then va_up P 2 (P 2 + (7 - wx)) else if q = 2 then va_up (va_up (va_up P 2 (P 2 - c)) 0 (P 0 - c)) 3 (P 3 + 2 * c)
  else if q = 3 then va_up (va_up P (1 + c / 10) (P (1 + c / 10) - c % 10)) 0 (P 0 + gm_sell pr (c % 10))
  else if q = 4 then va_up (va_up (va_up P 0 (P 0 - 5)) 5 (P 5 + 1)) 6 (P 6 + 1) else va_up (va_up P 0 (P 0 - 2)) 4 (P 4 + 3)
theorem up_row {T : gm_S} {b k v w : Nat} : va_up T (b + k) v (b + w) = va_up (fun u => T (b + u)) k v w := by
  unfold va_up; by_cases e : w = k
  · rw [if_pos (by omega), if_pos e]
  · rw [if_neg (by omega), if_neg e]
theorem up_row0 {T : gm_S} {b v w : Nat} : va_up T b v (b + w) = va_up (fun u => T (b + u)) 0 v w := up_row (k := 0)
theorem up_fun {b k v : Nat} {T : gm_S} : (fun u => va_up T (b + k) v (b + u)) = va_up (fun u => T (b + u)) k v := funext fun _ => up_row
theorem up_fun0 {b v : Nat} {T : gm_S} : (fun u => va_up T b v (b + u)) = va_up (fun u => T (b + u)) 0 v := funext fun _ => up_row0
theorem cg_do {T : gm_S} {q c w : Nat} (hq : q < 6) (h4 : T 4 < 4) (hg : q = 3 → c / 10 < 3) (hw : w < 8) : gm_do T q c (13 + 8 * T 4 + w) = cl_do (cl_r T (T 4)) q c (T 5) (T (7 + c / 10)) w := by
  rcases (show q = 0 ∨ q = 1 ∨ q = 2 ∨ q = 3 ∨ q = 4 ∨ q = 5 by omega) with rfl | rfl | rfl | rfl | rfl | rfl
  · show va_up T (13 + 8 * T 4 + 1) _ (13 + 8 * T 4 + w) = va_up _ 1 _ w
    rw [up_row]; rfl
  · show va_up T (13 + 8 * T 4 + 2) _ (13 + 8 * T 4 + w) = va_up _ 2 _ w
    rw [up_row]; rfl
  · show va_up (va_up (va_up T (13 + 8 * T 4 + 2) _) (13 + 8 * T 4) _) (13 + 8 * T 4 + 3) _ (13 + 8 * T 4 + w) = va_up (va_up (va_up _ 2 _) 0 _) 3 _ w
    rw [up_row, up_fun0, up_fun]; rfl
  · have hg' := hg rfl
    show gm_sst (va_up T (13 + 8 * T 4 + (1 + c / 10)) _) (T 4) (c / 10) (c % 10) (13 + 8 * T 4 + w) = va_up (va_up _ (1 + c / 10) _) 0 _ w
    unfold gm_sst
    by_cases e : w = 0
    · subst e
      rw [if_pos (Nat.add_zero _), up_eq, Nat.add_zero, up_ne (by omega), up_ne (by omega)]; rfl
    · rw [if_neg (by omega), if_neg (by omega), up_row, up_ne e]; rfl
  · show va_up (va_up (va_up T (13 + 8 * T 4) _) (13 + 8 * T 4 + 5) _) (13 + 8 * T 4 + 6) _ (13 + 8 * T 4 + w) = va_up (va_up (va_up _ 0 _) 5 _) 6 _ w
    rw [up_row, up_fun, up_fun0]; rfl
  · show va_up (va_up T (13 + 8 * T 4) _) (13 + 8 * T 4 + 4) _ (13 + 8 * T 4 + w) = va_up (va_up _ 0 _) 4 _ w
    rw [up_row, up_fun0]; rfl
theorem cg_do_o {T : gm_S} {q c i : Nat} (hi : i < 13 + 8 * T 4 ∨ 13 + 8 * T 4 + 8 ≤ i) (hg : q = 3 → c / 10 < 3) (h3 : q = 3 → i ≠ 7 + c / 10) : gm_do T q c i = T i := by
  unfold gm_do
  split
  · exact up_ne (by omega)
  split
  · exact up_ne (by omega)
  split
  · rw [up_ne (by omega), up_ne (by omega), up_ne (by omega)]
  split
  · rename_i e
    have := hg e; have := h3 e
    unfold gm_sst; rw [if_neg (by omega), if_neg (by omega), up_ne (by omega)]
  split
  · rw [up_ne (by omega), up_ne (by omega), up_ne (by omega)]
  · rw [up_ne (by omega), up_ne (by omega)]
theorem cg_do_p {T : gm_S} {c : Nat} (hg : c / 10 < 3) : gm_do T 3 c (7 + c / 10) = max 1 (T (7 + c / 10) - c % 10) := by
  show gm_sst (va_up T (13 + 8 * T 4 + (1 + c / 10)) _) (T 4) (c / 10) (c % 10) (7 + c / 10) = _
  unfold gm_sst; rw [if_neg (by omega), if_pos rfl, up_ne (by omega)]
theorem cg_row {q c : Nat} (hI : gm_I K S) (hq : q < 6) (hc : c < 24) (hch : gm_ch q c = true) (hcan : gm_can S q c = true) {w : Nat} (hw : w < 8) : gm_pl S q c (13 + 8 * S 4 + w) = cl_do (cg_R S q) q c (S 5) (S (7 + c / 10)) w := by
  have hJ := gm_IJ hI (gm_on_i (gm_can_on hcan)).1
  have hg := gm_chg hc hch
  obtain ⟨g1, g2, g3⟩ := gm_S2_x hJ hq hcan
  obtain ⟨f1, f2, f3, f4, f5⟩ := gm_bd_x hJ hq hcan
  obtain ⟨⟨j0, j01, j1, j2, j21⟩, jK, jK2, jw, j3, j31, j4, j5, j51, j6, jp, j10, ⟨jh, jps⟩, jpl, jow⟩ := hJ
  have e4 := g1 4 (by omega); have e5 := g1 5 (by omega); have e7 := g1 (7 + c / 10) (by omega)
  have e6 : gm_add (gm_bd S q) q (13 + 8 * S 4 + 6) = S (13 + 8 * S 4 + 6) - 1 := by
    unfold gm_add; rw [f2, up_eq, f4 (S 4) 6 (by omega) (by omega) (by omega)]
  have er : ∀ u, u < 8 → cl_r (gm_add (gm_bd S q) q) (S 4) u = cg_R S q u := by
    intro u hu
    show gm_add (gm_bd S q) q (13 + 8 * S 4 + u) = _
    unfold cg_R
    split
    · rename_i e; subst e; exact g3
    split
    · rename_i e; subst e; exact e6
    · exact g2 (S 4) u (by omega) (by omega) hu (by assumption)
  have h := cg_do (T := gm_add (gm_bd S q) q) (q := q) (c := c) (w := w) hq (by omega) (fun e => (hg e).1) hw
  rw [e4] at h
  show gm_do (gm_add (gm_bd S q) q) q c (13 + 8 * S 4 + w) = _
  rw [h, e5, e7]
  have upE : ∀ (f f' : Nat → Nat) k v v' w, (w < 8 → f w = f' w) → v = v' → w < 8 → va_up f k v w = va_up f' k v' w := fun f f' k v v' w a b hw9 => by
    unfold va_up; rw [b]; split
    · rfl
    · exact a hw9
  unfold cl_do
  split
  · exact upE _ _ _ _ _ _ (er w) (by rw [er 1 (by omega)]) hw
  split
  · exact upE _ _ _ _ _ _ (er w) (by rw [er 2 (by omega)]) hw
  split
  · exact upE _ _ _ _ _ _ (upE _ _ _ _ _ _ (upE _ _ _ _ _ _ (er w) (by rw [er 2 (by omega)])) (by rw [er 0 (by omega)])) (by rw [er 3 (by omega)]) hw
  split
  · rename_i e
    have := (hg e).1
    exact upE _ _ _ _ _ _ (upE _ _ _ _ _ _ (er w) (by rw [er (1 + c / 10) (by omega)])) (by rw [er 0 (by omega)]) hw
  split
  · exact upE _ _ _ _ _ _ (upE _ _ _ _ _ _ (upE _ _ _ _ _ _ (er w) (by rw [er 0 (by omega)])) (by rw [er 5 (by omega)])) (by rw [er 6 (by omega)]) hw
  · exact upE _ _ _ _ _ _ (upE _ _ _ _ _ _ (er w) (by rw [er 0 (by omega)])) (by rw [er 4 (by omega)]) hw
theorem cg_can {q c : Nat} (h1 : gm_on S = true) (hb : gm_full S q = true → gm_bk S q ≠ 3) (ht : gm_toll S q ≤ S (13 + 8 * S 4)) : gm_can S q c = gm_wk S q c (S (13 + 8 * S 4) - gm_toll S q) := by
  unfold gm_can; rw [h1, decide_eq_true hb, decide_eq_true ht]; rfl
theorem cg_wk {q c n : Nat} (h : (q = 2 → c ≤ S (13 + 8 * S 4 + 2) ∧ c ≤ n) ∧ (q = 3 → c % 10 ≤ S (13 + 8 * S 4 + (1 + c / 10))) ∧ (q = 4 → 5 ≤ n ∧ S (13 + 8 * S 4 + 5) < 5) ∧ (q = 5 → 2 ≤ n ∧ S (13 + 8 * S 4 + 4) < 30)) : gm_wk S q c n = true := decide_eq_true h
theorem cg_wk0 {q c n : Nat} (h : ¬ ((q = 2 → c ≤ S (13 + 8 * S 4 + 2) ∧ c ≤ n) ∧ (q = 3 → c % 10 ≤ S (13 + 8 * S 4 + (1 + c / 10))) ∧ (q = 4 → 5 ≤ n ∧ S (13 + 8 * S 4 + 5) < 5) ∧ (q = 5 → 2 ≤ n ∧ S (13 + 8 * S 4 + 4) < 30))) : gm_wk S q c n = false := decide_eq_false h
theorem cg_bw_n (hf : gm_full S q = false) : cg_bw S q = -1 := if_neg (fun z => ne_t hf z.1)
theorem cg_bw_f (hf : gm_full S q = true) (hb : gm_bk S q ≠ 3) : cg_bw S q = nI (S (45 + 4 * q + 1 + gm_bk S q)) := if_pos ⟨hf, hb⟩
theorem cg_bw_3 (hb : gm_bk S q = 3) : cg_bw S q = -1 := if_neg (fun z => z.2 hb)
theorem cg_R_0 (hf : gm_full S q = false) : ∀ w, w < 8 → va_up (cl_r S (S 4)) 6 (cl_r S (S 4) 6 - 1) w = cg_R S q w := by
  intro w _; unfold va_up cg_R gm_toll cl_r; rw [hf]
  by_cases e : w = 6
  · subst e; rfl
  · rw [if_neg e]
    by_cases e0 : w = 0
    · subst e0; rw [if_pos rfl, if_neg (by decide), Nat.sub_zero]; rfl
    · rw [if_neg e0]
theorem cg_R_1 (hf : gm_full S q = true) : ∀ w, w < 8 → va_up (va_up (cl_r S (S 4)) 6 (cl_r S (S 4) 6 - 1)) 0 (va_up (cl_r S (S 4)) 6 (cl_r S (S 4) 6 - 1) 0 - S 1) w = cg_R S q w := by
  intro w _; unfold va_up cg_R gm_toll cl_r; rw [hf]
  by_cases e0 : w = 0
  · subst e0; rw [if_pos rfl, if_pos rfl, if_neg (by omega), if_pos rfl]; rfl
  · rw [if_neg e0, if_neg e0]
theorem cl_eP {P2 : Nat → Nat} (hP : ∀ w, w < 8 → P w = P2 w) : cl_g G h g S x P B = cl_g G h g S x P2 B := gl_eq (fun _ _ => rfl) hP ⟨rfl, rfl, rfl⟩
theorem k0_try93 (hI : gm_I K S) (hq : q < 6) (hc : c < 24) (hch : gm_ch q c = true) (hon : gm_on S = true) (hb : gm_full S q = true → gm_bk S q ≠ 3) (ht : gm_toll S q ≤ S (13 + 8 * S 4)) : sm_V G mX0_tryPlacing (sm_rm 2 0 0) (sm_Zm G (cl_Q (some (.int (nI (b2n (gm_can S q c))))) (fun P _ => cl_g G h g S x P B) (fun P _ => gm_can S q c = true → ∀ w, w < 8 → P w = gm_pl S q c (13 + 8 * S 4 + w))) 0 0) 0 0 93 [(0, .ref g), (1, .int (nI q)), (2, .int (nI c))] [] (cl_g G h g S x (cg_R S q) B) := by
  have hg := gm_chg hc hch
  have ec := cg_can (c := c) hon hb ht
  obtain ⟨⟨j0, j01, j1, j2, j21⟩, jK, jK2, jw, j3, j31, j4, j5, j51, j6, jp, j10, ⟨jh, jps⟩, jpl, jow⟩ := gm_IJ hI (gm_on_i hon).1
  have row := fun (hcan : gm_can S q c = true) w (hw : w < 8) => cg_row hI hq hc hch hcan hw
  have r0 : cg_R S q 0 = S (13 + 8 * S 4) - gm_toll S q := rfl
  have r1 : cg_R S q 1 = S (13 + 8 * S 4 + 1) := rfl
  have r2 : cg_R S q 2 = S (13 + 8 * S 4 + 2) := rfl
  have r3 : cg_R S q 3 = S (13 + 8 * S 4 + 3) := rfl
  have r4 : cg_R S q 4 = S (13 + 8 * S 4 + 4) := rfl
  have r5 : cg_R S q 5 = S (13 + 8 * S 4 + 5) := rfl
  have b0 := jK (13 + 8 * S 4) (by omega) (by omega); have b1 := jK (13 + 8 * S 4 + 1) (by omega) (by omega); have b2 := jK (13 + 8 * S 4 + 2) (by omega) (by omega); have b3 := jK (13 + 8 * S 4 + 3) (by omega) (by omega); have b4 := jK (13 + 8 * S 4 + 4) (by omega) (by omega); have b5 := jK (13 + 8 * S 4 + 5) (by omega) (by omega)
  refine sv_iload_n dX0_tryPlacing_93 rfl ?_
  rcases (show q = 0 ∨ q = 1 ∨ q = 2 ∨ q = 3 ∨ q = 4 ∨ q = 5 from by omega) with rfl | rfl | rfl | rfl | rfl | rfl
  · refine sv_tableIn (off := 34) 128 dX0_tryPlacing_94 (by decide) (by decide) (by decide) (by decide) ?_
    refine sv_aload_n dX0_tryPlacing_128 rfl ?_
    refine kg_g12 gl_0 dX0_tryPlacing_129 sf_X0_57 ?_
    refine sv_iconst (nI 0) dX0_tryPlacing_132 (by decide) ?_
    refine sv_aload_n dX0_tryPlacing_133 rfl ?_
    refine kg_g7 gl_0 dX0_tryPlacing_134 sf_X0_40 ?_
    refine sv_callV (As := [_, _]) sc_X0_127 (k3_gain (g := 0) gl_af (by omega)) rfl rfl (Nat.le_of_ble_eq_true rfl) dX0_tryPlacing_137 ⟨by decide, by decide⟩ ⟨Nat.le_refl _, Nat.le_refl _⟩ (Nat.le_of_ble_eq_true rfl) gl_af.1 (List.cons_ne_nil _ _) rfl ?_
    refine sv_heap gl_wa ?_
    refine sv_iconst (nI 1) dX0_tryPlacing_140 (by decide) ?_
    refine sv_iret dX0_tryPlacing_141 rfl rfl (Nat.le_refl _) (Nat.le_refl _) ?_
    have hcan : gm_can S 0 c = true := ec.trans (cg_wk (by omega))
    exact cl_Qi _ B (rbt hcan) rfl (fun _ w hw => (row hcan w hw).symm)
  · refine sv_tableIn (off := 48) 142 dX0_tryPlacing_94 (by decide) (by decide) (by decide) (by decide) ?_
    refine sv_aload_n dX0_tryPlacing_142 rfl ?_
    refine kg_g12 gl_0 dX0_tryPlacing_143 sf_X0_57 ?_
    refine sv_iconst (nI 1) dX0_tryPlacing_146 (by decide) ?_
    refine sv_bipush (nI 7) dX0_tryPlacing_147 (by decide) ?_
    refine sv_aload_n dX0_tryPlacing_149 rfl ?_
    refine kg_g7 gl_0 dX0_tryPlacing_150 sf_X0_40 ?_
    refine sv_isubN dX0_tryPlacing_153 (by omega) ?_
    refine sv_callV (As := [_, _]) sc_X0_127 (k3_gain (g := 1) gl_af (by omega)) rfl rfl (Nat.le_of_ble_eq_true rfl) dX0_tryPlacing_154 ⟨by decide, by decide⟩ ⟨Nat.le_refl _, Nat.le_refl _⟩ (Nat.le_of_ble_eq_true rfl) gl_af.1 (List.cons_ne_nil _ _) rfl ?_
    refine sv_heap gl_wa ?_
    refine sv_iconst (nI 1) dX0_tryPlacing_157 (by decide) ?_
    refine sv_iret dX0_tryPlacing_158 rfl rfl (Nat.le_refl _) (Nat.le_refl _) ?_
    have hcan : gm_can S 1 c = true := ec.trans (cg_wk (by omega))
    exact cl_Qi _ B (rbt hcan) rfl (fun _ w hw => (row hcan w hw).symm)
  · refine sv_tableIn (off := 65) 159 dX0_tryPlacing_94 (by decide) (by decide) (by decide) (by decide) ?_
    rcases (show (c ≤ cg_R S 2 2 ∧ c ≤ cg_R S 2 0) ∨ cg_R S 2 2 < c ∨ (c ≤ cg_R S 2 2 ∧ cg_R S 2 0 < c) by omega) with hv | hv | hv
    · refine sv_aload_n dX0_tryPlacing_159 rfl ?_
      refine kg_g12 gl_0 dX0_tryPlacing_160 sf_X0_57 ?_
      refine sv_iload_n dX0_tryPlacing_163 rfl ?_
      refine sv_callV (As := [_]) sc_X0_131 (k3_weaveK gl_af (by omega) (by omega) (by omega) (by omega) (by omega)) rfl rfl (Nat.le_of_ble_eq_true rfl) dX0_tryPlacing_164 ⟨by decide, by decide⟩ ⟨Nat.le_refl _, Nat.le_refl _⟩ (Nat.le_of_ble_eq_true rfl) gl_af.1 (List.cons_ne_nil _ _) rfl ?_
      refine sv_heap gl_wa ?_
      refine sv_iret dX0_tryPlacing_167 rfl rfl (Nat.le_refl _) (Nat.le_refl _) ?_
      have hcan : gm_can S 2 c = true := ec.trans (cg_wk (by omega))
      exact cl_Qi _ B (rbt hcan) rfl (fun _ w hw => (row hcan w hw).symm)
    · refine sv_aload_n dX0_tryPlacing_159 rfl ?_
      refine kg_g12 gl_0 dX0_tryPlacing_160 sf_X0_57 ?_
      refine sv_iload_n dX0_tryPlacing_163 rfl ?_
      refine sv_callV (As := [_]) sc_X0_131 (k3_weave0 gl_af (by omega) (by omega) (by omega) (by omega)) rfl rfl (Nat.le_of_ble_eq_true rfl) dX0_tryPlacing_164 ⟨by decide, by decide⟩ ⟨Nat.le_refl _, Nat.le_refl _⟩ (Nat.le_of_ble_eq_true rfl) gl_af.1 (List.cons_ne_nil _ _) rfl ?_
      refine sv_iret dX0_tryPlacing_167 rfl rfl (Nat.le_refl _) (Nat.le_refl _) ?_
      have hcan : gm_can S 2 c = false := ec.trans (cg_wk0 (by omega))
      exact cl_Qi _ B (rbf hcan) rfl (fun z => absurd z (ne_t hcan))
    · refine sv_aload_n dX0_tryPlacing_159 rfl ?_
      refine kg_g12 gl_0 dX0_tryPlacing_160 sf_X0_57 ?_
      refine sv_iload_n dX0_tryPlacing_163 rfl ?_
      refine sv_callV (As := [_]) sc_X0_131 (k3_weave1 gl_af (by omega) (by omega) (by omega) (by omega) (by omega)) rfl rfl (Nat.le_of_ble_eq_true rfl) dX0_tryPlacing_164 ⟨by decide, by decide⟩ ⟨Nat.le_refl _, Nat.le_refl _⟩ (Nat.le_of_ble_eq_true rfl) gl_af.1 (List.cons_ne_nil _ _) rfl ?_
      refine sv_heap gl_wa ?_
      refine sv_iret dX0_tryPlacing_167 rfl rfl (Nat.le_refl _) (Nat.le_refl _) ?_
      have hcan : gm_can S 2 c = false := ec.trans (cg_wk0 (by omega))
      exact cl_Qi _ B (rbf hcan) rfl (fun z => absurd z (ne_t hcan))
  · refine sv_tableIn (off := 74) 168 dX0_tryPlacing_94 (by decide) (by decide) (by decide) (by decide) ?_
    rcases Nat.lt_or_ge (cg_R S 3 (1 + c / 10)) (c % 10) with hv | hv
    · obtain ⟨hg1, hg2, hg3⟩ := hg rfl
      have hR : cg_R S 3 (1 + c / 10) = S (13 + 8 * S 4 + (1 + c / 10)) := by unfold cg_R; rw [if_neg (by omega), if_neg (by omega)]
      have hB : cg_R S 3 (1 + c / 10) < 2 ^ 30 := by rw [hR]; have := jK (13 + 8 * S 4 + (1 + c / 10)) (by omega) (by omega); omega
      have hpr := jp (c / 10) hg1
      refine sv_aload_n dX0_tryPlacing_168 rfl ?_
      refine kg_g12 gl_0 dX0_tryPlacing_169 sf_X0_57 ?_
      refine sv_iload_n dX0_tryPlacing_172 rfl ?_
      refine sv_bipush (nI 10) dX0_tryPlacing_173 (by decide) ?_
      refine sv_idivN dX0_tryPlacing_175 (by omega) (by omega) (by omega) ?_
      refine sv_iload_n dX0_tryPlacing_176 rfl ?_
      refine sv_bipush (nI 10) dX0_tryPlacing_177 (by decide) ?_
      refine sv_iremN dX0_tryPlacing_179 (by omega) (by omega) (by omega) ?_
      refine sv_aload_n dX0_tryPlacing_180 rfl ?_
      refine kg_g2 gl_0 dX0_tryPlacing_181 sf_X0_23 ?_
      refine sv_iload_n dX0_tryPlacing_184 rfl ?_
      refine sv_bipush (nI 10) dX0_tryPlacing_185 (by decide) ?_
      refine sv_idivN dX0_tryPlacing_187 (by omega) (by omega) (by omega) ?_
      refine kg_ldr gl_3 dX0_tryPlacing_188 (by omega) ?_
      refine sv_callV (As := [_, _, _]) sc_X0_134 (k3_sell0 gl_af (by omega) hB (by omega) hv) rfl rfl (Nat.le_of_ble_eq_true rfl) dX0_tryPlacing_189 ⟨by decide, by decide⟩ ⟨Nat.le_refl _, Nat.le_refl _⟩ (Nat.le_of_ble_eq_true rfl) gl_af.1 (List.cons_ne_nil _ _) rfl ?_
      refine sv_iret dX0_tryPlacing_192 rfl rfl (Nat.le_refl _) (Nat.le_refl _) ?_
      have hcan : gm_can S 3 c = false := ec.trans (cg_wk0 (by omega))
      exact cl_Qi _ B (rbf hcan) rfl (fun z => absurd z (ne_t hcan))
    · obtain ⟨hg1, hg2, hg3⟩ := hg rfl
      have hR : cg_R S 3 (1 + c / 10) = S (13 + 8 * S 4 + (1 + c / 10)) := by unfold cg_R; rw [if_neg (by omega), if_neg (by omega)]
      have hB : cg_R S 3 (1 + c / 10) < 2 ^ 30 := by rw [hR]; have := jK (13 + 8 * S 4 + (1 + c / 10)) (by omega) (by omega); omega
      have hpr := jp (c / 10) hg1
      refine sv_aload_n dX0_tryPlacing_168 rfl ?_
      refine kg_g12 gl_0 dX0_tryPlacing_169 sf_X0_57 ?_
      refine sv_iload_n dX0_tryPlacing_172 rfl ?_
      refine sv_bipush (nI 10) dX0_tryPlacing_173 (by decide) ?_
      refine sv_idivN dX0_tryPlacing_175 (by omega) (by omega) (by omega) ?_
      refine sv_iload_n dX0_tryPlacing_176 rfl ?_
      refine sv_bipush (nI 10) dX0_tryPlacing_177 (by decide) ?_
      refine sv_iremN dX0_tryPlacing_179 (by omega) (by omega) (by omega) ?_
      refine sv_aload_n dX0_tryPlacing_180 rfl ?_
      refine kg_g2 gl_0 dX0_tryPlacing_181 sf_X0_23 ?_
      refine sv_iload_n dX0_tryPlacing_184 rfl ?_
      refine sv_bipush (nI 10) dX0_tryPlacing_185 (by decide) ?_
      refine sv_idivN dX0_tryPlacing_187 (by omega) (by omega) (by omega) ?_
      refine kg_ldr gl_3 dX0_tryPlacing_188 (by omega) ?_
      refine sv_callV (As := [_, _, _]) sc_X0_134 (k3_sellK gl_af (by omega) hB (by omega) hv (by omega)) rfl rfl (Nat.le_of_ble_eq_true rfl) dX0_tryPlacing_189 ⟨by decide, by decide⟩ ⟨Nat.le_refl _, Nat.le_refl _⟩ (Nat.le_of_ble_eq_true rfl) gl_af.1 (List.cons_ne_nil _ _) rfl ?_
      refine sv_heap gl_wa ?_
      refine sv_iret dX0_tryPlacing_192 rfl rfl (Nat.le_refl _) (Nat.le_refl _) ?_
      have hcan : gm_can S 3 c = true := ec.trans (cg_wk (by omega))
      exact cl_Qi _ B (rbt hcan) rfl (fun _ w hw => (row hcan w hw).symm)
  · refine sv_tableIn (off := 99) 193 dX0_tryPlacing_94 (by decide) (by decide) (by decide) (by decide) ?_
    rcases (show (cg_R S 4 5 < 5 ∧ 5 ≤ cg_R S 4 0) ∨ (5 ≤ cg_R S 4 5 ∨ cg_R S 4 0 < 5) by omega) with hv | hv
    · refine sv_aload_n dX0_tryPlacing_193 rfl ?_
      refine kg_g12 gl_0 dX0_tryPlacing_194 sf_X0_57 ?_
      refine sv_callV (As := []) sc_X0_138 (k3_hireK gl_af (by omega) (by omega) (by omega) (by omega)) rfl rfl (Nat.le_of_ble_eq_true rfl) dX0_tryPlacing_197 ⟨by decide, by decide⟩ ⟨Nat.le_refl _, Nat.le_refl _⟩ (Nat.le_of_ble_eq_true rfl) gl_af.1 (List.cons_ne_nil _ _) rfl ?_
      refine sv_heap gl_wa ?_
      refine sv_iret dX0_tryPlacing_200 rfl rfl (Nat.le_refl _) (Nat.le_refl _) ?_
      have hcan : gm_can S 4 c = true := ec.trans (cg_wk (by omega))
      exact cl_Qi _ B (rbt hcan) rfl (fun _ w hw => (row hcan w hw).symm)
    · refine sv_aload_n dX0_tryPlacing_193 rfl ?_
      refine kg_g12 gl_0 dX0_tryPlacing_194 sf_X0_57 ?_
      refine sv_callV (As := []) sc_X0_138 (k3_hire0 gl_af (by omega) (by omega) (by omega)) rfl rfl (Nat.le_of_ble_eq_true rfl) dX0_tryPlacing_197 ⟨by decide, by decide⟩ ⟨Nat.le_refl _, Nat.le_refl _⟩ (Nat.le_of_ble_eq_true rfl) gl_af.1 (List.cons_ne_nil _ _) rfl ?_
      refine sv_iret dX0_tryPlacing_200 rfl rfl (Nat.le_refl _) (Nat.le_refl _) ?_
      have hcan : gm_can S 4 c = false := ec.trans (cg_wk0 (by omega))
      exact cl_Qi _ B (rbf hcan) rfl (fun z => absurd z (ne_t hcan))
  · refine sv_tableOut 201 dX0_tryPlacing_94 (by decide) (by decide) ?_
    rcases (show (cg_R S 5 4 < 30 ∧ 2 ≤ cg_R S 5 0) ∨ (30 ≤ cg_R S 5 4 ∨ cg_R S 5 0 < 2) by omega) with hv | hv
    · refine sv_aload_n dX0_tryPlacing_201 rfl ?_
      refine kg_g12 gl_0 dX0_tryPlacing_202 sf_X0_57 ?_
      refine sv_callV (As := []) sc_X0_141 (k3_buildRoomK gl_af (by omega) (by omega) (by omega) (by omega)) rfl rfl (Nat.le_of_ble_eq_true rfl) dX0_tryPlacing_205 ⟨by decide, by decide⟩ ⟨Nat.le_refl _, Nat.le_refl _⟩ (Nat.le_of_ble_eq_true rfl) gl_af.1 (List.cons_ne_nil _ _) rfl ?_
      refine sv_heap gl_wa ?_
      refine sv_iret dX0_tryPlacing_208 rfl rfl (Nat.le_refl _) (Nat.le_refl _) ?_
      have hcan : gm_can S 5 c = true := ec.trans (cg_wk (by omega))
      exact cl_Qi _ B (rbt hcan) rfl (fun _ w hw => (row hcan w hw).symm)
    · refine sv_aload_n dX0_tryPlacing_201 rfl ?_
      refine kg_g12 gl_0 dX0_tryPlacing_202 sf_X0_57 ?_
      refine sv_callV (As := []) sc_X0_141 (k3_buildRoom0 gl_af (by omega) (by omega) (by omega)) rfl rfl (Nat.le_of_ble_eq_true rfl) dX0_tryPlacing_205 ⟨by decide, by decide⟩ ⟨Nat.le_refl _, Nat.le_refl _⟩ (Nat.le_of_ble_eq_true rfl) gl_af.1 (List.cons_ne_nil _ _) rfl ?_
      refine sv_iret dX0_tryPlacing_208 rfl rfl (Nat.le_refl _) (Nat.le_refl _) ?_
      have hcan : gm_can S 5 c = false := ec.trans (cg_wk0 (by omega))
      exact cl_Qi _ B (rbf hcan) rfl (fun z => absurd z (ne_t hcan))
theorem k0_tryPlacing (hI : gm_I K S) (hq : q < 6) (hc : c < 24) (hch : gm_ch q c = true) : sm_C G mX0_tryPlacing 2 0 0 [.ref g, .int (nI q), .int (nI c)] (cl_g G h g S x P B) (cl_Q (some (.int (nI (b2n (gm_can S q c))))) (fun P _ => cl_g G h g S x P B) (fun P _ => gm_can S q c = true → ∀ w, w < 8 → P w = gm_pl S q c (13 + 8 * S 4 + w))) := by
  unfold sm_C
  show sm_V G _ _ _ 0 0 0 [(0, .ref g), (1, .int (nI q)), (2, .int (nI c))] [] _
  obtain ⟨d3, d6, d0, d1, d2, d4, dK⟩ := cg_d hI
  refine sv_aload_n dX0_tryPlacing_0 rfl ?_
  refine sv_callV (As := []) sc_X0_96 (k0_hasTurn (by omega) (by omega) (by omega)) rfl rfl (Nat.le_of_ble_eq_true rfl) dX0_tryPlacing_1 ⟨by decide, by decide⟩ ⟨Nat.le_refl _, Nat.le_refl _⟩ (Nat.le_of_ble_eq_true rfl) gl_0 (List.cons_ne_nil _ _) rfl ?_
  refine sv_ifN_ne 9 dX0_tryPlacing_4 (by decide) (by first | omega | exact Nat.lt_trans (b2n_lt _) (by decide)) (fun c_4 => ?_) (fun c_4 => ?_)
  · have hon := b2n_1 c_4
    obtain ⟨⟨j0, j01, j1, j2, j21⟩, jK, jK2, jw, j3, j31, j4, j5, j51, j6, jp, j10, ⟨jh, jps⟩, jpl, jow⟩ := gm_IJ hI (gm_on_i hon).1
    have b0 := jK (13 + 8 * S 4) (by omega) (by omega); have b45 := jw q hq; have e6 : cl_r S (S 4) 6 = S (13 + 8 * S 4 + 6) := rfl
    refine sv_aload_n dX0_tryPlacing_9 rfl ?_
    refine kg_g12 gl_0 dX0_tryPlacing_10 sf_X0_57 ?_
    refine sv_aload_n dX0_tryPlacing_13 rfl ?_
    refine kg_g0 gl_0 dX0_tryPlacing_14 sf_X0_11 ?_
    refine sv_aload_n dX0_tryPlacing_17 rfl ?_
    refine kg_g5 gl_0 dX0_tryPlacing_18 sf_X0_34 ?_
    refine kg_ldp gl_1 dX0_tryPlacing_21 (by first | omega | exact Nat.lt_trans (b2n_lt _) (by decide)) ?_
    refine sv_callV (As := [_]) sc_X0_89 (k3_copyFrom gl_af (gl_pl (by omega)) (by omega)) rfl rfl (Nat.le_of_ble_eq_true rfl) dX0_tryPlacing_22 ⟨by decide, by decide⟩ ⟨Nat.le_refl _, Nat.le_refl _⟩ (Nat.le_of_ble_eq_true rfl) gl_af.1 (List.cons_ne_nil _ _) rfl ?_
    refine sv_heap gl_wa ?_
    refine sv_aload_n dX0_tryPlacing_25 rfl ?_
    refine kg_g12 gl_0 dX0_tryPlacing_26 sf_X0_57 ?_
    refine sv_dup dX0_tryPlacing_29 rfl ?_
    refine kp_g4 gl_af dX0_tryPlacing_30 sf_X0_117 ?_
    refine sv_iconst (nI 1) dX0_tryPlacing_33 (by decide) ?_
    refine sv_isubN dX0_tryPlacing_34 (by first | omega | exact Nat.lt_trans (b2n_lt _) (by decide)) ?_
    refine kga_p4 dX0_tryPlacing_35 sf_X0_117 ?_
    refine sv_aload_n dX0_tryPlacing_38 rfl ?_
    refine kg_g1 gl_0 dX0_tryPlacing_39 sf_X0_19 ?_
    refine sv_iload_n dX0_tryPlacing_42 rfl ?_
    refine kg_ldq gl_2 dX0_tryPlacing_43 (by first | omega | exact Nat.lt_trans (b2n_lt _) (by decide)) ?_
    refine kq_g1 (gl_pq (by first | omega | exact Nat.lt_trans (b2n_lt _) (by decide))) dX0_tryPlacing_44 sf_X0_77 ?_
    refine sv_aload_n dX0_tryPlacing_47 rfl ?_
    refine kg_g3 gl_0 dX0_tryPlacing_48 sf_X0_27 ?_
    refine sv_iconst (nI 2) dX0_tryPlacing_51 (by decide) ?_
    refine kg_lds gl_4 dX0_tryPlacing_52 (by first | omega | exact Nat.lt_trans (b2n_lt _) (by decide)) ?_
    refine sv_icmpN_lt 60 dX0_tryPlacing_53 (by decide) (by first | omega | exact Nat.lt_trans (b2n_lt _) (by decide)) (by first | omega | exact Nat.lt_trans (b2n_lt _) (by decide)) (fun c_53 => ?_) (fun c_53 => ?_)
    · have hf : gm_full S q = false := decide_eq_false (by omega)
      refine sv_iconst (nI 0) dX0_tryPlacing_60 (by decide) ?_
      refine sv_istore_n (lv' := [(3, _), (0, _), (1, _), (2, _)]) dX0_tryPlacing_61 (by decide) rfl ?_
      refine sv_iload_n dX0_tryPlacing_62 rfl ?_
      refine sv_ifN_eq 93 dX0_tryPlacing_63 (by decide) (by first | omega | exact Nat.lt_trans (b2n_lt _) (by decide)) (fun c_63 => ?_) (fun c_63 => absurd c_63 (by omega))
      have hT : gm_toll S q = 0 := by unfold gm_toll; rw [hf]; rfl
      exact sv_sub [1, 2, 3] rfl (sv_heap (cl_eP (cg_R_0 hf)) (k0_try93 hI hq hc hch hon (fun z => absurd z (ne_t hf)) (by omega)))
    · have hf : gm_full S q = true := decide_eq_true c_53
      refine sv_iconst (nI 1) dX0_tryPlacing_56 (by decide) ?_
      refine sv_goto 61 dX0_tryPlacing_57 (by decide) ?_
      refine sv_istore_n (lv' := [(3, _), (0, _), (1, _), (2, _)]) dX0_tryPlacing_61 (by decide) rfl ?_
      refine sv_iload_n dX0_tryPlacing_62 rfl ?_
      refine sv_ifN_eq 93 dX0_tryPlacing_63 (by decide) (by first | omega | exact Nat.lt_trans (b2n_lt _) (by decide)) (fun c_63 => absurd c_63 (by omega)) (fun c_63 => ?_)
      refine sv_aload_n dX0_tryPlacing_66 rfl ?_
      refine sv_iload_n dX0_tryPlacing_67 rfl ?_
      refine sv_callV (As := [_]) sc_X0_120 (k0_findBumped hq (by omega) (jw q hq) (by omega) (fun k hk => by have := jow q k hq hk; omega)) rfl rfl (Nat.le_of_ble_eq_true rfl) dX0_tryPlacing_68 ⟨by decide, by decide⟩ ⟨Nat.le_refl _, Nat.le_refl _⟩ (Nat.le_of_ble_eq_true rfl) gl_0 (List.cons_ne_nil _ _) rfl ?_
      by_cases hb3 : gm_bk S q = 3
      · refine sv_top (-1) (cg_bw_3 hb3) ?_
        refine sv_iconst (-1) dX0_tryPlacing_71 (by decide) ?_
        refine sv_icmp_eq 91 dX0_tryPlacing_72 (by decide) (fun c_72 => ?_) (fun c_72 => absurd c_72 (fun z => z rfl))
        refine sv_iconst (nI 0) dX0_tryPlacing_91 (by decide) ?_
        refine sv_iret dX0_tryPlacing_92 rfl rfl (Nat.le_refl _) (Nat.le_refl _) ?_
        have hcan : gm_can S q c = false := by rw [gm_can_full hon hf, decide_eq_false (fun z => z hb3)]; rfl
        exact cl_Qi _ B (rbf hcan) rfl (fun z => absurd z (ne_t hcan))
      · have hbl := gm_bk_lt hb3
        have hO := jow q _ hq hbl.1
        refine sv_top _ (cg_bw_f hf hb3) ?_
        refine sv_iconst (-1) dX0_tryPlacing_71 (by decide) ?_
        refine sv_icmp_eq 91 dX0_tryPlacing_72 (by decide) (fun c_72 => absurd c_72 (ne_1 (by omega))) (fun c_72 => ?_)
        rcases Nat.lt_or_ge (S (13 + 8 * S 4)) (S 1) with hv | hv
        · refine sv_aload_n dX0_tryPlacing_75 rfl ?_
          refine kg_g12 gl_0 dX0_tryPlacing_76 sf_X0_57 ?_
          refine sv_aload_n dX0_tryPlacing_79 rfl ?_
          refine kg_g3 gl_0 dX0_tryPlacing_80 sf_X0_27 ?_
          refine sv_iconst (nI 1) dX0_tryPlacing_83 (by decide) ?_
          refine kg_lds gl_4 dX0_tryPlacing_84 (by first | omega | exact Nat.lt_trans (b2n_lt _) (by decide)) ?_
          refine sv_callV (As := [_]) sc_X0_123 (k3_pay0 gl_af (by rw [up_ne (by omega)]; show S (13 + 8 * S 4) < _; omega) (by omega) (by rw [up_ne (by omega)]; exact hv)) rfl rfl (Nat.le_of_ble_eq_true rfl) dX0_tryPlacing_85 ⟨by decide, by decide⟩ ⟨Nat.le_refl _, Nat.le_refl _⟩ (Nat.le_of_ble_eq_true rfl) gl_af.1 (List.cons_ne_nil _ _) rfl ?_
          refine sv_ifN_ne 93 dX0_tryPlacing_88 (by decide) (by first | omega | exact Nat.lt_trans (b2n_lt _) (by decide)) (fun c_88 => absurd c_88 (by omega)) (fun c_88 => ?_)
          refine sv_iconst (nI 0) dX0_tryPlacing_91 (by decide) ?_
          refine sv_iret dX0_tryPlacing_92 rfl rfl (Nat.le_refl _) (Nat.le_refl _) ?_
          have hcan : gm_can S q c = false := by rw [gm_can_full hon hf, decide_eq_false (show ¬ S 1 ≤ S (13 + 8 * S 4) by have e : S (13 + 8 * S 4) < S 1 := hv; omega), Bool.and_false]; rfl
          exact cl_Qi _ B (rbf hcan) rfl (fun z => absurd z (ne_t hcan))
        · refine sv_aload_n dX0_tryPlacing_75 rfl ?_
          refine kg_g12 gl_0 dX0_tryPlacing_76 sf_X0_57 ?_
          refine sv_aload_n dX0_tryPlacing_79 rfl ?_
          refine kg_g3 gl_0 dX0_tryPlacing_80 sf_X0_27 ?_
          refine sv_iconst (nI 1) dX0_tryPlacing_83 (by decide) ?_
          refine kg_lds gl_4 dX0_tryPlacing_84 (by first | omega | exact Nat.lt_trans (b2n_lt _) (by decide)) ?_
          refine sv_callV (As := [_]) sc_X0_123 (k3_payK gl_af (by rw [up_ne (by omega)]; show S (13 + 8 * S 4) < _; omega) (by omega) (by rw [up_ne (by omega)]; exact hv)) rfl rfl (Nat.le_of_ble_eq_true rfl) dX0_tryPlacing_85 ⟨by decide, by decide⟩ ⟨Nat.le_refl _, Nat.le_refl _⟩ (Nat.le_of_ble_eq_true rfl) gl_af.1 (List.cons_ne_nil _ _) rfl ?_
          refine sv_heap gl_wa ?_
          refine sv_ifN_ne 93 dX0_tryPlacing_88 (by decide) (by first | omega | exact Nat.lt_trans (b2n_lt _) (by decide)) (fun c_88 => ?_) (fun c_88 => absurd c_88 (by omega))
          have hT : gm_toll S q = S 1 := by unfold gm_toll; rw [hf]; rfl
          exact sv_sub [1, 2, 3] rfl (sv_heap (cl_eP (cg_R_1 hf)) (k0_try93 hI hq hc hch hon (fun _ => hb3) (by rw [hT]; exact hv)))
  · refine sv_iconst (nI 0) dX0_tryPlacing_7 (by decide) ?_
    refine sv_iret dX0_tryPlacing_8 rfl rfl (Nat.le_refl _) (Nat.le_refl _) ?_
    have hoff := b2n_f c_4
    exact cl_Qi _ B (rbf (gm_can_off hoff)) rfl (fun z => absurd z (ne_t (gm_can_off hoff)))
end CP6
