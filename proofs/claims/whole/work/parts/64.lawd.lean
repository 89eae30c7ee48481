section CLE
variable {G : sm_G} {m b L : Nat} {xs : Nat → Int32}
/-- THE LAW'S LOOP -/
theorem lw_loop (hL : L ≤ 2048) (hb : b < sm_B G) (hm : 0 < m) : ∀ (f j K cells slots : Nat) (F : Nat → Int32) (X : Nat → Int64) (A : Nat → Nat → Int32) (S : gm_S) (LL : Nat → Nat → Int64) (V : mw_V) (R : mw_R) (t : mw_T) (O : Nat → Int64),
    L < 4 * j + 4 + 4 * f → j ≤ 512 → 12 ≤ K → K + 60000 + 5000 * f < 2 ^ 26 → cells + f ≤ 641416 → slots + 6 * f ≤ 7171855 → lc K F X A S LL V t.1 t.2.1 t.2.2.1 t.2.2.2.1 t.2.2.2.2 →
    sm_V G mL_law room_1 (lZ (sm_B G) b L xs) cells slots 23 [(0, .ref b), (1, .ref m), (2, .ref (m + 493)), (3, .ref (m + 504)), (4, .int (nI (4 * j)))] [] (lh G m F X (sm_as A S) LL V R t O) := by
  intro fu
  induction fu with
  | zero =>
    intro j K cells slots F X A S LL V R t O hf hj h12 hK hc hs hl
    refine sv_iload dL_law_23 rfl ?_
    refine sv_aload_n dL_law_25 rfl ?_
    refine sl_len dL_law_26 ?_ hb
    refine sv_iconst (nI 4) dL_law_27 rfl ?_
    refine sv_isub dL_law_28 ?_
    refine sv_icmp_gt 1568 dL_law_29 (by decide) (fun _ => ?_) (fun z => absurd (Int32.lt_iff_toInt_lt.mpr (by rw [pk_sub_toInt (by omega) (by omega), nI_toInt (by omega)]; omega)) z)
    refine sv_iconst (1) dL_law_1568 rfl ?_
    exact sl_ret dL_law_1569 (by omega) (by omega)
  | succ fu ih =>
    intro j K cells slots F X A S LL V R t O hf hj h12 hK hc hs hl
    refine sv_iload dL_law_23 rfl ?_
    refine sv_aload_n dL_law_25 rfl ?_
    refine sl_len dL_law_26 ?_ hb
    refine sv_iconst (nI 4) dL_law_27 rfl ?_
    refine sv_isub dL_law_28 ?_
    refine sv_icmp_gt 1568 dL_law_29 (by decide) (fun _ => ?_) (fun z => ?_)
    · refine sv_iconst (1) dL_law_1568 rfl ?_
      exact sl_ret dL_law_1569 (by omega) (by omega)
    · have hK1 : K + 60000 < 2 ^ 26 := Nat.lt_of_le_of_lt (Nat.le_add_right _ _) hK
      have hc1 : cells + 1 ≤ 641416 := by omega
      have hs1 : slots + 6 ≤ 7171855 := by omega
      have h4 : 4 * j + 4 ≤ L := by
        apply Decidable.byContradiction
        intro z2
        exact z (Int32.lt_iff_toInt_lt.mpr (by rw [pk_sub_toInt (by omega) (by omega), nI_toInt (by omega)]; omega))
      have join : lJ G b L xs m j K cells slots := fun F X A S LL V R t O hl => by
        refine sv_iinc (nI (4 * (j + 1))) dL_law_1562 rfl (nI_add (4 * j) 4) (by decide) (lv' := [(4, .int (nI (4 * (j + 1)))), (0, .ref b), (1, .ref m), (2, .ref (m + 493)), (3, .ref (m + 504))]) rfl ?_
        refine sv_goto 23 dL_law_1565 (by decide) ?_
        exact sv_sub [1, 2, 3, 4, 0] rfl (ih (j + 1) (K + 5000) (cells + 1) (slots + 6) F X A S LL V R t O (by omega) (by omega) (by omega) (by omega) (by omega) (by omega) hl)
      obtain ⟨n, B, c, x, f⟩ := t
      refine sv_aload_n dL_law_32 rfl ?_
      refine sv_iload dL_law_33 rfl ?_
      refine sl_ld dL_law_35 (lin (by omega) hL) ?_ hb
      refine sv_bipush (nI 31) dL_law_36 rfl ?_
      refine sv_iand dL_law_38 ?_
      generalize xs (nI (4 * j)).toNatClampNeg &&& nI 31 = w
      by_cases h1 : w.toInt < 0
      · exact sv_tableOut 1562 dL_law_39 (.inl h1) (by decide) (sv_wide (Nat.le_add_right _ _) (Nat.le_add_right _ _) (join _ _ _ _ _ _ _ _ _ (lc.K2 hl hK1)))
      by_cases h2 : 23 < w.toInt
      · exact sv_tableOut 1562 dL_law_39 (.inr h2) (by decide) (sv_wide (Nat.le_add_right _ _) (Nat.le_add_right _ _) (join _ _ _ _ _ _ _ _ _ (lc.K2 hl hK1)))
      obtain ⟨r, hr, hr2⟩ : ∃ r : Nat, (w.toInt - 0).toNat = r ∧ r < 24 := ⟨_, rfl, by omega⟩
      rcases (show r = 0 ∨ r = 1 ∨ r = 2 ∨ r = 3 ∨ r = 4 ∨ r = 5 ∨ r = 6 ∨ r = 7 ∨ r = 8 ∨ r = 9 ∨ r = 10 ∨ r = 11 ∨ r = 12 ∨ r = 13 ∨ r = 14 ∨ r = 15 ∨ r = 16 ∨ r = 17 ∨ r = 18 ∨ r = 19 ∨ r = 20 ∨ r = 21 ∨ r = 22 ∨ r = 23 by omega) with rfl | rfl | rfl | rfl | rfl | rfl | rfl | rfl | rfl | rfl | rfl | rfl | rfl | rfl | rfl | rfl | rfl | rfl | rfl | rfl | rfl | rfl | rfl | rfl
      · exact sv_tableIn (off := 109) 148 dL_law_39 h1 h2 (by rw [hr]; rfl) (by decide) (lw_c0 hl hK1 h12 h4 hL hb hm hc1 hs1 join)
      · exact sv_tableIn (off := 165) 204 dL_law_39 h1 h2 (by rw [hr]; rfl) (by decide) (lw_c1 hl hK1 h12 h4 hL hb hm hc1 hs1 join)
      · exact sv_tableIn (off := 178) 217 dL_law_39 h1 h2 (by rw [hr]; rfl) (by decide) (lw_c2 hl hK1 h12 h4 hL hb hm hc1 hs1 join)
      · exact sv_tableIn (off := 191) 230 dL_law_39 h1 h2 (by rw [hr]; rfl) (by decide) (lw_c3 hl hK1 h12 h4 hL hb hm hc1 hs1 join)
      · exact sv_tableIn (off := 235) 274 dL_law_39 h1 h2 (by rw [hr]; rfl) (by decide) (lw_c4 hl hK1 h12 h4 hL hb hm hc1 hs1 join)
      · exact sv_tableIn (off := 291) 330 dL_law_39 h1 h2 (by rw [hr]; rfl) (by decide) (lw_c5 hl hK1 h12 h4 hL hb hm hc1 hs1 join)
      · exact sv_tableIn (off := 359) 398 dL_law_39 h1 h2 (by rw [hr]; rfl) (by decide) (lw_c6 hl hK1 h12 h4 hL hb hm hc1 hs1 join)
      · exact sv_tableIn (off := 427) 466 dL_law_39 h1 h2 (by rw [hr]; rfl) (by decide) (lw_c7 hl hK1 h12 h4 hL hb hm hc1 hs1 join)
      · exact sv_tableIn (off := 483) 522 dL_law_39 h1 h2 (by rw [hr]; rfl) (by decide) (lw_c8 hl hK1 h12 h4 hL hb hm hc1 hs1 join)
      · exact sv_tableIn (off := 583) 622 dL_law_39 h1 h2 (by rw [hr]; rfl) (by decide) (lw_c9 hl hK1 h12 h4 hL hb hm hc1 hs1 join)
      · exact sv_tableIn (off := 651) 690 dL_law_39 h1 h2 (by rw [hr]; rfl) (by decide) (lw_c10 hl hK1 h12 h4 hL hb hm hc1 hs1 join)
      · exact sv_tableIn (off := 695) 734 dL_law_39 h1 h2 (by rw [hr]; rfl) (by decide) (lw_c11 hl hK1 h12 h4 hL hb hm hc1 hs1 join)
      · exact sv_tableIn (off := 739) 778 dL_law_39 h1 h2 (by rw [hr]; rfl) (by decide) (lw_c12 hl hK1 h12 h4 hL hb hm hc1 hs1 join)
      · exact sv_tableIn (off := 807) 846 dL_law_39 h1 h2 (by rw [hr]; rfl) (by decide) (lw_c13 hl hK1 h12 h4 hL hb hm hc1 hs1 join)
      · exact sv_tableIn (off := 851) 890 dL_law_39 h1 h2 (by rw [hr]; rfl) (by decide) (lw_c14 hl hK1 h12 h4 hL hb hm hc1 hs1 join)
      · exact sv_tableIn (off := 919) 958 dL_law_39 h1 h2 (by rw [hr]; rfl) (by decide) (lw_c15 hl hK1 h12 h4 hL hb hm hc1 hs1 join)
      · exact sv_tableIn (off := 975) 1014 dL_law_39 h1 h2 (by rw [hr]; rfl) (by decide) (lw_c16 hl hK1 h12 h4 hL hb hm hc1 hs1 join)
      · exact sv_tableIn (off := 1031) 1070 dL_law_39 h1 h2 (by rw [hr]; rfl) (by decide) (lw_c17 hl hK1 h12 h4 hL hb hm hc1 hs1 join)
      · exact sv_tableIn (off := 1099) 1138 dL_law_39 h1 h2 (by rw [hr]; rfl) (by decide) (lw_c18 hl hK1 h12 h4 hL hb hm hc1 hs1 join)
      · exact sv_tableIn (off := 1155) 1194 dL_law_39 h1 h2 (by rw [hr]; rfl) (by decide) (lw_c19 hl hK1 h12 h4 hL hb hm hc1 hs1 join)
      · exact sv_tableIn (off := 1211) 1250 dL_law_39 h1 h2 (by rw [hr]; rfl) (by decide) (lw_c20 hl hK1 h12 h4 hL hb hm hc1 hs1 join)
      · exact sv_tableIn (off := 1311) 1350 dL_law_39 h1 h2 (by rw [hr]; rfl) (by decide) (lw_c21 hl hK1 h12 h4 hL hb hm hc1 hs1 join)
      · exact sv_tableIn (off := 1411) 1450 dL_law_39 h1 h2 (by rw [hr]; rfl) (by decide) (lw_c22 hl hK1 h12 h4 hL hb hm hc1 hs1 join)
      · exact sv_tableIn (off := 1467) 1506 dL_law_39 h1 h2 (by rw [hr]; rfl) (by decide) (lw_c23 hl hK1 h12 h4 hL hb hm hc1 hs1 join)
/-- the two objects at the start -/
theorem lw_s0 : gm_s0 (fun _ => 0) = nw_0S := by
  funext i
  unfold gm_s0 gm_z0 va_up nw_0S cg_ss cg_fs nw_S
  dsimp only
  (repeat' split) <;> first | rfl | omega
theorem lw_I0 : gm_I 12 nw_0S := by
  have e : ∀ i, 3 ≤ i → nw_0S i = 0 := fun i hi => by unfold nw_0S cg_ss nw_S; rw [if_neg (by omega)]
  refine ⟨by show 1 ≤ 6 ∧ 6 ≤ 12 ∧ 1 ≤ 5 ∧ 1 ≤ 2 ∧ 2 ≤ 3; omega, fun i _ _ => ?_, by decide, fun q _ => by rw [e _ (by omega)]; omega, .inl ⟨rfl, fun q _ => e _ (by omega)⟩⟩
  by_cases hi : 3 ≤ i
  · rw [e i hi]; omega
  · rcases (show i = 0 ∨ i = 1 ∨ i = 2 by omega) with rfl | rfl | rfl
    · show 6 ≤ 12; omega
    · show 1 ≤ 12; omega
    · show 2 ≤ 12; omega
theorem lw_c : lc 12 (fun _ => 0) (va_up (fun _ => 0) 2 0) (fun _ _ => 0) (gm_s0 (fun _ => 0)) (fun _ _ => 0) mw_V0 0 nw_P 0 0 nw_P := by
  rw [lw_s0]
  refine ⟨⟨nI_0.symm, by omega, fun i hi => absurd hi (by omega)⟩, ⟨gm_L_r _, up_eq, lw_I0, lw_I0, fun i hi => ?_⟩, ⟨nI_0.symm, by omega, by omega, fun j hj => absurd hj (by omega)⟩, fun k _ => .inl ⟨rfl, nI_0.symm⟩⟩
  unfold nw_0S cg_ss nw_S; rw [if_neg (by omega)]
end CLE
