section CAS
variable {G : sm_G} {h : sm_H} {m n K : Nat} {V : mw_V} {R : mw_R} {t : mw_T}
/-- what the market comes to; the trial is rubbish too -/
def mQ1 (G : sm_G) (h : sm_H) (m : Nat) (o : sm_O) (V : mw_V) (t : mw_T) : sm_Q := fun r1 h1 => r1 = o ∧ ∃ v1 R, h1 = mw G h m (va_up V 1 v1) R t
theorem mQ1i {o r1 : sm_O} {h1 : sm_H} (v1 : gm_S × Int64) (R : mw_R) (e : r1 = o) (e2 : h1 = mw G h m (va_up V 1 v1) R t) : mQ1 G h m o V t r1 h1 := ⟨e, v1, R, e2⟩
theorem ax_dg {v k : Nat} (hv : v < 2 ^ 63) : lN (v / gm_p4 k) / 10000 = lN (v / gm_p4 (k + 1)) := by
  have e : lN (v / gm_p4 k) / lN 10000 = lN (v / gm_p4 k / 10000) := pk_lDiv (Nat.lt_of_le_of_lt (Nat.div_le_self _ _) hv) (by omega) (by omega)
  rw [show (10000 : Int64) = lN 10000 from rfl, e, Nat.div_div_eq_div_mul]; rfl
theorem ax_d1 {v : Nat} : v = v / gm_p4 0 := (Nat.div_one v).symm
theorem k5_dropGroups {v : Nat} (hv : v < 2 ^ 63) (hn : n ≤ 3) : sm_F G mX5_dropGroups 0 [.long (lN v), .int (nI n)] h (.inl (some (.long (lN (v / gm_p4 n))))) h := by
  unfold sm_F sm_C
  show sm_V G _ _ _ 0 0 0 [(0, .long (lN v)), (2, .int (nI n))] [] _
  refine sv_lload_n dX5_dropGroups_0 rfl ?_
  refine sv_topl (lN (v / gm_p4 0)) (congrArg lN ax_d1) ?_
  refine sv_lstore_n (lv' := [(3, _), (0, _), (2, _)]) dX5_dropGroups_1 (by decide) rfl ?_
  refine sv_iconst (nI 0) dX5_dropGroups_2 (by decide) ?_
  refine sv_istore (lv' := [(5, _), (3, _), (0, _), (2, _)]) dX5_dropGroups_3 (by decide) rfl ?_
  refine sv_sub [0, 1, 3] rfl (sv_loop (pc := 5) (lv := fun k => [(5, .int (nI k)), (3, .long (lN (v / gm_p4 k))), (2, .int (nI n))]) (hp := fun k => h) (I := fun k => True) (N := n) (trivial) ?_ ?_)
  · intro hI_k
    show sm_V G _ _ _ _ _ _ [(5, .int (nI n)), (3, .long (lN (v / gm_p4 n))), (2, .int (nI n))] [] h
    refine sv_iload dX5_dropGroups_5 rfl ?_
    refine sv_iload_n dX5_dropGroups_7 rfl ?_
    refine sv_icmpN_ge 23 dX5_dropGroups_8 (by decide) (by omega) (by omega) (fun c_8 => ?_) (fun c_8 => absurd c_8 (by omega))
    refine sv_lload_n dX5_dropGroups_23 rfl ?_
    refine sv_lret dX5_dropGroups_24 rfl (Nat.le_refl _) (Nat.le_refl _) ?_
    exact ⟨rfl, rfl⟩
  · intro k hn_k hI_k ih_k
    show sm_V G _ _ _ _ _ _ [(5, .int (nI k)), (3, .long (lN (v / gm_p4 k))), (2, .int (nI n))] [] h
    refine sv_iload dX5_dropGroups_5 rfl ?_
    refine sv_iload_n dX5_dropGroups_7 rfl ?_
    refine sv_icmpN_ge 23 dX5_dropGroups_8 (by decide) (by omega) (by omega) (fun c_8 => absurd c_8 (by omega)) (fun c_8 => ?_)
    refine sv_lload_n dX5_dropGroups_11 rfl ?_
    refine sv_ldc2 dX5_dropGroups_12 (sm_tc ck_4_0_in 29 rfl rfl) ?_
    refine sv_ldiv dX5_dropGroups_15 (by decide) ?_
    refine sv_topl (lN (v / gm_p4 (k + 1))) (ax_dg hv) ?_
    refine sv_lstore_n (lv' := [(3, _), (5, _), (2, _)]) dX5_dropGroups_16 (by decide) rfl ?_
    refine sv_iinc1 (lv' := [(5, _), (3, _), (2, _)]) dX5_dropGroups_17 rfl (by decide) rfl ?_
    refine sv_goto 5 dX5_dropGroups_20 (by decide) ?_
    exact sv_sub [0, 1, 2] rfl (ih_k trivial)
theorem ax_c99 {q : Nat} : 10 * (q / 10 % 10) + q % 10 = q % 100 := by omega
theorem ax_ch24 {q c : Nat} (h : gm_ch q c = true) : c < 24 := by
  unfold gm_ch at h; (repeat' split at h) <;> (have := of_decide_eq_true h; omega)
theorem mw_id1 : va_up V 1 ((V 1).1, (V 1).2) = V := up_id V 1
theorem ax_id1 {z b : Bool} {q : Nat} (e : gm_dst z (V 1).1 (V 1).2 q = (b, (V 1).1, (V 1).2)) : va_up V 1 ((gm_dst z (V 1).1 (V 1).2 q).2.1, (gm_dst z (V 1).1 (V 1).2 q).2.2) = V := by rw [e]; exact mw_id1
theorem ax_ref {S : gm_S} {q c : Nat} (hq : q < 2 ^ 31) (hc : c < 2 ^ 31) : gm_ref S (nI q) (nI c) = if q ≤ 5 then (if gm_ch q c = true then (if gm_can S q c = true then 0 else 3) else 2) else 1 := by
  unfold gm_ref
  rw [i2_nI hq, i2_nI hc, gm_in_n (by omega) (by omega) hq, gm_chR_n hc]
  by_cases e : q ≤ 5
  · rw [if_pos e, if_pos (decide_eq_true ⟨by omega, e⟩)]
  · rw [if_neg e, if_neg (by rw [decide_eq_true_eq]; omega)]
theorem ax_q {S : gm_S} {x : Int64} {q : Nat} (h1 : q / 1000 = 1 → gm_ref S (nI (q / 100 % 10)) (nI (q % 100)) ≠ 0) (h2 : q / 1000 = 2 ∨ q / 1000 = 3 → q / 100 % 10 + q / 10 % 10 + q % 10 ≠ 0 ∨ gm_on S = false) (h4 : q / 1000 = 4 → gm_isS (nI (q / 100 % 10)) (nI (q % 100)) = false) : gm_dst true S x q = (gm_dq S (q / 1000) (q / 100 % 10) (q / 10 % 10) (q % 10), S, x) :=
  gm_dst_5 (by rw [ax_c99]; exact h1) h2 (by rw [ax_c99]; exact h4)
theorem ax_q0 {S : gm_S} {k a b c : Nat} (h : k < 5) : gm_dq S k a b c = false := by
  unfold gm_dq; rw [if_neg (by omega), if_neg (by omega), if_neg (by omega), if_neg (by omega), if_neg (by omega)]
/-- a line that isn't an action, one that fails -/
theorem ax_fail {q : Nat} (e : gm_dst true (V 1).1 (V 1).2 q = (false, (V 1).1, (V 1).2)) : mQ G h m (.inl (some (.int (nI (b2n (gm_dst true (V 1).1 (V 1).2 q).1))))) (va_up V 1 ((gm_dst true (V 1).1 (V 1).2 q).2.1, (gm_dst true (V 1).1 (V 1).2 q).2.2)) t (.inl (some (.int (nI 0)))) (mw G h m V R t) := mQi R (by rw [e]; rfl) (by rw [ax_id1 e])
theorem ax_good {q : Nat} (e : gm_dst true (V 1).1 (V 1).2 q = (true, (V 1).1, (V 1).2)) : mQ G h m (.inl (some (.int (nI (b2n (gm_dst true (V 1).1 (V 1).2 q).1))))) (va_up V 1 ((gm_dst true (V 1).1 (V 1).2 q).2.1, (gm_dst true (V 1).1 (V 1).2 q).2.2)) t (.inl (some (.int (nI 1)))) (mw G h m V R t) := mQi R (by rw [e]; rfl) (by rw [ax_id1 e])
theorem k5_trialSetsK {k : Nat} (hn : n < 3) (hs : gm_isS (nI n) (nI k) = true) : sm_F G mX5_trialSets 2 [.ref m, .int (nI n), .int (nI k)] (mw G h m V R t) (.inl (some (.int (nI 1)))) (mw G h m (va_up V 1 (va_up (V 1).1 n k, (V 1).2)) (va_up R 1 ((R 1).1, (R 1).2)) t) := by
  unfold sm_F sm_C
  show sm_V G _ _ _ 0 0 0 [(0, .ref m), (1, .int (nI n)), (2, .int (nI k))] [] _
  refine sv_iload_n dX5_trialSets_0 rfl ?_
  refine sv_iload_n dX5_trialSets_1 rfl ?_
  refine sv_callS (As := [_, _]) sc_X5_187 (k5_isSettingValue (by omega)) rfl rfl (Nat.le_of_ble_eq_true rfl) dX5_trialSets_2 ⟨by decide, by decide⟩ ⟨Nat.zero_le _, Nat.zero_le _⟩ (Nat.le_of_ble_eq_true rfl) ?_
  refine sv_top (nI 1) (by rw [hs]; rfl) ?_
  refine sv_ifN_ne 10 dX5_trialSets_5 (by decide) (by omega) (fun c_5 => ?_) (fun c_5 => absurd c_5 (by omega))
  refine sv_aload_n dX5_trialSets_10 rfl ?_
  refine km_g2 dX5_trialSets_11 sf_X5_23 ?_
  refine kg_g3 (hg_0 mw_gt) dX5_trialSets_14 sf_X5_150 ?_
  refine sv_iload_n dX5_trialSets_17 rfl ?_
  refine sv_iload_n dX5_trialSets_18 rfl ?_
  refine sv_heap (hg_self mw_gt) ?_
  refine kg_sts dX5_trialSets_19 (by omega) ?_
  refine sv_heap mw_w1 ?_
  refine sv_iconst (nI 1) dX5_trialSets_20 (by decide) ?_
  refine sv_iret dX5_trialSets_21 rfl rfl (Nat.le_refl _) (Nat.le_refl _) ?_
  exact ⟨rfl, rfl⟩
theorem k5_trialSets0 {k : Nat} (hn : n < 10) (hs : gm_isS (nI n) (nI k) = false) : sm_F G mX5_trialSets 2 [.ref m, .int (nI n), .int (nI k)] (mw G h m V R t) (.inl (some (.int (nI 0)))) (mw G h m V R t) := by
  unfold sm_F sm_C
  show sm_V G _ _ _ 0 0 0 [(0, .ref m), (1, .int (nI n)), (2, .int (nI k))] [] _
  rcases Nat.lt_or_ge n 3 with hn3 | hn3
  · skip
    refine sv_iload_n dX5_trialSets_0 rfl ?_
    refine sv_iload_n dX5_trialSets_1 rfl ?_
    refine sv_callS (As := [_, _]) sc_X5_187 (k5_isSettingValue hn3) rfl rfl (Nat.le_of_ble_eq_true rfl) dX5_trialSets_2 ⟨by decide, by decide⟩ ⟨Nat.zero_le _, Nat.zero_le _⟩ (Nat.le_of_ble_eq_true rfl) ?_
    refine sv_top (nI 0) (by rw [hs]; rfl) ?_
    refine sv_ifN_ne 10 dX5_trialSets_5 (by decide) (by first | omega | exact Nat.lt_trans (b2n_lt _) (by decide)) (fun c_5 => absurd c_5 (by omega)) (fun c_5 => ?_)
    refine sv_iconst (nI 0) dX5_trialSets_8 (by decide) ?_
    refine sv_iret dX5_trialSets_9 rfl rfl (Nat.le_refl _) (Nat.le_refl _) ?_
    exact ⟨rfl, rfl⟩
  · have hu : gm_in (nI 0) (nI n) (nI 2) = false := by rw [gm_in_n (by omega) (by omega) (by omega)]; exact decide_eq_false (by omega)
    refine sv_iload_n dX5_trialSets_0 rfl ?_
    refine sv_iload_n dX5_trialSets_1 rfl ?_
    refine sv_callS (As := [_, _]) sc_X5_187 (k5_isSettingValue0 hu) rfl rfl (Nat.le_of_ble_eq_true rfl) dX5_trialSets_2 ⟨by decide, by decide⟩ ⟨Nat.zero_le _, Nat.zero_le _⟩ (Nat.le_of_ble_eq_true rfl) ?_
    refine sv_ifN_ne 10 dX5_trialSets_5 (by decide) (by first | omega | exact Nat.lt_trans (b2n_lt _) (by decide)) (fun c_5 => absurd c_5 (by omega)) (fun c_5 => ?_)
    refine sv_iconst (nI 0) dX5_trialSets_8 (by decide) ?_
    refine sv_iret dX5_trialSets_9 rfl rfl (Nat.le_refl _) (Nat.le_refl _) ?_
    exact ⟨rfl, rfl⟩
theorem k5_doCommand {q : Nat} (hI : gm_I K (V 1).1) (hK : K + 40 < 2 ^ 26) (hK9 : 12 ≤ K) (hq : q < 10000) : sm_C G mX5_doCommand 5 0 0 [.ref m, .int (nI q)] (mw G h m V R t) (mQ G h m (.inl (some (.int (nI (b2n (gm_dst true (V 1).1 (V 1).2 q).1))))) (va_up V 1 ((gm_dst true (V 1).1 (V 1).2 q).2.1, (gm_dst true (V 1).1 (V 1).2 q).2.2)) t) := by
  unfold sm_C
  show sm_V G _ _ _ 0 0 0 [(0, .ref m), (1, .int (nI q))] [] _
  obtain ⟨d3, d6, d0, d1, d2, d4, dK⟩ := cg_d hI
  have hP5 : gm_isP (V 1).1 (nI (q / 100 % 10)) = true → (q / 100 % 10) < (V 1).1 3 := fun z => by rw [gm_isP_n (by omega) (by omega)] at z; exact of_decide_eq_true z
  have hP6 : gm_isP (V 1).1 (nI (q / 100 % 10)) = false → ¬ (q / 100 % 10) < (V 1).1 3 := fun z => by rw [gm_isP_n (by omega) (by omega)] at z; exact of_decide_eq_false z
  have k4 := hI.2.1 4 (by omega) (by omega)
  refine sv_iload_n dX5_doCommand_0 rfl ?_
  refine sv_bipush (nI 100) dX5_doCommand_1 (by decide) ?_
  refine sv_idivN dX5_doCommand_3 (by first | omega | exact Nat.lt_trans (b2n_lt _) (by decide)) (by first | omega | exact Nat.lt_trans (b2n_lt _) (by decide)) (by first | omega | exact Nat.lt_trans (b2n_lt _) (by decide)) ?_
  refine sv_bipush (nI 10) dX5_doCommand_4 (by decide) ?_
  refine sv_iremN dX5_doCommand_6 (by first | omega | exact Nat.lt_trans (b2n_lt _) (by decide)) (by first | omega | exact Nat.lt_trans (b2n_lt _) (by decide)) (by first | omega | exact Nat.lt_trans (b2n_lt _) (by decide)) ?_
  refine sv_istore_n (lv' := [(2, _), (0, _), (1, _)]) dX5_doCommand_7 (by decide) rfl ?_
  refine sv_iload_n dX5_doCommand_8 rfl ?_
  refine sv_bipush (nI 10) dX5_doCommand_9 (by decide) ?_
  refine sv_idivN dX5_doCommand_11 (by first | omega | exact Nat.lt_trans (b2n_lt _) (by decide)) (by first | omega | exact Nat.lt_trans (b2n_lt _) (by decide)) (by first | omega | exact Nat.lt_trans (b2n_lt _) (by decide)) ?_
  refine sv_bipush (nI 10) dX5_doCommand_12 (by decide) ?_
  refine sv_iremN dX5_doCommand_14 (by first | omega | exact Nat.lt_trans (b2n_lt _) (by decide)) (by first | omega | exact Nat.lt_trans (b2n_lt _) (by decide)) (by first | omega | exact Nat.lt_trans (b2n_lt _) (by decide)) ?_
  refine sv_istore_n (lv' := [(3, _), (2, _), (0, _), (1, _)]) dX5_doCommand_15 (by decide) rfl ?_
  refine sv_iload_n dX5_doCommand_16 rfl ?_
  refine sv_bipush (nI 10) dX5_doCommand_17 (by decide) ?_
  refine sv_iremN dX5_doCommand_19 (by first | omega | exact Nat.lt_trans (b2n_lt _) (by decide)) (by first | omega | exact Nat.lt_trans (b2n_lt _) (by decide)) (by first | omega | exact Nat.lt_trans (b2n_lt _) (by decide)) ?_
  refine sv_istore (lv' := [(4, _), (3, _), (2, _), (0, _), (1, _)]) dX5_doCommand_20 (by decide) rfl ?_
  refine sv_iload_n dX5_doCommand_22 rfl ?_
  refine sv_bipush (nI 100) dX5_doCommand_23 (by decide) ?_
  refine sv_iremN dX5_doCommand_25 (by first | omega | exact Nat.lt_trans (b2n_lt _) (by decide)) (by first | omega | exact Nat.lt_trans (b2n_lt _) (by decide)) (by first | omega | exact Nat.lt_trans (b2n_lt _) (by decide)) ?_
  refine sv_istore (lv' := [(5, _), (4, _), (3, _), (2, _), (0, _), (1, _)]) dX5_doCommand_26 (by decide) rfl ?_
  refine sv_iload_n dX5_doCommand_28 rfl ?_
  refine sv_sipush (nI 1000) dX5_doCommand_29 (by decide) ?_
  refine sv_idivN dX5_doCommand_32 (by first | omega | exact Nat.lt_trans (b2n_lt _) (by decide)) (by first | omega | exact Nat.lt_trans (b2n_lt _) (by decide)) (by first | omega | exact Nat.lt_trans (b2n_lt _) (by decide)) ?_
  rcases (show q / 1000 = 0 ∨ q / 1000 = 1 ∨ q / 1000 = 2 ∨ q / 1000 = 3 ∨ q / 1000 = 4 ∨ q / 1000 = 5 ∨ q / 1000 = 6 ∨ q / 1000 = 7 ∨ q / 1000 = 8 ∨ q / 1000 = 9 by omega) with e | e | e | e | e | e | e | e | e | e
  · refine sv_top (nI 0) (congrArg nI e) ?_
    refine sv_tableOut 370 dX5_doCommand_33 (by decide) (by decide) ?_
    refine sv_iconst (nI 0) dX5_doCommand_370 (by decide) ?_
    refine sv_iret dX5_doCommand_371 rfl rfl (Nat.le_refl _) (Nat.le_refl _) ?_
    exact ax_fail ((ax_q (fun z => absurd z (by omega)) (fun z => absurd z (by omega)) (fun z => absurd z (by omega))).trans (by rw [ax_q0 (by omega)]))
  · refine sv_top (nI 1) (congrArg nI e) ?_
    refine sv_tableIn (off := 51) 84 dX5_doCommand_33 (by decide) (by decide) (by decide) (by decide) ?_
    refine sv_iload_n dX5_doCommand_84 rfl ?_
    refine sv_callS (As := [_]) sc_X5_129 (k5_isPlace) rfl rfl (Nat.le_of_ble_eq_true rfl) dX5_doCommand_85 ⟨by decide, by decide⟩ ⟨Nat.zero_le _, Nat.zero_le _⟩ (Nat.le_of_ble_eq_true rfl) ?_
    refine sv_top (nI (b2n (decide ((q / 100 % 10) ≤ 5)))) (by rw [gm_in_n (by omega) (by omega) (by omega), show (decide (0 ≤ (q / 100 % 10) ∧ (q / 100 % 10) ≤ 5)) = decide ((q / 100 % 10) ≤ 5) by simp]) ?_
    refine sv_ifN_eq 117 dX5_doCommand_88 (by decide) (by first | omega | exact Nat.lt_trans (b2n_lt _) (by decide)) (fun c_88 => ?_) (fun c_88 => ?_)
    · refine sv_iconst (nI 0) dX5_doCommand_117 (by decide) ?_
      refine sv_iret dX5_doCommand_118 rfl rfl (Nat.le_refl _) (Nat.le_refl _) ?_
      first | exact ax_fail ((ax_q (fun _ => by rw [ax_ref (S := (V 1).1) (q := (q / 100 % 10)) (c := (q % 100)) (by omega) (by omega)]; rw [if_neg (by have := b2n_e c_88; omega)]; omega) (fun z => absurd z (by omega)) (fun z => absurd z (by omega))).trans (by rw [ax_q0 (by omega)])) | exact ax_fail ((ax_q (fun _ => by rw [ax_ref (S := (V 1).1) (q := (q / 100 % 10)) (c := (q % 100)) (by omega) (by omega)]; rw [if_pos (by have := b2n_d c_88; omega), if_neg (ne_t (b2n_f c_97))]; omega) (fun z => absurd z (by omega)) (fun z => absurd z (by omega))).trans (by rw [ax_q0 (by omega)]))
    · refine sv_iload_n dX5_doCommand_91 rfl ?_
      refine sv_iload dX5_doCommand_92 rfl ?_
      refine sv_callS (As := [_, _]) sc_X5_163 (k5_isChoice (by have := b2n_d c_88; omega)) rfl rfl (Nat.le_of_ble_eq_true rfl) dX5_doCommand_94 ⟨by decide, by decide⟩ ⟨Nat.zero_le _, Nat.zero_le _⟩ (Nat.le_of_ble_eq_true rfl) ?_
      refine sv_top (nI (b2n (gm_ch (q / 100 % 10) (q % 100)))) (by rw [gm_chR_n (by omega)]) ?_
      refine sv_ifN_eq 117 dX5_doCommand_97 (by decide) (by first | omega | exact Nat.lt_trans (b2n_lt _) (by decide)) (fun c_97 => ?_) (fun c_97 => ?_)
      · refine sv_iconst (nI 0) dX5_doCommand_117 (by decide) ?_
        refine sv_iret dX5_doCommand_118 rfl rfl (Nat.le_refl _) (Nat.le_refl _) ?_
        first | exact ax_fail ((ax_q (fun _ => by rw [ax_ref (S := (V 1).1) (q := (q / 100 % 10)) (c := (q % 100)) (by omega) (by omega)]; rw [if_neg (by have := b2n_e c_88; omega)]; omega) (fun z => absurd z (by omega)) (fun z => absurd z (by omega))).trans (by rw [ax_q0 (by omega)])) | exact ax_fail ((ax_q (fun _ => by rw [ax_ref (S := (V 1).1) (q := (q / 100 % 10)) (c := (q % 100)) (by omega) (by omega)]; rw [if_pos (by have := b2n_d c_88; omega), if_neg (ne_t (b2n_f c_97))]; omega) (fun z => absurd z (by omega)) (fun z => absurd z (by omega))).trans (by rw [ax_q0 (by omega)]))
      · cases hcan : gm_can (V 1).1 (q / 100 % 10) (q % 100)
        · skip
          refine sv_aload_n dX5_doCommand_100 rfl ?_
          refine km_g2 dX5_doCommand_101 sf_X5_23 ?_
          refine sv_iload_n dX5_doCommand_104 rfl ?_
          refine sv_iload dX5_doCommand_105 rfl ?_
          refine sv_callM (As := [_, _]) sc_X5_104 (mf_q (k := 1) (by omega) rfl (fun P9 B9 => ⟨_, _, rfl⟩) (k0_putWorker0 hI (by have := b2n_d c_88; omega) (ax_ch24 (b2n_1 c_97)) (b2n_1 c_97) hcan)) rfl rfl (Nat.le_of_ble_eq_true rfl) dX5_doCommand_107 ⟨by decide, by decide⟩ ⟨Nat.zero_le _, Nat.zero_le _⟩ (Nat.le_of_ble_eq_true rfl) (hg_0 mw_gt) (List.cons_ne_nil _ _) rfl (fun R8 => ?_)
          refine sv_heap (congrArg (fun T => mw G h m T R8 t) mw_id1) ?_
          refine sv_ifN_eq 117 dX5_doCommand_110 (by decide) (by first | omega | exact Nat.lt_trans (b2n_lt _) (by decide)) (fun c_110 => ?_) (fun c_110 => absurd c_110 (by omega))
          refine sv_iconst (nI 0) dX5_doCommand_117 (by decide) ?_
          refine sv_iret dX5_doCommand_118 rfl rfl (Nat.le_refl _) (Nat.le_refl _) ?_
          exact ax_fail ((ax_q (fun _ => by rw [ax_ref (S := (V 1).1) (q := (q / 100 % 10)) (c := (q % 100)) (by omega) (by omega)]; rw [if_pos (by have := b2n_d c_88; omega), if_pos (b2n_1 c_97), if_neg (ne_t hcan)]; omega) (fun z => absurd z (by omega)) (fun z => absurd z (by omega))).trans (by rw [ax_q0 (by omega)]))
        · skip
          refine sv_aload_n dX5_doCommand_100 rfl ?_
          refine km_g2 dX5_doCommand_101 sf_X5_23 ?_
          refine sv_iload_n dX5_doCommand_104 rfl ?_
          refine sv_iload dX5_doCommand_105 rfl ?_
          refine sv_callM (As := [_, _]) sc_X5_104 (mf_q (k := 1) (by omega) rfl (fun P9 B9 => ⟨_, _, rfl⟩) (k0_putWorkerK hI (by have := b2n_d c_88; omega) (ax_ch24 (b2n_1 c_97)) (b2n_1 c_97) hcan hK hK9)) rfl rfl (Nat.le_of_ble_eq_true rfl) dX5_doCommand_107 ⟨by decide, by decide⟩ ⟨Nat.zero_le _, Nat.zero_le _⟩ (Nat.le_of_ble_eq_true rfl) (hg_0 mw_gt) (List.cons_ne_nil _ _) rfl (fun R8 => ?_)
          refine sv_ifN_eq 117 dX5_doCommand_110 (by decide) (by first | omega | exact Nat.lt_trans (b2n_lt _) (by decide)) (fun c_110 => absurd c_110 (by omega)) (fun c_110 => ?_)
          refine sv_iconst (nI 1) dX5_doCommand_113 (by decide) ?_
          refine sv_goto 118 dX5_doCommand_114 (by decide) ?_
          refine sv_iret dX5_doCommand_118 rfl rfl (Nat.le_refl _) (Nat.le_refl _) ?_
          have e1 : gm_dst true (V 1).1 (V 1).2 q = (true, gm_put true (V 1).1 (V 1).2 (q / 100 % 10) (q % 100)) := by
            have e9 := gm_dst_1 (z := true) (S := (V 1).1) (x := (V 1).2) e (by rw [ax_c99, ax_ref (S := (V 1).1) (q := (q / 100 % 10)) (c := (q % 100)) (by omega) (by omega), if_pos (by have := b2n_d c_88; omega), if_pos (b2n_1 c_97), if_pos hcan])
            rw [ax_c99] at e9; exact e9
          exact mQi R8 (by rw [e1]; rfl) (by rw [e1])
  · refine sv_top (nI 2) (congrArg nI e) ?_
    refine sv_tableIn (off := 86) 119 dX5_doCommand_33 (by decide) (by decide) (by decide) (by decide) ?_
    refine sv_iload_n dX5_doCommand_119 rfl ?_
    refine sv_sipush (nI 2000) dX5_doCommand_120 (by decide) ?_
    refine sv_icmpN_ne 140 dX5_doCommand_123 (by decide) (by first | omega | exact Nat.lt_trans (b2n_lt _) (by decide)) (by first | omega | exact Nat.lt_trans (b2n_lt _) (by decide)) (fun c_123 => ?_) (fun c_123 => ?_)
    · refine sv_iconst (nI 0) dX5_doCommand_140 (by decide) ?_
      refine sv_iret dX5_doCommand_141 rfl rfl (Nat.le_refl _) (Nat.le_refl _) ?_
      first | exact ax_fail ((ax_q (fun z => absurd z (by omega)) (fun _ => .inl (by omega)) (fun z => absurd z (by omega))).trans (by rw [ax_q0 (by omega)])) | exact ax_fail ((ax_q (fun z => absurd z (by omega)) (fun _ => .inr hon) (fun z => absurd z (by omega))).trans (by rw [ax_q0 (by omega)]))
    · cases hon : gm_on (V 1).1
      · skip
        refine sv_aload_n dX5_doCommand_126 rfl ?_
        refine km_g2 dX5_doCommand_127 sf_X5_23 ?_
        refine sv_callV (As := []) sc_X5_97 (mf_w (k := 1) (by omega) rfl (k0_passTurn0 hI hon)) rfl rfl (Nat.le_of_ble_eq_true rfl) dX5_doCommand_130 ⟨by decide, by decide⟩ ⟨Nat.zero_le _, Nat.zero_le _⟩ (Nat.le_of_ble_eq_true rfl) (hg_0 mw_gt) (List.cons_ne_nil _ _) rfl ?_
        refine sv_heap (congrArg (fun T => mw G h m T _ t) mw_id1) ?_
        refine sv_ifN_eq 140 dX5_doCommand_133 (by decide) (by first | omega | exact Nat.lt_trans (b2n_lt _) (by decide)) (fun c_133 => ?_) (fun c_133 => absurd c_133 (by omega))
        refine sv_iconst (nI 0) dX5_doCommand_140 (by decide) ?_
        refine sv_iret dX5_doCommand_141 rfl rfl (Nat.le_refl _) (Nat.le_refl _) ?_
        first | exact ax_fail ((ax_q (fun z => absurd z (by omega)) (fun _ => .inl (by omega)) (fun z => absurd z (by omega))).trans (by rw [ax_q0 (by omega)])) | exact ax_fail ((ax_q (fun z => absurd z (by omega)) (fun _ => .inr hon) (fun z => absurd z (by omega))).trans (by rw [ax_q0 (by omega)]))
      · skip
        refine sv_aload_n dX5_doCommand_126 rfl ?_
        refine km_g2 dX5_doCommand_127 sf_X5_23 ?_
        refine sv_callV (As := []) sc_X5_97 (mf_w (k := 1) (by omega) rfl (k0_passTurnK hI hon hK9)) rfl rfl (Nat.le_of_ble_eq_true rfl) dX5_doCommand_130 ⟨by decide, by decide⟩ ⟨Nat.zero_le _, Nat.zero_le _⟩ (Nat.le_of_ble_eq_true rfl) (hg_0 mw_gt) (List.cons_ne_nil _ _) rfl ?_
        refine sv_ifN_eq 140 dX5_doCommand_133 (by decide) (by first | omega | exact Nat.lt_trans (b2n_lt _) (by decide)) (fun c_133 => absurd c_133 (by omega)) (fun c_133 => ?_)
        refine sv_iconst (nI 1) dX5_doCommand_136 (by decide) ?_
        refine sv_goto 141 dX5_doCommand_137 (by decide) ?_
        refine sv_iret dX5_doCommand_141 rfl rfl (Nat.le_refl _) (Nat.le_refl _) ?_
        have e1 : gm_dst true (V 1).1 (V 1).2 q = (true, gm_pass true (V 1).1 (V 1).2) := gm_dst_2 e (by omega) hon
        exact mQi _ (by rw [e1]; rfl) (by rw [e1])
  · refine sv_top (nI 3) (congrArg nI e) ?_
    refine sv_tableIn (off := 109) 142 dX5_doCommand_33 (by decide) (by decide) (by decide) (by decide) ?_
    refine sv_iload_n dX5_doCommand_142 rfl ?_
    refine sv_sipush (nI 3000) dX5_doCommand_143 (by decide) ?_
    refine sv_icmpN_ne 159 dX5_doCommand_146 (by decide) (by first | omega | exact Nat.lt_trans (b2n_lt _) (by decide)) (by first | omega | exact Nat.lt_trans (b2n_lt _) (by decide)) (fun c_146 => ?_) (fun c_146 => ?_)
    · refine sv_iconst (nI 0) dX5_doCommand_159 (by decide) ?_
      refine sv_iret dX5_doCommand_160 rfl rfl (Nat.le_refl _) (Nat.le_refl _) ?_
      first | exact ax_fail ((ax_q (fun z => absurd z (by omega)) (fun _ => .inl (by omega)) (fun z => absurd z (by omega))).trans (by rw [ax_q0 (by omega)])) | exact ax_fail ((ax_q (fun z => absurd z (by omega)) (fun _ => .inr (b2n_f c_156)) (fun z => absurd z (by omega))).trans (by rw [ax_q0 (by omega)]))
    · refine sv_aload_n dX5_doCommand_149 rfl ?_
      refine km_g2 dX5_doCommand_150 sf_X5_23 ?_
      refine sv_callV (As := []) sc_X5_176 (mf_r mw_gt (k0_hasTurn (by omega) (by omega) (by omega))) rfl rfl (Nat.le_of_ble_eq_true rfl) dX5_doCommand_153 ⟨by decide, by decide⟩ ⟨Nat.zero_le _, Nat.zero_le _⟩ (Nat.le_of_ble_eq_true rfl) (hg_0 mw_gt) (List.cons_ne_nil _ _) rfl ?_
      refine sv_ifN_ne 161 dX5_doCommand_156 (by decide) (by first | omega | exact Nat.lt_trans (b2n_lt _) (by decide)) (fun c_156 => ?_) (fun c_156 => ?_)
      · refine sv_aload_n dX5_doCommand_161 rfl ?_
        refine km_g2 dX5_doCommand_162 sf_X5_23 ?_
        refine sv_callM (As := []) sc_X5_184 (mf_q (k := 1) (by omega) rfl (fun P9 B9 => ⟨_, _, rfl⟩) (k0_playTurn hI (b2n_1 c_156) hK hK9)) rfl rfl (Nat.le_of_ble_eq_true rfl) dX5_doCommand_165 ⟨by decide, by decide⟩ ⟨Nat.zero_le _, Nat.zero_le _⟩ (Nat.le_of_ble_eq_true rfl) (hg_0 mw_gt) (List.cons_ne_nil _ _) rfl (fun R8 => ?_)
        refine sv_pop dX5_doCommand_168 rfl ?_
        refine sv_iconst (nI 1) dX5_doCommand_169 (by decide) ?_
        refine sv_iret dX5_doCommand_170 rfl rfl (Nat.le_refl _) (Nat.le_refl _) ?_
        have e1 : gm_dst true (V 1).1 (V 1).2 q = (true, gm_play true (V 1).1 (V 1).2) := gm_dst_3 e (by omega) (b2n_1 c_156)
        exact mQi R8 (by rw [e1]; rfl) (by rw [e1])
      · refine sv_iconst (nI 0) dX5_doCommand_159 (by decide) ?_
        refine sv_iret dX5_doCommand_160 rfl rfl (Nat.le_refl _) (Nat.le_refl _) ?_
        first | exact ax_fail ((ax_q (fun z => absurd z (by omega)) (fun _ => .inl (by omega)) (fun z => absurd z (by omega))).trans (by rw [ax_q0 (by omega)])) | exact ax_fail ((ax_q (fun z => absurd z (by omega)) (fun _ => .inr (b2n_f c_156)) (fun z => absurd z (by omega))).trans (by rw [ax_q0 (by omega)]))
  · refine sv_top (nI 4) (congrArg nI e) ?_
    refine sv_tableIn (off := 138) 171 dX5_doCommand_33 (by decide) (by decide) (by decide) (by decide) ?_
    cases hs : gm_isS (nI (q / 100 % 10)) (nI (q % 100))
    · skip
      refine sv_aload_n dX5_doCommand_171 rfl ?_
      refine sv_iload_n dX5_doCommand_172 rfl ?_
      refine sv_iload dX5_doCommand_173 rfl ?_
      refine sv_callV (As := [_, _]) sc_X5_264 (k5_trialSets0 (by omega) hs) rfl rfl (Nat.le_of_ble_eq_true rfl) dX5_doCommand_175 ⟨by decide, by decide⟩ ⟨Nat.zero_le _, Nat.zero_le _⟩ (Nat.le_of_ble_eq_true rfl) mw_0 (List.cons_ne_nil _ _) rfl ?_
      refine sv_iret dX5_doCommand_178 rfl rfl (Nat.le_refl _) (Nat.le_refl _) ?_
      exact ax_fail ((ax_q (fun z => absurd z (by omega)) (fun z => absurd z (by omega)) (fun _ => hs)).trans (by rw [ax_q0 (by omega)]))
    · have hw := gm_dst_s (by omega) (by omega) hs
      refine sv_aload_n dX5_doCommand_171 rfl ?_
      refine sv_iload_n dX5_doCommand_172 rfl ?_
      refine sv_iload dX5_doCommand_173 rfl ?_
      refine sv_callV (As := [_, _]) sc_X5_264 (k5_trialSetsK (by omega) hs) rfl rfl (Nat.le_of_ble_eq_true rfl) dX5_doCommand_175 ⟨by decide, by decide⟩ ⟨Nat.zero_le _, Nat.zero_le _⟩ (Nat.le_of_ble_eq_true rfl) mw_0 (List.cons_ne_nil _ _) rfl ?_
      refine sv_iret dX5_doCommand_178 rfl rfl (Nat.le_refl _) (Nat.le_refl _) ?_
      have e1 : gm_dst true (V 1).1 (V 1).2 q = (true, va_up (V 1).1 (q / 100 % 10) (q % 100), (V 1).2) := by
        have e9 := gm_dst_4 (z := true) (S := (V 1).1) (x := (V 1).2) e (by rw [ax_c99]; exact hs)
        rw [ax_c99] at e9; exact e9
      exact mQi _ (by rw [e1]; rfl) (by rw [e1])
  · refine sv_top (nI 5) (congrArg nI e) ?_
    refine sv_tableIn (off := 146) 179 dX5_doCommand_33 (by decide) (by decide) (by decide) (by decide) ?_
    refine sv_aload_n dX5_doCommand_179 rfl ?_
    refine km_g2 dX5_doCommand_180 sf_X5_23 ?_
    refine sv_iload_n dX5_doCommand_183 rfl ?_
    refine sv_callV (As := [_]) sc_X5_113 (mf_r mw_gt (k0_hasPlayer (by omega))) rfl rfl (Nat.le_of_ble_eq_true rfl) dX5_doCommand_184 ⟨by decide, by decide⟩ ⟨Nat.zero_le _, Nat.zero_le _⟩ (Nat.le_of_ble_eq_true rfl) (hg_0 mw_gt) (List.cons_ne_nil _ _) rfl ?_
    refine sv_ifN_eq 211 dX5_doCommand_187 (by decide) (by first | omega | exact Nat.lt_trans (b2n_lt _) (by decide)) (fun c_187 => ?_) (fun c_187 => ?_)
    · refine sv_iconst (nI 0) dX5_doCommand_211 (by decide) ?_
      refine sv_iret dX5_doCommand_212 rfl rfl (Nat.le_refl _) (Nat.le_refl _) ?_
      exact ax_fail ((ax_q (fun z => absurd z (by omega)) (fun z => absurd z (by omega)) (fun z => absurd z (by omega))).trans (by rw [e, gm_dq_5, decide_eq_false (by first | (have := hP6 (b2n_f c_187); omega) | omega)]))
    · have q5 := hP5 (b2n_1 c_187); have kk := gm_tot_lt hI (p := (q / 100 % 10)) (by omega)
      refine sv_aload_n dX5_doCommand_190 rfl ?_
      refine km_g2 dX5_doCommand_191 sf_X5_23 ?_
      refine kg_g0 (hg_0 mw_gt) dX5_doCommand_194 sf_X5_123 ?_
      refine sv_iload_n dX5_doCommand_197 rfl ?_
      refine kg_ldp (hg_1 mw_gt) dX5_doCommand_198 (by first | omega | exact Nat.lt_trans (b2n_lt _) (by decide)) ?_
      refine sv_callV (As := []) sc_X5_233 (k3_total (hg_pl mw_gt (by have := hP5 (b2n_1 c_187); omega))) rfl rfl (Nat.le_of_ble_eq_true rfl) dX5_doCommand_199 ⟨by decide, by decide⟩ ⟨Nat.zero_le _, Nat.zero_le _⟩ (Nat.le_of_ble_eq_true rfl) (hg_pl mw_gt (by have := hP5 (b2n_1 c_187); omega)).1 (List.cons_ne_nil _ _) rfl ?_
      refine sv_top (nI (gm_tot (V 1).1 (q / 100 % 10))) rfl ?_
      refine sv_iload dX5_doCommand_202 rfl ?_
      refine sv_icmpN_lt 211 dX5_doCommand_204 (by decide) (by first | omega | exact Nat.lt_trans (b2n_lt _) (by decide)) (by first | omega | exact Nat.lt_trans (b2n_lt _) (by decide)) (fun c_204 => ?_) (fun c_204 => ?_)
      · refine sv_iconst (nI 0) dX5_doCommand_211 (by decide) ?_
        refine sv_iret dX5_doCommand_212 rfl rfl (Nat.le_refl _) (Nat.le_refl _) ?_
        exact ax_fail ((ax_q (fun z => absurd z (by omega)) (fun z => absurd z (by omega)) (fun z => absurd z (by omega))).trans (by rw [e, gm_dq_5, decide_eq_false (by first | (have := hP6 (b2n_f c_187); omega) | omega)]))
      · refine sv_iconst (nI 1) dX5_doCommand_207 (by decide) ?_
        refine sv_goto 212 dX5_doCommand_208 (by decide) ?_
        refine sv_iret dX5_doCommand_212 rfl rfl (Nat.le_refl _) (Nat.le_refl _) ?_
        exact ax_good ((ax_q (fun z => absurd z (by omega)) (fun z => absurd z (by omega)) (fun z => absurd z (by omega))).trans (by rw [e, gm_dq_5, decide_eq_true (by have := hP5 (b2n_1 c_187); omega)]))
  · refine sv_top (nI 6) (congrArg nI e) ?_
    refine sv_tableIn (off := 180) 213 dX5_doCommand_33 (by decide) (by decide) (by decide) (by decide) ?_
    refine sv_iload_n dX5_doCommand_213 rfl ?_
    refine sv_callS (As := [_]) sc_X5_129 (k5_isPlace) rfl rfl (Nat.le_of_ble_eq_true rfl) dX5_doCommand_214 ⟨by decide, by decide⟩ ⟨Nat.zero_le _, Nat.zero_le _⟩ (Nat.le_of_ble_eq_true rfl) ?_
    refine sv_top (nI (b2n (decide ((q / 100 % 10) ≤ 5)))) (by rw [gm_in_n (by omega) (by omega) (by omega), show (decide (0 ≤ (q / 100 % 10) ∧ (q / 100 % 10) ≤ 5)) = decide ((q / 100 % 10) ≤ 5) by simp]) ?_
    refine sv_ifN_eq 245 dX5_doCommand_217 (by decide) (by first | omega | exact Nat.lt_trans (b2n_lt _) (by decide)) (fun c_217 => ?_) (fun c_217 => ?_)
    · refine sv_iconst (nI 0) dX5_doCommand_245 (by decide) ?_
      refine sv_iret dX5_doCommand_246 rfl rfl (Nat.le_refl _) (Nat.le_refl _) ?_
      exact ax_fail ((ax_q (fun z => absurd z (by omega)) (fun z => absurd z (by omega)) (fun z => absurd z (by omega))).trans (by rw [e, gm_dq_6, decide_eq_false (by first | (have := b2n_e c_217; omega) | omega)]))
    · refine sv_iload dX5_doCommand_220 rfl ?_
      refine sv_ifN_ne 245 dX5_doCommand_222 (by decide) (by first | omega | exact Nat.lt_trans (b2n_lt _) (by decide)) (fun c_222 => ?_) (fun c_222 => ?_)
      · refine sv_iconst (nI 0) dX5_doCommand_245 (by decide) ?_
        refine sv_iret dX5_doCommand_246 rfl rfl (Nat.le_refl _) (Nat.le_refl _) ?_
        exact ax_fail ((ax_q (fun z => absurd z (by omega)) (fun z => absurd z (by omega)) (fun z => absurd z (by omega))).trans (by rw [e, gm_dq_6, decide_eq_false (by first | (have := b2n_e c_217; omega) | omega)]))
      · have q6 := b2n_d c_217; have kk := hI.2.2.2.1 (q / 100 % 10) (by omega)
        refine sv_aload_n dX5_doCommand_225 rfl ?_
        refine km_g2 dX5_doCommand_226 sf_X5_23 ?_
        refine kg_g1 (hg_0 mw_gt) dX5_doCommand_229 sf_X5_136 ?_
        refine sv_iload_n dX5_doCommand_232 rfl ?_
        refine kg_ldq (hg_2 mw_gt) dX5_doCommand_233 (by first | omega | exact Nat.lt_trans (b2n_lt _) (by decide)) ?_
        refine kq_g1 (hg_pq mw_gt (by first | omega | exact Nat.lt_trans (b2n_lt _) (by decide))) dX5_doCommand_234 sf_X5_267 ?_
        refine sv_iload_n dX5_doCommand_237 rfl ?_
        refine sv_icmpN_lt 245 dX5_doCommand_238 (by decide) (by first | omega | exact Nat.lt_trans (b2n_lt _) (by decide)) (by first | omega | exact Nat.lt_trans (b2n_lt _) (by decide)) (fun c_238 => ?_) (fun c_238 => ?_)
        · refine sv_iconst (nI 0) dX5_doCommand_245 (by decide) ?_
          refine sv_iret dX5_doCommand_246 rfl rfl (Nat.le_refl _) (Nat.le_refl _) ?_
          exact ax_fail ((ax_q (fun z => absurd z (by omega)) (fun z => absurd z (by omega)) (fun z => absurd z (by omega))).trans (by rw [e, gm_dq_6, decide_eq_false (by first | (have := b2n_e c_217; omega) | omega)]))
        · refine sv_iconst (nI 1) dX5_doCommand_241 (by decide) ?_
          refine sv_goto 246 dX5_doCommand_242 (by decide) ?_
          refine sv_iret dX5_doCommand_246 rfl rfl (Nat.le_refl _) (Nat.le_refl _) ?_
          exact ax_good ((ax_q (fun z => absurd z (by omega)) (fun z => absurd z (by omega)) (fun z => absurd z (by omega))).trans (by rw [e, gm_dq_6, decide_eq_true (by have := b2n_d c_217; omega)]))
  · refine sv_top (nI 7) (congrArg nI e) ?_
    refine sv_tableIn (off := 214) 247 dX5_doCommand_33 (by decide) (by decide) (by decide) (by decide) ?_
    refine sv_aload_n dX5_doCommand_247 rfl ?_
    refine km_g2 dX5_doCommand_248 sf_X5_23 ?_
    refine kg_g4 (hg_0 mw_gt) dX5_doCommand_251 sf_X5_238 ?_
    refine sv_ifN_le 286 dX5_doCommand_254 (by decide) (by first | omega | exact Nat.lt_trans (b2n_lt _) (by decide)) (fun c_254 => ?_) (fun c_254 => ?_)
    · refine sv_iconst (nI 0) dX5_doCommand_286 (by decide) ?_
      refine sv_iret dX5_doCommand_287 rfl rfl (Nat.le_refl _) (Nat.le_refl _) ?_
      exact ax_fail ((ax_q (fun z => absurd z (by omega)) (fun z => absurd z (by omega)) (fun z => absurd z (by omega))).trans (by rw [e, gm_dq_7, decide_eq_false (by first | (have := b2n_e c_261; omega) | omega)]))
    · refine sv_iload_n dX5_doCommand_257 rfl ?_
      refine sv_callS (As := [_]) sc_X5_216 (k5_isGood) rfl rfl (Nat.le_of_ble_eq_true rfl) dX5_doCommand_258 ⟨by decide, by decide⟩ ⟨Nat.zero_le _, Nat.zero_le _⟩ (Nat.le_of_ble_eq_true rfl) ?_
      refine sv_top (nI (b2n (decide ((q / 100 % 10) ≤ 2)))) (by rw [gm_in_n (by omega) (by omega) (by omega), show (decide (0 ≤ (q / 100 % 10) ∧ (q / 100 % 10) ≤ 2)) = decide ((q / 100 % 10) ≤ 2) by simp]) ?_
      refine sv_ifN_eq 286 dX5_doCommand_261 (by decide) (by first | omega | exact Nat.lt_trans (b2n_lt _) (by decide)) (fun c_261 => ?_) (fun c_261 => ?_)
      · refine sv_iconst (nI 0) dX5_doCommand_286 (by decide) ?_
        refine sv_iret dX5_doCommand_287 rfl rfl (Nat.le_refl _) (Nat.le_refl _) ?_
        exact ax_fail ((ax_q (fun z => absurd z (by omega)) (fun z => absurd z (by omega)) (fun z => absurd z (by omega))).trans (by rw [e, gm_dq_7, decide_eq_false (by first | (have := b2n_e c_261; omega) | omega)]))
      · refine sv_iload dX5_doCommand_264 rfl ?_
        refine sv_ifN_ne 286 dX5_doCommand_266 (by decide) (by first | omega | exact Nat.lt_trans (b2n_lt _) (by decide)) (fun c_266 => ?_) (fun c_266 => ?_)
        · refine sv_iconst (nI 0) dX5_doCommand_286 (by decide) ?_
          refine sv_iret dX5_doCommand_287 rfl rfl (Nat.le_refl _) (Nat.le_refl _) ?_
          exact ax_fail ((ax_q (fun z => absurd z (by omega)) (fun z => absurd z (by omega)) (fun z => absurd z (by omega))).trans (by rw [e, gm_dq_7, decide_eq_false (by first | (have := b2n_e c_261; omega) | omega)]))
        · have q7 := b2n_d c_261; have kk := hI.2.1 (7 + (q / 100 % 10)) (by omega) (by omega)
          refine sv_aload_n dX5_doCommand_269 rfl ?_
          refine km_g2 dX5_doCommand_270 sf_X5_23 ?_
          refine kg_g2 (hg_0 mw_gt) dX5_doCommand_273 sf_X5_268 ?_
          refine sv_iload_n dX5_doCommand_276 rfl ?_
          refine kg_ldr (hg_3 mw_gt) dX5_doCommand_277 (by first | omega | exact Nat.lt_trans (b2n_lt _) (by decide)) ?_
          refine sv_iload_n dX5_doCommand_278 rfl ?_
          refine sv_icmpN_lt 286 dX5_doCommand_279 (by decide) (by first | omega | exact Nat.lt_trans (b2n_lt _) (by decide)) (by first | omega | exact Nat.lt_trans (b2n_lt _) (by decide)) (fun c_279 => ?_) (fun c_279 => ?_)
          · refine sv_iconst (nI 0) dX5_doCommand_286 (by decide) ?_
            refine sv_iret dX5_doCommand_287 rfl rfl (Nat.le_refl _) (Nat.le_refl _) ?_
            exact ax_fail ((ax_q (fun z => absurd z (by omega)) (fun z => absurd z (by omega)) (fun z => absurd z (by omega))).trans (by rw [e, gm_dq_7, decide_eq_false (by first | (have := b2n_e c_261; omega) | omega)]))
          · refine sv_iconst (nI 1) dX5_doCommand_282 (by decide) ?_
            refine sv_goto 287 dX5_doCommand_283 (by decide) ?_
            refine sv_iret dX5_doCommand_287 rfl rfl (Nat.le_refl _) (Nat.le_refl _) ?_
            exact ax_good ((ax_q (fun z => absurd z (by omega)) (fun z => absurd z (by omega)) (fun z => absurd z (by omega))).trans (by rw [e, gm_dq_7, decide_eq_true (by have := b2n_d c_261; omega)]))
  · refine sv_top (nI 8) (congrArg nI e) ?_
    refine sv_tableIn (off := 255) 288 dX5_doCommand_33 (by decide) (by decide) (by decide) (by decide) ?_
    refine sv_iload dX5_doCommand_288 rfl ?_
    refine sv_iload dX5_doCommand_290 rfl ?_
    refine sv_icmpN_ne 325 dX5_doCommand_292 (by decide) (by first | omega | exact Nat.lt_trans (b2n_lt _) (by decide)) (by first | omega | exact Nat.lt_trans (b2n_lt _) (by decide)) (fun c_292 => ?_) (fun c_292 => ?_)
    · refine sv_iconst (nI 0) dX5_doCommand_325 (by decide) ?_
      refine sv_iret dX5_doCommand_326 rfl rfl (Nat.le_refl _) (Nat.le_refl _) ?_
      exact ax_fail ((ax_q (fun z => absurd z (by omega)) (fun z => absurd z (by omega)) (fun z => absurd z (by omega))).trans (by rw [e, gm_dq_8, decide_eq_false (by first | omega | (rintro ⟨y1, y2, y3⟩; first | omega | (rw [b2n_f c_306] at y2; cases y2)))]))
    · refine sv_iload_n dX5_doCommand_295 rfl ?_
      refine sv_ifN_ne 325 dX5_doCommand_296 (by decide) (by first | omega | exact Nat.lt_trans (b2n_lt _) (by decide)) (fun c_296 => ?_) (fun c_296 => ?_)
      · refine sv_iconst (nI 0) dX5_doCommand_325 (by decide) ?_
        refine sv_iret dX5_doCommand_326 rfl rfl (Nat.le_refl _) (Nat.le_refl _) ?_
        exact ax_fail ((ax_q (fun z => absurd z (by omega)) (fun z => absurd z (by omega)) (fun z => absurd z (by omega))).trans (by rw [e, gm_dq_8, decide_eq_false (by first | omega | (rintro ⟨y1, y2, y3⟩; first | omega | (rw [b2n_f c_306] at y2; cases y2)))]))
      · refine sv_aload_n dX5_doCommand_299 rfl ?_
        refine km_g2 dX5_doCommand_300 sf_X5_23 ?_
        refine sv_callV (As := []) sc_X5_176 (mf_r mw_gt (k0_hasTurn (by omega) (by omega) (by omega))) rfl rfl (Nat.le_of_ble_eq_true rfl) dX5_doCommand_303 ⟨by decide, by decide⟩ ⟨Nat.zero_le _, Nat.zero_le _⟩ (Nat.le_of_ble_eq_true rfl) (hg_0 mw_gt) (List.cons_ne_nil _ _) rfl ?_
        refine sv_ifN_eq 325 dX5_doCommand_306 (by decide) (by first | omega | exact Nat.lt_trans (b2n_lt _) (by decide)) (fun c_306 => ?_) (fun c_306 => ?_)
        · refine sv_iconst (nI 0) dX5_doCommand_325 (by decide) ?_
          refine sv_iret dX5_doCommand_326 rfl rfl (Nat.le_refl _) (Nat.le_refl _) ?_
          exact ax_fail ((ax_q (fun z => absurd z (by omega)) (fun z => absurd z (by omega)) (fun z => absurd z (by omega))).trans (by rw [e, gm_dq_8, decide_eq_false (by first | omega | (rintro ⟨y1, y2, y3⟩; first | omega | (rw [b2n_f c_306] at y2; cases y2)))]))
        · refine sv_aload_n dX5_doCommand_309 rfl ?_
          refine km_g2 dX5_doCommand_310 sf_X5_23 ?_
          refine kg_g5 (hg_0 mw_gt) dX5_doCommand_313 sf_X5_271 ?_
          refine sv_iload dX5_doCommand_316 rfl ?_
          refine sv_icmpN_ne 325 dX5_doCommand_318 (by decide) (by first | omega | exact Nat.lt_trans (b2n_lt _) (by decide)) (by first | omega | exact Nat.lt_trans (b2n_lt _) (by decide)) (fun c_318 => ?_) (fun c_318 => ?_)
          · refine sv_iconst (nI 0) dX5_doCommand_325 (by decide) ?_
            refine sv_iret dX5_doCommand_326 rfl rfl (Nat.le_refl _) (Nat.le_refl _) ?_
            exact ax_fail ((ax_q (fun z => absurd z (by omega)) (fun z => absurd z (by omega)) (fun z => absurd z (by omega))).trans (by rw [e, gm_dq_8, decide_eq_false (by first | omega | (rintro ⟨y1, y2, y3⟩; first | omega | (rw [b2n_f c_306] at y2; cases y2)))]))
          · refine sv_iconst (nI 1) dX5_doCommand_321 (by decide) ?_
            refine sv_goto 326 dX5_doCommand_322 (by decide) ?_
            refine sv_iret dX5_doCommand_326 rfl rfl (Nat.le_refl _) (Nat.le_refl _) ?_
            exact ax_good ((ax_q (fun z => absurd z (by omega)) (fun z => absurd z (by omega)) (fun z => absurd z (by omega))).trans (by rw [e, gm_dq_8, decide_eq_true (by exact ⟨by omega, b2n_1 c_306, by omega⟩)]))
  · refine sv_top (nI 9) (congrArg nI e) ?_
    refine sv_tableIn (off := 294) 327 dX5_doCommand_33 (by decide) (by decide) (by decide) (by decide) ?_
    refine sv_aload_n dX5_doCommand_327 rfl ?_
    refine km_g2 dX5_doCommand_328 sf_X5_23 ?_
    refine sv_iload_n dX5_doCommand_331 rfl ?_
    refine sv_callV (As := [_]) sc_X5_113 (mf_r mw_gt (k0_hasPlayer (by omega))) rfl rfl (Nat.le_of_ble_eq_true rfl) dX5_doCommand_332 ⟨by decide, by decide⟩ ⟨Nat.zero_le _, Nat.zero_le _⟩ (Nat.le_of_ble_eq_true rfl) (hg_0 mw_gt) (List.cons_ne_nil _ _) rfl ?_
    refine sv_ifN_eq 368 dX5_doCommand_335 (by decide) (by first | omega | exact Nat.lt_trans (b2n_lt _) (by decide)) (fun c_335 => ?_) (fun c_335 => ?_)
    · refine sv_iconst (nI 0) dX5_doCommand_368 (by decide) ?_
      refine sv_iret dX5_doCommand_369 rfl rfl (Nat.le_refl _) (Nat.le_refl _) ?_
      exact ax_fail ((ax_q (fun z => absurd z (by omega)) (fun z => absurd z (by omega)) (fun z => absurd z (by omega))).trans (by rw [e, gm_dq_9, decide_eq_false (by first | (have := hP6 (b2n_f c_335); omega) | (have := b2n_e c_342; omega) | omega)]))
    · refine sv_iload_n dX5_doCommand_338 rfl ?_
      refine sv_callS (As := [_]) sc_X5_216 (k5_isGood) rfl rfl (Nat.le_of_ble_eq_true rfl) dX5_doCommand_339 ⟨by decide, by decide⟩ ⟨Nat.zero_le _, Nat.zero_le _⟩ (Nat.le_of_ble_eq_true rfl) ?_
      refine sv_top (nI (b2n (decide ((q / 10 % 10) ≤ 2)))) (by rw [gm_in_n (by omega) (by omega) (by omega), show (decide (0 ≤ (q / 10 % 10) ∧ (q / 10 % 10) ≤ 2)) = decide ((q / 10 % 10) ≤ 2) by simp]) ?_
      refine sv_ifN_eq 368 dX5_doCommand_342 (by decide) (by first | omega | exact Nat.lt_trans (b2n_lt _) (by decide)) (fun c_342 => ?_) (fun c_342 => ?_)
      · refine sv_iconst (nI 0) dX5_doCommand_368 (by decide) ?_
        refine sv_iret dX5_doCommand_369 rfl rfl (Nat.le_refl _) (Nat.le_refl _) ?_
        exact ax_fail ((ax_q (fun z => absurd z (by omega)) (fun z => absurd z (by omega)) (fun z => absurd z (by omega))).trans (by rw [e, gm_dq_9, decide_eq_false (by first | (have := hP6 (b2n_f c_335); omega) | (have := b2n_e c_342; omega) | omega)]))
      · have q9 := hP5 (b2n_1 c_335); have q8 := b2n_d c_342; have kk := hI.2.1 (13 + 8 * (q / 100 % 10) + (1 + q / 10 % 10)) (by omega) (by omega)
        refine sv_aload_n dX5_doCommand_345 rfl ?_
        refine km_g2 dX5_doCommand_346 sf_X5_23 ?_
        refine kg_g0 (hg_0 mw_gt) dX5_doCommand_349 sf_X5_123 ?_
        refine sv_iload_n dX5_doCommand_352 rfl ?_
        refine kg_ldp (hg_1 mw_gt) dX5_doCommand_353 (by first | omega | exact Nat.lt_trans (b2n_lt _) (by decide)) ?_
        refine kp_g0 (hg_pl mw_gt (by first | omega | exact Nat.lt_trans (b2n_lt _) (by decide))) dX5_doCommand_354 sf_X5_274 ?_
        refine sv_iload_n dX5_doCommand_357 rfl ?_
        refine kp_ld (hg_pl mw_gt (by first | omega | exact Nat.lt_trans (b2n_lt _) (by decide))) dX5_doCommand_358 (by omega) ?_
        refine sv_top (nI ((V 1).1 (13 + 8 * (q / 100 % 10) + (1 + q / 10 % 10)))) rfl ?_
        refine sv_iload dX5_doCommand_359 rfl ?_
        refine sv_icmpN_lt 368 dX5_doCommand_361 (by decide) (by first | omega | exact Nat.lt_trans (b2n_lt _) (by decide)) (by first | omega | exact Nat.lt_trans (b2n_lt _) (by decide)) (fun c_361 => ?_) (fun c_361 => ?_)
        · refine sv_iconst (nI 0) dX5_doCommand_368 (by decide) ?_
          refine sv_iret dX5_doCommand_369 rfl rfl (Nat.le_refl _) (Nat.le_refl _) ?_
          exact ax_fail ((ax_q (fun z => absurd z (by omega)) (fun z => absurd z (by omega)) (fun z => absurd z (by omega))).trans (by rw [e, gm_dq_9, decide_eq_false (by first | (have := hP6 (b2n_f c_335); omega) | (have := b2n_e c_342; omega) | omega)]))
        · refine sv_iconst (nI 1) dX5_doCommand_364 (by decide) ?_
          refine sv_goto 369 dX5_doCommand_365 (by decide) ?_
          refine sv_iret dX5_doCommand_369 rfl rfl (Nat.le_refl _) (Nat.le_refl _) ?_
          exact ax_good ((ax_q (fun z => absurd z (by omega)) (fun z => absurd z (by omega)) (fun z => absurd z (by omega))).trans (by rw [e, gm_dq_9, decide_eq_true (by have := hP5 (b2n_1 c_335); have := b2n_d c_342; omega)]))
theorem k5_runScript1 {w : Int32} {y : Int64} (hw : gm_in (nI 1) w (nI 3) = false) (h0 : h 0 = none) (hm : 0 < m) : sm_C G mX5_runScript 6 1 6 [.ref m, .int w, .long y] (mw G h m V R t) (mQ G h m (.inr "java/lang/IllegalArgumentException") V t) := by
  unfold sm_C
  show sm_V G _ _ _ 0 0 0 [(0, .ref m), (1, .int w), (2, .long y)] [] _
  refine sv_iload_n dX5_runScript_0 rfl ?_
  refine sv_iconst (nI 1) dX5_runScript_1 (by decide) ?_
  refine sv_icmp_lt 10 dX5_runScript_2 (by decide) (fun c_2 => ?_) (fun c_2 => ?_)
  · exact sv_throw 17 sx_iae rfl rfl rfl dX5_runScript_10 dX5_runScript_13 dX5_runScript_14 dX5_runScript_16 dX5_runScript_19 ⟨(Nat.le_of_ble_eq_true rfl), (Nat.le_of_ble_eq_true rfl)⟩ ⟨(Nat.le_of_ble_eq_true rfl), (Nat.le_of_ble_eq_true rfl)⟩ (Nat.le_of_ble_eq_true rfl) (Nat.le_of_ble_eq_true rfl) ⟨rfl, _, mw_fg h0 hm⟩
  · refine sv_iload_n dX5_runScript_5 rfl ?_
    refine sv_iconst (nI 3) dX5_runScript_6 (by decide) ?_
    refine sv_icmp_le 20 dX5_runScript_7 (by decide) (fun c_7 => absurd c_7 ((fun z => absurd (in_t (a := 1) (b := 3) (by omega) (by omega) c_2 z) (ne_t hw)) c_7)) (fun c_7 => ?_)
    exact sv_throw 17 sx_iae rfl rfl rfl dX5_runScript_10 dX5_runScript_13 dX5_runScript_14 dX5_runScript_16 dX5_runScript_19 ⟨(Nat.le_of_ble_eq_true rfl), (Nat.le_of_ble_eq_true rfl)⟩ ⟨(Nat.le_of_ble_eq_true rfl), (Nat.le_of_ble_eq_true rfl)⟩ (Nat.le_of_ble_eq_true rfl) (Nat.le_of_ble_eq_true rfl) ⟨rfl, _, mw_fg h0 hm⟩
theorem k5_runScript2 {y : Int64} (hn1 : 1 ≤ n) (hn : n ≤ 3) (hy : y < 0) (h0 : h 0 = none) (hm : 0 < m) : sm_C G mX5_runScript 6 1 6 [.ref m, .int (nI n), .long y] (mw G h m V R t) (mQ G h m (.inr "java/lang/IllegalArgumentException") V t) := by
  unfold sm_C
  show sm_V G _ _ _ 0 0 0 [(0, .ref m), (1, .int (nI n)), (2, .long y)] [] _
  refine sv_iload_n dX5_runScript_0 rfl ?_
  refine sv_iconst (nI 1) dX5_runScript_1 (by decide) ?_
  refine sv_icmpN_lt 10 dX5_runScript_2 (by decide) (by omega) (by omega) (fun c_2 => absurd c_2 (by omega)) (fun c_2 => ?_)
  refine sv_iload_n dX5_runScript_5 rfl ?_
  refine sv_iconst (nI 3) dX5_runScript_6 (by decide) ?_
  refine sv_icmpN_le 20 dX5_runScript_7 (by decide) (by omega) (by omega) (fun c_7 => ?_) (fun c_7 => absurd c_7 (by omega))
  refine sv_lload_n dX5_runScript_20 rfl ?_
  refine sv_lconst (0) dX5_runScript_21 (by decide) ?_
  refine sv_lcmp dX5_runScript_22 ?_
  refine sv_if_lt 36 dX5_runScript_23 (by decide) (fun c_23 => ?_) (fun c_23 => absurd c_23 (fun z => z ((lg_cmp_lt _ _).mpr hy)))
  exact sv_throwW 18 sx_iae rfl rfl rfl dX5_runScript_36 dX5_runScript_39 dX5_runScript_40 dX5_runScript_43 dX5_runScript_46 ⟨(Nat.le_of_ble_eq_true rfl), (Nat.le_of_ble_eq_true rfl)⟩ ⟨(Nat.le_of_ble_eq_true rfl), (Nat.le_of_ble_eq_true rfl)⟩ (Nat.le_of_ble_eq_true rfl) (Nat.le_of_ble_eq_true rfl) ⟨rfl, _, mw_fg h0 hm⟩
theorem k5_runScript3 {v : Nat} (hn1 : 1 ≤ n) (hn : n ≤ 3) (hv : v < 2 ^ 63) (hy : gm_p4 n ≤ v) (h0 : h 0 = none) (hm : 0 < m) : sm_C G mX5_runScript 6 1 6 [.ref m, .int (nI n), .long (lN v)] (mw G h m V R t) (mQ G h m (.inr "java/lang/IllegalArgumentException") V t) := by
  unfold sm_C
  show sm_V G _ _ _ 0 0 0 [(0, .ref m), (1, .int (nI n)), (2, .long (lN v))] [] _
  refine sv_iload_n dX5_runScript_0 rfl ?_
  refine sv_iconst (nI 1) dX5_runScript_1 (by decide) ?_
  refine sv_icmpN_lt 10 dX5_runScript_2 (by decide) (by omega) (by omega) (fun c_2 => absurd c_2 (by omega)) (fun c_2 => ?_)
  refine sv_iload_n dX5_runScript_5 rfl ?_
  refine sv_iconst (nI 3) dX5_runScript_6 (by decide) ?_
  refine sv_icmpN_le 20 dX5_runScript_7 (by decide) (by omega) (by omega) (fun c_7 => ?_) (fun c_7 => absurd c_7 (by omega))
  refine sv_lload_n dX5_runScript_20 rfl ?_
  refine sv_lconst (0) dX5_runScript_21 (by decide) ?_
  refine sv_lcmp dX5_runScript_22 ?_
  refine sv_if_lt 36 dX5_runScript_23 (by decide) (fun c_23 => absurd c_23 ((fun z => absurd ((lg_cmp_lt _ _).mp z) (by rw [show (0 : Int64) = lN 0 from rfl, pk_lLT hv (by omega)]; omega)) c_23)) (fun c_23 => ?_)
  refine sv_lload_n dX5_runScript_26 rfl ?_
  refine sv_iload_n dX5_runScript_27 rfl ?_
  refine sv_callS (As := [_, _]) sc_X5_253 (k5_dropGroups hv (by omega)) rfl rfl (Nat.le_of_ble_eq_true rfl) dX5_runScript_28 ⟨by decide, by decide⟩ ⟨Nat.zero_le _, Nat.zero_le _⟩ (Nat.le_of_ble_eq_true rfl) ?_
  refine sv_lconst (0) dX5_runScript_31 (by decide) ?_
  refine sv_lcmp dX5_runScript_32 ?_
  refine sv_if_eq 47 dX5_runScript_33 (by decide) (fun c_33 => absurd c_33 ((fun z => absurd ((lg_cmp_eq _ _).mp z) (by have hp := gm_p4_lt hn; have := Nat.div_pos hy hp.1; rw [show (0 : Int64) = lN 0 from rfl, pk_lEQ (Nat.lt_of_le_of_lt (Nat.div_le_self _ _) hv) (by omega)]; omega)) c_33)) (fun c_33 => ?_)
  exact sv_throwW 18 sx_iae rfl rfl rfl dX5_runScript_36 dX5_runScript_39 dX5_runScript_40 dX5_runScript_43 dX5_runScript_46 ⟨(Nat.le_of_ble_eq_true rfl), (Nat.le_of_ble_eq_true rfl)⟩ ⟨(Nat.le_of_ble_eq_true rfl), (Nat.le_of_ble_eq_true rfl)⟩ (Nat.le_of_ble_eq_true rfl) (Nat.le_of_ble_eq_true rfl) ⟨rfl, _, mw_fg h0 hm⟩
abbrev ax_Rs : Type := Nat × gm_S × Int64 × mw_R
def ax_ri (K n v : Nat) (A : Int32) (s : ax_Rs) : Prop := s.1 ≤ n ∧ gm_I (K + 40 * s.1) s.2.1 ∧ gm_scr true v n (n - s.1) s.2.1 s.2.2.1 = A
theorem ax_ri_t {n v q : Nat} {A : Int32} {s : ax_Rs} {R2 : mw_R} {D : Bool × gm_S × Int64} (h : ax_ri K n v A s) (hn : s.1 < n) (hn3 : n ≤ 3) (hK : K + 60000 < 2 ^ 26) (hK9 : 12 ≤ K) (hq : v / gm_p4 (n - 1 - s.1) % 10000 = q) (hD : gm_dst true s.2.1 s.2.2.1 q = D) (h1 : D.1 = true) : ax_ri K n v A (s.1 + 1, D.2.1, D.2.2, R2) := by
  obtain ⟨a, d, e⟩ := h
  obtain ⟨i1, i2⟩ := gm_dst_I (z := true) (x := s.2.2.1) (q := q) d (by omega) (by omega)
  rw [hD] at i1
  rw [show n - s.1 = n - 1 - s.1 + 1 by omega, gm_scr_t hq hD h1] at e
  have i3 : gm_I (K + 40 * (s.1 + 1)) D.2.1 := by rw [show K + 40 * (s.1 + 1) = K + 40 * s.1 + 40 by omega]; exact i1
  exact ⟨hn, i3, by show gm_scr true v n (n - (s.1 + 1)) D.2.1 D.2.2 = A; rw [show n - (s.1 + 1) = n - 1 - s.1 by omega]; exact e⟩
theorem ax_ri_f {n v q : Nat} {A : Int32} {s : ax_Rs} (h : ax_ri K n v A s) (hn : s.1 < n) (hq : v / gm_p4 (n - 1 - s.1) % 10000 = q) (h1 : (gm_dst true s.2.1 s.2.2.1 q).1 = false) : nI s.1 = A := by
  obtain ⟨a, d, e⟩ := h
  rw [show n - s.1 = n - 1 - s.1 + 1 by omega, gm_scr_f hq rfl h1, show n - (n - 1 - s.1 + 1) = s.1 by omega] at e
  exact e
theorem ax_ri_e {n v : Nat} {A : Int32} {s : ax_Rs} (h : ax_ri K n v A s) (hn : n ≤ s.1) : -1 = A := by
  obtain ⟨a, d, e⟩ := h
  rw [show n - s.1 = 0 by omega] at e
  exact e
theorem ax_u1 {v1 v2 : gm_S × Int64} : va_up (va_up V 1 v1) 1 v2 = va_up V 1 v2 := up_up _ _ _ _
theorem k5_runScriptK {v : Nat} (hI : gm_I K (V 0).1) (hK : K + 60000 < 2 ^ 26) (hK9 : 12 ≤ K) (hn1 : 1 ≤ n) (hn : n ≤ 3) (hv4 : v < gm_p4 n) : sm_C G mX5_runScript 6 0 0 [.ref m, .int (nI n), .long (lN v)] (mw G h m V R t) (mQ1 G h m (.inl (some (.int ((gm_scr true v n n (V 0).1 (V 0).2))))) V t) := by
  unfold sm_C
  show sm_V G _ _ _ 0 0 0 [(0, .ref m), (1, .int (nI n)), (2, .long (lN v))] [] _
  have hv : v < 2 ^ 63 := by have := (gm_p4_lt hn).2; omega
  refine sv_iload_n dX5_runScript_0 rfl ?_
  refine sv_iconst (nI 1) dX5_runScript_1 (by decide) ?_
  refine sv_icmpN_lt 10 dX5_runScript_2 (by decide) (by first | omega | exact Nat.lt_trans (b2n_lt _) (by decide)) (by first | omega | exact Nat.lt_trans (b2n_lt _) (by decide)) (fun c_2 => absurd c_2 (by omega)) (fun c_2 => ?_)
  refine sv_iload_n dX5_runScript_5 rfl ?_
  refine sv_iconst (nI 3) dX5_runScript_6 (by decide) ?_
  refine sv_icmpN_le 20 dX5_runScript_7 (by decide) (by first | omega | exact Nat.lt_trans (b2n_lt _) (by decide)) (by first | omega | exact Nat.lt_trans (b2n_lt _) (by decide)) (fun c_7 => ?_) (fun c_7 => absurd c_7 (by omega))
  refine sv_lload_n dX5_runScript_20 rfl ?_
  refine sv_lconst (0) dX5_runScript_21 (by decide) ?_
  refine sv_lcmp dX5_runScript_22 ?_
  refine sv_if_lt 36 dX5_runScript_23 (by decide) (fun c_23 => absurd c_23 ((fun z => absurd ((lg_cmp_lt _ _).mp z) (by rw [show (0 : Int64) = lN 0 from rfl, pk_lLT hv (by omega)]; omega)) c_23)) (fun c_23 => ?_)
  refine sv_lload_n dX5_runScript_26 rfl ?_
  refine sv_iload_n dX5_runScript_27 rfl ?_
  refine sv_callS (As := [_, _]) sc_X5_253 (k5_dropGroups hv (by omega)) rfl rfl (Nat.le_of_ble_eq_true rfl) dX5_runScript_28 ⟨by decide, by decide⟩ ⟨Nat.zero_le _, Nat.zero_le _⟩ (Nat.le_of_ble_eq_true rfl) ?_
  refine sv_lconst (0) dX5_runScript_31 (by decide) ?_
  refine sv_lcmp dX5_runScript_32 ?_
  refine sv_if_eq 47 dX5_runScript_33 (by decide) (fun c_33 => ?_) (fun c_33 => absurd c_33 (fun z => z ((lg_cmp_eq _ _).mpr (by rw [Nat.div_eq_of_lt hv4]; rfl))))
  refine sv_aload_n dX5_runScript_47 rfl ?_
  refine km_g2 dX5_runScript_48 sf_X5_23 ?_
  refine sv_aload_n dX5_runScript_51 rfl ?_
  refine km_g1 dX5_runScript_52 sf_X5_19 ?_
  refine sv_callV (As := [_]) sc_X5_224 (mw_ct_n) rfl rfl (Nat.le_of_ble_eq_true rfl) dX5_runScript_55 ⟨by decide, by decide⟩ ⟨Nat.zero_le _, Nat.zero_le _⟩ (Nat.le_of_ble_eq_true rfl) (hg_0 mw_gt) (List.cons_ne_nil _ _) rfl ?_
  refine sv_iconst (nI 0) dX5_runScript_58 (by decide) ?_
  refine sv_istore (lv' := [(4, _), (0, _), (1, _), (2, _)]) dX5_runScript_59 (by decide) rfl ?_
  refine sv_sub [0, 1, 2, 3] rfl (sv_rec (pc := 61) (fun s : ax_Rs => n - s.1) (I := ax_ri K n v (gm_scr true v n n (V 0).1 (V 0).2)) (lv := fun s => [(4, .int (nI s.1)), (0, .ref m), (1, .int (nI n)), (2, .long (lN v))]) (hp := fun s => mw G h m (va_up V 1 (s.2.1, s.2.2.1)) s.2.2.2 t) (0, (V 0).1, (V 0).2, _) ⟨Nat.zero_le _, hI, rfl⟩ ?_)
  · intro s hi ih
    show sm_V G _ _ _ _ _ _ [(4, .int (nI s.1)), (0, .ref m), (1, .int (nI n)), (2, .long (lN v))] [] (mw G h m (va_up V 1 (s.2.1, s.2.2.1)) s.2.2.2 t)
    obtain ⟨hle, i1, hf⟩ := id hi
    refine sv_iload dX5_runScript_61 rfl ?_
    refine sv_iload_n dX5_runScript_63 rfl ?_
    refine sv_icmpN_ge 102 dX5_runScript_64 (by decide) (by first | omega | exact Nat.lt_trans (b2n_lt _) (by decide)) (by first | omega | exact Nat.lt_trans (b2n_lt _) (by decide)) (fun c_64 => ?_) (fun c_64 => ?_)
    · refine sv_iconst (-1) dX5_runScript_102 (by decide) ?_
      refine sv_iret dX5_runScript_103 rfl rfl (Nat.le_refl _) (Nat.le_refl _) ?_
      exact mQ1i _ _ (rI (ax_ri_e hi c_64)) rfl
    · obtain ⟨q2, hq2⟩ : ∃ q2, v / gm_p4 (n - 1 - s.1) % 10000 = q2 := ⟨_, rfl⟩
      have hq3 : q2 < 10000 := by omega
      have hvq : v / gm_p4 (n - 1 - s.1) < 2 ^ 63 := Nat.lt_of_le_of_lt (Nat.div_le_self _ _) hv
      have e1 : va_up V 1 (s.2.1, s.2.2.1) 1 = (s.2.1, s.2.2.1) := up_eq
      refine sv_lload_n dX5_runScript_67 rfl ?_
      refine sv_iload_n dX5_runScript_68 rfl ?_
      refine sv_iconst (nI 1) dX5_runScript_69 (by decide) ?_
      refine sv_isubN dX5_runScript_70 (by first | omega | exact Nat.lt_trans (b2n_lt _) (by decide)) ?_
      refine sv_iload dX5_runScript_71 rfl ?_
      refine sv_isubN dX5_runScript_73 (by first | omega | exact Nat.lt_trans (b2n_lt _) (by decide)) ?_
      refine sv_callS (As := [_, _]) sc_X5_253 (k5_dropGroups hv (by omega)) rfl rfl (Nat.le_of_ble_eq_true rfl) dX5_runScript_74 ⟨by decide, by decide⟩ ⟨Nat.zero_le _, Nat.zero_le _⟩ (Nat.le_of_ble_eq_true rfl) ?_
      refine sv_ldc2 dX5_runScript_77 (sm_tc ck_4_0_in 29 rfl rfl) ?_
      refine sv_lrem dX5_runScript_80 (by decide) ?_
      refine sv_topl (lN q2) (by rw [gm_p4_r hvq, hq2]) ?_
      refine sv_l2i dX5_runScript_81 ?_
      refine sv_top (nI q2) (lN_i q2) ?_
      refine sv_istore (lv' := [(5, _), (4, _), (0, _), (1, _), (2, _)]) dX5_runScript_82 (by decide) rfl ?_
      refine sv_aload_n dX5_runScript_84 rfl ?_
      refine sv_iload dX5_runScript_85 rfl ?_
      refine sv_callM (As := [_]) sc_X5_261 (k5_doCommand (K := K + 40 * s.1) (by rw [e1]; exact i1) (by omega) (by omega) hq3) rfl rfl (Nat.le_of_ble_eq_true rfl) dX5_runScript_87 ⟨by decide, by decide⟩ ⟨Nat.zero_le _, Nat.zero_le _⟩ (Nat.le_of_ble_eq_true rfl) mw_0 (List.cons_ne_nil _ _) rfl (fun R8 => ?_)
      rw [e1, ax_u1]
      obtain ⟨D2, hD2⟩ : ∃ D2, gm_dst true s.2.1 s.2.2.1 q2 = D2 := ⟨_, rfl⟩
      simp only [hD2]
      refine sv_ifN_ne 96 dX5_runScript_90 (by decide) (by first | omega | exact Nat.lt_trans (b2n_lt _) (by decide)) (fun c_90 => ?_) (fun c_90 => ?_)
      · refine sv_iinc1 (lv' := [(4, _), (5, _), (0, _), (1, _), (2, _)]) dX5_runScript_96 rfl (by decide) rfl ?_
        refine sv_goto 61 dX5_runScript_99 (by decide) ?_
        exact sv_sub [0, 2, 3, 4] rfl (ih (s.1 + 1, D2.2.1, D2.2.2, R8) (by show n - (s.1 + 1) < n - s.1; omega) (ax_ri_t hi c_64 hn hK hK9 hq2 hD2 (b2n_1 c_90)))
      · refine sv_iload dX5_runScript_93 rfl ?_
        refine sv_iret dX5_runScript_95 rfl rfl (Nat.le_refl _) (Nat.le_refl _) ?_
        exact mQ1i _ _ (rI (ax_ri_f hi c_64 hq2 (by rw [hD2]; exact b2n_f c_90))) rfl
theorem ax_off3 : ∀ l : Nat, l < 6 → l ≠ 2 ∧ l ≠ 3 → Op.lookupswitch.offset [(2, 27), (3, 36)] 56 (nI l).toInt = 56 := by decide
theorem k5_simulatedChoice {q k : Nat} (hq : q < 6) (hk : k < 2 ^ 31) : sm_F G mX5_simulatedChoice 0 [.int (nI q), .int (nI k)] h (.inl (some (.int (nI (if q = 2 then 1 + k / 64 % 3 else if q = 3 then 10 * (k / 64 % 3) + 1 + k / 256 % 3 else 0))))) h := by
  unfold sm_F sm_C
  show sm_V G _ _ _ 0 0 0 [(0, .int (nI q)), (1, .int (nI k))] [] _
  refine sv_iload_n dX5_simulatedChoice_0 rfl ?_
  rcases (show q = 2 ∨ q = 3 ∨ (q ≠ 2 ∧ q ≠ 3) by omega) with rfl | rfl | ⟨e2, e3⟩
  · refine sv_lookup (off := 27) 28 dX5_simulatedChoice_1 (by decide) (by decide) (by decide) ?_
    refine sv_iconst (nI 1) dX5_simulatedChoice_28 (by decide) ?_
    refine sv_iload_n dX5_simulatedChoice_29 rfl ?_
    refine sv_bipush (nI 64) dX5_simulatedChoice_30 (by decide) ?_
    refine sv_idivN dX5_simulatedChoice_32 (by omega) (by omega) (by omega) ?_
    refine sv_iconst (nI 3) dX5_simulatedChoice_33 (by decide) ?_
    refine sv_iremN dX5_simulatedChoice_34 (by omega) (by omega) (by omega) ?_
    refine sv_iaddN dX5_simulatedChoice_35 ?_
    refine sv_iret dX5_simulatedChoice_36 rfl rfl (Nat.le_refl _) (Nat.le_refl _) ?_
    exact ⟨rfl, rfl⟩
  · refine sv_lookup (off := 36) 37 dX5_simulatedChoice_1 (by decide) (by decide) (by decide) ?_
    refine sv_bipush (nI 10) dX5_simulatedChoice_37 (by decide) ?_
    refine sv_iload_n dX5_simulatedChoice_39 rfl ?_
    refine sv_bipush (nI 64) dX5_simulatedChoice_40 (by decide) ?_
    refine sv_idivN dX5_simulatedChoice_42 (by omega) (by omega) (by omega) ?_
    refine sv_iconst (nI 3) dX5_simulatedChoice_43 (by decide) ?_
    refine sv_iremN dX5_simulatedChoice_44 (by omega) (by omega) (by omega) ?_
    refine sv_imulN dX5_simulatedChoice_45 ?_
    refine sv_iconst (nI 1) dX5_simulatedChoice_46 (by decide) ?_
    refine sv_iaddN dX5_simulatedChoice_47 ?_
    refine sv_iload_n dX5_simulatedChoice_48 rfl ?_
    refine sv_sipush (nI 256) dX5_simulatedChoice_49 (by decide) ?_
    refine sv_idivN dX5_simulatedChoice_52 (by omega) (by omega) (by omega) ?_
    refine sv_iconst (nI 3) dX5_simulatedChoice_53 (by decide) ?_
    refine sv_iremN dX5_simulatedChoice_54 (by omega) (by omega) (by omega) ?_
    refine sv_iaddN dX5_simulatedChoice_55 ?_
    refine sv_iret dX5_simulatedChoice_56 rfl rfl (Nat.le_refl _) (Nat.le_refl _) ?_
    exact ⟨rfl, rfl⟩
  · refine sv_lookup (off := 56) 57 dX5_simulatedChoice_1 (by decide) (ax_off3 q hq ⟨e2, e3⟩) (by decide) ?_
    refine sv_iconst (nI 0) dX5_simulatedChoice_57 (by decide) ?_
    refine sv_iret dX5_simulatedChoice_58 rfl rfl (Nat.le_refl _) (Nat.le_refl _) ?_
    exact ⟨ri (by rw [if_neg e2, if_neg e3]), rfl⟩
theorem k5_simulateTurn {k : Nat} (hI : gm_I K (V 1).1) (hK : K + 40 < 2 ^ 26) (hK9 : 12 ≤ K) (hon : gm_on (V 1).1 = true) (hk : k < 2 ^ 31) : sm_C G mX5_simulateTurn 5 0 0 [.ref m, .int (nI k)] (mw G h m V R t) (mQ G h m (.inl none) (va_up V 1 (gm_sim true (V 1).1 (V 1).2 k)) t) := by
  unfold sm_C
  show sm_V G _ _ _ 0 0 0 [(0, .ref m), (1, .int (nI k))] [] _
  obtain ⟨h1, h2, h3⟩ := gm_s_ch k
  rcases gm_sim3 (V 1).1 k with h7 | ⟨h7, hcan⟩ | ⟨h7, hcan⟩
  · have e9 : (gm_sim true (V 1).1 (V 1).2 k) = gm_pass true (V 1).1 (V 1).2 := if_pos h7
    refine sv_iload_n dX5_simulateTurn_0 rfl ?_
    refine sv_bipush (nI 8) dX5_simulateTurn_1 (by decide) ?_
    refine sv_iremN dX5_simulateTurn_3 (by omega) (by omega) (by omega) ?_
    refine sv_bipush (nI 7) dX5_simulateTurn_4 (by decide) ?_
    refine sv_icmpN_ne 18 dX5_simulateTurn_6 (by decide) (by omega) (by omega) (fun c_6 => absurd c_6 (by omega)) (fun c_6 => ?_)
    refine sv_aload_n dX5_simulateTurn_9 rfl ?_
    refine km_g2 dX5_simulateTurn_10 sf_X5_23 ?_
    refine sv_callV (As := []) sc_X5_97 (mf_w (k := 1) (by omega) rfl (k0_passTurnK hI hon hK9)) rfl rfl (Nat.le_of_ble_eq_true rfl) dX5_simulateTurn_13 ⟨by decide, by decide⟩ ⟨Nat.zero_le _, Nat.zero_le _⟩ (Nat.le_of_ble_eq_true rfl) (hg_0 mw_gt) (List.cons_ne_nil _ _) rfl ?_
    refine sv_pop dX5_simulateTurn_16 rfl ?_
    refine sv_vret dX5_simulateTurn_17 rfl (Nat.le_refl _) (Nat.le_refl _) ?_
    exact mQi _ rfl (by rw [e9])
  · have e9 : (gm_sim true (V 1).1 (V 1).2 k) = gm_put true (V 1).1 (V 1).2 (gm_sq k) (gm_sc k) := by unfold gm_sim; rw [if_neg h7, if_pos hcan]
    refine sv_iload_n dX5_simulateTurn_0 rfl ?_
    refine sv_bipush (nI 8) dX5_simulateTurn_1 (by decide) ?_
    refine sv_iremN dX5_simulateTurn_3 (by omega) (by omega) (by omega) ?_
    refine sv_bipush (nI 7) dX5_simulateTurn_4 (by decide) ?_
    refine sv_icmpN_ne 18 dX5_simulateTurn_6 (by decide) (by omega) (by omega) (fun c_6 => ?_) (fun c_6 => absurd c_6 (by omega))
    refine sv_iload_n dX5_simulateTurn_18 rfl ?_
    refine sv_bipush (nI 8) dX5_simulateTurn_19 (by decide) ?_
    refine sv_idivN dX5_simulateTurn_21 (by omega) (by omega) (by omega) ?_
    refine sv_bipush (nI 6) dX5_simulateTurn_22 (by decide) ?_
    refine sv_iremN dX5_simulateTurn_24 (by omega) (by omega) (by omega) ?_
    refine sv_top (nI (gm_sq k)) (rfl) ?_
    refine sv_istore_n (lv' := [(2, _), (0, _), (1, _)]) dX5_simulateTurn_25 (by decide) rfl ?_
    refine sv_aload_n dX5_simulateTurn_26 rfl ?_
    refine km_g2 dX5_simulateTurn_27 sf_X5_23 ?_
    refine sv_iload_n dX5_simulateTurn_30 rfl ?_
    refine sv_iload_n dX5_simulateTurn_31 rfl ?_
    refine sv_iload_n dX5_simulateTurn_32 rfl ?_
    refine sv_callS (As := [_, _]) sc_X5_289 (k5_simulatedChoice (by omega) hk) rfl rfl (Nat.le_of_ble_eq_true rfl) dX5_simulateTurn_33 ⟨by decide, by decide⟩ ⟨Nat.zero_le _, Nat.zero_le _⟩ (Nat.le_of_ble_eq_true rfl) ?_
    refine sv_top (nI (gm_sc k)) rfl ?_
    refine sv_callM (As := [_, _]) sc_X5_104 (mf_q (k := 1) (by omega) rfl (fun P9 B9 => ⟨_, _, rfl⟩) (k0_putWorkerK hI h1 h2 h3 hcan hK hK9)) rfl rfl (Nat.le_of_ble_eq_true rfl) dX5_simulateTurn_36 ⟨by decide, by decide⟩ ⟨Nat.zero_le _, Nat.zero_le _⟩ (Nat.le_of_ble_eq_true rfl) (hg_0 mw_gt) (List.cons_ne_nil _ _) rfl (fun R8 => ?_)
    refine sv_ifN_ne 50 dX5_simulateTurn_39 (by decide) (by omega) (fun c_39 => ?_) (fun c_39 => absurd c_39 (by omega))
    refine sv_vret dX5_simulateTurn_50 rfl (Nat.le_refl _) (Nat.le_refl _) ?_
    exact mQi _ rfl (by rw [e9])
  · have e9 : (gm_sim true (V 1).1 (V 1).2 k) = gm_play true (V 1).1 (V 1).2 := by unfold gm_sim; rw [if_neg h7, if_neg (ne_t hcan)]
    refine sv_iload_n dX5_simulateTurn_0 rfl ?_
    refine sv_bipush (nI 8) dX5_simulateTurn_1 (by decide) ?_
    refine sv_iremN dX5_simulateTurn_3 (by omega) (by omega) (by omega) ?_
    refine sv_bipush (nI 7) dX5_simulateTurn_4 (by decide) ?_
    refine sv_icmpN_ne 18 dX5_simulateTurn_6 (by decide) (by omega) (by omega) (fun c_6 => ?_) (fun c_6 => absurd c_6 (by omega))
    refine sv_iload_n dX5_simulateTurn_18 rfl ?_
    refine sv_bipush (nI 8) dX5_simulateTurn_19 (by decide) ?_
    refine sv_idivN dX5_simulateTurn_21 (by omega) (by omega) (by omega) ?_
    refine sv_bipush (nI 6) dX5_simulateTurn_22 (by decide) ?_
    refine sv_iremN dX5_simulateTurn_24 (by omega) (by omega) (by omega) ?_
    refine sv_top (nI (gm_sq k)) (rfl) ?_
    refine sv_istore_n (lv' := [(2, _), (0, _), (1, _)]) dX5_simulateTurn_25 (by decide) rfl ?_
    refine sv_aload_n dX5_simulateTurn_26 rfl ?_
    refine km_g2 dX5_simulateTurn_27 sf_X5_23 ?_
    refine sv_iload_n dX5_simulateTurn_30 rfl ?_
    refine sv_iload_n dX5_simulateTurn_31 rfl ?_
    refine sv_iload_n dX5_simulateTurn_32 rfl ?_
    refine sv_callS (As := [_, _]) sc_X5_289 (k5_simulatedChoice (by omega) hk) rfl rfl (Nat.le_of_ble_eq_true rfl) dX5_simulateTurn_33 ⟨by decide, by decide⟩ ⟨Nat.zero_le _, Nat.zero_le _⟩ (Nat.le_of_ble_eq_true rfl) ?_
    refine sv_top (nI (gm_sc k)) rfl ?_
    refine sv_callM (As := [_, _]) sc_X5_104 (mf_q (k := 1) (by omega) rfl (fun P9 B9 => ⟨_, _, rfl⟩) (k0_putWorker0 hI h1 h2 h3 hcan)) rfl rfl (Nat.le_of_ble_eq_true rfl) dX5_simulateTurn_36 ⟨by decide, by decide⟩ ⟨Nat.zero_le _, Nat.zero_le _⟩ (Nat.le_of_ble_eq_true rfl) (hg_0 mw_gt) (List.cons_ne_nil _ _) rfl (fun R8 => ?_)
    refine sv_heap (congrArg (fun T => mw G h m T R8 t) mw_id1) ?_
    refine sv_ifN_ne 50 dX5_simulateTurn_39 (by decide) (by omega) (fun c_39 => absurd c_39 (by omega)) (fun c_39 => ?_)
    refine sv_aload_n dX5_simulateTurn_42 rfl ?_
    refine km_g2 dX5_simulateTurn_43 sf_X5_23 ?_
    refine sv_callM (As := []) sc_X5_184 (mf_q (k := 1) (by omega) rfl (fun P9 B9 => ⟨_, _, rfl⟩) (k0_playTurn hI hon hK hK9)) rfl rfl (Nat.le_of_ble_eq_true rfl) dX5_simulateTurn_46 ⟨by decide, by decide⟩ ⟨Nat.zero_le _, Nat.zero_le _⟩ (Nat.le_of_ble_eq_true rfl) (hg_0 mw_gt) (List.cons_ne_nil _ _) rfl (fun R7 => ?_)
    refine sv_pop dX5_simulateTurn_49 rfl ?_
    refine sv_vret dX5_simulateTurn_50 rfl (Nat.le_refl _) (Nat.le_refl _) ?_
    exact mQi _ rfl (by rw [e9])
theorem k5_simulate1 {w : Int32} {y : Int64} (hw : gm_in (nI 1) w (nI 80) = false) (h0 : h 0 = none) (hm : 0 < m) : sm_C G mX5_simulate 6 1 6 [.ref m, .long y, .int w] (mw G h m V R t) (mQ G h m (.inr "java/lang/IllegalArgumentException") V t) := by
  unfold sm_C
  show sm_V G _ _ _ 0 0 0 [(0, .ref m), (1, .long y), (3, .int w)] [] _
  refine sv_iload_n dX5_simulate_0 rfl ?_
  refine sv_iconst (nI 1) dX5_simulate_1 (by decide) ?_
  refine sv_icmp_lt 11 dX5_simulate_2 (by decide) (fun c_2 => ?_) (fun c_2 => ?_)
  · exact sv_throwW 19 sx_iae rfl rfl rfl dX5_simulate_11 dX5_simulate_14 dX5_simulate_15 dX5_simulate_18 dX5_simulate_21 ⟨(Nat.le_of_ble_eq_true rfl), (Nat.le_of_ble_eq_true rfl)⟩ ⟨(Nat.le_of_ble_eq_true rfl), (Nat.le_of_ble_eq_true rfl)⟩ (Nat.le_of_ble_eq_true rfl) (Nat.le_of_ble_eq_true rfl) ⟨rfl, _, mw_fg h0 hm⟩
  · refine sv_iload_n dX5_simulate_5 rfl ?_
    refine sv_bipush (nI 80) dX5_simulate_6 (by decide) ?_
    refine sv_icmp_le 22 dX5_simulate_8 (by decide) (fun c_8 => absurd c_8 ((fun z => absurd (in_t (a := 1) (b := 80) (by omega) (by omega) c_2 z) (ne_t hw)) c_8)) (fun c_8 => ?_)
    exact sv_throwW 19 sx_iae rfl rfl rfl dX5_simulate_11 dX5_simulate_14 dX5_simulate_15 dX5_simulate_18 dX5_simulate_21 ⟨(Nat.le_of_ble_eq_true rfl), (Nat.le_of_ble_eq_true rfl)⟩ ⟨(Nat.le_of_ble_eq_true rfl), (Nat.le_of_ble_eq_true rfl)⟩ (Nat.le_of_ble_eq_true rfl) (Nat.le_of_ble_eq_true rfl) ⟨rfl, _, mw_fg h0 hm⟩
theorem ax_sR (v : Int32) (S : gm_S) : ∀ n, gm_sR v S n = v + nI (cg_sm S n)
  | 0 => (Int32.add_zero v).symm
  | n + 1 => by show gm_sR v S n + nI (gm_tot S n) = v + nI (cg_sm S n + gm_tot S n); rw [ax_sR v S n, ← nI_add, Int32.add_assoc]
abbrev ax_Ss : Type := Nat × Int64 × gm_S × Int64 × mw_R
def ax_si (K n : Nat) (A : gm_S × Int64) (s : ax_Ss) : Prop := s.1 ≤ n ∧ gm_I (K + 40 * s.1) s.2.2.1 ∧ gm_siN true (n - s.1) s.2.2.1 s.2.2.2.1 s.2.1 = A
theorem ax_si_s {n : Nat} {A : gm_S × Int64} {s : ax_Ss} {R2 : mw_R} {y2 : Int64} {r2 : Nat} {T2 : gm_S × Int64} (h : ax_si K n A s) (hn : s.1 < n) (hn2 : n ≤ 80) (hon : gm_on s.2.2.1 = true) (hK : K + 60000 < 2 ^ 26) (hK9 : 12 ≤ K) (hy : gm_nx s.2.1 = y2) (hr : gm_r y2 = r2) (hT : gm_sim true s.2.2.1 s.2.2.2.1 r2 = T2) : ax_si K n A (s.1 + 1, y2, T2.1, T2.2, R2) := by
  obtain ⟨a, d, e⟩ := h
  have e2 := e
  rw [show n - s.1 = n - (s.1 + 1) + 1 by omega, gm_siN_s hon, hy, hr, hT] at e2
  have i2 : gm_I (K + 40 * (s.1 + 1)) T2.1 := by
    rw [← hT, show K + 40 * (s.1 + 1) = K + 40 * s.1 + 40 by omega]; exact gm_sim_I d hon (by omega) (by omega)
  exact ⟨hn, i2, e2⟩
theorem ax_si_e {n : Nat} {A : gm_S × Int64} {s : ax_Ss} (h : ax_si K n A s) (he : n ≤ s.1 ∨ gm_on s.2.2.1 = false) : A = (s.2.2.1, s.2.2.2.1) := by
  obtain ⟨a, d, e⟩ := h
  rw [← e]
  rcases he with he | he
  · rw [show n - s.1 = 0 by omega]; rfl
  · cases n - s.1 with
    | zero => rfl
    | succ f => unfold gm_siN; rw [if_neg (ne_t he)]
theorem k5_simulateK {y : Int64} (hI : gm_I K (V 0).1) (hK : K + 60000 < 2 ^ 26) (hK9 : 12 ≤ K) (hn1 : 1 ≤ n) (hn : n ≤ 80) (h3 : (V 0).1 3 ≠ 0) : sm_C G mX5_simulate 7 0 0 [.ref m, .long y, .int (nI n)] (mw G h m V R t) (mQ1 G h m (.inl (some (.int ((gm_sians (V 0).1 (gm_siN true n (V 0).1 (V 0).2 y).1))))) V t) := by
  unfold sm_C
  show sm_V G _ _ _ 0 0 0 [(0, .ref m), (1, .long y), (3, .int (nI n))] [] _
  obtain ⟨d3, d6, d0, d1, d2, d4, dK⟩ := cg_d hI
  have e0 : ∀ v1, va_up V 1 v1 0 = V 0 := fun v1 => up_ne (by omega)
  refine sv_iload_n dX5_simulate_0 rfl ?_
  refine sv_iconst (nI 1) dX5_simulate_1 (by decide) ?_
  refine sv_icmpN_lt 11 dX5_simulate_2 (by decide) (by first | omega | exact Nat.lt_trans (b2n_lt _) (by decide)) (by first | omega | exact Nat.lt_trans (b2n_lt _) (by decide)) (fun c_2 => absurd c_2 (by omega)) (fun c_2 => ?_)
  refine sv_iload_n dX5_simulate_5 rfl ?_
  refine sv_bipush (nI 80) dX5_simulate_6 (by decide) ?_
  refine sv_icmpN_le 22 dX5_simulate_8 (by decide) (by first | omega | exact Nat.lt_trans (b2n_lt _) (by decide)) (by first | omega | exact Nat.lt_trans (b2n_lt _) (by decide)) (fun c_8 => ?_) (fun c_8 => absurd c_8 (by omega))
  refine sv_aload_n dX5_simulate_22 rfl ?_
  refine km_g1 dX5_simulate_23 sf_X5_19 ?_
  refine kg_g4 (hg_0 mw_gn) dX5_simulate_26 sf_X5_238 ?_
  refine sv_ifN_ne 34 dX5_simulate_29 (by decide) (by first | omega | exact Nat.lt_trans (b2n_lt _) (by decide)) (fun c_29 => ?_) (fun c_29 => absurd c_29 (by omega))
  refine sv_aload_n dX5_simulate_34 rfl ?_
  refine km_g2 dX5_simulate_35 sf_X5_23 ?_
  refine sv_aload_n dX5_simulate_38 rfl ?_
  refine km_g1 dX5_simulate_39 sf_X5_19 ?_
  refine sv_callV (As := [_]) sc_X5_224 (mw_ct_n) rfl rfl (Nat.le_of_ble_eq_true rfl) dX5_simulate_42 ⟨by decide, by decide⟩ ⟨Nat.zero_le _, Nat.zero_le _⟩ (Nat.le_of_ble_eq_true rfl) (hg_0 mw_gt) (List.cons_ne_nil _ _) rfl ?_
  refine sv_lload_n dX5_simulate_45 rfl ?_
  refine sv_lstore (lv' := [(4, _), (0, _), (1, _), (3, _)]) dX5_simulate_46 (by decide) rfl ?_
  refine sv_iconst (nI 0) dX5_simulate_48 (by decide) ?_
  refine sv_istore (lv' := [(6, _), (4, _), (0, _), (1, _), (3, _)]) dX5_simulate_49 (by decide) rfl ?_
  refine sv_sub [0, 1, 4, 2] rfl (sv_rec (pc := 51) (fun s : ax_Ss => n - s.1) (I := ax_si K n (gm_siN true n (V 0).1 (V 0).2 y)) (lv := fun s => [(6, .int (nI s.1)), (4, .long s.2.1), (3, .int (nI n)), (0, .ref m)]) (hp := fun s => mw G h m (va_up V 1 (s.2.2.1, s.2.2.2.1)) s.2.2.2.2 t) (0, y, (V 0).1, (V 0).2, _) ⟨Nat.zero_le _, hI, rfl⟩ ?_)
  · intro s hi ih
    show sm_V G _ _ _ _ _ _ [(6, .int (nI s.1)), (4, .long s.2.1), (3, .int (nI n)), (0, .ref m)] [] (mw G h m (va_up V 1 (s.2.2.1, s.2.2.2.1)) s.2.2.2.2 t)
    obtain ⟨hle, i1, hf⟩ := id hi
    obtain ⟨d3, d6, d0, d1, d2, d4, dK⟩ := cg_d i1
    have e1 : va_up V 1 (s.2.2.1, s.2.2.2.1) 1 = (s.2.2.1, s.2.2.2.1) := up_eq
    refine sv_iload dX5_simulate_51 rfl ?_
    refine sv_iload_n dX5_simulate_53 rfl ?_
    refine sv_icmpN_ge 90 dX5_simulate_54 (by decide) (by first | omega | exact Nat.lt_trans (b2n_lt _) (by decide)) (by first | omega | exact Nat.lt_trans (b2n_lt _) (by decide)) (fun c_54 => ?_) (fun c_54 => ?_)
    · have ef := ax_si_e hi (.inl c_54)
      refine sv_sipush (nI 1000) dX5_simulate_90 (by decide) ?_
      refine sv_aload_n dX5_simulate_93 rfl ?_
      refine km_g2 dX5_simulate_94 sf_X5_23 ?_
      refine kg_g9 (hg_0 mw_gt) dX5_simulate_97 sf_X5_283 ?_
      refine sv_aload_n dX5_simulate_100 rfl ?_
      refine km_g1 dX5_simulate_101 sf_X5_19 ?_
      refine kg_g9 (hg_0 mw_gn) dX5_simulate_104 sf_X5_283 ?_
      refine sv_isub dX5_simulate_107 ?_
      refine sv_imul dX5_simulate_108 ?_
      refine sv_aload_n dX5_simulate_109 rfl ?_
      refine km_g2 dX5_simulate_110 sf_X5_23 ?_
      refine sv_callV (As := []) sc_X5_286 (mf_r mw_gt (k0_sumOfTotals (K := K + 40 * s.1) (by rw [e1]; exact i1))) rfl rfl (Nat.le_of_ble_eq_true rfl) dX5_simulate_113 ⟨by decide, by decide⟩ ⟨Nat.zero_le _, Nat.zero_le _⟩ (Nat.le_of_ble_eq_true rfl) (hg_0 mw_gt) (List.cons_ne_nil _ _) rfl ?_
      refine sv_iadd dX5_simulate_116 ?_
      refine sv_iret dX5_simulate_117 rfl rfl (Nat.le_refl _) (Nat.le_refl _) ?_
      exact mQ1i _ _ (rI (by rw [ef]; unfold gm_sians; rw [ax_sR, up_eq, e0])) rfl
    · refine sv_aload_n dX5_simulate_57 rfl ?_
      refine km_g2 dX5_simulate_58 sf_X5_23 ?_
      refine sv_callV (As := []) sc_X5_176 (mf_r mw_gt (k0_hasTurn (by rw [e1]; show s.2.2.1 3 < _; omega) (by rw [e1]; show s.2.2.1 6 < _; omega) (by rw [e1]; show s.2.2.1 0 < _; omega))) rfl rfl (Nat.le_of_ble_eq_true rfl) dX5_simulate_61 ⟨by decide, by decide⟩ ⟨Nat.zero_le _, Nat.zero_le _⟩ (Nat.le_of_ble_eq_true rfl) (hg_0 mw_gt) (List.cons_ne_nil _ _) rfl ?_
      rw [e1]
      show sm_V G _ _ _ _ _ _ _ (.int (nI (b2n (gm_on s.2.2.1))) :: []) _
      refine sv_ifN_eq 90 dX5_simulate_64 (by decide) (by first | omega | exact Nat.lt_trans (b2n_lt _) (by decide)) (fun c_64 => ?_) (fun c_64 => ?_)
      · have ef := ax_si_e hi (.inr (b2n_f c_64))
        refine sv_sipush (nI 1000) dX5_simulate_90 (by decide) ?_
        refine sv_aload_n dX5_simulate_93 rfl ?_
        refine km_g2 dX5_simulate_94 sf_X5_23 ?_
        refine kg_g9 (hg_0 mw_gt) dX5_simulate_97 sf_X5_283 ?_
        refine sv_aload_n dX5_simulate_100 rfl ?_
        refine km_g1 dX5_simulate_101 sf_X5_19 ?_
        refine kg_g9 (hg_0 mw_gn) dX5_simulate_104 sf_X5_283 ?_
        refine sv_isub dX5_simulate_107 ?_
        refine sv_imul dX5_simulate_108 ?_
        refine sv_aload_n dX5_simulate_109 rfl ?_
        refine km_g2 dX5_simulate_110 sf_X5_23 ?_
        refine sv_callV (As := []) sc_X5_286 (mf_r mw_gt (k0_sumOfTotals (K := K + 40 * s.1) (by rw [e1]; exact i1))) rfl rfl (Nat.le_of_ble_eq_true rfl) dX5_simulate_113 ⟨by decide, by decide⟩ ⟨Nat.zero_le _, Nat.zero_le _⟩ (Nat.le_of_ble_eq_true rfl) (hg_0 mw_gt) (List.cons_ne_nil _ _) rfl ?_
        refine sv_iadd dX5_simulate_116 ?_
        refine sv_iret dX5_simulate_117 rfl rfl (Nat.le_refl _) (Nat.le_refl _) ?_
        exact mQ1i _ _ (rI (by rw [ef]; unfold gm_sians; rw [ax_sR, up_eq, e0])) rfl
      · refine sv_lload dX5_simulate_67 rfl ?_
        refine sv_callS (As := [_]) sc_X5_243 (k5_nextX) rfl rfl (Nat.le_of_ble_eq_true rfl) dX5_simulate_69 ⟨by decide, by decide⟩ ⟨Nat.zero_le _, Nat.zero_le _⟩ (Nat.le_of_ble_eq_true rfl) ?_
        obtain ⟨y2, hy2⟩ : ∃ y2, gm_nx s.2.1 = y2 := ⟨_, rfl⟩
        refine sv_topl y2 hy2 ?_
        refine sv_lstore (lv' := [(4, _), (6, _), (3, _), (0, _)]) dX5_simulate_72 (by decide) rfl ?_
        refine sv_aload_n dX5_simulate_74 rfl ?_
        refine sv_lload dX5_simulate_75 rfl ?_
        refine sv_bipush (nI 33) dX5_simulate_77 (by decide) ?_
        refine sv_lushr dX5_simulate_79 ?_
        refine sv_l2i dX5_simulate_80 ?_
        obtain ⟨r2, hr2⟩ : ∃ r2, gm_r y2 = r2 := ⟨_, rfl⟩
        have hrl : r2 < 2 ^ 31 := hr2 ▸ gm_r_lt y2
        refine sv_top (nI r2) ((gm_r_eq _).trans (congrArg nI hr2)) ?_
        refine sv_callM (As := [_]) sc_X5_279 (k5_simulateTurn (K := K + 40 * s.1) (by rw [e1]; exact i1) (by omega) (by omega) (by rw [e1]; exact b2n_1 c_64) hrl) rfl rfl (Nat.le_of_ble_eq_true rfl) dX5_simulate_81 ⟨by decide, by decide⟩ ⟨Nat.zero_le _, Nat.zero_le _⟩ (Nat.le_of_ble_eq_true rfl) mw_0 (List.cons_ne_nil _ _) rfl (fun R8 => ?_)
        rw [e1, ax_u1]
        obtain ⟨T2, hT2⟩ : ∃ T2, gm_sim true s.2.2.1 s.2.2.2.1 r2 = T2 := ⟨_, rfl⟩
        simp only [hT2]
        refine sv_iinc1 (lv' := [(6, _), (4, _), (3, _), (0, _)]) dX5_simulate_84 rfl (by decide) rfl ?_
        refine sv_goto 51 dX5_simulate_87 (by decide) ?_
        exact sv_sub [0, 1, 2, 3] rfl (ih (s.1 + 1, y2, T2.1, T2.2, R8) (by show n - (s.1 + 1) < n - s.1; omega) (ax_si_s hi c_54 hn (b2n_1 c_64) hK hK9 hy2 hr2 hT2))
theorem k5_simulateE {y : Int64} (hI : gm_I K (V 0).1) (hn1 : 1 ≤ n) (hn : n ≤ 80) (h3 : (V 0).1 3 = 0) : sm_C G mX5_simulate 7 0 0 [.ref m, .long y, .int (nI n)] (mw G h m V R t) (mQ G h m (.inl (some (.int (nI 0)))) V t) := by
  unfold sm_C
  show sm_V G _ _ _ 0 0 0 [(0, .ref m), (1, .long y), (3, .int (nI n))] [] _
  obtain ⟨d3, d6, d0, d1, d2, d4, dK⟩ := cg_d hI
  refine sv_iload_n dX5_simulate_0 rfl ?_
  refine sv_iconst (nI 1) dX5_simulate_1 (by decide) ?_
  refine sv_icmpN_lt 11 dX5_simulate_2 (by decide) (by first | omega | exact Nat.lt_trans (b2n_lt _) (by decide)) (by first | omega | exact Nat.lt_trans (b2n_lt _) (by decide)) (fun c_2 => absurd c_2 (by omega)) (fun c_2 => ?_)
  refine sv_iload_n dX5_simulate_5 rfl ?_
  refine sv_bipush (nI 80) dX5_simulate_6 (by decide) ?_
  refine sv_icmpN_le 22 dX5_simulate_8 (by decide) (by first | omega | exact Nat.lt_trans (b2n_lt _) (by decide)) (by first | omega | exact Nat.lt_trans (b2n_lt _) (by decide)) (fun c_8 => ?_) (fun c_8 => absurd c_8 (by omega))
  refine sv_aload_n dX5_simulate_22 rfl ?_
  refine km_g1 dX5_simulate_23 sf_X5_19 ?_
  refine kg_g4 (hg_0 mw_gn) dX5_simulate_26 sf_X5_238 ?_
  refine sv_ifN_ne 34 dX5_simulate_29 (by decide) (by first | omega | exact Nat.lt_trans (b2n_lt _) (by decide)) (fun c_29 => absurd c_29 (fun z => z h3)) (fun c_29 => ?_)
  refine sv_iconst (nI 0) dX5_simulate_32 (by decide) ?_
  refine sv_iret dX5_simulate_33 rfl rfl (Nat.le_refl _) (Nat.le_refl _) ?_
  exact mQi _ rfl rfl
end CAS
