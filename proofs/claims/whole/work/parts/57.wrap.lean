section CWR
variable {G : sm_G} {h : sm_H} {m o d : Nat} {V V2 : mw_V} {R : mw_R} {t t2 : mw_T} {O : Nat → Int64} {v : Int32}
/-- what a wrapper leaves: a number that tells of a throw, and, where none was, the answer in the array o -/
def lQ (G : sm_G) (h : sm_H) (m o k : Nat) (a : Int64) (V : mw_V) (t : mw_T) : sm_Q := fun r1 h1 => r1 = .inl (some (.int (nI k))) ∧ ∃ v1 R O, h1 = mw G (sm_up h o (sm_aj G 1 O)) m (va_up V 1 v1) R t ∧ (k = 0 → O 0 = a)
theorem mw_cm {e : va_E} (ho : o < m ∨ m + 493 ≤ o) : sm_up (mw G h m V R t) o e = mw G (sm_up h o e) m V R t := by
  funext b
  unfold sm_up mw
  by_cases hb : b = o
  · rw [if_pos hb, if_pos (by omega)]; exact (if_pos hb).symm
  · rw [if_neg hb]
    by_cases h2 : b < m ∨ m + 493 ≤ b
    · rw [if_pos h2, if_pos h2]; exact (if_neg hb).symm
    · rw [if_neg h2, if_neg h2]
theorem sm_up_id {e : va_E} (he : h o = some e) : sm_up h o e = h := by
  funext b; unfold sm_up; split
  · rename_i e2; rw [e2, he]
  · rfl
theorem va_id {V : mw_V} : va_up V 1 (V 1) = V := by
  funext k; unfold va_up; split
  · rename_i e; rw [e]
  · rfl
theorem mQ_1 {o9 : sm_O} : ∀ r1 h1, mQ G h m o9 V t r1 h1 → mQ1 G h m o9 V t r1 h1 := fun r1 h1 q => by
  obtain ⟨e, R, e2⟩ := q
  exact ⟨e, V 1, R, by rw [e2, va_id]⟩

theorem wL_appendN {p0 : Int32} (ho : h o = some (sm_aj G 1 O)) (hom : o < m ∨ m + 493 ≤ o) (hd : d ≤ 7) (hc : sm_C G mX5_append d 0 0 [.ref m, .int p0] (mw G h m V R t) (mQ1 G h m (.inl (some (.int v))) V2 t2)) : sm_C G mL_append 8 1 6 [.ref m, .int p0, .ref o] (mw G h m V R t) (lQ G h m o 0 v.toInt64 V2 t2) := by
  unfold sm_C
  show sm_V G _ _ _ 0 0 0 [(0, .ref m), (1, .int p0), (2, .ref o)] [] _
  refine sv_aload_n dL_append_0 rfl ?_
  refine sv_iconst (nI 0) dL_append_1 rfl ?_
  refine sv_aload_n dL_append_2 rfl ?_
  refine sv_iload_n dL_append_3 rfl ?_
  refine sv_invV (As := [_]) sc_L_7 hc rfl rfl (Nat.le_of_ble_eq_true rfl) dL_append_4 ⟨show d + 1 ≤ 8 by omega, show 8 + (mX5_append.2.2.1 + 11) + 30 * d ≤ 240 from (show 8 + (2 + 11) + 30 * d ≤ 240 by omega)⟩ ⟨Nat.zero_le _, Nat.zero_le _⟩ (Nat.le_of_ble_eq_true rfl) mw_0 (List.cons_ne_nil _ _) rfl (fun w1 h1 q => ?_) (fun E h1 q => by obtain ⟨q1, -⟩ := q; cases q1)
  obtain ⟨q1, v1, R1, rfl⟩ := q
  cases q1
  show sm_V G _ _ _ 0 0 7 _ [.int v, .int (nI 0), .ref o] _
  refine sv_i2l dL_append_7 ?_
  refine sv_lastore dL_append_8 ((mw_out hom).trans ho) (show ¬ (nI 0 < 0 ∨ 1 ≤ (nI 0).toNatClampNeg) by decide) ?_
  refine sv_goto 18 dL_append_9 (by decide) ?_
  refine sv_iconst (nI 0) dL_append_18 rfl ?_
  refine sv_iret dL_append_19 rfl rfl (Nat.le_of_ble_eq_true rfl) (Nat.le_of_ble_eq_true rfl) ?_
  exact ⟨rfl, v1, R1, _, mw_cm hom, fun _ => rfl⟩
theorem wL_append1 {p0 : Int32} (ho : h o = some (sm_aj G 1 O)) (hom : o < m ∨ m + 493 ≤ o) (hc : sm_C G mX5_append 6 1 6 [.ref m, .int p0] (mw G h m V R t) (mQ G h m (.inr "java/lang/IllegalArgumentException") V t)) (a : Int64) : sm_C G mL_append 8 1 6 [.ref m, .int p0, .ref o] (mw G h m V R t) (lQ G h m o 1 a V t) := by
  unfold sm_C
  show sm_V G _ _ _ 0 0 0 [(0, .ref m), (1, .int p0), (2, .ref o)] [] _
  refine sv_aload_n dL_append_0 rfl ?_
  refine sv_iconst (nI 0) dL_append_1 rfl ?_
  refine sv_aload_n dL_append_2 rfl ?_
  refine sv_iload_n dL_append_3 rfl ?_
  refine sv_invV (As := [_]) sc_L_7 hc rfl rfl (Nat.le_of_ble_eq_true rfl) dL_append_4 ⟨by decide, by decide⟩ ⟨Nat.le_of_ble_eq_true rfl, Nat.le_of_ble_eq_true rfl⟩ (Nat.le_of_ble_eq_true rfl) mw_0 (List.cons_ne_nil _ _) rfl (fun w1 h1 q => by obtain ⟨q1, -⟩ := q; cases q1) (fun E h1 q => ?_)
  obtain ⟨q1, R1, rfl⟩ := q
  cases q1
  refine sv_catch [] ⟨0, 9, 12, 13⟩ [⟨0, 9, 15, 15⟩] rfl (fun z hz => nomatch hz) (by decide) (by decide) (sm_tc ck_1_7_in 16 rfl rfl) (sm_mh ck_1_7_in 24 rfl rfl) (fun q => ?_)
  refine sv_astore_n dL_append_12 (by decide) rfl ?_
  refine sv_iconst (nI 1) dL_append_13 rfl ?_
  refine sv_iret dL_append_14 rfl rfl (Nat.le_of_ble_eq_true rfl) (Nat.le_of_ble_eq_true rfl) ?_
  exact ⟨rfl, V 1, R1, O, by rw [sm_up_id ho, va_id], fun z => absurd z (by decide)⟩
theorem wL_append2 {p0 : Int32} (ho : h o = some (sm_aj G 1 O)) (hom : o < m ∨ m + 493 ≤ o) (hc : sm_C G mX5_append 6 1 6 [.ref m, .int p0] (mw G h m V R t) (mQ G h m (.inr "java/lang/IllegalStateException") V t)) (a : Int64) : sm_C G mL_append 8 1 6 [.ref m, .int p0, .ref o] (mw G h m V R t) (lQ G h m o 2 a V t) := by
  unfold sm_C
  show sm_V G _ _ _ 0 0 0 [(0, .ref m), (1, .int p0), (2, .ref o)] [] _
  refine sv_aload_n dL_append_0 rfl ?_
  refine sv_iconst (nI 0) dL_append_1 rfl ?_
  refine sv_aload_n dL_append_2 rfl ?_
  refine sv_iload_n dL_append_3 rfl ?_
  refine sv_invV (As := [_]) sc_L_7 hc rfl rfl (Nat.le_of_ble_eq_true rfl) dL_append_4 ⟨by decide, by decide⟩ ⟨Nat.le_of_ble_eq_true rfl, Nat.le_of_ble_eq_true rfl⟩ (Nat.le_of_ble_eq_true rfl) mw_0 (List.cons_ne_nil _ _) rfl (fun w1 h1 q => by obtain ⟨q1, -⟩ := q; cases q1) (fun E h1 q => ?_)
  obtain ⟨q1, R1, rfl⟩ := q
  cases q1
  refine sv_catch [⟨0, 9, 12, 13⟩] ⟨0, 9, 15, 15⟩ [] rfl (fun z hz => by rw [List.mem_singleton.mp hz]; exact .inr ⟨by decide, _, sm_tc ck_1_7_in 16 rfl rfl, by decide⟩) (by decide) (by decide) (sm_tc ck_1_7_in 17 rfl rfl) (sm_mh ck_2_2_in 6 rfl rfl) (fun q => ?_)
  refine sv_astore_n dL_append_15 (by decide) rfl ?_
  refine sv_iconst (nI 2) dL_append_16 rfl ?_
  refine sv_iret dL_append_17 rfl rfl (Nat.le_of_ble_eq_true rfl) (Nat.le_of_ble_eq_true rfl) ?_
  exact ⟨rfl, V 1, R1, O, by rw [sm_up_id ho, va_id], fun z => absurd z (by decide)⟩
theorem wL_loadN  (ho : h o = some (sm_aj G 1 O)) (hom : o < m ∨ m + 493 ≤ o) (hd : d ≤ 7) (hc : sm_C G mX5_load d 0 0 [.ref m] (mw G h m V R t) (mQ1 G h m (.inl (some (.int v))) V2 t2)) : sm_C G mL_load 8 1 6 [.ref m, .ref o] (mw G h m V R t) (lQ G h m o 0 v.toInt64 V2 t2) := by
  unfold sm_C
  show sm_V G _ _ _ 0 0 0 [(0, .ref m), (1, .ref o)] [] _
  refine sv_aload_n dL_load_0 rfl ?_
  refine sv_iconst (nI 0) dL_load_1 rfl ?_
  refine sv_aload_n dL_load_2 rfl ?_
  refine sv_invV (As := []) sc_L_17 hc rfl rfl (Nat.le_of_ble_eq_true rfl) dL_load_3 ⟨show d + 1 ≤ 8 by omega, show 8 + (mX5_load.2.2.1 + 11) + 30 * d ≤ 240 from (show 8 + (2 + 11) + 30 * d ≤ 240 by omega)⟩ ⟨Nat.zero_le _, Nat.zero_le _⟩ (Nat.le_of_ble_eq_true rfl) mw_0 (List.cons_ne_nil _ _) rfl (fun w1 h1 q => ?_) (fun E h1 q => by obtain ⟨q1, -⟩ := q; cases q1)
  obtain ⟨q1, v1, R1, rfl⟩ := q
  cases q1
  show sm_V G _ _ _ 0 0 6 _ [.int v, .int (nI 0), .ref o] _
  refine sv_i2l dL_load_6 ?_
  refine sv_lastore dL_load_7 ((mw_out hom).trans ho) (show ¬ (nI 0 < 0 ∨ 1 ≤ (nI 0).toNatClampNeg) by decide) ?_
  refine sv_goto 14 dL_load_8 (by decide) ?_
  refine sv_iconst (nI 0) dL_load_14 rfl ?_
  refine sv_iret dL_load_15 rfl rfl (Nat.le_of_ble_eq_true rfl) (Nat.le_of_ble_eq_true rfl) ?_
  exact ⟨rfl, v1, R1, _, mw_cm hom, fun _ => rfl⟩
theorem wL_load1  (ho : h o = some (sm_aj G 1 O)) (hom : o < m ∨ m + 493 ≤ o) (hc : sm_C G mX5_load 6 1 6 [.ref m] (mw G h m V R t) (mQ G h m (.inr "java/lang/IllegalStateException") V t)) (a : Int64) : sm_C G mL_load 8 1 6 [.ref m, .ref o] (mw G h m V R t) (lQ G h m o 1 a V t) := by
  unfold sm_C
  show sm_V G _ _ _ 0 0 0 [(0, .ref m), (1, .ref o)] [] _
  refine sv_aload_n dL_load_0 rfl ?_
  refine sv_iconst (nI 0) dL_load_1 rfl ?_
  refine sv_aload_n dL_load_2 rfl ?_
  refine sv_invV (As := []) sc_L_17 hc rfl rfl (Nat.le_of_ble_eq_true rfl) dL_load_3 ⟨by decide, by decide⟩ ⟨Nat.le_of_ble_eq_true rfl, Nat.le_of_ble_eq_true rfl⟩ (Nat.le_of_ble_eq_true rfl) mw_0 (List.cons_ne_nil _ _) rfl (fun w1 h1 q => by obtain ⟨q1, -⟩ := q; cases q1) (fun E h1 q => ?_)
  obtain ⟨q1, R1, rfl⟩ := q
  cases q1
  refine sv_catch [] ⟨0, 8, 11, 15⟩ [] rfl (fun z hz => nomatch hz) (by decide) (by decide) (sm_tc ck_1_7_in 17 rfl rfl) (sm_mh ck_2_2_in 6 rfl rfl) (fun q => ?_)
  refine sv_astore_n dL_load_11 (by decide) rfl ?_
  refine sv_iconst (nI 1) dL_load_12 rfl ?_
  refine sv_iret dL_load_13 rfl rfl (Nat.le_of_ble_eq_true rfl) (Nat.le_of_ble_eq_true rfl) ?_
  exact ⟨rfl, V 1, R1, O, by rw [sm_up_id ho, va_id], fun z => absurd z (by decide)⟩
theorem wL_aboutN {p0 : Int32} (ho : h o = some (sm_aj G 1 O)) (hom : o < m ∨ m + 493 ≤ o) (hd : d ≤ 7) (hc : sm_C G mX5_about d 0 0 [.ref m, .int p0] (mw G h m V R t) (mQ1 G h m (.inl (some (.int v))) V2 t2)) : sm_C G mL_about 8 1 6 [.ref m, .int p0, .ref o] (mw G h m V R t) (lQ G h m o 0 v.toInt64 V2 t2) := by
  unfold sm_C
  show sm_V G _ _ _ 0 0 0 [(0, .ref m), (1, .int p0), (2, .ref o)] [] _
  refine sv_aload_n dL_about_0 rfl ?_
  refine sv_iconst (nI 0) dL_about_1 rfl ?_
  refine sv_aload_n dL_about_2 rfl ?_
  refine sv_iload_n dL_about_3 rfl ?_
  refine sv_invV (As := [_]) sc_L_21 hc rfl rfl (Nat.le_of_ble_eq_true rfl) dL_about_4 ⟨show d + 1 ≤ 8 by omega, show 8 + (mX5_about.2.2.1 + 11) + 30 * d ≤ 240 from (show 8 + (2 + 11) + 30 * d ≤ 240 by omega)⟩ ⟨Nat.zero_le _, Nat.zero_le _⟩ (Nat.le_of_ble_eq_true rfl) mw_0 (List.cons_ne_nil _ _) rfl (fun w1 h1 q => ?_) (fun E h1 q => by obtain ⟨q1, -⟩ := q; cases q1)
  obtain ⟨q1, v1, R1, rfl⟩ := q
  cases q1
  show sm_V G _ _ _ 0 0 7 _ [.int v, .int (nI 0), .ref o] _
  refine sv_i2l dL_about_7 ?_
  refine sv_lastore dL_about_8 ((mw_out hom).trans ho) (show ¬ (nI 0 < 0 ∨ 1 ≤ (nI 0).toNatClampNeg) by decide) ?_
  refine sv_goto 15 dL_about_9 (by decide) ?_
  refine sv_iconst (nI 0) dL_about_15 rfl ?_
  refine sv_iret dL_about_16 rfl rfl (Nat.le_of_ble_eq_true rfl) (Nat.le_of_ble_eq_true rfl) ?_
  exact ⟨rfl, v1, R1, _, mw_cm hom, fun _ => rfl⟩
theorem wL_about1 {p0 : Int32} (ho : h o = some (sm_aj G 1 O)) (hom : o < m ∨ m + 493 ≤ o) (hc : sm_C G mX5_about 6 1 6 [.ref m, .int p0] (mw G h m V R t) (mQ G h m (.inr "java/lang/IllegalArgumentException") V t)) (a : Int64) : sm_C G mL_about 8 1 6 [.ref m, .int p0, .ref o] (mw G h m V R t) (lQ G h m o 1 a V t) := by
  unfold sm_C
  show sm_V G _ _ _ 0 0 0 [(0, .ref m), (1, .int p0), (2, .ref o)] [] _
  refine sv_aload_n dL_about_0 rfl ?_
  refine sv_iconst (nI 0) dL_about_1 rfl ?_
  refine sv_aload_n dL_about_2 rfl ?_
  refine sv_iload_n dL_about_3 rfl ?_
  refine sv_invV (As := [_]) sc_L_21 hc rfl rfl (Nat.le_of_ble_eq_true rfl) dL_about_4 ⟨by decide, by decide⟩ ⟨Nat.le_of_ble_eq_true rfl, Nat.le_of_ble_eq_true rfl⟩ (Nat.le_of_ble_eq_true rfl) mw_0 (List.cons_ne_nil _ _) rfl (fun w1 h1 q => by obtain ⟨q1, -⟩ := q; cases q1) (fun E h1 q => ?_)
  obtain ⟨q1, R1, rfl⟩ := q
  cases q1
  refine sv_catch [] ⟨0, 9, 12, 13⟩ [] rfl (fun z hz => nomatch hz) (by decide) (by decide) (sm_tc ck_1_7_in 16 rfl rfl) (sm_mh ck_1_7_in 24 rfl rfl) (fun q => ?_)
  refine sv_astore_n dL_about_12 (by decide) rfl ?_
  refine sv_iconst (nI 1) dL_about_13 rfl ?_
  refine sv_iret dL_about_14 rfl rfl (Nat.le_of_ble_eq_true rfl) (Nat.le_of_ble_eq_true rfl) ?_
  exact ⟨rfl, V 1, R1, O, by rw [sm_up_id ho, va_id], fun z => absurd z (by decide)⟩
theorem wL_playerN {p0 : Int32} {p1 : Int32} (ho : h o = some (sm_aj G 1 O)) (hom : o < m ∨ m + 493 ≤ o) (hd : d ≤ 7) (hc : sm_C G mX5_player d 0 0 [.ref m, .int p0, .int p1] (mw G h m V R t) (mQ1 G h m (.inl (some (.int v))) V2 t2)) : sm_C G mL_player 8 1 6 [.ref m, .int p0, .int p1, .ref o] (mw G h m V R t) (lQ G h m o 0 v.toInt64 V2 t2) := by
  unfold sm_C
  show sm_V G _ _ _ 0 0 0 [(0, .ref m), (1, .int p0), (2, .int p1), (3, .ref o)] [] _
  refine sv_aload_n dL_player_0 rfl ?_
  refine sv_iconst (nI 0) dL_player_1 rfl ?_
  refine sv_aload_n dL_player_2 rfl ?_
  refine sv_iload_n dL_player_3 rfl ?_
  refine sv_iload_n dL_player_4 rfl ?_
  refine sv_invV (As := [_, _]) sc_L_24 hc rfl rfl (Nat.le_of_ble_eq_true rfl) dL_player_5 ⟨show d + 1 ≤ 8 by omega, show 8 + (mX5_player.2.2.1 + 11) + 30 * d ≤ 240 from (show 8 + (3 + 11) + 30 * d ≤ 240 by omega)⟩ ⟨Nat.zero_le _, Nat.zero_le _⟩ (Nat.le_of_ble_eq_true rfl) mw_0 (List.cons_ne_nil _ _) rfl (fun w1 h1 q => ?_) (fun E h1 q => by obtain ⟨q1, -⟩ := q; cases q1)
  obtain ⟨q1, v1, R1, rfl⟩ := q
  cases q1
  show sm_V G _ _ _ 0 0 8 _ [.int v, .int (nI 0), .ref o] _
  refine sv_i2l dL_player_8 ?_
  refine sv_lastore dL_player_9 ((mw_out hom).trans ho) (show ¬ (nI 0 < 0 ∨ 1 ≤ (nI 0).toNatClampNeg) by decide) ?_
  refine sv_goto 21 dL_player_10 (by decide) ?_
  refine sv_iconst (nI 0) dL_player_21 rfl ?_
  refine sv_iret dL_player_22 rfl rfl (Nat.le_of_ble_eq_true rfl) (Nat.le_of_ble_eq_true rfl) ?_
  exact ⟨rfl, v1, R1, _, mw_cm hom, fun _ => rfl⟩
theorem wL_player1 {p0 : Int32} {p1 : Int32} (ho : h o = some (sm_aj G 1 O)) (hom : o < m ∨ m + 493 ≤ o) (hc : sm_C G mX5_player 6 1 6 [.ref m, .int p0, .int p1] (mw G h m V R t) (mQ G h m (.inr "java/lang/IndexOutOfBoundsException") V t)) (a : Int64) : sm_C G mL_player 8 1 6 [.ref m, .int p0, .int p1, .ref o] (mw G h m V R t) (lQ G h m o 1 a V t) := by
  unfold sm_C
  show sm_V G _ _ _ 0 0 0 [(0, .ref m), (1, .int p0), (2, .int p1), (3, .ref o)] [] _
  refine sv_aload_n dL_player_0 rfl ?_
  refine sv_iconst (nI 0) dL_player_1 rfl ?_
  refine sv_aload_n dL_player_2 rfl ?_
  refine sv_iload_n dL_player_3 rfl ?_
  refine sv_iload_n dL_player_4 rfl ?_
  refine sv_invV (As := [_, _]) sc_L_24 hc rfl rfl (Nat.le_of_ble_eq_true rfl) dL_player_5 ⟨by decide, by decide⟩ ⟨Nat.le_of_ble_eq_true rfl, Nat.le_of_ble_eq_true rfl⟩ (Nat.le_of_ble_eq_true rfl) mw_0 (List.cons_ne_nil _ _) rfl (fun w1 h1 q => by obtain ⟨q1, -⟩ := q; cases q1) (fun E h1 q => ?_)
  obtain ⟨q1, R1, rfl⟩ := q
  cases q1
  refine sv_catch [] ⟨0, 10, 13, 28⟩ [⟨0, 10, 17, 13⟩] rfl (fun z hz => nomatch hz) (by decide) (by decide) (sm_tc ck_3_1_in 0 rfl rfl) (sm_mh ck_3_1_in 11 rfl rfl) (fun q => ?_)
  refine sv_astore dL_player_13 (by decide) rfl ?_
  refine sv_iconst (nI 1) dL_player_15 rfl ?_
  refine sv_iret dL_player_16 rfl rfl (Nat.le_of_ble_eq_true rfl) (Nat.le_of_ble_eq_true rfl) ?_
  exact ⟨rfl, V 1, R1, O, by rw [sm_up_id ho, va_id], fun z => absurd z (by decide)⟩
theorem wL_player2 {p0 : Int32} {p1 : Int32} (ho : h o = some (sm_aj G 1 O)) (hom : o < m ∨ m + 493 ≤ o) (hc : sm_C G mX5_player 6 1 6 [.ref m, .int p0, .int p1] (mw G h m V R t) (mQ G h m (.inr "java/lang/IllegalArgumentException") V t)) (a : Int64) : sm_C G mL_player 8 1 6 [.ref m, .int p0, .int p1, .ref o] (mw G h m V R t) (lQ G h m o 2 a V t) := by
  unfold sm_C
  show sm_V G _ _ _ 0 0 0 [(0, .ref m), (1, .int p0), (2, .int p1), (3, .ref o)] [] _
  refine sv_aload_n dL_player_0 rfl ?_
  refine sv_iconst (nI 0) dL_player_1 rfl ?_
  refine sv_aload_n dL_player_2 rfl ?_
  refine sv_iload_n dL_player_3 rfl ?_
  refine sv_iload_n dL_player_4 rfl ?_
  refine sv_invV (As := [_, _]) sc_L_24 hc rfl rfl (Nat.le_of_ble_eq_true rfl) dL_player_5 ⟨by decide, by decide⟩ ⟨Nat.le_of_ble_eq_true rfl, Nat.le_of_ble_eq_true rfl⟩ (Nat.le_of_ble_eq_true rfl) mw_0 (List.cons_ne_nil _ _) rfl (fun w1 h1 q => by obtain ⟨q1, -⟩ := q; cases q1) (fun E h1 q => ?_)
  obtain ⟨q1, R1, rfl⟩ := q
  cases q1
  refine sv_catch [⟨0, 10, 13, 28⟩] ⟨0, 10, 17, 13⟩ [] rfl (fun z hz => by rw [List.mem_singleton.mp hz]; exact .inr ⟨by decide, _, sm_tc ck_3_1_in 0 rfl rfl, by decide⟩) (by decide) (by decide) (sm_tc ck_1_7_in 16 rfl rfl) (sm_mh ck_1_7_in 24 rfl rfl) (fun q => ?_)
  refine sv_astore dL_player_17 (by decide) rfl ?_
  refine sv_iconst (nI 2) dL_player_19 rfl ?_
  refine sv_iret dL_player_20 rfl rfl (Nat.le_of_ble_eq_true rfl) (Nat.le_of_ble_eq_true rfl) ?_
  exact ⟨rfl, V 1, R1, O, by rw [sm_up_id ho, va_id], fun z => absurd z (by decide)⟩
theorem wL_workerN {p0 : Int32} {p1 : Int32} (ho : h o = some (sm_aj G 1 O)) (hom : o < m ∨ m + 493 ≤ o) (hd : d ≤ 7) (hc : sm_C G mX5_worker d 0 0 [.ref m, .int p0, .int p1] (mw G h m V R t) (mQ1 G h m (.inl (some (.int v))) V2 t2)) : sm_C G mL_worker 8 1 6 [.ref m, .int p0, .int p1, .ref o] (mw G h m V R t) (lQ G h m o 0 v.toInt64 V2 t2) := by
  unfold sm_C
  show sm_V G _ _ _ 0 0 0 [(0, .ref m), (1, .int p0), (2, .int p1), (3, .ref o)] [] _
  refine sv_aload_n dL_worker_0 rfl ?_
  refine sv_iconst (nI 0) dL_worker_1 rfl ?_
  refine sv_aload_n dL_worker_2 rfl ?_
  refine sv_iload_n dL_worker_3 rfl ?_
  refine sv_iload_n dL_worker_4 rfl ?_
  refine sv_invV (As := [_, _]) sc_L_30 hc rfl rfl (Nat.le_of_ble_eq_true rfl) dL_worker_5 ⟨show d + 1 ≤ 8 by omega, show 8 + (mX5_worker.2.2.1 + 11) + 30 * d ≤ 240 from (show 8 + (3 + 11) + 30 * d ≤ 240 by omega)⟩ ⟨Nat.zero_le _, Nat.zero_le _⟩ (Nat.le_of_ble_eq_true rfl) mw_0 (List.cons_ne_nil _ _) rfl (fun w1 h1 q => ?_) (fun E h1 q => by obtain ⟨q1, -⟩ := q; cases q1)
  obtain ⟨q1, v1, R1, rfl⟩ := q
  cases q1
  show sm_V G _ _ _ 0 0 8 _ [.int v, .int (nI 0), .ref o] _
  refine sv_i2l dL_worker_8 ?_
  refine sv_lastore dL_worker_9 ((mw_out hom).trans ho) (show ¬ (nI 0 < 0 ∨ 1 ≤ (nI 0).toNatClampNeg) by decide) ?_
  refine sv_goto 21 dL_worker_10 (by decide) ?_
  refine sv_iconst (nI 0) dL_worker_21 rfl ?_
  refine sv_iret dL_worker_22 rfl rfl (Nat.le_of_ble_eq_true rfl) (Nat.le_of_ble_eq_true rfl) ?_
  exact ⟨rfl, v1, R1, _, mw_cm hom, fun _ => rfl⟩
theorem wL_worker1 {p0 : Int32} {p1 : Int32} (ho : h o = some (sm_aj G 1 O)) (hom : o < m ∨ m + 493 ≤ o) (hc : sm_C G mX5_worker 6 1 6 [.ref m, .int p0, .int p1] (mw G h m V R t) (mQ G h m (.inr "java/lang/IndexOutOfBoundsException") V t)) (a : Int64) : sm_C G mL_worker 8 1 6 [.ref m, .int p0, .int p1, .ref o] (mw G h m V R t) (lQ G h m o 1 a V t) := by
  unfold sm_C
  show sm_V G _ _ _ 0 0 0 [(0, .ref m), (1, .int p0), (2, .int p1), (3, .ref o)] [] _
  refine sv_aload_n dL_worker_0 rfl ?_
  refine sv_iconst (nI 0) dL_worker_1 rfl ?_
  refine sv_aload_n dL_worker_2 rfl ?_
  refine sv_iload_n dL_worker_3 rfl ?_
  refine sv_iload_n dL_worker_4 rfl ?_
  refine sv_invV (As := [_, _]) sc_L_30 hc rfl rfl (Nat.le_of_ble_eq_true rfl) dL_worker_5 ⟨by decide, by decide⟩ ⟨Nat.le_of_ble_eq_true rfl, Nat.le_of_ble_eq_true rfl⟩ (Nat.le_of_ble_eq_true rfl) mw_0 (List.cons_ne_nil _ _) rfl (fun w1 h1 q => by obtain ⟨q1, -⟩ := q; cases q1) (fun E h1 q => ?_)
  obtain ⟨q1, R1, rfl⟩ := q
  cases q1
  refine sv_catch [] ⟨0, 10, 13, 28⟩ [⟨0, 10, 17, 13⟩] rfl (fun z hz => nomatch hz) (by decide) (by decide) (sm_tc ck_3_1_in 0 rfl rfl) (sm_mh ck_3_1_in 11 rfl rfl) (fun q => ?_)
  refine sv_astore dL_worker_13 (by decide) rfl ?_
  refine sv_iconst (nI 1) dL_worker_15 rfl ?_
  refine sv_iret dL_worker_16 rfl rfl (Nat.le_of_ble_eq_true rfl) (Nat.le_of_ble_eq_true rfl) ?_
  exact ⟨rfl, V 1, R1, O, by rw [sm_up_id ho, va_id], fun z => absurd z (by decide)⟩
theorem wL_worker2 {p0 : Int32} {p1 : Int32} (ho : h o = some (sm_aj G 1 O)) (hom : o < m ∨ m + 493 ≤ o) (hc : sm_C G mX5_worker 6 1 6 [.ref m, .int p0, .int p1] (mw G h m V R t) (mQ G h m (.inr "java/lang/IllegalArgumentException") V t)) (a : Int64) : sm_C G mL_worker 8 1 6 [.ref m, .int p0, .int p1, .ref o] (mw G h m V R t) (lQ G h m o 2 a V t) := by
  unfold sm_C
  show sm_V G _ _ _ 0 0 0 [(0, .ref m), (1, .int p0), (2, .int p1), (3, .ref o)] [] _
  refine sv_aload_n dL_worker_0 rfl ?_
  refine sv_iconst (nI 0) dL_worker_1 rfl ?_
  refine sv_aload_n dL_worker_2 rfl ?_
  refine sv_iload_n dL_worker_3 rfl ?_
  refine sv_iload_n dL_worker_4 rfl ?_
  refine sv_invV (As := [_, _]) sc_L_30 hc rfl rfl (Nat.le_of_ble_eq_true rfl) dL_worker_5 ⟨by decide, by decide⟩ ⟨Nat.le_of_ble_eq_true rfl, Nat.le_of_ble_eq_true rfl⟩ (Nat.le_of_ble_eq_true rfl) mw_0 (List.cons_ne_nil _ _) rfl (fun w1 h1 q => by obtain ⟨q1, -⟩ := q; cases q1) (fun E h1 q => ?_)
  obtain ⟨q1, R1, rfl⟩ := q
  cases q1
  refine sv_catch [⟨0, 10, 13, 28⟩] ⟨0, 10, 17, 13⟩ [] rfl (fun z hz => by rw [List.mem_singleton.mp hz]; exact .inr ⟨by decide, _, sm_tc ck_3_1_in 0 rfl rfl, by decide⟩) (by decide) (by decide) (sm_tc ck_1_7_in 16 rfl rfl) (sm_mh ck_1_7_in 24 rfl rfl) (fun q => ?_)
  refine sv_astore dL_worker_17 (by decide) rfl ?_
  refine sv_iconst (nI 2) dL_worker_19 rfl ?_
  refine sv_iret dL_worker_20 rfl rfl (Nat.le_of_ble_eq_true rfl) (Nat.le_of_ble_eq_true rfl) ?_
  exact ⟨rfl, V 1, R1, O, by rw [sm_up_id ho, va_id], fun z => absurd z (by decide)⟩
theorem wL_settingN {p0 : Int32} (ho : h o = some (sm_aj G 1 O)) (hom : o < m ∨ m + 493 ≤ o) (hd : d ≤ 7) (hc : sm_C G mX5_setting d 0 0 [.ref m, .int p0] (mw G h m V R t) (mQ1 G h m (.inl (some (.int v))) V2 t2)) : sm_C G mL_setting 8 1 6 [.ref m, .int p0, .ref o] (mw G h m V R t) (lQ G h m o 0 v.toInt64 V2 t2) := by
  unfold sm_C
  show sm_V G _ _ _ 0 0 0 [(0, .ref m), (1, .int p0), (2, .ref o)] [] _
  refine sv_aload_n dL_setting_0 rfl ?_
  refine sv_iconst (nI 0) dL_setting_1 rfl ?_
  refine sv_aload_n dL_setting_2 rfl ?_
  refine sv_iload_n dL_setting_3 rfl ?_
  refine sv_invV (As := [_]) sc_L_33 hc rfl rfl (Nat.le_of_ble_eq_true rfl) dL_setting_4 ⟨show d + 1 ≤ 8 by omega, show 8 + (mX5_setting.2.2.1 + 11) + 30 * d ≤ 240 from (show 8 + (2 + 11) + 30 * d ≤ 240 by omega)⟩ ⟨Nat.zero_le _, Nat.zero_le _⟩ (Nat.le_of_ble_eq_true rfl) mw_0 (List.cons_ne_nil _ _) rfl (fun w1 h1 q => ?_) (fun E h1 q => by obtain ⟨q1, -⟩ := q; cases q1)
  obtain ⟨q1, v1, R1, rfl⟩ := q
  cases q1
  show sm_V G _ _ _ 0 0 7 _ [.int v, .int (nI 0), .ref o] _
  refine sv_i2l dL_setting_7 ?_
  refine sv_lastore dL_setting_8 ((mw_out hom).trans ho) (show ¬ (nI 0 < 0 ∨ 1 ≤ (nI 0).toNatClampNeg) by decide) ?_
  refine sv_goto 15 dL_setting_9 (by decide) ?_
  refine sv_iconst (nI 0) dL_setting_15 rfl ?_
  refine sv_iret dL_setting_16 rfl rfl (Nat.le_of_ble_eq_true rfl) (Nat.le_of_ble_eq_true rfl) ?_
  exact ⟨rfl, v1, R1, _, mw_cm hom, fun _ => rfl⟩
theorem wL_setting1 {p0 : Int32} (ho : h o = some (sm_aj G 1 O)) (hom : o < m ∨ m + 493 ≤ o) (hc : sm_C G mX5_setting 6 1 6 [.ref m, .int p0] (mw G h m V R t) (mQ G h m (.inr "java/lang/IllegalArgumentException") V t)) (a : Int64) : sm_C G mL_setting 8 1 6 [.ref m, .int p0, .ref o] (mw G h m V R t) (lQ G h m o 1 a V t) := by
  unfold sm_C
  show sm_V G _ _ _ 0 0 0 [(0, .ref m), (1, .int p0), (2, .ref o)] [] _
  refine sv_aload_n dL_setting_0 rfl ?_
  refine sv_iconst (nI 0) dL_setting_1 rfl ?_
  refine sv_aload_n dL_setting_2 rfl ?_
  refine sv_iload_n dL_setting_3 rfl ?_
  refine sv_invV (As := [_]) sc_L_33 hc rfl rfl (Nat.le_of_ble_eq_true rfl) dL_setting_4 ⟨by decide, by decide⟩ ⟨Nat.le_of_ble_eq_true rfl, Nat.le_of_ble_eq_true rfl⟩ (Nat.le_of_ble_eq_true rfl) mw_0 (List.cons_ne_nil _ _) rfl (fun w1 h1 q => by obtain ⟨q1, -⟩ := q; cases q1) (fun E h1 q => ?_)
  obtain ⟨q1, R1, rfl⟩ := q
  cases q1
  refine sv_catch [] ⟨0, 9, 12, 13⟩ [] rfl (fun z hz => nomatch hz) (by decide) (by decide) (sm_tc ck_1_7_in 16 rfl rfl) (sm_mh ck_1_7_in 24 rfl rfl) (fun q => ?_)
  refine sv_astore_n dL_setting_12 (by decide) rfl ?_
  refine sv_iconst (nI 1) dL_setting_13 rfl ?_
  refine sv_iret dL_setting_14 rfl rfl (Nat.le_of_ble_eq_true rfl) (Nat.le_of_ble_eq_true rfl) ?_
  exact ⟨rfl, V 1, R1, O, by rw [sm_up_id ho, va_id], fun z => absurd z (by decide)⟩
theorem wL_beginN {p0 : Int32} {p1 : Int64} (ho : h o = some (sm_aj G 1 O)) (hom : o < m ∨ m + 493 ≤ o) (hd : d ≤ 7) (hc : sm_C G mX5_begin d 0 0 [.ref m, .int p0, .long p1] (mw G h m V R t) (mQ1 G h m (.inl (some (.int v))) V2 t2)) : sm_C G mL_begin 8 1 6 [.ref m, .int p0, .long p1, .ref o] (mw G h m V R t) (lQ G h m o 0 v.toInt64 V2 t2) := by
  unfold sm_C
  show sm_V G _ _ _ 0 0 0 [(0, .ref m), (1, .int p0), (2, .long p1), (4, .ref o)] [] _
  refine sv_aload dL_begin_0 rfl ?_
  refine sv_iconst (nI 0) dL_begin_2 rfl ?_
  refine sv_aload_n dL_begin_3 rfl ?_
  refine sv_iload_n dL_begin_4 rfl ?_
  refine sv_lload_n dL_begin_5 rfl ?_
  refine sv_invV (As := [_, _]) sc_L_36 hc rfl rfl (Nat.le_of_ble_eq_true rfl) dL_begin_6 ⟨show d + 1 ≤ 8 by omega, show 8 + (mX5_begin.2.2.1 + 11) + 30 * d ≤ 240 from (show 8 + (4 + 11) + 30 * d ≤ 240 by omega)⟩ ⟨Nat.zero_le _, Nat.zero_le _⟩ (Nat.le_of_ble_eq_true rfl) mw_0 (List.cons_ne_nil _ _) rfl (fun w1 h1 q => ?_) (fun E h1 q => by obtain ⟨q1, -⟩ := q; cases q1)
  obtain ⟨q1, v1, R1, rfl⟩ := q
  cases q1
  show sm_V G _ _ _ 0 0 9 _ [.int v, .int (nI 0), .ref o] _
  refine sv_i2l dL_begin_9 ?_
  refine sv_lastore dL_begin_10 ((mw_out hom).trans ho) (show ¬ (nI 0 < 0 ∨ 1 ≤ (nI 0).toNatClampNeg) by decide) ?_
  refine sv_goto 18 dL_begin_11 (by decide) ?_
  refine sv_iconst (nI 0) dL_begin_18 rfl ?_
  refine sv_iret dL_begin_19 rfl rfl (Nat.le_of_ble_eq_true rfl) (Nat.le_of_ble_eq_true rfl) ?_
  exact ⟨rfl, v1, R1, _, mw_cm hom, fun _ => rfl⟩
theorem wL_begin1 {p0 : Int32} {p1 : Int64} (ho : h o = some (sm_aj G 1 O)) (hom : o < m ∨ m + 493 ≤ o) (hc : sm_C G mX5_begin 6 1 6 [.ref m, .int p0, .long p1] (mw G h m V R t) (mQ G h m (.inr "java/lang/IllegalArgumentException") V t)) (a : Int64) : sm_C G mL_begin 8 1 6 [.ref m, .int p0, .long p1, .ref o] (mw G h m V R t) (lQ G h m o 1 a V t) := by
  unfold sm_C
  show sm_V G _ _ _ 0 0 0 [(0, .ref m), (1, .int p0), (2, .long p1), (4, .ref o)] [] _
  refine sv_aload dL_begin_0 rfl ?_
  refine sv_iconst (nI 0) dL_begin_2 rfl ?_
  refine sv_aload_n dL_begin_3 rfl ?_
  refine sv_iload_n dL_begin_4 rfl ?_
  refine sv_lload_n dL_begin_5 rfl ?_
  refine sv_invV (As := [_, _]) sc_L_36 hc rfl rfl (Nat.le_of_ble_eq_true rfl) dL_begin_6 ⟨by decide, by decide⟩ ⟨Nat.le_of_ble_eq_true rfl, Nat.le_of_ble_eq_true rfl⟩ (Nat.le_of_ble_eq_true rfl) mw_0 (List.cons_ne_nil _ _) rfl (fun w1 h1 q => by obtain ⟨q1, -⟩ := q; cases q1) (fun E h1 q => ?_)
  obtain ⟨q1, R1, rfl⟩ := q
  cases q1
  refine sv_catch [] ⟨0, 11, 14, 13⟩ [] rfl (fun z hz => nomatch hz) (by decide) (by decide) (sm_tc ck_1_7_in 16 rfl rfl) (sm_mh ck_1_7_in 24 rfl rfl) (fun q => ?_)
  refine sv_astore dL_begin_14 (by decide) rfl ?_
  refine sv_iconst (nI 1) dL_begin_16 rfl ?_
  refine sv_iret dL_begin_17 rfl rfl (Nat.le_of_ble_eq_true rfl) (Nat.le_of_ble_eq_true rfl) ?_
  exact ⟨rfl, V 1, R1, O, by rw [sm_up_id ho, va_id], fun z => absurd z (by decide)⟩
theorem wL_placeN {p0 : Int32} {p1 : Int32} (ho : h o = some (sm_aj G 1 O)) (hom : o < m ∨ m + 493 ≤ o) (hd : d ≤ 7) (hc : sm_C G mX5_place d 0 0 [.ref m, .int p0, .int p1] (mw G h m V R t) (mQ1 G h m (.inl (some (.int v))) V2 t2)) : sm_C G mL_place 8 1 6 [.ref m, .int p0, .int p1, .ref o] (mw G h m V R t) (lQ G h m o 0 v.toInt64 V2 t2) := by
  unfold sm_C
  show sm_V G _ _ _ 0 0 0 [(0, .ref m), (1, .int p0), (2, .int p1), (3, .ref o)] [] _
  refine sv_aload_n dL_place_0 rfl ?_
  refine sv_iconst (nI 0) dL_place_1 rfl ?_
  refine sv_aload_n dL_place_2 rfl ?_
  refine sv_iload_n dL_place_3 rfl ?_
  refine sv_iload_n dL_place_4 rfl ?_
  refine sv_invV (As := [_, _]) sc_L_40 hc rfl rfl (Nat.le_of_ble_eq_true rfl) dL_place_5 ⟨show d + 1 ≤ 8 by omega, show 8 + (mX5_place.2.2.1 + 11) + 30 * d ≤ 240 from (show 8 + (4 + 11) + 30 * d ≤ 240 by omega)⟩ ⟨Nat.zero_le _, Nat.zero_le _⟩ (Nat.le_of_ble_eq_true rfl) mw_0 (List.cons_ne_nil _ _) rfl (fun w1 h1 q => ?_) (fun E h1 q => by obtain ⟨q1, -⟩ := q; cases q1)
  obtain ⟨q1, v1, R1, rfl⟩ := q
  cases q1
  show sm_V G _ _ _ 0 0 8 _ [.int v, .int (nI 0), .ref o] _
  refine sv_i2l dL_place_8 ?_
  refine sv_lastore dL_place_9 ((mw_out hom).trans ho) (show ¬ (nI 0 < 0 ∨ 1 ≤ (nI 0).toNatClampNeg) by decide) ?_
  refine sv_goto 25 dL_place_10 (by decide) ?_
  refine sv_iconst (nI 0) dL_place_25 rfl ?_
  refine sv_iret dL_place_26 rfl rfl (Nat.le_of_ble_eq_true rfl) (Nat.le_of_ble_eq_true rfl) ?_
  exact ⟨rfl, v1, R1, _, mw_cm hom, fun _ => rfl⟩
theorem wL_place1 {p0 : Int32} {p1 : Int32} (ho : h o = some (sm_aj G 1 O)) (hom : o < m ∨ m + 493 ≤ o) (hc : sm_C G mX5_place 6 1 6 [.ref m, .int p0, .int p1] (mw G h m V R t) (mQ G h m (.inr "java/lang/IndexOutOfBoundsException") V t)) (a : Int64) : sm_C G mL_place 8 1 6 [.ref m, .int p0, .int p1, .ref o] (mw G h m V R t) (lQ G h m o 1 a V t) := by
  unfold sm_C
  show sm_V G _ _ _ 0 0 0 [(0, .ref m), (1, .int p0), (2, .int p1), (3, .ref o)] [] _
  refine sv_aload_n dL_place_0 rfl ?_
  refine sv_iconst (nI 0) dL_place_1 rfl ?_
  refine sv_aload_n dL_place_2 rfl ?_
  refine sv_iload_n dL_place_3 rfl ?_
  refine sv_iload_n dL_place_4 rfl ?_
  refine sv_invV (As := [_, _]) sc_L_40 hc rfl rfl (Nat.le_of_ble_eq_true rfl) dL_place_5 ⟨by decide, by decide⟩ ⟨Nat.le_of_ble_eq_true rfl, Nat.le_of_ble_eq_true rfl⟩ (Nat.le_of_ble_eq_true rfl) mw_0 (List.cons_ne_nil _ _) rfl (fun w1 h1 q => by obtain ⟨q1, -⟩ := q; cases q1) (fun E h1 q => ?_)
  obtain ⟨q1, R1, rfl⟩ := q
  cases q1
  refine sv_catch [] ⟨0, 10, 13, 28⟩ [⟨0, 10, 17, 13⟩, ⟨0, 10, 21, 15⟩] rfl (fun z hz => nomatch hz) (by decide) (by decide) (sm_tc ck_3_1_in 0 rfl rfl) (sm_mh ck_3_1_in 11 rfl rfl) (fun q => ?_)
  refine sv_astore dL_place_13 (by decide) rfl ?_
  refine sv_iconst (nI 1) dL_place_15 rfl ?_
  refine sv_iret dL_place_16 rfl rfl (Nat.le_of_ble_eq_true rfl) (Nat.le_of_ble_eq_true rfl) ?_
  exact ⟨rfl, V 1, R1, O, by rw [sm_up_id ho, va_id], fun z => absurd z (by decide)⟩
theorem wL_place2 {p0 : Int32} {p1 : Int32} (ho : h o = some (sm_aj G 1 O)) (hom : o < m ∨ m + 493 ≤ o) (hc : sm_C G mX5_place 6 1 6 [.ref m, .int p0, .int p1] (mw G h m V R t) (mQ G h m (.inr "java/lang/IllegalArgumentException") V t)) (a : Int64) : sm_C G mL_place 8 1 6 [.ref m, .int p0, .int p1, .ref o] (mw G h m V R t) (lQ G h m o 2 a V t) := by
  unfold sm_C
  show sm_V G _ _ _ 0 0 0 [(0, .ref m), (1, .int p0), (2, .int p1), (3, .ref o)] [] _
  refine sv_aload_n dL_place_0 rfl ?_
  refine sv_iconst (nI 0) dL_place_1 rfl ?_
  refine sv_aload_n dL_place_2 rfl ?_
  refine sv_iload_n dL_place_3 rfl ?_
  refine sv_iload_n dL_place_4 rfl ?_
  refine sv_invV (As := [_, _]) sc_L_40 hc rfl rfl (Nat.le_of_ble_eq_true rfl) dL_place_5 ⟨by decide, by decide⟩ ⟨Nat.le_of_ble_eq_true rfl, Nat.le_of_ble_eq_true rfl⟩ (Nat.le_of_ble_eq_true rfl) mw_0 (List.cons_ne_nil _ _) rfl (fun w1 h1 q => by obtain ⟨q1, -⟩ := q; cases q1) (fun E h1 q => ?_)
  obtain ⟨q1, R1, rfl⟩ := q
  cases q1
  refine sv_catch [⟨0, 10, 13, 28⟩] ⟨0, 10, 17, 13⟩ [⟨0, 10, 21, 15⟩] rfl (fun z hz => by rw [List.mem_singleton.mp hz]; exact .inr ⟨by decide, _, sm_tc ck_3_1_in 0 rfl rfl, by decide⟩) (by decide) (by decide) (sm_tc ck_1_7_in 16 rfl rfl) (sm_mh ck_1_7_in 24 rfl rfl) (fun q => ?_)
  refine sv_astore dL_place_17 (by decide) rfl ?_
  refine sv_iconst (nI 2) dL_place_19 rfl ?_
  refine sv_iret dL_place_20 rfl rfl (Nat.le_of_ble_eq_true rfl) (Nat.le_of_ble_eq_true rfl) ?_
  exact ⟨rfl, V 1, R1, O, by rw [sm_up_id ho, va_id], fun z => absurd z (by decide)⟩
theorem wL_place3 {p0 : Int32} {p1 : Int32} (ho : h o = some (sm_aj G 1 O)) (hom : o < m ∨ m + 493 ≤ o) (hc : sm_C G mX5_place 6 1 6 [.ref m, .int p0, .int p1] (mw G h m V R t) (mQ G h m (.inr "java/lang/IllegalStateException") V t)) (a : Int64) : sm_C G mL_place 8 1 6 [.ref m, .int p0, .int p1, .ref o] (mw G h m V R t) (lQ G h m o 3 a V t) := by
  unfold sm_C
  show sm_V G _ _ _ 0 0 0 [(0, .ref m), (1, .int p0), (2, .int p1), (3, .ref o)] [] _
  refine sv_aload_n dL_place_0 rfl ?_
  refine sv_iconst (nI 0) dL_place_1 rfl ?_
  refine sv_aload_n dL_place_2 rfl ?_
  refine sv_iload_n dL_place_3 rfl ?_
  refine sv_iload_n dL_place_4 rfl ?_
  refine sv_invV (As := [_, _]) sc_L_40 hc rfl rfl (Nat.le_of_ble_eq_true rfl) dL_place_5 ⟨by decide, by decide⟩ ⟨Nat.le_of_ble_eq_true rfl, Nat.le_of_ble_eq_true rfl⟩ (Nat.le_of_ble_eq_true rfl) mw_0 (List.cons_ne_nil _ _) rfl (fun w1 h1 q => by obtain ⟨q1, -⟩ := q; cases q1) (fun E h1 q => ?_)
  obtain ⟨q1, R1, rfl⟩ := q
  cases q1
  refine sv_catch [⟨0, 10, 13, 28⟩, ⟨0, 10, 17, 13⟩] ⟨0, 10, 21, 15⟩ [] rfl (fun z hz => by rcases List.mem_cons.mp hz with rfl | hz; exact .inr ⟨by decide, _, sm_tc ck_3_1_in 0 rfl rfl, by decide⟩; rw [List.mem_singleton.mp hz]; exact .inr ⟨by decide, _, sm_tc ck_1_7_in 16 rfl rfl, by decide⟩) (by decide) (by decide) (sm_tc ck_1_7_in 17 rfl rfl) (sm_mh ck_2_2_in 6 rfl rfl) (fun q => ?_)
  refine sv_astore dL_place_21 (by decide) rfl ?_
  refine sv_iconst (nI 3) dL_place_23 rfl ?_
  refine sv_iret dL_place_24 rfl rfl (Nat.le_of_ble_eq_true rfl) (Nat.le_of_ble_eq_true rfl) ?_
  exact ⟨rfl, V 1, R1, O, by rw [sm_up_id ho, va_id], fun z => absurd z (by decide)⟩
theorem wL_passN  (ho : h o = some (sm_aj G 1 O)) (hom : o < m ∨ m + 493 ≤ o) (hd : d ≤ 7) (hc : sm_C G mX5_pass d 0 0 [.ref m] (mw G h m V R t) (mQ1 G h m (.inl (some (.int v))) V2 t2)) : sm_C G mL_pass 8 1 6 [.ref m, .ref o] (mw G h m V R t) (lQ G h m o 0 v.toInt64 V2 t2) := by
  unfold sm_C
  show sm_V G _ _ _ 0 0 0 [(0, .ref m), (1, .ref o)] [] _
  refine sv_aload_n dL_pass_0 rfl ?_
  refine sv_iconst (nI 0) dL_pass_1 rfl ?_
  refine sv_aload_n dL_pass_2 rfl ?_
  refine sv_invV (As := []) sc_L_43 hc rfl rfl (Nat.le_of_ble_eq_true rfl) dL_pass_3 ⟨show d + 1 ≤ 8 by omega, show 8 + (mX5_pass.2.2.1 + 11) + 30 * d ≤ 240 from (show 8 + (1 + 11) + 30 * d ≤ 240 by omega)⟩ ⟨Nat.zero_le _, Nat.zero_le _⟩ (Nat.le_of_ble_eq_true rfl) mw_0 (List.cons_ne_nil _ _) rfl (fun w1 h1 q => ?_) (fun E h1 q => by obtain ⟨q1, -⟩ := q; cases q1)
  obtain ⟨q1, v1, R1, rfl⟩ := q
  cases q1
  show sm_V G _ _ _ 0 0 6 _ [.int v, .int (nI 0), .ref o] _
  refine sv_i2l dL_pass_6 ?_
  refine sv_lastore dL_pass_7 ((mw_out hom).trans ho) (show ¬ (nI 0 < 0 ∨ 1 ≤ (nI 0).toNatClampNeg) by decide) ?_
  refine sv_goto 14 dL_pass_8 (by decide) ?_
  refine sv_iconst (nI 0) dL_pass_14 rfl ?_
  refine sv_iret dL_pass_15 rfl rfl (Nat.le_of_ble_eq_true rfl) (Nat.le_of_ble_eq_true rfl) ?_
  exact ⟨rfl, v1, R1, _, mw_cm hom, fun _ => rfl⟩
theorem wL_pass1  (ho : h o = some (sm_aj G 1 O)) (hom : o < m ∨ m + 493 ≤ o) (hc : sm_C G mX5_pass 6 1 6 [.ref m] (mw G h m V R t) (mQ G h m (.inr "java/lang/IllegalStateException") V t)) (a : Int64) : sm_C G mL_pass 8 1 6 [.ref m, .ref o] (mw G h m V R t) (lQ G h m o 1 a V t) := by
  unfold sm_C
  show sm_V G _ _ _ 0 0 0 [(0, .ref m), (1, .ref o)] [] _
  refine sv_aload_n dL_pass_0 rfl ?_
  refine sv_iconst (nI 0) dL_pass_1 rfl ?_
  refine sv_aload_n dL_pass_2 rfl ?_
  refine sv_invV (As := []) sc_L_43 hc rfl rfl (Nat.le_of_ble_eq_true rfl) dL_pass_3 ⟨by decide, by decide⟩ ⟨Nat.le_of_ble_eq_true rfl, Nat.le_of_ble_eq_true rfl⟩ (Nat.le_of_ble_eq_true rfl) mw_0 (List.cons_ne_nil _ _) rfl (fun w1 h1 q => by obtain ⟨q1, -⟩ := q; cases q1) (fun E h1 q => ?_)
  obtain ⟨q1, R1, rfl⟩ := q
  cases q1
  refine sv_catch [] ⟨0, 8, 11, 15⟩ [] rfl (fun z hz => nomatch hz) (by decide) (by decide) (sm_tc ck_1_7_in 17 rfl rfl) (sm_mh ck_2_2_in 6 rfl rfl) (fun q => ?_)
  refine sv_astore_n dL_pass_11 (by decide) rfl ?_
  refine sv_iconst (nI 1) dL_pass_12 rfl ?_
  refine sv_iret dL_pass_13 rfl rfl (Nat.le_of_ble_eq_true rfl) (Nat.le_of_ble_eq_true rfl) ?_
  exact ⟨rfl, V 1, R1, O, by rw [sm_up_id ho, va_id], fun z => absurd z (by decide)⟩
theorem wL_playN  (ho : h o = some (sm_aj G 1 O)) (hom : o < m ∨ m + 493 ≤ o) (hd : d ≤ 7) (hc : sm_C G mX5_play d 0 0 [.ref m] (mw G h m V R t) (mQ1 G h m (.inl (some (.int v))) V2 t2)) : sm_C G mL_play 8 1 6 [.ref m, .ref o] (mw G h m V R t) (lQ G h m o 0 v.toInt64 V2 t2) := by
  unfold sm_C
  show sm_V G _ _ _ 0 0 0 [(0, .ref m), (1, .ref o)] [] _
  refine sv_aload_n dL_play_0 rfl ?_
  refine sv_iconst (nI 0) dL_play_1 rfl ?_
  refine sv_aload_n dL_play_2 rfl ?_
  refine sv_invV (As := []) sc_L_46 hc rfl rfl (Nat.le_of_ble_eq_true rfl) dL_play_3 ⟨show d + 1 ≤ 8 by omega, show 8 + (mX5_play.2.2.1 + 11) + 30 * d ≤ 240 from (show 8 + (1 + 11) + 30 * d ≤ 240 by omega)⟩ ⟨Nat.zero_le _, Nat.zero_le _⟩ (Nat.le_of_ble_eq_true rfl) mw_0 (List.cons_ne_nil _ _) rfl (fun w1 h1 q => ?_) (fun E h1 q => by obtain ⟨q1, -⟩ := q; cases q1)
  obtain ⟨q1, v1, R1, rfl⟩ := q
  cases q1
  show sm_V G _ _ _ 0 0 6 _ [.int v, .int (nI 0), .ref o] _
  refine sv_i2l dL_play_6 ?_
  refine sv_lastore dL_play_7 ((mw_out hom).trans ho) (show ¬ (nI 0 < 0 ∨ 1 ≤ (nI 0).toNatClampNeg) by decide) ?_
  refine sv_goto 14 dL_play_8 (by decide) ?_
  refine sv_iconst (nI 0) dL_play_14 rfl ?_
  refine sv_iret dL_play_15 rfl rfl (Nat.le_of_ble_eq_true rfl) (Nat.le_of_ble_eq_true rfl) ?_
  exact ⟨rfl, v1, R1, _, mw_cm hom, fun _ => rfl⟩
theorem wL_play1  (ho : h o = some (sm_aj G 1 O)) (hom : o < m ∨ m + 493 ≤ o) (hc : sm_C G mX5_play 6 1 6 [.ref m] (mw G h m V R t) (mQ G h m (.inr "java/lang/IllegalStateException") V t)) (a : Int64) : sm_C G mL_play 8 1 6 [.ref m, .ref o] (mw G h m V R t) (lQ G h m o 1 a V t) := by
  unfold sm_C
  show sm_V G _ _ _ 0 0 0 [(0, .ref m), (1, .ref o)] [] _
  refine sv_aload_n dL_play_0 rfl ?_
  refine sv_iconst (nI 0) dL_play_1 rfl ?_
  refine sv_aload_n dL_play_2 rfl ?_
  refine sv_invV (As := []) sc_L_46 hc rfl rfl (Nat.le_of_ble_eq_true rfl) dL_play_3 ⟨by decide, by decide⟩ ⟨Nat.le_of_ble_eq_true rfl, Nat.le_of_ble_eq_true rfl⟩ (Nat.le_of_ble_eq_true rfl) mw_0 (List.cons_ne_nil _ _) rfl (fun w1 h1 q => by obtain ⟨q1, -⟩ := q; cases q1) (fun E h1 q => ?_)
  obtain ⟨q1, R1, rfl⟩ := q
  cases q1
  refine sv_catch [] ⟨0, 8, 11, 15⟩ [] rfl (fun z hz => nomatch hz) (by decide) (by decide) (sm_tc ck_1_7_in 17 rfl rfl) (sm_mh ck_2_2_in 6 rfl rfl) (fun q => ?_)
  refine sv_astore_n dL_play_11 (by decide) rfl ?_
  refine sv_iconst (nI 1) dL_play_12 rfl ?_
  refine sv_iret dL_play_13 rfl rfl (Nat.le_of_ble_eq_true rfl) (Nat.le_of_ble_eq_true rfl) ?_
  exact ⟨rfl, V 1, R1, O, by rw [sm_up_id ho, va_id], fun z => absurd z (by decide)⟩
theorem wL_setN {p0 : Int32} {p1 : Int32} (ho : h o = some (sm_aj G 1 O)) (hom : o < m ∨ m + 493 ≤ o) (hd : d ≤ 7) (hc : sm_C G mX5_set d 0 0 [.ref m, .int p0, .int p1] (mw G h m V R t) (mQ1 G h m (.inl (some (.int v))) V2 t2)) : sm_C G mL_set 8 1 6 [.ref m, .int p0, .int p1, .ref o] (mw G h m V R t) (lQ G h m o 0 v.toInt64 V2 t2) := by
  unfold sm_C
  show sm_V G _ _ _ 0 0 0 [(0, .ref m), (1, .int p0), (2, .int p1), (3, .ref o)] [] _
  refine sv_aload_n dL_set_0 rfl ?_
  refine sv_iconst (nI 0) dL_set_1 rfl ?_
  refine sv_aload_n dL_set_2 rfl ?_
  refine sv_iload_n dL_set_3 rfl ?_
  refine sv_iload_n dL_set_4 rfl ?_
  refine sv_invV (As := [_, _]) sc_L_49 hc rfl rfl (Nat.le_of_ble_eq_true rfl) dL_set_5 ⟨show d + 1 ≤ 8 by omega, show 8 + (mX5_set.2.2.1 + 11) + 30 * d ≤ 240 from (show 8 + (4 + 11) + 30 * d ≤ 240 by omega)⟩ ⟨Nat.zero_le _, Nat.zero_le _⟩ (Nat.le_of_ble_eq_true rfl) mw_0 (List.cons_ne_nil _ _) rfl (fun w1 h1 q => ?_) (fun E h1 q => by obtain ⟨q1, -⟩ := q; cases q1)
  obtain ⟨q1, v1, R1, rfl⟩ := q
  cases q1
  show sm_V G _ _ _ 0 0 8 _ [.int v, .int (nI 0), .ref o] _
  refine sv_i2l dL_set_8 ?_
  refine sv_lastore dL_set_9 ((mw_out hom).trans ho) (show ¬ (nI 0 < 0 ∨ 1 ≤ (nI 0).toNatClampNeg) by decide) ?_
  refine sv_goto 17 dL_set_10 (by decide) ?_
  refine sv_iconst (nI 0) dL_set_17 rfl ?_
  refine sv_iret dL_set_18 rfl rfl (Nat.le_of_ble_eq_true rfl) (Nat.le_of_ble_eq_true rfl) ?_
  exact ⟨rfl, v1, R1, _, mw_cm hom, fun _ => rfl⟩
theorem wL_set1 {p0 : Int32} {p1 : Int32} (ho : h o = some (sm_aj G 1 O)) (hom : o < m ∨ m + 493 ≤ o) (hc : sm_C G mX5_set 6 1 6 [.ref m, .int p0, .int p1] (mw G h m V R t) (mQ G h m (.inr "java/lang/IllegalArgumentException") V t)) (a : Int64) : sm_C G mL_set 8 1 6 [.ref m, .int p0, .int p1, .ref o] (mw G h m V R t) (lQ G h m o 1 a V t) := by
  unfold sm_C
  show sm_V G _ _ _ 0 0 0 [(0, .ref m), (1, .int p0), (2, .int p1), (3, .ref o)] [] _
  refine sv_aload_n dL_set_0 rfl ?_
  refine sv_iconst (nI 0) dL_set_1 rfl ?_
  refine sv_aload_n dL_set_2 rfl ?_
  refine sv_iload_n dL_set_3 rfl ?_
  refine sv_iload_n dL_set_4 rfl ?_
  refine sv_invV (As := [_, _]) sc_L_49 hc rfl rfl (Nat.le_of_ble_eq_true rfl) dL_set_5 ⟨by decide, by decide⟩ ⟨Nat.le_of_ble_eq_true rfl, Nat.le_of_ble_eq_true rfl⟩ (Nat.le_of_ble_eq_true rfl) mw_0 (List.cons_ne_nil _ _) rfl (fun w1 h1 q => by obtain ⟨q1, -⟩ := q; cases q1) (fun E h1 q => ?_)
  obtain ⟨q1, R1, rfl⟩ := q
  cases q1
  refine sv_catch [] ⟨0, 10, 13, 13⟩ [] rfl (fun z hz => nomatch hz) (by decide) (by decide) (sm_tc ck_1_7_in 16 rfl rfl) (sm_mh ck_1_7_in 24 rfl rfl) (fun q => ?_)
  refine sv_astore dL_set_13 (by decide) rfl ?_
  refine sv_iconst (nI 1) dL_set_15 rfl ?_
  refine sv_iret dL_set_16 rfl rfl (Nat.le_of_ble_eq_true rfl) (Nat.le_of_ble_eq_true rfl) ?_
  exact ⟨rfl, V 1, R1, O, by rw [sm_up_id ho, va_id], fun z => absurd z (by decide)⟩
theorem wL_undoN  (ho : h o = some (sm_aj G 1 O)) (hom : o < m ∨ m + 493 ≤ o) (hd : d ≤ 7) (hc : sm_C G mX5_undo d 0 0 [.ref m] (mw G h m V R t) (mQ1 G h m (.inl (some (.int v))) V2 t2)) : sm_C G mL_undo 8 1 6 [.ref m, .ref o] (mw G h m V R t) (lQ G h m o 0 v.toInt64 V2 t2) := by
  unfold sm_C
  show sm_V G _ _ _ 0 0 0 [(0, .ref m), (1, .ref o)] [] _
  refine sv_aload_n dL_undo_0 rfl ?_
  refine sv_iconst (nI 0) dL_undo_1 rfl ?_
  refine sv_aload_n dL_undo_2 rfl ?_
  refine sv_invV (As := []) sc_L_52 hc rfl rfl (Nat.le_of_ble_eq_true rfl) dL_undo_3 ⟨show d + 1 ≤ 8 by omega, show 8 + (mX5_undo.2.2.1 + 11) + 30 * d ≤ 240 from (show 8 + (1 + 11) + 30 * d ≤ 240 by omega)⟩ ⟨Nat.zero_le _, Nat.zero_le _⟩ (Nat.le_of_ble_eq_true rfl) mw_0 (List.cons_ne_nil _ _) rfl (fun w1 h1 q => ?_) (fun E h1 q => by obtain ⟨q1, -⟩ := q; cases q1)
  obtain ⟨q1, v1, R1, rfl⟩ := q
  cases q1
  show sm_V G _ _ _ 0 0 6 _ [.int v, .int (nI 0), .ref o] _
  refine sv_i2l dL_undo_6 ?_
  refine sv_lastore dL_undo_7 ((mw_out hom).trans ho) (show ¬ (nI 0 < 0 ∨ 1 ≤ (nI 0).toNatClampNeg) by decide) ?_
  refine sv_goto 14 dL_undo_8 (by decide) ?_
  refine sv_iconst (nI 0) dL_undo_14 rfl ?_
  refine sv_iret dL_undo_15 rfl rfl (Nat.le_of_ble_eq_true rfl) (Nat.le_of_ble_eq_true rfl) ?_
  exact ⟨rfl, v1, R1, _, mw_cm hom, fun _ => rfl⟩
theorem wL_undo1  (ho : h o = some (sm_aj G 1 O)) (hom : o < m ∨ m + 493 ≤ o) (hc : sm_C G mX5_undo 6 1 6 [.ref m] (mw G h m V R t) (mQ G h m (.inr "java/lang/IllegalStateException") V t)) (a : Int64) : sm_C G mL_undo 8 1 6 [.ref m, .ref o] (mw G h m V R t) (lQ G h m o 1 a V t) := by
  unfold sm_C
  show sm_V G _ _ _ 0 0 0 [(0, .ref m), (1, .ref o)] [] _
  refine sv_aload_n dL_undo_0 rfl ?_
  refine sv_iconst (nI 0) dL_undo_1 rfl ?_
  refine sv_aload_n dL_undo_2 rfl ?_
  refine sv_invV (As := []) sc_L_52 hc rfl rfl (Nat.le_of_ble_eq_true rfl) dL_undo_3 ⟨by decide, by decide⟩ ⟨Nat.le_of_ble_eq_true rfl, Nat.le_of_ble_eq_true rfl⟩ (Nat.le_of_ble_eq_true rfl) mw_0 (List.cons_ne_nil _ _) rfl (fun w1 h1 q => by obtain ⟨q1, -⟩ := q; cases q1) (fun E h1 q => ?_)
  obtain ⟨q1, R1, rfl⟩ := q
  cases q1
  refine sv_catch [] ⟨0, 8, 11, 15⟩ [] rfl (fun z hz => nomatch hz) (by decide) (by decide) (sm_tc ck_1_7_in 17 rfl rfl) (sm_mh ck_2_2_in 6 rfl rfl) (fun q => ?_)
  refine sv_astore_n dL_undo_11 (by decide) rfl ?_
  refine sv_iconst (nI 1) dL_undo_12 rfl ?_
  refine sv_iret dL_undo_13 rfl rfl (Nat.le_of_ble_eq_true rfl) (Nat.le_of_ble_eq_true rfl) ?_
  exact ⟨rfl, V 1, R1, O, by rw [sm_up_id ho, va_id], fun z => absurd z (by decide)⟩
theorem wL_bringsN {p0 : Int32} {p1 : Int32} (ho : h o = some (sm_aj G 1 O)) (hom : o < m ∨ m + 493 ≤ o) (hd : d ≤ 7) (hc : sm_C G mX5_brings d 0 0 [.ref m, .int p0, .int p1] (mw G h m V R t) (mQ1 G h m (.inl (some (.int v))) V2 t2)) : sm_C G mL_brings 8 1 6 [.ref m, .int p0, .int p1, .ref o] (mw G h m V R t) (lQ G h m o 0 v.toInt64 V2 t2) := by
  unfold sm_C
  show sm_V G _ _ _ 0 0 0 [(0, .ref m), (1, .int p0), (2, .int p1), (3, .ref o)] [] _
  refine sv_aload_n dL_brings_0 rfl ?_
  refine sv_iconst (nI 0) dL_brings_1 rfl ?_
  refine sv_aload_n dL_brings_2 rfl ?_
  refine sv_iload_n dL_brings_3 rfl ?_
  refine sv_iload_n dL_brings_4 rfl ?_
  refine sv_invV (As := [_, _]) sc_L_55 hc rfl rfl (Nat.le_of_ble_eq_true rfl) dL_brings_5 ⟨show d + 1 ≤ 8 by omega, show 8 + (mX5_brings.2.2.1 + 11) + 30 * d ≤ 240 from (show 8 + (3 + 11) + 30 * d ≤ 240 by omega)⟩ ⟨Nat.zero_le _, Nat.zero_le _⟩ (Nat.le_of_ble_eq_true rfl) mw_0 (List.cons_ne_nil _ _) rfl (fun w1 h1 q => ?_) (fun E h1 q => by obtain ⟨q1, -⟩ := q; cases q1)
  obtain ⟨q1, v1, R1, rfl⟩ := q
  cases q1
  show sm_V G _ _ _ 0 0 8 _ [.int v, .int (nI 0), .ref o] _
  refine sv_i2l dL_brings_8 ?_
  refine sv_lastore dL_brings_9 ((mw_out hom).trans ho) (show ¬ (nI 0 < 0 ∨ 1 ≤ (nI 0).toNatClampNeg) by decide) ?_
  refine sv_goto 21 dL_brings_10 (by decide) ?_
  refine sv_iconst (nI 0) dL_brings_21 rfl ?_
  refine sv_iret dL_brings_22 rfl rfl (Nat.le_of_ble_eq_true rfl) (Nat.le_of_ble_eq_true rfl) ?_
  exact ⟨rfl, v1, R1, _, mw_cm hom, fun _ => rfl⟩
theorem wL_brings1 {p0 : Int32} {p1 : Int32} (ho : h o = some (sm_aj G 1 O)) (hom : o < m ∨ m + 493 ≤ o) (hc : sm_C G mX5_brings 6 1 6 [.ref m, .int p0, .int p1] (mw G h m V R t) (mQ G h m (.inr "java/lang/IndexOutOfBoundsException") V t)) (a : Int64) : sm_C G mL_brings 8 1 6 [.ref m, .int p0, .int p1, .ref o] (mw G h m V R t) (lQ G h m o 1 a V t) := by
  unfold sm_C
  show sm_V G _ _ _ 0 0 0 [(0, .ref m), (1, .int p0), (2, .int p1), (3, .ref o)] [] _
  refine sv_aload_n dL_brings_0 rfl ?_
  refine sv_iconst (nI 0) dL_brings_1 rfl ?_
  refine sv_aload_n dL_brings_2 rfl ?_
  refine sv_iload_n dL_brings_3 rfl ?_
  refine sv_iload_n dL_brings_4 rfl ?_
  refine sv_invV (As := [_, _]) sc_L_55 hc rfl rfl (Nat.le_of_ble_eq_true rfl) dL_brings_5 ⟨by decide, by decide⟩ ⟨Nat.le_of_ble_eq_true rfl, Nat.le_of_ble_eq_true rfl⟩ (Nat.le_of_ble_eq_true rfl) mw_0 (List.cons_ne_nil _ _) rfl (fun w1 h1 q => by obtain ⟨q1, -⟩ := q; cases q1) (fun E h1 q => ?_)
  obtain ⟨q1, R1, rfl⟩ := q
  cases q1
  refine sv_catch [] ⟨0, 10, 13, 28⟩ [⟨0, 10, 17, 13⟩] rfl (fun z hz => nomatch hz) (by decide) (by decide) (sm_tc ck_3_1_in 0 rfl rfl) (sm_mh ck_3_1_in 11 rfl rfl) (fun q => ?_)
  refine sv_astore dL_brings_13 (by decide) rfl ?_
  refine sv_iconst (nI 1) dL_brings_15 rfl ?_
  refine sv_iret dL_brings_16 rfl rfl (Nat.le_of_ble_eq_true rfl) (Nat.le_of_ble_eq_true rfl) ?_
  exact ⟨rfl, V 1, R1, O, by rw [sm_up_id ho, va_id], fun z => absurd z (by decide)⟩
theorem wL_brings2 {p0 : Int32} {p1 : Int32} (ho : h o = some (sm_aj G 1 O)) (hom : o < m ∨ m + 493 ≤ o) (hc : sm_C G mX5_brings 6 1 6 [.ref m, .int p0, .int p1] (mw G h m V R t) (mQ G h m (.inr "java/lang/IllegalArgumentException") V t)) (a : Int64) : sm_C G mL_brings 8 1 6 [.ref m, .int p0, .int p1, .ref o] (mw G h m V R t) (lQ G h m o 2 a V t) := by
  unfold sm_C
  show sm_V G _ _ _ 0 0 0 [(0, .ref m), (1, .int p0), (2, .int p1), (3, .ref o)] [] _
  refine sv_aload_n dL_brings_0 rfl ?_
  refine sv_iconst (nI 0) dL_brings_1 rfl ?_
  refine sv_aload_n dL_brings_2 rfl ?_
  refine sv_iload_n dL_brings_3 rfl ?_
  refine sv_iload_n dL_brings_4 rfl ?_
  refine sv_invV (As := [_, _]) sc_L_55 hc rfl rfl (Nat.le_of_ble_eq_true rfl) dL_brings_5 ⟨by decide, by decide⟩ ⟨Nat.le_of_ble_eq_true rfl, Nat.le_of_ble_eq_true rfl⟩ (Nat.le_of_ble_eq_true rfl) mw_0 (List.cons_ne_nil _ _) rfl (fun w1 h1 q => by obtain ⟨q1, -⟩ := q; cases q1) (fun E h1 q => ?_)
  obtain ⟨q1, R1, rfl⟩ := q
  cases q1
  refine sv_catch [⟨0, 10, 13, 28⟩] ⟨0, 10, 17, 13⟩ [] rfl (fun z hz => by rw [List.mem_singleton.mp hz]; exact .inr ⟨by decide, _, sm_tc ck_3_1_in 0 rfl rfl, by decide⟩) (by decide) (by decide) (sm_tc ck_1_7_in 16 rfl rfl) (sm_mh ck_1_7_in 24 rfl rfl) (fun q => ?_)
  refine sv_astore dL_brings_17 (by decide) rfl ?_
  refine sv_iconst (nI 2) dL_brings_19 rfl ?_
  refine sv_iret dL_brings_20 rfl rfl (Nat.le_of_ble_eq_true rfl) (Nat.le_of_ble_eq_true rfl) ?_
  exact ⟨rfl, V 1, R1, O, by rw [sm_up_id ho, va_id], fun z => absurd z (by decide)⟩
theorem wL_bumpsN {p0 : Int32} (ho : h o = some (sm_aj G 1 O)) (hom : o < m ∨ m + 493 ≤ o) (hd : d ≤ 7) (hc : sm_C G mX5_bumps d 0 0 [.ref m, .int p0] (mw G h m V R t) (mQ1 G h m (.inl (some (.int v))) V2 t2)) : sm_C G mL_bumps 8 1 6 [.ref m, .int p0, .ref o] (mw G h m V R t) (lQ G h m o 0 v.toInt64 V2 t2) := by
  unfold sm_C
  show sm_V G _ _ _ 0 0 0 [(0, .ref m), (1, .int p0), (2, .ref o)] [] _
  refine sv_aload_n dL_bumps_0 rfl ?_
  refine sv_iconst (nI 0) dL_bumps_1 rfl ?_
  refine sv_aload_n dL_bumps_2 rfl ?_
  refine sv_iload_n dL_bumps_3 rfl ?_
  refine sv_invV (As := [_]) sc_L_58 hc rfl rfl (Nat.le_of_ble_eq_true rfl) dL_bumps_4 ⟨show d + 1 ≤ 8 by omega, show 8 + (mX5_bumps.2.2.1 + 11) + 30 * d ≤ 240 from (show 8 + (2 + 11) + 30 * d ≤ 240 by omega)⟩ ⟨Nat.zero_le _, Nat.zero_le _⟩ (Nat.le_of_ble_eq_true rfl) mw_0 (List.cons_ne_nil _ _) rfl (fun w1 h1 q => ?_) (fun E h1 q => by obtain ⟨q1, -⟩ := q; cases q1)
  obtain ⟨q1, v1, R1, rfl⟩ := q
  cases q1
  show sm_V G _ _ _ 0 0 7 _ [.int v, .int (nI 0), .ref o] _
  refine sv_i2l dL_bumps_7 ?_
  refine sv_lastore dL_bumps_8 ((mw_out hom).trans ho) (show ¬ (nI 0 < 0 ∨ 1 ≤ (nI 0).toNatClampNeg) by decide) ?_
  refine sv_goto 15 dL_bumps_9 (by decide) ?_
  refine sv_iconst (nI 0) dL_bumps_15 rfl ?_
  refine sv_iret dL_bumps_16 rfl rfl (Nat.le_of_ble_eq_true rfl) (Nat.le_of_ble_eq_true rfl) ?_
  exact ⟨rfl, v1, R1, _, mw_cm hom, fun _ => rfl⟩
theorem wL_bumps1 {p0 : Int32} (ho : h o = some (sm_aj G 1 O)) (hom : o < m ∨ m + 493 ≤ o) (hc : sm_C G mX5_bumps 6 1 6 [.ref m, .int p0] (mw G h m V R t) (mQ G h m (.inr "java/lang/IndexOutOfBoundsException") V t)) (a : Int64) : sm_C G mL_bumps 8 1 6 [.ref m, .int p0, .ref o] (mw G h m V R t) (lQ G h m o 1 a V t) := by
  unfold sm_C
  show sm_V G _ _ _ 0 0 0 [(0, .ref m), (1, .int p0), (2, .ref o)] [] _
  refine sv_aload_n dL_bumps_0 rfl ?_
  refine sv_iconst (nI 0) dL_bumps_1 rfl ?_
  refine sv_aload_n dL_bumps_2 rfl ?_
  refine sv_iload_n dL_bumps_3 rfl ?_
  refine sv_invV (As := [_]) sc_L_58 hc rfl rfl (Nat.le_of_ble_eq_true rfl) dL_bumps_4 ⟨by decide, by decide⟩ ⟨Nat.le_of_ble_eq_true rfl, Nat.le_of_ble_eq_true rfl⟩ (Nat.le_of_ble_eq_true rfl) mw_0 (List.cons_ne_nil _ _) rfl (fun w1 h1 q => by obtain ⟨q1, -⟩ := q; cases q1) (fun E h1 q => ?_)
  obtain ⟨q1, R1, rfl⟩ := q
  cases q1
  refine sv_catch [] ⟨0, 9, 12, 28⟩ [] rfl (fun z hz => nomatch hz) (by decide) (by decide) (sm_tc ck_3_1_in 0 rfl rfl) (sm_mh ck_3_1_in 11 rfl rfl) (fun q => ?_)
  refine sv_astore_n dL_bumps_12 (by decide) rfl ?_
  refine sv_iconst (nI 1) dL_bumps_13 rfl ?_
  refine sv_iret dL_bumps_14 rfl rfl (Nat.le_of_ble_eq_true rfl) (Nat.le_of_ble_eq_true rfl) ?_
  exact ⟨rfl, V 1, R1, O, by rw [sm_up_id ho, va_id], fun z => absurd z (by decide)⟩
theorem wL_bestN {p0 : Int32} (ho : h o = some (sm_aj G 1 O)) (hom : o < m ∨ m + 493 ≤ o) (hd : d ≤ 7) (hc : sm_C G mX5_best d 0 0 [.ref m, .int p0] (mw G h m V R t) (mQ1 G h m (.inl (some (.int v))) V2 t2)) : sm_C G mL_best 8 1 6 [.ref m, .int p0, .ref o] (mw G h m V R t) (lQ G h m o 0 v.toInt64 V2 t2) := by
  unfold sm_C
  show sm_V G _ _ _ 0 0 0 [(0, .ref m), (1, .int p0), (2, .ref o)] [] _
  refine sv_aload_n dL_best_0 rfl ?_
  refine sv_iconst (nI 0) dL_best_1 rfl ?_
  refine sv_aload_n dL_best_2 rfl ?_
  refine sv_iload_n dL_best_3 rfl ?_
  refine sv_invV (As := [_]) sc_L_61 hc rfl rfl (Nat.le_of_ble_eq_true rfl) dL_best_4 ⟨show d + 1 ≤ 8 by omega, show 8 + (mX5_best.2.2.1 + 11) + 30 * d ≤ 240 from (show 8 + (2 + 11) + 30 * d ≤ 240 by omega)⟩ ⟨Nat.zero_le _, Nat.zero_le _⟩ (Nat.le_of_ble_eq_true rfl) mw_0 (List.cons_ne_nil _ _) rfl (fun w1 h1 q => ?_) (fun E h1 q => by obtain ⟨q1, -⟩ := q; cases q1)
  obtain ⟨q1, v1, R1, rfl⟩ := q
  cases q1
  show sm_V G _ _ _ 0 0 7 _ [.int v, .int (nI 0), .ref o] _
  refine sv_i2l dL_best_7 ?_
  refine sv_lastore dL_best_8 ((mw_out hom).trans ho) (show ¬ (nI 0 < 0 ∨ 1 ≤ (nI 0).toNatClampNeg) by decide) ?_
  refine sv_goto 15 dL_best_9 (by decide) ?_
  refine sv_iconst (nI 0) dL_best_15 rfl ?_
  refine sv_iret dL_best_16 rfl rfl (Nat.le_of_ble_eq_true rfl) (Nat.le_of_ble_eq_true rfl) ?_
  exact ⟨rfl, v1, R1, _, mw_cm hom, fun _ => rfl⟩
theorem wL_best1 {p0 : Int32} (ho : h o = some (sm_aj G 1 O)) (hom : o < m ∨ m + 493 ≤ o) (hc : sm_C G mX5_best 6 1 6 [.ref m, .int p0] (mw G h m V R t) (mQ G h m (.inr "java/lang/IllegalArgumentException") V t)) (a : Int64) : sm_C G mL_best 8 1 6 [.ref m, .int p0, .ref o] (mw G h m V R t) (lQ G h m o 1 a V t) := by
  unfold sm_C
  show sm_V G _ _ _ 0 0 0 [(0, .ref m), (1, .int p0), (2, .ref o)] [] _
  refine sv_aload_n dL_best_0 rfl ?_
  refine sv_iconst (nI 0) dL_best_1 rfl ?_
  refine sv_aload_n dL_best_2 rfl ?_
  refine sv_iload_n dL_best_3 rfl ?_
  refine sv_invV (As := [_]) sc_L_61 hc rfl rfl (Nat.le_of_ble_eq_true rfl) dL_best_4 ⟨by decide, by decide⟩ ⟨Nat.le_of_ble_eq_true rfl, Nat.le_of_ble_eq_true rfl⟩ (Nat.le_of_ble_eq_true rfl) mw_0 (List.cons_ne_nil _ _) rfl (fun w1 h1 q => by obtain ⟨q1, -⟩ := q; cases q1) (fun E h1 q => ?_)
  obtain ⟨q1, R1, rfl⟩ := q
  cases q1
  refine sv_catch [] ⟨0, 9, 12, 13⟩ [] rfl (fun z hz => nomatch hz) (by decide) (by decide) (sm_tc ck_1_7_in 16 rfl rfl) (sm_mh ck_1_7_in 24 rfl rfl) (fun q => ?_)
  refine sv_astore_n dL_best_12 (by decide) rfl ?_
  refine sv_iconst (nI 1) dL_best_13 rfl ?_
  refine sv_iret dL_best_14 rfl rfl (Nat.le_of_ble_eq_true rfl) (Nat.le_of_ble_eq_true rfl) ?_
  exact ⟨rfl, V 1, R1, O, by rw [sm_up_id ho, va_id], fun z => absurd z (by decide)⟩
theorem wL_losesN {p0 : Int32} {p1 : Int32} (ho : h o = some (sm_aj G 1 O)) (hom : o < m ∨ m + 493 ≤ o) (hd : d ≤ 7) (hc : sm_C G mX5_loses d 0 0 [.ref m, .int p0, .int p1] (mw G h m V R t) (mQ1 G h m (.inl (some (.int v))) V2 t2)) : sm_C G mL_loses 8 1 6 [.ref m, .int p0, .int p1, .ref o] (mw G h m V R t) (lQ G h m o 0 v.toInt64 V2 t2) := by
  unfold sm_C
  show sm_V G _ _ _ 0 0 0 [(0, .ref m), (1, .int p0), (2, .int p1), (3, .ref o)] [] _
  refine sv_aload_n dL_loses_0 rfl ?_
  refine sv_iconst (nI 0) dL_loses_1 rfl ?_
  refine sv_aload_n dL_loses_2 rfl ?_
  refine sv_iload_n dL_loses_3 rfl ?_
  refine sv_iload_n dL_loses_4 rfl ?_
  refine sv_invV (As := [_, _]) sc_L_64 hc rfl rfl (Nat.le_of_ble_eq_true rfl) dL_loses_5 ⟨show d + 1 ≤ 8 by omega, show 8 + (mX5_loses.2.2.1 + 11) + 30 * d ≤ 240 from (show 8 + (3 + 11) + 30 * d ≤ 240 by omega)⟩ ⟨Nat.zero_le _, Nat.zero_le _⟩ (Nat.le_of_ble_eq_true rfl) mw_0 (List.cons_ne_nil _ _) rfl (fun w1 h1 q => ?_) (fun E h1 q => by obtain ⟨q1, -⟩ := q; cases q1)
  obtain ⟨q1, v1, R1, rfl⟩ := q
  cases q1
  show sm_V G _ _ _ 0 0 8 _ [.int v, .int (nI 0), .ref o] _
  refine sv_i2l dL_loses_8 ?_
  refine sv_lastore dL_loses_9 ((mw_out hom).trans ho) (show ¬ (nI 0 < 0 ∨ 1 ≤ (nI 0).toNatClampNeg) by decide) ?_
  refine sv_goto 21 dL_loses_10 (by decide) ?_
  refine sv_iconst (nI 0) dL_loses_21 rfl ?_
  refine sv_iret dL_loses_22 rfl rfl (Nat.le_of_ble_eq_true rfl) (Nat.le_of_ble_eq_true rfl) ?_
  exact ⟨rfl, v1, R1, _, mw_cm hom, fun _ => rfl⟩
theorem wL_loses1 {p0 : Int32} {p1 : Int32} (ho : h o = some (sm_aj G 1 O)) (hom : o < m ∨ m + 493 ≤ o) (hc : sm_C G mX5_loses 6 1 6 [.ref m, .int p0, .int p1] (mw G h m V R t) (mQ G h m (.inr "java/lang/IndexOutOfBoundsException") V t)) (a : Int64) : sm_C G mL_loses 8 1 6 [.ref m, .int p0, .int p1, .ref o] (mw G h m V R t) (lQ G h m o 1 a V t) := by
  unfold sm_C
  show sm_V G _ _ _ 0 0 0 [(0, .ref m), (1, .int p0), (2, .int p1), (3, .ref o)] [] _
  refine sv_aload_n dL_loses_0 rfl ?_
  refine sv_iconst (nI 0) dL_loses_1 rfl ?_
  refine sv_aload_n dL_loses_2 rfl ?_
  refine sv_iload_n dL_loses_3 rfl ?_
  refine sv_iload_n dL_loses_4 rfl ?_
  refine sv_invV (As := [_, _]) sc_L_64 hc rfl rfl (Nat.le_of_ble_eq_true rfl) dL_loses_5 ⟨by decide, by decide⟩ ⟨Nat.le_of_ble_eq_true rfl, Nat.le_of_ble_eq_true rfl⟩ (Nat.le_of_ble_eq_true rfl) mw_0 (List.cons_ne_nil _ _) rfl (fun w1 h1 q => by obtain ⟨q1, -⟩ := q; cases q1) (fun E h1 q => ?_)
  obtain ⟨q1, R1, rfl⟩ := q
  cases q1
  refine sv_catch [] ⟨0, 10, 13, 28⟩ [⟨0, 10, 17, 13⟩] rfl (fun z hz => nomatch hz) (by decide) (by decide) (sm_tc ck_3_1_in 0 rfl rfl) (sm_mh ck_3_1_in 11 rfl rfl) (fun q => ?_)
  refine sv_astore dL_loses_13 (by decide) rfl ?_
  refine sv_iconst (nI 1) dL_loses_15 rfl ?_
  refine sv_iret dL_loses_16 rfl rfl (Nat.le_of_ble_eq_true rfl) (Nat.le_of_ble_eq_true rfl) ?_
  exact ⟨rfl, V 1, R1, O, by rw [sm_up_id ho, va_id], fun z => absurd z (by decide)⟩
theorem wL_loses2 {p0 : Int32} {p1 : Int32} (ho : h o = some (sm_aj G 1 O)) (hom : o < m ∨ m + 493 ≤ o) (hc : sm_C G mX5_loses 6 1 6 [.ref m, .int p0, .int p1] (mw G h m V R t) (mQ G h m (.inr "java/lang/IllegalArgumentException") V t)) (a : Int64) : sm_C G mL_loses 8 1 6 [.ref m, .int p0, .int p1, .ref o] (mw G h m V R t) (lQ G h m o 2 a V t) := by
  unfold sm_C
  show sm_V G _ _ _ 0 0 0 [(0, .ref m), (1, .int p0), (2, .int p1), (3, .ref o)] [] _
  refine sv_aload_n dL_loses_0 rfl ?_
  refine sv_iconst (nI 0) dL_loses_1 rfl ?_
  refine sv_aload_n dL_loses_2 rfl ?_
  refine sv_iload_n dL_loses_3 rfl ?_
  refine sv_iload_n dL_loses_4 rfl ?_
  refine sv_invV (As := [_, _]) sc_L_64 hc rfl rfl (Nat.le_of_ble_eq_true rfl) dL_loses_5 ⟨by decide, by decide⟩ ⟨Nat.le_of_ble_eq_true rfl, Nat.le_of_ble_eq_true rfl⟩ (Nat.le_of_ble_eq_true rfl) mw_0 (List.cons_ne_nil _ _) rfl (fun w1 h1 q => by obtain ⟨q1, -⟩ := q; cases q1) (fun E h1 q => ?_)
  obtain ⟨q1, R1, rfl⟩ := q
  cases q1
  refine sv_catch [⟨0, 10, 13, 28⟩] ⟨0, 10, 17, 13⟩ [] rfl (fun z hz => by rw [List.mem_singleton.mp hz]; exact .inr ⟨by decide, _, sm_tc ck_3_1_in 0 rfl rfl, by decide⟩) (by decide) (by decide) (sm_tc ck_1_7_in 16 rfl rfl) (sm_mh ck_1_7_in 24 rfl rfl) (fun q => ?_)
  refine sv_astore dL_loses_17 (by decide) rfl ?_
  refine sv_iconst (nI 2) dL_loses_19 rfl ?_
  refine sv_iret dL_loses_20 rfl rfl (Nat.le_of_ble_eq_true rfl) (Nat.le_of_ble_eq_true rfl) ?_
  exact ⟨rfl, V 1, R1, O, by rw [sm_up_id ho, va_id], fun z => absurd z (by decide)⟩
theorem wL_goesOnN {p0 : Int32} (ho : h o = some (sm_aj G 1 O)) (hom : o < m ∨ m + 493 ≤ o) (hd : d ≤ 7) (hc : sm_C G mX5_goesOn d 0 0 [.ref m, .int p0] (mw G h m V R t) (mQ1 G h m (.inl (some (.int v))) V2 t2)) : sm_C G mL_goesOn 8 1 6 [.ref m, .int p0, .ref o] (mw G h m V R t) (lQ G h m o 0 v.toInt64 V2 t2) := by
  unfold sm_C
  show sm_V G _ _ _ 0 0 0 [(0, .ref m), (1, .int p0), (2, .ref o)] [] _
  refine sv_aload_n dL_goesOn_0 rfl ?_
  refine sv_iconst (nI 0) dL_goesOn_1 rfl ?_
  refine sv_aload_n dL_goesOn_2 rfl ?_
  refine sv_iload_n dL_goesOn_3 rfl ?_
  refine sv_invV (As := [_]) sc_L_67 hc rfl rfl (Nat.le_of_ble_eq_true rfl) dL_goesOn_4 ⟨show d + 1 ≤ 8 by omega, show 8 + (mX5_goesOn.2.2.1 + 11) + 30 * d ≤ 240 from (show 8 + (2 + 11) + 30 * d ≤ 240 by omega)⟩ ⟨Nat.zero_le _, Nat.zero_le _⟩ (Nat.le_of_ble_eq_true rfl) mw_0 (List.cons_ne_nil _ _) rfl (fun w1 h1 q => ?_) (fun E h1 q => by obtain ⟨q1, -⟩ := q; cases q1)
  obtain ⟨q1, v1, R1, rfl⟩ := q
  cases q1
  show sm_V G _ _ _ 0 0 7 _ [.int v, .int (nI 0), .ref o] _
  refine sv_i2l dL_goesOn_7 ?_
  refine sv_lastore dL_goesOn_8 ((mw_out hom).trans ho) (show ¬ (nI 0 < 0 ∨ 1 ≤ (nI 0).toNatClampNeg) by decide) ?_
  refine sv_goto 15 dL_goesOn_9 (by decide) ?_
  refine sv_iconst (nI 0) dL_goesOn_15 rfl ?_
  refine sv_iret dL_goesOn_16 rfl rfl (Nat.le_of_ble_eq_true rfl) (Nat.le_of_ble_eq_true rfl) ?_
  exact ⟨rfl, v1, R1, _, mw_cm hom, fun _ => rfl⟩
theorem wL_goesOn1 {p0 : Int32} (ho : h o = some (sm_aj G 1 O)) (hom : o < m ∨ m + 493 ≤ o) (hc : sm_C G mX5_goesOn 6 1 6 [.ref m, .int p0] (mw G h m V R t) (mQ G h m (.inr "java/lang/IllegalArgumentException") V t)) (a : Int64) : sm_C G mL_goesOn 8 1 6 [.ref m, .int p0, .ref o] (mw G h m V R t) (lQ G h m o 1 a V t) := by
  unfold sm_C
  show sm_V G _ _ _ 0 0 0 [(0, .ref m), (1, .int p0), (2, .ref o)] [] _
  refine sv_aload_n dL_goesOn_0 rfl ?_
  refine sv_iconst (nI 0) dL_goesOn_1 rfl ?_
  refine sv_aload_n dL_goesOn_2 rfl ?_
  refine sv_iload_n dL_goesOn_3 rfl ?_
  refine sv_invV (As := [_]) sc_L_67 hc rfl rfl (Nat.le_of_ble_eq_true rfl) dL_goesOn_4 ⟨by decide, by decide⟩ ⟨Nat.le_of_ble_eq_true rfl, Nat.le_of_ble_eq_true rfl⟩ (Nat.le_of_ble_eq_true rfl) mw_0 (List.cons_ne_nil _ _) rfl (fun w1 h1 q => by obtain ⟨q1, -⟩ := q; cases q1) (fun E h1 q => ?_)
  obtain ⟨q1, R1, rfl⟩ := q
  cases q1
  refine sv_catch [] ⟨0, 9, 12, 13⟩ [] rfl (fun z hz => nomatch hz) (by decide) (by decide) (sm_tc ck_1_7_in 16 rfl rfl) (sm_mh ck_1_7_in 24 rfl rfl) (fun q => ?_)
  refine sv_astore_n dL_goesOn_12 (by decide) rfl ?_
  refine sv_iconst (nI 1) dL_goesOn_13 rfl ?_
  refine sv_iret dL_goesOn_14 rfl rfl (Nat.le_of_ble_eq_true rfl) (Nat.le_of_ble_eq_true rfl) ?_
  exact ⟨rfl, V 1, R1, O, by rw [sm_up_id ho, va_id], fun z => absurd z (by decide)⟩
theorem wL_weatherN {p0 : Int32} (ho : h o = some (sm_aj G 1 O)) (hom : o < m ∨ m + 493 ≤ o) (hd : d ≤ 7) (hc : sm_C G mX5_weather d 0 0 [.ref m, .int p0] (mw G h m V R t) (mQ1 G h m (.inl (some (.int v))) V2 t2)) : sm_C G mL_weather 8 1 6 [.ref m, .int p0, .ref o] (mw G h m V R t) (lQ G h m o 0 v.toInt64 V2 t2) := by
  unfold sm_C
  show sm_V G _ _ _ 0 0 0 [(0, .ref m), (1, .int p0), (2, .ref o)] [] _
  refine sv_aload_n dL_weather_0 rfl ?_
  refine sv_iconst (nI 0) dL_weather_1 rfl ?_
  refine sv_aload_n dL_weather_2 rfl ?_
  refine sv_iload_n dL_weather_3 rfl ?_
  refine sv_invV (As := [_]) sc_L_70 hc rfl rfl (Nat.le_of_ble_eq_true rfl) dL_weather_4 ⟨show d + 1 ≤ 8 by omega, show 8 + (mX5_weather.2.2.1 + 11) + 30 * d ≤ 240 from (show 8 + (5 + 11) + 30 * d ≤ 240 by omega)⟩ ⟨Nat.zero_le _, Nat.zero_le _⟩ (Nat.le_of_ble_eq_true rfl) mw_0 (List.cons_ne_nil _ _) rfl (fun w1 h1 q => ?_) (fun E h1 q => by obtain ⟨q1, -⟩ := q; cases q1)
  obtain ⟨q1, v1, R1, rfl⟩ := q
  cases q1
  show sm_V G _ _ _ 0 0 7 _ [.int v, .int (nI 0), .ref o] _
  refine sv_i2l dL_weather_7 ?_
  refine sv_lastore dL_weather_8 ((mw_out hom).trans ho) (show ¬ (nI 0 < 0 ∨ 1 ≤ (nI 0).toNatClampNeg) by decide) ?_
  refine sv_goto 15 dL_weather_9 (by decide) ?_
  refine sv_iconst (nI 0) dL_weather_15 rfl ?_
  refine sv_iret dL_weather_16 rfl rfl (Nat.le_of_ble_eq_true rfl) (Nat.le_of_ble_eq_true rfl) ?_
  exact ⟨rfl, v1, R1, _, mw_cm hom, fun _ => rfl⟩
theorem wL_weather1 {p0 : Int32} (ho : h o = some (sm_aj G 1 O)) (hom : o < m ∨ m + 493 ≤ o) (hc : sm_C G mX5_weather 6 1 6 [.ref m, .int p0] (mw G h m V R t) (mQ G h m (.inr "java/lang/IllegalArgumentException") V t)) (a : Int64) : sm_C G mL_weather 8 1 6 [.ref m, .int p0, .ref o] (mw G h m V R t) (lQ G h m o 1 a V t) := by
  unfold sm_C
  show sm_V G _ _ _ 0 0 0 [(0, .ref m), (1, .int p0), (2, .ref o)] [] _
  refine sv_aload_n dL_weather_0 rfl ?_
  refine sv_iconst (nI 0) dL_weather_1 rfl ?_
  refine sv_aload_n dL_weather_2 rfl ?_
  refine sv_iload_n dL_weather_3 rfl ?_
  refine sv_invV (As := [_]) sc_L_70 hc rfl rfl (Nat.le_of_ble_eq_true rfl) dL_weather_4 ⟨by decide, by decide⟩ ⟨Nat.le_of_ble_eq_true rfl, Nat.le_of_ble_eq_true rfl⟩ (Nat.le_of_ble_eq_true rfl) mw_0 (List.cons_ne_nil _ _) rfl (fun w1 h1 q => by obtain ⟨q1, -⟩ := q; cases q1) (fun E h1 q => ?_)
  obtain ⟨q1, R1, rfl⟩ := q
  cases q1
  refine sv_catch [] ⟨0, 9, 12, 13⟩ [] rfl (fun z hz => nomatch hz) (by decide) (by decide) (sm_tc ck_1_7_in 16 rfl rfl) (sm_mh ck_1_7_in 24 rfl rfl) (fun q => ?_)
  refine sv_astore_n dL_weather_12 (by decide) rfl ?_
  refine sv_iconst (nI 1) dL_weather_13 rfl ?_
  refine sv_iret dL_weather_14 rfl rfl (Nat.le_of_ble_eq_true rfl) (Nat.le_of_ble_eq_true rfl) ?_
  exact ⟨rfl, V 1, R1, O, by rw [sm_up_id ho, va_id], fun z => absurd z (by decide)⟩
theorem wL_runScriptN {p0 : Int32} {p1 : Int64} (ho : h o = some (sm_aj G 1 O)) (hom : o < m ∨ m + 493 ≤ o) (hd : d ≤ 7) (hc : sm_C G mX5_runScript d 0 0 [.ref m, .int p0, .long p1] (mw G h m V R t) (mQ1 G h m (.inl (some (.int v))) V2 t2)) : sm_C G mL_runScript 8 1 6 [.ref m, .int p0, .long p1, .ref o] (mw G h m V R t) (lQ G h m o 0 v.toInt64 V2 t2) := by
  unfold sm_C
  show sm_V G _ _ _ 0 0 0 [(0, .ref m), (1, .int p0), (2, .long p1), (4, .ref o)] [] _
  refine sv_aload dL_runScript_0 rfl ?_
  refine sv_iconst (nI 0) dL_runScript_2 rfl ?_
  refine sv_aload_n dL_runScript_3 rfl ?_
  refine sv_iload_n dL_runScript_4 rfl ?_
  refine sv_lload_n dL_runScript_5 rfl ?_
  refine sv_invV (As := [_, _]) sc_L_73 hc rfl rfl (Nat.le_of_ble_eq_true rfl) dL_runScript_6 ⟨show d + 1 ≤ 8 by omega, show 8 + (mX5_runScript.2.2.1 + 11) + 30 * d ≤ 240 from (show 8 + (6 + 11) + 30 * d ≤ 240 by omega)⟩ ⟨Nat.zero_le _, Nat.zero_le _⟩ (Nat.le_of_ble_eq_true rfl) mw_0 (List.cons_ne_nil _ _) rfl (fun w1 h1 q => ?_) (fun E h1 q => by obtain ⟨q1, -⟩ := q; cases q1)
  obtain ⟨q1, v1, R1, rfl⟩ := q
  cases q1
  show sm_V G _ _ _ 0 0 9 _ [.int v, .int (nI 0), .ref o] _
  refine sv_i2l dL_runScript_9 ?_
  refine sv_lastore dL_runScript_10 ((mw_out hom).trans ho) (show ¬ (nI 0 < 0 ∨ 1 ≤ (nI 0).toNatClampNeg) by decide) ?_
  refine sv_goto 18 dL_runScript_11 (by decide) ?_
  refine sv_iconst (nI 0) dL_runScript_18 rfl ?_
  refine sv_iret dL_runScript_19 rfl rfl (Nat.le_of_ble_eq_true rfl) (Nat.le_of_ble_eq_true rfl) ?_
  exact ⟨rfl, v1, R1, _, mw_cm hom, fun _ => rfl⟩
theorem wL_runScript1 {p0 : Int32} {p1 : Int64} (ho : h o = some (sm_aj G 1 O)) (hom : o < m ∨ m + 493 ≤ o) (hc : sm_C G mX5_runScript 6 1 6 [.ref m, .int p0, .long p1] (mw G h m V R t) (mQ G h m (.inr "java/lang/IllegalArgumentException") V t)) (a : Int64) : sm_C G mL_runScript 8 1 6 [.ref m, .int p0, .long p1, .ref o] (mw G h m V R t) (lQ G h m o 1 a V t) := by
  unfold sm_C
  show sm_V G _ _ _ 0 0 0 [(0, .ref m), (1, .int p0), (2, .long p1), (4, .ref o)] [] _
  refine sv_aload dL_runScript_0 rfl ?_
  refine sv_iconst (nI 0) dL_runScript_2 rfl ?_
  refine sv_aload_n dL_runScript_3 rfl ?_
  refine sv_iload_n dL_runScript_4 rfl ?_
  refine sv_lload_n dL_runScript_5 rfl ?_
  refine sv_invV (As := [_, _]) sc_L_73 hc rfl rfl (Nat.le_of_ble_eq_true rfl) dL_runScript_6 ⟨by decide, by decide⟩ ⟨Nat.le_of_ble_eq_true rfl, Nat.le_of_ble_eq_true rfl⟩ (Nat.le_of_ble_eq_true rfl) mw_0 (List.cons_ne_nil _ _) rfl (fun w1 h1 q => by obtain ⟨q1, -⟩ := q; cases q1) (fun E h1 q => ?_)
  obtain ⟨q1, R1, rfl⟩ := q
  cases q1
  refine sv_catch [] ⟨0, 11, 14, 13⟩ [] rfl (fun z hz => nomatch hz) (by decide) (by decide) (sm_tc ck_1_7_in 16 rfl rfl) (sm_mh ck_1_7_in 24 rfl rfl) (fun q => ?_)
  refine sv_astore dL_runScript_14 (by decide) rfl ?_
  refine sv_iconst (nI 1) dL_runScript_16 rfl ?_
  refine sv_iret dL_runScript_17 rfl rfl (Nat.le_of_ble_eq_true rfl) (Nat.le_of_ble_eq_true rfl) ?_
  exact ⟨rfl, V 1, R1, O, by rw [sm_up_id ho, va_id], fun z => absurd z (by decide)⟩
theorem wL_simulateN {p0 : Int64} {p1 : Int32} (ho : h o = some (sm_aj G 1 O)) (hom : o < m ∨ m + 493 ≤ o) (hd : d ≤ 7) (hc : sm_C G mX5_simulate d 0 0 [.ref m, .long p0, .int p1] (mw G h m V R t) (mQ1 G h m (.inl (some (.int v))) V2 t2)) : sm_C G mL_simulate 8 1 6 [.ref m, .long p0, .int p1, .ref o] (mw G h m V R t) (lQ G h m o 0 v.toInt64 V2 t2) := by
  unfold sm_C
  show sm_V G _ _ _ 0 0 0 [(0, .ref m), (1, .long p0), (3, .int p1), (4, .ref o)] [] _
  refine sv_aload dL_simulate_0 rfl ?_
  refine sv_iconst (nI 0) dL_simulate_2 rfl ?_
  refine sv_aload_n dL_simulate_3 rfl ?_
  refine sv_lload_n dL_simulate_4 rfl ?_
  refine sv_iload_n dL_simulate_5 rfl ?_
  refine sv_invV (As := [_, _]) sc_L_76 hc rfl rfl (Nat.le_of_ble_eq_true rfl) dL_simulate_6 ⟨show d + 1 ≤ 8 by omega, show 8 + (mX5_simulate.2.2.1 + 11) + 30 * d ≤ 240 from (show 8 + (7 + 11) + 30 * d ≤ 240 by omega)⟩ ⟨Nat.zero_le _, Nat.zero_le _⟩ (Nat.le_of_ble_eq_true rfl) mw_0 (List.cons_ne_nil _ _) rfl (fun w1 h1 q => ?_) (fun E h1 q => by obtain ⟨q1, -⟩ := q; cases q1)
  obtain ⟨q1, v1, R1, rfl⟩ := q
  cases q1
  show sm_V G _ _ _ 0 0 9 _ [.int v, .int (nI 0), .ref o] _
  refine sv_i2l dL_simulate_9 ?_
  refine sv_lastore dL_simulate_10 ((mw_out hom).trans ho) (show ¬ (nI 0 < 0 ∨ 1 ≤ (nI 0).toNatClampNeg) by decide) ?_
  refine sv_goto 18 dL_simulate_11 (by decide) ?_
  refine sv_iconst (nI 0) dL_simulate_18 rfl ?_
  refine sv_iret dL_simulate_19 rfl rfl (Nat.le_of_ble_eq_true rfl) (Nat.le_of_ble_eq_true rfl) ?_
  exact ⟨rfl, v1, R1, _, mw_cm hom, fun _ => rfl⟩
theorem wL_simulate1 {p0 : Int64} {p1 : Int32} (ho : h o = some (sm_aj G 1 O)) (hom : o < m ∨ m + 493 ≤ o) (hc : sm_C G mX5_simulate 6 1 6 [.ref m, .long p0, .int p1] (mw G h m V R t) (mQ G h m (.inr "java/lang/IllegalArgumentException") V t)) (a : Int64) : sm_C G mL_simulate 8 1 6 [.ref m, .long p0, .int p1, .ref o] (mw G h m V R t) (lQ G h m o 1 a V t) := by
  unfold sm_C
  show sm_V G _ _ _ 0 0 0 [(0, .ref m), (1, .long p0), (3, .int p1), (4, .ref o)] [] _
  refine sv_aload dL_simulate_0 rfl ?_
  refine sv_iconst (nI 0) dL_simulate_2 rfl ?_
  refine sv_aload_n dL_simulate_3 rfl ?_
  refine sv_lload_n dL_simulate_4 rfl ?_
  refine sv_iload_n dL_simulate_5 rfl ?_
  refine sv_invV (As := [_, _]) sc_L_76 hc rfl rfl (Nat.le_of_ble_eq_true rfl) dL_simulate_6 ⟨by decide, by decide⟩ ⟨Nat.le_of_ble_eq_true rfl, Nat.le_of_ble_eq_true rfl⟩ (Nat.le_of_ble_eq_true rfl) mw_0 (List.cons_ne_nil _ _) rfl (fun w1 h1 q => by obtain ⟨q1, -⟩ := q; cases q1) (fun E h1 q => ?_)
  obtain ⟨q1, R1, rfl⟩ := q
  cases q1
  refine sv_catch [] ⟨0, 11, 14, 13⟩ [] rfl (fun z hz => nomatch hz) (by decide) (by decide) (sm_tc ck_1_7_in 16 rfl rfl) (sm_mh ck_1_7_in 24 rfl rfl) (fun q => ?_)
  refine sv_astore dL_simulate_14 (by decide) rfl ?_
  refine sv_iconst (nI 1) dL_simulate_16 rfl ?_
  refine sv_iret dL_simulate_17 rfl rfl (Nat.le_of_ble_eq_true rfl) (Nat.le_of_ble_eq_true rfl) ?_
  exact ⟨rfl, V 1, R1, O, by rw [sm_up_id ho, va_id], fun z => absurd z (by decide)⟩
theorem wL_saveN {p0 : Int32} (ho : h o = some (sm_aj G 1 O)) (hom : o < m ∨ m + 493 ≤ o) (hd : d ≤ 7) (hc : sm_C G mX5_save d 0 0 [.ref m, .int p0] (mw G h m V R t) (mQ1 G h m (.inl (some (.int v))) V2 t2)) : sm_C G mL_save 8 1 6 [.ref m, .int p0, .ref o] (mw G h m V R t) (lQ G h m o 0 v.toInt64 V2 t2) := by
  unfold sm_C
  show sm_V G _ _ _ 0 0 0 [(0, .ref m), (1, .int p0), (2, .ref o)] [] _
  refine sv_aload_n dL_save_0 rfl ?_
  refine sv_iconst (nI 0) dL_save_1 rfl ?_
  refine sv_aload_n dL_save_2 rfl ?_
  refine sv_iload_n dL_save_3 rfl ?_
  refine sv_invV (As := [_]) sc_L_80 hc rfl rfl (Nat.le_of_ble_eq_true rfl) dL_save_4 ⟨show d + 1 ≤ 8 by omega, show 8 + (mX5_save.2.2.1 + 11) + 30 * d ≤ 240 from (show 8 + (2 + 11) + 30 * d ≤ 240 by omega)⟩ ⟨Nat.zero_le _, Nat.zero_le _⟩ (Nat.le_of_ble_eq_true rfl) mw_0 (List.cons_ne_nil _ _) rfl (fun w1 h1 q => ?_) (fun E h1 q => by obtain ⟨q1, -⟩ := q; cases q1)
  obtain ⟨q1, v1, R1, rfl⟩ := q
  cases q1
  show sm_V G _ _ _ 0 0 7 _ [.int v, .int (nI 0), .ref o] _
  refine sv_i2l dL_save_7 ?_
  refine sv_lastore dL_save_8 ((mw_out hom).trans ho) (show ¬ (nI 0 < 0 ∨ 1 ≤ (nI 0).toNatClampNeg) by decide) ?_
  refine sv_goto 15 dL_save_9 (by decide) ?_
  refine sv_iconst (nI 0) dL_save_15 rfl ?_
  refine sv_iret dL_save_16 rfl rfl (Nat.le_of_ble_eq_true rfl) (Nat.le_of_ble_eq_true rfl) ?_
  exact ⟨rfl, v1, R1, _, mw_cm hom, fun _ => rfl⟩
theorem wL_save1 {p0 : Int32} (ho : h o = some (sm_aj G 1 O)) (hom : o < m ∨ m + 493 ≤ o) (hc : sm_C G mX5_save 6 1 6 [.ref m, .int p0] (mw G h m V R t) (mQ G h m (.inr "java/lang/IndexOutOfBoundsException") V t)) (a : Int64) : sm_C G mL_save 8 1 6 [.ref m, .int p0, .ref o] (mw G h m V R t) (lQ G h m o 1 a V t) := by
  unfold sm_C
  show sm_V G _ _ _ 0 0 0 [(0, .ref m), (1, .int p0), (2, .ref o)] [] _
  refine sv_aload_n dL_save_0 rfl ?_
  refine sv_iconst (nI 0) dL_save_1 rfl ?_
  refine sv_aload_n dL_save_2 rfl ?_
  refine sv_iload_n dL_save_3 rfl ?_
  refine sv_invV (As := [_]) sc_L_80 hc rfl rfl (Nat.le_of_ble_eq_true rfl) dL_save_4 ⟨by decide, by decide⟩ ⟨Nat.le_of_ble_eq_true rfl, Nat.le_of_ble_eq_true rfl⟩ (Nat.le_of_ble_eq_true rfl) mw_0 (List.cons_ne_nil _ _) rfl (fun w1 h1 q => by obtain ⟨q1, -⟩ := q; cases q1) (fun E h1 q => ?_)
  obtain ⟨q1, R1, rfl⟩ := q
  cases q1
  refine sv_catch [] ⟨0, 9, 12, 28⟩ [] rfl (fun z hz => nomatch hz) (by decide) (by decide) (sm_tc ck_3_1_in 0 rfl rfl) (sm_mh ck_3_1_in 11 rfl rfl) (fun q => ?_)
  refine sv_astore_n dL_save_12 (by decide) rfl ?_
  refine sv_iconst (nI 1) dL_save_13 rfl ?_
  refine sv_iret dL_save_14 rfl rfl (Nat.le_of_ble_eq_true rfl) (Nat.le_of_ble_eq_true rfl) ?_
  exact ⟨rfl, V 1, R1, O, by rw [sm_up_id ho, va_id], fun z => absurd z (by decide)⟩
theorem wL_restoreN {p0 : Int32} (ho : h o = some (sm_aj G 1 O)) (hom : o < m ∨ m + 493 ≤ o) (hd : d ≤ 7) (hc : sm_C G mX5_restore d 0 0 [.ref m, .int p0] (mw G h m V R t) (mQ1 G h m (.inl (some (.int v))) V2 t2)) : sm_C G mL_restore 8 1 6 [.ref m, .int p0, .ref o] (mw G h m V R t) (lQ G h m o 0 v.toInt64 V2 t2) := by
  unfold sm_C
  show sm_V G _ _ _ 0 0 0 [(0, .ref m), (1, .int p0), (2, .ref o)] [] _
  refine sv_aload_n dL_restore_0 rfl ?_
  refine sv_iconst (nI 0) dL_restore_1 rfl ?_
  refine sv_aload_n dL_restore_2 rfl ?_
  refine sv_iload_n dL_restore_3 rfl ?_
  refine sv_invV (As := [_]) sc_L_83 hc rfl rfl (Nat.le_of_ble_eq_true rfl) dL_restore_4 ⟨show d + 1 ≤ 8 by omega, show 8 + (mX5_restore.2.2.1 + 11) + 30 * d ≤ 240 from (show 8 + (2 + 11) + 30 * d ≤ 240 by omega)⟩ ⟨Nat.zero_le _, Nat.zero_le _⟩ (Nat.le_of_ble_eq_true rfl) mw_0 (List.cons_ne_nil _ _) rfl (fun w1 h1 q => ?_) (fun E h1 q => by obtain ⟨q1, -⟩ := q; cases q1)
  obtain ⟨q1, v1, R1, rfl⟩ := q
  cases q1
  show sm_V G _ _ _ 0 0 7 _ [.int v, .int (nI 0), .ref o] _
  refine sv_i2l dL_restore_7 ?_
  refine sv_lastore dL_restore_8 ((mw_out hom).trans ho) (show ¬ (nI 0 < 0 ∨ 1 ≤ (nI 0).toNatClampNeg) by decide) ?_
  refine sv_goto 18 dL_restore_9 (by decide) ?_
  refine sv_iconst (nI 0) dL_restore_18 rfl ?_
  refine sv_iret dL_restore_19 rfl rfl (Nat.le_of_ble_eq_true rfl) (Nat.le_of_ble_eq_true rfl) ?_
  exact ⟨rfl, v1, R1, _, mw_cm hom, fun _ => rfl⟩
theorem wL_restore1 {p0 : Int32} (ho : h o = some (sm_aj G 1 O)) (hom : o < m ∨ m + 493 ≤ o) (hc : sm_C G mX5_restore 6 1 6 [.ref m, .int p0] (mw G h m V R t) (mQ G h m (.inr "java/lang/IndexOutOfBoundsException") V t)) (a : Int64) : sm_C G mL_restore 8 1 6 [.ref m, .int p0, .ref o] (mw G h m V R t) (lQ G h m o 1 a V t) := by
  unfold sm_C
  show sm_V G _ _ _ 0 0 0 [(0, .ref m), (1, .int p0), (2, .ref o)] [] _
  refine sv_aload_n dL_restore_0 rfl ?_
  refine sv_iconst (nI 0) dL_restore_1 rfl ?_
  refine sv_aload_n dL_restore_2 rfl ?_
  refine sv_iload_n dL_restore_3 rfl ?_
  refine sv_invV (As := [_]) sc_L_83 hc rfl rfl (Nat.le_of_ble_eq_true rfl) dL_restore_4 ⟨by decide, by decide⟩ ⟨Nat.le_of_ble_eq_true rfl, Nat.le_of_ble_eq_true rfl⟩ (Nat.le_of_ble_eq_true rfl) mw_0 (List.cons_ne_nil _ _) rfl (fun w1 h1 q => by obtain ⟨q1, -⟩ := q; cases q1) (fun E h1 q => ?_)
  obtain ⟨q1, R1, rfl⟩ := q
  cases q1
  refine sv_catch [] ⟨0, 9, 12, 28⟩ [⟨0, 9, 15, 15⟩] rfl (fun z hz => nomatch hz) (by decide) (by decide) (sm_tc ck_3_1_in 0 rfl rfl) (sm_mh ck_3_1_in 11 rfl rfl) (fun q => ?_)
  refine sv_astore_n dL_restore_12 (by decide) rfl ?_
  refine sv_iconst (nI 1) dL_restore_13 rfl ?_
  refine sv_iret dL_restore_14 rfl rfl (Nat.le_of_ble_eq_true rfl) (Nat.le_of_ble_eq_true rfl) ?_
  exact ⟨rfl, V 1, R1, O, by rw [sm_up_id ho, va_id], fun z => absurd z (by decide)⟩
theorem wL_restore2 {p0 : Int32} (ho : h o = some (sm_aj G 1 O)) (hom : o < m ∨ m + 493 ≤ o) (hc : sm_C G mX5_restore 6 1 6 [.ref m, .int p0] (mw G h m V R t) (mQ G h m (.inr "java/lang/IllegalStateException") V t)) (a : Int64) : sm_C G mL_restore 8 1 6 [.ref m, .int p0, .ref o] (mw G h m V R t) (lQ G h m o 2 a V t) := by
  unfold sm_C
  show sm_V G _ _ _ 0 0 0 [(0, .ref m), (1, .int p0), (2, .ref o)] [] _
  refine sv_aload_n dL_restore_0 rfl ?_
  refine sv_iconst (nI 0) dL_restore_1 rfl ?_
  refine sv_aload_n dL_restore_2 rfl ?_
  refine sv_iload_n dL_restore_3 rfl ?_
  refine sv_invV (As := [_]) sc_L_83 hc rfl rfl (Nat.le_of_ble_eq_true rfl) dL_restore_4 ⟨by decide, by decide⟩ ⟨Nat.le_of_ble_eq_true rfl, Nat.le_of_ble_eq_true rfl⟩ (Nat.le_of_ble_eq_true rfl) mw_0 (List.cons_ne_nil _ _) rfl (fun w1 h1 q => by obtain ⟨q1, -⟩ := q; cases q1) (fun E h1 q => ?_)
  obtain ⟨q1, R1, rfl⟩ := q
  cases q1
  refine sv_catch [⟨0, 9, 12, 28⟩] ⟨0, 9, 15, 15⟩ [] rfl (fun z hz => by rw [List.mem_singleton.mp hz]; exact .inr ⟨by decide, _, sm_tc ck_3_1_in 0 rfl rfl, by decide⟩) (by decide) (by decide) (sm_tc ck_1_7_in 17 rfl rfl) (sm_mh ck_2_2_in 6 rfl rfl) (fun q => ?_)
  refine sv_astore_n dL_restore_15 (by decide) rfl ?_
  refine sv_iconst (nI 2) dL_restore_16 rfl ?_
  refine sv_iret dL_restore_17 rfl rfl (Nat.le_of_ble_eq_true rfl) (Nat.le_of_ble_eq_true rfl) ?_
  exact ⟨rfl, V 1, R1, O, by rw [sm_up_id ho, va_id], fun z => absurd z (by decide)⟩
end CWR
