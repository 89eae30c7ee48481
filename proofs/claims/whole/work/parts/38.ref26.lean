section SR26
variable {G : sm_G} {h : sm_H} {m : Nat} {F : Nat → Int32} {X : Nat → Int64} {A : Nat → Nat → Int32} {L : Nat → Nat → Int64} {S : Nat → Nat} {K : Nat}
/-! scripts -/
def gm_p4 : Nat → Nat
  | 0 => 1
  | n + 1 => gm_p4 n * 10000
theorem gm_p4_lt {n : Nat} (h : n ≤ 3) : 0 < gm_p4 n ∧ gm_p4 n ≤ 1000000000000 := by
  rcases (show n = 0 ∨ n = 1 ∨ n = 2 ∨ n = 3 by omega) with rfl | rfl | rfl | rfl <;> decide
/-- a script is allowed -/
def gm_sok (n : Nat) (y : Int64) : Bool := decide (¬ y < 0 ∧ y < lN (gm_p4 n))
/-- one line of four digits: whether it succeeds, and the state behind it -/
def gm_dst (z : Bool) (S : gm_S) (x : Int64) (q : Nat) : Bool × gm_S × Int64 :=
  if q / 1000 = 1 ∧ gm_ref S (nI (q / 100 % 10)) (nI (10 * (q / 10 % 10) + q % 10)) = 0 then (true, gm_put z S x (q / 100 % 10) (10 * (q / 10 % 10) + q % 10))
  else if q / 1000 = 2 ∧ q / 100 % 10 + q / 10 % 10 + q % 10 = 0 ∧ gm_on S = true then (true, gm_pass z S x)
  else if q / 1000 = 3 ∧ q / 100 % 10 + q / 10 % 10 + q % 10 = 0 ∧ gm_on S = true then (true, gm_play z S x)
  else if q / 1000 = 4 ∧ gm_isS (nI (q / 100 % 10)) (nI (10 * (q / 10 % 10) + q % 10)) = true then (true, va_up S (q / 100 % 10) (10 * (q / 10 % 10) + q % 10), x)
  else (gm_dq S (q / 1000) (q / 100 % 10) (q / 10 % 10) (q % 10), S, x)
/-- v's lines, m of n are left: the first that fails -/
def gm_scr (z : Bool) (v n : Nat) : Nat → gm_S → Int64 → Int32
  | 0, _, _ => -1
  | m + 1, S, x => if (gm_dst z S x (v / gm_p4 m % 10000)).1 = true then gm_scr z v n m (gm_dst z S x (v / gm_p4 m % 10000)).2.1 (gm_dst z S x (v / gm_p4 m % 10000)).2.2 else nI (n - (m + 1))
theorem gm_scr_t {z : Bool} {v n m q : Nat} {S : gm_S} {x : Int64} {D : Bool × gm_S × Int64} (hq : v / gm_p4 m % 10000 = q) (hD : gm_dst z S x q = D) (h : D.1 = true) : gm_scr z v n (m + 1) S x = gm_scr z v n m D.2.1 D.2.2 := by
  rw [gm_scr, hq, hD, if_pos h]
theorem gm_scr_f {z : Bool} {v n m q : Nat} {S : gm_S} {x : Int64} {D : Bool × gm_S × Int64} (hq : v / gm_p4 m % 10000 = q) (hD : gm_dst z S x q = D) (h : D.1 = false) : gm_scr z v n (m + 1) S x = nI (n - (m + 1)) := by
  rw [gm_scr, hq, hD, if_neg (ne_t h)]
theorem gm_d5 (S : gm_S) (q : Nat) :
    (q / 1000 = 1 ∧ gm_ref S (nI (q / 100 % 10)) (nI (10 * (q / 10 % 10) + q % 10)) = 0) ∨
    (q / 1000 = 2 ∧ q / 100 % 10 + q / 10 % 10 + q % 10 = 0 ∧ gm_on S = true) ∨
    (q / 1000 = 3 ∧ q / 100 % 10 + q / 10 % 10 + q % 10 = 0 ∧ gm_on S = true) ∨
    (q / 1000 = 4 ∧ gm_isS (nI (q / 100 % 10)) (nI (10 * (q / 10 % 10) + q % 10)) = true) ∨
    ((q / 1000 = 1 → gm_ref S (nI (q / 100 % 10)) (nI (10 * (q / 10 % 10) + q % 10)) ≠ 0) ∧ (q / 1000 = 2 ∨ q / 1000 = 3 → q / 100 % 10 + q / 10 % 10 + q % 10 ≠ 0 ∨ gm_on S = false) ∧ (q / 1000 = 4 → gm_isS (nI (q / 100 % 10)) (nI (10 * (q / 10 % 10) + q % 10)) = false)) := by
  by_cases h1 : q / 1000 = 1 ∧ gm_ref S (nI (q / 100 % 10)) (nI (10 * (q / 10 % 10) + q % 10)) = 0
  · exact .inl h1
  by_cases h2 : q / 1000 = 2 ∧ q / 100 % 10 + q / 10 % 10 + q % 10 = 0 ∧ gm_on S = true
  · exact .inr (.inl h2)
  by_cases h3 : q / 1000 = 3 ∧ q / 100 % 10 + q / 10 % 10 + q % 10 = 0 ∧ gm_on S = true
  · exact .inr (.inr (.inl h3))
  by_cases h4 : q / 1000 = 4 ∧ gm_isS (nI (q / 100 % 10)) (nI (10 * (q / 10 % 10) + q % 10)) = true
  · exact .inr (.inr (.inr (.inl h4)))
  refine .inr (.inr (.inr (.inr ⟨fun e e2 => h1 ⟨e, e2⟩, fun e => ?_, fun e => ?_⟩)))
  · by_cases e0 : q / 100 % 10 + q / 10 % 10 + q % 10 = 0
    · refine .inr ?_
      cases hon : gm_on S with
      | false => rfl
      | true => rcases e with e | e
                · exact absurd ⟨e, e0, hon⟩ h2
                · exact absurd ⟨e, e0, hon⟩ h3
    · exact .inl e0
  · cases hs : gm_isS (nI (q / 100 % 10)) (nI (10 * (q / 10 % 10) + q % 10)) with
    | false => rfl
    | true => exact absurd ⟨e, hs⟩ h4
theorem gm_dst_1 {z : Bool} {S : gm_S} {x : Int64} {q : Nat} (h : q / 1000 = 1) (h2 : gm_ref S (nI (q / 100 % 10)) (nI (10 * (q / 10 % 10) + q % 10)) = 0) : gm_dst z S x q = (true, gm_put z S x (q / 100 % 10) (10 * (q / 10 % 10) + q % 10)) := if_pos ⟨h, h2⟩
theorem gm_dst_2 {z : Bool} {S : gm_S} {x : Int64} {q : Nat} (h : q / 1000 = 2) (h2 : q / 100 % 10 + q / 10 % 10 + q % 10 = 0) (h3 : gm_on S = true) : gm_dst z S x q = (true, gm_pass z S x) := by
  unfold gm_dst; rw [if_neg (by omega), if_pos ⟨h, h2, h3⟩]
theorem gm_dst_3 {z : Bool} {S : gm_S} {x : Int64} {q : Nat} (h : q / 1000 = 3) (h2 : q / 100 % 10 + q / 10 % 10 + q % 10 = 0) (h3 : gm_on S = true) : gm_dst z S x q = (true, gm_play z S x) := by
  unfold gm_dst; rw [if_neg (by omega), if_neg (by omega), if_pos ⟨h, h2, h3⟩]
theorem gm_dst_4 {z : Bool} {S : gm_S} {x : Int64} {q : Nat} (h : q / 1000 = 4) (h2 : gm_isS (nI (q / 100 % 10)) (nI (10 * (q / 10 % 10) + q % 10)) = true) : gm_dst z S x q = (true, va_up S (q / 100 % 10) (10 * (q / 10 % 10) + q % 10), x) := by
  unfold gm_dst; rw [if_neg (by omega), if_neg (by omega), if_neg (by omega), if_pos ⟨h, h2⟩]
theorem gm_dst_5 {z : Bool} {S : gm_S} {x : Int64} {q : Nat} (h1 : q / 1000 = 1 → gm_ref S (nI (q / 100 % 10)) (nI (10 * (q / 10 % 10) + q % 10)) ≠ 0) (h2 : q / 1000 = 2 ∨ q / 1000 = 3 → q / 100 % 10 + q / 10 % 10 + q % 10 ≠ 0 ∨ gm_on S = false) (h4 : q / 1000 = 4 → gm_isS (nI (q / 100 % 10)) (nI (10 * (q / 10 % 10) + q % 10)) = false) : gm_dst z S x q = (gm_dq S (q / 1000) (q / 100 % 10) (q / 10 % 10) (q % 10), S, x) := by
  unfold gm_dst
  rw [if_neg (fun e => h1 e.1 e.2), if_neg (fun e => (h2 (.inl e.1)).elim (fun z => z e.2.1) (fun z => ne_t z e.2.2)), if_neg (fun e => (h2 (.inr e.1)).elim (fun z => z e.2.1) (fun z => ne_t z e.2.2)), if_neg (fun e => ne_t (h4 e.1) e.2)]
/-- a placing that a line names -/
theorem gm_dst_p {S : gm_S} {q c : Nat} (hq : q < 2 ^ 31) (hc : c < 2 ^ 31) (h : gm_ref S (nI q) (nI c) = 0) : q < 6 ∧ c < 24 ∧ gm_ch q c = true ∧ gm_can S q c = true := by
  obtain ⟨a, b, e1, e2, e3, e4, e5, e6⟩ := gm_ref_k h
  have d1 := congrArg Int32.toInt e1; have d2 := congrArg Int32.toInt e2
  rw [nI_toInt hq, nI_toInt (by omega)] at d1
  rw [nI_toInt hc, nI_toInt (by omega)] at d2
  have : q = a := by omega
  have : c = b := by omega
  subst q; subst c; exact ⟨e3, e4, e5, e6⟩
theorem gm_dst_s {w v : Nat} (hw : w < 2 ^ 31) (hv : v < 2 ^ 31) (h : gm_isS (nI w) (nI v) = true) : (w = 0 ∧ 1 ≤ v ∧ v ≤ 12) ∨ (w = 1 ∧ v ≤ 5) ∨ (w = 2 ∧ 1 ≤ v ∧ v ≤ 3) := by
  obtain ⟨a, b, e1, e2, e3⟩ := gm_isS_k h
  have d1 := congrArg Int32.toInt e1; have d2 := congrArg Int32.toInt e2
  rw [nI_toInt hw, nI_toInt (by omega)] at d1
  rw [nI_toInt hv, nI_toInt (by omega)] at d2
  have : w = a := by omega
  have : v = b := by omega
  subst w; subst v; exact e3
theorem gm_set_I {w v : Nat} (hI : gm_I K S) (h : (w = 0 ∧ 1 ≤ v ∧ v ≤ 12) ∨ (w = 1 ∧ v ≤ 5) ∨ (w = 2 ∧ 1 ≤ v ∧ v ≤ 3)) (hK9 : 12 ≤ K) : gm_I K (va_up S w v) := by
  obtain ⟨⟨j0, j01, j1, j2, j21⟩, jK, jK2, jw, jj⟩ := hI
  have o : ∀ i, 3 ≤ i → va_up S w v i = S i := fun i hi => up_ne (by omega)
  have d : gm_rdy (va_up S w v) ((va_up S w v) 4) = gm_rdy S (S 4) := by unfold gm_rdy; rw [o 4 (by omega), o _ (by omega), o _ (by omega)]
  refine ⟨?_, fun i a b => ?_, jK2, fun q hq => by rw [o _ (by omega)]; exact jw q hq, ?_⟩
  · rcases h with ⟨rfl, h1, h2⟩ | ⟨rfl, h1⟩ | ⟨rfl, h1, h2⟩
    · rw [up_eq, up_ne (by omega), up_ne (by omega)]; omega
    · rw [up_eq, up_ne (by omega), up_ne (by omega)]; omega
    · rw [up_eq, up_ne (by omega), up_ne (by omega)]; omega
  · unfold va_up; split
    · omega
    · exact jK i a b
  · rcases jj with ⟨a, b⟩ | ⟨f1, f2, f3, f4, f5, f6, f7, f8, f9, f10, f11⟩
    · exact .inl ⟨by rw [o 3 (by omega)]; exact a, fun q hq => by rw [o _ (by omega)]; exact b q hq⟩
    · refine .inr ⟨by rw [o 3 (by omega)]; exact f1, by rw [o 3 (by omega)]; exact f2, by rw [o 3 (by omega), o 4 (by omega)]; exact f3, by rw [o 5 (by omega)]; exact f4, by rw [o 5 (by omega)]; exact f5, by rw [o 6 (by omega)]; exact f6, fun g hg => by rw [o _ (by omega)]; exact f7 g hg, by rw [o 3 (by omega), o 10 (by omega)]; exact f8, by rw [d]; exact f9, fun p hp => ?_, fun q k hq hk => ?_⟩
      · rw [o 3 (by omega)] at hp; rw [o _ (by omega), o _ (by omega), o _ (by omega), o _ (by omega)]; exact f10 p hp
      · rw [o _ (by omega)] at hk; rw [o 3 (by omega), o _ (by omega)]; exact f11 q k hq hk
theorem gm_dst_I {z : Bool} {x : Int64} {q : Nat} (hI : gm_I K S) (hK : K + 40 < 2 ^ 26) (hK9 : 12 ≤ K) : gm_I (K + 40) (gm_dst z S x q).2.1 ∧ ∀ i, 69 ≤ i → (gm_dst z S x q).2.1 i = S i := by
  rcases gm_d5 S q with ⟨h1, h2⟩ | ⟨h1, h2, h3⟩ | ⟨h1, h2, h3⟩ | ⟨h1, h2⟩ | ⟨h1, h2, h4⟩
  · obtain ⟨a, b, c, d⟩ := gm_dst_p (by omega) (by omega) h2
    rw [gm_dst_1 h1 h2]; exact ⟨gm_put_I hI a b c d hK hK9, gm_put_69 hI a b c d hK hK9⟩
  · rw [gm_dst_2 h1 h2 h3]; exact ⟨gm_I_up (gm_pass_I hI h3 hK9) (by omega) hK, gm_pass_69 hI h3 hK9⟩
  · rw [gm_dst_3 h1 h2 h3]; exact ⟨gm_play_I hI h3 hK hK9, gm_play_69 hI h3 hK hK9⟩
  · have w := gm_dst_s (by omega) (by omega) h2
    rw [gm_dst_4 h1 h2]; exact ⟨gm_I_up (gm_set_I hI w hK9) (by omega) hK, fun i hi => up_ne (by omega)⟩
  · rw [gm_dst_5 h1 h2 h4]; exact ⟨gm_I_up hI (by omega) hK, fun _ _ => rfl⟩
theorem gm_cmp_lt {a b : Int64} : lg_cmp a b < 0 ↔ a < b := lg_cmp_lt a b
theorem c6_runScript0 {w : Int32} {y : Int64} (hw : gm_in (nI 1) w (nI 3) = false) : sm_F G mX6_runScript 1 [.ref m, .int w, .long y] (sm_om G h m F X (sm_as A S) L) (.inl (some (.int (nI 0)))) (sm_om G h m (va_up F 0 (nI 1)) X (sm_as A S) L) := by
  unfold sm_F sm_C
  show sm_V G _ _ _ 0 0 0 [(0, .ref m), (1, .int w), (2, .long y)] [] _
  refine sv_aload_n dX6_runScript_0 rfl ?_
  refine sv_iconst (nI 0) dX6_runScript_1 (by decide) ?_
  refine rm_put0 rfl dX6_runScript_2 ?_
  refine sv_lconst (1) dX6_runScript_5 (by decide) ?_
  refine sv_lstore (lv' := [(4, _), (0, _), (1, _), (2, _)]) dX6_runScript_6 (by decide) rfl ?_
  refine sv_iconst (nI 0) dX6_runScript_8 (by decide) ?_
  refine sv_istore (lv' := [(6, _), (4, _), (0, _), (1, _), (2, _)]) dX6_runScript_9 (by decide) rfl ?_
  refine sv_sub [0, 1, 2, 3, 4] rfl (sv_rec (pc := 11) (fun s : Nat × Int64 => 3 - s.1) (I := fun s => s.1 ≤ 3) (lv := fun s => [(6, .int (nI s.1)), (4, .long s.2), (0, .ref m), (1, .int w), (2, .long y)]) (hp := fun _ => (sm_om G h m (va_up F 0 (nI 0)) X (sm_as A S) L)) (0, 1) (Nat.zero_le _) ?_)
  · intro s hi ih
    have hi3 : s.1 ≤ 3 := hi
    show sm_V G _ _ _ _ _ _ [(6, .int (nI s.1)), (4, .long s.2), (0, .ref m), (1, .int w), (2, .long y)] [] (sm_om G h m (va_up F 0 (nI 0)) X (sm_as A S) L)
    refine sv_iload dX6_runScript_11 rfl ?_
    refine sv_iload_n dX6_runScript_13 rfl ?_
    refine sv_icmp_ge 37 dX6_runScript_14 (by decide) (fun c_14 => ?_) (fun c_14 => ?_)
    · refine sv_iload_n dX6_runScript_37 rfl ?_
      refine sv_iconst (nI 1) dX6_runScript_38 (by decide) ?_
      refine sv_iconst (nI 3) dX6_runScript_39 (by decide) ?_
      refine sv_callS (As := [_, _, _]) sc_X6_53 (c6_inG) rfl rfl (Nat.le_of_ble_eq_true rfl) dX6_runScript_40 ⟨by decide, by decide⟩ ⟨Nat.le_refl _, Nat.le_refl _⟩ (Nat.le_of_ble_eq_true rfl) ?_
      refine sv_ifN_eq 59 dX6_runScript_43 (by decide) (by first | omega | exact Nat.lt_trans (b2n_lt _) (by decide)) (fun c_43 => ?_) (fun c_43 => absurd c_43 (fun z => z ((b2n_0 _).mpr hw)))
      refine sv_aload_n dX6_runScript_59 rfl ?_
      refine sv_iconst (nI 1) dX6_runScript_60 (by decide) ?_
      refine sv_callV (As := [_]) sc_X6_167 (c6_fails) rfl rfl (Nat.le_of_ble_eq_true rfl) dX6_runScript_61 ⟨by decide, by decide⟩ ⟨Nat.le_refl _, Nat.le_refl _⟩ (Nat.le_of_ble_eq_true rfl) om_0 (List.cons_ne_nil _ _) rfl ?_
      refine sv_iret dX6_runScript_64 rfl rfl (Nat.le_refl _) (Nat.le_refl _) ?_
      exact ⟨rfl, om_FXAL (up_up _ _ _ _) rfl rfl rfl⟩
    · refine sv_iload dX6_runScript_17 rfl ?_
      refine sv_iconst (nI 3) dX6_runScript_19 (by decide) ?_
      refine sv_icmpN_ge 37 dX6_runScript_20 (by decide) (by first | omega | exact Nat.lt_trans (b2n_lt _) (by decide)) (by first | omega | exact Nat.lt_trans (b2n_lt _) (by decide)) (fun c_20 => ?_) (fun c_20 => ?_)
      · refine sv_iload_n dX6_runScript_37 rfl ?_
        refine sv_iconst (nI 1) dX6_runScript_38 (by decide) ?_
        refine sv_iconst (nI 3) dX6_runScript_39 (by decide) ?_
        refine sv_callS (As := [_, _, _]) sc_X6_53 (c6_inG) rfl rfl (Nat.le_of_ble_eq_true rfl) dX6_runScript_40 ⟨by decide, by decide⟩ ⟨Nat.le_refl _, Nat.le_refl _⟩ (Nat.le_of_ble_eq_true rfl) ?_
        refine sv_ifN_eq 59 dX6_runScript_43 (by decide) (by first | omega | exact Nat.lt_trans (b2n_lt _) (by decide)) (fun c_43 => ?_) (fun c_43 => absurd c_43 (fun z => z ((b2n_0 _).mpr hw)))
        refine sv_aload_n dX6_runScript_59 rfl ?_
        refine sv_iconst (nI 1) dX6_runScript_60 (by decide) ?_
        refine sv_callV (As := [_]) sc_X6_167 (c6_fails) rfl rfl (Nat.le_of_ble_eq_true rfl) dX6_runScript_61 ⟨by decide, by decide⟩ ⟨Nat.le_refl _, Nat.le_refl _⟩ (Nat.le_of_ble_eq_true rfl) om_0 (List.cons_ne_nil _ _) rfl ?_
        refine sv_iret dX6_runScript_64 rfl rfl (Nat.le_refl _) (Nat.le_refl _) ?_
        exact ⟨rfl, om_FXAL (up_up _ _ _ _) rfl rfl rfl⟩
      · refine sv_lload dX6_runScript_23 rfl ?_
        refine sv_ldc2 dX6_runScript_25 (sm_tc ck_5_6_in 5 rfl rfl) ?_
        refine sv_lmul dX6_runScript_28 ?_
        refine sv_lstore (lv' := [(4, _), (6, _), (0, _), (1, _), (2, _)]) dX6_runScript_29 (by decide) rfl ?_
        refine sv_iinc1 (lv' := [(6, _), (4, _), (0, _), (1, _), (2, _)]) dX6_runScript_31 rfl (by decide) rfl ?_
        refine sv_goto 11 dX6_runScript_34 (by decide) ?_
        exact sv_sub [0, 1, 2, 3, 4] rfl (ih (s.1 + 1, s.2 * 10000) (by show 3 - (s.1 + 1) < 3 - s.1; omega) c_20)
theorem c6_runScript1 {j : Nat} {y : Int64} (hj1 : 1 ≤ j) (hj : j ≤ 3) (hy : gm_sok j y = false) : sm_F G mX6_runScript 1 [.ref m, .int (nI j), .long y] (sm_om G h m F X (sm_as A S) L) (.inl (some (.int (nI 0)))) (sm_om G h m (va_up F 0 (nI 1)) X (sm_as A S) L) := by
  unfold sm_F sm_C
  show sm_V G _ _ _ 0 0 0 [(0, .ref m), (1, .int (nI j)), (2, .long y)] [] _
  refine sv_aload_n dX6_runScript_0 rfl ?_
  refine sv_iconst (nI 0) dX6_runScript_1 (by decide) ?_
  refine rm_put0 rfl dX6_runScript_2 ?_
  refine sv_lconst (1) dX6_runScript_5 (by decide) ?_
  refine sv_topl (lN (gm_p4 0)) (rfl) ?_
  refine sv_lstore (lv' := [(4, _), (0, _), (1, _), (2, _)]) dX6_runScript_6 (by decide) rfl ?_
  refine sv_iconst (nI 0) dX6_runScript_8 (by decide) ?_
  refine sv_istore (lv' := [(6, _), (4, _), (0, _), (1, _), (2, _)]) dX6_runScript_9 (by decide) rfl ?_
  refine sv_sub [0, 1, 2, 3, 4] rfl (sv_loop (pc := 11) (lv := fun n => [(6, .int (nI n)), (4, .long (lN (gm_p4 n))), (0, .ref m), (1, .int (nI j)), (2, .long y)]) (hp := fun n => (sm_om G h m (va_up F 0 (nI 0)) X (sm_as A S) L)) (I := fun n => True) (N := j) (trivial) ?_ ?_)
  · intro hI
    show sm_V G _ _ _ _ _ _ [(6, .int (nI j)), (4, .long (lN (gm_p4 j))), (0, .ref m), (1, .int (nI j)), (2, .long y)] [] (sm_om G h m (va_up F 0 (nI 0)) X (sm_as A S) L)
    refine sv_iload dX6_runScript_11 rfl ?_
    refine sv_iload_n dX6_runScript_13 rfl ?_
    refine sv_icmpN_ge 37 dX6_runScript_14 (by decide) (by first | omega | exact Nat.lt_trans (b2n_lt _) (by decide)) (by first | omega | exact Nat.lt_trans (b2n_lt _) (by decide)) (fun c_14 => ?_) (fun c_14 => absurd c_14 (by omega))
    refine sv_iload_n dX6_runScript_37 rfl ?_
    refine sv_iconst (nI 1) dX6_runScript_38 (by decide) ?_
    refine sv_iconst (nI 3) dX6_runScript_39 (by decide) ?_
    refine sv_callS (As := [_, _, _]) sc_X6_53 (c6_in (by omega) (by omega) (by omega)) rfl rfl (Nat.le_of_ble_eq_true rfl) dX6_runScript_40 ⟨by decide, by decide⟩ ⟨Nat.le_refl _, Nat.le_refl _⟩ (Nat.le_of_ble_eq_true rfl) ?_
    refine sv_top (nI 1) (by rw [decide_eq_true (by omega)]; rfl) ?_
    refine sv_ifN_eq 59 dX6_runScript_43 (by decide) (by first | omega | exact Nat.lt_trans (b2n_lt _) (by decide)) (fun c_43 => absurd c_43 (by omega)) (fun c_43 => ?_)
    refine sv_lload_n dX6_runScript_46 rfl ?_
    refine sv_lconst (0) dX6_runScript_47 (by decide) ?_
    refine sv_lcmp dX6_runScript_48 ?_
    refine sv_if_lt 59 dX6_runScript_49 (by decide) (fun c_49 => ?_) (fun c_49 => ?_)
    · refine sv_aload_n dX6_runScript_59 rfl ?_
      refine sv_iconst (nI 1) dX6_runScript_60 (by decide) ?_
      refine sv_callV (As := [_]) sc_X6_167 (c6_fails) rfl rfl (Nat.le_of_ble_eq_true rfl) dX6_runScript_61 ⟨by decide, by decide⟩ ⟨Nat.le_refl _, Nat.le_refl _⟩ (Nat.le_of_ble_eq_true rfl) om_0 (List.cons_ne_nil _ _) rfl ?_
      refine sv_iret dX6_runScript_64 rfl rfl (Nat.le_refl _) (Nat.le_refl _) ?_
      exact ⟨rfl, om_FXAL (up_up _ _ _ _) rfl rfl rfl⟩
    · refine sv_lload_n dX6_runScript_52 rfl ?_
      refine sv_lload dX6_runScript_53 rfl ?_
      refine sv_lcmp dX6_runScript_55 ?_
      refine sv_if_lt 65 dX6_runScript_56 (by decide) (fun c_56 => absurd c_56 ((fun z => absurd (decide_eq_true ⟨fun z2 => c_49 (gm_cmp_lt.mpr z2), gm_cmp_lt.mp z⟩) (ne_t hy)) c_56)) (fun c_56 => ?_)
      refine sv_aload_n dX6_runScript_59 rfl ?_
      refine sv_iconst (nI 1) dX6_runScript_60 (by decide) ?_
      refine sv_callV (As := [_]) sc_X6_167 (c6_fails) rfl rfl (Nat.le_of_ble_eq_true rfl) dX6_runScript_61 ⟨by decide, by decide⟩ ⟨Nat.le_refl _, Nat.le_refl _⟩ (Nat.le_of_ble_eq_true rfl) om_0 (List.cons_ne_nil _ _) rfl ?_
      refine sv_iret dX6_runScript_64 rfl rfl (Nat.le_refl _) (Nat.le_refl _) ?_
      exact ⟨rfl, om_FXAL (up_up _ _ _ _) rfl rfl rfl⟩
  · intro n hn hI ih
    show sm_V G _ _ _ _ _ _ [(6, .int (nI n)), (4, .long (lN (gm_p4 n))), (0, .ref m), (1, .int (nI j)), (2, .long y)] [] (sm_om G h m (va_up F 0 (nI 0)) X (sm_as A S) L)
    refine sv_iload dX6_runScript_11 rfl ?_
    refine sv_iload_n dX6_runScript_13 rfl ?_
    refine sv_icmpN_ge 37 dX6_runScript_14 (by decide) (by first | omega | exact Nat.lt_trans (b2n_lt _) (by decide)) (by first | omega | exact Nat.lt_trans (b2n_lt _) (by decide)) (fun c_14 => absurd c_14 (by omega)) (fun c_14 => ?_)
    refine sv_iload dX6_runScript_17 rfl ?_
    refine sv_iconst (nI 3) dX6_runScript_19 (by decide) ?_
    refine sv_icmpN_ge 37 dX6_runScript_20 (by decide) (by first | omega | exact Nat.lt_trans (b2n_lt _) (by decide)) (by first | omega | exact Nat.lt_trans (b2n_lt _) (by decide)) (fun c_20 => absurd c_20 (by omega)) (fun c_20 => ?_)
    refine sv_lload dX6_runScript_23 rfl ?_
    refine sv_ldc2 dX6_runScript_25 (sm_tc ck_5_6_in 5 rfl rfl) ?_
    refine sv_lmul dX6_runScript_28 ?_
    refine sv_topl (lN (gm_p4 (n + 1))) (lN_mul (gm_p4 n) 10000) ?_
    refine sv_lstore (lv' := [(4, _), (6, _), (0, _), (1, _), (2, _)]) dX6_runScript_29 (by decide) rfl ?_
    refine sv_iinc1 (lv' := [(6, _), (4, _), (0, _), (1, _), (2, _)]) dX6_runScript_31 rfl (by decide) rfl ?_
    refine sv_goto 11 dX6_runScript_34 (by decide) ?_
    exact sv_sub [0, 1, 2, 3, 4] rfl (ih trivial)
/-- the line, what is found so far, and what the reference holds -/
abbrev gm_Rs : Type := Nat × Int32 × gm_Gs
def gm_rsi (K n v : Nat) (F : Nat → Int32) (X : Nat → Int64) (A : Nat → Nat → Int32) (S : gm_S) (R : Int32) (s : gm_Rs) : Prop :=
  s.1 ≤ n ∧ gm_ag F X A s.2.2.1 s.2.2.2.1 s.2.2.2.2.1 ∧ (∀ i, 69 ≤ i → s.2.2.2.2.2.1 i = S i) ∧ gm_I (K + 40 * s.1) s.2.2.2.2.2.1 ∧ ((s.2.1 = -1 ∧ gm_scr false v n (n - s.1) s.2.2.2.2.2.1 s.2.2.2.2.2.2 = R) ∨ (s.2.1 ≠ -1 ∧ s.2.1 = R))
theorem gm_rsi_t {n v q : Nat} {R : Int32} {s : gm_Rs} {F1 : Nat → Int32} {X1 : Nat → Int64} {A1 : Nat → Nat → Int32} {D : Bool × gm_S × Int64} (h : gm_rsi K n v F X A S R s) (hn : s.1 < n) (hn3 : n ≤ 3) (hm : s.2.1 = -1) (hK : K + 60000 < 2 ^ 26) (hK9 : 12 ≤ K) (ha : gm_ag F X A F1 X1 A1) (hq : v / gm_p4 (n - (s.1 + 1)) % 10000 = q) (hD : gm_dst false s.2.2.2.2.2.1 s.2.2.2.2.2.2 q = D) (h1 : D.1 = true) : gm_rsi K n v F X A S R (s.1 + 1, -1, F1, X1, A1, D.2.1, D.2.2) := by
  obtain ⟨a, b, c, d, e⟩ := h
  have e := (e.resolve_right (fun z => z.1 hm)).2
  obtain ⟨i1, i2⟩ := gm_dst_I (z := false) (x := s.2.2.2.2.2.2) (q := q) d (by omega) (by omega)
  rw [hD] at i1 i2
  rw [show n - s.1 = n - (s.1 + 1) + 1 by omega, gm_scr_t hq hD h1] at e
  have i3 : gm_I (K + 40 * (s.1 + 1)) D.2.1 := by rw [show K + 40 * (s.1 + 1) = K + 40 * s.1 + 40 by omega]; exact i1
  exact ⟨hn, ha, fun i hi => (i2 i hi).trans (c i hi), i3, .inl ⟨rfl, e⟩⟩
theorem gm_rsi_f {n v q : Nat} {R : Int32} {s : gm_Rs} {F1 : Nat → Int32} {X1 : Nat → Int64} {A1 : Nat → Nat → Int32} {D : Bool × gm_S × Int64} (h : gm_rsi K n v F X A S R s) (hn : s.1 < n) (hn3 : n ≤ 3) (hm : s.2.1 = -1) (hK : K + 60000 < 2 ^ 26) (hK9 : 12 ≤ K) (ha : gm_ag F X A F1 X1 A1) (hq : v / gm_p4 (n - (s.1 + 1)) % 10000 = q) (hD : gm_dst false s.2.2.2.2.2.1 s.2.2.2.2.2.2 q = D) (h1 : D.1 = false) : gm_rsi K n v F X A S R (s.1 + 1, nI s.1, F1, X1, A1, D.2.1, D.2.2) := by
  obtain ⟨a, b, c, d, e⟩ := h
  have e := (e.resolve_right (fun z => z.1 hm)).2
  obtain ⟨i1, i2⟩ := gm_dst_I (z := false) (x := s.2.2.2.2.2.2) (q := q) d (by omega) (by omega)
  rw [hD] at i1 i2
  rw [show n - s.1 = n - (s.1 + 1) + 1 by omega, gm_scr_f hq hD h1, show n - (n - (s.1 + 1) + 1) = s.1 by omega] at e
  have i3 : gm_I (K + 40 * (s.1 + 1)) D.2.1 := by rw [show K + 40 * (s.1 + 1) = K + 40 * s.1 + 40 by omega]; exact i1
  exact ⟨hn, ha, fun i hi => (i2 i hi).trans (c i hi), i3, .inr ⟨ne_1 (by omega), e⟩⟩
theorem gm_rsi_e {n v : Nat} {R : Int32} {s : gm_Rs} (h : gm_rsi K n v F X A S R s) (he : n ≤ s.1 ∨ s.2.1 ≠ -1) : s.2.1 = R := by
  obtain ⟨a, b, c, d, e⟩ := h
  rcases e with ⟨e1, e2⟩ | ⟨e1, e2⟩
  · rcases he with he | he
    · rw [e1, ← e2, show n - s.1 = 0 by omega]; rfl
    · exact absurd e1 he
  · exact e2
theorem gm_p4_d {k : Nat} (hk : k < 3) : lN (gm_p4 (k + 1)) / 10000 = lN (gm_p4 k) := by
  have := gm_p4_lt (n := k) (by omega)
  have e : lN (gm_p4 (k + 1)) / lN 10000 = lN (gm_p4 (k + 1) / 10000) := pk_lDiv (by show gm_p4 k * 10000 < _; omega) (by omega) (by omega)
  rw [show (10000 : Int64) = lN 10000 from rfl, e, show gm_p4 (k + 1) = gm_p4 k * 10000 from rfl, Nat.mul_div_cancel _ (by omega)]
theorem gm_p4_0 {k : Nat} (hk : k ≤ 3) : ¬ lN (gm_p4 k) = 0 := by
  have := gm_p4_lt hk
  rw [show (0 : Int64) = lN 0 from rfl, pk_lEQ (by omega) (by omega)]; omega
theorem gm_p4_q {v k : Nat} (hk : k < 3) (hv : v < 2 ^ 63) : lN v / lN (gm_p4 k) = lN (v / gm_p4 k) := by
  have := gm_p4_lt (n := k) (by omega)
  exact pk_lDiv hv (by omega) (by omega)
theorem gm_p4_r {v : Nat} (hv : v < 2 ^ 63) : lN v - lN v / 10000 * 10000 = lN (v % 10000) := by
  rw [show (10000 : Int64) = lN 10000 from rfl]; exact pk_lRem hv (by omega) (by omega)
theorem c6_runScriptK {x : Int64} {j v : Nat} (hI : gm_I K S) (hK : K + 60000 < 2 ^ 26) (hK9 : 12 ≤ K) (hj1 : 1 ≤ j) (hj : j ≤ 3) (hv : v < gm_p4 j) : sm_C G mX6_runScript 9 0 0 [.ref m, .int (nI j), .long (lN v)] (sm_om G h m F (va_up X 2 x) (sm_as A S) L) (fun r1 h1 => r1 = .inl (some (.int (gm_scr false v j j S x))) ∧ ∃ F1 X1 A1, gm_ag (va_up F 0 (nI 0)) (va_up X 14 x) (gm_kp A S 69) F1 X1 A1 ∧ h1 = sm_om G h m F1 (va_up X1 2 x) (sm_as A1 S) L) := by
  unfold sm_C
  show sm_V G _ _ _ 0 0 0 [(0, .ref m), (1, .int (nI j)), (2, .long (lN v))] [] _
  refine sv_aload_n dX6_runScript_0 rfl ?_
  refine sv_iconst (nI 0) dX6_runScript_1 (by decide) ?_
  refine rm_put0 rfl dX6_runScript_2 ?_
  refine sv_lconst (1) dX6_runScript_5 (by decide) ?_
  refine sv_topl (lN (gm_p4 0)) (rfl) ?_
  refine sv_lstore (lv' := [(4, _), (0, _), (1, _), (2, _)]) dX6_runScript_6 (by decide) rfl ?_
  refine sv_iconst (nI 0) dX6_runScript_8 (by decide) ?_
  refine sv_istore (lv' := [(6, _), (4, _), (0, _), (1, _), (2, _)]) dX6_runScript_9 (by decide) rfl ?_
  refine sv_sub [0, 1, 2, 3, 4] rfl (sv_loop (pc := 11) (lv := fun r => [(6, .int (nI r)), (4, .long (lN (gm_p4 r))), (0, .ref m), (1, .int (nI j)), (2, .long (lN v))]) (hp := fun r => (sm_om G h m (va_up F 0 (nI 0)) (va_up X 2 x) (sm_as A S) L)) (I := fun r => True) (N := j) (trivial) ?_ ?_)
  · intro hI_r
    show sm_V G _ _ _ _ _ _ [(6, .int (nI j)), (4, .long (lN (gm_p4 j))), (0, .ref m), (1, .int (nI j)), (2, .long (lN v))] [] (sm_om G h m (va_up F 0 (nI 0)) (va_up X 2 x) (sm_as A S) L)
    refine sv_iload dX6_runScript_11 rfl ?_
    refine sv_iload_n dX6_runScript_13 rfl ?_
    refine sv_icmpN_ge 37 dX6_runScript_14 (by decide) (by first | omega | exact Nat.lt_trans (b2n_lt _) (by decide)) (by first | omega | exact Nat.lt_trans (b2n_lt _) (by decide)) (fun c_14 => ?_) (fun c_14 => absurd c_14 (by omega))
    refine sv_iload_n dX6_runScript_37 rfl ?_
    refine sv_iconst (nI 1) dX6_runScript_38 (by decide) ?_
    refine sv_iconst (nI 3) dX6_runScript_39 (by decide) ?_
    refine sv_callS (As := [_, _, _]) sc_X6_53 (c6_in (by omega) (by omega) (by omega)) rfl rfl (Nat.le_of_ble_eq_true rfl) dX6_runScript_40 ⟨by decide, by decide⟩ ⟨Nat.le_refl _, Nat.le_refl _⟩ (Nat.le_of_ble_eq_true rfl) ?_
    refine sv_top (nI 1) (by rw [decide_eq_true (by omega)]; rfl) ?_
    refine sv_ifN_eq 59 dX6_runScript_43 (by decide) (by first | omega | exact Nat.lt_trans (b2n_lt _) (by decide)) (fun c_43 => absurd c_43 (by omega)) (fun c_43 => ?_)
    refine sv_lload_n dX6_runScript_46 rfl ?_
    refine sv_lconst (0) dX6_runScript_47 (by decide) ?_
    refine sv_lcmp dX6_runScript_48 ?_
    refine sv_if_lt 59 dX6_runScript_49 (by decide) (fun c_49 => absurd c_49 ((fun z => absurd (gm_cmp_lt.mp z) (by rw [show (0 : Int64) = lN 0 from rfl, pk_lLT (by have := (gm_p4_lt hj).2; omega) (by omega)]; omega)) c_49)) (fun c_49 => ?_)
    refine sv_lload_n dX6_runScript_52 rfl ?_
    refine sv_lload dX6_runScript_53 rfl ?_
    refine sv_lcmp dX6_runScript_55 ?_
    refine sv_if_lt 65 dX6_runScript_56 (by decide) (fun c_56 => ?_) (fun c_56 => absurd c_56 (fun z => z (gm_cmp_lt.mpr ((pk_lLT (by have := (gm_p4_lt hj).2; omega) (by have := (gm_p4_lt hj).2; omega)).mpr hv))))
    refine sv_aload_n dX6_runScript_65 rfl ?_
    refine sv_callV (As := []) sc_X6_236 (c6_keeps) rfl rfl (Nat.le_of_ble_eq_true rfl) dX6_runScript_66 ⟨by decide, by decide⟩ ⟨Nat.le_refl _, Nat.le_refl _⟩ (Nat.le_of_ble_eq_true rfl) om_0 (List.cons_ne_nil _ _) rfl ?_
    refine sv_lload dX6_runScript_69 rfl ?_
    refine sv_topl (lN (gm_p4 (j - 0))) (rfl) ?_
    refine sv_lstore (lv' := [(6, _), (4, _), (0, _), (1, _), (2, _)]) dX6_runScript_71 (by decide) rfl ?_
    refine sv_iconst (-1) dX6_runScript_73 (by decide) ?_
    refine sv_istore (lv' := [(8, _), (6, _), (4, _), (0, _), (1, _), (2, _)]) dX6_runScript_74 (by decide) rfl ?_
    refine sv_iconst (nI 0) dX6_runScript_76 (by decide) ?_
    refine sv_istore (lv' := [(9, _), (8, _), (6, _), (4, _), (0, _), (1, _), (2, _)]) dX6_runScript_77 (by decide) rfl ?_
    refine sv_heap (h' := (sm_om G h m (va_up F 0 (nI 0)) (va_up (va_up X 14 x) 2 x) (sm_as (gm_kp A S 69) S) L)) (om_FXAL rfl gm_kpX rfl rfl) (sv_sub [0, 1, 2, 4, 5, 6] rfl (sv_rec (pc := 79) (fun s : gm_Rs => j - s.1) (I := gm_rsi K j v (va_up F 0 (nI 0)) (va_up X 14 x) (gm_kp A S 69) S (gm_scr false v j j S x)) (lv := fun s => [(9, .int (nI s.1)), (8, .int s.2.1), (6, .long (lN (gm_p4 (j - s.1)))), (0, .ref m), (1, .int (nI j)), (2, .long (lN v))]) (hp := fun s => (sm_om G h m s.2.2.1 (va_up s.2.2.2.1 2 s.2.2.2.2.2.2) (sm_as s.2.2.2.2.1 s.2.2.2.2.2.1) L)) (0, -1, (va_up F 0 (nI 0)), (va_up X 14 x), (gm_kp A S 69), S, x) ⟨Nat.zero_le _, ⟨fun _ _ _ _ => rfl, fun _ _ _ => rfl, fun _ _ => rfl⟩, fun _ _ => rfl, hI, .inl ⟨rfl, rfl⟩⟩ ?_))
    · intro s hi ih
      show sm_V G _ _ _ _ _ _ [(9, .int (nI s.1)), (8, .int s.2.1), (6, .long (lN (gm_p4 (j - s.1)))), (0, .ref m), (1, .int (nI j)), (2, .long (lN v))] [] (sm_om G h m s.2.2.1 (va_up s.2.2.2.1 2 s.2.2.2.2.2.2) (sm_as s.2.2.2.2.1 s.2.2.2.2.2.1) L)
      obtain ⟨hle, hg, hb, i1, hf⟩ := id hi
      refine sv_iload dX6_runScript_79 rfl ?_
      refine sv_iload_n dX6_runScript_81 rfl ?_
      refine sv_icmpN_ge 158 dX6_runScript_82 (by decide) (by first | omega | exact Nat.lt_trans (b2n_lt _) (by decide)) (by first | omega | exact Nat.lt_trans (b2n_lt _) (by decide)) (fun c_82 => ?_) (fun c_82 => ?_)
      · have ef := gm_rsi_e hi (.inl c_82)
        refine sv_aload_n dX6_runScript_158 rfl ?_
        refine sv_callV (As := []) sc_X6_242 (c6_takesKept (T := S) (fun i hi9 => by rw [hg.2.2 13 (by omega)]; show (if i < 69 then nI (S i) else A 13 i) = _; rw [if_pos hi9]) hb) rfl rfl (Nat.le_of_ble_eq_true rfl) dX6_runScript_159 ⟨by decide, by decide⟩ ⟨Nat.le_refl _, Nat.le_refl _⟩ (Nat.le_of_ble_eq_true rfl) om_0 (List.cons_ne_nil _ _) rfl ?_
        refine sv_iload dX6_runScript_162 rfl ?_
        refine sv_iret dX6_runScript_164 rfl rfl (Nat.le_refl _) (Nat.le_refl _) ?_
        exact ⟨rI ef, _, _, _, hg, om_FXAL rfl (by rw [up_up]; exact congrArg (va_up s.2.2.2.1 2) ((up_ne (by omega)).trans ((hg.2.1 14 (by omega) (by omega)).trans up_eq))) rfl rfl⟩
      · refine sv_iload dX6_runScript_85 rfl ?_
        refine sv_iconst (-1) dX6_runScript_87 (by decide) ?_
        refine sv_icmp_ne 158 dX6_runScript_88 (by decide) (fun c_88 => ?_) (fun c_88 => ?_)
        · have ef := gm_rsi_e hi (.inr c_88)
          refine sv_aload_n dX6_runScript_158 rfl ?_
          refine sv_callV (As := []) sc_X6_242 (c6_takesKept (T := S) (fun i hi9 => by rw [hg.2.2 13 (by omega)]; show (if i < 69 then nI (S i) else A 13 i) = _; rw [if_pos hi9]) hb) rfl rfl (Nat.le_of_ble_eq_true rfl) dX6_runScript_159 ⟨by decide, by decide⟩ ⟨Nat.le_refl _, Nat.le_refl _⟩ (Nat.le_of_ble_eq_true rfl) om_0 (List.cons_ne_nil _ _) rfl ?_
          refine sv_iload dX6_runScript_162 rfl ?_
          refine sv_iret dX6_runScript_164 rfl rfl (Nat.le_refl _) (Nat.le_refl _) ?_
          exact ⟨rI ef, _, _, _, hg, om_FXAL rfl (by rw [up_up]; exact congrArg (va_up s.2.2.2.1 2) ((up_ne (by omega)).trans ((hg.2.1 14 (by omega) (by omega)).trans up_eq))) rfl rfl⟩
        · obtain ⟨k2, hk2⟩ : ∃ k2, k2 = j - (s.1 + 1) := ⟨_, rfl⟩
          have ek : j - s.1 = k2 + 1 := by omega
          have hv2 : v < 2 ^ 63 := by have := (gm_p4_lt hj).2; omega
          have hvq : v / gm_p4 k2 < 2 ^ 63 := Nat.lt_of_le_of_lt (Nat.div_le_self _ _) hv2
          obtain ⟨q2, hq20⟩ : ∃ q2, v / gm_p4 k2 % 10000 = q2 := ⟨_, rfl⟩
          have hq2 : v / gm_p4 (j - (s.1 + 1)) % 10000 = q2 := by rw [← hk2]; exact hq20
          have hq3 : q2 < 10000 := by omega
          refine sv_lload dX6_runScript_91 rfl ?_
          refine sv_topl (lN (gm_p4 (k2 + 1))) (by rw [ek]) ?_
          refine sv_ldc2 dX6_runScript_93 (sm_tc ck_5_6_in 5 rfl rfl) ?_
          refine sv_ldiv dX6_runScript_96 (by decide) ?_
          refine sv_topl (lN (gm_p4 (j - (s.1 + 1)))) (by rw [gm_p4_d (by omega), hk2]) ?_
          refine sv_lstore (lv' := [(6, _), (9, _), (8, _), (0, _), (1, _), (2, _)]) dX6_runScript_97 (by decide) rfl ?_
          refine sv_lload_n dX6_runScript_99 rfl ?_
          refine sv_lload dX6_runScript_100 rfl ?_
          refine sv_ldiv dX6_runScript_102 (gm_p4_0 (by omega)) ?_
          refine sv_topl (lN (v / gm_p4 k2)) (by rw [← hk2]; exact gm_p4_q (by omega) hv2) ?_
          refine sv_ldc2 dX6_runScript_103 (sm_tc ck_5_6_in 5 rfl rfl) ?_
          refine sv_lrem dX6_runScript_106 (by decide) ?_
          refine sv_topl (lN q2) (by rw [gm_p4_r hvq, hq20]) ?_
          refine sv_l2i dX6_runScript_107 ?_
          refine sv_top (nI q2) (lN_i q2) ?_
          refine sv_istore (lv' := [(10, _), (6, _), (9, _), (8, _), (0, _), (1, _), (2, _)]) dX6_runScript_108 (by decide) rfl ?_
          rcases gm_d5 s.2.2.2.2.2.1 q2 with ⟨h1, h2⟩ | ⟨h1, h2, h3⟩ | ⟨h1, h2, h3⟩ | ⟨h1, h2⟩ | ⟨h1, h2, h4⟩
          · obtain ⟨hw1, hw2, hw3, hw4⟩ := gm_dst_p (by omega) (by omega) h2
            refine sv_aload_n dX6_runScript_110 rfl ?_
            refine sv_iload dX6_runScript_111 rfl ?_
            refine sv_sipush (nI 1000) dX6_runScript_113 (by decide) ?_
            refine sv_idivN dX6_runScript_116 (by first | omega | exact Nat.lt_trans (b2n_lt _) (by decide)) (by first | omega | exact Nat.lt_trans (b2n_lt _) (by decide)) (by first | omega | exact Nat.lt_trans (b2n_lt _) (by decide)) ?_
            refine sv_top (nI 1) (congrArg nI h1) ?_
            refine sv_iload dX6_runScript_117 rfl ?_
            refine sv_bipush (nI 100) dX6_runScript_119 (by decide) ?_
            refine sv_idivN dX6_runScript_121 (by first | omega | exact Nat.lt_trans (b2n_lt _) (by decide)) (by first | omega | exact Nat.lt_trans (b2n_lt _) (by decide)) (by first | omega | exact Nat.lt_trans (b2n_lt _) (by decide)) ?_
            refine sv_bipush (nI 10) dX6_runScript_122 (by decide) ?_
            refine sv_iremN dX6_runScript_124 (by first | omega | exact Nat.lt_trans (b2n_lt _) (by decide)) (by first | omega | exact Nat.lt_trans (b2n_lt _) (by decide)) (by first | omega | exact Nat.lt_trans (b2n_lt _) (by decide)) ?_
            refine sv_iload dX6_runScript_125 rfl ?_
            refine sv_bipush (nI 10) dX6_runScript_127 (by decide) ?_
            refine sv_idivN dX6_runScript_129 (by first | omega | exact Nat.lt_trans (b2n_lt _) (by decide)) (by first | omega | exact Nat.lt_trans (b2n_lt _) (by decide)) (by first | omega | exact Nat.lt_trans (b2n_lt _) (by decide)) ?_
            refine sv_bipush (nI 10) dX6_runScript_130 (by decide) ?_
            refine sv_iremN dX6_runScript_132 (by first | omega | exact Nat.lt_trans (b2n_lt _) (by decide)) (by first | omega | exact Nat.lt_trans (b2n_lt _) (by decide)) (by first | omega | exact Nat.lt_trans (b2n_lt _) (by decide)) ?_
            refine sv_iload dX6_runScript_133 rfl ?_
            refine sv_bipush (nI 10) dX6_runScript_135 (by decide) ?_
            refine sv_iremN dX6_runScript_137 (by first | omega | exact Nat.lt_trans (b2n_lt _) (by decide)) (by first | omega | exact Nat.lt_trans (b2n_lt _) (by decide)) (by first | omega | exact Nat.lt_trans (b2n_lt _) (by decide)) ?_
            refine sv_callV (As := [_, _, _, _]) sc_X6_257 (c6_doesP (a := q2 / 100 % 10) (b := q2 / 10 % 10) (c := q2 % 10) i1 (by omega) (by omega) (by omega) (by omega) (by omega) hw1 hw2 hw3 hw4) rfl rfl (Nat.le_of_ble_eq_true rfl) dX6_runScript_138 ⟨by decide, by decide⟩ ⟨Nat.le_refl _, Nat.le_refl _⟩ (Nat.le_of_ble_eq_true rfl) om_0 (List.cons_ne_nil _ _) rfl ?_
            have hD3 : gm_dst false s.2.2.2.2.2.1 s.2.2.2.2.2.2 q2 = (true, gm_put false s.2.2.2.2.2.1 s.2.2.2.2.2.2 (q2 / 100 % 10) (10 * (q2 / 10 % 10) + q2 % 10)) := gm_dst_1 h1 h2
            obtain ⟨T2, hT2⟩ : ∃ T2, gm_put false s.2.2.2.2.2.1 s.2.2.2.2.2.2 (q2 / 100 % 10) (10 * (q2 / 10 % 10) + q2 % 10) = T2 := ⟨_, rfl⟩
            rw [hT2] at hD3 ⊢
            refine sv_ifN_eq 148 dX6_runScript_141 (by decide) (by first | omega | exact Nat.lt_trans (b2n_lt _) (by decide)) (fun c_141 => absurd c_141 (by omega)) (fun c_141 => ?_)
            refine sv_iconst (-1) dX6_runScript_144 (by decide) ?_
            refine sv_goto 150 dX6_runScript_145 (by decide) ?_
            refine sv_istore (lv' := [(8, _), (10, _), (6, _), (9, _), (0, _), (1, _), (2, _)]) dX6_runScript_150 (by decide) rfl ?_
            refine sv_iinc1 (lv' := [(9, _), (8, _), (10, _), (6, _), (0, _), (1, _), (2, _)]) dX6_runScript_152 rfl (by decide) rfl ?_
            refine sv_goto 79 dX6_runScript_155 (by decide) ?_
            exact sv_sub [0, 1, 3, 4, 5, 6] rfl (ih (s.1 + 1, -1, s.2.2.1, s.2.2.2.1, s.2.2.2.2.1, T2.1, T2.2) (by show j - (s.1 + 1) < j - s.1; omega) (gm_rsi_t hi c_82 hj c_88 hK hK9 hg hq2 hD3 rfl))
          · skip
            refine sv_aload_n dX6_runScript_110 rfl ?_
            refine sv_iload dX6_runScript_111 rfl ?_
            refine sv_sipush (nI 1000) dX6_runScript_113 (by decide) ?_
            refine sv_idivN dX6_runScript_116 (by first | omega | exact Nat.lt_trans (b2n_lt _) (by decide)) (by first | omega | exact Nat.lt_trans (b2n_lt _) (by decide)) (by first | omega | exact Nat.lt_trans (b2n_lt _) (by decide)) ?_
            refine sv_top (nI 2) (congrArg nI h1) ?_
            refine sv_iload dX6_runScript_117 rfl ?_
            refine sv_bipush (nI 100) dX6_runScript_119 (by decide) ?_
            refine sv_idivN dX6_runScript_121 (by first | omega | exact Nat.lt_trans (b2n_lt _) (by decide)) (by first | omega | exact Nat.lt_trans (b2n_lt _) (by decide)) (by first | omega | exact Nat.lt_trans (b2n_lt _) (by decide)) ?_
            refine sv_bipush (nI 10) dX6_runScript_122 (by decide) ?_
            refine sv_iremN dX6_runScript_124 (by first | omega | exact Nat.lt_trans (b2n_lt _) (by decide)) (by first | omega | exact Nat.lt_trans (b2n_lt _) (by decide)) (by first | omega | exact Nat.lt_trans (b2n_lt _) (by decide)) ?_
            refine sv_iload dX6_runScript_125 rfl ?_
            refine sv_bipush (nI 10) dX6_runScript_127 (by decide) ?_
            refine sv_idivN dX6_runScript_129 (by first | omega | exact Nat.lt_trans (b2n_lt _) (by decide)) (by first | omega | exact Nat.lt_trans (b2n_lt _) (by decide)) (by first | omega | exact Nat.lt_trans (b2n_lt _) (by decide)) ?_
            refine sv_bipush (nI 10) dX6_runScript_130 (by decide) ?_
            refine sv_iremN dX6_runScript_132 (by first | omega | exact Nat.lt_trans (b2n_lt _) (by decide)) (by first | omega | exact Nat.lt_trans (b2n_lt _) (by decide)) (by first | omega | exact Nat.lt_trans (b2n_lt _) (by decide)) ?_
            refine sv_iload dX6_runScript_133 rfl ?_
            refine sv_bipush (nI 10) dX6_runScript_135 (by decide) ?_
            refine sv_iremN dX6_runScript_137 (by first | omega | exact Nat.lt_trans (b2n_lt _) (by decide)) (by first | omega | exact Nat.lt_trans (b2n_lt _) (by decide)) (by first | omega | exact Nat.lt_trans (b2n_lt _) (by decide)) ?_
            refine sv_callV (As := [_, _, _, _]) sc_X6_257 (c6_doesT (a := q2 / 100 % 10) (b := q2 / 10 % 10) (c := q2 % 10) i1 (by omega) (by omega) (by omega) (by omega) (by omega) h2 h3) rfl rfl (Nat.le_of_ble_eq_true rfl) dX6_runScript_138 ⟨by decide, by decide⟩ ⟨Nat.le_refl _, Nat.le_refl _⟩ (Nat.le_of_ble_eq_true rfl) om_0 (List.cons_ne_nil _ _) rfl ?_
            have hD3 : gm_dst false s.2.2.2.2.2.1 s.2.2.2.2.2.2 q2 = (true, gm_pass false s.2.2.2.2.2.1 s.2.2.2.2.2.2) := gm_dst_2 h1 h2 h3
            obtain ⟨T2, hT2⟩ : ∃ T2, gm_pass false s.2.2.2.2.2.1 s.2.2.2.2.2.2 = T2 := ⟨_, rfl⟩
            rw [hT2] at hD3 ⊢
            refine sv_ifN_eq 148 dX6_runScript_141 (by decide) (by first | omega | exact Nat.lt_trans (b2n_lt _) (by decide)) (fun c_141 => absurd c_141 (by omega)) (fun c_141 => ?_)
            refine sv_iconst (-1) dX6_runScript_144 (by decide) ?_
            refine sv_goto 150 dX6_runScript_145 (by decide) ?_
            refine sv_istore (lv' := [(8, _), (10, _), (6, _), (9, _), (0, _), (1, _), (2, _)]) dX6_runScript_150 (by decide) rfl ?_
            refine sv_iinc1 (lv' := [(9, _), (8, _), (10, _), (6, _), (0, _), (1, _), (2, _)]) dX6_runScript_152 rfl (by decide) rfl ?_
            refine sv_goto 79 dX6_runScript_155 (by decide) ?_
            exact sv_sub [0, 1, 3, 4, 5, 6] rfl (ih (s.1 + 1, -1, s.2.2.1, s.2.2.2.1, s.2.2.2.2.1, T2.1, T2.2) (by show j - (s.1 + 1) < j - s.1; omega) (gm_rsi_t hi c_82 hj c_88 hK hK9 hg hq2 hD3 rfl))
          · skip
            refine sv_aload_n dX6_runScript_110 rfl ?_
            refine sv_iload dX6_runScript_111 rfl ?_
            refine sv_sipush (nI 1000) dX6_runScript_113 (by decide) ?_
            refine sv_idivN dX6_runScript_116 (by first | omega | exact Nat.lt_trans (b2n_lt _) (by decide)) (by first | omega | exact Nat.lt_trans (b2n_lt _) (by decide)) (by first | omega | exact Nat.lt_trans (b2n_lt _) (by decide)) ?_
            refine sv_top (nI 3) (congrArg nI h1) ?_
            refine sv_iload dX6_runScript_117 rfl ?_
            refine sv_bipush (nI 100) dX6_runScript_119 (by decide) ?_
            refine sv_idivN dX6_runScript_121 (by first | omega | exact Nat.lt_trans (b2n_lt _) (by decide)) (by first | omega | exact Nat.lt_trans (b2n_lt _) (by decide)) (by first | omega | exact Nat.lt_trans (b2n_lt _) (by decide)) ?_
            refine sv_bipush (nI 10) dX6_runScript_122 (by decide) ?_
            refine sv_iremN dX6_runScript_124 (by first | omega | exact Nat.lt_trans (b2n_lt _) (by decide)) (by first | omega | exact Nat.lt_trans (b2n_lt _) (by decide)) (by first | omega | exact Nat.lt_trans (b2n_lt _) (by decide)) ?_
            refine sv_iload dX6_runScript_125 rfl ?_
            refine sv_bipush (nI 10) dX6_runScript_127 (by decide) ?_
            refine sv_idivN dX6_runScript_129 (by first | omega | exact Nat.lt_trans (b2n_lt _) (by decide)) (by first | omega | exact Nat.lt_trans (b2n_lt _) (by decide)) (by first | omega | exact Nat.lt_trans (b2n_lt _) (by decide)) ?_
            refine sv_bipush (nI 10) dX6_runScript_130 (by decide) ?_
            refine sv_iremN dX6_runScript_132 (by first | omega | exact Nat.lt_trans (b2n_lt _) (by decide)) (by first | omega | exact Nat.lt_trans (b2n_lt _) (by decide)) (by first | omega | exact Nat.lt_trans (b2n_lt _) (by decide)) ?_
            refine sv_iload dX6_runScript_133 rfl ?_
            refine sv_bipush (nI 10) dX6_runScript_135 (by decide) ?_
            refine sv_iremN dX6_runScript_137 (by first | omega | exact Nat.lt_trans (b2n_lt _) (by decide)) (by first | omega | exact Nat.lt_trans (b2n_lt _) (by decide)) (by first | omega | exact Nat.lt_trans (b2n_lt _) (by decide)) ?_
            refine sv_callV (As := [_, _, _, _]) sc_X6_257 (c6_doesY (a := q2 / 100 % 10) (b := q2 / 10 % 10) (c := q2 % 10) i1 (by omega) (by omega) (by omega) (by omega) (by omega) h2 h3) rfl rfl (Nat.le_of_ble_eq_true rfl) dX6_runScript_138 ⟨by decide, by decide⟩ ⟨Nat.le_refl _, Nat.le_refl _⟩ (Nat.le_of_ble_eq_true rfl) om_0 (List.cons_ne_nil _ _) rfl ?_
            have hD3 : gm_dst false s.2.2.2.2.2.1 s.2.2.2.2.2.2 q2 = (true, gm_play false s.2.2.2.2.2.1 s.2.2.2.2.2.2) := gm_dst_3 h1 h2 h3
            obtain ⟨T2, hT2⟩ : ∃ T2, gm_play false s.2.2.2.2.2.1 s.2.2.2.2.2.2 = T2 := ⟨_, rfl⟩
            rw [hT2] at hD3 ⊢
            refine sv_ifN_eq 148 dX6_runScript_141 (by decide) (by first | omega | exact Nat.lt_trans (b2n_lt _) (by decide)) (fun c_141 => absurd c_141 (by omega)) (fun c_141 => ?_)
            refine sv_iconst (-1) dX6_runScript_144 (by decide) ?_
            refine sv_goto 150 dX6_runScript_145 (by decide) ?_
            refine sv_istore (lv' := [(8, _), (10, _), (6, _), (9, _), (0, _), (1, _), (2, _)]) dX6_runScript_150 (by decide) rfl ?_
            refine sv_iinc1 (lv' := [(9, _), (8, _), (10, _), (6, _), (0, _), (1, _), (2, _)]) dX6_runScript_152 rfl (by decide) rfl ?_
            refine sv_goto 79 dX6_runScript_155 (by decide) ?_
            exact sv_sub [0, 1, 3, 4, 5, 6] rfl (ih (s.1 + 1, -1, (gm_FB s.2.2.1 (gm_bst s.2.2.2.2.2.1)), (gm_kX (gm_any s.2.2.2.2.2.1) (va_up s.2.2.2.1 2 s.2.2.2.2.2.2)), (gm_kA (gm_any s.2.2.2.2.2.1) s.2.2.2.2.1 s.2.2.2.2.2.1), T2.1, T2.2) (by show j - (s.1 + 1) < j - s.1; omega) (gm_rsi_t hi c_82 hj c_88 hK hK9 (gm_ag_r _ _ hg) hq2 hD3 rfl))
          · have hw := gm_dst_s (by omega) (by omega) h2
            refine sv_aload_n dX6_runScript_110 rfl ?_
            refine sv_iload dX6_runScript_111 rfl ?_
            refine sv_sipush (nI 1000) dX6_runScript_113 (by decide) ?_
            refine sv_idivN dX6_runScript_116 (by first | omega | exact Nat.lt_trans (b2n_lt _) (by decide)) (by first | omega | exact Nat.lt_trans (b2n_lt _) (by decide)) (by first | omega | exact Nat.lt_trans (b2n_lt _) (by decide)) ?_
            refine sv_top (nI 4) (congrArg nI h1) ?_
            refine sv_iload dX6_runScript_117 rfl ?_
            refine sv_bipush (nI 100) dX6_runScript_119 (by decide) ?_
            refine sv_idivN dX6_runScript_121 (by first | omega | exact Nat.lt_trans (b2n_lt _) (by decide)) (by first | omega | exact Nat.lt_trans (b2n_lt _) (by decide)) (by first | omega | exact Nat.lt_trans (b2n_lt _) (by decide)) ?_
            refine sv_bipush (nI 10) dX6_runScript_122 (by decide) ?_
            refine sv_iremN dX6_runScript_124 (by first | omega | exact Nat.lt_trans (b2n_lt _) (by decide)) (by first | omega | exact Nat.lt_trans (b2n_lt _) (by decide)) (by first | omega | exact Nat.lt_trans (b2n_lt _) (by decide)) ?_
            refine sv_iload dX6_runScript_125 rfl ?_
            refine sv_bipush (nI 10) dX6_runScript_127 (by decide) ?_
            refine sv_idivN dX6_runScript_129 (by first | omega | exact Nat.lt_trans (b2n_lt _) (by decide)) (by first | omega | exact Nat.lt_trans (b2n_lt _) (by decide)) (by first | omega | exact Nat.lt_trans (b2n_lt _) (by decide)) ?_
            refine sv_bipush (nI 10) dX6_runScript_130 (by decide) ?_
            refine sv_iremN dX6_runScript_132 (by first | omega | exact Nat.lt_trans (b2n_lt _) (by decide)) (by first | omega | exact Nat.lt_trans (b2n_lt _) (by decide)) (by first | omega | exact Nat.lt_trans (b2n_lt _) (by decide)) ?_
            refine sv_iload dX6_runScript_133 rfl ?_
            refine sv_bipush (nI 10) dX6_runScript_135 (by decide) ?_
            refine sv_iremN dX6_runScript_137 (by first | omega | exact Nat.lt_trans (b2n_lt _) (by decide)) (by first | omega | exact Nat.lt_trans (b2n_lt _) (by decide)) (by first | omega | exact Nat.lt_trans (b2n_lt _) (by decide)) ?_
            refine sv_callV (As := [_, _, _, _]) sc_X6_257 (c6_doesS (a := q2 / 100 % 10) (b := q2 / 10 % 10) (c := q2 % 10) (by omega) (by omega) (by omega) h2 (by omega)) rfl rfl (Nat.le_of_ble_eq_true rfl) dX6_runScript_138 ⟨by decide, by decide⟩ ⟨Nat.le_refl _, Nat.le_refl _⟩ (Nat.le_of_ble_eq_true rfl) om_0 (List.cons_ne_nil _ _) rfl ?_
            have hD3 : gm_dst false s.2.2.2.2.2.1 s.2.2.2.2.2.2 q2 = (true, va_up s.2.2.2.2.2.1 (q2 / 100 % 10) (10 * (q2 / 10 % 10) + q2 % 10), s.2.2.2.2.2.2) := gm_dst_4 h1 h2
            refine sv_ifN_eq 148 dX6_runScript_141 (by decide) (by first | omega | exact Nat.lt_trans (b2n_lt _) (by decide)) (fun c_141 => absurd c_141 (by omega)) (fun c_141 => ?_)
            refine sv_iconst (-1) dX6_runScript_144 (by decide) ?_
            refine sv_goto 150 dX6_runScript_145 (by decide) ?_
            refine sv_istore (lv' := [(8, _), (10, _), (6, _), (9, _), (0, _), (1, _), (2, _)]) dX6_runScript_150 (by decide) rfl ?_
            refine sv_iinc1 (lv' := [(9, _), (8, _), (10, _), (6, _), (0, _), (1, _), (2, _)]) dX6_runScript_152 rfl (by decide) rfl ?_
            refine sv_goto 79 dX6_runScript_155 (by decide) ?_
            exact sv_sub [0, 1, 3, 4, 5, 6] rfl (ih (s.1 + 1, -1, s.2.2.1, s.2.2.2.1, s.2.2.2.2.1, va_up s.2.2.2.2.2.1 (q2 / 100 % 10) (10 * (q2 / 10 % 10) + q2 % 10), s.2.2.2.2.2.2) (by show j - (s.1 + 1) < j - s.1; omega) (gm_rsi_t hi c_82 hj c_88 hK hK9 hg hq2 hD3 rfl))
          · skip
            refine sv_aload_n dX6_runScript_110 rfl ?_
            refine sv_iload dX6_runScript_111 rfl ?_
            refine sv_sipush (nI 1000) dX6_runScript_113 (by decide) ?_
            refine sv_idivN dX6_runScript_116 (by first | omega | exact Nat.lt_trans (b2n_lt _) (by decide)) (by first | omega | exact Nat.lt_trans (b2n_lt _) (by decide)) (by first | omega | exact Nat.lt_trans (b2n_lt _) (by decide)) ?_
            refine sv_iload dX6_runScript_117 rfl ?_
            refine sv_bipush (nI 100) dX6_runScript_119 (by decide) ?_
            refine sv_idivN dX6_runScript_121 (by first | omega | exact Nat.lt_trans (b2n_lt _) (by decide)) (by first | omega | exact Nat.lt_trans (b2n_lt _) (by decide)) (by first | omega | exact Nat.lt_trans (b2n_lt _) (by decide)) ?_
            refine sv_bipush (nI 10) dX6_runScript_122 (by decide) ?_
            refine sv_iremN dX6_runScript_124 (by first | omega | exact Nat.lt_trans (b2n_lt _) (by decide)) (by first | omega | exact Nat.lt_trans (b2n_lt _) (by decide)) (by first | omega | exact Nat.lt_trans (b2n_lt _) (by decide)) ?_
            refine sv_iload dX6_runScript_125 rfl ?_
            refine sv_bipush (nI 10) dX6_runScript_127 (by decide) ?_
            refine sv_idivN dX6_runScript_129 (by first | omega | exact Nat.lt_trans (b2n_lt _) (by decide)) (by first | omega | exact Nat.lt_trans (b2n_lt _) (by decide)) (by first | omega | exact Nat.lt_trans (b2n_lt _) (by decide)) ?_
            refine sv_bipush (nI 10) dX6_runScript_130 (by decide) ?_
            refine sv_iremN dX6_runScript_132 (by first | omega | exact Nat.lt_trans (b2n_lt _) (by decide)) (by first | omega | exact Nat.lt_trans (b2n_lt _) (by decide)) (by first | omega | exact Nat.lt_trans (b2n_lt _) (by decide)) ?_
            refine sv_iload dX6_runScript_133 rfl ?_
            refine sv_bipush (nI 10) dX6_runScript_135 (by decide) ?_
            refine sv_iremN dX6_runScript_137 (by first | omega | exact Nat.lt_trans (b2n_lt _) (by decide)) (by first | omega | exact Nat.lt_trans (b2n_lt _) (by decide)) (by first | omega | exact Nat.lt_trans (b2n_lt _) (by decide)) ?_
            refine sv_callV (As := [_, _, _, _]) sc_X6_257 (c6_doesQ (t := q2 / 1000) (a := q2 / 100 % 10) (b := q2 / 10 % 10) (c := q2 % 10) i1 (by omega) (by omega) (by omega) (by omega) h1 h2 h4) rfl rfl (Nat.le_of_ble_eq_true rfl) dX6_runScript_138 ⟨by decide, by decide⟩ ⟨Nat.le_refl _, Nat.le_refl _⟩ (Nat.le_of_ble_eq_true rfl) om_0 (List.cons_ne_nil _ _) rfl ?_
            have hD3 : gm_dst false s.2.2.2.2.2.1 s.2.2.2.2.2.2 q2 = (gm_dq s.2.2.2.2.2.1 (q2 / 1000) (q2 / 100 % 10) (q2 / 10 % 10) (q2 % 10), s.2.2.2.2.2.1, s.2.2.2.2.2.2) := gm_dst_5 h1 h2 h4
            refine sv_ifN_eq 148 dX6_runScript_141 (by decide) (by first | omega | exact Nat.lt_trans (b2n_lt _) (by decide)) (fun c_141 => ?_) (fun c_141 => ?_)
            · refine sv_iload dX6_runScript_148 rfl ?_
              refine sv_istore (lv' := [(8, _), (10, _), (6, _), (9, _), (0, _), (1, _), (2, _)]) dX6_runScript_150 (by decide) rfl ?_
              refine sv_iinc1 (lv' := [(9, _), (8, _), (10, _), (6, _), (0, _), (1, _), (2, _)]) dX6_runScript_152 rfl (by decide) rfl ?_
              refine sv_goto 79 dX6_runScript_155 (by decide) ?_
              exact sv_sub [0, 1, 3, 4, 5, 6] rfl (ih (s.1 + 1, nI s.1, s.2.2.1, s.2.2.2.1, s.2.2.2.2.1, s.2.2.2.2.2.1, s.2.2.2.2.2.2) (by show j - (s.1 + 1) < j - s.1; omega) (gm_rsi_f hi c_82 hj c_88 hK hK9 hg hq2 hD3 (b2n_f c_141)))
            · refine sv_iconst (-1) dX6_runScript_144 (by decide) ?_
              refine sv_goto 150 dX6_runScript_145 (by decide) ?_
              refine sv_istore (lv' := [(8, _), (10, _), (6, _), (9, _), (0, _), (1, _), (2, _)]) dX6_runScript_150 (by decide) rfl ?_
              refine sv_iinc1 (lv' := [(9, _), (8, _), (10, _), (6, _), (0, _), (1, _), (2, _)]) dX6_runScript_152 rfl (by decide) rfl ?_
              refine sv_goto 79 dX6_runScript_155 (by decide) ?_
              exact sv_sub [0, 1, 3, 4, 5, 6] rfl (ih (s.1 + 1, -1, s.2.2.1, s.2.2.2.1, s.2.2.2.2.1, s.2.2.2.2.2.1, s.2.2.2.2.2.2) (by show j - (s.1 + 1) < j - s.1; omega) (gm_rsi_t hi c_82 hj c_88 hK hK9 hg hq2 hD3 (b2n_1 c_141)))
  · intro r hn_r hI_r ih_r
    show sm_V G _ _ _ _ _ _ [(6, .int (nI r)), (4, .long (lN (gm_p4 r))), (0, .ref m), (1, .int (nI j)), (2, .long (lN v))] [] (sm_om G h m (va_up F 0 (nI 0)) (va_up X 2 x) (sm_as A S) L)
    refine sv_iload dX6_runScript_11 rfl ?_
    refine sv_iload_n dX6_runScript_13 rfl ?_
    refine sv_icmpN_ge 37 dX6_runScript_14 (by decide) (by first | omega | exact Nat.lt_trans (b2n_lt _) (by decide)) (by first | omega | exact Nat.lt_trans (b2n_lt _) (by decide)) (fun c_14 => absurd c_14 (by omega)) (fun c_14 => ?_)
    refine sv_iload dX6_runScript_17 rfl ?_
    refine sv_iconst (nI 3) dX6_runScript_19 (by decide) ?_
    refine sv_icmpN_ge 37 dX6_runScript_20 (by decide) (by first | omega | exact Nat.lt_trans (b2n_lt _) (by decide)) (by first | omega | exact Nat.lt_trans (b2n_lt _) (by decide)) (fun c_20 => absurd c_20 (by omega)) (fun c_20 => ?_)
    refine sv_lload dX6_runScript_23 rfl ?_
    refine sv_ldc2 dX6_runScript_25 (sm_tc ck_5_6_in 5 rfl rfl) ?_
    refine sv_lmul dX6_runScript_28 ?_
    refine sv_topl (lN (gm_p4 (r + 1))) (lN_mul (gm_p4 r) 10000) ?_
    refine sv_lstore (lv' := [(4, _), (6, _), (0, _), (1, _), (2, _)]) dX6_runScript_29 (by decide) rfl ?_
    refine sv_iinc1 (lv' := [(6, _), (4, _), (0, _), (1, _), (2, _)]) dX6_runScript_31 rfl (by decide) rfl ?_
    refine sv_goto 11 dX6_runScript_34 (by decide) ?_
    exact sv_sub [0, 1, 2, 3, 4] rfl (ih_r trivial)
end SR26
