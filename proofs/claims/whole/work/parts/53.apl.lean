section CAL
variable {G : sm_G} {h : sm_H} {m n K : Nat} {V : mw_V} {R : mw_R} {t : mw_T}
/-- what is written of the moves stays -/
theorem gm_rd_kp {B : Nat → Nat} {n : Nat} : ∀ f (s : gm_St) i, i < 2 * s.2.2.1 → (gm_rdN B n f s).2.2.2 i = s.2.2.2 i
  | 0, s, i, _ => rfl
  | f + 1, s, i, hi => by
    unfold gm_rdN; split
    · rw [gm_rd_kp f (gm_rs B n s) i (by show i < 2 * (s.2.2.1 + _); omega)]
      show va_up (va_up s.2.2.2 (2 * s.2.2.1) _) (2 * s.2.2.1 + 1) _ i = _
      rw [up_ne (by omega), up_ne (by omega)]
    · rfl
theorem al_w {B : Nat → Nat} {n : Nat} {M : Nat → Int32} {s : gm_St} (h : ct_i B n M s) (hn : s.2.1 < n) (hr : (gm_read B n M).1 = true) : (gm_rm B n s.2.1).1 = true := by
  cases e : (gm_rm B n s.2.1).1 with
  | true => rfl
  | false =>
    have h2 := (gm_rdi_s h.1 h.2 hn).1
    have e3 : (gm_rs B n s).1 = false := e
    rw [gm_rdi_e h2 (by rintro ⟨z, -⟩; rw [e3] at z; cases z), e3] at hr
    cases hr
theorem al_m {B : Nat → Nat} {n : Nat} {M : Nat → Int32} {s : gm_St} (h : ct_i B n M s) (hn : s.2.1 < n) (hr : (gm_read B n M).1 = true) : (gm_read B n M).2.2.2 (2 * s.2.2.1) = gm_pi (gm_let B n s.2.1) ∧ (gm_read B n M).2.2.2 (2 * s.2.2.1 + 1) = (gm_rm B n s.2.1).2.2 := by
  have hw := al_w h hn hr
  obtain ⟨-, -, f, -, hf⟩ := (gm_rdi_s h.1 h.2 hn).1
  have e1 : (gm_rs B n s).2.2.1 = s.2.2.1 + 1 := by show s.2.2.1 + b2n (gm_rm B n s.2.1).1 = _; rw [hw]; rfl
  rw [← hf, gm_rd_kp f _ _ (by rw [e1]; omega), gm_rd_kp f _ _ (by rw [e1]; omega)]
  refine ⟨?_, ?_⟩
  · show va_up (va_up s.2.2.2 (2 * s.2.2.1) _) (2 * s.2.2.1 + 1) _ (2 * s.2.2.1) = _
    rw [up_ne (by omega), up_eq]
  · show va_up (va_up s.2.2.2 (2 * s.2.2.1) _) (2 * s.2.2.1 + 1) _ (2 * s.2.2.1 + 1) = _
    rw [up_eq]
theorem al_mp {l q : Nat} (h : gm_pi l = nI q) (hq : q < 7) : ct_mp l = if q < 6 then nI q else -1 := by
  have := gm_pi_k hq h
  unfold ct_mp; rw [this]
theorem al_4 {on can : Bool} {P Q : Prop} (h : P ∨ Q) : (P ∧ on = true) ∨ (P ∧ on = false) ∨ (Q ∧ can = true) ∨ (Q ∧ can = false) := by
  rcases h with h | h
  · cases on
    · exact .inr (.inl ⟨h, rfl⟩)
    · exact .inl ⟨h, rfl⟩
  · cases can
    · exact .inr (.inr (.inr ⟨h, rfl⟩))
    · exact .inr (.inr (.inl ⟨h, rfl⟩))
theorem gm_lv_01 {z : Bool} {S : gm_S} {x : Int64} {q c : Nat} : (gm_lv z S x q c).1 = 0 ∨ (gm_lv z S x q c).1 = 1 := by
  unfold gm_lv; (repeat' split) <;> first | exact .inl rfl | exact .inr rfl
theorem k5_doMove {q c : Nat} (hI : gm_I K (V 0).1) (hK : K + 40 < 2 ^ 26) (hK9 : 12 ≤ K) (hn : t.1 ≤ 120) (hB : ∀ i, i < t.1 → t.2.1 i < 256) (e1 : gm_pi (gm_let t.2.1 t.1 n) = nI q) (e2 : (gm_rm t.2.1 t.1 n).2.2 = nI c) (e3 : q = 6 ∨ (q < 6 ∧ c < 24 ∧ gm_ch q c = true)) (hw : (gm_rm t.2.1 t.1 n).1 = true) (hp : n < 2 ^ 30) : sm_C G mX5_doMove 4 0 0 [.ref m, .int (nI n)] (mw G h m V R t) (mQ G h m (.inl (some (.int (nI (1 - (gm_lv true (V 0).1 (V 0).2 q c).1))))) (va_up V 0 (gm_lv true (V 0).1 (V 0).2 q c).2) t) := by
  unfold sm_C
  show sm_V G _ _ _ 0 0 0 [(0, .ref m), (1, .int (nI n))] [] _
  rcases al_4 (on := gm_on (V 0).1) (can := gm_can (V 0).1 q c) e3 with ⟨h6, hon⟩ | ⟨h6, hon⟩ | ⟨⟨h6, h24, hch⟩, hcan⟩ | ⟨⟨h6, h24, hch⟩, hcan⟩
  · have e9 : (gm_lv true (V 0).1 (V 0).2 q c) = (0, gm_pass true (V 0).1 (V 0).2) := by unfold gm_lv; rw [if_pos h6, if_pos hon]
    refine sv_aload_n dX5_doMove_0 rfl ?_
    refine km_g0 dX5_doMove_1 sf_X5_10 ?_
    refine sv_iload_n dX5_doMove_4 rfl ?_
    refine sv_callV (As := [_]) sc_X5_94 (k4_movePlace mw_t hn hB hp hw) rfl rfl (Nat.le_of_ble_eq_true rfl) dX5_doMove_5 ⟨by decide, by decide⟩ ⟨Nat.zero_le _, Nat.zero_le _⟩ (Nat.le_of_ble_eq_true rfl) mw_t.1 (List.cons_ne_nil _ _) rfl ?_
    refine sv_top (-1) (by rw [al_mp e1 (by omega), if_neg (by omega)]) ?_
    refine sv_istore_n (lv' := [(2, _), (0, _), (1, _)]) dX5_doMove_8 (by decide) rfl ?_
    refine sv_iload_n dX5_doMove_9 rfl ?_
    refine sv_iconst (-1) dX5_doMove_10 (by decide) ?_
    refine sv_icmp_ne 24 dX5_doMove_11 (by decide) (fun c_11 => absurd c_11 (fun z => z rfl)) (fun c_11 => ?_)
    refine sv_aload_n dX5_doMove_14 rfl ?_
    refine km_g1 dX5_doMove_15 sf_X5_19 ?_
    refine sv_callV (As := []) sc_X5_97 (mf_w (k := 0) (by omega) rfl (k0_passTurnK hI hon hK9)) rfl rfl (Nat.le_of_ble_eq_true rfl) dX5_doMove_18 ⟨by decide, by decide⟩ ⟨Nat.zero_le _, Nat.zero_le _⟩ (Nat.le_of_ble_eq_true rfl) (hg_0 mw_gn) (List.cons_ne_nil _ _) rfl ?_
    refine sv_goto 40 dX5_doMove_21 (by decide) ?_
    refine sv_iret dX5_doMove_40 rfl rfl (Nat.le_refl _) (Nat.le_refl _) ?_
    exact mQi _ (by rw [e9]; rfl) (by rw [e9])
  · have e9 : (gm_lv true (V 0).1 (V 0).2 q c) = (1, (V 0).1, (V 0).2) := by unfold gm_lv; rw [if_pos h6, if_neg (ne_t hon)]
    refine sv_aload_n dX5_doMove_0 rfl ?_
    refine km_g0 dX5_doMove_1 sf_X5_10 ?_
    refine sv_iload_n dX5_doMove_4 rfl ?_
    refine sv_callV (As := [_]) sc_X5_94 (k4_movePlace mw_t hn hB hp hw) rfl rfl (Nat.le_of_ble_eq_true rfl) dX5_doMove_5 ⟨by decide, by decide⟩ ⟨Nat.zero_le _, Nat.zero_le _⟩ (Nat.le_of_ble_eq_true rfl) mw_t.1 (List.cons_ne_nil _ _) rfl ?_
    refine sv_top (-1) (by rw [al_mp e1 (by omega), if_neg (by omega)]) ?_
    refine sv_istore_n (lv' := [(2, _), (0, _), (1, _)]) dX5_doMove_8 (by decide) rfl ?_
    refine sv_iload_n dX5_doMove_9 rfl ?_
    refine sv_iconst (-1) dX5_doMove_10 (by decide) ?_
    refine sv_icmp_ne 24 dX5_doMove_11 (by decide) (fun c_11 => absurd c_11 (fun z => z rfl)) (fun c_11 => ?_)
    refine sv_aload_n dX5_doMove_14 rfl ?_
    refine km_g1 dX5_doMove_15 sf_X5_19 ?_
    refine sv_callV (As := []) sc_X5_97 (mf_w (k := 0) (by omega) rfl (k0_passTurn0 hI hon)) rfl rfl (Nat.le_of_ble_eq_true rfl) dX5_doMove_18 ⟨by decide, by decide⟩ ⟨Nat.zero_le _, Nat.zero_le _⟩ (Nat.le_of_ble_eq_true rfl) (hg_0 mw_gn) (List.cons_ne_nil _ _) rfl ?_
    refine sv_heap (congrArg (fun T => mw G h m T _ t) mw_id) ?_
    refine sv_goto 40 dX5_doMove_21 (by decide) ?_
    refine sv_iret dX5_doMove_40 rfl rfl (Nat.le_refl _) (Nat.le_refl _) ?_
    exact mQi _ (by rw [e9]; rfl) (by rw [e9]; exact (congrArg (fun T => mw G h m T _ t) mw_id).symm)
  · have e9 : (gm_lv true (V 0).1 (V 0).2 q c) = (0, gm_put true (V 0).1 (V 0).2 q c) := by unfold gm_lv; rw [if_neg (by omega), if_pos hcan]
    refine sv_aload_n dX5_doMove_0 rfl ?_
    refine km_g0 dX5_doMove_1 sf_X5_10 ?_
    refine sv_iload_n dX5_doMove_4 rfl ?_
    refine sv_callV (As := [_]) sc_X5_94 (k4_movePlace mw_t hn hB hp hw) rfl rfl (Nat.le_of_ble_eq_true rfl) dX5_doMove_5 ⟨by decide, by decide⟩ ⟨Nat.zero_le _, Nat.zero_le _⟩ (Nat.le_of_ble_eq_true rfl) mw_t.1 (List.cons_ne_nil _ _) rfl ?_
    refine sv_top (nI q) (by rw [al_mp e1 (by omega), if_pos h6]) ?_
    refine sv_istore_n (lv' := [(2, _), (0, _), (1, _)]) dX5_doMove_8 (by decide) rfl ?_
    refine sv_iload_n dX5_doMove_9 rfl ?_
    refine sv_iconst (-1) dX5_doMove_10 (by decide) ?_
    refine sv_icmp_ne 24 dX5_doMove_11 (by decide) (fun c_11 => ?_) (fun c_11 => absurd c_11 (ne_1 (by omega)))
    refine sv_aload_n dX5_doMove_24 rfl ?_
    refine km_g1 dX5_doMove_25 sf_X5_19 ?_
    refine sv_iload_n dX5_doMove_28 rfl ?_
    refine sv_aload_n dX5_doMove_29 rfl ?_
    refine km_g0 dX5_doMove_30 sf_X5_10 ?_
    refine sv_iload_n dX5_doMove_33 rfl ?_
    refine sv_callV (As := [_]) sc_X5_101 (k4_moveChoice mw_t hn hB hp hw) rfl rfl (Nat.le_of_ble_eq_true rfl) dX5_doMove_34 ⟨by decide, by decide⟩ ⟨Nat.zero_le _, Nat.zero_le _⟩ (Nat.le_of_ble_eq_true rfl) mw_t.1 (List.cons_ne_nil _ _) rfl ?_
    refine sv_top (nI c) e2 ?_
    refine sv_callM (As := [_, _]) sc_X5_104 (mf_q (k := 0) (by omega) rfl (fun P9 B9 => ⟨_, _, rfl⟩) (k0_putWorkerK hI h6 h24 hch hcan hK hK9)) rfl rfl (Nat.le_of_ble_eq_true rfl) dX5_doMove_37 ⟨by decide, by decide⟩ ⟨Nat.zero_le _, Nat.zero_le _⟩ (Nat.le_of_ble_eq_true rfl) (hg_0 mw_gn) (List.cons_ne_nil _ _) rfl (fun R8 => ?_)
    refine sv_iret dX5_doMove_40 rfl rfl (Nat.le_refl _) (Nat.le_refl _) ?_
    exact mQi _ (by rw [e9]; rfl) (by rw [e9])
  · have e9 : (gm_lv true (V 0).1 (V 0).2 q c) = (1, (V 0).1, (V 0).2) := by unfold gm_lv; rw [if_neg (by omega), if_neg (ne_t hcan)]
    refine sv_aload_n dX5_doMove_0 rfl ?_
    refine km_g0 dX5_doMove_1 sf_X5_10 ?_
    refine sv_iload_n dX5_doMove_4 rfl ?_
    refine sv_callV (As := [_]) sc_X5_94 (k4_movePlace mw_t hn hB hp hw) rfl rfl (Nat.le_of_ble_eq_true rfl) dX5_doMove_5 ⟨by decide, by decide⟩ ⟨Nat.zero_le _, Nat.zero_le _⟩ (Nat.le_of_ble_eq_true rfl) mw_t.1 (List.cons_ne_nil _ _) rfl ?_
    refine sv_top (nI q) (by rw [al_mp e1 (by omega), if_pos h6]) ?_
    refine sv_istore_n (lv' := [(2, _), (0, _), (1, _)]) dX5_doMove_8 (by decide) rfl ?_
    refine sv_iload_n dX5_doMove_9 rfl ?_
    refine sv_iconst (-1) dX5_doMove_10 (by decide) ?_
    refine sv_icmp_ne 24 dX5_doMove_11 (by decide) (fun c_11 => ?_) (fun c_11 => absurd c_11 (ne_1 (by omega)))
    refine sv_aload_n dX5_doMove_24 rfl ?_
    refine km_g1 dX5_doMove_25 sf_X5_19 ?_
    refine sv_iload_n dX5_doMove_28 rfl ?_
    refine sv_aload_n dX5_doMove_29 rfl ?_
    refine km_g0 dX5_doMove_30 sf_X5_10 ?_
    refine sv_iload_n dX5_doMove_33 rfl ?_
    refine sv_callV (As := [_]) sc_X5_101 (k4_moveChoice mw_t hn hB hp hw) rfl rfl (Nat.le_of_ble_eq_true rfl) dX5_doMove_34 ⟨by decide, by decide⟩ ⟨Nat.zero_le _, Nat.zero_le _⟩ (Nat.le_of_ble_eq_true rfl) mw_t.1 (List.cons_ne_nil _ _) rfl ?_
    refine sv_top (nI c) e2 ?_
    refine sv_callM (As := [_, _]) sc_X5_104 (mf_q (k := 0) (by omega) rfl (fun P9 B9 => ⟨_, _, rfl⟩) (k0_putWorker0 hI h6 h24 hch hcan)) rfl rfl (Nat.le_of_ble_eq_true rfl) dX5_doMove_37 ⟨by decide, by decide⟩ ⟨Nat.zero_le _, Nat.zero_le _⟩ (Nat.le_of_ble_eq_true rfl) (hg_0 mw_gn) (List.cons_ne_nil _ _) rfl (fun R8 => ?_)
    refine sv_heap (congrArg (fun T => mw G h m T R8 t) mw_id) ?_
    refine sv_iret dX5_doMove_40 rfl rfl (Nat.le_refl _) (Nat.le_refl _) ?_
    exact mQi _ (by rw [e9]; rfl) (by rw [e9]; exact (congrArg (fun T => mw G h m T _ t) mw_id).symm)
abbrev al_St : Type := gm_St × Nat × gm_S × Int64 × mw_R
def al_i (K : Nat) (B : Nat → Nat) (n : Nat) (M : Nat → Int32) (S : gm_S) (x : Int64) (s : al_St) : Prop :=
  ct_i B n M s.1 ∧ gm_ldN true (gm_read B n M).2.2.2 S x s.1.2.2.1 = (s.2.1, s.2.2.1, s.2.2.2.1) ∧ gm_I (K + 40 * s.1.2.2.1) s.2.2.1
theorem al_s {B : Nat → Nat} {n q c : Nat} {M : Nat → Int32} {S : gm_S} {x : Int64} {s : al_St} {R2 : mw_R} {D : Nat × gm_S × Int64} (h : al_i K B n M S x s) (hn : s.1.2.1 < n) (h120 : n ≤ 120) (hr : (gm_read B n M).1 = true) (hK : K + 5000 < 2 ^ 26) (hK9 : 12 ≤ K) (e1 : gm_pi (gm_let B n s.1.2.1) = nI q) (e2 : (gm_rm B n s.1.2.1).2.2 = nI c) (e3 : q = 6 ∨ (q < 6 ∧ c < 24 ∧ gm_ch q c = true)) (hc : c < 2 ^ 31) (hD : gm_lv true s.2.2.1 s.2.2.2.1 q c = D) :
    al_i K B n M S x (gm_rs B n s.1, s.2.1 + D.1, D.2.1, D.2.2, R2) := by
  obtain ⟨a, b, d⟩ := h
  have hw := al_w a hn hr
  have hm := al_m a hn hr
  have hk : (gm_rs B n s.1).2.2.1 = s.1.2.2.1 + 1 := by show s.1.2.2.1 + b2n (gm_rm B n s.1.2.1).1 = _; rw [hw]; rfl
  have h4 := a.1.2.1 a.2
  have hle := a.1.1
  refine ⟨(ct_i_s a hn hw).1, ?_, ?_⟩
  · rw [hk]
    show ((gm_ldN true (gm_read B n M).2.2.2 S x s.1.2.2.1).1 + _, _) = _
    rw [b, hm.1, hm.2, e1, e2, i2_nI (by omega), i2_nI hc]
    show (s.2.1 + (gm_lv true s.2.2.1 s.2.2.2.1 q c).1, (gm_lv true s.2.2.1 s.2.2.2.1 q c).2) = _
    rw [hD]
  · have := gm_lv_I (z := true) (x := s.2.2.2.1) (q := q) (c := c) d (by omega) (by omega) e3
    rw [hD] at this
    show gm_I (K + 40 * (gm_rs B n s.1).2.2.1) D.2.1
    rw [hk, show K + 40 * (s.1.2.2.1 + 1) = K + 40 * s.1.2.2.1 + 40 by omega]; exact this
theorem al_e {B : Nat → Nat} {n : Nat} {M : Nat → Int32} {S : gm_S} {x : Int64} {s : al_St} (h : al_i K B n M S x s) (hn : n ≤ s.1.2.1) : gm_ldN true (gm_read B n M).2.2.2 S x (gm_read B n M).2.2.1 = (s.2.1, s.2.2.1, s.2.2.2.1) := by
  obtain ⟨a, b, d⟩ := h
  have e : gm_read B n M = s.1 := gm_rdi_e a.1 (by omega)
  rw [e] at b ⊢; exact b
/-- a move's choice is a number -/
theorem al_c {B : Nat → Nat} {n p : Nat} (h : (gm_rm B n p).1 = true) : ∃ q c, gm_pi (gm_let B n p) = nI q ∧ (gm_rm B n p).2.2 = nI c ∧ (q = 6 ∨ (q < 6 ∧ c < 24 ∧ gm_ch q c = true)) ∧ c < 2 ^ 31 := by
  obtain ⟨q, c, e1, e2, e3⟩ := gm_rm_ch h
  rcases e3 with z | ⟨z1, z2, z3⟩
  · refine ⟨q, 0, e1, ?_, .inl z, by omega⟩
    have p6 := gm_pi_k (by omega) e1
    rw [gm_rm_o (by omega) (by omega)]
  · exact ⟨q, c, e1, e2, .inr ⟨z1, z2, z3⟩, by omega⟩
theorem k5_doMoves {A : Nat → Int32} (hI : gm_I K (V 0).1) (hK : K + 5000 < 2 ^ 26) (hK9 : 12 ≤ K) (hn : t.1 ≤ 120) (hB : ∀ i, i < t.1 → t.2.1 i < 256) (hr : (gm_read t.2.1 t.1 A).1 = true) (h4 : ct_i t.2.1 t.1 A (true, 4, 0, A)) : sm_C G mX5_doMoves 5 0 0 [.ref m] (mw G h m V R t) (mQ G h m (.inl (some (.int (nI (gm_ldN true (gm_read t.2.1 t.1 A).2.2.2 (V 0).1 (V 0).2 (gm_read t.2.1 t.1 A).2.2.1).1)))) (va_up V 0 (gm_ldN true (gm_read t.2.1 t.1 A).2.2.2 (V 0).1 (V 0).2 (gm_read t.2.1 t.1 A).2.2.1).2) t) := by
  unfold sm_C
  show sm_V G _ _ _ 0 0 0 [(0, .ref m)] [] _
  refine sv_iconst (nI 0) dX5_doMoves_0 (by decide) ?_
  refine sv_istore_n (lv' := [(1, _), (0, _)]) dX5_doMoves_1 (by decide) rfl ?_
  refine sv_iconst (nI 4) dX5_doMoves_2 (by decide) ?_
  refine sv_istore_n (lv' := [(2, _), (1, _), (0, _)]) dX5_doMoves_3 (by decide) rfl ?_
  refine sv_iconst (nI 0) dX5_doMoves_4 (by decide) ?_
  refine sv_istore_n (lv' := [(3, _), (2, _), (1, _), (0, _)]) dX5_doMoves_5 (by decide) rfl ?_
  refine sv_heap (congrArg (fun T => mw G h m T R t) mw_id.symm) (sv_sub [0, 1, 2, 3] rfl (sv_rec (pc := 6) (fun s : al_St × Nat => 2 * (t.1 - s.1.1.2.1) + b2n s.1.1.1) (I := fun s => al_i K t.2.1 t.1 A (V 0).1 (V 0).2 s.1 ∧ s.2 = s.1.1.2.2.1) (lv := fun s => [(3, .int (nI s.2)), (2, .int (nI s.1.1.2.1)), (1, .int (nI s.1.2.1)), (0, .ref m)]) (hp := fun s => mw G h m (va_up V 0 (s.1.2.2.1, s.1.2.2.2.1)) s.1.2.2.2.2 t) (((true, 4, 0, A), 0, (V 0).1, (V 0).2, R), 0) ⟨⟨h4, rfl, hI⟩, rfl⟩ ?_))
  · rintro ⟨s, k⟩ hi2 ih
    show sm_V G _ _ _ _ _ _ [(3, .int (nI k)), (2, .int (nI s.1.2.1)), (1, .int (nI s.2.1)), (0, .ref m)] [] (mw G h m (va_up V 0 (s.2.2.1, s.2.2.2.1)) s.2.2.2.2 t)
    have hi : al_i K t.2.1 t.1 A (V 0).1 (V 0).2 s := hi2.1
    have hk : k = s.1.2.2.1 := hi2.2
    obtain ⟨a1, a2, a3⟩ := id hi
    have hle := a1.1.1; have hk4 := a1.1.2.1 a1.2
    have e1v : va_up V 0 (s.2.2.1, s.2.2.2.1) 0 = (s.2.2.1, s.2.2.2.1) := up_eq
    refine sv_iload_n dX5_doMoves_6 rfl ?_
    refine sv_bipush (nI 120) dX5_doMoves_7 (by decide) ?_
    refine sv_icmpN_ge 51 dX5_doMoves_9 (by decide) (by omega) (by omega) (fun c_9 => absurd c_9 (by omega)) (fun c_9 => ?_)
    refine sv_iload_n dX5_doMoves_12 rfl ?_
    refine sv_aload_n dX5_doMoves_13 rfl ?_
    refine km_g0 dX5_doMoves_14 sf_X5_10 ?_
    refine kt_g1 mw_t dX5_doMoves_17 sf_X5_57 ?_
    refine sv_icmpN_ge 51 dX5_doMoves_20 (by decide) (by omega) (by omega) (fun c_20 => ?_) (fun c_20 => ?_)
    · refine sv_iload_n dX5_doMoves_51 rfl ?_
      refine sv_iret dX5_doMoves_52 rfl rfl (Nat.le_refl _) (Nat.le_refl _) ?_
      have ee := al_e hi c_20
      exact mQi _ (by rw [ee]) (by rw [ee])
    · have hw := al_w a1 c_20 hr
      obtain ⟨q, c, g1, g2, g3, hc9⟩ := al_c hw
      refine sv_aload_n dX5_doMoves_23 rfl ?_
      refine sv_iload_n dX5_doMoves_24 rfl ?_
      refine sv_callM (As := [_]) sc_X5_86 (k5_doMove (K := K + 40 * s.1.2.2.1) (by rw [e1v]; exact a3) (by omega) (by omega) hn hB g1 g2 g3 hw (by omega)) rfl rfl (Nat.le_of_ble_eq_true rfl) dX5_doMoves_25 ⟨by decide, by decide⟩ ⟨Nat.zero_le _, Nat.zero_le _⟩ (Nat.le_of_ble_eq_true rfl) mw_0 (List.cons_ne_nil _ _) rfl (fun R8 => ?_)
      rw [e1v]
      obtain ⟨D2, hD2⟩ : ∃ D2, gm_lv true s.2.2.1 s.2.2.2.1 q c = D2 := ⟨_, rfl⟩
      have hnx := al_s (R2 := R8) hi c_20 hn hr hK hK9 g1 g2 g3 hc9 hD2
      have h01 := gm_lv_01 (z := true) (S := s.2.2.1) (x := s.2.2.2.1) (q := q) (c := c)
      rw [hD2] at h01
      simp only [hD2, up_up]
      rcases h01 with hd0 | hd0
      · refine sv_top (nI 1) (by rw [hd0]) ?_
        refine sv_ifN_ne 34 dX5_doMoves_28 (by decide) (by omega) (fun c_28 => ?_) (fun c_28 => absurd c_28 (by omega))
        refine sv_iload_n dX5_doMoves_34 rfl ?_
        refine sv_aload_n dX5_doMoves_35 rfl ?_
        refine km_g0 dX5_doMoves_36 sf_X5_10 ?_
        refine sv_iload_n dX5_doMoves_39 rfl ?_
        refine sv_callV (As := [_]) sc_X5_90 (k4_moveLength mw_t hn hB (by omega)) rfl rfl (Nat.le_of_ble_eq_true rfl) dX5_doMoves_40 ⟨by decide, by decide⟩ ⟨Nat.zero_le _, Nat.zero_le _⟩ (Nat.le_of_ble_eq_true rfl) mw_t.1 (List.cons_ne_nil _ _) rfl ?_
        refine sv_iaddN dX5_doMoves_43 ?_
        refine sv_top (nI (gm_rs t.2.1 t.1 s.1).2.1) (congrArg nI (ct_ml_rm hw).symm) ?_
        refine sv_istore_n (lv' := [(2, _), (3, _), (1, _), (0, _)]) dX5_doMoves_44 (by decide) rfl ?_
        refine sv_iinc1 (lv' := [(3, _), (2, _), (1, _), (0, _)]) dX5_doMoves_45 rfl (by decide) rfl ?_
        refine sv_goto 6 dX5_doMoves_48 (by decide) ?_
        exact sv_sub [0, 1, 2, 3] rfl (ih ((gm_rs t.2.1 t.1 s.1, s.2.1 + 0, D2.2.1, D2.2.2, R8), k + 1) (ct_i_s hi.1 c_20 hw).2 ⟨hd0 ▸ hnx, ct_k hk hw⟩)
      · refine sv_top (nI 0) (by rw [hd0]) ?_
        refine sv_ifN_ne 34 dX5_doMoves_28 (by decide) (by omega) (fun c_28 => absurd c_28 (by omega)) (fun c_28 => ?_)
        refine sv_iinc1 (lv' := [(1, _), (3, _), (2, _), (0, _)]) dX5_doMoves_31 rfl (by decide) rfl ?_
        refine sv_iload_n dX5_doMoves_34 rfl ?_
        refine sv_aload_n dX5_doMoves_35 rfl ?_
        refine km_g0 dX5_doMoves_36 sf_X5_10 ?_
        refine sv_iload_n dX5_doMoves_39 rfl ?_
        refine sv_callV (As := [_]) sc_X5_90 (k4_moveLength mw_t hn hB (by omega)) rfl rfl (Nat.le_of_ble_eq_true rfl) dX5_doMoves_40 ⟨by decide, by decide⟩ ⟨Nat.zero_le _, Nat.zero_le _⟩ (Nat.le_of_ble_eq_true rfl) mw_t.1 (List.cons_ne_nil _ _) rfl ?_
        refine sv_iaddN dX5_doMoves_43 ?_
        refine sv_top (nI (gm_rs t.2.1 t.1 s.1).2.1) (congrArg nI (ct_ml_rm hw).symm) ?_
        refine sv_istore_n (lv' := [(2, _), (1, _), (3, _), (0, _)]) dX5_doMoves_44 (by decide) rfl ?_
        refine sv_iinc1 (lv' := [(3, _), (2, _), (1, _), (0, _)]) dX5_doMoves_45 rfl (by decide) rfl ?_
        refine sv_goto 6 dX5_doMoves_48 (by decide) ?_
        exact sv_sub [0, 1, 2, 3] rfl (ih ((gm_rs t.2.1 t.1 s.1, s.2.1 + 1, D2.2.1, D2.2.2, R8), k + 1) (ct_i_s hi.1 c_20 hw).2 ⟨hd0 ▸ hnx, ct_k hk hw⟩)
theorem al_p {B : Nat → Nat} {n : Nat} {M : Nat → Int32} (hn : n ≤ 120) : (gm_read B n M).2.1 ≤ n := by
  have key : ∀ f s, gm_rdi B n M s → ∃ s', gm_rdN B n f s = s' ∧ gm_rdi B n M s' := by
    intro f
    induction f with
    | zero => intro s h; exact ⟨s, rfl, h⟩
    | succ f ih =>
      intro s h
      unfold gm_rdN
      split
      · rename_i e; exact ih _ (gm_rdi_s h e.1 e.2).1
      · exact ⟨s, rfl, h⟩
  obtain ⟨s', e, h⟩ := key 121 _ (gm_rdi_0 hn)
  have e' : gm_read B n M = s' := e
  rw [e']; exact h.1
theorem al_ne {B : Nat → Nat} {n : Nat} {M : Nat → Int32} (hn : n ≤ 120) (hr : (gm_read B n M).1 = false) : gm_rans (gm_read B n M) ≠ -1 := by
  unfold gm_rans; rw [if_neg (ne_t hr)]; have := al_p (B := B) (M := M) hn; exact ne_1 (by omega)
theorem al_k4 {B : Nat → Nat} {n : Nat} {M : Nat → Int32} (hr : (gm_read B n M).1 = true) : gm_k4 B n = true := by
  cases e : gm_k4 B n with
  | true => rfl
  | false =>
    have : gm_read B n M = (gm_k4 B n, gm_j4 B n, 0, M) := by
      unfold gm_read; unfold gm_rdN; rw [if_neg (by rintro ⟨z, -⟩; simp only at z; rw [e] at z; cases z)]
    rw [this] at hr; simp only at hr; rw [e] at hr; cases hr
theorem al_hd {B : Nat → Nat} {n : Nat} (h : gm_k4 B n = true) : nI (gm_let B n 1) - nI 48 = nI (gm_tp B) ∧ nI 10 * (nI (gm_let B n 2) - nI 48) + (nI (gm_let B n 3) - nI 48) = nI (gm_ts B) := by
  have h3 : gm_k3 B n = true := gm_wo_k h
  have h2 : gm_k2 B n = true := gm_wo_k h3
  have h1 : gm_k1 B n = true := gm_wo_k h2
  have j1 : gm_j1 B n = 1 := by unfold gm_j1; rw [h1]; rfl
  have j2 : gm_j2 B n = 2 := by unfold gm_j2; rw [j1, h2]; rfl
  have j3 : gm_j3 B n = 3 := by unfold gm_j3; rw [j2, h3]; rfl
  have w2 := gm_wo_b h2; have w3 := gm_wo_b h3; have w4 := gm_wo_b h
  rw [j1] at w2; rw [j2] at w3; rw [j3] at w4
  refine ⟨?_, ?_⟩
  · unfold gm_tp; rw [gm_let_t w2.1, pk_sub (by omega)]
  · unfold gm_ts; rw [gm_let_t w3.1, gm_let_t w4.1, pk_sub (by omega), pk_sub (by omega), pk_mul, nI_add]
theorem al_i0 {B : Nat → Nat} {n : Nat} {M : Nat → Int32} (hn : n ≤ 120) (h : gm_k4 B n = true) : ct_i B n M (true, 4, 0, M) := by
  have := gm_rdi_0 (B := B) (M := M) hn
  rw [h, gm_j4_4 h] at this; exact ⟨this, rfl⟩
theorem cg_new_I {S : gm_S} {x : Int64} {p : Nat} (hS : 1 ≤ S 0 ∧ S 0 ≤ 12 ∧ S 1 ≤ 5 ∧ 1 ≤ S 2 ∧ S 2 ≤ 3) (hk : ∀ i, i ≠ 11 → i ≠ 12 → S i ≤ K) (hK : K < 2 ^ 26) (hK9 : 12 ≤ K) (hp2 : 2 ≤ p) (hp : p ≤ 4) : gm_I K (cg_new S p x) := by
  obtain ⟨d1, d2⟩ := gm_die_le (gm_nx x)
  have lo : ∀ i, i < 3 → cg_new S p x i = S i := fun i hi => if_pos hi
  have e3 : cg_new S p x 3 = p := rfl
  have e5 : cg_new S p x 5 = gm_die (gm_nx x) := rfl
  have b8 : ∀ w, gm_b8 w ≤ 6 := fun w => by unfold gm_b8; (repeat' split) <;> omega
  have pl : ∀ q w, q < 4 → w < 8 → cg_new S p x (13 + 8 * q + w) = gm_b8 w := fun q w hq hw => by
    unfold cg_new; rw [if_neg (by omega), if_neg (by omega), if_neg (by omega), if_neg (by omega), if_neg (by omega), if_pos (by omega), show (13 + 8 * q + w - 13) % 8 = w by omega]
  have wz : ∀ q, q < 6 → cg_new S p x (45 + 4 * q) = 0 := fun q hq => by
    unfold cg_new; rw [if_neg (by omega), if_neg (by omega), if_neg (by omega), if_neg (by omega), if_neg (by omega), if_neg (by omega), if_pos (by omega)]
  have pz : ∀ g, g < 3 → cg_new S p x (7 + g) = cg_fp g := fun g hg => by
    unfold cg_new; rw [if_neg (by omega), if_neg (by omega), if_neg (by omega), if_pos (by omega), Nat.add_sub_cancel_left]
  refine ⟨by rw [lo 0 (by omega), lo 1 (by omega), lo 2 (by omega)]; exact hS, fun i a b => ?_, hK, fun q hq => by rw [wz q hq]; omega, .inr ⟨by rw [e3]; exact hp2, by rw [e3]; exact hp, by rw [e3]; show 0 < p; omega, by rw [e5]; exact d1, by rw [e5]; exact d2, by show 0 ≤ 12; omega, fun g hg => ?_, by rw [e3]; show 0 < p; omega, ?_, fun q hq => ?_, fun q k hq hk9 => ?_⟩⟩
  · have := hk i a b
    unfold cg_new cg_fp
    have := b8 ((i - 13) % 8)
    (repeat' split) <;> omega
  · rw [pz g hg]; unfold cg_fp; split <;> omega
  · rfl
  · rw [e3] at hq
    rw [pl q 4 (by omega) (by omega), pl q 5 (by omega) (by omega), pl q 6 (by omega) (by omega), pl q 7 (by omega) (by omega)]
    exact ⟨by decide, by decide, by decide, by decide, by decide⟩
  · rw [wz q hq] at hk9; omega
/-- the first n slots are empty -/
def mw_z (f : Nat → Nat) (n : Nat) : Nat → Nat := fun i => if i < n then 0 else f i
theorem mw_z_s {f : Nat → Nat} {n : Nat} : va_up (mw_z f n) n 0 = mw_z f (n + 1) := by
  funext i; unfold va_up mw_z; (repeat' split) <;> first | rfl | omega
theorem mw_z_0 {f : Nat → Nat} : mw_z f 0 = f := by funext i; unfold mw_z; rw [if_neg (by omega)]
theorem k5_load1 {A : Nat → Int32} (hn : t.1 ≤ 120) (hB : ∀ i, i < t.1 → t.2.1 i < 256) (hr : (gm_read t.2.1 t.1 A).1 = false) (h0 : h 0 = none) (hm : 0 < m) : sm_C G mX5_load 6 1 6 [.ref m] (mw G h m V R t) (mQ G h m (.inr "java/lang/IllegalStateException") V t) := by
  unfold sm_C
  show sm_V G _ _ _ 0 0 0 [(0, .ref m)] [] _
  refine sv_aload_n dX5_load_0 rfl ?_
  refine km_g0 dX5_load_1 sf_X5_10 ?_
  refine sv_callV (As := []) sc_X5_61 (k4_findFault (M := A) mw_t hn hB) rfl rfl (Nat.le_of_ble_eq_true rfl) dX5_load_4 ⟨by decide, by decide⟩ ⟨Nat.zero_le _, Nat.zero_le _⟩ (Nat.le_of_ble_eq_true rfl) mw_t.1 (List.cons_ne_nil _ _) rfl ?_
  refine sv_iconst (-1) dX5_load_7 (by decide) ?_
  refine sv_icmp_eq 21 dX5_load_8 (by decide) (fun c_8 => absurd c_8 (al_ne hn hr)) (fun c_8 => ?_)
  exact sv_throw 2 sx_ise rfl rfl rfl dX5_load_11 dX5_load_14 dX5_load_15 dX5_load_17 dX5_load_20 ⟨(Nat.le_of_ble_eq_true rfl), (Nat.le_of_ble_eq_true rfl)⟩ ⟨(Nat.le_of_ble_eq_true rfl), (Nat.le_of_ble_eq_true rfl)⟩ (Nat.le_of_ble_eq_true rfl) (Nat.le_of_ble_eq_true rfl) ⟨rfl, _, mw_fg h0 hm⟩
theorem k5_loadK {A : Nat → Int32} (hS : ∀ i, i ≠ 11 → i ≠ 12 → (V 0).1 i ≤ K) (hK : K + 5000 < 2 ^ 26) (hK9 : 12 ≤ K) (hn : t.1 ≤ 120) (hB : ∀ i, i < t.1 → t.2.1 i < 256) (hr : (gm_read t.2.1 t.1 A).1 = true) : sm_C G mX5_load 6 0 0 [.ref m] (mw G h m V R t) (mQ G h m (.inl (some (.int (nI (gm_ldN true (gm_read t.2.1 t.1 A).2.2.2 (cg_new (va_up (cg_ss (V 0).1 3) 3 0) (gm_tp t.2.1) ((nI (gm_ts t.2.1)).toInt64)) (gm_nx ((nI (gm_ts t.2.1)).toInt64)) (gm_read t.2.1 t.1 A).2.2.1).1)))) (va_up V 0 (gm_ldN true (gm_read t.2.1 t.1 A).2.2.2 (cg_new (va_up (cg_ss (V 0).1 3) 3 0) (gm_tp t.2.1) ((nI (gm_ts t.2.1)).toInt64)) (gm_nx ((nI (gm_ts t.2.1)).toInt64)) (gm_read t.2.1 t.1 A).2.2.1).2) (t.1, t.2.1, 0, t.2.2.2.1, mw_z t.2.2.2.2 2)) := by
  unfold sm_C
  show sm_V G _ _ _ 0 0 0 [(0, .ref m)] [] _
  have k4 := al_k4 hr
  obtain ⟨g1, g2, g3, g4, g5⟩ := gm_hd k4
  have hI2 : gm_I K (cg_new (va_up (cg_ss (V 0).1 3) 3 0) (gm_tp t.2.1) ((nI (gm_ts t.2.1)).toInt64)) := cg_new_I (by show 1 ≤ 6 ∧ 6 ≤ 12 ∧ 1 ≤ 5 ∧ 1 ≤ 2 ∧ 2 ≤ 3; omega) (fun i a b => by have := hS i a b; unfold va_up cg_ss cg_fs; (repeat' split) <;> omega) (by omega) hK9 g3 g4
  refine sv_aload_n dX5_load_0 rfl ?_
  refine km_g0 dX5_load_1 sf_X5_10 ?_
  refine sv_callV (As := []) sc_X5_61 (k4_findFault (M := A) mw_t hn hB) rfl rfl (Nat.le_of_ble_eq_true rfl) dX5_load_4 ⟨by decide, by decide⟩ ⟨Nat.zero_le _, Nat.zero_le _⟩ (Nat.le_of_ble_eq_true rfl) mw_t.1 (List.cons_ne_nil _ _) rfl ?_
  refine sv_top (-1) (by unfold gm_rans; rw [if_pos hr]) ?_
  refine sv_iconst (-1) dX5_load_7 (by decide) ?_
  refine sv_icmp_eq 21 dX5_load_8 (by decide) (fun c_8 => ?_) (fun c_8 => absurd c_8 (fun z => z rfl))
  refine sv_aload_n dX5_load_21 rfl ?_
  refine km_g1 dX5_load_22 sf_X5_19 ?_
  refine sv_callV (As := []) sc_X5_67 (mf_w (k := 0) (by omega) rfl (k0_clearAll)) rfl rfl (Nat.le_of_ble_eq_true rfl) dX5_load_25 ⟨by decide, by decide⟩ ⟨Nat.zero_le _, Nat.zero_le _⟩ (Nat.le_of_ble_eq_true rfl) (hg_0 mw_gn) (List.cons_ne_nil _ _) rfl ?_
  refine sv_aload_n dX5_load_28 rfl ?_
  refine km_g3 dX5_load_29 sf_X5_29 ?_
  refine sv_callV (As := []) sc_X5_70 (k1_forget) rfl rfl (Nat.le_of_ble_eq_true rfl) dX5_load_32 ⟨by decide, by decide⟩ ⟨Nat.zero_le _, Nat.zero_le _⟩ (Nat.le_of_ble_eq_true rfl) mw_h (List.cons_ne_nil _ _) rfl ?_
  refine sv_iconst (nI 0) dX5_load_35 (by decide) ?_
  refine sv_istore_n (lv' := [(1, _), (0, _)]) dX5_load_36 (by decide) rfl ?_
  refine sv_heap (h' := (mw G h m (va_up V 0 (va_up (cg_ss (V 0).1 3) 3 0, (V 0).2)) (va_up R 0 ((R 0).1, (R 0).2)) (t.1, t.2.1, 0, t.2.2.2.1, mw_z t.2.2.2.2 0))) (congrArg (fun z => mw G h m (va_up V 0 (va_up (cg_ss (V 0).1 3) 3 0, (V 0).2)) (va_up R 0 ((R 0).1, (R 0).2)) (t.1, t.2.1, 0, t.2.2.2.1, z)) mw_z_0.symm) ?_
  refine sv_sub [0, 1] rfl (sv_loop (pc := 37) (lv := fun k => [(1, .int (nI k)), (0, .ref m)]) (hp := fun k => (mw G h m (va_up V 0 (va_up (cg_ss (V 0).1 3) 3 0, (V 0).2)) (va_up R 0 ((R 0).1, (R 0).2)) (t.1, t.2.1, 0, t.2.2.2.1, mw_z t.2.2.2.2 k))) (I := fun k => True) (N := 2) (trivial) ?_ ?_)
  · intro hI_k
    show sm_V G _ _ _ _ _ _ [(1, .int (nI 2)), (0, .ref m)] [] (mw G h m (va_up V 0 (va_up (cg_ss (V 0).1 3) 3 0, (V 0).2)) (va_up R 0 ((R 0).1, (R 0).2)) (t.1, t.2.1, 0, t.2.2.2.1, mw_z t.2.2.2.2 2))
    refine sv_iload_n dX5_load_37 rfl ?_
    refine sv_iconst (nI 2) dX5_load_38 (by decide) ?_
    refine sv_icmpN_ge 55 dX5_load_39 (by decide) (by omega) (by omega) (fun c_39 => ?_) (fun c_39 => absurd c_39 (by omega))
    refine sv_aload_n dX5_load_55 rfl ?_
    refine km_g1 dX5_load_56 sf_X5_19 ?_
    refine sv_aload_n dX5_load_59 rfl ?_
    refine km_g0 dX5_load_60 sf_X5_10 ?_
    refine sv_callV (As := []) sc_X5_73 (k4_players mw_t hn hB) rfl rfl (Nat.le_of_ble_eq_true rfl) dX5_load_63 ⟨by decide, by decide⟩ ⟨Nat.zero_le _, Nat.zero_le _⟩ (Nat.le_of_ble_eq_true rfl) mw_t.1 (List.cons_ne_nil _ _) rfl ?_
    refine sv_top _ (al_hd k4).1 ?_
    refine sv_aload_n dX5_load_66 rfl ?_
    refine km_g0 dX5_load_67 sf_X5_10 ?_
    refine sv_callV (As := []) sc_X5_76 (k4_seed mw_t hn hB) rfl rfl (Nat.le_of_ble_eq_true rfl) dX5_load_70 ⟨by decide, by decide⟩ ⟨Nat.zero_le _, Nat.zero_le _⟩ (Nat.le_of_ble_eq_true rfl) mw_t.1 (List.cons_ne_nil _ _) rfl ?_
    refine sv_top _ (al_hd k4).2 ?_
    refine sv_i2l dX5_load_73 ?_
    refine sv_callV (As := [_, _]) sc_X5_79 (mf_w (k := 0) (by omega) rfl k0_startGame) rfl rfl (Nat.le_of_ble_eq_true rfl) dX5_load_74 ⟨by decide, by decide⟩ ⟨Nat.zero_le _, Nat.zero_le _⟩ (Nat.le_of_ble_eq_true rfl) (hg_0 mw_gn) (List.cons_ne_nil _ _) rfl ?_
    have e0 : va_up (va_up V 0 (va_up (cg_ss (V 0).1 3) 3 0, (V 0).2)) 0 (cg_new ((va_up V 0 (va_up (cg_ss (V 0).1 3) 3 0, (V 0).2)) 0).1 (gm_tp t.2.1) ((nI (gm_ts t.2.1)).toInt64), (gm_nx ((nI (gm_ts t.2.1)).toInt64))) 0 = ((cg_new (va_up (cg_ss (V 0).1 3) 3 0) (gm_tp t.2.1) ((nI (gm_ts t.2.1)).toInt64)), (gm_nx ((nI (gm_ts t.2.1)).toInt64))) := by rw [up_eq]; rfl
    refine sv_aload_n dX5_load_77 rfl ?_
    refine sv_callM (As := []) sc_X5_83 (k5_doMoves (A := A) (K := K) (by rw [e0]; exact hI2) hK hK9 hn hB hr (al_i0 hn k4)) rfl rfl (Nat.le_of_ble_eq_true rfl) dX5_load_78 ⟨by decide, by decide⟩ ⟨Nat.zero_le _, Nat.zero_le _⟩ (Nat.le_of_ble_eq_true rfl) mw_0 (List.cons_ne_nil _ _) rfl (fun R8 => ?_)
    rw [e0]
    refine sv_iret dX5_load_81 rfl rfl (Nat.le_refl _) (Nat.le_refl _) ?_
    exact mQi R8 rfl (by rw [up_up, up_up])
  · intro k hn_k hI_k ih_k
    show sm_V G _ _ _ _ _ _ [(1, .int (nI k)), (0, .ref m)] [] (mw G h m (va_up V 0 (va_up (cg_ss (V 0).1 3) 3 0, (V 0).2)) (va_up R 0 ((R 0).1, (R 0).2)) (t.1, t.2.1, 0, t.2.2.2.1, mw_z t.2.2.2.2 k))
    refine sv_iload_n dX5_load_37 rfl ?_
    refine sv_iconst (nI 2) dX5_load_38 (by decide) ?_
    refine sv_icmpN_ge 55 dX5_load_39 (by decide) (by omega) (by omega) (fun c_39 => absurd c_39 (by omega)) (fun c_39 => ?_)
    refine sv_aload_n dX5_load_42 rfl ?_
    refine km_g5 dX5_load_43 sf_X5_37 ?_
    refine sv_iload_n dX5_load_46 rfl ?_
    refine sv_iconst (nI 0) dX5_load_47 (by decide) ?_
    refine km_stf (v := 0) (by decide) dX5_load_48 (by omega) ?_
    refine sv_heap (h' := (mw G h m (va_up V 0 (va_up (cg_ss (V 0).1 3) 3 0, (V 0).2)) (va_up R 0 ((R 0).1, (R 0).2)) (t.1, t.2.1, 0, t.2.2.2.1, mw_z t.2.2.2.2 (k + 1)))) (congrArg (fun z => mw G h m (va_up V 0 (va_up (cg_ss (V 0).1 3) 3 0, (V 0).2)) (va_up R 0 ((R 0).1, (R 0).2)) (t.1, t.2.1, 0, t.2.2.2.1, z)) mw_z_s) ?_
    refine sv_iinc1 (lv' := [(1, _), (0, _)]) dX5_load_49 rfl (by decide) rfl ?_
    refine sv_goto 37 dX5_load_52 (by decide) ?_
    exact sv_sub [0, 1] rfl (ih_k trivial)
end CAL
