section CP3
variable {G : sm_G} {M : sm_M} {R : Room} {Z : sm_Z} {cells slots pc index : Nat} {lv : List (Nat × Value)} {st : List Value} {h : sm_H} {a b n g k p v : Nat} {c c2 : Nat} {O O2 : Nat → Nat} {B : Nat → Nat}
theorem k2_remove (hq : cl_hq G h a c O) (hc : c ≤ 3) (hk : k < c) : sm_F G mX2_remove 0 [.ref a, .int (nI k)] h (.inl none) (cl_q G h a (c - 1) (cq_sh O k (c - 1 - k))) := by
  unfold sm_F sm_C
  show sm_V G _ _ _ 0 0 0 [(0, .ref a), (1, .int (nI k))] [] _
  refine sv_heap (ql_self hq) ?_
  refine sv_heap (congrArg (cl_q G h a c) (cq_sh_0 O k).symm) ?_
  refine sv_iload_n dX2_remove_0 rfl ?_
  refine sv_ifN_lt 12 dX2_remove_1 (by decide) (by omega) (fun c_1 => absurd c_1 (fun q => q)) (fun c_1 => ?_)
  refine sv_iload_n dX2_remove_4 rfl ?_
  refine sv_aload_n dX2_remove_5 rfl ?_
  refine kq_g1 ql_h dX2_remove_6 sf_X2_15 ?_
  refine sv_icmpN_lt 13 dX2_remove_9 (by decide) (by omega) (by omega) (fun c_9 => ?_) (fun c_9 => absurd c_9 (by omega))
  refine sv_iload_n dX2_remove_13 rfl ?_
  refine sv_istore_n (lv' := [(2, _), (0, _), (1, _)]) dX2_remove_14 (by decide) rfl ?_
  refine sv_sub [0, 1, 2] rfl (sv_loop (pc := 15) (lv := fun n => [(2, .int (nI (k + n))), (0, .ref a), (1, .int (nI k))]) (hp := fun n => (cl_q G h a c (cq_sh O k n))) (I := fun n => True) (N := c - 1 - k) (trivial) ?_ ?_)
  · intro hI
    show sm_V G _ _ _ _ _ _ [(2, .int (nI (k + (c - 1 - k)))), (0, .ref a), (1, .int (nI k))] [] (cl_q G h a c (cq_sh O k (c - 1 - k)))
    refine sv_iload_n dX2_remove_15 rfl ?_
    refine sv_iconst (nI 1) dX2_remove_16 (by decide) ?_
    refine sv_iaddN dX2_remove_17 ?_
    refine sv_aload_n dX2_remove_18 rfl ?_
    refine kq_g1 ql_h dX2_remove_19 sf_X2_15 ?_
    refine sv_icmpN_ge 52 dX2_remove_22 (by decide) (by omega) (by omega) (fun c_22 => ?_) (fun c_22 => absurd c_22 (by omega))
    refine sv_aload_n dX2_remove_52 rfl ?_
    refine sv_dup dX2_remove_53 rfl ?_
    refine kq_g1 ql_h dX2_remove_54 sf_X2_15 ?_
    refine sv_iconst (nI 1) dX2_remove_57 (by decide) ?_
    refine sv_isubN dX2_remove_58 (by omega) ?_
    refine kq_p1 dX2_remove_59 sf_X2_15 ?_
    refine sv_vret dX2_remove_62 rfl (Nat.le_refl _) (Nat.le_refl _) ?_
    exact ⟨rfl, rfl⟩
  · intro n hn hI ih
    show sm_V G _ _ _ _ _ _ [(2, .int (nI (k + n))), (0, .ref a), (1, .int (nI k))] [] (cl_q G h a c (cq_sh O k n))
    refine sv_iload_n dX2_remove_15 rfl ?_
    refine sv_iconst (nI 1) dX2_remove_16 (by decide) ?_
    refine sv_iaddN dX2_remove_17 ?_
    refine sv_aload_n dX2_remove_18 rfl ?_
    refine kq_g1 ql_h dX2_remove_19 sf_X2_15 ?_
    refine sv_icmpN_ge 52 dX2_remove_22 (by decide) (by omega) (by omega) (fun c_22 => absurd c_22 (by omega)) (fun c_22 => ?_)
    refine sv_iload_n dX2_remove_25 rfl ?_
    refine sv_iconst (nI 1) dX2_remove_26 (by decide) ?_
    refine sv_iaddN dX2_remove_27 ?_
    refine sv_iconst (nI 3) dX2_remove_28 (by decide) ?_
    refine sv_icmpN_ge 52 dX2_remove_29 (by decide) (by omega) (by omega) (fun c_29 => absurd c_29 (by omega)) (fun c_29 => ?_)
    refine sv_aload_n dX2_remove_32 rfl ?_
    refine kq_g0 ql_h dX2_remove_33 sf_X2_11 ?_
    refine sv_iload_n dX2_remove_36 rfl ?_
    refine sv_aload_n dX2_remove_37 rfl ?_
    refine kq_g0 ql_h dX2_remove_38 sf_X2_11 ?_
    refine sv_iload_n dX2_remove_41 rfl ?_
    refine sv_iconst (nI 1) dX2_remove_42 (by decide) ?_
    refine sv_iaddN dX2_remove_43 ?_
    refine kq_ld ql_h dX2_remove_44 (by omega) ?_
    refine kq_st dX2_remove_45 (by omega) ?_
    refine sv_heap (h' := (cl_q G h a c (cq_sh O k (n + 1)))) (congrArg (cl_q G h a c) cq_sh_s) ?_
    refine sv_iinc1 (lv' := [(2, _), (0, _), (1, _)]) dX2_remove_46 rfl (by decide) rfl ?_
    refine sv_goto 15 dX2_remove_49 (by decide) ?_
    exact sv_sub [0, 1, 2] rfl (ih trivial)
/-! the text: n signs -/
def cl_tf (a n : Nat) : List Value := [.ref (a + 1), .int (nI n)]
def cl_tg (B : Nat → Nat) : Nat → Int32 := fun j => if j < 120 then nI (B j) else 0
def cl_t (G : sm_G) (h : sm_H) (a n : Nat) (B : Nat → Nat) : sm_H := fun b => if b = a then some (.inr (4, cl_tf a n)) else if b = a + 1 then some (sm_ac G 120 (cl_tg B)) else h b
def cl_ht (G : sm_G) (h : sm_H) (a n : Nat) (B : Nat → Nat) : Prop := h a = some (.inr (4, cl_tf a n)) ∧ h (a + 1) = some (sm_ac G 120 (cl_tg B))
theorem tl_h : cl_ht G (cl_t G h a n B) a n B := by
  refine ⟨?_, ?_⟩
  · unfold cl_t; rw [if_pos rfl]
  · unfold cl_t; rw [if_neg (by omega), if_pos rfl]
theorem tl_self (hp : cl_ht G h a n B) : h = cl_t G h a n B := by
  funext b; unfold cl_t
  split
  · rename_i e; subst e; exact hp.1
  split
  · rename_i e; subst e; exact hp.2
  rfl
theorem vp_ch : ∀ v, v < 256 → vp_nar .char (nI v) = nI v := by decide +kernel
theorem i2c_ch : ∀ v, v < 256 → ((nI v).toUInt32 % 65536).toInt32 = nI v := by decide +kernel
theorem nar_c (hv : v < 256) : narrow .char (.int (nI v)) = .int (nI v) := by
  have e : narrow .char (.int (nI v)) = .int (vp_nar .char (nI v)) := rfl
  rw [e, vp_ch v hv]
theorem kt_g0 (ht : cl_ht G h a n B) (hd : decode M.2.1 pc = .ok (.getfield index, 3)) (hw : sm_fl M.1.cls index 0 TX4) (k : sm_V G M R Z cells slots (pc + 3) lv (.ref (a + 1) :: st) h) : sm_V G M R Z cells slots pc lv (.ref a :: st) h := sv_get sm_cl4 hd (k := 0) (by decide) hw ht.1 rfl k
theorem kt_g1 (ht : cl_ht G h a n B) (hd : decode M.2.1 pc = .ok (.getfield index, 3)) (hw : sm_fl M.1.cls index 1 TX4) (k : sm_V G M R Z cells slots (pc + 3) lv (.int (nI n) :: st) h) : sm_V G M R Z cells slots pc lv (.ref a :: st) h := sv_get sm_cl4 hd (k := 1) (by decide) hw ht.1 rfl k
theorem kt_ld (ht : cl_ht G h a n B) (hd : decode M.2.1 pc = .ok (.caload, 1)) (hg : g < 120) (k : sm_V G M R Z cells slots (pc + 1) lv (.int (nI (B g)) :: st) h) : sm_V G M R Z cells slots pc lv (.int (nI g) :: .ref (a + 1) :: st) h := sv_caload hd ht.2 (vp_in_nI hg (by omega)) (by rw [nI_clamp (by omega), show cl_tg B g = nI (B g) from if_pos hg]; exact k)
theorem tl_p1 : sm_up (cl_t G h a n B) a (.inr (4, (cl_tf a n).set 1 (.int (nI v)))) = cl_t G h a v B := by
  funext b; unfold sm_up cl_t; split <;> rfl
theorem kt_p1 (hd : decode M.2.1 pc = .ok (.putfield index, 3)) (hw : sm_fl M.1.cls index 1 TX4) (k : sm_V G M R Z cells slots (pc + 3) lv st (cl_t G h a v B)) : sm_V G M R Z cells slots pc lv (.int (nI v) :: .ref a :: st) (cl_t G h a n B) := sv_put sm_cl4 hd (k := 1) (by decide) hw rfl tl_h.1 (Nat.le_of_ble_eq_true rfl) rfl rfl (sv_heap tl_p1 k)
theorem tl_s (hg : g < 120) : sm_up (cl_t G h a n B) (a + 1) (sm_ac G 120 (upd (cl_tg B) g (nI v))) = cl_t G h a n (va_up B g v) := by
  have e : upd (cl_tg B) g (nI v) = cl_tg (va_up B g v) := by
    funext j; unfold upd cl_tg va_up
    by_cases e : j = g
    · subst e; simp [hg]
    · rw [if_neg e, if_neg e]
  rw [e]; funext b; unfold sm_up cl_t
  by_cases e : b = a
  · subst e; rw [if_neg (by omega), if_pos rfl, if_pos rfl]
  · rw [if_neg e, if_neg e]
    by_cases e3 : b = a + 1
    · rw [if_pos e3, if_pos e3]
    · rw [if_neg e3, if_neg e3, if_neg e3]
theorem kt_st (hv : v < 256) (hd : decode M.2.1 pc = .ok (.castore, 1)) (hg : g < 120) (k : sm_V G M R Z cells slots (pc + 1) lv st (cl_t G h a n (va_up B g v))) : sm_V G M R Z cells slots pc lv (.int (nI v) :: .int (nI g) :: .ref (a + 1) :: st) (cl_t G h a n B) := sv_castore hd tl_h.2 (vp_in_nI hg (by omega)) (by rw [nI_clamp (by omega), vp_ch v hv]; exact sv_heap (tl_s hg) k)
theorem k4_add0 (ht : cl_ht G h a n B) (hn : n = 120) : sm_F G mX4_add 0 [.ref a, .int (nI v)] h (.inl (some (.int (nI 0)))) h := by
  unfold sm_F sm_C
  show sm_V G _ _ _ 0 0 0 [(0, .ref a), (1, .int (nI v))] [] _
  refine sv_aload_n dX4_add_0 rfl ?_
  refine kt_g1 ht dX4_add_1 sf_X4_15 ?_
  refine sv_bipush (nI 120) dX4_add_4 (by decide) ?_
  refine sv_icmpN_lt 11 dX4_add_6 (by decide) (by omega) (by omega) (fun c_6 => absurd c_6 (by omega)) (fun c_6 => ?_)
  refine sv_iconst (nI 0) dX4_add_9 (by decide) ?_
  refine sv_iret dX4_add_10 rfl rfl (Nat.le_refl _) (Nat.le_refl _) ?_
  exact ⟨rfl, rfl⟩
theorem k4_addK (ht : cl_ht G h a n B) (hn : n < 120) (hv : v < 256) : sm_F G mX4_add 0 [.ref a, .int (nI v)] h (.inl (some (.int (nI 1)))) (cl_t G h a (n + 1) (va_up B n v)) := by
  unfold sm_F sm_C
  show sm_V G _ _ _ 0 0 0 [(0, .ref a), (1, .int (nI v))] [] _
  refine sv_heap (tl_self ht) ?_
  refine sv_aload_n dX4_add_0 rfl ?_
  refine kt_g1 tl_h dX4_add_1 sf_X4_15 ?_
  refine sv_bipush (nI 120) dX4_add_4 (by decide) ?_
  refine sv_icmpN_lt 11 dX4_add_6 (by decide) (by omega) (by omega) (fun c_6 => ?_) (fun c_6 => absurd c_6 (by omega))
  refine sv_aload_n dX4_add_11 rfl ?_
  refine kt_g0 tl_h dX4_add_12 sf_X4_11 ?_
  refine sv_aload_n dX4_add_15 rfl ?_
  refine kt_g1 tl_h dX4_add_16 sf_X4_15 ?_
  refine sv_iload_n dX4_add_19 rfl ?_
  refine kt_st hv dX4_add_20 (by omega) ?_
  refine sv_aload_n dX4_add_21 rfl ?_
  refine sv_dup dX4_add_22 rfl ?_
  refine kt_g1 tl_h dX4_add_23 sf_X4_15 ?_
  refine sv_iconst (nI 1) dX4_add_26 (by decide) ?_
  refine sv_iaddN dX4_add_27 ?_
  refine kt_p1 dX4_add_28 sf_X4_15 ?_
  refine sv_iconst (nI 1) dX4_add_31 (by decide) ?_
  refine sv_iret dX4_add_32 rfl rfl (Nat.le_refl _) (Nat.le_refl _) ?_
  exact ⟨rfl, rfl⟩
theorem gm_let_c (hB : ∀ i, i < n → B i < 256) : narrow .char (.int (nI (gm_let B n p))) = .int (nI (gm_let B n p)) := nar_c (gm_let_lt hB)
theorem k4_signAt (ht : cl_ht G h a n B) (hn : n ≤ 120) (hB : ∀ i, i < n → B i < 256) (hp : p < 2 ^ 31) : sm_F G mX4_signAt 0 [.ref a, .int (nI p)] h (.inl (some (.int (nI (gm_let B n p))))) h := by
  unfold sm_F sm_C
  show sm_V G _ _ _ 0 0 0 [(0, .ref a), (1, .int (nI p))] [] _
  refine sv_iload_n dX4_signAt_0 rfl ?_
  refine sv_ifN_lt 21 dX4_signAt_1 (by decide) (by omega) (fun c_1 => absurd c_1 (fun q => q)) (fun c_1 => ?_)
  refine sv_iload_n dX4_signAt_4 rfl ?_
  refine sv_aload_n dX4_signAt_5 rfl ?_
  refine kt_g1 ht dX4_signAt_6 sf_X4_15 ?_
  refine sv_icmpN_ge 21 dX4_signAt_9 (by decide) (by omega) (by omega) (fun c_9 => ?_) (fun c_9 => ?_)
  · refine sv_iconst (nI 0) dX4_signAt_21 (by decide) ?_
    refine sv_iret dX4_signAt_22 rfl rfl (Nat.le_refl _) (Nat.le_refl _) ?_
    exact ⟨rI (by first | rw [gm_let_f (by omega)] | rw [gm_let_t (by omega)]), rfl⟩
  · refine sv_aload_n dX4_signAt_12 rfl ?_
    refine kt_g0 ht dX4_signAt_13 sf_X4_11 ?_
    refine sv_iload_n dX4_signAt_16 rfl ?_
    refine kt_ld ht dX4_signAt_17 (by omega) ?_
    refine sv_goto 22 dX4_signAt_18 (by decide) ?_
    refine sv_iret dX4_signAt_22 rfl (nar_c (hB _ (by omega))) (Nat.le_refl _) (Nat.le_refl _) ?_
    exact ⟨rI (by first | rw [gm_let_f (by omega)] | rw [gm_let_t (by omega)]), rfl⟩
def ct_bt (B : Nat → Nat) (n p lo hi : Nat) : Bool := decide (lo ≤ gm_let B n p ∧ gm_let B n p ≤ hi)
theorem k4_isBetween (ht : cl_ht G h a n B) (hn : n ≤ 120) (hB : ∀ i, i < n → B i < 256) (hp : p < 2 ^ 31) (h1 : c < 2 ^ 31) (h2 : c2 < 2 ^ 31) : sm_F G mX4_isBetween 1 [.ref a, .int (nI p), .int (nI c), .int (nI c2)] h (.inl (some (.int (nI (b2n (ct_bt B n p c c2)))))) h := by
  unfold sm_F sm_C
  show sm_V G _ _ _ 0 0 0 [(0, .ref a), (1, .int (nI p)), (2, .int (nI c)), (3, .int (nI c2))] [] _
  have l := gm_let_lt (p := p) hB
  refine sv_aload_n dX4_isBetween_0 rfl ?_
  refine sv_iload_n dX4_isBetween_1 rfl ?_
  refine sv_callV (As := [_]) sc_X4_19 (k4_signAt ht hn hB (by omega)) rfl rfl (Nat.le_of_ble_eq_true rfl) dX4_isBetween_2 ⟨by decide, by decide⟩ ⟨Nat.le_refl _, Nat.le_refl _⟩ (Nat.le_of_ble_eq_true rfl) ht.1 (List.cons_ne_nil _ _) rfl ?_
  refine sv_iload_n dX4_isBetween_5 rfl ?_
  refine sv_icmpN_lt 22 dX4_isBetween_6 (by decide) (by omega) (by omega) (fun c_6 => ?_) (fun c_6 => ?_)
  · refine sv_iconst (nI 0) dX4_isBetween_22 (by decide) ?_
    refine sv_iret dX4_isBetween_23 rfl rfl (Nat.le_refl _) (Nat.le_refl _) ?_
    first | exact ⟨rt1 (by omega), rfl⟩ | exact ⟨rf0 (by omega), rfl⟩
  · refine sv_aload_n dX4_isBetween_9 rfl ?_
    refine sv_iload_n dX4_isBetween_10 rfl ?_
    refine sv_callV (As := [_]) sc_X4_19 (k4_signAt ht hn hB (by omega)) rfl rfl (Nat.le_of_ble_eq_true rfl) dX4_isBetween_11 ⟨by decide, by decide⟩ ⟨Nat.le_refl _, Nat.le_refl _⟩ (Nat.le_of_ble_eq_true rfl) ht.1 (List.cons_ne_nil _ _) rfl ?_
    refine sv_iload_n dX4_isBetween_14 rfl ?_
    refine sv_icmpN_gt 22 dX4_isBetween_15 (by decide) (by omega) (by omega) (fun c_15 => ?_) (fun c_15 => ?_)
    · refine sv_iconst (nI 0) dX4_isBetween_22 (by decide) ?_
      refine sv_iret dX4_isBetween_23 rfl rfl (Nat.le_refl _) (Nat.le_refl _) ?_
      first | exact ⟨rt1 (by omega), rfl⟩ | exact ⟨rf0 (by omega), rfl⟩
    · refine sv_iconst (nI 1) dX4_isBetween_18 (by decide) ?_
      refine sv_goto 23 dX4_isBetween_19 (by decide) ?_
      refine sv_iret dX4_isBetween_23 rfl rfl (Nat.le_refl _) (Nat.le_refl _) ?_
      first | exact ⟨rt1 (by omega), rfl⟩ | exact ⟨rf0 (by omega), rfl⟩
theorem k4_digitAt (ht : cl_ht G h a n B) (hn : n ≤ 120) (hB : ∀ i, i < n → B i < 256) (hp : p < 2 ^ 31) : sm_F G mX4_digitAt 1 [.ref a, .int (nI p)] h (.inl (some (.int (nI (gm_let B n p) - nI 48)))) h := by
  unfold sm_F sm_C
  show sm_V G _ _ _ 0 0 0 [(0, .ref a), (1, .int (nI p))] [] _
  refine sv_aload_n dX4_digitAt_0 rfl ?_
  refine sv_iload_n dX4_digitAt_1 rfl ?_
  refine sv_callV (As := [_]) sc_X4_19 (k4_signAt ht hn hB (by omega)) rfl rfl (Nat.le_of_ble_eq_true rfl) dX4_digitAt_2 ⟨by decide, by decide⟩ ⟨Nat.le_refl _, Nat.le_refl _⟩ (Nat.le_of_ble_eq_true rfl) ht.1 (List.cons_ne_nil _ _) rfl ?_
  refine sv_bipush (nI 48) dX4_digitAt_5 (by decide) ?_
  refine sv_isub dX4_digitAt_7 ?_
  refine sv_iret dX4_digitAt_8 rfl rfl (Nat.le_refl _) (Nat.le_refl _) ?_
  exact ⟨rfl, rfl⟩
theorem k4_players (ht : cl_ht G h a n B) (hn : n ≤ 120) (hB : ∀ i, i < n → B i < 256) : sm_F G mX4_players 2 [.ref a] h (.inl (some (.int (nI (gm_let B n 1) - nI 48)))) h := by
  unfold sm_F sm_C
  show sm_V G _ _ _ 0 0 0 [(0, .ref a)] [] _
  refine sv_aload_n dX4_players_0 rfl ?_
  refine sv_iconst (nI 1) dX4_players_1 (by decide) ?_
  refine sv_callV (As := [_]) sc_X4_34 (k4_digitAt ht hn hB (by omega)) rfl rfl (Nat.le_of_ble_eq_true rfl) dX4_players_2 ⟨by decide, by decide⟩ ⟨Nat.le_refl _, Nat.le_refl _⟩ (Nat.le_of_ble_eq_true rfl) ht.1 (List.cons_ne_nil _ _) rfl ?_
  refine sv_iret dX4_players_5 rfl rfl (Nat.le_refl _) (Nat.le_refl _) ?_
  exact ⟨rfl, rfl⟩
theorem k4_seed (ht : cl_ht G h a n B) (hn : n ≤ 120) (hB : ∀ i, i < n → B i < 256) : sm_F G mX4_seed 2 [.ref a] h (.inl (some (.int (nI 10 * (nI (gm_let B n 2) - nI 48) + (nI (gm_let B n 3) - nI 48))))) h := by
  unfold sm_F sm_C
  show sm_V G _ _ _ 0 0 0 [(0, .ref a)] [] _
  refine sv_bipush (nI 10) dX4_seed_0 (by decide) ?_
  refine sv_aload_n dX4_seed_2 rfl ?_
  refine sv_iconst (nI 2) dX4_seed_3 (by decide) ?_
  refine sv_callV (As := [_]) sc_X4_34 (k4_digitAt ht hn hB (by omega)) rfl rfl (Nat.le_of_ble_eq_true rfl) dX4_seed_4 ⟨by decide, by decide⟩ ⟨Nat.le_refl _, Nat.le_refl _⟩ (Nat.le_of_ble_eq_true rfl) ht.1 (List.cons_ne_nil _ _) rfl ?_
  refine sv_imul dX4_seed_7 ?_
  refine sv_aload_n dX4_seed_8 rfl ?_
  refine sv_iconst (nI 3) dX4_seed_9 (by decide) ?_
  refine sv_callV (As := [_]) sc_X4_34 (k4_digitAt ht hn hB (by omega)) rfl rfl (Nat.le_of_ble_eq_true rfl) dX4_seed_10 ⟨by decide, by decide⟩ ⟨Nat.le_refl _, Nat.le_refl _⟩ (Nat.le_of_ble_eq_true rfl) ht.1 (List.cons_ne_nil _ _) rfl ?_
  refine sv_iadd dX4_seed_13 ?_
  refine sv_iret dX4_seed_14 rfl rfl (Nat.le_refl _) (Nat.le_refl _) ?_
  exact ⟨rfl, rfl⟩
theorem gm_rm_o (h2 : gm_pof (gm_let B n p) ≠ 2) (h3 : gm_pof (gm_let B n p) ≠ 3) : gm_rm B n p = (gm_o1 B n p, gm_p1 B n p, nI 0) := by unfold gm_rm; rw [if_neg h2, if_neg h3]
theorem wo_bt {lo hi : Nat} (h : 1 ≤ lo) : gm_wo B n true p lo hi = ct_bt B n p lo hi := by
  unfold gm_wo ct_bt
  rw [Bool.true_and]
  by_cases e : p < n
  · simp [e]
  · rw [gm_let_f (by omega), decide_eq_false (by omega), decide_eq_false (by omega)]
def ct_mf (B : Nat → Nat) (n p : Nat) : Int32 := if (gm_rm B n p).1 = true then -1 else nI (gm_rm B n p).2.1
def ct_ml (B : Nat → Nat) (n p : Nat) : Nat := if gm_let B n p = 108 then 2 else if gm_let B n p = 109 then 3 else 1
theorem ct_cs (l : Nat) : l = 45 ∨ l = 104 ∨ l = 108 ∨ l = 109 ∨ l = 110 ∨ l = 112 ∨ l = 114 ∨ (l ≠ 45 ∧ l ≠ 104 ∧ l ≠ 108 ∧ l ≠ 109 ∧ l ≠ 110 ∧ l ≠ 112 ∧ l ≠ 114) := by omega
theorem gm_pof_7 {l : Nat} (e : l ≠ 45 ∧ l ≠ 104 ∧ l ≠ 108 ∧ l ≠ 109 ∧ l ≠ 110 ∧ l ≠ 112 ∧ l ≠ 114) : gm_pof l = 7 := by
  obtain ⟨a, b, c, d, e, f, g⟩ := e
  unfold gm_pof; rw [if_neg a, if_neg b, if_neg c, if_neg d, if_neg e, if_neg f, if_neg g]
theorem ct_mf_o {l : Nat} (e : gm_let B n p = l) (h2 : gm_pof l ≠ 2) (h3 : gm_pof l ≠ 3) (h7 : gm_pof l ≠ 7) : -1 = ct_mf B n p := by
  unfold ct_mf; rw [gm_rm_o (by rw [e]; exact h2) (by rw [e]; exact h3), if_pos (by unfold gm_o1; rw [e]; exact decide_eq_true h7)]
theorem ct_mf_7 (h7 : gm_pof (gm_let B n p) = 7) : nI p = ct_mf B n p := by
  have o : gm_o1 B n p = false := by unfold gm_o1; rw [h7]; rfl
  unfold ct_mf; rw [gm_rm_o (by omega) (by omega), o, if_neg (by intro z; cases z)]
  show nI p = nI (gm_p1 B n p)
  unfold gm_p1; rw [o]; rfl
theorem gm_rm_l (e : gm_let B n p = 108) : gm_rm B n p = (ct_bt B n (p + 1) 49 51, p + 1 + b2n (ct_bt B n (p + 1) 49 51), nI (gm_let B n (p + 1)) - nI 49 + nI 1) := by
  unfold gm_rm; rw [if_pos (by rw [e]; rfl), wo_bt (by omega)]
theorem ct_mf_l1 (e : gm_let B n p = 108) (h : ct_bt B n (p + 1) 49 51 = true) : -1 = ct_mf B n p := by
  unfold ct_mf; rw [gm_rm_l e, if_pos h]
theorem ct_mf_l0 (e : gm_let B n p = 108) (h : ct_bt B n (p + 1) 49 51 = false) : nI (p + 1) = ct_mf B n p := by
  unfold ct_mf; rw [gm_rm_l e, if_neg (ne_t h), h]; rfl
theorem gm_rm_m1 (e : gm_let B n p = 109) (h : ct_bt B n (p + 1) 48 50 = true) : gm_rm B n p = (ct_bt B n (p + 2) 49 51, p + 2 + b2n (ct_bt B n (p + 2) 49 51), nI 10 * (nI (gm_let B n (p + 1)) - nI 48) + (nI (gm_let B n (p + 2)) - nI 49 + nI 1)) := by
  unfold gm_rm; rw [if_neg (by rw [e]; decide), if_pos (by rw [e]; rfl), wo_bt (by omega), h, wo_bt (by omega)]; rfl
theorem gm_rm_m0 (e : gm_let B n p = 109) (h : ct_bt B n (p + 1) 48 50 = false) : (gm_rm B n p).1 = false ∧ (gm_rm B n p).2.1 = p + 1 := by
  unfold gm_rm; rw [if_neg (by rw [e]; decide), if_pos (by rw [e]; rfl), wo_bt (by omega), h]
  have w : ∀ q, gm_wo B n false q 49 51 = false := fun q => gm_wo_2 rfl
  rw [w]; exact ⟨rfl, rfl⟩
theorem ct_mf_m0 (e : gm_let B n p = 109) (h : ct_bt B n (p + 1) 48 50 = false) : nI (p + 1) = ct_mf B n p := by
  obtain ⟨a, b⟩ := gm_rm_m0 e h
  unfold ct_mf; rw [if_neg (ne_t a), b]
theorem ct_mf_m11 (e : gm_let B n p = 109) (h : ct_bt B n (p + 1) 48 50 = true) (h2 : ct_bt B n (p + 2) 49 51 = true) : -1 = ct_mf B n p := by
  unfold ct_mf; rw [gm_rm_m1 e h, if_pos h2]
theorem ct_mf_m10 (e : gm_let B n p = 109) (h : ct_bt B n (p + 1) 48 50 = true) (h2 : ct_bt B n (p + 2) 49 51 = false) : nI (p + 2) = ct_mf B n p := by
  unfold ct_mf; rw [gm_rm_m1 e h, if_neg (ne_t h2), h2]; rfl
theorem ct_ml_rm (h : (gm_rm B n p).1 = true) : (gm_rm B n p).2.1 = p + ct_ml B n p := by
  by_cases e8 : gm_let B n p = 108
  · rw [gm_rm_l e8] at h ⊢
    have h' : ct_bt B n (p + 1) 49 51 = true := h
    rw [h']; unfold ct_ml; rw [if_pos e8]; rfl
  by_cases e9 : gm_let B n p = 109
  · cases h1 : ct_bt B n (p + 1) 48 50 with
    | false => rw [(gm_rm_m0 e9 h1).1] at h; cases h
    | true =>
      rw [gm_rm_m1 e9 h1] at h ⊢
      have h' : ct_bt B n (p + 2) 49 51 = true := h
      rw [h']; unfold ct_ml; rw [if_neg e8, if_pos e9]; rfl
  · have p2 : gm_pof (gm_let B n p) ≠ 2 := by
      rcases ct_cs (gm_let B n p) with e | e | e | e | e | e | e | e
      all_goals first | exact absurd e e8 | exact absurd e e9 | (rw [e]; decide) | (rw [gm_pof_7 e]; decide)
    have p3 : gm_pof (gm_let B n p) ≠ 3 := by
      rcases ct_cs (gm_let B n p) with e | e | e | e | e | e | e | e
      all_goals first | exact absurd e e8 | exact absurd e e9 | (rw [e]; decide) | (rw [gm_pof_7 e]; decide)
    rw [gm_rm_o p2 p3] at h ⊢
    have h' : gm_o1 B n p = true := h
    show gm_p1 B n p = _
    unfold gm_p1 ct_ml; rw [h', if_neg e8, if_neg e9]; rfl
/-- a move's place; none for passing -/
def ct_mp (l : Nat) : Int32 := if gm_pof l < 6 then nI (gm_pof l) else -1
theorem ct_49 (x : Int32) : x - nI 49 + nI 1 = x - nI 48 := by
  rw [show nI 49 = nI 48 + nI 1 from rfl]; grind
theorem ct_rm_7 (h : (gm_rm B n p).1 = true) : gm_pof (gm_let B n p) ≠ 7 := by
  intro e
  rw [gm_rm_o (by omega) (by omega)] at h
  exact absurd e (of_decide_eq_true h)
/-! the head of a text -/
theorem ct_rans {M : Nat → Int32} (h : gm_k4 B n = false) : gm_rans (gm_read B n M) = nI (gm_j4 B n) := by
  have : gm_read B n M = (gm_k4 B n, gm_j4 B n, 0, M) := by
    unfold gm_read; unfold gm_rdN; rw [if_neg (by rintro ⟨z, -⟩; simp only at z; rw [h] at z; cases z)]
  rw [this]; unfold gm_rans; rw [if_neg (ne_t h)]
theorem ct_k1 : gm_k1 B n = ct_bt B n 0 83 83 := wo_bt (by omega)
theorem ct_h0 {M : Nat → Int32} (h : ct_bt B n 0 83 83 = false) : nI 0 = gm_rans (gm_read B n M) := by
  have k1 : gm_k1 B n = false := ct_k1.trans h
  have k2 : gm_k2 B n = false := gm_wo_2 k1
  have k3 : gm_k3 B n = false := gm_wo_2 k2
  have k4 : gm_k4 B n = false := gm_wo_2 k3
  rw [ct_rans k4]; unfold gm_j4 gm_j3 gm_j2 gm_j1; rw [k1, k2, k3, k4]; rfl
theorem ct_e1 (h : ct_bt B n 0 83 83 = true) : gm_j1 B n = 1 ∧ gm_k2 B n = ct_bt B n 1 50 52 := by
  have k1 : gm_k1 B n = true := ct_k1.trans h
  have j1 : gm_j1 B n = 1 := by unfold gm_j1; rw [k1]; rfl
  exact ⟨j1, by unfold gm_k2; rw [k1, j1]; exact wo_bt (by omega)⟩
theorem ct_h1 {M : Nat → Int32} (h0 : ct_bt B n 0 83 83 = true) (h : ct_bt B n 1 50 52 = false) : nI 1 = gm_rans (gm_read B n M) := by
  obtain ⟨j1, k2'⟩ := ct_e1 h0
  have k2 : gm_k2 B n = false := k2'.trans h
  have k3 : gm_k3 B n = false := gm_wo_2 k2
  have k4 : gm_k4 B n = false := gm_wo_2 k3
  rw [ct_rans k4]; unfold gm_j4 gm_j3 gm_j2; rw [j1, k2, k3, k4]; rfl
theorem ct_e2 (h0 : ct_bt B n 0 83 83 = true) (h : ct_bt B n 1 50 52 = true) : gm_j2 B n = 2 ∧ gm_k3 B n = ct_bt B n 2 48 57 := by
  obtain ⟨j1, k2'⟩ := ct_e1 h0
  have k2 : gm_k2 B n = true := k2'.trans h
  have j2 : gm_j2 B n = 2 := by unfold gm_j2; rw [j1, k2]; rfl
  exact ⟨j2, by unfold gm_k3; rw [k2, j2]; exact wo_bt (by omega)⟩
theorem ct_h2 {M : Nat → Int32} (h0 : ct_bt B n 0 83 83 = true) (h1 : ct_bt B n 1 50 52 = true) (h : ct_bt B n 2 48 57 = false) : nI 2 = gm_rans (gm_read B n M) := by
  obtain ⟨j2, k3'⟩ := ct_e2 h0 h1
  have k3 : gm_k3 B n = false := k3'.trans h
  have k4 : gm_k4 B n = false := gm_wo_2 k3
  rw [ct_rans k4]; unfold gm_j4 gm_j3; rw [j2, k3, k4]; rfl
theorem ct_e3 (h0 : ct_bt B n 0 83 83 = true) (h1 : ct_bt B n 1 50 52 = true) (h : ct_bt B n 2 48 57 = true) : gm_j3 B n = 3 ∧ gm_k4 B n = ct_bt B n 3 48 57 := by
  obtain ⟨j2, k3'⟩ := ct_e2 h0 h1
  have k3 : gm_k3 B n = true := k3'.trans h
  have j3 : gm_j3 B n = 3 := by unfold gm_j3; rw [j2, k3]; rfl
  exact ⟨j3, by unfold gm_k4; rw [k3, j3]; exact wo_bt (by omega)⟩
theorem ct_h3 {M : Nat → Int32} (h0 : ct_bt B n 0 83 83 = true) (h1 : ct_bt B n 1 50 52 = true) (h2 : ct_bt B n 2 48 57 = true) (h : ct_bt B n 3 48 57 = false) : nI 3 = gm_rans (gm_read B n M) := by
  obtain ⟨j3, k4'⟩ := ct_e3 h0 h1 h2
  have k4 : gm_k4 B n = false := k4'.trans h
  rw [ct_rans k4]; unfold gm_j4; rw [j3, k4]; rfl
theorem ct_h23 {M : Nat → Int32} {q : Nat} (hq : q < 2) (h0 : ct_bt B n 0 83 83 = true) (h1 : ct_bt B n 1 50 52 = true) (hI : ∀ i, i < q → ct_bt B n (2 + i) 48 57 = true) (h : ct_bt B n (2 + q) 48 57 = false) : nI (2 + q) = gm_rans (gm_read B n M) := by
  rcases (show q = 0 ∨ q = 1 by omega) with rfl | rfl
  · exact ct_h2 h0 h1 h
  · exact ct_h3 h0 h1 (hI 0 (by omega)) h
theorem ct_h4 (h0 : ct_bt B n 0 83 83 = true) (h1 : ct_bt B n 1 50 52 = true) (hI : ∀ i, i < 2 → ct_bt B n (2 + i) 48 57 = true) : gm_k4 B n = true ∧ gm_j4 B n = 4 := by
  have k4 := (ct_e3 h0 h1 (hI 0 (by omega))).2.trans (hI 1 (by omega))
  exact ⟨k4, gm_j4_4 k4⟩
/-- the class's reading: a state of the reference's, well so far -/
def ct_i (B : Nat → Nat) (n : Nat) (M : Nat → Int32) (s : gm_St) : Prop := gm_rdi B n M s ∧ s.1 = true
theorem ct_i_0 {M : Nat → Int32} (hn : n ≤ 120) (h0 : ct_bt B n 0 83 83 = true) (h1 : ct_bt B n 1 50 52 = true) (hI : ∀ i, i < 2 → ct_bt B n (2 + i) 48 57 = true) : ct_i B n M (true, 4, 0, M) := by
  obtain ⟨a, b⟩ := ct_h4 h0 h1 hI
  have := gm_rdi_0 (B := B) (M := M) hn
  rw [a, b] at this; exact ⟨this, rfl⟩
theorem ct_i_e {M : Nat → Int32} {s : gm_St} (h : ct_i B n M s) (he : n ≤ s.2.1) : -1 = gm_rans (gm_read B n M) := by
  rw [gm_rdi_e h.1 (by omega)]; unfold gm_rans; rw [if_pos h.2]
theorem ct_i_f {M : Nat → Int32} {s : gm_St} (h : ct_i B n M s) (he : s.2.1 < n) (hf : ct_mf B n s.2.1 ≠ -1) : ct_mf B n s.2.1 = gm_rans (gm_read B n M) := by
  have h1 : (gm_rm B n s.2.1).1 = false := by
    cases e : (gm_rm B n s.2.1).1 with
    | false => rfl
    | true => exact absurd (by unfold ct_mf; rw [if_pos e]) hf
  have h2 := (gm_rdi_s h.1 h.2 he).1
  rw [gm_rdi_e h2 (by rintro ⟨z, -⟩; exact absurd (show (gm_rm B n s.2.1).1 = true from z) (ne_t h1))]
  unfold ct_mf gm_rans
  rw [if_neg (ne_t h1), if_neg (ne_t (show (gm_rs B n s).1 = false from h1))]; rfl
theorem ct_mf_1 (hf : ct_mf B n p = -1) (hp : p < n) (hn : n ≤ 120) : (gm_rm B n p).1 = true := by
  cases e : (gm_rm B n p).1 with
  | true => rfl
  | false => unfold ct_mf at hf; rw [if_neg (ne_t e)] at hf; exact absurd hf (ne_1 (by have := (gm_rm_p (B := B) hp).2.1; omega))
theorem ct_i_s {M : Nat → Int32} {s : gm_St} (h : ct_i B n M s) (he : s.2.1 < n) (hf : (gm_rm B n s.2.1).1 = true) : ct_i B n M (gm_rs B n s) ∧ 2 * (n - (gm_rs B n s).2.1) + b2n (gm_rs B n s).1 < 2 * (n - s.2.1) + b2n s.1 := ⟨⟨(gm_rdi_s h.1 h.2 he).1, hf⟩, (gm_rdi_s h.1 h.2 he).2⟩
theorem ct_off_f : ∀ l : Nat, l < 256 → l ≠ 45 ∧ l ≠ 104 ∧ l ≠ 108 ∧ l ≠ 109 ∧ l ≠ 110 ∧ l ≠ 112 ∧ l ≠ 114 → Op.lookupswitch.offset [(45, 67), (104, 67), (108, 69), (109, 91), (110, 67), (112, 67), (114, 67)] 131 (nI l).toInt = 131 := by decide +kernel
theorem ct_off_l : ∀ l : Nat, l < 256 → l ≠ 45 ∧ l ≠ 104 ∧ l ≠ 108 ∧ l ≠ 109 ∧ l ≠ 110 ∧ l ≠ 112 ∧ l ≠ 114 → Op.lookupswitch.offset [(108, 27), (109, 29)] 31 (nI l).toInt = 31 := by decide +kernel
theorem ct_off_c : ∀ l : Nat, l < 256 → l ≠ 45 ∧ l ≠ 104 ∧ l ≠ 108 ∧ l ≠ 109 ∧ l ≠ 110 ∧ l ≠ 112 ∧ l ≠ 114 → Op.lookupswitch.offset [(108, 27), (109, 35)] 54 (nI l).toInt = 54 := by decide +kernel
theorem k4_findMoveFault (ht : cl_ht G h a n B) (hn : n ≤ 120) (hB : ∀ i, i < n → B i < 256) (hp : p < 2 ^ 30) : sm_F G mX4_findMoveFault 2 [.ref a, .int (nI p)] h (.inl (some (.int (ct_mf B n p)))) h := by
  unfold sm_F sm_C
  show sm_V G _ _ _ 0 0 0 [(0, .ref a), (1, .int (nI p))] [] _
  have l := gm_let_lt (p := p) hB
  refine sv_aload_n dX4_findMoveFault_0 rfl ?_
  refine sv_iload_n dX4_findMoveFault_1 rfl ?_
  refine sv_callV (As := [_]) sc_X4_19 (k4_signAt ht hn hB (by omega)) rfl rfl (Nat.le_of_ble_eq_true rfl) dX4_findMoveFault_2 ⟨by decide, by decide⟩ ⟨Nat.le_refl _, Nat.le_refl _⟩ (Nat.le_of_ble_eq_true rfl) ht.1 (List.cons_ne_nil _ _) rfl ?_
  rcases ct_cs (gm_let B n p) with e | e | e | e | e | e | e | e
  · refine sv_top (nI 45) (congrArg nI e) ?_
    refine sv_lookup (off := 67) 72 dX4_findMoveFault_5 (by decide) (by decide) (by decide) ?_
    refine sv_iconst (-1) dX4_findMoveFault_72 (by decide) ?_
    refine sv_iret dX4_findMoveFault_73 rfl rfl (Nat.le_refl _) (Nat.le_refl _) ?_
    exact ⟨rI (ct_mf_o e (by decide) (by decide) (by decide)), rfl⟩
  · refine sv_top (nI 104) (congrArg nI e) ?_
    refine sv_lookup (off := 67) 72 dX4_findMoveFault_5 (by decide) (by decide) (by decide) ?_
    refine sv_iconst (-1) dX4_findMoveFault_72 (by decide) ?_
    refine sv_iret dX4_findMoveFault_73 rfl rfl (Nat.le_refl _) (Nat.le_refl _) ?_
    exact ⟨rI (ct_mf_o e (by decide) (by decide) (by decide)), rfl⟩
  · refine sv_top (nI 108) (congrArg nI e) ?_
    refine sv_lookup (off := 69) 74 dX4_findMoveFault_5 (by decide) (by decide) (by decide) ?_
    refine sv_aload_n dX4_findMoveFault_74 rfl ?_
    refine sv_iload_n dX4_findMoveFault_75 rfl ?_
    refine sv_iconst (nI 1) dX4_findMoveFault_76 (by decide) ?_
    refine sv_iaddN dX4_findMoveFault_77 ?_
    refine sv_bipush (nI 49) dX4_findMoveFault_78 (by decide) ?_
    refine sv_bipush (nI 51) dX4_findMoveFault_80 (by decide) ?_
    refine sv_callV (As := [_, _, _]) sc_X4_23 (k4_isBetween ht hn hB (by omega) (by omega) (by omega)) rfl rfl (Nat.le_of_ble_eq_true rfl) dX4_findMoveFault_82 ⟨by decide, by decide⟩ ⟨Nat.le_refl _, Nat.le_refl _⟩ (Nat.le_of_ble_eq_true rfl) ht.1 (List.cons_ne_nil _ _) rfl ?_
    refine sv_ifN_eq 92 dX4_findMoveFault_85 (by decide) (by first | omega | exact Nat.lt_trans (b2n_lt _) (by decide)) (fun c_85 => ?_) (fun c_85 => ?_)
    · refine sv_iload_n dX4_findMoveFault_92 rfl ?_
      refine sv_iconst (nI 1) dX4_findMoveFault_93 (by decide) ?_
      refine sv_iaddN dX4_findMoveFault_94 ?_
      refine sv_iret dX4_findMoveFault_95 rfl rfl (Nat.le_refl _) (Nat.le_refl _) ?_
      first | exact ⟨rI (ct_mf_l1 e (b2n_1 c_85)), rfl⟩ | exact ⟨rI (ct_mf_l0 e (b2n_f c_85)), rfl⟩
    · refine sv_iconst (-1) dX4_findMoveFault_88 (by decide) ?_
      refine sv_goto 95 dX4_findMoveFault_89 (by decide) ?_
      refine sv_iret dX4_findMoveFault_95 rfl rfl (Nat.le_refl _) (Nat.le_refl _) ?_
      first | exact ⟨rI (ct_mf_l1 e (b2n_1 c_85)), rfl⟩ | exact ⟨rI (ct_mf_l0 e (b2n_f c_85)), rfl⟩
  · refine sv_top (nI 109) (congrArg nI e) ?_
    refine sv_lookup (off := 91) 96 dX4_findMoveFault_5 (by decide) (by decide) (by decide) ?_
    refine sv_aload_n dX4_findMoveFault_96 rfl ?_
    refine sv_iload_n dX4_findMoveFault_97 rfl ?_
    refine sv_iconst (nI 1) dX4_findMoveFault_98 (by decide) ?_
    refine sv_iaddN dX4_findMoveFault_99 ?_
    refine sv_bipush (nI 48) dX4_findMoveFault_100 (by decide) ?_
    refine sv_bipush (nI 50) dX4_findMoveFault_102 (by decide) ?_
    refine sv_callV (As := [_, _, _]) sc_X4_23 (k4_isBetween ht hn hB (by omega) (by omega) (by omega)) rfl rfl (Nat.le_of_ble_eq_true rfl) dX4_findMoveFault_104 ⟨by decide, by decide⟩ ⟨Nat.le_refl _, Nat.le_refl _⟩ (Nat.le_of_ble_eq_true rfl) ht.1 (List.cons_ne_nil _ _) rfl ?_
    refine sv_ifN_ne 114 dX4_findMoveFault_107 (by decide) (by first | omega | exact Nat.lt_trans (b2n_lt _) (by decide)) (fun c_107 => ?_) (fun c_107 => ?_)
    · refine sv_aload_n dX4_findMoveFault_114 rfl ?_
      refine sv_iload_n dX4_findMoveFault_115 rfl ?_
      refine sv_iconst (nI 2) dX4_findMoveFault_116 (by decide) ?_
      refine sv_iaddN dX4_findMoveFault_117 ?_
      refine sv_bipush (nI 49) dX4_findMoveFault_118 (by decide) ?_
      refine sv_bipush (nI 51) dX4_findMoveFault_120 (by decide) ?_
      refine sv_callV (As := [_, _, _]) sc_X4_23 (k4_isBetween ht hn hB (by omega) (by omega) (by omega)) rfl rfl (Nat.le_of_ble_eq_true rfl) dX4_findMoveFault_122 ⟨by decide, by decide⟩ ⟨Nat.le_refl _, Nat.le_refl _⟩ (Nat.le_of_ble_eq_true rfl) ht.1 (List.cons_ne_nil _ _) rfl ?_
      refine sv_ifN_eq 132 dX4_findMoveFault_125 (by decide) (by first | omega | exact Nat.lt_trans (b2n_lt _) (by decide)) (fun c_125 => ?_) (fun c_125 => ?_)
      · refine sv_iload_n dX4_findMoveFault_132 rfl ?_
        refine sv_iconst (nI 2) dX4_findMoveFault_133 (by decide) ?_
        refine sv_iaddN dX4_findMoveFault_134 ?_
        refine sv_iret dX4_findMoveFault_135 rfl rfl (Nat.le_refl _) (Nat.le_refl _) ?_
        first | exact ⟨rI (ct_mf_m0 e (b2n_f c_107)), rfl⟩ | exact ⟨rI (ct_mf_m11 e (b2n_1 c_107) (b2n_1 c_125)), rfl⟩ | exact ⟨rI (ct_mf_m10 e (b2n_1 c_107) (b2n_f c_125)), rfl⟩
      · refine sv_iconst (-1) dX4_findMoveFault_128 (by decide) ?_
        refine sv_goto 135 dX4_findMoveFault_129 (by decide) ?_
        refine sv_iret dX4_findMoveFault_135 rfl rfl (Nat.le_refl _) (Nat.le_refl _) ?_
        first | exact ⟨rI (ct_mf_m0 e (b2n_f c_107)), rfl⟩ | exact ⟨rI (ct_mf_m11 e (b2n_1 c_107) (b2n_1 c_125)), rfl⟩ | exact ⟨rI (ct_mf_m10 e (b2n_1 c_107) (b2n_f c_125)), rfl⟩
    · refine sv_iload_n dX4_findMoveFault_110 rfl ?_
      refine sv_iconst (nI 1) dX4_findMoveFault_111 (by decide) ?_
      refine sv_iaddN dX4_findMoveFault_112 ?_
      refine sv_iret dX4_findMoveFault_113 rfl rfl (Nat.le_refl _) (Nat.le_refl _) ?_
      first | exact ⟨rI (ct_mf_m0 e (b2n_f c_107)), rfl⟩ | exact ⟨rI (ct_mf_m11 e (b2n_1 c_107) (b2n_1 c_125)), rfl⟩ | exact ⟨rI (ct_mf_m10 e (b2n_1 c_107) (b2n_f c_125)), rfl⟩
  · refine sv_top (nI 110) (congrArg nI e) ?_
    refine sv_lookup (off := 67) 72 dX4_findMoveFault_5 (by decide) (by decide) (by decide) ?_
    refine sv_iconst (-1) dX4_findMoveFault_72 (by decide) ?_
    refine sv_iret dX4_findMoveFault_73 rfl rfl (Nat.le_refl _) (Nat.le_refl _) ?_
    exact ⟨rI (ct_mf_o e (by decide) (by decide) (by decide)), rfl⟩
  · refine sv_top (nI 112) (congrArg nI e) ?_
    refine sv_lookup (off := 67) 72 dX4_findMoveFault_5 (by decide) (by decide) (by decide) ?_
    refine sv_iconst (-1) dX4_findMoveFault_72 (by decide) ?_
    refine sv_iret dX4_findMoveFault_73 rfl rfl (Nat.le_refl _) (Nat.le_refl _) ?_
    exact ⟨rI (ct_mf_o e (by decide) (by decide) (by decide)), rfl⟩
  · refine sv_top (nI 114) (congrArg nI e) ?_
    refine sv_lookup (off := 67) 72 dX4_findMoveFault_5 (by decide) (by decide) (by decide) ?_
    refine sv_iconst (-1) dX4_findMoveFault_72 (by decide) ?_
    refine sv_iret dX4_findMoveFault_73 rfl rfl (Nat.le_refl _) (Nat.le_refl _) ?_
    exact ⟨rI (ct_mf_o e (by decide) (by decide) (by decide)), rfl⟩
  · refine sv_lookup (off := 131) 136 dX4_findMoveFault_5 (by decide) (ct_off_f _ l e) (by decide) ?_
    refine sv_iload_n dX4_findMoveFault_136 rfl ?_
    refine sv_iret dX4_findMoveFault_137 rfl rfl (Nat.le_refl _) (Nat.le_refl _) ?_
    exact ⟨rI (ct_mf_7 (gm_pof_7 e)), rfl⟩
theorem k4_moveLength (ht : cl_ht G h a n B) (hn : n ≤ 120) (hB : ∀ i, i < n → B i < 256) (hp : p < 2 ^ 30) : sm_F G mX4_moveLength 1 [.ref a, .int (nI p)] h (.inl (some (.int (nI (ct_ml B n p))))) h := by
  unfold sm_F sm_C
  show sm_V G _ _ _ 0 0 0 [(0, .ref a), (1, .int (nI p))] [] _
  have l := gm_let_lt (p := p) hB
  refine sv_aload_n dX4_moveLength_0 rfl ?_
  refine sv_iload_n dX4_moveLength_1 rfl ?_
  refine sv_callV (As := [_]) sc_X4_19 (k4_signAt ht hn hB (by omega)) rfl rfl (Nat.le_of_ble_eq_true rfl) dX4_moveLength_2 ⟨by decide, by decide⟩ ⟨Nat.le_refl _, Nat.le_refl _⟩ (Nat.le_of_ble_eq_true rfl) ht.1 (List.cons_ne_nil _ _) rfl ?_
  rcases ct_cs (gm_let B n p) with e | e | e | e | e | e | e | e
  · refine sv_top (nI 45) (congrArg nI e) ?_
    refine sv_lookup (off := 31) 36 dX4_moveLength_5 (by decide) (by decide) (by decide) ?_
    refine sv_iconst (nI 1) dX4_moveLength_36 (by decide) ?_
    refine sv_iret dX4_moveLength_37 rfl rfl (Nat.le_refl _) (Nat.le_refl _) ?_
    exact ⟨ri (by unfold ct_ml; (repeat' split) <;> omega), rfl⟩
  · refine sv_top (nI 104) (congrArg nI e) ?_
    refine sv_lookup (off := 31) 36 dX4_moveLength_5 (by decide) (by decide) (by decide) ?_
    refine sv_iconst (nI 1) dX4_moveLength_36 (by decide) ?_
    refine sv_iret dX4_moveLength_37 rfl rfl (Nat.le_refl _) (Nat.le_refl _) ?_
    exact ⟨ri (by unfold ct_ml; (repeat' split) <;> omega), rfl⟩
  · refine sv_top (nI 108) (congrArg nI e) ?_
    refine sv_lookup (off := 27) 32 dX4_moveLength_5 (by decide) (by decide) (by decide) ?_
    refine sv_iconst (nI 2) dX4_moveLength_32 (by decide) ?_
    refine sv_iret dX4_moveLength_33 rfl rfl (Nat.le_refl _) (Nat.le_refl _) ?_
    exact ⟨ri (by unfold ct_ml; (repeat' split) <;> omega), rfl⟩
  · refine sv_top (nI 109) (congrArg nI e) ?_
    refine sv_lookup (off := 29) 34 dX4_moveLength_5 (by decide) (by decide) (by decide) ?_
    refine sv_iconst (nI 3) dX4_moveLength_34 (by decide) ?_
    refine sv_iret dX4_moveLength_35 rfl rfl (Nat.le_refl _) (Nat.le_refl _) ?_
    exact ⟨ri (by unfold ct_ml; (repeat' split) <;> omega), rfl⟩
  · refine sv_top (nI 110) (congrArg nI e) ?_
    refine sv_lookup (off := 31) 36 dX4_moveLength_5 (by decide) (by decide) (by decide) ?_
    refine sv_iconst (nI 1) dX4_moveLength_36 (by decide) ?_
    refine sv_iret dX4_moveLength_37 rfl rfl (Nat.le_refl _) (Nat.le_refl _) ?_
    exact ⟨ri (by unfold ct_ml; (repeat' split) <;> omega), rfl⟩
  · refine sv_top (nI 112) (congrArg nI e) ?_
    refine sv_lookup (off := 31) 36 dX4_moveLength_5 (by decide) (by decide) (by decide) ?_
    refine sv_iconst (nI 1) dX4_moveLength_36 (by decide) ?_
    refine sv_iret dX4_moveLength_37 rfl rfl (Nat.le_refl _) (Nat.le_refl _) ?_
    exact ⟨ri (by unfold ct_ml; (repeat' split) <;> omega), rfl⟩
  · refine sv_top (nI 114) (congrArg nI e) ?_
    refine sv_lookup (off := 31) 36 dX4_moveLength_5 (by decide) (by decide) (by decide) ?_
    refine sv_iconst (nI 1) dX4_moveLength_36 (by decide) ?_
    refine sv_iret dX4_moveLength_37 rfl rfl (Nat.le_refl _) (Nat.le_refl _) ?_
    exact ⟨ri (by unfold ct_ml; (repeat' split) <;> omega), rfl⟩
  · refine sv_lookup (off := 31) 36 dX4_moveLength_5 (by decide) (ct_off_l _ l e) (by decide) ?_
    refine sv_iconst (nI 1) dX4_moveLength_36 (by decide) ?_
    refine sv_iret dX4_moveLength_37 rfl rfl (Nat.le_refl _) (Nat.le_refl _) ?_
    exact ⟨ri (by unfold ct_ml; (repeat' split) <;> omega), rfl⟩
theorem k4_movePlace (ht : cl_ht G h a n B) (hn : n ≤ 120) (hB : ∀ i, i < n → B i < 256) (hp : p < 2 ^ 30) (hw : (gm_rm B n p).1 = true) : sm_F G mX4_movePlace 1 [.ref a, .int (nI p)] h (.inl (some (.int (ct_mp (gm_let B n p))))) h := by
  unfold sm_F sm_C
  show sm_V G _ _ _ 0 0 0 [(0, .ref a), (1, .int (nI p))] [] _
  have l := gm_let_lt (p := p) hB
  refine sv_aload_n dX4_movePlace_0 rfl ?_
  refine sv_iload_n dX4_movePlace_1 rfl ?_
  refine sv_callV (As := [_]) sc_X4_19 (k4_signAt ht hn hB (by omega)) rfl rfl (Nat.le_of_ble_eq_true rfl) dX4_movePlace_2 ⟨by decide, by decide⟩ ⟨Nat.le_refl _, Nat.le_refl _⟩ (Nat.le_of_ble_eq_true rfl) ht.1 (List.cons_ne_nil _ _) rfl ?_
  rcases ct_cs (gm_let B n p) with e | e | e | e | e | e | e | e
  · refine sv_top (nI 45) (congrArg nI e) ?_
    refine sv_tableOut 76 dX4_movePlace_5 (by decide) (by decide) ?_
    refine sv_iconst (-1) dX4_movePlace_76 (by decide) ?_
    refine sv_iret dX4_movePlace_77 rfl rfl (Nat.le_refl _) (Nat.le_refl _) ?_
    exact ⟨rI (by rw [e]; rfl), rfl⟩
  · refine sv_top (nI 104) (congrArg nI e) ?_
    refine sv_tableIn (off := 67) 72 dX4_movePlace_5 (by decide) (by decide) (by decide) (by decide) ?_
    refine sv_iconst (nI 4) dX4_movePlace_72 (by decide) ?_
    refine sv_iret dX4_movePlace_73 rfl rfl (Nat.le_refl _) (Nat.le_refl _) ?_
    exact ⟨rI (by rw [e]; rfl), rfl⟩
  · refine sv_top (nI 108) (congrArg nI e) ?_
    refine sv_tableIn (off := 63) 68 dX4_movePlace_5 (by decide) (by decide) (by decide) (by decide) ?_
    refine sv_iconst (nI 2) dX4_movePlace_68 (by decide) ?_
    refine sv_iret dX4_movePlace_69 rfl rfl (Nat.le_refl _) (Nat.le_refl _) ?_
    exact ⟨rI (by rw [e]; rfl), rfl⟩
  · refine sv_top (nI 109) (congrArg nI e) ?_
    refine sv_tableIn (off := 65) 70 dX4_movePlace_5 (by decide) (by decide) (by decide) (by decide) ?_
    refine sv_iconst (nI 3) dX4_movePlace_70 (by decide) ?_
    refine sv_iret dX4_movePlace_71 rfl rfl (Nat.le_refl _) (Nat.le_refl _) ?_
    exact ⟨rI (by rw [e]; rfl), rfl⟩
  · refine sv_top (nI 110) (congrArg nI e) ?_
    refine sv_tableIn (off := 61) 66 dX4_movePlace_5 (by decide) (by decide) (by decide) (by decide) ?_
    refine sv_iconst (nI 1) dX4_movePlace_66 (by decide) ?_
    refine sv_iret dX4_movePlace_67 rfl rfl (Nat.le_refl _) (Nat.le_refl _) ?_
    exact ⟨rI (by rw [e]; rfl), rfl⟩
  · refine sv_top (nI 112) (congrArg nI e) ?_
    refine sv_tableIn (off := 59) 64 dX4_movePlace_5 (by decide) (by decide) (by decide) (by decide) ?_
    refine sv_iconst (nI 0) dX4_movePlace_64 (by decide) ?_
    refine sv_iret dX4_movePlace_65 rfl rfl (Nat.le_refl _) (Nat.le_refl _) ?_
    exact ⟨rI (by rw [e]; rfl), rfl⟩
  · refine sv_top (nI 114) (congrArg nI e) ?_
    refine sv_tableIn (off := 69) 74 dX4_movePlace_5 (by decide) (by decide) (by decide) (by decide) ?_
    refine sv_iconst (nI 5) dX4_movePlace_74 (by decide) ?_
    refine sv_iret dX4_movePlace_75 rfl rfl (Nat.le_refl _) (Nat.le_refl _) ?_
    exact ⟨rI (by rw [e]; rfl), rfl⟩
  · exact absurd (gm_pof_7 e) (ct_rm_7 hw)
theorem k4_moveChoice (ht : cl_ht G h a n B) (hn : n ≤ 120) (hB : ∀ i, i < n → B i < 256) (hp : p < 2 ^ 30) (hw : (gm_rm B n p).1 = true) : sm_F G mX4_moveChoice 2 [.ref a, .int (nI p)] h (.inl (some (.int ((gm_rm B n p).2.2)))) h := by
  unfold sm_F sm_C
  show sm_V G _ _ _ 0 0 0 [(0, .ref a), (1, .int (nI p))] [] _
  have l := gm_let_lt (p := p) hB
  refine sv_aload_n dX4_moveChoice_0 rfl ?_
  refine sv_iload_n dX4_moveChoice_1 rfl ?_
  refine sv_callV (As := [_]) sc_X4_19 (k4_signAt ht hn hB (by omega)) rfl rfl (Nat.le_of_ble_eq_true rfl) dX4_moveChoice_2 ⟨by decide, by decide⟩ ⟨Nat.le_refl _, Nat.le_refl _⟩ (Nat.le_of_ble_eq_true rfl) ht.1 (List.cons_ne_nil _ _) rfl ?_
  rcases ct_cs (gm_let B n p) with e | e | e | e | e | e | e | e
  · refine sv_top (nI 45) (congrArg nI e) ?_
    refine sv_lookup (off := 54) 59 dX4_moveChoice_5 (by decide) (by decide) (by decide) ?_
    refine sv_iconst (nI 0) dX4_moveChoice_59 (by decide) ?_
    refine sv_iret dX4_moveChoice_60 rfl rfl (Nat.le_refl _) (Nat.le_refl _) ?_
    exact ⟨rI (by rw [gm_rm_o (by rw [e]; decide) (by rw [e]; decide)]), rfl⟩
  · refine sv_top (nI 104) (congrArg nI e) ?_
    refine sv_lookup (off := 54) 59 dX4_moveChoice_5 (by decide) (by decide) (by decide) ?_
    refine sv_iconst (nI 0) dX4_moveChoice_59 (by decide) ?_
    refine sv_iret dX4_moveChoice_60 rfl rfl (Nat.le_refl _) (Nat.le_refl _) ?_
    exact ⟨rI (by rw [gm_rm_o (by rw [e]; decide) (by rw [e]; decide)]), rfl⟩
  · refine sv_top (nI 108) (congrArg nI e) ?_
    refine sv_lookup (off := 27) 32 dX4_moveChoice_5 (by decide) (by decide) (by decide) ?_
    refine sv_aload_n dX4_moveChoice_32 rfl ?_
    refine sv_iload_n dX4_moveChoice_33 rfl ?_
    refine sv_iconst (nI 1) dX4_moveChoice_34 (by decide) ?_
    refine sv_iaddN dX4_moveChoice_35 ?_
    refine sv_callV (As := [_]) sc_X4_34 (k4_digitAt ht hn hB (by omega)) rfl rfl (Nat.le_of_ble_eq_true rfl) dX4_moveChoice_36 ⟨by decide, by decide⟩ ⟨Nat.le_refl _, Nat.le_refl _⟩ (Nat.le_of_ble_eq_true rfl) ht.1 (List.cons_ne_nil _ _) rfl ?_
    refine sv_iret dX4_moveChoice_39 rfl rfl (Nat.le_refl _) (Nat.le_refl _) ?_
    exact ⟨rI (by rw [gm_rm_l e]; exact (ct_49 _).symm), rfl⟩
  · refine sv_top (nI 109) (congrArg nI e) ?_
    refine sv_lookup (off := 35) 40 dX4_moveChoice_5 (by decide) (by decide) (by decide) ?_
    refine sv_bipush (nI 10) dX4_moveChoice_40 (by decide) ?_
    refine sv_aload_n dX4_moveChoice_42 rfl ?_
    refine sv_iload_n dX4_moveChoice_43 rfl ?_
    refine sv_iconst (nI 1) dX4_moveChoice_44 (by decide) ?_
    refine sv_iaddN dX4_moveChoice_45 ?_
    refine sv_callV (As := [_]) sc_X4_34 (k4_digitAt ht hn hB (by omega)) rfl rfl (Nat.le_of_ble_eq_true rfl) dX4_moveChoice_46 ⟨by decide, by decide⟩ ⟨Nat.le_refl _, Nat.le_refl _⟩ (Nat.le_of_ble_eq_true rfl) ht.1 (List.cons_ne_nil _ _) rfl ?_
    refine sv_imul dX4_moveChoice_49 ?_
    refine sv_aload_n dX4_moveChoice_50 rfl ?_
    refine sv_iload_n dX4_moveChoice_51 rfl ?_
    refine sv_iconst (nI 2) dX4_moveChoice_52 (by decide) ?_
    refine sv_iaddN dX4_moveChoice_53 ?_
    refine sv_callV (As := [_]) sc_X4_34 (k4_digitAt ht hn hB (by omega)) rfl rfl (Nat.le_of_ble_eq_true rfl) dX4_moveChoice_54 ⟨by decide, by decide⟩ ⟨Nat.le_refl _, Nat.le_refl _⟩ (Nat.le_of_ble_eq_true rfl) ht.1 (List.cons_ne_nil _ _) rfl ?_
    refine sv_iadd dX4_moveChoice_57 ?_
    refine sv_iret dX4_moveChoice_58 rfl rfl (Nat.le_refl _) (Nat.le_refl _) ?_
    have h1 : ct_bt B n (p + 1) 48 50 = true := by
      cases h1 : ct_bt B n (p + 1) 48 50 with
      | true => rfl
      | false => rw [(gm_rm_m0 e h1).1] at hw; cases hw
    exact ⟨rI (by rw [gm_rm_m1 e h1]; exact congrArg (fun z => nI 10 * (nI (gm_let B n (p + 1)) - nI 48) + z) (ct_49 _).symm), rfl⟩
  · refine sv_top (nI 110) (congrArg nI e) ?_
    refine sv_lookup (off := 54) 59 dX4_moveChoice_5 (by decide) (by decide) (by decide) ?_
    refine sv_iconst (nI 0) dX4_moveChoice_59 (by decide) ?_
    refine sv_iret dX4_moveChoice_60 rfl rfl (Nat.le_refl _) (Nat.le_refl _) ?_
    exact ⟨rI (by rw [gm_rm_o (by rw [e]; decide) (by rw [e]; decide)]), rfl⟩
  · refine sv_top (nI 112) (congrArg nI e) ?_
    refine sv_lookup (off := 54) 59 dX4_moveChoice_5 (by decide) (by decide) (by decide) ?_
    refine sv_iconst (nI 0) dX4_moveChoice_59 (by decide) ?_
    refine sv_iret dX4_moveChoice_60 rfl rfl (Nat.le_refl _) (Nat.le_refl _) ?_
    exact ⟨rI (by rw [gm_rm_o (by rw [e]; decide) (by rw [e]; decide)]), rfl⟩
  · refine sv_top (nI 114) (congrArg nI e) ?_
    refine sv_lookup (off := 54) 59 dX4_moveChoice_5 (by decide) (by decide) (by decide) ?_
    refine sv_iconst (nI 0) dX4_moveChoice_59 (by decide) ?_
    refine sv_iret dX4_moveChoice_60 rfl rfl (Nat.le_refl _) (Nat.le_refl _) ?_
    exact ⟨rI (by rw [gm_rm_o (by rw [e]; decide) (by rw [e]; decide)]), rfl⟩
  · exact absurd (gm_pof_7 e) (ct_rm_7 hw)
theorem ct_k {s : gm_St} {k : Nat} (hk : k = s.2.2.1) (hw : (gm_rm B n s.2.1).1 = true) : k + 1 = (gm_rs B n s).2.2.1 := by
  show k + 1 = s.2.2.1 + b2n (gm_rm B n s.2.1).1
  rw [hw, hk]; rfl
theorem k4_findFault {M : Nat → Int32} (ht : cl_ht G h a n B) (hn : n ≤ 120) (hB : ∀ i, i < n → B i < 256) : sm_F G mX4_findFault 3 [.ref a] h (.inl (some (.int (gm_rans (gm_read B n M))))) h := by
  unfold sm_F sm_C
  show sm_V G _ _ _ 0 0 0 [(0, .ref a)] [] _
  refine sv_aload_n dX4_findFault_0 rfl ?_
  refine sv_iconst (nI 0) dX4_findFault_1 (by decide) ?_
  refine sv_bipush (nI 83) dX4_findFault_2 (by decide) ?_
  refine sv_bipush (nI 83) dX4_findFault_4 (by decide) ?_
  refine sv_callV (As := [_, _, _]) sc_X4_23 (k4_isBetween ht hn hB (by omega) (by omega) (by omega)) rfl rfl (Nat.le_of_ble_eq_true rfl) dX4_findFault_6 ⟨by decide, by decide⟩ ⟨Nat.le_refl _, Nat.le_refl _⟩ (Nat.le_of_ble_eq_true rfl) ht.1 (List.cons_ne_nil _ _) rfl ?_
  refine sv_ifN_ne 14 dX4_findFault_9 (by decide) (by first | omega | exact Nat.lt_trans (b2n_lt _) (by decide)) (fun c_9 => ?_) (fun c_9 => ?_)
  · refine sv_aload_n dX4_findFault_14 rfl ?_
    refine sv_iconst (nI 1) dX4_findFault_15 (by decide) ?_
    refine sv_bipush (nI 50) dX4_findFault_16 (by decide) ?_
    refine sv_bipush (nI 52) dX4_findFault_18 (by decide) ?_
    refine sv_callV (As := [_, _, _]) sc_X4_23 (k4_isBetween ht hn hB (by omega) (by omega) (by omega)) rfl rfl (Nat.le_of_ble_eq_true rfl) dX4_findFault_20 ⟨by decide, by decide⟩ ⟨Nat.le_refl _, Nat.le_refl _⟩ (Nat.le_of_ble_eq_true rfl) ht.1 (List.cons_ne_nil _ _) rfl ?_
    refine sv_ifN_ne 28 dX4_findFault_23 (by decide) (by first | omega | exact Nat.lt_trans (b2n_lt _) (by decide)) (fun c_23 => ?_) (fun c_23 => ?_)
    · refine sv_iconst (nI 2) dX4_findFault_28 (by decide) ?_
      refine sv_istore_n (lv' := [(1, _), (0, _)]) dX4_findFault_29 (by decide) rfl ?_
      refine sv_sub [0, 1] rfl (sv_loop (pc := 30) (lv := fun q => [(1, .int (nI (2 + q))), (0, .ref a)]) (hp := fun q => h) (I := fun q => ∀ i, i < q → ct_bt B n (2 + i) 48 57 = true) (N := 2) (fun i hi => absurd hi (Nat.not_lt_zero i)) ?_ ?_)
      · intro hI_q
        show sm_V G _ _ _ _ _ _ [(1, .int (nI (2 + 2))), (0, .ref a)] [] h
        refine sv_iload_n dX4_findFault_30 rfl ?_
        refine sv_iconst (nI 4) dX4_findFault_31 (by decide) ?_
        refine sv_icmpN_ge 55 dX4_findFault_32 (by decide) (by first | omega | exact Nat.lt_trans (b2n_lt _) (by decide)) (by first | omega | exact Nat.lt_trans (b2n_lt _) (by decide)) (fun c_32 => ?_) (fun c_32 => absurd c_32 (by omega))
        refine sv_iconst (nI 4) dX4_findFault_55 (by decide) ?_
        refine sv_istore_n (lv' := [(1, _), (0, _)]) dX4_findFault_56 (by decide) rfl ?_
        refine sv_iconst (nI 0) dX4_findFault_57 (by decide) ?_
        refine sv_istore_n (lv' := [(2, _), (1, _), (0, _)]) dX4_findFault_58 (by decide) rfl ?_
        refine sv_sub [0, 1, 2] rfl (sv_rec (pc := 59) (fun s : gm_St × Nat => 2 * (n - s.1.2.1) + b2n s.1.1) (I := fun s => ct_i B n M s.1 ∧ s.2 = s.1.2.2.1) (lv := fun s => [(2, .int (nI s.2)), (1, .int (nI s.1.2.1)), (0, .ref a)]) (hp := fun _ => h) ((true, 4, 0, M), 0) ⟨ct_i_0 hn (b2n_1 c_9) (b2n_1 c_23) hI_q, rfl⟩ ?_)
        · rintro ⟨s, k⟩ hi2 ih
          show sm_V G _ _ _ _ _ _ [(2, .int (nI k)), (1, .int (nI s.2.1)), (0, .ref a)] [] h
          have hi : ct_i B n M s := hi2.1
          have hk : k = s.2.2.1 := hi2.2
          have hle := hi.1.1
          have hk4 := hi.1.2.1 hi.2
          refine sv_iload_n dX4_findFault_59 rfl ?_
          refine sv_bipush (nI 120) dX4_findFault_60 (by decide) ?_
          refine sv_icmpN_ge 100 dX4_findFault_62 (by decide) (by first | omega | exact Nat.lt_trans (b2n_lt _) (by decide)) (by first | omega | exact Nat.lt_trans (b2n_lt _) (by decide)) (fun c_62 => absurd c_62 (by omega)) (fun c_62 => ?_)
          refine sv_iload_n dX4_findFault_65 rfl ?_
          refine sv_aload_n dX4_findFault_66 rfl ?_
          refine kt_g1 ht dX4_findFault_67 sf_X4_15 ?_
          refine sv_icmpN_ge 100 dX4_findFault_70 (by decide) (by first | omega | exact Nat.lt_trans (b2n_lt _) (by decide)) (by first | omega | exact Nat.lt_trans (b2n_lt _) (by decide)) (fun c_70 => ?_) (fun c_70 => ?_)
          · refine sv_iconst (-1) dX4_findFault_100 (by decide) ?_
            refine sv_iret dX4_findFault_101 rfl rfl (Nat.le_refl _) (Nat.le_refl _) ?_
            exact ⟨rI (ct_i_e hi c_70), rfl⟩
          · refine sv_aload_n dX4_findFault_73 rfl ?_
            refine sv_iload_n dX4_findFault_74 rfl ?_
            refine sv_callV (As := [_]) sc_X4_27 (k4_findMoveFault ht hn hB (by omega)) rfl rfl (Nat.le_of_ble_eq_true rfl) dX4_findFault_75 ⟨by decide, by decide⟩ ⟨Nat.le_refl _, Nat.le_refl _⟩ (Nat.le_of_ble_eq_true rfl) ht.1 (List.cons_ne_nil _ _) rfl ?_
            refine sv_istore_n (lv' := [(3, _), (2, _), (1, _), (0, _)]) dX4_findFault_78 (by decide) rfl ?_
            refine sv_iload_n dX4_findFault_79 rfl ?_
            refine sv_iconst (-1) dX4_findFault_80 (by decide) ?_
            refine sv_icmp_eq 86 dX4_findFault_81 (by decide) (fun c_81 => ?_) (fun c_81 => ?_)
            · have hw := ct_mf_1 c_81 c_70 hn
              refine sv_iload_n dX4_findFault_86 rfl ?_
              refine sv_aload_n dX4_findFault_87 rfl ?_
              refine sv_iload_n dX4_findFault_88 rfl ?_
              refine sv_callV (As := [_]) sc_X4_31 (k4_moveLength ht hn hB (by omega)) rfl rfl (Nat.le_of_ble_eq_true rfl) dX4_findFault_89 ⟨by decide, by decide⟩ ⟨Nat.le_refl _, Nat.le_refl _⟩ (Nat.le_of_ble_eq_true rfl) ht.1 (List.cons_ne_nil _ _) rfl ?_
              refine sv_iaddN dX4_findFault_92 ?_
              refine sv_top (nI (gm_rs B n s).2.1) (congrArg nI (ct_ml_rm hw).symm) ?_
              refine sv_istore_n (lv' := [(1, _), (3, _), (2, _), (0, _)]) dX4_findFault_93 (by decide) rfl ?_
              refine sv_iinc1 (lv' := [(2, _), (1, _), (3, _), (0, _)]) dX4_findFault_94 rfl (by decide) rfl ?_
              refine sv_goto 59 dX4_findFault_97 (by decide) ?_
              exact sv_sub [0, 1, 3] rfl (ih (gm_rs B n s, k + 1) (ct_i_s hi c_70 hw).2 ⟨(ct_i_s hi c_70 hw).1, ct_k hk hw⟩)
            · refine sv_iload_n dX4_findFault_84 rfl ?_
              refine sv_iret dX4_findFault_85 rfl rfl (Nat.le_refl _) (Nat.le_refl _) ?_
              exact ⟨rI (ct_i_f hi c_70 c_81), rfl⟩
      · intro q hn_q hI_q ih_q
        show sm_V G _ _ _ _ _ _ [(1, .int (nI (2 + q))), (0, .ref a)] [] h
        refine sv_iload_n dX4_findFault_30 rfl ?_
        refine sv_iconst (nI 4) dX4_findFault_31 (by decide) ?_
        refine sv_icmpN_ge 55 dX4_findFault_32 (by decide) (by first | omega | exact Nat.lt_trans (b2n_lt _) (by decide)) (by first | omega | exact Nat.lt_trans (b2n_lt _) (by decide)) (fun c_32 => absurd c_32 (by omega)) (fun c_32 => ?_)
        refine sv_aload_n dX4_findFault_35 rfl ?_
        refine sv_iload_n dX4_findFault_36 rfl ?_
        refine sv_bipush (nI 48) dX4_findFault_37 (by decide) ?_
        refine sv_bipush (nI 57) dX4_findFault_39 (by decide) ?_
        refine sv_callV (As := [_, _, _]) sc_X4_23 (k4_isBetween ht hn hB (by omega) (by omega) (by omega)) rfl rfl (Nat.le_of_ble_eq_true rfl) dX4_findFault_41 ⟨by decide, by decide⟩ ⟨Nat.le_refl _, Nat.le_refl _⟩ (Nat.le_of_ble_eq_true rfl) ht.1 (List.cons_ne_nil _ _) rfl ?_
        refine sv_ifN_ne 49 dX4_findFault_44 (by decide) (by first | omega | exact Nat.lt_trans (b2n_lt _) (by decide)) (fun c_44 => ?_) (fun c_44 => ?_)
        · refine sv_iinc1 (lv' := [(1, _), (0, _)]) dX4_findFault_49 rfl (by decide) rfl ?_
          refine sv_goto 30 dX4_findFault_52 (by decide) ?_
          exact sv_sub [0, 1] rfl (ih_q (fun i hi => (Nat.lt_succ_iff_lt_or_eq.mp hi).elim (hI_q i) (fun e => by rw [e]; exact b2n_1 c_44)))
        · refine sv_iload_n dX4_findFault_47 rfl ?_
          refine sv_iret dX4_findFault_48 rfl rfl (Nat.le_refl _) (Nat.le_refl _) ?_
          exact ⟨rI (ct_h23 hn_q (b2n_1 c_9) (b2n_1 c_23) hI_q (b2n_f c_44)), rfl⟩
    · refine sv_iconst (nI 1) dX4_findFault_26 (by decide) ?_
      refine sv_iret dX4_findFault_27 rfl rfl (Nat.le_refl _) (Nat.le_refl _) ?_
      exact ⟨rI (ct_h1 (b2n_1 c_9) (b2n_f c_23)), rfl⟩
  · refine sv_iconst (nI 0) dX4_findFault_12 (by decide) ?_
    refine sv_iret dX4_findFault_13 rfl rfl (Nat.le_refl _) (Nat.le_refl _) ?_
    exact ⟨rI (ct_h0 (b2n_f c_9)), rfl⟩
end CP3
