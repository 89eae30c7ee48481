section SR7
variable {G : sm_G} {h : sm_H} {m : Nat} {F : Nat → Int32} {X : Nat → Int64} {A : Nat → Nat → Int32} {L : Nat → Nat → Int64} {S : Nat → Nat} {K : Nat}
theorem gm_can_on2 {q c : Nat} (hI : gm_I K S) (hq : q < 6) (hc : c < 24) (hch : gm_ch q c = true) (hcan : gm_can S q c = true) : 0 < gm_brg S q c ∧ gm_brg S q c < 2 ^ 31 := by
  obtain ⟨t1, t2, t3⟩ := gm_pl_tot hI hq hc (gm_chg hc hch) hcan
  unfold gm_brg; omega
/-- what is kept while the best is looked for: whether anything was tried; the best yet -/
def gm_cl (S : gm_S) (q : Nat) (s : Bool × Nat × Nat × Nat) (c : Nat) : Bool × Nat × Nat × Nat := if gm_ch q c = true then (s.1 || gm_can S q c, gm_bs S s.2 (q, c)) else s
def gm_inn (S : gm_S) (q : Nat) (s : Bool × Nat × Nat × Nat) (n : Nat) : Bool × Nat × Nat × Nat := (List.range n).foldl (gm_cl S q) s
def gm_out (S : gm_S) (n : Nat) : Bool × Nat × Nat × Nat := (List.range n).foldl (fun s q => gm_inn S q s 24) (false, 0, 0, 0)
theorem gm_inn_s (S : gm_S) (q : Nat) (s : Bool × Nat × Nat × Nat) (n : Nat) : gm_inn S q s (n + 1) = gm_cl S q (gm_inn S q s n) n := by unfold gm_inn; rw [List.range_succ, List.foldl_append]; rfl
theorem gm_out_s (S : gm_S) (n : Nat) : gm_out S (n + 1) = gm_inn S n (gm_out S n) 24 := by unfold gm_out; rw [List.range_succ, List.foldl_append]; rfl
def gm_any (S : gm_S) : Bool := (gm_out S 6).1
theorem gm_grid : gm_all = (List.range 6).flatMap (fun q => ((List.range 24).filter (fun c => gm_ch q c)).map (fun c => (q, c))) := by decide +kernel
theorem gm_inn_2 (S : gm_S) (q : Nat) (s : Bool × Nat × Nat × Nat) : ∀ l : List Nat, (l.foldl (gm_cl S q) s).2 = ((l.filter (fun c => gm_ch q c)).map (fun c => (q, c))).foldl (gm_bs S) s.2 := by
  intro l
  induction l generalizing s with
  | nil => rfl
  | cons c l ih =>
    rw [List.foldl_cons, ih]
    unfold gm_cl
    cases e : gm_ch q c with
    | true => rw [List.filter_cons_of_pos (by exact e)]; rfl
    | false => rw [List.filter_cons_of_neg (by rw [e]; decide)]; rfl
theorem gm_out_2 (S : gm_S) : (gm_out S 6).2 = gm_bst S := by
  unfold gm_bst gm_out
  rw [gm_grid]
  have key : ∀ (l : List Nat) (s : Bool × Nat × Nat × Nat), (l.foldl (fun s q => gm_inn S q s 24) s).2 = (l.flatMap (fun q => ((List.range 24).filter (fun c => gm_ch q c)).map (fun c => (q, c)))).foldl (gm_bs S) s.2 := by
    intro l
    induction l with
    | nil => intro s; rfl
    | cons q l ih =>
      intro s
      rw [List.foldl_cons, ih, List.flatMap_cons, List.foldl_append]
      unfold gm_inn
      rw [gm_inn_2]
  exact key _ _
/-- a number of the best yet, as the program keeps it -/
def gm_e (a : Nat × Nat × Nat) (v : Nat) : Int32 := if a.1 = 0 then -1 else nI v
def gm_FB (F : Nat → Int32) (a : Nat × Nat × Nat) : Nat → Int32 := va_up (va_up (va_up F 15 (gm_e a a.1)) 16 (gm_e a a.2.1)) 17 (gm_e a a.2.2)
theorem gm_e_p {a : Nat × Nat × Nat} {v : Nat} (h : 0 < a.1) : gm_e a v = nI v := by unfold gm_e; rw [if_neg (by omega)]
theorem gm_FB_15 (F : Nat → Int32) (a : Nat × Nat × Nat) : gm_FB F a 15 = gm_e a a.1 := by unfold gm_FB; rw [up_ne (by omega), up_ne (by omega), up_eq]
theorem gm_FB_16 (F : Nat → Int32) (a : Nat × Nat × Nat) : gm_FB F a 16 = gm_e a a.2.1 := by unfold gm_FB; rw [up_ne (by omega), up_eq]
theorem gm_FB_17 (F : Nat → Int32) (a : Nat × Nat × Nat) : gm_FB F a 17 = gm_e a a.2.2 := by unfold gm_FB; rw [up_eq]
theorem gm_FB_u (F : Nat → Int32) (a : Nat × Nat × Nat) (x y z : Int32) : va_up (va_up (va_up (gm_FB F a) 15 x) 16 y) 17 z = va_up (va_up (va_up F 15 x) 16 y) 17 z := by
  unfold gm_FB; funext i; unfold va_up; (repeat' split) <;> rfl
theorem gm_kA_k (b : Bool) (hb : gm_kA b A S = gm_kA b A S) (c : Bool) : gm_kA c (gm_kA b A S) S = gm_kA (b || c) A S := by
  cases b <;> cases c <;> try rfl
  show gm_kN (gm_kN A S 69) S 69 = gm_kN A S 69
  funext a i
  by_cases ha : a = 11
  · subst ha
    show (if i < 69 then nI (S i) else (if i < 69 then nI (S i) else A 11 i)) = (if i < 69 then nI (S i) else A 11 i)
    split <;> rfl
  · show va_up (va_up A 11 _) 11 _ a i = va_up A 11 _ a i
    simp [va_up, ha]
theorem gm_kX_k (b c : Bool) : gm_kX c (gm_kX b X) = gm_kX (b || c) X := by
  cases b <;> cases c <;> try rfl
  show va_up (va_up X 12 (X 2)) 12 (va_up X 12 (X 2) 2) = va_up X 12 (X 2)
  funext i
  rw [up_ne (by omega : (2 : Nat) ≠ 12)]
  unfold va_up; split <;> rfl
theorem gm_kX_2 (b : Bool) : gm_kX b X 2 = X 2 := by cases b with
  | false => rfl
  | true => show va_up X 12 (X 2) 2 = X 2; exact up_ne (by omega)
/-- the reference while the best is looked for -/
def gm_h (G : sm_G) (h : sm_H) (m : Nat) (F : Nat → Int32) (X : Nat → Int64) (A : Nat → Nat → Int32) (S : gm_S) (L : Nat → Nat → Int64) (s : Bool × Nat × Nat × Nat) : sm_H := sm_om G h m (gm_FB F s.2) (gm_kX s.1 X) (sm_as (gm_kA s.1 A S) S) L
theorem gm_h_0 : sm_om G h m (va_up (va_up (va_up F 15 (-1)) 16 (-1)) 17 (-1)) X (sm_as A S) L = gm_h G h m F X A S L (gm_out S 0) := rfl
theorem gm_h_k (s : Bool × Nat × Nat × Nat) (c : Bool) : sm_om G h m (gm_FB F s.2) (gm_kX c (gm_kX s.1 X)) (sm_as (gm_kA c (gm_kA s.1 A S) S) S) L = gm_h G h m F X A S L (s.1 || c, s.2) := by
  rw [gm_kA_k _ rfl, gm_kX_k]; rfl
theorem gm_h_o {s : Bool × Nat × Nat × Nat} {q c : Nat} (hch : gm_ch q c = false) : gm_h G h m F X A S L s = gm_h G h m F X A S L (gm_cl S q s c) := by unfold gm_cl; rw [if_neg (by rw [hch]; decide)]
theorem gm_m1_le (a : Nat × Nat × Nat) (ha : a.1 < 2 ^ 31) : (-1 : Int32) ≤ gm_e a a.1 := by
  unfold gm_e; split
  · exact Int32.le_refl _
  · rw [Int32.le_iff_toInt_le]; have : (nI a.1).toInt = a.1 := nI_toInt ha; rw [this]; have e : (-1 : Int32).toInt = -1 := by decide
    omega
theorem gm_le_e {b : Nat} {a : Nat × Nat × Nat} (h0 : 0 < b) (hb : b < 2 ^ 31) (ha : a.1 < 2 ^ 31) : nI b ≤ gm_e a a.1 ↔ b ≤ a.1 := by
  unfold gm_e; split
  · rename_i e
    rw [Int32.le_iff_toInt_le]; have : (nI b).toInt = b := nI_toInt hb; rw [this]; have e1 : (-1 : Int32).toInt = -1 := by decide
    omega
  · exact nI_leI hb ha
theorem gm_h_le {s : Bool × Nat × Nat × Nat} {q c : Nat} (hI : gm_I K S) (hq : q < 6) (hc : c < 24) (ha : s.2.1 < 2 ^ 31) (hch : gm_ch q c = true) (hle : gm_bv S q c ≤ gm_e s.2 s.2.1) : gm_h G h m F X A S L (s.1 || gm_can S q c, s.2) = gm_h G h m F X A S L (gm_cl S q s c) := by
  unfold gm_cl gm_bs
  rw [if_pos hch]
  cases hcan : gm_can S q c with
  | false => rw [if_neg (by rintro ⟨h1, -⟩; cases h1)]
  | true =>
    obtain ⟨b1, b2⟩ := gm_can_on2 hI hq hc hch hcan
    rw [gm_bv_t hcan, gm_le_e b1 b2 ha] at hle
    rw [if_neg (by rintro ⟨-, h2⟩; simp only at h2; omega)]
theorem gm_h_gt {s : Bool × Nat × Nat × Nat} {q c : Nat} (hI : gm_I K S) (hq : q < 6) (hc : c < 24) (ha : s.2.1 < 2 ^ 31) (hch : gm_ch q c = true) (hle : ¬ gm_bv S q c ≤ gm_e s.2 s.2.1) : sm_om G h m (va_up (va_up (va_up (gm_FB F s.2) 15 (gm_bv S q c)) 16 (nI q)) 17 (nI c)) (gm_kX (s.1 || gm_can S q c) X) (sm_as (gm_kA (s.1 || gm_can S q c) A S) S) L = gm_h G h m F X A S L (gm_cl S q s c) := by
  unfold gm_cl gm_bs
  rw [if_pos hch]
  cases hcan : gm_can S q c with
  | false => rw [gm_bv_f hcan] at hle; exact absurd (gm_m1_le _ ha) hle
  | true =>
    obtain ⟨b1, b2⟩ := gm_can_on2 hI hq hc hch hcan
    rw [gm_bv_t hcan, gm_le_e b1 b2 ha] at hle
    rw [if_pos ⟨rfl, by simp only; omega⟩, gm_FB_u, gm_bv_t hcan]
    unfold gm_h gm_FB
    simp only [gm_e_p (a := (gm_brg S q c, q, c)) b1]
theorem gm_cl_lt {s : Bool × Nat × Nat × Nat} {q c : Nat} (hI : gm_I K S) (hq : q < 6) (hc : c < 24) (ha : s.2.1 < 2 ^ 31) : (gm_cl S q s c).2.1 < 2 ^ 31 := by
  unfold gm_cl gm_bs
  split
  · rename_i hch
    simp only
    split
    · rename_i e; exact (gm_can_on2 hI hq hc hch e.1).2
    · exact ha
  · exact ha
theorem c6_findsBest (hI0 : gm_I K S) : sm_F G mX6_findsBest 5 [.ref m] (sm_om G h m F X (sm_as A S) L) (.inl none) (gm_h G h m F X A S L (gm_out S 6)) := by
  unfold sm_F sm_C
  show sm_V G _ _ _ 0 0 0 [(0, .ref m)] [] _
  refine sv_aload_n dX6_findsBest_0 rfl ?_
  refine sv_iconst (-1) dX6_findsBest_1 (by decide) ?_
  refine rm_put15 rfl dX6_findsBest_2 ?_
  refine sv_aload_n dX6_findsBest_5 rfl ?_
  refine sv_iconst (-1) dX6_findsBest_6 (by decide) ?_
  refine rm_put16 rfl dX6_findsBest_7 ?_
  refine sv_aload_n dX6_findsBest_10 rfl ?_
  refine sv_iconst (-1) dX6_findsBest_11 (by decide) ?_
  refine rm_put17 rfl dX6_findsBest_12 ?_
  refine sv_iconst (nI 0) dX6_findsBest_15 (by decide) ?_
  refine sv_istore_n (lv' := [(1, _), (0, _)]) dX6_findsBest_16 (by decide) rfl ?_
  refine sv_heap (h' := (gm_h G h m F X A S L (gm_out S 0))) (gm_h_0) ?_
  refine sv_sub [0, 1] rfl (sv_loop (pc := 17) (lv := fun q => [(1, .int (nI q)), (0, .ref m)]) (hp := fun q => (gm_h G h m F X A S L (gm_out S q))) (I := fun q => (gm_out S q).2.1 < 2 ^ 31) (N := 6) ((by decide : 0 < 2 ^ 31)) ?_ ?_)
  · intro hI_q
    show sm_V G _ _ _ _ _ _ [(1, .int (nI 6)), (0, .ref m)] [] (gm_h G h m F X A S L (gm_out S 6))
    refine sv_iload_n dX6_findsBest_17 rfl ?_
    refine sv_bipush (nI 6) dX6_findsBest_18 (by decide) ?_
    refine sv_icmpN_ge 85 dX6_findsBest_20 (by decide) (by first | omega | (have z := b2n_lt (gm_ch q c); omega)) (by first | omega | (have z := b2n_lt (gm_ch q c); omega)) (fun c_20 => ?_) (fun c_20 => absurd c_20 (by omega))
    refine sv_vret dX6_findsBest_85 rfl (Nat.le_refl _) (Nat.le_refl _) ?_
    exact ⟨rfl, rfl⟩
  · intro q hn_q hI_q ih_q
    show sm_V G _ _ _ _ _ _ [(1, .int (nI q)), (0, .ref m)] [] (gm_h G h m F X A S L (gm_out S q))
    refine sv_iload_n dX6_findsBest_17 rfl ?_
    refine sv_bipush (nI 6) dX6_findsBest_18 (by decide) ?_
    refine sv_icmpN_ge 85 dX6_findsBest_20 (by decide) (by first | omega | (have z := b2n_lt (gm_ch q c); omega)) (by first | omega | (have z := b2n_lt (gm_ch q c); omega)) (fun c_20 => absurd c_20 (by omega)) (fun c_20 => ?_)
    refine sv_iconst (nI 0) dX6_findsBest_23 (by decide) ?_
    refine sv_istore_n (lv' := [(2, _), (1, _), (0, _)]) dX6_findsBest_24 (by decide) rfl ?_
    refine sv_heap (h' := (gm_h G h m F X A S L (gm_inn S q (gm_out S q) 0))) (rfl) ?_
    refine sv_sub [0, 1, 2] rfl (sv_loop (pc := 25) (lv := fun c => [(2, .int (nI c)), (1, .int (nI q)), (0, .ref m)]) (hp := fun c => (gm_h G h m F X A S L (gm_inn S q (gm_out S q) c))) (I := fun c => (gm_inn S q (gm_out S q) c).2.1 < 2 ^ 31) (N := 24) (hI_q) ?_ ?_)
    · intro hI_c
      show sm_V G _ _ _ _ _ _ [(2, .int (nI 24)), (1, .int (nI q)), (0, .ref m)] [] (gm_h G h m F X A S L (gm_inn S q (gm_out S q) 24))
      refine sv_iload_n dX6_findsBest_25 rfl ?_
      refine sv_bipush (nI 24) dX6_findsBest_26 (by decide) ?_
      refine sv_icmpN_ge 79 dX6_findsBest_28 (by decide) (by first | omega | (have z := b2n_lt (gm_ch q c); omega)) (by first | omega | (have z := b2n_lt (gm_ch q c); omega)) (fun c_28 => ?_) (fun c_28 => absurd c_28 (by omega))
      refine sv_heap (h' := (gm_h G h m F X A S L (gm_out S (q + 1)))) (by rw [gm_out_s]) ?_
      refine sv_iinc1 (lv' := [(1, _), (2, _), (0, _)]) dX6_findsBest_79 rfl (by decide) rfl ?_
      refine sv_goto 17 dX6_findsBest_82 (by decide) ?_
      exact sv_sub [0, 2] rfl (ih_q (gm_out_s S q ▸ hI_c))
    · intro c hn_c hI_c ih_c
      show sm_V G _ _ _ _ _ _ [(2, .int (nI c)), (1, .int (nI q)), (0, .ref m)] [] (gm_h G h m F X A S L (gm_inn S q (gm_out S q) c))
      refine sv_iload_n dX6_findsBest_25 rfl ?_
      refine sv_bipush (nI 24) dX6_findsBest_26 (by decide) ?_
      refine sv_icmpN_ge 79 dX6_findsBest_28 (by decide) (by first | omega | (have z := b2n_lt (gm_ch q c); omega)) (by first | omega | (have z := b2n_lt (gm_ch q c); omega)) (fun c_28 => absurd c_28 (by omega)) (fun c_28 => ?_)
      refine sv_iload_n dX6_findsBest_31 rfl ?_
      refine sv_iload_n dX6_findsBest_32 rfl ?_
      refine sv_callS (As := [_, _]) sc_X6_152 (c6_isChoice (by omega)) rfl rfl (Nat.le_of_ble_eq_true rfl) dX6_findsBest_33 ⟨by decide, by decide⟩ ⟨Nat.le_refl _, Nat.le_refl _⟩ (Nat.le_of_ble_eq_true rfl) ?_
      rw [gm_chR_n (by omega)]
      refine sv_ifN_eq 48 dX6_findsBest_36 (by decide) (by first | omega | (have z := b2n_lt (gm_ch q c); omega)) (fun c_36 => ?_) (fun c_36 => ?_)
      · refine sv_iconst (-1) dX6_findsBest_48 (by decide) ?_
        refine sv_istore_n (lv' := [(3, _), (2, _), (1, _), (0, _)]) dX6_findsBest_49 (by decide) rfl ?_
        refine sv_iload_n dX6_findsBest_50 rfl ?_
        refine sv_aload_n dX6_findsBest_51 rfl ?_
        refine rm_get15 rfl dX6_findsBest_52 ?_
        refine sv_top (gm_e (gm_inn S q (gm_out S q) c).2 (gm_inn S q (gm_out S q) c).2.1) (gm_FB_15 _ _) ?_
        refine sv_icmp_le 73 dX6_findsBest_55 (by decide) (fun c_55 => ?_) (fun c_55 => absurd c_55 (fun z => z (gm_m1_le _ hI_c)))
        refine sv_heap (h' := (gm_h G h m F X A S L (gm_inn S q (gm_out S q) (c + 1)))) (by rw [gm_inn_s]; exact gm_h_o (b2n_f c_36)) ?_
        refine sv_iinc1 (lv' := [(2, _), (3, _), (1, _), (0, _)]) dX6_findsBest_73 rfl (by decide) rfl ?_
        refine sv_goto 25 dX6_findsBest_76 (by decide) ?_
        exact sv_sub [0, 2, 3] rfl (ih_c (by rw [gm_inn_s]; exact gm_cl_lt hI0 hn_q hn_c hI_c))
      · refine sv_aload_n dX6_findsBest_39 rfl ?_
        refine sv_iload_n dX6_findsBest_40 rfl ?_
        refine sv_iload_n dX6_findsBest_41 rfl ?_
        have hch := b2n_1 c_36
        refine sv_callV (As := [_, _]) sc_X6_155 (c6_bringing hI0 hn_q hn_c (gm_chg hn_c hch)) rfl rfl (Nat.le_of_ble_eq_true rfl) dX6_findsBest_42 ⟨by decide, by decide⟩ ⟨Nat.le_refl _, Nat.le_refl _⟩ (Nat.le_of_ble_eq_true rfl) om_0 (List.cons_ne_nil _ _) rfl ?_
        refine sv_goto 49 dX6_findsBest_45 (by decide) ?_
        refine sv_heap (h' := (gm_h G h m F X A S L ((gm_inn S q (gm_out S q) c).1 || gm_can S q c, (gm_inn S q (gm_out S q) c).2))) (gm_h_k _ _) ?_
        refine sv_istore_n (lv' := [(3, _), (2, _), (1, _), (0, _)]) dX6_findsBest_49 (by decide) rfl ?_
        refine sv_iload_n dX6_findsBest_50 rfl ?_
        refine sv_aload_n dX6_findsBest_51 rfl ?_
        refine rm_get15 rfl dX6_findsBest_52 ?_
        refine sv_top (gm_e (gm_inn S q (gm_out S q) c).2 (gm_inn S q (gm_out S q) c).2.1) (gm_FB_15 _ _) ?_
        refine sv_icmp_le 73 dX6_findsBest_55 (by decide) (fun c_55 => ?_) (fun c_55 => ?_)
        · refine sv_heap (h' := (gm_h G h m F X A S L (gm_inn S q (gm_out S q) (c + 1)))) (by rw [gm_inn_s]; exact gm_h_le hI0 hn_q hn_c hI_c hch c_55) ?_
          refine sv_iinc1 (lv' := [(2, _), (3, _), (1, _), (0, _)]) dX6_findsBest_73 rfl (by decide) rfl ?_
          refine sv_goto 25 dX6_findsBest_76 (by decide) ?_
          exact sv_sub [0, 2, 3] rfl (ih_c (by rw [gm_inn_s]; exact gm_cl_lt hI0 hn_q hn_c hI_c))
        · refine sv_aload_n dX6_findsBest_58 rfl ?_
          refine sv_iload_n dX6_findsBest_59 rfl ?_
          refine rm_put15 rfl dX6_findsBest_60 ?_
          refine sv_aload_n dX6_findsBest_63 rfl ?_
          refine sv_iload_n dX6_findsBest_64 rfl ?_
          refine rm_put16 rfl dX6_findsBest_65 ?_
          refine sv_aload_n dX6_findsBest_68 rfl ?_
          refine sv_iload_n dX6_findsBest_69 rfl ?_
          refine rm_put17 rfl dX6_findsBest_70 ?_
          refine sv_heap (h' := (gm_h G h m F X A S L (gm_inn S q (gm_out S q) (c + 1)))) (by rw [gm_inn_s]; exact gm_h_gt hI0 hn_q hn_c hI_c hch c_55) ?_
          refine sv_iinc1 (lv' := [(2, _), (3, _), (1, _), (0, _)]) dX6_findsBest_73 rfl (by decide) rfl ?_
          refine sv_goto 25 dX6_findsBest_76 (by decide) ?_
          exact sv_sub [0, 2, 3] rfl (ih_c (by rw [gm_inn_s]; exact gm_cl_lt hI0 hn_q hn_c hI_c))
end SR7
