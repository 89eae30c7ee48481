section SR12
variable {G : sm_G} {h : sm_H} {m : Nat} {F : Nat → Int32} {X : Nat → Int64} {A : Nat → Nat → Int32} {L : Nat → Nat → Int64} {S : Nat → Nat} {K : Nat}
theorem as_upk (k : Nat) (hk : k ≠ 1) (f : Nat → Int32) : va_up (sm_as A S) k f = sm_as (va_up A k f) S := by
  funext a i; unfold sm_as va_up
  (repeat' split) <;> first | rfl | omega
theorem as_k (k : Nat) (hk : k ≠ 1) : sm_as A S k = A k := by unfold sm_as; rw [up_ne hk]
theorem as_upkk (k : Nat) (hk : k ≠ 1) (f : Nat → Int32) (i : Nat) (v : Int32) : va_up (sm_as (va_up A k f) S) k (va_up (sm_as (va_up A k f) S k) i v) = sm_as (va_up A k (va_up f i v)) S := by
  rw [as_upk k hk, as_k k hk, up_eq, up_up]
theorem as_upj (k : Nat) (hk : k ≠ 1) (B : Nat → Int32) (i j : Nat) : va_up (sm_as (va_up A k B) S) k (va_up (sm_as (va_up A k B) S k) i (sm_as (va_up A k B) S k j)) = sm_as (va_up A k (va_up B i (B j))) S := by rw [as_k k hk, up_eq, as_upk k hk, up_up]
theorem om_FXAL {F1 F2 : Nat → Int32} {X1 X2 : Nat → Int64} {A1 A2 : Nat → Nat → Int32} {L1 L2 : Nat → Nat → Int64} (e1 : F1 = F2) (e2 : X1 = X2) (e3 : A1 = A2) (e4 : L1 = L2) : sm_om G h m F1 X1 A1 L1 = sm_om G h m F2 X2 A2 L2 := by subst e1; subst e2; subst e3; subst e4; rfl
/-! what is remembered -/
def gm_s3 {α : Type} (B : Nat → α) (d n : Nat) : Nat → α := fun i => if i < n then B (i + d) else B i
theorem gm_s3_0 {α : Type} (B : Nat → α) (d : Nat) : gm_s3 B d 0 = B := by funext i; unfold gm_s3; rw [if_neg (by omega)]
theorem gm_s3_s {α : Type} (B : Nat → α) {d n : Nat} : va_up (gm_s3 B d n) n (B (n + d)) = gm_s3 B d (n + 1) := by
  funext i; simp only [gm_s3, va_up]
  (repeat' split) <;> first | rfl | omega | (subst_vars; first | rfl | omega)
theorem gm_s3_at {α : Type} (B : Nat → α) {d n : Nat} (hd : 0 < d) : gm_s3 B d n (n + d) = B (n + d) := by unfold gm_s3; rw [if_neg (by omega)]
def gm_w3 (B : Nat → Int32) (k : Nat) (S : gm_S) (n : Nat) : Nat → Int32 := fun i => if 69 * k ≤ i ∧ i < 69 * k + n then nI (S (i - 69 * k)) else B i
theorem gm_w3_0 (B : Nat → Int32) (k : Nat) : gm_w3 B k S 0 = B := by funext i; unfold gm_w3; rw [if_neg (by omega)]
theorem gm_w3_s (B : Nat → Int32) (k n : Nat) : va_up (gm_w3 B k S n) (69 * k + n) (nI (S n)) = gm_w3 B k S (n + 1) := by
  funext i; simp only [gm_w3, va_up]
  by_cases e : i = 69 * k + n
  · subst e; rw [if_pos rfl, if_pos (by omega), show 69 * k + n - 69 * k = n by omega]
  · rw [if_neg e]
    by_cases e2 : 69 * k ≤ i ∧ i < 69 * k + n
    · rw [if_pos e2, if_pos (by omega)]
    · rw [if_neg e2, if_neg (by omega)]
def gm_q3 (k : Nat) (A : Nat → Nat → Int32) : Nat → Int32 := if k = 14 then gm_s3 (A 3) 69 897 else A 3
def gm_q4 (k : Nat) (L : Nat → Nat → Int64) : Nat → Int64 := if k = 14 then gm_s3 (L 4) 1 13 else L 4
/-- the reference behind a remembering -/
def gm_rmA (k : Nat) (A : Nat → Nat → Int32) (S : gm_S) : Nat → Nat → Int32 := va_up A 3 (gm_w3 (gm_q3 k A) (min k 13) S 69)
def gm_rmL (k : Nat) (L : Nat → Nat → Int64) (x : Int64) : Nat → Nat → Int64 := va_up L 4 (va_up (gm_q4 k L) (min k 13) x)
def gm_rmF (k : Nat) (F : Nat → Int32) : Nat → Int32 := va_up F 5 (nI (min k 13 + 1))
theorem up_upk {α : Type} {f : Nat → α} {k : Nat} {u v : α} (h : u = v) : va_up f k u = va_up f k v := by rw [h]
theorem c6_remembers {k : Nat} (hf : F 5 = nI k) (hk : k ≤ 14) : sm_F G mX6_remembers 0 [.ref m] (sm_om G h m F X (sm_as A S) L) (.inl none) (sm_om G h m (gm_rmF k F) X (sm_as (gm_rmA k A S) S) (gm_rmL k L (X 2))) := by
  unfold sm_F sm_C
  show sm_V G _ _ _ 0 0 0 [(0, .ref m)] [] _
  refine sv_cut (c9 := 0) (s9 := 0) (p9 := 77) (l9 := [(0, .ref m)]) (t9 := []) (h9 := (sm_om G h m (va_up F 5 (nI (min k 13))) X (sm_as (va_up A 3 (gm_w3 (gm_q3 k A) (min k 13) S 0)) S) (va_up L 4 (gm_q4 k L)))) ?_ (fun k_77 => ?_)
  · refine sv_iconst (nI 0) dX6_remembers_77 (by decide) ?_
    refine sv_istore_n (lv' := [(1, _), (0, _)]) dX6_remembers_78 (by decide) rfl ?_
    refine sv_sub [0, 1] rfl (sv_loop (pc := 79) (lv := fun n => [(1, .int (nI n)), (0, .ref m)]) (hp := fun n => (sm_om G h m (va_up F 5 (nI (min k 13))) X (sm_as (va_up A 3 (gm_w3 (gm_q3 k A) (min k 13) S n)) S) (va_up L 4 (gm_q4 k L)))) (I := fun n => True) (N := 69) (trivial) ?_ ?_)
    · intro hI
      show sm_V G _ _ _ _ _ _ [(1, .int (nI 69)), (0, .ref m)] [] (sm_om G h m (va_up F 5 (nI (min k 13))) X (sm_as (va_up A 3 (gm_w3 (gm_q3 k A) (min k 13) S 69)) S) (va_up L 4 (gm_q4 k L)))
      refine sv_iload_n dX6_remembers_79 rfl ?_
      refine sv_bipush (nI 69) dX6_remembers_80 (by decide) ?_
      refine sv_icmpN_ge 111 dX6_remembers_82 (by decide) (by omega) (by omega) (fun c_82 => ?_) (fun c_82 => absurd c_82 (by omega))
      refine sv_aload_n dX6_remembers_111 rfl ?_
      refine rm_get4 rfl dX6_remembers_112 ?_
      refine sv_aload_n dX6_remembers_115 rfl ?_
      refine rm_get5 rfl dX6_remembers_116 ?_
      refine sv_top (nI (min k 13)) (up_eq) ?_
      refine sv_aload_n dX6_remembers_119 rfl ?_
      refine rm_get2 rfl dX6_remembers_120 ?_
      refine rm_st4 dX6_remembers_123 (by omega) ?_
      refine sv_aload_n dX6_remembers_124 rfl ?_
      refine sv_dup dX6_remembers_125 rfl ?_
      refine rm_get5 rfl dX6_remembers_126 ?_
      refine sv_top (nI (min k 13)) (up_eq) ?_
      refine sv_iconst (nI 1) dX6_remembers_129 (by decide) ?_
      refine sv_iaddN dX6_remembers_130 ?_
      refine rm_put5 rfl dX6_remembers_131 ?_
      refine sv_vret dX6_remembers_134 rfl (Nat.le_refl _) (Nat.le_refl _) ?_
      exact ⟨rfl, om_FXAL (up_up _ _ _ _) rfl rfl (by rw [up_eq, up_up]; rfl)⟩
    · intro n hn hI ih
      show sm_V G _ _ _ _ _ _ [(1, .int (nI n)), (0, .ref m)] [] (sm_om G h m (va_up F 5 (nI (min k 13))) X (sm_as (va_up A 3 (gm_w3 (gm_q3 k A) (min k 13) S n)) S) (va_up L 4 (gm_q4 k L)))
      refine sv_iload_n dX6_remembers_79 rfl ?_
      refine sv_bipush (nI 69) dX6_remembers_80 (by decide) ?_
      refine sv_icmpN_ge 111 dX6_remembers_82 (by decide) (by omega) (by omega) (fun c_82 => absurd c_82 (by omega)) (fun c_82 => ?_)
      refine sv_aload_n dX6_remembers_85 rfl ?_
      refine rm_get3 rfl dX6_remembers_86 ?_
      refine sv_bipush (nI 69) dX6_remembers_89 (by decide) ?_
      refine sv_aload_n dX6_remembers_91 rfl ?_
      refine rm_get5 rfl dX6_remembers_92 ?_
      refine sv_top (nI (min k 13)) (up_eq) ?_
      refine sv_imulN dX6_remembers_95 ?_
      refine sv_iload_n dX6_remembers_96 rfl ?_
      refine sv_iaddN dX6_remembers_97 ?_
      refine sv_aload_n dX6_remembers_98 rfl ?_
      refine rm_get1 rfl dX6_remembers_99 ?_
      refine sv_iload_n dX6_remembers_102 rfl ?_
      refine rm_ld1N dX6_remembers_103 (by omega) ?_
      refine rm_st3 dX6_remembers_104 (by omega) ?_
      refine sv_heap (h' := (sm_om G h m (va_up F 5 (nI (min k 13))) X (sm_as (va_up A 3 (gm_w3 (gm_q3 k A) (min k 13) S (n + 1))) S) (va_up L 4 (gm_q4 k L)))) (om_FXAL rfl rfl (by rw [as_upkk 3 (by omega)]; exact congrArg (fun z => sm_as (va_up A 3 z) S) (gm_w3_s _ _ n)) rfl) ?_
      refine sv_iinc1 (lv' := [(1, _), (0, _)]) dX6_remembers_105 rfl (by decide) rfl ?_
      refine sv_goto 79 dX6_remembers_108 (by decide) ?_
      exact sv_sub [0, 1] rfl (ih trivial)
  refine sv_aload_n dX6_remembers_0 rfl ?_
  refine rm_get5 rfl dX6_remembers_1 ?_
  refine sv_top (nI k) (hf) ?_
  refine sv_bipush (nI 14) dX6_remembers_4 (by decide) ?_
  refine sv_icmpN_ne 77 dX6_remembers_6 (by decide) (by omega) (by omega) (fun c_6 => ?_) (fun c_6 => ?_)
  · exact sv_sub [0] rfl (sv_heap (om_FXAL (by rw [Nat.min_eq_left (by omega), ← hf, up_id]) rfl (by rw [gm_w3_0]; unfold gm_q3; rw [if_neg c_6, up_id]) (by unfold gm_q4; rw [if_neg c_6, up_id])) k_77)
  · subst c_6
    refine sv_iconst (nI 0) dX6_remembers_9 (by decide) ?_
    refine sv_istore_n (lv' := [(1, _), (0, _)]) dX6_remembers_10 (by decide) rfl ?_
    refine sv_heap (h' := (sm_om G h m F X (sm_as (va_up A 3 (gm_s3 (A 3) 69 0)) S) L)) (by rw [gm_s3_0, up_id]) ?_
    refine sv_sub [0, 1] rfl (sv_loop (pc := 11) (lv := fun n => [(1, .int (nI n)), (0, .ref m)]) (hp := fun n => (sm_om G h m F X (sm_as (va_up A 3 (gm_s3 (A 3) 69 n)) S) L)) (I := fun n => True) (N := 897) (trivial) ?_ ?_)
    · intro hI
      show sm_V G _ _ _ _ _ _ [(1, .int (nI 897)), (0, .ref m)] [] (sm_om G h m F X (sm_as (va_up A 3 (gm_s3 (A 3) 69 897)) S) L)
      refine sv_iload_n dX6_remembers_11 rfl ?_
      refine sv_sipush (nI 897) dX6_remembers_12 (by decide) ?_
      refine sv_icmpN_ge 39 dX6_remembers_15 (by decide) (by omega) (by omega) (fun c_15 => ?_) (fun c_15 => absurd c_15 (by omega))
      refine sv_iconst (nI 0) dX6_remembers_39 (by decide) ?_
      refine sv_istore_n (lv' := [(1, _), (0, _)]) dX6_remembers_40 (by decide) rfl ?_
      refine sv_heap (h' := (sm_om G h m F X (sm_as (va_up A 3 (gm_s3 (A 3) 69 897)) S) (va_up L 4 (gm_s3 (L 4) 1 0)))) (by rw [gm_s3_0, up_id]) ?_
      refine sv_sub [0, 1] rfl (sv_loop (pc := 41) (lv := fun n => [(1, .int (nI n)), (0, .ref m)]) (hp := fun n => (sm_om G h m F X (sm_as (va_up A 3 (gm_s3 (A 3) 69 897)) S) (va_up L 4 (gm_s3 (L 4) 1 n)))) (I := fun n => True) (N := 13) (trivial) ?_ ?_)
      · intro hI
        show sm_V G _ _ _ _ _ _ [(1, .int (nI 13)), (0, .ref m)] [] (sm_om G h m F X (sm_as (va_up A 3 (gm_s3 (A 3) 69 897)) S) (va_up L 4 (gm_s3 (L 4) 1 13)))
        refine sv_iload_n dX6_remembers_41 rfl ?_
        refine sv_bipush (nI 13) dX6_remembers_42 (by decide) ?_
        refine sv_icmpN_ge 67 dX6_remembers_44 (by decide) (by omega) (by omega) (fun c_44 => ?_) (fun c_44 => absurd c_44 (by omega))
        refine sv_aload_n dX6_remembers_67 rfl ?_
        refine sv_dup dX6_remembers_68 rfl ?_
        refine rm_get5 rfl dX6_remembers_69 ?_
        refine sv_top (nI 14) (hf) ?_
        refine sv_iconst (nI 1) dX6_remembers_72 (by decide) ?_
        refine sv_isubN dX6_remembers_73 (by omega) ?_
        refine rm_put5 rfl dX6_remembers_74 ?_
        exact sv_sub [1] rfl (sv_heap (by rw [gm_w3_0]; exact om_FXAL rfl rfl rfl rfl) k_77)
      · intro n hn hI ih
        show sm_V G _ _ _ _ _ _ [(1, .int (nI n)), (0, .ref m)] [] (sm_om G h m F X (sm_as (va_up A 3 (gm_s3 (A 3) 69 897)) S) (va_up L 4 (gm_s3 (L 4) 1 n)))
        refine sv_iload_n dX6_remembers_41 rfl ?_
        refine sv_bipush (nI 13) dX6_remembers_42 (by decide) ?_
        refine sv_icmpN_ge 67 dX6_remembers_44 (by decide) (by omega) (by omega) (fun c_44 => absurd c_44 (by omega)) (fun c_44 => ?_)
        refine sv_aload_n dX6_remembers_47 rfl ?_
        refine rm_get4 rfl dX6_remembers_48 ?_
        refine sv_iload_n dX6_remembers_51 rfl ?_
        refine sv_aload_n dX6_remembers_52 rfl ?_
        refine rm_get4 rfl dX6_remembers_53 ?_
        refine sv_iload_n dX6_remembers_56 rfl ?_
        refine sv_iconst (nI 1) dX6_remembers_57 (by decide) ?_
        refine sv_iaddN dX6_remembers_58 ?_
        refine rm_ld4 dX6_remembers_59 (by omega) ?_
        refine rm_st4 dX6_remembers_60 (by omega) ?_
        refine sv_heap (h' := (sm_om G h m F X (sm_as (va_up A 3 (gm_s3 (A 3) 69 897)) S) (va_up L 4 (gm_s3 (L 4) 1 (n + 1))))) (om_FXAL rfl rfl rfl (by rw [up_eq, gm_s3_at _ (by omega), up_up, gm_s3_s])) ?_
        refine sv_iinc1 (lv' := [(1, _), (0, _)]) dX6_remembers_61 rfl (by decide) rfl ?_
        refine sv_goto 41 dX6_remembers_64 (by decide) ?_
        exact sv_sub [0, 1] rfl (ih trivial)
    · intro n hn hI ih
      show sm_V G _ _ _ _ _ _ [(1, .int (nI n)), (0, .ref m)] [] (sm_om G h m F X (sm_as (va_up A 3 (gm_s3 (A 3) 69 n)) S) L)
      refine sv_iload_n dX6_remembers_11 rfl ?_
      refine sv_sipush (nI 897) dX6_remembers_12 (by decide) ?_
      refine sv_icmpN_ge 39 dX6_remembers_15 (by decide) (by omega) (by omega) (fun c_15 => absurd c_15 (by omega)) (fun c_15 => ?_)
      refine sv_aload_n dX6_remembers_18 rfl ?_
      refine rm_get3 rfl dX6_remembers_19 ?_
      refine sv_iload_n dX6_remembers_22 rfl ?_
      refine sv_aload_n dX6_remembers_23 rfl ?_
      refine rm_get3 rfl dX6_remembers_24 ?_
      refine sv_iload_n dX6_remembers_27 rfl ?_
      refine sv_bipush (nI 69) dX6_remembers_28 (by decide) ?_
      refine sv_iaddN dX6_remembers_30 ?_
      refine rm_ld3 dX6_remembers_31 (by omega) ?_
      refine rm_st3 dX6_remembers_32 (by omega) ?_
      refine sv_heap (h' := (sm_om G h m F X (sm_as (va_up A 3 (gm_s3 (A 3) 69 (n + 1))) S) L)) (om_FXAL rfl rfl (by rw [as_upj 3 (by omega), gm_s3_at _ (by omega), gm_s3_s]) rfl) ?_
      refine sv_iinc1 (lv' := [(1, _), (0, _)]) dX6_remembers_33 rfl (by decide) rfl ?_
      refine sv_goto 11 dX6_remembers_36 (by decide) ?_
      exact sv_sub [0, 1] rfl (ih trivial)
end SR12
