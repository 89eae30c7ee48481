section SR1
variable {G : sm_G} {h : sm_H} {m : Nat} {F : Nat → Int32} {X : Nat → Int64} {A : Nat → Nat → Int32} {L : Nat → Nat → Int64} {S : Nat → Nat}
theorem sv_iinc1 {M : sm_M} {R : Room} {Z : sm_Z} {cells slots pc : Nat} {lv lv' : List (Nat × Value)} {st : List Value} {i a : Nat} (hd : decode M.2.1 pc = .ok (.iinc i 1, 3)) (hx : sm_lk lv i = some (.int (nI a))) (hn : i < M.2.2.1) (hs : sm_s1 lv i (.int (nI (a + 1))) = lv') (k : sm_V G M R Z cells slots (pc + 3) lv' st h) : sm_V G M R Z cells slots pc lv st h := sv_iinc (nI (a + 1)) hd hx (by rw [show Int32.ofInt 1 = 1 from rfl]; exact nI_1 a) hn hs k
def b2n (b : Bool) : Nat := if b = true then 1 else 0
theorem b2n_lt (b : Bool) : b2n b < 2 := by cases b <;> decide
theorem nar_b {a : Nat} (h : a < 2) : narrow .boolean (.int (nI a)) = .int (nI a) := by
  rcases (show a = 0 ∨ a = 1 by omega) with rfl | rfl <;> rfl
theorem fit_b {a : Nat} (h : a < 2) : fits .boolean (.int (nI a)) = true := by
  rcases (show a = 0 ∨ a = 1 by omega) with rfl | rfl <;> rfl
theorem c6_of {p w : Nat} (hw : 13 + 8 * p + w < 69) : sm_F G mX6_of 0 [.ref m, .int (nI p), .int (nI w)] (sm_om G h m F X (sm_as A S) L) (.inl (some (.int (nI (S (13 + 8 * p + w)))))) (sm_om G h m F X (sm_as A S) L) := by
  unfold sm_F sm_C
  show sm_V G _ _ _ 0 0 0 [(0, .ref m), (1, .int (nI p)), (2, .int (nI w))] [] _
  refine sv_aload_n dX6_of_0 rfl ?_
  refine rm_get1 rfl dX6_of_1 ?_
  refine sv_bipush (nI 13) dX6_of_4 (by decide) ?_
  refine sv_bipush (nI 8) dX6_of_6 (by decide) ?_
  refine sv_iload_n dX6_of_8 rfl ?_
  refine sv_imulN dX6_of_9 ?_
  refine sv_iaddN dX6_of_10 ?_
  refine sv_iload_n dX6_of_11 rfl ?_
  refine sv_iaddN dX6_of_12 ?_
  refine rm_ld1N dX6_of_13 (by omega) ?_
  refine sv_iret dX6_of_14 rfl rfl (Nat.le_refl _) (Nat.le_refl _) ?_
  exact ⟨rfl, rfl⟩
theorem c6_workersAt {q : Nat} (hq : q < 6) : sm_F G mX6_workersAt 0 [.ref m, .int (nI q)] (sm_om G h m F X (sm_as A S) L) (.inl (some (.int (nI (S (45 + 4 * q)))))) (sm_om G h m F X (sm_as A S) L) := by
  unfold sm_F sm_C
  show sm_V G _ _ _ 0 0 0 [(0, .ref m), (1, .int (nI q))] [] _
  refine sv_aload_n dX6_workersAt_0 rfl ?_
  refine rm_get1 rfl dX6_workersAt_1 ?_
  refine sv_bipush (nI 45) dX6_workersAt_4 (by decide) ?_
  refine sv_iconst (nI 4) dX6_workersAt_6 (by decide) ?_
  refine sv_iload_n dX6_workersAt_7 rfl ?_
  refine sv_imulN dX6_workersAt_8 ?_
  refine sv_iaddN dX6_workersAt_9 ?_
  refine rm_ld1N dX6_workersAt_10 (by omega) ?_
  refine sv_iret dX6_workersAt_11 rfl rfl (Nat.le_refl _) (Nat.le_refl _) ?_
  exact ⟨rfl, rfl⟩
theorem c6_ownerAt {q k : Nat} (hq : 45 + 4 * q + 1 + k < 69) : sm_F G mX6_ownerAt 0 [.ref m, .int (nI q), .int (nI k)] (sm_om G h m F X (sm_as A S) L) (.inl (some (.int (nI (S (45 + 4 * q + 1 + k)))))) (sm_om G h m F X (sm_as A S) L) := by
  unfold sm_F sm_C
  show sm_V G _ _ _ 0 0 0 [(0, .ref m), (1, .int (nI q)), (2, .int (nI k))] [] _
  refine sv_aload_n dX6_ownerAt_0 rfl ?_
  refine rm_get1 rfl dX6_ownerAt_1 ?_
  refine sv_bipush (nI 45) dX6_ownerAt_4 (by decide) ?_
  refine sv_iconst (nI 4) dX6_ownerAt_6 (by decide) ?_
  refine sv_iload_n dX6_ownerAt_7 rfl ?_
  refine sv_imulN dX6_ownerAt_8 ?_
  refine sv_iaddN dX6_ownerAt_9 ?_
  refine sv_iconst (nI 1) dX6_ownerAt_10 (by decide) ?_
  refine sv_iaddN dX6_ownerAt_11 ?_
  refine sv_iload_n dX6_ownerAt_12 rfl ?_
  refine sv_iaddN dX6_ownerAt_13 ?_
  refine rm_ld1N dX6_ownerAt_14 (by omega) ?_
  refine sv_iret dX6_ownerAt_15 rfl rfl (Nat.le_refl _) (Nat.le_refl _) ?_
  exact ⟨rfl, rfl⟩
theorem c6_adds {p w v : Nat} (hw : 13 + 8 * p + w < 69) : sm_F G mX6_adds 0 [.ref m, .int (nI p), .int (nI w), .int (nI v)] (sm_om G h m F X (sm_as A S) L) (.inl none) (sm_om G h m F X (sm_as A (va_up S (13 + 8 * p + w) (S (13 + 8 * p + w) + v))) L) := by
  unfold sm_F sm_C
  show sm_V G _ _ _ 0 0 0 [(0, .ref m), (1, .int (nI p)), (2, .int (nI w)), (3, .int (nI v))] [] _
  refine sv_aload_n dX6_adds_0 rfl ?_
  refine rm_get1 rfl dX6_adds_1 ?_
  refine sv_bipush (nI 13) dX6_adds_4 (by decide) ?_
  refine sv_bipush (nI 8) dX6_adds_6 (by decide) ?_
  refine sv_iload_n dX6_adds_8 rfl ?_
  refine sv_imulN dX6_adds_9 ?_
  refine sv_iaddN dX6_adds_10 ?_
  refine sv_iload_n dX6_adds_11 rfl ?_
  refine sv_iaddN dX6_adds_12 ?_
  refine sv_dup2 dX6_adds_13 rfl rfl ?_
  refine rm_ld1N dX6_adds_14 (by omega) ?_
  refine sv_iload_n dX6_adds_15 rfl ?_
  refine sv_iaddN dX6_adds_16 ?_
  refine rm_st1N dX6_adds_17 (by omega) ?_
  refine sv_vret dX6_adds_18 rfl (Nat.le_refl _) (Nat.le_refl _) ?_
  exact ⟨rfl, rfl⟩
end SR1
