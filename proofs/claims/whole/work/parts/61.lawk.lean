section CLK
variable {s : State} {b : Nat}
/-! WHAT IS KNOWN at the law's entry -/
def lw_F : List Cond := flatC (Jvm.Cond.and given_1 narrow_1)
theorem lw_nw (h : (Jvm.Cond.and given_1 narrow_1).before #[.ref b] s = true) (i : Nat) {w : Cond} (e : lw_F[i]? = some w) : w.before #[.ref b] s = true := flat_of_before _ h w (List.mem_of_getElem? e)
theorem lw_st (h : (Jvm.Cond.and given_1 narrow_1).before #[.ref b] s = true) (A : Nat → Prop) (hA : ∀ a : Nat, a < s.heap.size → ¬ A a) (name : String) (vs : List Int32) (i : Nat) (hn : vs.length < 2 ^ 31) (hl : (Cond.laysStatic RX5 name "[I").before #[.ref b] s = true) (hi : (Cond.initialized RX5).before #[.ref b] s = true)
    (h1 : lw_F[i]? = some (.arrayOf (.static RX5 name "[I") .int)) (h2 : lw_F[i + 1]? = some (.eq (.length (.static RX5 name "[I")) (.int (Int32.ofNat vs.length)))) (h3 : ∀ j, j < vs.length → lw_F[i + 2 + j]? = some (.eq (.elem (.static RX5 name "[I") (.int (Int32.ofNat j))) (.int (vs.getD j 0)))) :
    ∃ t : Nat, va_Z RX5 name "[I" (.ref t) A s s.heap ∧ va_T .int t vs.length (fun j => .int (vs.getD j 0)) A s s.heap := by
  obtain ⟨t, e, q⟩ := va_Tof (args := #[.ref b]) hn (lw_nw h _ h1) (va_eqt (lw_nw h _ h2)) (f := fun j => .int (vs.getD j 0)) (fun j hj => va_eqt (lw_nw h _ (h3 j hj))) hA
  exact ⟨t, va_Zref hl hi e hA, q⟩
theorem lw_sr (h : (Jvm.Cond.and given_1 narrow_1).before #[.ref b] s = true) (k i : Nat) (tx : String) (h1 : (Cond.stringRef RX5 k tx).before #[.ref b] s = true) (h2 : lw_F[i]? = some (.exactly (.string RX5 k) "java/lang/String")) : ∃ a : Nat, vk_R RX5 k tx a s := by
  obtain ⟨a, c, cell, k9, e, -⟩ := Cond.exactly_spec (lw_nw h _ h2)
  exact ⟨a, vk_R.of h1 e⟩
theorem lw_st0 (hts : ∀ w ∈ lw_tbl, w.before #[.ref b] s = true) (h : (Jvm.Cond.and given_1 narrow_1).before #[.ref b] s = true) (A : Nat → Prop) (hA : ∀ a : Nat, a < s.heap.size → ¬ A a) : ∃ t : Nat, va_Z RX5 "LOSING_ORDER" "[I" (.ref t) A s s.heap ∧ va_T .int t 3 (fun j => .int (([1, 0, 2] : List Int32).getD j 0)) A s s.heap :=
  lw_st h A hA "LOSING_ORDER" [1, 0, 2] 19 (by decide) (hts _ (ck_2_5_in _ (List.mem_of_getElem? (i := 21) rfl))) (hts _ (ck_1_0_in _ (List.mem_of_getElem? (i := 1) rfl))) (by decide +kernel) (by decide +kernel) (by decide +kernel)
theorem lw_st1 (hts : ∀ w ∈ lw_tbl, w.before #[.ref b] s = true) (h : (Jvm.Cond.and given_1 narrow_1).before #[.ref b] s = true) (A : Nat → Prop) (hA : ∀ a : Nat, a < s.heap.size → ¬ A a) : ∃ t : Nat, va_Z RX5 "LEAST_SETTING" "[I" (.ref t) A s s.heap ∧ va_T .int t 3 (fun j => .int (([1, 0, 1] : List Int32).getD j 0)) A s s.heap :=
  lw_st h A hA "LEAST_SETTING" [1, 0, 1] 63 (by decide) (hts _ (ck_3_5_in _ (List.mem_of_getElem? (i := 25) rfl))) (hts _ (ck_1_0_in _ (List.mem_of_getElem? (i := 1) rfl))) (by decide +kernel) (by decide +kernel) (by decide +kernel)
theorem lw_st2 (hts : ∀ w ∈ lw_tbl, w.before #[.ref b] s = true) (h : (Jvm.Cond.and given_1 narrow_1).before #[.ref b] s = true) (A : Nat → Prop) (hA : ∀ a : Nat, a < s.heap.size → ¬ A a) : ∃ t : Nat, va_Z RX5 "FIRST_SETTING" "[I" (.ref t) A s s.heap ∧ va_T .int t 3 (fun j => .int (([6, 1, 2] : List Int32).getD j 0)) A s s.heap :=
  lw_st h A hA "FIRST_SETTING" [6, 1, 2] 5 (by decide) (hts _ (ck_1_3_in _ (List.mem_of_getElem? (i := 3) rfl))) (hts _ (ck_1_0_in _ (List.mem_of_getElem? (i := 1) rfl))) (by decide +kernel) (by decide +kernel) (by decide +kernel)
theorem lw_st3 (hts : ∀ w ∈ lw_tbl, w.before #[.ref b] s = true) (h : (Jvm.Cond.and given_1 narrow_1).before #[.ref b] s = true) (A : Nat → Prop) (hA : ∀ a : Nat, a < s.heap.size → ¬ A a) : ∃ t : Nat, va_Z RX5 "GREATEST_SETTING" "[I" (.ref t) A s s.heap ∧ va_T .int t 3 (fun j => .int (([12, 5, 3] : List Int32).getD j 0)) A s s.heap :=
  lw_st h A hA "GREATEST_SETTING" [12, 5, 3] 69 (by decide) (hts _ (ck_3_5_in _ (List.mem_of_getElem? (i := 27) rfl))) (hts _ (ck_1_0_in _ (List.mem_of_getElem? (i := 1) rfl))) (by decide +kernel) (by decide +kernel) (by decide +kernel)
theorem lw_st4 (hts : ∀ w ∈ lw_tbl, w.before #[.ref b] s = true) (h : (Jvm.Cond.and given_1 narrow_1).before #[.ref b] s = true) (A : Nat → Prop) (hA : ∀ a : Nat, a < s.heap.size → ¬ A a) : ∃ t : Nat, va_Z RX5 "PLACING_PLACES" "[I" (.ref t) A s s.heap ∧ va_T .int t 16 (fun j => .int (([0, 1, 2, 2, 2, 3, 3, 3, 3, 3, 3, 3, 3, 3, 4, 5] : List Int32).getD j 0)) A s s.heap :=
  lw_st h A hA "PLACING_PLACES" [0, 1, 2, 2, 2, 3, 3, 3, 3, 3, 3, 3, 3, 3, 4, 5] 25 (by decide) (hts _ (ck_3_5_in _ (List.mem_of_getElem? (i := 4) rfl))) (hts _ (ck_1_0_in _ (List.mem_of_getElem? (i := 1) rfl))) (by decide +kernel) (by decide +kernel) (by decide +kernel)
theorem lw_st5 (hts : ∀ w ∈ lw_tbl, w.before #[.ref b] s = true) (h : (Jvm.Cond.and given_1 narrow_1).before #[.ref b] s = true) (A : Nat → Prop) (hA : ∀ a : Nat, a < s.heap.size → ¬ A a) : ∃ t : Nat, va_Z RX5 "PLACING_CHOICES" "[I" (.ref t) A s s.heap ∧ va_T .int t 16 (fun j => .int (([0, 0, 1, 2, 3, 1, 2, 3, 11, 12, 13, 21, 22, 23, 0, 0] : List Int32).getD j 0)) A s s.heap :=
  lw_st h A hA "PLACING_CHOICES" [0, 0, 1, 2, 3, 1, 2, 3, 11, 12, 13, 21, 22, 23, 0, 0] 44 (by decide) (hts _ (ck_3_5_in _ (List.mem_of_getElem? (i := 6) rfl))) (hts _ (ck_1_0_in _ (List.mem_of_getElem? (i := 1) rfl))) (by decide +kernel) (by decide +kernel) (by decide +kernel)
theorem lw_st6 (hts : ∀ w ∈ lw_tbl, w.before #[.ref b] s = true) (h : (Jvm.Cond.and given_1 narrow_1).before #[.ref b] s = true) (A : Nat → Prop) (hA : ∀ a : Nat, a < s.heap.size → ¬ A a) : ∃ t : Nat, va_Z RX5 "FIRST_PRICE" "[I" (.ref t) A s s.heap ∧ va_T .int t 3 (fun j => .int (([3, 3, 6] : List Int32).getD j 0)) A s s.heap :=
  lw_st h A hA "FIRST_PRICE" [3, 3, 6] 13 (by decide) (hts _ (ck_2_4_in _ (List.mem_of_getElem? (i := 1) rfl))) (hts _ (ck_1_0_in _ (List.mem_of_getElem? (i := 1) rfl))) (by decide +kernel) (by decide +kernel) (by decide +kernel)
theorem lw_sts (hts : ∀ w ∈ lw_tbl, w.before #[.ref b] s = true) (h : (Jvm.Cond.and given_1 narrow_1).before #[.ref b] s = true) (A : Nat → Prop) (hA : ∀ a : Nat, a < s.heap.size → ¬ A a) : ∃ sa : Nat → Nat, ∀ (i : Nat) (q : String × List Int32), sm_sts[i]? = some q → va_Z RX5 q.1 "[I" (.ref (sa i)) A s s.heap ∧ va_T .int (sa i) q.2.length (fun j => .int (q.2.getD j 0)) A s s.heap := by
  obtain ⟨t0, e0⟩ := lw_st0 hts h A hA
  obtain ⟨t1, e1⟩ := lw_st1 hts h A hA
  obtain ⟨t2, e2⟩ := lw_st2 hts h A hA
  obtain ⟨t3, e3⟩ := lw_st3 hts h A hA
  obtain ⟨t4, e4⟩ := lw_st4 hts h A hA
  obtain ⟨t5, e5⟩ := lw_st5 hts h A hA
  obtain ⟨t6, e6⟩ := lw_st6 hts h A hA
  refine ⟨fun i => if i = 0 then t0 else if i = 1 then t1 else if i = 2 then t2 else if i = 3 then t3 else if i = 4 then t4 else if i = 5 then t5 else t6, fun i q hq => ?_⟩
  match i, hq with
  | 0, hq => cases hq; exact e0
  | 1, hq => cases hq; exact e1
  | 2, hq => cases hq; exact e2
  | 3, hq => cases hq; exact e3
  | 4, hq => cases hq; exact e4
  | 5, hq => cases hq; exact e5
  | 6, hq => cases hq; exact e6
  | i + 7, hq => exact absurd hq (by show ¬ none = some q; exact fun z => nomatch z)
theorem lw_sr0 (hts : ∀ w ∈ lw_tbl, w.before #[.ref b] s = true) (h : (Jvm.Cond.and given_1 narrow_1).before #[.ref b] s = true) : ∃ a : Nat, vk_R RX5 43 "a character code is 0 to 255" a s := lw_sr h 43 101 "a character code is 0 to 255" (hts _ (ck_2_1_in _ (List.mem_of_getElem? (i := 3) rfl))) (by decide +kernel)
theorem lw_sr1 (hts : ∀ w ∈ lw_tbl, w.before #[.ref b] s = true) (h : (Jvm.Cond.and given_1 narrow_1).before #[.ref b] s = true) : ∃ a : Nat, vk_R RX5 54 "the text is full" a s := lw_sr h 54 133 "the text is full" (hts _ (ck_2_2_in _ (List.mem_of_getElem? (i := 13) rfl))) (by decide +kernel)
theorem lw_sr2 (hts : ∀ w ∈ lw_tbl, w.before #[.ref b] s = true) (h : (Jvm.Cond.and given_1 narrow_1).before #[.ref b] s = true) : ∃ a : Nat, vk_R RX5 65 "the text is not a game" a s := lw_sr h 65 154 "the text is not a game" (hts _ (ck_2_2_in _ (List.mem_of_getElem? (i := 27) rfl))) (by decide +kernel)
theorem lw_sr3 (hts : ∀ w ∈ lw_tbl, w.before #[.ref b] s = true) (h : (Jvm.Cond.and given_1 narrow_1).before #[.ref b] s = true) : ∃ a : Nat, vk_R RX5 108 "what is 0 to 11" a s := lw_sr h 108 182 "what is 0 to 11" (hts _ (ck_3_0_in _ (List.mem_of_getElem? (i := 14) rfl))) (by decide +kernel)
theorem lw_sr4 (hts : ∀ w ∈ lw_tbl, w.before #[.ref b] s = true) (h : (Jvm.Cond.and given_1 narrow_1).before #[.ref b] s = true) : ∃ a : Nat, vk_R RX5 118 "there is no such player" a s := lw_sr h 118 204 "there is no such player" (hts _ (ck_3_1_in _ (List.mem_of_getElem? (i := 18) rfl))) (by decide +kernel)
theorem lw_sr5 (hts : ∀ w ∈ lw_tbl, w.before #[.ref b] s = true) (h : (Jvm.Cond.and given_1 narrow_1).before #[.ref b] s = true) : ∃ a : Nat, vk_R RX5 121 "what is 0 to 8" a s := lw_sr h 121 235 "what is 0 to 8" (hts _ (ck_3_1_in _ (List.mem_of_getElem? (i := 25) rfl))) (by decide +kernel)
theorem lw_sr6 (hts : ∀ w ∈ lw_tbl, w.before #[.ref b] s = true) (h : (Jvm.Cond.and given_1 narrow_1).before #[.ref b] s = true) : ∃ a : Nat, vk_R RX5 132 "there is no such place" a s := lw_sr h 132 258 "there is no such place" (hts _ (ck_3_2_in _ (List.mem_of_getElem? (i := 14) rfl))) (by decide +kernel)
theorem lw_sr7 (hts : ∀ w ∈ lw_tbl, w.before #[.ref b] s = true) (h : (Jvm.Cond.and given_1 narrow_1).before #[.ref b] s = true) : ∃ a : Nat, vk_R RX5 134 "k is 0 or more" a s := lw_sr h 134 290 "k is 0 or more" (hts _ (ck_3_2_in _ (List.mem_of_getElem? (i := 15) rfl))) (by decide +kernel)
theorem lw_sr8 (hts : ∀ w ∈ lw_tbl, w.before #[.ref b] s = true) (h : (Jvm.Cond.and given_1 narrow_1).before #[.ref b] s = true) : ∃ a : Nat, vk_R RX5 148 "what is 0 to 2" a s := lw_sr h 148 315 "what is 0 to 2" (hts _ (ck_3_2_in _ (List.mem_of_getElem? (i := 27) rfl))) (by decide +kernel)
theorem lw_sr9 (hts : ∀ w ∈ lw_tbl, w.before #[.ref b] s = true) (h : (Jvm.Cond.and given_1 narrow_1).before #[.ref b] s = true) : ∃ a : Nat, vk_R RX5 154 "players are 2 to 4" a s := lw_sr h 154 341 "players are 2 to 4" (hts _ (ck_3_3_in _ (List.mem_of_getElem? (i := 5) rfl))) (by decide +kernel)
theorem lw_sr10 (hts : ∀ w ∈ lw_tbl, w.before #[.ref b] s = true) (h : (Jvm.Cond.and given_1 narrow_1).before #[.ref b] s = true) : ∃ a : Nat, vk_R RX5 166 "the place has no such choice" a s := lw_sr h 166 372 "the place has no such choice" (hts _ (ck_3_4_in _ (List.mem_of_getElem? (i := 4) rfl))) (by decide +kernel)
theorem lw_sr11 (hts : ∀ w ∈ lw_tbl, w.before #[.ref b] s = true) (h : (Jvm.Cond.and given_1 narrow_1).before #[.ref b] s = true) : ∃ a : Nat, vk_R RX5 171 "the placing is not possible" a s := lw_sr h 171 414 "the placing is not possible" (hts _ (ck_3_4_in _ (List.mem_of_getElem? (i := 6) rfl))) (by decide +kernel)
theorem lw_sr12 (hts : ∀ w ∈ lw_tbl, w.before #[.ref b] s = true) (h : (Jvm.Cond.and given_1 narrow_1).before #[.ref b] s = true) : ∃ a : Nat, vk_R RX5 179 "there is no turn" a s := lw_sr h 179 456 "there is no turn" (hts _ (ck_3_4_in _ (List.mem_of_getElem? (i := 16) rfl))) (by decide +kernel)
theorem lw_sr13 (hts : ∀ w ∈ lw_tbl, w.before #[.ref b] s = true) (h : (Jvm.Cond.and given_1 narrow_1).before #[.ref b] s = true) : ∃ a : Nat, vk_R RX5 190 "there is no such setting or value" a s := lw_sr h 190 488 "there is no such setting or value" (hts _ (ck_3_5_in _ (List.mem_of_getElem? (i := 28) rfl))) (by decide +kernel)
theorem lw_sr14 (hts : ∀ w ∈ lw_tbl, w.before #[.ref b] s = true) (h : (Jvm.Cond.and given_1 narrow_1).before #[.ref b] s = true) : ∃ a : Nat, vk_R RX5 195 "no state is remembered" a s := lw_sr h 195 538 "no state is remembered" (hts _ (ck_3_6_in _ (List.mem_of_getElem? (i := 6) rfl))) (by decide +kernel)
theorem lw_sr15 (hts : ∀ w ∈ lw_tbl, w.before #[.ref b] s = true) (h : (Jvm.Cond.and given_1 narrow_1).before #[.ref b] s = true) : ∃ a : Nat, vk_R RX5 222 "what is 0 to 4" a s := lw_sr h 222 578 "what is 0 to 4" (hts _ (ck_3_7_in _ (List.mem_of_getElem? (i := 25) rfl))) (by decide +kernel)
theorem lw_sr16 (hts : ∀ w ∈ lw_tbl, w.before #[.ref b] s = true) (h : (Jvm.Cond.and given_1 narrow_1).before #[.ref b] s = true) : ∃ a : Nat, vk_R RX5 236 "n is 1 to 12" a s := lw_sr h 236 611 "n is 1 to 12" (hts _ (ck_4_0_in _ (List.mem_of_getElem? (i := 15) rfl))) (by decide +kernel)
theorem lw_sr17 (hts : ∀ w ∈ lw_tbl, w.before #[.ref b] s = true) (h : (Jvm.Cond.and given_1 narrow_1).before #[.ref b] s = true) : ∃ a : Nat, vk_R RX5 251 "n is 1 to 3" a s := lw_sr h 251 643 "n is 1 to 3" (hts _ (ck_4_0_in _ (List.mem_of_getElem? (i := 25) rfl))) (by decide +kernel)
theorem lw_sr18 (hts : ∀ w ∈ lw_tbl, w.before #[.ref b] s = true) (h : (Jvm.Cond.and given_1 narrow_1).before #[.ref b] s = true) : ∃ a : Nat, vk_R RX5 257 "a script has at most 4 * n digits" a s := lw_sr h 257 675 "a script has at most 4 * n digits" (hts _ (ck_4_1_in _ (List.mem_of_getElem? (i := 0) rfl))) (by decide +kernel)
theorem lw_sr19 (hts : ∀ w ∈ lw_tbl, w.before #[.ref b] s = true) (h : (Jvm.Cond.and given_1 narrow_1).before #[.ref b] s = true) : ∃ a : Nat, vk_R RX5 277 "m is 1 to 80" a s := lw_sr h 277 730 "m is 1 to 80" (hts _ (ck_4_1_in _ (List.mem_of_getElem? (i := 16) rfl))) (by decide +kernel)
theorem lw_sr20 (hts : ∀ w ∈ lw_tbl, w.before #[.ref b] s = true) (h : (Jvm.Cond.and given_1 narrow_1).before #[.ref b] s = true) : ∃ a : Nat, vk_R RX5 292 "there is no such save slot" a s := lw_sr h 292 765 "there is no such save slot" (hts _ (ck_4_2_in _ (List.mem_of_getElem? (i := 5) rfl))) (by decide +kernel)
theorem lw_sr21 (hts : ∀ w ∈ lw_tbl, w.before #[.ref b] s = true) (h : (Jvm.Cond.and given_1 narrow_1).before #[.ref b] s = true) : ∃ a : Nat, vk_R RX5 294 "nothing has been saved in this slot" a s := lw_sr h 294 815 "nothing has been saved in this slot" (hts _ (ck_4_2_in _ (List.mem_of_getElem? (i := 13) rfl))) (by decide +kernel)
theorem lw_strs (hts : ∀ w ∈ lw_tbl, w.before #[.ref b] s = true) (h : (Jvm.Cond.and given_1 narrow_1).before #[.ref b] s = true) : ∃ ss : Nat → Nat, ∀ (i : Nat) (q : Nat × String), sm_strs[i]? = some q → vk_R RX5 q.1 q.2 (ss i) s := by
  obtain ⟨t0, e0⟩ := lw_sr0 hts h
  obtain ⟨t1, e1⟩ := lw_sr1 hts h
  obtain ⟨t2, e2⟩ := lw_sr2 hts h
  obtain ⟨t3, e3⟩ := lw_sr3 hts h
  obtain ⟨t4, e4⟩ := lw_sr4 hts h
  obtain ⟨t5, e5⟩ := lw_sr5 hts h
  obtain ⟨t6, e6⟩ := lw_sr6 hts h
  obtain ⟨t7, e7⟩ := lw_sr7 hts h
  obtain ⟨t8, e8⟩ := lw_sr8 hts h
  obtain ⟨t9, e9⟩ := lw_sr9 hts h
  obtain ⟨t10, e10⟩ := lw_sr10 hts h
  obtain ⟨t11, e11⟩ := lw_sr11 hts h
  obtain ⟨t12, e12⟩ := lw_sr12 hts h
  obtain ⟨t13, e13⟩ := lw_sr13 hts h
  obtain ⟨t14, e14⟩ := lw_sr14 hts h
  obtain ⟨t15, e15⟩ := lw_sr15 hts h
  obtain ⟨t16, e16⟩ := lw_sr16 hts h
  obtain ⟨t17, e17⟩ := lw_sr17 hts h
  obtain ⟨t18, e18⟩ := lw_sr18 hts h
  obtain ⟨t19, e19⟩ := lw_sr19 hts h
  obtain ⟨t20, e20⟩ := lw_sr20 hts h
  obtain ⟨t21, e21⟩ := lw_sr21 hts h
  refine ⟨fun i => [t0, t1, t2, t3, t4, t5, t6, t7, t8, t9, t10, t11, t12, t13, t14, t15, t16, t17, t18, t19, t20, t21].getD i 0, fun i q hq => ?_⟩
  match i, hq with
  | 0, hq => cases hq; exact e0
  | 1, hq => cases hq; exact e1
  | 2, hq => cases hq; exact e2
  | 3, hq => cases hq; exact e3
  | 4, hq => cases hq; exact e4
  | 5, hq => cases hq; exact e5
  | 6, hq => cases hq; exact e6
  | 7, hq => cases hq; exact e7
  | 8, hq => cases hq; exact e8
  | 9, hq => cases hq; exact e9
  | 10, hq => cases hq; exact e10
  | 11, hq => cases hq; exact e11
  | 12, hq => cases hq; exact e12
  | 13, hq => cases hq; exact e13
  | 14, hq => cases hq; exact e14
  | 15, hq => cases hq; exact e15
  | 16, hq => cases hq; exact e16
  | 17, hq => cases hq; exact e17
  | 18, hq => cases hq; exact e18
  | 19, hq => cases hq; exact e19
  | 20, hq => cases hq; exact e20
  | 21, hq => cases hq; exact e21
  | i + 22, hq => exact absurd hq (by show ¬ none = some q; exact fun z => nomatch z)
theorem lw_nest (hts : ∀ w ∈ lw_tbl, w.before #[.ref b] s = true) : ∀ w ∈ sm_nest, va_Nw w s := fun w hw => by
  obtain ⟨h1, h2⟩ := List.mem_filter.mp hw
  have h3 := hts w h1
  cases w <;> first | exact absurd h2 Bool.false_ne_true | exact va_Nw.of rfl h3
theorem lw_noc (h : (Jvm.Cond.and given_1 narrow_1).before #[.ref b] s = true) : ∀ q ∈ sm_nocast, va_Nc q.1 q.2 s := by
  refine List.forall_mem_cons.mpr ⟨va_Nc.of (lw_nw h 81 (by decide +kernel)), List.forall_mem_cons.mpr ⟨va_Nc.of (lw_nw h 99 (by decide +kernel)), List.forall_mem_cons.mpr ⟨va_Nc.of (lw_nw h 100 (by decide +kernel)), fun _ z => nomatch z⟩⟩⟩
/-- an array's class out of the tables -/
theorem lw_ac {ty : FieldType} (hty : ∀ C, ty ≠ .object C) (h : (Cond.arrayClass ty).before #[.ref b] s = true) : ∃ c : ClassId, ArrOfT s c ty ∧ va_RA s c ty := by
  obtain ⟨c, k, comp, h1, h2, h3⟩ := Cond.arrayClass_spec h
  refine ⟨c, fun n z => ⟨fun k h => (by cases h), k, h2, comp, h3⟩, ?_⟩
  cases ty <;> first | exact h1 | exact absurd rfl (hty _)
theorem lw_ao {C : String} (h : (Cond.arrayOver (.object C)).before #[.ref b] s = true) : ∃ c : ClassId, ArrOfT s c (.object C) ∧ va_RA s c (.object C) := by
  obtain ⟨comp, c, k, h1, -, h2, h3, h4⟩ := Cond.arrayOver_spec h
  exact ⟨c, fun n z => ⟨fun k h => (by cases h), k, h2, comp, h3⟩, k, comp, h2, h3, h1, h4⟩
/-- all of it -/
theorem lw_K {l : Launch} (hflags : l.flags = flags0) (hts : ∀ w ∈ lw_tbl, w.before #[.ref b] s = true) (h : (Jvm.Cond.and given_1 narrow_1).before #[.ref b] s = true) (h0 : 0 < s.heap.size) : ∃ G : sm_G, G.1 = l ∧ sm_B G = s.heap.size ∧ sm_K G s := by
  have hA : ∀ a : Nat, a < s.heap.size → ¬ s.heap.size ≤ a := fun a h => Nat.not_le.mpr h
  obtain ⟨c0, i0, k0⟩ := u_known (C := RX0) (T := TX0) (N := 16) (n := 16) hts (fun w hw => sm_tbl_in w (sm_cl0.2.1 w hw)) (hts _ (ck_1_1_in _ (List.mem_of_getElem? (i := 9) rfl)))
  obtain ⟨c1, i1, k1⟩ := u_known (C := RX1) (T := TX1) (N := 3) (n := 3) hts (fun w hw => sm_tbl_in w (sm_cl1.2.1 w hw)) (hts _ (ck_1_5_in _ (List.mem_of_getElem? (i := 6) rfl)))
  obtain ⟨c2, i2, k2⟩ := u_known (C := RX2) (T := TX2) (N := 2) (n := 2) hts (fun w hw => sm_tbl_in w (sm_cl2.2.1 w hw)) (hts _ (ck_1_2_in _ (List.mem_of_getElem? (i := 18) rfl)))
  obtain ⟨c3, i3, k3⟩ := u_known (C := RX3) (T := TX3) (N := 6) (n := 6) hts (fun w hw => sm_tbl_in w (sm_cl3.2.1 w hw)) (hts _ (ck_1_1_in _ (List.mem_of_getElem? (i := 18) rfl)))
  obtain ⟨c4, i4, k4⟩ := u_known (C := RX4) (T := TX4) (N := 2) (n := 2) hts (fun w hw => sm_tbl_in w (sm_cl4.2.1 w hw)) (hts _ (ck_1_0_in _ (List.mem_of_getElem? (i := 24) rfl)))
  obtain ⟨c5, i5, k5⟩ := u_known (C := RX5) (T := TX5) (N := 6) (n := 6) hts (fun w hw => sm_tbl_in w (sm_cl5.2.1 w hw)) (hts _ (ck_1_0_in _ (List.mem_of_getElem? (i := 16) rfl)))
  obtain ⟨c6, i6, k6⟩ := u_known (C := RX6) (T := TX6) (N := 24) (n := 24) hts (fun w hw => sm_tbl_in w (sm_cl6.2.1 w hw)) (hts _ (ck_4_2_in _ (List.mem_of_getElem? (i := 15) rfl)))
  obtain ⟨a0, b0⟩ := lw_ac (ty := .int) (fun _ z => nomatch z) (hts _ (ck_1_2_in _ (List.mem_of_getElem? (i := 17) rfl)))
  obtain ⟨a1, b1⟩ := lw_ac (ty := .long) (fun _ z => nomatch z) (hts _ (ck_4_5_in _ (List.mem_of_getElem? (i := 7) rfl)))
  obtain ⟨a2, b2⟩ := lw_ac (ty := .boolean) (fun _ z => nomatch z) (hts _ (ck_1_6_in _ (List.mem_of_getElem? (i := 14) rfl)))
  obtain ⟨a3, b3⟩ := lw_ac (ty := .char) (fun _ z => nomatch z) (hts _ (ck_1_1_in _ (List.mem_of_getElem? (i := 7) rfl)))
  obtain ⟨a4, b4⟩ := lw_ao (C := RX3) (hts _ (ck_1_1_in _ (List.mem_of_getElem? (i := 15) rfl)))
  obtain ⟨a5, b5⟩ := lw_ao (C := RX2) (hts _ (ck_1_1_in _ (List.mem_of_getElem? (i := 17) rfl)))
  obtain ⟨a6, b6⟩ := lw_ao (C := RX0) (hts _ (ck_1_5_in _ (List.mem_of_getElem? (i := 12) rfl)))
  obtain ⟨sa, hsa⟩ := lw_sts hts h (fun q => s.heap.size ≤ q) hA
  obtain ⟨ss, hss⟩ := lw_strs hts h
  refine ⟨(l, (fun k => if k = 0 then c0 else if k = 1 then c1 else if k = 2 then c2 else if k = 3 then c3 else if k = 4 then c4 else if k = 5 then c5 else c6, fun k => if k = 0 then i0 else if k = 1 then i1 else if k = 2 then i2 else if k = 3 then i3 else if k = 4 then i4 else if k = 5 then i5 else i6), (fun k => if k = 0 then a0 else if k = 1 then a1 else if k = 2 then a2 else if k = 3 then a3 else if k = 4 then a4 else if k = 5 then a5 else a6), s.heap.size, sa, ss), rfl, rfl, ⟨fun k q hq => ?_, fun k q hq => ?_⟩, lw_nest hts, lw_noc h, hsa, hss, ?_, ?_, ?_, ?_, h0⟩
  · match k, hq with
    | 0, hq => cases hq; exact k0
    | 1, hq => cases hq; exact k1
    | 2, hq => cases hq; exact k2
    | 3, hq => cases hq; exact k3
    | 4, hq => cases hq; exact k4
    | 5, hq => cases hq; exact k5
    | 6, hq => cases hq; exact k6
    | k + 7, hq => exact absurd hq (by show ¬ none = some q; exact fun z => nomatch z)
  · match k, hq with
    | 0, hq => cases hq; exact b0
    | 1, hq => cases hq; exact b1
    | 2, hq => cases hq; exact b2
    | 3, hq => cases hq; exact b3
    | 4, hq => cases hq; exact b4
    | 5, hq => cases hq; exact b5
    | 6, hq => cases hq; exact b6
    | k + 7, hq => exact absurd hq (by show ¬ none = some q; exact fun z => nomatch z)
  · exact vx_Zqof (hts _ (ck_2_0_in _ (List.mem_of_getElem? (i := 19) rfl))) (hts _ (ck_1_0_in _ (List.mem_of_getElem? (i := 8) rfl))) (lw_nw h 10 (by decide +kernel)) hA
  · exact vx_Zqof (hts _ (ck_2_0_in _ (List.mem_of_getElem? (i := 21) rfl))) (hts _ (ck_1_0_in _ (List.mem_of_getElem? (i := 8) rfl))) (lw_nw h 11 (by decide +kernel)) hA
  · exact List.forall_mem_cons.mpr ⟨va_AO.of (hts _ (ck_1_1_in _ (List.mem_of_getElem? (i := 15) rfl))), List.forall_mem_cons.mpr ⟨va_AO.of (hts _ (ck_1_1_in _ (List.mem_of_getElem? (i := 17) rfl))), List.forall_mem_cons.mpr ⟨va_AO.of (hts _ (ck_1_5_in _ (List.mem_of_getElem? (i := 12) rfl))), fun _ z => nomatch z⟩⟩⟩
  · show l.stackTraces = false
    unfold Launch.stackTraces
    rw [hflags]
    decide +kernel
end CLK
