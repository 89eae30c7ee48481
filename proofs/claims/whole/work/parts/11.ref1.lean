section SR1
variable {G : sm_G} {h : sm_H} {m : Nat} {F : Nat → Int32} {X : Nat → Int64} {A : Nat → Nat → Int32} {L : Nat → Nat → Int64} {S : Nat → Nat} {K : Nat}
theorem sv_iinc1 {M : sm_M} {R : Room} {Z : sm_Z} {cells slots pc : Nat} {lv lv' : List (Nat × Value)} {st : List Value} {i a : Nat} (hd : decode M.2.1 pc = .ok (.iinc i 1, 3)) (hx : sm_lk lv i = some (.int (nI a))) (hn : i < M.2.2.1) (hs : sm_s1 lv i (.int (nI (a + 1))) = lv') (k : sm_V G M R Z cells slots (pc + 3) lv' st h) : sm_V G M R Z cells slots pc lv st h := sv_iinc (nI (a + 1)) hd hx (by rw [show Int32.ofInt 1 = 1 from rfl]; exact nI_1 a) hn hs k
theorem sv_ifN_ge {M : sm_M} {R : Room} {Z : sm_Z} {cells slots pc : Nat} {lv : List (Nat × Value)} {st : List Value} {a : Nat} {off : Int} (tgt : Nat) (hd : decode M.2.1 pc = .ok (.ifCond .ge off, 3)) (ht : (pc : Int) + off = (tgt : Int)) (ha : a < 2 ^ 31) (kt : True → sm_V G M R Z cells slots tgt lv st h) (kf : False → sm_V G M R Z cells slots (pc + 3) lv st h) : sm_V G M R Z cells slots pc lv (.int (nI a) :: st) h := sv_if_ge tgt hd ht (fun _ => kt trivial) (fun q => absurd (nI_pos' ha) q)
theorem sv_ifN_lt {M : sm_M} {R : Room} {Z : sm_Z} {cells slots pc : Nat} {lv : List (Nat × Value)} {st : List Value} {a : Nat} {off : Int} (tgt : Nat) (hd : decode M.2.1 pc = .ok (.ifCond .lt off, 3)) (ht : (pc : Int) + off = (tgt : Int)) (ha : a < 2 ^ 31) (kt : False → sm_V G M R Z cells slots tgt lv st h) (kf : True → sm_V G M R Z cells slots (pc + 3) lv st h) : sm_V G M R Z cells slots pc lv (.int (nI a) :: st) h := sv_if_lt tgt hd ht (fun q => absurd q (nI_pos ha)) (fun _ => kf trivial)
def b2n (b : Bool) : Nat := if b = true then 1 else 0
theorem b2n_lt (b : Bool) : b2n b < 2 := by cases b <;> decide
theorem b2n_0 (b : Bool) : b2n b = 0 ↔ b = false := by cases b <;> decide
theorem nar_b {a : Nat} (h : a < 2) : narrow .boolean (.int (nI a)) = .int (nI a) := by
  rcases (show a = 0 ∨ a = 1 by omega) with rfl | rfl <;> rfl
theorem fit_b {a : Nat} (h : a < 2) : fits .boolean (.int (nI a)) = true := by
  rcases (show a = 0 ∨ a = 1 by omega) with rfl | rfl <;> rfl
theorem rt1 {p : Prop} [Decidable p] (h : p) : (Sum.inl (some (Value.int (nI 1))) : sm_O) = .inl (some (.int (nI (b2n (decide p))))) := by simp [b2n, h]
theorem rf0 {p : Prop} [Decidable p] (h : ¬ p) : (Sum.inl (some (Value.int (nI 0))) : sm_O) = .inl (some (.int (nI (b2n (decide p))))) := by simp [b2n, h]
theorem rbt {b : Bool} (h : b = true) : (Sum.inl (some (Value.int (nI 1))) : sm_O) = .inl (some (.int (nI (b2n b)))) := by rw [h]; rfl
theorem rbf {b : Bool} (h : b = false) : (Sum.inl (some (Value.int (nI 0))) : sm_O) = .inl (some (.int (nI (b2n b)))) := by rw [h]; rfl
theorem ri {a b : Nat} (h : a = b) : (Sum.inl (some (Value.int (nI a))) : sm_O) = .inl (some (.int (nI b))) := by rw [h]
theorem rI {a b : Int32} (h : a = b) : (Sum.inl (some (Value.int a)) : sm_O) = .inl (some (.int b)) := by rw [h]
theorem nI_neg {a k : Nat} (h : k ≤ a) : nI a + -nI k = nI (a - k) := by rw [← pk_sub h]; simp [Int32.sub_eq_add_neg]
theorem nI_m1 {a : Nat} (h : 1 ≤ a) : nI a + -1 = nI (a - 1) := by
  obtain ⟨b, rfl⟩ : ∃ b, a = b + 1 := ⟨a - 1, by omega⟩
  exact pk_m1 b
theorem sm_32 {K : Nat} (hK : K < 2 ^ 26) {n : Nat} (h : n ≤ K) : n < 2 ^ 31 := by omega
theorem wb_tb (n : Nat) : (lN n).toBitVec = BitVec.ofNat 64 n := rfl
theorem wb_inj {a b : Int64} (h : a.toBitVec = b.toBitVec) : a = b := Int64.toBitVec_inj.mp h
theorem wb_tn {n : Nat} (h : n < 2 ^ 64) : (lN n).toBitVec.toNat = n := by rw [wb_tb, BitVec.toNat_ofNat, Nat.mod_eq_of_lt h]
theorem wb_of (x : Int64) : ∃ n, n < 2 ^ 64 ∧ x = lN n := ⟨x.toBitVec.toNat, x.toBitVec.isLt, wb_inj (by rw [wb_tb]; simp)⟩
theorem wb_of32 (x : Int32) : ∃ n, n < 2 ^ 32 ∧ x = nI n := ⟨x.toBitVec.toNat, x.toBitVec.isLt, Int32.toBitVec_inj.mp (by show _ = BitVec.ofNat 32 _; simp)⟩
theorem wb_c : ∀ k, k < 64 → ((nI k).toInt64 &&& 63) = lN k := by decide +kernel
theorem wb_cu : ∀ k, k < 64 → ((nI k).toInt64.toUInt64 &&& Int64.toUInt64 63) = UInt64.ofNat k := by decide +kernel
theorem wb_sm : ∀ k, k < 64 → (BitVec.ofNat 64 k).smod 64 = BitVec.ofNat 64 k := by decide +kernel
theorem wb_pw {a b : Nat} (h : a ≤ b) : 2 ^ b = 2 ^ a * 2 ^ (b - a) := by rw [← Nat.pow_add]; congr 1; omega
theorem wb_lt2 {a b : Nat} (h : a < b) : 2 ^ a < 2 ^ b := Nat.pow_lt_pow_right (by decide) h
theorem wb_mod (n : Nat) : lN n = lN (n % 2 ^ 64) := wb_inj (by rw [wb_tb, wb_tb]; apply BitVec.eq_of_toNat_eq; rw [BitVec.toNat_ofNat, BitVec.toNat_ofNat, Nat.mod_mod])
theorem wb_shr {n k : Nat} (hn : n < 2 ^ 64) (hk : k < 64) : ((lN n).toUInt64 >>> ((nI k).toInt64.toUInt64 &&& Int64.toUInt64 63)).toInt64 = lN (n / 2 ^ k) := by
  rw [wb_cu k hk]
  apply wb_inj
  apply BitVec.eq_of_toNat_eq
  show ((lN n).toUInt64 >>> UInt64.ofNat k).toNat = (BitVec.ofNat 64 _).toNat
  have h1 : (UInt64.ofNat k).toNat = k := by
    show (BitVec.ofNat 64 k).toNat = k
    rw [BitVec.toNat_ofNat, Nat.mod_eq_of_lt (by omega)]
  have h2 : (lN n).toUInt64.toNat = n := wb_tn hn
  rw [UInt64.toNat_shiftRight, h1, h2, Nat.mod_eq_of_lt hk, Nat.shiftRight_eq_div_pow, BitVec.toNat_ofNat, Nat.mod_eq_of_lt (Nat.lt_of_le_of_lt (Nat.div_le_self _ _) hn)]
theorem gm_r_eq (x : Int64) : (x.toUInt64 >>> ((nI 33).toInt64.toUInt64 &&& Int64.toUInt64 63)).toInt64.toInt32 = nI (gm_r x) := by
  obtain ⟨n, hn, rfl⟩ := wb_of x
  rw [wb_shr hn (by decide), lN_i]
  unfold gm_r
  rw [wb_tn hn]
theorem gm_r_lt (x : Int64) : gm_r x < 2 ^ 31 := by unfold gm_r; have := x.toBitVec.isLt; omega
theorem up_ne {α : Type} {f : Nat → α} {k j : Nat} {v : α} (h : j ≠ k) : va_up f k v j = f j := by simp [va_up, h]
theorem up_eq {α : Type} {f : Nat → α} {k : Nat} {v : α} : va_up f k v k = v := by simp [va_up]
theorem sv_loop {M : sm_M} {R : Room} {Z : sm_Z} {cells slots pc : Nat} {lv : Nat → List (Nat × Value)} {hp : Nat → sm_H} {I : Nat → Prop} {N : Nat} (h0 : I 0) (he : I N → sm_V G M R Z cells slots pc (lv N) [] (hp N)) (hs : ∀ n, n < N → I n → (I (n + 1) → sm_V G M R Z cells slots pc (lv (n + 1)) [] (hp (n + 1))) → sm_V G M R Z cells slots pc (lv n) [] (hp n)) : sm_V G M R Z cells slots pc (lv 0) [] (hp 0) := by
  have key : ∀ k n, n + k = N → I n → sm_V G M R Z cells slots pc (lv n) [] (hp n) := by
    intro k
    induction k with
    | zero => intro n hn hI; have e : n = N := by omega
              subst e; exact he hI
    | succ k ih => intro n hn hI; exact hs n (by omega) hI (fun q => ih (n + 1) (by omega) q)
  exact key N 0 (by omega) h0
theorem up_up {α : Type} (f : Nat → α) (k : Nat) (v w : α) : va_up (va_up f k v) k w = va_up f k w := by funext j; unfold va_up; split <;> rfl
theorem up_id {α : Type} (f : Nat → α) (k : Nat) : va_up f k (f k) = f := by funext j; unfold va_up; split <;> simp_all
theorem sv_cut {M : sm_M} {R : Room} {Z : sm_Z} {cells slots pc c9 s9 p9 : Nat} {lv l9 : List (Nat × Value)} {st t9 : List Value} {h h9 : sm_H} (k : sm_V G M R Z c9 s9 p9 l9 t9 h9) (f : sm_V G M R Z c9 s9 p9 l9 t9 h9 → sm_V G M R Z cells slots pc lv st h) : sm_V G M R Z cells slots pc lv st h := f k
def gm_bki (S : gm_S) (q : Nat) : Int32 := if gm_bk S q = 3 then -1 else nI (gm_bk S q)
theorem c6_of {p w : Nat} (hw : 13 + 8 * p + w < 69) : sm_F G mX6_of 0 [.ref m, .int (nI p), .int (nI w)] (sm_om G h m F X (sm_as A S) L) (.inl (some (.int (nI (S (13 + 8 * p + w)))))) (sm_om G h m F X (sm_as A S) L) := by
  unfold sm_F sm_C
  show sm_V G _ _ _ 0 0 0 [(0, .ref m), (1, .int (nI p)), (2, .int (nI w))] [] _
  refine sv_aload_n dX6_of_0 rfl ?_
  refine rm_get1 rfl dX6_of_1 ?_
  refine sv_bipush (nI 13) dX6_of_4 (by decide) ?_
  refine sv_bipush (nI 8) dX6_of_6 (by decide) ?_
  refine sv_iload_n dX6_of_8 rfl ?_
  refine sv_imulN dX6_of_9 ?_
  refine sv_iaddN dX6_of_10 ?_
  refine sv_iload_n dX6_of_11 rfl ?_
  refine sv_iaddN dX6_of_12 ?_
  refine rm_ld1N dX6_of_13 (by omega) ?_
  refine sv_iret dX6_of_14 rfl rfl (Nat.le_refl _) (Nat.le_refl _) ?_
  exact ⟨rfl, rfl⟩
theorem c6_workersAt {q : Nat} (hq : q < 6) : sm_F G mX6_workersAt 0 [.ref m, .int (nI q)] (sm_om G h m F X (sm_as A S) L) (.inl (some (.int (nI (S (45 + 4 * q)))))) (sm_om G h m F X (sm_as A S) L) := by
  unfold sm_F sm_C
  show sm_V G _ _ _ 0 0 0 [(0, .ref m), (1, .int (nI q))] [] _
  refine sv_aload_n dX6_workersAt_0 rfl ?_
  refine rm_get1 rfl dX6_workersAt_1 ?_
  refine sv_bipush (nI 45) dX6_workersAt_4 (by decide) ?_
  refine sv_iconst (nI 4) dX6_workersAt_6 (by decide) ?_
  refine sv_iload_n dX6_workersAt_7 rfl ?_
  refine sv_imulN dX6_workersAt_8 ?_
  refine sv_iaddN dX6_workersAt_9 ?_
  refine rm_ld1N dX6_workersAt_10 (by omega) ?_
  refine sv_iret dX6_workersAt_11 rfl rfl (Nat.le_refl _) (Nat.le_refl _) ?_
  exact ⟨rfl, rfl⟩
theorem c6_ownerAt {q k : Nat} (hq : 45 + 4 * q + 1 + k < 69) : sm_F G mX6_ownerAt 0 [.ref m, .int (nI q), .int (nI k)] (sm_om G h m F X (sm_as A S) L) (.inl (some (.int (nI (S (45 + 4 * q + 1 + k)))))) (sm_om G h m F X (sm_as A S) L) := by
  unfold sm_F sm_C
  show sm_V G _ _ _ 0 0 0 [(0, .ref m), (1, .int (nI q)), (2, .int (nI k))] [] _
  refine sv_aload_n dX6_ownerAt_0 rfl ?_
  refine rm_get1 rfl dX6_ownerAt_1 ?_
  refine sv_bipush (nI 45) dX6_ownerAt_4 (by decide) ?_
  refine sv_iconst (nI 4) dX6_ownerAt_6 (by decide) ?_
  refine sv_iload_n dX6_ownerAt_7 rfl ?_
  refine sv_imulN dX6_ownerAt_8 ?_
  refine sv_iaddN dX6_ownerAt_9 ?_
  refine sv_iconst (nI 1) dX6_ownerAt_10 (by decide) ?_
  refine sv_iaddN dX6_ownerAt_11 ?_
  refine sv_iload_n dX6_ownerAt_12 rfl ?_
  refine sv_iaddN dX6_ownerAt_13 ?_
  refine rm_ld1N dX6_ownerAt_14 (by omega) ?_
  refine sv_iret dX6_ownerAt_15 rfl rfl (Nat.le_refl _) (Nat.le_refl _) ?_
  exact ⟨rfl, rfl⟩
theorem c6_adds {p w n : Nat} {v : Int32} (hw : 13 + 8 * p + w < 69) (hv : nI (S (13 + 8 * p + w)) + v = nI n) : sm_F G mX6_adds 0 [.ref m, .int (nI p), .int (nI w), .int v] (sm_om G h m F X (sm_as A S) L) (.inl none) (sm_om G h m F X (sm_as A (va_up S (13 + 8 * p + w) n)) L) := by
  unfold sm_F sm_C
  show sm_V G _ _ _ 0 0 0 [(0, .ref m), (1, .int (nI p)), (2, .int (nI w)), (3, .int v)] [] _
  refine sv_aload_n dX6_adds_0 rfl ?_
  refine rm_get1 rfl dX6_adds_1 ?_
  refine sv_bipush (nI 13) dX6_adds_4 (by decide) ?_
  refine sv_bipush (nI 8) dX6_adds_6 (by decide) ?_
  refine sv_iload_n dX6_adds_8 rfl ?_
  refine sv_imulN dX6_adds_9 ?_
  refine sv_iaddN dX6_adds_10 ?_
  refine sv_iload_n dX6_adds_11 rfl ?_
  refine sv_iaddN dX6_adds_12 ?_
  refine sv_dup2 dX6_adds_13 rfl rfl ?_
  refine rm_ld1N dX6_adds_14 (by omega) ?_
  refine sv_iload_n dX6_adds_15 rfl ?_
  refine sv_iadd dX6_adds_16 ?_
  refine sv_top (nI n) (hv) ?_
  refine rm_st1N dX6_adds_17 (by omega) ?_
  refine sv_vret dX6_adds_18 rfl (Nat.le_refl _) (Nat.le_refl _) ?_
  exact ⟨rfl, rfl⟩
theorem c6_in {a b c : Nat} (ha : a < 2 ^ 31) (hb : b < 2 ^ 31) (hc : c < 2 ^ 31) : sm_F G mX6_in 0 [.int (nI a), .int (nI b), .int (nI c)] h (.inl (some (.int (nI (b2n (decide (b ≤ a ∧ a ≤ c))))))) h := by
  unfold sm_F sm_C
  show sm_V G _ _ _ 0 0 0 [(0, .int (nI a)), (1, .int (nI b)), (2, .int (nI c))] [] _
  refine sv_iload_n dX6_in_0 rfl ?_
  refine sv_iload_n dX6_in_1 rfl ?_
  refine sv_icmpN_lt 14 dX6_in_2 (by decide) (by omega) (by omega) (fun c_2 => ?_) (fun c_2 => ?_)
  · refine sv_iconst (nI 0) dX6_in_14 (by decide) ?_
    refine sv_iret dX6_in_15 rfl rfl (Nat.le_refl _) (Nat.le_refl _) ?_
    first | exact ⟨rt1 (by omega), rfl⟩ | exact ⟨rf0 (by omega), rfl⟩
  · refine sv_iload_n dX6_in_5 rfl ?_
    refine sv_iload_n dX6_in_6 rfl ?_
    refine sv_icmpN_gt 14 dX6_in_7 (by decide) (by omega) (by omega) (fun c_7 => ?_) (fun c_7 => ?_)
    · refine sv_iconst (nI 0) dX6_in_14 (by decide) ?_
      refine sv_iret dX6_in_15 rfl rfl (Nat.le_refl _) (Nat.le_refl _) ?_
      first | exact ⟨rt1 (by omega), rfl⟩ | exact ⟨rf0 (by omega), rfl⟩
    · refine sv_iconst (nI 1) dX6_in_10 (by decide) ?_
      refine sv_goto 15 dX6_in_11 (by decide) ?_
      refine sv_iret dX6_in_15 rfl rfl (Nat.le_refl _) (Nat.le_refl _) ?_
      first | exact ⟨rt1 (by omega), rfl⟩ | exact ⟨rf0 (by omega), rfl⟩
theorem c6_fails {v : Int32} : sm_F G mX6_fails 0 [.ref m, .int v] (sm_om G h m F X (sm_as A S) L) (.inl (some (.int (nI 0)))) (sm_om G h m (va_up F 0 v) X (sm_as A S) L) := by
  unfold sm_F sm_C
  show sm_V G _ _ _ 0 0 0 [(0, .ref m), (1, .int v)] [] _
  refine sv_aload_n dX6_fails_0 rfl ?_
  refine sv_iload_n dX6_fails_1 rfl ?_
  refine rm_put0 rfl dX6_fails_2 ?_
  refine sv_iconst (nI 0) dX6_fails_5 (by decide) ?_
  refine sv_iret dX6_fails_6 rfl rfl (Nat.le_refl _) (Nat.le_refl _) ?_
  exact ⟨rfl, rfl⟩
theorem c6_thrown  : sm_F G mX6_thrown 0 [.ref m] (sm_om G h m F X (sm_as A S) L) (.inl (some (.int (F 0)))) (sm_om G h m F X (sm_as A S) L) := by
  unfold sm_F sm_C
  show sm_V G _ _ _ 0 0 0 [(0, .ref m)] [] _
  refine sv_aload_n dX6_thrown_0 rfl ?_
  refine rm_get0 rfl dX6_thrown_1 ?_
  refine sv_iret dX6_thrown_4 rfl rfl (Nat.le_refl _) (Nat.le_refl _) ?_
  exact ⟨rfl, rfl⟩
theorem c6_isPlayer {p : Nat} (hp : p < 2 ^ 31) (h3 : S 3 < 2 ^ 31) (h31 : 1 ≤ S 3) : sm_F G mX6_isPlayer 1 [.ref m, .int (nI p)] (sm_om G h m F X (sm_as A S) L) (.inl (some (.int (nI (b2n (decide (p < S 3))))))) (sm_om G h m F X (sm_as A S) L) := by
  unfold sm_F sm_C
  show sm_V G _ _ _ 0 0 0 [(0, .ref m), (1, .int (nI p))] [] _
  refine sv_iload_n dX6_isPlayer_0 rfl ?_
  refine sv_iconst (nI 0) dX6_isPlayer_1 (by decide) ?_
  refine sv_aload_n dX6_isPlayer_2 rfl ?_
  refine rm_get1 rfl dX6_isPlayer_3 ?_
  refine sv_iconst (nI 3) dX6_isPlayer_6 (by decide) ?_
  refine rm_ld1N dX6_isPlayer_7 (by omega) ?_
  refine sv_iconst (nI 1) dX6_isPlayer_8 (by decide) ?_
  refine sv_isubN dX6_isPlayer_9 (by omega) ?_
  refine sv_callS (As := [_, _, _]) sc_X6_53 (c6_in (by omega) (by omega) (by omega)) rfl rfl (Nat.le_of_ble_eq_true rfl) dX6_isPlayer_10 ⟨by decide, by decide⟩ ⟨Nat.le_refl _, Nat.le_refl _⟩ (Nat.le_of_ble_eq_true rfl) ?_
  refine sv_iret dX6_isPlayer_13 rfl (nar_b (b2n_lt _)) (Nat.le_refl _) (Nat.le_refl _) ?_
  exact ⟨by rw [show decide (p < S 3) = decide (0 ≤ p ∧ p ≤ S 3 - 1) from by congr 1; apply propext; omega], rfl⟩
theorem c6_isOn (h3 : S 3 < 2 ^ 31) (h6 : S 6 < 2 ^ 31) (h0 : S 0 < 2 ^ 31) : sm_F G mX6_isOn 0 [.ref m] (sm_om G h m F X (sm_as A S) L) (.inl (some (.int (nI (b2n (gm_on S)))))) (sm_om G h m F X (sm_as A S) L) := by
  unfold sm_F sm_C
  show sm_V G _ _ _ 0 0 0 [(0, .ref m)] [] _
  refine sv_aload_n dX6_isOn_0 rfl ?_
  refine rm_get1 rfl dX6_isOn_1 ?_
  refine sv_iconst (nI 3) dX6_isOn_4 (by decide) ?_
  refine rm_ld1N dX6_isOn_5 (by omega) ?_
  refine sv_ifN_le 29 dX6_isOn_6 (by decide) (by omega) (fun c_6 => ?_) (fun c_6 => ?_)
  · refine sv_iconst (nI 0) dX6_isOn_29 (by decide) ?_
    refine sv_iret dX6_isOn_30 rfl rfl (Nat.le_refl _) (Nat.le_refl _) ?_
    first | exact ⟨rt1 (by omega), rfl⟩ | exact ⟨rf0 (by omega), rfl⟩
  · refine sv_aload_n dX6_isOn_9 rfl ?_
    refine rm_get1 rfl dX6_isOn_10 ?_
    refine sv_bipush (nI 6) dX6_isOn_13 (by decide) ?_
    refine rm_ld1N dX6_isOn_15 (by omega) ?_
    refine sv_aload_n dX6_isOn_16 rfl ?_
    refine rm_get1 rfl dX6_isOn_17 ?_
    refine sv_iconst (nI 0) dX6_isOn_20 (by decide) ?_
    refine rm_ld1N dX6_isOn_21 (by omega) ?_
    refine sv_icmpN_ge 29 dX6_isOn_22 (by decide) (by omega) (by omega) (fun c_22 => ?_) (fun c_22 => ?_)
    · refine sv_iconst (nI 0) dX6_isOn_29 (by decide) ?_
      refine sv_iret dX6_isOn_30 rfl rfl (Nat.le_refl _) (Nat.le_refl _) ?_
      first | exact ⟨rt1 (by omega), rfl⟩ | exact ⟨rf0 (by omega), rfl⟩
    · refine sv_iconst (nI 1) dX6_isOn_25 (by decide) ?_
      refine sv_goto 30 dX6_isOn_26 (by decide) ?_
      refine sv_iret dX6_isOn_30 rfl rfl (Nat.le_refl _) (Nat.le_refl _) ?_
      first | exact ⟨rt1 (by omega), rfl⟩ | exact ⟨rf0 (by omega), rfl⟩
theorem c6_total {p : Nat} (hp : p < 4) : sm_F G mX6_total 1 [.ref m, .int (nI p)] (sm_om G h m F X (sm_as A S) L) (.inl (some (.int (nI (gm_tot S p))))) (sm_om G h m F X (sm_as A S) L) := by
  unfold sm_F sm_C
  show sm_V G _ _ _ 0 0 0 [(0, .ref m), (1, .int (nI p))] [] _
  refine sv_aload_n dX6_total_0 rfl ?_
  refine sv_iload_n dX6_total_1 rfl ?_
  refine sv_iconst (nI 0) dX6_total_2 (by decide) ?_
  refine sv_callV (As := [_, _]) sc_X6_78 (c6_of (by omega)) rfl rfl (Nat.le_of_ble_eq_true rfl) dX6_total_3 ⟨by decide, by decide⟩ ⟨Nat.le_refl _, Nat.le_refl _⟩ (Nat.le_of_ble_eq_true rfl) om_0 (List.cons_ne_nil _ _) rfl ?_
  refine sv_aload_n dX6_total_6 rfl ?_
  refine sv_iload_n dX6_total_7 rfl ?_
  refine sv_iconst (nI 1) dX6_total_8 (by decide) ?_
  refine sv_callV (As := [_, _]) sc_X6_78 (c6_of (by omega)) rfl rfl (Nat.le_of_ble_eq_true rfl) dX6_total_9 ⟨by decide, by decide⟩ ⟨Nat.le_refl _, Nat.le_refl _⟩ (Nat.le_of_ble_eq_true rfl) om_0 (List.cons_ne_nil _ _) rfl ?_
  refine sv_iaddN dX6_total_12 ?_
  refine sv_aload_n dX6_total_13 rfl ?_
  refine sv_iload_n dX6_total_14 rfl ?_
  refine sv_iconst (nI 2) dX6_total_15 (by decide) ?_
  refine sv_callV (As := [_, _]) sc_X6_78 (c6_of (by omega)) rfl rfl (Nat.le_of_ble_eq_true rfl) dX6_total_16 ⟨by decide, by decide⟩ ⟨Nat.le_refl _, Nat.le_refl _⟩ (Nat.le_of_ble_eq_true rfl) om_0 (List.cons_ne_nil _ _) rfl ?_
  refine sv_iaddN dX6_total_19 ?_
  refine sv_iconst (nI 2) dX6_total_20 (by decide) ?_
  refine sv_aload_n dX6_total_21 rfl ?_
  refine sv_iload_n dX6_total_22 rfl ?_
  refine sv_iconst (nI 3) dX6_total_23 (by decide) ?_
  refine sv_callV (As := [_, _]) sc_X6_78 (c6_of (by omega)) rfl rfl (Nat.le_of_ble_eq_true rfl) dX6_total_24 ⟨by decide, by decide⟩ ⟨Nat.le_refl _, Nat.le_refl _⟩ (Nat.le_of_ble_eq_true rfl) om_0 (List.cons_ne_nil _ _) rfl ?_
  refine sv_imulN dX6_total_27 ?_
  refine sv_iaddN dX6_total_28 ?_
  refine sv_iconst (nI 3) dX6_total_29 (by decide) ?_
  refine sv_aload_n dX6_total_30 rfl ?_
  refine sv_iload_n dX6_total_31 rfl ?_
  refine sv_iconst (nI 5) dX6_total_32 (by decide) ?_
  refine sv_callV (As := [_, _]) sc_X6_78 (c6_of (by omega)) rfl rfl (Nat.le_of_ble_eq_true rfl) dX6_total_33 ⟨by decide, by decide⟩ ⟨Nat.le_refl _, Nat.le_refl _⟩ (Nat.le_of_ble_eq_true rfl) om_0 (List.cons_ne_nil _ _) rfl ?_
  refine sv_imulN dX6_total_36 ?_
  refine sv_iaddN dX6_total_37 ?_
  refine sv_iret dX6_total_38 rfl rfl (Nat.le_refl _) (Nat.le_refl _) ?_
  exact ⟨rfl, rfl⟩
theorem c6_isFull {q : Nat} (hq : q < 6) (hw : S (45 + 4 * q) < 2 ^ 31) (h2 : S 2 < 2 ^ 31) : sm_F G mX6_isFull 1 [.ref m, .int (nI q)] (sm_om G h m F X (sm_as A S) L) (.inl (some (.int (nI (b2n (gm_full S q)))))) (sm_om G h m F X (sm_as A S) L) := by
  unfold sm_F sm_C
  show sm_V G _ _ _ 0 0 0 [(0, .ref m), (1, .int (nI q))] [] _
  refine sv_aload_n dX6_isFull_0 rfl ?_
  refine sv_iload_n dX6_isFull_1 rfl ?_
  refine sv_callV (As := [_]) sc_X6_99 (c6_workersAt (by omega)) rfl rfl (Nat.le_of_ble_eq_true rfl) dX6_isFull_2 ⟨by decide, by decide⟩ ⟨Nat.le_refl _, Nat.le_refl _⟩ (Nat.le_of_ble_eq_true rfl) om_0 (List.cons_ne_nil _ _) rfl ?_
  refine sv_aload_n dX6_isFull_5 rfl ?_
  refine rm_get1 rfl dX6_isFull_6 ?_
  refine sv_iconst (nI 2) dX6_isFull_9 (by decide) ?_
  refine rm_ld1N dX6_isFull_10 (by omega) ?_
  refine sv_icmpN_lt 18 dX6_isFull_11 (by decide) (by omega) (by omega) (fun c_11 => ?_) (fun c_11 => ?_)
  · refine sv_iconst (nI 0) dX6_isFull_18 (by decide) ?_
    refine sv_iret dX6_isFull_19 rfl rfl (Nat.le_refl _) (Nat.le_refl _) ?_
    first | exact ⟨rt1 (by omega), rfl⟩ | exact ⟨rf0 (by omega), rfl⟩
  · refine sv_iconst (nI 1) dX6_isFull_14 (by decide) ?_
    refine sv_goto 19 dX6_isFull_15 (by decide) ?_
    refine sv_iret dX6_isFull_19 rfl rfl (Nat.le_refl _) (Nat.le_refl _) ?_
    first | exact ⟨rt1 (by omega), rfl⟩ | exact ⟨rf0 (by omega), rfl⟩
theorem c6_bumpedAt {q : Nat} (hq : q < 6) (hw : S (45 + 4 * q) ≤ 3) (h4 : S 4 < 2 ^ 31) (ho : ∀ k, k < S (45 + 4 * q) → S (45 + 4 * q + 1 + k) < 2 ^ 31) : sm_F G mX6_bumpedAt 1 [.ref m, .int (nI q)] (sm_om G h m F X (sm_as A S) L) (.inl (some (.int (gm_bki S q)))) (sm_om G h m F X (sm_as A S) L) := by
  unfold sm_F sm_C
  show sm_V G _ _ _ 0 0 0 [(0, .ref m), (1, .int (nI q))] [] _
  refine sv_iconst (nI 0) dX6_bumpedAt_0 (by decide) ?_
  refine sv_istore_n (lv' := [(2, _), (0, _), (1, _)]) dX6_bumpedAt_1 (by decide) rfl ?_
  refine sv_iload_n dX6_bumpedAt_2 rfl ?_
  refine sv_aload_n dX6_bumpedAt_3 rfl ?_
  refine sv_iload_n dX6_bumpedAt_4 rfl ?_
  refine sv_callV (As := [_]) sc_X6_99 (c6_workersAt (by omega)) rfl rfl (Nat.le_of_ble_eq_true rfl) dX6_bumpedAt_5 ⟨by decide, by decide⟩ ⟨Nat.le_refl _, Nat.le_refl _⟩ (Nat.le_of_ble_eq_true rfl) om_0 (List.cons_ne_nil _ _) rfl ?_
  refine sv_icmpN_ge 34 dX6_bumpedAt_8 (by decide) (by omega) (by omega) (fun c_8 => ?_) (fun c_8 => ?_)
  · refine sv_iconst (-1) dX6_bumpedAt_34 (by decide) ?_
    refine sv_iret dX6_bumpedAt_35 rfl rfl (Nat.le_refl _) (Nat.le_refl _) ?_
    have e : gm_bk S q = 3 := by unfold gm_bk; (repeat' split) <;> omega
    exact ⟨by rw [gm_bki, e]; rfl, rfl⟩
  · refine sv_aload_n dX6_bumpedAt_11 rfl ?_
    refine sv_iload_n dX6_bumpedAt_12 rfl ?_
    refine sv_iload_n dX6_bumpedAt_13 rfl ?_
    refine sv_callV (As := [_, _]) sc_X6_103 (c6_ownerAt (by omega)) rfl rfl (Nat.le_of_ble_eq_true rfl) dX6_bumpedAt_14 ⟨by decide, by decide⟩ ⟨Nat.le_refl _, Nat.le_refl _⟩ (Nat.le_of_ble_eq_true rfl) om_0 (List.cons_ne_nil _ _) rfl ?_
    have o_0 := ho 0 (by omega)
    refine sv_aload_n dX6_bumpedAt_17 rfl ?_
    refine rm_get1 rfl dX6_bumpedAt_18 ?_
    refine sv_iconst (nI 4) dX6_bumpedAt_21 (by decide) ?_
    refine rm_ld1N dX6_bumpedAt_22 (by omega) ?_
    refine sv_icmpN_eq 28 dX6_bumpedAt_23 (by decide) (by omega) (by omega) (fun c_23 => ?_) (fun c_23 => ?_)
    · refine sv_iinc (lv' := [(2, _), (0, _), (1, _)]) (nI 1) dX6_bumpedAt_28 rfl (by decide) (by decide) rfl ?_
      refine sv_goto 2 dX6_bumpedAt_31 (by decide) ?_
      refine sv_iload_n dX6_bumpedAt_2 rfl ?_
      refine sv_aload_n dX6_bumpedAt_3 rfl ?_
      refine sv_iload_n dX6_bumpedAt_4 rfl ?_
      refine sv_callV (As := [_]) sc_X6_99 (c6_workersAt (by omega)) rfl rfl (Nat.le_of_ble_eq_true rfl) dX6_bumpedAt_5 ⟨by decide, by decide⟩ ⟨Nat.le_refl _, Nat.le_refl _⟩ (Nat.le_of_ble_eq_true rfl) om_0 (List.cons_ne_nil _ _) rfl ?_
      refine sv_icmpN_ge 34 dX6_bumpedAt_8 (by decide) (by omega) (by omega) (fun c_8 => ?_) (fun c_8 => ?_)
      · refine sv_iconst (-1) dX6_bumpedAt_34 (by decide) ?_
        refine sv_iret dX6_bumpedAt_35 rfl rfl (Nat.le_refl _) (Nat.le_refl _) ?_
        have e : gm_bk S q = 3 := by unfold gm_bk; (repeat' split) <;> omega
        exact ⟨by rw [gm_bki, e]; rfl, rfl⟩
      · refine sv_aload_n dX6_bumpedAt_11 rfl ?_
        refine sv_iload_n dX6_bumpedAt_12 rfl ?_
        refine sv_iload_n dX6_bumpedAt_13 rfl ?_
        refine sv_callV (As := [_, _]) sc_X6_103 (c6_ownerAt (by omega)) rfl rfl (Nat.le_of_ble_eq_true rfl) dX6_bumpedAt_14 ⟨by decide, by decide⟩ ⟨Nat.le_refl _, Nat.le_refl _⟩ (Nat.le_of_ble_eq_true rfl) om_0 (List.cons_ne_nil _ _) rfl ?_
        have o_1 := ho 1 (by omega)
        refine sv_aload_n dX6_bumpedAt_17 rfl ?_
        refine rm_get1 rfl dX6_bumpedAt_18 ?_
        refine sv_iconst (nI 4) dX6_bumpedAt_21 (by decide) ?_
        refine rm_ld1N dX6_bumpedAt_22 (by omega) ?_
        refine sv_icmpN_eq 28 dX6_bumpedAt_23 (by decide) (by omega) (by omega) (fun c_23 => ?_) (fun c_23 => ?_)
        · refine sv_iinc (lv' := [(2, _), (0, _), (1, _)]) (nI 2) dX6_bumpedAt_28 rfl (by decide) (by decide) rfl ?_
          refine sv_goto 2 dX6_bumpedAt_31 (by decide) ?_
          refine sv_iload_n dX6_bumpedAt_2 rfl ?_
          refine sv_aload_n dX6_bumpedAt_3 rfl ?_
          refine sv_iload_n dX6_bumpedAt_4 rfl ?_
          refine sv_callV (As := [_]) sc_X6_99 (c6_workersAt (by omega)) rfl rfl (Nat.le_of_ble_eq_true rfl) dX6_bumpedAt_5 ⟨by decide, by decide⟩ ⟨Nat.le_refl _, Nat.le_refl _⟩ (Nat.le_of_ble_eq_true rfl) om_0 (List.cons_ne_nil _ _) rfl ?_
          refine sv_icmpN_ge 34 dX6_bumpedAt_8 (by decide) (by omega) (by omega) (fun c_8 => ?_) (fun c_8 => ?_)
          · refine sv_iconst (-1) dX6_bumpedAt_34 (by decide) ?_
            refine sv_iret dX6_bumpedAt_35 rfl rfl (Nat.le_refl _) (Nat.le_refl _) ?_
            have e : gm_bk S q = 3 := by unfold gm_bk; (repeat' split) <;> omega
            exact ⟨by rw [gm_bki, e]; rfl, rfl⟩
          · refine sv_aload_n dX6_bumpedAt_11 rfl ?_
            refine sv_iload_n dX6_bumpedAt_12 rfl ?_
            refine sv_iload_n dX6_bumpedAt_13 rfl ?_
            refine sv_callV (As := [_, _]) sc_X6_103 (c6_ownerAt (by omega)) rfl rfl (Nat.le_of_ble_eq_true rfl) dX6_bumpedAt_14 ⟨by decide, by decide⟩ ⟨Nat.le_refl _, Nat.le_refl _⟩ (Nat.le_of_ble_eq_true rfl) om_0 (List.cons_ne_nil _ _) rfl ?_
            have o_2 := ho 2 (by omega)
            refine sv_aload_n dX6_bumpedAt_17 rfl ?_
            refine rm_get1 rfl dX6_bumpedAt_18 ?_
            refine sv_iconst (nI 4) dX6_bumpedAt_21 (by decide) ?_
            refine rm_ld1N dX6_bumpedAt_22 (by omega) ?_
            refine sv_icmpN_eq 28 dX6_bumpedAt_23 (by decide) (by omega) (by omega) (fun c_23 => ?_) (fun c_23 => ?_)
            · refine sv_iinc (lv' := [(2, _), (0, _), (1, _)]) (nI 3) dX6_bumpedAt_28 rfl (by decide) (by decide) rfl ?_
              refine sv_goto 2 dX6_bumpedAt_31 (by decide) ?_
              refine sv_iload_n dX6_bumpedAt_2 rfl ?_
              refine sv_aload_n dX6_bumpedAt_3 rfl ?_
              refine sv_iload_n dX6_bumpedAt_4 rfl ?_
              refine sv_callV (As := [_]) sc_X6_99 (c6_workersAt (by omega)) rfl rfl (Nat.le_of_ble_eq_true rfl) dX6_bumpedAt_5 ⟨by decide, by decide⟩ ⟨Nat.le_refl _, Nat.le_refl _⟩ (Nat.le_of_ble_eq_true rfl) om_0 (List.cons_ne_nil _ _) rfl ?_
              refine sv_icmpN_ge 34 dX6_bumpedAt_8 (by decide) (by omega) (by omega) (fun c_8 => ?_) (fun c_8 => absurd c_8 (by omega))
              refine sv_iconst (-1) dX6_bumpedAt_34 (by decide) ?_
              refine sv_iret dX6_bumpedAt_35 rfl rfl (Nat.le_refl _) (Nat.le_refl _) ?_
              have e : gm_bk S q = 3 := by unfold gm_bk; (repeat' split) <;> omega
              exact ⟨by rw [gm_bki, e]; rfl, rfl⟩
            · refine sv_iload_n dX6_bumpedAt_26 rfl ?_
              refine sv_iret dX6_bumpedAt_27 rfl rfl (Nat.le_refl _) (Nat.le_refl _) ?_
              have e : gm_bk S q = 2 := by unfold gm_bk; (repeat' split) <;> omega
              exact ⟨by rw [gm_bki, e]; rfl, rfl⟩
        · refine sv_iload_n dX6_bumpedAt_26 rfl ?_
          refine sv_iret dX6_bumpedAt_27 rfl rfl (Nat.le_refl _) (Nat.le_refl _) ?_
          have e : gm_bk S q = 1 := by unfold gm_bk; (repeat' split) <;> omega
          exact ⟨by rw [gm_bki, e]; rfl, rfl⟩
    · refine sv_iload_n dX6_bumpedAt_26 rfl ?_
      refine sv_iret dX6_bumpedAt_27 rfl rfl (Nat.le_refl _) (Nat.le_refl _) ?_
      have e : gm_bk S q = 0 := by unfold gm_bk; (repeat' split) <;> omega
      exact ⟨by rw [gm_bki, e]; rfl, rfl⟩
theorem c6_next {x : Int64} : sm_F G mX6_next 0 [.long x] h (.inl (some (.long (gm_nx x)))) h := by
  unfold sm_F sm_C
  show sm_V G _ _ _ 0 0 0 [(0, .long x)] [] _
  refine sv_lload_n dX6_next_0 rfl ?_
  refine sv_ldc2 dX6_next_1 (sm_tc ck_4_7_in 9 rfl rfl) ?_
  refine sv_lmul dX6_next_4 ?_
  refine sv_ldc2 dX6_next_5 (sm_tc ck_4_7_in 10 rfl rfl) ?_
  refine sv_ladd dX6_next_8 ?_
  refine sv_lret dX6_next_9 rfl (Nat.le_refl _) (Nat.le_refl _) ?_
  exact ⟨rfl, rfl⟩
theorem c6_die {x : Int64} : sm_F G mX6_die 0 [.long x] h (.inl (some (.int (nI (gm_die x))))) h := by
  unfold sm_F sm_C
  show sm_V G _ _ _ 0 0 0 [(0, .long x)] [] _
  refine sv_iconst (nI 1) dX6_die_0 (by decide) ?_
  refine sv_lload_n dX6_die_1 rfl ?_
  refine sv_bipush (nI 33) dX6_die_2 (by decide) ?_
  refine sv_lushr dX6_die_4 ?_
  refine sv_l2i dX6_die_5 ?_
  refine sv_top (nI (gm_r x)) (gm_r_eq x) ?_
  refine sv_bipush (nI 6) dX6_die_6 (by decide) ?_
  refine sv_iremN dX6_die_8 (by have := gm_r_lt x; omega) (by have := gm_r_lt x; omega) (by have := gm_r_lt x; omega) ?_
  refine sv_iaddN dX6_die_9 ?_
  refine sv_iret dX6_die_10 rfl rfl (Nat.le_refl _) (Nat.le_refl _) ?_
  exact ⟨rfl, rfl⟩
theorem c6_throwsDie  : sm_F G mX6_throwsDie 1 [.ref m] (sm_om G h m F X (sm_as A S) L) (.inl none) (sm_om G h m F (va_up X 2 (gm_nx (X 2))) (sm_as A (va_up S 5 (gm_die (gm_nx (X 2))))) L) := by
  unfold sm_F sm_C
  show sm_V G _ _ _ 0 0 0 [(0, .ref m)] [] _
  refine sv_aload_n dX6_throwsDie_0 rfl ?_
  refine sv_aload_n dX6_throwsDie_1 rfl ?_
  refine rm_get2 rfl dX6_throwsDie_2 ?_
  refine sv_callS (As := [_]) sc_X6_70 (c6_next) rfl rfl (Nat.le_of_ble_eq_true rfl) dX6_throwsDie_5 ⟨by decide, by decide⟩ ⟨Nat.le_refl _, Nat.le_refl _⟩ (Nat.le_of_ble_eq_true rfl) ?_
  refine rm_put2 rfl dX6_throwsDie_8 ?_
  refine sv_aload_n dX6_throwsDie_11 rfl ?_
  refine rm_get1 rfl dX6_throwsDie_12 ?_
  refine sv_iconst (nI 5) dX6_throwsDie_15 (by decide) ?_
  refine sv_aload_n dX6_throwsDie_16 rfl ?_
  refine rm_get2 rfl dX6_throwsDie_17 ?_
  refine sv_topl (gm_nx (X 2)) (up_eq) ?_
  refine sv_callS (As := [_]) sc_X6_74 (c6_die) rfl rfl (Nat.le_of_ble_eq_true rfl) dX6_throwsDie_20 ⟨by decide, by decide⟩ ⟨Nat.le_refl _, Nat.le_refl _⟩ (Nat.le_of_ble_eq_true rfl) ?_
  refine rm_st1N dX6_throwsDie_23 (by omega) ?_
  refine sv_vret dX6_throwsDie_24 rfl (Nat.le_refl _) (Nat.le_refl _) ?_
  exact ⟨rfl, rfl⟩
end SR1
