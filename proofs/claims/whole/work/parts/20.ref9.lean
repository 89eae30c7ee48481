section SR9
variable {G : sm_G} {h : sm_H} {m : Nat} {F : Nat → Int32} {X : Nat → Int64} {A : Nat → Nat → Int32} {L : Nat → Nat → Int64} {S : Nat → Nat} {K : Nat}
/-- an int as a number -/
def i2 (x : Int32) : Nat := x.toInt.toNat
theorem i2_nI {k : Nat} (h : k < 2 ^ 31) : i2 (nI k) = k := by unfold i2; rw [nI_toInt h]; rfl
def gm_in (a x b : Int32) : Bool := decide (a ≤ x ∧ x ≤ b)
theorem gm_in_k {a b : Nat} {x : Int32} (ha : a < 2 ^ 31) (hb : b < 2 ^ 31) (h : gm_in (nI a) x (nI b) = true) : ∃ k, x = nI k ∧ a ≤ k ∧ k ≤ b := by
  obtain ⟨h1, h2⟩ := of_decide_eq_true h
  rw [Int32.le_iff_toInt_le, nI_toInt ha] at h1
  rw [Int32.le_iff_toInt_le, nI_toInt hb] at h2
  have e : x = nI x.toInt.toNat := Int32.toInt_inj.mp (by rw [nI_toInt (by omega)]; omega)
  exact ⟨x.toInt.toNat, e, by omega, by omega⟩
theorem gm_in_n {a b k : Nat} (ha : a < 2 ^ 31) (hb : b < 2 ^ 31) (hk : k < 2 ^ 31) : gm_in (nI a) (nI k) (nI b) = decide (a ≤ k ∧ k ≤ b) := by
  simp only [gm_in, nI_leI ha hk, nI_leI hk hb]
theorem api_l {ans : Int32 × Int32} {c v : Int32} {F' : Nat → Int32} (e : ans = (c, v)) (eF : F' = va_up F 0 c) : (Sum.inl (some (Value.int v)) : sm_O) = .inl (some (.int ans.2)) ∧ sm_om G h m F' X (sm_as A S) L = sm_om G h m (va_up F 0 ans.1) X (sm_as A S) L := by
  subst e; subst eF; exact ⟨rfl, rfl⟩
/-! what is asked of a game -/
def gm_atp (S : gm_S) : Nat := S 45 + S 49 + S 53 + S 57 + S 61 + S 65
def gm_atn (S : gm_S) : Nat → Nat
  | 0 => 0
  | n + 1 => gm_atn S n + S (45 + 4 * n)
theorem gm_atn_6 (S : gm_S) : gm_atn S 6 = gm_atp S := by simp [gm_atn, gm_atp]
def gm_tls (S : gm_S) (k : Nat) : Int32 := if k = 1 then (if gm_on S = true then nI (S 4) else -1) else if k = 2 then nI (S 5) else if k = 3 then nI (S 6) else if k = 4 then nI (if gm_on S = true then 0 else 1) else if k = 8 then nI (S 10) else if k = 9 then nI (gm_atp S) else if k = 10 then nI (S 11) else if k = 11 then nI (S 12) else nI (S (7 + k - 5))
def gm_abo (S : gm_S) (k : Nat) : Int32 := if k = 0 ∨ S 3 = 0 then nI (S 3) else gm_tls S k
def an_about (S : gm_S) (w : Int32) : Int32 × Int32 := if gm_in (nI 0) w (nI 11) = true then (nI 0, gm_abo S (i2 w)) else (nI 1, nI 0)
def gm_pla (S : gm_S) (p k : Nat) : Nat := if k = 8 then gm_tot S p else S (13 + 8 * p + k)
def an_player (S : gm_S) (p w : Int32) : Int32 × Int32 := if S 3 ≠ 0 ∧ gm_in (nI 0) p (nI (S 3 - 1)) = true then (if gm_in (nI 0) w (nI 8) = true then (nI 0, nI (gm_pla S (i2 p) (i2 w))) else (nI 2, nI 0)) else (nI 1, nI 0)
def an_worker (S : gm_S) (q k : Int32) : Int32 × Int32 := if gm_in (nI 0) q (nI 5) = true then (if 0 ≤ k then (nI 0, if k < nI (S (45 + 4 * i2 q)) then nI (S (45 + 4 * i2 q + 1 + i2 k)) else -1) else (nI 2, nI 0)) else (nI 1, nI 0)
def an_setting (S : gm_S) (w : Int32) : Int32 × Int32 := if gm_in (nI 0) w (nI 2) = true then (nI 0, nI (S (i2 w))) else (nI 1, nI 0)
theorem c6_inG {a : Int32} {b c : Nat} : sm_F G mX6_in 0 [.int a, .int (nI b), .int (nI c)] h (.inl (some (.int (nI (b2n (gm_in (nI b) a (nI c))))))) h := c6_inR
theorem b2n_T {b : Bool} (h : ¬ b2n b = 0) : b = true := b2n_1 h
theorem b2n_F {b : Bool} (h : ¬ b2n b ≠ 0) : b = false := b2n_f (Classical.not_not.mp h)
theorem ne_t {b : Bool} (h : b = false) : ¬ b = true := by rw [h]; decide
theorem c6_atPlaces  : sm_F G mX6_atPlaces 1 [.ref m] (sm_om G h m F X (sm_as A S) L) (.inl (some (.int (nI (gm_atp S))))) (sm_om G h m F X (sm_as A S) L) := by
  unfold sm_F sm_C
  show sm_V G _ _ _ 0 0 0 [(0, .ref m)] [] _
  refine sv_iconst (nI 0) dX6_atPlaces_0 (by decide) ?_
  refine sv_istore_n (lv' := [(1, _), (0, _)]) dX6_atPlaces_1 (by decide) rfl ?_
  refine sv_iconst (nI 0) dX6_atPlaces_2 (by decide) ?_
  refine sv_istore_n (lv' := [(2, _), (1, _), (0, _)]) dX6_atPlaces_3 (by decide) rfl ?_
  refine sv_sub [0, 1, 2] rfl (sv_loop (pc := 4) (lv := fun n => [(2, .int (nI n)), (1, .int (nI (gm_atn S n))), (0, .ref m)]) (hp := fun n => (sm_om G h m F X (sm_as A S) L)) (I := fun n => True) (N := 6) (trivial) ?_ ?_)
  · intro hI
    show sm_V G _ _ _ _ _ _ [(2, .int (nI 6)), (1, .int (nI (gm_atn S 6))), (0, .ref m)] [] (sm_om G h m F X (sm_as A S) L)
    refine sv_iload_n dX6_atPlaces_4 rfl ?_
    refine sv_bipush (nI 6) dX6_atPlaces_5 (by decide) ?_
    refine sv_icmpN_ge 24 dX6_atPlaces_7 (by decide) (by omega) (by omega) (fun c_7 => ?_) (fun c_7 => absurd c_7 (by omega))
    refine sv_iload_n dX6_atPlaces_24 rfl ?_
    refine sv_iret dX6_atPlaces_25 rfl rfl (Nat.le_refl _) (Nat.le_refl _) ?_
    exact ⟨ri (gm_atn_6 S), rfl⟩
  · intro n hn hI ih
    show sm_V G _ _ _ _ _ _ [(2, .int (nI n)), (1, .int (nI (gm_atn S n))), (0, .ref m)] [] (sm_om G h m F X (sm_as A S) L)
    refine sv_iload_n dX6_atPlaces_4 rfl ?_
    refine sv_bipush (nI 6) dX6_atPlaces_5 (by decide) ?_
    refine sv_icmpN_ge 24 dX6_atPlaces_7 (by decide) (by omega) (by omega) (fun c_7 => absurd c_7 (by omega)) (fun c_7 => ?_)
    refine sv_iload_n dX6_atPlaces_10 rfl ?_
    refine sv_aload_n dX6_atPlaces_11 rfl ?_
    refine sv_iload_n dX6_atPlaces_12 rfl ?_
    refine sv_callV (As := [_]) sc_X6_99 (c6_workersAt (by omega)) rfl rfl (Nat.le_of_ble_eq_true rfl) dX6_atPlaces_13 ⟨by decide, by decide⟩ ⟨Nat.le_refl _, Nat.le_refl _⟩ (Nat.le_of_ble_eq_true rfl) om_0 (List.cons_ne_nil _ _) rfl ?_
    refine sv_iaddN dX6_atPlaces_16 ?_
    refine sv_istore_n (lv' := [(1, _), (2, _), (0, _)]) dX6_atPlaces_17 (by decide) rfl ?_
    refine sv_iinc1 (lv' := [(2, _), (1, _), (0, _)]) dX6_atPlaces_18 rfl (by decide) rfl ?_
    refine sv_goto 4 dX6_atPlaces_21 (by decide) ?_
    exact sv_sub [0, 1, 2] rfl (ih trivial)
theorem c6_tells {k : Nat} (hI : gm_I K S) (hk : 1 ≤ k) (hk2 : k ≤ 11) : sm_F G mX6_tells 2 [.ref m, .int (nI k)] (sm_om G h m F X (sm_as A S) L) (.inl (some (.int (gm_tls S k)))) (sm_om G h m F X (sm_as A S) L) := by
  unfold sm_F sm_C
  show sm_V G _ _ _ 0 0 0 [(0, .ref m), (1, .int (nI k))] [] _
  have b3 := hI.2.1 3 (by omega) (by omega); have b6 := hI.2.1 6 (by omega) (by omega); have b0 := hI.2.1 0 (by omega) (by omega); have bK := hI.2.2.1
  refine sv_iload_n dX6_tells_0 rfl ?_
  rcases (show k = 1 ∨ k = 2 ∨ k = 3 ∨ k = 4 ∨ k = 5 ∨ k = 6 ∨ k = 7 ∨ k = 8 ∨ k = 9 ∨ k = 10 ∨ k = 11 from by omega) with rfl | rfl | rfl | rfl | rfl | rfl | rfl | rfl | rfl | rfl | rfl
  · refine sv_tableIn (off := 59) 60 dX6_tells_1 (by decide) (by decide) (by decide) (by decide) ?_
    refine sv_aload_n dX6_tells_60 rfl ?_
    refine sv_callV (As := []) sc_X6_106 (c6_isOn (by omega) (by omega) (by omega)) rfl rfl (Nat.le_of_ble_eq_true rfl) dX6_tells_61 ⟨by decide, by decide⟩ ⟨Nat.le_refl _, Nat.le_refl _⟩ (Nat.le_of_ble_eq_true rfl) om_0 (List.cons_ne_nil _ _) rfl ?_
    refine sv_ifN_eq 76 dX6_tells_64 (by decide) (by first | omega | (have z := b2n_lt (gm_on S); omega)) (fun c_64 => ?_) (fun c_64 => ?_)
    · refine sv_iconst (-1) dX6_tells_76 (by decide) ?_
      refine sv_iret dX6_tells_77 rfl rfl (Nat.le_refl _) (Nat.le_refl _) ?_
      refine ⟨rI ?_, rfl⟩
      unfold gm_tls; simp only [Nat.reduceEqDiff, if_true, if_false]
      first | rw [if_pos (b2n_1 c_64)] | rw [if_neg (ne_t (b2n_f c_64))]
    · refine sv_aload_n dX6_tells_67 rfl ?_
      refine rm_get1 rfl dX6_tells_68 ?_
      refine sv_iconst (nI 4) dX6_tells_71 (by decide) ?_
      refine rm_ld1N dX6_tells_72 (by first | omega | (have z := b2n_lt (gm_on S); omega)) ?_
      refine sv_goto 77 dX6_tells_73 (by decide) ?_
      refine sv_iret dX6_tells_77 rfl rfl (Nat.le_refl _) (Nat.le_refl _) ?_
      refine ⟨rI ?_, rfl⟩
      unfold gm_tls; simp only [Nat.reduceEqDiff, if_true, if_false]
      first | rw [if_pos (b2n_1 c_64)] | rw [if_neg (ne_t (b2n_f c_64))]
  · refine sv_tableIn (off := 77) 78 dX6_tells_1 (by decide) (by decide) (by decide) (by decide) ?_
    refine sv_aload_n dX6_tells_78 rfl ?_
    refine rm_get1 rfl dX6_tells_79 ?_
    refine sv_iconst (nI 5) dX6_tells_82 (by decide) ?_
    refine rm_ld1N dX6_tells_83 (by first | omega | (have z := b2n_lt (gm_on S); omega)) ?_
    refine sv_iret dX6_tells_84 rfl rfl (Nat.le_refl _) (Nat.le_refl _) ?_
    exact ⟨rfl, rfl⟩
  · refine sv_tableIn (off := 84) 85 dX6_tells_1 (by decide) (by decide) (by decide) (by decide) ?_
    refine sv_aload_n dX6_tells_85 rfl ?_
    refine rm_get1 rfl dX6_tells_86 ?_
    refine sv_bipush (nI 6) dX6_tells_89 (by decide) ?_
    refine rm_ld1N dX6_tells_91 (by first | omega | (have z := b2n_lt (gm_on S); omega)) ?_
    refine sv_iret dX6_tells_92 rfl rfl (Nat.le_refl _) (Nat.le_refl _) ?_
    exact ⟨rfl, rfl⟩
  · refine sv_tableIn (off := 92) 93 dX6_tells_1 (by decide) (by decide) (by decide) (by decide) ?_
    refine sv_aload_n dX6_tells_93 rfl ?_
    refine sv_callV (As := []) sc_X6_106 (c6_isOn (by omega) (by omega) (by omega)) rfl rfl (Nat.le_of_ble_eq_true rfl) dX6_tells_94 ⟨by decide, by decide⟩ ⟨Nat.le_refl _, Nat.le_refl _⟩ (Nat.le_of_ble_eq_true rfl) om_0 (List.cons_ne_nil _ _) rfl ?_
    refine sv_ifN_eq 104 dX6_tells_97 (by decide) (by first | omega | (have z := b2n_lt (gm_on S); omega)) (fun c_97 => ?_) (fun c_97 => ?_)
    · refine sv_iconst (nI 1) dX6_tells_104 (by decide) ?_
      refine sv_iret dX6_tells_105 rfl rfl (Nat.le_refl _) (Nat.le_refl _) ?_
      refine ⟨rI ?_, rfl⟩
      unfold gm_tls; simp only [Nat.reduceEqDiff, if_true, if_false]
      first | rw [if_pos (b2n_1 c_97)] | rw [if_neg (ne_t (b2n_f c_97))]
    · refine sv_iconst (nI 0) dX6_tells_100 (by decide) ?_
      refine sv_goto 105 dX6_tells_101 (by decide) ?_
      refine sv_iret dX6_tells_105 rfl rfl (Nat.le_refl _) (Nat.le_refl _) ?_
      refine ⟨rI ?_, rfl⟩
      unfold gm_tls; simp only [Nat.reduceEqDiff, if_true, if_false]
      first | rw [if_pos (b2n_1 c_97)] | rw [if_neg (ne_t (b2n_f c_97))]
  · refine sv_tableIn (off := 134) 135 dX6_tells_1 (by decide) (by decide) (by decide) (by decide) ?_
    refine sv_aload_n dX6_tells_135 rfl ?_
    refine rm_get1 rfl dX6_tells_136 ?_
    refine sv_bipush (nI 7) dX6_tells_139 (by decide) ?_
    refine sv_iload_n dX6_tells_141 rfl ?_
    refine sv_iaddN dX6_tells_142 ?_
    refine sv_iconst (nI 5) dX6_tells_143 (by decide) ?_
    refine sv_isubN dX6_tells_144 (by first | omega | (have z := b2n_lt (gm_on S); omega)) ?_
    refine rm_ld1N dX6_tells_145 (by first | omega | (have z := b2n_lt (gm_on S); omega)) ?_
    refine sv_iret dX6_tells_146 rfl rfl (Nat.le_refl _) (Nat.le_refl _) ?_
    exact ⟨rfl, rfl⟩
  · refine sv_tableIn (off := 134) 135 dX6_tells_1 (by decide) (by decide) (by decide) (by decide) ?_
    refine sv_aload_n dX6_tells_135 rfl ?_
    refine rm_get1 rfl dX6_tells_136 ?_
    refine sv_bipush (nI 7) dX6_tells_139 (by decide) ?_
    refine sv_iload_n dX6_tells_141 rfl ?_
    refine sv_iaddN dX6_tells_142 ?_
    refine sv_iconst (nI 5) dX6_tells_143 (by decide) ?_
    refine sv_isubN dX6_tells_144 (by first | omega | (have z := b2n_lt (gm_on S); omega)) ?_
    refine rm_ld1N dX6_tells_145 (by first | omega | (have z := b2n_lt (gm_on S); omega)) ?_
    refine sv_iret dX6_tells_146 rfl rfl (Nat.le_refl _) (Nat.le_refl _) ?_
    exact ⟨rfl, rfl⟩
  · refine sv_tableIn (off := 134) 135 dX6_tells_1 (by decide) (by decide) (by decide) (by decide) ?_
    refine sv_aload_n dX6_tells_135 rfl ?_
    refine rm_get1 rfl dX6_tells_136 ?_
    refine sv_bipush (nI 7) dX6_tells_139 (by decide) ?_
    refine sv_iload_n dX6_tells_141 rfl ?_
    refine sv_iaddN dX6_tells_142 ?_
    refine sv_iconst (nI 5) dX6_tells_143 (by decide) ?_
    refine sv_isubN dX6_tells_144 (by first | omega | (have z := b2n_lt (gm_on S); omega)) ?_
    refine rm_ld1N dX6_tells_145 (by first | omega | (have z := b2n_lt (gm_on S); omega)) ?_
    refine sv_iret dX6_tells_146 rfl rfl (Nat.le_refl _) (Nat.le_refl _) ?_
    exact ⟨rfl, rfl⟩
  · refine sv_tableIn (off := 105) 106 dX6_tells_1 (by decide) (by decide) (by decide) (by decide) ?_
    refine sv_aload_n dX6_tells_106 rfl ?_
    refine rm_get1 rfl dX6_tells_107 ?_
    refine sv_bipush (nI 10) dX6_tells_110 (by decide) ?_
    refine rm_ld1N dX6_tells_112 (by first | omega | (have z := b2n_lt (gm_on S); omega)) ?_
    refine sv_iret dX6_tells_113 rfl rfl (Nat.le_refl _) (Nat.le_refl _) ?_
    exact ⟨rfl, rfl⟩
  · refine sv_tableIn (off := 113) 114 dX6_tells_1 (by decide) (by decide) (by decide) (by decide) ?_
    refine sv_aload_n dX6_tells_114 rfl ?_
    refine sv_callV (As := []) sc_X6_212 (c6_atPlaces) rfl rfl (Nat.le_of_ble_eq_true rfl) dX6_tells_115 ⟨by decide, by decide⟩ ⟨Nat.le_refl _, Nat.le_refl _⟩ (Nat.le_of_ble_eq_true rfl) om_0 (List.cons_ne_nil _ _) rfl ?_
    refine sv_iret dX6_tells_118 rfl rfl (Nat.le_refl _) (Nat.le_refl _) ?_
    exact ⟨rfl, rfl⟩
  · refine sv_tableIn (off := 118) 119 dX6_tells_1 (by decide) (by decide) (by decide) (by decide) ?_
    refine sv_aload_n dX6_tells_119 rfl ?_
    refine rm_get1 rfl dX6_tells_120 ?_
    refine sv_bipush (nI 11) dX6_tells_123 (by decide) ?_
    refine rm_ld1N dX6_tells_125 (by first | omega | (have z := b2n_lt (gm_on S); omega)) ?_
    refine sv_iret dX6_tells_126 rfl rfl (Nat.le_refl _) (Nat.le_refl _) ?_
    exact ⟨rfl, rfl⟩
  · refine sv_tableIn (off := 126) 127 dX6_tells_1 (by decide) (by decide) (by decide) (by decide) ?_
    refine sv_aload_n dX6_tells_127 rfl ?_
    refine rm_get1 rfl dX6_tells_128 ?_
    refine sv_bipush (nI 12) dX6_tells_131 (by decide) ?_
    refine rm_ld1N dX6_tells_133 (by first | omega | (have z := b2n_lt (gm_on S); omega)) ?_
    refine sv_iret dX6_tells_134 rfl rfl (Nat.le_refl _) (Nat.le_refl _) ?_
    exact ⟨rfl, rfl⟩
theorem c6_about {w : Int32} (hI : gm_I K S) : sm_F G mX6_about 3 [.ref m, .int w] (sm_om G h m F X (sm_as A S) L) (.inl (some (.int ((an_about S w).2)))) (sm_om G h m (va_up F 0 (an_about S w).1) X (sm_as A S) L) := by
  unfold sm_F sm_C
  show sm_V G _ _ _ 0 0 0 [(0, .ref m), (1, .int w)] [] _
  have b3 := hI.2.1 3 (by omega) (by omega); have b6 := hI.2.1 6 (by omega) (by omega); have b0 := hI.2.1 0 (by omega) (by omega); have bK := hI.2.2.1
  refine sv_aload_n dX6_about_0 rfl ?_
  refine sv_iconst (nI 0) dX6_about_1 (by decide) ?_
  refine rm_put0 rfl dX6_about_2 ?_
  refine sv_iload_n dX6_about_5 rfl ?_
  refine sv_iconst (nI 0) dX6_about_6 (by decide) ?_
  refine sv_bipush (nI 11) dX6_about_7 (by decide) ?_
  refine sv_callS (As := [_, _, _]) sc_X6_53 (c6_inG) rfl rfl (Nat.le_of_ble_eq_true rfl) dX6_about_9 ⟨by decide, by decide⟩ ⟨Nat.le_refl _, Nat.le_refl _⟩ (Nat.le_of_ble_eq_true rfl) ?_
  refine sv_ifN_ne 21 dX6_about_12 (by decide) (by first | omega | (have z := b2n_lt (gm_in (nI 0) w (nI 11)); omega)) (fun c_12 => ?_) (fun c_12 => ?_)
  · have in_w := b2n_1 c_12
    obtain ⟨k, rfl, k_1, k_2⟩ := gm_in_k (by omega) (by omega) in_w
    refine sv_iload_n dX6_about_21 rfl ?_
    refine sv_ifN_eq 34 dX6_about_22 (by decide) (by first | omega | (have z := b2n_lt (gm_in (nI 0) w (nI 11)); omega)) (fun c_22 => ?_) (fun c_22 => ?_)
    · refine sv_aload_n dX6_about_34 rfl ?_
      refine rm_get1 rfl dX6_about_35 ?_
      refine sv_iconst (nI 3) dX6_about_38 (by decide) ?_
      refine rm_ld1N dX6_about_39 (by first | omega | (have z := b2n_lt (gm_in (nI 0) w (nI 11)); omega)) ?_
      refine sv_goto 48 dX6_about_40 (by decide) ?_
      refine sv_iret dX6_about_48 rfl rfl (Nat.le_refl _) (Nat.le_refl _) ?_
      exact api_l (by unfold an_about gm_abo; rw [if_pos in_w, i2_nI (by omega), if_pos (by omega)]) (by first | rfl | exact up_up _ _ _ _)
    · refine sv_aload_n dX6_about_25 rfl ?_
      refine rm_get1 rfl dX6_about_26 ?_
      refine sv_iconst (nI 3) dX6_about_29 (by decide) ?_
      refine rm_ld1N dX6_about_30 (by first | omega | (have z := b2n_lt (gm_in (nI 0) w (nI 11)); omega)) ?_
      refine sv_ifN_ne 43 dX6_about_31 (by decide) (by first | omega | (have z := b2n_lt (gm_in (nI 0) w (nI 11)); omega)) (fun c_31 => ?_) (fun c_31 => ?_)
      · refine sv_aload_n dX6_about_43 rfl ?_
        refine sv_iload_n dX6_about_44 rfl ?_
        refine sv_callV (As := [_]) sc_X6_215 (c6_tells hI (by omega) (by omega)) rfl rfl (Nat.le_of_ble_eq_true rfl) dX6_about_45 ⟨by decide, by decide⟩ ⟨Nat.le_refl _, Nat.le_refl _⟩ (Nat.le_of_ble_eq_true rfl) om_0 (List.cons_ne_nil _ _) rfl ?_
        refine sv_iret dX6_about_48 rfl rfl (Nat.le_refl _) (Nat.le_refl _) ?_
        exact api_l (by unfold an_about gm_abo; rw [if_pos in_w, i2_nI (by omega), if_neg (by omega)]) (by first | rfl | exact up_up _ _ _ _)
      · refine sv_aload_n dX6_about_34 rfl ?_
        refine rm_get1 rfl dX6_about_35 ?_
        refine sv_iconst (nI 3) dX6_about_38 (by decide) ?_
        refine rm_ld1N dX6_about_39 (by first | omega | (have z := b2n_lt (gm_in (nI 0) w (nI 11)); omega)) ?_
        refine sv_goto 48 dX6_about_40 (by decide) ?_
        refine sv_iret dX6_about_48 rfl rfl (Nat.le_refl _) (Nat.le_refl _) ?_
        exact api_l (by unfold an_about gm_abo; rw [if_pos in_w, i2_nI (by omega), if_pos (by omega)]) (by first | rfl | exact up_up _ _ _ _)
  · refine sv_aload_n dX6_about_15 rfl ?_
    refine sv_iconst (nI 1) dX6_about_16 (by decide) ?_
    refine sv_callV (As := [_]) sc_X6_167 (c6_fails) rfl rfl (Nat.le_of_ble_eq_true rfl) dX6_about_17 ⟨by decide, by decide⟩ ⟨Nat.le_refl _, Nat.le_refl _⟩ (Nat.le_of_ble_eq_true rfl) om_0 (List.cons_ne_nil _ _) rfl ?_
    refine sv_iret dX6_about_20 rfl rfl (Nat.le_refl _) (Nat.le_refl _) ?_
    exact api_l (by unfold an_about; rw [if_neg (ne_t (b2n_f c_12))]) (by first | rfl | exact up_up _ _ _ _)
theorem c6_isPlace {q : Int32} : sm_F G mX6_isPlace 1 [.int q] h (.inl (some (.int (nI (b2n (gm_in (nI 0) q (nI 5))))))) h := by
  unfold sm_F sm_C
  show sm_V G _ _ _ 0 0 0 [(0, .int q)] [] _
  refine sv_iload_n dX6_isPlace_0 rfl ?_
  refine sv_iconst (nI 0) dX6_isPlace_1 (by decide) ?_
  refine sv_iconst (nI 5) dX6_isPlace_2 (by decide) ?_
  refine sv_callS (As := [_, _, _]) sc_X6_53 (c6_inG) rfl rfl (Nat.le_of_ble_eq_true rfl) dX6_isPlace_3 ⟨by decide, by decide⟩ ⟨Nat.le_refl _, Nat.le_refl _⟩ (Nat.le_of_ble_eq_true rfl) ?_
  refine sv_iret dX6_isPlace_6 rfl (nar_b (b2n_lt _)) (Nat.le_refl _) (Nat.le_refl _) ?_
  exact ⟨rfl, rfl⟩
end SR9
