section SR18
variable {G : sm_G} {h : sm_H} {m : Nat} {F : Nat → Int32} {X : Nat → Int64} {A : Nat → Nat → Int32} {L : Nat → Nat → Int64} {S : Nat → Nat} {K : Nat} {B : Nat → Nat} {n p mc : Nat}
def gm_o1 (B : Nat → Nat) (n p : Nat) : Bool := decide (gm_pof (gm_let B n p) ≠ 7)
def gm_p1 (B : Nat → Nat) (n p : Nat) : Nat := p + b2n (gm_o1 B n p)
theorem gm_pi_7 {l : Nat} (h : gm_pof l = 7) : gm_pi l = -1 := by unfold gm_pi; rw [if_pos h]
theorem gm_pi_n {l : Nat} (h : gm_pof l ≠ 7) : gm_pi l = nI (gm_pof l) := by unfold gm_pi; rw [if_neg h]
theorem gm_pof_lt (l : Nat) : gm_pof l ≤ 7 := by unfold gm_pof; (repeat' split) <;> omega
theorem gm_pi_m {l : Nat} (h : gm_pi l = -1) : gm_pof l = 7 := by
  by_cases e : gm_pof l = 7
  · exact e
  · rw [gm_pi_n e] at h; exact absurd h (ne_1 (by have := gm_pof_lt l; omega))
theorem gm_pi_k {l k : Nat} (hk : k < 7) (h : gm_pi l = nI k) : gm_pof l = k := by
  by_cases e : gm_pof l = 7
  · rw [gm_pi_7 e] at h; exact absurd h.symm (ne_1 (by omega))
  · rw [gm_pi_n e] at h
    have := congrArg Int32.toInt h
    rw [nI_toInt (by have := gm_pof_lt l; omega), nI_toInt (by omega)] at this; omega
theorem gm_pi_nk {l k : Nat} (hk : k < 7) (h : gm_pi l ≠ nI k) : gm_pof l ≠ k := by
  intro e; apply h; rw [gm_pi_n (by omega), e]
/-- a move's letters: whether they hold; where the next begins; its choice -/
def gm_rm (B : Nat → Nat) (n p : Nat) : Bool × Nat × Int32 :=
  if gm_pof (gm_let B n p) = 2 then
    (gm_wo B n true (p + 1) 49 51, p + 1 + b2n (gm_wo B n true (p + 1) 49 51), nI (gm_let B n (p + 1)) - nI 49 + nI 1)
  else if gm_pof (gm_let B n p) = 3 then
    (gm_wo B n (gm_wo B n true (p + 1) 48 50) (p + 1 + b2n (gm_wo B n true (p + 1) 48 50)) 49 51, p + 1 + b2n (gm_wo B n true (p + 1) 48 50) + b2n (gm_wo B n (gm_wo B n true (p + 1) 48 50) (p + 1 + b2n (gm_wo B n true (p + 1) 48 50)) 49 51),
      nI 10 * (nI (gm_let B n (p + 1)) - nI 48) + (nI (gm_let B n (p + 1 + b2n (gm_wo B n true (p + 1) 48 50))) - nI 49 + nI 1))
  else (gm_o1 B n p, gm_p1 B n p, nI 0)
/-- the reference behind a move's letters -/
def gm_rmF' (F : Nat → Int32) (B : Nat → Nat) (n p mc : Nat) : Nat → Int32 := va_up (va_up (va_up F 18 (nI (gm_rm B n p).2.1)) 19 (nI (b2n (gm_rm B n p).1))) 23 (nI (mc + b2n (gm_rm B n p).1))
def gm_rmA' (A : Nat → Nat → Int32) (B : Nat → Nat) (n p mc : Nat) : Nat → Nat → Int32 := va_up A 22 (va_up (va_up (A 22) (2 * mc) (gm_pi (gm_let B n p))) (2 * mc + 1) (gm_rm B n p).2.2)
theorem gm_o1_2 (h : gm_pof (gm_let B n p) = 2) : gm_o1 B n p = true := decide_eq_true (by omega)
theorem gm_o1_3 (h : gm_pof (gm_let B n p) = 3) : gm_o1 B n p = true := decide_eq_true (by omega)
theorem gm_wo_lt {k : Bool} {lo hi : Nat} (h : gm_wo B n k p lo hi = true) : p < n := by unfold gm_wo at h; simp at h; exact h.2.1
theorem gm_wo_p {k : Bool} {lo hi : Nat} (h : p ≤ n) : p + b2n (gm_wo B n k p lo hi) ≤ n := by
  cases e : gm_wo B n k p lo hi with
  | true => have := gm_wo_lt e; show p + 1 ≤ n; omega
  | false => show p + 0 ≤ n; omega
theorem as_22 (f : Nat → Int32) (i j : Nat) (u v : Int32) : va_up (va_up (sm_as A S) 22 (va_up (sm_as A S 22) i u)) 22 (va_up (va_up (sm_as A S) 22 (va_up (sm_as A S 22) i u) 22) j v) = sm_as (va_up A 22 (va_up (va_up (A 22) i u) j v)) S := by
  rw [up_eq, up_up, as_upk 22 (by omega), as_k 22 (by omega)]
theorem c6_readsMove (h18 : F 18 = nI p) (h10 : F 10 = nI n) (hn : n ≤ 120) (hp : p < n) (hB : ∀ i, i < n → A 9 i = nI (B i)) (hB2 : ∀ i, i < n → B i < 256) (h23 : F 23 = nI mc) (hmc : mc < 120) : sm_F G mX6_readsMove 2 [.ref m] (sm_om G h m F X (sm_as A S) L) (.inl none) (sm_om G h m (gm_rmF' F B n p mc) X (sm_as (gm_rmA' A B n p mc) S) L) := by
  unfold sm_F sm_C
  show sm_V G _ _ _ 0 0 0 [(0, .ref m)] [] _
  have gl := gm_let_lt (p := p) hB2
  refine sv_cut (c9 := 0) (s9 := 0) (p9 := 45) (l9 := [(0, .ref m), (1, .int (gm_pi (gm_let B n p))), (2, .int (nI 0))]) (t9 := []) (h9 := (sm_om G h m (va_up (va_up F 19 (nI (b2n (gm_o1 B n p)))) 18 (nI (gm_p1 B n p))) X (sm_as A S) L)) ?_ (fun k_45 => ?_)
  · refine sv_iload_n dX6_readsMove_45 rfl ?_
    refine sv_iconst (nI 2) dX6_readsMove_46 (by decide) ?_
    refine sv_icmp_ne 64 dX6_readsMove_47 (by decide) (fun c_47 => ?_) (fun c_47 => ?_)
    · refine sv_iload_n dX6_readsMove_64 rfl ?_
      refine sv_iconst (nI 3) dX6_readsMove_65 (by decide) ?_
      refine sv_icmp_ne 94 dX6_readsMove_66 (by decide) (fun c_66 => ?_) (fun c_66 => ?_)
      · refine sv_aload_n dX6_readsMove_94 rfl ?_
        refine rm_get22 rfl dX6_readsMove_95 ?_
        refine sv_iconst (nI 2) dX6_readsMove_98 (by decide) ?_
        refine sv_aload_n dX6_readsMove_99 rfl ?_
        refine rm_get23 rfl dX6_readsMove_100 ?_
        refine sv_top (nI mc) (by rw [up_ne (by omega), up_ne (by omega)]; exact h23) ?_
        refine sv_imulN dX6_readsMove_103 ?_
        refine sv_iload_n dX6_readsMove_104 rfl ?_
        refine rm_st22 dX6_readsMove_105 (by first | omega | exact Nat.lt_trans (b2n_lt _) (by decide)) ?_
        refine sv_aload_n dX6_readsMove_106 rfl ?_
        refine rm_get22 rfl dX6_readsMove_107 ?_
        refine sv_iconst (nI 2) dX6_readsMove_110 (by decide) ?_
        refine sv_aload_n dX6_readsMove_111 rfl ?_
        refine rm_get23 rfl dX6_readsMove_112 ?_
        refine sv_top (nI mc) (by rw [up_ne (by omega), up_ne (by omega)]; exact h23) ?_
        refine sv_imulN dX6_readsMove_115 ?_
        refine sv_iconst (nI 1) dX6_readsMove_116 (by decide) ?_
        refine sv_iaddN dX6_readsMove_117 ?_
        refine sv_iload_n dX6_readsMove_118 rfl ?_
        refine rm_st22 dX6_readsMove_119 (by first | omega | exact Nat.lt_trans (b2n_lt _) (by decide)) ?_
        refine sv_aload_n dX6_readsMove_120 rfl ?_
        refine sv_dup dX6_readsMove_121 rfl ?_
        refine rm_get23 rfl dX6_readsMove_122 ?_
        refine sv_top (nI mc) (by rw [up_ne (by omega), up_ne (by omega)]; exact h23) ?_
        refine sv_aload_n dX6_readsMove_125 rfl ?_
        refine rm_get19 rfl dX6_readsMove_126 ?_
        refine sv_top (nI (b2n (gm_o1 B n p))) ((up_ne (by omega)).trans up_eq) ?_
        refine sv_ifN_eq 136 dX6_readsMove_129 (by decide) (by first | omega | exact Nat.lt_trans (b2n_lt _) (by decide)) (fun c_129 => ?_) (fun c_129 => ?_)
        · refine sv_iconst (nI 0) dX6_readsMove_136 (by decide) ?_
          refine sv_iaddN dX6_readsMove_137 ?_
          refine rm_put23 rfl dX6_readsMove_138 ?_
          refine sv_vret dX6_readsMove_141 rfl (Nat.le_refl _) (Nat.le_refl _) ?_
          have e : gm_rm B n p = (gm_o1 B n p, gm_p1 B n p, nI 0) := by unfold gm_rm; rw [if_neg (gm_pi_nk (by omega) c_47), if_neg (gm_pi_nk (by omega) c_66)]
          have eb : nI (mc + b2n (gm_o1 B n p)) = nI (mc + b2n (gm_o1 B n p)) := rfl
          refine ⟨rfl, om_FXAL ?_ rfl (by unfold gm_rmA'; rw [e]; exact as_22 (fun _ => 0) _ _ _ _) rfl⟩
          unfold gm_rmF'; rw [e]
          simp only
          first | rw [b2n_1 c_129] | rw [b2n_f c_129]
          funext i; unfold va_up
          (repeat' split) <;> first | rfl | omega
        · refine sv_iconst (nI 1) dX6_readsMove_132 (by decide) ?_
          refine sv_goto 137 dX6_readsMove_133 (by decide) ?_
          refine sv_iaddN dX6_readsMove_137 ?_
          refine rm_put23 rfl dX6_readsMove_138 ?_
          refine sv_vret dX6_readsMove_141 rfl (Nat.le_refl _) (Nat.le_refl _) ?_
          have e : gm_rm B n p = (gm_o1 B n p, gm_p1 B n p, nI 0) := by unfold gm_rm; rw [if_neg (gm_pi_nk (by omega) c_47), if_neg (gm_pi_nk (by omega) c_66)]
          have eb : nI (mc + b2n (gm_o1 B n p)) = nI (mc + b2n (gm_o1 B n p)) := rfl
          refine ⟨rfl, om_FXAL ?_ rfl (by unfold gm_rmA'; rw [e]; exact as_22 (fun _ => 0) _ _ _ _) rfl⟩
          unfold gm_rmF'; rw [e]
          simp only
          first | rw [b2n_1 c_129] | rw [b2n_f c_129]
          funext i; unfold va_up
          (repeat' split) <;> first | rfl | omega
      · have hq := gm_pi_k (by omega) c_66
        refine sv_bipush (nI 10) dX6_readsMove_69 (by decide) ?_
        refine sv_aload_n dX6_readsMove_71 rfl ?_
        refine sv_bipush (nI 48) dX6_readsMove_72 (by decide) ?_
        refine sv_bipush (nI 50) dX6_readsMove_74 (by decide) ?_
        refine sv_callV (As := [_, _]) sc_X6_187 (c6_wants (F := (va_up (va_up F 19 (nI (b2n (gm_o1 B n p)))) 18 (nI (gm_p1 B n p)))) (p := p + 1) (k := true) (up_eq.trans (by unfold gm_p1; rw [gm_o1_3 hq]; rfl)) ((up_ne (by omega)).trans ((up_ne (by omega)).trans h10)) hn (by omega) hB hB2 ((up_ne (by omega)).trans (up_eq.trans (by rw [gm_o1_3 hq]))) (by omega) (by omega)) rfl rfl (Nat.le_of_ble_eq_true rfl) dX6_readsMove_76 ⟨by decide, by decide⟩ ⟨Nat.le_refl _, Nat.le_refl _⟩ (Nat.le_of_ble_eq_true rfl) om_0 (List.cons_ne_nil _ _) rfl ?_
        refine sv_imul dX6_readsMove_79 ?_
        refine sv_istore_n (lv' := [(2, _), (0, _), (1, _)]) dX6_readsMove_80 (by decide) rfl ?_
        refine sv_iload_n dX6_readsMove_81 rfl ?_
        refine sv_aload_n dX6_readsMove_82 rfl ?_
        refine sv_bipush (nI 49) dX6_readsMove_83 (by decide) ?_
        refine sv_bipush (nI 51) dX6_readsMove_85 (by decide) ?_
        refine sv_callV (As := [_, _]) sc_X6_187 (c6_wants (p := p + 1 + b2n (gm_wo B n true (p + 1) 48 50)) (k := (gm_wo B n true (p + 1) 48 50)) up_eq ((up_ne (by omega)).trans ((up_ne (by omega)).trans ((up_ne (by omega)).trans ((up_ne (by omega)).trans h10)))) hn (gm_wo_p (by omega)) hB hB2 ((up_ne (by omega)).trans up_eq) (by omega) (by omega)) rfl rfl (Nat.le_of_ble_eq_true rfl) dX6_readsMove_87 ⟨by decide, by decide⟩ ⟨Nat.le_refl _, Nat.le_refl _⟩ (Nat.le_of_ble_eq_true rfl) om_0 (List.cons_ne_nil _ _) rfl ?_
        refine sv_iconst (1) dX6_readsMove_90 (by decide) ?_
        refine sv_iadd dX6_readsMove_91 ?_
        refine sv_iadd dX6_readsMove_92 ?_
        refine sv_istore_n (lv' := [(2, _), (0, _), (1, _)]) dX6_readsMove_93 (by decide) rfl ?_
        refine sv_aload_n dX6_readsMove_94 rfl ?_
        refine rm_get22 rfl dX6_readsMove_95 ?_
        refine sv_iconst (nI 2) dX6_readsMove_98 (by decide) ?_
        refine sv_aload_n dX6_readsMove_99 rfl ?_
        refine rm_get23 rfl dX6_readsMove_100 ?_
        refine sv_top (nI mc) (by rw [up_ne (by omega), up_ne (by omega), up_ne (by omega), up_ne (by omega), up_ne (by omega), up_ne (by omega)]; exact h23) ?_
        refine sv_imulN dX6_readsMove_103 ?_
        refine sv_iload_n dX6_readsMove_104 rfl ?_
        refine rm_st22 dX6_readsMove_105 (by first | omega | exact Nat.lt_trans (b2n_lt _) (by decide)) ?_
        refine sv_aload_n dX6_readsMove_106 rfl ?_
        refine rm_get22 rfl dX6_readsMove_107 ?_
        refine sv_iconst (nI 2) dX6_readsMove_110 (by decide) ?_
        refine sv_aload_n dX6_readsMove_111 rfl ?_
        refine rm_get23 rfl dX6_readsMove_112 ?_
        refine sv_top (nI mc) (by rw [up_ne (by omega), up_ne (by omega), up_ne (by omega), up_ne (by omega), up_ne (by omega), up_ne (by omega)]; exact h23) ?_
        refine sv_imulN dX6_readsMove_115 ?_
        refine sv_iconst (nI 1) dX6_readsMove_116 (by decide) ?_
        refine sv_iaddN dX6_readsMove_117 ?_
        refine sv_iload_n dX6_readsMove_118 rfl ?_
        refine rm_st22 dX6_readsMove_119 (by first | omega | exact Nat.lt_trans (b2n_lt _) (by decide)) ?_
        refine sv_aload_n dX6_readsMove_120 rfl ?_
        refine sv_dup dX6_readsMove_121 rfl ?_
        refine rm_get23 rfl dX6_readsMove_122 ?_
        refine sv_top (nI mc) (by rw [up_ne (by omega), up_ne (by omega), up_ne (by omega), up_ne (by omega), up_ne (by omega), up_ne (by omega)]; exact h23) ?_
        refine sv_aload_n dX6_readsMove_125 rfl ?_
        refine rm_get19 rfl dX6_readsMove_126 ?_
        refine sv_top (nI (b2n (gm_wo B n (gm_wo B n true (p + 1) 48 50) (p + 1 + b2n (gm_wo B n true (p + 1) 48 50)) 49 51))) ((up_ne (by omega)).trans up_eq) ?_
        refine sv_ifN_eq 136 dX6_readsMove_129 (by decide) (by first | omega | exact Nat.lt_trans (b2n_lt _) (by decide)) (fun c_129 => ?_) (fun c_129 => ?_)
        · refine sv_iconst (nI 0) dX6_readsMove_136 (by decide) ?_
          refine sv_iaddN dX6_readsMove_137 ?_
          refine rm_put23 rfl dX6_readsMove_138 ?_
          refine sv_vret dX6_readsMove_141 rfl (Nat.le_refl _) (Nat.le_refl _) ?_
          have e : gm_rm B n p = ((gm_wo B n (gm_wo B n true (p + 1) 48 50) (p + 1 + b2n (gm_wo B n true (p + 1) 48 50)) 49 51), p + 1 + b2n (gm_wo B n true (p + 1) 48 50) + b2n (gm_wo B n (gm_wo B n true (p + 1) 48 50) (p + 1 + b2n (gm_wo B n true (p + 1) 48 50)) 49 51), nI 10 * (nI (gm_let B n (p + 1)) - nI 48) + (nI (gm_let B n (p + 1 + b2n (gm_wo B n true (p + 1) 48 50))) - nI 49 + nI 1)) := by unfold gm_rm; rw [if_neg (by omega), if_pos hq]
          have eb : nI (mc + b2n ((gm_wo B n (gm_wo B n true (p + 1) 48 50) (p + 1 + b2n (gm_wo B n true (p + 1) 48 50)) 49 51))) = nI (mc + b2n ((gm_wo B n (gm_wo B n true (p + 1) 48 50) (p + 1 + b2n (gm_wo B n true (p + 1) 48 50)) 49 51))) := rfl
          refine ⟨rfl, om_FXAL ?_ rfl (by unfold gm_rmA'; rw [e]; exact as_22 (fun _ => 0) _ _ _ _) rfl⟩
          unfold gm_rmF'; rw [e]
          simp only
          first | rw [b2n_1 c_129] | rw [b2n_f c_129]
          funext i; unfold va_up
          (repeat' split) <;> first | rfl | omega
        · refine sv_iconst (nI 1) dX6_readsMove_132 (by decide) ?_
          refine sv_goto 137 dX6_readsMove_133 (by decide) ?_
          refine sv_iaddN dX6_readsMove_137 ?_
          refine rm_put23 rfl dX6_readsMove_138 ?_
          refine sv_vret dX6_readsMove_141 rfl (Nat.le_refl _) (Nat.le_refl _) ?_
          have e : gm_rm B n p = ((gm_wo B n (gm_wo B n true (p + 1) 48 50) (p + 1 + b2n (gm_wo B n true (p + 1) 48 50)) 49 51), p + 1 + b2n (gm_wo B n true (p + 1) 48 50) + b2n (gm_wo B n (gm_wo B n true (p + 1) 48 50) (p + 1 + b2n (gm_wo B n true (p + 1) 48 50)) 49 51), nI 10 * (nI (gm_let B n (p + 1)) - nI 48) + (nI (gm_let B n (p + 1 + b2n (gm_wo B n true (p + 1) 48 50))) - nI 49 + nI 1)) := by unfold gm_rm; rw [if_neg (by omega), if_pos hq]
          have eb : nI (mc + b2n ((gm_wo B n (gm_wo B n true (p + 1) 48 50) (p + 1 + b2n (gm_wo B n true (p + 1) 48 50)) 49 51))) = nI (mc + b2n ((gm_wo B n (gm_wo B n true (p + 1) 48 50) (p + 1 + b2n (gm_wo B n true (p + 1) 48 50)) 49 51))) := rfl
          refine ⟨rfl, om_FXAL ?_ rfl (by unfold gm_rmA'; rw [e]; exact as_22 (fun _ => 0) _ _ _ _) rfl⟩
          unfold gm_rmF'; rw [e]
          simp only
          first | rw [b2n_1 c_129] | rw [b2n_f c_129]
          funext i; unfold va_up
          (repeat' split) <;> first | rfl | omega
    · have hq := gm_pi_k (by omega) c_47
      refine sv_aload_n dX6_readsMove_50 rfl ?_
      refine sv_bipush (nI 49) dX6_readsMove_51 (by decide) ?_
      refine sv_bipush (nI 51) dX6_readsMove_53 (by decide) ?_
      refine sv_callV (As := [_, _]) sc_X6_187 (c6_wants (F := (va_up (va_up F 19 (nI (b2n (gm_o1 B n p)))) 18 (nI (gm_p1 B n p)))) (p := p + 1) (k := true) (up_eq.trans (by unfold gm_p1; rw [gm_o1_2 hq]; rfl)) ((up_ne (by omega)).trans ((up_ne (by omega)).trans h10)) hn (by omega) hB hB2 ((up_ne (by omega)).trans (up_eq.trans (by rw [gm_o1_2 hq]))) (by omega) (by omega)) rfl rfl (Nat.le_of_ble_eq_true rfl) dX6_readsMove_55 ⟨by decide, by decide⟩ ⟨Nat.le_refl _, Nat.le_refl _⟩ (Nat.le_of_ble_eq_true rfl) om_0 (List.cons_ne_nil _ _) rfl ?_
      refine sv_iconst (1) dX6_readsMove_58 (by decide) ?_
      refine sv_iadd dX6_readsMove_59 ?_
      refine sv_istore_n (lv' := [(2, _), (0, _), (1, _)]) dX6_readsMove_60 (by decide) rfl ?_
      refine sv_goto 94 dX6_readsMove_61 (by decide) ?_
      refine sv_aload_n dX6_readsMove_94 rfl ?_
      refine rm_get22 rfl dX6_readsMove_95 ?_
      refine sv_iconst (nI 2) dX6_readsMove_98 (by decide) ?_
      refine sv_aload_n dX6_readsMove_99 rfl ?_
      refine rm_get23 rfl dX6_readsMove_100 ?_
      refine sv_top (nI mc) (by rw [up_ne (by omega), up_ne (by omega), up_ne (by omega), up_ne (by omega)]; exact h23) ?_
      refine sv_imulN dX6_readsMove_103 ?_
      refine sv_iload_n dX6_readsMove_104 rfl ?_
      refine rm_st22 dX6_readsMove_105 (by first | omega | exact Nat.lt_trans (b2n_lt _) (by decide)) ?_
      refine sv_aload_n dX6_readsMove_106 rfl ?_
      refine rm_get22 rfl dX6_readsMove_107 ?_
      refine sv_iconst (nI 2) dX6_readsMove_110 (by decide) ?_
      refine sv_aload_n dX6_readsMove_111 rfl ?_
      refine rm_get23 rfl dX6_readsMove_112 ?_
      refine sv_top (nI mc) (by rw [up_ne (by omega), up_ne (by omega), up_ne (by omega), up_ne (by omega)]; exact h23) ?_
      refine sv_imulN dX6_readsMove_115 ?_
      refine sv_iconst (nI 1) dX6_readsMove_116 (by decide) ?_
      refine sv_iaddN dX6_readsMove_117 ?_
      refine sv_iload_n dX6_readsMove_118 rfl ?_
      refine rm_st22 dX6_readsMove_119 (by first | omega | exact Nat.lt_trans (b2n_lt _) (by decide)) ?_
      refine sv_aload_n dX6_readsMove_120 rfl ?_
      refine sv_dup dX6_readsMove_121 rfl ?_
      refine rm_get23 rfl dX6_readsMove_122 ?_
      refine sv_top (nI mc) (by rw [up_ne (by omega), up_ne (by omega), up_ne (by omega), up_ne (by omega)]; exact h23) ?_
      refine sv_aload_n dX6_readsMove_125 rfl ?_
      refine rm_get19 rfl dX6_readsMove_126 ?_
      refine sv_top (nI (b2n (gm_wo B n true (p + 1) 49 51))) ((up_ne (by omega)).trans up_eq) ?_
      refine sv_ifN_eq 136 dX6_readsMove_129 (by decide) (by first | omega | exact Nat.lt_trans (b2n_lt _) (by decide)) (fun c_129 => ?_) (fun c_129 => ?_)
      · refine sv_iconst (nI 0) dX6_readsMove_136 (by decide) ?_
        refine sv_iaddN dX6_readsMove_137 ?_
        refine rm_put23 rfl dX6_readsMove_138 ?_
        refine sv_vret dX6_readsMove_141 rfl (Nat.le_refl _) (Nat.le_refl _) ?_
        have e : gm_rm B n p = ((gm_wo B n true (p + 1) 49 51), p + 1 + b2n (gm_wo B n true (p + 1) 49 51), nI (gm_let B n (p + 1)) - nI 49 + nI 1) := by unfold gm_rm; rw [if_pos hq]
        have eb : nI (mc + b2n ((gm_wo B n true (p + 1) 49 51))) = nI (mc + b2n ((gm_wo B n true (p + 1) 49 51))) := rfl
        refine ⟨rfl, om_FXAL ?_ rfl (by unfold gm_rmA'; rw [e]; exact as_22 (fun _ => 0) _ _ _ _) rfl⟩
        unfold gm_rmF'; rw [e]
        simp only
        first | rw [b2n_1 c_129] | rw [b2n_f c_129]
        funext i; unfold va_up
        (repeat' split) <;> first | rfl | omega
      · refine sv_iconst (nI 1) dX6_readsMove_132 (by decide) ?_
        refine sv_goto 137 dX6_readsMove_133 (by decide) ?_
        refine sv_iaddN dX6_readsMove_137 ?_
        refine rm_put23 rfl dX6_readsMove_138 ?_
        refine sv_vret dX6_readsMove_141 rfl (Nat.le_refl _) (Nat.le_refl _) ?_
        have e : gm_rm B n p = ((gm_wo B n true (p + 1) 49 51), p + 1 + b2n (gm_wo B n true (p + 1) 49 51), nI (gm_let B n (p + 1)) - nI 49 + nI 1) := by unfold gm_rm; rw [if_pos hq]
        have eb : nI (mc + b2n ((gm_wo B n true (p + 1) 49 51))) = nI (mc + b2n ((gm_wo B n true (p + 1) 49 51))) := rfl
        refine ⟨rfl, om_FXAL ?_ rfl (by unfold gm_rmA'; rw [e]; exact as_22 (fun _ => 0) _ _ _ _) rfl⟩
        unfold gm_rmF'; rw [e]
        simp only
        first | rw [b2n_1 c_129] | rw [b2n_f c_129]
        funext i; unfold va_up
        (repeat' split) <;> first | rfl | omega
  refine sv_cut (c9 := 0) (s9 := 0) (p9 := 21) (l9 := [(0, .ref m), (1, .int (gm_pi (gm_let B n p))), (2, .int (nI 0))]) (t9 := [.int (nI (b2n (gm_o1 B n p))), .ref m]) (h9 := (sm_om G h m F X (sm_as A S) L)) ?_ (fun k_21 => ?_)
  · refine rm_put19 rfl dX6_readsMove_21 (nar_b (b2n_lt _)) (fit_b (b2n_lt _)) ?_
    refine sv_aload_n dX6_readsMove_24 rfl ?_
    refine sv_dup dX6_readsMove_25 rfl ?_
    refine rm_get18 rfl dX6_readsMove_26 ?_
    refine sv_top (nI p) ((up_ne (by omega)).trans h18) ?_
    refine sv_aload_n dX6_readsMove_29 rfl ?_
    refine rm_get19 rfl dX6_readsMove_30 ?_
    refine sv_top (nI (b2n (gm_o1 B n p))) (up_eq) ?_
    refine sv_ifN_eq 40 dX6_readsMove_33 (by decide) (by first | omega | exact Nat.lt_trans (b2n_lt _) (by decide)) (fun c_33 => ?_) (fun c_33 => ?_)
    · refine sv_iconst (nI 0) dX6_readsMove_40 (by decide) ?_
      refine sv_iaddN dX6_readsMove_41 ?_
      refine rm_put18 rfl dX6_readsMove_42 ?_
      exact sv_sub [0, 1, 2] rfl (sv_heap (om_FXAL (by unfold gm_p1; first | (rw [b2n_1 c_33]; rfl) | (rw [b2n_f c_33]; rfl)) rfl rfl rfl) k_45)
    · refine sv_iconst (nI 1) dX6_readsMove_36 (by decide) ?_
      refine sv_goto 41 dX6_readsMove_37 (by decide) ?_
      refine sv_iaddN dX6_readsMove_41 ?_
      refine rm_put18 rfl dX6_readsMove_42 ?_
      exact sv_sub [0, 1, 2] rfl (sv_heap (om_FXAL (by unfold gm_p1; first | (rw [b2n_1 c_33]; rfl) | (rw [b2n_f c_33]; rfl)) rfl rfl rfl) k_45)
  refine sv_aload_n dX6_readsMove_0 rfl ?_
  refine sv_callV (As := []) sc_X6_180 (c6_letter h18 h10 hn (by omega) hB) rfl rfl (Nat.le_of_ble_eq_true rfl) dX6_readsMove_1 ⟨by decide, by decide⟩ ⟨Nat.le_refl _, Nat.le_refl _⟩ (Nat.le_of_ble_eq_true rfl) om_0 (List.cons_ne_nil _ _) rfl ?_
  refine sv_callS (As := [_]) sc_X6_184 (c6_placeOf gl) rfl rfl (Nat.le_of_ble_eq_true rfl) dX6_readsMove_4 ⟨by decide, by decide⟩ ⟨Nat.le_refl _, Nat.le_refl _⟩ (Nat.le_of_ble_eq_true rfl) ?_
  refine sv_istore_n (lv' := [(1, _), (0, _)]) dX6_readsMove_7 (by decide) rfl ?_
  refine sv_iconst (nI 0) dX6_readsMove_8 (by decide) ?_
  refine sv_istore_n (lv' := [(2, _), (1, _), (0, _)]) dX6_readsMove_9 (by decide) rfl ?_
  refine sv_aload_n dX6_readsMove_10 rfl ?_
  refine sv_iload_n dX6_readsMove_11 rfl ?_
  refine sv_iconst (-1) dX6_readsMove_12 (by decide) ?_
  refine sv_icmp_eq 20 dX6_readsMove_13 (by decide) (fun c_13 => ?_) (fun c_13 => ?_)
  · refine sv_iconst (nI 0) dX6_readsMove_20 (by decide) ?_
    refine sv_top (nI (b2n (gm_o1 B n p))) (by rw [show gm_o1 B n p = false from decide_eq_false (fun z => z (gm_pi_m c_13))]; rfl) ?_
    exact sv_sub [2, 1, 0] rfl k_21
  · refine sv_iconst (nI 1) dX6_readsMove_16 (by decide) ?_
    refine sv_goto 21 dX6_readsMove_17 (by decide) ?_
    refine sv_top (nI (b2n (gm_o1 B n p))) (by rw [show gm_o1 B n p = true from decide_eq_true (fun z => c_13 (gm_pi_7 z))]; rfl) ?_
    exact sv_sub [2, 1, 0] rfl k_21
end SR18
