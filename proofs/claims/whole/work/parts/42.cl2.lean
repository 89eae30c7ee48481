section CP2
variable {G : sm_G} {h : sm_H} {a b n g k p : Nat} {P P2 : Nat → Nat} {c c2 : Nat} {O O2 : Nat → Nat}
/-- what the end of a round takes -/
def cp_lost (P : Nat → Nat) (wx : Nat) : Nat := cp_ls P wx + cp_lf P + cp_lc P
theorem cp_le (P : Nat → Nat) : cp_lf P ≤ P 2 ∧ cp_lr P ≤ P 1 ∧ cp_lc P ≤ P 3 := by unfold cp_lc cp_lr cp_lf cp_ov; omega
theorem cp_en_1 {P : Nat → Nat} {wx : Nat} (h : wx = 1) : ∀ w, w < 8 → va_up (cp_lo P 3).1 1 ((cp_lo P 3).1 1 - ((cp_lo P 3).1 1 + 1) / 2) w = cp_en P wx w := by
  intro w hw
  obtain ⟨e0, e1, e2, e3⟩ := cp_lo_3 (P := P)
  have o : ∀ w, w = 0 ∨ 4 ≤ w → (cp_lo P 3).1 w = P w := fun w => cp_lo_o
  have := cp_le P
  unfold va_up cp_en cp_ls
  rw [if_pos h]
  rcases (show w = 0 ∨ w = 1 ∨ w = 2 ∨ w = 3 ∨ 4 ≤ w by omega) with rfl | rfl | rfl | rfl | hw
  · rw [if_neg (by omega), if_neg (by omega), if_neg (by omega), if_neg (by omega), o 0 (by omega)]
  · rw [if_pos rfl, if_pos rfl, e1]; omega
  · rw [if_neg (by omega), if_neg (by omega), if_pos rfl, e2]
  · rw [if_neg (by omega), if_neg (by omega), if_neg (by omega), if_pos rfl, e3]
  · rw [if_neg (by omega), if_neg (by omega), if_neg (by omega), if_neg (by omega), o w (by omega)]
theorem cp_en_0 {P : Nat → Nat} {wx : Nat} (h : wx ≠ 1) : ∀ w, w < 8 → (cp_lo P 3).1 w = cp_en P wx w := by
  intro w hw
  obtain ⟨e0, e1, e2, e3⟩ := cp_lo_3 (P := P)
  have o : ∀ w, w = 0 ∨ 4 ≤ w → (cp_lo P 3).1 w = P w := fun w => cp_lo_o
  unfold cp_en cp_ls
  rw [if_neg h]
  rcases (show w = 0 ∨ w = 1 ∨ w = 2 ∨ w = 3 ∨ 4 ≤ w by omega) with rfl | rfl | rfl | rfl | hw
  · rw [if_neg (by omega), if_neg (by omega), if_neg (by omega), o 0 (by omega)]
  · rw [if_pos rfl, e1]; omega
  · rw [if_neg (by omega), if_pos rfl, e2]
  · rw [if_neg (by omega), if_neg (by omega), if_pos rfl, e3]
  · rw [if_neg (by omega), if_neg (by omega), if_neg (by omega), o w (by omega)]
theorem k3_loseGoods (hp : cl_hp G h a P) (hc : c < 2 ^ 31) (h1 : P 1 < 2 ^ 28) (h2 : P 2 < 2 ^ 28) (h3 : P 3 < 2 ^ 28) (h4 : P 4 < 2 ^ 28) : sm_F G mX3_loseGoods 0 [.ref a, .int (nI c)] h (.inl (some (.int (nI (cp_lost P c))))) (cl_p G h a (cp_en P c)) := by
  unfold sm_F sm_C
  show sm_V G _ _ _ 0 0 0 [(0, .ref a), (1, .int (nI c))] [] _
  refine sv_heap (pl_self hp) ?_
  refine sv_iconst (nI 0) dX3_loseGoods_0 (by decide) ?_
  refine sv_istore_n (lv' := [(2, _), (0, _), (1, _)]) dX3_loseGoods_1 (by decide) rfl ?_
  refine sv_getsN 0 rfl dX3_loseGoods_2 sg_X3_57 ?_
  refine sv_astore_n (lv' := [(3, _), (2, _), (0, _), (1, _)]) dX3_loseGoods_5 (by decide) rfl ?_
  refine sv_aload_n dX3_loseGoods_6 rfl ?_
  refine sv_slen (v := nI 3) 0 rfl dX3_loseGoods_7 rfl ?_
  refine sv_istore (lv' := [(4, _), (3, _), (2, _), (0, _), (1, _)]) dX3_loseGoods_8 (by decide) rfl ?_
  refine sv_iconst (nI 0) dX3_loseGoods_10 (by decide) ?_
  refine sv_istore (lv' := [(5, _), (4, _), (3, _), (2, _), (0, _), (1, _)]) dX3_loseGoods_11 (by decide) rfl ?_
  refine sv_sub [0, 3, 4, 5, 2, 1] rfl (sv_loop (pc := 13) (lv := fun n => [(5, .int (nI n)), (2, .int (nI (cp_lo P n).2)), (0, .ref a), (1, .int (nI c)), (3, .ref (sm_sa G 0)), (4, .int (nI 3))]) (hp := fun n => (cl_p G h a (cp_lo P n).1)) (I := fun n => True) (N := 3) (trivial) ?_ ?_)
  · intro hI
    show sm_V G _ _ _ _ _ _ [(5, .int (nI 3)), (2, .int (nI (cp_lo P 3).2)), (0, .ref a), (1, .int (nI c)), (3, .ref (sm_sa G 0)), (4, .int (nI 3))] [] (cl_p G h a (cp_lo P 3).1)
    obtain ⟨e0, e1, e2, e3⟩ := cp_lo_3 (P := P); have o4 := cp_le P
    refine sv_iload dX3_loseGoods_13 rfl ?_
    refine sv_iload dX3_loseGoods_15 rfl ?_
    refine sv_icmpN_ge 107 dX3_loseGoods_17 (by decide) (by omega) (by omega) (fun c_17 => ?_) (fun c_17 => absurd c_17 (by omega))
    refine sv_iload_n dX3_loseGoods_107 rfl ?_
    refine sv_iconst (nI 1) dX3_loseGoods_108 (by decide) ?_
    refine sv_icmpN_ne 137 dX3_loseGoods_109 (by decide) (by omega) (by omega) (fun c_109 => ?_) (fun c_109 => ?_)
    · refine sv_iload_n dX3_loseGoods_137 rfl ?_
      refine sv_iret dX3_loseGoods_138 rfl rfl (Nat.le_refl _) (Nat.le_refl _) ?_
      first | exact ⟨ri (by unfold cp_lost cp_ls; rw [if_pos c_109]; omega), pl_eq (cp_en_1 c_109)⟩ | exact ⟨ri (by unfold cp_lost cp_ls; rw [if_neg c_109]; omega), pl_eq (cp_en_0 c_109)⟩
    · refine sv_aload_n dX3_loseGoods_112 rfl ?_
      refine kp_g0 pl_h dX3_loseGoods_113 sf_X3_9 ?_
      refine sv_iconst (nI 0) dX3_loseGoods_116 (by decide) ?_
      refine kp_ld0 pl_h dX3_loseGoods_117 ?_
      refine sv_iconst (nI 1) dX3_loseGoods_118 (by decide) ?_
      refine sv_iaddN dX3_loseGoods_119 ?_
      refine sv_iconst (nI 2) dX3_loseGoods_120 (by decide) ?_
      refine sv_idivN dX3_loseGoods_121 (by omega) (by omega) (by omega) ?_
      refine sv_istore_n (lv' := [(3, _), (5, _), (2, _), (0, _), (1, _), (4, _)]) dX3_loseGoods_122 (by decide) rfl ?_
      refine sv_aload_n dX3_loseGoods_123 rfl ?_
      refine kp_g0 pl_h dX3_loseGoods_124 sf_X3_9 ?_
      refine sv_iconst (nI 0) dX3_loseGoods_127 (by decide) ?_
      refine sv_dup2 dX3_loseGoods_128 rfl rfl ?_
      refine kp_ld0 pl_h dX3_loseGoods_129 ?_
      refine sv_iload_n dX3_loseGoods_130 rfl ?_
      refine sv_isubN dX3_loseGoods_131 (by omega) ?_
      refine kp_st0 dX3_loseGoods_132 ?_
      refine sv_iload_n dX3_loseGoods_133 rfl ?_
      refine sv_iload_n dX3_loseGoods_134 rfl ?_
      refine sv_iaddN dX3_loseGoods_135 ?_
      refine sv_istore_n (lv' := [(2, _), (3, _), (5, _), (0, _), (1, _), (4, _)]) dX3_loseGoods_136 (by decide) rfl ?_
      refine sv_iload_n dX3_loseGoods_137 rfl ?_
      refine sv_iret dX3_loseGoods_138 rfl rfl (Nat.le_refl _) (Nat.le_refl _) ?_
      first | exact ⟨ri (by unfold cp_lost cp_ls; rw [if_pos c_109]; omega), pl_eq (cp_en_1 c_109)⟩ | exact ⟨ri (by unfold cp_lost cp_ls; rw [if_neg c_109]; omega), pl_eq (cp_en_0 c_109)⟩
  · intro n hn hI ih
    show sm_V G _ _ _ _ _ _ [(5, .int (nI n)), (2, .int (nI (cp_lo P n).2)), (0, .ref a), (1, .int (nI c)), (3, .ref (sm_sa G 0)), (4, .int (nI 3))] [] (cl_p G h a (cp_lo P n).1)
    refine sv_iload dX3_loseGoods_13 rfl ?_
    refine sv_iload dX3_loseGoods_15 rfl ?_
    refine sv_icmpN_ge 107 dX3_loseGoods_17 (by decide) (by omega) (by omega) (fun c_17 => absurd c_17 (by omega)) (fun c_17 => ?_)
    rcases (show n = 0 ∨ n = 1 ∨ n = 2 by omega) with rfl | rfl | rfl
    · have t1 : (cp_lo P 0).1 1 ≤ P 1 := cp_lo_le; have t2 : (cp_lo P 0).1 2 ≤ P 2 := cp_lo_le; have t3 : (cp_lo P 0).1 3 ≤ P 3 := cp_lo_le; have t4 : (cp_lo P 0).1 4 = P 4 := cp_lo_o (by omega)
      have eg : cp_gn (cp_lo P 0).1 1 = min ((cp_lo P 0).1 1 + (cp_lo P 0).1 2 + (cp_lo P 0).1 3 - (cp_lo P 0).1 4) ((cp_lo P 0).1 2) := rfl
      refine sv_aload_n dX3_loseGoods_20 rfl ?_
      refine sv_iload dX3_loseGoods_21 rfl ?_
      refine sv_sald (v := nI 1) 0 rfl dX3_loseGoods_23 (vp_in_nI (by decide) (by decide)) rfl ?_
      refine sv_istore (lv' := [(6, _), (5, _), (2, _), (0, _), (1, _), (3, _), (4, _)]) dX3_loseGoods_24 (by decide) rfl ?_
      refine sv_aload_n dX3_loseGoods_26 rfl ?_
      refine kp_g0 pl_h dX3_loseGoods_27 sf_X3_9 ?_
      refine sv_iconst (nI 0) dX3_loseGoods_30 (by decide) ?_
      refine kp_ld0 pl_h dX3_loseGoods_31 ?_
      refine sv_aload_n dX3_loseGoods_32 rfl ?_
      refine kp_g0 pl_h dX3_loseGoods_33 sf_X3_9 ?_
      refine sv_iconst (nI 1) dX3_loseGoods_36 (by decide) ?_
      refine kp_ld1 pl_h dX3_loseGoods_37 ?_
      refine sv_iaddN dX3_loseGoods_38 ?_
      refine sv_aload_n dX3_loseGoods_39 rfl ?_
      refine kp_g0 pl_h dX3_loseGoods_40 sf_X3_9 ?_
      refine sv_iconst (nI 2) dX3_loseGoods_43 (by decide) ?_
      refine kp_ld2 pl_h dX3_loseGoods_44 ?_
      refine sv_iaddN dX3_loseGoods_45 ?_
      refine sv_aload_n dX3_loseGoods_46 rfl ?_
      refine kp_g2 pl_h dX3_loseGoods_47 sf_X3_19 ?_
      rcases Nat.lt_or_ge ((cp_lo P 0).1 1 + (cp_lo P 0).1 2 + (cp_lo P 0).1 3) ((cp_lo P 0).1 4) with hr | hr
      · refine sv_isub dX3_loseGoods_50 ?_
        refine sv_istore (lv' := [(7, _), (6, _), (5, _), (2, _), (0, _), (1, _), (3, _), (4, _)]) dX3_loseGoods_51 (by decide) rfl ?_
        refine sv_iload dX3_loseGoods_53 rfl ?_
        refine sv_aload_n dX3_loseGoods_55 rfl ?_
        refine kp_g0 pl_h dX3_loseGoods_56 sf_X3_9 ?_
        refine sv_iload dX3_loseGoods_59 rfl ?_
        refine kp_ld1 pl_h dX3_loseGoods_61 ?_
        refine sv_icmp_ge 70 dX3_loseGoods_62 (by decide) (fun c_62 => absurd c_62 (Int32.not_le.mpr (Int32.lt_of_lt_of_le (pk_sneg (by omega) hr) (nI_pos' (by omega))))) (fun c_62 => ?_)
        refine sv_iload dX3_loseGoods_65 rfl ?_
        refine sv_goto 77 dX3_loseGoods_67 (by decide) ?_
        refine sv_istore (lv' := [(8, _), (7, _), (6, _), (5, _), (2, _), (0, _), (1, _), (3, _), (4, _)]) dX3_loseGoods_77 (by decide) rfl ?_
        refine sv_iload dX3_loseGoods_79 rfl ?_
        refine sv_if_le 101 dX3_loseGoods_81 (by decide) (fun c_81 => ?_) (fun c_81 => absurd c_81 (fun q => q (Int32.le_of_lt (pk_sneg (by omega) hr))))
        have e9 := cp_lo_0 (P := P) (n := 0) (g := 1) rfl (by omega)
        rw [e9] at ih
        refine sv_iinc1 (lv' := [(5, _), (8, _), (7, _), (6, _), (2, _), (0, _), (1, _), (3, _), (4, _)]) dX3_loseGoods_101 rfl (by decide) rfl (sv_goto 13 dX3_loseGoods_104 (by decide) (sv_sub [0, 4, 5, 6, 7, 8] rfl (ih trivial)))
      · refine sv_isubN dX3_loseGoods_50 hr ?_
        refine sv_istore (lv' := [(7, _), (6, _), (5, _), (2, _), (0, _), (1, _), (3, _), (4, _)]) dX3_loseGoods_51 (by decide) rfl ?_
        refine sv_iload dX3_loseGoods_53 rfl ?_
        refine sv_aload_n dX3_loseGoods_55 rfl ?_
        refine kp_g0 pl_h dX3_loseGoods_56 sf_X3_9 ?_
        refine sv_iload dX3_loseGoods_59 rfl ?_
        refine kp_ld1 pl_h dX3_loseGoods_61 ?_
        refine sv_icmpN_ge 70 dX3_loseGoods_62 (by decide) (by omega) (by omega) (fun c_62 => ?_) (fun c_62 => ?_)
        · refine sv_aload_n dX3_loseGoods_70 rfl ?_
          refine kp_g0 pl_h dX3_loseGoods_71 sf_X3_9 ?_
          refine sv_iload dX3_loseGoods_74 rfl ?_
          refine kp_ld1 pl_h dX3_loseGoods_76 ?_
          refine sv_top (nI (cp_gn (cp_lo P 0).1 1)) (congrArg nI (by rw [eg]; omega)) ?_
          refine sv_istore (lv' := [(8, _), (7, _), (6, _), (5, _), (2, _), (0, _), (1, _), (3, _), (4, _)]) dX3_loseGoods_77 (by decide) rfl ?_
          refine sv_iload dX3_loseGoods_79 rfl ?_
          refine sv_ifN_le 101 dX3_loseGoods_81 (by decide) (by omega) (fun c_81 => ?_) (fun c_81 => ?_)
          · have e9 := cp_lo_0 (P := P) (n := 0) (g := 1) rfl (by omega)
            rw [e9] at ih
            refine sv_iinc1 (lv' := [(5, _), (8, _), (7, _), (6, _), (2, _), (0, _), (1, _), (3, _), (4, _)]) dX3_loseGoods_101 rfl (by decide) rfl (sv_goto 13 dX3_loseGoods_104 (by decide) (sv_sub [0, 4, 5, 6, 7, 8] rfl (ih trivial)))
          · refine sv_aload_n dX3_loseGoods_84 rfl ?_
            refine kp_g0 pl_h dX3_loseGoods_85 sf_X3_9 ?_
            refine sv_iload dX3_loseGoods_88 rfl ?_
            refine sv_dup2 dX3_loseGoods_90 rfl rfl ?_
            refine kp_ld1 pl_h dX3_loseGoods_91 ?_
            refine sv_iload dX3_loseGoods_92 rfl ?_
            refine sv_isubN dX3_loseGoods_94 (by omega) ?_
            refine kp_st1 dX3_loseGoods_95 ?_
            refine sv_iload_n dX3_loseGoods_96 rfl ?_
            refine sv_iload dX3_loseGoods_97 rfl ?_
            refine sv_iaddN dX3_loseGoods_99 ?_
            refine sv_istore_n (lv' := [(2, _), (8, _), (7, _), (6, _), (5, _), (0, _), (1, _), (3, _), (4, _)]) dX3_loseGoods_100 (by decide) rfl ?_
            refine sv_iinc1 (lv' := [(5, _), (2, _), (8, _), (7, _), (6, _), (0, _), (1, _), (3, _), (4, _)]) dX3_loseGoods_101 rfl (by decide) rfl (sv_goto 13 dX3_loseGoods_104 (by decide) (sv_sub [0, 1, 5, 6, 7, 8] rfl (ih trivial)))
        · refine sv_iload dX3_loseGoods_65 rfl ?_
          refine sv_goto 77 dX3_loseGoods_67 (by decide) ?_
          refine sv_top (nI (cp_gn (cp_lo P 0).1 1)) (congrArg nI (by rw [eg]; omega)) ?_
          refine sv_istore (lv' := [(8, _), (7, _), (6, _), (5, _), (2, _), (0, _), (1, _), (3, _), (4, _)]) dX3_loseGoods_77 (by decide) rfl ?_
          refine sv_iload dX3_loseGoods_79 rfl ?_
          refine sv_ifN_le 101 dX3_loseGoods_81 (by decide) (by omega) (fun c_81 => ?_) (fun c_81 => ?_)
          · have e9 := cp_lo_0 (P := P) (n := 0) (g := 1) rfl (by omega)
            rw [e9] at ih
            refine sv_iinc1 (lv' := [(5, _), (8, _), (7, _), (6, _), (2, _), (0, _), (1, _), (3, _), (4, _)]) dX3_loseGoods_101 rfl (by decide) rfl (sv_goto 13 dX3_loseGoods_104 (by decide) (sv_sub [0, 4, 5, 6, 7, 8] rfl (ih trivial)))
          · refine sv_aload_n dX3_loseGoods_84 rfl ?_
            refine kp_g0 pl_h dX3_loseGoods_85 sf_X3_9 ?_
            refine sv_iload dX3_loseGoods_88 rfl ?_
            refine sv_dup2 dX3_loseGoods_90 rfl rfl ?_
            refine kp_ld1 pl_h dX3_loseGoods_91 ?_
            refine sv_iload dX3_loseGoods_92 rfl ?_
            refine sv_isubN dX3_loseGoods_94 (by omega) ?_
            refine kp_st1 dX3_loseGoods_95 ?_
            refine sv_iload_n dX3_loseGoods_96 rfl ?_
            refine sv_iload dX3_loseGoods_97 rfl ?_
            refine sv_iaddN dX3_loseGoods_99 ?_
            refine sv_istore_n (lv' := [(2, _), (8, _), (7, _), (6, _), (5, _), (0, _), (1, _), (3, _), (4, _)]) dX3_loseGoods_100 (by decide) rfl ?_
            refine sv_iinc1 (lv' := [(5, _), (2, _), (8, _), (7, _), (6, _), (0, _), (1, _), (3, _), (4, _)]) dX3_loseGoods_101 rfl (by decide) rfl (sv_goto 13 dX3_loseGoods_104 (by decide) (sv_sub [0, 1, 5, 6, 7, 8] rfl (ih trivial)))
    · have t1 : (cp_lo P 1).1 1 ≤ P 1 := cp_lo_le; have t2 : (cp_lo P 1).1 2 ≤ P 2 := cp_lo_le; have t3 : (cp_lo P 1).1 3 ≤ P 3 := cp_lo_le; have t4 : (cp_lo P 1).1 4 = P 4 := cp_lo_o (by omega)
      have eg : cp_gn (cp_lo P 1).1 0 = min ((cp_lo P 1).1 1 + (cp_lo P 1).1 2 + (cp_lo P 1).1 3 - (cp_lo P 1).1 4) ((cp_lo P 1).1 1) := rfl
      refine sv_aload_n dX3_loseGoods_20 rfl ?_
      refine sv_iload dX3_loseGoods_21 rfl ?_
      refine sv_sald (v := nI 0) 0 rfl dX3_loseGoods_23 (vp_in_nI (by decide) (by decide)) rfl ?_
      refine sv_istore (lv' := [(6, _), (5, _), (2, _), (0, _), (1, _), (3, _), (4, _)]) dX3_loseGoods_24 (by decide) rfl ?_
      refine sv_aload_n dX3_loseGoods_26 rfl ?_
      refine kp_g0 pl_h dX3_loseGoods_27 sf_X3_9 ?_
      refine sv_iconst (nI 0) dX3_loseGoods_30 (by decide) ?_
      refine kp_ld0 pl_h dX3_loseGoods_31 ?_
      refine sv_aload_n dX3_loseGoods_32 rfl ?_
      refine kp_g0 pl_h dX3_loseGoods_33 sf_X3_9 ?_
      refine sv_iconst (nI 1) dX3_loseGoods_36 (by decide) ?_
      refine kp_ld1 pl_h dX3_loseGoods_37 ?_
      refine sv_iaddN dX3_loseGoods_38 ?_
      refine sv_aload_n dX3_loseGoods_39 rfl ?_
      refine kp_g0 pl_h dX3_loseGoods_40 sf_X3_9 ?_
      refine sv_iconst (nI 2) dX3_loseGoods_43 (by decide) ?_
      refine kp_ld2 pl_h dX3_loseGoods_44 ?_
      refine sv_iaddN dX3_loseGoods_45 ?_
      refine sv_aload_n dX3_loseGoods_46 rfl ?_
      refine kp_g2 pl_h dX3_loseGoods_47 sf_X3_19 ?_
      rcases Nat.lt_or_ge ((cp_lo P 1).1 1 + (cp_lo P 1).1 2 + (cp_lo P 1).1 3) ((cp_lo P 1).1 4) with hr | hr
      · refine sv_isub dX3_loseGoods_50 ?_
        refine sv_istore (lv' := [(7, _), (6, _), (5, _), (2, _), (0, _), (1, _), (3, _), (4, _)]) dX3_loseGoods_51 (by decide) rfl ?_
        refine sv_iload dX3_loseGoods_53 rfl ?_
        refine sv_aload_n dX3_loseGoods_55 rfl ?_
        refine kp_g0 pl_h dX3_loseGoods_56 sf_X3_9 ?_
        refine sv_iload dX3_loseGoods_59 rfl ?_
        refine kp_ld0 pl_h dX3_loseGoods_61 ?_
        refine sv_icmp_ge 70 dX3_loseGoods_62 (by decide) (fun c_62 => absurd c_62 (Int32.not_le.mpr (Int32.lt_of_lt_of_le (pk_sneg (by omega) hr) (nI_pos' (by omega))))) (fun c_62 => ?_)
        refine sv_iload dX3_loseGoods_65 rfl ?_
        refine sv_goto 77 dX3_loseGoods_67 (by decide) ?_
        refine sv_istore (lv' := [(8, _), (7, _), (6, _), (5, _), (2, _), (0, _), (1, _), (3, _), (4, _)]) dX3_loseGoods_77 (by decide) rfl ?_
        refine sv_iload dX3_loseGoods_79 rfl ?_
        refine sv_if_le 101 dX3_loseGoods_81 (by decide) (fun c_81 => ?_) (fun c_81 => absurd c_81 (fun q => q (Int32.le_of_lt (pk_sneg (by omega) hr))))
        have e9 := cp_lo_0 (P := P) (n := 1) (g := 0) rfl (by omega)
        rw [e9] at ih
        refine sv_iinc1 (lv' := [(5, _), (8, _), (7, _), (6, _), (2, _), (0, _), (1, _), (3, _), (4, _)]) dX3_loseGoods_101 rfl (by decide) rfl (sv_goto 13 dX3_loseGoods_104 (by decide) (sv_sub [0, 4, 5, 6, 7, 8] rfl (ih trivial)))
      · refine sv_isubN dX3_loseGoods_50 hr ?_
        refine sv_istore (lv' := [(7, _), (6, _), (5, _), (2, _), (0, _), (1, _), (3, _), (4, _)]) dX3_loseGoods_51 (by decide) rfl ?_
        refine sv_iload dX3_loseGoods_53 rfl ?_
        refine sv_aload_n dX3_loseGoods_55 rfl ?_
        refine kp_g0 pl_h dX3_loseGoods_56 sf_X3_9 ?_
        refine sv_iload dX3_loseGoods_59 rfl ?_
        refine kp_ld0 pl_h dX3_loseGoods_61 ?_
        refine sv_icmpN_ge 70 dX3_loseGoods_62 (by decide) (by omega) (by omega) (fun c_62 => ?_) (fun c_62 => ?_)
        · refine sv_aload_n dX3_loseGoods_70 rfl ?_
          refine kp_g0 pl_h dX3_loseGoods_71 sf_X3_9 ?_
          refine sv_iload dX3_loseGoods_74 rfl ?_
          refine kp_ld0 pl_h dX3_loseGoods_76 ?_
          refine sv_top (nI (cp_gn (cp_lo P 1).1 0)) (congrArg nI (by rw [eg]; omega)) ?_
          refine sv_istore (lv' := [(8, _), (7, _), (6, _), (5, _), (2, _), (0, _), (1, _), (3, _), (4, _)]) dX3_loseGoods_77 (by decide) rfl ?_
          refine sv_iload dX3_loseGoods_79 rfl ?_
          refine sv_ifN_le 101 dX3_loseGoods_81 (by decide) (by omega) (fun c_81 => ?_) (fun c_81 => ?_)
          · have e9 := cp_lo_0 (P := P) (n := 1) (g := 0) rfl (by omega)
            rw [e9] at ih
            refine sv_iinc1 (lv' := [(5, _), (8, _), (7, _), (6, _), (2, _), (0, _), (1, _), (3, _), (4, _)]) dX3_loseGoods_101 rfl (by decide) rfl (sv_goto 13 dX3_loseGoods_104 (by decide) (sv_sub [0, 4, 5, 6, 7, 8] rfl (ih trivial)))
          · refine sv_aload_n dX3_loseGoods_84 rfl ?_
            refine kp_g0 pl_h dX3_loseGoods_85 sf_X3_9 ?_
            refine sv_iload dX3_loseGoods_88 rfl ?_
            refine sv_dup2 dX3_loseGoods_90 rfl rfl ?_
            refine kp_ld0 pl_h dX3_loseGoods_91 ?_
            refine sv_iload dX3_loseGoods_92 rfl ?_
            refine sv_isubN dX3_loseGoods_94 (by omega) ?_
            refine kp_st0 dX3_loseGoods_95 ?_
            refine sv_iload_n dX3_loseGoods_96 rfl ?_
            refine sv_iload dX3_loseGoods_97 rfl ?_
            refine sv_iaddN dX3_loseGoods_99 ?_
            refine sv_istore_n (lv' := [(2, _), (8, _), (7, _), (6, _), (5, _), (0, _), (1, _), (3, _), (4, _)]) dX3_loseGoods_100 (by decide) rfl ?_
            refine sv_iinc1 (lv' := [(5, _), (2, _), (8, _), (7, _), (6, _), (0, _), (1, _), (3, _), (4, _)]) dX3_loseGoods_101 rfl (by decide) rfl (sv_goto 13 dX3_loseGoods_104 (by decide) (sv_sub [0, 1, 5, 6, 7, 8] rfl (ih trivial)))
        · refine sv_iload dX3_loseGoods_65 rfl ?_
          refine sv_goto 77 dX3_loseGoods_67 (by decide) ?_
          refine sv_top (nI (cp_gn (cp_lo P 1).1 0)) (congrArg nI (by rw [eg]; omega)) ?_
          refine sv_istore (lv' := [(8, _), (7, _), (6, _), (5, _), (2, _), (0, _), (1, _), (3, _), (4, _)]) dX3_loseGoods_77 (by decide) rfl ?_
          refine sv_iload dX3_loseGoods_79 rfl ?_
          refine sv_ifN_le 101 dX3_loseGoods_81 (by decide) (by omega) (fun c_81 => ?_) (fun c_81 => ?_)
          · have e9 := cp_lo_0 (P := P) (n := 1) (g := 0) rfl (by omega)
            rw [e9] at ih
            refine sv_iinc1 (lv' := [(5, _), (8, _), (7, _), (6, _), (2, _), (0, _), (1, _), (3, _), (4, _)]) dX3_loseGoods_101 rfl (by decide) rfl (sv_goto 13 dX3_loseGoods_104 (by decide) (sv_sub [0, 4, 5, 6, 7, 8] rfl (ih trivial)))
          · refine sv_aload_n dX3_loseGoods_84 rfl ?_
            refine kp_g0 pl_h dX3_loseGoods_85 sf_X3_9 ?_
            refine sv_iload dX3_loseGoods_88 rfl ?_
            refine sv_dup2 dX3_loseGoods_90 rfl rfl ?_
            refine kp_ld0 pl_h dX3_loseGoods_91 ?_
            refine sv_iload dX3_loseGoods_92 rfl ?_
            refine sv_isubN dX3_loseGoods_94 (by omega) ?_
            refine kp_st0 dX3_loseGoods_95 ?_
            refine sv_iload_n dX3_loseGoods_96 rfl ?_
            refine sv_iload dX3_loseGoods_97 rfl ?_
            refine sv_iaddN dX3_loseGoods_99 ?_
            refine sv_istore_n (lv' := [(2, _), (8, _), (7, _), (6, _), (5, _), (0, _), (1, _), (3, _), (4, _)]) dX3_loseGoods_100 (by decide) rfl ?_
            refine sv_iinc1 (lv' := [(5, _), (2, _), (8, _), (7, _), (6, _), (0, _), (1, _), (3, _), (4, _)]) dX3_loseGoods_101 rfl (by decide) rfl (sv_goto 13 dX3_loseGoods_104 (by decide) (sv_sub [0, 1, 5, 6, 7, 8] rfl (ih trivial)))
    · have t1 : (cp_lo P 2).1 1 ≤ P 1 := cp_lo_le; have t2 : (cp_lo P 2).1 2 ≤ P 2 := cp_lo_le; have t3 : (cp_lo P 2).1 3 ≤ P 3 := cp_lo_le; have t4 : (cp_lo P 2).1 4 = P 4 := cp_lo_o (by omega)
      have eg : cp_gn (cp_lo P 2).1 2 = min ((cp_lo P 2).1 1 + (cp_lo P 2).1 2 + (cp_lo P 2).1 3 - (cp_lo P 2).1 4) ((cp_lo P 2).1 3) := rfl
      refine sv_aload_n dX3_loseGoods_20 rfl ?_
      refine sv_iload dX3_loseGoods_21 rfl ?_
      refine sv_sald (v := nI 2) 0 rfl dX3_loseGoods_23 (vp_in_nI (by decide) (by decide)) rfl ?_
      refine sv_istore (lv' := [(6, _), (5, _), (2, _), (0, _), (1, _), (3, _), (4, _)]) dX3_loseGoods_24 (by decide) rfl ?_
      refine sv_aload_n dX3_loseGoods_26 rfl ?_
      refine kp_g0 pl_h dX3_loseGoods_27 sf_X3_9 ?_
      refine sv_iconst (nI 0) dX3_loseGoods_30 (by decide) ?_
      refine kp_ld0 pl_h dX3_loseGoods_31 ?_
      refine sv_aload_n dX3_loseGoods_32 rfl ?_
      refine kp_g0 pl_h dX3_loseGoods_33 sf_X3_9 ?_
      refine sv_iconst (nI 1) dX3_loseGoods_36 (by decide) ?_
      refine kp_ld1 pl_h dX3_loseGoods_37 ?_
      refine sv_iaddN dX3_loseGoods_38 ?_
      refine sv_aload_n dX3_loseGoods_39 rfl ?_
      refine kp_g0 pl_h dX3_loseGoods_40 sf_X3_9 ?_
      refine sv_iconst (nI 2) dX3_loseGoods_43 (by decide) ?_
      refine kp_ld2 pl_h dX3_loseGoods_44 ?_
      refine sv_iaddN dX3_loseGoods_45 ?_
      refine sv_aload_n dX3_loseGoods_46 rfl ?_
      refine kp_g2 pl_h dX3_loseGoods_47 sf_X3_19 ?_
      rcases Nat.lt_or_ge ((cp_lo P 2).1 1 + (cp_lo P 2).1 2 + (cp_lo P 2).1 3) ((cp_lo P 2).1 4) with hr | hr
      · refine sv_isub dX3_loseGoods_50 ?_
        refine sv_istore (lv' := [(7, _), (6, _), (5, _), (2, _), (0, _), (1, _), (3, _), (4, _)]) dX3_loseGoods_51 (by decide) rfl ?_
        refine sv_iload dX3_loseGoods_53 rfl ?_
        refine sv_aload_n dX3_loseGoods_55 rfl ?_
        refine kp_g0 pl_h dX3_loseGoods_56 sf_X3_9 ?_
        refine sv_iload dX3_loseGoods_59 rfl ?_
        refine kp_ld2 pl_h dX3_loseGoods_61 ?_
        refine sv_icmp_ge 70 dX3_loseGoods_62 (by decide) (fun c_62 => absurd c_62 (Int32.not_le.mpr (Int32.lt_of_lt_of_le (pk_sneg (by omega) hr) (nI_pos' (by omega))))) (fun c_62 => ?_)
        refine sv_iload dX3_loseGoods_65 rfl ?_
        refine sv_goto 77 dX3_loseGoods_67 (by decide) ?_
        refine sv_istore (lv' := [(8, _), (7, _), (6, _), (5, _), (2, _), (0, _), (1, _), (3, _), (4, _)]) dX3_loseGoods_77 (by decide) rfl ?_
        refine sv_iload dX3_loseGoods_79 rfl ?_
        refine sv_if_le 101 dX3_loseGoods_81 (by decide) (fun c_81 => ?_) (fun c_81 => absurd c_81 (fun q => q (Int32.le_of_lt (pk_sneg (by omega) hr))))
        have e9 := cp_lo_0 (P := P) (n := 2) (g := 2) rfl (by omega)
        rw [e9] at ih
        refine sv_iinc1 (lv' := [(5, _), (8, _), (7, _), (6, _), (2, _), (0, _), (1, _), (3, _), (4, _)]) dX3_loseGoods_101 rfl (by decide) rfl (sv_goto 13 dX3_loseGoods_104 (by decide) (sv_sub [0, 4, 5, 6, 7, 8] rfl (ih trivial)))
      · refine sv_isubN dX3_loseGoods_50 hr ?_
        refine sv_istore (lv' := [(7, _), (6, _), (5, _), (2, _), (0, _), (1, _), (3, _), (4, _)]) dX3_loseGoods_51 (by decide) rfl ?_
        refine sv_iload dX3_loseGoods_53 rfl ?_
        refine sv_aload_n dX3_loseGoods_55 rfl ?_
        refine kp_g0 pl_h dX3_loseGoods_56 sf_X3_9 ?_
        refine sv_iload dX3_loseGoods_59 rfl ?_
        refine kp_ld2 pl_h dX3_loseGoods_61 ?_
        refine sv_icmpN_ge 70 dX3_loseGoods_62 (by decide) (by omega) (by omega) (fun c_62 => ?_) (fun c_62 => ?_)
        · refine sv_aload_n dX3_loseGoods_70 rfl ?_
          refine kp_g0 pl_h dX3_loseGoods_71 sf_X3_9 ?_
          refine sv_iload dX3_loseGoods_74 rfl ?_
          refine kp_ld2 pl_h dX3_loseGoods_76 ?_
          refine sv_top (nI (cp_gn (cp_lo P 2).1 2)) (congrArg nI (by rw [eg]; omega)) ?_
          refine sv_istore (lv' := [(8, _), (7, _), (6, _), (5, _), (2, _), (0, _), (1, _), (3, _), (4, _)]) dX3_loseGoods_77 (by decide) rfl ?_
          refine sv_iload dX3_loseGoods_79 rfl ?_
          refine sv_ifN_le 101 dX3_loseGoods_81 (by decide) (by omega) (fun c_81 => ?_) (fun c_81 => ?_)
          · have e9 := cp_lo_0 (P := P) (n := 2) (g := 2) rfl (by omega)
            rw [e9] at ih
            refine sv_iinc1 (lv' := [(5, _), (8, _), (7, _), (6, _), (2, _), (0, _), (1, _), (3, _), (4, _)]) dX3_loseGoods_101 rfl (by decide) rfl (sv_goto 13 dX3_loseGoods_104 (by decide) (sv_sub [0, 4, 5, 6, 7, 8] rfl (ih trivial)))
          · refine sv_aload_n dX3_loseGoods_84 rfl ?_
            refine kp_g0 pl_h dX3_loseGoods_85 sf_X3_9 ?_
            refine sv_iload dX3_loseGoods_88 rfl ?_
            refine sv_dup2 dX3_loseGoods_90 rfl rfl ?_
            refine kp_ld2 pl_h dX3_loseGoods_91 ?_
            refine sv_iload dX3_loseGoods_92 rfl ?_
            refine sv_isubN dX3_loseGoods_94 (by omega) ?_
            refine kp_st2 dX3_loseGoods_95 ?_
            refine sv_iload_n dX3_loseGoods_96 rfl ?_
            refine sv_iload dX3_loseGoods_97 rfl ?_
            refine sv_iaddN dX3_loseGoods_99 ?_
            refine sv_istore_n (lv' := [(2, _), (8, _), (7, _), (6, _), (5, _), (0, _), (1, _), (3, _), (4, _)]) dX3_loseGoods_100 (by decide) rfl ?_
            refine sv_iinc1 (lv' := [(5, _), (2, _), (8, _), (7, _), (6, _), (0, _), (1, _), (3, _), (4, _)]) dX3_loseGoods_101 rfl (by decide) rfl (sv_goto 13 dX3_loseGoods_104 (by decide) (sv_sub [0, 1, 5, 6, 7, 8] rfl (ih trivial)))
        · refine sv_iload dX3_loseGoods_65 rfl ?_
          refine sv_goto 77 dX3_loseGoods_67 (by decide) ?_
          refine sv_top (nI (cp_gn (cp_lo P 2).1 2)) (congrArg nI (by rw [eg]; omega)) ?_
          refine sv_istore (lv' := [(8, _), (7, _), (6, _), (5, _), (2, _), (0, _), (1, _), (3, _), (4, _)]) dX3_loseGoods_77 (by decide) rfl ?_
          refine sv_iload dX3_loseGoods_79 rfl ?_
          refine sv_ifN_le 101 dX3_loseGoods_81 (by decide) (by omega) (fun c_81 => ?_) (fun c_81 => ?_)
          · have e9 := cp_lo_0 (P := P) (n := 2) (g := 2) rfl (by omega)
            rw [e9] at ih
            refine sv_iinc1 (lv' := [(5, _), (8, _), (7, _), (6, _), (2, _), (0, _), (1, _), (3, _), (4, _)]) dX3_loseGoods_101 rfl (by decide) rfl (sv_goto 13 dX3_loseGoods_104 (by decide) (sv_sub [0, 4, 5, 6, 7, 8] rfl (ih trivial)))
          · refine sv_aload_n dX3_loseGoods_84 rfl ?_
            refine kp_g0 pl_h dX3_loseGoods_85 sf_X3_9 ?_
            refine sv_iload dX3_loseGoods_88 rfl ?_
            refine sv_dup2 dX3_loseGoods_90 rfl rfl ?_
            refine kp_ld2 pl_h dX3_loseGoods_91 ?_
            refine sv_iload dX3_loseGoods_92 rfl ?_
            refine sv_isubN dX3_loseGoods_94 (by omega) ?_
            refine kp_st2 dX3_loseGoods_95 ?_
            refine sv_iload_n dX3_loseGoods_96 rfl ?_
            refine sv_iload dX3_loseGoods_97 rfl ?_
            refine sv_iaddN dX3_loseGoods_99 ?_
            refine sv_istore_n (lv' := [(2, _), (8, _), (7, _), (6, _), (5, _), (0, _), (1, _), (3, _), (4, _)]) dX3_loseGoods_100 (by decide) rfl ?_
            refine sv_iinc1 (lv' := [(5, _), (2, _), (8, _), (7, _), (6, _), (0, _), (1, _), (3, _), (4, _)]) dX3_loseGoods_101 rfl (by decide) rfl (sv_goto 13 dX3_loseGoods_104 (by decide) (sv_sub [0, 1, 5, 6, 7, 8] rfl (ih trivial)))
def cq_at (c : Nat) (O : Nat → Nat) (k : Nat) : Int32 := if k < c then nI (O k) else -1
/-- which is the first of another; 3: none -/
def cq_fo (c : Nat) (O : Nat → Nat) (p : Nat) : Nat := if 0 < c ∧ O 0 ≠ p then 0 else if 1 < c ∧ O 1 ≠ p then 1 else if 2 < c ∧ O 2 ≠ p then 2 else 3
theorem cq_fo_3 {c : Nat} {O : Nat → Nat} {p : Nat} (h : ∀ i, i < c → O i = p) : cq_fo c O p = 3 := by
  unfold cq_fo
  rw [if_neg (fun q => q.2 (h 0 q.1)), if_neg (fun q => q.2 (h 1 q.1)), if_neg (fun q => q.2 (h 2 q.1))]
theorem cq_fo_k {c : Nat} {O : Nat → Nat} {p k : Nat} (h : ∀ i, i < k → O i = p) (hk : k < c) (h3 : k < 3) (ho : O k ≠ p) : cq_fo c O p = k := by
  unfold cq_fo
  rcases (show k = 0 ∨ k = 1 ∨ k = 2 by omega) with rfl | rfl | rfl
  · rw [if_pos ⟨hk, ho⟩]
  · rw [if_neg (fun q => q.2 (h 0 (by omega))), if_pos ⟨hk, ho⟩]
  · rw [if_neg (fun q => q.2 (h 0 (by omega))), if_neg (fun q => q.2 (h 1 (by omega))), if_pos ⟨hk, ho⟩]
def cq_foi (c : Nat) (O : Nat → Nat) (p : Nat) : Int32 := if cq_fo c O p = 3 then -1 else nI (cq_fo c O p)
theorem cq_foi_3 {c : Nat} {O : Nat → Nat} {p : Nat} (h : ∀ i, i < c → O i = p) : -1 = cq_foi c O p := by unfold cq_foi; rw [cq_fo_3 h]; rfl
theorem cq_foi_k {c : Nat} {O : Nat → Nat} {p k : Nat} (h : ∀ i, i < k → O i = p) (hk : k < c) (h3 : k < 3) (ho : O k ≠ p) : nI k = cq_foi c O p := by unfold cq_foi; rw [cq_fo_k h hk h3 ho, if_neg (by omega)]
/-- those behind the place k move up, n of them -/
def cq_sh (O : Nat → Nat) (k n : Nat) : Nat → Nat := fun i => if k ≤ i ∧ i < k + n then O (i + 1) else O i
theorem cq_sh_0 (O : Nat → Nat) (k : Nat) : cq_sh O k 0 = O := by funext i; unfold cq_sh; rw [if_neg (by omega)]
theorem cq_sh_s {O : Nat → Nat} {k n : Nat} : va_up (cq_sh O k n) (k + n) (cq_sh O k n (k + n + 1)) = cq_sh O k (n + 1) := by
  funext i; unfold va_up cq_sh; (repeat' split) <;> first | rfl | omega | (subst_vars; first | rfl | omega)
theorem ql_h2 {c9 : Nat} {O9 : Nat → Nat} (hq2 : cl_hq G h b c2 O2) (hd : b + 1 < a ∨ a + 1 < b) : cl_hq G (cl_q G h a c9 O9) b c2 O2 := by
  refine ⟨?_, ?_⟩
  · unfold cl_q; rw [if_neg (by omega), if_neg (by omega)]; exact hq2.1
  · unfold cl_q; rw [if_neg (by omega), if_neg (by omega)]; exact hq2.2
def cq_c (O O2 : Nat → Nat) (n : Nat) : Nat → Nat := fun w => if w < n then O2 w else O w
theorem cq_c_s {O O2 : Nat → Nat} (n : Nat) : va_up (cq_c O O2 n) n (O2 n) = cq_c O O2 (n + 1) := by
  funext i; unfold va_up cq_c; (repeat' split) <;> first | rfl | omega | (subst_vars; rfl)
theorem cq_c_0 (O O2 : Nat → Nat) : cq_c O O2 0 = O := by funext i; unfold cq_c; rw [if_neg (by omega)]
theorem cq_c_3 (O O2 : Nat → Nat) : ∀ w, w < 3 → cq_c O O2 3 w = O2 w := fun w hw => if_pos hw
theorem k2_ownerAt (hq : cl_hq G h a c O) (hc : c ≤ 3) (hk : k < 2 ^ 31) : sm_F G mX2_ownerAt 0 [.ref a, .int (nI k)] h (.inl (some (.int (cq_at c O k)))) h := by
  unfold sm_F sm_C
  show sm_V G _ _ _ 0 0 0 [(0, .ref a), (1, .int (nI k))] [] _
  refine sv_iload_n dX2_ownerAt_0 rfl ?_
  refine sv_ifN_lt 26 dX2_ownerAt_1 (by decide) (by omega) (fun c_1 => absurd c_1 (fun q => q)) (fun c_1 => ?_)
  refine sv_iload_n dX2_ownerAt_4 rfl ?_
  refine sv_aload_n dX2_ownerAt_5 rfl ?_
  refine kq_g1 hq dX2_ownerAt_6 sf_X2_15 ?_
  refine sv_icmpN_ge 26 dX2_ownerAt_9 (by decide) (by omega) (by omega) (fun c_9 => ?_) (fun c_9 => ?_)
  · refine sv_iconst (-1) dX2_ownerAt_26 (by decide) ?_
    refine sv_iret dX2_ownerAt_27 rfl rfl (Nat.le_refl _) (Nat.le_refl _) ?_
    exact ⟨rI (by unfold cq_at; first | rw [if_pos (by omega)] | rw [if_neg (by omega)]), rfl⟩
  · refine sv_iload_n dX2_ownerAt_12 rfl ?_
    refine sv_iconst (nI 3) dX2_ownerAt_13 (by decide) ?_
    refine sv_icmpN_ge 26 dX2_ownerAt_14 (by decide) (by omega) (by omega) (fun c_14 => absurd c_14 (by omega)) (fun c_14 => ?_)
    refine sv_aload_n dX2_ownerAt_17 rfl ?_
    refine kq_g0 hq dX2_ownerAt_18 sf_X2_11 ?_
    refine sv_iload_n dX2_ownerAt_21 rfl ?_
    refine kq_ld hq dX2_ownerAt_22 (by omega) ?_
    refine sv_goto 27 dX2_ownerAt_23 (by decide) ?_
    refine sv_iret dX2_ownerAt_27 rfl rfl (Nat.le_refl _) (Nat.le_refl _) ?_
    exact ⟨rI (by unfold cq_at; first | rw [if_pos (by omega)] | rw [if_neg (by omega)]), rfl⟩
theorem k2_ownerAt1 (hq : cl_hq G h a c O) : sm_F G mX2_ownerAt 0 [.ref a, .int (-1)] h (.inl (some (.int (-1)))) h := by
  unfold sm_F sm_C
  show sm_V G _ _ _ 0 0 0 [(0, .ref a), (1, .int (-1))] [] _
  refine sv_iload_n dX2_ownerAt_0 rfl ?_
  refine sv_if_lt 26 dX2_ownerAt_1 (by decide) (fun c_1 => ?_) (fun c_1 => absurd c_1 (by decide))
  refine sv_iconst (-1) dX2_ownerAt_26 (by decide) ?_
  refine sv_iret dX2_ownerAt_27 rfl rfl (Nat.le_refl _) (Nat.le_refl _) ?_
  exact ⟨rfl, rfl⟩
theorem k2_findOther (hq : cl_hq G h a c O) (hc : c ≤ 3) (hp : p < 2 ^ 31) (ho : ∀ i, i < c → O i < 2 ^ 31) : sm_F G mX2_findOther 0 [.ref a, .int (nI p)] h (.inl (some (.int (cq_foi c O p)))) h := by
  unfold sm_F sm_C
  show sm_V G _ _ _ 0 0 0 [(0, .ref a), (1, .int (nI p))] [] _
  refine sv_iconst (nI 0) dX2_findOther_0 (by decide) ?_
  refine sv_istore_n (lv' := [(2, _), (0, _), (1, _)]) dX2_findOther_1 (by decide) rfl ?_
  refine sv_sub [0, 1, 2] rfl (sv_loop (pc := 2) (lv := fun n => [(2, .int (nI n)), (0, .ref a), (1, .int (nI p))]) (hp := fun n => h) (I := fun n => ∀ i, i < n → O i = p) (N := c) (fun i hi => absurd hi (Nat.not_lt_zero i)) ?_ ?_)
  · intro hI
    show sm_V G _ _ _ _ _ _ [(2, .int (nI c)), (0, .ref a), (1, .int (nI p))] [] h
    refine sv_iload_n dX2_findOther_2 rfl ?_
    refine sv_aload_n dX2_findOther_3 rfl ?_
    refine kq_g1 hq dX2_findOther_4 sf_X2_15 ?_
    refine sv_icmpN_ge 33 dX2_findOther_7 (by decide) (by first | omega | exact ho _ (by omega)) (by first | omega | exact ho _ (by omega)) (fun c_7 => ?_) (fun c_7 => absurd c_7 (by omega))
    refine sv_iconst (-1) dX2_findOther_33 (by decide) ?_
    refine sv_iret dX2_findOther_34 rfl rfl (Nat.le_refl _) (Nat.le_refl _) ?_
    exact ⟨rI (cq_foi_3 hI), rfl⟩
  · intro n hn hI ih
    show sm_V G _ _ _ _ _ _ [(2, .int (nI n)), (0, .ref a), (1, .int (nI p))] [] h
    refine sv_iload_n dX2_findOther_2 rfl ?_
    refine sv_aload_n dX2_findOther_3 rfl ?_
    refine kq_g1 hq dX2_findOther_4 sf_X2_15 ?_
    refine sv_icmpN_ge 33 dX2_findOther_7 (by decide) (by first | omega | exact ho _ (by omega)) (by first | omega | exact ho _ (by omega)) (fun c_7 => absurd c_7 (by omega)) (fun c_7 => ?_)
    refine sv_iload_n dX2_findOther_10 rfl ?_
    refine sv_iconst (nI 3) dX2_findOther_11 (by decide) ?_
    refine sv_icmpN_ge 33 dX2_findOther_12 (by decide) (by first | omega | exact ho _ (by omega)) (by first | omega | exact ho _ (by omega)) (fun c_12 => absurd c_12 (by omega)) (fun c_12 => ?_)
    refine sv_aload_n dX2_findOther_15 rfl ?_
    refine kq_g0 hq dX2_findOther_16 sf_X2_11 ?_
    refine sv_iload_n dX2_findOther_19 rfl ?_
    refine kq_ld hq dX2_findOther_20 (by first | omega | exact ho _ (by omega)) ?_
    refine sv_iload_n dX2_findOther_21 rfl ?_
    refine sv_icmpN_eq 27 dX2_findOther_22 (by decide) (by first | omega | exact ho _ (by omega)) (by first | omega | exact ho _ (by omega)) (fun c_22 => ?_) (fun c_22 => ?_)
    · refine sv_iinc1 (lv' := [(2, _), (0, _), (1, _)]) dX2_findOther_27 rfl (by decide) rfl ?_
      refine sv_goto 2 dX2_findOther_30 (by decide) ?_
      exact sv_sub [0, 1, 2] rfl (ih (fun i hi => (Nat.lt_succ_iff_lt_or_eq.mp hi).elim (hI i) (fun e => by rw [e]; exact c_22)))
    · refine sv_iload_n dX2_findOther_25 rfl ?_
      refine sv_iret dX2_findOther_26 rfl rfl (Nat.le_refl _) (Nat.le_refl _) ?_
      exact ⟨rI (cq_foi_k hI (by omega) (by omega) (by omega)), rfl⟩
theorem k2_add (hq : cl_hq G h a c O) (hc : c < 3) : sm_F G mX2_add 0 [.ref a, .int (nI p)] h (.inl none) (cl_q G h a (c + 1) (va_up O c p)) := by
  unfold sm_F sm_C
  show sm_V G _ _ _ 0 0 0 [(0, .ref a), (1, .int (nI p))] [] _
  refine sv_heap (ql_self hq) ?_
  refine sv_aload_n dX2_add_0 rfl ?_
  refine kq_g1 ql_h dX2_add_1 sf_X2_15 ?_
  refine sv_iconst (nI 3) dX2_add_4 (by decide) ?_
  refine sv_icmpN_ge 28 dX2_add_5 (by decide) (by omega) (by omega) (fun c_5 => absurd c_5 (by omega)) (fun c_5 => ?_)
  refine sv_aload_n dX2_add_8 rfl ?_
  refine kq_g0 ql_h dX2_add_9 sf_X2_11 ?_
  refine sv_aload_n dX2_add_12 rfl ?_
  refine kq_g1 ql_h dX2_add_13 sf_X2_15 ?_
  refine sv_iload_n dX2_add_16 rfl ?_
  refine kq_st dX2_add_17 (by omega) ?_
  refine sv_aload_n dX2_add_18 rfl ?_
  refine sv_dup dX2_add_19 rfl ?_
  refine kq_g1 ql_h dX2_add_20 sf_X2_15 ?_
  refine sv_iconst (nI 1) dX2_add_23 (by decide) ?_
  refine sv_iaddN dX2_add_24 ?_
  refine kq_p1 dX2_add_25 sf_X2_15 ?_
  refine sv_vret dX2_add_28 rfl (Nat.le_refl _) (Nat.le_refl _) ?_
  exact ⟨rfl, rfl⟩
theorem k2_copyFrom (hq : cl_hq G h a c O) (hq2 : cl_hq G h b c2 O2) (hd : b + 1 < a ∨ a + 1 < b) : sm_F G mX2_copyFrom 0 [.ref a, .ref b] h (.inl none) (cl_q G h a c2 O2) := by
  unfold sm_F sm_C
  show sm_V G _ _ _ 0 0 0 [(0, .ref a), (1, .ref b)] [] _
  refine sv_heap (ql_self hq) ?_
  refine sv_heap (congrArg (cl_q G h a c) (cq_c_0 O O2).symm) ?_
  refine sv_iconst (nI 0) dX2_copyFrom_0 (by decide) ?_
  refine sv_istore_n (lv' := [(2, _), (0, _), (1, _)]) dX2_copyFrom_1 (by decide) rfl ?_
  refine sv_sub [0, 1, 2] rfl (sv_loop (pc := 2) (lv := fun n => [(2, .int (nI n)), (0, .ref a), (1, .ref b)]) (hp := fun n => (cl_q G h a c (cq_c O O2 n))) (I := fun n => True) (N := 3) (trivial) ?_ ?_)
  · intro hI
    show sm_V G _ _ _ _ _ _ [(2, .int (nI 3)), (0, .ref a), (1, .ref b)] [] (cl_q G h a c (cq_c O O2 3))
    refine sv_iload_n dX2_copyFrom_2 rfl ?_
    refine sv_iconst (nI 3) dX2_copyFrom_3 (by decide) ?_
    refine sv_icmpN_ge 25 dX2_copyFrom_4 (by decide) (by omega) (by omega) (fun c_4 => ?_) (fun c_4 => absurd c_4 (by omega))
    refine sv_aload_n dX2_copyFrom_25 rfl ?_
    refine sv_aload_n dX2_copyFrom_26 rfl ?_
    refine kq_g1 (ql_h2 hq2 hd) dX2_copyFrom_27 sf_X2_15 ?_
    refine kq_p1 dX2_copyFrom_30 sf_X2_15 ?_
    refine sv_vret dX2_copyFrom_33 rfl (Nat.le_refl _) (Nat.le_refl _) ?_
    exact ⟨rfl, ql_eq (cq_c_3 O O2)⟩
  · intro n hn hI ih
    show sm_V G _ _ _ _ _ _ [(2, .int (nI n)), (0, .ref a), (1, .ref b)] [] (cl_q G h a c (cq_c O O2 n))
    refine sv_iload_n dX2_copyFrom_2 rfl ?_
    refine sv_iconst (nI 3) dX2_copyFrom_3 (by decide) ?_
    refine sv_icmpN_ge 25 dX2_copyFrom_4 (by decide) (by omega) (by omega) (fun c_4 => absurd c_4 (by omega)) (fun c_4 => ?_)
    refine sv_aload_n dX2_copyFrom_7 rfl ?_
    refine kq_g0 ql_h dX2_copyFrom_8 sf_X2_11 ?_
    refine sv_iload_n dX2_copyFrom_11 rfl ?_
    refine sv_aload_n dX2_copyFrom_12 rfl ?_
    refine kq_g0 (ql_h2 hq2 hd) dX2_copyFrom_13 sf_X2_11 ?_
    refine sv_iload_n dX2_copyFrom_16 rfl ?_
    refine kq_ld (ql_h2 hq2 hd) dX2_copyFrom_17 (by omega) ?_
    refine kq_st dX2_copyFrom_18 (by omega) ?_
    refine sv_heap (h' := (cl_q G h a c (cq_c O O2 (n + 1)))) (congrArg (cl_q G h a c) (cq_c_s n)) ?_
    refine sv_iinc1 (lv' := [(2, _), (0, _), (1, _)]) dX2_copyFrom_19 rfl (by decide) rfl ?_
    refine sv_goto 2 dX2_copyFrom_22 (by decide) ?_
    exact sv_sub [0, 1, 2] rfl (ih trivial)
end CP2
