section CAQ
variable {G : sm_G} {h : sm_H} {m n K : Nat} {V : mw_V} {R : mw_R} {t : mw_T}
theorem mw_rem0 : mw_rem V t 0 = V 0 := up_ne (by omega)
theorem mw_id : va_up V 0 ((V 0).1, (V 0).2) = V := up_id V 0
theorem mw_w0 {S : gm_S} {x : Int64} {Pt : Nat → Nat} {B : Nat → Int32} : cl_g G (mw G h m V R t) (m + 3) S x Pt B = mw G h m (va_up V 0 (S, x)) (va_up R 0 (Pt, B)) t := mw_w (k := 0) (by omega)
theorem mw_w1 {S : gm_S} {x : Int64} {Pt : Nat → Nat} {B : Nat → Int32} : cl_g G (mw G h m V R t) (m + 30) S x Pt B = mw G h m (va_up V 1 (S, x)) (va_up R 1 (Pt, B)) t := mw_w (k := 1) (by omega)
theorem k5_begin1 {w : Int32} {y : Int64} (hw : gm_in (nI 2) w (nI 4) = false) (h0 : h 0 = none) (hm : 0 < m) : sm_C G mX5_begin 6 1 6 [.ref m, .int w, .long y] (mw G h m V R t) (mQ G h m (.inr "java/lang/IllegalArgumentException") V t) := by
  unfold sm_C
  show sm_V G _ _ _ 0 0 0 [(0, .ref m), (1, .int w), (2, .long y)] [] _
  refine sv_iload_n dX5_begin_0 rfl ?_
  refine sv_iconst (nI 2) dX5_begin_1 (by decide) ?_
  refine sv_icmp_lt 10 dX5_begin_2 (by decide) (fun c_2 => ?_) (fun c_2 => ?_)
  · exact sv_throw 9 sx_iae rfl rfl rfl dX5_begin_10 dX5_begin_13 dX5_begin_14 dX5_begin_16 dX5_begin_19 ⟨(Nat.le_of_ble_eq_true rfl), (Nat.le_of_ble_eq_true rfl)⟩ ⟨(Nat.le_of_ble_eq_true rfl), (Nat.le_of_ble_eq_true rfl)⟩ (Nat.le_of_ble_eq_true rfl) (Nat.le_of_ble_eq_true rfl) ⟨rfl, _, mw_fg h0 hm⟩
  · refine sv_iload_n dX5_begin_5 rfl ?_
    refine sv_iconst (nI 4) dX5_begin_6 (by decide) ?_
    refine sv_icmp_le 20 dX5_begin_7 (by decide) (fun c_7 => absurd c_7 ((fun z => absurd (in_t (a := 2) (b := 4) (by omega) (by omega) c_2 z) (ne_t hw)) c_7)) (fun c_7 => ?_)
    exact sv_throw 9 sx_iae rfl rfl rfl dX5_begin_10 dX5_begin_13 dX5_begin_14 dX5_begin_16 dX5_begin_19 ⟨(Nat.le_of_ble_eq_true rfl), (Nat.le_of_ble_eq_true rfl)⟩ ⟨(Nat.le_of_ble_eq_true rfl), (Nat.le_of_ble_eq_true rfl)⟩ (Nat.le_of_ble_eq_true rfl) (Nat.le_of_ble_eq_true rfl) ⟨rfl, _, mw_fg h0 hm⟩
theorem k5_beginK {y : Int64} (hx : t.2.2.2.1 < 14) (hc : t.2.2.1 ≤ 14) (hn2 : 2 ≤ n) (hn : n ≤ 4) : sm_C G mX5_begin 3 0 0 [.ref m, .int (nI n), .long y] (mw G h m V R t) (mQ G h m (.inl (some (.int (nI (gm_die (gm_nx y)))))) (va_up (mw_rem V t) 0 (cg_new (V 0).1 n y, gm_nx y)) (mw_remT t)) := by
  unfold sm_C
  show sm_V G _ _ _ 0 0 0 [(0, .ref m), (1, .int (nI n)), (2, .long y)] [] _
  refine sv_iload_n dX5_begin_0 rfl ?_
  refine sv_iconst (nI 2) dX5_begin_1 (by decide) ?_
  refine sv_icmpN_lt 10 dX5_begin_2 (by decide) (by omega) (by omega) (fun c_2 => absurd c_2 (by omega)) (fun c_2 => ?_)
  refine sv_iload_n dX5_begin_5 rfl ?_
  refine sv_iconst (nI 4) dX5_begin_6 (by decide) ?_
  refine sv_icmpN_le 20 dX5_begin_7 (by decide) (by omega) (by omega) (fun c_7 => ?_) (fun c_7 => absurd c_7 (by omega))
  refine sv_aload_n dX5_begin_20 rfl ?_
  refine km_g3 dX5_begin_21 sf_X5_29 ?_
  refine sv_aload_n dX5_begin_24 rfl ?_
  refine km_g1 dX5_begin_25 sf_X5_19 ?_
  refine sv_callV (As := [_]) sc_X5_156 (k1_remember hx hc) rfl rfl (Nat.le_of_ble_eq_true rfl) dX5_begin_28 ⟨by decide, by decide⟩ ⟨Nat.zero_le _, Nat.zero_le _⟩ (Nat.le_of_ble_eq_true rfl) mw_h (List.cons_ne_nil _ _) rfl ?_
  refine sv_aload_n dX5_begin_31 rfl ?_
  refine km_g1 dX5_begin_32 sf_X5_19 ?_
  refine sv_iload_n dX5_begin_35 rfl ?_
  refine sv_lload_n dX5_begin_36 rfl ?_
  refine sv_callV (As := [_, _]) sc_X5_79 (mf_w (k := 0) (by omega) rfl (k0_startGame)) rfl rfl (Nat.le_of_ble_eq_true rfl) dX5_begin_37 ⟨by decide, by decide⟩ ⟨Nat.zero_le _, Nat.zero_le _⟩ (Nat.le_of_ble_eq_true rfl) (hg_0 mw_gn) (List.cons_ne_nil _ _) rfl ?_
  rw [mw_rem0]
  refine sv_aload_n dX5_begin_40 rfl ?_
  refine km_g1 dX5_begin_41 sf_X5_19 ?_
  refine kg_g7 (hg_0 mw_gn) dX5_begin_44 sf_X5_160 ?_
  refine sv_top (nI (gm_die (gm_nx y))) (congrArg nI (by rw [up_eq]; rfl)) ?_
  refine sv_iret dX5_begin_47 rfl rfl (Nat.le_refl _) (Nat.le_refl _) ?_
  exact mQi _ rfl rfl
theorem k5_place1 {q w : Int32} (hq : gm_in (nI 0) q (nI 5) = false) (h0 : h 0 = none) (hm : 0 < m) : sm_C G mX5_place 6 1 6 [.ref m, .int q, .int w] (mw G h m V R t) (mQ G h m (.inr "java/lang/IndexOutOfBoundsException") V t) := by
  unfold sm_C
  show sm_V G _ _ _ 0 0 0 [(0, .ref m), (1, .int q), (2, .int w)] [] _
  refine sv_iload_n dX5_place_0 rfl ?_
  refine sv_callS (As := [_]) sc_X5_129 (k5_isPlace) rfl rfl (Nat.le_of_ble_eq_true rfl) dX5_place_1 ⟨by decide, by decide⟩ ⟨Nat.zero_le _, Nat.zero_le _⟩ (Nat.le_of_ble_eq_true rfl) ?_
  refine sv_top (nI 0) (by rw [hq]; rfl) ?_
  refine sv_ifN_ne 17 dX5_place_4 (by decide) (by omega) (fun c_4 => absurd c_4 (by omega)) (fun c_4 => ?_)
  exact sv_throw 6 sx_ioo rfl rfl rfl dX5_place_7 dX5_place_10 dX5_place_11 dX5_place_13 dX5_place_16 ⟨(Nat.le_of_ble_eq_true rfl), (Nat.le_of_ble_eq_true rfl)⟩ ⟨(Nat.le_of_ble_eq_true rfl), (Nat.le_of_ble_eq_true rfl)⟩ (Nat.le_of_ble_eq_true rfl) (Nat.le_of_ble_eq_true rfl) ⟨rfl, _, mw_fg h0 hm⟩
theorem k5_place2 {q : Nat} {w : Int32} (hq : q < 6) (hch : gm_chR q w = false) (h0 : h 0 = none) (hm : 0 < m) : sm_C G mX5_place 6 1 6 [.ref m, .int (nI q), .int w] (mw G h m V R t) (mQ G h m (.inr "java/lang/IllegalArgumentException") V t) := by
  unfold sm_C
  show sm_V G _ _ _ 0 0 0 [(0, .ref m), (1, .int (nI q)), (2, .int w)] [] _
  refine sv_iload_n dX5_place_0 rfl ?_
  refine sv_callS (As := [_]) sc_X5_129 (k5_isPlace) rfl rfl (Nat.le_of_ble_eq_true rfl) dX5_place_1 ⟨by decide, by decide⟩ ⟨Nat.zero_le _, Nat.zero_le _⟩ (Nat.le_of_ble_eq_true rfl) ?_
  refine sv_top (nI 1) (by rw [gm_in_n (by omega) (by omega) (by omega), decide_eq_true ⟨by omega, by omega⟩]; rfl) ?_
  refine sv_ifN_ne 17 dX5_place_4 (by decide) (by omega) (fun c_4 => ?_) (fun c_4 => absurd c_4 (by omega))
  refine sv_iload_n dX5_place_17 rfl ?_
  refine sv_iload_n dX5_place_18 rfl ?_
  refine sv_callS (As := [_, _]) sc_X5_163 (k5_isChoice hq) rfl rfl (Nat.le_of_ble_eq_true rfl) dX5_place_19 ⟨by decide, by decide⟩ ⟨Nat.zero_le _, Nat.zero_le _⟩ (Nat.le_of_ble_eq_true rfl) ?_
  refine sv_top (nI 0) (by rw [hch]; rfl) ?_
  refine sv_ifN_ne 35 dX5_place_22 (by decide) (by omega) (fun c_22 => absurd c_22 (by omega)) (fun c_22 => ?_)
  exact sv_throw 10 sx_iae rfl rfl rfl dX5_place_25 dX5_place_28 dX5_place_29 dX5_place_31 dX5_place_34 ⟨(Nat.le_of_ble_eq_true rfl), (Nat.le_of_ble_eq_true rfl)⟩ ⟨(Nat.le_of_ble_eq_true rfl), (Nat.le_of_ble_eq_true rfl)⟩ (Nat.le_of_ble_eq_true rfl) (Nat.le_of_ble_eq_true rfl) ⟨rfl, _, mw_fg h0 hm⟩
theorem k5_place3 {q c : Nat} (hI : gm_I K (V 0).1) (hq : q < 6) (hc24 : c < 24) (hch : gm_ch q c = true) (hcan : gm_can (V 0).1 q c = false) (h0 : h 0 = none) (hm : 0 < m) : sm_C G mX5_place 6 1 6 [.ref m, .int (nI q), .int (nI c)] (mw G h m V R t) (mQ G h m (.inr "java/lang/IllegalStateException") V t) := by
  unfold sm_C
  show sm_V G _ _ _ 0 0 0 [(0, .ref m), (1, .int (nI q)), (2, .int (nI c))] [] _
  refine sv_iload_n dX5_place_0 rfl ?_
  refine sv_callS (As := [_]) sc_X5_129 (k5_isPlace) rfl rfl (Nat.le_of_ble_eq_true rfl) dX5_place_1 ⟨by decide, by decide⟩ ⟨Nat.zero_le _, Nat.zero_le _⟩ (Nat.le_of_ble_eq_true rfl) ?_
  refine sv_top (nI 1) (by rw [gm_in_n (by omega) (by omega) (by omega), decide_eq_true ⟨by omega, by omega⟩]; rfl) ?_
  refine sv_ifN_ne 17 dX5_place_4 (by decide) (by omega) (fun c_4 => ?_) (fun c_4 => absurd c_4 (by omega))
  refine sv_iload_n dX5_place_17 rfl ?_
  refine sv_iload_n dX5_place_18 rfl ?_
  refine sv_callS (As := [_, _]) sc_X5_163 (k5_isChoice hq) rfl rfl (Nat.le_of_ble_eq_true rfl) dX5_place_19 ⟨by decide, by decide⟩ ⟨Nat.zero_le _, Nat.zero_le _⟩ (Nat.le_of_ble_eq_true rfl) ?_
  refine sv_top (nI 1) (by rw [gm_chR_n (by omega), hch]; rfl) ?_
  refine sv_ifN_ne 35 dX5_place_22 (by decide) (by omega) (fun c_22 => ?_) (fun c_22 => absurd c_22 (by omega))
  refine sv_aload_n dX5_place_35 rfl ?_
  refine km_g1 dX5_place_36 sf_X5_19 ?_
  refine sv_iload_n dX5_place_39 rfl ?_
  refine sv_iload_n dX5_place_40 rfl ?_
  refine sv_callM (As := [_, _]) sc_X5_168 (mf_q (k := 0) (by omega) rfl (fun P9 B9 => ⟨_, _, rfl⟩) (k0_tryPlacing hI hq hc24 hch)) rfl rfl (Nat.le_of_ble_eq_true rfl) dX5_place_41 ⟨by decide, by decide⟩ ⟨Nat.zero_le _, Nat.zero_le _⟩ (Nat.le_of_ble_eq_true rfl) (hg_0 mw_gn) (List.cons_ne_nil _ _) rfl (fun R9 => ?_)
  refine sv_heap (congrArg (fun T => mw G h m T R9 t) mw_id) ?_
  refine sv_top (nI 0) (by rw [hcan]; rfl) ?_
  refine sv_ifN_ne 57 dX5_place_44 (by decide) (by omega) (fun c_44 => absurd c_44 (by omega)) (fun c_44 => ?_)
  exact sv_throw 11 sx_ise rfl rfl rfl dX5_place_47 dX5_place_50 dX5_place_51 dX5_place_53 dX5_place_56 ⟨(Nat.le_of_ble_eq_true rfl), (Nat.le_of_ble_eq_true rfl)⟩ ⟨(Nat.le_of_ble_eq_true rfl), (Nat.le_of_ble_eq_true rfl)⟩ (Nat.le_of_ble_eq_true rfl) (Nat.le_of_ble_eq_true rfl) ⟨rfl, _, mw_fg h0 hm⟩
theorem ax_who {S : gm_S} {q c : Nat} (hcan : gm_can S q c = true) : cg_bw S q = gm_who S q := by
  unfold cg_bw gm_who
  by_cases hf : gm_full S q = true
  · rw [if_pos hf, if_pos ⟨hf, (gm_can_fE hcan hf).1⟩]
  · rw [if_neg hf, if_neg (fun z => hf z.1)]
theorem k5_placeK {q c : Nat} (hI : gm_I K (V 0).1) (hq : q < 6) (hc24 : c < 24) (hch : gm_ch q c = true) (hcan : gm_can (V 0).1 q c = true) (hx : t.2.2.2.1 < 14) (hc : t.2.2.1 ≤ 14) (hK : K + 40 < 2 ^ 26) (hK9 : 12 ≤ K) : sm_C G mX5_place 4 0 0 [.ref m, .int (nI q), .int (nI c)] (mw G h m V R t) (mQ G h m (.inl (some (.int (gm_who (V 0).1 q)))) (va_up (mw_rem V t) 0 (gm_put true (V 0).1 (V 0).2 q c)) (mw_remT t)) := by
  unfold sm_C
  show sm_V G _ _ _ 0 0 0 [(0, .ref m), (1, .int (nI q)), (2, .int (nI c))] [] _
  obtain ⟨d3, d6, d0, d1, d2, d4, dK⟩ := cg_d hI
  obtain ⟨⟨j0, j01, j1, j2, j21⟩, jK, jK2, jw, j3, j31, j4, j5, j51, j6, jp, j10, ⟨jh, jps⟩, jpl, jow⟩ := gm_IJ hI (gm_on_i (gm_can_on hcan)).1
  have hI2 : gm_I K (mw_rem V t 0).1 := by rw [mw_rem0]; exact hI
  refine sv_iload_n dX5_place_0 rfl ?_
  refine sv_callS (As := [_]) sc_X5_129 (k5_isPlace) rfl rfl (Nat.le_of_ble_eq_true rfl) dX5_place_1 ⟨by decide, by decide⟩ ⟨Nat.zero_le _, Nat.zero_le _⟩ (Nat.le_of_ble_eq_true rfl) ?_
  refine sv_top (nI 1) (by rw [gm_in_n (by omega) (by omega) (by omega), decide_eq_true ⟨by omega, by omega⟩]; rfl) ?_
  refine sv_ifN_ne 17 dX5_place_4 (by decide) (by omega) (fun c_4 => ?_) (fun c_4 => absurd c_4 (by omega))
  refine sv_iload_n dX5_place_17 rfl ?_
  refine sv_iload_n dX5_place_18 rfl ?_
  refine sv_callS (As := [_, _]) sc_X5_163 (k5_isChoice hq) rfl rfl (Nat.le_of_ble_eq_true rfl) dX5_place_19 ⟨by decide, by decide⟩ ⟨Nat.zero_le _, Nat.zero_le _⟩ (Nat.le_of_ble_eq_true rfl) ?_
  refine sv_top (nI 1) (by rw [gm_chR_n (by omega), hch]; rfl) ?_
  refine sv_ifN_ne 35 dX5_place_22 (by decide) (by omega) (fun c_22 => ?_) (fun c_22 => absurd c_22 (by omega))
  refine sv_aload_n dX5_place_35 rfl ?_
  refine km_g1 dX5_place_36 sf_X5_19 ?_
  refine sv_iload_n dX5_place_39 rfl ?_
  refine sv_iload_n dX5_place_40 rfl ?_
  refine sv_callM (As := [_, _]) sc_X5_168 (mf_q (k := 0) (by omega) rfl (fun P9 B9 => ⟨_, _, rfl⟩) (k0_tryPlacing hI hq hc24 hch)) rfl rfl (Nat.le_of_ble_eq_true rfl) dX5_place_41 ⟨by decide, by decide⟩ ⟨Nat.zero_le _, Nat.zero_le _⟩ (Nat.le_of_ble_eq_true rfl) (hg_0 mw_gn) (List.cons_ne_nil _ _) rfl (fun R9 => ?_)
  refine sv_heap (congrArg (fun T => mw G h m T R9 t) mw_id) ?_
  refine sv_top (nI 1) (by rw [hcan]; rfl) ?_
  refine sv_ifN_ne 57 dX5_place_44 (by decide) (by omega) (fun c_44 => ?_) (fun c_44 => absurd c_44 (by omega))
  refine sv_aload_n dX5_place_57 rfl ?_
  refine km_g1 dX5_place_58 sf_X5_19 ?_
  refine sv_iload_n dX5_place_61 rfl ?_
  refine sv_callV (As := [_]) sc_X5_173 (mf_r mw_gn (k0_findBumped hq (by omega) (jw q hq) (by omega) (fun k hk => by have := jow q k hq hk; omega))) rfl rfl (Nat.le_of_ble_eq_true rfl) dX5_place_62 ⟨by decide, by decide⟩ ⟨Nat.zero_le _, Nat.zero_le _⟩ (Nat.le_of_ble_eq_true rfl) (hg_0 mw_gn) (List.cons_ne_nil _ _) rfl ?_
  refine sv_top _ (ax_who hcan) ?_
  refine sv_istore_n (lv' := [(3, _), (0, _), (1, _), (2, _)]) dX5_place_65 (by decide) rfl ?_
  refine sv_aload_n dX5_place_66 rfl ?_
  refine km_g3 dX5_place_67 sf_X5_29 ?_
  refine sv_aload_n dX5_place_70 rfl ?_
  refine km_g1 dX5_place_71 sf_X5_19 ?_
  refine sv_callV (As := [_]) sc_X5_156 (k1_remember hx hc) rfl rfl (Nat.le_of_ble_eq_true rfl) dX5_place_74 ⟨by decide, by decide⟩ ⟨Nat.zero_le _, Nat.zero_le _⟩ (Nat.le_of_ble_eq_true rfl) mw_h (List.cons_ne_nil _ _) rfl ?_
  refine sv_aload_n dX5_place_77 rfl ?_
  refine km_g1 dX5_place_78 sf_X5_19 ?_
  refine sv_iload_n dX5_place_81 rfl ?_
  refine sv_iload_n dX5_place_82 rfl ?_
  refine sv_callM (As := [_, _]) sc_X5_104 (mf_q (k := 0) (by omega) rfl (fun P9 B9 => ⟨_, _, rfl⟩) (k0_putWorkerK hI2 hq hc24 hch (by rw [mw_rem0]; exact hcan) hK hK9)) rfl rfl (Nat.le_of_ble_eq_true rfl) dX5_place_83 ⟨by decide, by decide⟩ ⟨Nat.zero_le _, Nat.zero_le _⟩ (Nat.le_of_ble_eq_true rfl) (hg_0 mw_gn) (List.cons_ne_nil _ _) rfl (fun R8 => ?_)
  rw [mw_rem0]
  refine sv_pop dX5_place_86 rfl ?_
  refine sv_iload_n dX5_place_87 rfl ?_
  refine sv_iret dX5_place_88 rfl rfl (Nat.le_refl _) (Nat.le_refl _) ?_
  exact mQi _ rfl rfl
theorem k5_pass1 (hI : gm_I K (V 0).1) (hon : gm_on (V 0).1 = false) (h0 : h 0 = none) (hm : 0 < m) : sm_C G mX5_pass 6 1 6 [.ref m] (mw G h m V R t) (mQ G h m (.inr "java/lang/IllegalStateException") V t) := by
  unfold sm_C
  show sm_V G _ _ _ 0 0 0 [(0, .ref m)] [] _
  obtain ⟨d3, d6, d0, d1, d2, d4, dK⟩ := cg_d hI
  refine sv_aload_n dX5_pass_0 rfl ?_
  refine km_g1 dX5_pass_1 sf_X5_19 ?_
  refine sv_callV (As := []) sc_X5_176 (mf_r mw_gn (k0_hasTurn (by omega) (by omega) (by omega))) rfl rfl (Nat.le_of_ble_eq_true rfl) dX5_pass_4 ⟨by decide, by decide⟩ ⟨Nat.zero_le _, Nat.zero_le _⟩ (Nat.le_of_ble_eq_true rfl) (hg_0 mw_gn) (List.cons_ne_nil _ _) rfl ?_
  refine sv_top (nI 0) (by rw [hon]; rfl) ?_
  refine sv_ifN_ne 20 dX5_pass_7 (by decide) (by omega) (fun c_7 => absurd c_7 (by omega)) (fun c_7 => ?_)
  exact sv_throw 12 sx_ise rfl rfl rfl dX5_pass_10 dX5_pass_13 dX5_pass_14 dX5_pass_16 dX5_pass_19 ⟨(Nat.le_of_ble_eq_true rfl), (Nat.le_of_ble_eq_true rfl)⟩ ⟨(Nat.le_of_ble_eq_true rfl), (Nat.le_of_ble_eq_true rfl)⟩ (Nat.le_of_ble_eq_true rfl) (Nat.le_of_ble_eq_true rfl) ⟨rfl, _, mw_fg h0 hm⟩
theorem k5_passK (hI : gm_I K (V 0).1) (hon : gm_on (V 0).1 = true) (hx : t.2.2.2.1 < 14) (hc : t.2.2.1 ≤ 14) (hK9 : 12 ≤ K) : sm_C G mX5_pass 4 0 0 [.ref m] (mw G h m V R t) (mQ G h m (.inl (some (.int (gm_cur (gm_pass true (V 0).1 (V 0).2).1)))) (va_up (mw_rem V t) 0 (gm_pass true (V 0).1 (V 0).2)) (mw_remT t)) := by
  unfold sm_C
  show sm_V G _ _ _ 0 0 0 [(0, .ref m)] [] _
  obtain ⟨d3, d6, d0, d1, d2, d4, dK⟩ := cg_d hI
  have hI2 : gm_I K (mw_rem V t 0).1 := by rw [mw_rem0]; exact hI
  have hon2 : gm_on (mw_rem V t 0).1 = true := by rw [mw_rem0]; exact hon
  obtain ⟨i3, i6, i0, i1, i2, i4, iK⟩ := cg_d (gm_pass_I (z := true) (x := (V 0).2) hI hon hK9)
  refine sv_aload_n dX5_pass_0 rfl ?_
  refine km_g1 dX5_pass_1 sf_X5_19 ?_
  refine sv_callV (As := []) sc_X5_176 (mf_r mw_gn (k0_hasTurn (by omega) (by omega) (by omega))) rfl rfl (Nat.le_of_ble_eq_true rfl) dX5_pass_4 ⟨by decide, by decide⟩ ⟨Nat.zero_le _, Nat.zero_le _⟩ (Nat.le_of_ble_eq_true rfl) (hg_0 mw_gn) (List.cons_ne_nil _ _) rfl ?_
  refine sv_top (nI 1) (by rw [hon]; rfl) ?_
  refine sv_ifN_ne 20 dX5_pass_7 (by decide) (by omega) (fun c_7 => ?_) (fun c_7 => absurd c_7 (by omega))
  refine sv_aload_n dX5_pass_20 rfl ?_
  refine km_g3 dX5_pass_21 sf_X5_29 ?_
  refine sv_aload_n dX5_pass_24 rfl ?_
  refine km_g1 dX5_pass_25 sf_X5_19 ?_
  refine sv_callV (As := [_]) sc_X5_156 (k1_remember hx hc) rfl rfl (Nat.le_of_ble_eq_true rfl) dX5_pass_28 ⟨by decide, by decide⟩ ⟨Nat.zero_le _, Nat.zero_le _⟩ (Nat.le_of_ble_eq_true rfl) mw_h (List.cons_ne_nil _ _) rfl ?_
  refine sv_aload_n dX5_pass_31 rfl ?_
  refine km_g1 dX5_pass_32 sf_X5_19 ?_
  refine sv_callV (As := []) sc_X5_97 (mf_w (k := 0) (by omega) rfl (k0_passTurnK hI2 hon2 hK9)) rfl rfl (Nat.le_of_ble_eq_true rfl) dX5_pass_35 ⟨by decide, by decide⟩ ⟨Nat.zero_le _, Nat.zero_le _⟩ (Nat.le_of_ble_eq_true rfl) (hg_0 mw_gn) (List.cons_ne_nil _ _) rfl ?_
  rw [mw_rem0]
  refine sv_pop dX5_pass_38 rfl ?_
  refine sv_aload_n dX5_pass_39 rfl ?_
  refine km_g1 dX5_pass_40 sf_X5_19 ?_
  refine sv_callV (As := []) sc_X5_181 (mf_r mw_gn (k0_whoseTurn (by rw [up_eq]; show (gm_pass true (V 0).1 (V 0).2).1 3 < _; omega) (by rw [up_eq]; show (gm_pass true (V 0).1 (V 0).2).1 6 < _; omega) (by rw [up_eq]; show (gm_pass true (V 0).1 (V 0).2).1 0 < _; omega))) rfl rfl (Nat.le_of_ble_eq_true rfl) dX5_pass_43 ⟨by decide, by decide⟩ ⟨Nat.zero_le _, Nat.zero_le _⟩ (Nat.le_of_ble_eq_true rfl) (hg_0 mw_gn) (List.cons_ne_nil _ _) rfl ?_
  refine sv_iret dX5_pass_46 rfl rfl (Nat.le_refl _) (Nat.le_refl _) ?_
  exact mQi _ (rI (by rw [up_eq])) rfl
theorem k5_play1 (hI : gm_I K (V 0).1) (hon : gm_on (V 0).1 = false) (h0 : h 0 = none) (hm : 0 < m) : sm_C G mX5_play 6 1 6 [.ref m] (mw G h m V R t) (mQ G h m (.inr "java/lang/IllegalStateException") V t) := by
  unfold sm_C
  show sm_V G _ _ _ 0 0 0 [(0, .ref m)] [] _
  obtain ⟨d3, d6, d0, d1, d2, d4, dK⟩ := cg_d hI
  refine sv_aload_n dX5_play_0 rfl ?_
  refine km_g1 dX5_play_1 sf_X5_19 ?_
  refine sv_callV (As := []) sc_X5_176 (mf_r mw_gn (k0_hasTurn (by omega) (by omega) (by omega))) rfl rfl (Nat.le_of_ble_eq_true rfl) dX5_play_4 ⟨by decide, by decide⟩ ⟨Nat.zero_le _, Nat.zero_le _⟩ (Nat.le_of_ble_eq_true rfl) (hg_0 mw_gn) (List.cons_ne_nil _ _) rfl ?_
  refine sv_top (nI 0) (by rw [hon]; rfl) ?_
  refine sv_ifN_ne 20 dX5_play_7 (by decide) (by omega) (fun c_7 => absurd c_7 (by omega)) (fun c_7 => ?_)
  exact sv_throw 12 sx_ise rfl rfl rfl dX5_play_10 dX5_play_13 dX5_play_14 dX5_play_16 dX5_play_19 ⟨(Nat.le_of_ble_eq_true rfl), (Nat.le_of_ble_eq_true rfl)⟩ ⟨(Nat.le_of_ble_eq_true rfl), (Nat.le_of_ble_eq_true rfl)⟩ (Nat.le_of_ble_eq_true rfl) (Nat.le_of_ble_eq_true rfl) ⟨rfl, _, mw_fg h0 hm⟩
theorem k5_playK (hI : gm_I K (V 0).1) (hon : gm_on (V 0).1 = true) (hx : t.2.2.2.1 < 14) (hc : t.2.2.1 ≤ 14) (hK : K + 40 < 2 ^ 26) (hK9 : 12 ≤ K) : sm_C G mX5_play 5 0 0 [.ref m] (mw G h m V R t) (mQ G h m (.inl (some (.int (gm_pans (V 0).1)))) (va_up (mw_rem V t) 0 (gm_play true (V 0).1 (V 0).2)) (mw_remT t)) := by
  unfold sm_C
  show sm_V G _ _ _ 0 0 0 [(0, .ref m)] [] _
  obtain ⟨d3, d6, d0, d1, d2, d4, dK⟩ := cg_d hI
  have hI2 : gm_I K (mw_rem V t 0).1 := by rw [mw_rem0]; exact hI
  have hon2 : gm_on (mw_rem V t 0).1 = true := by rw [mw_rem0]; exact hon
  refine sv_aload_n dX5_play_0 rfl ?_
  refine km_g1 dX5_play_1 sf_X5_19 ?_
  refine sv_callV (As := []) sc_X5_176 (mf_r mw_gn (k0_hasTurn (by omega) (by omega) (by omega))) rfl rfl (Nat.le_of_ble_eq_true rfl) dX5_play_4 ⟨by decide, by decide⟩ ⟨Nat.zero_le _, Nat.zero_le _⟩ (Nat.le_of_ble_eq_true rfl) (hg_0 mw_gn) (List.cons_ne_nil _ _) rfl ?_
  refine sv_top (nI 1) (by rw [hon]; rfl) ?_
  refine sv_ifN_ne 20 dX5_play_7 (by decide) (by omega) (fun c_7 => ?_) (fun c_7 => absurd c_7 (by omega))
  refine sv_aload_n dX5_play_20 rfl ?_
  refine km_g3 dX5_play_21 sf_X5_29 ?_
  refine sv_aload_n dX5_play_24 rfl ?_
  refine km_g1 dX5_play_25 sf_X5_19 ?_
  refine sv_callV (As := [_]) sc_X5_156 (k1_remember hx hc) rfl rfl (Nat.le_of_ble_eq_true rfl) dX5_play_28 ⟨by decide, by decide⟩ ⟨Nat.zero_le _, Nat.zero_le _⟩ (Nat.le_of_ble_eq_true rfl) mw_h (List.cons_ne_nil _ _) rfl ?_
  refine sv_aload_n dX5_play_31 rfl ?_
  refine km_g1 dX5_play_32 sf_X5_19 ?_
  refine sv_callM (As := []) sc_X5_184 (mf_q (k := 0) (by omega) rfl (fun P9 B9 => ⟨_, _, rfl⟩) (k0_playTurn hI2 hon2 hK hK9)) rfl rfl (Nat.le_of_ble_eq_true rfl) dX5_play_35 ⟨by decide, by decide⟩ ⟨Nat.zero_le _, Nat.zero_le _⟩ (Nat.le_of_ble_eq_true rfl) (hg_0 mw_gn) (List.cons_ne_nil _ _) rfl (fun R9 => ?_)
  rw [mw_rem0]
  refine sv_iret dX5_play_38 rfl rfl (Nat.le_refl _) (Nat.le_refl _) ?_
  exact mQi _ rfl rfl
theorem k5_set1 {w v : Int32} (hw : gm_in (nI 0) w (nI 2) = false) (h0 : h 0 = none) (hm : 0 < m) : sm_C G mX5_set 6 1 6 [.ref m, .int w, .int v] (mw G h m V R t) (mQ G h m (.inr "java/lang/IllegalArgumentException") V t) := by
  unfold sm_C
  show sm_V G _ _ _ 0 0 0 [(0, .ref m), (1, .int w), (2, .int v)] [] _
  refine sv_iload_n dX5_set_0 rfl ?_
  refine sv_iload_n dX5_set_1 rfl ?_
  refine sv_callS (As := [_, _]) sc_X5_187 (k5_isSettingValue0 hw) rfl rfl (Nat.le_of_ble_eq_true rfl) dX5_set_2 ⟨by decide, by decide⟩ ⟨Nat.zero_le _, Nat.zero_le _⟩ (Nat.le_of_ble_eq_true rfl) ?_
  refine sv_ifN_ne 18 dX5_set_5 (by decide) (by omega) (fun c_5 => absurd c_5 (by omega)) (fun c_5 => ?_)
  exact sv_throw 13 sx_iae rfl rfl rfl dX5_set_8 dX5_set_11 dX5_set_12 dX5_set_14 dX5_set_17 ⟨(Nat.le_of_ble_eq_true rfl), (Nat.le_of_ble_eq_true rfl)⟩ ⟨(Nat.le_of_ble_eq_true rfl), (Nat.le_of_ble_eq_true rfl)⟩ (Nat.le_of_ble_eq_true rfl) (Nat.le_of_ble_eq_true rfl) ⟨rfl, _, mw_fg h0 hm⟩
theorem k5_set2 {v : Int32} (hn : n < 3) (hs : gm_isS (nI n) v = false) (h0 : h 0 = none) (hm : 0 < m) : sm_C G mX5_set 6 1 6 [.ref m, .int (nI n), .int v] (mw G h m V R t) (mQ G h m (.inr "java/lang/IllegalArgumentException") V t) := by
  unfold sm_C
  show sm_V G _ _ _ 0 0 0 [(0, .ref m), (1, .int (nI n)), (2, .int v)] [] _
  refine sv_iload_n dX5_set_0 rfl ?_
  refine sv_iload_n dX5_set_1 rfl ?_
  refine sv_callS (As := [_, _]) sc_X5_187 (k5_isSettingValue (by omega)) rfl rfl (Nat.le_of_ble_eq_true rfl) dX5_set_2 ⟨by decide, by decide⟩ ⟨Nat.zero_le _, Nat.zero_le _⟩ (Nat.le_of_ble_eq_true rfl) ?_
  refine sv_top (nI 0) (by rw [hs]; rfl) ?_
  refine sv_ifN_ne 18 dX5_set_5 (by decide) (by omega) (fun c_5 => absurd c_5 (by omega)) (fun c_5 => ?_)
  exact sv_throw 13 sx_iae rfl rfl rfl dX5_set_8 dX5_set_11 dX5_set_12 dX5_set_14 dX5_set_17 ⟨(Nat.le_of_ble_eq_true rfl), (Nat.le_of_ble_eq_true rfl)⟩ ⟨(Nat.le_of_ble_eq_true rfl), (Nat.le_of_ble_eq_true rfl)⟩ (Nat.le_of_ble_eq_true rfl) (Nat.le_of_ble_eq_true rfl) ⟨rfl, _, mw_fg h0 hm⟩
theorem k5_setK {v : Nat} (hn : n < 3) (hs : gm_isS (nI n) (nI v) = true) (hx : t.2.2.2.1 < 14) (hc : t.2.2.1 ≤ 14) : sm_C G mX5_set 3 0 0 [.ref m, .int (nI n), .int (nI v)] (mw G h m V R t) (mQ G h m (.inl (some (.int (nI ((V 0).1 n))))) (va_up (mw_rem V t) 0 (va_up (V 0).1 n v, (V 0).2)) (mw_remT t)) := by
  unfold sm_C
  show sm_V G _ _ _ 0 0 0 [(0, .ref m), (1, .int (nI n)), (2, .int (nI v))] [] _
  refine sv_iload_n dX5_set_0 rfl ?_
  refine sv_iload_n dX5_set_1 rfl ?_
  refine sv_callS (As := [_, _]) sc_X5_187 (k5_isSettingValue (by omega)) rfl rfl (Nat.le_of_ble_eq_true rfl) dX5_set_2 ⟨by decide, by decide⟩ ⟨Nat.zero_le _, Nat.zero_le _⟩ (Nat.le_of_ble_eq_true rfl) ?_
  refine sv_top (nI 1) (by rw [hs]; rfl) ?_
  refine sv_ifN_ne 18 dX5_set_5 (by decide) (by omega) (fun c_5 => ?_) (fun c_5 => absurd c_5 (by omega))
  refine sv_aload_n dX5_set_18 rfl ?_
  refine km_g3 dX5_set_19 sf_X5_29 ?_
  refine sv_aload_n dX5_set_22 rfl ?_
  refine km_g1 dX5_set_23 sf_X5_19 ?_
  refine sv_callV (As := [_]) sc_X5_156 (k1_remember hx hc) rfl rfl (Nat.le_of_ble_eq_true rfl) dX5_set_26 ⟨by decide, by decide⟩ ⟨Nat.zero_le _, Nat.zero_le _⟩ (Nat.le_of_ble_eq_true rfl) mw_h (List.cons_ne_nil _ _) rfl ?_
  refine sv_aload_n dX5_set_29 rfl ?_
  refine km_g1 dX5_set_30 sf_X5_19 ?_
  refine kg_g3 (hg_0 mw_gn) dX5_set_33 sf_X5_150 ?_
  refine sv_iload_n dX5_set_36 rfl ?_
  refine kg_lds (hg_4 mw_gn) dX5_set_37 (by omega) ?_
  refine sv_top (nI ((V 0).1 n)) (by rw [mw_rem0]) ?_
  refine sv_istore_n (lv' := [(3, _), (0, _), (1, _), (2, _)]) dX5_set_38 (by decide) rfl ?_
  refine sv_aload_n dX5_set_39 rfl ?_
  refine km_g1 dX5_set_40 sf_X5_19 ?_
  refine kg_g3 (hg_0 mw_gn) dX5_set_43 sf_X5_150 ?_
  refine sv_iload_n dX5_set_46 rfl ?_
  refine sv_iload_n dX5_set_47 rfl ?_
  refine sv_heap (hg_self mw_gn) ?_
  refine kg_sts dX5_set_48 (by omega) ?_
  refine sv_heap mw_w0 ?_
  refine sv_iload_n dX5_set_49 rfl ?_
  refine sv_iret dX5_set_50 rfl rfl (Nat.le_refl _) (Nat.le_refl _) ?_
  exact mQi _ rfl (by rw [mw_rem0])
theorem k5_undo1 (hc0 : t.2.2.1 = 0) (h0 : h 0 = none) (hm : 0 < m) : sm_C G mX5_undo 6 1 6 [.ref m] (mw G h m V R t) (mQ G h m (.inr "java/lang/IllegalStateException") V t) := by
  unfold sm_C
  show sm_V G _ _ _ 0 0 0 [(0, .ref m)] [] _
  refine sv_aload_n dX5_undo_0 rfl ?_
  refine km_g3 dX5_undo_1 sf_X5_29 ?_
  refine kh_g1 mw_h dX5_undo_4 sf_X5_192 ?_
  refine sv_ifN_ne 20 dX5_undo_7 (by decide) (by omega) (fun c_7 => absurd c_7 (fun z => z hc0)) (fun c_7 => ?_)
  exact sv_throw 14 sx_ise rfl rfl rfl dX5_undo_10 dX5_undo_13 dX5_undo_14 dX5_undo_16 dX5_undo_19 ⟨(Nat.le_of_ble_eq_true rfl), (Nat.le_of_ble_eq_true rfl)⟩ ⟨(Nat.le_of_ble_eq_true rfl), (Nat.le_of_ble_eq_true rfl)⟩ (Nat.le_of_ble_eq_true rfl) (Nat.le_of_ble_eq_true rfl) ⟨rfl, _, mw_fg h0 hm⟩
theorem k5_undoK (hx : t.2.2.2.1 < 14) (hc : t.2.2.1 ≤ 14) (hc0 : 0 < t.2.2.1) : sm_C G mX5_undo 3 0 0 [.ref m] (mw G h m V R t) (mQ G h m (.inl (some (.int (nI (t.2.2.1 - 1))))) (va_up V 0 (V (2 + mw_pv t.2.2.2.1))) (mw_bkT t)) := by
  unfold sm_C
  show sm_V G _ _ _ 0 0 0 [(0, .ref m)] [] _
  refine sv_aload_n dX5_undo_0 rfl ?_
  refine km_g3 dX5_undo_1 sf_X5_29 ?_
  refine kh_g1 mw_h dX5_undo_4 sf_X5_192 ?_
  refine sv_ifN_ne 20 dX5_undo_7 (by decide) (by omega) (fun c_7 => ?_) (fun c_7 => absurd c_7 (by omega))
  refine sv_aload_n dX5_undo_20 rfl ?_
  refine km_g3 dX5_undo_21 sf_X5_29 ?_
  refine sv_aload_n dX5_undo_24 rfl ?_
  refine km_g1 dX5_undo_25 sf_X5_19 ?_
  refine sv_callV (As := [_]) sc_X5_197 (k1_takeBack hx hc hc0) rfl rfl (Nat.le_of_ble_eq_true rfl) dX5_undo_28 ⟨by decide, by decide⟩ ⟨Nat.zero_le _, Nat.zero_le _⟩ (Nat.le_of_ble_eq_true rfl) mw_h (List.cons_ne_nil _ _) rfl ?_
  refine sv_aload_n dX5_undo_31 rfl ?_
  refine km_g3 dX5_undo_32 sf_X5_29 ?_
  refine kh_g1 mw_h dX5_undo_35 sf_X5_192 ?_
  refine sv_iret dX5_undo_38 rfl rfl (Nat.le_refl _) (Nat.le_refl _) ?_
  exact mQi _ rfl rfl
theorem k5_brings1 {q w : Int32} (hq : gm_in (nI 0) q (nI 5) = false) (h0 : h 0 = none) (hm : 0 < m) : sm_C G mX5_brings 6 1 6 [.ref m, .int q, .int w] (mw G h m V R t) (mQ G h m (.inr "java/lang/IndexOutOfBoundsException") V t) := by
  unfold sm_C
  show sm_V G _ _ _ 0 0 0 [(0, .ref m), (1, .int q), (2, .int w)] [] _
  refine sv_iload_n dX5_brings_0 rfl ?_
  refine sv_callS (As := [_]) sc_X5_129 (k5_isPlace) rfl rfl (Nat.le_of_ble_eq_true rfl) dX5_brings_1 ⟨by decide, by decide⟩ ⟨Nat.zero_le _, Nat.zero_le _⟩ (Nat.le_of_ble_eq_true rfl) ?_
  refine sv_top (nI 0) (by rw [hq]; rfl) ?_
  refine sv_ifN_ne 17 dX5_brings_4 (by decide) (by omega) (fun c_4 => absurd c_4 (by omega)) (fun c_4 => ?_)
  exact sv_throw 6 sx_ioo rfl rfl rfl dX5_brings_7 dX5_brings_10 dX5_brings_11 dX5_brings_13 dX5_brings_16 ⟨(Nat.le_of_ble_eq_true rfl), (Nat.le_of_ble_eq_true rfl)⟩ ⟨(Nat.le_of_ble_eq_true rfl), (Nat.le_of_ble_eq_true rfl)⟩ (Nat.le_of_ble_eq_true rfl) (Nat.le_of_ble_eq_true rfl) ⟨rfl, _, mw_fg h0 hm⟩
theorem k5_brings2 {q : Nat} {w : Int32} (hq : q < 6) (hch : gm_chR q w = false) (h0 : h 0 = none) (hm : 0 < m) : sm_C G mX5_brings 6 1 6 [.ref m, .int (nI q), .int w] (mw G h m V R t) (mQ G h m (.inr "java/lang/IllegalArgumentException") V t) := by
  unfold sm_C
  show sm_V G _ _ _ 0 0 0 [(0, .ref m), (1, .int (nI q)), (2, .int w)] [] _
  refine sv_iload_n dX5_brings_0 rfl ?_
  refine sv_callS (As := [_]) sc_X5_129 (k5_isPlace) rfl rfl (Nat.le_of_ble_eq_true rfl) dX5_brings_1 ⟨by decide, by decide⟩ ⟨Nat.zero_le _, Nat.zero_le _⟩ (Nat.le_of_ble_eq_true rfl) ?_
  refine sv_top (nI 1) (by rw [gm_in_n (by omega) (by omega) (by omega), decide_eq_true ⟨by omega, by omega⟩]; rfl) ?_
  refine sv_ifN_ne 17 dX5_brings_4 (by decide) (by omega) (fun c_4 => ?_) (fun c_4 => absurd c_4 (by omega))
  refine sv_iload_n dX5_brings_17 rfl ?_
  refine sv_iload_n dX5_brings_18 rfl ?_
  refine sv_callS (As := [_, _]) sc_X5_163 (k5_isChoice hq) rfl rfl (Nat.le_of_ble_eq_true rfl) dX5_brings_19 ⟨by decide, by decide⟩ ⟨Nat.zero_le _, Nat.zero_le _⟩ (Nat.le_of_ble_eq_true rfl) ?_
  refine sv_top (nI 0) (by rw [hch]; rfl) ?_
  refine sv_ifN_ne 35 dX5_brings_22 (by decide) (by omega) (fun c_22 => absurd c_22 (by omega)) (fun c_22 => ?_)
  exact sv_throw 10 sx_iae rfl rfl rfl dX5_brings_25 dX5_brings_28 dX5_brings_29 dX5_brings_31 dX5_brings_34 ⟨(Nat.le_of_ble_eq_true rfl), (Nat.le_of_ble_eq_true rfl)⟩ ⟨(Nat.le_of_ble_eq_true rfl), (Nat.le_of_ble_eq_true rfl)⟩ (Nat.le_of_ble_eq_true rfl) (Nat.le_of_ble_eq_true rfl) ⟨rfl, _, mw_fg h0 hm⟩
theorem k5_bringsK {q c : Nat} (hI : gm_I K (V 0).1) (hq : q < 6) (hc24 : c < 24) (hch : gm_ch q c = true) : sm_C G mX5_brings 4 0 0 [.ref m, .int (nI q), .int (nI c)] (mw G h m V R t) (mQ G h m (.inl (some (.int (gm_bv (V 0).1 q c)))) V t) := by
  unfold sm_C
  show sm_V G _ _ _ 0 0 0 [(0, .ref m), (1, .int (nI q)), (2, .int (nI c))] [] _
  refine sv_iload_n dX5_brings_0 rfl ?_
  refine sv_callS (As := [_]) sc_X5_129 (k5_isPlace) rfl rfl (Nat.le_of_ble_eq_true rfl) dX5_brings_1 ⟨by decide, by decide⟩ ⟨Nat.zero_le _, Nat.zero_le _⟩ (Nat.le_of_ble_eq_true rfl) ?_
  refine sv_top (nI 1) (by rw [gm_in_n (by omega) (by omega) (by omega), decide_eq_true ⟨by omega, by omega⟩]; rfl) ?_
  refine sv_ifN_ne 17 dX5_brings_4 (by decide) (by omega) (fun c_4 => ?_) (fun c_4 => absurd c_4 (by omega))
  refine sv_iload_n dX5_brings_17 rfl ?_
  refine sv_iload_n dX5_brings_18 rfl ?_
  refine sv_callS (As := [_, _]) sc_X5_163 (k5_isChoice hq) rfl rfl (Nat.le_of_ble_eq_true rfl) dX5_brings_19 ⟨by decide, by decide⟩ ⟨Nat.zero_le _, Nat.zero_le _⟩ (Nat.le_of_ble_eq_true rfl) ?_
  refine sv_top (nI 1) (by rw [gm_chR_n (by omega), hch]; rfl) ?_
  refine sv_ifN_ne 35 dX5_brings_22 (by decide) (by omega) (fun c_22 => ?_) (fun c_22 => absurd c_22 (by omega))
  refine sv_aload_n dX5_brings_35 rfl ?_
  refine km_g1 dX5_brings_36 sf_X5_19 ?_
  refine sv_iload_n dX5_brings_39 rfl ?_
  refine sv_iload_n dX5_brings_40 rfl ?_
  refine sv_callM (As := [_, _]) sc_X5_200 (mf_q (k := 0) (by omega) rfl (fun P9 B9 => ⟨_, _, rfl⟩) (k0_worth hI hq hc24 hch)) rfl rfl (Nat.le_of_ble_eq_true rfl) dX5_brings_41 ⟨by decide, by decide⟩ ⟨Nat.zero_le _, Nat.zero_le _⟩ (Nat.le_of_ble_eq_true rfl) (hg_0 mw_gn) (List.cons_ne_nil _ _) rfl (fun R9 => ?_)
  refine sv_heap (congrArg (fun T => mw G h m T R9 t) mw_id) ?_
  refine sv_iret dX5_brings_44 rfl rfl (Nat.le_refl _) (Nat.le_refl _) ?_
  exact mQi _ rfl rfl
theorem k5_bumps1 {q : Int32} (hq : gm_in (nI 0) q (nI 5) = false) (h0 : h 0 = none) (hm : 0 < m) : sm_C G mX5_bumps 6 1 6 [.ref m, .int q] (mw G h m V R t) (mQ G h m (.inr "java/lang/IndexOutOfBoundsException") V t) := by
  unfold sm_C
  show sm_V G _ _ _ 0 0 0 [(0, .ref m), (1, .int q)] [] _
  refine sv_iload_n dX5_bumps_0 rfl ?_
  refine sv_callS (As := [_]) sc_X5_129 (k5_isPlace) rfl rfl (Nat.le_of_ble_eq_true rfl) dX5_bumps_1 ⟨by decide, by decide⟩ ⟨Nat.zero_le _, Nat.zero_le _⟩ (Nat.le_of_ble_eq_true rfl) ?_
  refine sv_top (nI 0) (by rw [hq]; rfl) ?_
  refine sv_ifN_ne 17 dX5_bumps_4 (by decide) (by omega) (fun c_4 => absurd c_4 (by omega)) (fun c_4 => ?_)
  exact sv_throw 6 sx_ioo rfl rfl rfl dX5_bumps_7 dX5_bumps_10 dX5_bumps_11 dX5_bumps_13 dX5_bumps_16 ⟨(Nat.le_of_ble_eq_true rfl), (Nat.le_of_ble_eq_true rfl)⟩ ⟨(Nat.le_of_ble_eq_true rfl), (Nat.le_of_ble_eq_true rfl)⟩ (Nat.le_of_ble_eq_true rfl) (Nat.le_of_ble_eq_true rfl) ⟨rfl, _, mw_fg h0 hm⟩
theorem k5_bumpsK {q : Nat} (hI : gm_I K (V 0).1) (hq : q < 6) : sm_C G mX5_bumps 2 0 0 [.ref m, .int (nI q)] (mw G h m V R t) (mQ G h m (.inl (some (.int (gm_bmp (V 0).1 q)))) V t) := by
  unfold sm_C
  show sm_V G _ _ _ 0 0 0 [(0, .ref m), (1, .int (nI q))] [] _
  obtain ⟨d3, d6, d0, d1, d2, d4, dK⟩ := cg_d hI
  refine sv_iload_n dX5_bumps_0 rfl ?_
  refine sv_callS (As := [_]) sc_X5_129 (k5_isPlace) rfl rfl (Nat.le_of_ble_eq_true rfl) dX5_bumps_1 ⟨by decide, by decide⟩ ⟨Nat.zero_le _, Nat.zero_le _⟩ (Nat.le_of_ble_eq_true rfl) ?_
  refine sv_top (nI 1) (by rw [gm_in_n (by omega) (by omega) (by omega), decide_eq_true ⟨by omega, by omega⟩]; rfl) ?_
  refine sv_ifN_ne 17 dX5_bumps_4 (by decide) (by first | omega | exact Nat.lt_trans (b2n_lt _) (by decide)) (fun c_4 => ?_) (fun c_4 => absurd c_4 (by omega))
  refine sv_aload_n dX5_bumps_17 rfl ?_
  refine km_g1 dX5_bumps_18 sf_X5_19 ?_
  refine sv_callV (As := []) sc_X5_176 (mf_r mw_gn (k0_hasTurn (by omega) (by omega) (by omega))) rfl rfl (Nat.le_of_ble_eq_true rfl) dX5_bumps_21 ⟨by decide, by decide⟩ ⟨Nat.zero_le _, Nat.zero_le _⟩ (Nat.le_of_ble_eq_true rfl) (hg_0 mw_gn) (List.cons_ne_nil _ _) rfl ?_
  refine sv_ifN_eq 38 dX5_bumps_24 (by decide) (by first | omega | exact Nat.lt_trans (b2n_lt _) (by decide)) (fun c_24 => ?_) (fun c_24 => ?_)
  · refine sv_iconst (-1) dX5_bumps_38 (by decide) ?_
    refine sv_iret dX5_bumps_39 rfl rfl (Nat.le_refl _) (Nat.le_refl _) ?_
    first | exact mQi _ (rI (by unfold gm_bmp cg_bw; by_cases hz : gm_full (V 0).1 q = true ∧ gm_bk (V 0).1 q ≠ 3; rw [if_pos hz, if_pos ⟨hon, hz⟩]; rw [if_neg hz, if_neg (fun z => hz z.2)])) rfl | exact mQi _ (rI (by unfold gm_bmp; rw [if_neg (fun z => ne_t (b2n_f c_24) z.1)])) rfl
  · have hon := b2n_1 c_24
    obtain ⟨⟨j0, j01, j1, j2, j21⟩, jK, jK2, jw, j3, j31, j4, j5, j51, j6, jp, j10, ⟨jh, jps⟩, jpl, jow⟩ := gm_IJ hI (gm_on_i hon).1
    refine sv_aload_n dX5_bumps_27 rfl ?_
    refine km_g1 dX5_bumps_28 sf_X5_19 ?_
    refine sv_iload_n dX5_bumps_31 rfl ?_
    refine sv_callV (As := [_]) sc_X5_173 (mf_r mw_gn (k0_findBumped hq (by omega) (jw q hq) (by omega) (fun k hk => by have := jow q k hq hk; omega))) rfl rfl (Nat.le_of_ble_eq_true rfl) dX5_bumps_32 ⟨by decide, by decide⟩ ⟨Nat.zero_le _, Nat.zero_le _⟩ (Nat.le_of_ble_eq_true rfl) (hg_0 mw_gn) (List.cons_ne_nil _ _) rfl ?_
    refine sv_goto 39 dX5_bumps_35 (by decide) ?_
    refine sv_iret dX5_bumps_39 rfl rfl (Nat.le_refl _) (Nat.le_refl _) ?_
    first | exact mQi _ (rI (by unfold gm_bmp cg_bw; by_cases hz : gm_full (V 0).1 q = true ∧ gm_bk (V 0).1 q ≠ 3; rw [if_pos hz, if_pos ⟨hon, hz⟩]; rw [if_neg hz, if_neg (fun z => hz z.2)])) rfl | exact mQi _ (rI (by unfold gm_bmp; rw [if_neg (fun z => ne_t (b2n_f c_24) z.1)])) rfl
theorem k5_best1 {w : Int32} (hw : gm_in (nI 0) w (nI 2) = false) (h0 : h 0 = none) (hm : 0 < m) : sm_C G mX5_best 6 1 6 [.ref m, .int w] (mw G h m V R t) (mQ G h m (.inr "java/lang/IllegalArgumentException") V t) := by
  unfold sm_C
  show sm_V G _ _ _ 0 0 0 [(0, .ref m), (1, .int w)] [] _
  refine sv_iload_n dX5_best_0 rfl ?_
  refine sv_if_lt 9 dX5_best_1 (by decide) (fun c_1 => ?_) (fun c_1 => ?_)
  · exact sv_throw 8 sx_iae rfl rfl rfl dX5_best_9 dX5_best_12 dX5_best_13 dX5_best_15 dX5_best_18 ⟨(Nat.le_of_ble_eq_true rfl), (Nat.le_of_ble_eq_true rfl)⟩ ⟨(Nat.le_of_ble_eq_true rfl), (Nat.le_of_ble_eq_true rfl)⟩ (Nat.le_of_ble_eq_true rfl) (Nat.le_of_ble_eq_true rfl) ⟨rfl, _, mw_fg h0 hm⟩
  · refine sv_iload_n dX5_best_4 rfl ?_
    refine sv_iconst (nI 2) dX5_best_5 (by decide) ?_
    refine sv_icmp_le 19 dX5_best_6 (by decide) (fun c_6 => absurd c_6 ((fun z => absurd (in_t (a := 0) (b := 2) (by omega) (by omega) c_1 z) (ne_t hw)) c_6)) (fun c_6 => ?_)
    exact sv_throw 8 sx_iae rfl rfl rfl dX5_best_9 dX5_best_12 dX5_best_13 dX5_best_15 dX5_best_18 ⟨(Nat.le_of_ble_eq_true rfl), (Nat.le_of_ble_eq_true rfl)⟩ ⟨(Nat.le_of_ble_eq_true rfl), (Nat.le_of_ble_eq_true rfl)⟩ (Nat.le_of_ble_eq_true rfl) (Nat.le_of_ble_eq_true rfl) ⟨rfl, _, mw_fg h0 hm⟩
theorem ax_bsw0 {a : Nat × Nat × Nat} {k : Nat} (h : a.1 = 0) : -1 = gm_bsw a k := by
  unfold gm_bsw gm_e; rw [if_pos h, if_pos h, if_pos h]; split
  · rfl
  split <;> rfl
theorem ax_bsw {a : Nat × Nat × Nat} {B : Nat → Int32} (h : a.1 ≠ 0) : cg_FB B a 0 = gm_bsw a 0 ∧ cg_FB B a 1 = gm_bsw a 1 ∧ cg_FB B a 2 = gm_bsw a 2 := by
  refine ⟨rfl, ?_, ?_⟩
  · rw [cg_FB_1 h]; unfold gm_bsw gm_e; rw [if_neg (by omega), if_pos rfl, if_neg h]
  · rw [cg_FB_2 h]; unfold gm_bsw gm_e; rw [if_neg (by omega), if_neg (by omega), if_neg h]
theorem k5_bestK (hI : gm_I K (V 0).1) (hn : n ≤ 2) : sm_C G mX5_best 4 0 0 [.ref m, .int (nI n)] (mw G h m V R t) (mQ G h m (.inl (some (.int (gm_bsw (gm_bst (V 0).1) n)))) V t) := by
  unfold sm_C
  show sm_V G _ _ _ 0 0 0 [(0, .ref m), (1, .int (nI n))] [] _
  refine sv_iload_n dX5_best_0 rfl ?_
  refine sv_ifN_lt 9 dX5_best_1 (by decide) (by first | omega | exact Nat.lt_trans (b2n_lt _) (by decide)) (fun c_1 => absurd c_1 (fun q => q)) (fun c_1 => ?_)
  refine sv_iload_n dX5_best_4 rfl ?_
  refine sv_iconst (nI 2) dX5_best_5 (by decide) ?_
  refine sv_icmpN_le 19 dX5_best_6 (by decide) (by first | omega | exact Nat.lt_trans (b2n_lt _) (by decide)) (by first | omega | exact Nat.lt_trans (b2n_lt _) (by decide)) (fun c_6 => ?_) (fun c_6 => absurd c_6 (by omega))
  refine sv_aload_n dX5_best_19 rfl ?_
  refine km_g1 dX5_best_20 sf_X5_19 ?_
  refine sv_heap (hg_self mw_gn) ?_
  refine sv_callQ (As := []) sc_X5_204 (k0_findBest hI) rfl rfl (Nat.le_of_ble_eq_true rfl) dX5_best_23 ⟨by decide, by decide⟩ ⟨Nat.zero_le _, Nat.zero_le _⟩ (Nat.le_of_ble_eq_true rfl) gl_0 (List.cons_ne_nil _ _) rfl (fun P9 B9 hq9 => ?_)
  refine sv_heap mw_w0 ?_
  refine sv_heap (congrArg (fun T => mw G h m T _ t) mw_id) ?_
  refine sv_ifN_ne 31 dX5_best_26 (by decide) (by first | omega | exact Nat.lt_trans (b2n_lt _) (by decide)) (fun c_26 => ?_) (fun c_26 => ?_)
  · have hz := of_decide_eq_true (b2n_1 c_26)
    obtain ⟨z0, z1, z2⟩ := ax_bsw (B := (R 0).2) hz
    refine sv_iload_n dX5_best_31 rfl ?_
    rcases (show n = 0 ∨ n = 1 ∨ n = 2 by omega) with rfl | rfl | rfl
    · refine sv_lookup (off := 28) 60 dX5_best_32 (by decide) (by decide) (by decide) ?_
      refine sv_aload_n dX5_best_60 rfl ?_
      refine km_g1 dX5_best_61 sf_X5_19 ?_
      refine kg_g13 (hg_0 mw_gn) dX5_best_64 sf_X5_207 ?_
      refine sv_iret dX5_best_67 rfl rfl (Nat.le_refl _) (Nat.le_refl _) ?_
      exact mQi _ (rI (by rw [up_eq]; first | exact z0 | exact z1 | exact z2)) rfl
    · refine sv_lookup (off := 36) 68 dX5_best_32 (by decide) (by decide) (by decide) ?_
      refine sv_aload_n dX5_best_68 rfl ?_
      refine km_g1 dX5_best_69 sf_X5_19 ?_
      refine kg_g14 (hg_0 mw_gn) dX5_best_72 sf_X5_210 ?_
      refine sv_iret dX5_best_75 rfl rfl (Nat.le_refl _) (Nat.le_refl _) ?_
      exact mQi _ (rI (by rw [up_eq]; first | exact z0 | exact z1 | exact z2)) rfl
    · refine sv_lookup (off := 44) 76 dX5_best_32 (by decide) (by decide) (by decide) ?_
      refine sv_aload_n dX5_best_76 rfl ?_
      refine km_g1 dX5_best_77 sf_X5_19 ?_
      refine kg_g15 (hg_0 mw_gn) dX5_best_80 sf_X5_213 ?_
      refine sv_iret dX5_best_83 rfl rfl (Nat.le_refl _) (Nat.le_refl _) ?_
      exact mQi _ (rI (by rw [up_eq]; first | exact z0 | exact z1 | exact z2)) rfl
  · refine sv_iconst (-1) dX5_best_29 (by decide) ?_
    refine sv_iret dX5_best_30 rfl rfl (Nat.le_refl _) (Nat.le_refl _) ?_
    exact mQi _ (rI (ax_bsw0 (Classical.byContradiction fun z => absurd (decide_eq_true z) (ne_t (b2n_f c_26))))) rfl
theorem k5_loses1 {p w : Int32} (hI : gm_I K (V 0).1) (hp : gm_isP (V 0).1 p = false) (h0 : h 0 = none) (hm : 0 < m) : sm_C G mX5_loses 6 1 6 [.ref m, .int p, .int w] (mw G h m V R t) (mQ G h m (.inr "java/lang/IndexOutOfBoundsException") V t) := by
  unfold sm_C
  show sm_V G _ _ _ 0 0 0 [(0, .ref m), (1, .int p), (2, .int w)] [] _
  obtain ⟨d3, d6, d0, d1, d2, d4, dK⟩ := cg_d hI
  refine sv_aload_n dX5_loses_0 rfl ?_
  refine km_g1 dX5_loses_1 sf_X5_19 ?_
  refine sv_iload_n dX5_loses_4 rfl ?_
  refine sv_callV (As := [_]) sc_X5_113 (mf_r mw_gn (k0_hasPlayer (by omega))) rfl rfl (Nat.le_of_ble_eq_true rfl) dX5_loses_5 ⟨by decide, by decide⟩ ⟨Nat.zero_le _, Nat.zero_le _⟩ (Nat.le_of_ble_eq_true rfl) (hg_0 mw_gn) (List.cons_ne_nil _ _) rfl ?_
  refine sv_top (nI 0) (by rw [hp]; rfl) ?_
  refine sv_ifN_ne 21 dX5_loses_8 (by decide) (by omega) (fun c_8 => absurd c_8 (by omega)) (fun c_8 => ?_)
  exact sv_throw 4 sx_ioo rfl rfl rfl dX5_loses_11 dX5_loses_14 dX5_loses_15 dX5_loses_17 dX5_loses_20 ⟨(Nat.le_of_ble_eq_true rfl), (Nat.le_of_ble_eq_true rfl)⟩ ⟨(Nat.le_of_ble_eq_true rfl), (Nat.le_of_ble_eq_true rfl)⟩ (Nat.le_of_ble_eq_true rfl) (Nat.le_of_ble_eq_true rfl) ⟨rfl, _, mw_fg h0 hm⟩
theorem k5_loses2 {p w : Int32} (hI : gm_I K (V 0).1) (hp : gm_isP (V 0).1 p = true) (hw : gm_in (nI 0) w (nI 2) = false) (h0 : h 0 = none) (hm : 0 < m) : sm_C G mX5_loses 6 1 6 [.ref m, .int p, .int w] (mw G h m V R t) (mQ G h m (.inr "java/lang/IllegalArgumentException") V t) := by
  unfold sm_C
  show sm_V G _ _ _ 0 0 0 [(0, .ref m), (1, .int p), (2, .int w)] [] _
  obtain ⟨d3, d6, d0, d1, d2, d4, dK⟩ := cg_d hI
  refine sv_aload_n dX5_loses_0 rfl ?_
  refine km_g1 dX5_loses_1 sf_X5_19 ?_
  refine sv_iload_n dX5_loses_4 rfl ?_
  refine sv_callV (As := [_]) sc_X5_113 (mf_r mw_gn (k0_hasPlayer (by omega))) rfl rfl (Nat.le_of_ble_eq_true rfl) dX5_loses_5 ⟨by decide, by decide⟩ ⟨Nat.zero_le _, Nat.zero_le _⟩ (Nat.le_of_ble_eq_true rfl) (hg_0 mw_gn) (List.cons_ne_nil _ _) rfl ?_
  refine sv_top (nI 1) (by rw [hp]; rfl) ?_
  refine sv_ifN_ne 21 dX5_loses_8 (by decide) (by omega) (fun c_8 => ?_) (fun c_8 => absurd c_8 (by omega))
  refine sv_iload_n dX5_loses_21 rfl ?_
  refine sv_callS (As := [_]) sc_X5_216 (k5_isGood) rfl rfl (Nat.le_of_ble_eq_true rfl) dX5_loses_22 ⟨by decide, by decide⟩ ⟨Nat.zero_le _, Nat.zero_le _⟩ (Nat.le_of_ble_eq_true rfl) ?_
  refine sv_top (nI 0) (by rw [hw]; rfl) ?_
  refine sv_ifN_ne 38 dX5_loses_25 (by decide) (by omega) (fun c_25 => absurd c_25 (by omega)) (fun c_25 => ?_)
  exact sv_throw 8 sx_iae rfl rfl rfl dX5_loses_28 dX5_loses_31 dX5_loses_32 dX5_loses_34 dX5_loses_37 ⟨(Nat.le_of_ble_eq_true rfl), (Nat.le_of_ble_eq_true rfl)⟩ ⟨(Nat.le_of_ble_eq_true rfl), (Nat.le_of_ble_eq_true rfl)⟩ (Nat.le_of_ble_eq_true rfl) (Nat.le_of_ble_eq_true rfl) ⟨rfl, _, mw_fg h0 hm⟩
theorem k5_losesK {p k : Nat} (hI : gm_I K (V 0).1) (hp : p < (V 0).1 3) (hk : k < 3) : sm_C G mX5_loses 2 0 0 [.ref m, .int (nI p), .int (nI k)] (mw G h m V R t) (mQ G h m (.inl (some (.int (nI (if gm_on (V 0).1 = true then gm_loss (V 0).1 p k else 0))))) V t) := by
  unfold sm_C
  show sm_V G _ _ _ 0 0 0 [(0, .ref m), (1, .int (nI p)), (2, .int (nI k))] [] _
  obtain ⟨d3, d6, d0, d1, d2, d4, dK⟩ := cg_d hI
  refine sv_aload_n dX5_loses_0 rfl ?_
  refine km_g1 dX5_loses_1 sf_X5_19 ?_
  refine sv_iload_n dX5_loses_4 rfl ?_
  refine sv_callV (As := [_]) sc_X5_113 (mf_r mw_gn (k0_hasPlayer (by omega))) rfl rfl (Nat.le_of_ble_eq_true rfl) dX5_loses_5 ⟨by decide, by decide⟩ ⟨Nat.zero_le _, Nat.zero_le _⟩ (Nat.le_of_ble_eq_true rfl) (hg_0 mw_gn) (List.cons_ne_nil _ _) rfl ?_
  refine sv_top (nI 1) (by rw [gm_isP_n (by omega) (by omega), decide_eq_true hp]; rfl) ?_
  refine sv_ifN_ne 21 dX5_loses_8 (by decide) (by first | omega | exact Nat.lt_trans (b2n_lt _) (by decide)) (fun c_8 => ?_) (fun c_8 => absurd c_8 (by omega))
  refine sv_iload_n dX5_loses_21 rfl ?_
  refine sv_callS (As := [_]) sc_X5_216 (k5_isGood) rfl rfl (Nat.le_of_ble_eq_true rfl) dX5_loses_22 ⟨by decide, by decide⟩ ⟨Nat.zero_le _, Nat.zero_le _⟩ (Nat.le_of_ble_eq_true rfl) ?_
  refine sv_top (nI 1) (by rw [gm_in_n (by omega) (by omega) (by omega), decide_eq_true ⟨by omega, by omega⟩]; rfl) ?_
  refine sv_ifN_ne 38 dX5_loses_25 (by decide) (by first | omega | exact Nat.lt_trans (b2n_lt _) (by decide)) (fun c_25 => ?_) (fun c_25 => absurd c_25 (by omega))
  refine sv_aload_n dX5_loses_38 rfl ?_
  refine km_g1 dX5_loses_39 sf_X5_19 ?_
  refine sv_callV (As := []) sc_X5_176 (mf_r mw_gn (k0_hasTurn (by omega) (by omega) (by omega))) rfl rfl (Nat.le_of_ble_eq_true rfl) dX5_loses_42 ⟨by decide, by decide⟩ ⟨Nat.zero_le _, Nat.zero_le _⟩ (Nat.le_of_ble_eq_true rfl) (hg_0 mw_gn) (List.cons_ne_nil _ _) rfl ?_
  refine sv_ifN_eq 60 dX5_loses_45 (by decide) (by first | omega | exact Nat.lt_trans (b2n_lt _) (by decide)) (fun c_45 => ?_) (fun c_45 => ?_)
  · refine sv_iconst (nI 0) dX5_loses_60 (by decide) ?_
    refine sv_iret dX5_loses_61 rfl rfl (Nat.le_refl _) (Nat.le_refl _) ?_
    first | exact mQi _ (ri (if_pos (b2n_1 c_45)).symm) rfl | exact mQi _ (ri (if_neg (ne_t (b2n_f c_45))).symm) rfl
  · refine sv_aload_n dX5_loses_48 rfl ?_
    refine km_g1 dX5_loses_49 sf_X5_19 ?_
    refine sv_iload_n dX5_loses_52 rfl ?_
    refine sv_iload_n dX5_loses_53 rfl ?_
    refine sv_callV (As := [_, _]) sc_X5_219 (mf_w (k := 0) (by omega) rfl (k0_lossOf hI (by omega) hk)) rfl rfl (Nat.le_of_ble_eq_true rfl) dX5_loses_54 ⟨by decide, by decide⟩ ⟨Nat.zero_le _, Nat.zero_le _⟩ (Nat.le_of_ble_eq_true rfl) (hg_0 mw_gn) (List.cons_ne_nil _ _) rfl ?_
    refine sv_heap (congrArg (fun T => mw G h m T _ t) mw_id) ?_
    refine sv_goto 61 dX5_loses_57 (by decide) ?_
    refine sv_iret dX5_loses_61 rfl rfl (Nat.le_refl _) (Nat.le_refl _) ?_
    first | exact mQi _ (ri (if_pos (b2n_1 c_45)).symm) rfl | exact mQi _ (ri (if_neg (ne_t (b2n_f c_45))).symm) rfl
theorem k5_goesOn1 {w : Int32} (hw : gm_in (nI 0) w (nI 4) = false) (h0 : h 0 = none) (hm : 0 < m) : sm_C G mX5_goesOn 6 1 6 [.ref m, .int w] (mw G h m V R t) (mQ G h m (.inr "java/lang/IllegalArgumentException") V t) := by
  unfold sm_C
  show sm_V G _ _ _ 0 0 0 [(0, .ref m), (1, .int w)] [] _
  refine sv_iload_n dX5_goesOn_0 rfl ?_
  refine sv_if_lt 9 dX5_goesOn_1 (by decide) (fun c_1 => ?_) (fun c_1 => ?_)
  · exact sv_throw 15 sx_iae rfl rfl rfl dX5_goesOn_9 dX5_goesOn_12 dX5_goesOn_13 dX5_goesOn_15 dX5_goesOn_18 ⟨(Nat.le_of_ble_eq_true rfl), (Nat.le_of_ble_eq_true rfl)⟩ ⟨(Nat.le_of_ble_eq_true rfl), (Nat.le_of_ble_eq_true rfl)⟩ (Nat.le_of_ble_eq_true rfl) (Nat.le_of_ble_eq_true rfl) ⟨rfl, _, mw_fg h0 hm⟩
  · refine sv_iload_n dX5_goesOn_4 rfl ?_
    refine sv_iconst (nI 4) dX5_goesOn_5 (by decide) ?_
    refine sv_icmp_le 19 dX5_goesOn_6 (by decide) (fun c_6 => absurd c_6 ((fun z => absurd (in_t (a := 0) (b := 4) (by omega) (by omega) c_1 z) (ne_t hw)) c_6)) (fun c_6 => ?_)
    exact sv_throw 15 sx_iae rfl rfl rfl dX5_goesOn_9 dX5_goesOn_12 dX5_goesOn_13 dX5_goesOn_15 dX5_goesOn_18 ⟨(Nat.le_of_ble_eq_true rfl), (Nat.le_of_ble_eq_true rfl)⟩ ⟨(Nat.le_of_ble_eq_true rfl), (Nat.le_of_ble_eq_true rfl)⟩ (Nat.le_of_ble_eq_true rfl) (Nat.le_of_ble_eq_true rfl) ⟨rfl, _, mw_fg h0 hm⟩
theorem gm_goN_I {z : Bool} : ∀ f (S : gm_S) (x : Int64) (K : Nat), gm_I K S → K + 40 * f < 2 ^ 26 → 12 ≤ K → gm_I (K + 40 * f) (gm_goN z f S x).1
  | 0, S, x, K, hI, _, _ => hI
  | f + 1, S, x, K, hI, hK, hK9 => by
    unfold gm_goN; split
    · rename_i hon
      have := gm_goN_I (z := z) f (gm_play z S x).1 (gm_play z S x).2 (K + 40) (gm_play_I hI hon (by omega) hK9) (by omega) (by omega)
      rw [show K + 40 * (f + 1) = K + 40 + 40 * f by omega]; exact this
    · exact gm_I_up hI (by omega) hK
theorem k5_goesOnK (hI : gm_I K (V 0).1) (hK : K + 60000 < 2 ^ 26) (hK9 : 12 ≤ K) (hn : n ≤ 4) : sm_C G mX5_goesOn 6 0 0 [.ref m, .int (nI n)] (mw G h m V R t) (mQ G h m (.inl (some (.int (gm_gans (gm_goE true (V 0).1 (V 0).2).1 n)))) (va_up (va_up V 1 (V 0)) 1 (gm_goE true (V 0).1 (V 0).2)) t) := by
  unfold sm_C
  show sm_V G _ _ _ 0 0 0 [(0, .ref m), (1, .int (nI n))] [] _
  obtain ⟨d3, d6, d0, d1, d2, d4, dK⟩ := cg_d hI
  have e1 : va_up V 1 (V 0) 1 = V 0 := up_eq
  have hI3 := gm_goN_I (z := true) 1300 (V 0).1 (V 0).2 K hI (by omega) hK9
  obtain ⟨i3, i6, i0, i1, i2, i4, iK⟩ := cg_d hI3
  have hI4 : gm_I (K + 40 * 1300) ((va_up (va_up V 1 (V 0)) 1 (gm_goE true (V 0).1 (V 0).2)) 1).1 := by rw [up_eq]; exact hI3
  refine sv_iload_n dX5_goesOn_0 rfl ?_
  refine sv_ifN_lt 9 dX5_goesOn_1 (by decide) (by first | omega | exact Nat.lt_trans (b2n_lt _) (by decide)) (fun c_1 => absurd c_1 (fun q => q)) (fun c_1 => ?_)
  refine sv_iload_n dX5_goesOn_4 rfl ?_
  refine sv_iconst (nI 4) dX5_goesOn_5 (by decide) ?_
  refine sv_icmpN_le 19 dX5_goesOn_6 (by decide) (by first | omega | exact Nat.lt_trans (b2n_lt _) (by decide)) (by first | omega | exact Nat.lt_trans (b2n_lt _) (by decide)) (fun c_6 => ?_) (fun c_6 => absurd c_6 (by omega))
  refine sv_aload_n dX5_goesOn_19 rfl ?_
  refine km_g2 dX5_goesOn_20 sf_X5_23 ?_
  refine sv_aload_n dX5_goesOn_23 rfl ?_
  refine km_g1 dX5_goesOn_24 sf_X5_19 ?_
  refine sv_callV (As := [_]) sc_X5_224 (mw_ct_n) rfl rfl (Nat.le_of_ble_eq_true rfl) dX5_goesOn_27 ⟨by decide, by decide⟩ ⟨Nat.zero_le _, Nat.zero_le _⟩ (Nat.le_of_ble_eq_true rfl) (hg_0 mw_gt) (List.cons_ne_nil _ _) rfl ?_
  refine sv_aload_n dX5_goesOn_30 rfl ?_
  refine km_g2 dX5_goesOn_31 sf_X5_23 ?_
  refine sv_callM (As := []) sc_X5_227 (mf_q (k := 1) (by omega) rfl (fun P9 B9 => ⟨_, _, rfl⟩) (k0_playToEnd (K := K) (by rw [e1]; exact hI) hK hK9)) rfl rfl (Nat.le_of_ble_eq_true rfl) dX5_goesOn_34 ⟨by decide, by decide⟩ ⟨Nat.zero_le _, Nat.zero_le _⟩ (Nat.le_of_ble_eq_true rfl) (hg_0 mw_gt) (List.cons_ne_nil _ _) rfl (fun R9 => ?_)
  rw [e1]
  refine sv_iload_n dX5_goesOn_37 rfl ?_
  refine sv_iconst (nI 4) dX5_goesOn_38 (by decide) ?_
  refine sv_icmpN_ne 50 dX5_goesOn_39 (by decide) (by first | omega | exact Nat.lt_trans (b2n_lt _) (by decide)) (by first | omega | exact Nat.lt_trans (b2n_lt _) (by decide)) (fun c_39 => ?_) (fun c_39 => ?_)
  · refine sv_aload_n dX5_goesOn_50 rfl ?_
    refine km_g2 dX5_goesOn_51 sf_X5_23 ?_
    refine sv_iload_n dX5_goesOn_54 rfl ?_
    refine sv_callV (As := [_]) sc_X5_113 (mf_r mw_gt (k0_hasPlayer (by rw [up_eq]; show (gm_goN true 1300 (V 0).1 (V 0).2).1 3 < _; omega))) rfl rfl (Nat.le_of_ble_eq_true rfl) dX5_goesOn_55 ⟨by decide, by decide⟩ ⟨Nat.zero_le _, Nat.zero_le _⟩ (Nat.le_of_ble_eq_true rfl) (hg_0 mw_gt) (List.cons_ne_nil _ _) rfl ?_
    refine sv_ifN_eq 76 dX5_goesOn_58 (by decide) (by first | omega | exact Nat.lt_trans (b2n_lt _) (by decide)) (fun c_58 => ?_) (fun c_58 => ?_)
    · have hj : ¬ n < (gm_goE true (V 0).1 (V 0).2).1 3 := by have z := b2n_f c_58; rw [up_eq, gm_isP_n (by show (gm_goN true 1300 (V 0).1 (V 0).2).1 3 < _; omega) (by omega)] at z; exact of_decide_eq_false z
      refine sv_iconst (-1) dX5_goesOn_76 (by decide) ?_
      refine sv_iret dX5_goesOn_77 rfl rfl (Nat.le_refl _) (Nat.le_refl _) ?_
      first | exact mQi _ (rI (by unfold gm_gans; rw [if_neg c_39, if_pos hj]; rw [up_eq]; rfl)) rfl | exact mQi _ (rI (by unfold gm_gans; rw [if_neg c_39, if_neg hj])) rfl
    · have hj : n < (gm_goE true (V 0).1 (V 0).2).1 3 := by have z := b2n_1 c_58; rw [up_eq, gm_isP_n (by show (gm_goN true 1300 (V 0).1 (V 0).2).1 3 < _; omega) (by omega)] at z; exact of_decide_eq_true z
      have hj2 : n < 4 := by have : (gm_goE true (V 0).1 (V 0).2).1 3 < 5 := i3; omega
      refine sv_aload_n dX5_goesOn_61 rfl ?_
      refine km_g2 dX5_goesOn_62 sf_X5_23 ?_
      refine kg_g0 (hg_0 mw_gt) dX5_goesOn_65 sf_X5_123 ?_
      refine sv_iload_n dX5_goesOn_68 rfl ?_
      refine kg_ldp (hg_1 mw_gt) dX5_goesOn_69 (by first | omega | exact Nat.lt_trans (b2n_lt _) (by decide)) ?_
      refine sv_callV (As := []) sc_X5_233 (k3_total (hg_pl mw_gt hj2)) rfl rfl (Nat.le_of_ble_eq_true rfl) dX5_goesOn_70 ⟨by decide, by decide⟩ ⟨Nat.zero_le _, Nat.zero_le _⟩ (Nat.le_of_ble_eq_true rfl) (hg_pl mw_gt hj2).1 (List.cons_ne_nil _ _) rfl ?_
      refine sv_goto 77 dX5_goesOn_73 (by decide) ?_
      refine sv_iret dX5_goesOn_77 rfl rfl (Nat.le_refl _) (Nat.le_refl _) ?_
      first | exact mQi _ (rI (by unfold gm_gans; rw [if_neg c_39, if_pos hj]; rw [up_eq]; rfl)) rfl | exact mQi _ (rI (by unfold gm_gans; rw [if_neg c_39, if_neg hj])) rfl
  · refine sv_aload_n dX5_goesOn_42 rfl ?_
    refine km_g2 dX5_goesOn_43 sf_X5_23 ?_
    refine sv_callV (As := []) sc_X5_230 (mf_r mw_gt (k0_findLeader hI4)) rfl rfl (Nat.le_of_ble_eq_true rfl) dX5_goesOn_46 ⟨by decide, by decide⟩ ⟨Nat.zero_le _, Nat.zero_le _⟩ (Nat.le_of_ble_eq_true rfl) (hg_0 mw_gt) (List.cons_ne_nil _ _) rfl ?_
    refine sv_iret dX5_goesOn_49 rfl rfl (Nat.le_refl _) (Nat.le_refl _) ?_
    exact mQi _ (rI (by rw [up_eq]; unfold gm_gans; rw [if_pos c_39])) rfl
theorem k5_weather1 {w : Int32} (hw : gm_in (nI 1) w (nI 12) = false) (h0 : h 0 = none) (hm : 0 < m) : sm_C G mX5_weather 6 1 6 [.ref m, .int w] (mw G h m V R t) (mQ G h m (.inr "java/lang/IllegalArgumentException") V t) := by
  unfold sm_C
  show sm_V G _ _ _ 0 0 0 [(0, .ref m), (1, .int w)] [] _
  refine sv_iload_n dX5_weather_0 rfl ?_
  refine sv_iconst (nI 1) dX5_weather_1 (by decide) ?_
  refine sv_icmp_lt 11 dX5_weather_2 (by decide) (fun c_2 => ?_) (fun c_2 => ?_)
  · exact sv_throw 16 sx_iae rfl rfl rfl dX5_weather_11 dX5_weather_14 dX5_weather_15 dX5_weather_17 dX5_weather_20 ⟨(Nat.le_of_ble_eq_true rfl), (Nat.le_of_ble_eq_true rfl)⟩ ⟨(Nat.le_of_ble_eq_true rfl), (Nat.le_of_ble_eq_true rfl)⟩ (Nat.le_of_ble_eq_true rfl) (Nat.le_of_ble_eq_true rfl) ⟨rfl, _, mw_fg h0 hm⟩
  · refine sv_iload_n dX5_weather_5 rfl ?_
    refine sv_bipush (nI 12) dX5_weather_6 (by decide) ?_
    refine sv_icmp_le 21 dX5_weather_8 (by decide) (fun c_8 => absurd c_8 ((fun z => absurd (in_t (a := 1) (b := 12) (by omega) (by omega) c_2 z) (ne_t hw)) c_8)) (fun c_8 => ?_)
    exact sv_throw 16 sx_iae rfl rfl rfl dX5_weather_11 dX5_weather_14 dX5_weather_15 dX5_weather_17 dX5_weather_20 ⟨(Nat.le_of_ble_eq_true rfl), (Nat.le_of_ble_eq_true rfl)⟩ ⟨(Nat.le_of_ble_eq_true rfl), (Nat.le_of_ble_eq_true rfl)⟩ (Nat.le_of_ble_eq_true rfl) (Nat.le_of_ble_eq_true rfl) ⟨rfl, _, mw_fg h0 hm⟩
theorem k5_weatherK (hI : gm_I K (V 0).1) (hn1 : 1 ≤ n) (hn : n ≤ 12) : sm_C G mX5_weather 1 0 0 [.ref m, .int (nI n)] (mw G h m V R t) (mQ G h m (.inl (some (.int (gm_wea (V 0).1 (V 0).2 n)))) V t) := by
  unfold sm_C
  show sm_V G _ _ _ 0 0 0 [(0, .ref m), (1, .int (nI n))] [] _
  obtain ⟨d3, d6, d0, d1, d2, d4, dK⟩ := cg_d hI
  refine sv_iload_n dX5_weather_0 rfl ?_
  refine sv_iconst (nI 1) dX5_weather_1 (by decide) ?_
  refine sv_icmpN_lt 11 dX5_weather_2 (by decide) (by omega) (by omega) (fun c_2 => absurd c_2 (by omega)) (fun c_2 => ?_)
  refine sv_iload_n dX5_weather_5 rfl ?_
  refine sv_bipush (nI 12) dX5_weather_6 (by decide) ?_
  refine sv_icmpN_le 21 dX5_weather_8 (by decide) (by omega) (by omega) (fun c_8 => ?_) (fun c_8 => absurd c_8 (by omega))
  refine sv_aload_n dX5_weather_21 rfl ?_
  refine km_g1 dX5_weather_22 sf_X5_19 ?_
  refine kg_g4 (hg_0 mw_gn) dX5_weather_25 sf_X5_238 ?_
  refine sv_ifN_ne 33 dX5_weather_28 (by decide) (by omega) (fun c_28 => ?_) (fun c_28 => ?_)
  · refine sv_aload_n dX5_weather_33 rfl ?_
    refine km_g1 dX5_weather_34 sf_X5_19 ?_
    refine kg_g11 (hg_0 mw_gn) dX5_weather_37 sf_X5_239 ?_
    refine sv_lstore_n (lv' := [(2, _), (0, _), (1, _)]) dX5_weather_40 (by decide) rfl ?_
    refine sv_iconst (nI 0) dX5_weather_41 (by decide) ?_
    refine sv_istore (lv' := [(4, _), (2, _), (0, _), (1, _)]) dX5_weather_42 (by decide) rfl ?_
    refine sv_sub [0, 1, 2, 3] rfl (sv_loop (pc := 44) (lv := fun k => [(4, .int (nI k)), (2, .long (gm_nxN (V 0).2 k)), (0, .ref m), (1, .int (nI n))]) (hp := fun k => (mw G h m V R t)) (I := fun k => True) (N := n) (trivial) ?_ ?_)
    · intro hI_k
      show sm_V G _ _ _ _ _ _ [(4, .int (nI n)), (2, .long (gm_nxN (V 0).2 n)), (0, .ref m), (1, .int (nI n))] [] (mw G h m V R t)
      refine sv_iload dX5_weather_44 rfl ?_
      refine sv_iload_n dX5_weather_46 rfl ?_
      refine sv_icmpN_ge 61 dX5_weather_47 (by decide) (by omega) (by omega) (fun c_47 => ?_) (fun c_47 => absurd c_47 (by omega))
      refine sv_lload_n dX5_weather_61 rfl ?_
      refine sv_callS (As := [_]) sc_X5_247 (k5_weatherOf) rfl rfl (Nat.le_of_ble_eq_true rfl) dX5_weather_62 ⟨by decide, by decide⟩ ⟨Nat.zero_le _, Nat.zero_le _⟩ (Nat.le_of_ble_eq_true rfl) ?_
      refine sv_iret dX5_weather_65 rfl rfl (Nat.le_refl _) (Nat.le_refl _) ?_
      first | exact mQi _ (rI (if_pos (by omega)).symm) rfl | exact mQi _ (rI (if_neg (by omega)).symm) rfl
    · intro k hn_k hI_k ih_k
      show sm_V G _ _ _ _ _ _ [(4, .int (nI k)), (2, .long (gm_nxN (V 0).2 k)), (0, .ref m), (1, .int (nI n))] [] (mw G h m V R t)
      refine sv_iload dX5_weather_44 rfl ?_
      refine sv_iload_n dX5_weather_46 rfl ?_
      refine sv_icmpN_ge 61 dX5_weather_47 (by decide) (by omega) (by omega) (fun c_47 => absurd c_47 (by omega)) (fun c_47 => ?_)
      refine sv_lload_n dX5_weather_50 rfl ?_
      refine sv_callS (As := [_]) sc_X5_243 (k5_nextX) rfl rfl (Nat.le_of_ble_eq_true rfl) dX5_weather_51 ⟨by decide, by decide⟩ ⟨Nat.zero_le _, Nat.zero_le _⟩ (Nat.le_of_ble_eq_true rfl) ?_
      refine sv_lstore_n (lv' := [(2, _), (4, _), (0, _), (1, _)]) dX5_weather_54 (by decide) rfl ?_
      refine sv_iinc1 (lv' := [(4, _), (2, _), (0, _), (1, _)]) dX5_weather_55 rfl (by decide) rfl ?_
      refine sv_goto 44 dX5_weather_58 (by decide) ?_
      exact sv_sub [0, 1, 2, 3] rfl (ih_k trivial)
  · refine sv_iconst (-1) dX5_weather_31 (by decide) ?_
    refine sv_iret dX5_weather_32 rfl rfl (Nat.le_refl _) (Nat.le_refl _) ?_
    first | exact mQi _ (rI (if_pos (by omega)).symm) rfl | exact mQi _ (rI (if_neg (by omega)).symm) rfl
theorem k5_save1 {w : Int32} (hw : gm_in (nI 0) w (nI 1) = false) (h0 : h 0 = none) (hm : 0 < m) : sm_C G mX5_save 6 1 6 [.ref m, .int w] (mw G h m V R t) (mQ G h m (.inr "java/lang/IndexOutOfBoundsException") V t) := by
  unfold sm_C
  show sm_V G _ _ _ 0 0 0 [(0, .ref m), (1, .int w)] [] _
  refine sv_iload_n dX5_save_0 rfl ?_
  refine sv_if_lt 9 dX5_save_1 (by decide) (fun c_1 => ?_) (fun c_1 => ?_)
  · exact sv_throwW 20 sx_ioo rfl rfl rfl dX5_save_9 dX5_save_12 dX5_save_13 dX5_save_16 dX5_save_19 ⟨(Nat.le_of_ble_eq_true rfl), (Nat.le_of_ble_eq_true rfl)⟩ ⟨(Nat.le_of_ble_eq_true rfl), (Nat.le_of_ble_eq_true rfl)⟩ (Nat.le_of_ble_eq_true rfl) (Nat.le_of_ble_eq_true rfl) ⟨rfl, _, mw_fg h0 hm⟩
  · refine sv_iload_n dX5_save_4 rfl ?_
    refine sv_iconst (nI 2) dX5_save_5 (by decide) ?_
    refine sv_icmp_lt 20 dX5_save_6 (by decide) (fun c_6 => absurd c_6 ((fun z => absurd (in_t2 (a := 0) (b := 1) (by omega) (by omega) c_1 (Int32.not_le.mpr z)) (ne_t hw)) c_6)) (fun c_6 => ?_)
    exact sv_throwW 20 sx_ioo rfl rfl rfl dX5_save_9 dX5_save_12 dX5_save_13 dX5_save_16 dX5_save_19 ⟨(Nat.le_of_ble_eq_true rfl), (Nat.le_of_ble_eq_true rfl)⟩ ⟨(Nat.le_of_ble_eq_true rfl), (Nat.le_of_ble_eq_true rfl)⟩ (Nat.le_of_ble_eq_true rfl) (Nat.le_of_ble_eq_true rfl) ⟨rfl, _, mw_fg h0 hm⟩
theorem k5_saveK (hn : n < 2) : sm_C G mX5_save 2 0 0 [.ref m, .int (nI n)] (mw G h m V R t) (mQ G h m (.inl (some (.int (nI ((V 0).1 3))))) (va_up V (16 + n) (V 0)) (t.1, t.2.1, t.2.2.1, t.2.2.2.1, va_up t.2.2.2.2 n 1)) := by
  unfold sm_C
  show sm_V G _ _ _ 0 0 0 [(0, .ref m), (1, .int (nI n))] [] _
  refine sv_iload_n dX5_save_0 rfl ?_
  refine sv_ifN_lt 9 dX5_save_1 (by decide) (by omega) (fun c_1 => absurd c_1 (fun q => q)) (fun c_1 => ?_)
  refine sv_iload_n dX5_save_4 rfl ?_
  refine sv_iconst (nI 2) dX5_save_5 (by decide) ?_
  refine sv_icmpN_lt 20 dX5_save_6 (by decide) (by omega) (by omega) (fun c_6 => ?_) (fun c_6 => absurd c_6 (by omega))
  refine sv_aload_n dX5_save_20 rfl ?_
  refine km_g4 dX5_save_21 sf_X5_33 ?_
  refine sv_iload_n dX5_save_24 rfl ?_
  refine km_ld dX5_save_25 (by omega) ?_
  refine sv_aload_n dX5_save_26 rfl ?_
  refine km_g1 dX5_save_27 sf_X5_19 ?_
  refine sv_callV (As := [_]) sc_X5_224 (mw_ls hn) rfl rfl (Nat.le_of_ble_eq_true rfl) dX5_save_30 ⟨by decide, by decide⟩ ⟨Nat.zero_le _, Nat.zero_le _⟩ (Nat.le_of_ble_eq_true rfl) (hg_0 (mw_gl hn)) (List.cons_ne_nil _ _) rfl ?_
  refine sv_aload_n dX5_save_33 rfl ?_
  refine km_g5 dX5_save_34 sf_X5_37 ?_
  refine sv_iload_n dX5_save_37 rfl ?_
  refine sv_iconst (nI 1) dX5_save_38 (by decide) ?_
  refine km_stf (v := 1) (by decide) dX5_save_39 (by omega) ?_
  refine sv_aload_n dX5_save_40 rfl ?_
  refine km_g1 dX5_save_41 sf_X5_19 ?_
  refine kg_g4 (hg_0 mw_gn) dX5_save_44 sf_X5_238 ?_
  refine sv_iret dX5_save_47 rfl rfl (Nat.le_refl _) (Nat.le_refl _) ?_
  exact mQi _ (ri (by rw [up_ne (by omega)])) rfl
theorem k5_restore1 {w : Int32} (hw : gm_in (nI 0) w (nI 1) = false) (h0 : h 0 = none) (hm : 0 < m) : sm_C G mX5_restore 6 1 6 [.ref m, .int w] (mw G h m V R t) (mQ G h m (.inr "java/lang/IndexOutOfBoundsException") V t) := by
  unfold sm_C
  show sm_V G _ _ _ 0 0 0 [(0, .ref m), (1, .int w)] [] _
  refine sv_iload_n dX5_restore_0 rfl ?_
  refine sv_if_lt 9 dX5_restore_1 (by decide) (fun c_1 => ?_) (fun c_1 => ?_)
  · exact sv_throwW 20 sx_ioo rfl rfl rfl dX5_restore_9 dX5_restore_12 dX5_restore_13 dX5_restore_16 dX5_restore_19 ⟨(Nat.le_of_ble_eq_true rfl), (Nat.le_of_ble_eq_true rfl)⟩ ⟨(Nat.le_of_ble_eq_true rfl), (Nat.le_of_ble_eq_true rfl)⟩ (Nat.le_of_ble_eq_true rfl) (Nat.le_of_ble_eq_true rfl) ⟨rfl, _, mw_fg h0 hm⟩
  · refine sv_iload_n dX5_restore_4 rfl ?_
    refine sv_iconst (nI 2) dX5_restore_5 (by decide) ?_
    refine sv_icmp_lt 20 dX5_restore_6 (by decide) (fun c_6 => absurd c_6 ((fun z => absurd (in_t2 (a := 0) (b := 1) (by omega) (by omega) c_1 (Int32.not_le.mpr z)) (ne_t hw)) c_6)) (fun c_6 => ?_)
    exact sv_throwW 20 sx_ioo rfl rfl rfl dX5_restore_9 dX5_restore_12 dX5_restore_13 dX5_restore_16 dX5_restore_19 ⟨(Nat.le_of_ble_eq_true rfl), (Nat.le_of_ble_eq_true rfl)⟩ ⟨(Nat.le_of_ble_eq_true rfl), (Nat.le_of_ble_eq_true rfl)⟩ (Nat.le_of_ble_eq_true rfl) (Nat.le_of_ble_eq_true rfl) ⟨rfl, _, mw_fg h0 hm⟩
theorem k5_restore2 (hn : n < 2) (hf : t.2.2.2.2 n = 0) (h0 : h 0 = none) (hm : 0 < m) : sm_C G mX5_restore 6 1 6 [.ref m, .int (nI n)] (mw G h m V R t) (mQ G h m (.inr "java/lang/IllegalStateException") V t) := by
  unfold sm_C
  show sm_V G _ _ _ 0 0 0 [(0, .ref m), (1, .int (nI n))] [] _
  refine sv_iload_n dX5_restore_0 rfl ?_
  refine sv_ifN_lt 9 dX5_restore_1 (by decide) (by first | omega | exact Nat.lt_trans (b2n_lt _) (by decide)) (fun c_1 => absurd c_1 (fun q => q)) (fun c_1 => ?_)
  refine sv_iload_n dX5_restore_4 rfl ?_
  refine sv_iconst (nI 2) dX5_restore_5 (by decide) ?_
  refine sv_icmpN_lt 20 dX5_restore_6 (by decide) (by first | omega | exact Nat.lt_trans (b2n_lt _) (by decide)) (by first | omega | exact Nat.lt_trans (b2n_lt _) (by decide)) (fun c_6 => ?_) (fun c_6 => absurd c_6 (by omega))
  refine sv_aload_n dX5_restore_20 rfl ?_
  refine km_g5 dX5_restore_21 sf_X5_37 ?_
  refine sv_iload_n dX5_restore_24 rfl ?_
  refine km_ldf dX5_restore_25 (by first | omega | exact Nat.lt_trans (b2n_lt _) (by decide)) ?_
  refine sv_ifN_ne 40 dX5_restore_26 (by decide) (by first | omega | exact Nat.lt_trans (b2n_lt _) (by decide)) (fun c_26 => absurd c_26 (fun z => z (by rw [hf]; rfl))) (fun c_26 => ?_)
  exact sv_throwW 21 sx_ise rfl rfl rfl dX5_restore_29 dX5_restore_32 dX5_restore_33 dX5_restore_36 dX5_restore_39 ⟨(Nat.le_of_ble_eq_true rfl), (Nat.le_of_ble_eq_true rfl)⟩ ⟨(Nat.le_of_ble_eq_true rfl), (Nat.le_of_ble_eq_true rfl)⟩ (Nat.le_of_ble_eq_true rfl) (Nat.le_of_ble_eq_true rfl) ⟨rfl, _, mw_fg h0 hm⟩
theorem k5_restoreK (hn : n < 2) (hf : t.2.2.2.2 n ≠ 0) : sm_C G mX5_restore 2 0 0 [.ref m, .int (nI n)] (mw G h m V R t) (mQ G h m (.inl (some (.int (nI ((V (16 + n)).1 3))))) (va_up V 0 (V (16 + n))) (t.1, t.2.1, 0, t.2.2.2.1, t.2.2.2.2)) := by
  unfold sm_C
  show sm_V G _ _ _ 0 0 0 [(0, .ref m), (1, .int (nI n))] [] _
  refine sv_iload_n dX5_restore_0 rfl ?_
  refine sv_ifN_lt 9 dX5_restore_1 (by decide) (by first | omega | exact Nat.lt_trans (b2n_lt _) (by decide)) (fun c_1 => absurd c_1 (fun q => q)) (fun c_1 => ?_)
  refine sv_iload_n dX5_restore_4 rfl ?_
  refine sv_iconst (nI 2) dX5_restore_5 (by decide) ?_
  refine sv_icmpN_lt 20 dX5_restore_6 (by decide) (by first | omega | exact Nat.lt_trans (b2n_lt _) (by decide)) (by first | omega | exact Nat.lt_trans (b2n_lt _) (by decide)) (fun c_6 => ?_) (fun c_6 => absurd c_6 (by omega))
  refine sv_aload_n dX5_restore_20 rfl ?_
  refine km_g5 dX5_restore_21 sf_X5_37 ?_
  refine sv_iload_n dX5_restore_24 rfl ?_
  refine km_ldf dX5_restore_25 (by first | omega | exact Nat.lt_trans (b2n_lt _) (by decide)) ?_
  refine sv_ifN_ne 40 dX5_restore_26 (by decide) (by first | omega | exact Nat.lt_trans (b2n_lt _) (by decide)) (fun c_26 => ?_) (fun c_26 => absurd c_26 (by rw [decide_eq_true hf]; decide))
  refine sv_aload_n dX5_restore_40 rfl ?_
  refine km_g1 dX5_restore_41 sf_X5_19 ?_
  refine sv_aload_n dX5_restore_44 rfl ?_
  refine km_g4 dX5_restore_45 sf_X5_33 ?_
  refine sv_iload_n dX5_restore_48 rfl ?_
  refine km_ld dX5_restore_49 (by first | omega | exact Nat.lt_trans (b2n_lt _) (by decide)) ?_
  refine sv_callV (As := [_]) sc_X5_224 (mw_lr hn) rfl rfl (Nat.le_of_ble_eq_true rfl) dX5_restore_50 ⟨by decide, by decide⟩ ⟨Nat.zero_le _, Nat.zero_le _⟩ (Nat.le_of_ble_eq_true rfl) (hg_0 mw_gn) (List.cons_ne_nil _ _) rfl ?_
  refine sv_aload_n dX5_restore_53 rfl ?_
  refine km_g3 dX5_restore_54 sf_X5_29 ?_
  refine sv_callV (As := []) sc_X5_70 (k1_forget) rfl rfl (Nat.le_of_ble_eq_true rfl) dX5_restore_57 ⟨by decide, by decide⟩ ⟨Nat.zero_le _, Nat.zero_le _⟩ (Nat.le_of_ble_eq_true rfl) mw_h (List.cons_ne_nil _ _) rfl ?_
  refine sv_aload_n dX5_restore_60 rfl ?_
  refine km_g1 dX5_restore_61 sf_X5_19 ?_
  refine kg_g4 (hg_0 mw_gn) dX5_restore_64 sf_X5_238 ?_
  refine sv_iret dX5_restore_67 rfl rfl (Nat.le_refl _) (Nat.le_refl _) ?_
  exact mQi _ (ri (by rw [up_eq])) rfl
end CAQ
