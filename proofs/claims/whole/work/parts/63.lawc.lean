section CLD
variable {G : sm_G} {m b L cells slots j K n c x : Nat} {xs : Nat → Int32} {F : Nat → Int32} {X : Nat → Int64} {A : Nat → Nat → Int32} {S : gm_S} {LL : Nat → Nat → Int64} {V : mw_V} {R : mw_R} {O : Nat → Int64} {B f : Nat → Nat}
/-- behind a case -/
def lJ (G : sm_G) (b L : Nat) (xs : Nat → Int32) (m j K cells slots : Nat) : Prop := ∀ (F : Nat → Int32) (X : Nat → Int64) (A : Nat → Nat → Int32) (S : gm_S) (LL : Nat → Nat → Int64) (V : mw_V) (R : mw_R) (t : mw_T) (O : Nat → Int64), lc (K + 5000) F X A S LL V t.1 t.2.1 t.2.2.1 t.2.2.2.1 t.2.2.2.2 → sm_V G mL_law room_1 (lZ (sm_B G) b L xs) (cells + 1) (slots + 6) 1562 [(0, .ref b), (1, .ref m), (2, .ref (m + 493)), (3, .ref (m + 504)), (4, .int (nI (4 * j)))] [] (lh G m F X (sm_as A S) LL V R t O)
theorem lin {i : Nat} (h : i < L) (hL : L ≤ 2048) : vp_in (nI i) L := by
  intro z
  rcases z with z | z
  · rw [← nI_0, nI_ltI (by omega) (by omega)] at z; omega
  · rw [nI_clamp (by omega)] at z; omega
theorem lcmp0 (y : Int64) : lg_cmp y y = 0 := by unfold lg_cmp; simp
theorem lw_c0 (hl : lc K F X A S LL V n B c x f) (hK : K + 60000 < 2 ^ 26) (h12 : 12 ≤ K) (hj : 4 * j + 4 ≤ L) (hL : L ≤ 2048) (hb : b < sm_B G) (hm : 0 < m) (hc : cells + 1 ≤ 641416) (hs : slots + 6 ≤ 7171855) (join : lJ G b L xs m j K cells slots) : sm_V G mL_law room_1 (lZ (sm_B G) b L xs) cells slots 148 [(0, .ref b), (1, .ref m), (2, .ref (m + 493)), (3, .ref (m + 504)), (4, .int (nI (4 * j)))] [] (lh G m F X (sm_as A S) LL V R (n, B, c, x, f) O) := by
  obtain ⟨k, a, V2, t2, d, hk, hd, hx, hr⟩ := lp_append (G := G) hl hK h12 (xs (4 * j + 1))
  refine sv_aload_n dL_law_148 rfl ?_
  refine sv_aload_n dL_law_149 rfl ?_
  refine sv_iload dL_law_150 rfl ?_
  refine sv_iconst (nI 1) dL_law_152 rfl ?_
  refine sv_iadd dL_law_153 ?_
  refine sv_top (nI (4 * j + 1)) (nI_add _ _) ?_
  refine sl_ld dL_law_154 (lin (by omega) hL) ?_ hb
  refine sv_top (xs (4 * j + 1)) (by rw [nI_clamp (by omega)]) ?_
  refine sv_aload_n dL_law_155 rfl ?_
  refine sv_heap lh_m ?_
  refine sv_invSH (As := [.ref m, .int (xs (4 * j + 1)), .ref (m + 504)]) (rest := []) sc_L_90 (hx _ m (m + 504) R O (lh_z hm) hm lh_1 (.inr (by omega))) rfl rfl (Nat.le_of_ble_eq_true rfl) dL_law_156 ⟨by decide, by decide⟩ ⟨show cells + 1 ≤ 641416 from hc, show slots + 6 ≤ 7171855 from hs⟩ (Nat.le_of_ble_eq_true rfl) (fun w1 h1 q => ?_) (fun E h1 q => by obtain ⟨q1, -⟩ := q; cases q1)
  obtain ⟨q1, v1, R1, O1, rfl, q4⟩ := q
  cases q1
  show sm_V G _ _ _ (cells + 1) (slots + 6) 159 _ [.int (nI k)] _
  refine sv_heap lh_m2 ?_
  refine sv_istore (lv' := [(5, .int (nI k)), (0, .ref b), (1, .ref m), (2, .ref (m + 493)), (3, .ref (m + 504)), (4, .int (nI (4 * j)))]) dL_law_159 (by decide) rfl ?_
  show sm_V G _ _ _ _ _ _ _ _ (sm_om G (mw G (lh0 G m O1) m (va_up V2 1 v1) R1 t2) (m + 493) F X (sm_as A S) LL)
  refine sv_aload_n dL_law_161 rfl ?_
  refine sv_aload_n dL_law_162 rfl ?_
  refine sv_iload dL_law_163 rfl ?_
  refine sv_iconst (nI 1) dL_law_165 rfl ?_
  refine sv_iadd dL_law_166 ?_
  refine sv_top (nI (4 * j + 1)) (nI_add _ _) ?_
  refine sl_ld dL_law_167 (lin (by omega) hL) ?_ hb
  refine sv_top (xs (4 * j + 1)) (by rw [nI_clamp (by omega)]) ?_
  refine sv_invV (As := [.int (xs (4 * j + 1))]) (rest := []) sc_L_95 (hr _ (m + 493)) rfl rfl (Nat.le_of_ble_eq_true rfl) dL_law_168 ⟨show d + 1 ≤ 12 by omega, show 8 + (2 + 11) + 30 * d ≤ 484 by omega⟩ ⟨show cells + 1 + 0 ≤ 641416 by omega, show slots + 6 + 0 ≤ 7171855 by omega⟩ (Nat.le_of_ble_eq_true rfl) om_0 (List.cons_ne_nil _ _) rfl (fun w1 h1 q => ?_) (fun E h1 q => by obtain ⟨q1, -⟩ := q; cases q1)
  obtain ⟨q1, F2, X2, A2, S2, L2, rfl, qF, ql⟩ := q
  cases q1
  show sm_V G _ _ _ (cells + 1) (slots + 6) 171 _ [.int a] _
  refine sv_istore (lv' := [(6, .int a), (5, .int (nI k)), (0, .ref b), (1, .ref m), (2, .ref (m + 493)), (3, .ref (m + 504)), (4, .int (nI (4 * j)))]) dL_law_171 (by decide) rfl ?_
  refine sv_aload_n dL_law_173 rfl ?_
  refine sv_callV (As := []) (rest := []) sc_L_96 c6_thrown rfl rfl (Nat.le_of_ble_eq_true rfl) dL_law_174 ⟨by decide, by decide⟩ ⟨show cells + 1 ≤ 641416 by omega, show slots + 6 ≤ 7171855 by omega⟩ (Nat.le_of_ble_eq_true rfl) om_0 (List.cons_ne_nil _ _) rfl ?_
  show sm_V G _ _ _ (cells + 1) (slots + 6) 177 _ [.int (F2 0)] _
  refine sv_top (nI k) qF ?_
  refine sv_iload dL_law_177 rfl ?_
  refine sv_icmp_eq 184 dL_law_179 (by decide) (fun _ => ?_) (fun z => absurd rfl z)
  have kj : sm_V G mL_law room_1 (lZ (sm_B G) b L xs) (cells + 1) (slots + 6) 201 [(6, .int a), (5, .int (nI k)), (0, .ref b), (1, .ref m), (2, .ref (m + 493)), (3, .ref (m + 504)), (4, .int (nI (4 * j)))] [] (sm_om G (mw G (lh0 G m O1) m (va_up V2 1 v1) R1 t2) (m + 493) F2 X2 (sm_as A2 S2) L2) := sv_goto 1562 dL_law_201 (by decide) (sv_sub [2, 3, 4, 5, 6] rfl (join _ _ _ _ _ _ R1 t2 O1 (ql v1)))
  refine sv_iload dL_law_184 rfl ?_
  refine sv_ifN_ne 201 dL_law_186 (by decide) (by omega) (fun _ => kj) (fun hk0 => ?_)
  refine sv_aload_n dL_law_189 rfl ?_
  refine sv_iconst (nI 0) dL_law_190 rfl ?_
  refine sv_laload dL_law_191 (lh_o (V := va_up V2 1 v1) (R := R1) (t := t2) (O := O1)) (show ¬ (nI 0 < 0 ∨ 1 ≤ (nI 0).toNatClampNeg) by decide) ?_
  refine sv_topl a.toInt64 (q4 hk0) ?_
  refine sv_iload dL_law_192 rfl ?_
  refine sv_i2l dL_law_194 ?_
  refine sv_lcmp dL_law_195 ?_
  exact sv_if_eq 201 dL_law_196 (by decide) (fun _ => kj) (fun z => absurd (lcmp0 _) z)
theorem lw_c1 (hl : lc K F X A S LL V n B c x f) (hK : K + 60000 < 2 ^ 26) (h12 : 12 ≤ K) (hj : 4 * j + 4 ≤ L) (hL : L ≤ 2048) (hb : b < sm_B G) (hm : 0 < m) (hc : cells + 1 ≤ 641416) (hs : slots + 6 ≤ 7171855) (join : lJ G b L xs m j K cells slots) : sm_V G mL_law room_1 (lZ (sm_B G) b L xs) cells slots 204 [(0, .ref b), (1, .ref m), (2, .ref (m + 493)), (3, .ref (m + 504)), (4, .int (nI (4 * j)))] [] (lh G m F X (sm_as A S) LL V R (n, B, c, x, f) O) := by
  obtain ⟨a, V2, t2, d1, d2, hd1, hd2, hx, hr⟩ := lp_clearText (G := G) hl hK
  refine sv_aload_n dL_law_204 rfl ?_
  refine sv_heap lh_m ?_
  refine sv_invV (As := []) (rest := []) sc_L_99 (hx _ m R) rfl rfl (Nat.le_of_ble_eq_true rfl) dL_law_205 ⟨show d1 + 1 ≤ 12 by omega, show 8 + (2 + 11) + 30 * d1 ≤ 484 by omega⟩ ⟨show cells + 0 ≤ 641416 by omega, show slots + 0 ≤ 7171855 by omega⟩ (Nat.le_of_ble_eq_true rfl) mw_0 (List.cons_ne_nil _ _) rfl (fun w1 h1 q => ?_) (fun E h1 q => by obtain ⟨q1, -⟩ := q; cases q1)
  obtain ⟨q1, R1, rfl⟩ := q
  cases q1
  refine sv_heap lh_m.symm ?_
  show sm_V G _ _ _ cells slots 208 _ [.int a] (sm_om G (mw G (lh0 G m O) m V2 R1 t2) (m + 493) F X (sm_as A S) LL)
  refine sv_aload_n dL_law_208 rfl ?_
  refine sv_invV (As := []) (rest := [.int a]) sc_L_102 (hr _ (m + 493)) rfl rfl (Nat.le_of_ble_eq_true rfl) dL_law_209 ⟨show d2 + 1 ≤ 12 by omega, show 8 + (2 + 11) + 30 * d2 ≤ 484 by omega⟩ ⟨show cells + 0 ≤ 641416 by omega, show slots + 0 ≤ 7171855 by omega⟩ (Nat.le_of_ble_eq_true rfl) om_0 (List.cons_ne_nil _ _) rfl (fun w1 h1 q => ?_) (fun E h1 q => by obtain ⟨q1, -⟩ := q; cases q1)
  obtain ⟨q1, F2, X2, A2, S2, L2, rfl, qF, ql⟩ := q
  cases q1
  show sm_V G _ _ _ cells slots 212 _ [.int a, .int a] _
  refine sv_icmp_eq 1562 dL_law_212 (by decide) (fun _ => ?_) (fun z => absurd rfl z)
  have q9 := ql (V2 1)
  rw [va_id] at q9
  exact sv_wide (Nat.le_add_right _ _) (Nat.le_add_right _ _) (join _ _ _ _ _ _ R1 t2 O q9)
theorem lw_c2 (hl : lc K F X A S LL V n B c x f) (hK : K + 60000 < 2 ^ 26) (h12 : 12 ≤ K) (hj : 4 * j + 4 ≤ L) (hL : L ≤ 2048) (hb : b < sm_B G) (hm : 0 < m) (hc : cells + 1 ≤ 641416) (hs : slots + 6 ≤ 7171855) (join : lJ G b L xs m j K cells slots) : sm_V G mL_law room_1 (lZ (sm_B G) b L xs) cells slots 217 [(0, .ref b), (1, .ref m), (2, .ref (m + 493)), (3, .ref (m + 504)), (4, .int (nI (4 * j)))] [] (lh G m F X (sm_as A S) LL V R (n, B, c, x, f) O) := by
  obtain ⟨a, V2, t2, d1, d2, hd1, hd2, hx, hr⟩ := lp_errorPosition (G := G) hl hK
  refine sv_aload_n dL_law_217 rfl ?_
  refine sv_heap lh_m ?_
  refine sv_invV (As := []) (rest := []) sc_L_103 (hx _ m R) rfl rfl (Nat.le_of_ble_eq_true rfl) dL_law_218 ⟨show d1 + 1 ≤ 12 by omega, show 8 + (1 + 11) + 30 * d1 ≤ 484 by omega⟩ ⟨show cells + 0 ≤ 641416 by omega, show slots + 0 ≤ 7171855 by omega⟩ (Nat.le_of_ble_eq_true rfl) mw_0 (List.cons_ne_nil _ _) rfl (fun w1 h1 q => ?_) (fun E h1 q => by obtain ⟨q1, -⟩ := q; cases q1)
  obtain ⟨q1, R1, rfl⟩ := q
  cases q1
  refine sv_heap lh_m.symm ?_
  show sm_V G _ _ _ cells slots 221 _ [.int a] (sm_om G (mw G (lh0 G m O) m V2 R1 t2) (m + 493) F X (sm_as A S) LL)
  refine sv_aload_n dL_law_221 rfl ?_
  refine sv_invV (As := []) (rest := [.int a]) sc_L_106 (hr _ (m + 493)) rfl rfl (Nat.le_of_ble_eq_true rfl) dL_law_222 ⟨show d2 + 1 ≤ 12 by omega, show 8 + (1 + 11) + 30 * d2 ≤ 484 by omega⟩ ⟨show cells + 0 ≤ 641416 by omega, show slots + 0 ≤ 7171855 by omega⟩ (Nat.le_of_ble_eq_true rfl) om_0 (List.cons_ne_nil _ _) rfl (fun w1 h1 q => ?_) (fun E h1 q => by obtain ⟨q1, -⟩ := q; cases q1)
  obtain ⟨q1, F2, X2, A2, S2, L2, rfl, qF, ql⟩ := q
  cases q1
  show sm_V G _ _ _ cells slots 225 _ [.int a, .int a] _
  refine sv_icmp_eq 1562 dL_law_225 (by decide) (fun _ => ?_) (fun z => absurd rfl z)
  have q9 := ql (V2 1)
  rw [va_id] at q9
  exact sv_wide (Nat.le_add_right _ _) (Nat.le_add_right _ _) (join _ _ _ _ _ _ R1 t2 O q9)
theorem lw_c3 (hl : lc K F X A S LL V n B c x f) (hK : K + 60000 < 2 ^ 26) (h12 : 12 ≤ K) (hj : 4 * j + 4 ≤ L) (hL : L ≤ 2048) (hb : b < sm_B G) (hm : 0 < m) (hc : cells + 1 ≤ 641416) (hs : slots + 6 ≤ 7171855) (join : lJ G b L xs m j K cells slots) : sm_V G mL_law room_1 (lZ (sm_B G) b L xs) cells slots 230 [(0, .ref b), (1, .ref m), (2, .ref (m + 493)), (3, .ref (m + 504)), (4, .int (nI (4 * j)))] [] (lh G m F X (sm_as A S) LL V R (n, B, c, x, f) O) := by
  obtain ⟨k, a, V2, t2, d, hk, hd, hx, hr⟩ := lp_load (G := G) hl hK h12 
  refine sv_aload_n dL_law_230 rfl ?_
  refine sv_aload_n dL_law_231 rfl ?_
  refine sv_heap lh_m ?_
  refine sv_invSH (As := [.ref m, .ref (m + 504)]) (rest := []) sc_L_107 (hx _ m (m + 504) R O (lh_z hm) hm lh_1 (.inr (by omega))) rfl rfl (Nat.le_of_ble_eq_true rfl) dL_law_232 ⟨by decide, by decide⟩ ⟨show cells + 1 ≤ 641416 from hc, show slots + 6 ≤ 7171855 from hs⟩ (Nat.le_of_ble_eq_true rfl) (fun w1 h1 q => ?_) (fun E h1 q => by obtain ⟨q1, -⟩ := q; cases q1)
  obtain ⟨q1, v1, R1, O1, rfl, q4⟩ := q
  cases q1
  show sm_V G _ _ _ (cells + 1) (slots + 6) 235 _ [.int (nI k)] _
  refine sv_heap lh_m2 ?_
  refine sv_istore (lv' := [(5, .int (nI k)), (0, .ref b), (1, .ref m), (2, .ref (m + 493)), (3, .ref (m + 504)), (4, .int (nI (4 * j)))]) dL_law_235 (by decide) rfl ?_
  show sm_V G _ _ _ _ _ _ _ _ (sm_om G (mw G (lh0 G m O1) m (va_up V2 1 v1) R1 t2) (m + 493) F X (sm_as A S) LL)
  refine sv_aload_n dL_law_237 rfl ?_
  refine sv_invV (As := []) (rest := []) sc_L_110 (hr _ (m + 493)) rfl rfl (Nat.le_of_ble_eq_true rfl) dL_law_238 ⟨show d + 1 ≤ 12 by omega, show 8 + (3 + 11) + 30 * d ≤ 484 by omega⟩ ⟨show cells + 1 + 0 ≤ 641416 by omega, show slots + 6 + 0 ≤ 7171855 by omega⟩ (Nat.le_of_ble_eq_true rfl) om_0 (List.cons_ne_nil _ _) rfl (fun w1 h1 q => ?_) (fun E h1 q => by obtain ⟨q1, -⟩ := q; cases q1)
  obtain ⟨q1, F2, X2, A2, S2, L2, rfl, qF, ql⟩ := q
  cases q1
  show sm_V G _ _ _ (cells + 1) (slots + 6) 241 _ [.int a] _
  refine sv_istore (lv' := [(6, .int a), (5, .int (nI k)), (0, .ref b), (1, .ref m), (2, .ref (m + 493)), (3, .ref (m + 504)), (4, .int (nI (4 * j)))]) dL_law_241 (by decide) rfl ?_
  refine sv_aload_n dL_law_243 rfl ?_
  refine sv_callV (As := []) (rest := []) sc_L_96 c6_thrown rfl rfl (Nat.le_of_ble_eq_true rfl) dL_law_244 ⟨by decide, by decide⟩ ⟨show cells + 1 ≤ 641416 by omega, show slots + 6 ≤ 7171855 by omega⟩ (Nat.le_of_ble_eq_true rfl) om_0 (List.cons_ne_nil _ _) rfl ?_
  show sm_V G _ _ _ (cells + 1) (slots + 6) 247 _ [.int (F2 0)] _
  refine sv_top (nI k) qF ?_
  refine sv_iload dL_law_247 rfl ?_
  refine sv_icmp_eq 254 dL_law_249 (by decide) (fun _ => ?_) (fun z => absurd rfl z)
  have kj : sm_V G mL_law room_1 (lZ (sm_B G) b L xs) (cells + 1) (slots + 6) 271 [(6, .int a), (5, .int (nI k)), (0, .ref b), (1, .ref m), (2, .ref (m + 493)), (3, .ref (m + 504)), (4, .int (nI (4 * j)))] [] (sm_om G (mw G (lh0 G m O1) m (va_up V2 1 v1) R1 t2) (m + 493) F2 X2 (sm_as A2 S2) L2) := sv_goto 1562 dL_law_271 (by decide) (sv_sub [2, 3, 4, 5, 6] rfl (join _ _ _ _ _ _ R1 t2 O1 (ql v1)))
  refine sv_iload dL_law_254 rfl ?_
  refine sv_ifN_ne 271 dL_law_256 (by decide) (by omega) (fun _ => kj) (fun hk0 => ?_)
  refine sv_aload_n dL_law_259 rfl ?_
  refine sv_iconst (nI 0) dL_law_260 rfl ?_
  refine sv_laload dL_law_261 (lh_o (V := va_up V2 1 v1) (R := R1) (t := t2) (O := O1)) (show ¬ (nI 0 < 0 ∨ 1 ≤ (nI 0).toNatClampNeg) by decide) ?_
  refine sv_topl a.toInt64 (q4 hk0) ?_
  refine sv_iload dL_law_262 rfl ?_
  refine sv_i2l dL_law_264 ?_
  refine sv_lcmp dL_law_265 ?_
  exact sv_if_eq 271 dL_law_266 (by decide) (fun _ => kj) (fun z => absurd (lcmp0 _) z)
theorem lw_c4 (hl : lc K F X A S LL V n B c x f) (hK : K + 60000 < 2 ^ 26) (h12 : 12 ≤ K) (hj : 4 * j + 4 ≤ L) (hL : L ≤ 2048) (hb : b < sm_B G) (hm : 0 < m) (hc : cells + 1 ≤ 641416) (hs : slots + 6 ≤ 7171855) (join : lJ G b L xs m j K cells slots) : sm_V G mL_law room_1 (lZ (sm_B G) b L xs) cells slots 274 [(0, .ref b), (1, .ref m), (2, .ref (m + 493)), (3, .ref (m + 504)), (4, .int (nI (4 * j)))] [] (lh G m F X (sm_as A S) LL V R (n, B, c, x, f) O) := by
  obtain ⟨k, a, V2, t2, d, hk, hd, hx, hr⟩ := lp_about (G := G) hl hK h12 (xs (4 * j + 1))
  refine sv_aload_n dL_law_274 rfl ?_
  refine sv_aload_n dL_law_275 rfl ?_
  refine sv_iload dL_law_276 rfl ?_
  refine sv_iconst (nI 1) dL_law_278 rfl ?_
  refine sv_iadd dL_law_279 ?_
  refine sv_top (nI (4 * j + 1)) (nI_add _ _) ?_
  refine sl_ld dL_law_280 (lin (by omega) hL) ?_ hb
  refine sv_top (xs (4 * j + 1)) (by rw [nI_clamp (by omega)]) ?_
  refine sv_aload_n dL_law_281 rfl ?_
  refine sv_heap lh_m ?_
  refine sv_invSH (As := [.ref m, .int (xs (4 * j + 1)), .ref (m + 504)]) (rest := []) sc_L_111 (hx _ m (m + 504) R O (lh_z hm) hm lh_1 (.inr (by omega))) rfl rfl (Nat.le_of_ble_eq_true rfl) dL_law_282 ⟨by decide, by decide⟩ ⟨show cells + 1 ≤ 641416 from hc, show slots + 6 ≤ 7171855 from hs⟩ (Nat.le_of_ble_eq_true rfl) (fun w1 h1 q => ?_) (fun E h1 q => by obtain ⟨q1, -⟩ := q; cases q1)
  obtain ⟨q1, v1, R1, O1, rfl, q4⟩ := q
  cases q1
  show sm_V G _ _ _ (cells + 1) (slots + 6) 285 _ [.int (nI k)] _
  refine sv_heap lh_m2 ?_
  refine sv_istore (lv' := [(5, .int (nI k)), (0, .ref b), (1, .ref m), (2, .ref (m + 493)), (3, .ref (m + 504)), (4, .int (nI (4 * j)))]) dL_law_285 (by decide) rfl ?_
  show sm_V G _ _ _ _ _ _ _ _ (sm_om G (mw G (lh0 G m O1) m (va_up V2 1 v1) R1 t2) (m + 493) F X (sm_as A S) LL)
  refine sv_aload_n dL_law_287 rfl ?_
  refine sv_aload_n dL_law_288 rfl ?_
  refine sv_iload dL_law_289 rfl ?_
  refine sv_iconst (nI 1) dL_law_291 rfl ?_
  refine sv_iadd dL_law_292 ?_
  refine sv_top (nI (4 * j + 1)) (nI_add _ _) ?_
  refine sl_ld dL_law_293 (lin (by omega) hL) ?_ hb
  refine sv_top (xs (4 * j + 1)) (by rw [nI_clamp (by omega)]) ?_
  refine sv_invV (As := [.int (xs (4 * j + 1))]) (rest := []) sc_L_113 (hr _ (m + 493)) rfl rfl (Nat.le_of_ble_eq_true rfl) dL_law_294 ⟨show d + 1 ≤ 12 by omega, show 8 + (2 + 11) + 30 * d ≤ 484 by omega⟩ ⟨show cells + 1 + 0 ≤ 641416 by omega, show slots + 6 + 0 ≤ 7171855 by omega⟩ (Nat.le_of_ble_eq_true rfl) om_0 (List.cons_ne_nil _ _) rfl (fun w1 h1 q => ?_) (fun E h1 q => by obtain ⟨q1, -⟩ := q; cases q1)
  obtain ⟨q1, F2, X2, A2, S2, L2, rfl, qF, ql⟩ := q
  cases q1
  show sm_V G _ _ _ (cells + 1) (slots + 6) 297 _ [.int a] _
  refine sv_istore (lv' := [(6, .int a), (5, .int (nI k)), (0, .ref b), (1, .ref m), (2, .ref (m + 493)), (3, .ref (m + 504)), (4, .int (nI (4 * j)))]) dL_law_297 (by decide) rfl ?_
  refine sv_aload_n dL_law_299 rfl ?_
  refine sv_callV (As := []) (rest := []) sc_L_96 c6_thrown rfl rfl (Nat.le_of_ble_eq_true rfl) dL_law_300 ⟨by decide, by decide⟩ ⟨show cells + 1 ≤ 641416 by omega, show slots + 6 ≤ 7171855 by omega⟩ (Nat.le_of_ble_eq_true rfl) om_0 (List.cons_ne_nil _ _) rfl ?_
  show sm_V G _ _ _ (cells + 1) (slots + 6) 303 _ [.int (F2 0)] _
  refine sv_top (nI k) qF ?_
  refine sv_iload dL_law_303 rfl ?_
  refine sv_icmp_eq 310 dL_law_305 (by decide) (fun _ => ?_) (fun z => absurd rfl z)
  have kj : sm_V G mL_law room_1 (lZ (sm_B G) b L xs) (cells + 1) (slots + 6) 327 [(6, .int a), (5, .int (nI k)), (0, .ref b), (1, .ref m), (2, .ref (m + 493)), (3, .ref (m + 504)), (4, .int (nI (4 * j)))] [] (sm_om G (mw G (lh0 G m O1) m (va_up V2 1 v1) R1 t2) (m + 493) F2 X2 (sm_as A2 S2) L2) := sv_goto 1562 dL_law_327 (by decide) (sv_sub [2, 3, 4, 5, 6] rfl (join _ _ _ _ _ _ R1 t2 O1 (ql v1)))
  refine sv_iload dL_law_310 rfl ?_
  refine sv_ifN_ne 327 dL_law_312 (by decide) (by omega) (fun _ => kj) (fun hk0 => ?_)
  refine sv_aload_n dL_law_315 rfl ?_
  refine sv_iconst (nI 0) dL_law_316 rfl ?_
  refine sv_laload dL_law_317 (lh_o (V := va_up V2 1 v1) (R := R1) (t := t2) (O := O1)) (show ¬ (nI 0 < 0 ∨ 1 ≤ (nI 0).toNatClampNeg) by decide) ?_
  refine sv_topl a.toInt64 (q4 hk0) ?_
  refine sv_iload dL_law_318 rfl ?_
  refine sv_i2l dL_law_320 ?_
  refine sv_lcmp dL_law_321 ?_
  exact sv_if_eq 327 dL_law_322 (by decide) (fun _ => kj) (fun z => absurd (lcmp0 _) z)
theorem lw_c5 (hl : lc K F X A S LL V n B c x f) (hK : K + 60000 < 2 ^ 26) (h12 : 12 ≤ K) (hj : 4 * j + 4 ≤ L) (hL : L ≤ 2048) (hb : b < sm_B G) (hm : 0 < m) (hc : cells + 1 ≤ 641416) (hs : slots + 6 ≤ 7171855) (join : lJ G b L xs m j K cells slots) : sm_V G mL_law room_1 (lZ (sm_B G) b L xs) cells slots 330 [(0, .ref b), (1, .ref m), (2, .ref (m + 493)), (3, .ref (m + 504)), (4, .int (nI (4 * j)))] [] (lh G m F X (sm_as A S) LL V R (n, B, c, x, f) O) := by
  obtain ⟨k, a, V2, t2, d, hk, hd, hx, hr⟩ := lp_player (G := G) hl hK h12 (xs (4 * j + 1)) (xs (4 * j + 2))
  refine sv_aload_n dL_law_330 rfl ?_
  refine sv_aload_n dL_law_331 rfl ?_
  refine sv_iload dL_law_332 rfl ?_
  refine sv_iconst (nI 1) dL_law_334 rfl ?_
  refine sv_iadd dL_law_335 ?_
  refine sv_top (nI (4 * j + 1)) (nI_add _ _) ?_
  refine sl_ld dL_law_336 (lin (by omega) hL) ?_ hb
  refine sv_top (xs (4 * j + 1)) (by rw [nI_clamp (by omega)]) ?_
  refine sv_aload_n dL_law_337 rfl ?_
  refine sv_iload dL_law_338 rfl ?_
  refine sv_iconst (nI 2) dL_law_340 rfl ?_
  refine sv_iadd dL_law_341 ?_
  refine sv_top (nI (4 * j + 2)) (nI_add _ _) ?_
  refine sl_ld dL_law_342 (lin (by omega) hL) ?_ hb
  refine sv_top (xs (4 * j + 2)) (by rw [nI_clamp (by omega)]) ?_
  refine sv_aload_n dL_law_343 rfl ?_
  refine sv_heap lh_m ?_
  refine sv_invSH (As := [.ref m, .int (xs (4 * j + 1)), .int (xs (4 * j + 2)), .ref (m + 504)]) (rest := []) sc_L_114 (hx _ m (m + 504) R O (lh_z hm) hm lh_1 (.inr (by omega))) rfl rfl (Nat.le_of_ble_eq_true rfl) dL_law_344 ⟨by decide, by decide⟩ ⟨show cells + 1 ≤ 641416 from hc, show slots + 6 ≤ 7171855 from hs⟩ (Nat.le_of_ble_eq_true rfl) (fun w1 h1 q => ?_) (fun E h1 q => by obtain ⟨q1, -⟩ := q; cases q1)
  obtain ⟨q1, v1, R1, O1, rfl, q4⟩ := q
  cases q1
  show sm_V G _ _ _ (cells + 1) (slots + 6) 347 _ [.int (nI k)] _
  refine sv_heap lh_m2 ?_
  refine sv_istore (lv' := [(5, .int (nI k)), (0, .ref b), (1, .ref m), (2, .ref (m + 493)), (3, .ref (m + 504)), (4, .int (nI (4 * j)))]) dL_law_347 (by decide) rfl ?_
  show sm_V G _ _ _ _ _ _ _ _ (sm_om G (mw G (lh0 G m O1) m (va_up V2 1 v1) R1 t2) (m + 493) F X (sm_as A S) LL)
  refine sv_aload_n dL_law_349 rfl ?_
  refine sv_aload_n dL_law_350 rfl ?_
  refine sv_iload dL_law_351 rfl ?_
  refine sv_iconst (nI 1) dL_law_353 rfl ?_
  refine sv_iadd dL_law_354 ?_
  refine sv_top (nI (4 * j + 1)) (nI_add _ _) ?_
  refine sl_ld dL_law_355 (lin (by omega) hL) ?_ hb
  refine sv_top (xs (4 * j + 1)) (by rw [nI_clamp (by omega)]) ?_
  refine sv_aload_n dL_law_356 rfl ?_
  refine sv_iload dL_law_357 rfl ?_
  refine sv_iconst (nI 2) dL_law_359 rfl ?_
  refine sv_iadd dL_law_360 ?_
  refine sv_top (nI (4 * j + 2)) (nI_add _ _) ?_
  refine sl_ld dL_law_361 (lin (by omega) hL) ?_ hb
  refine sv_top (xs (4 * j + 2)) (by rw [nI_clamp (by omega)]) ?_
  refine sv_invV (As := [.int (xs (4 * j + 1)), .int (xs (4 * j + 2))]) (rest := []) sc_L_117 (hr _ (m + 493)) rfl rfl (Nat.le_of_ble_eq_true rfl) dL_law_362 ⟨show d + 1 ≤ 12 by omega, show 8 + (3 + 11) + 30 * d ≤ 484 by omega⟩ ⟨show cells + 1 + 0 ≤ 641416 by omega, show slots + 6 + 0 ≤ 7171855 by omega⟩ (Nat.le_of_ble_eq_true rfl) om_0 (List.cons_ne_nil _ _) rfl (fun w1 h1 q => ?_) (fun E h1 q => by obtain ⟨q1, -⟩ := q; cases q1)
  obtain ⟨q1, F2, X2, A2, S2, L2, rfl, qF, ql⟩ := q
  cases q1
  show sm_V G _ _ _ (cells + 1) (slots + 6) 365 _ [.int a] _
  refine sv_istore (lv' := [(6, .int a), (5, .int (nI k)), (0, .ref b), (1, .ref m), (2, .ref (m + 493)), (3, .ref (m + 504)), (4, .int (nI (4 * j)))]) dL_law_365 (by decide) rfl ?_
  refine sv_aload_n dL_law_367 rfl ?_
  refine sv_callV (As := []) (rest := []) sc_L_96 c6_thrown rfl rfl (Nat.le_of_ble_eq_true rfl) dL_law_368 ⟨by decide, by decide⟩ ⟨show cells + 1 ≤ 641416 by omega, show slots + 6 ≤ 7171855 by omega⟩ (Nat.le_of_ble_eq_true rfl) om_0 (List.cons_ne_nil _ _) rfl ?_
  show sm_V G _ _ _ (cells + 1) (slots + 6) 371 _ [.int (F2 0)] _
  refine sv_top (nI k) qF ?_
  refine sv_iload dL_law_371 rfl ?_
  refine sv_icmp_eq 378 dL_law_373 (by decide) (fun _ => ?_) (fun z => absurd rfl z)
  have kj : sm_V G mL_law room_1 (lZ (sm_B G) b L xs) (cells + 1) (slots + 6) 395 [(6, .int a), (5, .int (nI k)), (0, .ref b), (1, .ref m), (2, .ref (m + 493)), (3, .ref (m + 504)), (4, .int (nI (4 * j)))] [] (sm_om G (mw G (lh0 G m O1) m (va_up V2 1 v1) R1 t2) (m + 493) F2 X2 (sm_as A2 S2) L2) := sv_goto 1562 dL_law_395 (by decide) (sv_sub [2, 3, 4, 5, 6] rfl (join _ _ _ _ _ _ R1 t2 O1 (ql v1)))
  refine sv_iload dL_law_378 rfl ?_
  refine sv_ifN_ne 395 dL_law_380 (by decide) (by omega) (fun _ => kj) (fun hk0 => ?_)
  refine sv_aload_n dL_law_383 rfl ?_
  refine sv_iconst (nI 0) dL_law_384 rfl ?_
  refine sv_laload dL_law_385 (lh_o (V := va_up V2 1 v1) (R := R1) (t := t2) (O := O1)) (show ¬ (nI 0 < 0 ∨ 1 ≤ (nI 0).toNatClampNeg) by decide) ?_
  refine sv_topl a.toInt64 (q4 hk0) ?_
  refine sv_iload dL_law_386 rfl ?_
  refine sv_i2l dL_law_388 ?_
  refine sv_lcmp dL_law_389 ?_
  exact sv_if_eq 395 dL_law_390 (by decide) (fun _ => kj) (fun z => absurd (lcmp0 _) z)
theorem lw_c6 (hl : lc K F X A S LL V n B c x f) (hK : K + 60000 < 2 ^ 26) (h12 : 12 ≤ K) (hj : 4 * j + 4 ≤ L) (hL : L ≤ 2048) (hb : b < sm_B G) (hm : 0 < m) (hc : cells + 1 ≤ 641416) (hs : slots + 6 ≤ 7171855) (join : lJ G b L xs m j K cells slots) : sm_V G mL_law room_1 (lZ (sm_B G) b L xs) cells slots 398 [(0, .ref b), (1, .ref m), (2, .ref (m + 493)), (3, .ref (m + 504)), (4, .int (nI (4 * j)))] [] (lh G m F X (sm_as A S) LL V R (n, B, c, x, f) O) := by
  obtain ⟨k, a, V2, t2, d, hk, hd, hx, hr⟩ := lp_worker (G := G) hl hK h12 (xs (4 * j + 1)) (xs (4 * j + 2))
  refine sv_aload_n dL_law_398 rfl ?_
  refine sv_aload_n dL_law_399 rfl ?_
  refine sv_iload dL_law_400 rfl ?_
  refine sv_iconst (nI 1) dL_law_402 rfl ?_
  refine sv_iadd dL_law_403 ?_
  refine sv_top (nI (4 * j + 1)) (nI_add _ _) ?_
  refine sl_ld dL_law_404 (lin (by omega) hL) ?_ hb
  refine sv_top (xs (4 * j + 1)) (by rw [nI_clamp (by omega)]) ?_
  refine sv_aload_n dL_law_405 rfl ?_
  refine sv_iload dL_law_406 rfl ?_
  refine sv_iconst (nI 2) dL_law_408 rfl ?_
  refine sv_iadd dL_law_409 ?_
  refine sv_top (nI (4 * j + 2)) (nI_add _ _) ?_
  refine sl_ld dL_law_410 (lin (by omega) hL) ?_ hb
  refine sv_top (xs (4 * j + 2)) (by rw [nI_clamp (by omega)]) ?_
  refine sv_aload_n dL_law_411 rfl ?_
  refine sv_heap lh_m ?_
  refine sv_invSH (As := [.ref m, .int (xs (4 * j + 1)), .int (xs (4 * j + 2)), .ref (m + 504)]) (rest := []) sc_L_118 (hx _ m (m + 504) R O (lh_z hm) hm lh_1 (.inr (by omega))) rfl rfl (Nat.le_of_ble_eq_true rfl) dL_law_412 ⟨by decide, by decide⟩ ⟨show cells + 1 ≤ 641416 from hc, show slots + 6 ≤ 7171855 from hs⟩ (Nat.le_of_ble_eq_true rfl) (fun w1 h1 q => ?_) (fun E h1 q => by obtain ⟨q1, -⟩ := q; cases q1)
  obtain ⟨q1, v1, R1, O1, rfl, q4⟩ := q
  cases q1
  show sm_V G _ _ _ (cells + 1) (slots + 6) 415 _ [.int (nI k)] _
  refine sv_heap lh_m2 ?_
  refine sv_istore (lv' := [(5, .int (nI k)), (0, .ref b), (1, .ref m), (2, .ref (m + 493)), (3, .ref (m + 504)), (4, .int (nI (4 * j)))]) dL_law_415 (by decide) rfl ?_
  show sm_V G _ _ _ _ _ _ _ _ (sm_om G (mw G (lh0 G m O1) m (va_up V2 1 v1) R1 t2) (m + 493) F X (sm_as A S) LL)
  refine sv_aload_n dL_law_417 rfl ?_
  refine sv_aload_n dL_law_418 rfl ?_
  refine sv_iload dL_law_419 rfl ?_
  refine sv_iconst (nI 1) dL_law_421 rfl ?_
  refine sv_iadd dL_law_422 ?_
  refine sv_top (nI (4 * j + 1)) (nI_add _ _) ?_
  refine sl_ld dL_law_423 (lin (by omega) hL) ?_ hb
  refine sv_top (xs (4 * j + 1)) (by rw [nI_clamp (by omega)]) ?_
  refine sv_aload_n dL_law_424 rfl ?_
  refine sv_iload dL_law_425 rfl ?_
  refine sv_iconst (nI 2) dL_law_427 rfl ?_
  refine sv_iadd dL_law_428 ?_
  refine sv_top (nI (4 * j + 2)) (nI_add _ _) ?_
  refine sl_ld dL_law_429 (lin (by omega) hL) ?_ hb
  refine sv_top (xs (4 * j + 2)) (by rw [nI_clamp (by omega)]) ?_
  refine sv_invV (As := [.int (xs (4 * j + 1)), .int (xs (4 * j + 2))]) (rest := []) sc_L_120 (hr _ (m + 493)) rfl rfl (Nat.le_of_ble_eq_true rfl) dL_law_430 ⟨show d + 1 ≤ 12 by omega, show 8 + (3 + 11) + 30 * d ≤ 484 by omega⟩ ⟨show cells + 1 + 0 ≤ 641416 by omega, show slots + 6 + 0 ≤ 7171855 by omega⟩ (Nat.le_of_ble_eq_true rfl) om_0 (List.cons_ne_nil _ _) rfl (fun w1 h1 q => ?_) (fun E h1 q => by obtain ⟨q1, -⟩ := q; cases q1)
  obtain ⟨q1, F2, X2, A2, S2, L2, rfl, qF, ql⟩ := q
  cases q1
  show sm_V G _ _ _ (cells + 1) (slots + 6) 433 _ [.int a] _
  refine sv_istore (lv' := [(6, .int a), (5, .int (nI k)), (0, .ref b), (1, .ref m), (2, .ref (m + 493)), (3, .ref (m + 504)), (4, .int (nI (4 * j)))]) dL_law_433 (by decide) rfl ?_
  refine sv_aload_n dL_law_435 rfl ?_
  refine sv_callV (As := []) (rest := []) sc_L_96 c6_thrown rfl rfl (Nat.le_of_ble_eq_true rfl) dL_law_436 ⟨by decide, by decide⟩ ⟨show cells + 1 ≤ 641416 by omega, show slots + 6 ≤ 7171855 by omega⟩ (Nat.le_of_ble_eq_true rfl) om_0 (List.cons_ne_nil _ _) rfl ?_
  show sm_V G _ _ _ (cells + 1) (slots + 6) 439 _ [.int (F2 0)] _
  refine sv_top (nI k) qF ?_
  refine sv_iload dL_law_439 rfl ?_
  refine sv_icmp_eq 446 dL_law_441 (by decide) (fun _ => ?_) (fun z => absurd rfl z)
  have kj : sm_V G mL_law room_1 (lZ (sm_B G) b L xs) (cells + 1) (slots + 6) 463 [(6, .int a), (5, .int (nI k)), (0, .ref b), (1, .ref m), (2, .ref (m + 493)), (3, .ref (m + 504)), (4, .int (nI (4 * j)))] [] (sm_om G (mw G (lh0 G m O1) m (va_up V2 1 v1) R1 t2) (m + 493) F2 X2 (sm_as A2 S2) L2) := sv_goto 1562 dL_law_463 (by decide) (sv_sub [2, 3, 4, 5, 6] rfl (join _ _ _ _ _ _ R1 t2 O1 (ql v1)))
  refine sv_iload dL_law_446 rfl ?_
  refine sv_ifN_ne 463 dL_law_448 (by decide) (by omega) (fun _ => kj) (fun hk0 => ?_)
  refine sv_aload_n dL_law_451 rfl ?_
  refine sv_iconst (nI 0) dL_law_452 rfl ?_
  refine sv_laload dL_law_453 (lh_o (V := va_up V2 1 v1) (R := R1) (t := t2) (O := O1)) (show ¬ (nI 0 < 0 ∨ 1 ≤ (nI 0).toNatClampNeg) by decide) ?_
  refine sv_topl a.toInt64 (q4 hk0) ?_
  refine sv_iload dL_law_454 rfl ?_
  refine sv_i2l dL_law_456 ?_
  refine sv_lcmp dL_law_457 ?_
  exact sv_if_eq 463 dL_law_458 (by decide) (fun _ => kj) (fun z => absurd (lcmp0 _) z)
theorem lw_c7 (hl : lc K F X A S LL V n B c x f) (hK : K + 60000 < 2 ^ 26) (h12 : 12 ≤ K) (hj : 4 * j + 4 ≤ L) (hL : L ≤ 2048) (hb : b < sm_B G) (hm : 0 < m) (hc : cells + 1 ≤ 641416) (hs : slots + 6 ≤ 7171855) (join : lJ G b L xs m j K cells slots) : sm_V G mL_law room_1 (lZ (sm_B G) b L xs) cells slots 466 [(0, .ref b), (1, .ref m), (2, .ref (m + 493)), (3, .ref (m + 504)), (4, .int (nI (4 * j)))] [] (lh G m F X (sm_as A S) LL V R (n, B, c, x, f) O) := by
  obtain ⟨k, a, V2, t2, d, hk, hd, hx, hr⟩ := lp_setting (G := G) hl hK h12 (xs (4 * j + 1))
  refine sv_aload_n dL_law_466 rfl ?_
  refine sv_aload_n dL_law_467 rfl ?_
  refine sv_iload dL_law_468 rfl ?_
  refine sv_iconst (nI 1) dL_law_470 rfl ?_
  refine sv_iadd dL_law_471 ?_
  refine sv_top (nI (4 * j + 1)) (nI_add _ _) ?_
  refine sl_ld dL_law_472 (lin (by omega) hL) ?_ hb
  refine sv_top (xs (4 * j + 1)) (by rw [nI_clamp (by omega)]) ?_
  refine sv_aload_n dL_law_473 rfl ?_
  refine sv_heap lh_m ?_
  refine sv_invSH (As := [.ref m, .int (xs (4 * j + 1)), .ref (m + 504)]) (rest := []) sc_L_121 (hx _ m (m + 504) R O (lh_z hm) hm lh_1 (.inr (by omega))) rfl rfl (Nat.le_of_ble_eq_true rfl) dL_law_474 ⟨by decide, by decide⟩ ⟨show cells + 1 ≤ 641416 from hc, show slots + 6 ≤ 7171855 from hs⟩ (Nat.le_of_ble_eq_true rfl) (fun w1 h1 q => ?_) (fun E h1 q => by obtain ⟨q1, -⟩ := q; cases q1)
  obtain ⟨q1, v1, R1, O1, rfl, q4⟩ := q
  cases q1
  show sm_V G _ _ _ (cells + 1) (slots + 6) 477 _ [.int (nI k)] _
  refine sv_heap lh_m2 ?_
  refine sv_istore (lv' := [(5, .int (nI k)), (0, .ref b), (1, .ref m), (2, .ref (m + 493)), (3, .ref (m + 504)), (4, .int (nI (4 * j)))]) dL_law_477 (by decide) rfl ?_
  show sm_V G _ _ _ _ _ _ _ _ (sm_om G (mw G (lh0 G m O1) m (va_up V2 1 v1) R1 t2) (m + 493) F X (sm_as A S) LL)
  refine sv_aload_n dL_law_479 rfl ?_
  refine sv_aload_n dL_law_480 rfl ?_
  refine sv_iload dL_law_481 rfl ?_
  refine sv_iconst (nI 1) dL_law_483 rfl ?_
  refine sv_iadd dL_law_484 ?_
  refine sv_top (nI (4 * j + 1)) (nI_add _ _) ?_
  refine sl_ld dL_law_485 (lin (by omega) hL) ?_ hb
  refine sv_top (xs (4 * j + 1)) (by rw [nI_clamp (by omega)]) ?_
  refine sv_invV (As := [.int (xs (4 * j + 1))]) (rest := []) sc_L_123 (hr _ (m + 493)) rfl rfl (Nat.le_of_ble_eq_true rfl) dL_law_486 ⟨show d + 1 ≤ 12 by omega, show 8 + (2 + 11) + 30 * d ≤ 484 by omega⟩ ⟨show cells + 1 + 0 ≤ 641416 by omega, show slots + 6 + 0 ≤ 7171855 by omega⟩ (Nat.le_of_ble_eq_true rfl) om_0 (List.cons_ne_nil _ _) rfl (fun w1 h1 q => ?_) (fun E h1 q => by obtain ⟨q1, -⟩ := q; cases q1)
  obtain ⟨q1, F2, X2, A2, S2, L2, rfl, qF, ql⟩ := q
  cases q1
  show sm_V G _ _ _ (cells + 1) (slots + 6) 489 _ [.int a] _
  refine sv_istore (lv' := [(6, .int a), (5, .int (nI k)), (0, .ref b), (1, .ref m), (2, .ref (m + 493)), (3, .ref (m + 504)), (4, .int (nI (4 * j)))]) dL_law_489 (by decide) rfl ?_
  refine sv_aload_n dL_law_491 rfl ?_
  refine sv_callV (As := []) (rest := []) sc_L_96 c6_thrown rfl rfl (Nat.le_of_ble_eq_true rfl) dL_law_492 ⟨by decide, by decide⟩ ⟨show cells + 1 ≤ 641416 by omega, show slots + 6 ≤ 7171855 by omega⟩ (Nat.le_of_ble_eq_true rfl) om_0 (List.cons_ne_nil _ _) rfl ?_
  show sm_V G _ _ _ (cells + 1) (slots + 6) 495 _ [.int (F2 0)] _
  refine sv_top (nI k) qF ?_
  refine sv_iload dL_law_495 rfl ?_
  refine sv_icmp_eq 502 dL_law_497 (by decide) (fun _ => ?_) (fun z => absurd rfl z)
  have kj : sm_V G mL_law room_1 (lZ (sm_B G) b L xs) (cells + 1) (slots + 6) 519 [(6, .int a), (5, .int (nI k)), (0, .ref b), (1, .ref m), (2, .ref (m + 493)), (3, .ref (m + 504)), (4, .int (nI (4 * j)))] [] (sm_om G (mw G (lh0 G m O1) m (va_up V2 1 v1) R1 t2) (m + 493) F2 X2 (sm_as A2 S2) L2) := sv_goto 1562 dL_law_519 (by decide) (sv_sub [2, 3, 4, 5, 6] rfl (join _ _ _ _ _ _ R1 t2 O1 (ql v1)))
  refine sv_iload dL_law_502 rfl ?_
  refine sv_ifN_ne 519 dL_law_504 (by decide) (by omega) (fun _ => kj) (fun hk0 => ?_)
  refine sv_aload_n dL_law_507 rfl ?_
  refine sv_iconst (nI 0) dL_law_508 rfl ?_
  refine sv_laload dL_law_509 (lh_o (V := va_up V2 1 v1) (R := R1) (t := t2) (O := O1)) (show ¬ (nI 0 < 0 ∨ 1 ≤ (nI 0).toNatClampNeg) by decide) ?_
  refine sv_topl a.toInt64 (q4 hk0) ?_
  refine sv_iload dL_law_510 rfl ?_
  refine sv_i2l dL_law_512 ?_
  refine sv_lcmp dL_law_513 ?_
  exact sv_if_eq 519 dL_law_514 (by decide) (fun _ => kj) (fun z => absurd (lcmp0 _) z)
theorem lw_c8 (hl : lc K F X A S LL V n B c x f) (hK : K + 60000 < 2 ^ 26) (h12 : 12 ≤ K) (hj : 4 * j + 4 ≤ L) (hL : L ≤ 2048) (hb : b < sm_B G) (hm : 0 < m) (hc : cells + 1 ≤ 641416) (hs : slots + 6 ≤ 7171855) (join : lJ G b L xs m j K cells slots) : sm_V G mL_law room_1 (lZ (sm_B G) b L xs) cells slots 522 [(0, .ref b), (1, .ref m), (2, .ref (m + 493)), (3, .ref (m + 504)), (4, .int (nI (4 * j)))] [] (lh G m F X (sm_as A S) LL V R (n, B, c, x, f) O) := by
  obtain ⟨k, a, V2, t2, d, hk, hd, hx, hr⟩ := lp_begin (G := G) hl hK h12 (xs (4 * j + 1)) (((xs (4 * j + 2)).toInt64 <<< ((nI 32).toInt64 &&& 63) ||| (xs (4 * j + 3)).toInt64 &&& 4294967295))
  refine sv_aload_n dL_law_522 rfl ?_
  refine sv_aload_n dL_law_523 rfl ?_
  refine sv_iload dL_law_524 rfl ?_
  refine sv_iconst (nI 1) dL_law_526 rfl ?_
  refine sv_iadd dL_law_527 ?_
  refine sv_top (nI (4 * j + 1)) (nI_add _ _) ?_
  refine sl_ld dL_law_528 (lin (by omega) hL) ?_ hb
  refine sv_top (xs (4 * j + 1)) (by rw [nI_clamp (by omega)]) ?_
  refine sv_aload_n dL_law_529 rfl ?_
  refine sv_iload dL_law_530 rfl ?_
  refine sv_iconst (nI 2) dL_law_532 rfl ?_
  refine sv_iadd dL_law_533 ?_
  refine sv_top (nI (4 * j + 2)) (nI_add _ _) ?_
  refine sl_ld dL_law_534 (lin (by omega) hL) ?_ hb
  refine sv_top (xs (4 * j + 2)) (by rw [nI_clamp (by omega)]) ?_
  refine sv_i2l dL_law_535 ?_
  refine sv_bipush (nI 32) dL_law_536 rfl ?_
  refine sv_lshl dL_law_538 ?_
  refine sv_aload_n dL_law_539 rfl ?_
  refine sv_iload dL_law_540 rfl ?_
  refine sv_iconst (nI 3) dL_law_542 rfl ?_
  refine sv_iadd dL_law_543 ?_
  refine sv_top (nI (4 * j + 3)) (nI_add _ _) ?_
  refine sl_ld dL_law_544 (lin (by omega) hL) ?_ hb
  refine sv_top (xs (4 * j + 3)) (by rw [nI_clamp (by omega)]) ?_
  refine sv_i2l dL_law_545 ?_
  refine sv_ldc2 dL_law_546 (sm_tc ck_5_7_in 8 rfl rfl) ?_
  refine sv_land dL_law_549 ?_
  refine sv_lor dL_law_550 ?_
  refine sv_aload_n dL_law_551 rfl ?_
  refine sv_heap lh_m ?_
  refine sv_invSH (As := [.ref m, .int (xs (4 * j + 1)), .long ((xs (4 * j + 2)).toInt64 <<< ((nI 32).toInt64 &&& 63) ||| (xs (4 * j + 3)).toInt64 &&& 4294967295), .ref (m + 504)]) (rest := []) sc_L_126 (hx _ m (m + 504) R O (lh_z hm) hm lh_1 (.inr (by omega))) rfl rfl (Nat.le_of_ble_eq_true rfl) dL_law_552 ⟨by decide, by decide⟩ ⟨show cells + 1 ≤ 641416 from hc, show slots + 6 ≤ 7171855 from hs⟩ (Nat.le_of_ble_eq_true rfl) (fun w1 h1 q => ?_) (fun E h1 q => by obtain ⟨q1, -⟩ := q; cases q1)
  obtain ⟨q1, v1, R1, O1, rfl, q4⟩ := q
  cases q1
  show sm_V G _ _ _ (cells + 1) (slots + 6) 555 _ [.int (nI k)] _
  refine sv_heap lh_m2 ?_
  refine sv_istore (lv' := [(5, .int (nI k)), (0, .ref b), (1, .ref m), (2, .ref (m + 493)), (3, .ref (m + 504)), (4, .int (nI (4 * j)))]) dL_law_555 (by decide) rfl ?_
  show sm_V G _ _ _ _ _ _ _ _ (sm_om G (mw G (lh0 G m O1) m (va_up V2 1 v1) R1 t2) (m + 493) F X (sm_as A S) LL)
  refine sv_aload_n dL_law_557 rfl ?_
  refine sv_aload_n dL_law_558 rfl ?_
  refine sv_iload dL_law_559 rfl ?_
  refine sv_iconst (nI 1) dL_law_561 rfl ?_
  refine sv_iadd dL_law_562 ?_
  refine sv_top (nI (4 * j + 1)) (nI_add _ _) ?_
  refine sl_ld dL_law_563 (lin (by omega) hL) ?_ hb
  refine sv_top (xs (4 * j + 1)) (by rw [nI_clamp (by omega)]) ?_
  refine sv_aload_n dL_law_564 rfl ?_
  refine sv_iload dL_law_565 rfl ?_
  refine sv_iconst (nI 2) dL_law_567 rfl ?_
  refine sv_iadd dL_law_568 ?_
  refine sv_top (nI (4 * j + 2)) (nI_add _ _) ?_
  refine sl_ld dL_law_569 (lin (by omega) hL) ?_ hb
  refine sv_top (xs (4 * j + 2)) (by rw [nI_clamp (by omega)]) ?_
  refine sv_i2l dL_law_570 ?_
  refine sv_bipush (nI 32) dL_law_571 rfl ?_
  refine sv_lshl dL_law_573 ?_
  refine sv_aload_n dL_law_574 rfl ?_
  refine sv_iload dL_law_575 rfl ?_
  refine sv_iconst (nI 3) dL_law_577 rfl ?_
  refine sv_iadd dL_law_578 ?_
  refine sv_top (nI (4 * j + 3)) (nI_add _ _) ?_
  refine sl_ld dL_law_579 (lin (by omega) hL) ?_ hb
  refine sv_top (xs (4 * j + 3)) (by rw [nI_clamp (by omega)]) ?_
  refine sv_i2l dL_law_580 ?_
  refine sv_ldc2 dL_law_581 (sm_tc ck_5_7_in 8 rfl rfl) ?_
  refine sv_land dL_law_584 ?_
  refine sv_lor dL_law_585 ?_
  refine sv_invV (As := [.int (xs (4 * j + 1)), .long ((xs (4 * j + 2)).toInt64 <<< ((nI 32).toInt64 &&& 63) ||| (xs (4 * j + 3)).toInt64 &&& 4294967295)]) (rest := []) sc_L_129 (hr _ (m + 493)) rfl rfl (Nat.le_of_ble_eq_true rfl) dL_law_586 ⟨show d + 1 ≤ 12 by omega, show 8 + (4 + 11) + 30 * d ≤ 484 by omega⟩ ⟨show cells + 1 + 0 ≤ 641416 by omega, show slots + 6 + 0 ≤ 7171855 by omega⟩ (Nat.le_of_ble_eq_true rfl) om_0 (List.cons_ne_nil _ _) rfl (fun w1 h1 q => ?_) (fun E h1 q => by obtain ⟨q1, -⟩ := q; cases q1)
  obtain ⟨q1, F2, X2, A2, S2, L2, rfl, qF, ql⟩ := q
  cases q1
  show sm_V G _ _ _ (cells + 1) (slots + 6) 589 _ [.int a] _
  refine sv_istore (lv' := [(6, .int a), (5, .int (nI k)), (0, .ref b), (1, .ref m), (2, .ref (m + 493)), (3, .ref (m + 504)), (4, .int (nI (4 * j)))]) dL_law_589 (by decide) rfl ?_
  refine sv_aload_n dL_law_591 rfl ?_
  refine sv_callV (As := []) (rest := []) sc_L_96 c6_thrown rfl rfl (Nat.le_of_ble_eq_true rfl) dL_law_592 ⟨by decide, by decide⟩ ⟨show cells + 1 ≤ 641416 by omega, show slots + 6 ≤ 7171855 by omega⟩ (Nat.le_of_ble_eq_true rfl) om_0 (List.cons_ne_nil _ _) rfl ?_
  show sm_V G _ _ _ (cells + 1) (slots + 6) 595 _ [.int (F2 0)] _
  refine sv_top (nI k) qF ?_
  refine sv_iload dL_law_595 rfl ?_
  refine sv_icmp_eq 602 dL_law_597 (by decide) (fun _ => ?_) (fun z => absurd rfl z)
  have kj : sm_V G mL_law room_1 (lZ (sm_B G) b L xs) (cells + 1) (slots + 6) 619 [(6, .int a), (5, .int (nI k)), (0, .ref b), (1, .ref m), (2, .ref (m + 493)), (3, .ref (m + 504)), (4, .int (nI (4 * j)))] [] (sm_om G (mw G (lh0 G m O1) m (va_up V2 1 v1) R1 t2) (m + 493) F2 X2 (sm_as A2 S2) L2) := sv_goto 1562 dL_law_619 (by decide) (sv_sub [2, 3, 4, 5, 6] rfl (join _ _ _ _ _ _ R1 t2 O1 (ql v1)))
  refine sv_iload dL_law_602 rfl ?_
  refine sv_ifN_ne 619 dL_law_604 (by decide) (by omega) (fun _ => kj) (fun hk0 => ?_)
  refine sv_aload_n dL_law_607 rfl ?_
  refine sv_iconst (nI 0) dL_law_608 rfl ?_
  refine sv_laload dL_law_609 (lh_o (V := va_up V2 1 v1) (R := R1) (t := t2) (O := O1)) (show ¬ (nI 0 < 0 ∨ 1 ≤ (nI 0).toNatClampNeg) by decide) ?_
  refine sv_topl a.toInt64 (q4 hk0) ?_
  refine sv_iload dL_law_610 rfl ?_
  refine sv_i2l dL_law_612 ?_
  refine sv_lcmp dL_law_613 ?_
  exact sv_if_eq 619 dL_law_614 (by decide) (fun _ => kj) (fun z => absurd (lcmp0 _) z)
theorem lw_c9 (hl : lc K F X A S LL V n B c x f) (hK : K + 60000 < 2 ^ 26) (h12 : 12 ≤ K) (hj : 4 * j + 4 ≤ L) (hL : L ≤ 2048) (hb : b < sm_B G) (hm : 0 < m) (hc : cells + 1 ≤ 641416) (hs : slots + 6 ≤ 7171855) (join : lJ G b L xs m j K cells slots) : sm_V G mL_law room_1 (lZ (sm_B G) b L xs) cells slots 622 [(0, .ref b), (1, .ref m), (2, .ref (m + 493)), (3, .ref (m + 504)), (4, .int (nI (4 * j)))] [] (lh G m F X (sm_as A S) LL V R (n, B, c, x, f) O) := by
  obtain ⟨k, a, V2, t2, d, hk, hd, hx, hr⟩ := lp_place (G := G) hl hK h12 (xs (4 * j + 1)) (xs (4 * j + 2))
  refine sv_aload_n dL_law_622 rfl ?_
  refine sv_aload_n dL_law_623 rfl ?_
  refine sv_iload dL_law_624 rfl ?_
  refine sv_iconst (nI 1) dL_law_626 rfl ?_
  refine sv_iadd dL_law_627 ?_
  refine sv_top (nI (4 * j + 1)) (nI_add _ _) ?_
  refine sl_ld dL_law_628 (lin (by omega) hL) ?_ hb
  refine sv_top (xs (4 * j + 1)) (by rw [nI_clamp (by omega)]) ?_
  refine sv_aload_n dL_law_629 rfl ?_
  refine sv_iload dL_law_630 rfl ?_
  refine sv_iconst (nI 2) dL_law_632 rfl ?_
  refine sv_iadd dL_law_633 ?_
  refine sv_top (nI (4 * j + 2)) (nI_add _ _) ?_
  refine sl_ld dL_law_634 (lin (by omega) hL) ?_ hb
  refine sv_top (xs (4 * j + 2)) (by rw [nI_clamp (by omega)]) ?_
  refine sv_aload_n dL_law_635 rfl ?_
  refine sv_heap lh_m ?_
  refine sv_invSH (As := [.ref m, .int (xs (4 * j + 1)), .int (xs (4 * j + 2)), .ref (m + 504)]) (rest := []) sc_L_130 (hx _ m (m + 504) R O (lh_z hm) hm lh_1 (.inr (by omega))) rfl rfl (Nat.le_of_ble_eq_true rfl) dL_law_636 ⟨by decide, by decide⟩ ⟨show cells + 1 ≤ 641416 from hc, show slots + 6 ≤ 7171855 from hs⟩ (Nat.le_of_ble_eq_true rfl) (fun w1 h1 q => ?_) (fun E h1 q => by obtain ⟨q1, -⟩ := q; cases q1)
  obtain ⟨q1, v1, R1, O1, rfl, q4⟩ := q
  cases q1
  show sm_V G _ _ _ (cells + 1) (slots + 6) 639 _ [.int (nI k)] _
  refine sv_heap lh_m2 ?_
  refine sv_istore (lv' := [(5, .int (nI k)), (0, .ref b), (1, .ref m), (2, .ref (m + 493)), (3, .ref (m + 504)), (4, .int (nI (4 * j)))]) dL_law_639 (by decide) rfl ?_
  show sm_V G _ _ _ _ _ _ _ _ (sm_om G (mw G (lh0 G m O1) m (va_up V2 1 v1) R1 t2) (m + 493) F X (sm_as A S) LL)
  refine sv_aload_n dL_law_641 rfl ?_
  refine sv_aload_n dL_law_642 rfl ?_
  refine sv_iload dL_law_643 rfl ?_
  refine sv_iconst (nI 1) dL_law_645 rfl ?_
  refine sv_iadd dL_law_646 ?_
  refine sv_top (nI (4 * j + 1)) (nI_add _ _) ?_
  refine sl_ld dL_law_647 (lin (by omega) hL) ?_ hb
  refine sv_top (xs (4 * j + 1)) (by rw [nI_clamp (by omega)]) ?_
  refine sv_aload_n dL_law_648 rfl ?_
  refine sv_iload dL_law_649 rfl ?_
  refine sv_iconst (nI 2) dL_law_651 rfl ?_
  refine sv_iadd dL_law_652 ?_
  refine sv_top (nI (4 * j + 2)) (nI_add _ _) ?_
  refine sl_ld dL_law_653 (lin (by omega) hL) ?_ hb
  refine sv_top (xs (4 * j + 2)) (by rw [nI_clamp (by omega)]) ?_
  refine sv_invV (As := [.int (xs (4 * j + 1)), .int (xs (4 * j + 2))]) (rest := []) sc_L_132 (hr _ (m + 493)) rfl rfl (Nat.le_of_ble_eq_true rfl) dL_law_654 ⟨show d + 1 ≤ 12 by omega, show 8 + (4 + 11) + 30 * d ≤ 484 by omega⟩ ⟨show cells + 1 + 0 ≤ 641416 by omega, show slots + 6 + 0 ≤ 7171855 by omega⟩ (Nat.le_of_ble_eq_true rfl) om_0 (List.cons_ne_nil _ _) rfl (fun w1 h1 q => ?_) (fun E h1 q => by obtain ⟨q1, -⟩ := q; cases q1)
  obtain ⟨q1, F2, X2, A2, S2, L2, rfl, qF, ql⟩ := q
  cases q1
  show sm_V G _ _ _ (cells + 1) (slots + 6) 657 _ [.int a] _
  refine sv_istore (lv' := [(6, .int a), (5, .int (nI k)), (0, .ref b), (1, .ref m), (2, .ref (m + 493)), (3, .ref (m + 504)), (4, .int (nI (4 * j)))]) dL_law_657 (by decide) rfl ?_
  refine sv_aload_n dL_law_659 rfl ?_
  refine sv_callV (As := []) (rest := []) sc_L_96 c6_thrown rfl rfl (Nat.le_of_ble_eq_true rfl) dL_law_660 ⟨by decide, by decide⟩ ⟨show cells + 1 ≤ 641416 by omega, show slots + 6 ≤ 7171855 by omega⟩ (Nat.le_of_ble_eq_true rfl) om_0 (List.cons_ne_nil _ _) rfl ?_
  show sm_V G _ _ _ (cells + 1) (slots + 6) 663 _ [.int (F2 0)] _
  refine sv_top (nI k) qF ?_
  refine sv_iload dL_law_663 rfl ?_
  refine sv_icmp_eq 670 dL_law_665 (by decide) (fun _ => ?_) (fun z => absurd rfl z)
  have kj : sm_V G mL_law room_1 (lZ (sm_B G) b L xs) (cells + 1) (slots + 6) 687 [(6, .int a), (5, .int (nI k)), (0, .ref b), (1, .ref m), (2, .ref (m + 493)), (3, .ref (m + 504)), (4, .int (nI (4 * j)))] [] (sm_om G (mw G (lh0 G m O1) m (va_up V2 1 v1) R1 t2) (m + 493) F2 X2 (sm_as A2 S2) L2) := sv_goto 1562 dL_law_687 (by decide) (sv_sub [2, 3, 4, 5, 6] rfl (join _ _ _ _ _ _ R1 t2 O1 (ql v1)))
  refine sv_iload dL_law_670 rfl ?_
  refine sv_ifN_ne 687 dL_law_672 (by decide) (by omega) (fun _ => kj) (fun hk0 => ?_)
  refine sv_aload_n dL_law_675 rfl ?_
  refine sv_iconst (nI 0) dL_law_676 rfl ?_
  refine sv_laload dL_law_677 (lh_o (V := va_up V2 1 v1) (R := R1) (t := t2) (O := O1)) (show ¬ (nI 0 < 0 ∨ 1 ≤ (nI 0).toNatClampNeg) by decide) ?_
  refine sv_topl a.toInt64 (q4 hk0) ?_
  refine sv_iload dL_law_678 rfl ?_
  refine sv_i2l dL_law_680 ?_
  refine sv_lcmp dL_law_681 ?_
  exact sv_if_eq 687 dL_law_682 (by decide) (fun _ => kj) (fun z => absurd (lcmp0 _) z)
theorem lw_c10 (hl : lc K F X A S LL V n B c x f) (hK : K + 60000 < 2 ^ 26) (h12 : 12 ≤ K) (hj : 4 * j + 4 ≤ L) (hL : L ≤ 2048) (hb : b < sm_B G) (hm : 0 < m) (hc : cells + 1 ≤ 641416) (hs : slots + 6 ≤ 7171855) (join : lJ G b L xs m j K cells slots) : sm_V G mL_law room_1 (lZ (sm_B G) b L xs) cells slots 690 [(0, .ref b), (1, .ref m), (2, .ref (m + 493)), (3, .ref (m + 504)), (4, .int (nI (4 * j)))] [] (lh G m F X (sm_as A S) LL V R (n, B, c, x, f) O) := by
  obtain ⟨k, a, V2, t2, d, hk, hd, hx, hr⟩ := lp_pass (G := G) hl hK h12 
  refine sv_aload_n dL_law_690 rfl ?_
  refine sv_aload_n dL_law_691 rfl ?_
  refine sv_heap lh_m ?_
  refine sv_invSH (As := [.ref m, .ref (m + 504)]) (rest := []) sc_L_133 (hx _ m (m + 504) R O (lh_z hm) hm lh_1 (.inr (by omega))) rfl rfl (Nat.le_of_ble_eq_true rfl) dL_law_692 ⟨by decide, by decide⟩ ⟨show cells + 1 ≤ 641416 from hc, show slots + 6 ≤ 7171855 from hs⟩ (Nat.le_of_ble_eq_true rfl) (fun w1 h1 q => ?_) (fun E h1 q => by obtain ⟨q1, -⟩ := q; cases q1)
  obtain ⟨q1, v1, R1, O1, rfl, q4⟩ := q
  cases q1
  show sm_V G _ _ _ (cells + 1) (slots + 6) 695 _ [.int (nI k)] _
  refine sv_heap lh_m2 ?_
  refine sv_istore (lv' := [(5, .int (nI k)), (0, .ref b), (1, .ref m), (2, .ref (m + 493)), (3, .ref (m + 504)), (4, .int (nI (4 * j)))]) dL_law_695 (by decide) rfl ?_
  show sm_V G _ _ _ _ _ _ _ _ (sm_om G (mw G (lh0 G m O1) m (va_up V2 1 v1) R1 t2) (m + 493) F X (sm_as A S) LL)
  refine sv_aload_n dL_law_697 rfl ?_
  refine sv_invV (As := []) (rest := []) sc_L_135 (hr _ (m + 493)) rfl rfl (Nat.le_of_ble_eq_true rfl) dL_law_698 ⟨show d + 1 ≤ 12 by omega, show 8 + (1 + 11) + 30 * d ≤ 484 by omega⟩ ⟨show cells + 1 + 0 ≤ 641416 by omega, show slots + 6 + 0 ≤ 7171855 by omega⟩ (Nat.le_of_ble_eq_true rfl) om_0 (List.cons_ne_nil _ _) rfl (fun w1 h1 q => ?_) (fun E h1 q => by obtain ⟨q1, -⟩ := q; cases q1)
  obtain ⟨q1, F2, X2, A2, S2, L2, rfl, qF, ql⟩ := q
  cases q1
  show sm_V G _ _ _ (cells + 1) (slots + 6) 701 _ [.int a] _
  refine sv_istore (lv' := [(6, .int a), (5, .int (nI k)), (0, .ref b), (1, .ref m), (2, .ref (m + 493)), (3, .ref (m + 504)), (4, .int (nI (4 * j)))]) dL_law_701 (by decide) rfl ?_
  refine sv_aload_n dL_law_703 rfl ?_
  refine sv_callV (As := []) (rest := []) sc_L_96 c6_thrown rfl rfl (Nat.le_of_ble_eq_true rfl) dL_law_704 ⟨by decide, by decide⟩ ⟨show cells + 1 ≤ 641416 by omega, show slots + 6 ≤ 7171855 by omega⟩ (Nat.le_of_ble_eq_true rfl) om_0 (List.cons_ne_nil _ _) rfl ?_
  show sm_V G _ _ _ (cells + 1) (slots + 6) 707 _ [.int (F2 0)] _
  refine sv_top (nI k) qF ?_
  refine sv_iload dL_law_707 rfl ?_
  refine sv_icmp_eq 714 dL_law_709 (by decide) (fun _ => ?_) (fun z => absurd rfl z)
  have kj : sm_V G mL_law room_1 (lZ (sm_B G) b L xs) (cells + 1) (slots + 6) 731 [(6, .int a), (5, .int (nI k)), (0, .ref b), (1, .ref m), (2, .ref (m + 493)), (3, .ref (m + 504)), (4, .int (nI (4 * j)))] [] (sm_om G (mw G (lh0 G m O1) m (va_up V2 1 v1) R1 t2) (m + 493) F2 X2 (sm_as A2 S2) L2) := sv_goto 1562 dL_law_731 (by decide) (sv_sub [2, 3, 4, 5, 6] rfl (join _ _ _ _ _ _ R1 t2 O1 (ql v1)))
  refine sv_iload dL_law_714 rfl ?_
  refine sv_ifN_ne 731 dL_law_716 (by decide) (by omega) (fun _ => kj) (fun hk0 => ?_)
  refine sv_aload_n dL_law_719 rfl ?_
  refine sv_iconst (nI 0) dL_law_720 rfl ?_
  refine sv_laload dL_law_721 (lh_o (V := va_up V2 1 v1) (R := R1) (t := t2) (O := O1)) (show ¬ (nI 0 < 0 ∨ 1 ≤ (nI 0).toNatClampNeg) by decide) ?_
  refine sv_topl a.toInt64 (q4 hk0) ?_
  refine sv_iload dL_law_722 rfl ?_
  refine sv_i2l dL_law_724 ?_
  refine sv_lcmp dL_law_725 ?_
  exact sv_if_eq 731 dL_law_726 (by decide) (fun _ => kj) (fun z => absurd (lcmp0 _) z)
theorem lw_c11 (hl : lc K F X A S LL V n B c x f) (hK : K + 60000 < 2 ^ 26) (h12 : 12 ≤ K) (hj : 4 * j + 4 ≤ L) (hL : L ≤ 2048) (hb : b < sm_B G) (hm : 0 < m) (hc : cells + 1 ≤ 641416) (hs : slots + 6 ≤ 7171855) (join : lJ G b L xs m j K cells slots) : sm_V G mL_law room_1 (lZ (sm_B G) b L xs) cells slots 734 [(0, .ref b), (1, .ref m), (2, .ref (m + 493)), (3, .ref (m + 504)), (4, .int (nI (4 * j)))] [] (lh G m F X (sm_as A S) LL V R (n, B, c, x, f) O) := by
  obtain ⟨k, a, V2, t2, d, hk, hd, hx, hr⟩ := lp_play (G := G) hl hK h12 
  refine sv_aload_n dL_law_734 rfl ?_
  refine sv_aload_n dL_law_735 rfl ?_
  refine sv_heap lh_m ?_
  refine sv_invSH (As := [.ref m, .ref (m + 504)]) (rest := []) sc_L_136 (hx _ m (m + 504) R O (lh_z hm) hm lh_1 (.inr (by omega))) rfl rfl (Nat.le_of_ble_eq_true rfl) dL_law_736 ⟨by decide, by decide⟩ ⟨show cells + 1 ≤ 641416 from hc, show slots + 6 ≤ 7171855 from hs⟩ (Nat.le_of_ble_eq_true rfl) (fun w1 h1 q => ?_) (fun E h1 q => by obtain ⟨q1, -⟩ := q; cases q1)
  obtain ⟨q1, v1, R1, O1, rfl, q4⟩ := q
  cases q1
  show sm_V G _ _ _ (cells + 1) (slots + 6) 739 _ [.int (nI k)] _
  refine sv_heap lh_m2 ?_
  refine sv_istore (lv' := [(5, .int (nI k)), (0, .ref b), (1, .ref m), (2, .ref (m + 493)), (3, .ref (m + 504)), (4, .int (nI (4 * j)))]) dL_law_739 (by decide) rfl ?_
  show sm_V G _ _ _ _ _ _ _ _ (sm_om G (mw G (lh0 G m O1) m (va_up V2 1 v1) R1 t2) (m + 493) F X (sm_as A S) LL)
  refine sv_aload_n dL_law_741 rfl ?_
  refine sv_invV (As := []) (rest := []) sc_L_138 (hr _ (m + 493)) rfl rfl (Nat.le_of_ble_eq_true rfl) dL_law_742 ⟨show d + 1 ≤ 12 by omega, show 8 + (1 + 11) + 30 * d ≤ 484 by omega⟩ ⟨show cells + 1 + 0 ≤ 641416 by omega, show slots + 6 + 0 ≤ 7171855 by omega⟩ (Nat.le_of_ble_eq_true rfl) om_0 (List.cons_ne_nil _ _) rfl (fun w1 h1 q => ?_) (fun E h1 q => by obtain ⟨q1, -⟩ := q; cases q1)
  obtain ⟨q1, F2, X2, A2, S2, L2, rfl, qF, ql⟩ := q
  cases q1
  show sm_V G _ _ _ (cells + 1) (slots + 6) 745 _ [.int a] _
  refine sv_istore (lv' := [(6, .int a), (5, .int (nI k)), (0, .ref b), (1, .ref m), (2, .ref (m + 493)), (3, .ref (m + 504)), (4, .int (nI (4 * j)))]) dL_law_745 (by decide) rfl ?_
  refine sv_aload_n dL_law_747 rfl ?_
  refine sv_callV (As := []) (rest := []) sc_L_96 c6_thrown rfl rfl (Nat.le_of_ble_eq_true rfl) dL_law_748 ⟨by decide, by decide⟩ ⟨show cells + 1 ≤ 641416 by omega, show slots + 6 ≤ 7171855 by omega⟩ (Nat.le_of_ble_eq_true rfl) om_0 (List.cons_ne_nil _ _) rfl ?_
  show sm_V G _ _ _ (cells + 1) (slots + 6) 751 _ [.int (F2 0)] _
  refine sv_top (nI k) qF ?_
  refine sv_iload dL_law_751 rfl ?_
  refine sv_icmp_eq 758 dL_law_753 (by decide) (fun _ => ?_) (fun z => absurd rfl z)
  have kj : sm_V G mL_law room_1 (lZ (sm_B G) b L xs) (cells + 1) (slots + 6) 775 [(6, .int a), (5, .int (nI k)), (0, .ref b), (1, .ref m), (2, .ref (m + 493)), (3, .ref (m + 504)), (4, .int (nI (4 * j)))] [] (sm_om G (mw G (lh0 G m O1) m (va_up V2 1 v1) R1 t2) (m + 493) F2 X2 (sm_as A2 S2) L2) := sv_goto 1562 dL_law_775 (by decide) (sv_sub [2, 3, 4, 5, 6] rfl (join _ _ _ _ _ _ R1 t2 O1 (ql v1)))
  refine sv_iload dL_law_758 rfl ?_
  refine sv_ifN_ne 775 dL_law_760 (by decide) (by omega) (fun _ => kj) (fun hk0 => ?_)
  refine sv_aload_n dL_law_763 rfl ?_
  refine sv_iconst (nI 0) dL_law_764 rfl ?_
  refine sv_laload dL_law_765 (lh_o (V := va_up V2 1 v1) (R := R1) (t := t2) (O := O1)) (show ¬ (nI 0 < 0 ∨ 1 ≤ (nI 0).toNatClampNeg) by decide) ?_
  refine sv_topl a.toInt64 (q4 hk0) ?_
  refine sv_iload dL_law_766 rfl ?_
  refine sv_i2l dL_law_768 ?_
  refine sv_lcmp dL_law_769 ?_
  exact sv_if_eq 775 dL_law_770 (by decide) (fun _ => kj) (fun z => absurd (lcmp0 _) z)
theorem lw_c12 (hl : lc K F X A S LL V n B c x f) (hK : K + 60000 < 2 ^ 26) (h12 : 12 ≤ K) (hj : 4 * j + 4 ≤ L) (hL : L ≤ 2048) (hb : b < sm_B G) (hm : 0 < m) (hc : cells + 1 ≤ 641416) (hs : slots + 6 ≤ 7171855) (join : lJ G b L xs m j K cells slots) : sm_V G mL_law room_1 (lZ (sm_B G) b L xs) cells slots 778 [(0, .ref b), (1, .ref m), (2, .ref (m + 493)), (3, .ref (m + 504)), (4, .int (nI (4 * j)))] [] (lh G m F X (sm_as A S) LL V R (n, B, c, x, f) O) := by
  obtain ⟨k, a, V2, t2, d, hk, hd, hx, hr⟩ := lp_set (G := G) hl hK h12 (xs (4 * j + 1)) (xs (4 * j + 2))
  refine sv_aload_n dL_law_778 rfl ?_
  refine sv_aload_n dL_law_779 rfl ?_
  refine sv_iload dL_law_780 rfl ?_
  refine sv_iconst (nI 1) dL_law_782 rfl ?_
  refine sv_iadd dL_law_783 ?_
  refine sv_top (nI (4 * j + 1)) (nI_add _ _) ?_
  refine sl_ld dL_law_784 (lin (by omega) hL) ?_ hb
  refine sv_top (xs (4 * j + 1)) (by rw [nI_clamp (by omega)]) ?_
  refine sv_aload_n dL_law_785 rfl ?_
  refine sv_iload dL_law_786 rfl ?_
  refine sv_iconst (nI 2) dL_law_788 rfl ?_
  refine sv_iadd dL_law_789 ?_
  refine sv_top (nI (4 * j + 2)) (nI_add _ _) ?_
  refine sl_ld dL_law_790 (lin (by omega) hL) ?_ hb
  refine sv_top (xs (4 * j + 2)) (by rw [nI_clamp (by omega)]) ?_
  refine sv_aload_n dL_law_791 rfl ?_
  refine sv_heap lh_m ?_
  refine sv_invSH (As := [.ref m, .int (xs (4 * j + 1)), .int (xs (4 * j + 2)), .ref (m + 504)]) (rest := []) sc_L_139 (hx _ m (m + 504) R O (lh_z hm) hm lh_1 (.inr (by omega))) rfl rfl (Nat.le_of_ble_eq_true rfl) dL_law_792 ⟨by decide, by decide⟩ ⟨show cells + 1 ≤ 641416 from hc, show slots + 6 ≤ 7171855 from hs⟩ (Nat.le_of_ble_eq_true rfl) (fun w1 h1 q => ?_) (fun E h1 q => by obtain ⟨q1, -⟩ := q; cases q1)
  obtain ⟨q1, v1, R1, O1, rfl, q4⟩ := q
  cases q1
  show sm_V G _ _ _ (cells + 1) (slots + 6) 795 _ [.int (nI k)] _
  refine sv_heap lh_m2 ?_
  refine sv_istore (lv' := [(5, .int (nI k)), (0, .ref b), (1, .ref m), (2, .ref (m + 493)), (3, .ref (m + 504)), (4, .int (nI (4 * j)))]) dL_law_795 (by decide) rfl ?_
  show sm_V G _ _ _ _ _ _ _ _ (sm_om G (mw G (lh0 G m O1) m (va_up V2 1 v1) R1 t2) (m + 493) F X (sm_as A S) LL)
  refine sv_aload_n dL_law_797 rfl ?_
  refine sv_aload_n dL_law_798 rfl ?_
  refine sv_iload dL_law_799 rfl ?_
  refine sv_iconst (nI 1) dL_law_801 rfl ?_
  refine sv_iadd dL_law_802 ?_
  refine sv_top (nI (4 * j + 1)) (nI_add _ _) ?_
  refine sl_ld dL_law_803 (lin (by omega) hL) ?_ hb
  refine sv_top (xs (4 * j + 1)) (by rw [nI_clamp (by omega)]) ?_
  refine sv_aload_n dL_law_804 rfl ?_
  refine sv_iload dL_law_805 rfl ?_
  refine sv_iconst (nI 2) dL_law_807 rfl ?_
  refine sv_iadd dL_law_808 ?_
  refine sv_top (nI (4 * j + 2)) (nI_add _ _) ?_
  refine sl_ld dL_law_809 (lin (by omega) hL) ?_ hb
  refine sv_top (xs (4 * j + 2)) (by rw [nI_clamp (by omega)]) ?_
  refine sv_invV (As := [.int (xs (4 * j + 1)), .int (xs (4 * j + 2))]) (rest := []) sc_L_141 (hr _ (m + 493)) rfl rfl (Nat.le_of_ble_eq_true rfl) dL_law_810 ⟨show d + 1 ≤ 12 by omega, show 8 + (4 + 11) + 30 * d ≤ 484 by omega⟩ ⟨show cells + 1 + 0 ≤ 641416 by omega, show slots + 6 + 0 ≤ 7171855 by omega⟩ (Nat.le_of_ble_eq_true rfl) om_0 (List.cons_ne_nil _ _) rfl (fun w1 h1 q => ?_) (fun E h1 q => by obtain ⟨q1, -⟩ := q; cases q1)
  obtain ⟨q1, F2, X2, A2, S2, L2, rfl, qF, ql⟩ := q
  cases q1
  show sm_V G _ _ _ (cells + 1) (slots + 6) 813 _ [.int a] _
  refine sv_istore (lv' := [(6, .int a), (5, .int (nI k)), (0, .ref b), (1, .ref m), (2, .ref (m + 493)), (3, .ref (m + 504)), (4, .int (nI (4 * j)))]) dL_law_813 (by decide) rfl ?_
  refine sv_aload_n dL_law_815 rfl ?_
  refine sv_callV (As := []) (rest := []) sc_L_96 c6_thrown rfl rfl (Nat.le_of_ble_eq_true rfl) dL_law_816 ⟨by decide, by decide⟩ ⟨show cells + 1 ≤ 641416 by omega, show slots + 6 ≤ 7171855 by omega⟩ (Nat.le_of_ble_eq_true rfl) om_0 (List.cons_ne_nil _ _) rfl ?_
  show sm_V G _ _ _ (cells + 1) (slots + 6) 819 _ [.int (F2 0)] _
  refine sv_top (nI k) qF ?_
  refine sv_iload dL_law_819 rfl ?_
  refine sv_icmp_eq 826 dL_law_821 (by decide) (fun _ => ?_) (fun z => absurd rfl z)
  have kj : sm_V G mL_law room_1 (lZ (sm_B G) b L xs) (cells + 1) (slots + 6) 843 [(6, .int a), (5, .int (nI k)), (0, .ref b), (1, .ref m), (2, .ref (m + 493)), (3, .ref (m + 504)), (4, .int (nI (4 * j)))] [] (sm_om G (mw G (lh0 G m O1) m (va_up V2 1 v1) R1 t2) (m + 493) F2 X2 (sm_as A2 S2) L2) := sv_goto 1562 dL_law_843 (by decide) (sv_sub [2, 3, 4, 5, 6] rfl (join _ _ _ _ _ _ R1 t2 O1 (ql v1)))
  refine sv_iload dL_law_826 rfl ?_
  refine sv_ifN_ne 843 dL_law_828 (by decide) (by omega) (fun _ => kj) (fun hk0 => ?_)
  refine sv_aload_n dL_law_831 rfl ?_
  refine sv_iconst (nI 0) dL_law_832 rfl ?_
  refine sv_laload dL_law_833 (lh_o (V := va_up V2 1 v1) (R := R1) (t := t2) (O := O1)) (show ¬ (nI 0 < 0 ∨ 1 ≤ (nI 0).toNatClampNeg) by decide) ?_
  refine sv_topl a.toInt64 (q4 hk0) ?_
  refine sv_iload dL_law_834 rfl ?_
  refine sv_i2l dL_law_836 ?_
  refine sv_lcmp dL_law_837 ?_
  exact sv_if_eq 843 dL_law_838 (by decide) (fun _ => kj) (fun z => absurd (lcmp0 _) z)
theorem lw_c13 (hl : lc K F X A S LL V n B c x f) (hK : K + 60000 < 2 ^ 26) (h12 : 12 ≤ K) (hj : 4 * j + 4 ≤ L) (hL : L ≤ 2048) (hb : b < sm_B G) (hm : 0 < m) (hc : cells + 1 ≤ 641416) (hs : slots + 6 ≤ 7171855) (join : lJ G b L xs m j K cells slots) : sm_V G mL_law room_1 (lZ (sm_B G) b L xs) cells slots 846 [(0, .ref b), (1, .ref m), (2, .ref (m + 493)), (3, .ref (m + 504)), (4, .int (nI (4 * j)))] [] (lh G m F X (sm_as A S) LL V R (n, B, c, x, f) O) := by
  obtain ⟨k, a, V2, t2, d, hk, hd, hx, hr⟩ := lp_undo (G := G) hl hK h12 
  refine sv_aload_n dL_law_846 rfl ?_
  refine sv_aload_n dL_law_847 rfl ?_
  refine sv_heap lh_m ?_
  refine sv_invSH (As := [.ref m, .ref (m + 504)]) (rest := []) sc_L_142 (hx _ m (m + 504) R O (lh_z hm) hm lh_1 (.inr (by omega))) rfl rfl (Nat.le_of_ble_eq_true rfl) dL_law_848 ⟨by decide, by decide⟩ ⟨show cells + 1 ≤ 641416 from hc, show slots + 6 ≤ 7171855 from hs⟩ (Nat.le_of_ble_eq_true rfl) (fun w1 h1 q => ?_) (fun E h1 q => by obtain ⟨q1, -⟩ := q; cases q1)
  obtain ⟨q1, v1, R1, O1, rfl, q4⟩ := q
  cases q1
  show sm_V G _ _ _ (cells + 1) (slots + 6) 851 _ [.int (nI k)] _
  refine sv_heap lh_m2 ?_
  refine sv_istore (lv' := [(5, .int (nI k)), (0, .ref b), (1, .ref m), (2, .ref (m + 493)), (3, .ref (m + 504)), (4, .int (nI (4 * j)))]) dL_law_851 (by decide) rfl ?_
  show sm_V G _ _ _ _ _ _ _ _ (sm_om G (mw G (lh0 G m O1) m (va_up V2 1 v1) R1 t2) (m + 493) F X (sm_as A S) LL)
  refine sv_aload_n dL_law_853 rfl ?_
  refine sv_invV (As := []) (rest := []) sc_L_144 (hr _ (m + 493)) rfl rfl (Nat.le_of_ble_eq_true rfl) dL_law_854 ⟨show d + 1 ≤ 12 by omega, show 8 + (2 + 11) + 30 * d ≤ 484 by omega⟩ ⟨show cells + 1 + 0 ≤ 641416 by omega, show slots + 6 + 0 ≤ 7171855 by omega⟩ (Nat.le_of_ble_eq_true rfl) om_0 (List.cons_ne_nil _ _) rfl (fun w1 h1 q => ?_) (fun E h1 q => by obtain ⟨q1, -⟩ := q; cases q1)
  obtain ⟨q1, F2, X2, A2, S2, L2, rfl, qF, ql⟩ := q
  cases q1
  show sm_V G _ _ _ (cells + 1) (slots + 6) 857 _ [.int a] _
  refine sv_istore (lv' := [(6, .int a), (5, .int (nI k)), (0, .ref b), (1, .ref m), (2, .ref (m + 493)), (3, .ref (m + 504)), (4, .int (nI (4 * j)))]) dL_law_857 (by decide) rfl ?_
  refine sv_aload_n dL_law_859 rfl ?_
  refine sv_callV (As := []) (rest := []) sc_L_96 c6_thrown rfl rfl (Nat.le_of_ble_eq_true rfl) dL_law_860 ⟨by decide, by decide⟩ ⟨show cells + 1 ≤ 641416 by omega, show slots + 6 ≤ 7171855 by omega⟩ (Nat.le_of_ble_eq_true rfl) om_0 (List.cons_ne_nil _ _) rfl ?_
  show sm_V G _ _ _ (cells + 1) (slots + 6) 863 _ [.int (F2 0)] _
  refine sv_top (nI k) qF ?_
  refine sv_iload dL_law_863 rfl ?_
  refine sv_icmp_eq 870 dL_law_865 (by decide) (fun _ => ?_) (fun z => absurd rfl z)
  have kj : sm_V G mL_law room_1 (lZ (sm_B G) b L xs) (cells + 1) (slots + 6) 887 [(6, .int a), (5, .int (nI k)), (0, .ref b), (1, .ref m), (2, .ref (m + 493)), (3, .ref (m + 504)), (4, .int (nI (4 * j)))] [] (sm_om G (mw G (lh0 G m O1) m (va_up V2 1 v1) R1 t2) (m + 493) F2 X2 (sm_as A2 S2) L2) := sv_goto 1562 dL_law_887 (by decide) (sv_sub [2, 3, 4, 5, 6] rfl (join _ _ _ _ _ _ R1 t2 O1 (ql v1)))
  refine sv_iload dL_law_870 rfl ?_
  refine sv_ifN_ne 887 dL_law_872 (by decide) (by omega) (fun _ => kj) (fun hk0 => ?_)
  refine sv_aload_n dL_law_875 rfl ?_
  refine sv_iconst (nI 0) dL_law_876 rfl ?_
  refine sv_laload dL_law_877 (lh_o (V := va_up V2 1 v1) (R := R1) (t := t2) (O := O1)) (show ¬ (nI 0 < 0 ∨ 1 ≤ (nI 0).toNatClampNeg) by decide) ?_
  refine sv_topl a.toInt64 (q4 hk0) ?_
  refine sv_iload dL_law_878 rfl ?_
  refine sv_i2l dL_law_880 ?_
  refine sv_lcmp dL_law_881 ?_
  exact sv_if_eq 887 dL_law_882 (by decide) (fun _ => kj) (fun z => absurd (lcmp0 _) z)
theorem lw_c14 (hl : lc K F X A S LL V n B c x f) (hK : K + 60000 < 2 ^ 26) (h12 : 12 ≤ K) (hj : 4 * j + 4 ≤ L) (hL : L ≤ 2048) (hb : b < sm_B G) (hm : 0 < m) (hc : cells + 1 ≤ 641416) (hs : slots + 6 ≤ 7171855) (join : lJ G b L xs m j K cells slots) : sm_V G mL_law room_1 (lZ (sm_B G) b L xs) cells slots 890 [(0, .ref b), (1, .ref m), (2, .ref (m + 493)), (3, .ref (m + 504)), (4, .int (nI (4 * j)))] [] (lh G m F X (sm_as A S) LL V R (n, B, c, x, f) O) := by
  obtain ⟨k, a, V2, t2, d, hk, hd, hx, hr⟩ := lp_brings (G := G) hl hK h12 (xs (4 * j + 1)) (xs (4 * j + 2))
  refine sv_aload_n dL_law_890 rfl ?_
  refine sv_aload_n dL_law_891 rfl ?_
  refine sv_iload dL_law_892 rfl ?_
  refine sv_iconst (nI 1) dL_law_894 rfl ?_
  refine sv_iadd dL_law_895 ?_
  refine sv_top (nI (4 * j + 1)) (nI_add _ _) ?_
  refine sl_ld dL_law_896 (lin (by omega) hL) ?_ hb
  refine sv_top (xs (4 * j + 1)) (by rw [nI_clamp (by omega)]) ?_
  refine sv_aload_n dL_law_897 rfl ?_
  refine sv_iload dL_law_898 rfl ?_
  refine sv_iconst (nI 2) dL_law_900 rfl ?_
  refine sv_iadd dL_law_901 ?_
  refine sv_top (nI (4 * j + 2)) (nI_add _ _) ?_
  refine sl_ld dL_law_902 (lin (by omega) hL) ?_ hb
  refine sv_top (xs (4 * j + 2)) (by rw [nI_clamp (by omega)]) ?_
  refine sv_aload_n dL_law_903 rfl ?_
  refine sv_heap lh_m ?_
  refine sv_invSH (As := [.ref m, .int (xs (4 * j + 1)), .int (xs (4 * j + 2)), .ref (m + 504)]) (rest := []) sc_L_145 (hx _ m (m + 504) R O (lh_z hm) hm lh_1 (.inr (by omega))) rfl rfl (Nat.le_of_ble_eq_true rfl) dL_law_904 ⟨by decide, by decide⟩ ⟨show cells + 1 ≤ 641416 from hc, show slots + 6 ≤ 7171855 from hs⟩ (Nat.le_of_ble_eq_true rfl) (fun w1 h1 q => ?_) (fun E h1 q => by obtain ⟨q1, -⟩ := q; cases q1)
  obtain ⟨q1, v1, R1, O1, rfl, q4⟩ := q
  cases q1
  show sm_V G _ _ _ (cells + 1) (slots + 6) 907 _ [.int (nI k)] _
  refine sv_heap lh_m2 ?_
  refine sv_istore (lv' := [(5, .int (nI k)), (0, .ref b), (1, .ref m), (2, .ref (m + 493)), (3, .ref (m + 504)), (4, .int (nI (4 * j)))]) dL_law_907 (by decide) rfl ?_
  show sm_V G _ _ _ _ _ _ _ _ (sm_om G (mw G (lh0 G m O1) m (va_up V2 1 v1) R1 t2) (m + 493) F X (sm_as A S) LL)
  refine sv_aload_n dL_law_909 rfl ?_
  refine sv_aload_n dL_law_910 rfl ?_
  refine sv_iload dL_law_911 rfl ?_
  refine sv_iconst (nI 1) dL_law_913 rfl ?_
  refine sv_iadd dL_law_914 ?_
  refine sv_top (nI (4 * j + 1)) (nI_add _ _) ?_
  refine sl_ld dL_law_915 (lin (by omega) hL) ?_ hb
  refine sv_top (xs (4 * j + 1)) (by rw [nI_clamp (by omega)]) ?_
  refine sv_aload_n dL_law_916 rfl ?_
  refine sv_iload dL_law_917 rfl ?_
  refine sv_iconst (nI 2) dL_law_919 rfl ?_
  refine sv_iadd dL_law_920 ?_
  refine sv_top (nI (4 * j + 2)) (nI_add _ _) ?_
  refine sl_ld dL_law_921 (lin (by omega) hL) ?_ hb
  refine sv_top (xs (4 * j + 2)) (by rw [nI_clamp (by omega)]) ?_
  refine sv_invV (As := [.int (xs (4 * j + 1)), .int (xs (4 * j + 2))]) (rest := []) sc_L_147 (hr _ (m + 493)) rfl rfl (Nat.le_of_ble_eq_true rfl) dL_law_922 ⟨show d + 1 ≤ 12 by omega, show 8 + (3 + 11) + 30 * d ≤ 484 by omega⟩ ⟨show cells + 1 + 0 ≤ 641416 by omega, show slots + 6 + 0 ≤ 7171855 by omega⟩ (Nat.le_of_ble_eq_true rfl) om_0 (List.cons_ne_nil _ _) rfl (fun w1 h1 q => ?_) (fun E h1 q => by obtain ⟨q1, -⟩ := q; cases q1)
  obtain ⟨q1, F2, X2, A2, S2, L2, rfl, qF, ql⟩ := q
  cases q1
  show sm_V G _ _ _ (cells + 1) (slots + 6) 925 _ [.int a] _
  refine sv_istore (lv' := [(6, .int a), (5, .int (nI k)), (0, .ref b), (1, .ref m), (2, .ref (m + 493)), (3, .ref (m + 504)), (4, .int (nI (4 * j)))]) dL_law_925 (by decide) rfl ?_
  refine sv_aload_n dL_law_927 rfl ?_
  refine sv_callV (As := []) (rest := []) sc_L_96 c6_thrown rfl rfl (Nat.le_of_ble_eq_true rfl) dL_law_928 ⟨by decide, by decide⟩ ⟨show cells + 1 ≤ 641416 by omega, show slots + 6 ≤ 7171855 by omega⟩ (Nat.le_of_ble_eq_true rfl) om_0 (List.cons_ne_nil _ _) rfl ?_
  show sm_V G _ _ _ (cells + 1) (slots + 6) 931 _ [.int (F2 0)] _
  refine sv_top (nI k) qF ?_
  refine sv_iload dL_law_931 rfl ?_
  refine sv_icmp_eq 938 dL_law_933 (by decide) (fun _ => ?_) (fun z => absurd rfl z)
  have kj : sm_V G mL_law room_1 (lZ (sm_B G) b L xs) (cells + 1) (slots + 6) 955 [(6, .int a), (5, .int (nI k)), (0, .ref b), (1, .ref m), (2, .ref (m + 493)), (3, .ref (m + 504)), (4, .int (nI (4 * j)))] [] (sm_om G (mw G (lh0 G m O1) m (va_up V2 1 v1) R1 t2) (m + 493) F2 X2 (sm_as A2 S2) L2) := sv_goto 1562 dL_law_955 (by decide) (sv_sub [2, 3, 4, 5, 6] rfl (join _ _ _ _ _ _ R1 t2 O1 (ql v1)))
  refine sv_iload dL_law_938 rfl ?_
  refine sv_ifN_ne 955 dL_law_940 (by decide) (by omega) (fun _ => kj) (fun hk0 => ?_)
  refine sv_aload_n dL_law_943 rfl ?_
  refine sv_iconst (nI 0) dL_law_944 rfl ?_
  refine sv_laload dL_law_945 (lh_o (V := va_up V2 1 v1) (R := R1) (t := t2) (O := O1)) (show ¬ (nI 0 < 0 ∨ 1 ≤ (nI 0).toNatClampNeg) by decide) ?_
  refine sv_topl a.toInt64 (q4 hk0) ?_
  refine sv_iload dL_law_946 rfl ?_
  refine sv_i2l dL_law_948 ?_
  refine sv_lcmp dL_law_949 ?_
  exact sv_if_eq 955 dL_law_950 (by decide) (fun _ => kj) (fun z => absurd (lcmp0 _) z)
theorem lw_c15 (hl : lc K F X A S LL V n B c x f) (hK : K + 60000 < 2 ^ 26) (h12 : 12 ≤ K) (hj : 4 * j + 4 ≤ L) (hL : L ≤ 2048) (hb : b < sm_B G) (hm : 0 < m) (hc : cells + 1 ≤ 641416) (hs : slots + 6 ≤ 7171855) (join : lJ G b L xs m j K cells slots) : sm_V G mL_law room_1 (lZ (sm_B G) b L xs) cells slots 958 [(0, .ref b), (1, .ref m), (2, .ref (m + 493)), (3, .ref (m + 504)), (4, .int (nI (4 * j)))] [] (lh G m F X (sm_as A S) LL V R (n, B, c, x, f) O) := by
  obtain ⟨k, a, V2, t2, d, hk, hd, hx, hr⟩ := lp_bumps (G := G) hl hK h12 (xs (4 * j + 1))
  refine sv_aload_n dL_law_958 rfl ?_
  refine sv_aload_n dL_law_959 rfl ?_
  refine sv_iload dL_law_960 rfl ?_
  refine sv_iconst (nI 1) dL_law_962 rfl ?_
  refine sv_iadd dL_law_963 ?_
  refine sv_top (nI (4 * j + 1)) (nI_add _ _) ?_
  refine sl_ld dL_law_964 (lin (by omega) hL) ?_ hb
  refine sv_top (xs (4 * j + 1)) (by rw [nI_clamp (by omega)]) ?_
  refine sv_aload_n dL_law_965 rfl ?_
  refine sv_heap lh_m ?_
  refine sv_invSH (As := [.ref m, .int (xs (4 * j + 1)), .ref (m + 504)]) (rest := []) sc_L_148 (hx _ m (m + 504) R O (lh_z hm) hm lh_1 (.inr (by omega))) rfl rfl (Nat.le_of_ble_eq_true rfl) dL_law_966 ⟨by decide, by decide⟩ ⟨show cells + 1 ≤ 641416 from hc, show slots + 6 ≤ 7171855 from hs⟩ (Nat.le_of_ble_eq_true rfl) (fun w1 h1 q => ?_) (fun E h1 q => by obtain ⟨q1, -⟩ := q; cases q1)
  obtain ⟨q1, v1, R1, O1, rfl, q4⟩ := q
  cases q1
  show sm_V G _ _ _ (cells + 1) (slots + 6) 969 _ [.int (nI k)] _
  refine sv_heap lh_m2 ?_
  refine sv_istore (lv' := [(5, .int (nI k)), (0, .ref b), (1, .ref m), (2, .ref (m + 493)), (3, .ref (m + 504)), (4, .int (nI (4 * j)))]) dL_law_969 (by decide) rfl ?_
  show sm_V G _ _ _ _ _ _ _ _ (sm_om G (mw G (lh0 G m O1) m (va_up V2 1 v1) R1 t2) (m + 493) F X (sm_as A S) LL)
  refine sv_aload_n dL_law_971 rfl ?_
  refine sv_aload_n dL_law_972 rfl ?_
  refine sv_iload dL_law_973 rfl ?_
  refine sv_iconst (nI 1) dL_law_975 rfl ?_
  refine sv_iadd dL_law_976 ?_
  refine sv_top (nI (4 * j + 1)) (nI_add _ _) ?_
  refine sl_ld dL_law_977 (lin (by omega) hL) ?_ hb
  refine sv_top (xs (4 * j + 1)) (by rw [nI_clamp (by omega)]) ?_
  refine sv_invV (As := [.int (xs (4 * j + 1))]) (rest := []) sc_L_150 (hr _ (m + 493)) rfl rfl (Nat.le_of_ble_eq_true rfl) dL_law_978 ⟨show d + 1 ≤ 12 by omega, show 8 + (2 + 11) + 30 * d ≤ 484 by omega⟩ ⟨show cells + 1 + 0 ≤ 641416 by omega, show slots + 6 + 0 ≤ 7171855 by omega⟩ (Nat.le_of_ble_eq_true rfl) om_0 (List.cons_ne_nil _ _) rfl (fun w1 h1 q => ?_) (fun E h1 q => by obtain ⟨q1, -⟩ := q; cases q1)
  obtain ⟨q1, F2, X2, A2, S2, L2, rfl, qF, ql⟩ := q
  cases q1
  show sm_V G _ _ _ (cells + 1) (slots + 6) 981 _ [.int a] _
  refine sv_istore (lv' := [(6, .int a), (5, .int (nI k)), (0, .ref b), (1, .ref m), (2, .ref (m + 493)), (3, .ref (m + 504)), (4, .int (nI (4 * j)))]) dL_law_981 (by decide) rfl ?_
  refine sv_aload_n dL_law_983 rfl ?_
  refine sv_callV (As := []) (rest := []) sc_L_96 c6_thrown rfl rfl (Nat.le_of_ble_eq_true rfl) dL_law_984 ⟨by decide, by decide⟩ ⟨show cells + 1 ≤ 641416 by omega, show slots + 6 ≤ 7171855 by omega⟩ (Nat.le_of_ble_eq_true rfl) om_0 (List.cons_ne_nil _ _) rfl ?_
  show sm_V G _ _ _ (cells + 1) (slots + 6) 987 _ [.int (F2 0)] _
  refine sv_top (nI k) qF ?_
  refine sv_iload dL_law_987 rfl ?_
  refine sv_icmp_eq 994 dL_law_989 (by decide) (fun _ => ?_) (fun z => absurd rfl z)
  have kj : sm_V G mL_law room_1 (lZ (sm_B G) b L xs) (cells + 1) (slots + 6) 1011 [(6, .int a), (5, .int (nI k)), (0, .ref b), (1, .ref m), (2, .ref (m + 493)), (3, .ref (m + 504)), (4, .int (nI (4 * j)))] [] (sm_om G (mw G (lh0 G m O1) m (va_up V2 1 v1) R1 t2) (m + 493) F2 X2 (sm_as A2 S2) L2) := sv_goto 1562 dL_law_1011 (by decide) (sv_sub [2, 3, 4, 5, 6] rfl (join _ _ _ _ _ _ R1 t2 O1 (ql v1)))
  refine sv_iload dL_law_994 rfl ?_
  refine sv_ifN_ne 1011 dL_law_996 (by decide) (by omega) (fun _ => kj) (fun hk0 => ?_)
  refine sv_aload_n dL_law_999 rfl ?_
  refine sv_iconst (nI 0) dL_law_1000 rfl ?_
  refine sv_laload dL_law_1001 (lh_o (V := va_up V2 1 v1) (R := R1) (t := t2) (O := O1)) (show ¬ (nI 0 < 0 ∨ 1 ≤ (nI 0).toNatClampNeg) by decide) ?_
  refine sv_topl a.toInt64 (q4 hk0) ?_
  refine sv_iload dL_law_1002 rfl ?_
  refine sv_i2l dL_law_1004 ?_
  refine sv_lcmp dL_law_1005 ?_
  exact sv_if_eq 1011 dL_law_1006 (by decide) (fun _ => kj) (fun z => absurd (lcmp0 _) z)
theorem lw_c16 (hl : lc K F X A S LL V n B c x f) (hK : K + 60000 < 2 ^ 26) (h12 : 12 ≤ K) (hj : 4 * j + 4 ≤ L) (hL : L ≤ 2048) (hb : b < sm_B G) (hm : 0 < m) (hc : cells + 1 ≤ 641416) (hs : slots + 6 ≤ 7171855) (join : lJ G b L xs m j K cells slots) : sm_V G mL_law room_1 (lZ (sm_B G) b L xs) cells slots 1014 [(0, .ref b), (1, .ref m), (2, .ref (m + 493)), (3, .ref (m + 504)), (4, .int (nI (4 * j)))] [] (lh G m F X (sm_as A S) LL V R (n, B, c, x, f) O) := by
  obtain ⟨k, a, V2, t2, d, hk, hd, hx, hr⟩ := lp_best (G := G) hl hK h12 (xs (4 * j + 1))
  refine sv_aload_n dL_law_1014 rfl ?_
  refine sv_aload_n dL_law_1015 rfl ?_
  refine sv_iload dL_law_1016 rfl ?_
  refine sv_iconst (nI 1) dL_law_1018 rfl ?_
  refine sv_iadd dL_law_1019 ?_
  refine sv_top (nI (4 * j + 1)) (nI_add _ _) ?_
  refine sl_ld dL_law_1020 (lin (by omega) hL) ?_ hb
  refine sv_top (xs (4 * j + 1)) (by rw [nI_clamp (by omega)]) ?_
  refine sv_aload_n dL_law_1021 rfl ?_
  refine sv_heap lh_m ?_
  refine sv_invSH (As := [.ref m, .int (xs (4 * j + 1)), .ref (m + 504)]) (rest := []) sc_L_151 (hx _ m (m + 504) R O (lh_z hm) hm lh_1 (.inr (by omega))) rfl rfl (Nat.le_of_ble_eq_true rfl) dL_law_1022 ⟨by decide, by decide⟩ ⟨show cells + 1 ≤ 641416 from hc, show slots + 6 ≤ 7171855 from hs⟩ (Nat.le_of_ble_eq_true rfl) (fun w1 h1 q => ?_) (fun E h1 q => by obtain ⟨q1, -⟩ := q; cases q1)
  obtain ⟨q1, v1, R1, O1, rfl, q4⟩ := q
  cases q1
  show sm_V G _ _ _ (cells + 1) (slots + 6) 1025 _ [.int (nI k)] _
  refine sv_heap lh_m2 ?_
  refine sv_istore (lv' := [(5, .int (nI k)), (0, .ref b), (1, .ref m), (2, .ref (m + 493)), (3, .ref (m + 504)), (4, .int (nI (4 * j)))]) dL_law_1025 (by decide) rfl ?_
  show sm_V G _ _ _ _ _ _ _ _ (sm_om G (mw G (lh0 G m O1) m (va_up V2 1 v1) R1 t2) (m + 493) F X (sm_as A S) LL)
  refine sv_aload_n dL_law_1027 rfl ?_
  refine sv_aload_n dL_law_1028 rfl ?_
  refine sv_iload dL_law_1029 rfl ?_
  refine sv_iconst (nI 1) dL_law_1031 rfl ?_
  refine sv_iadd dL_law_1032 ?_
  refine sv_top (nI (4 * j + 1)) (nI_add _ _) ?_
  refine sl_ld dL_law_1033 (lin (by omega) hL) ?_ hb
  refine sv_top (xs (4 * j + 1)) (by rw [nI_clamp (by omega)]) ?_
  refine sv_invV (As := [.int (xs (4 * j + 1))]) (rest := []) sc_L_153 (hr _ (m + 493)) rfl rfl (Nat.le_of_ble_eq_true rfl) dL_law_1034 ⟨show d + 1 ≤ 12 by omega, show 8 + (2 + 11) + 30 * d ≤ 484 by omega⟩ ⟨show cells + 1 + 0 ≤ 641416 by omega, show slots + 6 + 0 ≤ 7171855 by omega⟩ (Nat.le_of_ble_eq_true rfl) om_0 (List.cons_ne_nil _ _) rfl (fun w1 h1 q => ?_) (fun E h1 q => by obtain ⟨q1, -⟩ := q; cases q1)
  obtain ⟨q1, F2, X2, A2, S2, L2, rfl, qF, ql⟩ := q
  cases q1
  show sm_V G _ _ _ (cells + 1) (slots + 6) 1037 _ [.int a] _
  refine sv_istore (lv' := [(6, .int a), (5, .int (nI k)), (0, .ref b), (1, .ref m), (2, .ref (m + 493)), (3, .ref (m + 504)), (4, .int (nI (4 * j)))]) dL_law_1037 (by decide) rfl ?_
  refine sv_aload_n dL_law_1039 rfl ?_
  refine sv_callV (As := []) (rest := []) sc_L_96 c6_thrown rfl rfl (Nat.le_of_ble_eq_true rfl) dL_law_1040 ⟨by decide, by decide⟩ ⟨show cells + 1 ≤ 641416 by omega, show slots + 6 ≤ 7171855 by omega⟩ (Nat.le_of_ble_eq_true rfl) om_0 (List.cons_ne_nil _ _) rfl ?_
  show sm_V G _ _ _ (cells + 1) (slots + 6) 1043 _ [.int (F2 0)] _
  refine sv_top (nI k) qF ?_
  refine sv_iload dL_law_1043 rfl ?_
  refine sv_icmp_eq 1050 dL_law_1045 (by decide) (fun _ => ?_) (fun z => absurd rfl z)
  have kj : sm_V G mL_law room_1 (lZ (sm_B G) b L xs) (cells + 1) (slots + 6) 1067 [(6, .int a), (5, .int (nI k)), (0, .ref b), (1, .ref m), (2, .ref (m + 493)), (3, .ref (m + 504)), (4, .int (nI (4 * j)))] [] (sm_om G (mw G (lh0 G m O1) m (va_up V2 1 v1) R1 t2) (m + 493) F2 X2 (sm_as A2 S2) L2) := sv_goto 1562 dL_law_1067 (by decide) (sv_sub [2, 3, 4, 5, 6] rfl (join _ _ _ _ _ _ R1 t2 O1 (ql v1)))
  refine sv_iload dL_law_1050 rfl ?_
  refine sv_ifN_ne 1067 dL_law_1052 (by decide) (by omega) (fun _ => kj) (fun hk0 => ?_)
  refine sv_aload_n dL_law_1055 rfl ?_
  refine sv_iconst (nI 0) dL_law_1056 rfl ?_
  refine sv_laload dL_law_1057 (lh_o (V := va_up V2 1 v1) (R := R1) (t := t2) (O := O1)) (show ¬ (nI 0 < 0 ∨ 1 ≤ (nI 0).toNatClampNeg) by decide) ?_
  refine sv_topl a.toInt64 (q4 hk0) ?_
  refine sv_iload dL_law_1058 rfl ?_
  refine sv_i2l dL_law_1060 ?_
  refine sv_lcmp dL_law_1061 ?_
  exact sv_if_eq 1067 dL_law_1062 (by decide) (fun _ => kj) (fun z => absurd (lcmp0 _) z)
theorem lw_c17 (hl : lc K F X A S LL V n B c x f) (hK : K + 60000 < 2 ^ 26) (h12 : 12 ≤ K) (hj : 4 * j + 4 ≤ L) (hL : L ≤ 2048) (hb : b < sm_B G) (hm : 0 < m) (hc : cells + 1 ≤ 641416) (hs : slots + 6 ≤ 7171855) (join : lJ G b L xs m j K cells slots) : sm_V G mL_law room_1 (lZ (sm_B G) b L xs) cells slots 1070 [(0, .ref b), (1, .ref m), (2, .ref (m + 493)), (3, .ref (m + 504)), (4, .int (nI (4 * j)))] [] (lh G m F X (sm_as A S) LL V R (n, B, c, x, f) O) := by
  obtain ⟨k, a, V2, t2, d, hk, hd, hx, hr⟩ := lp_loses (G := G) hl hK h12 (xs (4 * j + 1)) (xs (4 * j + 2))
  refine sv_aload_n dL_law_1070 rfl ?_
  refine sv_aload_n dL_law_1071 rfl ?_
  refine sv_iload dL_law_1072 rfl ?_
  refine sv_iconst (nI 1) dL_law_1074 rfl ?_
  refine sv_iadd dL_law_1075 ?_
  refine sv_top (nI (4 * j + 1)) (nI_add _ _) ?_
  refine sl_ld dL_law_1076 (lin (by omega) hL) ?_ hb
  refine sv_top (xs (4 * j + 1)) (by rw [nI_clamp (by omega)]) ?_
  refine sv_aload_n dL_law_1077 rfl ?_
  refine sv_iload dL_law_1078 rfl ?_
  refine sv_iconst (nI 2) dL_law_1080 rfl ?_
  refine sv_iadd dL_law_1081 ?_
  refine sv_top (nI (4 * j + 2)) (nI_add _ _) ?_
  refine sl_ld dL_law_1082 (lin (by omega) hL) ?_ hb
  refine sv_top (xs (4 * j + 2)) (by rw [nI_clamp (by omega)]) ?_
  refine sv_aload_n dL_law_1083 rfl ?_
  refine sv_heap lh_m ?_
  refine sv_invSH (As := [.ref m, .int (xs (4 * j + 1)), .int (xs (4 * j + 2)), .ref (m + 504)]) (rest := []) sc_L_154 (hx _ m (m + 504) R O (lh_z hm) hm lh_1 (.inr (by omega))) rfl rfl (Nat.le_of_ble_eq_true rfl) dL_law_1084 ⟨by decide, by decide⟩ ⟨show cells + 1 ≤ 641416 from hc, show slots + 6 ≤ 7171855 from hs⟩ (Nat.le_of_ble_eq_true rfl) (fun w1 h1 q => ?_) (fun E h1 q => by obtain ⟨q1, -⟩ := q; cases q1)
  obtain ⟨q1, v1, R1, O1, rfl, q4⟩ := q
  cases q1
  show sm_V G _ _ _ (cells + 1) (slots + 6) 1087 _ [.int (nI k)] _
  refine sv_heap lh_m2 ?_
  refine sv_istore (lv' := [(5, .int (nI k)), (0, .ref b), (1, .ref m), (2, .ref (m + 493)), (3, .ref (m + 504)), (4, .int (nI (4 * j)))]) dL_law_1087 (by decide) rfl ?_
  show sm_V G _ _ _ _ _ _ _ _ (sm_om G (mw G (lh0 G m O1) m (va_up V2 1 v1) R1 t2) (m + 493) F X (sm_as A S) LL)
  refine sv_aload_n dL_law_1089 rfl ?_
  refine sv_aload_n dL_law_1090 rfl ?_
  refine sv_iload dL_law_1091 rfl ?_
  refine sv_iconst (nI 1) dL_law_1093 rfl ?_
  refine sv_iadd dL_law_1094 ?_
  refine sv_top (nI (4 * j + 1)) (nI_add _ _) ?_
  refine sl_ld dL_law_1095 (lin (by omega) hL) ?_ hb
  refine sv_top (xs (4 * j + 1)) (by rw [nI_clamp (by omega)]) ?_
  refine sv_aload_n dL_law_1096 rfl ?_
  refine sv_iload dL_law_1097 rfl ?_
  refine sv_iconst (nI 2) dL_law_1099 rfl ?_
  refine sv_iadd dL_law_1100 ?_
  refine sv_top (nI (4 * j + 2)) (nI_add _ _) ?_
  refine sl_ld dL_law_1101 (lin (by omega) hL) ?_ hb
  refine sv_top (xs (4 * j + 2)) (by rw [nI_clamp (by omega)]) ?_
  refine sv_invV (As := [.int (xs (4 * j + 1)), .int (xs (4 * j + 2))]) (rest := []) sc_L_156 (hr _ (m + 493)) rfl rfl (Nat.le_of_ble_eq_true rfl) dL_law_1102 ⟨show d + 1 ≤ 12 by omega, show 8 + (3 + 11) + 30 * d ≤ 484 by omega⟩ ⟨show cells + 1 + 0 ≤ 641416 by omega, show slots + 6 + 0 ≤ 7171855 by omega⟩ (Nat.le_of_ble_eq_true rfl) om_0 (List.cons_ne_nil _ _) rfl (fun w1 h1 q => ?_) (fun E h1 q => by obtain ⟨q1, -⟩ := q; cases q1)
  obtain ⟨q1, F2, X2, A2, S2, L2, rfl, qF, ql⟩ := q
  cases q1
  show sm_V G _ _ _ (cells + 1) (slots + 6) 1105 _ [.int a] _
  refine sv_istore (lv' := [(6, .int a), (5, .int (nI k)), (0, .ref b), (1, .ref m), (2, .ref (m + 493)), (3, .ref (m + 504)), (4, .int (nI (4 * j)))]) dL_law_1105 (by decide) rfl ?_
  refine sv_aload_n dL_law_1107 rfl ?_
  refine sv_callV (As := []) (rest := []) sc_L_96 c6_thrown rfl rfl (Nat.le_of_ble_eq_true rfl) dL_law_1108 ⟨by decide, by decide⟩ ⟨show cells + 1 ≤ 641416 by omega, show slots + 6 ≤ 7171855 by omega⟩ (Nat.le_of_ble_eq_true rfl) om_0 (List.cons_ne_nil _ _) rfl ?_
  show sm_V G _ _ _ (cells + 1) (slots + 6) 1111 _ [.int (F2 0)] _
  refine sv_top (nI k) qF ?_
  refine sv_iload dL_law_1111 rfl ?_
  refine sv_icmp_eq 1118 dL_law_1113 (by decide) (fun _ => ?_) (fun z => absurd rfl z)
  have kj : sm_V G mL_law room_1 (lZ (sm_B G) b L xs) (cells + 1) (slots + 6) 1135 [(6, .int a), (5, .int (nI k)), (0, .ref b), (1, .ref m), (2, .ref (m + 493)), (3, .ref (m + 504)), (4, .int (nI (4 * j)))] [] (sm_om G (mw G (lh0 G m O1) m (va_up V2 1 v1) R1 t2) (m + 493) F2 X2 (sm_as A2 S2) L2) := sv_goto 1562 dL_law_1135 (by decide) (sv_sub [2, 3, 4, 5, 6] rfl (join _ _ _ _ _ _ R1 t2 O1 (ql v1)))
  refine sv_iload dL_law_1118 rfl ?_
  refine sv_ifN_ne 1135 dL_law_1120 (by decide) (by omega) (fun _ => kj) (fun hk0 => ?_)
  refine sv_aload_n dL_law_1123 rfl ?_
  refine sv_iconst (nI 0) dL_law_1124 rfl ?_
  refine sv_laload dL_law_1125 (lh_o (V := va_up V2 1 v1) (R := R1) (t := t2) (O := O1)) (show ¬ (nI 0 < 0 ∨ 1 ≤ (nI 0).toNatClampNeg) by decide) ?_
  refine sv_topl a.toInt64 (q4 hk0) ?_
  refine sv_iload dL_law_1126 rfl ?_
  refine sv_i2l dL_law_1128 ?_
  refine sv_lcmp dL_law_1129 ?_
  exact sv_if_eq 1135 dL_law_1130 (by decide) (fun _ => kj) (fun z => absurd (lcmp0 _) z)
theorem lw_c18 (hl : lc K F X A S LL V n B c x f) (hK : K + 60000 < 2 ^ 26) (h12 : 12 ≤ K) (hj : 4 * j + 4 ≤ L) (hL : L ≤ 2048) (hb : b < sm_B G) (hm : 0 < m) (hc : cells + 1 ≤ 641416) (hs : slots + 6 ≤ 7171855) (join : lJ G b L xs m j K cells slots) : sm_V G mL_law room_1 (lZ (sm_B G) b L xs) cells slots 1138 [(0, .ref b), (1, .ref m), (2, .ref (m + 493)), (3, .ref (m + 504)), (4, .int (nI (4 * j)))] [] (lh G m F X (sm_as A S) LL V R (n, B, c, x, f) O) := by
  obtain ⟨k, a, V2, t2, d, hk, hd, hx, hr⟩ := lp_goesOn (G := G) hl hK h12 (xs (4 * j + 1))
  refine sv_aload_n dL_law_1138 rfl ?_
  refine sv_aload_n dL_law_1139 rfl ?_
  refine sv_iload dL_law_1140 rfl ?_
  refine sv_iconst (nI 1) dL_law_1142 rfl ?_
  refine sv_iadd dL_law_1143 ?_
  refine sv_top (nI (4 * j + 1)) (nI_add _ _) ?_
  refine sl_ld dL_law_1144 (lin (by omega) hL) ?_ hb
  refine sv_top (xs (4 * j + 1)) (by rw [nI_clamp (by omega)]) ?_
  refine sv_aload_n dL_law_1145 rfl ?_
  refine sv_heap lh_m ?_
  refine sv_invSH (As := [.ref m, .int (xs (4 * j + 1)), .ref (m + 504)]) (rest := []) sc_L_157 (hx _ m (m + 504) R O (lh_z hm) hm lh_1 (.inr (by omega))) rfl rfl (Nat.le_of_ble_eq_true rfl) dL_law_1146 ⟨by decide, by decide⟩ ⟨show cells + 1 ≤ 641416 from hc, show slots + 6 ≤ 7171855 from hs⟩ (Nat.le_of_ble_eq_true rfl) (fun w1 h1 q => ?_) (fun E h1 q => by obtain ⟨q1, -⟩ := q; cases q1)
  obtain ⟨q1, v1, R1, O1, rfl, q4⟩ := q
  cases q1
  show sm_V G _ _ _ (cells + 1) (slots + 6) 1149 _ [.int (nI k)] _
  refine sv_heap lh_m2 ?_
  refine sv_istore (lv' := [(5, .int (nI k)), (0, .ref b), (1, .ref m), (2, .ref (m + 493)), (3, .ref (m + 504)), (4, .int (nI (4 * j)))]) dL_law_1149 (by decide) rfl ?_
  show sm_V G _ _ _ _ _ _ _ _ (sm_om G (mw G (lh0 G m O1) m (va_up V2 1 v1) R1 t2) (m + 493) F X (sm_as A S) LL)
  refine sv_aload_n dL_law_1151 rfl ?_
  refine sv_aload_n dL_law_1152 rfl ?_
  refine sv_iload dL_law_1153 rfl ?_
  refine sv_iconst (nI 1) dL_law_1155 rfl ?_
  refine sv_iadd dL_law_1156 ?_
  refine sv_top (nI (4 * j + 1)) (nI_add _ _) ?_
  refine sl_ld dL_law_1157 (lin (by omega) hL) ?_ hb
  refine sv_top (xs (4 * j + 1)) (by rw [nI_clamp (by omega)]) ?_
  refine sv_invV (As := [.int (xs (4 * j + 1))]) (rest := []) sc_L_159 (hr _ (m + 493)) rfl rfl (Nat.le_of_ble_eq_true rfl) dL_law_1158 ⟨show d + 1 ≤ 12 by omega, show 8 + (3 + 11) + 30 * d ≤ 484 by omega⟩ ⟨show cells + 1 + 0 ≤ 641416 by omega, show slots + 6 + 0 ≤ 7171855 by omega⟩ (Nat.le_of_ble_eq_true rfl) om_0 (List.cons_ne_nil _ _) rfl (fun w1 h1 q => ?_) (fun E h1 q => by obtain ⟨q1, -⟩ := q; cases q1)
  obtain ⟨q1, F2, X2, A2, S2, L2, rfl, qF, ql⟩ := q
  cases q1
  show sm_V G _ _ _ (cells + 1) (slots + 6) 1161 _ [.int a] _
  refine sv_istore (lv' := [(6, .int a), (5, .int (nI k)), (0, .ref b), (1, .ref m), (2, .ref (m + 493)), (3, .ref (m + 504)), (4, .int (nI (4 * j)))]) dL_law_1161 (by decide) rfl ?_
  refine sv_aload_n dL_law_1163 rfl ?_
  refine sv_callV (As := []) (rest := []) sc_L_96 c6_thrown rfl rfl (Nat.le_of_ble_eq_true rfl) dL_law_1164 ⟨by decide, by decide⟩ ⟨show cells + 1 ≤ 641416 by omega, show slots + 6 ≤ 7171855 by omega⟩ (Nat.le_of_ble_eq_true rfl) om_0 (List.cons_ne_nil _ _) rfl ?_
  show sm_V G _ _ _ (cells + 1) (slots + 6) 1167 _ [.int (F2 0)] _
  refine sv_top (nI k) qF ?_
  refine sv_iload dL_law_1167 rfl ?_
  refine sv_icmp_eq 1174 dL_law_1169 (by decide) (fun _ => ?_) (fun z => absurd rfl z)
  have kj : sm_V G mL_law room_1 (lZ (sm_B G) b L xs) (cells + 1) (slots + 6) 1191 [(6, .int a), (5, .int (nI k)), (0, .ref b), (1, .ref m), (2, .ref (m + 493)), (3, .ref (m + 504)), (4, .int (nI (4 * j)))] [] (sm_om G (mw G (lh0 G m O1) m (va_up V2 1 v1) R1 t2) (m + 493) F2 X2 (sm_as A2 S2) L2) := sv_goto 1562 dL_law_1191 (by decide) (sv_sub [2, 3, 4, 5, 6] rfl (join _ _ _ _ _ _ R1 t2 O1 (ql v1)))
  refine sv_iload dL_law_1174 rfl ?_
  refine sv_ifN_ne 1191 dL_law_1176 (by decide) (by omega) (fun _ => kj) (fun hk0 => ?_)
  refine sv_aload_n dL_law_1179 rfl ?_
  refine sv_iconst (nI 0) dL_law_1180 rfl ?_
  refine sv_laload dL_law_1181 (lh_o (V := va_up V2 1 v1) (R := R1) (t := t2) (O := O1)) (show ¬ (nI 0 < 0 ∨ 1 ≤ (nI 0).toNatClampNeg) by decide) ?_
  refine sv_topl a.toInt64 (q4 hk0) ?_
  refine sv_iload dL_law_1182 rfl ?_
  refine sv_i2l dL_law_1184 ?_
  refine sv_lcmp dL_law_1185 ?_
  exact sv_if_eq 1191 dL_law_1186 (by decide) (fun _ => kj) (fun z => absurd (lcmp0 _) z)
theorem lw_c19 (hl : lc K F X A S LL V n B c x f) (hK : K + 60000 < 2 ^ 26) (h12 : 12 ≤ K) (hj : 4 * j + 4 ≤ L) (hL : L ≤ 2048) (hb : b < sm_B G) (hm : 0 < m) (hc : cells + 1 ≤ 641416) (hs : slots + 6 ≤ 7171855) (join : lJ G b L xs m j K cells slots) : sm_V G mL_law room_1 (lZ (sm_B G) b L xs) cells slots 1194 [(0, .ref b), (1, .ref m), (2, .ref (m + 493)), (3, .ref (m + 504)), (4, .int (nI (4 * j)))] [] (lh G m F X (sm_as A S) LL V R (n, B, c, x, f) O) := by
  obtain ⟨k, a, V2, t2, d, hk, hd, hx, hr⟩ := lp_weather (G := G) hl hK h12 (xs (4 * j + 1))
  refine sv_aload_n dL_law_1194 rfl ?_
  refine sv_aload_n dL_law_1195 rfl ?_
  refine sv_iload dL_law_1196 rfl ?_
  refine sv_iconst (nI 1) dL_law_1198 rfl ?_
  refine sv_iadd dL_law_1199 ?_
  refine sv_top (nI (4 * j + 1)) (nI_add _ _) ?_
  refine sl_ld dL_law_1200 (lin (by omega) hL) ?_ hb
  refine sv_top (xs (4 * j + 1)) (by rw [nI_clamp (by omega)]) ?_
  refine sv_aload_n dL_law_1201 rfl ?_
  refine sv_heap lh_m ?_
  refine sv_invSH (As := [.ref m, .int (xs (4 * j + 1)), .ref (m + 504)]) (rest := []) sc_L_160 (hx _ m (m + 504) R O (lh_z hm) hm lh_1 (.inr (by omega))) rfl rfl (Nat.le_of_ble_eq_true rfl) dL_law_1202 ⟨by decide, by decide⟩ ⟨show cells + 1 ≤ 641416 from hc, show slots + 6 ≤ 7171855 from hs⟩ (Nat.le_of_ble_eq_true rfl) (fun w1 h1 q => ?_) (fun E h1 q => by obtain ⟨q1, -⟩ := q; cases q1)
  obtain ⟨q1, v1, R1, O1, rfl, q4⟩ := q
  cases q1
  show sm_V G _ _ _ (cells + 1) (slots + 6) 1205 _ [.int (nI k)] _
  refine sv_heap lh_m2 ?_
  refine sv_istore (lv' := [(5, .int (nI k)), (0, .ref b), (1, .ref m), (2, .ref (m + 493)), (3, .ref (m + 504)), (4, .int (nI (4 * j)))]) dL_law_1205 (by decide) rfl ?_
  show sm_V G _ _ _ _ _ _ _ _ (sm_om G (mw G (lh0 G m O1) m (va_up V2 1 v1) R1 t2) (m + 493) F X (sm_as A S) LL)
  refine sv_aload_n dL_law_1207 rfl ?_
  refine sv_aload_n dL_law_1208 rfl ?_
  refine sv_iload dL_law_1209 rfl ?_
  refine sv_iconst (nI 1) dL_law_1211 rfl ?_
  refine sv_iadd dL_law_1212 ?_
  refine sv_top (nI (4 * j + 1)) (nI_add _ _) ?_
  refine sl_ld dL_law_1213 (lin (by omega) hL) ?_ hb
  refine sv_top (xs (4 * j + 1)) (by rw [nI_clamp (by omega)]) ?_
  refine sv_invV (As := [.int (xs (4 * j + 1))]) (rest := []) sc_L_162 (hr _ (m + 493)) rfl rfl (Nat.le_of_ble_eq_true rfl) dL_law_1214 ⟨show d + 1 ≤ 12 by omega, show 8 + (5 + 11) + 30 * d ≤ 484 by omega⟩ ⟨show cells + 1 + 0 ≤ 641416 by omega, show slots + 6 + 0 ≤ 7171855 by omega⟩ (Nat.le_of_ble_eq_true rfl) om_0 (List.cons_ne_nil _ _) rfl (fun w1 h1 q => ?_) (fun E h1 q => by obtain ⟨q1, -⟩ := q; cases q1)
  obtain ⟨q1, F2, X2, A2, S2, L2, rfl, qF, ql⟩ := q
  cases q1
  show sm_V G _ _ _ (cells + 1) (slots + 6) 1217 _ [.int a] _
  refine sv_istore (lv' := [(6, .int a), (5, .int (nI k)), (0, .ref b), (1, .ref m), (2, .ref (m + 493)), (3, .ref (m + 504)), (4, .int (nI (4 * j)))]) dL_law_1217 (by decide) rfl ?_
  refine sv_aload_n dL_law_1219 rfl ?_
  refine sv_callV (As := []) (rest := []) sc_L_96 c6_thrown rfl rfl (Nat.le_of_ble_eq_true rfl) dL_law_1220 ⟨by decide, by decide⟩ ⟨show cells + 1 ≤ 641416 by omega, show slots + 6 ≤ 7171855 by omega⟩ (Nat.le_of_ble_eq_true rfl) om_0 (List.cons_ne_nil _ _) rfl ?_
  show sm_V G _ _ _ (cells + 1) (slots + 6) 1223 _ [.int (F2 0)] _
  refine sv_top (nI k) qF ?_
  refine sv_iload dL_law_1223 rfl ?_
  refine sv_icmp_eq 1230 dL_law_1225 (by decide) (fun _ => ?_) (fun z => absurd rfl z)
  have kj : sm_V G mL_law room_1 (lZ (sm_B G) b L xs) (cells + 1) (slots + 6) 1247 [(6, .int a), (5, .int (nI k)), (0, .ref b), (1, .ref m), (2, .ref (m + 493)), (3, .ref (m + 504)), (4, .int (nI (4 * j)))] [] (sm_om G (mw G (lh0 G m O1) m (va_up V2 1 v1) R1 t2) (m + 493) F2 X2 (sm_as A2 S2) L2) := sv_goto 1562 dL_law_1247 (by decide) (sv_sub [2, 3, 4, 5, 6] rfl (join _ _ _ _ _ _ R1 t2 O1 (ql v1)))
  refine sv_iload dL_law_1230 rfl ?_
  refine sv_ifN_ne 1247 dL_law_1232 (by decide) (by omega) (fun _ => kj) (fun hk0 => ?_)
  refine sv_aload_n dL_law_1235 rfl ?_
  refine sv_iconst (nI 0) dL_law_1236 rfl ?_
  refine sv_laload dL_law_1237 (lh_o (V := va_up V2 1 v1) (R := R1) (t := t2) (O := O1)) (show ¬ (nI 0 < 0 ∨ 1 ≤ (nI 0).toNatClampNeg) by decide) ?_
  refine sv_topl a.toInt64 (q4 hk0) ?_
  refine sv_iload dL_law_1238 rfl ?_
  refine sv_i2l dL_law_1240 ?_
  refine sv_lcmp dL_law_1241 ?_
  exact sv_if_eq 1247 dL_law_1242 (by decide) (fun _ => kj) (fun z => absurd (lcmp0 _) z)
theorem lw_c20 (hl : lc K F X A S LL V n B c x f) (hK : K + 60000 < 2 ^ 26) (h12 : 12 ≤ K) (hj : 4 * j + 4 ≤ L) (hL : L ≤ 2048) (hb : b < sm_B G) (hm : 0 < m) (hc : cells + 1 ≤ 641416) (hs : slots + 6 ≤ 7171855) (join : lJ G b L xs m j K cells slots) : sm_V G mL_law room_1 (lZ (sm_B G) b L xs) cells slots 1250 [(0, .ref b), (1, .ref m), (2, .ref (m + 493)), (3, .ref (m + 504)), (4, .int (nI (4 * j)))] [] (lh G m F X (sm_as A S) LL V R (n, B, c, x, f) O) := by
  obtain ⟨k, a, V2, t2, d, hk, hd, hx, hr⟩ := lp_runScript (G := G) hl hK h12 (xs (4 * j + 1)) (((xs (4 * j + 2)).toInt64 <<< ((nI 32).toInt64 &&& 63) ||| (xs (4 * j + 3)).toInt64 &&& 4294967295))
  refine sv_aload_n dL_law_1250 rfl ?_
  refine sv_aload_n dL_law_1251 rfl ?_
  refine sv_iload dL_law_1252 rfl ?_
  refine sv_iconst (nI 1) dL_law_1254 rfl ?_
  refine sv_iadd dL_law_1255 ?_
  refine sv_top (nI (4 * j + 1)) (nI_add _ _) ?_
  refine sl_ld dL_law_1256 (lin (by omega) hL) ?_ hb
  refine sv_top (xs (4 * j + 1)) (by rw [nI_clamp (by omega)]) ?_
  refine sv_aload_n dL_law_1257 rfl ?_
  refine sv_iload dL_law_1258 rfl ?_
  refine sv_iconst (nI 2) dL_law_1260 rfl ?_
  refine sv_iadd dL_law_1261 ?_
  refine sv_top (nI (4 * j + 2)) (nI_add _ _) ?_
  refine sl_ld dL_law_1262 (lin (by omega) hL) ?_ hb
  refine sv_top (xs (4 * j + 2)) (by rw [nI_clamp (by omega)]) ?_
  refine sv_i2l dL_law_1263 ?_
  refine sv_bipush (nI 32) dL_law_1264 rfl ?_
  refine sv_lshl dL_law_1266 ?_
  refine sv_aload_n dL_law_1267 rfl ?_
  refine sv_iload dL_law_1268 rfl ?_
  refine sv_iconst (nI 3) dL_law_1270 rfl ?_
  refine sv_iadd dL_law_1271 ?_
  refine sv_top (nI (4 * j + 3)) (nI_add _ _) ?_
  refine sl_ld dL_law_1272 (lin (by omega) hL) ?_ hb
  refine sv_top (xs (4 * j + 3)) (by rw [nI_clamp (by omega)]) ?_
  refine sv_i2l dL_law_1273 ?_
  refine sv_ldc2 dL_law_1274 (sm_tc ck_5_7_in 8 rfl rfl) ?_
  refine sv_land dL_law_1277 ?_
  refine sv_lor dL_law_1278 ?_
  refine sv_aload_n dL_law_1279 rfl ?_
  refine sv_heap lh_m ?_
  refine sv_invSH (As := [.ref m, .int (xs (4 * j + 1)), .long ((xs (4 * j + 2)).toInt64 <<< ((nI 32).toInt64 &&& 63) ||| (xs (4 * j + 3)).toInt64 &&& 4294967295), .ref (m + 504)]) (rest := []) sc_L_163 (hx _ m (m + 504) R O (lh_z hm) hm lh_1 (.inr (by omega))) rfl rfl (Nat.le_of_ble_eq_true rfl) dL_law_1280 ⟨by decide, by decide⟩ ⟨show cells + 1 ≤ 641416 from hc, show slots + 6 ≤ 7171855 from hs⟩ (Nat.le_of_ble_eq_true rfl) (fun w1 h1 q => ?_) (fun E h1 q => by obtain ⟨q1, -⟩ := q; cases q1)
  obtain ⟨q1, v1, R1, O1, rfl, q4⟩ := q
  cases q1
  show sm_V G _ _ _ (cells + 1) (slots + 6) 1283 _ [.int (nI k)] _
  refine sv_heap lh_m2 ?_
  refine sv_istore (lv' := [(5, .int (nI k)), (0, .ref b), (1, .ref m), (2, .ref (m + 493)), (3, .ref (m + 504)), (4, .int (nI (4 * j)))]) dL_law_1283 (by decide) rfl ?_
  show sm_V G _ _ _ _ _ _ _ _ (sm_om G (mw G (lh0 G m O1) m (va_up V2 1 v1) R1 t2) (m + 493) F X (sm_as A S) LL)
  refine sv_aload_n dL_law_1285 rfl ?_
  refine sv_aload_n dL_law_1286 rfl ?_
  refine sv_iload dL_law_1287 rfl ?_
  refine sv_iconst (nI 1) dL_law_1289 rfl ?_
  refine sv_iadd dL_law_1290 ?_
  refine sv_top (nI (4 * j + 1)) (nI_add _ _) ?_
  refine sl_ld dL_law_1291 (lin (by omega) hL) ?_ hb
  refine sv_top (xs (4 * j + 1)) (by rw [nI_clamp (by omega)]) ?_
  refine sv_aload_n dL_law_1292 rfl ?_
  refine sv_iload dL_law_1293 rfl ?_
  refine sv_iconst (nI 2) dL_law_1295 rfl ?_
  refine sv_iadd dL_law_1296 ?_
  refine sv_top (nI (4 * j + 2)) (nI_add _ _) ?_
  refine sl_ld dL_law_1297 (lin (by omega) hL) ?_ hb
  refine sv_top (xs (4 * j + 2)) (by rw [nI_clamp (by omega)]) ?_
  refine sv_i2l dL_law_1298 ?_
  refine sv_bipush (nI 32) dL_law_1299 rfl ?_
  refine sv_lshl dL_law_1301 ?_
  refine sv_aload_n dL_law_1302 rfl ?_
  refine sv_iload dL_law_1303 rfl ?_
  refine sv_iconst (nI 3) dL_law_1305 rfl ?_
  refine sv_iadd dL_law_1306 ?_
  refine sv_top (nI (4 * j + 3)) (nI_add _ _) ?_
  refine sl_ld dL_law_1307 (lin (by omega) hL) ?_ hb
  refine sv_top (xs (4 * j + 3)) (by rw [nI_clamp (by omega)]) ?_
  refine sv_i2l dL_law_1308 ?_
  refine sv_ldc2 dL_law_1309 (sm_tc ck_5_7_in 8 rfl rfl) ?_
  refine sv_land dL_law_1312 ?_
  refine sv_lor dL_law_1313 ?_
  refine sv_invV (As := [.int (xs (4 * j + 1)), .long ((xs (4 * j + 2)).toInt64 <<< ((nI 32).toInt64 &&& 63) ||| (xs (4 * j + 3)).toInt64 &&& 4294967295)]) (rest := []) sc_L_165 (hr _ (m + 493)) rfl rfl (Nat.le_of_ble_eq_true rfl) dL_law_1314 ⟨show d + 1 ≤ 12 by omega, show 8 + (11 + 11) + 30 * d ≤ 484 by omega⟩ ⟨show cells + 1 + 0 ≤ 641416 by omega, show slots + 6 + 0 ≤ 7171855 by omega⟩ (Nat.le_of_ble_eq_true rfl) om_0 (List.cons_ne_nil _ _) rfl (fun w1 h1 q => ?_) (fun E h1 q => by obtain ⟨q1, -⟩ := q; cases q1)
  obtain ⟨q1, F2, X2, A2, S2, L2, rfl, qF, ql⟩ := q
  cases q1
  show sm_V G _ _ _ (cells + 1) (slots + 6) 1317 _ [.int a] _
  refine sv_istore (lv' := [(6, .int a), (5, .int (nI k)), (0, .ref b), (1, .ref m), (2, .ref (m + 493)), (3, .ref (m + 504)), (4, .int (nI (4 * j)))]) dL_law_1317 (by decide) rfl ?_
  refine sv_aload_n dL_law_1319 rfl ?_
  refine sv_callV (As := []) (rest := []) sc_L_96 c6_thrown rfl rfl (Nat.le_of_ble_eq_true rfl) dL_law_1320 ⟨by decide, by decide⟩ ⟨show cells + 1 ≤ 641416 by omega, show slots + 6 ≤ 7171855 by omega⟩ (Nat.le_of_ble_eq_true rfl) om_0 (List.cons_ne_nil _ _) rfl ?_
  show sm_V G _ _ _ (cells + 1) (slots + 6) 1323 _ [.int (F2 0)] _
  refine sv_top (nI k) qF ?_
  refine sv_iload dL_law_1323 rfl ?_
  refine sv_icmp_eq 1330 dL_law_1325 (by decide) (fun _ => ?_) (fun z => absurd rfl z)
  have kj : sm_V G mL_law room_1 (lZ (sm_B G) b L xs) (cells + 1) (slots + 6) 1347 [(6, .int a), (5, .int (nI k)), (0, .ref b), (1, .ref m), (2, .ref (m + 493)), (3, .ref (m + 504)), (4, .int (nI (4 * j)))] [] (sm_om G (mw G (lh0 G m O1) m (va_up V2 1 v1) R1 t2) (m + 493) F2 X2 (sm_as A2 S2) L2) := sv_goto 1562 dL_law_1347 (by decide) (sv_sub [2, 3, 4, 5, 6] rfl (join _ _ _ _ _ _ R1 t2 O1 (ql v1)))
  refine sv_iload dL_law_1330 rfl ?_
  refine sv_ifN_ne 1347 dL_law_1332 (by decide) (by omega) (fun _ => kj) (fun hk0 => ?_)
  refine sv_aload_n dL_law_1335 rfl ?_
  refine sv_iconst (nI 0) dL_law_1336 rfl ?_
  refine sv_laload dL_law_1337 (lh_o (V := va_up V2 1 v1) (R := R1) (t := t2) (O := O1)) (show ¬ (nI 0 < 0 ∨ 1 ≤ (nI 0).toNatClampNeg) by decide) ?_
  refine sv_topl a.toInt64 (q4 hk0) ?_
  refine sv_iload dL_law_1338 rfl ?_
  refine sv_i2l dL_law_1340 ?_
  refine sv_lcmp dL_law_1341 ?_
  exact sv_if_eq 1347 dL_law_1342 (by decide) (fun _ => kj) (fun z => absurd (lcmp0 _) z)
theorem lw_c21 (hl : lc K F X A S LL V n B c x f) (hK : K + 60000 < 2 ^ 26) (h12 : 12 ≤ K) (hj : 4 * j + 4 ≤ L) (hL : L ≤ 2048) (hb : b < sm_B G) (hm : 0 < m) (hc : cells + 1 ≤ 641416) (hs : slots + 6 ≤ 7171855) (join : lJ G b L xs m j K cells slots) : sm_V G mL_law room_1 (lZ (sm_B G) b L xs) cells slots 1350 [(0, .ref b), (1, .ref m), (2, .ref (m + 493)), (3, .ref (m + 504)), (4, .int (nI (4 * j)))] [] (lh G m F X (sm_as A S) LL V R (n, B, c, x, f) O) := by
  obtain ⟨k, a, V2, t2, d, hk, hd, hx, hr⟩ := lp_simulate (G := G) hl hK h12 (((xs (4 * j + 1)).toInt64 <<< ((nI 32).toInt64 &&& 63) ||| (xs (4 * j + 2)).toInt64 &&& 4294967295)) (xs (4 * j + 3))
  refine sv_aload_n dL_law_1350 rfl ?_
  refine sv_aload_n dL_law_1351 rfl ?_
  refine sv_iload dL_law_1352 rfl ?_
  refine sv_iconst (nI 1) dL_law_1354 rfl ?_
  refine sv_iadd dL_law_1355 ?_
  refine sv_top (nI (4 * j + 1)) (nI_add _ _) ?_
  refine sl_ld dL_law_1356 (lin (by omega) hL) ?_ hb
  refine sv_top (xs (4 * j + 1)) (by rw [nI_clamp (by omega)]) ?_
  refine sv_i2l dL_law_1357 ?_
  refine sv_bipush (nI 32) dL_law_1358 rfl ?_
  refine sv_lshl dL_law_1360 ?_
  refine sv_aload_n dL_law_1361 rfl ?_
  refine sv_iload dL_law_1362 rfl ?_
  refine sv_iconst (nI 2) dL_law_1364 rfl ?_
  refine sv_iadd dL_law_1365 ?_
  refine sv_top (nI (4 * j + 2)) (nI_add _ _) ?_
  refine sl_ld dL_law_1366 (lin (by omega) hL) ?_ hb
  refine sv_top (xs (4 * j + 2)) (by rw [nI_clamp (by omega)]) ?_
  refine sv_i2l dL_law_1367 ?_
  refine sv_ldc2 dL_law_1368 (sm_tc ck_5_7_in 8 rfl rfl) ?_
  refine sv_land dL_law_1371 ?_
  refine sv_lor dL_law_1372 ?_
  refine sv_aload_n dL_law_1373 rfl ?_
  refine sv_iload dL_law_1374 rfl ?_
  refine sv_iconst (nI 3) dL_law_1376 rfl ?_
  refine sv_iadd dL_law_1377 ?_
  refine sv_top (nI (4 * j + 3)) (nI_add _ _) ?_
  refine sl_ld dL_law_1378 (lin (by omega) hL) ?_ hb
  refine sv_top (xs (4 * j + 3)) (by rw [nI_clamp (by omega)]) ?_
  refine sv_aload_n dL_law_1379 rfl ?_
  refine sv_heap lh_m ?_
  refine sv_invSH (As := [.ref m, .long ((xs (4 * j + 1)).toInt64 <<< ((nI 32).toInt64 &&& 63) ||| (xs (4 * j + 2)).toInt64 &&& 4294967295), .int (xs (4 * j + 3)), .ref (m + 504)]) (rest := []) sc_L_166 (hx _ m (m + 504) R O (lh_z hm) hm lh_1 (.inr (by omega))) rfl rfl (Nat.le_of_ble_eq_true rfl) dL_law_1380 ⟨by decide, by decide⟩ ⟨show cells + 1 ≤ 641416 from hc, show slots + 6 ≤ 7171855 from hs⟩ (Nat.le_of_ble_eq_true rfl) (fun w1 h1 q => ?_) (fun E h1 q => by obtain ⟨q1, -⟩ := q; cases q1)
  obtain ⟨q1, v1, R1, O1, rfl, q4⟩ := q
  cases q1
  show sm_V G _ _ _ (cells + 1) (slots + 6) 1383 _ [.int (nI k)] _
  refine sv_heap lh_m2 ?_
  refine sv_istore (lv' := [(5, .int (nI k)), (0, .ref b), (1, .ref m), (2, .ref (m + 493)), (3, .ref (m + 504)), (4, .int (nI (4 * j)))]) dL_law_1383 (by decide) rfl ?_
  show sm_V G _ _ _ _ _ _ _ _ (sm_om G (mw G (lh0 G m O1) m (va_up V2 1 v1) R1 t2) (m + 493) F X (sm_as A S) LL)
  refine sv_aload_n dL_law_1385 rfl ?_
  refine sv_aload_n dL_law_1386 rfl ?_
  refine sv_iload dL_law_1387 rfl ?_
  refine sv_iconst (nI 1) dL_law_1389 rfl ?_
  refine sv_iadd dL_law_1390 ?_
  refine sv_top (nI (4 * j + 1)) (nI_add _ _) ?_
  refine sl_ld dL_law_1391 (lin (by omega) hL) ?_ hb
  refine sv_top (xs (4 * j + 1)) (by rw [nI_clamp (by omega)]) ?_
  refine sv_i2l dL_law_1392 ?_
  refine sv_bipush (nI 32) dL_law_1393 rfl ?_
  refine sv_lshl dL_law_1395 ?_
  refine sv_aload_n dL_law_1396 rfl ?_
  refine sv_iload dL_law_1397 rfl ?_
  refine sv_iconst (nI 2) dL_law_1399 rfl ?_
  refine sv_iadd dL_law_1400 ?_
  refine sv_top (nI (4 * j + 2)) (nI_add _ _) ?_
  refine sl_ld dL_law_1401 (lin (by omega) hL) ?_ hb
  refine sv_top (xs (4 * j + 2)) (by rw [nI_clamp (by omega)]) ?_
  refine sv_i2l dL_law_1402 ?_
  refine sv_ldc2 dL_law_1403 (sm_tc ck_5_7_in 8 rfl rfl) ?_
  refine sv_land dL_law_1406 ?_
  refine sv_lor dL_law_1407 ?_
  refine sv_aload_n dL_law_1408 rfl ?_
  refine sv_iload dL_law_1409 rfl ?_
  refine sv_iconst (nI 3) dL_law_1411 rfl ?_
  refine sv_iadd dL_law_1412 ?_
  refine sv_top (nI (4 * j + 3)) (nI_add _ _) ?_
  refine sl_ld dL_law_1413 (lin (by omega) hL) ?_ hb
  refine sv_top (xs (4 * j + 3)) (by rw [nI_clamp (by omega)]) ?_
  refine sv_invV (As := [.long ((xs (4 * j + 1)).toInt64 <<< ((nI 32).toInt64 &&& 63) ||| (xs (4 * j + 2)).toInt64 &&& 4294967295), .int (xs (4 * j + 3))]) (rest := []) sc_L_169 (hr _ (m + 493)) rfl rfl (Nat.le_of_ble_eq_true rfl) dL_law_1414 ⟨show d + 1 ≤ 12 by omega, show 8 + (9 + 11) + 30 * d ≤ 484 by omega⟩ ⟨show cells + 1 + 0 ≤ 641416 by omega, show slots + 6 + 0 ≤ 7171855 by omega⟩ (Nat.le_of_ble_eq_true rfl) om_0 (List.cons_ne_nil _ _) rfl (fun w1 h1 q => ?_) (fun E h1 q => by obtain ⟨q1, -⟩ := q; cases q1)
  obtain ⟨q1, F2, X2, A2, S2, L2, rfl, qF, ql⟩ := q
  cases q1
  show sm_V G _ _ _ (cells + 1) (slots + 6) 1417 _ [.int a] _
  refine sv_istore (lv' := [(6, .int a), (5, .int (nI k)), (0, .ref b), (1, .ref m), (2, .ref (m + 493)), (3, .ref (m + 504)), (4, .int (nI (4 * j)))]) dL_law_1417 (by decide) rfl ?_
  refine sv_aload_n dL_law_1419 rfl ?_
  refine sv_callV (As := []) (rest := []) sc_L_96 c6_thrown rfl rfl (Nat.le_of_ble_eq_true rfl) dL_law_1420 ⟨by decide, by decide⟩ ⟨show cells + 1 ≤ 641416 by omega, show slots + 6 ≤ 7171855 by omega⟩ (Nat.le_of_ble_eq_true rfl) om_0 (List.cons_ne_nil _ _) rfl ?_
  show sm_V G _ _ _ (cells + 1) (slots + 6) 1423 _ [.int (F2 0)] _
  refine sv_top (nI k) qF ?_
  refine sv_iload dL_law_1423 rfl ?_
  refine sv_icmp_eq 1430 dL_law_1425 (by decide) (fun _ => ?_) (fun z => absurd rfl z)
  have kj : sm_V G mL_law room_1 (lZ (sm_B G) b L xs) (cells + 1) (slots + 6) 1447 [(6, .int a), (5, .int (nI k)), (0, .ref b), (1, .ref m), (2, .ref (m + 493)), (3, .ref (m + 504)), (4, .int (nI (4 * j)))] [] (sm_om G (mw G (lh0 G m O1) m (va_up V2 1 v1) R1 t2) (m + 493) F2 X2 (sm_as A2 S2) L2) := sv_goto 1562 dL_law_1447 (by decide) (sv_sub [2, 3, 4, 5, 6] rfl (join _ _ _ _ _ _ R1 t2 O1 (ql v1)))
  refine sv_iload dL_law_1430 rfl ?_
  refine sv_ifN_ne 1447 dL_law_1432 (by decide) (by omega) (fun _ => kj) (fun hk0 => ?_)
  refine sv_aload_n dL_law_1435 rfl ?_
  refine sv_iconst (nI 0) dL_law_1436 rfl ?_
  refine sv_laload dL_law_1437 (lh_o (V := va_up V2 1 v1) (R := R1) (t := t2) (O := O1)) (show ¬ (nI 0 < 0 ∨ 1 ≤ (nI 0).toNatClampNeg) by decide) ?_
  refine sv_topl a.toInt64 (q4 hk0) ?_
  refine sv_iload dL_law_1438 rfl ?_
  refine sv_i2l dL_law_1440 ?_
  refine sv_lcmp dL_law_1441 ?_
  exact sv_if_eq 1447 dL_law_1442 (by decide) (fun _ => kj) (fun z => absurd (lcmp0 _) z)
theorem lw_c22 (hl : lc K F X A S LL V n B c x f) (hK : K + 60000 < 2 ^ 26) (h12 : 12 ≤ K) (hj : 4 * j + 4 ≤ L) (hL : L ≤ 2048) (hb : b < sm_B G) (hm : 0 < m) (hc : cells + 1 ≤ 641416) (hs : slots + 6 ≤ 7171855) (join : lJ G b L xs m j K cells slots) : sm_V G mL_law room_1 (lZ (sm_B G) b L xs) cells slots 1450 [(0, .ref b), (1, .ref m), (2, .ref (m + 493)), (3, .ref (m + 504)), (4, .int (nI (4 * j)))] [] (lh G m F X (sm_as A S) LL V R (n, B, c, x, f) O) := by
  obtain ⟨k, a, V2, t2, d, hk, hd, hx, hr⟩ := lp_save (G := G) hl hK h12 (xs (4 * j + 1))
  refine sv_aload_n dL_law_1450 rfl ?_
  refine sv_aload_n dL_law_1451 rfl ?_
  refine sv_iload dL_law_1452 rfl ?_
  refine sv_iconst (nI 1) dL_law_1454 rfl ?_
  refine sv_iadd dL_law_1455 ?_
  refine sv_top (nI (4 * j + 1)) (nI_add _ _) ?_
  refine sl_ld dL_law_1456 (lin (by omega) hL) ?_ hb
  refine sv_top (xs (4 * j + 1)) (by rw [nI_clamp (by omega)]) ?_
  refine sv_aload_n dL_law_1457 rfl ?_
  refine sv_heap lh_m ?_
  refine sv_invSH (As := [.ref m, .int (xs (4 * j + 1)), .ref (m + 504)]) (rest := []) sc_L_170 (hx _ m (m + 504) R O (lh_z hm) hm lh_1 (.inr (by omega))) rfl rfl (Nat.le_of_ble_eq_true rfl) dL_law_1458 ⟨by decide, by decide⟩ ⟨show cells + 1 ≤ 641416 from hc, show slots + 6 ≤ 7171855 from hs⟩ (Nat.le_of_ble_eq_true rfl) (fun w1 h1 q => ?_) (fun E h1 q => by obtain ⟨q1, -⟩ := q; cases q1)
  obtain ⟨q1, v1, R1, O1, rfl, q4⟩ := q
  cases q1
  show sm_V G _ _ _ (cells + 1) (slots + 6) 1461 _ [.int (nI k)] _
  refine sv_heap lh_m2 ?_
  refine sv_istore (lv' := [(5, .int (nI k)), (0, .ref b), (1, .ref m), (2, .ref (m + 493)), (3, .ref (m + 504)), (4, .int (nI (4 * j)))]) dL_law_1461 (by decide) rfl ?_
  show sm_V G _ _ _ _ _ _ _ _ (sm_om G (mw G (lh0 G m O1) m (va_up V2 1 v1) R1 t2) (m + 493) F X (sm_as A S) LL)
  refine sv_aload_n dL_law_1463 rfl ?_
  refine sv_aload_n dL_law_1464 rfl ?_
  refine sv_iload dL_law_1465 rfl ?_
  refine sv_iconst (nI 1) dL_law_1467 rfl ?_
  refine sv_iadd dL_law_1468 ?_
  refine sv_top (nI (4 * j + 1)) (nI_add _ _) ?_
  refine sl_ld dL_law_1469 (lin (by omega) hL) ?_ hb
  refine sv_top (xs (4 * j + 1)) (by rw [nI_clamp (by omega)]) ?_
  refine sv_invV (As := [.int (xs (4 * j + 1))]) (rest := []) sc_L_172 (hr _ (m + 493)) rfl rfl (Nat.le_of_ble_eq_true rfl) dL_law_1470 ⟨show d + 1 ≤ 12 by omega, show 8 + (3 + 11) + 30 * d ≤ 484 by omega⟩ ⟨show cells + 1 + 0 ≤ 641416 by omega, show slots + 6 + 0 ≤ 7171855 by omega⟩ (Nat.le_of_ble_eq_true rfl) om_0 (List.cons_ne_nil _ _) rfl (fun w1 h1 q => ?_) (fun E h1 q => by obtain ⟨q1, -⟩ := q; cases q1)
  obtain ⟨q1, F2, X2, A2, S2, L2, rfl, qF, ql⟩ := q
  cases q1
  show sm_V G _ _ _ (cells + 1) (slots + 6) 1473 _ [.int a] _
  refine sv_istore (lv' := [(6, .int a), (5, .int (nI k)), (0, .ref b), (1, .ref m), (2, .ref (m + 493)), (3, .ref (m + 504)), (4, .int (nI (4 * j)))]) dL_law_1473 (by decide) rfl ?_
  refine sv_aload_n dL_law_1475 rfl ?_
  refine sv_callV (As := []) (rest := []) sc_L_96 c6_thrown rfl rfl (Nat.le_of_ble_eq_true rfl) dL_law_1476 ⟨by decide, by decide⟩ ⟨show cells + 1 ≤ 641416 by omega, show slots + 6 ≤ 7171855 by omega⟩ (Nat.le_of_ble_eq_true rfl) om_0 (List.cons_ne_nil _ _) rfl ?_
  show sm_V G _ _ _ (cells + 1) (slots + 6) 1479 _ [.int (F2 0)] _
  refine sv_top (nI k) qF ?_
  refine sv_iload dL_law_1479 rfl ?_
  refine sv_icmp_eq 1486 dL_law_1481 (by decide) (fun _ => ?_) (fun z => absurd rfl z)
  have kj : sm_V G mL_law room_1 (lZ (sm_B G) b L xs) (cells + 1) (slots + 6) 1503 [(6, .int a), (5, .int (nI k)), (0, .ref b), (1, .ref m), (2, .ref (m + 493)), (3, .ref (m + 504)), (4, .int (nI (4 * j)))] [] (sm_om G (mw G (lh0 G m O1) m (va_up V2 1 v1) R1 t2) (m + 493) F2 X2 (sm_as A2 S2) L2) := sv_goto 1562 dL_law_1503 (by decide) (sv_sub [2, 3, 4, 5, 6] rfl (join _ _ _ _ _ _ R1 t2 O1 (ql v1)))
  refine sv_iload dL_law_1486 rfl ?_
  refine sv_ifN_ne 1503 dL_law_1488 (by decide) (by omega) (fun _ => kj) (fun hk0 => ?_)
  refine sv_aload_n dL_law_1491 rfl ?_
  refine sv_iconst (nI 0) dL_law_1492 rfl ?_
  refine sv_laload dL_law_1493 (lh_o (V := va_up V2 1 v1) (R := R1) (t := t2) (O := O1)) (show ¬ (nI 0 < 0 ∨ 1 ≤ (nI 0).toNatClampNeg) by decide) ?_
  refine sv_topl a.toInt64 (q4 hk0) ?_
  refine sv_iload dL_law_1494 rfl ?_
  refine sv_i2l dL_law_1496 ?_
  refine sv_lcmp dL_law_1497 ?_
  exact sv_if_eq 1503 dL_law_1498 (by decide) (fun _ => kj) (fun z => absurd (lcmp0 _) z)
theorem lw_c23 (hl : lc K F X A S LL V n B c x f) (hK : K + 60000 < 2 ^ 26) (h12 : 12 ≤ K) (hj : 4 * j + 4 ≤ L) (hL : L ≤ 2048) (hb : b < sm_B G) (hm : 0 < m) (hc : cells + 1 ≤ 641416) (hs : slots + 6 ≤ 7171855) (join : lJ G b L xs m j K cells slots) : sm_V G mL_law room_1 (lZ (sm_B G) b L xs) cells slots 1506 [(0, .ref b), (1, .ref m), (2, .ref (m + 493)), (3, .ref (m + 504)), (4, .int (nI (4 * j)))] [] (lh G m F X (sm_as A S) LL V R (n, B, c, x, f) O) := by
  obtain ⟨k, a, V2, t2, d, hk, hd, hx, hr⟩ := lp_restore (G := G) hl hK h12 (xs (4 * j + 1))
  refine sv_aload_n dL_law_1506 rfl ?_
  refine sv_aload_n dL_law_1507 rfl ?_
  refine sv_iload dL_law_1508 rfl ?_
  refine sv_iconst (nI 1) dL_law_1510 rfl ?_
  refine sv_iadd dL_law_1511 ?_
  refine sv_top (nI (4 * j + 1)) (nI_add _ _) ?_
  refine sl_ld dL_law_1512 (lin (by omega) hL) ?_ hb
  refine sv_top (xs (4 * j + 1)) (by rw [nI_clamp (by omega)]) ?_
  refine sv_aload_n dL_law_1513 rfl ?_
  refine sv_heap lh_m ?_
  refine sv_invSH (As := [.ref m, .int (xs (4 * j + 1)), .ref (m + 504)]) (rest := []) sc_L_173 (hx _ m (m + 504) R O (lh_z hm) hm lh_1 (.inr (by omega))) rfl rfl (Nat.le_of_ble_eq_true rfl) dL_law_1514 ⟨by decide, by decide⟩ ⟨show cells + 1 ≤ 641416 from hc, show slots + 6 ≤ 7171855 from hs⟩ (Nat.le_of_ble_eq_true rfl) (fun w1 h1 q => ?_) (fun E h1 q => by obtain ⟨q1, -⟩ := q; cases q1)
  obtain ⟨q1, v1, R1, O1, rfl, q4⟩ := q
  cases q1
  show sm_V G _ _ _ (cells + 1) (slots + 6) 1517 _ [.int (nI k)] _
  refine sv_heap lh_m2 ?_
  refine sv_istore (lv' := [(5, .int (nI k)), (0, .ref b), (1, .ref m), (2, .ref (m + 493)), (3, .ref (m + 504)), (4, .int (nI (4 * j)))]) dL_law_1517 (by decide) rfl ?_
  show sm_V G _ _ _ _ _ _ _ _ (sm_om G (mw G (lh0 G m O1) m (va_up V2 1 v1) R1 t2) (m + 493) F X (sm_as A S) LL)
  refine sv_aload_n dL_law_1519 rfl ?_
  refine sv_aload_n dL_law_1520 rfl ?_
  refine sv_iload dL_law_1521 rfl ?_
  refine sv_iconst (nI 1) dL_law_1523 rfl ?_
  refine sv_iadd dL_law_1524 ?_
  refine sv_top (nI (4 * j + 1)) (nI_add _ _) ?_
  refine sl_ld dL_law_1525 (lin (by omega) hL) ?_ hb
  refine sv_top (xs (4 * j + 1)) (by rw [nI_clamp (by omega)]) ?_
  refine sv_invV (As := [.int (xs (4 * j + 1))]) (rest := []) sc_L_175 (hr _ (m + 493)) rfl rfl (Nat.le_of_ble_eq_true rfl) dL_law_1526 ⟨show d + 1 ≤ 12 by omega, show 8 + (3 + 11) + 30 * d ≤ 484 by omega⟩ ⟨show cells + 1 + 0 ≤ 641416 by omega, show slots + 6 + 0 ≤ 7171855 by omega⟩ (Nat.le_of_ble_eq_true rfl) om_0 (List.cons_ne_nil _ _) rfl (fun w1 h1 q => ?_) (fun E h1 q => by obtain ⟨q1, -⟩ := q; cases q1)
  obtain ⟨q1, F2, X2, A2, S2, L2, rfl, qF, ql⟩ := q
  cases q1
  show sm_V G _ _ _ (cells + 1) (slots + 6) 1529 _ [.int a] _
  refine sv_istore (lv' := [(6, .int a), (5, .int (nI k)), (0, .ref b), (1, .ref m), (2, .ref (m + 493)), (3, .ref (m + 504)), (4, .int (nI (4 * j)))]) dL_law_1529 (by decide) rfl ?_
  refine sv_aload_n dL_law_1531 rfl ?_
  refine sv_callV (As := []) (rest := []) sc_L_96 c6_thrown rfl rfl (Nat.le_of_ble_eq_true rfl) dL_law_1532 ⟨by decide, by decide⟩ ⟨show cells + 1 ≤ 641416 by omega, show slots + 6 ≤ 7171855 by omega⟩ (Nat.le_of_ble_eq_true rfl) om_0 (List.cons_ne_nil _ _) rfl ?_
  show sm_V G _ _ _ (cells + 1) (slots + 6) 1535 _ [.int (F2 0)] _
  refine sv_top (nI k) qF ?_
  refine sv_iload dL_law_1535 rfl ?_
  refine sv_icmp_eq 1542 dL_law_1537 (by decide) (fun _ => ?_) (fun z => absurd rfl z)
  have kj : sm_V G mL_law room_1 (lZ (sm_B G) b L xs) (cells + 1) (slots + 6) 1559 [(6, .int a), (5, .int (nI k)), (0, .ref b), (1, .ref m), (2, .ref (m + 493)), (3, .ref (m + 504)), (4, .int (nI (4 * j)))] [] (sm_om G (mw G (lh0 G m O1) m (va_up V2 1 v1) R1 t2) (m + 493) F2 X2 (sm_as A2 S2) L2) := sv_goto 1562 dL_law_1559 (by decide) (sv_sub [2, 3, 4, 5, 6] rfl (join _ _ _ _ _ _ R1 t2 O1 (ql v1)))
  refine sv_iload dL_law_1542 rfl ?_
  refine sv_ifN_ne 1559 dL_law_1544 (by decide) (by omega) (fun _ => kj) (fun hk0 => ?_)
  refine sv_aload_n dL_law_1547 rfl ?_
  refine sv_iconst (nI 0) dL_law_1548 rfl ?_
  refine sv_laload dL_law_1549 (lh_o (V := va_up V2 1 v1) (R := R1) (t := t2) (O := O1)) (show ¬ (nI 0 < 0 ∨ 1 ≤ (nI 0).toNatClampNeg) by decide) ?_
  refine sv_topl a.toInt64 (q4 hk0) ?_
  refine sv_iload dL_law_1550 rfl ?_
  refine sv_i2l dL_law_1552 ?_
  refine sv_lcmp dL_law_1553 ?_
  exact sv_if_eq 1559 dL_law_1554 (by decide) (fun _ => kj) (fun z => absurd (lcmp0 _) z)
end CLD
