section CMW
variable {G : sm_G} {M : sm_M} {R0 : Room} {Z : sm_Z} {cells slots pc index : Nat} {lv : List (Nat × Value)} {st : List Value} {h : sm_H} {m b i k n v g a : Nat} {f f2 : Nat → va_E} {S S2 : gm_S} {x x2 : Int64} {Pt P2 : Nat → Nat} {B B2 : Nat → Int32}
abbrev mw_V : Type := Nat → gm_S × Int64
abbrev mw_R : Type := Nat → (Nat → Nat) × (Nat → Int32)
/-- the signs' number, the signs, how many states are remembered, where the next one goes, whether a slot is filled -/
abbrev mw_T : Type := Nat × (Nat → Nat) × Nat × Nat × (Nat → Nat)
def mw_a (m k : Nat) : Nat := if k < 2 then m + 3 + 27 * k else if k < 16 then m + 59 + 27 * (k - 2) else m + 439 + 27 * (k - 16)
def mw_ra (n b : Nat) : Nat → Option Nat := fun i => if i < n then some (b + 27 * i) else none
def mw_fi (f : Nat → Nat) : Nat → Int32 := fun i => if i < 2 then nI (b2n (decide (f i ≠ 0))) else 0
def mw_e (G : sm_G) (a : Nat) (v : gm_S × Int64) (r : (Nat → Nat) × (Nat → Int32)) (o : Nat) : va_E := cl_gc G a v.1 v.2 r.1 r.2 o
def mw_c (G : sm_G) (m : Nat) (V : mw_V) (R : mw_R) (t : mw_T) (o : Nat) : va_E :=
  if o = 0 then .inr (5, [.ref (m + 1), .ref (m + 3), .ref (m + 30), .ref (m + 57), .ref (m + 437), .ref (m + 438)])
  else if o = 1 then .inr (4, cl_tf (m + 1) t.1) else if o = 2 then sm_ac G 120 (cl_tg t.2.1)
  else if o < 57 then mw_e G (m + 3 + 27 * ((o - 3) / 27)) (V ((o - 3) / 27)) (R ((o - 3) / 27)) ((o - 3) % 27)
  else if o = 57 then .inr (1, [.ref (m + 58), .int (nI t.2.2.1), .int (nI t.2.2.2.1)])
  else if o = 58 then sm_ar G 6 14 (mw_ra 14 (m + 59))
  else if o < 437 then mw_e G (m + 59 + 27 * ((o - 59) / 27)) (V (2 + (o - 59) / 27)) (R (2 + (o - 59) / 27)) ((o - 59) % 27)
  else if o = 437 then sm_ar G 6 2 (mw_ra 2 (m + 439))
  else if o = 438 then sm_az G 2 (mw_fi t.2.2.2.2)
  else mw_e G (m + 439 + 27 * ((o - 439) / 27)) (V (16 + (o - 439) / 27)) (R (16 + (o - 439) / 27)) ((o - 439) % 27)
/-- the market at m -/
def mw (G : sm_G) (h : sm_H) (m : Nat) (V : mw_V) (R : mw_R) (t : mw_T) : sm_H := fun b => if b < m ∨ m + 493 ≤ b then h b else some (mw_c G m V R t (b - m))
section MW
variable {V V2 : mw_V} {R R2 : mw_R} {t t2 : mw_T}
theorem mw_at {o : Nat} (ho : o < 493) : mw G h m V R t (m + o) = some (mw_c G m V R t o) := by
  unfold mw; rw [if_neg (by omega), Nat.add_sub_cancel_left]
theorem mw_out (hb : b < m ∨ m + 493 ≤ b) : mw G h m V R t b = h b := if_pos hb
theorem mw_0 : mw G h m V R t m = some (.inr (5, [.ref (m + 1), .ref (m + 3), .ref (m + 30), .ref (m + 57), .ref (m + 437), .ref (m + 438)])) := mw_at (o := 0) (by omega)
theorem mw_t : cl_ht G (mw G h m V R t) (m + 1) t.1 t.2.1 := ⟨mw_at (o := 1) (by omega), mw_at (o := 2) (by omega)⟩
theorem mw_h : mw G h m V R t (m + 57) = some (.inr (1, [.ref (m + 58), .int (nI t.2.2.1), .int (nI t.2.2.2.1)])) := mw_at (o := 57) (by omega)
theorem mw_s : mw G h m V R t (m + 58) = some (sm_ar G 6 14 (mw_ra 14 (m + 59))) := mw_at (o := 58) (by omega)
theorem mw_l : mw G h m V R t (m + 437) = some (sm_ar G 6 2 (mw_ra 2 (m + 439))) := mw_at (o := 437) (by omega)
theorem mw_f : mw G h m V R t (m + 438) = some (sm_az G 2 (mw_fi t.2.2.2.2)) := mw_at (o := 438) (by omega)
theorem mw_c1 {k o : Nat} (hk : k < 2) (ho : o < 27) : mw_c G m V R t (3 + 27 * k + o) = mw_e G (m + 3 + 27 * k) (V k) (R k) o := by
  unfold mw_c; rw [if_neg (by omega), if_neg (by omega), if_neg (by omega), if_pos (by omega), show (3 + 27 * k + o - 3) / 27 = k by omega, show (3 + 27 * k + o - 3) % 27 = o by omega]
theorem mw_c2 {k o : Nat} (hk : k < 14) (ho : o < 27) : mw_c G m V R t (59 + 27 * k + o) = mw_e G (m + 59 + 27 * k) (V (2 + k)) (R (2 + k)) o := by
  unfold mw_c; rw [if_neg (by omega), if_neg (by omega), if_neg (by omega), if_neg (by omega), if_neg (by omega), if_neg (by omega), if_pos (by omega), show (59 + 27 * k + o - 59) / 27 = k by omega, show (59 + 27 * k + o - 59) % 27 = o by omega]
theorem mw_c3 {k o : Nat} (ho : o < 27) : mw_c G m V R t (439 + 27 * k + o) = mw_e G (m + 439 + 27 * k) (V (16 + k)) (R (16 + k)) o := by
  unfold mw_c; rw [if_neg (by omega), if_neg (by omega), if_neg (by omega), if_neg (by omega), if_neg (by omega), if_neg (by omega), if_neg (by omega), if_neg (by omega), if_neg (by omega), show (439 + 27 * k + o - 439) / 27 = k by omega, show (439 + 27 * k + o - 439) % 27 = o by omega]
theorem mw_g1 (hk : k < 2) : cl_hg G (mw G h m V R t) (m + 3 + 27 * k) (V k).1 (V k).2 (R k).1 (R k).2 := fun o ho => by
  rw [show m + 3 + 27 * k + o = m + (3 + 27 * k + o) by omega, mw_at (by omega), mw_c1 hk ho]; rfl
theorem mw_gn : cl_hg G (mw G h m V R t) (m + 3) (V 0).1 (V 0).2 (R 0).1 (R 0).2 := mw_g1 (k := 0) (by omega)
theorem mw_gt : cl_hg G (mw G h m V R t) (m + 30) (V 1).1 (V 1).2 (R 1).1 (R 1).2 := mw_g1 (k := 1) (by omega)
theorem mw_gs (hk : k < 14) : cl_hg G (mw G h m V R t) (m + 59 + 27 * k) (V (2 + k)).1 (V (2 + k)).2 (R (2 + k)).1 (R (2 + k)).2 := fun o ho => by
  rw [show m + 59 + 27 * k + o = m + (59 + 27 * k + o) by omega, mw_at (by omega), mw_c2 hk ho]; rfl
theorem mw_gl (hk : k < 2) : cl_hg G (mw G h m V R t) (m + 439 + 27 * k) (V (16 + k)).1 (V (16 + k)).2 (R (16 + k)).1 (R (16 + k)).2 := fun o ho => by
  rw [show m + 439 + 27 * k + o = m + (439 + 27 * k + o) by omega, mw_at (by omega), mw_c3 ho]; rfl
theorem mw_a0 : mw_a m 0 = m + 3 := rfl
theorem mw_a1 : mw_a m 1 = m + 30 := rfl
theorem mw_as (hk : k < 14) : mw_a m (2 + k) = m + 59 + 27 * k := by unfold mw_a; rw [if_neg (by omega), if_pos (by omega), Nat.add_sub_cancel_left]
theorem mw_al : mw_a m (16 + k) = m + 439 + 27 * k := by unfold mw_a; rw [if_neg (by omega), if_neg (by omega), Nat.add_sub_cancel_left]
theorem mw_gk (hk : k < 18) : cl_hg G (mw G h m V R t) (mw_a m k) (V k).1 (V k).2 (R k).1 (R k).2 := by
  by_cases e : k < 2
  · have : mw_a m k = m + 3 + 27 * k := if_pos e
    rw [this]; exact mw_g1 e
  by_cases e2 : k < 16
  · obtain ⟨j, rfl⟩ : ∃ j, k = 2 + j := ⟨k - 2, by omega⟩
    rw [mw_as (by omega)]; exact mw_gs (by omega)
  · obtain ⟨j, rfl⟩ : ∃ j, k = 16 + j := ⟨k - 16, by omega⟩
    rw [mw_al]; exact mw_gl (by omega)
/-- what isn't in the game k isn't changed -/
theorem mw_c_o {k o : Nat} {vv : gm_S × Int64} {r : (Nat → Nat) × (Nat → Int32)} (hk : k < 18) (ho : o < 493) (hn : m + o < mw_a m k ∨ mw_a m k + 27 ≤ m + o) : mw_c G m V R t o = mw_c G m (va_up V k vv) (va_up R k r) t o := by
  unfold mw_a at hn
  unfold mw_c
  by_cases e0 : o = 0
  · rw [if_pos e0, if_pos e0]
  rw [if_neg e0, if_neg e0]
  by_cases e1 : o = 1
  · rw [if_pos e1, if_pos e1]
  rw [if_neg e1, if_neg e1]
  by_cases e2 : o = 2
  · rw [if_pos e2, if_pos e2]
  rw [if_neg e2, if_neg e2]
  by_cases e3 : o < 57
  · have : (o - 3) / 27 ≠ k := by intro e; (repeat' split at hn) <;> omega
    rw [if_pos e3, if_pos e3, up_ne this, up_ne this]
  rw [if_neg e3, if_neg e3]
  by_cases e4 : o = 57
  · rw [if_pos e4, if_pos e4]
  rw [if_neg e4, if_neg e4]
  by_cases e5 : o = 58
  · rw [if_pos e5, if_pos e5]
  rw [if_neg e5, if_neg e5]
  by_cases e6 : o < 437
  · have : 2 + (o - 59) / 27 ≠ k := by intro e; (repeat' split at hn) <;> omega
    rw [if_pos e6, if_pos e6, up_ne this, up_ne this]
  rw [if_neg e6, if_neg e6]
  by_cases e7 : o = 437
  · rw [if_pos e7, if_pos e7]
  rw [if_neg e7, if_neg e7]
  by_cases e8 : o = 438
  · rw [if_pos e8, if_pos e8]
  rw [if_neg e8, if_neg e8]
  have : 16 + (o - 439) / 27 ≠ k := by intro e; (repeat' split at hn) <;> omega
  rw [up_ne this, up_ne this]
theorem mw_a_in (hk : k < 18) : m ≤ mw_a m k ∧ mw_a m k + 27 ≤ m + 493 := by unfold mw_a; (repeat' split) <;> omega
theorem mw_w (hk : k < 18) : cl_g G (mw G h m V R t) (mw_a m k) S x Pt B = mw G h m (va_up V k (S, x)) (va_up R k (Pt, B)) t := by
  have ha := mw_a_in (m := m) hk
  funext b
  by_cases e : b < mw_a m k ∨ mw_a m k + 27 ≤ b
  · rw [gl_out e]; unfold mw; split
    · rfl
    · rw [mw_c_o hk (by omega) (by omega)]
  · obtain ⟨o, rfl⟩ : ∃ o, b = mw_a m k + o := ⟨b - mw_a m k, by omega⟩
    rw [gl_at (by omega), mw_gk (V := va_up V k (S, x)) (R := va_up R k (Pt, B)) hk o (by omega), up_eq, up_eq]
theorem mw_wt {n2 : Nat} {B2 : Nat → Nat} : cl_t G (mw G h m V R t) (m + 1) n2 B2 = mw G h m V R (n2, B2, t.2.2) := by
  funext b; unfold cl_t
  by_cases e : b = m + 1
  · rw [if_pos e, e]; exact (mw_at (h := h) (V := V) (R := R) (t := (n2, B2, t.2.2)) (o := 1) (by omega)).symm
  · rw [if_neg e]
    by_cases e2 : b = m + 1 + 1
    · rw [if_pos e2, e2]; exact (mw_at (h := h) (V := V) (R := R) (t := (n2, B2, t.2.2)) (o := 2) (by omega)).symm
    · rw [if_neg e2]; unfold mw; split
      · rfl
      · unfold mw_c
        by_cases e0 : b - m = 0
        · rw [if_pos e0, if_pos e0]
        · simp only [if_neg e0, if_neg (show ¬ b - m = 1 by omega), if_neg (show ¬ b - m = 2 by omega)]
theorem mw_up1 {o : Nat} {e : va_E} (ho : o = 57 ∨ o = 438) (he : e = mw_c G m V R t2 o) (ht : t.1 = t2.1 ∧ t.2.1 = t2.2.1) (h57 : o = 438 → t.2.2.1 = t2.2.2.1 ∧ t.2.2.2.1 = t2.2.2.2.1) (h438 : o = 57 → t.2.2.2.2 = t2.2.2.2.2) : sm_up (mw G h m V R t) (m + o) e = mw G h m V R t2 := by
  funext b; unfold sm_up
  by_cases e1 : b = m + o
  · rw [if_pos e1, e1, mw_at (by omega), he]
  · rw [if_neg e1]; unfold mw; split
    · rfl
    · unfold mw_c; rw [ht.1, ht.2]
      by_cases e5 : b - m = 57
      · have : o = 438 := by omega
        rw [(h57 this).1, (h57 this).2]
        by_cases e8 : b - m = 438
        · omega
        · simp only [if_neg e8]
      · simp only [if_neg e5]
        by_cases e8 : b - m = 438
        · rw [h438 (by omega)]
        · simp only [if_neg e8]
theorem kh_g0 (he : h a = some (.inr (1, [.ref b, .int (nI n), .int (nI v)]))) (hd : decode M.2.1 pc = .ok (.getfield index, 3)) (hw : sm_fl M.1.cls index 0 TX1) (k : sm_V G M R0 Z cells slots (pc + 3) lv (.ref b :: st) h) : sm_V G M R0 Z cells slots pc lv (.ref a :: st) h := sv_get sm_cl1 hd (k := 0) (by decide) hw he rfl k
theorem kh_g1 (he : h a = some (.inr (1, [.ref b, .int (nI n), .int (nI v)]))) (hd : decode M.2.1 pc = .ok (.getfield index, 3)) (hw : sm_fl M.1.cls index 1 TX1) (k : sm_V G M R0 Z cells slots (pc + 3) lv (.int (nI n) :: st) h) : sm_V G M R0 Z cells slots pc lv (.ref a :: st) h := sv_get sm_cl1 hd (k := 1) (by decide) hw he rfl k
theorem kh_g2 (he : h a = some (.inr (1, [.ref b, .int (nI n), .int (nI v)]))) (hd : decode M.2.1 pc = .ok (.getfield index, 3)) (hw : sm_fl M.1.cls index 2 TX1) (k : sm_V G M R0 Z cells slots (pc + 3) lv (.int (nI v) :: st) h) : sm_V G M R0 Z cells slots pc lv (.ref a :: st) h := sv_get sm_cl1 hd (k := 2) (by decide) hw he rfl k
theorem kh_p1 (hd : decode M.2.1 pc = .ok (.putfield index, 3)) (hw : sm_fl M.1.cls index 1 TX1) (k : sm_V G M R0 Z cells slots (pc + 3) lv st (mw G h m V R (t.1, t.2.1, v, t.2.2.2.1, t.2.2.2.2))) : sm_V G M R0 Z cells slots pc lv (.int (nI v) :: .ref (m + 57) :: st) (mw G h m V R t) := sv_put sm_cl1 hd (k := 1) (by decide) hw rfl mw_h (Nat.le_of_ble_eq_true rfl) rfl rfl (sv_heap (mw_up1 (t := t) (t2 := (t.1, t.2.1, v, t.2.2.2.1, t.2.2.2.2)) (o := 57) (.inl rfl) rfl ⟨rfl, rfl⟩ (fun e => by omega) (fun _ => rfl)) k)
theorem kh_p2 (hd : decode M.2.1 pc = .ok (.putfield index, 3)) (hw : sm_fl M.1.cls index 2 TX1) (k : sm_V G M R0 Z cells slots (pc + 3) lv st (mw G h m V R (t.1, t.2.1, t.2.2.1, v, t.2.2.2.2))) : sm_V G M R0 Z cells slots pc lv (.int (nI v) :: .ref (m + 57) :: st) (mw G h m V R t) := sv_put sm_cl1 hd (k := 2) (by decide) hw rfl mw_h (Nat.le_of_ble_eq_true rfl) rfl rfl (sv_heap (mw_up1 (t := t) (t2 := (t.1, t.2.1, t.2.2.1, v, t.2.2.2.2)) (o := 57) (.inl rfl) rfl ⟨rfl, rfl⟩ (fun e => by omega) (fun _ => rfl)) k)
theorem mw_ra_at (hi : i < n) : va_rf (mw_ra n b i) = .ref (b + 27 * i) := by unfold mw_ra; rw [if_pos hi]; rfl
theorem kh_ld (hd : decode M.2.1 pc = .ok (.aaload, 1)) (hi : i < 14) (k : sm_V G M R0 Z cells slots (pc + 1) lv (.ref (m + 59 + 27 * i) :: st) (mw G h m V R t)) : sm_V G M R0 Z cells slots pc lv (.int (nI i) :: .ref (m + 58) :: st) (mw G h m V R t) := sv_aaload6 hd mw_s (vp_in_nI hi (by omega)) (by rw [nI_clamp (by omega), mw_ra_at hi]; exact k)
theorem km_ld (hd : decode M.2.1 pc = .ok (.aaload, 1)) (hi : i < 2) (k : sm_V G M R0 Z cells slots (pc + 1) lv (.ref (m + 439 + 27 * i) :: st) (mw G h m V R t)) : sm_V G M R0 Z cells slots pc lv (.int (nI i) :: .ref (m + 437) :: st) (mw G h m V R t) := sv_aaload6 hd mw_l (vp_in_nI hi (by omega)) (by rw [nI_clamp (by omega), mw_ra_at hi]; exact k)
theorem km_ldf (hd : decode M.2.1 pc = .ok (.baload, 1)) (hi : i < 2) (k : sm_V G M R0 Z cells slots (pc + 1) lv (.int (nI (b2n (decide (t.2.2.2.2 i ≠ 0)))) :: st) (mw G h m V R t)) : sm_V G M R0 Z cells slots pc lv (.int (nI i) :: .ref (m + 438) :: st) (mw G h m V R t) := sv_baload hd mw_f (vp_in_nI hi (by omega)) (by rw [nI_clamp (by omega), show mw_fi t.2.2.2.2 i = nI (b2n (decide (t.2.2.2.2 i ≠ 0))) from if_pos hi]; exact k)
theorem vp_nb : ∀ v, v < 2 → vp_nar .boolean (nI v) = nI v := by decide
theorem km_stf (hv : v < 2) (hd : decode M.2.1 pc = .ok (.bastore, 1)) (hi : i < 2) (k : sm_V G M R0 Z cells slots (pc + 1) lv st (mw G h m V R (t.1, t.2.1, t.2.2.1, t.2.2.2.1, va_up t.2.2.2.2 i v))) : sm_V G M R0 Z cells slots pc lv (.int (nI v) :: .int (nI i) :: .ref (m + 438) :: st) (mw G h m V R t) := sv_bastore hd mw_f (vp_in_nI hi (by omega)) (by
  rw [nI_clamp (by omega), vp_nb v hv]
  refine sv_heap (mw_up1 (t := t) (t2 := (t.1, t.2.1, t.2.2.1, t.2.2.2.1, va_up t.2.2.2.2 i v)) (o := 438) (.inr rfl) ?_ ⟨rfl, rfl⟩ (fun _ => ⟨rfl, rfl⟩) (fun e => by omega)) k
  show sm_az G 2 _ = sm_az G 2 (mw_fi (va_up t.2.2.2.2 i v))
  have : upd (mw_fi t.2.2.2.2) i (nI v) = mw_fi (va_up t.2.2.2.2 i v) := by
    funext j; unfold upd mw_fi va_up
    by_cases e : j = i
    · rw [if_pos e, if_pos (by omega), if_pos e, b2n_ne hv]
    · rw [if_neg e, if_neg e]
  rw [this])
theorem km_g0 (hd : decode M.2.1 pc = .ok (.getfield index, 3)) (hw : sm_fl M.1.cls index 0 TX5) (k : sm_V G M R0 Z cells slots (pc + 3) lv (.ref (m + 1) :: st) (mw G h m V R t)) : sm_V G M R0 Z cells slots pc lv (.ref m :: st) (mw G h m V R t) := sv_get sm_cl5 hd (k := 0) (by decide) hw mw_0 rfl k
theorem km_g1 (hd : decode M.2.1 pc = .ok (.getfield index, 3)) (hw : sm_fl M.1.cls index 1 TX5) (k : sm_V G M R0 Z cells slots (pc + 3) lv (.ref (m + 3) :: st) (mw G h m V R t)) : sm_V G M R0 Z cells slots pc lv (.ref m :: st) (mw G h m V R t) := sv_get sm_cl5 hd (k := 1) (by decide) hw mw_0 rfl k
theorem km_g2 (hd : decode M.2.1 pc = .ok (.getfield index, 3)) (hw : sm_fl M.1.cls index 2 TX5) (k : sm_V G M R0 Z cells slots (pc + 3) lv (.ref (m + 30) :: st) (mw G h m V R t)) : sm_V G M R0 Z cells slots pc lv (.ref m :: st) (mw G h m V R t) := sv_get sm_cl5 hd (k := 2) (by decide) hw mw_0 rfl k
theorem km_g3 (hd : decode M.2.1 pc = .ok (.getfield index, 3)) (hw : sm_fl M.1.cls index 3 TX5) (k : sm_V G M R0 Z cells slots (pc + 3) lv (.ref (m + 57) :: st) (mw G h m V R t)) : sm_V G M R0 Z cells slots pc lv (.ref m :: st) (mw G h m V R t) := sv_get sm_cl5 hd (k := 3) (by decide) hw mw_0 rfl k
theorem km_g4 (hd : decode M.2.1 pc = .ok (.getfield index, 3)) (hw : sm_fl M.1.cls index 4 TX5) (k : sm_V G M R0 Z cells slots (pc + 3) lv (.ref (m + 437) :: st) (mw G h m V R t)) : sm_V G M R0 Z cells slots pc lv (.ref m :: st) (mw G h m V R t) := sv_get sm_cl5 hd (k := 4) (by decide) hw mw_0 rfl k
theorem km_g5 (hd : decode M.2.1 pc = .ok (.getfield index, 3)) (hw : sm_fl M.1.cls index 5 TX5) (k : sm_V G M R0 Z cells slots (pc + 3) lv (.ref (m + 438) :: st) (mw G h m V R t)) : sm_V G M R0 Z cells slots pc lv (.ref m :: st) (mw G h m V R t) := sv_get sm_cl5 hd (k := 5) (by decide) hw mw_0 rfl k
/-- a contract whose end says less -/
theorem sm_Cm {M2 : sm_M} {d mc ms : Nat} {As : List Value} {Q Q2 : sm_Q} (hc : sm_C G M2 d mc ms As h Q) (hq : ∀ r1 h1, Q r1 h1 → Q2 r1 h1) : sm_C G M2 d mc ms As h Q2 := by
  intro p e s mm args below meth c H locs ls E hS hR hl T hT X
  obtain ⟨T2, a1, o, b1, b2, b3⟩ := hc p e s mm args below meth c H locs ls E hS hR hl T hT X
  refine ⟨T2, a1, o, b1, b2, ?_⟩
  rcases b3 with ⟨⟨⟨v, h', c1, c2, c3⟩, c4⟩, c5⟩ | ⟨q, c0, E9, ce, L, ⟨⟨h', c1, c2⟩, c3⟩, c4⟩
  · exact .inl ⟨⟨⟨v, h', c1, hq _ _ c2, c3⟩, c4⟩, c5⟩
  · exact .inr ⟨q, c0, E9, ce, L, ⟨⟨h', hq _ _ c1, c2⟩, c3⟩, c4⟩
/-! a game's contracts at the market -/
section MF
variable {M2 : sm_M} {d : Nat} {As : List Value} {r : sm_O} {vv : Option Value} {F : (Nat → Nat) → (Nat → Int32) → sm_H} {φ : (Nat → Nat) → (Nat → Int32) → Prop}
theorem mf_r (H : cl_hg G h g S x Pt B) (hc : sm_F G M2 d As (cl_g G h g S x Pt B) r (cl_g G h g S x Pt B)) : sm_F G M2 d As h r h := by
  rw [← hg_self H] at hc; exact hc
theorem mf_w (hk : k < 18) (ha : a = mw_a m k) (hc : sm_F G M2 d As (cl_g G (mw G h m V R t) a (V k).1 (V k).2 (R k).1 (R k).2) r (cl_g G (mw G h m V R t) a S x Pt B)) : sm_F G M2 d As (mw G h m V R t) r (mw G h m (va_up V k (S, x)) (va_up R k (Pt, B)) t) := by
  subst ha
  rw [← hg_self (mw_gk hk), mw_w hk] at hc; exact hc
/-- what the market comes to; the games' rubbish isn't told -/
def mQ (G : sm_G) (h : sm_H) (m : Nat) (o : sm_O) (V : mw_V) (t : mw_T) : sm_Q := fun r1 h1 => r1 = o ∧ ∃ R, h1 = mw G h m V R t
theorem mQi {o r1 : sm_O} {h1 : sm_H} (R : mw_R) (e : r1 = o) (e2 : h1 = mw G h m V R t) : mQ G h m o V t r1 h1 := ⟨e, R, e2⟩
theorem mf_q (hk : k < 18) (ha : a = mw_a m k) (hF : ∀ P B, ∃ P' B', F P B = cl_g G (mw G h m V R t) a S x P' B') (hc : sm_C G M2 d 0 0 As (cl_g G (mw G h m V R t) a (V k).1 (V k).2 (R k).1 (R k).2) (cl_Q vv F φ)) : sm_C G M2 d 0 0 As (mw G h m V R t) (mQ G h m (.inl vv) (va_up V k (S, x)) t) := by
  subst ha
  rw [← hg_self (mw_gk hk)] at hc
  refine sm_Cm hc (fun r1 h1 q => ?_)
  obtain ⟨e, P', B', e2, -⟩ := q
  obtain ⟨P9, B9, e3⟩ := hF P' B'
  exact ⟨e, va_up R k (P9, B9), by rw [e2, e3, mw_w hk]⟩
end MF
end MW
theorem k1_forget {V : mw_V} {R : mw_R} {t : mw_T}  : sm_F G mX1_forget 0 [.ref (m + 57)] (mw G h m V R t) (.inl none) (mw G h m V R (t.1, t.2.1, 0, t.2.2.2.1, t.2.2.2.2)) := by
  unfold sm_F sm_C
  show sm_V G _ _ _ 0 0 0 [(0, .ref (m + 57))] [] _
  refine sv_aload_n dX1_forget_0 rfl ?_
  refine sv_iconst (nI 0) dX1_forget_1 (by decide) ?_
  refine kh_p1 dX1_forget_2 sf_X1_15 ?_
  refine sv_vret dX1_forget_5 rfl (Nat.le_refl _) (Nat.le_refl _) ?_
  exact ⟨rfl, rfl⟩
/-- where the next one goes -/
def mw_nx (k : Nat) : Nat := if k + 1 < 14 then k + 1 else 0
def mw_pv (k : Nat) : Nat := if 0 < k then k - 1 else 13
def mw_ct (k : Nat) : Nat := if k < 14 then k + 1 else k
def mw_rem (V : mw_V) (t : mw_T) : mw_V := va_up V (2 + t.2.2.2.1) (V 0)
def mw_remT (t : mw_T) : mw_T := (t.1, t.2.1, mw_ct t.2.2.1, mw_nx t.2.2.2.1, t.2.2.2.2)
def mw_remR (R : mw_R) (t : mw_T) : mw_R := va_up R (2 + t.2.2.2.1) ((R (2 + t.2.2.2.1)).1, (R (2 + t.2.2.2.1)).2)
theorem mw_cp {V : mw_V} {R : mw_R} {t : mw_T} (hi : i < 14) : sm_F G mX0_copyFrom 1 [.ref (m + 59 + 27 * i), .ref (m + 3)] (mw G h m V R t) (.inl none) (mw G h m (va_up V (2 + i) (V 0)) (va_up R (2 + i) ((R (2 + i)).1, (R (2 + i)).2)) t) :=
  mf_w (k := 2 + i) (by omega) (mw_as hi).symm (k0_copyFrom mw_gn (by omega))
theorem mw_cb {V : mw_V} {R : mw_R} {t : mw_T} (hi : i < 14) : sm_F G mX0_copyFrom 1 [.ref (m + 3), .ref (m + 59 + 27 * i)] (mw G h m V R t) (.inl none) (mw G h m (va_up V 0 (V (2 + i))) (va_up R 0 ((R 0).1, (R 0).2)) t) :=
  mf_w (k := 0) (by omega) rfl (k0_copyFrom (mw_gs hi) (by omega))
theorem mw_ls {V : mw_V} {R : mw_R} {t : mw_T} (hi : i < 2) : sm_F G mX0_copyFrom 1 [.ref (m + 439 + 27 * i), .ref (m + 3)] (mw G h m V R t) (.inl none) (mw G h m (va_up V (16 + i) (V 0)) (va_up R (16 + i) ((R (16 + i)).1, (R (16 + i)).2)) t) :=
  mf_w (k := 16 + i) (by omega) mw_al.symm (k0_copyFrom mw_gn (by omega))
theorem mw_lr {V : mw_V} {R : mw_R} {t : mw_T} (hi : i < 2) : sm_F G mX0_copyFrom 1 [.ref (m + 3), .ref (m + 439 + 27 * i)] (mw G h m V R t) (.inl none) (mw G h m (va_up V 0 (V (16 + i))) (va_up R 0 ((R 0).1, (R 0).2)) t) :=
  mf_w (k := 0) (by omega) rfl (k0_copyFrom (mw_gl hi) (by omega))
theorem mw_ct_n {V : mw_V} {R : mw_R} {t : mw_T} : sm_F G mX0_copyFrom 1 [.ref (m + 30), .ref (m + 3)] (mw G h m V R t) (.inl none) (mw G h m (va_up V 1 (V 0)) (va_up R 1 ((R 1).1, (R 1).2)) t) :=
  mf_w (k := 1) (by omega) rfl (k0_copyFrom mw_gn (by omega))
theorem k1_remember {V : mw_V} {R : mw_R} {t : mw_T} (hx : t.2.2.2.1 < 14) (hc : t.2.2.1 ≤ 14) : sm_F G mX1_remember 2 [.ref (m + 57), .ref (m + 3)] (mw G h m V R t) (.inl none) (mw G h m (mw_rem V t) (mw_remR R t) (mw_remT t)) := by
  unfold sm_F sm_C
  show sm_V G _ _ _ 0 0 0 [(0, .ref (m + 57)), (1, .ref (m + 3))] [] _
  refine sv_aload_n dX1_remember_0 rfl ?_
  refine kh_g0 mw_h dX1_remember_1 sf_X1_11 ?_
  refine sv_aload_n dX1_remember_4 rfl ?_
  refine kh_g2 mw_h dX1_remember_5 sf_X1_19 ?_
  refine kh_ld dX1_remember_8 (by omega) ?_
  refine sv_aload_n dX1_remember_9 rfl ?_
  refine sv_callV (As := [_]) sc_X1_23 (mw_cp hx) rfl rfl (Nat.le_of_ble_eq_true rfl) dX1_remember_10 ⟨by decide, by decide⟩ ⟨Nat.le_refl _, Nat.le_refl _⟩ (Nat.le_of_ble_eq_true rfl) (hg_0 (mw_gs hx)) (List.cons_ne_nil _ _) rfl ?_
  refine sv_aload_n dX1_remember_13 rfl ?_
  refine sv_aload_n dX1_remember_14 rfl ?_
  refine kh_g2 mw_h dX1_remember_15 sf_X1_19 ?_
  refine sv_iconst (nI 1) dX1_remember_18 (by decide) ?_
  refine sv_iaddN dX1_remember_19 ?_
  refine sv_bipush (nI 14) dX1_remember_20 (by decide) ?_
  refine sv_icmpN_ge 34 dX1_remember_22 (by decide) (by omega) (by omega) (fun c_22 => ?_) (fun c_22 => ?_)
  · refine sv_iconst (nI 0) dX1_remember_34 (by decide) ?_
    refine sv_top (nI (mw_nx t.2.2.2.1)) (congrArg nI (by unfold mw_nx; first | rw [if_pos (by omega)] | rw [if_neg (by omega)])) ?_
    refine kh_p2 dX1_remember_35 sf_X1_19 ?_
    refine sv_aload_n dX1_remember_38 rfl ?_
    refine kh_g1 mw_h dX1_remember_39 sf_X1_15 ?_
    refine sv_top (nI t.2.2.1) (rfl) ?_
    refine sv_bipush (nI 14) dX1_remember_42 (by decide) ?_
    refine sv_icmpN_ge 57 dX1_remember_44 (by decide) (by omega) (by omega) (fun c_44 => ?_) (fun c_44 => ?_)
    · refine sv_vret dX1_remember_57 rfl (Nat.le_refl _) (Nat.le_refl _) ?_
      first | exact ⟨rfl, by unfold mw_remT mw_ct; rw [if_pos (by omega)]; rfl⟩ | exact ⟨rfl, by unfold mw_remT mw_ct; rw [if_neg (by omega)]; rfl⟩
    · refine sv_aload_n dX1_remember_47 rfl ?_
      refine sv_dup dX1_remember_48 rfl ?_
      refine kh_g1 mw_h dX1_remember_49 sf_X1_15 ?_
      refine sv_top (nI t.2.2.1) (rfl) ?_
      refine sv_iconst (nI 1) dX1_remember_52 (by decide) ?_
      refine sv_iaddN dX1_remember_53 ?_
      refine kh_p1 dX1_remember_54 sf_X1_15 ?_
      refine sv_vret dX1_remember_57 rfl (Nat.le_refl _) (Nat.le_refl _) ?_
      first | exact ⟨rfl, by unfold mw_remT mw_ct; rw [if_pos (by omega)]; rfl⟩ | exact ⟨rfl, by unfold mw_remT mw_ct; rw [if_neg (by omega)]; rfl⟩
  · refine sv_aload_n dX1_remember_25 rfl ?_
    refine kh_g2 mw_h dX1_remember_26 sf_X1_19 ?_
    refine sv_iconst (nI 1) dX1_remember_29 (by decide) ?_
    refine sv_iaddN dX1_remember_30 ?_
    refine sv_goto 35 dX1_remember_31 (by decide) ?_
    refine sv_top (nI (mw_nx t.2.2.2.1)) (congrArg nI (by unfold mw_nx; first | rw [if_pos (by omega)] | rw [if_neg (by omega)])) ?_
    refine kh_p2 dX1_remember_35 sf_X1_19 ?_
    refine sv_aload_n dX1_remember_38 rfl ?_
    refine kh_g1 mw_h dX1_remember_39 sf_X1_15 ?_
    refine sv_top (nI t.2.2.1) (rfl) ?_
    refine sv_bipush (nI 14) dX1_remember_42 (by decide) ?_
    refine sv_icmpN_ge 57 dX1_remember_44 (by decide) (by omega) (by omega) (fun c_44 => ?_) (fun c_44 => ?_)
    · refine sv_vret dX1_remember_57 rfl (Nat.le_refl _) (Nat.le_refl _) ?_
      first | exact ⟨rfl, by unfold mw_remT mw_ct; rw [if_pos (by omega)]; rfl⟩ | exact ⟨rfl, by unfold mw_remT mw_ct; rw [if_neg (by omega)]; rfl⟩
    · refine sv_aload_n dX1_remember_47 rfl ?_
      refine sv_dup dX1_remember_48 rfl ?_
      refine kh_g1 mw_h dX1_remember_49 sf_X1_15 ?_
      refine sv_top (nI t.2.2.1) (rfl) ?_
      refine sv_iconst (nI 1) dX1_remember_52 (by decide) ?_
      refine sv_iaddN dX1_remember_53 ?_
      refine kh_p1 dX1_remember_54 sf_X1_15 ?_
      refine sv_vret dX1_remember_57 rfl (Nat.le_refl _) (Nat.le_refl _) ?_
      first | exact ⟨rfl, by unfold mw_remT mw_ct; rw [if_pos (by omega)]; rfl⟩ | exact ⟨rfl, by unfold mw_remT mw_ct; rw [if_neg (by omega)]; rfl⟩
def mw_bkT (t : mw_T) : mw_T := (t.1, t.2.1, t.2.2.1 - 1, mw_pv t.2.2.2.1, t.2.2.2.2)
theorem mw_pv_lt {k : Nat} (h : k < 14) : mw_pv k < 14 := by unfold mw_pv; split <;> omega
theorem mw_nx_lt {k : Nat} : mw_nx k < 14 := by unfold mw_nx; split <;> omega
theorem k1_takeBack {V : mw_V} {R : mw_R} {t : mw_T} (hx : t.2.2.2.1 < 14) (hc : t.2.2.1 ≤ 14) (h0 : 0 < t.2.2.1) : sm_F G mX1_takeBack 2 [.ref (m + 57), .ref (m + 3)] (mw G h m V R t) (.inl none) (mw G h m (va_up V 0 (V (2 + mw_pv t.2.2.2.1))) (va_up R 0 ((R 0).1, (R 0).2)) (mw_bkT t)) := by
  unfold sm_F sm_C
  show sm_V G _ _ _ 0 0 0 [(0, .ref (m + 57)), (1, .ref (m + 3))] [] _
  refine sv_aload_n dX1_takeBack_0 rfl ?_
  refine kh_g1 mw_h dX1_takeBack_1 sf_X1_15 ?_
  refine sv_ifN_ne 8 dX1_takeBack_4 (by decide) (by omega) (fun c_4 => ?_) (fun c_4 => absurd c_4 (by omega))
  refine sv_aload_n dX1_takeBack_8 rfl ?_
  refine sv_aload_n dX1_takeBack_9 rfl ?_
  refine kh_g2 mw_h dX1_takeBack_10 sf_X1_19 ?_
  refine sv_ifN_le 25 dX1_takeBack_13 (by decide) (by omega) (fun c_13 => ?_) (fun c_13 => ?_)
  · refine sv_bipush (nI 13) dX1_takeBack_25 (by decide) ?_
    refine sv_top (nI (mw_pv t.2.2.2.1)) (congrArg nI (by unfold mw_pv; first | rw [if_pos (by omega)] | rw [if_neg (by omega)])) ?_
    refine kh_p2 dX1_takeBack_27 sf_X1_19 ?_
    refine sv_aload_n dX1_takeBack_30 rfl ?_
    refine sv_dup dX1_takeBack_31 rfl ?_
    refine kh_g1 mw_h dX1_takeBack_32 sf_X1_15 ?_
    refine sv_iconst (nI 1) dX1_takeBack_35 (by decide) ?_
    refine sv_isubN dX1_takeBack_36 (by show 1 ≤ t.2.2.1; omega) ?_
    refine kh_p1 dX1_takeBack_37 sf_X1_15 ?_
    refine sv_aload_n dX1_takeBack_40 rfl ?_
    refine sv_aload_n dX1_takeBack_41 rfl ?_
    refine kh_g0 mw_h dX1_takeBack_42 sf_X1_11 ?_
    refine sv_aload_n dX1_takeBack_45 rfl ?_
    refine kh_g2 mw_h dX1_takeBack_46 sf_X1_19 ?_
    refine kh_ld dX1_takeBack_49 (mw_pv_lt hx) ?_
    refine sv_callV (As := [_]) sc_X1_23 (mw_cb (mw_pv_lt hx)) rfl rfl (Nat.le_of_ble_eq_true rfl) dX1_takeBack_50 ⟨by decide, by decide⟩ ⟨Nat.le_refl _, Nat.le_refl _⟩ (Nat.le_of_ble_eq_true rfl) (hg_0 mw_gn) (List.cons_ne_nil _ _) rfl ?_
    refine sv_vret dX1_takeBack_53 rfl (Nat.le_refl _) (Nat.le_refl _) ?_
    exact ⟨rfl, rfl⟩
  · refine sv_aload_n dX1_takeBack_16 rfl ?_
    refine kh_g2 mw_h dX1_takeBack_17 sf_X1_19 ?_
    refine sv_iconst (nI 1) dX1_takeBack_20 (by decide) ?_
    refine sv_isubN dX1_takeBack_21 (by omega) ?_
    refine sv_goto 27 dX1_takeBack_22 (by decide) ?_
    refine sv_top (nI (mw_pv t.2.2.2.1)) (congrArg nI (by unfold mw_pv; first | rw [if_pos (by omega)] | rw [if_neg (by omega)])) ?_
    refine kh_p2 dX1_takeBack_27 sf_X1_19 ?_
    refine sv_aload_n dX1_takeBack_30 rfl ?_
    refine sv_dup dX1_takeBack_31 rfl ?_
    refine kh_g1 mw_h dX1_takeBack_32 sf_X1_15 ?_
    refine sv_iconst (nI 1) dX1_takeBack_35 (by decide) ?_
    refine sv_isubN dX1_takeBack_36 (by show 1 ≤ t.2.2.1; omega) ?_
    refine kh_p1 dX1_takeBack_37 sf_X1_15 ?_
    refine sv_aload_n dX1_takeBack_40 rfl ?_
    refine sv_aload_n dX1_takeBack_41 rfl ?_
    refine kh_g0 mw_h dX1_takeBack_42 sf_X1_11 ?_
    refine sv_aload_n dX1_takeBack_45 rfl ?_
    refine kh_g2 mw_h dX1_takeBack_46 sf_X1_19 ?_
    refine kh_ld dX1_takeBack_49 (mw_pv_lt hx) ?_
    refine sv_callV (As := [_]) sc_X1_23 (mw_cb (mw_pv_lt hx)) rfl rfl (Nat.le_of_ble_eq_true rfl) dX1_takeBack_50 ⟨by decide, by decide⟩ ⟨Nat.le_refl _, Nat.le_refl _⟩ (Nat.le_of_ble_eq_true rfl) (hg_0 mw_gn) (List.cons_ne_nil _ _) rfl ?_
    refine sv_vret dX1_takeBack_53 rfl (Nat.le_refl _) (Nat.le_refl _) ?_
    exact ⟨rfl, rfl⟩
def hw_f (G : sm_G) (b n : Nat) (o : Nat) : va_E := if o = 0 then .inr (1, [.ref (b + 1), .int 0, .int 0]) else if o = 1 then sm_ar G 6 14 (mw_ra n (b + 2)) else cl_gc G (b + 2 + 27 * ((o - 2) / 27)) nw_0S 0 nw_P nw_B ((o - 2) % 27)
theorem hw_at {b n i o : Nat} (ho : o < 27) : hw_f G b n (2 + 27 * i + o) = cl_gc G (b + (2 + 27 * i)) nw_0S 0 nw_P nw_B o := by
  unfold hw_f; rw [if_neg (by omega), if_neg (by omega), show (2 + 27 * i + o - 2) / 27 = i by omega, show (2 + 27 * i + o - 2) % 27 = o by omega, Nat.add_assoc]
theorem hw_m {b n : Nat} (hb : 0 < b) : sm_cs (sm_cs h b (2 + 27 * n) (hw_f G b n)) (b + (2 + 27 * n)) 27 (cl_gc G (b + (2 + 27 * n)) nw_0S 0 nw_P nw_B) = sm_cs h b (2 + 27 * n + 27) (hw_f G b n) :=
  cs_w hb (fun _ _ => rfl) (fun o ho => (hw_at ho).symm)
theorem mw_ra_s {b v n : Nat} (hn : n < 14) (hv : v = b + 27 * n) : va_up (mw_ra n b) (nI n).toNatClampNeg (some v) = mw_ra (n + 1) b := by
  subst hv; rw [nI_clamp (by omega)]; funext j; unfold va_up mw_ra
  by_cases e : j = n
  · rw [if_pos e, if_pos (by omega), e]
  · rw [if_neg e]; split
    · rw [if_pos (by omega)]
    · rw [if_neg (by omega)]
theorem mw_ra_0 {b : Nat} : mw_ra 0 b = fun _ => none := by funext j; unfold mw_ra; rw [if_neg (by omega)]
theorem hw_s {b n : Nat} (hb : 0 < b) (hn : n < 14) : sm_up (sm_cs h b (2 + 27 * n + 27) (hw_f G b n)) (b + 1) (sm_ar G 6 14 (va_up (mw_ra n (b + 2)) (nI n).toNatClampNeg (some (b + (2 + 27 * n))))) = sm_cs h b (2 + 27 * (n + 1)) (hw_f G b (n + 1)) := by
  rw [cs_up hb (by omega), mw_ra_s hn (by omega)]
  refine cs_eq (fun o ho => ?_)
  unfold va_up hw_f
  by_cases e : o = 1
  · rw [if_pos e, if_neg (by omega), if_pos e]
  · rw [if_neg e, if_neg e, if_neg e]
theorem hw_g0 {b n i : Nat} : hw_f G b n (2 + 27 * i) = .inr (0, cl_gf (b + (2 + 27 * i)) nw_0S 0 nw_B) := hw_at (o := 0) (by omega)
theorem k1_init (hm : 0 < m) : sm_C G mX1_init 3 379 1512 [.ref m] (sm_cs h m 1 (fun _ => .inr (1, nw_1))) (fun r1 h1 => r1 = .inl none ∧ h1 = sm_cs h m 380 (hw_f G m 14)) := by
  unfold sm_C
  show sm_V G _ _ _ 0 0 0 [(0, .ref m)] [] _
  refine sv_aload_n dX1_init_0 rfl ?_
  refine sv_objInit dX1_init_1 sj_X1_o sj_o1 sj_o2 (Nat.le_of_ble_eq_true rfl) (Nat.le_of_ble_eq_true rfl) ?_
  refine sv_aload_n dX1_init_4 rfl ?_
  refine sv_bipush (nI 14) dX1_init_5 (by decide) ?_
  refine kc_nq0 dX1_init_7 sk_X1_9 (by decide) (by first | exact Nat.le_of_ble_eq_true rfl | (show _ ≤ 379; omega)) (by first | exact Nat.le_of_ble_eq_true rfl | (show _ ≤ 1512; omega)) hm ?_
  refine kc_pF sm_cl1 (j := 0) dX1_init_10 (by decide) sf_X1_11 rfl rfl rfl rfl (Nat.le_of_ble_eq_true rfl) rfl rfl hm (by omega) ?_
  refine sv_aload_n dX1_init_13 rfl ?_
  refine sv_iconst (nI 0) dX1_init_14 (by decide) ?_
  refine kc_p sm_cl1 (j := 1) dX1_init_15 (by decide) sf_X1_15 rfl rfl (Nat.le_of_ble_eq_true rfl) rfl rfl hm (by omega) ?_
  refine sv_aload_n dX1_init_18 rfl ?_
  refine sv_iconst (nI 0) dX1_init_19 (by decide) ?_
  refine kc_p sm_cl1 (j := 2) dX1_init_20 (by decide) sf_X1_19 rfl rfl (Nat.le_of_ble_eq_true rfl) rfl rfl hm (by omega) ?_
  refine sv_iconst (nI 0) dX1_init_23 (by decide) ?_
  refine sv_istore_n (lv' := [(1, _), (0, _)]) dX1_init_24 (by decide) rfl ?_
  refine sv_heap (h' := sm_cs h m 2 (hw_f G m 0)) ?_ ?_
  · exact cs_eq (fun o ho => by
      rcases (show o = 0 ∨ o = 1 by omega) with rfl | rfl
      · rfl
      · exact congrArg (sm_ar G 6 14) mw_ra_0.symm)
  refine sv_wide (c2 := 1 + 27 * 0) (s2 := 14 + 107 * 0) (by decide) (by decide) (sv_sub [0, 1] rfl (sv_loopC (pc := 25) (lv := fun n => [(1, .int (nI n)), (0, .ref m)]) (hp := fun n => (sm_cs h m (2 + 27 * n) (hw_f G m n))) (cf := fun n => 1 + 27 * n) (sf := fun n => 14 + 107 * n) (N := 14) ?_ ?_))
  · skip
    show sm_V G _ _ _ (1 + 27 * 14) (14 + 107 * 14) _ [(1, .int (nI 14)), (0, .ref m)] [] (sm_cs h m (2 + 27 * 14) (hw_f G m 14))
    refine sv_iload_n dX1_init_25 rfl ?_
    refine sv_bipush (nI 14) dX1_init_26 (by decide) ?_
    refine sv_icmpN_ge 50 dX1_init_28 (by decide) (by omega) (by omega) (fun c_28 => ?_) (fun c_28 => absurd c_28 (by omega))
    refine sv_vret dX1_init_50 rfl (by first | exact Nat.le_of_ble_eq_true rfl | (show _ ≤ _; omega) | omega) (by first | exact Nat.le_of_ble_eq_true rfl | (show _ ≤ _; omega) | omega) ?_
    exact ⟨rfl, rfl⟩
  · intro n hn ih
    show sm_V G _ _ _ (1 + 27 * n) (14 + 107 * n) _ [(1, .int (nI n)), (0, .ref m)] [] (sm_cs h m (2 + 27 * n) (hw_f G m n))
    refine sv_iload_n dX1_init_25 rfl ?_
    refine sv_bipush (nI 14) dX1_init_26 (by decide) ?_
    refine sv_icmpN_ge 50 dX1_init_28 (by decide) (by omega) (by omega) (fun c_28 => absurd c_28 (by omega)) (fun c_28 => ?_)
    refine sv_aload_n dX1_init_31 rfl ?_
    refine kc_g sm_cl1 (j := 0) dX1_init_32 (by decide) sf_X1_11 rfl rfl hm (by omega) ?_
    refine sv_iload_n dX1_init_35 rfl ?_
    refine kc_new0 dX1_init_36 sk_X1_9 (by first | exact Nat.le_of_ble_eq_true rfl | (show _ ≤ 379; omega)) (by first | exact Nat.le_of_ble_eq_true rfl | (show _ ≤ 1512; omega)) hm ?_
    refine sv_dup dX1_init_39 rfl ?_
    refine sv_invI (As := []) sc_X1_22 (k0_init (m := m + (2 + 27 * n)) (by omega)) rfl rfl (Nat.le_of_ble_eq_true rfl) dX1_init_40 ⟨by decide, by decide⟩ ⟨(by first | exact Nat.le_of_ble_eq_true rfl | (show _ ≤ 379; omega)), (by first | exact Nat.le_of_ble_eq_true rfl | (show _ ≤ 1512; omega))⟩ (Nat.le_of_ble_eq_true rfl) (fun E h1 q => by obtain ⟨q1, -⟩ := q; cases q1) (fun v1 h1 q => ?_)
    obtain ⟨q1, rfl⟩ := q
    cases q1
    refine sv_heap (hw_m hm) ?_
    refine sv_aastore6 dX1_init_43 (cz_at (o := 1) hm (by omega)) ((cz_at (o := 2 + 27 * n) hm (by omega)).trans (congrArg some hw_g0)) (List.cons_ne_nil _ _) (vp_in_nI (by omega) (by omega)) ?_
    refine sv_heap (hw_s hm hn) ?_
    refine sv_iinc1 (lv' := [(1, _), (0, _)]) dX1_init_44 rfl (by decide) rfl ?_
    refine sv_goto 25 dX1_init_47 (by decide) ?_
    exact sv_sub [0, 1] rfl (sv_wide (by omega) (by omega) ih)
def mw_V0 : mw_V := fun _ => (nw_0S, 0)
def mw_R0 : mw_R := fun _ => (nw_P, nw_B)
def mw_T0 : mw_T := (0, nw_P, 0, 0, nw_P)
/-- the market in the making: its fields, its slots -/
def mi (G : sm_G) (m : Nat) (L : List Value) (n : Nat) (o : Nat) : va_E := if o = 0 then .inr (5, L) else if o = 437 then sm_ar G 6 2 (mw_ra n (m + 439)) else mw_c G m mw_V0 mw_R0 mw_T0 o
theorem mi_at {L : List Value} {n o : Nat} (h0 : 0 < o) (h1 : o ≠ 437) : mi G m L n o = mw_c G m mw_V0 mw_R0 mw_T0 o := by unfold mi; rw [if_neg (by omega), if_neg h1]
theorem mi_set {L L2 : List Value} {n k : Nat} : sm_cs h m k (va_up (mi G m L n) 0 (.inr (5, L2))) = sm_cs h m k (mi G m L2 n) := cs_eq (fun o ho => by
  unfold va_up mi
  by_cases e : o = 0
  · rw [if_pos e, if_pos e]
  · rw [if_neg e, if_neg e, if_neg e])
theorem mi_sz (hm : 0 < m) : sm_cs h m 493 (mi G m [.ref (m + 1), .ref (m + 3), .ref (m + 30), .ref (m + 57), .ref (m + 437), .ref (m + 438)] 2) = mw G (sm_sz h (m + 493)) m mw_V0 mw_R0 mw_T0 := by
  funext b; unfold sm_cs mw sm_sz
  by_cases e0 : b = 0
  · rw [if_pos e0, if_pos (by omega), if_pos e0]
  rw [if_neg e0]
  by_cases e1 : m ≤ b ∧ b < m + 493
  · rw [if_pos e1, if_neg (by omega)]
    unfold mi
    by_cases e2 : b - m = 0
    · rw [if_pos e2, e2]; rfl
    rw [if_neg e2]
    by_cases e3 : b - m = 437
    · rw [if_pos e3, e3]; rfl
    rw [if_neg e3]
  · rw [if_neg e1, if_pos (by omega), if_neg e0]
theorem mi_t {L : List Value} {n : Nat} (hm : 0 < m) : sm_cs (sm_cs h m 1 (mi G m L n)) (m + 1) 2 (nw_tf G (m + 1)) = sm_cs h m 3 (mi G m L n) :=
  cs_w hm (fun _ _ => rfl) (fun o ho => by
    rcases (show o = 0 ∨ o = 1 by omega) with rfl | rfl
    · exact (mi_at (o := 1) (by omega) (by omega)).symm
    · exact (mi_at (o := 2) (by omega) (by omega)).symm)
theorem mi_g {L : List Value} {n k : Nat} (hm : 0 < m) (hk : k < 2) : sm_cs (sm_cs h m (3 + 27 * k) (mi G m L n)) (m + (3 + 27 * k)) 27 (cl_gc G (m + (3 + 27 * k)) nw_0S 0 nw_P nw_B) = sm_cs h m (3 + 27 * k + 27) (mi G m L n) :=
  cs_w hm (fun _ _ => rfl) (fun o ho => by rw [mi_at (by omega) (by omega), mw_c1 hk ho, Nat.add_assoc]; rfl)
theorem mi_h {L : List Value} {n : Nat} (hm : 0 < m) : sm_cs (sm_cs h m 57 (mi G m L n)) (m + 57) 380 (hw_f G (m + 57) 14) = sm_cs h m 437 (mi G m L n) :=
  cs_w hm (fun _ _ => rfl) (fun o ho => by
    rw [mi_at (by omega) (by omega)]
    by_cases e0 : o = 0
    · subst e0; rfl
    by_cases e1 : o = 1
    · subst e1; rfl
    obtain ⟨i, j, rfl, hj⟩ : ∃ i j, o = 2 + 27 * i + j ∧ j < 27 := ⟨(o - 2) / 27, (o - 2) % 27, by omega, by omega⟩
    rw [hw_at hj, show 57 + (2 + 27 * i + j) = 59 + 27 * i + j by omega, mw_c2 (by omega) hj, show m + 57 + (2 + 27 * i) = m + 59 + 27 * i by omega]; rfl)
theorem mi_l {L : List Value} {n : Nat} (hm : 0 < m) : sm_cs (sm_cs h m (439 + 27 * n) (mi G m L n)) (m + (439 + 27 * n)) 27 (cl_gc G (m + (439 + 27 * n)) nw_0S 0 nw_P nw_B) = sm_cs h m (439 + 27 * n + 27) (mi G m L n) :=
  cs_w hm (fun _ _ => rfl) (fun o ho => by rw [mi_at (by omega) (by omega), mw_c3 ho, Nat.add_assoc]; rfl)
theorem mi_s {L : List Value} {n : Nat} (hm : 0 < m) (hn : n < 2) : sm_up (sm_cs h m (439 + 27 * n + 27) (mi G m L n)) (m + 437) (sm_ar G 6 2 (va_up (mw_ra n (m + 439)) (nI n).toNatClampNeg (some (m + (439 + 27 * n))))) = sm_cs h m (439 + 27 * (n + 1)) (mi G m L (n + 1)) := by
  rw [cs_up hm (by omega), mw_ra_s (by omega) (by omega)]
  refine cs_eq (fun o ho => ?_)
  unfold va_up mi
  by_cases e : o = 437
  · rw [if_pos e, if_neg (by omega), if_pos e]
  · rw [if_neg e, if_neg e, if_neg e]
theorem mi_l0 {L : List Value} {n k : Nat} : mi G m L n (439 + 27 * k) = .inr (0, cl_gf (m + 439 + 27 * k) nw_0S 0 nw_B) := by
  rw [mi_at (by omega) (by omega)]; exact mw_c3 (o := 0) (by omega)
theorem mi_fi : mw_fi nw_P = fun _ => 0 := by funext j; unfold mw_fi; split <;> rfl
theorem k5_init (hm : 0 < m) : sm_C G mX5_init 4 492 2069 [.ref m] (sm_cs h m 1 (fun _ => .inr (5, nw_5))) (fun r1 h1 => r1 = .inl none ∧ h1 = mw G (sm_sz h (m + 493)) m mw_V0 mw_R0 mw_T0) := by
  unfold sm_C
  show sm_V G _ _ _ 0 0 0 [(0, .ref m)] [] _
  refine sv_heap (h' := sm_cs h m 1 (mi G m nw_5 0)) (cs_eq (fun o ho => by rw [show o = 0 by omega]; rfl)) ?_
  refine sv_aload_n dX5_init_0 rfl ?_
  refine sv_objInit dX5_init_1 sj_X5_o sj_o1 sj_o2 (Nat.le_of_ble_eq_true rfl) (Nat.le_of_ble_eq_true rfl) ?_
  refine sv_aload_n dX5_init_4 rfl ?_
  refine kc_new4 dX5_init_5 sk_X5_7 (by first | exact Nat.le_of_ble_eq_true rfl | (show _ ≤ 492; omega)) (by first | exact Nat.le_of_ble_eq_true rfl | (show _ ≤ 2069; omega)) hm ?_
  refine sv_dup dX5_init_8 rfl ?_
  refine sv_invIN (As := []) sc_X5_9 (k4_init (m := m + 1) (by omega)) rfl rfl (Nat.le_of_ble_eq_true rfl) dX5_init_9 ⟨by decide, by decide⟩ ⟨(by first | exact Nat.le_of_ble_eq_true rfl | (show _ ≤ 492; omega)), (by first | exact Nat.le_of_ble_eq_true rfl | (show _ ≤ 2069; omega))⟩ (Nat.le_of_ble_eq_true rfl) (fun E h1 q => by obtain ⟨q1, -⟩ := q; cases q1) (fun v1 h1 q => ?_)
  obtain ⟨q1, rfl⟩ := q
  cases q1
  refine sv_heap (mi_t hm) ?_
  refine kc_pF sm_cl5 (j := 0) dX5_init_12 (by decide) sf_X5_10 rfl rfl rfl rfl (Nat.le_of_ble_eq_true rfl) rfl rfl hm (by omega) ?_
  refine sv_heap mi_set ?_
  refine sv_aload_n dX5_init_15 rfl ?_
  refine kc_new0 dX5_init_16 sk_X5_16 (by first | exact Nat.le_of_ble_eq_true rfl | (show _ ≤ 492; omega)) (by first | exact Nat.le_of_ble_eq_true rfl | (show _ ≤ 2069; omega)) hm ?_
  refine sv_dup dX5_init_19 rfl ?_
  refine sv_invI (As := []) sc_X5_18 (k0_init (m := m + 3) (by omega)) rfl rfl (Nat.le_of_ble_eq_true rfl) dX5_init_20 ⟨by decide, by decide⟩ ⟨(by first | exact Nat.le_of_ble_eq_true rfl | (show _ ≤ 492; omega)), (by first | exact Nat.le_of_ble_eq_true rfl | (show _ ≤ 2069; omega))⟩ (Nat.le_of_ble_eq_true rfl) (fun E h1 q => by obtain ⟨q1, -⟩ := q; cases q1) (fun v1 h1 q => ?_)
  obtain ⟨q1, rfl⟩ := q
  cases q1
  refine sv_heap (mi_g (k := 0) hm (by omega)) ?_
  refine kc_pF sm_cl5 (j := 1) dX5_init_23 (by decide) sf_X5_19 rfl rfl rfl rfl (Nat.le_of_ble_eq_true rfl) rfl rfl hm (by omega) ?_
  refine sv_heap mi_set ?_
  refine sv_aload_n dX5_init_26 rfl ?_
  refine kc_new0 dX5_init_27 sk_X5_16 (by first | exact Nat.le_of_ble_eq_true rfl | (show _ ≤ 492; omega)) (by first | exact Nat.le_of_ble_eq_true rfl | (show _ ≤ 2069; omega)) hm ?_
  refine sv_dup dX5_init_30 rfl ?_
  refine sv_invI (As := []) sc_X5_18 (k0_init (m := m + 30) (by omega)) rfl rfl (Nat.le_of_ble_eq_true rfl) dX5_init_31 ⟨by decide, by decide⟩ ⟨(by first | exact Nat.le_of_ble_eq_true rfl | (show _ ≤ 492; omega)), (by first | exact Nat.le_of_ble_eq_true rfl | (show _ ≤ 2069; omega))⟩ (Nat.le_of_ble_eq_true rfl) (fun E h1 q => by obtain ⟨q1, -⟩ := q; cases q1) (fun v1 h1 q => ?_)
  obtain ⟨q1, rfl⟩ := q
  cases q1
  refine sv_heap (mi_g (k := 1) hm (by omega)) ?_
  refine kc_pF sm_cl5 (j := 2) dX5_init_34 (by decide) sf_X5_23 rfl rfl rfl rfl (Nat.le_of_ble_eq_true rfl) rfl rfl hm (by omega) ?_
  refine sv_heap mi_set ?_
  refine sv_aload_n dX5_init_37 rfl ?_
  refine kc_new1 dX5_init_38 sk_X5_26 (by first | exact Nat.le_of_ble_eq_true rfl | (show _ ≤ 492; omega)) (by first | exact Nat.le_of_ble_eq_true rfl | (show _ ≤ 2069; omega)) hm ?_
  refine sv_dup dX5_init_41 rfl ?_
  refine sv_invI (As := []) sc_X5_28 (k1_init (m := m + 57) (by omega)) rfl rfl (Nat.le_of_ble_eq_true rfl) dX5_init_42 ⟨by decide, by decide⟩ ⟨(by first | exact Nat.le_of_ble_eq_true rfl | (show _ ≤ 492; omega)), (by first | exact Nat.le_of_ble_eq_true rfl | (show _ ≤ 2069; omega))⟩ (Nat.le_of_ble_eq_true rfl) (fun E h1 q => by obtain ⟨q1, -⟩ := q; cases q1) (fun v1 h1 q => ?_)
  obtain ⟨q1, rfl⟩ := q
  cases q1
  refine sv_heap (mi_h hm) ?_
  refine kc_pF sm_cl5 (j := 3) dX5_init_45 (by decide) sf_X5_29 rfl rfl rfl rfl (Nat.le_of_ble_eq_true rfl) rfl rfl hm (by omega) ?_
  refine sv_heap mi_set ?_
  refine sv_aload_n dX5_init_48 rfl ?_
  refine sv_iconst (nI 2) dX5_init_49 (by decide) ?_
  refine kc_nq0 dX5_init_50 sk_X5_16 (by decide) (by first | exact Nat.le_of_ble_eq_true rfl | (show _ ≤ 492; omega)) (by first | exact Nat.le_of_ble_eq_true rfl | (show _ ≤ 2069; omega)) hm ?_
  refine sv_heap (h' := sm_cs h m 438 (mi G m ((((nw_5.set 0 (.ref (m + 1))).set 1 (.ref (m + 3))).set 2 (.ref (m + 30))).set 3 (.ref (m + 57))) 0)) (cs_eq (fun o ho => by
    unfold va_up
    by_cases e : o = 437
    · rw [if_pos e, e]; exact congrArg (sm_ar G 6 2) mw_ra_0.symm
    · rw [if_neg e])) ?_
  refine kc_pF sm_cl5 (j := 4) dX5_init_53 (by decide) sf_X5_33 rfl rfl rfl rfl (Nat.le_of_ble_eq_true rfl) rfl rfl hm (by omega) ?_
  refine sv_heap mi_set ?_
  refine sv_aload_n dX5_init_56 rfl ?_
  refine sv_iconst (nI 2) dX5_init_57 (by decide) ?_
  refine kc_naz dX5_init_58 (by decide) (by first | exact Nat.le_of_ble_eq_true rfl | (show _ ≤ 492; omega)) (by first | exact Nat.le_of_ble_eq_true rfl | (show _ ≤ 2069; omega)) hm ?_
  refine sv_heap (h' := sm_cs h m 439 (mi G m (((((nw_5.set 0 (.ref (m + 1))).set 1 (.ref (m + 3))).set 2 (.ref (m + 30))).set 3 (.ref (m + 57))).set 4 (.ref (m + 437))) 0)) (cs_eq (fun o ho => by
    unfold va_up
    by_cases e : o = 438
    · rw [if_pos e, e]; exact congrArg (sm_az G 2) mi_fi.symm
    · rw [if_neg e])) ?_
  refine kc_pF sm_cl5 (j := 5) dX5_init_60 (by decide) sf_X5_37 rfl rfl rfl rfl (Nat.le_of_ble_eq_true rfl) rfl rfl hm (by omega) ?_
  refine sv_heap mi_set ?_
  refine sv_iconst (nI 0) dX5_init_63 (by decide) ?_
  refine sv_istore_n (lv' := [(1, _), (0, _)]) dX5_init_64 (by decide) rfl ?_
  refine sv_heap (h' := sm_cs h m 439 (mi G m [.ref (m + 1), .ref (m + 3), .ref (m + 30), .ref (m + 57), .ref (m + 437), .ref (m + 438)] 0)) rfl ?_
  refine sv_wide (c2 := 438 + 27 * 0) (s2 := 1855 + 107 * 0) (by decide) (by decide) (sv_sub [0, 1] rfl (sv_loopC (pc := 65) (lv := fun n => [(1, .int (nI n)), (0, .ref m)]) (hp := fun n => (sm_cs h m (439 + 27 * n) (mi G m [.ref (m + 1), .ref (m + 3), .ref (m + 30), .ref (m + 57), .ref (m + 437), .ref (m + 438)] n))) (cf := fun n => 438 + 27 * n) (sf := fun n => 1855 + 107 * n) (N := 2) ?_ ?_))
  · skip
    show sm_V G _ _ _ (438 + 27 * 2) (1855 + 107 * 2) _ [(1, .int (nI 2)), (0, .ref m)] [] (sm_cs h m (439 + 27 * 2) (mi G m [.ref (m + 1), .ref (m + 3), .ref (m + 30), .ref (m + 57), .ref (m + 437), .ref (m + 438)] 2))
    refine sv_iload_n dX5_init_65 rfl ?_
    refine sv_iconst (nI 2) dX5_init_66 (by decide) ?_
    refine sv_icmpN_ge 89 dX5_init_67 (by decide) (by omega) (by omega) (fun c_67 => ?_) (fun c_67 => absurd c_67 (by omega))
    refine sv_vret dX5_init_89 rfl (by first | exact Nat.le_of_ble_eq_true rfl | (show _ ≤ _; omega) | omega) (by first | exact Nat.le_of_ble_eq_true rfl | (show _ ≤ _; omega) | omega) ?_
    exact ⟨rfl, mi_sz hm⟩
  · intro n hn ih
    show sm_V G _ _ _ (438 + 27 * n) (1855 + 107 * n) _ [(1, .int (nI n)), (0, .ref m)] [] (sm_cs h m (439 + 27 * n) (mi G m [.ref (m + 1), .ref (m + 3), .ref (m + 30), .ref (m + 57), .ref (m + 437), .ref (m + 438)] n))
    refine sv_iload_n dX5_init_65 rfl ?_
    refine sv_iconst (nI 2) dX5_init_66 (by decide) ?_
    refine sv_icmpN_ge 89 dX5_init_67 (by decide) (by omega) (by omega) (fun c_67 => absurd c_67 (by omega)) (fun c_67 => ?_)
    refine sv_aload_n dX5_init_70 rfl ?_
    refine kc_g sm_cl5 (j := 4) dX5_init_71 (by decide) sf_X5_33 rfl rfl hm (by omega) ?_
    refine sv_iload_n dX5_init_74 rfl ?_
    refine kc_new0 dX5_init_75 sk_X5_16 (by first | exact Nat.le_of_ble_eq_true rfl | (show _ ≤ 492; omega)) (by first | exact Nat.le_of_ble_eq_true rfl | (show _ ≤ 2069; omega)) hm ?_
    refine sv_dup dX5_init_78 rfl ?_
    refine sv_invI (As := []) sc_X5_18 (k0_init (m := m + (439 + 27 * n)) (by omega)) rfl rfl (Nat.le_of_ble_eq_true rfl) dX5_init_79 ⟨by decide, by decide⟩ ⟨(by first | exact Nat.le_of_ble_eq_true rfl | (show _ ≤ 492; omega)), (by first | exact Nat.le_of_ble_eq_true rfl | (show _ ≤ 2069; omega))⟩ (Nat.le_of_ble_eq_true rfl) (fun E h1 q => by obtain ⟨q1, -⟩ := q; cases q1) (fun v1 h1 q => ?_)
    obtain ⟨q1, rfl⟩ := q
    cases q1
    refine sv_heap (mi_l hm) ?_
    refine sv_aastore6 dX5_init_82 (cz_at (o := 437) hm (by omega)) ((cz_at (o := 439 + 27 * n) hm (by omega)).trans (congrArg some mi_l0)) (List.cons_ne_nil _ _) (vp_in_nI (by omega) (by omega)) ?_
    refine sv_heap (mi_s hm hn) ?_
    refine sv_iinc1 (lv' := [(1, _), (0, _)]) dX5_init_83 rfl (by decide) rfl ?_
    refine sv_goto 65 dX5_init_86 (by decide) ?_
    exact sv_sub [0, 1] rfl (sv_wide (by omega) (by omega) ih)
end CMW
