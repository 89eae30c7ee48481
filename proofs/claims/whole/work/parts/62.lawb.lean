def R_law : String := "SaltMarketLaw"
def lw_P (b : Addr) (xs : List Int32) (args : Array Value) (s : State) : Prop := args = #[.ref b] ∧ s.IntsAt b xs ∧ xs.length ≤ 2048 ∧ (Jvm.Cond.and given_1 narrow_1).before args s = true
def lw_Q (_ : Array Value) (s : State) (o : Outcome) (t : State) : Prop := o = .returned (some (.int 1)) ∧ Framed s o t [] 641416 7171855
def lw_Z (below : List Frame) (a : Array Value) (s : State) : State → Prop := fun t => ∃ o, t.status = .running ∧ Ended t below o ∧ lw_Q a s o t
/-- the law's own end, with 1 on the stack, nothing written that was there before, its room as the claim has it -/
theorem lw_ret {p : Program} {l : Launch} {e : Env} {s : State} {m : MethodId} {below : List Frame} {meth : Method} {c : Code} {b : Nat} (hx : p.tables.exec = Jvm.exec) (hb : c.code = code) (hr : meth.sig.returnType = ret) (hlocks : meth.locks = false) {pc : Nat} {H : Heap} {ls : Array Slot} (hdg : decode code pc = .ok (.ireturn, 1)) : W p l e room_1 s m #[Value.ref b] below meth c H [] 641416 7171855 (lw_Z below #[Value.ref b] s) (F0 m pc ls [.int 1]) := by
  intro T hT X
  obtain ⟨fs, hret, hrun, hended, hW, hframe⟩ := X.leave (v := some (.int 1)) (hlocks := hlocks) (fun h => by rw [hr] at h; cases h)
  have hmeth' : T.vm.method? m = some meth := X.method'
  refine ⟨T.setFrames fs, ?_, .returned (some (.int 1)), hrun, hended, rfl, ⟨_, rfl⟩, hW, hframe⟩
  jvm_step X.here [X.here.top, hx, hb, hdg, hmeth', hr, ret, narrow_b1]
  (try refine ⟨rfl, ?_⟩); (try refine ⟨rfl, ?_⟩)
  first | (intro acts; rw [hret _ acts rfl rfl rfl]) | rw [hret _ _ rfl rfl rfl]
  exact Steps.refl _
/-- what holds at the law's entry: the machine, the code, the tables' words (any of lw_tbl by 'hts w (by decide +kernel)'), the script of L ints xs at the cell b, what the Statement gives of the start (any of its parts by flat_of_before) -/
def lw_At (p : Program) (s : State) (m : MethodId) (meth : Method) (c : Code) (b L : Nat) (xs : Nat → Int32) : Prop :=
  p.tables.exec = Jvm.exec ∧ c.code = code ∧ meth.sig.returnType = ret ∧ c.maxLocals = 7 ∧ s.vm.findClass R_law = some m.cls ∧ (∀ w ∈ lw_tbl, w.before #[Value.ref b] s = true) ∧ va_X b L xs s s.heap ∧ b < s.heap.size ∧ meth.locks = false ∧ (Jvm.Cond.and given_1 narrow_1).before #[Value.ref b] s = true
section CLB
variable {G : sm_G} {h : sm_H} {m mo b L cells slots pc : Nat} {xs : Nat → Int32} {lv : List (Nat × Value)} {st : List Value} {F F2 : Nat → Int32} {X X2 : Nat → Int64} {A A2 : Nat → Nat → Int32} {LL L2 : Nat → Nat → Int64} {V V2 : mw_V} {R R2 : mw_R} {t t2 : mw_T} {O O2 : Nat → Int64}
/-- the law's own end, where its argument is the script -/
def lZ (B b L : Nat) (xs : Nat → Int32) : sm_Z := fun below args s T => (args = #[.ref b] ∧ va_X b L xs s s.heap ∧ B = s.heap.size) → lw_Z below args s T
theorem sl_W {p : Program} {e : Env} {s : State} {mm : MethodId} {args : Array Value} {below : List Frame} {meth : Method} {c : Code} {H : Heap} {locs : List Loc} {g : JFrame} {l : Launch}
    {B : Nat} (k : args = #[.ref b] ∧ va_X b L xs s s.heap ∧ B = s.heap.size → W p l e room_1 s mm args below meth c H locs cells slots (lZ B b L xs below args s) g) : W p l e room_1 s mm args below meth c H locs cells slots (lZ B b L xs below args s) g := by
  intro T hT X9
  by_cases φ : args = #[.ref b] ∧ va_X b L xs s s.heap ∧ B = s.heap.size
  · exact k φ T hT X9
  · exact ⟨_, Steps.refl _, fun z => absurd z φ⟩
theorem sl_ld {i : Int32} (hd : decode cL_law pc = .ok (.iaload, 1)) (hin : vp_in i L) (k : sm_V G mL_law room_1 (lZ (sm_B G) b L xs) cells slots (pc + 1) lv (.int (xs i.toNatClampNeg) :: st) h) (hb : b < sm_B G) : sm_V G mL_law room_1 (lZ (sm_B G) b L xs) cells slots pc lv (.int i :: .ref b :: st) h := by
  intro p e s mm args below meth c H locs ls E hS hR hl
  refine sl_W (fun φ => ?_)
  exact va_sld (A := sm_A G) E.1 E.2.1 φ.2.1 (by rw [← φ.2.2]; exact hb) (fun z => Nat.not_le.mpr hb z) hS hin hd (k p e s mm args below meth c H locs ls E hS hR hl)
theorem sl_len (hd : decode cL_law pc = .ok (.arraylength, 1)) (k : sm_V G mL_law room_1 (lZ (sm_B G) b L xs) cells slots (pc + 1) lv (.int (nI L) :: st) h) (hb : b < sm_B G) : sm_V G mL_law room_1 (lZ (sm_B G) b L xs) cells slots pc lv (.ref b :: st) h := by
  intro p e s mm args below meth c H locs ls E hS hR hl
  refine sl_W (fun φ => ?_)
  exact va_slen (A := sm_A G) E.1 E.2.1 φ.2.1 (by rw [← φ.2.2]; exact hb) (fun z => Nat.not_le.mpr hb z) hS hd (k p e s mm args below meth c H locs ls E hS hR hl)
theorem sl_ret (hd : decode cL_law pc = .ok (.ireturn, 1)) (hc : cells ≤ 641416) (hs : slots ≤ 7171855) : sm_V G mL_law room_1 (lZ (sm_B G) b L xs) cells slots pc lv [.int 1] h := by
  intro p e s mm args below meth c H locs ls E hS hR hl
  refine sl_W (fun φ => ?_)
  obtain ⟨rfl, -, hB⟩ := φ
  intro T hT X9
  obtain ⟨t, a1, b1⟩ := (va_forget (fun q hq => by have := hS.2.2 q hq; rw [← hB]; exact this) (W.widen hc hs (lw_ret E.1 E.2.1 E.2.2.1 E.2.2.2.2.2.2.1 hd))) T hT X9
  exact ⟨t, a1, fun _ => b1⟩
theorem sl_fg (k : sm_V G mL_law room_1 (lZ (sm_B G) b L xs) cells slots pc lv st (sm_fg h)) : sm_V G mL_law room_1 (lZ (sm_B G) b L xs) cells slots pc lv st h := by
  intro p e s mm args below meth c H locs ls E hS hR hl
  exact k p e s mm args below meth c H locs ls E hS (sm_R_kept hR (fun q _ => rfl)) hl
/-! the law's heap: the script's array aside, the market at m, the reference behind it, the answer's array behind that -/
theorem om_out (hb : b < m ∨ m + 11 ≤ b) : sm_om G h m F X A LL b = h b := by
  unfold sm_om; (repeat' split) <;> first | rfl | omega
theorem om_cg {h2 : sm_H} (e : h b = h2 b) : sm_om G h m F X A LL b = sm_om G h2 m F X A LL b := by
  unfold sm_om; rw [e]
theorem mw_cg {h2 : sm_H} (e : h b = h2 b) : mw G h m V R t b = mw G h2 m V R t b := by
  unfold mw; split
  · exact e
  · rfl
theorem om_mw : sm_om G (mw G h m V R t) (m + 493) F X A LL = mw G (sm_om G h (m + 493) F X A LL) m V R t := by
  funext a
  by_cases ha : a < m ∨ m + 493 ≤ a
  · rw [mw_out ha]; exact om_cg (mw_out ha)
  · rw [om_out (by omega)]
    unfold mw
    rw [if_neg ha, if_neg ha]
theorem om_up {e : va_E} (ho : mo < m ∨ m + 11 ≤ mo) : sm_up (sm_om G h m F X A LL) mo e = sm_om G (sm_up h mo e) m F X A LL := by
  funext a
  by_cases ha : a = mo
  · subst ha
    rw [om_out ho]; unfold sm_up; rw [if_pos rfl, if_pos rfl]
  · unfold sm_up
    rw [if_neg ha]
    exact om_cg (by rw [if_neg ha])
theorem up_up9 {e e2 : va_E} : sm_up (sm_up h mo e) mo e2 = sm_up h mo e2 := by
  funext a; unfold sm_up; split <;> rfl
def lh0 (G : sm_G) (m : Nat) (O : Nat → Int64) : sm_H := sm_up (fun _ => none) (m + 504) (sm_aj G 1 O)
/-- as the reference sees it -/
def lh (G : sm_G) (m : Nat) (F : Nat → Int32) (X : Nat → Int64) (A : Nat → Nat → Int32) (LL : Nat → Nat → Int64) (V : mw_V) (R : mw_R) (t : mw_T) (O : Nat → Int64) : sm_H := sm_om G (mw G (lh0 G m O) m V R t) (m + 493) F X A LL
/-- as the market sees it -/
theorem lh_m : lh G m F X A LL V R t O = mw G (sm_om G (lh0 G m O) (m + 493) F X A LL) m V R t := om_mw
theorem lh_m2 : mw G (sm_up (sm_om G (lh0 G m O) (m + 493) F X A LL) (m + 504) (sm_aj G 1 O2)) m V R t = lh G m F X A LL V R t O2 := by
  rw [om_up (by omega)]
  unfold lh0
  rw [up_up9]
  exact om_mw.symm
theorem lh_o : lh G m F X A LL V R t O (m + 504) = some (sm_aj G 1 O) := by
  unfold lh
  rw [om_out (by omega), mw_out (by omega)]
  unfold lh0 sm_up
  rw [if_pos rfl]
theorem lh_1 : sm_om G (lh0 G m O) (m + 493) F X A LL (m + 504) = some (sm_aj G 1 O) := by
  rw [om_out (by omega)]; unfold lh0 sm_up; rw [if_pos rfl]
theorem lh_z (hm : 0 < m) : sm_om G (lh0 G m O) (m + 493) F X A LL 0 = none := by
  rw [om_out (by omega)]; unfold lh0 sm_up; rw [if_neg (by omega)]
/-- the heap once all is made -/
theorem lh_new {N : Nat} {h2 : sm_H} (hm : 0 < m) (hz : ∀ a, a ≠ 0 → h2 a = none) : sm_fg (sm_nw (sm_om G (sm_sz (mw G h2 m V R t) N) (m + 493) F X A LL) (m + 504) (sm_aj G 1 O)) = lh G m F X A LL V R t O := by
  funext a
  unfold sm_fg sm_nw
  by_cases h0 : a = 0
  · subst h0
    rw [if_pos rfl]
    unfold lh
    rw [om_out (by omega), mw_out (by omega)]
    unfold lh0 sm_up
    rw [if_neg (by omega)]
  · rw [if_neg h0, if_neg h0]
    by_cases h1 : a = m + 504
    · subst h1; rw [if_pos rfl]; exact lh_o.symm
    · rw [if_neg h1]
      unfold lh
      refine om_cg ?_
      show (if a = 0 then some (.inr (N, [])) else mw G h2 m V R t a) = mw G (lh0 G m O) m V R t a
      rw [if_neg h0]
      refine mw_cg ?_
      rw [hz a h0]; unfold lh0 sm_up; rw [if_neg h1]
end CLB
