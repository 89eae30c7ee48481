/-- from the entry, for every script of at most 2048 ints, the law comes to its end with true -/
theorem whole_start {p : Program} {e : Env} {s : State} {m : MethodId} {below : List Frame} {meth : Method} {c : Code} (l : Launch) (hflags : l.flags = flags0) (ht : c.exceptionTable.toList = []) (hnm : meth.name = "law") {b L : Nat} {xs : Nat → Int32} (hL : L ≤ 2048) (C0 : lw_At p s m meth c b L xs) : W p l e room_1 s m #[Value.ref b] below meth c s.heap [] 0 0 (lw_Z below #[Value.ref b] s) (entryFrame m ([Value.ref b] : List Value).toArray 7) := by
  obtain ⟨hx, hbc, hr, hml, hown, hts, hX, hbl, hlocks, hgv⟩ := id C0
  have h0 : 0 < s.heap.size := by omega
  obtain ⟨G, hG1, hG2, hGK⟩ := lw_K hflags hts hgv h0
  subst hG1
  have hb : b < sm_B G := by rw [hG2]; exact hbl
  obtain ⟨N, hN⟩ : ∃ N, s.heap.size = N := ⟨_, rfl⟩
  have hm : 0 < N := by omega
  have E : sm_E G mL_law p s m #[Value.ref b] meth c := ⟨hx, hbc, hr, hml, hown, fun w hw => hts w (sm_tbl_in w hw), hlocks, ht, hGK, Nat.le_of_eq hG2, hnm⟩
  have hR : sm_R G (fun a => if a = 0 then some (.inr (N, [])) else none) s.heap := by
    intro a e9 he
    have he : (if a = 0 then (some (.inr (N, [])) : Option va_E) else none) = some e9 := he
    by_cases ha : a = 0
    · rw [if_pos ha] at he; cases he
      exact ⟨fun _ => ⟨N, rfl, hN⟩, fun z => absurd ha z⟩
    · rw [if_neg ha] at he; cases he
  have key : sm_V G mL_law room_1 (lZ (sm_B G) b L xs) 0 0 0 [(0, .ref b)] [] (fun a => if a = 0 then some (.inr (N, [])) else none) := by
    refine sv_new (n := N) nw_5 sm_cl5 dL_law_0 (sm_tc ck_1_0_in 15 rfl rfl) (sm_tc ck_1_0_in 16 rfl rfl) (sm_tc ck_1_0_in 1 rfl rfl) nw_5_ok (Nat.le_of_ble_eq_true rfl) (Nat.le_of_ble_eq_true rfl) rfl ?_
    rw [cs_nw1 hm]
    refine sv_dup dL_law_3 rfl ?_
    refine sv_invI (As := []) (rest := [.ref N]) sc_L_86 (k5_init hm) rfl rfl (Nat.le_of_ble_eq_true rfl) dL_law_4 ⟨by decide, by decide⟩ ⟨Nat.le_of_ble_eq_true rfl, Nat.le_of_ble_eq_true rfl⟩ (Nat.le_of_ble_eq_true rfl) (fun E h1 q => by obtain ⟨q1, -⟩ := q; cases q1) (fun v h1 q => ?_)
    obtain ⟨q1, rfl⟩ := q
    cases q1
    show sm_V G _ _ _ 493 2075 7 _ [.ref N] _
    refine sv_astore_n (lv' := [(1, .ref N), (0, .ref b)]) dL_law_7 (by decide) rfl ?_
    refine sv_new (n := N + 493) nw_6 sm_cl6 dL_law_8 (sm_tc ck_4_2_in 14 rfl rfl) (sm_tc ck_4_2_in 15 rfl rfl) (sm_tc ck_1_0_in 7 rfl rfl) nw_6_ok (Nat.le_of_ble_eq_true rfl) (Nat.le_of_ble_eq_true rfl) ((mw_out (.inl hm)).trans rfl) ?_
    rw [cs_nw1 (by omega)]
    refine sv_dup dL_law_11 rfl ?_
    refine sv_invI (As := []) (rest := [.ref (N + 493)]) sc_L_89 (c6_init (by omega)) rfl rfl (Nat.le_of_ble_eq_true rfl) dL_law_12 ⟨by decide, by decide⟩ ⟨Nat.le_of_ble_eq_true rfl, Nat.le_of_ble_eq_true rfl⟩ (Nat.le_of_ble_eq_true rfl) (fun E h1 q => by obtain ⟨q1, -⟩ := q; cases q1) (fun v h1 q => ?_)
    obtain ⟨q1, rfl⟩ := q
    cases q1
    show sm_V G _ _ _ 504 3788 15 _ [.ref (N + 493)] _
    refine sv_astore_n (lv' := [(2, .ref (N + 493)), (1, .ref N), (0, .ref b)]) dL_law_15 (by decide) rfl ?_
    refine sv_iconst (nI 1) dL_law_16 rfl ?_
    refine sv_newa (N := 1) (n := N + 504) .long 1 (sm_aj G 1 (fun _ => 0)) dL_law_17 rfl rfl (sm_tc ck_4_5_in 7 rfl rfl) (by decide) (nI_clamp (by omega)) (by decide) (fun H e => e) (Nat.le_of_ble_eq_true rfl) (Nat.le_of_ble_eq_true rfl) ((om_out (.inl (by omega))).trans rfl) (fun U cA e => e) ?_
    refine sv_astore_n (lv' := [(3, .ref (N + 504)), (2, .ref (N + 493)), (1, .ref N), (0, .ref b)]) dL_law_19 (by decide) rfl ?_
    refine sv_iconst (nI 0) dL_law_20 rfl ?_
    refine sv_istore (lv' := [(4, .int (nI 0)), (3, .ref (N + 504)), (2, .ref (N + 493)), (1, .ref N), (0, .ref b)]) dL_law_21 (by decide) rfl ?_
    refine sl_fg ?_
    refine sv_heap (lh_new hm (fun a ha => by show (if a = 0 then some (.inr (N + 493, [])) else (if a = 0 then some (.inr (N, [])) else none)) = (none : Option va_E); rw [if_neg ha, if_neg ha])) ?_
    exact sv_sub [4, 3, 2, 1, 0] rfl (lw_loop hL hb hm 512 0 12 505 3789 (fun _ => 0) (va_up (fun _ => 0) 2 0) (fun _ _ => 0) (gm_s0 (fun _ => 0)) (fun _ _ => 0) mw_V0 mw_R0 mw_T0 (fun _ => 0) (by omega) (by decide) (by decide) (by decide) (by decide) (by decide) lw_c)
  have hl := lv_entry ([.ref b]) (n := 7) (Nat.le_of_ble_eq_true rfl)
  rw [lg_entry_eq]
  generalize (lg_sl ([.ref b]) ++ List.replicate (7 - (lg_sl ([.ref b])).length) Slot.unset).toArray = ls at hl ⊢
  have hl : lv_has ls 7 [(0, .ref b)] := hl
  intro T hT X9
  obtain ⟨t, a1, b1⟩ := key p e s m #[Value.ref b] below meth c s.heap [] ls E va_S.rf hR hl T hT X9
  exact ⟨t, a1, b1 ⟨rfl, hX, hG2⟩⟩
set_option maxHeartbeats 4000000 in
theorem lw_walk (l : Launch) (hflags : l.flags = flags0) (b : Addr) (xs : List Int32) : MetFree l x (headSpec (Jvm.Cond.code x code maxLocals ret :: tables_1) room_1) (lw_P b xs) (fun _ _ _ _ _ => True) lw_Q := by
  refine MetFree.of_bodyS (code := code) (maxLocals := maxLocals) (ret := ret) (by decide) ?_ ?_
  · intro args s m h hn
    obtain ⟨meth, c, h1, h2, h3, h4, h5, h6, -, -⟩ := Cond.code_spec hn (atoms_spec (ws := Jvm.Cond.code x code maxLocals ret :: tables_1) h _ List.mem_cons_self)
    exact ⟨meth, c, h1, h2, h3, h4, h5, h6⟩
  · intro p e s m args below meth c s₁ B hml0 hP _
    obtain ⟨rfl, hx, hbd, hgv⟩ := hP
    obtain ⟨scr, harrAt, hlist, hof, hsmall⟩ := hx
    obtain ⟨hcb, hkn, -, -⟩ := State.arrayAt?_spec harrAt
    have hown : s.vm.findClass R_law = some m.cls := findClass_of_methodNamed B.named
    have hts0 : ∀ c ∈ (Jvm.Cond.code x code maxLocals ret :: tables_1), c.before #[Value.ref b] s = true := atoms_spec (ws := Jvm.Cond.code x code maxLocals ret :: tables_1) B.pre
    have hts : ∀ w ∈ lw_tbl, w.before #[Value.ref b] s = true := k2_hts_sels lw_privs (fun w hw => hts0 w (List.mem_cons_of_mem _ hw)) lw_privs_ok
    have hml : c.maxLocals = 7 := B.maxLocals_eq (hts0 _ List.mem_cons_self)
    have X₀ : Stand p l e room_1 s m #[Value.ref b] below meth c s₁ [] 0 0 := Stand.of_body B
    have ht : c.exceptionTable.toList = [] := by
      obtain ⟨meth9, c9, h1, h2, -, -, -, -, h7, -⟩ := Cond.code_spec B.named (hts0 _ List.mem_cons_self)
      cases Option.some.inj (h1.symm.trans B.method)
      cases Option.some.inj (h2.symm.trans X₀.code)
      rw [Array.isEmpty_iff.mp h7]
    have hnm : meth.name = "law" := (name_of_methodNamed B.named B.method).1
    have hh0 : s₁.heap = s.heap := by rw [B.state]; rfl
    have hsz : scr.slots.size = xs.length := by rw [← Array.length_toList, hlist, List.length_map]
    have hval : ∀ j : Nat, j < xs.length → scr.slots[j]? = some (.int (xs.getD j 0)) := fun j hj => by
      rw [← Array.getElem?_toList, hlist]
      simp [hj]
    have hbl : b < s.heap.size := (Array.getElem?_eq_some_iff.mp hcb).1
    have hX : va_X b xs.length (fun j => xs.getD j 0) s s.heap := ⟨scr, hcb, hof, hkn, hsz, hval⟩
    have K : W p l e room_1 s m #[Value.ref b] below meth c s₁.heap [] 0 0 (lw_Z below #[Value.ref b] s) (entryFrame m ([Value.ref b] : List Value).toArray 7) := by
      rw [hh0]
      exact whole_start l hflags ht hnm hbd ⟨B.exec, B.bytes, B.returns, hml, hown, hts, hX, hbl, B.notSynchronized, hgv⟩
    obtain ⟨t, a1, o, b1, b2, b3⟩ := K s₁ rfl X₀
    exact ⟨t, o, a1, b1, b2, b3⟩
theorem lw_pre_spec {args : Array Value} {s : State} (h : (Jvm.Cond.and given_1 narrow_1).before args s = true) (hr : rest_1_c.before args s = true) : ∃ (b : Addr) (xs : List Int32), lw_P b xs args s := by
  have hs := flat_of_before _ h
  have hq := flat_of_before _ hr
  have hc : (Cond.count 1).before args s = true := hs _ (by decide +kernel)
  have harr : (Cond.arrayOf (.arg 0) .int).before args s = true := hs _ (by decide +kernel)
  have hle : (Cond.le (.length (.arg 0)) (.int 2048)).before args s = true := hs _ (by decide +kernel)
  have hlen : (Cond.isInt (.length (.arg 0))).before args s = true := hq _ (by decide +kernel)
  have hall : (Cond.all (.arg 0) (.isInt (.elem (.arg 0) (.index 0)))).before args s = true := hq _ (by decide +kernel)
  obtain ⟨b, xs, hb, hx⟩ := State.ints_of_pre rfl harr hlen hall
  have hsm : xs.length < 2 ^ 31 := hx.choose_spec.2.2.2
  have hev : (Term.length (.arg 0)).eval args s none [] s = some (.int xs.length.toInt32) := hx.length_eval hb
  have hv := Cond.le_ints hev (show (Term.int 2048).eval args s none [] s = some (.int 2048) from rfl)
  have hd : xs.length.toInt32 ≤ 2048 := by
    simpa [Cond.before, Cond.holds, hv] using hle
  have hN : xs.length ≤ 2048 := (Int32.ofNat_le_ofNat hsm (by decide)).mp (show Int32.ofNat xs.length ≤ Int32.ofNat 2048 from hd)
  exact ⟨b, xs, Cond.one_arg hc (show args[0]? = some (.ref b) from hb), hx, hN, h⟩
theorem lw_comes (l : Launch) (hflags : l.flags = flags0) : Comes l x (Jvm.Cond.code x code maxLocals ret :: tables_1) room_1 (fun tb e args s => Calls_1 tb e args s ∧ rest_1 tb e args s ∧ Pre_1 tb e args s)
    (fun _ _ args s o t => lw_Q args s o t) := by
  intro p e ha hc hk s m args below hf hfit hheap happ hpre
  obtain ⟨b, xs, hP⟩ := lw_pre_spec hpre.2.2 hpre.2.1
  obtain ⟨k, o, h1, h2, h3, hQ⟩ := lw_walk l hflags b xs p e ha hc hk s m args below hf ((Spec.applies_iff_loose hf).mp happ).1 hP trivial
  exact ⟨k, o, h1, h2, h3, hQ⟩
theorem lw_frame {s t : State} {o : Outcome} {args : Array Value} (h : Framed s o t [] 641416 7171855) :
    Framed s o t (fieldLocs frame_1_writes args s ++ arrayLocs frame_1_arrays args s ++ staticLocs frame_1_statics s) 641416 7171855 := h
theorem lw_limb (L : Cond) (hL : ∀ (args : Array Value) (s t : State), L.after args s (.returned (some (.int 1))) t = true) :
    ArmFor flags0 classFile x code maxLocals ret World_1 tables_1 room_1 Calls_1 rest_1 Pre_1
      (fun tb e a s o t => postC L tb e a s o t ∧ Framed s o t (fieldLocs frame_1_writes a s ++ arrayLocs frame_1_arrays a s ++ staticLocs frame_1_statics s) 641416 7171855) := by
  intro l hflags _ _ p e ha hc hk s m args below hf hfit hheap happ hpre
  obtain ⟨k, o, h1, h2, h3, rfl, hF⟩ := lw_comes l hflags p e ha hc hk s m args below hf hfit hheap happ hpre
  exact ⟨k, _, h1, h2, h3, hL args s _, lw_frame hF⟩
theorem i_vc : Claimed_1_1 ∧ Claimed_1_2 := ⟨lw_limb limb_1_1 (fun args s t => by simp [limb_1_1, Cond.after, Cond.holds, Cond.value]), lw_limb limb_1_2 (fun args s t => Cond.after_iff.mpr (by
  first | (rw [show limb_1_2 = Cond.eq .result (.int 1) from rfl, Cond.eq_ints (x := 1) (y := 1) rfl rfl]; simp; done) | (simp [limb_1_2, Cond.value, Term.eval]; done)))⟩
