section SCA
variable {G : sm_G} {M : sm_M} {R : Room} {Z : sm_Z} {Q Q2 : sm_Q} {mc ms : Nat} {cells slots pc : Nat} {lv lv' : List (Nat × Value)} {st rest : List Value} {h h' : sm_H}
variable {y2 : MethodName} {cc2 : ByteArray} {nL2 : Nat} {ret2 : Option FieldType} {hh2 : List (Nat × Nat × Nat × Nat)} {d2 mc2 ms2 idx n b : Nat} {As : List Value} {v : Option Value}
abbrev sm_Pc (G : sm_G) (As : List Value) (h : sm_H) : Array Value → State → Prop := va_Pc As (fun U => sm_K G U ∧ sm_B G ≤ U.heap.size ∧ sm_R G h U.heap)
theorem sm_blind : FrameBlind (sm_Pc G As h) := fun a U g mk q => ⟨q.1, sm_K_go (s := U) (T := U.calling g mk a) (H := U.heap) (locs := []) q.2.1 (State.WarmedH.refl U) rfl va_S.rf, q.2.2.1, q.2.2.2⟩
theorem sm_pre {p : Program} {s : State} {m : MethodId} {args : Array Value} {meth : Method} {c : Code} {H : Heap} {locs : List Loc} (E : sm_E G M p s m args meth c) (hS : va_S (sm_A G) s.heap H locs) (hR : sm_R G h H) : ∀ U : State, U.heap = H → s.WarmedH U.vm → sm_Pc G As h As.toArray U :=
  fun U hU hW => ⟨rfl, sm_K_go E.2.2.2.2.2.2.2.2.1 hW hU hS, by rw [hU]; exact Nat.le_trans E.2.2.2.2.2.2.2.2.2.1 hS.1, by rw [hU]; exact hR⟩
theorem sm_met (hy : plainName y2.cls = true) (hlen : (lg_sl As).length ≤ nL2) (hc : sm_C G (y2, cc2, nL2, ret2, []) d2 mc2 ms2 As h Q2) : vx_Met G.1 y2 (sm_ws (y2, cc2, nL2, ret2, [])) (sm_rm d2 mc2 ms2) (sm_Pc G As h) (sm_Qc G Q2) (sm_XC G Q2) mc2 ms2 (sm_A G) := by
  refine vx_ofW (cc := cc2) (maxL := nL2) (ret := ret2) hy rfl ?_
  intro p e s m args below meth c s₁ B hml ht hv
  obtain ⟨rfl, hK, hB, hR⟩ := hv
  have hts := atoms_spec (ws := sm_ws (y2, cc2, nL2, ret2, [])) B.pre
  have E : sm_E G (y2, cc2, nL2, ret2, []) p s m As.toArray meth c := ⟨B.exec, B.bytes, B.returns, hml, findClass_of_methodNamed B.named, fun w hw => hts w (List.mem_cons_of_mem _ hw), B.notSynchronized, List.eq_nil_iff_forall_not_mem.mpr ht, hK, hB, (name_of_methodNamed B.named B.method).1⟩
  rw [lg_entry_eq]
  exact hc p e s m _ below meth c s.heap [] _ E va_S.rf hR (lv_entry As hlen)
theorem sm_metH {q : Nat × Nat × Nat × Nat} (hy : plainName y2.cls = true) (hlen : (lg_sl As).length ≤ nL2) (hc : sm_C G (y2, cc2, nL2, ret2, q :: hh2) d2 mc2 ms2 As h Q2) : vx_Met G.1 y2 (sm_ws (y2, cc2, nL2, ret2, q :: hh2)) (sm_rm d2 mc2 ms2) (sm_Pc G As h) (sm_Qc G Q2) (sm_XC G Q2) mc2 ms2 (sm_A G) := by
  refine vx_ofWH (cc := cc2) (maxL := nL2) (ret := ret2) (hh := q :: hh2) hy rfl ?_
  intro p e s m args below meth c s₁ B hml hv
  obtain ⟨rfl, hK, hB, hR⟩ := hv
  have hts := atoms_spec (ws := sm_ws (y2, cc2, nL2, ret2, q :: hh2)) B.pre
  have E : sm_E G (y2, cc2, nL2, ret2, q :: hh2) p s m As.toArray meth c := ⟨B.exec, B.bytes, B.returns, hml, findClass_of_methodNamed B.named, fun w hw => hts w (List.mem_cons_of_mem _ hw), B.notSynchronized, vx_table (x := y2) B (hts _ List.mem_cons_self), hK, hB, (name_of_methodNamed B.named B.method).1⟩
  rw [lg_entry_eq]
  exact hc p e s m _ below meth c s.heap [] _ E va_S.rf hR (lv_entry As hlen)
/-- a callee that throws nothing -/
theorem sm_metN {l : Launch} {y : MethodName} {ws : List Cond} {rm : Room} {Pc : Array Value → State → Prop} {Qc : Array Value → State → Outcome → State → Prop} {XC : String → State → State → Prop} {mc ms : Nat} {free : Addr → Prop} (hM : vx_Met l y ws rm Pc Qc XC mc ms free) (hx : ∀ E a b, ¬ XC E a b) : Met l y ws rm Pc Qc mc ms free := by
  intro p e ha hc hk s m args below hf happ hp hK
  obtain ⟨n, o, h1, h2, h3, hQ⟩ := hM p e ha hc hk s m args below hf happ hp hK
  refine ⟨n, o, h1, h2, h3, ?_⟩
  rcases hQ with hQ | ⟨q, -, E, ce, L, hX, -⟩
  · exact hQ
  · exact absurd hX (hx _ _ _)
theorem sm_good (hw : sm_hd M ∈ sm_tbl) (pre : List Cond) (hp : ∀ w ∈ pre, w ∈ sm_tbl) : GoodIn sm_tbl (pre ++ sm_ws M) := by
  intro w h9
  have hi : w ∈ sm_tbl := by
    rcases List.mem_append.mp h9 with h9 | h9
    · exact hp w h9
    · rcases List.mem_cons.mp h9 with h9 | h9
      · rw [h9]; exact hw
      · exact h9
  exact ⟨hi, sm_tbl_good w hi⟩
/-- behind a call -/
theorem sm_cont {p : Program} {e : Env} {s : State} {m : MethodId} {args : Array Value} {below : List Frame} {meth : Method} {c : Code} {H : Heap} {locs : List Loc} {ls : Array Slot} {a : Array Value} (E : sm_E G M p s m args meth c) (hS : va_S (sm_A G) s.heap H locs) (hl : lv_has ls M.2.2.1 lv)
    (hr : vx_Run p G.1 e R s m args below meth c H locs cells slots mc2 ms2 (F0 m pc ls st) rest (sm_Qc G Q2 a) (sm_XC G Q2) (sm_A G))
    (kk : ∀ v h', Q2 (.inl v) h' → sm_V G M R Z (cells + mc2) (slots + ms2) (pc + 3) lv (v.toList ++ rest) h') (kx : ∀ E h', Q2 (.inr E) h' → sm_VX G M R Z (cells + mc2) (slots + ms2) pc lv E h') :
    W p G.1 e R s m args below meth c H locs cells slots (Z below args s) (F0 m pc ls st) := by
  intro T hT X
  rcases hr T hT X with ⟨v, st₀, t, T', L, h0, X', hL, e1, e2, ⟨⟨v', h', hv, hq, hR'⟩, hF⟩, st1⟩ | ⟨q, st₀, t, T', L, E9, ce, h0, X', hL, e1, e2, ⟨⟨h', hq, hR'⟩, hF⟩, hce, hcv, hcl, st1⟩
  · cases hv
    obtain ⟨k1, k2, k3⟩ := vx_keep h0 e1 hS (fun q _ h => h) (fun q h => h) hL hF
    obtain ⟨t2, a1, b1⟩ := kk v h' hq p e s m args below meth c T'.heap (locs ++ L) ls E k3 (by rw [e1]; exact hR') hl T' rfl X'
    exact ⟨t2, st1 t2 a1, b1⟩
  · obtain ⟨k1, k2, k3⟩ := vx_keep h0 e1 hS (fun q _ h => h) (fun q h => h) hL hF
    obtain ⟨t2, a1, b1⟩ := kx E9 h' hq p e s m args below meth c T'.heap (locs ++ L) ls q ce rest E k3 (by rw [e1]; exact hR') hl (by rw [e1]; exact hce) hcv hcl T' rfl X'
    exact ⟨t2, st1.trans a1, b1⟩
theorem sm_contN {p : Program} {e : Env} {s : State} {m : MethodId} {args : Array Value} {below : List Frame} {meth : Method} {c : Code} {H : Heap} {locs : List Loc} {ls : Array Slot} {a : Array Value} (E : sm_E G M p s m args meth c) (hS : va_S (sm_A G) s.heap H locs) (hl : lv_has ls M.2.2.1 lv)
    (hr : va_Run p G.1 e R s m args below meth c H locs cells slots mc2 ms2 (F0 m pc ls st) rest (sm_Qc G Q2 a) (sm_A G))
    (kk : ∀ v h', Q2 (.inl v) h' → sm_V G M R Z (cells + mc2) (slots + ms2) (pc + 3) lv (v.toList ++ rest) h') :
    W p G.1 e R s m args below meth c H locs cells slots (Z below args s) (F0 m pc ls st) := by
  intro T hT X
  obtain ⟨v, st₀, t, T', L, h0, X', hL, e1, e2, ⟨⟨v', h', hv, hq, hR'⟩, hF⟩, st1⟩ := hr T hT X
  cases hv
  obtain ⟨k1, k2, k3⟩ := vx_keep h0 e1 hS (fun q _ h => h) (fun q h => h) hL hF
  obtain ⟨t2, a1, b1⟩ := kk v h' hq p e s m args below meth c T'.heap (locs ++ L) ls E k3 (by rw [e1]; exact hR') hl T' rfl X'
  exact ⟨t2, st1 t2 a1, b1⟩
abbrev sm_CF {p : Program} {s : State} {m : MethodId} {args : Array Value} {meth : Method} {c : Code} (E : sm_E G M p s m args meth c) : CallFix p m c M.2.1 M.2.2.1 s args sm_tbl M.1.cls := ⟨E.1, E.2.1, E.2.2.2.1, E.2.2.2.2.1, E.2.2.2.2.2.1⟩
def sm_sV (own : String) (idx : Nat) (M2 : sm_M) (n : Nat) : Prop := sm_hd M2 ∈ sm_tbl ∧ Cond.methodLink own idx M2.1 ∈ sm_tbl ∧ Cond.instanceMethod M2.1 ∈ sm_tbl ∧ Cond.selects M2.1.cls M2.1 M2.1 ∈ sm_tbl ∧ Cond.initialized M2.1.cls ∈ sm_tbl ∧ plainName M2.1.cls = true ∧ (M2.1.cls ≠ "java/lang/invoke/MethodHandle" ∧ M2.1.cls ≠ "java/lang/invoke/VarHandle" ∧ (parseMethodDescriptor M2.1.desc).map (fun d => d.parameters.length) = some n)
def sm_sS (own : String) (idx : Nat) (M2 : sm_M) (n : Nat) : Prop := sm_hd M2 ∈ sm_tbl ∧ Cond.methodLink own idx M2.1 ∈ sm_tbl ∧ Cond.static M2.1 ∈ sm_tbl ∧ Cond.initialized M2.1.cls ∈ sm_tbl ∧ plainName M2.1.cls = true ∧ (M2.1.cls ≠ "java/lang/invoke/MethodHandle" ∧ M2.1.cls ≠ "java/lang/invoke/VarHandle" ∧ (parseMethodDescriptor M2.1.desc).map (fun d => d.parameters.length) = some n)
def sm_sSN (own : String) (idx : Nat) (M2 : sm_M) (n : Nat) : Prop := sm_hd M2 ∈ sm_tbl ∧ Cond.methodLinkNest own idx M2.1 RX5 ∈ sm_nest ∧ Cond.static M2.1 ∈ sm_tbl ∧ Cond.initialized M2.1.cls ∈ sm_tbl ∧ plainName M2.1.cls = true ∧ (M2.1.cls ≠ "java/lang/invoke/MethodHandle" ∧ M2.1.cls ≠ "java/lang/invoke/VarHandle" ∧ (parseMethodDescriptor M2.1.desc).map (fun d => d.parameters.length) = some n)
def sm_sI (own : String) (idx : Nat) (M2 : sm_M) (n : Nat) : Prop := sm_hd M2 ∈ sm_tbl ∧ Cond.methodLink own idx M2.1 ∈ sm_tbl ∧ Cond.instanceMethod M2.1 ∈ sm_tbl ∧ M2.1.name = "<init>" ∧ Cond.initialized M2.1.cls ∈ sm_tbl ∧ plainName M2.1.cls = true ∧ (M2.1.cls ≠ "java/lang/invoke/MethodHandle" ∧ M2.1.cls ≠ "java/lang/invoke/VarHandle" ∧ (parseMethodDescriptor M2.1.desc).map (fun d => d.parameters.length) = some n)
def sm_sIN (own : String) (idx : Nat) (M2 : sm_M) (n : Nat) : Prop := sm_hd M2 ∈ sm_tbl ∧ Cond.methodLinkNest own idx M2.1 RX5 ∈ sm_nest ∧ Cond.instanceMethod M2.1 ∈ sm_tbl ∧ M2.1.name = "<init>" ∧ Cond.initialized M2.1.cls ∈ sm_tbl ∧ plainName M2.1.cls = true ∧ (M2.1.cls ≠ "java/lang/invoke/MethodHandle" ∧ M2.1.cls ≠ "java/lang/invoke/VarHandle" ∧ (parseMethodDescriptor M2.1.desc).map (fun d => d.parameters.length) = some n)
theorem sv_invV {ci : Nat} {fs : List Value} {T : u_T} {N : Nat} (hs : sm_sV M.1.cls idx (y2, cc2, nL2, ret2, []) n) (hc : sm_C G (y2, cc2, nL2, ret2, []) d2 mc2 ms2 (.ref b :: As) h Q2) (hst : st = As.reverse ++ .ref b :: rest) (hn : As.length = n) (hlen : (lg_sl (.ref b :: As)).length ≤ nL2) (hd : decode M.2.1 pc = .ok (.invokevirtual idx, 3)) (hRm : d2 + 1 ≤ R.frames ∧ 8 + (nL2 + 11) + 30 * d2 ≤ R.locals) (hcs : cells + mc2 ≤ R.cells ∧ slots + ms2 ≤ R.slots) (hcat : (rest.map fun v => v.category).sum ≤ 8)
    (hb : h b = some (.inr (ci, fs))) (hf : fs ≠ []) (hci : vwCl[ci]? = some (y2.cls, T, N))
    (kk : ∀ v h', Q2 (.inl v) h' → sm_V G M R Z (cells + mc2) (slots + ms2) (pc + 3) lv (v.toList ++ rest) h') (kx : ∀ E h', Q2 (.inr E) h' → sm_VX G M R Z (cells + mc2) (slots + ms2) pc lv E h') : sm_V G M R Z cells slots pc lv st h := by
  intro p e s m args below meth c H locs ls E hS hR hl
  obtain ⟨w0, w1, w2, w3, w4, hy, hy2⟩ := hs
  obtain ⟨v0, vr, rfl⟩ : ∃ v0 vr, fs = v0 :: vr := by cases fs with | nil => exact absurd rfl hf | cons x y => exact ⟨x, y, rfl⟩
  obtain ⟨hB, hat⟩ := sm_R_at hR hb (sm_R_ne (k := 0) hR hb rfl)
  have cw := cwV (C := y2.cls) (own := M.1.cls) (index := idx) (R := R) (args := args) (s := s) n E.2.2.2.2.2.1 (sm_good w0 [.methodLink M.1.cls idx y2, .instanceMethod y2, .selects y2.cls y2 y2, .initialized y2.cls] (by intro w hw; simp only [List.mem_cons, List.not_mem_nil, or_false] at hw; rcases hw with rfl | rfl | rfl | rfl <;> assumption)) (y := y2) (bytes := cc2) (maxL := nL2) (ret := ret2) (rm := sm_rm d2 mc2 ms2) rfl rfl rfl ⟨rfl, hy2⟩ hRm
  exact sm_cont E hS hl (vx_runV (As := As) (rest := rest) (sm_CF E) (sm_met hy hlen hc) cw ⟨sm_blind, va_recv E.2.2.2.2.2.2.2.2.1.1 (sm_P1 hat) hci (q0 := 0) rfl, sm_pre E hS hR⟩ rfl hn hl.1 hst (lv_room hcat) hd hcs) kk kx
theorem sv_invS (hs : sm_sS M.1.cls idx (y2, cc2, nL2, ret2, []) n) (hc : sm_C G (y2, cc2, nL2, ret2, []) d2 mc2 ms2 As h Q2) (hst : st = As.reverse ++ rest) (hn : As.length = n) (hlen : (lg_sl As).length ≤ nL2) (hd : decode M.2.1 pc = .ok (.invokestatic idx, 3)) (hRm : d2 + 1 ≤ R.frames ∧ 8 + (nL2 + 11) + 30 * d2 ≤ R.locals) (hcs : cells + mc2 ≤ R.cells ∧ slots + ms2 ≤ R.slots) (hcat : (rest.map fun v => v.category).sum ≤ 8)
    (kk : ∀ v h', Q2 (.inl v) h' → sm_V G M R Z (cells + mc2) (slots + ms2) (pc + 3) lv (v.toList ++ rest) h') (kx : ∀ E h', Q2 (.inr E) h' → sm_VX G M R Z (cells + mc2) (slots + ms2) pc lv E h') : sm_V G M R Z cells slots pc lv st h := by
  intro p e s m args below meth c H locs ls E hS hR hl
  obtain ⟨w0, w1, w2, w4, hy, hy2⟩ := hs
  have cw := va_cwS (own := M.1.cls) (index := idx) (R := R) (args := args) (s := s) n E.2.2.2.2.2.1 (sm_good w0 [.methodLink M.1.cls idx y2, .static y2, .initialized y2.cls] (by intro w hw; simp only [List.mem_cons, List.not_mem_nil, or_false] at hw; rcases hw with rfl | rfl | rfl <;> assumption)) (y := y2) (bytes := cc2) (maxL := nL2) (ret := ret2) (rm := sm_rm d2 mc2 ms2) rfl rfl rfl hy2 hRm
  exact sm_cont E hS hl (vx_runS (As := As) (rest := rest) (sm_CF E) (sm_met hy hlen hc) cw ⟨sm_blind, sm_pre E hS hR⟩ rfl hn hl.1 hst (lv_room hcat) hd hcs) kk kx
theorem sv_invSH {q9 : Nat × Nat × Nat × Nat} (hs : sm_sS M.1.cls idx (y2, cc2, nL2, ret2, q9 :: hh2) n) (hc : sm_C G (y2, cc2, nL2, ret2, q9 :: hh2) d2 mc2 ms2 As h Q2) (hst : st = As.reverse ++ rest) (hn : As.length = n) (hlen : (lg_sl As).length ≤ nL2) (hd : decode M.2.1 pc = .ok (.invokestatic idx, 3)) (hRm : d2 + 1 ≤ R.frames ∧ 8 + (nL2 + 11) + 30 * d2 ≤ R.locals) (hcs : cells + mc2 ≤ R.cells ∧ slots + ms2 ≤ R.slots) (hcat : (rest.map fun v => v.category).sum ≤ 8)
    (kk : ∀ v h', Q2 (.inl v) h' → sm_V G M R Z (cells + mc2) (slots + ms2) (pc + 3) lv (v.toList ++ rest) h') (kx : ∀ E h', Q2 (.inr E) h' → sm_VX G M R Z (cells + mc2) (slots + ms2) pc lv E h') : sm_V G M R Z cells slots pc lv st h := by
  intro p e s m args below meth c H locs ls E hS hR hl
  obtain ⟨w0, w1, w2, w4, hy, hy2⟩ := hs
  have cw := vx_cwSW (hh := q9 :: hh2) (own := M.1.cls) (index := idx) (R := R) (args := args) (s := s) n E.2.2.2.2.2.1 (sm_good w0 [.methodLink M.1.cls idx y2, .static y2, .initialized y2.cls] (by intro w hw; simp only [List.mem_cons, List.not_mem_nil, or_false] at hw; rcases hw with rfl | rfl | rfl <;> assumption)) (y := y2) (bytes := cc2) (maxL := nL2) (ret := ret2) (rm := sm_rm d2 mc2 ms2) rfl rfl rfl hy2 hRm
  exact sm_cont E hS hl (vx_runSX (As := As) (rest := rest) (sm_CF E) (sm_metH hy hlen hc) cw ⟨sm_blind, sm_pre E hS hR⟩ rfl hn hl.1 hst (lv_room hcat) hd hcs) kk kx
theorem sm_noX {Q2 : sm_Q} (hx : ∀ E h', ¬ Q2 (.inr E) h') : ∀ E a b, ¬ sm_XC G Q2 E a b := fun E a b q => by obtain ⟨⟨h', hq, -⟩, -⟩ := q; exact hx _ _ hq
theorem sv_invSN (hs : sm_sSN M.1.cls idx (y2, cc2, nL2, ret2, []) n) (hc : sm_C G (y2, cc2, nL2, ret2, []) d2 mc2 ms2 As h Q2) (hst : st = As.reverse ++ rest) (hn : As.length = n) (hlen : (lg_sl As).length ≤ nL2) (hd : decode M.2.1 pc = .ok (.invokestatic idx, 3)) (hRm : d2 + 1 ≤ R.frames ∧ 8 + (nL2 + 11) + 30 * d2 ≤ R.locals) (hcs : cells + mc2 ≤ R.cells ∧ slots + ms2 ≤ R.slots) (hcat : (rest.map fun v => v.category).sum ≤ 8) (hx : ∀ E h', ¬ Q2 (.inr E) h')
    (kk : ∀ v h', Q2 (.inl v) h' → sm_V G M R Z (cells + mc2) (slots + ms2) (pc + 3) lv (v.toList ++ rest) h') : sm_V G M R Z cells slots pc lv st h := by
  intro p e s m args below meth c H locs ls E hS hR hl
  obtain ⟨w0, w1, w2, w4, hy, hy2⟩ := hs
  have hts := E.2.2.2.2.2.1
  have cw := va_cnB (own := M.1.cls) (host := RX5) (index := idx) (R := R) (args := args) (s := s) n hts (sm_good w0 [] (by intro w hw; cases hw)) (y := y2) (bytes := cc2) (maxL := nL2) (ret := ret2) (rm := sm_rm d2 mc2 ms2) rfl rfl rfl (E.2.2.2.2.2.2.2.2.1.2.1 _ w1) (hts _ w4) hy2 hRm
  exact sm_contN E hS hl (va_runSN (As := As) (rest := rest) (sm_CF E) (sm_metN (sm_met hy hlen hc) (sm_noX hx)) ⟨cw, hts _ w2, trivial⟩ ⟨sm_blind, sm_pre E hS hR⟩ rfl hn hl.1 hst (lv_room hcat) hd hcs) kk
theorem sv_invI (hs : sm_sI M.1.cls idx (y2, cc2, nL2, none, []) n) (hc : sm_C G (y2, cc2, nL2, none, []) d2 mc2 ms2 (.ref b :: As) h Q2) (hst : st = As.reverse ++ .ref b :: rest) (hn : As.length = n) (hlen : (lg_sl (.ref b :: As)).length ≤ nL2) (hd : decode M.2.1 pc = .ok (.invokespecial idx, 3)) (hRm : d2 + 1 ≤ R.frames ∧ 8 + (nL2 + 11) + 30 * d2 ≤ R.locals) (hcs : cells + mc2 ≤ R.cells ∧ slots + ms2 ≤ R.slots) (hcat : (rest.map fun v => v.category).sum ≤ 8) (hx : ∀ E h', ¬ Q2 (.inr E) h')
    (kk : ∀ v h', Q2 (.inl v) h' → sm_V G M R Z (cells + mc2) (slots + ms2) (pc + 3) lv (v.toList ++ rest) h') : sm_V G M R Z cells slots pc lv st h := by
  intro p e s m args below meth c H locs ls E hS hR hl
  obtain ⟨w0, w1, w2, w3, w4, hy, hy2⟩ := hs
  have hts := E.2.2.2.2.2.1
  have cw := cwI (own := M.1.cls) (index := idx) (R := R) (args := args) (s := s) n hts (sm_good w0 [] (by intro w hw; cases hw)) (y := y2) (bytes := cc2) (maxL := nL2) (rm := sm_rm d2 mc2 ms2) rfl rfl rfl (hts _ w4) (hts _ w1) (hts _ w2) w3 hy2 hRm
  exact sm_contN E hS hl (va_runI (As := As) (rest := rest) (sm_CF E) (sm_metN (sm_met hy hlen hc) (sm_noX hx)) cw ⟨sm_blind, sm_pre E hS hR⟩ rfl hn hl.1 hst (lv_room hcat) hd hcs) kk
theorem sv_invIN (hs : sm_sIN M.1.cls idx (y2, cc2, nL2, none, []) n) (hc : sm_C G (y2, cc2, nL2, none, []) d2 mc2 ms2 (.ref b :: As) h Q2) (hst : st = As.reverse ++ .ref b :: rest) (hn : As.length = n) (hlen : (lg_sl (.ref b :: As)).length ≤ nL2) (hd : decode M.2.1 pc = .ok (.invokespecial idx, 3)) (hRm : d2 + 1 ≤ R.frames ∧ 8 + (nL2 + 11) + 30 * d2 ≤ R.locals) (hcs : cells + mc2 ≤ R.cells ∧ slots + ms2 ≤ R.slots) (hcat : (rest.map fun v => v.category).sum ≤ 8) (hx : ∀ E h', ¬ Q2 (.inr E) h')
    (kk : ∀ v h', Q2 (.inl v) h' → sm_V G M R Z (cells + mc2) (slots + ms2) (pc + 3) lv (v.toList ++ rest) h') : sm_V G M R Z cells slots pc lv st h := by
  intro p e s m args below meth c H locs ls E hS hR hl
  obtain ⟨w0, w1, w2, w3, w4, hy, hy2⟩ := hs
  have hts := E.2.2.2.2.2.1
  have cw := va_cnB (own := M.1.cls) (host := RX5) (index := idx) (R := R) (args := args) (s := s) n hts (sm_good w0 [] (by intro w hw; cases hw)) (y := y2) (bytes := cc2) (maxL := nL2) (ret := none) (rm := sm_rm d2 mc2 ms2) rfl rfl rfl (E.2.2.2.2.2.2.2.2.1.2.1 _ w1) (hts _ w4) hy2 hRm
  exact sm_contN E hS hl (va_runIN (As := As) (rest := rest) (sm_CF E) (sm_metN (sm_met hy hlen hc) (sm_noX hx)) ⟨cw, w3, hts _ w2⟩ ⟨sm_blind, sm_pre E hS hR⟩ rfl hn hl.1 hst (lv_room hcat) hd hcs) kk
/-! calls whose end is one value and one heap -/
theorem sv_callV {ci : Nat} {fs : List Value} {T : u_T} {N : Nat} (hs : sm_sV M.1.cls idx (y2, cc2, nL2, ret2, []) n) (hc : sm_F G (y2, cc2, nL2, ret2, []) d2 (.ref b :: As) h (.inl v) h') (hst : st = As.reverse ++ .ref b :: rest) (hn : As.length = n) (hlen : (lg_sl (.ref b :: As)).length ≤ nL2) (hd : decode M.2.1 pc = .ok (.invokevirtual idx, 3)) (hRm : d2 + 1 ≤ R.frames ∧ 8 + (nL2 + 11) + 30 * d2 ≤ R.locals) (hcs : cells ≤ R.cells ∧ slots ≤ R.slots) (hcat : (rest.map fun v => v.category).sum ≤ 8)
    (hb : h b = some (.inr (ci, fs))) (hf : fs ≠ []) (hci : vwCl[ci]? = some (y2.cls, T, N)) (kk : sm_V G M R Z cells slots (pc + 3) lv (v.toList ++ rest) h') : sm_V G M R Z cells slots pc lv st h :=
  sv_invV hs hc hst hn hlen hd hRm hcs hcat hb hf hci (fun v1 h1 q => by obtain ⟨q1, rfl⟩ := q; cases q1; exact kk) (fun E h1 q => by obtain ⟨q1, -⟩ := q; cases q1)
theorem sv_callS (hs : sm_sS M.1.cls idx (y2, cc2, nL2, ret2, []) n) (hc : sm_F G (y2, cc2, nL2, ret2, []) d2 As h (.inl v) h') (hst : st = As.reverse ++ rest) (hn : As.length = n) (hlen : (lg_sl As).length ≤ nL2) (hd : decode M.2.1 pc = .ok (.invokestatic idx, 3)) (hRm : d2 + 1 ≤ R.frames ∧ 8 + (nL2 + 11) + 30 * d2 ≤ R.locals) (hcs : cells ≤ R.cells ∧ slots ≤ R.slots) (hcat : (rest.map fun v => v.category).sum ≤ 8)
    (kk : sm_V G M R Z cells slots (pc + 3) lv (v.toList ++ rest) h') : sm_V G M R Z cells slots pc lv st h :=
  sv_invS hs hc hst hn hlen hd hRm hcs hcat (fun v1 h1 q => by obtain ⟨q1, rfl⟩ := q; cases q1; exact kk) (fun E h1 q => by obtain ⟨q1, -⟩ := q; cases q1)
theorem sv_callSN (hs : sm_sSN M.1.cls idx (y2, cc2, nL2, ret2, []) n) (hc : sm_F G (y2, cc2, nL2, ret2, []) d2 As h (.inl v) h') (hst : st = As.reverse ++ rest) (hn : As.length = n) (hlen : (lg_sl As).length ≤ nL2) (hd : decode M.2.1 pc = .ok (.invokestatic idx, 3)) (hRm : d2 + 1 ≤ R.frames ∧ 8 + (nL2 + 11) + 30 * d2 ≤ R.locals) (hcs : cells ≤ R.cells ∧ slots ≤ R.slots) (hcat : (rest.map fun v => v.category).sum ≤ 8)
    (kk : sm_V G M R Z cells slots (pc + 3) lv (v.toList ++ rest) h') : sm_V G M R Z cells slots pc lv st h :=
  sv_invSN hs hc hst hn hlen hd hRm hcs hcat (fun E h1 q => by obtain ⟨q1, -⟩ := q; cases q1) (fun v1 h1 q => by obtain ⟨q1, rfl⟩ := q; cases q1; exact kk)
/-! throws -/
def sm_nx : List String := ["java/lang/RuntimeException", "java/lang/Exception"]
def sm_nxd : List Cond := [Cond.declares ⟨"java/lang/RuntimeException", "<init>", "(Ljava/lang/String;)V"⟩, Cond.declares ⟨"java/lang/Exception", "<init>", "(Ljava/lang/String;)V"⟩, Cond.declares ⟨"java/lang/Throwable", "<init>", "(Ljava/lang/String;)V"⟩]
theorem sm_nxd_in : ∀ w ∈ sm_nxd, w ∈ sm_nest := List.forall_mem_cons.mpr ⟨sm_mh ck_1_7_in 26 rfl rfl, List.forall_mem_cons.mpr ⟨sm_mh ck_1_7_in 28 rfl rfl, List.forall_mem_cons.mpr ⟨sm_mh ck_2_0_in 0 rfl rfl, fun _ h => nomatch h⟩⟩⟩
/-- what is known of a class of exceptions, by its place ik in the pool and its constructor's ic -/
def sm_ex (cls : String) (ik ic : Nat) : Prop := Bundle.fit cls = true ∧ (∀ n ∈ sm_nx, Bundle.fit n = true) ∧ Cond.classLink RX5 ik cls ∈ sm_tbl ∧ Cond.initialized cls ∈ sm_tbl ∧ (∀ w ∈ (vx_atS RX5 ic cls sm_nx).filter goodWord, w ∈ lw_tbl) ∧ (∀ w ∈ (vx_atS RX5 ic cls sm_nx).filter (fun w => !goodWord w), w ∈ Cond.castable cls cls :: sm_nxd) ∧ Cond.castable cls cls ∈ sm_nest ∧ ∀ w ∈ Cond.classLink RX5 ik cls :: Cond.initialized cls :: vx_atS RX5 ic cls sm_nx, vx_ot w = true
theorem sv_throw {cls text : String} {ik is ic : Nat} (i : Nat) (hx : sm_ex cls ik ic) (hM : M.1.cls = RX5) (hh : M.2.2.2.2 = []) (hi : sm_strs[i]? = some (is, text))
    (d0 : decode M.2.1 pc = .ok (.new ik, 3)) (d3 : decode M.2.1 (pc + 3) = .ok (.dup, 1)) (d4 : decode M.2.1 (pc + 4) = .ok (.ldc is, 2)) (d6 : decode M.2.1 (pc + 6) = .ok (.invokespecial ic, 3)) (d9 : decode M.2.1 (pc + 9) = .ok (.athrow, 1))
    (hRm : 5 < R.frames ∧ (st.map fun v => v.category).sum + 82 ≤ R.locals) (hcs : cells + 1 ≤ R.cells ∧ slots + 6 ≤ R.slots) (hc : cells + 1 ≤ mc) (hs : slots + 6 ≤ ms) (hq : Q (.inr cls) (sm_fg h)) : sm_V G M R (sm_Zm G Q mc ms) cells slots pc lv st h := by
  intro p e s m args below meth c H locs ls E hS hR hl
  obtain ⟨x1, x2, x3, x4, x5, x6, x7, x8⟩ := hx
  have hts := E.2.2.2.2.2.1
  have hK := E.2.2.2.2.2.2.2.2.1
  have hown := E.2.2.2.2.1
  rw [hM] at hown
  have hat : ∀ w ∈ vx_atS RX5 ic cls sm_nx, w.before args s = true := vx_hat (fun w hw => hts w (List.mem_filter.mpr ⟨x5 w hw, (List.mem_filter.mp hw).2⟩)) x6 (vx_c (va_Nw.use rfl (hK.2.1 _ x7)) (fun w hw => va_Nw.use (by simp only [sm_nxd, List.mem_cons, List.not_mem_nil, or_false] at hw; rcases hw with rfl | rfl | rfl <;> rfl) (hK.2.1 w (sm_nxd_in w hw))))
  have ht0 : c.exceptionTable.toList = [] := by rw [E.2.2.2.2.2.2.2.1, hh]; rfl
  exact vx_throwS E.1 E.2.1 hK.2.2.2.2.2.2.2.2.1 hown x1 x2 (hts _ x3) (hts _ x4) (hK.2.2.2.2.1 i _ hi) hat x8 hK.2.2.2.2.2.1 hK.2.2.2.2.2.2.1 hS (hl.1.trans E.2.2.2.1.symm) d0 d3 d4 d6 d9 (fun x hx => by rw [ht0] at hx; cases hx) hRm.1 hRm.2 hcs.1 hcs.2 E.2.2.2.2.2.2.1
    (fun t hv z oq => ⟨⟨sm_fg h, hq, sm_R_kept hR oq⟩, ⟨Nat.le_trans hS.1 z, fun q h1 h2 => (oq q (Nat.lt_of_lt_of_le h1 hS.1)).trans (hS.2.1 q h1 h2)⟩⟩) (fun z hz => hS.2.2 z hz) hc hs
theorem sv_throwW {cls text : String} {ik is ic : Nat} (i : Nat) (hx : sm_ex cls ik ic) (hM : M.1.cls = RX5) (hh : M.2.2.2.2 = []) (hi : sm_strs[i]? = some (is, text))
    (d0 : decode M.2.1 pc = .ok (.new ik, 3)) (d3 : decode M.2.1 (pc + 3) = .ok (.dup, 1)) (d4 : decode M.2.1 (pc + 4) = .ok (.ldc_w is, 3)) (d6 : decode M.2.1 (pc + 7) = .ok (.invokespecial ic, 3)) (d9 : decode M.2.1 (pc + 10) = .ok (.athrow, 1))
    (hRm : 5 < R.frames ∧ (st.map fun v => v.category).sum + 82 ≤ R.locals) (hcs : cells + 1 ≤ R.cells ∧ slots + 6 ≤ R.slots) (hc : cells + 1 ≤ mc) (hs : slots + 6 ≤ ms) (hq : Q (.inr cls) (sm_fg h)) : sm_V G M R (sm_Zm G Q mc ms) cells slots pc lv st h := by
  intro p e s m args below meth c H locs ls E hS hR hl
  obtain ⟨x1, x2, x3, x4, x5, x6, x7, x8⟩ := hx
  have hts := E.2.2.2.2.2.1
  have hK := E.2.2.2.2.2.2.2.2.1
  have hown := E.2.2.2.2.1
  rw [hM] at hown
  have hat : ∀ w ∈ vx_atS RX5 ic cls sm_nx, w.before args s = true := vx_hat (fun w hw => hts w (List.mem_filter.mpr ⟨x5 w hw, (List.mem_filter.mp hw).2⟩)) x6 (vx_c (va_Nw.use rfl (hK.2.1 _ x7)) (fun w hw => va_Nw.use (by simp only [sm_nxd, List.mem_cons, List.not_mem_nil, or_false] at hw; rcases hw with rfl | rfl | rfl <;> rfl) (hK.2.1 w (sm_nxd_in w hw))))
  have ht0 : c.exceptionTable.toList = [] := by rw [E.2.2.2.2.2.2.2.1, hh]; rfl
  exact vx_throwSW E.1 E.2.1 hK.2.2.2.2.2.2.2.2.1 hown x1 x2 (hts _ x3) (hts _ x4) (hK.2.2.2.2.1 i _ hi) hat x8 hK.2.2.2.2.2.1 hK.2.2.2.2.2.2.1 hS (hl.1.trans E.2.2.2.1.symm) d0 d3 d4 d6 d9 (fun x hx => by rw [ht0] at hx; cases hx) hRm.1 hRm.2 hcs.1 hcs.2 E.2.2.2.2.2.2.1
    (fun t hv z oq => ⟨⟨sm_fg h, hq, sm_R_kept hR oq⟩, ⟨Nat.le_trans hS.1 z, fun q h1 h2 => (oq q (Nat.lt_of_lt_of_le h1 hS.1)).trans (hS.2.1 q h1 h2)⟩⟩) (fun z hz => hS.2.2 z hz) hc hs
/-- a handler takes it -/
theorem sv_catch {E9 name : String} (pre : List ExceptionTableEntry) (x : ExceptionTableEntry) (suf : List ExceptionTableEntry) (ht : tableOf M.2.2.2.2 = pre ++ x :: suf) (hp : ∀ z ∈ pre, covers z pc = false ∨ (z.catchType ≠ 0 ∧ ∃ nm : String, Cond.classLink M.1.cls z.catchType nm ∈ sm_tbl ∧ (E9, nm) ∈ sm_nocast)) (hx : covers x pc = true) (h0 : x.catchType ≠ 0) (w1 : Cond.classLink M.1.cls x.catchType name ∈ sm_tbl) (w2 : Cond.castable E9 name ∈ sm_nest)
    (kk : ∀ q : Nat, sm_V G M R Z cells slots x.handlerPc lv [.ref q] h) : sm_VX G M R Z cells slots pc lv E9 h := by
  intro p e s m args below meth c H locs ls q ce rest E hS hR hl hce hcv hcl
  have hts := E.2.2.2.2.2.1
  have hK := E.2.2.2.2.2.2.2.2.1
  exact vx_catch E.2.2.2.2.1 pre x suf (E.2.2.2.2.2.2.2.1.trans ht) (fun z hz => by
    rcases hp z hz with h9 | ⟨h9, nm, hw, hn⟩
    · exact Or.inl h9
    · exact Or.inr ⟨h9, nm, hts _ hw, hK.2.2.1 _ hn⟩) hx h0 (hts _ w1) (va_Nw.use rfl (hK.2.1 _ w2)) hce hcv hcl (kk q p e s m args below meth c H locs ls E hS hR hl)
end SCA
