/-! The core: an abstract heap, what a launch's tables tell, and one judgement for a method's body over them. -/
theorem sm_tb {w : Cond} (i : Nat) (h : lw_tbl[i]? = some w) (g : goodWord w = true) : w ∈ lw_tbl.filter goodWord := List.mem_filter.mpr ⟨List.mem_of_getElem? h, g⟩
def sm_tbl : List Cond := lw_tbl.filter goodWord
theorem sm_tbl_good : ∀ w ∈ sm_tbl, (w.onTables && w.keeps) = true ∨ ∃ ty, w = .arrayClass ty := fun _ h => good_of_word (List.mem_filter.mp h).2
theorem sm_tbl_in : ∀ w ∈ sm_tbl, w ∈ lw_tbl := fun _ h => (List.mem_filter.mp h).1
/-- the abstract heap: what is known of the cells, by their addresses; at 0 (where nothing of ours lies) the heap's size, where it is known -/
abbrev sm_H : Type := Nat → Option va_E
/-- the launch, the classes' numbers and slots, the arrays' classes, where our cells begin, where the static arrays lie, where the texts lie -/
abbrev sm_G : Type := Launch × va_G × (Nat → ClassId) × Nat × (Nat → Nat) × (Nat → Nat)
abbrev sm_c (G : sm_G) (k : Nat) : ClassId := G.2.2.1 k
abbrev sm_B (G : sm_G) : Nat := G.2.2.2.1
abbrev sm_sa (G : sm_G) : Nat → Nat := G.2.2.2.2.1
abbrev sm_ss (G : sm_G) : Nat → Nat := G.2.2.2.2.2
def sm_ty : List FieldType := [.int, .long, .boolean, .char, .object RX3, .object RX2, .object RX0]
def sm_tys (G : sm_G) : List (ClassId × FieldType) := [(sm_c G 0, .int), (sm_c G 1, .long), (sm_c G 2, .boolean), (sm_c G 3, .char), (sm_c G 4, .object RX3), (sm_c G 5, .object RX2), (sm_c G 6, .object RX0)]
def sm_A (G : sm_G) : Nat → Prop := fun q => sm_B G ≤ q
def sm_R (G : sm_G) (h : sm_H) (H : Heap) : Prop := ∀ a e, h a = some e → (a = 0 → ∃ n, e = .inr (n, []) ∧ H.size = n) ∧ (a ≠ 0 → sm_B G ≤ a ∧ va_at G.2.1 vwCl (a, e) H)
def sm_up (h : sm_H) (a : Nat) (e : va_E) : sm_H := fun b => if b = a then some e else h b
/-- a new cell at n, the heap's size -/
def sm_nw (h : sm_H) (n : Nat) (e : va_E) : sm_H := fun b => if b = 0 then some (.inr (n + 1, [])) else if b = n then some e else h b
/-- the size isn't known any more -/
def sm_fg (h : sm_H) : sm_H := fun b => if b = 0 then none else h b
abbrev sm_ai (G : sm_G) (n : Nat) (f : Nat → Int32) : va_E := .inl (sm_c G 0, n, .inl f)
abbrev sm_aj (G : sm_G) (n : Nat) (f : Nat → Int64) : va_E := .inl (sm_c G 1, n, .inr (.inl f))
abbrev sm_az (G : sm_G) (n : Nat) (f : Nat → Int32) : va_E := .inl (sm_c G 2, n, .inl f)
abbrev sm_ac (G : sm_G) (n : Nat) (f : Nat → Int32) : va_E := .inl (sm_c G 3, n, .inl f)
abbrev sm_ar (G : sm_G) (k n : Nat) (f : Nat → Option Nat) : va_E := .inl (sm_c G k, n, .inr (.inr (.inr (.inr f))))
/-- a class of ours: its place, its name, its fields -/
def sm_cl (ci : Nat) (C : String) (T : u_T) (N : Nat) (ty : Nat → FieldType) : Prop := vwCl[ci]? = some (C, T, N) ∧ (∀ w ∈ u_ws C T N, w ∈ sm_tbl) ∧ (∀ k, k < N → parseFieldDescriptor (T k).2.2.1 = some (ty k)) ∧ ∀ a, a < N → ∀ b, b < N → a ≠ b → (T a).2.1 ≠ (T b).2.1
def sm_sts : List (String × List Int32) := [("LOSING_ORDER", [1, 0, 2]), ("LEAST_SETTING", [1, 0, 1]), ("FIRST_SETTING", [6, 1, 2]), ("GREATEST_SETTING", [12, 5, 3]), ("PLACING_PLACES", [0, 1, 2, 2, 2, 3, 3, 3, 3, 3, 3, 3, 3, 3, 4, 5]), ("PLACING_CHOICES", [0, 0, 1, 2, 3, 1, 2, 3, 11, 12, 13, 21, 22, 23, 0, 0]), ("FIRST_PRICE", [3, 3, 6])]
def sm_nestw (w : Cond) : Bool := match w with
  | .fieldLinkNest .. => true
  | .methodLinkNest .. => true
  | .castable .. => true
  | _ => false
def sm_nest : List Cond := lw_tbl.filter sm_nestw
def sm_nocast : List (String × String) := [("java/lang/IllegalStateException", "java/lang/IllegalArgumentException"), ("java/lang/IllegalArgumentException", "java/lang/IndexOutOfBoundsException"), ("java/lang/IllegalStateException", "java/lang/IndexOutOfBoundsException")]
def sm_strs : List (Nat × String) := [(43, "a character code is 0 to 255"), (54, "the text is full"), (65, "the text is not a game"), (108, "what is 0 to 11"), (118, "there is no such player"), (121, "what is 0 to 8"), (132, "there is no such place"), (134, "k is 0 or more"), (148, "what is 0 to 2"), (154, "players are 2 to 4"), (166, "the place has no such choice"), (171, "the placing is not possible"), (179, "there is no turn"), (190, "there is no such setting or value"), (195, "no state is remembered"), (222, "what is 0 to 4"), (236, "n is 1 to 12"), (251, "n is 1 to 3"), (257, "a script has at most 4 * n digits"), (277, "m is 1 to 80"), (292, "there is no such save slot"), (294, "nothing has been saved in this slot")]
/-- what is known of the launch in a state -/
def sm_K (G : sm_G) (U : State) : Prop :=
  va_K G.2.1 vwCl (sm_tys G) U ∧ (∀ w ∈ sm_nest, va_Nw w U) ∧ (∀ q ∈ sm_nocast, va_Nc q.1 q.2 U) ∧
  (∀ (i : Nat) (q : String × List Int32), sm_sts[i]? = some q → va_Z RX5 q.1 "[I" (.ref (sm_sa G i)) (sm_A G) U U.heap ∧ va_T .int (sm_sa G i) q.2.length (fun j => .int (q.2.getD j 0)) (sm_A G) U U.heap) ∧
  (∀ (i : Nat) (q : Nat × String), sm_strs[i]? = some q → vk_R RX5 q.1 q.2 (sm_ss G i) U) ∧
  vx_Zq Bundle.tN "UNASSIGNED_STACK" Bundle.steD (sm_A G) U U.heap ∧ vx_Zq Bundle.tN "SUPPRESSED_SENTINEL" Bundle.listD (sm_A G) U U.heap ∧ (∀ C ∈ [RX3, RX2, RX0], va_AO C U) ∧ G.1.stackTraces = false ∧ 0 < sm_B G
theorem sm_nest_go {s U : State} (hW : s.WarmedH U.vm) {w : Cond} (h : sm_nestw w = true) (hw : va_Nw w s) : va_Nw w U := by
  cases w <;> first | exact absurd h Bool.false_ne_true | exact va_Nw.warmF hW hw | exact va_Nw.warmM hW hw | exact va_Nw.warmC hW hw
theorem sm_K_go {G : sm_G} {s T : State} {H : Heap} {locs : List Loc} (hK : sm_K G s) (hW : s.WarmedH T.vm) (hT : T.heap = H) (hS : va_S (sm_A G) s.heap H locs) : sm_K G T := by
  obtain ⟨k1, k2, k3, k4, k5, k6, k7, k8, k9, k10⟩ := hK
  have hv := hW.alike
  subst hT
  have hq : ∀ a : Nat, a < s.heap.size → ¬ sm_A G a → T.heap[a]? = s.heap[a]? := hS.2.1
  exact ⟨k1.moved hv, fun w h => sm_nest_go hW (List.mem_filter.mp h).2 (k2 w h), fun q h => (k3 q h).moved hv, fun i q h => ⟨((k4 i q h).1.kept hq).moved hv, ((k4 i q h).2.kept hq).moved hv⟩,
    fun i q h => (k5 i q h).warm hW, vx_Zq.moved hv (k6.kept hq), vx_Zq.moved hv (k7.kept hq), fun C h => (k8 C h).moved hv, k9, k10⟩
theorem sm_R_set {G : sm_G} {h : sm_H} {H H1 : Heap} {a : Nat} {e : va_E} (hR : sm_R G h H) (h0 : a ≠ 0) (hB : sm_B G ≤ a) (he : va_at G.2.1 vwCl (a, e) H1) (z : H1.size = H.size) (oq : ∀ q : Nat, q ≠ a → H1[q]? = H[q]?) : sm_R G (sm_up h a e) H1 := by
  intro b e' hb
  unfold sm_up at hb
  by_cases hba : b = a
  · rw [if_pos hba] at hb
    cases hb
    subst hba
    exact ⟨fun q => absurd q h0, fun _ => ⟨hB, he⟩⟩
  · rw [if_neg hba] at hb
    obtain ⟨r1, r2⟩ := hR b e' hb
    exact ⟨fun q => by rw [z]; exact r1 q, fun q => ⟨(r2 q).1, (r2 q).2.kept (oq b hba)⟩⟩
theorem sm_R_kept {G : sm_G} {h : sm_H} {H H1 : Heap} (hR : sm_R G h H) (oq : ∀ q : Nat, q < H.size → H1[q]? = H[q]?) : sm_R G (sm_fg h) H1 := by
  intro b e' hb
  unfold sm_fg at hb
  by_cases h0 : b = 0
  · rw [if_pos h0] at hb; cases hb
  · rw [if_neg h0] at hb
    obtain ⟨-, r2⟩ := hR b e' hb
    exact ⟨fun q => absurd q h0, fun q => ⟨(r2 q).1, (r2 q).2.kept (oq b (r2 q).2.lt)⟩⟩
theorem sm_R_new {G : sm_G} {h : sm_H} {H H1 : Heap} {n : Nat} {e : va_E} (hR : sm_R G h H) (hn : h 0 = some (.inr (n, []))) (h0 : n ≠ 0) (hB : sm_B G ≤ n) (he : va_at G.2.1 vwCl (n, e) H1) (z : H1.size = n + 1) (oq : ∀ q : Nat, q < H.size → H1[q]? = H[q]?) : sm_R G (sm_nw h n e) H1 := by
  intro b e' hb
  unfold sm_nw at hb
  by_cases hb0 : b = 0
  · rw [if_pos hb0] at hb
    cases hb
    exact ⟨fun _ => ⟨_, rfl, z⟩, fun q => absurd hb0 q⟩
  · rw [if_neg hb0] at hb
    by_cases hbn : b = n
    · rw [if_pos hbn] at hb
      cases hb
      subst hbn
      exact ⟨fun q => absurd q hb0, fun _ => ⟨hB, he⟩⟩
    · rw [if_neg hbn] at hb
      obtain ⟨-, r2⟩ := hR b e' hb
      exact ⟨fun q => absurd q hb0, fun q => ⟨(r2 q).1, (r2 q).2.kept (oq b (r2 q).2.lt)⟩⟩
theorem sm_R_size {G : sm_G} {h : sm_H} {H : Heap} {n : Nat} (hR : sm_R G h H) (hn : h 0 = some (.inr (n, []))) : H.size = n := by
  obtain ⟨r1, -⟩ := hR 0 _ hn
  obtain ⟨k, e1, e2⟩ := r1 rfl
  cases e1
  exact e2
theorem sm_R_at {G : sm_G} {h : sm_H} {H : Heap} {a : Nat} {e : va_E} (hR : sm_R G h H) (he : h a = some e) (h0 : a ≠ 0) : sm_B G ≤ a ∧ va_at G.2.1 vwCl (a, e) H := (hR a e he).2 h0
theorem sm_R_ne {G : sm_G} {h : sm_H} {H : Heap} {a ci k : Nat} {fs : List Value} {v : Value} (hR : sm_R G h H) (he : h a = some (.inr (ci, fs))) (hv : fs[k]? = some v) : a ≠ 0 := by
  intro h0
  obtain ⟨n, e1, -⟩ := (hR a _ he).1 h0
  cases e1
  simp at hv
theorem sm_R_na {G : sm_G} {h : sm_H} {H : Heap} {a : Nat} {x : ClassId × vp_A} (hR : sm_R G h H) (he : h a = some (.inl x)) : a ≠ 0 := by
  intro h0
  obtain ⟨n, e1, -⟩ := (hR a _ he).1 h0
  cases e1
/-- a method: its name, its code, its locals, what it returns, its handlers -/
abbrev sm_M : Type := MethodName × ByteArray × Nat × Option FieldType × List (Nat × Nat × Nat × Nat)
def sm_hd (M : sm_M) : Cond := match M.2.2.2.2 with
  | [] => .code M.1 M.2.1 M.2.2.1 M.2.2.2.1
  | hh => .codeWith M.1 M.2.1 M.2.2.1 M.2.2.2.1 hh
def sm_ws (M : sm_M) : List Cond := sm_hd M :: sm_tbl
def sm_rm (d mc ms : Nat) : Room := { frames := d, cells := mc, slots := ms, locals := 30 * d }
/-- how a call ends: a value or nothing, or the class of what it threw -/
abbrev sm_O : Type := Option Value ⊕ String
abbrev sm_Q : Type := sm_O → sm_H → Prop
def sm_Qc (G : sm_G) (Q : sm_Q) : Array Value → State → Outcome → State → Prop := fun _ st o t => (∃ (v : Option Value) (h' : sm_H), o = .returned v ∧ Q (.inl v) h' ∧ sm_R G h' t.heap) ∧ va_F (sm_A G) st t
def sm_XC (G : sm_G) (Q : sm_Q) : String → State → State → Prop := fun E st t => (∃ h' : sm_H, Q (.inr E) h' ∧ sm_R G h' t.heap) ∧ va_F (sm_A G) st t
def sm_E (G : sm_G) (M : sm_M) (p : Program) (s : State) (m : MethodId) (args : Array Value) (meth : Method) (c : Code) : Prop :=
  p.tables.exec = Jvm.exec ∧ c.code = M.2.1 ∧ meth.sig.returnType = M.2.2.2.1 ∧ c.maxLocals = M.2.2.1 ∧ s.vm.findClass M.1.cls = some m.cls ∧ (∀ w ∈ sm_tbl, w.before args s = true) ∧ meth.locks = false ∧ c.exceptionTable.toList = tableOf M.2.2.2.2 ∧ sm_K G s ∧ sm_B G ≤ s.heap.size ∧ meth.name = M.1.name
/-- what a walk is to reach: behind these frames, with these arguments, from this start -/
abbrev sm_Z : Type := List Frame → Array Value → State → State → Prop
def sm_Zm (G : sm_G) (Q : sm_Q) (mc ms : Nat) : sm_Z := fun below args s => vx_MQ below (sm_Qc G Q) (sm_XC G Q) args s mc ms (sm_A G)
/-- from here, at pc with these locals and this stack over this heap, the method comes to what Z tells -/
def sm_V (G : sm_G) (M : sm_M) (R : Room) (Z : sm_Z) (cells slots pc : Nat) (lv : List (Nat × Value)) (st : List Value) (h : sm_H) : Prop :=
  ∀ (p : Program) (e : Env) (s : State) (m : MethodId) (args : Array Value) (below : List Frame) (meth : Method) (c : Code) (H : Heap) (locs : List Loc) (ls : Array Slot),
    sm_E G M p s m args meth c → va_S (sm_A G) s.heap H locs → sm_R G h H → lv_has ls M.2.2.1 lv →
    W p G.1 e R s m args below meth c H locs cells slots (Z below args s) (F0 m pc ls st)
/-- a thrown object is over the frame -/
def sm_VX (G : sm_G) (M : sm_M) (R : Room) (Z : sm_Z) (cells slots pc : Nat) (lv : List (Nat × Value)) (E : String) (h : sm_H) : Prop :=
  ∀ (p : Program) (e : Env) (s : State) (m : MethodId) (args : Array Value) (below : List Frame) (meth : Method) (c : Code) (H : Heap) (locs : List Loc) (ls : Array Slot) (q : Addr) (ce : Cell) (rest : List Value),
    sm_E G M p s m args meth c → va_S (sm_A G) s.heap H locs → sm_R G h H → lv_has ls M.2.2.1 lv → H[q]? = some ce → ce.vm = .none → s.vm.findClass E = some ce.cls →
    vx_W p G.1 e R s m args below meth c H locs cells slots (Z below args s) (F0 m pc ls rest) q
/-- a method's contract: called with these arguments over this heap -/
def sm_C (G : sm_G) (M : sm_M) (d mc ms : Nat) (As : List Value) (h : sm_H) (Q : sm_Q) : Prop := sm_V G M (sm_rm d mc ms) (sm_Zm G Q mc ms) 0 0 0 (lv_args 0 As) [] h
/-- the contract whose end is one outcome and one heap -/
def sm_F (G : sm_G) (M : sm_M) (d : Nat) (As : List Value) (h : sm_H) (r : sm_O) (h' : sm_H) : Prop := sm_C G M d 0 0 As h (fun r1 h1 => r1 = r ∧ h1 = h')

theorem sm_u0 : ∀ k, k < 16 → u_lay RX0 TX0 k ∈ sm_tbl := by
  intro k hk
  match k, hk with
  | 0, _ => exact sm_tb 173 (by decide +kernel) rfl
  | 1, _ => exact sm_tb 175 (by decide +kernel) rfl
  | 2, _ => exact sm_tb 177 (by decide +kernel) rfl
  | 3, _ => exact sm_tb 179 (by decide +kernel) rfl
  | 4, _ => exact sm_tb 181 (by decide +kernel) rfl
  | 5, _ => exact sm_tb 183 (by decide +kernel) rfl
  | 6, _ => exact sm_tb 185 (by decide +kernel) rfl
  | 7, _ => exact sm_tb 187 (by decide +kernel) rfl
  | 8, _ => exact sm_tb 189 (by decide +kernel) rfl
  | 9, _ => exact sm_tb 191 (by decide +kernel) rfl
  | 10, _ => exact sm_tb 193 (by decide +kernel) rfl
  | 11, _ => exact sm_tb 195 (by decide +kernel) rfl
  | 12, _ => exact sm_tb 197 (by decide +kernel) rfl
  | 13, _ => exact sm_tb 199 (by decide +kernel) rfl
  | 14, _ => exact sm_tb 201 (by decide +kernel) rfl
  | 15, _ => exact sm_tb 203 (by decide +kernel) rfl
  | k + 16, h => exact absurd h (by omega)
theorem sm_cl0 : sm_cl 0 RX0 TX0 16 tyX0 := ⟨rfl, fun w hw => by obtain ⟨k, hk, rfl⟩ := List.mem_map.mp hw; exact sm_u0 k (List.mem_range.mp hk), tyX0_ok, nmX0⟩
theorem sm_u1 : ∀ k, k < 3 → u_lay RX1 TX1 k ∈ sm_tbl := by
  intro k hk
  match k, hk with
  | 0, _ => exact sm_tb 219 (by decide +kernel) rfl
  | 1, _ => exact sm_tb 221 (by decide +kernel) rfl
  | 2, _ => exact sm_tb 223 (by decide +kernel) rfl
  | k + 3, h => exact absurd h (by omega)
theorem sm_cl1 : sm_cl 1 RX1 TX1 3 tyX1 := ⟨rfl, fun w hw => by obtain ⟨k, hk, rfl⟩ := List.mem_map.mp hw; exact sm_u1 k (List.mem_range.mp hk), tyX1_ok, nmX1⟩
theorem sm_u2 : ∀ k, k < 2 → u_lay RX2 TX2 k ∈ sm_tbl := by
  intro k hk
  match k, hk with
  | 0, _ => exact sm_tb 138 (by decide +kernel) rfl
  | 1, _ => exact sm_tb 140 (by decide +kernel) rfl
  | k + 2, h => exact absurd h (by omega)
theorem sm_cl2 : sm_cl 2 RX2 TX2 2 tyX2 := ⟨rfl, fun w hw => by obtain ⟨k, hk, rfl⟩ := List.mem_map.mp hw; exact sm_u2 k (List.mem_range.mp hk), tyX2_ok, nmX2⟩
theorem sm_u3 : ∀ k, k < 6 → u_lay RX3 TX3 k ∈ sm_tbl := by
  intro k hk
  match k, hk with
  | 0, _ => exact sm_tb 115 (by decide +kernel) rfl
  | 1, _ => exact sm_tb 117 (by decide +kernel) rfl
  | 2, _ => exact sm_tb 119 (by decide +kernel) rfl
  | 3, _ => exact sm_tb 121 (by decide +kernel) rfl
  | 4, _ => exact sm_tb 123 (by decide +kernel) rfl
  | 5, _ => exact sm_tb 125 (by decide +kernel) rfl
  | k + 6, h => exact absurd h (by omega)
theorem sm_cl3 : sm_cl 3 RX3 TX3 6 tyX3 := ⟨rfl, fun w hw => by obtain ⟨k, hk, rfl⟩ := List.mem_map.mp hw; exact sm_u3 k (List.mem_range.mp hk), tyX3_ok, nmX3⟩
theorem sm_u4 : ∀ k, k < 2 → u_lay RX4 TX4 k ∈ sm_tbl := by
  intro k hk
  match k, hk with
  | 0, _ => exact sm_tb 83 (by decide +kernel) rfl
  | 1, _ => exact sm_tb 85 (by decide +kernel) rfl
  | k + 2, h => exact absurd h (by omega)
theorem sm_cl4 : sm_cl 4 RX4 TX4 2 tyX4 := ⟨rfl, fun w hw => by obtain ⟨k, hk, rfl⟩ := List.mem_map.mp hw; exact sm_u4 k (List.mem_range.mp hk), tyX4_ok, nmX4⟩
theorem sm_u5 : ∀ k, k < 6 → u_lay RX5 TX5 k ∈ sm_tbl := by
  intro k hk
  match k, hk with
  | 0, _ => exact sm_tb 232 (by decide +kernel) rfl
  | 1, _ => exact sm_tb 234 (by decide +kernel) rfl
  | 2, _ => exact sm_tb 236 (by decide +kernel) rfl
  | 3, _ => exact sm_tb 238 (by decide +kernel) rfl
  | 4, _ => exact sm_tb 240 (by decide +kernel) rfl
  | 5, _ => exact sm_tb 242 (by decide +kernel) rfl
  | k + 6, h => exact absurd h (by omega)
theorem sm_cl5 : sm_cl 5 RX5 TX5 6 tyX5 := ⟨rfl, fun w hw => by obtain ⟨k, hk, rfl⟩ := List.mem_map.mp hw; exact sm_u5 k (List.mem_range.mp hk), tyX5_ok, nmX5⟩
theorem sm_u6 : ∀ k, k < 24 → u_lay RX6 TX6 k ∈ sm_tbl := by
  intro k hk
  match k, hk with
  | 0, _ => exact sm_tb 879 (by decide +kernel) rfl
  | 1, _ => exact sm_tb 881 (by decide +kernel) rfl
  | 2, _ => exact sm_tb 883 (by decide +kernel) rfl
  | 3, _ => exact sm_tb 885 (by decide +kernel) rfl
  | 4, _ => exact sm_tb 887 (by decide +kernel) rfl
  | 5, _ => exact sm_tb 889 (by decide +kernel) rfl
  | 6, _ => exact sm_tb 891 (by decide +kernel) rfl
  | 7, _ => exact sm_tb 893 (by decide +kernel) rfl
  | 8, _ => exact sm_tb 895 (by decide +kernel) rfl
  | 9, _ => exact sm_tb 897 (by decide +kernel) rfl
  | 10, _ => exact sm_tb 899 (by decide +kernel) rfl
  | 11, _ => exact sm_tb 901 (by decide +kernel) rfl
  | 12, _ => exact sm_tb 903 (by decide +kernel) rfl
  | 13, _ => exact sm_tb 905 (by decide +kernel) rfl
  | 14, _ => exact sm_tb 907 (by decide +kernel) rfl
  | 15, _ => exact sm_tb 909 (by decide +kernel) rfl
  | 16, _ => exact sm_tb 911 (by decide +kernel) rfl
  | 17, _ => exact sm_tb 913 (by decide +kernel) rfl
  | 18, _ => exact sm_tb 915 (by decide +kernel) rfl
  | 19, _ => exact sm_tb 917 (by decide +kernel) rfl
  | 20, _ => exact sm_tb 919 (by decide +kernel) rfl
  | 21, _ => exact sm_tb 921 (by decide +kernel) rfl
  | 22, _ => exact sm_tb 923 (by decide +kernel) rfl
  | 23, _ => exact sm_tb 925 (by decide +kernel) rfl
  | k + 24, h => exact absurd h (by omega)
theorem sm_cl6 : sm_cl 6 RX6 TX6 24 tyX6 := ⟨rfl, fun w hw => by obtain ⟨k, hk, rfl⟩ := List.mem_map.mp hw; exact sm_u6 k (List.mem_range.mp hk), tyX6_ok, nmX6⟩
