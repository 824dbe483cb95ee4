/-! ===== THROWS (2): what a throw wants of the state; the contract of a method that throws ===== -/
def x_RT : String := "java/lang/RuntimeException"
def x_Ex : String := "java/lang/Exception"
def x_IA : String := "java/lang/IllegalArgumentException"
def x_IS : String := "java/lang/IllegalStateException"
def x_NS : String := "java/util/NoSuchElementException"
def kFw : List Cond := [.declares (Bundle.initS x_RT), .declares (Bundle.initS x_Ex), .declares (Bundle.initS Bundle.tN), .castable x_IA x_IA, .castable x_IS x_IS, .castable x_NS x_NS]
theorem kFw_ok : ∀ w ∈ kFw, w.onTables = true ∧ w.keepsFace = true := by
  intro w hw
  simp only [kFw, List.mem_cons, List.not_mem_nil, or_false] at hw
  rcases hw with rfl | rfl | rfl | rfl | rfl | rfl <;> exact ⟨rfl, rfl⟩
theorem kFw_warm {s U : State} {A A' : Array Value} (hW : s.WarmedH U.vm) {w : Cond} (ho : w.onTables = true) (hk : w.keepsFace = true) (h : w.before A s = true) : w.before A' U = true := by
  have h1 : w.before A (s.setVm U.vm) = true := Cond.before_shiftedFace (State.Shifted.of_warmed hW) w hk h
  rw [Cond.onTables_vm (A' := A') (U' := U) U.vm w ho, State.setVm_self] at h1
  exact h1
def k_Ls (C n d : String) (A : Nat → Prop) (U : State) (H : Heap) : Prop := ∃ (c : ClassId) (k : Class) (i : Nat) (f : Field) (a : Nat) (cell : Cell), U.vm.findClass C = some c ∧ U.fieldFound? C n d = some (c, k, i, f) ∧ f.isStatic = true ∧ k.statics = some a ∧ H[a]? = some cell ∧ cell.vm.isStatics = true ∧ cell.cls = c ∧ f.slot < cell.slots.size ∧ k.staticTypes[f.slot]? = some f.type ∧ ¬ A a
theorem k_Ls.moved {C n d : String} {A : Nat → Prop} {u U : State} {H : Heap} (hvm : u.vm.Alike U.vm) (h : k_Ls C n d A u H) : k_Ls C n d A U H := by
  obtain ⟨c, k, i, f, a, cell, h0, h1, h2, h3, h4, h5, h6, h7, h8, h9⟩ := h
  obtain ⟨k', hi', he⟩ := State.fieldFound?_setVm hvm h1
  exact ⟨c, k', i, f, a, cell, by rw [hvm.findClass]; exact h0, hi', h2, by rw [he]; exact h3, h4, h5, h6, h7, by rw [he]; exact h8, h9⟩
theorem k_Ls.kept {C n d : String} {A : Nat → Prop} {U : State} {H H1 : Heap} (h : k_Ls C n d A U H) (hq : ∀ a : Nat, a < H.size → ¬ A a → H1[a]? = H[a]?) : k_Ls C n d A U H1 := by
  obtain ⟨c, k, i, f, a, cell, h0, h1, h2, h3, h4, h5, h6, h7, h8, h9⟩ := h
  exact ⟨c, k, i, f, a, cell, h0, h1, h2, h3, by rw [hq a (Array.getElem?_eq_some_iff.mp h4).1 h9]; exact h4, h5, h6, h7, h8, h9⟩
theorem k_Ls.of {C n d : String} {A : Nat → Prop} {args : Array Value} {s : State} (h : (Cond.laysStatic C n d).before args s = true) (hA : ∀ a : Nat, a < s.heap.size → ¬ A a) : k_Ls C n d A s s.heap := by
  obtain ⟨c, k, i, f, a, cell, h0, h1, h2, h3, h4, h5, h6, h7, h8⟩ := Cond.laysStatic_spec h
  exact ⟨c, k, i, f, a, cell, h0, h1, h2, h3, h4, h5, h6, h7, h8, hA a (Array.getElem?_eq_some_iff.mp h4).1⟩
theorem k_Ls.word {C n d : String} {A : Nat → Prop} {args : Array Value} {U : State} (h : k_Ls C n d A U U.heap) : (Cond.laysStatic C n d).before args U = true := by
  obtain ⟨c, k, i, f, a, cell, h0, h1, h2, h3, h4, h5, h6, h7, h8, h9⟩ := h
  simp [Cond.before, Cond.holds, Cond.value, h0, h1, h2, h3, h4, h5, h6, h7, h8]
def k_Th (h0 : Nat) (U : State) : Prop := h0 ≤ U.heap.size ∧ (∀ w ∈ kFw, w.before #[] U = true) ∧ ((∃ q, vk_R "GuestKernel" 71 "a number out of range" q U) ∧ (∃ q, vk_R "GuestKernel" 185 "the guest is absent" q U) ∧ ∃ q, vk_R "GuestKernel" 190 "stuck: every guest that lives is blocked" q U) ∧
  va_Zq Bundle.tN "UNASSIGNED_STACK" Bundle.steD (fun q => h0 ≤ q) U U.heap ∧ va_Zq Bundle.tN "SUPPRESSED_SENTINEL" Bundle.listD (fun q => h0 ≤ q) U U.heap ∧ va_Nc x_IS x_IA U ∧ va_Nc x_NS x_IA U ∧ k_Ls Bundle.tN "UNASSIGNED_STACK" Bundle.steD (fun q => h0 ≤ q) U U.heap ∧ k_Ls Bundle.tN "SUPPRESSED_SENTINEL" Bundle.listD (fun q => h0 ≤ q) U U.heap
theorem k_Th.moved {h0 : Nat} {s U : State} (h : k_Th h0 s) (hW : s.WarmedH U.vm) (hsz : h0 ≤ U.heap.size) (hq : ∀ a : Nat, a < h0 → U.heap[a]? = s.heap[a]?) : k_Th h0 U := by
  obtain ⟨-, h2, ⟨⟨q1, h3⟩, ⟨q2, h4⟩, ⟨q3, h5⟩⟩, h6, h7, h8, h9, h10, h11⟩ := h
  have hk : ∀ a : Nat, a < s.heap.size → ¬ h0 ≤ a → U.heap[a]? = s.heap[a]? := fun a _ q => hq a (Nat.lt_of_not_le q)
  exact ⟨hsz, fun w hw => kFw_warm hW (kFw_ok w hw).1 (kFw_ok w hw).2 (h2 w hw), ⟨⟨q1, h3.warm hW⟩, ⟨q2, h4.warm hW⟩, ⟨q3, h5.warm hW⟩⟩, (va_Zq.moved hW.alike h6).kept hk, (va_Zq.moved hW.alike h7).kept hk, va_Nc.moved hW.alike h8, va_Nc.moved hW.alike h9, (k_Ls.moved hW.alike h10).kept hk, (k_Ls.moved hW.alike h11).kept hk⟩
theorem va_Zq.isRef {C n d : String} {A : Nat → Prop} {args : Array Value} {U : State} (h : va_Zq C n d A U U.heap) : (Cond.isRef (.static C n d)).before args U = true := by
  rcases h with h | ⟨t, h⟩
  · obtain ⟨cf, kf, fi, f, a, cell, h1, h2, h3, h4, h5, h6, h7, -⟩ := h
    simp [Cond.before, Cond.holds, Cond.value, Term.eval, State.fieldNamed?, h1, h2, h4, h5, h6, h7]
  · obtain ⟨cf, kf, fi, f, a, cell, h1, h2, h3, h4, h5, h6, h7, -⟩ := h
    simp [Cond.before, Cond.holds, Cond.value, Term.eval, State.fieldNamed?, h1, h2, h4, h5, h6, h7]
def k_Lo (S : kS) (G : kG) (h0 : Nat) : Prop := ∀ (f c : Nat) (k : kF) (i : Nat), S.2.2[f]? = some (c, k) → i < c → h0 ≤ G.2.2 f i
def k_PcT (S : kS) (G : kG) (h0 : Nat) (args : List Value) (K : kM) (sz : Nat) : Array Value → State → Prop := va_Pc args (fun U => (U.heap.size = sz ∧ k_H S G K U.heap ∧ k_T S G U ∧ k_I S G) ∧ k_Th h0 U ∧ k_Lo S G h0)
def k_Qt (S : kS) (G : kG) (Xn : String) (K2 : kM) (A : Nat → Prop) : Array Value → State → Outcome → State → Prop := fun _ st o t => ∃ (x : Nat) (ce : Cell), o = .threw x ∧ t.heap[x]? = some ce ∧ ce.vm = .none ∧ st.vm.findClass Xn = some ce.cls ∧ k_H S G K2 t.heap ∧ va_F A st t ∧
  ∃ L : List Loc, st.WarmedH t.vm ∧ st.sameButNew ({ t with vm := st.vm } : State) L 1 6 ∧ ∀ q ∈ L, A q.base
/-- the contract of a method that throws an object of the named kind, the memory then K2 -/
def k_MetT (l : Launch) (S : kS) (Ts : List Cond) (y : MethodName) (cc : ByteArray) (nL : Nat) (ret : Option FieldType) (rm : Room) (G : kG) (h0 : Nat) (args : List Value) (K : kM) (Xn : String) (K2 : kM) : Prop :=
  ∀ sz : Nat, MetFree l y (headSpec (.code y cc nL ret :: Ts) rm) (k_PcT S G h0 args K sz) (fun _ _ _ _ _ => True) (k_Qt S G Xn K2 (k_A S G sz))
def k_rt (d : Nat) : Room := { frames := d, cells := 1, slots := 6, locals := 36 * d }
/-- the end of a walk that throws -/
def k_Et (X : kX) (h0 : Nat) (Xn : String) (K2 : kM) : Prop := match X with
  | (_, _, _, _, s, _, args, below, meth, c, Q, S, G, A, _) => Q = (fun t => ∃ o, t.status = .running ∧ Ended t below o ∧ k_Qt S G Xn K2 A args s o t) ∧ A = k_A S G s.heap.size ∧ meth.locks = false ∧ c.exceptionTable.toList = [] ∧ k_Th h0 s ∧ k_Lo S G h0 ∧
    ∀ (f c : Nat) (k : kF) (i : Nat), S.2.2[f]? = some (c, k) → i < c → ∀ cell, s.heap[G.2.2 f i]? = some cell → cell.vm.isStatics = false
theorem k_vm {S : kS} {G : kG} {K : kM} {H : Heap} (h : k_H S G K H) {f c i : Nat} {k : kF} (hf : S.2.2[f]? = some (c, k)) (hi : i < c) {cell : Cell} (hc : H[G.2.2 f i]? = some cell) : cell.vm.isStatics = false := by
  have h1 := h f c k i hf hi
  rcases k with q | q | q
  · obtain ⟨r, h2, cell', q1, q2, q3, q4⟩ := h1
    cases hc.symm.trans q1
    first | (rw [q3]; rfl) | (cases hv : cell.vm <;> simp_all)
  · have h2 : H[G.2.2 f i]? = some (vp_cell (G.2.1 q.1) (q.2, .inl (K f i))) := h1
    cases hc.symm.trans h2
    rfl
  · have h2 : H[G.2.2 f i]? = some (vp_cell (G.2.1 q.1) (q.2.1, .inr (.inr (.inr (.inr (fun j => (q.2.2 i j).map (fun r => G.2.2 r.1 r.2))))))) := h1
    cases hc.symm.trans h2
    rfl
theorem k_introT {l : Launch} {S : kS} {Ts : List Cond} {y : MethodName} {cc : ByteArray} {nL : Nat} {ret : Option FieldType} {rm : Room} {G : kG} {h0 : Nat} {args : List Value} {K : kM} {Xn : String} {K2 : kM}
    (hy : plainFor y = true) (hc : (lv_args 0 args).all (fun q => q.2.category == 1) = true) (hn : (lg_sl args).length ≤ nL)
    (body : ∀ X : kX, k_C X Ts cc y.cls S G nL l rm → k_Et X h0 Xn K2 → k_W X 0 0 0 (lv_args 0 args) [] K) : k_MetT l S Ts y cc nL ret rm G h0 args K Xn K2 := by
  intro sz
  refine MetFree.of_bodySF (code := cc) (maxLocals := nL) (ret := ret) hy ?_ ?_
  · intro a s m h hn
    obtain ⟨meth, c, h1, h2, h3, h4, h5, h6, -, -⟩ := Cond.code_spec hn (atoms_spec (ws := .code y cc nL ret :: Ts) h _ List.mem_cons_self)
    exact ⟨meth, c, h1, h2, h3, h4, h5, h6⟩
  · intro p e s m args' below meth c s₁ B hml hv _
    have hts := atoms_spec (ws := .code y cc nL ret :: Ts) B.pre
    obtain ⟨meth', c', g1, g2, -, -, -, -, g7, -⟩ := Cond.code_spec B.named (hts _ List.mem_cons_self)
    cases B.method.symm.trans g1
    have hcc : c' = c := by
      have z := B.here.code
      rw [State.code?_eq] at z
      have z2 : s₁.vm.method? m = some meth := by rw [B.state]; exact B.method
      rw [z2] at z
      exact Option.some.inj (g2.symm.trans z)
    subst hcc
    have hexc : c'.exceptionTable.toList = [] := by
      have := g7
      simp only [Array.isEmpty_iff] at this
      rw [this]
    obtain ⟨rfl, ⟨hsz, hH, hT, hI⟩, hTh, hLo⟩ := hv
    have hown : s.vm.findClass y.cls = some m.cls := findClass_of_methodNamed B.named
    subst hsz
    have hl := lv_entry args (n := nL) hn
    have hh0 : s₁.heap = s.heap := by rw [B.state]; rfl
    have key := body (p, l, e, rm, s, m, args.toArray, below, meth, c', (fun t => ∃ o, t.status = .running ∧ Ended t below o ∧ k_Qt S G Xn K2 (k_A S G s.heap.size) args.toArray s o t), S, G, k_A S G s.heap.size, nL)
      ⟨rfl, rfl, rfl, rfl, rfl, B.exec, B.bytes, hml, hown, fun w hw => hts w (List.mem_cons_of_mem _ hw), hT, hI, fun q h => Or.inr h, fun f c k i hf hi => Or.inl ⟨f, c, k, i, hf, hi, rfl⟩⟩
      ⟨rfl, rfl, B.notSynchronized, hexc, hTh, hLo, fun f c k i hf hi cell hcell => k_vm hH hf hi hcell⟩ s.heap [] _ hH va_S.rf (k_has.of hl (fun q hq => by simpa using List.all_eq_true.mp hc q hq))
    rw [← lg_entry_eq] at key
    obtain ⟨t, a1, o, b1, b2, b3⟩ := key s₁ hh0 (Stand.of_body B)
    exact ⟨t, o, a1, b1, b2, b3⟩
