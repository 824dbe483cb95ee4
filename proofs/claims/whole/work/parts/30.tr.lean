/-! ===== THROWS (3): the row of 'throw new X(message)'; calls of a method that throws ===== -/
def k_txa (h0 : Nat) (Ts : List Cond) (own : String) (ic : Nat) (Xn Y : String) (ix : Nat) (bytes : ByteArray) (names : List String) : Prop :=
  ∀ a ∈ tw_atoms own ic Xn Y ix bytes names, a ∈ Ts ∨ a ∈ kFw ∨ a = .isRef (.static Bundle.tN "UNASSIGNED_STACK" Bundle.steD) ∨ a = .isRef (.static Bundle.tN "SUPPRESSED_SENTINEL" Bundle.listD) ∨ a = .laysStatic Bundle.tN "UNASSIGNED_STACK" Bundle.steD ∨ a = .laysStatic Bundle.tN "SUPPRESSED_SENTINEL" Bundle.listD
theorem k_txa.at {h0 : Nat} {Ts : List Cond} {own : String} {ic : Nat} {Xn Y : String} {ix : Nat} {bytes : ByteArray} {names : List String} (h : k_txa h0 Ts own ic Xn Y ix bytes names) {args : Array Value} {s : State} (hts : ∀ w ∈ Ts, w.before args s = true) (hT : k_Th h0 s) :
    ∀ a ∈ tw_atoms own ic Xn Y ix bytes names, a.before args s = true := by
  intro a ha
  rcases h a ha with h | h | rfl | rfl | rfl | rfl
  · exact hts a h
  · exact kFw_warm (State.WarmedH.refl s) (kFw_ok a h).1 (kFw_ok a h).2 (hT.2.1 a h)
  · exact va_Zq.isRef hT.2.2.2.1
  · exact va_Zq.isRef hT.2.2.2.2.1
  · exact k_Ls.word hT.2.2.2.2.2.2.2.1
  · exact k_Ls.word hT.2.2.2.2.2.2.2.2
theorem k_world_lt {S : kS} {G : kG} {K : kM} {H : Heap} (h : k_H S G K H) {f c i : Nat} {k : kF} (hf : S.2.2[f]? = some (c, k)) (hi : i < c) : G.2.2 f i < H.size := (h f c k i hf hi).lt
set_option maxHeartbeats 1000000 in
theorem k_throw {X : kX} {Ts : List Cond} {cc : ByteArray} {own : String} {S : kS} {G : kG} {nL : Nat} {l : Launch} {R : Room} {pc : Nat} {lv : List (Nat × Value)} {K : kM} (C : k_C X Ts cc own S G nL l R) {h0 : Nat} {Xn : String} (E : k_Et X h0 Xn K) (hfl : l.flags = flags0)
    {inx il ic ix : Nat} {Y tx : String} {bytes : ByteArray} {names : List String} (hd0 : decode cc pc = .ok (.new inx, 3)) (hd3 : decode cc (pc + 3) = .ok (.dup, 1)) (hd4 : decode cc (pc + 3 + 1) = .ok (.ldc il, 2)) (hd6 : decode cc (pc + 3 + 1 + 2) = .ok (.invokespecial ic, 3)) (hd9 : decode cc (pc + 3 + 1 + 2 + 3) = .ok (.athrow, 1))
    (hw1 : Cond.classLink own inx Xn ∈ Ts) (hw2 : Cond.instantiable Xn 6 ∈ Ts) (hw3 : Cond.initialized Xn ∈ Ts) (hstr : ∀ U, k_Th h0 U → ∃ q, vk_R own il tx q U) (hat : k_txa h0 Ts own ic Xn Y ix bytes names)
    (hcls : Bundle.fit Xn = true) (hY : Bundle.fit Y = true) (hnames : ∀ n ∈ names, Bundle.fit n = true)
    (b0 : decode bytes 0 = .ok (.aload_n 0, 1)) (b1 : decode bytes 1 = .ok (.aload_n 1, 1)) (b2 : decode bytes 2 = .ok (.invokespecial ix, 3)) (b5 : decode bytes 5 = .ok (.return_, 1))
    (hR : 1 ≤ R.cells ∧ 6 ≤ R.slots ∧ names.length + 1 + 3 < R.frames ∧ 1 + (13 * (names.length + 1 + 1) + 42) ≤ R.locals) : k_W X 0 0 pc lv [] K := by
  obtain ⟨p, l, e, R, s, m, args, below, meth, cd, Q, S', G', A, nL'⟩ := X
  obtain ⟨rfl, rfl, rfl, rfl, rfl, hx, hb, hml, hown, hts, hT, hI, hA, hAf⟩ := C
  obtain ⟨rfl, rfl, hlk, hexc, hTh, hLo, hvm⟩ := E
  refine fun H locs ls hH hS hl => ?_
  obtain ⟨cX, hcX⟩ : ∃ cX, s.vm.findClass Xn = some cX := by
    obtain ⟨c1, k1, hc1, -⟩ := Cond.instantiable_spec (hts _ hw2)
    exact ⟨c1, hc1⟩
  obtain ⟨q, hq⟩ := hstr s hTh
  refine W.newcK hx hb hown (hts _ hw1) (hts _ hw2) (hts _ hw3) (g := F0 m pc ls []) rfl hd0 (by omega) (by omega) hcX rfl (fun H' kC hkC e1 z1 o1 => ?_)
  refine lv_dup hx hb hd3 rfl ?_
  refine va_ldcS hx hb hown hq hd4 ?_
  intro T hT0 X
  have hlocs : ∀ x ∈ locs, ∀ cell, s.heap[x.base]? = some cell → cell.vm.isStatics = false := by
    intro x hx1 cell hcell
    rcases hS.2.2 x hx1 with ⟨f, c, k, i, h1, h2, h3⟩ | h3
    · exact hvm f c k i h1 h2 cell (by rw [← h3]; exact hcell)
    · have := (Array.getElem?_eq_some_iff.mp hcell).1
      omega
  have htr : e.platform.stackTraces = false := Launch.traces_off hfl X.admits
  obtain ⟨U, a1, a2, a3, a4, a5, ⟨ce, a6, a7, a8⟩, a9⟩ := tw_ctor X hx htr (own := own) (cls := Xn) (Y := Y) (names := names) (ic := ic) (ix := ix) (bytes := bytes) hown hcls hY hnames b0 b1 b2 b5 (hat.at hts hTh) hlocs
    (a := H.size) hcX hkC (by rw [hT0]; exact e1) hS.1 (msg := .ref q) rfl (g := F0 m (pc + 3 + 1 + 2) ls [.ref q, .ref H.size, .ref H.size]) rfl (by show ls.size = _; rw [hl.1]; exact hml.symm) rfl rfl (rest := []) rfl
    (by rw [hb]; exact hd6) (by rw [hb]; exact hd9) (by rw [hexc]; intro x hx1; cases hx1) hR.2.2.1 (by
      have h1 := hR.2.2.2
      have h2 : 2 * JFrame.monitorRoom (F0 m (pc + 3 + 1 + 2) ls [.ref q, .ref H.size, .ref H.size]) + (([] : List Value).map fun v => v.category).sum ≤ 0 := by simp [JFrame.monitorRoom]
      simp only [List.map_cons, List.map_nil, List.sum_cons, List.sum_nil, Value.category] at h2 ⊢
      omega) hlk
  have hold : ∀ q : Nat, q < H.size → U.heap[q]? = H[q]? := fun q hq => by rw [a9 q (Nat.ne_of_lt hq), hT0, o1 q hq]
  refine ⟨U, a1, .threw H.size, a2, a3, H.size, ce, rfl, a6, a8, by rw [a7]; exact hcX, ?_, ?_, locs, a4, a5, hS.2.2⟩
  · exact hH.kept (fun f c k i hf hi => hold _ (k_world_lt hH hf hi))
  · refine ⟨?_, fun q h1 h2 => ?_⟩
    · have h1 := (Array.getElem?_eq_some_iff.mp a6).1
      have := hS.1
      omega
    · rw [hold q (Nat.lt_of_lt_of_le h1 hS.1)]
      exact hS.2.1 q h1 h2
/-- a call that throws: where the run then stands -/
def k_RunT (p : Program) (l : Launch) (e : Env) (R : Room) (s : State) (m : MethodId) (args : Array Value) (below : List Frame) (meth : Method) (c : Code) (H : Heap) (locs : List Loc) (cells slots : Nat) (g : JFrame) (rest : List Value) (S : kS) (G : kG) (K2 : kM) (Xn : String) : Prop :=
  ∀ T : State, T.heap = H → Stand p l e R s m args below meth c T locs cells slots → ∃ (x : Nat) (ce : Cell) (T' : State) (L : List Loc), Stand p l e R s m args below meth c T' (locs ++ L) (cells + 1) (slots + 6) ∧ (∀ q ∈ L, k_A S G H.size q.base) ∧ T'.heap[x]? = some ce ∧ ce.vm = .none ∧ s.vm.findClass Xn = some ce.cls ∧
    k_H S G K2 T'.heap ∧ H.size ≤ T'.heap.size ∧ (∀ q : Nat, q < H.size → ¬ k_A S G H.size q → T'.heap[q]? = H[q]?) ∧ ∀ target, Steps p.tables e below ((T'.setTop { g with stack := rest }).pushFrame (.throwing x)) target → Steps p.tables e below (T.setTop g) target
def k_PreT (S : kS) (G : kG) (h0 : Nat) (As : List Value) (K : kM) (sz : Nat) (R : Room) : Pt → Array Value → Prop := fun A a => A.cells + 1 ≤ R.cells ∧ A.slots + 6 ≤ R.slots ∧ k_PcT S G h0 As K sz a A.U
def k_PostT (S : kS) (G : kG) (Xn : String) (K2 : kM) (sz : Nat) : Pt → Array Value → Addr → Pt → Prop := fun A a x B => ∃ (ce : Cell) (L : List Loc), B.U.heap[x]? = some ce ∧ ce.vm = .none ∧ A.U.vm.findClass Xn = some ce.cls ∧ k_H S G K2 B.U.heap ∧ A.U.heap.size ≤ B.U.heap.size ∧ (∀ q : Nat, q < A.U.heap.size → ¬ k_A S G sz q → B.U.heap[q]? = A.U.heap[q]?) ∧
  B.locs = A.locs ++ L ∧ (∀ q ∈ L, k_A S G sz q.base) ∧ B.cells = A.cells + 1 ∧ B.slots = A.slots + 6
theorem k_Th.calling {h0 : Nat} {U : State} (h : k_Th h0 U) (g : JFrame) (mk : MethodId) (a : Array Value) : k_Th h0 (U.calling g mk a) := h.moved (State.WarmedH.refl U) h.1 (fun _ _ => rfl)
theorem k_backT {p : Program} {l : Launch} {e : Env} {R : Room} {s : State} {sargs : Array Value} {below : List Frame} {S : kS} {G : kG} {Ts : List Cond} {y : MethodName} {cy : ByteArray} {nLy : Nat} {ry : Option FieldType} {rm : Room} {h0 : Nat} {As : List Value} {K K2 : kM} {Xn : String} {sz : Nat}
    (hM : k_MetT l S Ts y cy nLy ry rm G h0 As K Xn K2) (hg : GoodIn Ts Ts) (hc : Cond.code y cy nLy ry ∈ Ts) (hin : Cond.initialized y.cls ∈ Ts) (hts : ∀ w ∈ Ts, w.before sargs s = true) (hrc : rm.cells = 1 ∧ rm.slots = 6) (hR : rm.frames + 1 ≤ R.frames ∧ 8 + (nLy + 11) + rm.locals ≤ R.locals) :
    BackT l R p e below s sargs y 3 8 (k_PreT S G h0 As K sz R) (k_PostT S G Xn K2 sz) := by
  have hw : ∀ w ∈ Ts, ∀ a' U, s.WarmedH U.vm → w.before a' U = true := fun w hw a' U hW => word_at hW (hg w hw).2 (hts w hw)
  refine BackT.of_free (S := headSpec (.code y cy nLy ry :: Ts) rm) (bytes := cy) (maxL := nLy) (ret := ry) (E := fun a st o t L k n => k = 1 ∧ n = 6 ∧ ∀ q ∈ L, k_A S G sz q.base) (hM sz) hR.1 hR.2 ?_ ?_ (fun _ _ _ _ _ _ _ _ _ => trivial) ?_ ?_
  · intro m meth c A a X hp
    refine ⟨atoms_intro fun w h => ?_, hw _ hc _ _ X.warmed, hw _ hin _ _ X.warmed, by rw [show (headSpec (.code y cy nLy ry :: Ts) rm).room.cells = 1 from hrc.1]; exact hp.1, by rw [show (headSpec (.code y cy nLy ry :: Ts) rm).room.slots = 6 from hrc.2]; exact hp.2.1⟩
    rcases List.mem_cons.mp h with rfl | h
    · exact hw _ hc _ _ X.warmed
    · exact hw _ h _ _ X.warmed
  · intro m meth c A a g mk X hp
    obtain ⟨-, -, q0, ⟨q1, qP, qK, qI⟩, qT, qL⟩ := hp
    exact ⟨q0, ⟨q1, qP, va_K.moved (u := A.U) (U := A.U.calling g mk a) (Vm.Alike.refl A.U.vm) qK, qI⟩, qT.calling g mk a, qL⟩
  · intro a st o t hq
    obtain ⟨x, ce, rfl, -, -, -, -, -, L, h1, h2, h3⟩ := hq
    exact ⟨L, 1, 6, ⟨⟨x, rfl⟩, h1, h2⟩, rfl, rfl, h3⟩
  · intro m meth c A a g mk v t L k n X hp hq hF hE
    obtain ⟨rfl, rfl, hL⟩ := hE
    obtain ⟨x, ce, hv, g1, g2, g3, g4, g5, -⟩ := hq
    cases hv
    exact ⟨ce, L, g1, g2, g3, g4, g5.1, g5.2, rfl, hL, rfl, rfl⟩
theorem k_runTS {p : Program} {l : Launch} {e : Env} {R : Room} {s : State} {m : MethodId} {args : Array Value} {below : List Frame} {meth : Method} {c : Code} {H : Heap} {locs : List Loc} {n1 n2 : Nat} {S : kS} {G : kG} {Ts : List Cond} {cc : ByteArray} {own : String} {nL : Nat} {idx n : Nat} {y : MethodName} {cy : ByteArray} {nLy : Nat} {ry : Option FieldType} {rm : Room} {h0 : Nat} {As rest : List Value} {K K2 : kM} {Xn : String} {pc : Nat} {ls : Array Slot} {st : List Value}
    (hx : p.tables.exec = Jvm.exec) (hb : c.code = cc) (hml : c.maxLocals = nL) (hown : s.vm.findClass own = some m.cls) (hts : ∀ w ∈ Ts, w.before args s = true) (hg : GoodIn Ts Ts)
    (hM : k_MetT l S Ts y cy nLy ry rm G h0 As K Xn K2) (hs : k_site Ts own idx y cy nLy ry n) (hv : Cond.static y ∈ Ts) (hn : As.length = n) (hst : st = As.reverse ++ rest) (hrest : (rest.map fun v => v.category).sum ≤ 8) (hrc : rm.cells = 1 ∧ rm.slots = 6) (hR : rm.frames + 1 ≤ R.frames ∧ 8 + (nLy + 11) + rm.locals ≤ R.locals) (hcs : n1 + 1 ≤ R.cells ∧ n2 + 6 ≤ R.slots)
    (hls : ls.size = nL) (hd : decode cc pc = .ok (.invokestatic idx, 3)) (hP : ∀ U : State, U.heap = H → s.WarmedH U.vm → k_PcT S G h0 As K H.size As.toArray U) :
    k_RunT p l e R s m args below meth c H locs n1 n2 (F0 m pc ls st) rest S G K2 Xn := by
  obtain ⟨s1, s2, s3, s4, s5, s6⟩ := hs
  intro T hT X
  obtain ⟨mk, hnamed⟩ := Cond.code_named (hts _ s1)
  obtain ⟨methM, cM, hmethM, -, -, -, -, -, -, hsigM⟩ := Cond.code_spec hnamed (hts _ s1)
  obtain ⟨v, vm₁, ⟨U', l2, c2, s2'⟩, hW₁, X', ⟨ce, L, g1, g2, g3, g4, g5, g6, g7, g8, g9, g10⟩, stp⟩ := X.staticThrows hx hown (hts _ s2) (hts _ hv) (hts _ s3) hnamed hmethM hsigM ⟨s4, s5⟩ (k_backT (sz := H.size) hM hg s1 s3 hts hrc hR)
    (g := F0 m pc ls st) rfl (hls.trans hml.symm) (Steps.refl _) (argsL := As) (rest := rest) (fun sig h => by rw [h] at s6; exact hn.trans (Option.some.inj s6).symm) hst (lv_room hrest) (by rw [hb]; exact hd) (fun vm₁ hW₁ => ⟨hcs.1, hcs.2, hP (T.setVm vm₁) hT hW₁⟩)
  dsimp only [Pt.U, Pt.locs, Pt.cells, Pt.slots] at X' g1 g2 g3 g4 g5 g6 g7 g8 g9 g10 stp
  subst g7; subst g9; subst g10
  refine ⟨v, ce, U', L, X', g8, g1, g2, ?_, g4, by rw [← hT]; exact g5, fun q h1 h2 => by rw [← hT] at h1 ⊢; exact g6 q h1 h2, fun target h => stp.trans h⟩
  have : (T.setVm vm₁).vm.findClass Xn = s.vm.findClass Xn := hW₁.alike.findClass _ _
  rw [← this]
  exact g3
theorem k_runTV {p : Program} {l : Launch} {e : Env} {R : Room} {s : State} {m : MethodId} {args : Array Value} {below : List Frame} {meth : Method} {c : Code} {H : Heap} {locs : List Loc} {n1 n2 : Nat} {S : kS} {G : kG} {Ts : List Cond} {cc : ByteArray} {own : String} {nL : Nat} {idx n : Nat} {y : MethodName} {cy : ByteArray} {nLy : Nat} {ry : Option FieldType} {rm : Room} {h0 : Nat} {As rest : List Value} {K K2 : kM} {Xn : String} {pc : Nat} {ls : Array Slot} {st : List Value} {b : Nat}
    (hx : p.tables.exec = Jvm.exec) (hb : c.code = cc) (hml : c.maxLocals = nL) (hown : s.vm.findClass own = some m.cls) (hts : ∀ w ∈ Ts, w.before args s = true) (hg : GoodIn Ts Ts)
    (hM : k_MetT l S Ts y cy nLy ry rm G h0 (.ref b :: As) K Xn K2) (hs : k_site Ts own idx y cy nLy ry n) (hv : Cond.instanceMethod y ∈ Ts ∧ Cond.selects y.cls y y ∈ Ts) (hob : ∃ cell : Cell, H[b]? = some cell ∧ cell.vm.isStatics = false ∧ s.vm.findClass y.cls = some cell.cls)
    (hn : As.length = n) (hst : st = As.reverse ++ .ref b :: rest) (hrest : (rest.map fun v => v.category).sum ≤ 8) (hrc : rm.cells = 1 ∧ rm.slots = 6) (hR : rm.frames + 1 ≤ R.frames ∧ 8 + (nLy + 11) + rm.locals ≤ R.locals) (hcs : n1 + 1 ≤ R.cells ∧ n2 + 6 ≤ R.slots)
    (hls : ls.size = nL) (hd : decode cc pc = .ok (.invokevirtual idx, 3)) (hP : ∀ U : State, U.heap = H → s.WarmedH U.vm → k_PcT S G h0 (.ref b :: As) K H.size (Value.ref b :: As).toArray U) :
    k_RunT p l e R s m args below meth c H locs n1 n2 (F0 m pc ls st) rest S G K2 Xn := by
  obtain ⟨s1, s2, s3, s4, s5, s6⟩ := hs
  obtain ⟨cellB, hcB, hoB, hclB⟩ := hob
  intro T hT X
  obtain ⟨mk, methM, hnamed, hmethM, hstM, habM⟩ := Cond.instanceMethod_spec (hts _ hv.1)
  obtain ⟨methM', cM, hmethM', -, -, -, -, -, -, hsigM⟩ := Cond.code_spec hnamed (hts _ s1)
  cases hmethM.symm.trans hmethM'
  obtain ⟨c2, r2, m2, q1, q2, q3, q4, kP, hkP, hkPi⟩ := Cond.selects_spec (hts _ hv.2)
  cases hclB.symm.trans q1
  cases (State.methodFound?_of_named hnamed ⟨s4, s5⟩).symm.trans q2
  cases hnamed.symm.trans q3
  have hselP : selectMethod e.platform s.vm cellB.cls mk = .method mk := by rw [Launch.admits_selectMethod X.admits]; exact q4
  obtain ⟨vm₁, X₁, hstep₁⟩ := X.invokevirtual hx hown (hts _ s2) hnamed hmethM hstM hkP hkPi ⟨s4, s5⟩ (a := b) (cell := cellB) (by rw [hT]; exact hcB)
    (fun z h => by rw [h] at hoB; cases hoB) hselP hmethM habM hkP hkPi (g := F0 m pc ls st) rfl (argsL := As) (rest := rest) (by rw [hsigM] at s6; exact hn.trans (Option.some.inj s6).symm) hst (by rw [hb]; exact hd)
  obtain ⟨v, ⟨U', l2, c2, s2'⟩, X', ⟨ce, L, g1, g2, g3, g4, g5, g6, g7, g8, g9, g10⟩, hsteps⟩ := k_backT (sz := H.size) hM hg s1 s3 hts hrc hR m meth c ⟨T.setVm vm₁, locs, n1, n2⟩ { F0 m pc ls st with stack := rest } (.invokevirtual idx) mk (Value.ref b :: As).toArray X₁ rfl (hls.trans hml.symm) (by rw [hb]; exact hd) (lv_room hrest) (X₁.named hnamed) ⟨hcs.1, hcs.2, hP (T.setVm vm₁) hT X₁.warmed⟩
  dsimp only [Pt.U, Pt.locs, Pt.cells, Pt.slots] at X' g1 g2 g3 g4 g5 g6 g7 g8 g9 g10 hsteps
  subst g7; subst g9; subst g10
  refine ⟨v, ce, U', L, X', g8, g1, g2, ?_, g4, by rw [← hT]; exact g5, fun q h1 h2 => by rw [← hT] at h1 ⊢; exact g6 q h1 h2, fun target h => hstep₁ _ fun acts => by rw [doInvoke_state]; exact hsteps.trans h⟩
  have : (T.setVm vm₁).vm.findClass Xn = s.vm.findClass Xn := X₁.warmed.alike.findClass _ _
  rw [← this]
  exact g3
/-- out of the method: nothing here takes it -/
theorem k_outT {p : Program} {l : Launch} {e : Env} {R : Room} {s : State} {m : MethodId} {args : Array Value} {below : List Frame} {meth : Method} {c : Code} {H : Heap} {locs : List Loc} {S : kS} {G : kG} {K2 : kM} {Xn : String} {pc : Nat} {ls : Array Slot} {st rest : List Value}
    (hr : k_RunT p l e R s m args below meth c H locs 0 0 (F0 m pc ls st) rest S G K2 Xn) (hS : va_S (k_A S G s.heap.size) s.heap H locs) (hlk : meth.locks = false) (hexc : c.exceptionTable.toList = []) :
    W p l e R s m args below meth c H locs 0 0 (fun t => ∃ o, t.status = .running ∧ Ended t below o ∧ k_Qt S G Xn K2 (k_A S G s.heap.size) args s o t) (F0 m pc ls st) := by
  intro T hT X
  obtain ⟨x, ce, T', L, X', hL, h1, h2, h3, h4, h5, h6, stp⟩ := hr T hT X
  obtain ⟨w1, w2, w3, w4, w5⟩ := X'.leaveThrown x (g := { F0 m pc ls st with stack := rest }) rfl rfl rfl (by rw [hexc]; intro y hy; cases hy) hlk
  have hin : ∀ q, k_A S G H.size q → k_A S G s.heap.size q := fun q hq => by
    rcases hq with h | h
    · exact Or.inl h
    · exact Or.inr (Nat.le_trans hS.1 h)
  refine ⟨_, stp _ w1, .threw x, w2, w3, x, ce, rfl, h1, h2, h3, h4, ⟨Nat.le_trans hS.1 h5, fun q g1 g2 => ?_⟩, locs ++ L, w4, w5, fun q hq => ?_⟩
  · show T'.heap[q]? = s.heap[q]?
    rw [h6 q (Nat.lt_of_lt_of_le g1 hS.1) (fun z => g2 (hin q z))]
    exact hS.2.1 q g1 g2
  · rcases List.mem_append.mp hq with h | h
    · exact hS.2.2 q h
    · exact hin _ (hL q h)
theorem k_PcT.from {X : kX} {Ts : List Cond} {cc : ByteArray} {own : String} {S : kS} {G : kG} {nL : Nat} {l : Launch} {R : Room} {K : kM} (C : k_C X Ts cc own S G nL l R) {h0 : Nat} {Xn : String} {K2 : kM} (E : k_Et X h0 Xn K2) (As : List Value) : match X with
    | (_, _, _, _, s, _, _, _, _, _, _, S, G, A, _) => ∀ (H : Heap) (locs : List Loc), k_H S G K H → va_S A s.heap H locs → ∀ U : State, U.heap = H → s.WarmedH U.vm → k_PcT S G h0 As K H.size As.toArray U := by
  obtain ⟨p, l, e, R, s, m, args, below, meth, cd, Q, S', G', A, nL'⟩ := X
  obtain ⟨rfl, rfl, rfl, rfl, rfl, hx, hb, hml, hown, hts, hT, hI, hA, hAf⟩ := C
  obtain ⟨rfl, rfl, hlk, hexc, hTh, hLo, hvm⟩ := E
  intro H locs hH hS U hU hW
  refine ⟨rfl, ⟨by rw [hU], by rw [hU]; exact hH, va_K.moved hW.alike hT, hI⟩, hTh.moved hW (by rw [hU]; exact Nat.le_trans hTh.1 hS.1) (fun a ha => ?_), hLo⟩
  rw [hU]
  refine hS.2.1 a (Nat.lt_of_lt_of_le ha hTh.1) (fun z => ?_)
  rcases z with ⟨f, c, k, i, h1, h2, h3⟩ | z
  · have := hLo f c k i h1 h2
    omega
  · have := hTh.1
    omega
theorem k_callST {X : kX} {Ts : List Cond} {cc : ByteArray} {own : String} {S : kS} {G : kG} {nL : Nat} {l : Launch} {R : Room} {pc : Nat} {lv : List (Nat × Value)} {st : List Value} {K : kM} (C : k_C X Ts cc own S G nL l R) {h0 : Nat} {Xn : String} {K2 : kM} (E : k_Et X h0 Xn K2) (hg : GoodIn Ts Ts) {idx n nLy : Nat} {y : MethodName} {cy : ByteArray} {ry : Option FieldType} {rm : Room} {As rest : List Value}
    (hM : k_MetT l S Ts y cy nLy ry rm G h0 As K Xn K2) (hs : k_site Ts own idx y cy nLy ry n) (hv : Cond.static y ∈ Ts) (hn : As.length = n) (hst : st = As.reverse ++ rest) (hrest : (rest.map fun v => v.category).sum ≤ 8) (hrc : rm.cells = 1 ∧ rm.slots = 6) (hR : rm.frames + 1 ≤ R.frames ∧ 8 + (nLy + 11) + rm.locals ≤ R.locals) (hcs : 0 + 1 ≤ R.cells ∧ 0 + 6 ≤ R.slots) (hd : decode cc pc = .ok (.invokestatic idx, 3)) : k_W X 0 0 pc lv st K := by
  have hPc := k_PcT.from (K := K) C E As
  obtain ⟨p, l, e, R, s, m, args, below, meth, cd, Q, S', G', A, nL'⟩ := X
  obtain ⟨rfl, rfl, rfl, rfl, rfl, hx, hb, hml, hown, hts, hT, hI, hA, hAf⟩ := C
  obtain ⟨rfl, rfl, hlk, hexc, hTh, hLo, hvm⟩ := E
  refine fun H locs ls hH hS hl => k_outT (k_runTS (n1 := 0) (n2 := 0) hx hb hml hown hts hg hM hs hv hn hst hrest hrc hR hcs hl.1 hd (hPc H locs hH hS)) hS hlk hexc
theorem k_callVT {X : kX} {Ts : List Cond} {cc : ByteArray} {own : String} {S : kS} {G : kG} {nL : Nat} {l : Launch} {R : Room} {pc : Nat} {lv : List (Nat × Value)} {st : List Value} {K : kM} (C : k_C X Ts cc own S G nL l R) {h0 : Nat} {Xn : String} {K2 : kM} (E : k_Et X h0 Xn K2) (hg : GoodIn Ts Ts) {idx n nLy : Nat} {y : MethodName} {cy : ByteArray} {ry : Option FieldType} {rm : Room} {As rest : List Value} {f i c : Nat}
    (hM : k_MetT l S Ts y cy nLy ry rm G h0 (.ref (G.2.2 f i) :: As) K Xn K2) (hs : k_site Ts own idx y cy nLy ry n) (hv : Cond.instanceMethod y ∈ Ts ∧ Cond.selects y.cls y y ∈ Ts) (hb0 : k_obj S f c y.cls) (hi : i < c) (hn : As.length = n) (hst : st = As.reverse ++ .ref (G.2.2 f i) :: rest) (hrest : (rest.map fun v => v.category).sum ≤ 8) (hrc : rm.cells = 1 ∧ rm.slots = 6) (hR : rm.frames + 1 ≤ R.frames ∧ 8 + (nLy + 11) + rm.locals ≤ R.locals) (hcs : 0 + 1 ≤ R.cells ∧ 0 + 6 ≤ R.slots) (hd : decode cc pc = .ok (.invokevirtual idx, 3)) : k_W X 0 0 pc lv st K := by
  have hPc := k_PcT.from (K := K) C E (.ref (G.2.2 f i) :: As)
  obtain ⟨p, l, e, R, s, m, args, below, meth, cd, Q, S', G', A, nL'⟩ := X
  obtain ⟨rfl, rfl, rfl, rfl, rfl, hx, hb, hml, hown, hts, hT, hI, hA, hAf⟩ := C
  obtain ⟨rfl, rfl, hlk, hexc, hTh, hLo, hvm⟩ := E
  obtain ⟨ci, nf, rf, Tt, hf, hc⟩ := hb0
  refine fun H locs ls hH hS hl => k_outT (k_runTV (n1 := 0) (n2 := 0) hx hb hml hown hts hg hM hs hv (va_recv hT (k_one hH hf hi) (ci := ci) (q0 := 0) hc rfl) hn hst hrest hrc hR hcs hl.1 hd (hPc H locs hH hS)) hS hlk hexc
