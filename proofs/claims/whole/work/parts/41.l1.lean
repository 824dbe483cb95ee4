/-! ===== THE LAW (3): the claim's own words (the skeleton's), and the layer of the law's body ===== -/
def R_law : String := "GuestKernelLaw"
def lw_P (b : Addr) (xs : List Int32) (args : Array Value) (s : State) : Prop := args = #[.ref b] ∧ s.IntsAt b xs ∧ xs.length ≤ 3072 ∧ (Jvm.Cond.and given_1 narrow_1).before args s = true
def lw_Q (_ : Array Value) (s : State) (o : Outcome) (t : State) : Prop := o = .returned (some (.int 1)) ∧ Framed s o t [] 643217 7166453
def lw_Z (below : List Frame) (a : Array Value) (s : State) : State → Prop := fun t => ∃ o, t.status = .running ∧ Ended t below o ∧ lw_Q a s o t
/-- the law's own end, with 1 on the stack, nothing written that was there before, its room as the claim has it -/
theorem lw_ret {p : Program} {l : Launch} {e : Env} {s : State} {m : MethodId} {below : List Frame} {meth : Method} {c : Code} {b : Nat} (hx : p.tables.exec = Jvm.exec) (hb : c.code = code) (hr : meth.sig.returnType = ret) (hlocks : meth.locks = false) {pc : Nat} {H : Heap} {ls : Array Slot} (hdg : decode code pc = .ok (.ireturn, 1)) : W p l e room_1 s m #[Value.ref b] below meth c H [] 643217 7166453 (lw_Z below #[Value.ref b] s) (F0 m pc ls [.int 1]) := by
  intro T hT X
  obtain ⟨fs, hret, hrun, hended, hW, hframe⟩ := X.leave (v := some (.int 1)) (hlocks := hlocks) (fun h => by rw [hr] at h; cases h)
  have hmeth' : T.vm.method? m = some meth := X.method'
  refine ⟨T.setFrames fs, ?_, .returned (some (.int 1)), hrun, hended, rfl, ⟨_, rfl⟩, hW, hframe⟩
  jvm_step X.here [X.here.top, hx, hb, hdg, hmeth', hr, ret, narrow_b1]
  (try refine ⟨rfl, ?_⟩); (try refine ⟨rfl, ?_⟩)
  first | (intro acts; rw [hret _ acts rfl rfl rfl]) | rw [hret _ _ rfl rfl rfl]
  exact Steps.refl _
/-- what holds at the law's entry: the machine, the code, the tables' words (any of lw_tbl by 'hts w (by decide +kernel)'), the script of L ints xs at the cell b, what the Statement gives of the start (any of its parts by flat_of_before) -/
def lw_At (p : Program) (s : State) (m : MethodId) (meth : Method) (c : Code) (b L : Nat) (xs : Nat → Int32) : Prop :=
  p.tables.exec = Jvm.exec ∧ c.code = code ∧ meth.sig.returnType = ret ∧ c.maxLocals = 7 ∧ s.vm.findClass R_law = some m.cls ∧ (∀ w ∈ lw_tbl, w.before #[Value.ref b] s = true) ∧ va_X b L xs s s.heap ∧ b < s.heap.size ∧ meth.locks = false ∧ (Jvm.Cond.and given_1 narrow_1).before #[Value.ref b] s = true
/-- the picture: class, reference, out -/
def l_F (G1 G2 : kG) (cL : ClassId) (o : Nat) (K M : kM) (f : Nat → Int64) (H : Heap) : Prop := k_H gS G1 K H ∧ k_H mS G2 M H ∧ w_o cL o f H
def l_ok (G1 G2 : kG) (o h0 : Nat) : Prop := w_ok G1 o h0 ∧ k_I mS G2 ∧ (∀ (f c : Nat) (k : kF) (i : Nat), mS.2.2[f]? = some (c, k) → i < c → h0 ≤ G2.2.2 f i ∧ G2.2.2 f i ≠ o) ∧ ∀ (f c : Nat) (k : kF) (i f' c' : Nat) (k' : kF) (i' : Nat), gS.2.2[f]? = some (c, k) → i < c → mS.2.2[f']? = some (c', k') → i' < c' → G1.2.2 f i ≠ G2.2.2 f' i'
def l_C (X : kX) (G1 G2 : kG) (cL : ClassId) (h0 : Nat) : Prop := match X with
  | (_, _, _, _, s, _, _, _, _, _, _, _, _, A, _) => h0 = s.heap.size ∧ A = (fun q => h0 ≤ q) ∧ k_T gS G1 s ∧ k_T mS G2 s ∧ k_Th h0 s ∧ va_K G1.1 [] [(cL, .long)] s
theorem l_back {p : Program} {l : Launch} {e : Env} {R : Room} {s : State} {m : MethodId} {args : Array Value} {below : List Frame} {meth : Method} {c : Code} {H : Heap} {locs : List Loc} {n1 n2 pc : Nat} {Q : State → Prop} {ls : Array Slot} {st rest : List Value} {S : kS} {G : kG} {A : Nat → Prop} {r : Option Value} {K2 : kM} {a : Array Value}
    (hr : va_Run p l e R s m args below meth c H locs n1 n2 0 0 (F0 m pc ls st) rest (k_Qc S G r K2 (k_A S G H.size) a) (k_A S G H.size)) (hS : va_S A s.heap H locs) (hin : ∀ q, k_A S G H.size q → A q)
    (kk : ∀ (H1 : Heap) (locs1 : List Loc), k_H S G K2 H1 → (∀ q : Nat, q < H.size → ¬ k_A S G H.size q → H1[q]? = H[q]?) → va_S A s.heap H1 locs1 → W p l e R s m args below meth c H1 locs1 n1 n2 Q (F0 m (pc + 3) ls (r.toList ++ rest))) : W p l e R s m args below meth c H locs n1 n2 Q (F0 m pc ls st) := by
  intro T hT X
  obtain ⟨v, st₀, t, T', L, h0, X', hL, e1, e2, ⟨hv, hH, hz, hk⟩, stp⟩ := hr T hT X
  cases hv
  rw [h0] at hz hk
  obtain ⟨t2, a1, b1⟩ := kk T'.heap (locs ++ L) (by rw [e1]; exact hH) (fun q h1 h2 => by rw [e1]; exact hk q h1 h2)
    ⟨Nat.le_trans hS.1 (by rw [e1]; exact hz), fun q h1 h2 => by rw [e1, hk q (Nat.lt_of_lt_of_le h1 hS.1) (fun z => h2 (hin q z))]; exact hS.2.1 q h1 h2, fun q hq => by
      rcases List.mem_append.mp hq with h | h
      · exact hS.2.2 q h
      · exact hin _ (hL q h)⟩ T' rfl X'
  exact ⟨t2, stp t2 a1, b1⟩
theorem l_callG {X : kX} {cc : ByteArray} {own : String} {G1 G2 G0 : kG} {nL : Nat} {l : Launch} {R : Room} {n1 n2 pc : Nat} {lv : List (Nat × Value)} {st : List Value} {cL : ClassId} {o h0 : Nat} {K M : kM} {f : Nat → Int64} (C : k_C X kT cc own eS G0 nL l R) (Lc : l_C X G1 G2 cL h0) (ok : l_ok G1 G2 o h0) {idx n nLy : Nat} {y : MethodName} {cy : ByteArray} {ry : Option FieldType} {rm : Room} {As rest : List Value} {r : Option Value} {K2 : kM} {f0 i c : Nat}
    (hM : k_Met l gS kT y cy nLy ry rm G1 (.ref (G1.2.2 f0 i) :: As) K r K2) (hs1 : k_site kT own idx y cy nLy ry n) (hv : Cond.instanceMethod y ∈ kT ∧ Cond.selects y.cls y y ∈ kT) (hb0 : k_obj gS f0 c y.cls) (hi : i < c)
    (hn : As.length = n) (hst : st = As.reverse ++ .ref (G1.2.2 f0 i) :: rest) (hrest : (rest.map fun v => v.category).sum ≤ 8) (hrc : rm.cells = 0 ∧ rm.slots = 0) (hR : rm.frames + 1 ≤ R.frames ∧ 8 + (nLy + 11) + rm.locals ≤ R.locals) (hcs : n1 ≤ R.cells ∧ n2 ≤ R.slots) (hd : decode cc pc = .ok (.invokevirtual idx, 3))
    (k : q_W X n1 n2 (pc + 3) lv (r.toList ++ rest) (l_F G1 G2 cL o K2 M f)) : q_W X n1 n2 pc lv st (l_F G1 G2 cL o K M f) := by
  obtain ⟨p, l, e, R, s, m, args, below, meth, cd, Q, S', G', A, nL'⟩ := X
  obtain ⟨rfl, rfl, rfl, rfl, rfl, hx, hb, hml, hown, hts, hT, hI, hA, hAf⟩ := C
  obtain ⟨rfl, rfl, hKg, hKm, hTh, hKl⟩ := Lc
  obtain ⟨s1, s2, s3, s4, s5, s6⟩ := hs1
  obtain ⟨ci, nf, rf, T, hf, hc⟩ := hb0
  refine fun H locs ls hH hS hl => ?_
  obtain ⟨hH1, hH2, hH3⟩ := hH
  refine l_back (va_runV (As := As) (rest := rest) ⟨hx, hb, hml, hown, hts⟩ (hM H.size) ⟨callB_of n hts (k_good kg_all s1) rfl hrc.1 hrc.2 (hts _ s3) (hts _ s2) ⟨s4, s5, s6⟩ hR, hts _ hv.1, hts _ hv.2⟩ ⟨k_blind, va_recv hKg (k_one hH1 hf hi) (ci := ci) (q0 := 0) hc rfl, fun U hU hW => ⟨rfl, by rw [hU], by rw [hU]; exact hH1, va_K.moved hW.alike hKg, ok.1.1⟩⟩ rfl hn hl.1 hst (lv_room hrest) hd hcs) hS (fun q hq => ?_) (fun H1 locs1 g1 g2 g3 => ?_)
  · rcases hq with ⟨f, c, k, i, h1, h2, rfl⟩ | h
    · exact ok.1.2.1 f c k i h1 h2
    · exact Nat.le_trans hS.1 h
  · have ap : ∀ q : Nat, q < H.size → (∀ (f c : Nat) (k : kF) (i : Nat), gS.2.2[f]? = some (c, k) → i < c → G1.2.2 f i ≠ q) → H1[q]? = H[q]? := fun q h1 h2 => g2 q h1 (fun z => by
      rcases z with ⟨f, c, k, i, e1, e2, e3⟩ | z
      · exact h2 f c k i e1 e2 e3.symm
      · omega)
    refine k H1 locs1 ls ⟨g1, hH2.kept (fun f c kd i hf hi => ap _ (k_world_lt hH2 hf hi) (fun f' c' k' i' h1 h2 => ok.2.2.2 f' c' k' i' f c kd i h1 h2 hf hi)), ?_⟩ g3 hl
    show H1[o]? = _
    rw [ap o (Array.getElem?_eq_some_iff.mp hH3).1 ok.1.2.2.2]
    exact hH3
theorem l_callM {X : kX} {cc : ByteArray} {own : String} {G1 G2 G0 : kG} {nL : Nat} {l : Launch} {R : Room} {n1 n2 pc : Nat} {lv : List (Nat × Value)} {st : List Value} {cL : ClassId} {o h0 : Nat} {K M : kM} {f : Nat → Int64} (C : k_C X kT cc own eS G0 nL l R) (Lc : l_C X G1 G2 cL h0) (ok : l_ok G1 G2 o h0) {idx n nLy : Nat} {y : MethodName} {cy : ByteArray} {ry : Option FieldType} {rm : Room} {As rest : List Value} {r : Option Value} {M2 : kM} {f0 i c : Nat}
    (hM : k_Met l mS kT y cy nLy ry rm G2 (.ref (G2.2.2 f0 i) :: As) M r M2) (hs1 : k_site kT own idx y cy nLy ry n) (hv : Cond.instanceMethod y ∈ kT ∧ Cond.selects y.cls y y ∈ kT) (hb0 : k_obj mS f0 c y.cls) (hi : i < c)
    (hn : As.length = n) (hst : st = As.reverse ++ .ref (G2.2.2 f0 i) :: rest) (hrest : (rest.map fun v => v.category).sum ≤ 8) (hrc : rm.cells = 0 ∧ rm.slots = 0) (hR : rm.frames + 1 ≤ R.frames ∧ 8 + (nLy + 11) + rm.locals ≤ R.locals) (hcs : n1 ≤ R.cells ∧ n2 ≤ R.slots) (hd : decode cc pc = .ok (.invokevirtual idx, 3))
    (k : q_W X n1 n2 (pc + 3) lv (r.toList ++ rest) (l_F G1 G2 cL o K M2 f)) : q_W X n1 n2 pc lv st (l_F G1 G2 cL o K M f) := by
  obtain ⟨p, l, e, R, s, m, args, below, meth, cd, Q, S', G', A, nL'⟩ := X
  obtain ⟨rfl, rfl, rfl, rfl, rfl, hx, hb, hml, hown, hts, hT, hI, hA, hAf⟩ := C
  obtain ⟨rfl, rfl, hKg, hKm, hTh, hKl⟩ := Lc
  obtain ⟨s1, s2, s3, s4, s5, s6⟩ := hs1
  obtain ⟨ci, nf, rf, T, hf, hc⟩ := hb0
  refine fun H locs ls hH hS hl => ?_
  obtain ⟨hH1, hH2, hH3⟩ := hH
  refine l_back (va_runV (As := As) (rest := rest) ⟨hx, hb, hml, hown, hts⟩ (hM H.size) ⟨callB_of n hts (k_good kg_all s1) rfl hrc.1 hrc.2 (hts _ s3) (hts _ s2) ⟨s4, s5, s6⟩ hR, hts _ hv.1, hts _ hv.2⟩ ⟨k_blind, va_recv hKm (k_one hH2 hf hi) (ci := ci) (q0 := 0) hc rfl, fun U hU hW => ⟨rfl, by rw [hU], by rw [hU]; exact hH2, va_K.moved hW.alike hKm, ok.2.1⟩⟩ rfl hn hl.1 hst (lv_room hrest) hd hcs) hS (fun q hq => ?_) (fun H1 locs1 g1 g2 g3 => ?_)
  · rcases hq with ⟨f, c, k, i, h1, h2, rfl⟩ | h
    · exact (ok.2.2.1 f c k i h1 h2).1
    · exact Nat.le_trans hS.1 h
  · have ap : ∀ q : Nat, q < H.size → (∀ (f c : Nat) (k : kF) (i : Nat), mS.2.2[f]? = some (c, k) → i < c → G2.2.2 f i ≠ q) → H1[q]? = H[q]? := fun q h1 h2 => g2 q h1 (fun z => by
      rcases z with ⟨f, c, k, i, e1, e2, e3⟩ | z
      · exact h2 f c k i e1 e2 e3.symm
      · omega)
    refine k H1 locs1 ls ⟨hH1.kept (fun f c kd i hf hi => ap _ (k_world_lt hH1 hf hi) (fun f' c' k' i' h1 h2 => (ok.2.2.2 f c kd i f' c' k' i' hf hi h1 h2).symm)), g1, ?_⟩ g3 hl
    show H1[o]? = _
    rw [ap o (Array.getElem?_eq_some_iff.mp hH3).1 (fun f' c' k' i' h1 h2 => (ok.2.2.1 f' c' k' i' h1 h2).2)]
    exact hH3
theorem w_blind {G : kG} {cL : ClassId} {o h0 : Nat} {args : List Value} {K : kM} {f : Nat → Int64} {sz : Nat} : FrameBlind (w_Pc G cL o h0 args K f sz) := fun a U g mk q => by
  obtain ⟨q0, q1, q2, q3, q4, q5⟩ := q
  exact ⟨q0, q1, q2, va_K.moved (u := U) (U := U.calling g mk a) (Vm.Alike.refl U.vm) q3, q4.calling g mk a, va_K.moved (u := U) (U := U.calling g mk a) (Vm.Alike.refl U.vm) q5⟩
theorem l_callS {X : kX} {cc : ByteArray} {own : String} {G1 G2 G0 : kG} {nL : Nat} {l : Launch} {R : Room} {n1 n2 pc : Nat} {lv : List (Nat × Value)} {st : List Value} {cL : ClassId} {o h0 : Nat} {K M : kM} {f : Nat → Int64} (C : k_C X kT cc own eS G0 nL l R) (Lc : l_C X G1 G2 cL h0) (ok : l_ok G1 G2 o h0) {idx n nLy : Nat} {y : MethodName} {cy : ByteArray} {hs : w_hs} {As rest : List Value} {r : Int32} {K2 : kM} {f2 : Nat → Int64}
    (hM : w_Met l y cy nLy hs G1 cL o h0 As K f r K2 f2) (s1 : Cond.codeWith y cy nLy (some .int) hs ∈ kT) (s2 : Cond.methodLink own idx y ∈ kT) (s3 : Cond.initialized y.cls ∈ kT) (hv : Cond.static y ∈ kT) (s4 : y.cls ≠ "java/lang/invoke/MethodHandle" ∧ y.cls ≠ "java/lang/invoke/VarHandle") (s6 : (parseMethodDescriptor y.desc).map (fun d => d.parameters.length) = some n)
    (hn : As.length = n) (hst : st = As.reverse ++ rest) (hrest : (rest.map fun v => v.category).sum ≤ 8) (hR : 9 ≤ R.frames ∧ 8 + (nLy + 11) + 288 ≤ R.locals) (hcs : n1 + 1 ≤ R.cells ∧ n2 + 6 ≤ R.slots) (hd : decode cc pc = .ok (.invokestatic idx, 3))
    (k : q_W X (n1 + 1) (n2 + 6) (pc + 3) lv (.int r :: rest) (l_F G1 G2 cL o K2 M f2)) : q_W X n1 n2 pc lv st (l_F G1 G2 cL o K M f) := by
  obtain ⟨p, l, e, R, s, m, args, below, meth, cd, Q, S', G', A, nL'⟩ := X
  obtain ⟨rfl, rfl, rfl, rfl, rfl, hx, hb, hml, hown, hts, hT, hI, hA, hAf⟩ := C
  obtain ⟨rfl, rfl, hKg, hKm, hTh, hKl⟩ := Lc
  refine fun H locs ls hH hS hl => ?_
  obtain ⟨hH1, hH2, hH3⟩ := hH
  have hw : ∀ w ∈ kT, ∀ a' U, s.WarmedH U.vm → w.before a' U = true := fun w hw a' U hW => word_at hW (kg_all w hw).2 (hts w hw)
  have hK : Back l R p e below s args y 3 8 (PreOf R 1 6 (w_Pc G1 cL o s.heap.size As K f H.size)) (PostOf (w_Qc G1 cL o r K2 f2 H.size) 1 6 (w_A G1 o H.size)) := by
    refine Back.of_freeWith (S := headSpec (.codeWith y cy nLy (some .int) hs :: kT) (n_rm 8 1 6)) (bytes := cy) (maxL := nLy) (ret := some .int) (handlers := hs) (E := fun a st o' t L k n => k = 1 ∧ n = 6 ∧ ∀ q ∈ L, w_A G1 o H.size q.base) (hM H.size) hR.1 hR.2 ?_ ?_ (fun _ _ _ _ _ _ _ _ _ => trivial) ?_ ?_
    · intro m' meth' c' A a X hp
      refine ⟨atoms_intro fun w h => ?_, hw _ s1 _ _ X.warmed, hw _ s3 _ _ X.warmed, hp.1, hp.2.1⟩
      rcases List.mem_cons.mp h with rfl | h
      · exact hw _ s1 _ _ X.warmed
      · exact hw _ h _ _ X.warmed
    · intro m' meth' c' A a g mk X hp
      exact w_blind _ _ _ _ hp.2.2
    · intro a st o' t ⟨hq, L, hF, hL⟩
      exact ⟨L, 1, 6, hF, rfl, rfl, hL⟩
    · intro m' meth' c' A a g mk v t L k n X hp hq hF ⟨e1, e2, hL⟩
      subst e1; subst e2
      exact ⟨g, mk, t, L, rfl, rfl, hq.1, rfl, hL, rfl, rfl⟩
  intro T hT0 X
  obtain ⟨v, vm₁, ⟨U', l2, c2, s2'⟩, hW₁, X', ⟨g', mk, t, L, e1, e2, hq, h1, hL, h2, h3⟩, st⟩ := RoadKit.callSH X hx hown (hts _ s2) (hts _ hv) (hts _ s3) (hts _ s1) s4 hK (g := F0 m pc ls st) rfl (hl.1.trans hml.symm) (argsL := As) (rest := rest) (fun sig h => by rw [h] at s6; exact hn.trans (Option.some.inj s6).symm) hst (lv_room hrest) (by rw [hb]; exact hd)
    (fun vm₁ hW₁ => ⟨hcs.1, hcs.2, rfl, by show T.heap.size = _; rw [hT0], by show w_F G1 cL o K f T.heap; rw [hT0]; exact ⟨hH1, hH3⟩, va_K.moved hW₁.alike hKg, hTh.moved hW₁ (by show s.heap.size ≤ T.heap.size; rw [hT0]; exact hS.1) (fun a ha => by show T.heap[a]? = _; rw [hT0]; exact hS.2.1 a ha (by omega)), va_K.moved hW₁.alike hKl⟩)
  dsimp only [Pt.U, Pt.locs, Pt.cells, Pt.slots] at X' e1 e2 h1 h2 h3 st
  subst h1; subst h2; subst h3
  obtain ⟨hv', ⟨q1, q2⟩, q3, q4⟩ := hq
  cases hv'
  have q4 : ∀ q : Nat, q < H.size → ¬ w_A G1 o H.size q → t.heap[q]? = H[q]? := fun q h1 h2 => by
    have := q4 q (by show q < T.heap.size; rw [hT0]; exact h1) h2
    rw [this]
    show T.heap[q]? = H[q]?
    rw [hT0]
  have hin : ∀ q, w_A G1 o H.size q → s.heap.size ≤ q := fun q hq => by
    rcases hq with (⟨f, c, k, i, h1, h2, rfl⟩ | h) | rfl
    · exact ok.1.2.1 f c k i h1 h2
    · exact Nat.le_trans hS.1 h
    · exact ok.1.2.2.1
  have hz : H.size ≤ t.heap.size := by
    have : T.heap.size ≤ t.heap.size := q3
    rw [hT0] at this
    exact this
  obtain ⟨t2, a1, b1⟩ := k U'.heap (locs ++ L) ls ⟨by rw [e1]; exact q1, hH2.kept (fun f c kd i hf hi => by
        rw [e1]
        refine q4 _ (k_world_lt hH2 hf hi) (fun z => ?_)
        rcases z with (⟨f', c', k', i', g1, g2, g3⟩ | z) | z
        · exact ok.2.2.2 f' c' k' i' f c kd i g1 g2 hf hi g3.symm
        · exact absurd (k_world_lt hH2 hf hi) (Nat.not_lt.mpr z)
        · exact (ok.2.2.1 f c kd i hf hi).2 z), by rw [e1]; exact q2⟩
    ⟨by rw [e1]; exact Nat.le_trans hS.1 hz, fun q g1 g2 => by rw [e1, q4 q (Nat.lt_of_lt_of_le g1 hS.1) (fun z => g2 (hin q z))]; exact hS.2.1 q g1 g2, fun q hq => by
      rcases List.mem_append.mp hq with h | h
      · exact hS.2.2 q h
      · exact hin _ (hL q h)⟩ hl U' rfl X'
  exact ⟨t2, st t2 a1, b1⟩
theorem l_lald {X : kX} {cc : ByteArray} {own : String} {G1 G2 G0 : kG} {nL : Nat} {l : Launch} {R : Room} {n1 n2 pc : Nat} {lv : List (Nat × Value)} {st : List Value} {cL : ClassId} {o h0 : Nat} {K M : kM} {f : Nat → Int64} (C : k_C X kT cc own eS G0 nL l R) (Lc : l_C X G1 G2 cL h0) (hd : decode cc pc = .ok (.laload, 1)) {x : Int64} (hx0 : f 0 = x)
    (k : q_W X n1 n2 (pc + 1) lv (.long x :: st) (l_F G1 G2 cL o K M f)) : q_W X n1 n2 pc lv (.int 0 :: .ref o :: st) (l_F G1 G2 cL o K M f) := by
  subst hx0
  obtain ⟨p, l, e, R, s, m, args, below, meth, cd, Q, S', G', A, nL'⟩ := X
  obtain ⟨rfl, rfl, rfl, rfl, rfl, hx, hb, hml, hown, hts, hT, hI, hA, hAf⟩ := C
  obtain ⟨rfl, rfl, hKg, hKm, hTh, hKl⟩ := Lc
  refine fun H locs ls hH hS hl => ?_
  exact va_lald (i := 0) (n := 1) hx hb hKl (va_atE (e := .inl (cL, 1, .inr (.inl f))) (show va_at G1.1 [] (o, .inl (cL, 1, .inr (.inl f))) H from hH.2.2)) 0 0 rfl rfl (k_in (by decide)) hd (k H locs ls hH hS hl)
def l_X (X : kX) (b L : Nat) (xs : Nat → Int32) : Prop := match X with
  | (_, _, _, _, s, _, _, _, _, _, _, _, _, A, _) => va_X b L xs s s.heap ∧ b < s.heap.size ∧ ¬ A b
theorem l_sld {X : kX} {cc : ByteArray} {own : String} {G0 : kG} {nL : Nat} {l : Launch} {R : Room} {n1 n2 pc : Nat} {lv : List (Nat × Value)} {st : List Value} {Φ : Heap → Prop} {b L : Nat} {xs : Nat → Int32} (C : k_C X kT cc own eS G0 nL l R) (hX : l_X X b L xs) (hd : decode cc pc = .ok (.iaload, 1)) {x : Int32} {j : Nat} (hj : x = nI j) (hjL : j < L) (hL : L ≤ 3072)
    (k : q_W X n1 n2 (pc + 1) lv (.int (xs j) :: st) Φ) : q_W X n1 n2 pc lv (.int x :: .ref b :: st) Φ := by
  subst hj
  obtain ⟨p, l, e, R, s, m, args, below, meth, cd, Q, S', G', A, nL'⟩ := X
  obtain ⟨rfl, rfl, rfl, rfl, rfl, hx, hb, hml, hown, hts, hT, hI, hA, hAf⟩ := C
  obtain ⟨h1, h2, h3⟩ := hX
  refine fun H locs ls hH hS hl => ?_
  refine va_sld hx hb h1 h2 h3 hS (vp_in_nI hjL (by omega)) hd ?_
  rw [nI_clamp (by omega)]
  exact k H locs ls hH hS hl
theorem l_slen {X : kX} {cc : ByteArray} {own : String} {G0 : kG} {nL : Nat} {l : Launch} {R : Room} {n1 n2 pc : Nat} {lv : List (Nat × Value)} {st : List Value} {Φ : Heap → Prop} {b L : Nat} {xs : Nat → Int32} (C : k_C X kT cc own eS G0 nL l R) (hX : l_X X b L xs) (hd : decode cc pc = .ok (.arraylength, 1))
    (k : q_W X n1 n2 (pc + 1) lv (.int (nI L) :: st) Φ) : q_W X n1 n2 pc lv (.ref b :: st) Φ := by
  obtain ⟨p, l, e, R, s, m, args, below, meth, cd, Q, S', G', A, nL'⟩ := X
  obtain ⟨rfl, rfl, rfl, rfl, rfl, hx, hb, hml, hown, hts, hT, hI, hA, hAf⟩ := C
  obtain ⟨h1, h2, h3⟩ := hX
  exact fun H locs ls hH hS hl => va_slen hx hb h1 h2 h3 hS hd (k H locs ls hH hS hl)
theorem q_size {X : kX} {n1 n2 pc : Nat} {lv : List (Nat × Value)} {st : List Value} {Φ : Heap → Prop} (k : ∀ z : Nat, q_W X n1 n2 pc lv st (fun H => Φ H ∧ H.size = z)) : q_W X n1 n2 pc lv st Φ := by
  obtain ⟨p, l, e, R, s, m, args, below, meth, cd, Q, S', G', A, nL'⟩ := X
  exact fun H locs ls hH hS hl => k H.size H locs ls ⟨hH, rfl⟩ hS hl
theorem q_topl {X : kX} {n1 n2 pc : Nat} {lv : List (Nat × Value)} {st : List Value} {Φ : Heap → Prop} {x y : Int64} (h : x = y) (k : q_W X n1 n2 pc lv (.long y :: st) Φ) : q_W X n1 n2 pc lv (.long x :: st) Φ := h ▸ k
def l_Ed (X : kX) (h0 : Nat) : Prop := match X with
  | (_, _, _, _, s, _, args, below, meth, _, Q, _, _, A, _) => (∃ b : Nat, args = #[Value.ref b] ∧ Q = lw_Z below #[Value.ref b] s) ∧ meth.sig.returnType = ret ∧ meth.locks = false ∧ h0 = s.heap.size ∧ A = (fun q => h0 ≤ q)
/-- the law's end -/
theorem l_end {X : kX} {G0 : kG} {l : Launch} {n1 n2 pc : Nat} {lv : List (Nat × Value)} {Φ : Heap → Prop} {h0 : Nat} (C : k_C X kT code R_law eS G0 7 l room_1) (hE : l_Ed X h0) (hd : decode code pc = .ok (.ireturn, 1)) (h1 : n1 ≤ 643217) (h2 : n2 ≤ 7166453) : q_W X n1 n2 pc lv [.int 1] Φ := by
  obtain ⟨p, l, e, R, s, m, args, below, meth, cd, Q, S', G', A, nL'⟩ := X
  obtain ⟨rfl, rfl, rfl, rfl, rfl, hx, hb, hml, hown, hts, hT, hI, hA, hAf⟩ := C
  obtain ⟨⟨b, rfl, rfl⟩, hr, hlk, rfl, rfl⟩ := hE
  refine fun H locs ls hH hS hl => ?_
  exact va_forget (fun q hq => hS.2.2 q hq) (W.widen h1 h2 (lw_ret hx hb hr hlk hd))
