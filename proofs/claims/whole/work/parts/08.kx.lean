/-! ===== THE GENERIC LAYER (1): a world of cells by families; memory: K family index slot ===== -/
abbrev kM : Type := Nat → Nat → Nat → Int32
def k_up (K : kM) (f i j : Nat) (x : Int32) : kM := fun a b c => if a = f ∧ c = j ∧ b = i then x else K a b c
abbrev kR : Type := Nat → Nat → Option (Nat × Nat)
abbrev kF : Type := (Nat × Nat × kR) ⊕ ((Nat × Nat) ⊕ (Nat × Nat × kR))
abbrev kL : Type := List (Nat × kF)
abbrev kS : Type := List vw_C × List FieldType × kL
abbrev kG : Type := va_G × (Nat → ClassId) × (Nat → Nat → Nat)
def k_v (φ : Nat → Nat → Nat) (r : Option (Nat × Nat)) (x : Int32) : Value := match r with
  | some q => .ref (φ q.1 q.2)
  | none => .int x
def k_ent (G : kG) (K : kM) (f i : Nat) (k : kF) : va_E := match k with
  | .inl q => .inr (q.1, (List.range q.2.1).map (fun j => k_v G.2.2 (q.2.2 i j) (K f i j)))
  | .inr (.inl q) => .inl (G.2.1 q.1, q.2, .inl (K f i))
  | .inr (.inr q) => .inl (G.2.1 q.1, q.2.1, .inr (.inr (.inr (.inr (fun j => (q.2.2 i j).map (fun r => G.2.2 r.1 r.2))))))
def k_H (S : kS) (G : kG) (K : kM) (H : Heap) : Prop := ∀ (f c : Nat) (k : kF) (i : Nat), S.2.2[f]? = some (c, k) → i < c → va_at G.1 S.1 (G.2.2 f i, k_ent G K f i k) H
def k_I (S : kS) (G : kG) : Prop := ∀ (f c : Nat) (k : kF) (i f' c' : Nat) (k' : kF) (i' : Nat), S.2.2[f]? = some (c, k) → i < c → S.2.2[f']? = some (c', k') → i' < c' → G.2.2 f i = G.2.2 f' i' → f = f' ∧ i = i'
def k_ty (S : kS) (G : kG) : List (ClassId × FieldType) := S.2.1.zipIdx.map (fun q => (G.2.1 q.2, q.1))
def k_T (S : kS) (G : kG) (U : State) : Prop := va_K G.1 S.1 (k_ty S G) U
def k_A (S : kS) (G : kG) (sz : Nat) : Nat → Prop := fun q => (∃ (f c : Nat) (k : kF) (i : Nat), S.2.2[f]? = some (c, k) ∧ i < c ∧ q = G.2.2 f i) ∨ sz ≤ q
theorem k_tyat {S : kS} {G : kG} {t : Nat} {ty : FieldType} (h : S.2.1[t]? = some ty) : (k_ty S G)[t]? = some (G.2.1 t, ty) := by
  simp [k_ty, List.getElem?_map, List.getElem?_zipIdx, h]
theorem k_up_eq (K : kM) (f i j : Nat) (x : Int32) : k_up K f i j x f i j = x := by simp [k_up]
theorem k_up_row {K : kM} {f i j : Nat} {x : Int32} {f' i' : Nat} (h : ¬ (f' = f ∧ i' = i)) : k_up K f i j x f' i' = K f' i' := by
  funext c
  simp only [k_up]
  rw [if_neg]
  exact fun q => h ⟨q.1, q.2.2⟩
theorem k_up_arr (K : kM) (f i j : Nat) (x : Int32) : k_up K f i j x f i = upd (K f i) j x := by
  funext c
  by_cases h : c = j
  · subst h
    simp [k_up, upd]
  · simp [k_up, upd, h]
theorem k_ent_congr {G : kG} {K K' : kM} {f i : Nat} (k : kF) (h : K f i = K' f i) : k_ent G K f i k = k_ent G K' f i k := by
  unfold k_ent
  rw [h]
theorem k_one {S : kS} {G : kG} {K : kM} {H : Heap} {f c i : Nat} {k : kF} (h : k_H S G K H) (hf : S.2.2[f]? = some (c, k)) (hi : i < c) : va_P G.1 S.1 [(G.2.2 f i, k_ent G K f i k)] H := by
  intro q0 q hq
  match q0, hq with
  | 0, hq =>
    cases hq
    exact h f c k i hf hi
  | n + 1, hq => simp at hq
theorem k_H.put {S : kS} {G : kG} {K : kM} {H H1 : Heap} {f c i j : Nat} {k : kF} {x : Int32} (h : k_H S G K H) (hI : k_I S G) (hf : S.2.2[f]? = some (c, k)) (hi : i < c)
    (hn : va_at G.1 S.1 (G.2.2 f i, k_ent G (k_up K f i j x) f i k) H1) (ho : ∀ q : Nat, q ≠ G.2.2 f i → H1[q]? = H[q]?) : k_H S G (k_up K f i j x) H1 := by
  intro f' c' k' i' hf' hi'
  by_cases hq : G.2.2 f' i' = G.2.2 f i
  · obtain ⟨e1, e2⟩ := hI f' c' k' i' f c k i hf' hi' hf hi hq
    subst e1; subst e2
    cases hf.symm.trans hf'
    exact hn
  · rw [k_ent_congr (K := k_up K f i j x) (K' := K) k' (k_up_row (fun z => hq (by rw [z.1, z.2])))]
    exact (h f' c' k' i' hf' hi').kept (ho _ hq)
theorem k_H.kept {S : kS} {G : kG} {K : kM} {H H1 : Heap} (h : k_H S G K H) (hq : ∀ (f c : Nat) (k : kF) (i : Nat), S.2.2[f]? = some (c, k) → i < c → H1[G.2.2 f i]? = H[G.2.2 f i]?) : k_H S G K H1 :=
  fun f c k i hf hi => (h f c k i hf hi).kept (hq f c k i hf hi)
theorem k_fs_put {φ : Nat → Nat → Nat} {K : kM} {f i j n : Nat} {x : Int32} {rf : kR} (hr : rf i j = none) :
    ((List.range n).map (fun a => k_v φ (rf i a) (K f i a))).set j (.int x) = (List.range n).map (fun a => k_v φ (rf i a) (k_up K f i j x f i a)) := by
  apply List.ext_getElem?
  intro q
  rw [List.getElem?_set, List.getElem?_map, List.getElem?_map]
  by_cases hn : q < n
  · rw [List.getElem?_range hn]
    by_cases hq : j = q
    · subst hq
      simp [hn, hr, k_v, k_up]
    · rw [if_neg hq]
      simp [k_up, Ne.symm hq]
  · have e : (List.range n)[q]? = none := by simp; omega
    by_cases hq : j = q
    · subst hq
      simp [hn]
    · rw [if_neg hq, e]
      rfl
/-! ### locals: the first entry of a number counts -/
def k_has (ls : Array Slot) (nL : Nat) (lv : List (Nat × Value)) : Prop := ls.size = nL ∧ lv_wf ls ∧ ∀ (i : Nat) (v : Value), lv.lookup i = some v → ls[i]? = some (.val v) ∧ v.category = 1
def k_l0 (nL : Nat) (lv : List (Nat × Value)) : List (Nat × Value) := (List.range nL).filterMap (fun j => (lv.lookup j).map (fun v => (j, v)))
theorem k_has.list {ls : Array Slot} {nL : Nat} {lv : List (Nat × Value)} (h : k_has ls nL lv) : lv_has ls nL (k_l0 nL lv) := by
  refine ⟨h.1, h.2.1, fun q hq => ?_⟩
  obtain ⟨j, -, hj⟩ := List.mem_filterMap.mp hq
  cases e : lv.lookup j with
  | none => rw [e] at hj; cases hj
  | some v =>
    rw [e] at hj
    cases hj
    exact (h.2.2 j v e).1
theorem k_has.cons {ls ls' : Array Slot} {nL i : Nat} {v : Value} {lv : List (Nat × Value)} (h : k_has ls nL lv) (hc : v.category = 1)
    (h' : lv_has ls' nL ((i, v) :: (k_l0 nL lv).filter (fun q => !(q.1 == i) && !(q.1 + 1 == i && q.2.category == 2)))) : k_has ls' nL ((i, v) :: lv) := by
  refine ⟨h'.1, h'.2.1, fun j w hw => ?_⟩
  by_cases hj : j = i
  · subst hj
    have e : w = v := by
      simp [List.lookup] at hw
      exact hw.symm
    subst e
    exact ⟨h'.2.2 (j, w) List.mem_cons_self, hc⟩
  · have e : lv.lookup j = some w := by
      have hb : (j == i) = false := by simpa using hj
      simp only [List.lookup, hb] at hw
      exact hw
    obtain ⟨g1, g2⟩ := h.2.2 j w e
    have hlt : j < nL := by rw [← h.1]; exact lv_lt g1
    refine ⟨h'.2.2 (j, w) (List.mem_cons_of_mem _ (List.mem_filter.mpr ⟨List.mem_filterMap.mpr ⟨j, List.mem_range.mpr hlt, by rw [e]; rfl⟩, ?_⟩)), g2⟩
    simp [hj, g2]
theorem k_mem_lookup : ∀ (lv : List (Nat × Value)) (i : Nat) (v : Value), lv.lookup i = some v → (i, v) ∈ lv
  | [], i, v, h => by simp [List.lookup] at h
  | (a, b) :: t, i, v, h => by
    by_cases hj : i = a
    · subst hj
      simp [List.lookup] at h
      subst h
      exact List.mem_cons_self
    · have hb : (i == a) = false := by simpa using hj
      simp only [List.lookup, hb] at h
      exact List.mem_cons_of_mem _ (k_mem_lookup t i v h)
theorem k_has.of {ls : Array Slot} {nL : Nat} {lv : List (Nat × Value)} (h : lv_has ls nL lv) (hc : ∀ q ∈ lv, q.2.category = 1) : k_has ls nL lv :=
  ⟨h.1, h.2.1, fun i v hv => ⟨h.2.2 (i, v) (k_mem_lookup lv i v hv), hc (i, v) (k_mem_lookup lv i v hv)⟩⟩
/-! ### the judgement -/
abbrev kX := Program × Launch × Env × Room × State × MethodId × Array Value × List Frame × Method × Code × (State → Prop) × kS × kG × (Nat → Prop) × Nat
def k_W (X : kX) (n1 n2 pc : Nat) (lv : List (Nat × Value)) (st : List Value) (K : kM) : Prop := match X with
  | (p, l, e, R, s, m, args, below, meth, c, Q, S, G, A, nL) => ∀ (H : Heap) (locs : List Loc) (ls : Array Slot), k_H S G K H → va_S A s.heap H locs → k_has ls nL lv → W p l e R s m args below meth c H locs n1 n2 Q (F0 m pc ls st)
def k_C (X : kX) (Ts : List Cond) (cc : ByteArray) (own : String) (S : kS) (G : kG) (nL : Nat) (l : Launch) (R : Room) : Prop := match X with
  | (p, l', e, R', s, m, args, below, meth, c, Q, S', G', A, nL') => S' = S ∧ G' = G ∧ nL' = nL ∧ l' = l ∧ R' = R ∧ p.tables.exec = Jvm.exec ∧ c.code = cc ∧ c.maxLocals = nL' ∧ s.vm.findClass own = some m.cls ∧ (∀ w ∈ Ts, w.before args s = true) ∧ k_T S' G' s ∧ k_I S' G' ∧ (∀ q, s.heap.size ≤ q → A q) ∧ (∀ (f c : Nat) (k : kF) (i : Nat), S'.2.2[f]? = some (c, k) → i < c → A (G'.2.2 f i))
def k_Qc (S : kS) (G : kG) (r : Option Value) (K2 : kM) (A : Nat → Prop) : Array Value → State → Outcome → State → Prop := fun _ st oc t => oc = .returned r ∧ k_H S G K2 t.heap ∧ va_F A st t
def k_E (X : kX) (ret : Option FieldType) (r : Option Value) (K2 : kM) (mc ms : Nat) : Prop := match X with
  | (_, _, _, _, s, _, args, below, meth, _, Q, S, G, A, _) => Q = MQ below (k_Qc S G r K2 A) args s mc ms A ∧ meth.sig.returnType = ret ∧ meth.locks = false
def k_Pc (S : kS) (G : kG) (args : List Value) (K : kM) (sz : Nat) : Array Value → State → Prop := va_Pc args (fun U => U.heap.size = sz ∧ k_H S G K U.heap ∧ k_T S G U ∧ k_I S G)
/-- the contract: from the memory K with these arguments the method returns r and leaves K2; no cell comes -/
def k_Met (l : Launch) (S : kS) (Ts : List Cond) (y : MethodName) (cc : ByteArray) (nL : Nat) (ret : Option FieldType) (rm : Room) (G : kG) (args : List Value) (K : kM) (r : Option Value) (K2 : kM) : Prop :=
  ∀ sz : Nat, Met l y (.code y cc nL ret :: Ts) rm (k_Pc S G args K sz) (k_Qc S G r K2 (k_A S G sz)) 0 0 (k_A S G sz)
def k_rm (d : Nat) : Room := { frames := d, cells := 0, slots := 0, locals := 36 * d }
theorem k_intro {l : Launch} {S : kS} {Ts : List Cond} {y : MethodName} {cc : ByteArray} {nL : Nat} {ret : Option FieldType} {rm : Room} {G : kG} {args : List Value} {K : kM} {r : Option Value} {K2 : kM}
    (hy : plainFor y = true) (hc : (lv_args 0 args).all (fun q => q.2.category == 1) = true) (hn : (lg_sl args).length ≤ nL)
    (body : ∀ X : kX, k_C X Ts cc y.cls S G nL l rm → k_E X ret r K2 0 0 → k_W X 0 0 0 (lv_args 0 args) [] K) : k_Met l S Ts y cc nL ret rm G args K r K2 := by
  intro sz
  refine va_MetF (cc := cc) (maxL := nL) (ret := ret) hy rfl ?_
  intro p e s m args' below meth c s₁ B hml hv
  obtain ⟨rfl, hsz, hH, hT, hI⟩ := hv
  have hts := atoms_spec (ws := .code y cc nL ret :: Ts) B.pre
  have hown : s.vm.findClass y.cls = some m.cls := findClass_of_methodNamed B.named
  subst hsz
  have hl := lv_entry args (n := nL) hn
  rw [lg_entry_eq]
  exact body (p, l, e, rm, s, m, args.toArray, below, meth, c, MQ below (k_Qc S G r K2 (k_A S G s.heap.size)) args.toArray s 0 0 (k_A S G s.heap.size), S, G, k_A S G s.heap.size, nL)
    ⟨rfl, rfl, rfl, rfl, rfl, B.exec, B.bytes, hml, hown, fun w hw => hts w (List.mem_cons_of_mem _ hw), hT, hI, fun q h => Or.inr h, fun f c k i hf hi => Or.inl ⟨f, c, k, i, hf, hi, rfl⟩⟩
    ⟨rfl, B.returns, B.notSynchronized⟩ s.heap [] _ hH va_S.rf (k_has.of hl (fun q hq => by simpa using List.all_eq_true.mp hc q hq))
/-! ===== THE GENERIC LAYER (2): a row an instruction ===== -/
theorem k_iconst {X : kX} {Ts : List Cond} {cc : ByteArray} {own : String} {S : kS} {G : kG} {nL : Nat} {l : Launch} {R : Room} {n1 n2 pc : Nat} {lv : List (Nat × Value)} {st : List Value} {K : kM} (C : k_C X Ts cc own S G nL l R) {n : Int} (hd : decode cc pc = .ok (.iconst n, 1)) {v : Int32} (hv : Int32.ofInt n = v) (k : k_W X n1 n2 (pc + 1) lv (.int v :: st) K) : k_W X n1 n2 pc lv (st) K := by
  obtain ⟨p, l, e, R, s, m, args, below, meth, cd, Q, S', G', A, nL'⟩ := X
  obtain ⟨rfl, rfl, rfl, rfl, rfl, hx, hb, hml, hown, hts, hT, hI, hA, hAf⟩ := C
  exact fun H locs ls hH hS hl => lv_iconst hx hb hd hv (k H locs ls hH hS hl)
theorem k_bipush {X : kX} {Ts : List Cond} {cc : ByteArray} {own : String} {S : kS} {G : kG} {nL : Nat} {l : Launch} {R : Room} {n1 n2 pc : Nat} {lv : List (Nat × Value)} {st : List Value} {K : kM} (C : k_C X Ts cc own S G nL l R) {n : Int} (hd : decode cc pc = .ok (.bipush n, 2)) {v : Int32} (hv : (Int8.ofInt n).toInt32 = v) (k : k_W X n1 n2 (pc + 2) lv (.int v :: st) K) : k_W X n1 n2 pc lv (st) K := by
  obtain ⟨p, l, e, R, s, m, args, below, meth, cd, Q, S', G', A, nL'⟩ := X
  obtain ⟨rfl, rfl, rfl, rfl, rfl, hx, hb, hml, hown, hts, hT, hI, hA, hAf⟩ := C
  exact fun H locs ls hH hS hl => lv_bipush hx hb hd hv (k H locs ls hH hS hl)
theorem k_sipush {X : kX} {Ts : List Cond} {cc : ByteArray} {own : String} {S : kS} {G : kG} {nL : Nat} {l : Launch} {R : Room} {n1 n2 pc : Nat} {lv : List (Nat × Value)} {st : List Value} {K : kM} (C : k_C X Ts cc own S G nL l R) {n : Int} (hd : decode cc pc = .ok (.sipush n, 3)) {v : Int32} (hv : (Int16.ofInt n).toInt32 = v) (k : k_W X n1 n2 (pc + 3) lv (.int v :: st) K) : k_W X n1 n2 pc lv (st) K := by
  obtain ⟨p, l, e, R, s, m, args, below, meth, cd, Q, S', G', A, nL'⟩ := X
  obtain ⟨rfl, rfl, rfl, rfl, rfl, hx, hb, hml, hown, hts, hT, hI, hA, hAf⟩ := C
  exact fun H locs ls hH hS hl => lv_sipush hx hb hd hv (k H locs ls hH hS hl)
theorem k_iload {X : kX} {Ts : List Cond} {cc : ByteArray} {own : String} {S : kS} {G : kG} {nL : Nat} {l : Launch} {R : Room} {n1 n2 pc : Nat} {lv : List (Nat × Value)} {st : List Value} {K : kM} (C : k_C X Ts cc own S G nL l R) {i : Nat} (hd : decode cc pc = .ok (.iload i, 2)) {x : Int32} (hl0 : lv.lookup i = some (.int x)) (k : k_W X n1 n2 (pc + 2) lv (.int x :: st) K) : k_W X n1 n2 pc lv (st) K := by
  obtain ⟨p, l, e, R, s, m, args, below, meth, cd, Q, S', G', A, nL'⟩ := X
  obtain ⟨rfl, rfl, rfl, rfl, rfl, hx, hb, hml, hown, hts, hT, hI, hA, hAf⟩ := C
  exact fun H locs ls hH hS hl => lv_iload hx hb hd (hl.2.2 _ _ hl0).1 (k H locs ls hH hS hl)
theorem k_iload_n {X : kX} {Ts : List Cond} {cc : ByteArray} {own : String} {S : kS} {G : kG} {nL : Nat} {l : Launch} {R : Room} {n1 n2 pc : Nat} {lv : List (Nat × Value)} {st : List Value} {K : kM} (C : k_C X Ts cc own S G nL l R) {q : Fin 4} (hd : decode cc pc = .ok (.iload_n q, 1)) {x : Int32} (hl0 : lv.lookup (q : Nat) = some (.int x)) (k : k_W X n1 n2 (pc + 1) lv (.int x :: st) K) : k_W X n1 n2 pc lv (st) K := by
  obtain ⟨p, l, e, R, s, m, args, below, meth, cd, Q, S', G', A, nL'⟩ := X
  obtain ⟨rfl, rfl, rfl, rfl, rfl, hx, hb, hml, hown, hts, hT, hI, hA, hAf⟩ := C
  exact fun H locs ls hH hS hl => lv_iload_n hx hb hd rfl (hl.2.2 _ _ hl0).1 (k H locs ls hH hS hl)
theorem k_aload {X : kX} {Ts : List Cond} {cc : ByteArray} {own : String} {S : kS} {G : kG} {nL : Nat} {l : Launch} {R : Room} {n1 n2 pc : Nat} {lv : List (Nat × Value)} {st : List Value} {K : kM} (C : k_C X Ts cc own S G nL l R) {i : Nat} (hd : decode cc pc = .ok (.aload i, 2)) {x : Nat} (hl0 : lv.lookup i = some (.ref x)) (k : k_W X n1 n2 (pc + 2) lv (.ref x :: st) K) : k_W X n1 n2 pc lv (st) K := by
  obtain ⟨p, l, e, R, s, m, args, below, meth, cd, Q, S', G', A, nL'⟩ := X
  obtain ⟨rfl, rfl, rfl, rfl, rfl, hx, hb, hml, hown, hts, hT, hI, hA, hAf⟩ := C
  exact fun H locs ls hH hS hl => lv_aload hx hb hd (hl.2.2 _ _ hl0).1 (k H locs ls hH hS hl)
theorem k_aload_n {X : kX} {Ts : List Cond} {cc : ByteArray} {own : String} {S : kS} {G : kG} {nL : Nat} {l : Launch} {R : Room} {n1 n2 pc : Nat} {lv : List (Nat × Value)} {st : List Value} {K : kM} (C : k_C X Ts cc own S G nL l R) {q : Fin 4} (hd : decode cc pc = .ok (.aload_n q, 1)) {x : Nat} (hl0 : lv.lookup (q : Nat) = some (.ref x)) (k : k_W X n1 n2 (pc + 1) lv (.ref x :: st) K) : k_W X n1 n2 pc lv (st) K := by
  obtain ⟨p, l, e, R, s, m, args, below, meth, cd, Q, S', G', A, nL'⟩ := X
  obtain ⟨rfl, rfl, rfl, rfl, rfl, hx, hb, hml, hown, hts, hT, hI, hA, hAf⟩ := C
  exact fun H locs ls hH hS hl => lv_aload_n hx hb hd rfl (hl.2.2 _ _ hl0).1 (k H locs ls hH hS hl)
theorem k_istore {X : kX} {Ts : List Cond} {cc : ByteArray} {own : String} {S : kS} {G : kG} {nL : Nat} {l : Launch} {R : Room} {n1 n2 pc : Nat} {lv : List (Nat × Value)} {st : List Value} {K : kM} (C : k_C X Ts cc own S G nL l R) {i : Nat} (hd : decode cc pc = .ok (.istore i, 2)) {x : Int32} (hn : i < nL) (k : k_W X n1 n2 (pc + 2) ((i, .int x) :: lv) st K) : k_W X n1 n2 pc lv (.int x :: st) K := by
  obtain ⟨p, l, e, R, s, m, args, below, meth, cd, Q, S', G', A, nL'⟩ := X
  obtain ⟨rfl, rfl, rfl, rfl, rfl, hx, hb, hml, hown, hts, hT, hI, hA, hAf⟩ := C
  exact fun H locs ls hH hS hl => lv_istore hx hb hd hl.list hn rfl (fun ls' hl' => k H locs ls' hH hS (hl.cons rfl hl'))
theorem k_istore_n {X : kX} {Ts : List Cond} {cc : ByteArray} {own : String} {S : kS} {G : kG} {nL : Nat} {l : Launch} {R : Room} {n1 n2 pc : Nat} {lv : List (Nat × Value)} {st : List Value} {K : kM} (C : k_C X Ts cc own S G nL l R) {q : Fin 4} (hd : decode cc pc = .ok (.istore_n q, 1)) {x : Int32} (hn : (q : Nat) < nL) (k : k_W X n1 n2 (pc + 1) (((q : Nat), .int x) :: lv) st K) : k_W X n1 n2 pc lv (.int x :: st) K := by
  obtain ⟨p, l, e, R, s, m, args, below, meth, cd, Q, S', G', A, nL'⟩ := X
  obtain ⟨rfl, rfl, rfl, rfl, rfl, hx, hb, hml, hown, hts, hT, hI, hA, hAf⟩ := C
  exact fun H locs ls hH hS hl => lv_istore_n hx hb hd rfl hl.list hn rfl (fun ls' hl' => k H locs ls' hH hS (hl.cons rfl hl'))
theorem k_astore {X : kX} {Ts : List Cond} {cc : ByteArray} {own : String} {S : kS} {G : kG} {nL : Nat} {l : Launch} {R : Room} {n1 n2 pc : Nat} {lv : List (Nat × Value)} {st : List Value} {K : kM} (C : k_C X Ts cc own S G nL l R) {i : Nat} (hd : decode cc pc = .ok (.astore i, 2)) {x : Nat} (hn : i < nL) (k : k_W X n1 n2 (pc + 2) ((i, .ref x) :: lv) st K) : k_W X n1 n2 pc lv (.ref x :: st) K := by
  obtain ⟨p, l, e, R, s, m, args, below, meth, cd, Q, S', G', A, nL'⟩ := X
  obtain ⟨rfl, rfl, rfl, rfl, rfl, hx, hb, hml, hown, hts, hT, hI, hA, hAf⟩ := C
  exact fun H locs ls hH hS hl => lv_astore hx hb hd hl.list hn rfl (fun ls' hl' => k H locs ls' hH hS (hl.cons rfl hl'))
theorem k_astore_n {X : kX} {Ts : List Cond} {cc : ByteArray} {own : String} {S : kS} {G : kG} {nL : Nat} {l : Launch} {R : Room} {n1 n2 pc : Nat} {lv : List (Nat × Value)} {st : List Value} {K : kM} (C : k_C X Ts cc own S G nL l R) {q : Fin 4} (hd : decode cc pc = .ok (.astore_n q, 1)) {x : Nat} (hn : (q : Nat) < nL) (k : k_W X n1 n2 (pc + 1) (((q : Nat), .ref x) :: lv) st K) : k_W X n1 n2 pc lv (.ref x :: st) K := by
  obtain ⟨p, l, e, R, s, m, args, below, meth, cd, Q, S', G', A, nL'⟩ := X
  obtain ⟨rfl, rfl, rfl, rfl, rfl, hx, hb, hml, hown, hts, hT, hI, hA, hAf⟩ := C
  exact fun H locs ls hH hS hl => lv_astore_n hx hb hd rfl hl.list hn rfl (fun ls' hl' => k H locs ls' hH hS (hl.cons rfl hl'))
theorem k_iinc {X : kX} {Ts : List Cond} {cc : ByteArray} {own : String} {S : kS} {G : kG} {nL : Nat} {l : Launch} {R : Room} {n1 n2 pc : Nat} {lv : List (Nat × Value)} {st : List Value} {K : kM} (C : k_C X Ts cc own S G nL l R) {i : Nat} {n : Int} (hd : decode cc pc = .ok (.iinc i n, 3)) {x v : Int32} (hl0 : lv.lookup i = some (.int x)) (hv : x + Int32.ofInt n = v) (hn : i < nL) (k : k_W X n1 n2 (pc + 3) ((i, .int v) :: lv) st K) : k_W X n1 n2 pc lv st K := by
  obtain ⟨p, l, e, R, s, m, args, below, meth, cd, Q, S', G', A, nL'⟩ := X
  obtain ⟨rfl, rfl, rfl, rfl, rfl, hx, hb, hml, hown, hts, hT, hI, hA, hAf⟩ := C
  refine fun H locs ls hH hS hl => ?_
  have hm : (i, Value.int x) ∈ k_l0 nL' lv := List.mem_filterMap.mpr ⟨i, List.mem_range.mpr hn, by rw [hl0]; rfl⟩
  obtain ⟨kk, hk⟩ := List.mem_iff_getElem?.mp hm
  exact lv_iinc hx hb hd hl.list hk hv hn rfl (fun ls' hl' => k H locs ls' hH hS (hl.cons rfl hl'))
theorem k_iadd {X : kX} {Ts : List Cond} {cc : ByteArray} {own : String} {S : kS} {G : kG} {nL : Nat} {l : Launch} {R : Room} {n1 n2 pc : Nat} {lv : List (Nat × Value)} {st : List Value} {K : kM} (C : k_C X Ts cc own S G nL l R) (hd : decode cc pc = .ok (.iadd, 1)) {x y : Int32} (k : k_W X n1 n2 (pc + 1) lv (.int (x + y) :: st) K) : k_W X n1 n2 pc lv (.int y :: .int x :: st) K := by
  obtain ⟨p, l, e, R, s, m, args, below, meth, cd, Q, S', G', A, nL'⟩ := X
  obtain ⟨rfl, rfl, rfl, rfl, rfl, hx, hb, hml, hown, hts, hT, hI, hA, hAf⟩ := C
  exact fun H locs ls hH hS hl => lv_iadd hx hb hd (k H locs ls hH hS hl)
theorem k_isub {X : kX} {Ts : List Cond} {cc : ByteArray} {own : String} {S : kS} {G : kG} {nL : Nat} {l : Launch} {R : Room} {n1 n2 pc : Nat} {lv : List (Nat × Value)} {st : List Value} {K : kM} (C : k_C X Ts cc own S G nL l R) (hd : decode cc pc = .ok (.isub, 1)) {x y : Int32} (k : k_W X n1 n2 (pc + 1) lv (.int (x - y) :: st) K) : k_W X n1 n2 pc lv (.int y :: .int x :: st) K := by
  obtain ⟨p, l, e, R, s, m, args, below, meth, cd, Q, S', G', A, nL'⟩ := X
  obtain ⟨rfl, rfl, rfl, rfl, rfl, hx, hb, hml, hown, hts, hT, hI, hA, hAf⟩ := C
  exact fun H locs ls hH hS hl => lv_isub hx hb hd (k H locs ls hH hS hl)
theorem k_imul {X : kX} {Ts : List Cond} {cc : ByteArray} {own : String} {S : kS} {G : kG} {nL : Nat} {l : Launch} {R : Room} {n1 n2 pc : Nat} {lv : List (Nat × Value)} {st : List Value} {K : kM} (C : k_C X Ts cc own S G nL l R) (hd : decode cc pc = .ok (.imul, 1)) {x y : Int32} (k : k_W X n1 n2 (pc + 1) lv (.int (x * y) :: st) K) : k_W X n1 n2 pc lv (.int y :: .int x :: st) K := by
  obtain ⟨p, l, e, R, s, m, args, below, meth, cd, Q, S', G', A, nL'⟩ := X
  obtain ⟨rfl, rfl, rfl, rfl, rfl, hx, hb, hml, hown, hts, hT, hI, hA, hAf⟩ := C
  exact fun H locs ls hH hS hl => lv_imul hx hb hd (k H locs ls hH hS hl)
theorem k_iand {X : kX} {Ts : List Cond} {cc : ByteArray} {own : String} {S : kS} {G : kG} {nL : Nat} {l : Launch} {R : Room} {n1 n2 pc : Nat} {lv : List (Nat × Value)} {st : List Value} {K : kM} (C : k_C X Ts cc own S G nL l R) (hd : decode cc pc = .ok (.iand, 1)) {x y : Int32} (k : k_W X n1 n2 (pc + 1) lv (.int (x &&& y) :: st) K) : k_W X n1 n2 pc lv (.int y :: .int x :: st) K := by
  obtain ⟨p, l, e, R, s, m, args, below, meth, cd, Q, S', G', A, nL'⟩ := X
  obtain ⟨rfl, rfl, rfl, rfl, rfl, hx, hb, hml, hown, hts, hT, hI, hA, hAf⟩ := C
  exact fun H locs ls hH hS hl => lv_iand hx hb hd (k H locs ls hH hS hl)
theorem k_ior {X : kX} {Ts : List Cond} {cc : ByteArray} {own : String} {S : kS} {G : kG} {nL : Nat} {l : Launch} {R : Room} {n1 n2 pc : Nat} {lv : List (Nat × Value)} {st : List Value} {K : kM} (C : k_C X Ts cc own S G nL l R) (hd : decode cc pc = .ok (.ior, 1)) {x y : Int32} (k : k_W X n1 n2 (pc + 1) lv (.int (x ||| y) :: st) K) : k_W X n1 n2 pc lv (.int y :: .int x :: st) K := by
  obtain ⟨p, l, e, R, s, m, args, below, meth, cd, Q, S', G', A, nL'⟩ := X
  obtain ⟨rfl, rfl, rfl, rfl, rfl, hx, hb, hml, hown, hts, hT, hI, hA, hAf⟩ := C
  exact fun H locs ls hH hS hl => lv_ior hx hb hd (k H locs ls hH hS hl)
theorem k_ixor {X : kX} {Ts : List Cond} {cc : ByteArray} {own : String} {S : kS} {G : kG} {nL : Nat} {l : Launch} {R : Room} {n1 n2 pc : Nat} {lv : List (Nat × Value)} {st : List Value} {K : kM} (C : k_C X Ts cc own S G nL l R) (hd : decode cc pc = .ok (.ixor, 1)) {x y : Int32} (k : k_W X n1 n2 (pc + 1) lv (.int (x ^^^ y) :: st) K) : k_W X n1 n2 pc lv (.int y :: .int x :: st) K := by
  obtain ⟨p, l, e, R, s, m, args, below, meth, cd, Q, S', G', A, nL'⟩ := X
  obtain ⟨rfl, rfl, rfl, rfl, rfl, hx, hb, hml, hown, hts, hT, hI, hA, hAf⟩ := C
  exact fun H locs ls hH hS hl => lv_ixor hx hb hd (k H locs ls hH hS hl)
theorem k_idiv {X : kX} {Ts : List Cond} {cc : ByteArray} {own : String} {S : kS} {G : kG} {nL : Nat} {l : Launch} {R : Room} {n1 n2 pc : Nat} {lv : List (Nat × Value)} {st : List Value} {K : kM} (C : k_C X Ts cc own S G nL l R) (hd : decode cc pc = .ok (.idiv, 1)) {x y : Int32} (hne : ¬ y = 0) (k : k_W X n1 n2 (pc + 1) lv (.int (x / y) :: st) K) : k_W X n1 n2 pc lv (.int y :: .int x :: st) K := by
  obtain ⟨p, l, e, R, s, m, args, below, meth, cd, Q, S', G', A, nL'⟩ := X
  obtain ⟨rfl, rfl, rfl, rfl, rfl, hx, hb, hml, hown, hts, hT, hI, hA, hAf⟩ := C
  exact fun H locs ls hH hS hl => lv_idiv hx hb hd hne (k H locs ls hH hS hl)
theorem k_irem {X : kX} {Ts : List Cond} {cc : ByteArray} {own : String} {S : kS} {G : kG} {nL : Nat} {l : Launch} {R : Room} {n1 n2 pc : Nat} {lv : List (Nat × Value)} {st : List Value} {K : kM} (C : k_C X Ts cc own S G nL l R) (hd : decode cc pc = .ok (.irem, 1)) {x y : Int32} (hne : ¬ y = 0) (k : k_W X n1 n2 (pc + 1) lv (.int (x - x / y * y) :: st) K) : k_W X n1 n2 pc lv (.int y :: .int x :: st) K := by
  obtain ⟨p, l, e, R, s, m, args, below, meth, cd, Q, S', G', A, nL'⟩ := X
  obtain ⟨rfl, rfl, rfl, rfl, rfl, hx, hb, hml, hown, hts, hT, hI, hA, hAf⟩ := C
  exact fun H locs ls hH hS hl => lv_irem hx hb hd hne (k H locs ls hH hS hl)
theorem k_ineg {X : kX} {Ts : List Cond} {cc : ByteArray} {own : String} {S : kS} {G : kG} {nL : Nat} {l : Launch} {R : Room} {n1 n2 pc : Nat} {lv : List (Nat × Value)} {st : List Value} {K : kM} (C : k_C X Ts cc own S G nL l R) (hd : decode cc pc = .ok (.ineg, 1)) {x : Int32} (k : k_W X n1 n2 (pc + 1) lv (.int (-x) :: st) K) : k_W X n1 n2 pc lv (.int x :: st) K := by
  obtain ⟨p, l, e, R, s, m, args, below, meth, cd, Q, S', G', A, nL'⟩ := X
  obtain ⟨rfl, rfl, rfl, rfl, rfl, hx, hb, hml, hown, hts, hT, hI, hA, hAf⟩ := C
  exact fun H locs ls hH hS hl => lv_ineg hx hb hd (k H locs ls hH hS hl)
theorem k_dup {X : kX} {Ts : List Cond} {cc : ByteArray} {own : String} {S : kS} {G : kG} {nL : Nat} {l : Launch} {R : Room} {n1 n2 pc : Nat} {lv : List (Nat × Value)} {st : List Value} {K : kM} (C : k_C X Ts cc own S G nL l R) (hd : decode cc pc = .ok (.dup, 1)) {va : Value} (h1 : va.category = 1) (k : k_W X n1 n2 (pc + 1) lv (va :: va :: st) K) : k_W X n1 n2 pc lv (va :: st) K := by
  obtain ⟨p, l, e, R, s, m, args, below, meth, cd, Q, S', G', A, nL'⟩ := X
  obtain ⟨rfl, rfl, rfl, rfl, rfl, hx, hb, hml, hown, hts, hT, hI, hA, hAf⟩ := C
  exact fun H locs ls hH hS hl => lv_dup hx hb hd h1 (k H locs ls hH hS hl)
theorem k_pop {X : kX} {Ts : List Cond} {cc : ByteArray} {own : String} {S : kS} {G : kG} {nL : Nat} {l : Launch} {R : Room} {n1 n2 pc : Nat} {lv : List (Nat × Value)} {st : List Value} {K : kM} (C : k_C X Ts cc own S G nL l R) (hd : decode cc pc = .ok (.pop, 1)) {va : Value} (h1 : va.category = 1) (k : k_W X n1 n2 (pc + 1) lv (st) K) : k_W X n1 n2 pc lv (va :: st) K := by
  obtain ⟨p, l, e, R, s, m, args, below, meth, cd, Q, S', G', A, nL'⟩ := X
  obtain ⟨rfl, rfl, rfl, rfl, rfl, hx, hb, hml, hown, hts, hT, hI, hA, hAf⟩ := C
  exact fun H locs ls hH hS hl => lv_pop hx hb hd h1 (k H locs ls hH hS hl)
theorem k_dup2 {X : kX} {Ts : List Cond} {cc : ByteArray} {own : String} {S : kS} {G : kG} {nL : Nat} {l : Launch} {R : Room} {n1 n2 pc : Nat} {lv : List (Nat × Value)} {st : List Value} {K : kM} (C : k_C X Ts cc own S G nL l R) (hd : decode cc pc = .ok (.dup2, 1)) {va vb : Value} (h1 : va.category = 1) (h2 : vb.category = 1) (k : k_W X n1 n2 (pc + 1) lv (va :: vb :: va :: vb :: st) K) : k_W X n1 n2 pc lv (va :: vb :: st) K := by
  obtain ⟨p, l, e, R, s, m, args, below, meth, cd, Q, S', G', A, nL'⟩ := X
  obtain ⟨rfl, rfl, rfl, rfl, rfl, hx, hb, hml, hown, hts, hT, hI, hA, hAf⟩ := C
  exact fun H locs ls hH hS hl => lv_dup2_11 hx hb hd h1 h2 (k H locs ls hH hS hl)
theorem k_dup_x1 {X : kX} {Ts : List Cond} {cc : ByteArray} {own : String} {S : kS} {G : kG} {nL : Nat} {l : Launch} {R : Room} {n1 n2 pc : Nat} {lv : List (Nat × Value)} {st : List Value} {K : kM} (C : k_C X Ts cc own S G nL l R) (hd : decode cc pc = .ok (.dup_x1, 1)) {va vb : Value} (h1 : va.category = 1) (h2 : vb.category = 1) (k : k_W X n1 n2 (pc + 1) lv (va :: vb :: va :: st) K) : k_W X n1 n2 pc lv (va :: vb :: st) K := by
  obtain ⟨p, l, e, R, s, m, args, below, meth, cd, Q, S', G', A, nL'⟩ := X
  obtain ⟨rfl, rfl, rfl, rfl, rfl, hx, hb, hml, hown, hts, hT, hI, hA, hAf⟩ := C
  exact fun H locs ls hH hS hl => lv_dup_x1 hx hb hd h1 h2 (k H locs ls hH hS hl)
theorem k_dup_x2 {X : kX} {Ts : List Cond} {cc : ByteArray} {own : String} {S : kS} {G : kG} {nL : Nat} {l : Launch} {R : Room} {n1 n2 pc : Nat} {lv : List (Nat × Value)} {st : List Value} {K : kM} (C : k_C X Ts cc own S G nL l R) (hd : decode cc pc = .ok (.dup_x2, 1)) {va vb vd : Value} (h1 : va.category = 1) (h2 : vb.category = 1) (h3 : vd.category = 1) (k : k_W X n1 n2 (pc + 1) lv (va :: vb :: vd :: va :: st) K) : k_W X n1 n2 pc lv (va :: vb :: vd :: st) K := by
  obtain ⟨p, l, e, R, s, m, args, below, meth, cd, Q, S', G', A, nL'⟩ := X
  obtain ⟨rfl, rfl, rfl, rfl, rfl, hx, hb, hml, hown, hts, hT, hI, hA, hAf⟩ := C
  exact fun H locs ls hH hS hl => lv_dup_x2 hx hb hd h1 h2 h3 (k H locs ls hH hS hl)
theorem k_if_eq {X : kX} {Ts : List Cond} {cc : ByteArray} {own : String} {S : kS} {G : kG} {nL : Nat} {l : Launch} {R : Room} {n1 n2 pc : Nat} {lv : List (Nat × Value)} {st : List Value} {K : kM} (C : k_C X Ts cc own S G nL l R) {off : Int} {tgt : Nat} (hd : decode cc pc = .ok (.ifCond .eq off, 3)) (ht : (pc : Int) + off = (tgt : Int)) {x : Int32} (kt : x = 0 → k_W X n1 n2 tgt lv st K) (kf : ¬ x = 0 → k_W X n1 n2 (pc + 3) lv st K) : k_W X n1 n2 pc lv (.int x :: st) K := by
  obtain ⟨p, l, e, R, s, m, args, below, meth, cd, Q, S', G', A, nL'⟩ := X
  obtain ⟨rfl, rfl, rfl, rfl, rfl, hx, hb, hml, hown, hts, hT, hI, hA, hAf⟩ := C
  exact fun H locs ls hH hS hl => lv_if_eq hx hb hd ht (fun h => kt h H locs ls hH hS hl) (fun h => kf h H locs ls hH hS hl)
theorem k_if_ne {X : kX} {Ts : List Cond} {cc : ByteArray} {own : String} {S : kS} {G : kG} {nL : Nat} {l : Launch} {R : Room} {n1 n2 pc : Nat} {lv : List (Nat × Value)} {st : List Value} {K : kM} (C : k_C X Ts cc own S G nL l R) {off : Int} {tgt : Nat} (hd : decode cc pc = .ok (.ifCond .ne off, 3)) (ht : (pc : Int) + off = (tgt : Int)) {x : Int32} (kt : ¬ x = 0 → k_W X n1 n2 tgt lv st K) (kf : x = 0 → k_W X n1 n2 (pc + 3) lv st K) : k_W X n1 n2 pc lv (.int x :: st) K := by
  obtain ⟨p, l, e, R, s, m, args, below, meth, cd, Q, S', G', A, nL'⟩ := X
  obtain ⟨rfl, rfl, rfl, rfl, rfl, hx, hb, hml, hown, hts, hT, hI, hA, hAf⟩ := C
  exact fun H locs ls hH hS hl => lv_if_ne hx hb hd ht (fun h => kt h H locs ls hH hS hl) (fun h => kf h H locs ls hH hS hl)
theorem k_if_lt {X : kX} {Ts : List Cond} {cc : ByteArray} {own : String} {S : kS} {G : kG} {nL : Nat} {l : Launch} {R : Room} {n1 n2 pc : Nat} {lv : List (Nat × Value)} {st : List Value} {K : kM} (C : k_C X Ts cc own S G nL l R) {off : Int} {tgt : Nat} (hd : decode cc pc = .ok (.ifCond .lt off, 3)) (ht : (pc : Int) + off = (tgt : Int)) {x : Int32} (kt : x < 0 → k_W X n1 n2 tgt lv st K) (kf : ¬ x < 0 → k_W X n1 n2 (pc + 3) lv st K) : k_W X n1 n2 pc lv (.int x :: st) K := by
  obtain ⟨p, l, e, R, s, m, args, below, meth, cd, Q, S', G', A, nL'⟩ := X
  obtain ⟨rfl, rfl, rfl, rfl, rfl, hx, hb, hml, hown, hts, hT, hI, hA, hAf⟩ := C
  exact fun H locs ls hH hS hl => lv_if_lt hx hb hd ht (fun h => kt h H locs ls hH hS hl) (fun h => kf h H locs ls hH hS hl)
theorem k_if_ge {X : kX} {Ts : List Cond} {cc : ByteArray} {own : String} {S : kS} {G : kG} {nL : Nat} {l : Launch} {R : Room} {n1 n2 pc : Nat} {lv : List (Nat × Value)} {st : List Value} {K : kM} (C : k_C X Ts cc own S G nL l R) {off : Int} {tgt : Nat} (hd : decode cc pc = .ok (.ifCond .ge off, 3)) (ht : (pc : Int) + off = (tgt : Int)) {x : Int32} (kt : 0 ≤ x → k_W X n1 n2 tgt lv st K) (kf : ¬ 0 ≤ x → k_W X n1 n2 (pc + 3) lv st K) : k_W X n1 n2 pc lv (.int x :: st) K := by
  obtain ⟨p, l, e, R, s, m, args, below, meth, cd, Q, S', G', A, nL'⟩ := X
  obtain ⟨rfl, rfl, rfl, rfl, rfl, hx, hb, hml, hown, hts, hT, hI, hA, hAf⟩ := C
  exact fun H locs ls hH hS hl => lv_if_ge hx hb hd ht (fun h => kt h H locs ls hH hS hl) (fun h => kf h H locs ls hH hS hl)
theorem k_if_gt {X : kX} {Ts : List Cond} {cc : ByteArray} {own : String} {S : kS} {G : kG} {nL : Nat} {l : Launch} {R : Room} {n1 n2 pc : Nat} {lv : List (Nat × Value)} {st : List Value} {K : kM} (C : k_C X Ts cc own S G nL l R) {off : Int} {tgt : Nat} (hd : decode cc pc = .ok (.ifCond .gt off, 3)) (ht : (pc : Int) + off = (tgt : Int)) {x : Int32} (kt : 0 < x → k_W X n1 n2 tgt lv st K) (kf : ¬ 0 < x → k_W X n1 n2 (pc + 3) lv st K) : k_W X n1 n2 pc lv (.int x :: st) K := by
  obtain ⟨p, l, e, R, s, m, args, below, meth, cd, Q, S', G', A, nL'⟩ := X
  obtain ⟨rfl, rfl, rfl, rfl, rfl, hx, hb, hml, hown, hts, hT, hI, hA, hAf⟩ := C
  exact fun H locs ls hH hS hl => lv_if_gt hx hb hd ht (fun h => kt h H locs ls hH hS hl) (fun h => kf h H locs ls hH hS hl)
theorem k_if_le {X : kX} {Ts : List Cond} {cc : ByteArray} {own : String} {S : kS} {G : kG} {nL : Nat} {l : Launch} {R : Room} {n1 n2 pc : Nat} {lv : List (Nat × Value)} {st : List Value} {K : kM} (C : k_C X Ts cc own S G nL l R) {off : Int} {tgt : Nat} (hd : decode cc pc = .ok (.ifCond .le off, 3)) (ht : (pc : Int) + off = (tgt : Int)) {x : Int32} (kt : x ≤ 0 → k_W X n1 n2 tgt lv st K) (kf : ¬ x ≤ 0 → k_W X n1 n2 (pc + 3) lv st K) : k_W X n1 n2 pc lv (.int x :: st) K := by
  obtain ⟨p, l, e, R, s, m, args, below, meth, cd, Q, S', G', A, nL'⟩ := X
  obtain ⟨rfl, rfl, rfl, rfl, rfl, hx, hb, hml, hown, hts, hT, hI, hA, hAf⟩ := C
  exact fun H locs ls hH hS hl => lv_if_le hx hb hd ht (fun h => kt h H locs ls hH hS hl) (fun h => kf h H locs ls hH hS hl)
theorem k_icmp_eq {X : kX} {Ts : List Cond} {cc : ByteArray} {own : String} {S : kS} {G : kG} {nL : Nat} {l : Launch} {R : Room} {n1 n2 pc : Nat} {lv : List (Nat × Value)} {st : List Value} {K : kM} (C : k_C X Ts cc own S G nL l R) {off : Int} {tgt : Nat} (hd : decode cc pc = .ok (.if_icmp .eq off, 3)) (ht : (pc : Int) + off = (tgt : Int)) {x y : Int32} (kt : x = y → k_W X n1 n2 tgt lv st K) (kf : ¬ x = y → k_W X n1 n2 (pc + 3) lv st K) : k_W X n1 n2 pc lv (.int y :: .int x :: st) K := by
  obtain ⟨p, l, e, R, s, m, args, below, meth, cd, Q, S', G', A, nL'⟩ := X
  obtain ⟨rfl, rfl, rfl, rfl, rfl, hx, hb, hml, hown, hts, hT, hI, hA, hAf⟩ := C
  exact fun H locs ls hH hS hl => lv_icmp_eq hx hb hd ht (fun h => kt h H locs ls hH hS hl) (fun h => kf h H locs ls hH hS hl)
theorem k_icmp_ne {X : kX} {Ts : List Cond} {cc : ByteArray} {own : String} {S : kS} {G : kG} {nL : Nat} {l : Launch} {R : Room} {n1 n2 pc : Nat} {lv : List (Nat × Value)} {st : List Value} {K : kM} (C : k_C X Ts cc own S G nL l R) {off : Int} {tgt : Nat} (hd : decode cc pc = .ok (.if_icmp .ne off, 3)) (ht : (pc : Int) + off = (tgt : Int)) {x y : Int32} (kt : ¬ x = y → k_W X n1 n2 tgt lv st K) (kf : x = y → k_W X n1 n2 (pc + 3) lv st K) : k_W X n1 n2 pc lv (.int y :: .int x :: st) K := by
  obtain ⟨p, l, e, R, s, m, args, below, meth, cd, Q, S', G', A, nL'⟩ := X
  obtain ⟨rfl, rfl, rfl, rfl, rfl, hx, hb, hml, hown, hts, hT, hI, hA, hAf⟩ := C
  exact fun H locs ls hH hS hl => lv_icmp_ne hx hb hd ht (fun h => kt h H locs ls hH hS hl) (fun h => kf h H locs ls hH hS hl)
theorem k_icmp_lt {X : kX} {Ts : List Cond} {cc : ByteArray} {own : String} {S : kS} {G : kG} {nL : Nat} {l : Launch} {R : Room} {n1 n2 pc : Nat} {lv : List (Nat × Value)} {st : List Value} {K : kM} (C : k_C X Ts cc own S G nL l R) {off : Int} {tgt : Nat} (hd : decode cc pc = .ok (.if_icmp .lt off, 3)) (ht : (pc : Int) + off = (tgt : Int)) {x y : Int32} (kt : x < y → k_W X n1 n2 tgt lv st K) (kf : ¬ x < y → k_W X n1 n2 (pc + 3) lv st K) : k_W X n1 n2 pc lv (.int y :: .int x :: st) K := by
  obtain ⟨p, l, e, R, s, m, args, below, meth, cd, Q, S', G', A, nL'⟩ := X
  obtain ⟨rfl, rfl, rfl, rfl, rfl, hx, hb, hml, hown, hts, hT, hI, hA, hAf⟩ := C
  exact fun H locs ls hH hS hl => lv_icmp_lt hx hb hd ht (fun h => kt h H locs ls hH hS hl) (fun h => kf h H locs ls hH hS hl)
theorem k_icmp_ge {X : kX} {Ts : List Cond} {cc : ByteArray} {own : String} {S : kS} {G : kG} {nL : Nat} {l : Launch} {R : Room} {n1 n2 pc : Nat} {lv : List (Nat × Value)} {st : List Value} {K : kM} (C : k_C X Ts cc own S G nL l R) {off : Int} {tgt : Nat} (hd : decode cc pc = .ok (.if_icmp .ge off, 3)) (ht : (pc : Int) + off = (tgt : Int)) {x y : Int32} (kt : y ≤ x → k_W X n1 n2 tgt lv st K) (kf : ¬ y ≤ x → k_W X n1 n2 (pc + 3) lv st K) : k_W X n1 n2 pc lv (.int y :: .int x :: st) K := by
  obtain ⟨p, l, e, R, s, m, args, below, meth, cd, Q, S', G', A, nL'⟩ := X
  obtain ⟨rfl, rfl, rfl, rfl, rfl, hx, hb, hml, hown, hts, hT, hI, hA, hAf⟩ := C
  exact fun H locs ls hH hS hl => lv_icmp_ge hx hb hd ht (fun h => kt h H locs ls hH hS hl) (fun h => kf h H locs ls hH hS hl)
theorem k_icmp_gt {X : kX} {Ts : List Cond} {cc : ByteArray} {own : String} {S : kS} {G : kG} {nL : Nat} {l : Launch} {R : Room} {n1 n2 pc : Nat} {lv : List (Nat × Value)} {st : List Value} {K : kM} (C : k_C X Ts cc own S G nL l R) {off : Int} {tgt : Nat} (hd : decode cc pc = .ok (.if_icmp .gt off, 3)) (ht : (pc : Int) + off = (tgt : Int)) {x y : Int32} (kt : y < x → k_W X n1 n2 tgt lv st K) (kf : ¬ y < x → k_W X n1 n2 (pc + 3) lv st K) : k_W X n1 n2 pc lv (.int y :: .int x :: st) K := by
  obtain ⟨p, l, e, R, s, m, args, below, meth, cd, Q, S', G', A, nL'⟩ := X
  obtain ⟨rfl, rfl, rfl, rfl, rfl, hx, hb, hml, hown, hts, hT, hI, hA, hAf⟩ := C
  exact fun H locs ls hH hS hl => lv_icmp_gt hx hb hd ht (fun h => kt h H locs ls hH hS hl) (fun h => kf h H locs ls hH hS hl)
theorem k_icmp_le {X : kX} {Ts : List Cond} {cc : ByteArray} {own : String} {S : kS} {G : kG} {nL : Nat} {l : Launch} {R : Room} {n1 n2 pc : Nat} {lv : List (Nat × Value)} {st : List Value} {K : kM} (C : k_C X Ts cc own S G nL l R) {off : Int} {tgt : Nat} (hd : decode cc pc = .ok (.if_icmp .le off, 3)) (ht : (pc : Int) + off = (tgt : Int)) {x y : Int32} (kt : x ≤ y → k_W X n1 n2 tgt lv st K) (kf : ¬ x ≤ y → k_W X n1 n2 (pc + 3) lv st K) : k_W X n1 n2 pc lv (.int y :: .int x :: st) K := by
  obtain ⟨p, l, e, R, s, m, args, below, meth, cd, Q, S', G', A, nL'⟩ := X
  obtain ⟨rfl, rfl, rfl, rfl, rfl, hx, hb, hml, hown, hts, hT, hI, hA, hAf⟩ := C
  exact fun H locs ls hH hS hl => lv_icmp_le hx hb hd ht (fun h => kt h H locs ls hH hS hl) (fun h => kf h H locs ls hH hS hl)
theorem k_goto {X : kX} {Ts : List Cond} {cc : ByteArray} {own : String} {S : kS} {G : kG} {nL : Nat} {l : Launch} {R : Room} {n1 n2 pc : Nat} {lv : List (Nat × Value)} {st : List Value} {K : kM} (C : k_C X Ts cc own S G nL l R) {off : Int} {tgt : Nat} (hd : decode cc pc = .ok (.goto off, 3)) (ht : (pc : Int) + off = (tgt : Int)) (k : k_W X n1 n2 tgt lv st K) : k_W X n1 n2 pc lv st K := by
  obtain ⟨p, l, e, R, s, m, args, below, meth, cd, Q, S', G', A, nL'⟩ := X
  obtain ⟨rfl, rfl, rfl, rfl, rfl, hx, hb, hml, hown, hts, hT, hI, hA, hAf⟩ := C
  exact fun H locs ls hH hS hl => lv_goto hx hb hd ht (k H locs ls hH hS hl)
theorem k_tabIn {X : kX} {Ts : List Cond} {cc : ByteArray} {own : String} {S : kS} {G : kG} {nL : Nat} {l : Launch} {R : Room} {n1 n2 pc : Nat} {lv : List (Nat × Value)} {st : List Value} {K : kM} (C : k_C X Ts cc own S G nL l R) {dflt lo hi : Int} {offs : Array Int} {len : Nat} {x : Int32} {off : Int} {tgt : Nat} (hd : decode cc pc = .ok (.tableswitch dflt lo hi offs, len)) (h1 : ¬ x.toInt < lo) (h2 : ¬ hi < x.toInt) (ho : offs[(x.toInt - lo).toNat]? = some off) (ht : (pc : Int) + off = (tgt : Int)) (k : k_W X n1 n2 tgt lv st K) : k_W X n1 n2 pc lv (.int x :: st) K := by
  obtain ⟨p, l, e, R, s, m, args, below, meth, cd, Q, S', G', A, nL'⟩ := X
  obtain ⟨rfl, rfl, rfl, rfl, rfl, hx, hb, hml, hown, hts, hT, hI, hA, hAf⟩ := C
  exact fun H locs ls hH hS hl => lv_tableIn hx hb hd h1 h2 ho ht (k H locs ls hH hS hl)
theorem k_tabOut {X : kX} {Ts : List Cond} {cc : ByteArray} {own : String} {S : kS} {G : kG} {nL : Nat} {l : Launch} {R : Room} {n1 n2 pc : Nat} {lv : List (Nat × Value)} {st : List Value} {K : kM} (C : k_C X Ts cc own S G nL l R) {dflt lo hi : Int} {offs : Array Int} {len : Nat} {x : Int32} {tgt : Nat} (hd : decode cc pc = .ok (.tableswitch dflt lo hi offs, len)) (h : x.toInt < lo ∨ hi < x.toInt) (ht : (pc : Int) + dflt = (tgt : Int)) (k : k_W X n1 n2 tgt lv st K) : k_W X n1 n2 pc lv (.int x :: st) K := by
  obtain ⟨p, l, e, R, s, m, args, below, meth, cd, Q, S', G', A, nL'⟩ := X
  obtain ⟨rfl, rfl, rfl, rfl, rfl, hx, hb, hml, hown, hts, hT, hI, hA, hAf⟩ := C
  exact fun H locs ls hH hS hl => lv_tableOut hx hb hd h ht (k H locs ls hH hS hl)
theorem k_lookup {X : kX} {Ts : List Cond} {cc : ByteArray} {own : String} {S : kS} {G : kG} {nL : Nat} {l : Launch} {R : Room} {n1 n2 pc : Nat} {lv : List (Nat × Value)} {st : List Value} {K : kM} (C : k_C X Ts cc own S G nL l R) {dflt : Int} {ps : Array (Int × Int)} {len : Nat} {x : Int32} {off : Int} {tgt : Nat} (hd : decode cc pc = .ok (.lookupswitch dflt ps, len)) (hp : (ps.toList.zip (ps.toList.drop 1)).all (fun (a, next) => a.1 < next.1) = true) (ho : Op.lookupswitch.offset ps.toList dflt x.toInt = off) (ht : (pc : Int) + off = (tgt : Int)) (k : k_W X n1 n2 tgt lv st K) : k_W X n1 n2 pc lv (.int x :: st) K := by
  obtain ⟨p, l, e, R, s, m, args, below, meth, cd, Q, S', G', A, nL'⟩ := X
  obtain ⟨rfl, rfl, rfl, rfl, rfl, hx, hb, hml, hown, hts, hT, hI, hA, hAf⟩ := C
  exact fun H locs ls hH hS hl => lv_lookup hx hb hd hp ho ht (k H locs ls hH hS hl)
def k_fld (S : kS) (Ts : List Cond) (own : String) (idx f j c : Nat) (rf : kR) : Prop := ∃ (ci n : Nat) (Cn ref nm ds : String) (T : u_T), S.2.2[f]? = some (c, .inl (ci, n, rf)) ∧ S.1[ci]? = some (Cn, T, n) ∧ (∀ w ∈ u_ws Cn T n, w ∈ Ts) ∧ ((T j).1, (T j).2.1, (T j).2.2.1) = (ref, nm, ds) ∧ j < n ∧ Cond.fieldLink own idx ref nm ds ∈ Ts
def k_fldP (S : kS) (Ts : List Cond) (own : String) (idx f j c : Nat) (rf : kR) : Prop := ∃ (ci n : Nat) (Cn ref nm : String) (T : u_T) (ty0 : Nat → FieldType), S.2.2[f]? = some (c, .inl (ci, n, rf)) ∧ S.1[ci]? = some (Cn, T, n) ∧ (∀ w ∈ u_ws Cn T n, w ∈ Ts) ∧ (∀ k, k < n → parseFieldDescriptor (T k).2.2.1 = some (ty0 k)) ∧ (∀ a, a < n → ∀ b, b < n → a ≠ b → (T a).2.1 ≠ (T b).2.1) ∧ T j = (ref, nm, "I", false) ∧ j < n ∧ Cond.fieldLink own idx ref nm "I" ∈ Ts
def k_Inv (rng : Nat → Nat → Nat → Int32 → Prop) (K : kM) : Prop := ∀ f i j : Nat, rng f i j (K f i j)
theorem k_Inv.up {rng : Nat → Nat → Nat → Int32 → Prop} {K : kM} {f i j : Nat} {x : Int32} (I : k_Inv rng K) (h : rng f i j x) : k_Inv rng (k_up K f i j x) := by
  intro a b c
  unfold k_up
  by_cases q : a = f ∧ c = j ∧ b = i
  · rw [if_pos q]
    obtain ⟨rfl, rfl, rfl⟩ := q
    exact h
  · rw [if_neg q]
    exact I a b c
theorem k_in {x : Int32} {n : Nat} (h : ¬ (x < 0 ∨ n ≤ x.toNatClampNeg)) : vp_in x n := h
theorem k_lt {x : Int32} {n : Nat} (h : vp_in x n) : x.toNatClampNeg < n := Nat.not_le.mp fun q => h (Or.inr q)
theorem k_getv {X : kX} {Ts : List Cond} {cc : ByteArray} {own : String} {S : kS} {G : kG} {nL : Nat} {l : Launch} {R : Room} {n1 n2 pc : Nat} {lv : List (Nat × Value)} {st : List Value} {K : kM} (C : k_C X Ts cc own S G nL l R) {idx : Nat} (hd : decode cc pc = .ok (.getfield idx, 3)) {f i j c : Nat} {rf : kR} (hq : k_fld S Ts own idx f j c rf) (hi : i < c) (k : k_W X n1 n2 (pc + 3) lv (k_v G.2.2 (rf i j) (K f i j) :: st) K) : k_W X n1 n2 pc lv (.ref (G.2.2 f i) :: st) K := by
  obtain ⟨p, l, e, R, s, m, args, below, meth, cd, Q, S', G', A, nL'⟩ := X
  obtain ⟨rfl, rfl, rfl, rfl, rfl, hx, hb, hml, hown, hts, hT, hI, hA, hAf⟩ := C
  obtain ⟨ci, n, Cn, ref, nm, ds, T, hf, hc, hin, hT0, hj, hlink⟩ := hq
  cases hT0
  exact fun H locs ls hH hS hl => va_get hx hb hts hin hown hT (k_one hH hf hi) 0 rfl hc j hj (hts _ hlink) (fun _ h9 => h9) (by simp [hj]) hd (k H locs ls hH hS hl)
theorem k_get {X : kX} {Ts : List Cond} {cc : ByteArray} {own : String} {S : kS} {G : kG} {nL : Nat} {l : Launch} {R : Room} {n1 n2 pc : Nat} {lv : List (Nat × Value)} {st : List Value} {K : kM} (C : k_C X Ts cc own S G nL l R) {idx : Nat} (hd : decode cc pc = .ok (.getfield idx, 3)) {f i j c : Nat} {rf : kR} (hq : k_fld S Ts own idx f j c rf) (hi : i < c) (hr : rf i j = none) (k : k_W X n1 n2 (pc + 3) lv (.int (K f i j) :: st) K) : k_W X n1 n2 pc lv (.ref (G.2.2 f i) :: st) K := by
  refine k_getv C hd hq hi ?_
  rw [hr]
  exact k
theorem k_getr {X : kX} {Ts : List Cond} {cc : ByteArray} {own : String} {S : kS} {G : kG} {nL : Nat} {l : Launch} {R : Room} {n1 n2 pc : Nat} {lv : List (Nat × Value)} {st : List Value} {K : kM} (C : k_C X Ts cc own S G nL l R) {idx : Nat} (hd : decode cc pc = .ok (.getfield idx, 3)) {f i j c f' i' : Nat} {rf : kR} (hq : k_fld S Ts own idx f j c rf) (hi : i < c) (hr : rf i j = some (f', i')) (k : k_W X n1 n2 (pc + 3) lv (.ref (G.2.2 f' i') :: st) K) : k_W X n1 n2 pc lv (.ref (G.2.2 f i) :: st) K := by
  refine k_getv C hd hq hi ?_
  rw [hr]
  exact k
theorem k_put {X : kX} {Ts : List Cond} {cc : ByteArray} {own : String} {S : kS} {G : kG} {nL : Nat} {l : Launch} {R : Room} {n1 n2 pc : Nat} {lv : List (Nat × Value)} {st : List Value} {K : kM} (C : k_C X Ts cc own S G nL l R) {idx : Nat} (hd : decode cc pc = .ok (.putfield idx, 3)) {f i j c : Nat} {rf : kR} (hq : k_fldP S Ts own idx f j c rf) (hi : i < c) (hr : rf i j = none) {x : Int32} {rng : Nat → Nat → Nat → Int32 → Prop} (I : k_Inv rng K) (hg : rng f i j x) (k : k_Inv rng (k_up K f i j x) → k_W X n1 n2 (pc + 3) lv st (k_up K f i j x)) : k_W X n1 n2 pc lv (.int x :: .ref (G.2.2 f i) :: st) K := by
  have k := k (I.up hg)
  obtain ⟨p, l, e, R, s, m, args, below, meth, cd, Q, S', G', A, nL'⟩ := X
  obtain ⟨rfl, rfl, rfl, rfl, rfl, hx, hb, hml, hown, hts, hT, hI, hA, hAf⟩ := C
  obtain ⟨ci, n, Cn, ref, nm, T, ty0, hf, hc, hin, hty, hnm, hT0, hj, hlink⟩ := hq
  refine fun H locs ls hH hS hl => ?_
  have hap := va_apart (own := own) hts hin ty0 hty hnm hT hc
  obtain ⟨r, h1, cell, q1, q2, q3, q4⟩ := hH f c _ i hf hi
  have hr1 : r = (Cn, T, n) := Option.some.inj (h1.symm.trans hc)
  subst hr1
  obtain ⟨hS1, hfc, kC, hkC, hkind⟩ := hT.1 ci _ hc
  obtain ⟨cf, kf, fi, fd, hi1, hsl⟩ := hS1 j hj
  have hlay := hts _ (hin _ (u_in_lay hj))
  have hin1 := (u_facts hfc hkC (u_lays hts hin hj) hi1).1
  unfold u_lay at hlay
  dsimp only at hi1
  rw [hT0] at hlay hi1
  rw [if_neg (show ¬ (false = true) from Bool.false_ne_true)] at hlay
  have h6 := u_store (v := .int x) hfc hkC hkind hlay hi1 (by decide +kernel : parseFieldDescriptor "I" = some .int) rfl rfl
  refine W.putK hx hb (f := fd) ⟨hown, hts _ hlink, ⟨_, _, _, hi1⟩, hin1⟩ (by rw [q2]; exact h6) q1 q3 (by rw [hsl]; exact k2_hasslot (q4 j hj)) rfl rfl hd fun H' e1 e2 e3 => ?_
  rw [hsl] at e1 ⊢
  refine k H' _ ls (hH.put hI hf hi ⟨_, hc, ?_⟩ e3) (hS.put e2 e3 (hAf f c _ i hf hi)) hl
  have hlen : j < ((List.range n).map (fun a => k_v G'.2.2 (rf i a) (K f i a))).length := by simpa using hj
  have hob := t_OB.to (V := updV (vp_V ((List.range n).map (fun a => k_v G'.2.2 (rf i a) (K f i a)))) j (.int x)) ⟨_, e1, q2, q3, t_set q4 hap hj (.int x)⟩ (fun a _ => vp_updV_set hlen (.int x) a)
  rw [k_fs_put hr] at hob
  exact hob
def k_arr (S : kS) (f c n : Nat) (ty : FieldType) : Prop := ∃ t : Nat, S.2.2[f]? = some (c, .inr (.inl (t, n))) ∧ S.2.1[t]? = some ty
def k_arq (S : kS) (f c n : Nat) (rf : kR) : Prop := ∃ (t : Nat) (Cn : String), S.2.2[f]? = some (c, .inr (.inr (t, n, rf))) ∧ S.2.1[t]? = some (.object Cn)
theorem k_iaload {X : kX} {Ts : List Cond} {cc : ByteArray} {own : String} {S : kS} {G : kG} {nL : Nat} {l : Launch} {R : Room} {n1 n2 pc : Nat} {lv : List (Nat × Value)} {st : List Value} {K : kM} (C : k_C X Ts cc own S G nL l R) (hd : decode cc pc = .ok (.iaload, 1)) {f i c n j : Nat} (hq : k_arr S f c n .int) (hi : i < c) {x : Int32} (hin : vp_in x n) (hj : x.toNatClampNeg = j) (k : k_W X n1 n2 (pc + 1) lv (.int (K f i j) :: st) K) : k_W X n1 n2 pc lv (.int x :: .ref (G.2.2 f i) :: st) K := by
  obtain ⟨p, l, e, R, s, m, args, below, meth, cd, Q, S', G', A, nL'⟩ := X
  obtain ⟨rfl, rfl, rfl, rfl, rfl, hx, hb, hml, hown, hts, hT, hI, hA, hAf⟩ := C
  obtain ⟨t, hf, ht⟩ := hq
  subst hj
  exact fun H locs ls hH hS hl => va_iald hx hb hT (k_one hH hf hi) 0 t rfl (k_tyat ht) hin hd (k H locs ls hH hS hl)
theorem k_zaload {X : kX} {Ts : List Cond} {cc : ByteArray} {own : String} {S : kS} {G : kG} {nL : Nat} {l : Launch} {R : Room} {n1 n2 pc : Nat} {lv : List (Nat × Value)} {st : List Value} {K : kM} (C : k_C X Ts cc own S G nL l R) (hd : decode cc pc = .ok (.baload, 1)) {f i c n j : Nat} (hq : k_arr S f c n .boolean) (hi : i < c) {x : Int32} (hin : vp_in x n) (hj : x.toNatClampNeg = j) (k : k_W X n1 n2 (pc + 1) lv (.int (K f i j) :: st) K) : k_W X n1 n2 pc lv (.int x :: .ref (G.2.2 f i) :: st) K := by
  obtain ⟨p, l, e, R, s, m, args, below, meth, cd, Q, S', G', A, nL'⟩ := X
  obtain ⟨rfl, rfl, rfl, rfl, rfl, hx, hb, hml, hown, hts, hT, hI, hA, hAf⟩ := C
  obtain ⟨t, hf, ht⟩ := hq
  subst hj
  exact fun H locs ls hH hS hl => va_zald hx hb hT (k_one hH hf hi) 0 t rfl (k_tyat ht) hin hd (k H locs ls hH hS hl)
theorem k_aaload {X : kX} {Ts : List Cond} {cc : ByteArray} {own : String} {S : kS} {G : kG} {nL : Nat} {l : Launch} {R : Room} {n1 n2 pc : Nat} {lv : List (Nat × Value)} {st : List Value} {K : kM} (C : k_C X Ts cc own S G nL l R) (hd : decode cc pc = .ok (.aaload, 1)) {f i c n j f' i' : Nat} {rf : kR} (hq : k_arq S f c n rf) (hi : i < c) {x : Int32} (hin : vp_in x n) (hj : x.toNatClampNeg = j) (hr : rf i j = some (f', i')) (k : k_W X n1 n2 (pc + 1) lv (.ref (G.2.2 f' i') :: st) K) : k_W X n1 n2 pc lv (.int x :: .ref (G.2.2 f i) :: st) K := by
  obtain ⟨p, l, e, R, s, m, args, below, meth, cd, Q, S', G', A, nL'⟩ := X
  obtain ⟨rfl, rfl, rfl, rfl, rfl, hx, hb, hml, hown, hts, hT, hI, hA, hAf⟩ := C
  obtain ⟨t, Cn, hf, ht⟩ := hq
  subst hj
  refine fun H locs ls hH hS hl => va_aldq hx hb hT (k_one hH hf hi) 0 t rfl (k_tyat ht) hin hd ?_
  dsimp only
  rw [hr]
  exact k H locs ls hH hS hl
theorem k_alen {X : kX} {Ts : List Cond} {cc : ByteArray} {own : String} {S : kS} {G : kG} {nL : Nat} {l : Launch} {R : Room} {n1 n2 pc : Nat} {lv : List (Nat × Value)} {st : List Value} {K : kM} (C : k_C X Ts cc own S G nL l R) (hd : decode cc pc = .ok (.arraylength, 1)) {f i c n : Nat} {ty : FieldType} (hq : k_arr S f c n ty) (hi : i < c) {v : Int32} (hv : Int32.ofNat n = v) (k : k_W X n1 n2 (pc + 1) lv (.int v :: st) K) : k_W X n1 n2 pc lv (.ref (G.2.2 f i) :: st) K := by
  obtain ⟨p, l, e, R, s, m, args, below, meth, cd, Q, S', G', A, nL'⟩ := X
  obtain ⟨rfl, rfl, rfl, rfl, rfl, hx, hb, hml, hown, hts, hT, hI, hA, hAf⟩ := C
  obtain ⟨t, hf, ht⟩ := hq
  exact fun H locs ls hH hS hl => va_alen hx hb hT (k_one hH hf hi) 0 t rfl (k_tyat ht) hv hd (k H locs ls hH hS hl)
theorem k_iastore {X : kX} {Ts : List Cond} {cc : ByteArray} {own : String} {S : kS} {G : kG} {nL : Nat} {l : Launch} {R : Room} {n1 n2 pc : Nat} {lv : List (Nat × Value)} {st : List Value} {K : kM} (C : k_C X Ts cc own S G nL l R) (hd : decode cc pc = .ok (.iastore, 1)) {f i c n j : Nat} (hq : k_arr S f c n .int) (hi : i < c) {y x : Int32} (hin : vp_in y n) (hj : y.toNatClampNeg = j) {rng : Nat → Nat → Nat → Int32 → Prop} (I : k_Inv rng K) (hg : rng f i j x) (k : k_Inv rng (k_up K f i j x) → k_W X n1 n2 (pc + 1) lv st (k_up K f i j x)) : k_W X n1 n2 pc lv (.int x :: .int y :: .ref (G.2.2 f i) :: st) K := by
  have k := k (I.up hg)
  obtain ⟨p, l, e, R, s, m, args, below, meth, cd, Q, S', G', A, nL'⟩ := X
  obtain ⟨rfl, rfl, rfl, rfl, rfl, hx, hb, hml, hown, hts, hT, hI, hA, hAf⟩ := C
  obtain ⟨t, hf, ht⟩ := hq
  subst hj
  refine fun H locs ls hH hS hl => W.iast hx hb (hH f c _ i hf hi) ((hT.2 t _ (k_tyat ht)).1 n (fun a => .int (K f i a))) (fun q => by cases q) (by show ¬ (y < 0 ∨ (arrV _ _ _).slots.size ≤ _); rw [arrV_size]; exact hin) rfl rfl hd fun H1 e z oq => ?_
  refine k H1 _ ls (hH.put hI hf hi ?_ oq) (hS.put z oq (hAf f c _ i hf hi)) hl
  show H1[G'.2.2 f i]? = some (vp_cell (G'.2.1 t) (n, .inl (k_up K f i y.toNatClampNeg x f i)))
  rw [e, k_up_arr]
  show some ((vp_cell (G'.2.1 t) (n, .inl (K f i))).setSlot _ _) = _
  rw [vp_cell_i, vp_cell_i, arrV_store]
  congr 2
  funext q
  by_cases hq : q = y.toNatClampNeg
  · subst hq
    simp [updV, upd]
  · simp [updV, upd, hq]
theorem k_zastore {X : kX} {Ts : List Cond} {cc : ByteArray} {own : String} {S : kS} {G : kG} {nL : Nat} {l : Launch} {R : Room} {n1 n2 pc : Nat} {lv : List (Nat × Value)} {st : List Value} {K : kM} (C : k_C X Ts cc own S G nL l R) (hd : decode cc pc = .ok (.bastore, 1)) {f i c n j : Nat} (hq : k_arr S f c n .boolean) (hi : i < c) {y x : Int32} (hin : vp_in y n) (hj : y.toNatClampNeg = j) (hz : narrow .boolean (.int x) = .int x) {rng : Nat → Nat → Nat → Int32 → Prop} (I : k_Inv rng K) (hg : rng f i j x) (k : k_Inv rng (k_up K f i j x) → k_W X n1 n2 (pc + 1) lv st (k_up K f i j x)) : k_W X n1 n2 pc lv (.int x :: .int y :: .ref (G.2.2 f i) :: st) K := by
  have k := k (I.up hg)
  obtain ⟨p, l, e, R, s, m, args, below, meth, cd, Q, S', G', A, nL'⟩ := X
  obtain ⟨rfl, rfl, rfl, rfl, rfl, hx, hb, hml, hown, hts, hT, hI, hA, hAf⟩ := C
  obtain ⟨t, hf, ht⟩ := hq
  subst hj
  refine fun H locs ls hH hS hl => W.zast hx hb (hH f c _ i hf hi) ((hT.2 t _ (k_tyat ht)).1 n (fun a => .int (K f i a))) (fun q => by cases q) (by show ¬ (y < 0 ∨ (arrV _ _ _).slots.size ≤ _); rw [arrV_size]; exact hin) rfl rfl hd fun H1 e z oq => ?_
  rw [hz] at e
  refine k H1 _ ls (hH.put hI hf hi ?_ oq) (hS.put z oq (hAf f c _ i hf hi)) hl
  show H1[G'.2.2 f i]? = some (vp_cell (G'.2.1 t) (n, .inl (k_up K f i y.toNatClampNeg x f i)))
  rw [e, k_up_arr]
  show some ((vp_cell (G'.2.1 t) (n, .inl (K f i))).setSlot _ _) = _
  rw [vp_cell_i, vp_cell_i, arrV_store]
  congr 2
  funext q
  by_cases hq : q = y.toNatClampNeg
  · subst hq
    simp [updV, upd]
  · simp [updV, upd, hq]
theorem k_ireturn {X : kX} {Ts : List Cond} {cc : ByteArray} {own : String} {S : kS} {G : kG} {nL : Nat} {l : Launch} {R : Room} {n1 n2 pc : Nat} {lv : List (Nat × Value)} {K : kM} (C : k_C X Ts cc own S G nL l R) {v : Int32} (E : k_E X (some .int) (some (.int v)) K n1 n2) (hd : decode cc pc = .ok (.ireturn, 1)) : k_W X n1 n2 pc lv [.int v] K := by
  obtain ⟨p, l, e, R, s, m, args, below, meth, cd, Q, S', G', A, nL'⟩ := X
  obtain ⟨rfl, rfl, rfl, rfl, rfl, hx, hb, hml, hown, hts, hT, hI, hA, hAf⟩ := C
  obtain ⟨rfl, hr, hlk⟩ := E
  exact fun H locs ls hH hS hl => W.iret hx hb hr (fun t ht hW => ⟨rfl, by rw [ht]; exact hH, hS.F ht⟩) hS.2.2 hd hlk
theorem k_zreturn {X : kX} {Ts : List Cond} {cc : ByteArray} {own : String} {S : kS} {G : kG} {nL : Nat} {l : Launch} {R : Room} {n1 n2 pc : Nat} {lv : List (Nat × Value)} {K : kM} (C : k_C X Ts cc own S G nL l R) {v : Int32} (E : k_E X (some .boolean) (some (.int v)) K n1 n2) (hd : decode cc pc = .ok (.ireturn, 1)) (hn : narrow .boolean (.int v) = .int v) : k_W X n1 n2 pc lv [.int v] K := by
  obtain ⟨p, l, e, R, s, m, args, below, meth, cd, Q, S', G', A, nL'⟩ := X
  obtain ⟨rfl, rfl, rfl, rfl, rfl, hx, hb, hml, hown, hts, hT, hI, hA, hAf⟩ := C
  obtain ⟨rfl, hr, hlk⟩ := E
  exact fun H locs ls hH hS hl => W.zret hx hb hr hn (fun t ht hW => ⟨rfl, by rw [ht]; exact hH, hS.F ht⟩) hS.2.2 hd hlk
theorem k_return {X : kX} {Ts : List Cond} {cc : ByteArray} {own : String} {S : kS} {G : kG} {nL : Nat} {l : Launch} {R : Room} {n1 n2 pc : Nat} {lv : List (Nat × Value)} {K : kM} (C : k_C X Ts cc own S G nL l R) (E : k_E X none none K n1 n2) (hd : decode cc pc = .ok (.return_, 1)) : k_W X n1 n2 pc lv [] K := by
  obtain ⟨p, l, e, R, s, m, args, below, meth, cd, Q, S', G', A, nL'⟩ := X
  obtain ⟨rfl, rfl, rfl, rfl, rfl, hx, hb, hml, hown, hts, hT, hI, hA, hAf⟩ := C
  obtain ⟨rfl, hr, hlk⟩ := E
  exact fun H locs ls hH hS hl => W.vret hx hb hr (fun t ht hW => ⟨rfl, by rw [ht]; exact hH, hS.F ht⟩) hS.2.2 hd hlk
theorem k_E.to {X : kX} {ret : Option FieldType} {r r' : Option Value} {K2 K2' : kM} {mc ms : Nat} (E : k_E X ret r K2 mc ms) (h1 : r = r') (h2 : K2 = K2') : k_E X ret r' K2' mc ms := h1 ▸ h2 ▸ E
def k_obj (S : kS) (f c : Nat) (Cn : String) : Prop := ∃ (ci nf : Nat) (rf : kR) (T : u_T), S.2.2[f]? = some (c, .inl (ci, nf, rf)) ∧ S.1[ci]? = some (Cn, T, nf)
def k_site (Ts : List Cond) (own : String) (idx : Nat) (y : MethodName) (cy : ByteArray) (nLy : Nat) (ry : Option FieldType) (n : Nat) : Prop := Cond.code y cy nLy ry ∈ Ts ∧ Cond.methodLink own idx y ∈ Ts ∧ Cond.initialized y.cls ∈ Ts ∧ y.cls ≠ "java/lang/invoke/MethodHandle" ∧ y.cls ≠ "java/lang/invoke/VarHandle" ∧ (parseMethodDescriptor y.desc).map (fun d => d.parameters.length) = some n
theorem k_blind {S : kS} {G : kG} {args : List Value} {K : kM} {sz : Nat} : FrameBlind (k_Pc S G args K sz) := fun a U g mk q => by
  obtain ⟨q0, q1, qP, qK, qD⟩ := q
  exact ⟨q0, q1, qP, va_K.moved (u := U) (U := U.calling g mk a) (Vm.Alike.refl U.vm) qK, qD⟩
theorem k_good {Ts : List Cond} {y : MethodName} {cy : ByteArray} {nLy : Nat} {ry : Option FieldType} (hg : GoodIn Ts Ts) (hc : Cond.code y cy nLy ry ∈ Ts) : GoodIn Ts (.code y cy nLy ry :: Ts) := fun w hw => by
  rcases List.mem_cons.mp hw with h | h
  · subst h
    exact ⟨hc, Or.inl rfl⟩
  · exact hg w h
theorem k_back {p : Program} {l : Launch} {e : Env} {R : Room} {s : State} {m : MethodId} {args : Array Value} {below : List Frame} {meth : Method} {c : Code} {H H0 : Heap} {locs : List Loc} {n1 n2 pc : Nat} {Q : State → Prop} {ls : Array Slot} {st rest : List Value} {S : kS} {G : kG} {A : Nat → Prop} {r : Option Value} {K2 : kM} {a : Array Value}
    (hr : va_Run p l e R s m args below meth c H locs n1 n2 0 0 (F0 m pc ls st) rest (k_Qc S G r K2 (k_A S G H.size) a) (k_A S G H.size)) (hS : va_S A H0 H locs) (hA : ∀ q, H0.size ≤ q → A q) (hAf : ∀ (f c : Nat) (k : kF) (i : Nat), S.2.2[f]? = some (c, k) → i < c → A (G.2.2 f i))
    (kk : ∀ (H1 : Heap) (locs1 : List Loc), k_H S G K2 H1 → va_S A H0 H1 locs1 → W p l e R s m args below meth c H1 locs1 n1 n2 Q (F0 m (pc + 3) ls (r.toList ++ rest))) : W p l e R s m args below meth c H locs n1 n2 Q (F0 m pc ls st) := by
  intro T hT X
  obtain ⟨v, st₀, t, T', L, h0, X', hL, e1, e2, ⟨hv, hH, hz, hk⟩, stp⟩ := hr T hT X
  cases hv
  rw [h0] at hz hk
  have hin : ∀ q, k_A S G H.size q → A q := fun q hq => by
    rcases hq with ⟨f, c, k, i, h1, h2, rfl⟩ | h
    · exact hAf f c k i h1 h2
    · exact hA q (Nat.le_trans hS.1 h)
  obtain ⟨t2, a1, b1⟩ := kk T'.heap (locs ++ L) (by rw [e1]; exact hH)
    ⟨Nat.le_trans hS.1 (by rw [e1]; exact hz), fun q h1 h2 => by rw [e1, hk q (Nat.lt_of_lt_of_le h1 hS.1) (fun z => h2 (hin q z))]; exact hS.2.1 q h1 h2, fun q hq => by
      rcases List.mem_append.mp hq with h | h
      · exact hS.2.2 q h
      · exact hin _ (hL q h)⟩ T' rfl X'
  exact ⟨t2, stp t2 a1, b1⟩
theorem k_callV {X : kX} {Ts : List Cond} {cc : ByteArray} {own : String} {S : kS} {G : kG} {nL : Nat} {l : Launch} {R : Room} {n1 n2 pc : Nat} {lv : List (Nat × Value)} {st : List Value} {K : kM} (C : k_C X Ts cc own S G nL l R) (hg : GoodIn Ts Ts) {idx n nLy : Nat} {y : MethodName} {cy : ByteArray} {ry : Option FieldType} {rm : Room} {As rest : List Value} {r : Option Value} {K2 : kM} {f i c : Nat}
    (hM : k_Met l S Ts y cy nLy ry rm G (.ref (G.2.2 f i) :: As) K r K2) (hs : k_site Ts own idx y cy nLy ry n) (hv : Cond.instanceMethod y ∈ Ts ∧ Cond.selects y.cls y y ∈ Ts) (hb0 : k_obj S f c y.cls) (hi : i < c)
    (hn : As.length = n) (hst : st = As.reverse ++ .ref (G.2.2 f i) :: rest) (hrest : (rest.map fun v => v.category).sum ≤ 8) (hrc : rm.cells = 0 ∧ rm.slots = 0) (hR : rm.frames + 1 ≤ R.frames ∧ 8 + (nLy + 11) + rm.locals ≤ R.locals) (hcs : n1 ≤ R.cells ∧ n2 ≤ R.slots) (hd : decode cc pc = .ok (.invokevirtual idx, 3))
    (k : k_W X n1 n2 (pc + 3) lv (r.toList ++ rest) K2) : k_W X n1 n2 pc lv st K := by
  obtain ⟨p, l, e, R, s, m, args, below, meth, cd, Q, S', G', A, nL'⟩ := X
  obtain ⟨rfl, rfl, rfl, rfl, rfl, hx, hb, hml, hown, hts, hT, hI, hA, hAf⟩ := C
  obtain ⟨s1, s2, s3, s4, s5, s6⟩ := hs
  obtain ⟨ci, nf, rf, T, hf, hc⟩ := hb0
  refine fun H locs ls hH hS hl => ?_
  refine k_back (va_runV (As := As) (rest := rest) ⟨hx, hb, hml, hown, hts⟩ (hM H.size) ⟨callB_of n hts (k_good hg s1) rfl hrc.1 hrc.2 (hts _ s3) (hts _ s2) ⟨s4, s5, s6⟩ hR, hts _ hv.1, hts _ hv.2⟩ ⟨k_blind, va_recv hT (k_one hH hf hi) (ci := ci) (q0 := 0) hc rfl, fun U hU hW => ⟨rfl, by rw [hU], by rw [hU]; exact hH, va_K.moved hW.alike hT, hI⟩⟩ rfl hn hl.1 hst (lv_room hrest) hd hcs) hS hA hAf (fun H1 locs1 hH1 hS1 => k H1 locs1 ls hH1 hS1 hl)
theorem k_callS {X : kX} {Ts : List Cond} {cc : ByteArray} {own : String} {S : kS} {G : kG} {nL : Nat} {l : Launch} {R : Room} {n1 n2 pc : Nat} {lv : List (Nat × Value)} {st : List Value} {K : kM} (C : k_C X Ts cc own S G nL l R) (hg : GoodIn Ts Ts) {idx n nLy : Nat} {y : MethodName} {cy : ByteArray} {ry : Option FieldType} {rm : Room} {As rest : List Value} {r : Option Value} {K2 : kM}
    (hM : k_Met l S Ts y cy nLy ry rm G As K r K2) (hs : k_site Ts own idx y cy nLy ry n) (hv : Cond.static y ∈ Ts)
    (hn : As.length = n) (hst : st = As.reverse ++ rest) (hrest : (rest.map fun v => v.category).sum ≤ 8) (hrc : rm.cells = 0 ∧ rm.slots = 0) (hR : rm.frames + 1 ≤ R.frames ∧ 8 + (nLy + 11) + rm.locals ≤ R.locals) (hcs : n1 ≤ R.cells ∧ n2 ≤ R.slots) (hd : decode cc pc = .ok (.invokestatic idx, 3))
    (k : k_W X n1 n2 (pc + 3) lv (r.toList ++ rest) K2) : k_W X n1 n2 pc lv st K := by
  obtain ⟨p, l, e, R, s, m, args, below, meth, cd, Q, S', G', A, nL'⟩ := X
  obtain ⟨rfl, rfl, rfl, rfl, rfl, hx, hb, hml, hown, hts, hT, hI, hA, hAf⟩ := C
  obtain ⟨s1, s2, s3, s4, s5, s6⟩ := hs
  refine fun H locs ls hH hS hl => ?_
  refine k_back (va_runS (As := As) (rest := rest) ⟨hx, hb, hml, hown, hts⟩ (hM H.size) ⟨callB_of n hts (k_good hg s1) rfl hrc.1 hrc.2 (hts _ s3) (hts _ s2) ⟨s4, s5, s6⟩ hR, hts _ hv⟩ ⟨k_blind, fun U hU hW => ⟨rfl, by rw [hU], by rw [hU]; exact hH, va_K.moved hW.alike hT, hI⟩⟩ rfl hn hl.1 hst (lv_room hrest) hd hcs) hS hA hAf (fun H1 locs1 hH1 hS1 => k H1 locs1 ls hH1 hS1 hl)
theorem k_callVi {X : kX} {Ts : List Cond} {cc : ByteArray} {own : String} {S : kS} {G : kG} {nL : Nat} {l : Launch} {R : Room} {n1 n2 pc : Nat} {lv : List (Nat × Value)} {st : List Value} {K : kM} (C : k_C X Ts cc own S G nL l R) (hg : GoodIn Ts Ts) {idx n nLy : Nat} {y : MethodName} {cy : ByteArray} {ry : Option FieldType} {rm : Room} {As rest : List Value} {v : Int32} {K2 : kM} {f i c : Nat} (hM : k_Met l S Ts y cy nLy ry rm G (.ref (G.2.2 f i) :: As) K (some (.int v)) K2) (hs : k_site Ts own idx y cy nLy ry n) (hv : Cond.instanceMethod y ∈ Ts ∧ Cond.selects y.cls y y ∈ Ts) (hb0 : k_obj S f c y.cls) (hi : i < c) (hn : As.length = n) (hst : st = As.reverse ++ .ref (G.2.2 f i) :: rest) (hrest : (rest.map fun v => v.category).sum ≤ 8) (hrc : rm.cells = 0 ∧ rm.slots = 0) (hR : rm.frames + 1 ≤ R.frames ∧ 8 + (nLy + 11) + rm.locals ≤ R.locals) (hcs : n1 ≤ R.cells ∧ n2 ≤ R.slots) (hd : decode cc pc = .ok (.invokevirtual idx, 3)) {rng : Nat → Nat → Nat → Int32 → Prop} (I : k_Inv rng K2) (k : k_Inv rng K2 → k_W X n1 n2 (pc + 3) lv (.int v :: rest) K2) : k_W X n1 n2 pc lv st K := k_callV C hg hM hs hv hb0 hi hn hst hrest hrc hR hcs hd (k I)
theorem k_callVv {X : kX} {Ts : List Cond} {cc : ByteArray} {own : String} {S : kS} {G : kG} {nL : Nat} {l : Launch} {R : Room} {n1 n2 pc : Nat} {lv : List (Nat × Value)} {st : List Value} {K : kM} (C : k_C X Ts cc own S G nL l R) (hg : GoodIn Ts Ts) {idx n nLy : Nat} {y : MethodName} {cy : ByteArray} {ry : Option FieldType} {rm : Room} {As rest : List Value} {K2 : kM} {f i c : Nat} (hM : k_Met l S Ts y cy nLy ry rm G (.ref (G.2.2 f i) :: As) K none K2) (hs : k_site Ts own idx y cy nLy ry n) (hv : Cond.instanceMethod y ∈ Ts ∧ Cond.selects y.cls y y ∈ Ts) (hb0 : k_obj S f c y.cls) (hi : i < c) (hn : As.length = n) (hst : st = As.reverse ++ .ref (G.2.2 f i) :: rest) (hrest : (rest.map fun v => v.category).sum ≤ 8) (hrc : rm.cells = 0 ∧ rm.slots = 0) (hR : rm.frames + 1 ≤ R.frames ∧ 8 + (nLy + 11) + rm.locals ≤ R.locals) (hcs : n1 ≤ R.cells ∧ n2 ≤ R.slots) (hd : decode cc pc = .ok (.invokevirtual idx, 3)) {rng : Nat → Nat → Nat → Int32 → Prop} (I : k_Inv rng K2) (k : k_Inv rng K2 → k_W X n1 n2 (pc + 3) lv (rest) K2) : k_W X n1 n2 pc lv st K := k_callV C hg hM hs hv hb0 hi hn hst hrest hrc hR hcs hd (k I)
theorem k_callSi {X : kX} {Ts : List Cond} {cc : ByteArray} {own : String} {S : kS} {G : kG} {nL : Nat} {l : Launch} {R : Room} {n1 n2 pc : Nat} {lv : List (Nat × Value)} {st : List Value} {K : kM} (C : k_C X Ts cc own S G nL l R) (hg : GoodIn Ts Ts) {idx n nLy : Nat} {y : MethodName} {cy : ByteArray} {ry : Option FieldType} {rm : Room} {As rest : List Value} {v : Int32} {K2 : kM} (hM : k_Met l S Ts y cy nLy ry rm G As K (some (.int v)) K2) (hs : k_site Ts own idx y cy nLy ry n) (hv : Cond.static y ∈ Ts) (hn : As.length = n) (hst : st = As.reverse ++ rest) (hrest : (rest.map fun v => v.category).sum ≤ 8) (hrc : rm.cells = 0 ∧ rm.slots = 0) (hR : rm.frames + 1 ≤ R.frames ∧ 8 + (nLy + 11) + rm.locals ≤ R.locals) (hcs : n1 ≤ R.cells ∧ n2 ≤ R.slots) (hd : decode cc pc = .ok (.invokestatic idx, 3)) {rng : Nat → Nat → Nat → Int32 → Prop} (I : k_Inv rng K2) (k : k_Inv rng K2 → k_W X n1 n2 (pc + 3) lv (.int v :: rest) K2) : k_W X n1 n2 pc lv st K := k_callS C hg hM hs hv hn hst hrest hrc hR hcs hd (k I)
theorem k_callSv {X : kX} {Ts : List Cond} {cc : ByteArray} {own : String} {S : kS} {G : kG} {nL : Nat} {l : Launch} {R : Room} {n1 n2 pc : Nat} {lv : List (Nat × Value)} {st : List Value} {K : kM} (C : k_C X Ts cc own S G nL l R) (hg : GoodIn Ts Ts) {idx n nLy : Nat} {y : MethodName} {cy : ByteArray} {ry : Option FieldType} {rm : Room} {As rest : List Value} {K2 : kM} (hM : k_Met l S Ts y cy nLy ry rm G As K none K2) (hs : k_site Ts own idx y cy nLy ry n) (hv : Cond.static y ∈ Ts) (hn : As.length = n) (hst : st = As.reverse ++ rest) (hrest : (rest.map fun v => v.category).sum ≤ 8) (hrc : rm.cells = 0 ∧ rm.slots = 0) (hR : rm.frames + 1 ≤ R.frames ∧ 8 + (nLy + 11) + rm.locals ≤ R.locals) (hcs : n1 ≤ R.cells ∧ n2 ≤ R.slots) (hd : decode cc pc = .ok (.invokestatic idx, 3)) {rng : Nat → Nat → Nat → Int32 → Prop} (I : k_Inv rng K2) (k : k_Inv rng K2 → k_W X n1 n2 (pc + 3) lv (rest) K2) : k_W X n1 n2 pc lv st K := k_callS C hg hM hs hv hn hst hrest hrc hR hcs hd (k I)
def k_subl (lv : List (Nat × Value)) : List (Nat × Value) → Prop
  | [] => True
  | q :: t => lv.lookup q.1 = some q.2 ∧ k_subl lv t
theorem k_subl.of {lv : List (Nat × Value)} : ∀ {lv' : List (Nat × Value)}, k_subl lv lv' → ∀ (i : Nat) (v : Value), lv'.lookup i = some v → lv.lookup i = some v
  | [], _, i, v, h => by simp [List.lookup] at h
  | (a, b) :: t, hs, i, v, h => by
    by_cases hj : i = a
    · subst hj
      simp [List.lookup] at h
      subst h
      exact hs.1
    · have hb : (i == a) = false := by simpa using hj
      simp only [List.lookup, hb] at h
      exact k_subl.of hs.2 i v h
theorem k_loc {X : kX} {n1 n2 pc : Nat} {lv : List (Nat × Value)} (lv' : List (Nat × Value)) {st : List Value} {K : kM} (h : k_subl lv lv') (k : k_W X n1 n2 pc lv' st K) : k_W X n1 n2 pc lv st K := by
  obtain ⟨p, l, e, R, s, m, args, below, meth, cd, Q, S', G', A, nL'⟩ := X
  exact fun H locs ls hH hS hl => k H locs ls hH hS ⟨hl.1, hl.2.1, fun i v hv => hl.2.2 i v (h.of i v hv)⟩
theorem k_top {X : kX} {n1 n2 pc : Nat} {lv : List (Nat × Value)} {st : List Value} {K : kM} {x y : Int32} (h : x = y) (k : k_W X n1 n2 pc lv (.int y :: st) K) : k_W X n1 n2 pc lv (.int x :: st) K := h ▸ k
theorem k_mem {X : kX} {n1 n2 pc : Nat} {lv : List (Nat × Value)} {st : List Value} {K K' : kM} (h : K = K') (k : k_W X n1 n2 pc lv st K') : k_W X n1 n2 pc lv st K := h ▸ k
def k_row (K : kM) (f i : Nat) (h : Nat → Int32) : kM := fun a b c => if a = f ∧ b = i then h c else K a b c
theorem k_row_eq (K : kM) (f i : Nat) (h : Nat → Int32) : k_row K f i h f i = h := by
  funext c
  simp [k_row]
theorem k_row_ne {K : kM} {f i : Nat} {h : Nat → Int32} {f' i' : Nat} (q : ¬ (f' = f ∧ i' = i)) : k_row K f i h f' i' = K f' i' := by
  funext c
  simp only [k_row]
  rw [if_neg q]
theorem k_H.row {S : kS} {G : kG} {K : kM} {H H1 : Heap} {f c i : Nat} {k : kF} {h : Nat → Int32} (hH : k_H S G K H) (hI : k_I S G) (hf : S.2.2[f]? = some (c, k)) (hi : i < c)
    (hn : va_at G.1 S.1 (G.2.2 f i, k_ent G (k_row K f i h) f i k) H1) (ho : ∀ q : Nat, q ≠ G.2.2 f i → H1[q]? = H[q]?) : k_H S G (k_row K f i h) H1 := by
  intro f' c' k' i' hf' hi'
  by_cases hq : G.2.2 f' i' = G.2.2 f i
  · obtain ⟨e1, e2⟩ := hI f' c' k' i' f c k i hf' hi' hf hi hq
    subst e1; subst e2
    cases hf.symm.trans hf'
    exact hn
  · rw [k_ent_congr (K := k_row K f i h) (K' := K) k' (k_row_ne (fun z => hq (by rw [z.1, z.2])))]
    exact (hH f' c' k' i' hf' hi').kept (ho _ hq)
def k_cps (Ts : List Cond) (own : String) (idx : Nat) : Prop := Cond.methodLink own idx arraycopyName ∈ Ts ∧ Cond.native arraycopyName ∈ Ts ∧ Cond.static arraycopyName ∈ Ts ∧ Cond.initialized "java/lang/System" ∈ Ts
theorem k_copy {X : kX} {Ts : List Cond} {cc : ByteArray} {own : String} {S : kS} {G : kG} {nL : Nat} {l : Launch} {R : Room} {n1 n2 pc : Nat} {lv : List (Nat × Value)} {st : List Value} {K : kM} (C : k_C X Ts cc own S G nL l R) {idx : Nat} (hd : decode cc pc = .ok (.invokestatic idx, 3)) (hs : k_cps Ts own idx) {f i cn n0 : Nat} (hq : k_arr S f cn n0 .int) (hi : i < cn) {sp dp n : Int32} (h1 : ¬ sp < 0) (h2 : ¬ dp < 0) (h3 : ¬ n < 0) (h4 : sp.toNatClampNeg + n.toNatClampNeg ≤ n0) (h5 : dp.toNatClampNeg + n.toNatClampNeg ≤ n0) (hframes : 1 ≤ R.frames) (hlocals : (st.map fun v => v.category).sum + (nativeFrameWords "java/lang/System" "arraycopy" 5 + 11) ≤ R.locals) {rng : Nat → Nat → Nat → Int32 → Prop} (I : k_Inv rng (k_row K f i (va_cpy (K f i) (K f i) sp.toNatClampNeg dp.toNatClampNeg n.toNatClampNeg))) (k : k_Inv rng (k_row K f i (va_cpy (K f i) (K f i) sp.toNatClampNeg dp.toNatClampNeg n.toNatClampNeg)) → k_W X n1 n2 (pc + 3) lv st (k_row K f i (va_cpy (K f i) (K f i) sp.toNatClampNeg dp.toNatClampNeg n.toNatClampNeg))) : k_W X n1 n2 pc lv (.int n :: .int dp :: .ref (G.2.2 f i) :: .int sp :: .ref (G.2.2 f i) :: st) K := by
  have k := k I
  obtain ⟨p, l, e, R, s, m, args, below, meth, cd, Q, S', G', A, nL'⟩ := X
  obtain ⟨rfl, rfl, rfl, rfl, rfl, hx, hb, hml, hown, hts, hT, hI, hA, hAf⟩ := C
  obtain ⟨t, hf, ht⟩ := hq
  obtain ⟨s1, s2, s3, s4⟩ := hs
  refine fun H locs ls hH hS hl => ?_
  have nn : ∀ z : Int32, ¬ z < 0 → z.toInt = (z.toNatClampNeg : Int) := by
    intro z hz
    have hz0 : (0 : Int) ≤ z.toInt := by
      have := Int32.not_lt.mp hz
      simpa using Int32.le_iff_toInt_le.mp this
    show z.toInt = ((z.toInt.toNat : Nat) : Int)
    omega
  intro TT hTT XX
  have hc0 : H[G'.2.2 f i]? = some (vp_cell (G'.2.1 t) (n0, .inl (K f i))) := hH f cn _ i hf hi
  obtain ⟨-, k0, hk0, cm0, hkk0⟩ := (hT.2 t _ (k_tyat ht)).1 n0 (fun j => .int (K f i j))
  obtain ⟨vm', X', step⟩ := XX.arraycopy hx hown (hts _ s1) (hts _ s2) (hts _ s3) (hts _ s4) (src := G'.2.2 f i) (dst := G'.2.2 f i) (cs := vp_cell (G'.2.1 t) (n0, .inl (K f i))) (cd := vp_cell (G'.2.1 t) (n0, .inl (K f i))) (srcPos := sp) (destPos := dp) (n := n) (by rw [hTT]; exact hc0) (by rw [hTT]; exact hc0)
    (fun _ h => by cases h) (fun _ h => by cases h) (fun h => by cases h) (fun h => by cases h) hk0 hk0 hkk0 hkk0 (by simp [refKind]) h1 h2 h3
    (by rw [nn sp h1, nn n h3]; show ¬ _ > ((arrV (G'.2.1 t) n0 (fun j => .int (K f i j))).slots.size : Int); rw [arrV_size]; omega)
    (by rw [nn dp h2, nn n h3]; show ¬ _ > ((arrV (G'.2.1 t) n0 (fun j => .int (K f i j))).slots.size : Int); rw [arrV_size]; omega)
    (fun vm₁ _ a ha => by
      have e : (vp_cell (G'.2.1 t) (n0, .inl (K f i))).slots.getD (sp.toNatClampNeg + a) .null = .int (K f i (sp.toNatClampNeg + a)) := by
        show (arrV (G'.2.1 t) n0 (fun j => .int (K f i j))).slots.getD _ _ = _
        rw [Array.getD_eq_getD_getElem?, arrV_read _ _ (by omega)]
        rfl
      refine ⟨?_, ?_⟩
      · rw [e]
        rfl
      · rw [e]
        exact trivial)
    (g := F0 m pc ls (.int n :: .int dp :: .ref (G'.2.2 f i) :: .int sp :: .ref (G'.2.2 f i) :: st)) rfl (by rw [hml]; exact hl.1) (rest := st) rfl (by rw [hb]; exact hd) hframes (by show 2 * 0 + _ + _ ≤ _; omega)
  have e1 : copied (vp_cell (G'.2.1 t) (n0, .inl (K f i))) (vp_cell (G'.2.1 t) (n0, .inl (K f i))) sp dp n = vp_cell (G'.2.1 t) (n0, .inl (va_cpy (K f i) (K f i) sp.toNatClampNeg dp.toNatClampNeg n.toNatClampNeg)) := va_copied (fun z => .int z) (G'.2.1 t) (G'.2.1 t) (K f i) (K f i) h4
  rw [e1] at X' step
  have hlt : G'.2.2 f i < H.size := (Array.getElem?_eq_some_iff.mp hc0).1
  have hheap : ((TT.setVm vm').setCell (G'.2.2 f i) (vp_cell (G'.2.1 t) (n0, .inl (va_cpy (K f i) (K f i) sp.toNatClampNeg dp.toNatClampNeg n.toNatClampNeg)))).heap = H.setIfInBounds (G'.2.2 f i) (vp_cell (G'.2.1 t) (n0, .inl (va_cpy (K f i) (K f i) sp.toNatClampNeg dp.toNatClampNeg n.toNatClampNeg))) := by rw [← hTT]; rfl
  have oq : ∀ q : Nat, q ≠ G'.2.2 f i → (H.setIfInBounds (G'.2.2 f i) (vp_cell (G'.2.1 t) (n0, .inl (va_cpy (K f i) (K f i) sp.toNatClampNeg dp.toNatClampNeg n.toNatClampNeg))))[q]? = H[q]? := fun q hq => by simp [Array.getElem?_setIfInBounds, Ne.symm hq]
  obtain ⟨tt, a1, b1⟩ := k _ _ ls (hH.row hI hf hi (by
      show (H.setIfInBounds (G'.2.2 f i) _)[G'.2.2 f i]? = some (vp_cell (G'.2.1 t) (n0, .inl (k_row K f i _ f i)))
      rw [k_row_eq]
      simp [Array.getElem?_setIfInBounds, hlt]) oq) ⟨by simp; exact hS.1, fun q g1 g2 => by
      rw [oq q (fun e => g2 (by rw [e]; exact hAf f cn _ i hf hi))]
      exact hS.2.1 q g1 g2, fun q hq => by
      rcases List.mem_append.mp hq with h | h
      · exact hS.2.2 q h
      · obtain ⟨z, -, hz⟩ := List.mem_map.mp h
        rw [← hz]
        exact hAf f cn _ i hf hi⟩ hl _ hheap X'
  exact ⟨tt, step tt a1, b1⟩
