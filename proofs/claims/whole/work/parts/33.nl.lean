/-! ===== MAKING (1): a constructor at work: its own object (at a), and the list of what came since its entry (from z on) ===== -/
def n_Nt (U : State) : Prop := (va_Nw (.methodLinkNest "GuestKernel" 11 ⟨"GuestKernel$Program", "<init>", "()V"⟩ "GuestKernel") U ∧ va_Nw (.methodLinkNest "GuestKernel" 18 ⟨"GuestKernel$Frames", "<init>", "()V"⟩ "GuestKernel") U ∧ va_Nw (.methodLinkNest "GuestKernel" 50 ⟨"GuestKernel$Processor", "<init>", "()V"⟩ "GuestKernel") U ∧ va_Nw (.methodLinkNest "GuestKernel$Processor" 11 ⟨"GuestKernel$Row", "<init>", "()V"⟩ "GuestKernel") U ∧
  va_Nw (.methodLinkNest "GuestKernel" 51 ⟨"GuestKernel$Lock", "<init>", "()V"⟩ "GuestKernel") U ∧ va_Nw (.methodLinkNest "GuestKernel$Lock" 11 ⟨"GuestKernel$Row", "<init>", "()V"⟩ "GuestKernel") U ∧ va_Nw (.methodLinkNest "GuestKernel" 52 ⟨"GuestKernel$Channel", "<init>", "()V"⟩ "GuestKernel") U ∧ va_Nw (.methodLinkNest "GuestKernel$Channel" 11 ⟨"GuestKernel$Row", "<init>", "()V"⟩ "GuestKernel") U) ∧
  va_AO "GuestKernel$Guest" U ∧ va_AO "GuestKernel$Processor" U ∧ va_AO "GuestKernel$Lock" U ∧ va_AO "GuestKernel$Channel" U
theorem n_Nt.moved {s U : State} (hW : s.WarmedH U.vm) (h : n_Nt s) : n_Nt U := by
  obtain ⟨⟨h1, h2, h3, h4, h5, h6, h7, h8⟩, g1, g2, g3, g4⟩ := h
  exact ⟨⟨h1.warmM hW, h2.warmM hW, h3.warmM hW, h4.warmM hW, h5.warmM hW, h6.warmM hW, h7.warmM hW, h8.warmM hW⟩, va_AO.moved hW.alike g1, va_AO.moved hW.alike g2, va_AO.moved hW.alike g3, va_AO.moved hW.alike g4⟩
def n_H (S : kS) (G : kG) (a z : Nat) (t : va_E) (L : List va_E) (H : Heap) : Prop := va_at G.1 S.1 (a, t) H ∧ (∀ (j : Nat) (e : va_E), L[j]? = some e → va_at G.1 S.1 (z + j, e) H) ∧ H.size = z + L.length ∧ a < z
def n_W (X : kX) (n1 n2 pc : Nat) (lv : List (Nat × Value)) (st : List Value) (a z : Nat) (t : va_E) (L : List va_E) : Prop := match X with
  | (p, l, e, R, s, m, args, below, meth, c, Q, S, G, A, nL) => ∀ (H : Heap) (locs : List Loc) (ls : Array Slot), n_H S G a z t L H → va_S A s.heap H locs → k_has ls nL lv → W p l e R s m args below meth c H locs n1 n2 Q (F0 m pc ls st)
def n_A (a z : Nat) : Nat → Prop := fun q => q = a ∨ z ≤ q
/-- what holds in a constructor at work besides k_C -/
def n_C (X : kX) (a z : Nat) : Prop := match X with
  | (_, _, _, _, s, _, _, _, meth, _, _, _, _, A, _) => z = s.heap.size ∧ A = n_A a z ∧ n_Nt s ∧ meth.name = "<init>"
def n_E (X : kX) (Qc : Array Value → State → Outcome → State → Prop) (mc ms : Nat) : Prop := match X with
  | (_, _, _, _, s, _, args, below, meth, _, Q, _, _, A, _) => Q = MQ below Qc args s mc ms A ∧ meth.sig.returnType = none ∧ meth.locks = false
def n_Pc (S : kS) (G : kG) (a z : Nat) (As : List Value) (t : va_E) : Array Value → State → Prop := va_Pc (.ref a :: As) (fun U => U.heap.size = z ∧ a < z ∧ va_at G.1 S.1 (a, t) U.heap ∧ k_T S G U ∧ n_Nt U)
def n_Qc (S : kS) (G : kG) (a z : Nat) (t : va_E) (L : List va_E) : Array Value → State → Outcome → State → Prop := fun _ st oc u => oc = .returned none ∧ n_H S G a z t L u.heap ∧ va_F (n_A a z) st u
/-- the contract of a constructor: its object's entry t becomes t1, the cells of L1 come -/
def n_Met (l : Launch) (S : kS) (Ts : List Cond) (y : MethodName) (cc : ByteArray) (nL : Nat) (rm : Room) (G : kG) (a : Nat) (As : List Value) (t : va_E) (t1 : Nat → va_E) (L1 : Nat → List va_E) (mc ms : Nat) : Prop :=
  ∀ z : Nat, Met l y (.code y cc nL none :: Ts) rm (n_Pc S G a z As t) (n_Qc S G a z (t1 z) (L1 z)) mc ms (n_A a z)
def n_rm (d mc ms : Nat) : Room := { frames := d, cells := mc, slots := ms, locals := 36 * d }
theorem n_intro {l : Launch} {S : kS} {Ts : List Cond} {y : MethodName} {cc : ByteArray} {nL : Nat} {rm : Room} {G : kG} {a z : Nat} {As : List Value} {t : va_E} {Qc : Array Value → State → Outcome → State → Prop} {mc ms : Nat} (hS : S.2.2 = [])
    (hy : plainFor y = true) (hy1 : y.name = "<init>") (hc : (lv_args 0 (.ref a :: As)).all (fun q => q.2.category == 1) = true) (hn : (lg_sl (.ref a :: As)).length ≤ nL)
    (body : ∀ X : kX, k_C X Ts cc y.cls S G nL l rm → n_C X a z → n_E X Qc mc ms → n_W X 0 0 0 (lv_args 0 (.ref a :: As)) [] a z t []) : Met l y (.code y cc nL none :: Ts) rm (n_Pc S G a z As t) Qc mc ms (n_A a z) := by
  refine va_MetF (cc := cc) (maxL := nL) (ret := none) hy rfl ?_
  intro p e s m args' below meth c s₁ B hml hv
  obtain ⟨rfl, hsz, hlt, hat, hT, hN⟩ := hv
  have hts := atoms_spec (ws := .code y cc nL none :: Ts) B.pre
  have hown : s.vm.findClass y.cls = some m.cls := findClass_of_methodNamed B.named
  have hname : meth.name = "<init>" := by rw [(name_of_methodNamed B.named B.method).1]; exact hy1
  subst hsz
  have hl := lv_entry (.ref a :: As) (n := nL) hn
  rw [lg_entry_eq]
  exact body (p, l, e, rm, s, m, (Value.ref a :: As).toArray, below, meth, c, MQ below Qc (Value.ref a :: As).toArray s mc ms (n_A a s.heap.size), S, G, n_A a s.heap.size, nL)
    ⟨rfl, rfl, rfl, rfl, rfl, B.exec, B.bytes, hml, hown, fun w hw => hts w (List.mem_cons_of_mem _ hw), hT, fun f c k i f' c' k' i' h => by rw [hS] at h; simp at h, fun q h => Or.inr h, fun f c k i h => by rw [hS] at h; simp at h⟩
    ⟨rfl, rfl, hN, hname⟩ ⟨rfl, B.returns, B.notSynchronized⟩ s.heap [] _ ⟨hat, fun j e h => by simp at h, rfl, hlt⟩ va_S.rf (k_has.of hl (fun q hq => by simpa using List.all_eq_true.mp hc q hq))
theorem n_iconst {X : kX} {Ts : List Cond} {cc : ByteArray} {own : String} {S : kS} {G : kG} {nL : Nat} {l : Launch} {R : Room} {n1 n2 pc : Nat} {lv : List (Nat × Value)} {st : List Value} {a z : Nat} {t : va_E} {L : List va_E} (C : k_C X Ts cc own S G nL l R) {n : Int} (hd : decode cc pc = .ok (.iconst n, 1)) {v : Int32} (hv : Int32.ofInt n = v) (k : n_W X n1 n2 (pc + 1) lv (.int v :: st) a z t L) : n_W X n1 n2 pc lv (st) a z t L := by
  obtain ⟨p, l, e, R, s, m, args, below, meth, cd, Q, S', G', A, nL'⟩ := X
  obtain ⟨rfl, rfl, rfl, rfl, rfl, hx, hb, hml, hown, hts, hT, hI, hA, hAf⟩ := C
  exact fun H locs ls hH hS hl => lv_iconst hx hb hd hv (k H locs ls hH hS hl)
theorem n_bipush {X : kX} {Ts : List Cond} {cc : ByteArray} {own : String} {S : kS} {G : kG} {nL : Nat} {l : Launch} {R : Room} {n1 n2 pc : Nat} {lv : List (Nat × Value)} {st : List Value} {a z : Nat} {t : va_E} {L : List va_E} (C : k_C X Ts cc own S G nL l R) {n : Int} (hd : decode cc pc = .ok (.bipush n, 2)) {v : Int32} (hv : (Int8.ofInt n).toInt32 = v) (k : n_W X n1 n2 (pc + 2) lv (.int v :: st) a z t L) : n_W X n1 n2 pc lv (st) a z t L := by
  obtain ⟨p, l, e, R, s, m, args, below, meth, cd, Q, S', G', A, nL'⟩ := X
  obtain ⟨rfl, rfl, rfl, rfl, rfl, hx, hb, hml, hown, hts, hT, hI, hA, hAf⟩ := C
  exact fun H locs ls hH hS hl => lv_bipush hx hb hd hv (k H locs ls hH hS hl)
theorem n_sipush {X : kX} {Ts : List Cond} {cc : ByteArray} {own : String} {S : kS} {G : kG} {nL : Nat} {l : Launch} {R : Room} {n1 n2 pc : Nat} {lv : List (Nat × Value)} {st : List Value} {a z : Nat} {t : va_E} {L : List va_E} (C : k_C X Ts cc own S G nL l R) {n : Int} (hd : decode cc pc = .ok (.sipush n, 3)) {v : Int32} (hv : (Int16.ofInt n).toInt32 = v) (k : n_W X n1 n2 (pc + 3) lv (.int v :: st) a z t L) : n_W X n1 n2 pc lv (st) a z t L := by
  obtain ⟨p, l, e, R, s, m, args, below, meth, cd, Q, S', G', A, nL'⟩ := X
  obtain ⟨rfl, rfl, rfl, rfl, rfl, hx, hb, hml, hown, hts, hT, hI, hA, hAf⟩ := C
  exact fun H locs ls hH hS hl => lv_sipush hx hb hd hv (k H locs ls hH hS hl)
theorem n_iload_n {X : kX} {Ts : List Cond} {cc : ByteArray} {own : String} {S : kS} {G : kG} {nL : Nat} {l : Launch} {R : Room} {n1 n2 pc : Nat} {lv : List (Nat × Value)} {st : List Value} {a z : Nat} {t : va_E} {L : List va_E} (C : k_C X Ts cc own S G nL l R) {q : Fin 4} (hd : decode cc pc = .ok (.iload_n q, 1)) {x : Int32} (hl0 : lv.lookup (q : Nat) = some (.int x)) (k : n_W X n1 n2 (pc + 1) lv (.int x :: st) a z t L) : n_W X n1 n2 pc lv (st) a z t L := by
  obtain ⟨p, l, e, R, s, m, args, below, meth, cd, Q, S', G', A, nL'⟩ := X
  obtain ⟨rfl, rfl, rfl, rfl, rfl, hx, hb, hml, hown, hts, hT, hI, hA, hAf⟩ := C
  exact fun H locs ls hH hS hl => lv_iload_n hx hb hd rfl (hl.2.2 _ _ hl0).1 (k H locs ls hH hS hl)
theorem n_aload_n {X : kX} {Ts : List Cond} {cc : ByteArray} {own : String} {S : kS} {G : kG} {nL : Nat} {l : Launch} {R : Room} {n1 n2 pc : Nat} {lv : List (Nat × Value)} {st : List Value} {a z : Nat} {t : va_E} {L : List va_E} (C : k_C X Ts cc own S G nL l R) {q : Fin 4} (hd : decode cc pc = .ok (.aload_n q, 1)) {x : Nat} (hl0 : lv.lookup (q : Nat) = some (.ref x)) (k : n_W X n1 n2 (pc + 1) lv (.ref x :: st) a z t L) : n_W X n1 n2 pc lv (st) a z t L := by
  obtain ⟨p, l, e, R, s, m, args, below, meth, cd, Q, S', G', A, nL'⟩ := X
  obtain ⟨rfl, rfl, rfl, rfl, rfl, hx, hb, hml, hown, hts, hT, hI, hA, hAf⟩ := C
  exact fun H locs ls hH hS hl => lv_aload_n hx hb hd rfl (hl.2.2 _ _ hl0).1 (k H locs ls hH hS hl)
theorem n_istore_n {X : kX} {Ts : List Cond} {cc : ByteArray} {own : String} {S : kS} {G : kG} {nL : Nat} {l : Launch} {R : Room} {n1 n2 pc : Nat} {lv : List (Nat × Value)} {st : List Value} {a z : Nat} {t : va_E} {L : List va_E} (C : k_C X Ts cc own S G nL l R) {q : Fin 4} (hd : decode cc pc = .ok (.istore_n q, 1)) {x : Int32} (hn : (q : Nat) < nL) (k : n_W X n1 n2 (pc + 1) (((q : Nat), .int x) :: lv) st a z t L) : n_W X n1 n2 pc lv (.int x :: st) a z t L := by
  obtain ⟨p, l, e, R, s, m, args, below, meth, cd, Q, S', G', A, nL'⟩ := X
  obtain ⟨rfl, rfl, rfl, rfl, rfl, hx, hb, hml, hown, hts, hT, hI, hA, hAf⟩ := C
  exact fun H locs ls hH hS hl => lv_istore_n hx hb hd rfl hl.list hn rfl (fun ls' hl' => k H locs ls' hH hS (hl.cons rfl hl'))
theorem n_iinc {X : kX} {Ts : List Cond} {cc : ByteArray} {own : String} {S : kS} {G : kG} {nL : Nat} {l : Launch} {R : Room} {n1 n2 pc : Nat} {lv : List (Nat × Value)} {st : List Value} {a z : Nat} {t : va_E} {L : List va_E} (C : k_C X Ts cc own S G nL l R) {i : Nat} {n : Int} (hd : decode cc pc = .ok (.iinc i n, 3)) {x v : Int32} (hl0 : lv.lookup i = some (.int x)) (hv : x + Int32.ofInt n = v) (hn : i < nL) (k : n_W X n1 n2 (pc + 3) ((i, .int v) :: lv) st a z t L) : n_W X n1 n2 pc lv st a z t L := by
  obtain ⟨p, l, e, R, s, m, args, below, meth, cd, Q, S', G', A, nL'⟩ := X
  obtain ⟨rfl, rfl, rfl, rfl, rfl, hx, hb, hml, hown, hts, hT, hI, hA, hAf⟩ := C
  refine fun H locs ls hH hS hl => ?_
  have hm : (i, Value.int x) ∈ k_l0 nL' lv := List.mem_filterMap.mpr ⟨i, List.mem_range.mpr hn, by rw [hl0]; rfl⟩
  obtain ⟨kk, hk⟩ := List.mem_iff_getElem?.mp hm
  exact lv_iinc hx hb hd hl.list hk hv hn rfl (fun ls' hl' => k H locs ls' hH hS (hl.cons rfl hl'))
theorem n_dup {X : kX} {Ts : List Cond} {cc : ByteArray} {own : String} {S : kS} {G : kG} {nL : Nat} {l : Launch} {R : Room} {n1 n2 pc : Nat} {lv : List (Nat × Value)} {st : List Value} {a z : Nat} {t : va_E} {L : List va_E} (C : k_C X Ts cc own S G nL l R) (hd : decode cc pc = .ok (.dup, 1)) {va : Value} (h1 : va.category = 1) (k : n_W X n1 n2 (pc + 1) lv (va :: va :: st) a z t L) : n_W X n1 n2 pc lv (va :: st) a z t L := by
  obtain ⟨p, l, e, R, s, m, args, below, meth, cd, Q, S', G', A, nL'⟩ := X
  obtain ⟨rfl, rfl, rfl, rfl, rfl, hx, hb, hml, hown, hts, hT, hI, hA, hAf⟩ := C
  exact fun H locs ls hH hS hl => lv_dup hx hb hd h1 (k H locs ls hH hS hl)
theorem n_icmp_ge {X : kX} {Ts : List Cond} {cc : ByteArray} {own : String} {S : kS} {G : kG} {nL : Nat} {l : Launch} {R : Room} {n1 n2 pc : Nat} {lv : List (Nat × Value)} {st : List Value} {a z : Nat} {t : va_E} {L : List va_E} (C : k_C X Ts cc own S G nL l R) {off : Int} {tgt : Nat} (hd : decode cc pc = .ok (.if_icmp .ge off, 3)) (ht : (pc : Int) + off = (tgt : Int)) {x y : Int32} (kt : y ≤ x → n_W X n1 n2 tgt lv st a z t L) (kf : ¬ y ≤ x → n_W X n1 n2 (pc + 3) lv st a z t L) : n_W X n1 n2 pc lv (.int y :: .int x :: st) a z t L := by
  obtain ⟨p, l, e, R, s, m, args, below, meth, cd, Q, S', G', A, nL'⟩ := X
  obtain ⟨rfl, rfl, rfl, rfl, rfl, hx, hb, hml, hown, hts, hT, hI, hA, hAf⟩ := C
  exact fun H locs ls hH hS hl => lv_icmp_ge hx hb hd ht (fun h => kt h H locs ls hH hS hl) (fun h => kf h H locs ls hH hS hl)
theorem n_goto {X : kX} {Ts : List Cond} {cc : ByteArray} {own : String} {S : kS} {G : kG} {nL : Nat} {l : Launch} {R : Room} {n1 n2 pc : Nat} {lv : List (Nat × Value)} {st : List Value} {a z : Nat} {t : va_E} {L : List va_E} (C : k_C X Ts cc own S G nL l R) {off : Int} {tgt : Nat} (hd : decode cc pc = .ok (.goto off, 3)) (ht : (pc : Int) + off = (tgt : Int)) (k : n_W X n1 n2 tgt lv st a z t L) : n_W X n1 n2 pc lv st a z t L := by
  obtain ⟨p, l, e, R, s, m, args, below, meth, cd, Q, S', G', A, nL'⟩ := X
  obtain ⟨rfl, rfl, rfl, rfl, rfl, hx, hb, hml, hown, hts, hT, hI, hA, hAf⟩ := C
  exact fun H locs ls hH hS hl => lv_goto hx hb hd ht (k H locs ls hH hS hl)
theorem n_loc {X : kX} {n1 n2 pc : Nat} {lv : List (Nat × Value)} (lv' : List (Nat × Value)) {st : List Value} {a z : Nat} {t : va_E} {L : List va_E} (h : k_subl lv lv') (k : n_W X n1 n2 pc lv' st a z t L) : n_W X n1 n2 pc lv st a z t L := by
  obtain ⟨p, l, e, R, s, m, args, below, meth, cd, Q, S', G', A, nL'⟩ := X
  exact fun H locs ls hH hS hl => k H locs ls hH hS ⟨hl.1, hl.2.1, fun i v hv => hl.2.2 i v (h.of i v hv)⟩
theorem n_top {X : kX} {n1 n2 pc : Nat} {lv : List (Nat × Value)} {st : List Value} {a z : Nat} {t : va_E} {L : List va_E} {x y : Int32} (h : x = y) (k : n_W X n1 n2 pc lv (.int y :: st) a z t L) : n_W X n1 n2 pc lv (.int x :: st) a z t L := h ▸ k
theorem n_return {X : kX} {Ts : List Cond} {cc : ByteArray} {own : String} {S : kS} {G : kG} {nL : Nat} {l : Launch} {R : Room} {n1 n2 pc : Nat} {lv : List (Nat × Value)} {a z : Nat} {t : va_E} {L : List va_E} (C : k_C X Ts cc own S G nL l R) (N : n_C X a z) (E : n_E X (n_Qc S G a z t L) n1 n2) (hd : decode cc pc = .ok (.return_, 1)) : n_W X n1 n2 pc lv [] a z t L := by
  obtain ⟨p, l, e, R, s, m, args, below, meth, cd, Q, S', G', A, nL'⟩ := X
  obtain ⟨rfl, rfl, rfl, rfl, rfl, hx, hb, hml, hown, hts, hT, hI, hA, hAf⟩ := C
  obtain ⟨rfl, rfl, -, -⟩ := N
  obtain ⟨rfl, hr, hlk⟩ := E
  refine fun H locs ls hH hS hl => ?_
  exact W.vret hx hb hr (fun t ht hW => ⟨rfl, by rw [ht]; exact hH, va_S.F hS ht⟩) hS.2.2 hd hlk
theorem va_at.tail {D : va_G} {cl : List vw_C} {q : Nat × va_E} {H H1 : Heap} (h : va_at D cl q H) (hq : H1[q.1]? = H[q.1]?) : va_at D cl q H1 := h.kept hq
theorem va_atE {D : va_G} {cl : List vw_C} {q : Nat} {e : va_E} {H : Heap} (h : va_at D cl (q, e) H) : va_P D cl [(q, e)] H := by
  intro k x hx
  match k, hx with
  | 0, hx =>
    cases hx
    exact h
  | n + 1, hx => simp at hx
theorem va_D1 {A : Nat → Prop} {q : Nat} {e : va_E} (h : A q) : va_D A [(q, e)] := by
  refine ⟨fun i j x y hx hy _ => ?_, fun k x hx => ?_⟩
  · have h1 := (List.getElem?_eq_some_iff.mp hx).1
    have h2 := (List.getElem?_eq_some_iff.mp hy).1
    simp at h1 h2
    omega
  · match k, hx with
    | 0, hx =>
      cases hx
      exact h
    | n + 1, hx => simp at hx
def n_fld (S : kS) (Ts : List Cond) (own : String) (idx ci j : Nat) (ty : FieldType) (fin : Bool) : Prop := ∃ (n : Nat) (Cn ref nm ds : String) (T : u_T) (ty0 : Nat → FieldType), S.1[ci]? = some (Cn, T, n) ∧ (∀ w ∈ u_ws Cn T n, w ∈ Ts) ∧ (∀ k, k < n → parseFieldDescriptor (T k).2.2.1 = some (ty0 k)) ∧ (∀ a, a < n → ∀ b, b < n → a ≠ b → (T a).2.1 ≠ (T b).2.1) ∧ T j = (ref, nm, ds, fin) ∧ j < n ∧ ref = own ∧ parseFieldDescriptor ds = some ty ∧ Cond.fieldLink own idx ref nm ds ∈ Ts
theorem n_put {X : kX} {Ts : List Cond} {cc : ByteArray} {own : String} {S : kS} {G : kG} {nL : Nat} {l : Launch} {R : Room} {n1 n2 pc : Nat} {lv : List (Nat × Value)} {st : List Value} {a z : Nat} {L : List va_E} (C : k_C X Ts cc own S G nL l R) (N : n_C X a z) {idx ci j : Nat} {ty : FieldType} {fin : Bool} {fs : List Value} {v : Value} (hd : decode cc pc = .ok (.putfield idx, 3)) (hq : n_fld S Ts own idx ci j ty fin) (hn : narrow ty v = v) (hfit : fits ty v = true) (hl0 : j < fs.length)
    (k : n_W X n1 n2 (pc + 3) lv st a z (.inr (ci, fs.set j v)) L) : n_W X n1 n2 pc lv (v :: .ref a :: st) a z (.inr (ci, fs)) L := by
  obtain ⟨p, l, e, R, s, m, args, below, meth, cd, Q, S', G', A, nL'⟩ := X
  obtain ⟨rfl, rfl, rfl, rfl, rfl, hx, hb, hml, hown, hts, hT, hI, hA, hAf⟩ := C
  obtain ⟨rfl, rfl, -, hname⟩ := N
  obtain ⟨n, Cn, ref, nm, ds, T, ty0, hc, hin, hty, hnm, hTj, hj, rfl, hds, hlink⟩ := hq
  refine fun H locs ls hH hS hl => ?_
  obtain ⟨hat, hL, hsz, hlt⟩ := hH
  have e1 : (T j).1 = ref := by rw [hTj]
  have e2 : (T j).2.1 = nm := by rw [hTj]
  have e3 : (T j).2.2.1 = ds := by rw [hTj]
  have e4 : (T j).2.2.2 = fin := by rw [hTj]
  have hmine : n_A a s.heap.size a := Or.inl rfl
  have hap := va_apart (own := ref) hts hin ty0 hty hnm hT hc
  obtain ⟨r, h1, cell, q1, q2, q3, q4⟩ := hat
  have hr : r = (Cn, T, n) := Option.some.inj (h1.symm.trans hc)
  subst hr
  obtain ⟨hS1, hfc, kC, hkC, hkind⟩ := hT.1 ci _ hc
  obtain ⟨cf, kf, fi, fd, hi1, hsl⟩ := hS1 j hj
  have hlay := hts _ (hin _ (u_in_lay hj))
  have hst := (u_facts hfc hkC (u_lays hts hin hj) hi1).1
  have after : ∀ H' : Heap, H'[a]? = some (cell.setSlot fd.slot v) → H'.size = H.size → (∀ q : Nat, q ≠ a → H'[q]? = H[q]?) → W p l e R s m args below meth cd H' (locs ++ [⟨a, fd.slot⟩]) n1 n2 Q (F0 m (pc + 3) ls st) := fun H' e1' e2' e3' => by
    refine k H' _ ls ⟨⟨_, hc, ?_⟩, fun i x hx' => (hL i x hx').kept (e3' _ (by omega)), by rw [e2']; exact hsz, hlt⟩ (hS.put e2' e3' hmine) hl
    rw [hsl] at e1'
    exact t_OB.to (V := updV (vp_V fs) j v) ⟨_, e1', q2, q3, t_set q4 hap hj v⟩ (fun i _ => vp_updV_set hl0 v i)
  cases fin with
  | false =>
    unfold u_lay at hlay
    rw [if_neg (by rw [e4]; decide)] at hlay
    have h6 := u_store hfc hkC hkind hlay hi1 (by rw [e3]; exact hds) hn hfit
    rw [e1, e2, e3] at hi1
    exact W.putK hx hb (f := fd) ⟨hown, hts _ hlink, ⟨_, _, _, hi1⟩, hst⟩ (by rw [q2]; exact h6) q1 q3 (by rw [hsl]; exact k2_hasslot (q4 j hj)) rfl rfl hd after
  | true =>
    unfold u_lay at hlay
    rw [if_pos e4] at hlay
    have hcf : m.cls = cf := by
      obtain ⟨_, _, c', _, _, _, -, -, hf', -, -, -, hown2, -⟩ := Cond.laysFinal_spec hlay
      have z1 : c' = cf := by have := hi1.symm.trans hf'; simp at this; exact this.1.symm
      rw [e1] at hown2
      rw [← z1]; exact Option.some.inj (hown.symm.trans hown2)
    have h6 := u_fits hfc hkC hkind (Or.inr hlay) hi1 (by rw [e3]; exact hds) hn hfit
    rw [e1, e2, e3] at hi1
    exact W.putFinK hx hb hown (hts _ hlink) hi1 hst hcf hname (by rw [q2]; exact h6) q1 q3 (by rw [hsl]; exact k2_hasslot (q4 j hj)) rfl rfl hd after
