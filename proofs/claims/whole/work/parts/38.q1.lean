/-! ===== THE LAW (1): the judgement with any picture of the heap; the wrappers' contracts ===== -/
def eS : kS := ([], [], [])
def q_W (X : kX) (n1 n2 pc : Nat) (lv : List (Nat × Value)) (st : List Value) (Φ : Heap → Prop) : Prop := match X with
  | (p, l, e, R, s, m, args, below, meth, c, Q, _, _, A, nL) => ∀ (H : Heap) (locs : List Loc) (ls : Array Slot), Φ H → va_S A s.heap H locs → k_has ls nL lv → W p l e R s m args below meth c H locs n1 n2 Q (F0 m pc ls st)
theorem q_mono {X : kX} {n1 n2 pc : Nat} {lv : List (Nat × Value)} {st : List Value} {Φ Ψ : Heap → Prop} (h : ∀ H, Φ H → Ψ H) (k : q_W X n1 n2 pc lv st Ψ) : q_W X n1 n2 pc lv st Φ := by
  obtain ⟨p, l, e, R, s, m, args, below, meth, cd, Q, S', G', A, nL'⟩ := X
  exact fun H locs ls hH hS hl => k H locs ls (h H hH) hS hl
theorem q_wide {X : kX} {n1 n2 m1 m2 pc : Nat} {lv : List (Nat × Value)} {st : List Value} {Φ : Heap → Prop} (h1 : n1 ≤ m1) (h2 : n2 ≤ m2) (k : q_W X m1 m2 pc lv st Φ) : q_W X n1 n2 pc lv st Φ := by
  obtain ⟨p, l, e, R, s, m, args, below, meth, cd, Q, S', G', A, nL'⟩ := X
  exact fun H locs ls hH hS hl => W.widen h1 h2 (k H locs ls hH hS hl)
theorem q_iconst {X : kX} {Ts : List Cond} {cc : ByteArray} {own : String} {S : kS} {G : kG} {nL : Nat} {l : Launch} {R : Room} {n1 n2 pc : Nat} {lv : List (Nat × Value)} {st : List Value} {Φ : Heap → Prop} (C : k_C X Ts cc own S G nL l R) {n : Int} (hd : decode cc pc = .ok (.iconst n, 1)) {v : Int32} (hv : Int32.ofInt n = v) (k : q_W X n1 n2 (pc + 1) lv (.int v :: st) Φ) : q_W X n1 n2 pc lv (st) Φ := by
  obtain ⟨p, l, e, R, s, m, args, below, meth, cd, Q, S', G', A, nL'⟩ := X
  obtain ⟨rfl, rfl, rfl, rfl, rfl, hx, hb, hml, hown, hts, hT, hI, hA, hAf⟩ := C
  exact fun H locs ls hH hS hl => lv_iconst hx hb hd hv (k H locs ls hH hS hl)
theorem q_bipush {X : kX} {Ts : List Cond} {cc : ByteArray} {own : String} {S : kS} {G : kG} {nL : Nat} {l : Launch} {R : Room} {n1 n2 pc : Nat} {lv : List (Nat × Value)} {st : List Value} {Φ : Heap → Prop} (C : k_C X Ts cc own S G nL l R) {n : Int} (hd : decode cc pc = .ok (.bipush n, 2)) {v : Int32} (hv : (Int8.ofInt n).toInt32 = v) (k : q_W X n1 n2 (pc + 2) lv (.int v :: st) Φ) : q_W X n1 n2 pc lv (st) Φ := by
  obtain ⟨p, l, e, R, s, m, args, below, meth, cd, Q, S', G', A, nL'⟩ := X
  obtain ⟨rfl, rfl, rfl, rfl, rfl, hx, hb, hml, hown, hts, hT, hI, hA, hAf⟩ := C
  exact fun H locs ls hH hS hl => lv_bipush hx hb hd hv (k H locs ls hH hS hl)
theorem q_iload {X : kX} {Ts : List Cond} {cc : ByteArray} {own : String} {S : kS} {G : kG} {nL : Nat} {l : Launch} {R : Room} {n1 n2 pc : Nat} {lv : List (Nat × Value)} {st : List Value} {Φ : Heap → Prop} (C : k_C X Ts cc own S G nL l R) {i : Nat} (hd : decode cc pc = .ok (.iload i, 2)) {x : Int32} (hl0 : lv.lookup i = some (.int x)) (k : q_W X n1 n2 (pc + 2) lv (.int x :: st) Φ) : q_W X n1 n2 pc lv (st) Φ := by
  obtain ⟨p, l, e, R, s, m, args, below, meth, cd, Q, S', G', A, nL'⟩ := X
  obtain ⟨rfl, rfl, rfl, rfl, rfl, hx, hb, hml, hown, hts, hT, hI, hA, hAf⟩ := C
  exact fun H locs ls hH hS hl => lv_iload hx hb hd (hl.2.2 _ _ hl0).1 (k H locs ls hH hS hl)
theorem q_iload_n {X : kX} {Ts : List Cond} {cc : ByteArray} {own : String} {S : kS} {G : kG} {nL : Nat} {l : Launch} {R : Room} {n1 n2 pc : Nat} {lv : List (Nat × Value)} {st : List Value} {Φ : Heap → Prop} (C : k_C X Ts cc own S G nL l R) {q : Fin 4} (hd : decode cc pc = .ok (.iload_n q, 1)) {x : Int32} (hl0 : lv.lookup (q : Nat) = some (.int x)) (k : q_W X n1 n2 (pc + 1) lv (.int x :: st) Φ) : q_W X n1 n2 pc lv (st) Φ := by
  obtain ⟨p, l, e, R, s, m, args, below, meth, cd, Q, S', G', A, nL'⟩ := X
  obtain ⟨rfl, rfl, rfl, rfl, rfl, hx, hb, hml, hown, hts, hT, hI, hA, hAf⟩ := C
  exact fun H locs ls hH hS hl => lv_iload_n hx hb hd rfl (hl.2.2 _ _ hl0).1 (k H locs ls hH hS hl)
theorem q_aload {X : kX} {Ts : List Cond} {cc : ByteArray} {own : String} {S : kS} {G : kG} {nL : Nat} {l : Launch} {R : Room} {n1 n2 pc : Nat} {lv : List (Nat × Value)} {st : List Value} {Φ : Heap → Prop} (C : k_C X Ts cc own S G nL l R) {i : Nat} (hd : decode cc pc = .ok (.aload i, 2)) {x : Nat} (hl0 : lv.lookup i = some (.ref x)) (k : q_W X n1 n2 (pc + 2) lv (.ref x :: st) Φ) : q_W X n1 n2 pc lv (st) Φ := by
  obtain ⟨p, l, e, R, s, m, args, below, meth, cd, Q, S', G', A, nL'⟩ := X
  obtain ⟨rfl, rfl, rfl, rfl, rfl, hx, hb, hml, hown, hts, hT, hI, hA, hAf⟩ := C
  exact fun H locs ls hH hS hl => lv_aload hx hb hd (hl.2.2 _ _ hl0).1 (k H locs ls hH hS hl)
theorem q_aload_n {X : kX} {Ts : List Cond} {cc : ByteArray} {own : String} {S : kS} {G : kG} {nL : Nat} {l : Launch} {R : Room} {n1 n2 pc : Nat} {lv : List (Nat × Value)} {st : List Value} {Φ : Heap → Prop} (C : k_C X Ts cc own S G nL l R) {q : Fin 4} (hd : decode cc pc = .ok (.aload_n q, 1)) {x : Nat} (hl0 : lv.lookup (q : Nat) = some (.ref x)) (k : q_W X n1 n2 (pc + 1) lv (.ref x :: st) Φ) : q_W X n1 n2 pc lv (st) Φ := by
  obtain ⟨p, l, e, R, s, m, args, below, meth, cd, Q, S', G', A, nL'⟩ := X
  obtain ⟨rfl, rfl, rfl, rfl, rfl, hx, hb, hml, hown, hts, hT, hI, hA, hAf⟩ := C
  exact fun H locs ls hH hS hl => lv_aload_n hx hb hd rfl (hl.2.2 _ _ hl0).1 (k H locs ls hH hS hl)
theorem q_istore {X : kX} {Ts : List Cond} {cc : ByteArray} {own : String} {S : kS} {G : kG} {nL : Nat} {l : Launch} {R : Room} {n1 n2 pc : Nat} {lv : List (Nat × Value)} {st : List Value} {Φ : Heap → Prop} (C : k_C X Ts cc own S G nL l R) {i : Nat} (hd : decode cc pc = .ok (.istore i, 2)) {x : Int32} (hn : i < nL) (k : q_W X n1 n2 (pc + 2) ((i, .int x) :: lv) st Φ) : q_W X n1 n2 pc lv (.int x :: st) Φ := by
  obtain ⟨p, l, e, R, s, m, args, below, meth, cd, Q, S', G', A, nL'⟩ := X
  obtain ⟨rfl, rfl, rfl, rfl, rfl, hx, hb, hml, hown, hts, hT, hI, hA, hAf⟩ := C
  exact fun H locs ls hH hS hl => lv_istore hx hb hd hl.list hn rfl (fun ls' hl' => k H locs ls' hH hS (hl.cons rfl hl'))
theorem q_istore_n {X : kX} {Ts : List Cond} {cc : ByteArray} {own : String} {S : kS} {G : kG} {nL : Nat} {l : Launch} {R : Room} {n1 n2 pc : Nat} {lv : List (Nat × Value)} {st : List Value} {Φ : Heap → Prop} (C : k_C X Ts cc own S G nL l R) {q : Fin 4} (hd : decode cc pc = .ok (.istore_n q, 1)) {x : Int32} (hn : (q : Nat) < nL) (k : q_W X n1 n2 (pc + 1) (((q : Nat), .int x) :: lv) st Φ) : q_W X n1 n2 pc lv (.int x :: st) Φ := by
  obtain ⟨p, l, e, R, s, m, args, below, meth, cd, Q, S', G', A, nL'⟩ := X
  obtain ⟨rfl, rfl, rfl, rfl, rfl, hx, hb, hml, hown, hts, hT, hI, hA, hAf⟩ := C
  exact fun H locs ls hH hS hl => lv_istore_n hx hb hd rfl hl.list hn rfl (fun ls' hl' => k H locs ls' hH hS (hl.cons rfl hl'))
theorem q_astore {X : kX} {Ts : List Cond} {cc : ByteArray} {own : String} {S : kS} {G : kG} {nL : Nat} {l : Launch} {R : Room} {n1 n2 pc : Nat} {lv : List (Nat × Value)} {st : List Value} {Φ : Heap → Prop} (C : k_C X Ts cc own S G nL l R) {i : Nat} (hd : decode cc pc = .ok (.astore i, 2)) {x : Nat} (hn : i < nL) (k : q_W X n1 n2 (pc + 2) ((i, .ref x) :: lv) st Φ) : q_W X n1 n2 pc lv (.ref x :: st) Φ := by
  obtain ⟨p, l, e, R, s, m, args, below, meth, cd, Q, S', G', A, nL'⟩ := X
  obtain ⟨rfl, rfl, rfl, rfl, rfl, hx, hb, hml, hown, hts, hT, hI, hA, hAf⟩ := C
  exact fun H locs ls hH hS hl => lv_astore hx hb hd hl.list hn rfl (fun ls' hl' => k H locs ls' hH hS (hl.cons rfl hl'))
theorem q_astore_n {X : kX} {Ts : List Cond} {cc : ByteArray} {own : String} {S : kS} {G : kG} {nL : Nat} {l : Launch} {R : Room} {n1 n2 pc : Nat} {lv : List (Nat × Value)} {st : List Value} {Φ : Heap → Prop} (C : k_C X Ts cc own S G nL l R) {q : Fin 4} (hd : decode cc pc = .ok (.astore_n q, 1)) {x : Nat} (hn : (q : Nat) < nL) (k : q_W X n1 n2 (pc + 1) (((q : Nat), .ref x) :: lv) st Φ) : q_W X n1 n2 pc lv (.ref x :: st) Φ := by
  obtain ⟨p, l, e, R, s, m, args, below, meth, cd, Q, S', G', A, nL'⟩ := X
  obtain ⟨rfl, rfl, rfl, rfl, rfl, hx, hb, hml, hown, hts, hT, hI, hA, hAf⟩ := C
  exact fun H locs ls hH hS hl => lv_astore_n hx hb hd rfl hl.list hn rfl (fun ls' hl' => k H locs ls' hH hS (hl.cons rfl hl'))
theorem q_iinc {X : kX} {Ts : List Cond} {cc : ByteArray} {own : String} {S : kS} {G : kG} {nL : Nat} {l : Launch} {R : Room} {n1 n2 pc : Nat} {lv : List (Nat × Value)} {st : List Value} {Φ : Heap → Prop} (C : k_C X Ts cc own S G nL l R) {i : Nat} {n : Int} (hd : decode cc pc = .ok (.iinc i n, 3)) {x v : Int32} (hl0 : lv.lookup i = some (.int x)) (hv : x + Int32.ofInt n = v) (hn : i < nL) (k : q_W X n1 n2 (pc + 3) ((i, .int v) :: lv) st Φ) : q_W X n1 n2 pc lv st Φ := by
  obtain ⟨p, l, e, R, s, m, args, below, meth, cd, Q, S', G', A, nL'⟩ := X
  obtain ⟨rfl, rfl, rfl, rfl, rfl, hx, hb, hml, hown, hts, hT, hI, hA, hAf⟩ := C
  refine fun H locs ls hH hS hl => ?_
  have hm : (i, Value.int x) ∈ k_l0 nL' lv := List.mem_filterMap.mpr ⟨i, List.mem_range.mpr hn, by rw [hl0]; rfl⟩
  obtain ⟨kk, hk⟩ := List.mem_iff_getElem?.mp hm
  exact lv_iinc hx hb hd hl.list hk hv hn rfl (fun ls' hl' => k H locs ls' hH hS (hl.cons rfl hl'))
theorem q_iadd {X : kX} {Ts : List Cond} {cc : ByteArray} {own : String} {S : kS} {G : kG} {nL : Nat} {l : Launch} {R : Room} {n1 n2 pc : Nat} {lv : List (Nat × Value)} {st : List Value} {Φ : Heap → Prop} (C : k_C X Ts cc own S G nL l R) (hd : decode cc pc = .ok (.iadd, 1)) {x y : Int32} (k : q_W X n1 n2 (pc + 1) lv (.int (x + y) :: st) Φ) : q_W X n1 n2 pc lv (.int y :: .int x :: st) Φ := by
  obtain ⟨p, l, e, R, s, m, args, below, meth, cd, Q, S', G', A, nL'⟩ := X
  obtain ⟨rfl, rfl, rfl, rfl, rfl, hx, hb, hml, hown, hts, hT, hI, hA, hAf⟩ := C
  exact fun H locs ls hH hS hl => lv_iadd hx hb hd (k H locs ls hH hS hl)
theorem q_isub {X : kX} {Ts : List Cond} {cc : ByteArray} {own : String} {S : kS} {G : kG} {nL : Nat} {l : Launch} {R : Room} {n1 n2 pc : Nat} {lv : List (Nat × Value)} {st : List Value} {Φ : Heap → Prop} (C : k_C X Ts cc own S G nL l R) (hd : decode cc pc = .ok (.isub, 1)) {x y : Int32} (k : q_W X n1 n2 (pc + 1) lv (.int (x - y) :: st) Φ) : q_W X n1 n2 pc lv (.int y :: .int x :: st) Φ := by
  obtain ⟨p, l, e, R, s, m, args, below, meth, cd, Q, S', G', A, nL'⟩ := X
  obtain ⟨rfl, rfl, rfl, rfl, rfl, hx, hb, hml, hown, hts, hT, hI, hA, hAf⟩ := C
  exact fun H locs ls hH hS hl => lv_isub hx hb hd (k H locs ls hH hS hl)
theorem q_iand {X : kX} {Ts : List Cond} {cc : ByteArray} {own : String} {S : kS} {G : kG} {nL : Nat} {l : Launch} {R : Room} {n1 n2 pc : Nat} {lv : List (Nat × Value)} {st : List Value} {Φ : Heap → Prop} (C : k_C X Ts cc own S G nL l R) (hd : decode cc pc = .ok (.iand, 1)) {x y : Int32} (k : q_W X n1 n2 (pc + 1) lv (.int (x &&& y) :: st) Φ) : q_W X n1 n2 pc lv (.int y :: .int x :: st) Φ := by
  obtain ⟨p, l, e, R, s, m, args, below, meth, cd, Q, S', G', A, nL'⟩ := X
  obtain ⟨rfl, rfl, rfl, rfl, rfl, hx, hb, hml, hown, hts, hT, hI, hA, hAf⟩ := C
  exact fun H locs ls hH hS hl => lv_iand hx hb hd (k H locs ls hH hS hl)
theorem q_dup {X : kX} {Ts : List Cond} {cc : ByteArray} {own : String} {S : kS} {G : kG} {nL : Nat} {l : Launch} {R : Room} {n1 n2 pc : Nat} {lv : List (Nat × Value)} {st : List Value} {Φ : Heap → Prop} (C : k_C X Ts cc own S G nL l R) (hd : decode cc pc = .ok (.dup, 1)) {va : Value} (h1 : va.category = 1) (k : q_W X n1 n2 (pc + 1) lv (va :: va :: st) Φ) : q_W X n1 n2 pc lv (va :: st) Φ := by
  obtain ⟨p, l, e, R, s, m, args, below, meth, cd, Q, S', G', A, nL'⟩ := X
  obtain ⟨rfl, rfl, rfl, rfl, rfl, hx, hb, hml, hown, hts, hT, hI, hA, hAf⟩ := C
  exact fun H locs ls hH hS hl => lv_dup hx hb hd h1 (k H locs ls hH hS hl)
theorem q_if_eq {X : kX} {Ts : List Cond} {cc : ByteArray} {own : String} {S : kS} {G : kG} {nL : Nat} {l : Launch} {R : Room} {n1 n2 pc : Nat} {lv : List (Nat × Value)} {st : List Value} {Φ : Heap → Prop} (C : k_C X Ts cc own S G nL l R) {off : Int} {tgt : Nat} (hd : decode cc pc = .ok (.ifCond .eq off, 3)) (ht : (pc : Int) + off = (tgt : Int)) {x : Int32} (kt : x = 0 → q_W X n1 n2 tgt lv st Φ) (kf : ¬ x = 0 → q_W X n1 n2 (pc + 3) lv st Φ) : q_W X n1 n2 pc lv (.int x :: st) Φ := by
  obtain ⟨p, l, e, R, s, m, args, below, meth, cd, Q, S', G', A, nL'⟩ := X
  obtain ⟨rfl, rfl, rfl, rfl, rfl, hx, hb, hml, hown, hts, hT, hI, hA, hAf⟩ := C
  exact fun H locs ls hH hS hl => lv_if_eq hx hb hd ht (fun h => kt h H locs ls hH hS hl) (fun h => kf h H locs ls hH hS hl)
theorem q_if_ne {X : kX} {Ts : List Cond} {cc : ByteArray} {own : String} {S : kS} {G : kG} {nL : Nat} {l : Launch} {R : Room} {n1 n2 pc : Nat} {lv : List (Nat × Value)} {st : List Value} {Φ : Heap → Prop} (C : k_C X Ts cc own S G nL l R) {off : Int} {tgt : Nat} (hd : decode cc pc = .ok (.ifCond .ne off, 3)) (ht : (pc : Int) + off = (tgt : Int)) {x : Int32} (kt : ¬ x = 0 → q_W X n1 n2 tgt lv st Φ) (kf : x = 0 → q_W X n1 n2 (pc + 3) lv st Φ) : q_W X n1 n2 pc lv (.int x :: st) Φ := by
  obtain ⟨p, l, e, R, s, m, args, below, meth, cd, Q, S', G', A, nL'⟩ := X
  obtain ⟨rfl, rfl, rfl, rfl, rfl, hx, hb, hml, hown, hts, hT, hI, hA, hAf⟩ := C
  exact fun H locs ls hH hS hl => lv_if_ne hx hb hd ht (fun h => kt h H locs ls hH hS hl) (fun h => kf h H locs ls hH hS hl)
theorem q_icmp_eq {X : kX} {Ts : List Cond} {cc : ByteArray} {own : String} {S : kS} {G : kG} {nL : Nat} {l : Launch} {R : Room} {n1 n2 pc : Nat} {lv : List (Nat × Value)} {st : List Value} {Φ : Heap → Prop} (C : k_C X Ts cc own S G nL l R) {off : Int} {tgt : Nat} (hd : decode cc pc = .ok (.if_icmp .eq off, 3)) (ht : (pc : Int) + off = (tgt : Int)) {x y : Int32} (kt : x = y → q_W X n1 n2 tgt lv st Φ) (kf : ¬ x = y → q_W X n1 n2 (pc + 3) lv st Φ) : q_W X n1 n2 pc lv (.int y :: .int x :: st) Φ := by
  obtain ⟨p, l, e, R, s, m, args, below, meth, cd, Q, S', G', A, nL'⟩ := X
  obtain ⟨rfl, rfl, rfl, rfl, rfl, hx, hb, hml, hown, hts, hT, hI, hA, hAf⟩ := C
  exact fun H locs ls hH hS hl => lv_icmp_eq hx hb hd ht (fun h => kt h H locs ls hH hS hl) (fun h => kf h H locs ls hH hS hl)
theorem q_icmp_gt {X : kX} {Ts : List Cond} {cc : ByteArray} {own : String} {S : kS} {G : kG} {nL : Nat} {l : Launch} {R : Room} {n1 n2 pc : Nat} {lv : List (Nat × Value)} {st : List Value} {Φ : Heap → Prop} (C : k_C X Ts cc own S G nL l R) {off : Int} {tgt : Nat} (hd : decode cc pc = .ok (.if_icmp .gt off, 3)) (ht : (pc : Int) + off = (tgt : Int)) {x y : Int32} (kt : y < x → q_W X n1 n2 tgt lv st Φ) (kf : ¬ y < x → q_W X n1 n2 (pc + 3) lv st Φ) : q_W X n1 n2 pc lv (.int y :: .int x :: st) Φ := by
  obtain ⟨p, l, e, R, s, m, args, below, meth, cd, Q, S', G', A, nL'⟩ := X
  obtain ⟨rfl, rfl, rfl, rfl, rfl, hx, hb, hml, hown, hts, hT, hI, hA, hAf⟩ := C
  exact fun H locs ls hH hS hl => lv_icmp_gt hx hb hd ht (fun h => kt h H locs ls hH hS hl) (fun h => kf h H locs ls hH hS hl)
theorem q_goto {X : kX} {Ts : List Cond} {cc : ByteArray} {own : String} {S : kS} {G : kG} {nL : Nat} {l : Launch} {R : Room} {n1 n2 pc : Nat} {lv : List (Nat × Value)} {st : List Value} {Φ : Heap → Prop} (C : k_C X Ts cc own S G nL l R) {off : Int} {tgt : Nat} (hd : decode cc pc = .ok (.goto off, 3)) (ht : (pc : Int) + off = (tgt : Int)) (k : q_W X n1 n2 tgt lv st Φ) : q_W X n1 n2 pc lv st Φ := by
  obtain ⟨p, l, e, R, s, m, args, below, meth, cd, Q, S', G', A, nL'⟩ := X
  obtain ⟨rfl, rfl, rfl, rfl, rfl, hx, hb, hml, hown, hts, hT, hI, hA, hAf⟩ := C
  exact fun H locs ls hH hS hl => lv_goto hx hb hd ht (k H locs ls hH hS hl)
theorem q_tabIn {X : kX} {Ts : List Cond} {cc : ByteArray} {own : String} {S : kS} {G : kG} {nL : Nat} {l : Launch} {R : Room} {n1 n2 pc : Nat} {lv : List (Nat × Value)} {st : List Value} {Φ : Heap → Prop} (C : k_C X Ts cc own S G nL l R) {dflt lo hi : Int} {offs : Array Int} {len : Nat} {x : Int32} {off : Int} {tgt : Nat} (hd : decode cc pc = .ok (.tableswitch dflt lo hi offs, len)) (h1 : ¬ x.toInt < lo) (h2 : ¬ hi < x.toInt) (ho : offs[(x.toInt - lo).toNat]? = some off) (ht : (pc : Int) + off = (tgt : Int)) (k : q_W X n1 n2 tgt lv st Φ) : q_W X n1 n2 pc lv (.int x :: st) Φ := by
  obtain ⟨p, l, e, R, s, m, args, below, meth, cd, Q, S', G', A, nL'⟩ := X
  obtain ⟨rfl, rfl, rfl, rfl, rfl, hx, hb, hml, hown, hts, hT, hI, hA, hAf⟩ := C
  exact fun H locs ls hH hS hl => lv_tableIn hx hb hd h1 h2 ho ht (k H locs ls hH hS hl)
theorem q_tabOut {X : kX} {Ts : List Cond} {cc : ByteArray} {own : String} {S : kS} {G : kG} {nL : Nat} {l : Launch} {R : Room} {n1 n2 pc : Nat} {lv : List (Nat × Value)} {st : List Value} {Φ : Heap → Prop} (C : k_C X Ts cc own S G nL l R) {dflt lo hi : Int} {offs : Array Int} {len : Nat} {x : Int32} {tgt : Nat} (hd : decode cc pc = .ok (.tableswitch dflt lo hi offs, len)) (h : x.toInt < lo ∨ hi < x.toInt) (ht : (pc : Int) + dflt = (tgt : Int)) (k : q_W X n1 n2 tgt lv st Φ) : q_W X n1 n2 pc lv (.int x :: st) Φ := by
  obtain ⟨p, l, e, R, s, m, args, below, meth, cd, Q, S', G', A, nL'⟩ := X
  obtain ⟨rfl, rfl, rfl, rfl, rfl, hx, hb, hml, hown, hts, hT, hI, hA, hAf⟩ := C
  exact fun H locs ls hH hS hl => lv_tableOut hx hb hd h ht (k H locs ls hH hS hl)
theorem q_loc {X : kX} {n1 n2 pc : Nat} {lv : List (Nat × Value)} (lv' : List (Nat × Value)) {st : List Value} {Φ : Heap → Prop} (h : k_subl lv lv') (k : q_W X n1 n2 pc lv' st Φ) : q_W X n1 n2 pc lv st Φ := by
  obtain ⟨p, l, e, R, s, m, args, below, meth, cd, Q, S', G', A, nL'⟩ := X
  exact fun H locs ls hH hS hl => k H locs ls hH hS ⟨hl.1, hl.2.1, fun i v hv => hl.2.2 i v (h.of i v hv)⟩
theorem q_top {X : kX} {n1 n2 pc : Nat} {lv : List (Nat × Value)} {st : List Value} {Φ : Heap → Prop} {x y : Int32} (h : x = y) (k : q_W X n1 n2 pc lv (.int y :: st) Φ) : q_W X n1 n2 pc lv (.int x :: st) Φ := h ▸ k
theorem q_i2l {X : kX} {Ts : List Cond} {cc : ByteArray} {own : String} {S : kS} {G : kG} {nL : Nat} {l : Launch} {R : Room} {n1 n2 pc : Nat} {lv : List (Nat × Value)} {st : List Value} {Φ : Heap → Prop} (C : k_C X Ts cc own S G nL l R) (hd : decode cc pc = .ok (.i2l, 1)) {x : Int32} (k : q_W X n1 n2 (pc + 1) lv (.long x.toInt64 :: st) Φ) : q_W X n1 n2 pc lv (.int x :: st) Φ := by
  obtain ⟨p, l, e, R, s, m, args, below, meth, cd, Q, S', G', A, nL'⟩ := X
  obtain ⟨rfl, rfl, rfl, rfl, rfl, hx, hb, hml, hown, hts, hT, hI, hA, hAf⟩ := C
  exact fun H locs ls hH hS hl => lv_i2l hx hb hd rfl (k H locs ls hH hS hl)
theorem q_lcmp0 {X : kX} {Ts : List Cond} {cc : ByteArray} {own : String} {S : kS} {G : kG} {nL : Nat} {l : Launch} {R : Room} {n1 n2 pc : Nat} {lv : List (Nat × Value)} {st : List Value} {Φ : Heap → Prop} (C : k_C X Ts cc own S G nL l R) (hd : decode cc pc = .ok (.lcmp, 1)) {x : Int64} (k : q_W X n1 n2 (pc + 1) lv (.int 0 :: st) Φ) : q_W X n1 n2 pc lv (.long x :: .long x :: st) Φ := by
  obtain ⟨p, l, e, R, s, m, args, below, meth, cd, Q, S', G', A, nL'⟩ := X
  obtain ⟨rfl, rfl, rfl, rfl, rfl, hx, hb, hml, hown, hts, hT, hI, hA, hAf⟩ := C
  refine fun H locs ls hH hS hl => ?_
  intro T hT X
  obtain ⟨t, a, b⟩ := k H locs ls hH hS hl T hT X
  refine ⟨t, ?_, b⟩
  jvm_step X.here [X.here.top, hx, hb, hd]
  simpa using a
/-- the picture of class and out: out's one long is f 0 -/
def w_o (cL : ClassId) (o : Nat) (f : Nat → Int64) (H : Heap) : Prop := H[o]? = some (vp_cell cL (1, .inr (.inl f)))
def w_F (G : kG) (cL : ClassId) (o : Nat) (K : kM) (f : Nat → Int64) (H : Heap) : Prop := k_H gS G K H ∧ w_o cL o f H
def w_A (G : kG) (o sz : Nat) : Nat → Prop := fun q => k_A gS G sz q ∨ q = o
def w_th (G : kG) (cL : ClassId) (h0 : Nat) (U : State) : Prop := k_T gS G U ∧ k_Th h0 U ∧ va_K G.1 [] [(cL, .long)] U
/-- what never changes: the world's cells are apart, above h0, and out is none of them -/
def w_ok (G : kG) (o h0 : Nat) : Prop := k_I gS G ∧ k_Lo gS G h0 ∧ h0 ≤ o ∧ ∀ (f c : Nat) (k : kF) (i : Nat), gS.2.2[f]? = some (c, k) → i < c → G.2.2 f i ≠ o
def w_Pc (G : kG) (cL : ClassId) (o h0 : Nat) (args : List Value) (K : kM) (f : Nat → Int64) (sz : Nat) : Array Value → State → Prop := va_Pc args (fun U => U.heap.size = sz ∧ w_F G cL o K f U.heap ∧ w_th G cL h0 U)
def w_Qc (G : kG) (cL : ClassId) (o : Nat) (r : Int32) (K2 : kM) (f2 : Nat → Int64) (sz : Nat) : Array Value → State → Outcome → State → Prop := fun _ st oc t => oc = .returned (some (.int r)) ∧ w_F G cL o K2 f2 t.heap ∧ va_F (w_A G o sz) st t
abbrev w_hs : Type := List (Nat × Nat × Nat × Nat)
def w_Met (l : Launch) (y : MethodName) (cc : ByteArray) (nL : Nat) (hs : w_hs) (G : kG) (cL : ClassId) (o h0 : Nat) (args : List Value) (K : kM) (f : Nat → Int64) (r : Int32) (K2 : kM) (f2 : Nat → Int64) : Prop :=
  ∀ sz : Nat, Met l y (.codeWith y cc nL (some .int) hs :: kT) (n_rm 8 1 6) (w_Pc G cL o h0 args K f sz) (w_Qc G cL o r K2 f2 sz) 1 6 (w_A G o sz)
/-- what holds in a wrapper at work besides k_C -/
def w_C (X : kX) (G : kG) (cL : ClassId) (o h0 : Nat) (hs : w_hs) : Prop := match X with
  | (_, _, _, _, s, _, _, _, _, c, _, _, _, A, _) => w_th G cL h0 s ∧ A = w_A G o s.heap.size ∧ c.exceptionTable.toList.map (fun h => (h.startPc, h.endPc, h.handlerPc, h.catchType)) = hs
def w_E (X : kX) (G : kG) (cL : ClassId) (o : Nat) (r : Int32) (K2 : kM) (f2 : Nat → Int64) : Prop := match X with
  | (_, _, _, _, s, _, args, below, meth, _, Q, _, _, A, _) => Q = MQ below (w_Qc G cL o r K2 f2 s.heap.size) args s 1 6 A ∧ meth.sig.returnType = some .int ∧ meth.locks = false
theorem w_intro {l : Launch} {y : MethodName} {cc : ByteArray} {nL : Nat} {hs : w_hs} {G : kG} {cL : ClassId} {o h0 : Nat} {args : List Value} {K K2 : kM} {f f2 : Nat → Int64} {r : Int32}
    (hy : plainFor y = true) (hc : (lv_args 0 args).all (fun q => q.2.category == 1) = true) (hn : (lg_sl args).length ≤ nL)
    (body : ∀ X : kX, k_C X kT cc y.cls eS G nL l (n_rm 8 1 6) → w_C X G cL o h0 hs → w_E X G cL o r K2 f2 → q_W X 0 0 0 (lv_args 0 args) [] (w_F G cL o K f)) : w_Met l y cc nL hs G cL o h0 args K f r K2 f2 := by
  intro sz
  refine MetFree.of_bodySF (code := cc) (maxLocals := nL) (ret := some .int) hy ?_ ?_
  · intro a s m h hn
    obtain ⟨m', meth, c, h0, h1, h2, h3, h4, -, h5, h6, -⟩ := Cond.codeWith_spec (atoms_spec (ws := .codeWith y cc nL (some .int) hs :: kT) h _ List.mem_cons_self)
    cases hn.symm.trans h0
    exact ⟨meth, c, h1, h2, h3, h4, h5, h6⟩
  · intro p e s m args' below meth c s₁ B hml hv _
    have hts := atoms_spec (ws := .codeWith y cc nL (some .int) hs :: kT) B.pre
    obtain ⟨m', meth', c', g0, g1, g2, -, -, g7, -, -, -⟩ := Cond.codeWith_spec (hts _ List.mem_cons_self)
    cases B.named.symm.trans g0
    cases B.method.symm.trans g1
    have hcc : c' = c := by
      have z := B.here.code
      rw [State.code?_eq] at z
      have z2 : s₁.vm.method? m = some meth := by rw [B.state]; exact B.method
      rw [z2] at z
      exact Option.some.inj (g2.symm.trans z)
    subst hcc
    obtain ⟨rfl, hsz, hF, hth⟩ := hv
    have hown : s.vm.findClass y.cls = some m.cls := findClass_of_methodNamed B.named
    subst hsz
    have hl := lv_entry args (n := nL) hn
    have hh0 : s₁.heap = s.heap := by rw [B.state]; rfl
    have key := body (p, l, e, n_rm 8 1 6, s, m, args.toArray, below, meth, c', MQ below (w_Qc G cL o r K2 f2 s.heap.size) args.toArray s 1 6 (w_A G o s.heap.size), eS, G, w_A G o s.heap.size, nL)
      ⟨rfl, rfl, rfl, rfl, rfl, B.exec, B.bytes, hml, hown, fun w hw => hts w (List.mem_cons_of_mem _ hw), ⟨fun c q h => by simp [eS] at h, fun k q h => by simp [k_ty, eS] at h⟩, fun f c k i f' c' k' i' h => by simp [eS] at h, fun q h => Or.inl (Or.inr h), fun f c k i h => by simp [eS] at h⟩
      ⟨hth, rfl, g7⟩ ⟨rfl, B.returns, B.notSynchronized⟩ s.heap [] _ hF va_S.rf (k_has.of hl (fun q hq => by simpa using List.all_eq_true.mp hc q hq))
    rw [← lg_entry_eq] at key
    obtain ⟨t, a1, o, b1, b2, b3, b4⟩ := key s₁ hh0 (Stand.of_body B)
    exact ⟨t, o, a1, b1, b2, b3, b4⟩
theorem w_ireturn {X : kX} {cc : ByteArray} {own : String} {G : kG} {nL : Nat} {l : Launch} {R : Room} {pc : Nat} {lv : List (Nat × Value)} {cL : ClassId} {o h0 : Nat} {hs : w_hs} {r : Int32} {K2 : kM} {f2 : Nat → Int64} (C : k_C X kT cc own eS G nL l R) (Wc : w_C X G cL o h0 hs) (E : w_E X G cL o r K2 f2) (hd : decode cc pc = .ok (.ireturn, 1)) : q_W X 1 6 pc lv [.int r] (w_F G cL o K2 f2) := by
  obtain ⟨p, l, e, R, s, m, args, below, meth, cd, Q, S', G', A, nL'⟩ := X
  obtain ⟨rfl, rfl, rfl, rfl, rfl, hx, hb, hml, hown, hts, hT, hI, hA, hAf⟩ := C
  obtain ⟨-, rfl, -⟩ := Wc
  obtain ⟨rfl, hr, hlk⟩ := E
  exact fun H locs ls hH hS hl => W.iret hx hb hr (fun t ht hW => ⟨rfl, by rw [ht]; exact hH, va_S.F hS ht⟩) hS.2.2 hd hlk
theorem w_last {X : kX} {cc : ByteArray} {own : String} {G : kG} {nL : Nat} {l : Launch} {R : Room} {n1 n2 pc : Nat} {lv : List (Nat × Value)} {st : List Value} {cL : ClassId} {o h0 : Nat} {hs : w_hs} {K : kM} {f : Nat → Int64} {x : Int64} (C : k_C X kT cc own eS G nL l R) (Wc : w_C X G cL o h0 hs) (ok : w_ok G o h0) (hd : decode cc pc = .ok (.lastore, 1))
    (k : q_W X n1 n2 (pc + 1) lv st (w_F G cL o K (vp_updL f 0 x))) : q_W X n1 n2 pc lv (.long x :: .int 0 :: .ref o :: st) (w_F G cL o K f) := by
  obtain ⟨p, l, e, R, s, m, args, below, meth, cd, Q, S', G', A, nL'⟩ := X
  obtain ⟨rfl, rfl, rfl, rfl, rfl, hx, hb, hml, hown, hts, hT, hI, hA, hAf⟩ := C
  obtain ⟨⟨-, -, hKl⟩, rfl, -⟩ := Wc
  refine fun H locs ls hH hS hl => ?_
  obtain ⟨hk, ho⟩ := hH
  refine W.last (g := F0 m pc ls (.long x :: .int 0 :: .ref o :: st)) hx hb ho ((hKl.2 0 _ rfl).1 1 (fun j => .long (f j))) (fun q => by cases q) (by show ¬ ((0 : Int32) < 0 ∨ (arrV _ _ _).slots.size ≤ _); rw [arrV_size]; exact (by decide : ¬ ((0 : Int32) < 0 ∨ 1 ≤ (0 : Int32).toNatClampNeg))) rfl rfl hd fun H1 e z oq => ?_
  refine k H1 _ ls ⟨hk.kept (fun f c kd i hf hi => oq _ (ok.2.2.2 f c kd i hf hi)), ?_⟩ (hS.put z oq (Or.inr rfl)) hl
  show H1[o]? = some (vp_cell _ _)
  rw [e]
  rw [vp_cell_l, vp_cell_l, arrV_store]
  congr 2
  funext q
  by_cases hq : q = (0 : Int32).toNatClampNeg
  · subst hq
    simp [updV, vp_updL]
  · have h3 : q ≠ 0 := hq
    simp [updV, vp_updL, h3]
theorem w_PcT {X : kX} {cc : ByteArray} {own : String} {G : kG} {nL : Nat} {l : Launch} {R : Room} {cL : ClassId} {o h0 : Nat} {hs : w_hs} {K : kM} {f : Nat → Int64} (C : k_C X kT cc own eS G nL l R) (Wc : w_C X G cL o h0 hs) (ok : w_ok G o h0) (As : List Value) : match X with
    | (_, _, _, _, s, _, _, _, _, _, _, _, _, A, _) => ∀ (H : Heap) (locs : List Loc), w_F G cL o K f H → va_S A s.heap H locs → ∀ U : State, U.heap = H → s.WarmedH U.vm → k_PcT gS G h0 As K H.size As.toArray U := by
  obtain ⟨p, l, e, R, s, m, args, below, meth, cd, Q, S', G', A, nL'⟩ := X
  obtain ⟨rfl, rfl, rfl, rfl, rfl, hx, hb, hml, hown, hts, hT, hI, hA, hAf⟩ := C
  obtain ⟨⟨hKg, hTh, hKl⟩, rfl, -⟩ := Wc
  intro H locs hF hS U hU hW
  refine ⟨rfl, ⟨by rw [hU], by rw [hU]; exact hF.1, va_K.moved hW.alike hKg, ok.1⟩, hTh.moved hW (by rw [hU]; exact Nat.le_trans hTh.1 hS.1) (fun a ha => ?_), ok.2.1⟩
  rw [hU]
  refine hS.2.1 a (Nat.lt_of_lt_of_le ha hTh.1) (fun z => ?_)
  have h1 := hTh.1
  have h2 := ok.2.2.1
  rcases z with (⟨f, c, k, i, h1, h2, h3⟩ | z) | z
  · have := ok.2.1 f c k i h1 h2
    omega
  · omega
  · omega
/-- a call of a method of the class that answers -/
theorem w_callV {X : kX} {cc : ByteArray} {own : String} {G : kG} {nL : Nat} {l : Launch} {R : Room} {n1 n2 pc : Nat} {lv : List (Nat × Value)} {st : List Value} {cL : ClassId} {o h0 : Nat} {hs : w_hs} {K : kM} {f : Nat → Int64} (C : k_C X kT cc own eS G nL l R) (Wc : w_C X G cL o h0 hs) (ok : w_ok G o h0) {idx n nLy : Nat} {y : MethodName} {cy : ByteArray} {ry : Option FieldType} {rm : Room} {As rest : List Value} {r : Option Value} {K2 : kM} {f0 i c : Nat}
    (hM : k_Met l gS kT y cy nLy ry rm G (.ref (G.2.2 f0 i) :: As) K r K2) (hs1 : k_site kT own idx y cy nLy ry n) (hv : Cond.instanceMethod y ∈ kT ∧ Cond.selects y.cls y y ∈ kT) (hb0 : k_obj gS f0 c y.cls) (hi : i < c)
    (hn : As.length = n) (hst : st = As.reverse ++ .ref (G.2.2 f0 i) :: rest) (hrest : (rest.map fun v => v.category).sum ≤ 8) (hrc : rm.cells = 0 ∧ rm.slots = 0) (hR : rm.frames + 1 ≤ R.frames ∧ 8 + (nLy + 11) + rm.locals ≤ R.locals) (hcs : n1 ≤ R.cells ∧ n2 ≤ R.slots) (hd : decode cc pc = .ok (.invokevirtual idx, 3))
    (k : q_W X n1 n2 (pc + 3) lv (r.toList ++ rest) (w_F G cL o K2 f)) : q_W X n1 n2 pc lv st (w_F G cL o K f) := by
  obtain ⟨p, l, e, R, s, m, args, below, meth, cd, Q, S', G', A, nL'⟩ := X
  obtain ⟨rfl, rfl, rfl, rfl, rfl, hx, hb, hml, hown, hts, hT, hI, hA, hAf⟩ := C
  obtain ⟨⟨hKg, hTh, hKl⟩, rfl, -⟩ := Wc
  obtain ⟨s1, s2, s3, s4, s5, s6⟩ := hs1
  obtain ⟨ci, nf, rf, T, hf, hc⟩ := hb0
  refine fun H locs ls hH hS hl => ?_
  have hr := va_runV (locs := locs) (e := e) (below := below) (meth := meth) (cells := n1) (slots := n2) (g := F0 m pc ls st) (As := As) (rest := rest) ⟨hx, hb, hml, hown, hts⟩ (hM H.size) ⟨callB_of n hts (k_good kg_all s1) rfl hrc.1 hrc.2 (hts _ s3) (hts _ s2) ⟨s4, s5, s6⟩ hR, hts _ hv.1, hts _ hv.2⟩ ⟨k_blind, va_recv hKg (k_one hH.1 hf hi) (ci := ci) (q0 := 0) hc rfl, fun U hU hW => ⟨rfl, by rw [hU], by rw [hU]; exact hH.1, va_K.moved hW.alike hKg, ok.1⟩⟩ rfl hn hl.1 hst (lv_room hrest) hd hcs
  intro T0 hT0 X
  obtain ⟨v, st₀, t, T', L, h0', X', hL, e1, e2, ⟨hv', hH', hz, hk⟩, stp⟩ := hr T0 hT0 X
  cases hv'
  rw [h0'] at hz hk
  have hoH : o < H.size := (Array.getElem?_eq_some_iff.mp hH.2).1
  have ho : ¬ k_A gS G' H.size o := fun z => by
    rcases z with ⟨f, c, k, i, h1, h2, h3⟩ | z
    · exact ok.2.2.2 f c k i h1 h2 h3.symm
    · omega
  have hin : ∀ q, k_A gS G' H.size q → w_A G' o s.heap.size q := fun q hq => by
    rcases hq with h | h
    · exact Or.inl (Or.inl h)
    · exact Or.inl (Or.inr (Nat.le_trans hS.1 h))
  obtain ⟨t2, a1, b1⟩ := k T'.heap (locs ++ L) ls ⟨by rw [e1]; exact hH', by show T'.heap[o]? = _; rw [e1, hk o hoH ho]; exact hH.2⟩
    ⟨Nat.le_trans hS.1 (by rw [e1]; exact hz), fun q h1 h2 => by rw [e1, hk q (Nat.lt_of_lt_of_le h1 hS.1) (fun z => h2 (hin q z))]; exact hS.2.1 q h1 h2, fun q hq => by
      rcases List.mem_append.mp hq with h | h
      · exact hS.2.2 q h
      · exact hin _ (hL q h)⟩ hl T' rfl X'
  exact ⟨t2, stp t2 a1, b1⟩
/-- a call of a method of the class that throws, taken by the handler at the entry x0, behind entries that don't take it -/
theorem w_callT {X : kX} {cc : ByteArray} {own : String} {G : kG} {nL : Nat} {l : Launch} {R : Room} {pc : Nat} {lv : List (Nat × Value)} {st : List Value} {cL : ClassId} {o h0 : Nat} {hs : w_hs} {K : kM} {f : Nat → Int64} (C : k_C X kT cc own eS G nL l R) (Wc : w_C X G cL o h0 hs) (ok : w_ok G o h0) {idx n nLy : Nat} {y : MethodName} {cy : ByteArray} {ry : Option FieldType} {rm : Room} {As rest : List Value} {Xn : String} {K2 : kM} {f0 i c : Nat}
    (hM : k_MetT l gS kT y cy nLy ry rm G h0 (.ref (G.2.2 f0 i) :: As) K Xn K2) (hs1 : k_site kT own idx y cy nLy ry n) (hv : Cond.instanceMethod y ∈ kT ∧ Cond.selects y.cls y y ∈ kT) (hb0 : k_obj gS f0 c y.cls) (hi : i < c)
    (hn : As.length = n) (hst : st = As.reverse ++ .ref (G.2.2 f0 i) :: rest) (hrest : (rest.map fun v => v.category).sum ≤ 8) (hrc : rm.cells = 1 ∧ rm.slots = 6) (hR : rm.frames + 1 ≤ R.frames ∧ 8 + (nLy + 11) + rm.locals ≤ R.locals) (hcs : 0 + 1 ≤ R.cells ∧ 0 + 6 ≤ R.slots) (hd : decode cc pc = .ok (.invokevirtual idx, 3))
    {hpre hpost : w_hs} {from0 to0 tgt ct : Nat} (hhs : hs = hpre ++ (from0, to0, tgt, ct) :: hpost) (hcov : from0 ≤ pc ∧ pc < to0) (hct : ct ≠ 0) (hcl : Cond.classLink own ct Xn ∈ kT) (hself : Cond.castable Xn Xn ∈ kFw) (hpass : ∀ q ∈ hpre, q.2.2.2 ≠ 0 ∧ ∃ nm, Cond.classLink own q.2.2.2 nm ∈ kT ∧ ∀ U, k_Th h0 U → va_Nc Xn nm U)
    (k : ∀ x : Nat, q_W X 1 6 tgt lv [.ref x] (w_F G cL o K2 f)) : q_W X 0 0 pc lv st (w_F G cL o K f) := by
  have hPc := w_PcT (K := K) (f := f) C Wc ok (.ref (G.2.2 f0 i) :: As)
  obtain ⟨p, l, e, R, s, m, args, below, meth, cd, Q, S', G', A, nL'⟩ := X
  obtain ⟨rfl, rfl, rfl, rfl, rfl, hx, hb, hml, hown, hts, hT, hI, hA, hAf⟩ := C
  obtain ⟨⟨hKg, hTh, hKl⟩, rfl, hex⟩ := Wc
  obtain ⟨ci, nf, rf, Tt, hf, hc⟩ := hb0
  refine fun H locs ls hH hS hl => ?_
  have hr := k_runTV (locs := locs) (e := e) (below := below) (meth := meth) (n1 := 0) (n2 := 0) hx hb hml hown hts kg_all hM hs1 hv (va_recv hKg (k_one hH.1 hf hi) (ci := ci) (q0 := 0) hc rfl) hn hst hrest hrc hR hcs hl.1 hd (hPc H locs hH hS)
  intro T0 hT0 X
  obtain ⟨x, ce, T', L, X', hL, h1, h2, h3, h4, h5, h6, stp⟩ := hr T0 hT0 X
  have hpl : e.platform.magicAccessors = ({} : Platform).magicAccessors := by rw [X'.admits.platform]
  subst hhs
  obtain ⟨pre, rst, hsp, hp1, hp2⟩ := List.map_eq_append_iff.mp hex
  obtain ⟨x0, post, hsp2, hx0, hp3⟩ := List.map_eq_cons_iff.mp hp2
  have hx1 : x0.startPc = from0 ∧ x0.endPc = to0 ∧ x0.handlerPc = tgt ∧ x0.catchType = ct := by
    simp only [Prod.mk.injEq] at hx0
    exact hx0
  obtain ⟨c3, c4, hc3, hc4, hasg⟩ := Cond.castable_spec (hTh.2.1 _ hself)
  cases Option.some.inj (hc3.symm.trans h3)
  cases Option.some.inj (hc4.symm.trans h3)
  obtain ⟨hend, hk0⟩ := X'.catches_of_link hown (x := x0) (by rw [hx1.2.2.2]; exact hct) (by rw [hx1.2.2.2]; exact hts _ hcl) h3 hasg
  obtain ⟨vm', XV, stq⟩ := X'.caughtThrough x (g := { F0 m pc ls st with stack := rest }) rfl h1 (by rw [h2]; rfl) hk0 pre x0 post (by rw [hsp, hsp2]) (fun yy hyy => by
      have hm : (yy.startPc, yy.endPc, yy.handlerPc, yy.catchType) ∈ hpre := by rw [← hp1]; exact List.mem_map_of_mem hyy
      obtain ⟨g0, nm, g1, g2⟩ := hpass _ hm
      obtain ⟨cc1, cc2, n1, n2, n3⟩ := g2 s hTh
      have g1' : (Cond.classLink own yy.catchType nm).before args s = true := hts _ g1
      obtain ⟨c', hc', hcl'⟩ := Cond.classLink_spec hown g1' e.platform hpl
      refine Or.inr ⟨g0, c', hcl', ?_⟩
      cases Option.some.inj (n1.symm.trans h3)
      cases Option.some.inj (n2.symm.trans hc')
      exact n3) (by show covers x0 pc = true; simp [covers, hx1.1, hx1.2.1, hcov.1, hcov.2]) hend
  rw [hx1.2.2.1] at stq
  have hoH : o < H.size := (Array.getElem?_eq_some_iff.mp hH.2).1
  have ho : ¬ k_A gS G' H.size o := fun z => by
    rcases z with ⟨f, c, k, i, h1, h2, h3⟩ | z
    · exact ok.2.2.2 f c k i h1 h2 h3.symm
    · omega
  have hin : ∀ q, k_A gS G' H.size q → w_A G' o s.heap.size q := fun q hq => by
    rcases hq with h | h
    · exact Or.inl (Or.inl h)
    · exact Or.inl (Or.inr (Nat.le_trans hS.1 h))
  obtain ⟨t2, a1, b1⟩ := k x T'.heap (locs ++ L) ls ⟨h4, by show T'.heap[o]? = _; rw [h6 o hoH ho]; exact hH.2⟩
    ⟨Nat.le_trans hS.1 h5, fun q g1 g2 => by rw [h6 q (Nat.lt_of_lt_of_le g1 hS.1) (fun z => g2 (hin q z))]; exact hS.2.1 q g1 g2, fun q hq => by
      rcases List.mem_append.mp hq with h | h
      · exact hS.2.2 q h
      · exact hin _ (hL q h)⟩ hl (T'.setVm vm') rfl XV
  refine ⟨t2, stp t2 ?_, b1⟩
  rw [X'.pushThrowing_eq]
  exact stq t2 a1
