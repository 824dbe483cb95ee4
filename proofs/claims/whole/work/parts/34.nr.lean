/-! ===== MAKING (2): new objects and arrays, calls of constructors, and from the list to the world ===== -/
theorem n_get {X : kX} {Ts : List Cond} {cc : ByteArray} {own : String} {S : kS} {G : kG} {nL : Nat} {l : Launch} {R : Room} {n1 n2 pc : Nat} {lv : List (Nat × Value)} {st : List Value} {a z : Nat} {L : List va_E} (C : k_C X Ts cc own S G nL l R) {idx ci j : Nat} {ty : FieldType} {fin : Bool} {fs : List Value} {v : Value} (hd : decode cc pc = .ok (.getfield idx, 3)) (hq : n_fld S Ts own idx ci j ty fin) (hv : fs[j]? = some v)
    (k : n_W X n1 n2 (pc + 3) lv (v :: st) a z (.inr (ci, fs)) L) : n_W X n1 n2 pc lv (.ref a :: st) a z (.inr (ci, fs)) L := by
  obtain ⟨p, l, e, R, s, m, args, below, meth, cd, Q, S', G', A, nL'⟩ := X
  obtain ⟨rfl, rfl, rfl, rfl, rfl, hx, hb, hml, hown, hts, hT, hI, hA, hAf⟩ := C
  obtain ⟨n, Cn, ref, nm, ds, T, ty0, hc, hin, hty, hnm, hTj, hj, rfl, hds, hlink⟩ := hq
  refine fun H locs ls hH hS hl => ?_
  have e1 : (T j).1 = ref := by rw [hTj]
  have e2 : (T j).2.1 = nm := by rw [hTj]
  have e3 : (T j).2.2.1 = ds := by rw [hTj]
  exact va_get hx hb hts hin hown hT (va_atE hH.1) 0 rfl hc j hj (by rw [e2, e3]; exact hts _ hlink) (fun x h9 => by rw [e1] at h9; exact h9) hv hd (k H locs ls hH hS hl)
theorem n_new {X : kX} {Ts : List Cond} {cc : ByteArray} {own : String} {S : kS} {G : kG} {nL : Nat} {l : Launch} {R : Room} {n1 n2 pc : Nat} {lv : List (Nat × Value)} {st : List Value} {a z : Nat} {t : va_E} {L : List va_E} (C : k_C X Ts cc own S G nL l R) (N : n_C X a z) {idx ci n j : Nat} {Cn : String} {T : u_T} {ty0 : Nat → FieldType} (hd : decode cc pc = .ok (.new idx, 3)) (hc : S.1[ci]? = some (Cn, T, n)) (hin : ∀ w ∈ u_ws Cn T n, w ∈ Ts) (hty : ∀ k, k < n → parseFieldDescriptor (T k).2.2.1 = some (ty0 k))
    (hw : Cond.classLink own idx Cn ∈ Ts ∧ Cond.instantiable Cn n ∈ Ts ∧ Cond.initialized Cn ∈ Ts) {fs : List Value} (hfs : ∀ j, j < n → defaultValue (ty0 j) = vp_V fs j) (hR : n1 + 1 ≤ R.cells ∧ n2 + n ≤ R.slots) (hj : L.length = j)
    (k : n_W X (n1 + 1) (n2 + n) (pc + 3) lv (.ref (z + j) :: st) a z t (L ++ [.inr (ci, fs)])) : n_W X n1 n2 pc lv st a z t L := by
  subst hj
  obtain ⟨p, l, e, R, s, m, args, below, meth, cd, Q, S', G', A, nL'⟩ := X
  obtain ⟨rfl, rfl, rfl, rfl, rfl, hx, hb, hml, hown, hts, hT, hI, hA, hAf⟩ := C
  obtain ⟨rfl, rfl, -, -⟩ := N
  refine fun H locs ls hH hS hl => ?_
  obtain ⟨hat, hL, hsz, hlt⟩ := hH
  have hKn := hT.1 ci _ hc
  refine W.newcK hx hb hown (hts _ hw.1) (hts _ hw.2.1) (hts _ hw.2.2) (g := F0 m pc ls st) rfl hd hR.1 hR.2 hKn.2.1 hsz fun H1 kC hkC e1 z1 o1 => ?_
  refine k H1 locs ls ⟨hat.kept (o1 _ (by omega)), fun i x hx' => ?_, by rw [z1, List.length_append]; rfl, hlt⟩ ⟨by rw [z1]; have := hS.1; omega, fun q h1 h2 => (o1 q (by have := hS.1; omega)).trans (hS.2.1 q h1 h2), hS.2.2⟩ hl
  by_cases hi : i < L.length
  · rw [List.getElem?_append_left hi] at hx'
    exact (hL i x hx').kept (o1 _ (by omega))
  · rw [List.getElem?_append_right (by omega)] at hx'
    have hz : i - L.length < 1 := (List.getElem?_eq_some_iff.mp hx').1
    have hz2 : i = L.length := by omega
    subst hz2
    rw [Nat.sub_self] at hx'
    cases hx'
    exact ⟨_, hc, (u_born ty0 hts hin hKn hkC e1 hty).to hfs⟩
theorem n_newa {X : kX} {Ts : List Cond} {cc : ByteArray} {own : String} {S : kS} {G : kG} {nL : Nat} {l : Launch} {R : Room} {n1 n2 pc : Nat} {lv : List (Nat × Value)} {st : List Value} {a z : Nat} {t : va_E} {L : List va_E} (C : k_C X Ts cc own S G nL l R) (N : n_C X a z) {ty : FieldType} {atype : ArrayType} {t0 n j : Nat} {x : Int32} (hd : decode cc pc = .ok (.newarray atype, 2)) (hat : newarray.typeOf atype = ty) (ht : S.2.1[t0]? = some ty) (hw : Cond.arrayClass ty ∈ Ts)
    (hdv : defaultValue ty = .int 0) (hra : ∀ (U : State) (cA cB : ClassId), va_RA U cB ty → U.vm.findClass ("[" ++ ty.toString) = some cA → cA = cB) (hx0 : ¬ x < 0) (hxn : x.toNatClampNeg = n) (hby : n * componentBytes ty ≤ 536870912) (hR : n1 + 1 ≤ R.cells ∧ n2 + n ≤ R.slots) (hj : L.length = j)
    (k : n_W X (n1 + 1) (n2 + n) (pc + 2) lv (.ref (z + j) :: st) a z t (L ++ [.inl (G.2.1 t0, n, .inl (fun _ => 0))])) : n_W X n1 n2 pc lv (.int x :: st) a z t L := by
  subst hj
  subst hat
  obtain ⟨p, l, e, R, s, m, args, below, meth, cd, Q, S', G', A, nL'⟩ := X
  obtain ⟨rfl, rfl, rfl, rfl, rfl, hx, hb, hml, hown, hts, hT, hI, hA, hAf⟩ := C
  obtain ⟨rfl, rfl, -, -⟩ := N
  refine fun H locs ls hH hS hl => ?_
  obtain ⟨hth, hL, hsz, hlt⟩ := hH
  refine va_newaK hx hb (hts _ hw) (g := F0 m pc ls (.int x :: st)) rfl hd rfl hx0 hxn hby hR.1 hR.2 hsz fun H1 cA e1 z1 o1 hAr hNm => ?_
  have hcA : cA = G'.2.1 t0 := hra s cA _ (hT.2 t0 _ (k_tyat ht)).2 hNm
  subst hcA
  refine k H1 locs ls ⟨hth.kept (o1 _ (by omega)), fun i y hy => ?_, by rw [z1, List.length_append]; rfl, hlt⟩ ⟨by rw [z1]; have := hS.1; omega, fun q h1 h2 => (o1 q (by have := hS.1; omega)).trans (hS.2.1 q h1 h2), hS.2.2⟩ hl
  by_cases hi : i < L.length
  · rw [List.getElem?_append_left hi] at hy
    exact (hL i y hy).kept (o1 _ (by omega))
  · rw [List.getElem?_append_right (by omega)] at hy
    have hz : i - L.length < 1 := (List.getElem?_eq_some_iff.mp hy).1
    have hz2 : i = L.length := by omega
    subst hz2
    rw [Nat.sub_self] at hy
    cases hy
    show H1[s.heap.size + L.length]? = some (vp_cell _ _)
    rw [e1, hdv]
    rfl
theorem n_newq {X : kX} {Ts : List Cond} {cc : ByteArray} {own : String} {S : kS} {G : kG} {nL : Nat} {l : Launch} {R : Room} {n1 n2 pc : Nat} {lv : List (Nat × Value)} {st : List Value} {a z : Nat} {t : va_E} {L : List va_E} (C : k_C X Ts cc own S G nL l R) (N : n_C X a z) {Cn : String} {idx t0 n j : Nat} {x : Int32} (hd : decode cc pc = .ok (.anewarray idx, 3)) (ht : S.2.1[t0]? = some (.object Cn)) (hw : Cond.classLink own idx Cn ∈ Ts) (hover : ∀ U, n_Nt U → va_AO Cn U)
    (hx0 : ¬ x < 0) (hxn : x.toNatClampNeg = n) (hby : n * 4 ≤ 536870912) (hR : n1 + 1 ≤ R.cells ∧ n2 + n ≤ R.slots) (hj : L.length = j)
    (k : n_W X (n1 + 1) (n2 + n) (pc + 3) lv (.ref (z + j) :: st) a z t (L ++ [.inl (G.2.1 t0, n, .inr (.inr (.inr (.inr (fun _ => none)))))])) : n_W X n1 n2 pc lv (.int x :: st) a z t L := by
  subst hj
  subst hxn
  obtain ⟨p, l, e, R, s, m, args, below, meth, cd, Q, S', G', A, nL'⟩ := X
  obtain ⟨rfl, rfl, rfl, rfl, rfl, hx, hb, hml, hown, hts, hT, hI, hA, hAf⟩ := C
  obtain ⟨rfl, rfl, hnt, -⟩ := N
  refine fun H locs ls hH hS hl => ?_
  obtain ⟨hth, hL, hsz, hlt⟩ := hH
  refine W.anew hx hb hown (hts _ hw) (va_AO.use (hover s hnt)) (g := F0 m pc ls (.int x :: st)) rfl hd rfl hx0 hby hR.1 hR.2 fun cA kA comp f1 f2 f3 f4 => ?_
  obtain ⟨kA', comp', k1, k2, k3, k4⟩ := (hT.2 t0 _ (k_tyat ht)).2
  have hcA : cA = G'.2.1 t0 := by
    first
      | exact Option.some.inj (f1.symm.trans k4)
      | exact Option.some.inj (f4.symm.trans k4)
      | exact Option.some.inj (f1.symm.trans k4.1)
      | exact Option.some.inj (f4.symm.trans k4.1)
  subst hcA
  generalize hH1 : H.push ({ cls := G'.2.1 t0, slots := Array.replicate x.toNatClampNeg .null, vm := .none } : Cell) = H1
  have z1 : H1.size = H.size + 1 := by rw [← hH1, Array.size_push]
  have e1 : H1[H.size]? = some (arrV (G'.2.1 t0) x.toNatClampNeg (fun _ => .null)) := by rw [← hH1, Array.getElem?_push_size, ← arrV_new]
  have o1 : ∀ q : Nat, q < H.size → H1[q]? = H[q]? := fun q hq => by rw [← hH1, Array.getElem?_push, if_neg (Nat.ne_of_lt hq)]
  rw [hsz] at e1 z1
  show W p l e R s m args below meth cd H1 locs (n1 + 1) (n2 + x.toNatClampNeg) Q (F0 m (pc + 3) ls (.ref H.size :: st))
  rw [hsz]
  refine k H1 locs ls ⟨hth.kept (o1 _ (by omega)), fun i y hy => ?_, by rw [z1, List.length_append]; rfl, hlt⟩ ⟨by rw [z1]; have := hS.1; omega, fun q h1 h2 => (o1 q (by have := hS.1; omega)).trans (hS.2.1 q h1 h2), hS.2.2⟩ hl
  by_cases hi : i < L.length
  · rw [List.getElem?_append_left hi] at hy
    exact (hL i y hy).kept (o1 _ (by omega))
  · rw [List.getElem?_append_right (by omega)] at hy
    have hz : i - L.length < 1 := (List.getElem?_eq_some_iff.mp hy).1
    have hz2 : i = L.length := by omega
    subst hz2
    rw [Nat.sub_self] at hy
    cases hy
    show H1[s.heap.size + L.length]? = some (vp_cell _ _)
    rw [e1, vp_cell_q]
    rfl
theorem n_aast {X : kX} {Ts : List Cond} {cc : ByteArray} {own : String} {S : kS} {G : kG} {nL : Nat} {l : Launch} {R : Room} {n1 n2 pc : Nat} {lv : List (Nat × Value)} {st : List Value} {a z : Nat} {t : va_E} {L : List va_E} (C : k_C X Ts cc own S G nL l R) (N : n_C X a z) {t0 n ia iv ci : Nat} {r : vw_C} {f : Nat → Option Nat} {vs : List Value} {x : Int32} (hd : decode cc pc = .ok (.aastore, 1)) (ha : L[ia]? = some (.inl (G.2.1 t0, n, .inr (.inr (.inr (.inr f)))))) (ht : S.2.1[t0]? = some (.object r.1)) (hv : L[iv]? = some (.inr (ci, vs))) (hc : S.1[ci]? = some r) (hin : vp_in x n)
    (k : n_W X n1 n2 (pc + 1) lv st a z t (L.set ia (.inl (G.2.1 t0, n, .inr (.inr (.inr (.inr (va_up f x.toNatClampNeg (some (z + iv)))))))))) : n_W X n1 n2 pc lv (.ref (z + iv) :: .int x :: .ref (z + ia) :: st) a z t L := by
  obtain ⟨p, l, e, R, s, m, args, below, meth, cd, Q, S', G', A, nL'⟩ := X
  obtain ⟨rfl, rfl, rfl, rfl, rfl, hx, hb, hml, hown, hts, hT, hI, hA, hAf⟩ := C
  obtain ⟨rfl, rfl, -, -⟩ := N
  refine fun H locs ls hH hS hl => ?_
  obtain ⟨hth, hL, hsz, hlt⟩ := hH
  have hlt2 : x.toNatClampNeg < n := Nat.not_le.mp fun q => hin (Or.inr q)
  have h0 : ¬ x < 0 := fun q => hin (Or.inl q)
  obtain ⟨r', hr', cellV, g1, g2, g3, -⟩ := hL iv _ hv
  have hcls := (hT.1 ci r hc).2
  obtain ⟨kA, comp, k1, k2, k3, -⟩ := (hT.2 t0 _ (k_tyat ht)).2
  have hcomp : comp = G'.1.1 ci := Option.some.inj (k3.symm.trans hcls.1)
  subst hcomp
  obtain ⟨kC, hkC, -⟩ := hcls.2
  refine W.aast hx hb (hL ia _ ha) (fun q h => by cases h) (fun h => by cases h) k1 k2 rfl hkC ⟨h0, by show _ < (arrV _ _ _).slots.size; rw [arrV_size]; exact hlt2⟩ g1 (fun q h => by rw [g3] at h; cases h) (by rw [g2]; exact hkC) (by rw [g2]; exact va_assign hcls) rfl rfl hd fun H1 e z oq' => ?_
  have oq : ∀ q : Nat, q ≠ s.heap.size + ia → H1[q]? = H[q]? := oq'
  have hial : ia < L.length := (List.getElem?_eq_some_iff.mp ha).1
  refine k H1 _ ls ⟨hth.kept (oq a (by omega)), fun i y hy => ?_, by rw [z, hsz, List.length_set], hlt⟩ (hS.put z oq (Or.inr (by omega))) hl
  by_cases hi : i = ia
  · subst hi
    rw [List.getElem?_set_self hial] at hy
    cases hy
    show H1[s.heap.size + i]? = some (vp_cell _ _)
    rw [e]
    rw [vp_cell_q, vp_cell_q, arrV_store]
    congr 2
    funext q
    by_cases hq : q = x.toNatClampNeg
    · subst hq
      simp [updV, va_up, va_rf]
    · simp [updV, va_up, hq]
  · rw [List.getElem?_set_ne (Ne.symm hi)] at hy
    exact (hL i y hy).kept (oq (s.heap.size + i) (by omega))
theorem n_blind {S : kS} {G : kG} {a z : Nat} {As : List Value} {t : va_E} : FrameBlind (n_Pc S G a z As t) := fun v U g mk q => by
  obtain ⟨q0, q1, q2, q3, qK, qN⟩ := q
  exact ⟨q0, q1, q2, q3, va_K.moved (u := U) (U := U.calling g mk v) (Vm.Alike.refl U.vm) qK, qN.moved (U := U.calling g mk v) (State.WarmedH.refl U)⟩
/-- behind the call of a constructor on the object at index j -/
theorem n_backN {p : Program} {l : Launch} {e : Env} {R : Room} {s : State} {m : MethodId} {args : Array Value} {below : List Frame} {meth : Method} {c : Code} {H : Heap} {locs : List Loc} {n1 n2 pc : Nat} {Q : State → Prop} {ls : Array Slot} {st rest : List Value} {S : kS} {G : kG} {a j mc ms : Nat} {t t1 : va_E} {L L1 : List va_E} {b : Array Value}
    (hr : va_Run p l e R s m args below meth c H locs n1 n2 mc ms (F0 m pc ls st) rest (n_Qc S G (s.heap.size + j) (s.heap.size + L.length) t1 L1 b) (n_A (s.heap.size + j) (s.heap.size + L.length))) (hj : j < L.length) (hH : n_H S G a s.heap.size t L H) (hS : va_S (n_A a s.heap.size) s.heap H locs)
    (kk : ∀ (H1 : Heap) (locs1 : List Loc), n_H S G a s.heap.size t (L.set j t1 ++ L1) H1 → va_S (n_A a s.heap.size) s.heap H1 locs1 → W p l e R s m args below meth c H1 locs1 (n1 + mc) (n2 + ms) Q (F0 m (pc + 3) ls rest)) : W p l e R s m args below meth c H locs n1 n2 Q (F0 m pc ls st) := by
  intro T hT X
  obtain ⟨v, st₀, u, T', Lq, h0, X', hLq, e1, e2, ⟨hv, hN, hz, hk⟩, stp⟩ := hr T hT X
  cases hv
  rw [h0] at hz hk
  obtain ⟨hth, hL, hsz, hlt⟩ := hH
  obtain ⟨hth1, hL1, hsz1, hlt1⟩ := hN
  obtain ⟨t2, a1, b1⟩ := kk T'.heap (locs ++ Lq) (by
      rw [e1]
      refine ⟨hth.kept (hk _ (by omega) (fun z => ?_)), fun i x hx => ?_, by rw [hsz1, List.length_append, List.length_set]; omega, hlt⟩
      · rcases z with z | z <;> omega
      · by_cases hi : i < L.length
        · rw [List.getElem?_append_left (by rw [List.length_set]; exact hi)] at hx
          by_cases hij : i = j
          · subst hij
            rw [List.getElem?_set_self hi] at hx
            cases hx
            exact hth1
          · rw [List.getElem?_set_ne (Ne.symm hij)] at hx
            refine (hL i x hx).kept (hk _ (by omega) (fun z => ?_))
            rcases z with z | z <;> omega
        · rw [List.getElem?_append_right (by rw [List.length_set]; omega), List.length_set] at hx
          have := hL1 (i - L.length) x hx
          rw [show s.heap.size + L.length + (i - L.length) = s.heap.size + i by omega] at this
          exact this)
    ⟨by rw [e1]; exact Nat.le_trans hS.1 hz, fun q h1 h2 => by
        rw [e1, hk q (Nat.lt_of_lt_of_le h1 hS.1) (fun z => by rcases z with z | z <;> omega)]
        exact hS.2.1 q h1 h2, fun q hq => by
        rcases List.mem_append.mp hq with h | h
        · exact hS.2.2 q h
        · rcases hLq q h with h | h <;> exact Or.inr (by omega)⟩ T' rfl X'
  exact ⟨t2, stp t2 a1, b1⟩
theorem n_callN {X : kX} {Ts : List Cond} {cc : ByteArray} {own : String} {S : kS} {G : kG} {nL : Nat} {l : Launch} {R : Room} {n1 n2 pc : Nat} {lv : List (Nat × Value)} {st : List Value} {a z : Nat} {t : va_E} {L : List va_E} (C : k_C X Ts cc own S G nL l R) (N : n_C X a z) (hg : GoodIn Ts Ts) {idx n nLy j mc ms len : Nat} {y : MethodName} {cy : ByteArray} {rm : Room} {As rest : List Value} {t0 : va_E} {t1 : Nat → va_E} {L1 : Nat → List va_E} {host : String}
    (hM : n_Met l S Ts y cy nLy rm G (z + j) As t0 t1 L1 mc ms) (hcode : Cond.code y cy nLy none ∈ Ts) (hlink : Cond.methodLink own idx y ∈ Ts ∨ ∀ U, n_Nt U → va_Nw (.methodLinkNest own idx y host) U) (hini : Cond.initialized y.cls ∈ Ts) (hinst : Cond.instanceMethod y ∈ Ts) (hy1 : y.name = "<init>") (hy : y.cls ≠ "java/lang/invoke/MethodHandle" ∧ y.cls ≠ "java/lang/invoke/VarHandle" ∧ (parseMethodDescriptor y.desc).map (fun d => d.parameters.length) = some n)
    (hn : As.length = n) (hL : L[j]? = some t0) (hlen : L.length = len) (hst : st = As.reverse ++ .ref (z + j) :: rest) (hrest : (rest.map fun v => v.category).sum ≤ 8) (hrc : rm.cells = mc ∧ rm.slots = ms) (hR : rm.frames + 1 ≤ R.frames ∧ 8 + (nLy + 11) + rm.locals ≤ R.locals) (hcs : n1 + mc ≤ R.cells ∧ n2 + ms ≤ R.slots) (hd : decode cc pc = .ok (.invokespecial idx, 3))
    (k : n_W X (n1 + mc) (n2 + ms) (pc + 3) lv rest a z t (L.set j (t1 (z + len)) ++ L1 (z + len))) : n_W X n1 n2 pc lv st a z t L := by
  subst hlen
  obtain ⟨p, l, e, R, s, m, args, below, meth, cd, Q, S', G', A, nL'⟩ := X
  obtain ⟨rfl, rfl, rfl, rfl, rfl, hx, hb, hml, hown, hts, hT, hI, hA, hAf⟩ := C
  obtain ⟨rfl, rfl, hnt, -⟩ := N
  have hj : j < L.length := (List.getElem?_eq_some_iff.mp hL).1
  refine fun H locs ls hH hS hl => ?_
  have hpre : PreS s H (n_Pc S' G' (s.heap.size + j) (s.heap.size + L.length) As t0) (.ref (s.heap.size + j) :: As) := ⟨n_blind, fun U hU hW => ⟨rfl, by rw [hU]; exact hH.2.2.1, by omega, by rw [hU]; exact hH.2.1 j _ hL, va_K.moved hW.alike hT, hnt.moved hW⟩⟩
  refine n_backN (mc := mc) (ms := ms) (b := (Value.ref (s.heap.size + j) :: As).toArray) ?_ hj hH hS (fun H1 locs1 hH1 hS1 => k H1 locs1 ls hH1 hS1 hl)
  rcases hlink with hlink | hlink
  · exact va_runI (As := As) (rest := rest) ⟨hx, hb, hml, hown, hts⟩ (hM _) ⟨callB_of n hts (k_good hg hcode) rfl hrc.1 hrc.2 (hts _ hini) (hts _ hlink) hy hR, hy1, hts _ hinst⟩ hpre rfl hn hl.1 hst (lv_room hrest) hd hcs
  · exact va_runIN (As := As) (rest := rest) ⟨hx, hb, hml, hown, hts⟩ (hM _) ⟨va_cnB n hts (k_good hg hcode) rfl hrc.1 hrc.2 (hlink s hnt) (hts _ hini) hy hR, hy1, hts _ hinst⟩ hpre rfl hn hl.1 hst (lv_room hrest) hd hcs
theorem n_obj {X : kX} {Ts : List Cond} {cc : ByteArray} {own : String} {S : kS} {G : kG} {nL : Nat} {l : Launch} {R : Room} {n1 n2 pc : Nat} {lv : List (Nat × Value)} {a z : Nat} {t : va_E} {L : List va_E} (C : k_C X Ts cc own S G nL l R) {idx : Nat} (hw : Cond.methodLink own idx Lib.objectInit ∈ Ts ∧ Cond.instanceMethod Lib.objectInit ∈ Ts ∧ Cond.code Lib.objectInit ⟨#[0xb1]⟩ 1 none ∈ Ts) (hR : 1 ≤ R.frames ∧ 20 ≤ R.locals) (hd : decode cc pc = .ok (.invokespecial idx, 3))
    (k : n_W X n1 n2 (pc + 3) lv [] a z t L) : n_W X n1 n2 pc lv [.ref a] a z t L := by
  obtain ⟨p, l, e, R, s, m, args, below, meth, cd, Q, S', G', A, nL'⟩ := X
  obtain ⟨rfl, rfl, rfl, rfl, rfl, hx, hb, hml, hown, hts, hT, hI, hA, hAf⟩ := C
  refine fun H locs ls hH hS hl => ?_
  refine W.objInit hx hb hown (hts _ hw.1) (hts _ hw.2.1) (hts _ hw.2.2) (g := F0 m pc ls [.ref a]) rfl (hl.1.trans hml.symm) rfl hd hR.1 ?_ (k H locs ls hH hS hl)
  have h2 : 2 * JFrame.monitorRoom (F0 m pc ls [.ref a]) + (([] : List Value).map fun v => v.category).sum ≤ 8 := lv_room (by simp)
  have := hR.2
  omega
def n_same (e e2 : va_E) : Prop := ∀ (D : va_G) (cl : List vw_C) (q : Nat) (H : Heap), va_at D cl (q, e) H → va_at D cl (q, e2) H
theorem n_same.rf {e : va_E} : n_same e e := fun _ _ _ _ h => h
theorem n_same.q {cA : ClassId} {n : Nat} {f f2 : Nat → Option Nat} (h : ∀ j, j < n → f j = f2 j) : n_same (.inl (cA, n, .inr (.inr (.inr (.inr f))))) (.inl (cA, n, .inr (.inr (.inr (.inr f2))))) := by
  intro D cl q H h1
  have h2 : H[q]? = some (vp_cell cA (n, .inr (.inr (.inr (.inr f))))) := h1
  show H[q]? = some (vp_cell cA (n, .inr (.inr (.inr (.inr f2)))))
  rw [h2, vp_cell_q, vp_cell_q]
  unfold arrV
  congr 2
  apply Array.ext
  · simp
  · intro i h3 h4
    simp at h3
    simp [h i h3]
theorem k_I_of {S : kS} {G : kG} {a z : Nat} (haz : a < z) (tbl : List (Nat × Nat)) (h : ∀ (f c : Nat) (k : kF) (i : Nat), S.2.2[f]? = some (c, k) → i < c → (G.2.2 f i = a ∧ f = 0 ∧ i = 0) ∨ ∃ j, G.2.2 f i = z + j ∧ tbl[j]? = some (f, i)) : k_I S G := by
  intro f c k i f' c' k' i' hf hi hf' hi' e
  rcases h f c k i hf hi with ⟨h1, h2, h3⟩ | ⟨j, h1, h2⟩
  · rcases h f' c' k' i' hf' hi' with ⟨g1, g2, g3⟩ | ⟨j', g1, g2⟩
    · exact ⟨by rw [h2, g2], by rw [h3, g3]⟩
    · rw [h1, g1] at e
      omega
  · rcases h f' c' k' i' hf' hi' with ⟨g1, g2, g3⟩ | ⟨j', g1, g2⟩
    · rw [h1, g1] at e
      omega
    · rw [h1, g1] at e
      have e2 : j = j' := by omega
      subst e2
      have := Option.some.inj (h2.symm.trans g2)
      exact ⟨congrArg Prod.fst this, congrArg Prod.snd this⟩
/-- from the list to a world: the walk goes on there -/
def n_up (X : kX) (S : kS) (φ : Nat → Nat → Nat) : kX := match X with
  | (p, l, e, R, s, m, args, below, meth, c, Q, _, G, A, nL) => (p, l, e, R, s, m, args, below, meth, c, Q, S, (G.1, G.2.1, φ), A, nL)
theorem n_toK {X : kX} {n1 n2 pc : Nat} {lv : List (Nat × Value)} {st : List Value} {a z : Nat} {t : va_E} {L : List va_E} {S S0 : kS} {φ : Nat → Nat → Nat} {K : kM} {Ts : List Cond} {cc : ByteArray} {own : String} {G : kG} {nL : Nat} {l : Launch} {R : Room} (C : k_C X Ts cc own S0 G nL l R) (hS : S.1 = S0.1)
    (hw : ∀ (f c : Nat) (k : kF) (i : Nat), S.2.2[f]? = some (c, k) → i < c → (φ f i = a ∧ k_ent (G.1, G.2.1, φ) K f i k = t) ∨ ∃ j e, φ f i = z + j ∧ L[j]? = some e ∧ n_same e (k_ent (G.1, G.2.1, φ) K f i k))
    (k : k_W (n_up X S φ) n1 n2 pc lv st K) : n_W X n1 n2 pc lv st a z t L := by
  obtain ⟨p, l, e, R, s, m, args, below, meth, cd, Q, S', G', A, nL'⟩ := X
  obtain ⟨rfl, rfl, rfl, rfl, rfl, -⟩ := C
  refine fun H locs ls hH hS1 hl => k H locs ls ?_ hS1 hl
  intro f c kd i hf hi
  show va_at G'.1 S.1 (φ f i, k_ent (G'.1, G'.2.1, φ) K f i kd) H
  rw [hS]
  rcases hw f c kd i hf hi with ⟨h1, h2⟩ | ⟨j, e0, h1, h2, h3⟩
  · rw [h1, h2]
    exact hH.1
  · rw [h1]
    exact h3 _ _ _ _ (hH.2.1 j _ h2)
theorem n_upC {X : kX} {a z : Nat} {S S0 : kS} {φ : Nat → Nat → Nat} {Ts : List Cond} {cc : ByteArray} {own : String} {G : kG} {nL : Nat} {l : Launch} {R : Room} (C : k_C X Ts cc own S0 G nL l R) (N : n_C X a z) (hS : S.1 = S0.1) (hS2 : S.2.1 = S0.2.1) (hI : k_I S (G.1, G.2.1, φ)) (hA : ∀ (f c : Nat) (k : kF) (i : Nat), S.2.2[f]? = some (c, k) → i < c → φ f i = a ∨ z ≤ φ f i) : k_C (n_up X S φ) Ts cc own S (G.1, G.2.1, φ) nL l R := by
  obtain ⟨p, l, e, R, s, m, args, below, meth, cd, Q, S', G', A, nL'⟩ := X
  obtain ⟨rfl, rfl, rfl, rfl, rfl, hx, hb, hml, hown, hts, hT, hI0, hA0, hAf⟩ := C
  obtain ⟨rfl, rfl, -, -⟩ := N
  refine ⟨rfl, rfl, rfl, rfl, rfl, hx, hb, hml, hown, hts, ?_, hI, hA0, fun f c k i hf hi => hA f c k i hf hi⟩
  have e : k_ty S (G'.1, G'.2.1, φ) = k_ty S' G' := by unfold k_ty; rw [hS2]
  show va_K G'.1 S.1 (k_ty S (G'.1, G'.2.1, φ)) s
  rw [hS, e]
  exact hT
theorem n_upE {X : kX} {S : kS} {φ : Nat → Nat → Nat} {Qc : Array Value → State → Outcome → State → Prop} {mc ms : Nat} (E : n_E X Qc mc ms) {K2 : kM} (h : match X with
    | (_, _, _, _, _, _, _, _, _, _, _, _, G, A, _) => Qc = k_Qc S (G.1, G.2.1, φ) none K2 A) : k_E (n_up X S φ) none none K2 mc ms := by
  obtain ⟨p, l, e, R, s, m, args, below, meth, cd, Q, S', G', A, nL'⟩ := X
  obtain ⟨rfl, hr, hlk⟩ := E
  subst h
  exact ⟨rfl, hr, hlk⟩
