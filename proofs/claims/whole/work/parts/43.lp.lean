/-! ===== THE LAW (5): what is known at its entry, what it makes ===== -/
theorem lt1 (i : Nat) {w : Cond} (h : tables_1_1[i]? = some w) : w ∈ lw_tbl := List.mem_append_right _ (List.mem_append_left _ (List.mem_of_getElem? h))
theorem lt2 (i : Nat) {w : Cond} (h : tables_1_2[i]? = some w) : w ∈ lw_tbl := List.mem_append_right _ (List.mem_append_right _ (List.mem_append_left _ (List.mem_of_getElem? h)))
theorem lt3 (i : Nat) {w : Cond} (h : tables_1_3[i]? = some w) : w ∈ lw_tbl := List.mem_append_right _ (List.mem_append_right _ (List.mem_append_right _ (List.mem_append_left _ (List.mem_of_getElem? h))))
theorem lt4 (i : Nat) {w : Cond} (h : tables_1_4[i]? = some w) : w ∈ lw_tbl := List.mem_append_right _ (List.mem_append_right _ (List.mem_append_right _ (List.mem_append_right _ (List.mem_of_getElem? h))))
theorem l_exK {s : State} {cl : List vw_C} (h : ∀ (c : Nat) (q : vw_C), cl[c]? = some q → ∃ (cC : ClassId) (iS : Nat → Nat), u_Kn s q.1 q.2.1 q.2.2 cC iS) : ∃ D : va_G, ∀ (c : Nat) (q : vw_C), cl[c]? = some q → u_Kn s q.1 q.2.1 q.2.2 (D.1 c) (D.2 c) := by
  have : ∀ c : Nat, ∃ p : ClassId × (Nat → Nat), ∀ q : vw_C, cl[c]? = some q → u_Kn s q.1 q.2.1 q.2.2 p.1 p.2 := fun c => by
    cases hc : cl[c]? with
    | none => exact ⟨(0, fun _ => 0), fun q hq => by cases hq⟩
    | some q =>
      obtain ⟨cC, iS, hk⟩ := h c q hc
      exact ⟨(cC, iS), fun q' hq => by cases hq; exact hk⟩
  exact ⟨(fun c => (Classical.choose (this c)).1, fun c => (Classical.choose (this c)).2), fun c q hq => Classical.choose_spec (this c) q hq⟩
theorem l_exA {s : State} {tys : List FieldType} (h : ∀ (k : Nat) (ty : FieldType), tys[k]? = some ty → ∃ cA : ClassId, ArrOfT s cA ty ∧ va_RA s cA ty) : ∃ cA : Nat → ClassId, ∀ (k : Nat) (ty : FieldType), tys[k]? = some ty → ArrOfT s (cA k) ty ∧ va_RA s (cA k) ty := by
  have : ∀ k : Nat, ∃ cA : ClassId, ∀ ty : FieldType, tys[k]? = some ty → ArrOfT s cA ty ∧ va_RA s cA ty := fun k => by
    cases hk : tys[k]? with
    | none => exact ⟨0, fun q hq => by cases hq⟩
    | some ty =>
      obtain ⟨cA, hA⟩ := h k ty hk
      exact ⟨cA, fun q' hq => by cases hq; exact hA⟩
  exact ⟨fun k => Classical.choose (this k), fun k ty hk => Classical.choose_spec (this k) ty hk⟩
theorem l_arrI {s : State} {args : Array Value} (h : (Cond.arrayClass .int).before args s = true) : ∃ cA : ClassId, ArrOfT s cA .int ∧ va_RA s cA .int := by
  obtain ⟨c, k, comp, h1, h2, h3⟩ := Cond.arrayClass_spec h
  exact ⟨c, fun n z => ⟨fun k h => (by cases h), k, h2, comp, h3⟩, h1⟩
theorem l_arrZ {s : State} {args : Array Value} (h : (Cond.arrayClass .boolean).before args s = true) : ∃ cA : ClassId, ArrOfT s cA .boolean ∧ va_RA s cA .boolean := by
  obtain ⟨c, k, comp, h1, h2, h3⟩ := Cond.arrayClass_spec h
  exact ⟨c, fun n z => ⟨fun k h => (by cases h), k, h2, comp, h3⟩, h1⟩
theorem l_arrJ {s : State} {args : Array Value} (h : (Cond.arrayClass .long).before args s = true) : ∃ cA : ClassId, ArrOfT s cA .long ∧ va_RA s cA .long := by
  obtain ⟨c, k, comp, h1, h2, h3⟩ := Cond.arrayClass_spec h
  exact ⟨c, fun n z => ⟨fun k h => (by cases h), k, h2, comp, h3⟩, h1⟩
theorem l_arrO {s : State} {args : Array Value} {Cn : String} (h : (Cond.arrayOver (.object Cn)).before args s = true) : ∃ cA : ClassId, ArrOfT s cA (.object Cn) ∧ va_RA s cA (.object Cn) := by
  obtain ⟨comp, c, k, h1, h2, h3, h4, h5⟩ := Cond.arrayOver_spec h
  exact ⟨c, fun n z => ⟨fun k h => (by cases h), k, h3, comp, h4⟩, k, comp, h3, h4, h1, h5⟩
theorem l_knG {s : State} {args : Array Value} (hts : ∀ w ∈ kT, w.before args s = true) (hN : n_Nt s) : ∃ (D : va_G) (cA : Nat → ClassId), ∀ φ : Nat → Nat → Nat, k_T gS (D, cA, φ) s := by
  obtain ⟨D, hD⟩ := l_exK (s := s) (cl := gCl) (fun c q hq => by
    match c, hq with
    | 0, hq => cases hq; exact u_known hts in_Ke (hts _ (kt1 20 rfl rfl))
    | 1, hq => cases hq; exact u_known hts in_Pg (hts _ (kt1 28 rfl rfl))
    | 2, hq => cases hq; exact u_known hts in_Fr (hts _ (kt1 39 rfl rfl))
    | 3, hq => cases hq; exact u_known hts in_Gu (hts _ (kt1 64 rfl rfl))
    | 4, hq => cases hq; exact u_known hts in_Pr (hts _ (kt1 121 rfl rfl))
    | 5, hq => cases hq; exact u_known hts in_Ro (hts _ (kt1 127 rfl rfl))
    | 6, hq => cases hq; exact u_known hts in_Lo (hts _ (kt1 156 rfl rfl))
    | 7, hq => cases hq; exact u_known hts in_Ch (hts _ (kt1 172 rfl rfl))
    | n + 8, hq => simp [gCl] at hq)
  obtain ⟨cA, hA⟩ := l_exA (s := s) (tys := gAt) (fun c q hq => by
    match c, hq with
    | 0, hq => cases hq; exact l_arrI (hts _ (kt1 37 rfl rfl))
    | 1, hq => cases hq; exact l_arrZ (hts _ (kt1 55 rfl rfl))
    | 2, hq => cases hq; exact l_arrO hN.2.1
    | 3, hq => cases hq; exact l_arrO hN.2.2.1
    | 4, hq => cases hq; exact l_arrO hN.2.2.2.1
    | 5, hq => cases hq; exact l_arrO hN.2.2.2.2
    | n + 6, hq => simp [gAt] at hq)
  refine ⟨D, cA, fun φ => ⟨hD, fun k q hk => ?_⟩⟩
  simp only [k_ty, List.getElem?_map, Option.map_eq_some_iff, List.getElem?_zipIdx] at hk
  obtain ⟨⟨ty, j⟩, ⟨ty', h1, h2⟩, rfl⟩ := hk
  simp only [Prod.mk.injEq] at h2
  obtain ⟨rfl, rfl⟩ := h2
  simpa using hA k ty' h1
theorem l_knM {s : State} {args : Array Value} (hts : ∀ w ∈ kT, w.before args s = true) : ∃ (D : va_G) (cA : Nat → ClassId), ∀ φ : Nat → Nat → Nat, k_T mS (D, cA, φ) s := by
  obtain ⟨D, hD⟩ := l_exK (s := s) (cl := mCl) (fun c q hq => by
    match c, hq with
    | 0, hq => cases hq; exact u_known hts in_Mo (hts _ (kt3 95 rfl rfl))
    | n + 1, hq => simp [mCl] at hq)
  obtain ⟨cA, hA⟩ := l_exA (s := s) (tys := mAt) (fun c q hq => by
    match c, hq with
    | 0, hq => cases hq; exact l_arrI (hts _ (kt1 37 rfl rfl))
    | 1, hq => cases hq; exact l_arrZ (hts _ (kt1 55 rfl rfl))
    | n + 2, hq => simp [mAt] at hq)
  refine ⟨D, cA, fun φ => ⟨hD, fun k q hk => ?_⟩⟩
  simp only [k_ty, List.getElem?_map, Option.map_eq_some_iff, List.getElem?_zipIdx] at hk
  obtain ⟨⟨ty, j⟩, ⟨ty', h1, h2⟩, rfl⟩ := hk
  simp only [Prod.mk.injEq] at h2
  obtain ⟨rfl, rfl⟩ := h2
  simpa using hA k ty' h1
theorem l_Nt {s : State} {args : Array Value} (hts : ∀ w ∈ lw_tbl, w.before args s = true) : n_Nt s := ⟨⟨va_Nw.of rfl (hts _ (lt1 29 rfl)), va_Nw.of rfl (hts _ (lt1 40 rfl)), va_Nw.of rfl (hts _ (lt1 122 rfl)), va_Nw.of rfl (hts _ (lt1 128 rfl)), va_Nw.of rfl (hts _ (lt1 157 rfl)), va_Nw.of rfl (hts _ (lt1 162 rfl)), va_Nw.of rfl (hts _ (lt1 173 rfl)), va_Nw.of rfl (hts _ (lt1 178 rfl))⟩, va_AO.of (hts _ (lt1 57 rfl)), va_AO.of (hts _ (lt1 59 rfl)), va_AO.of (hts _ (lt1 61 rfl)), va_AO.of (hts _ (lt1 63 rfl))⟩
theorem l_str {s : State} {args : Array Value} {k : Nat} {tx : String} (h1 : (Cond.stringRef "GuestKernel" k tx).before args s = true) (h2 : (Cond.exactly (.string "GuestKernel" k) "java/lang/String").before args s = true) : ∃ q, vk_R "GuestKernel" k tx q s := by
  obtain ⟨a, c, cell, kk, e1, -⟩ := Cond.exactly_spec h2
  exact ⟨a, vk_R.of h1 e1⟩
set_option maxHeartbeats 4000000 in
theorem l_Th {s : State} {args : Array Value} (hts : ∀ w ∈ lw_tbl, w.before args s = true) (hg : (Jvm.Cond.and given_1 narrow_1).before args s = true) : k_Th s.heap.size s := by
  have hs := flat_of_before _ hg
  have hA : ∀ a : Nat, a < s.heap.size → ¬ s.heap.size ≤ a := fun a h => by omega
  refine ⟨Nat.le_refl _, ?_, ⟨l_str (hts _ (lt2 76 rfl)) (hs _ (by decide +kernel)), l_str (hts _ (lt3 52 rfl)) (hs _ (by decide +kernel)), l_str (hts _ (lt2 132 rfl)) (hs _ (by decide +kernel))⟩, va_Zqof (hts _ (lt2 62 rfl)) (hts _ (lt1 12 rfl)) (hs _ (by decide +kernel)) hA, va_Zqof (hts _ (lt2 64 rfl)) (hts _ (lt1 12 rfl)) (hs _ (by decide +kernel)) hA, va_Nc.of (hs _ (by decide +kernel)), va_Nc.of (hs _ (by decide +kernel)), k_Ls.of (hts _ (lt2 62 rfl)) hA, k_Ls.of (hts _ (lt2 64 rfl)) hA⟩
  intro w hw
  refine va_Nw.of (A := args) (kFw_ok w hw).1 ?_
  · simp only [kFw, List.mem_cons, List.not_mem_nil, or_false] at hw
    rcases hw with rfl | rfl | rfl | rfl | rfl | rfl
    · exact hts _ (lt2 39 rfl)
    · exact hts _ (lt2 41 rfl)
    · exact hts _ (lt2 43 rfl)
    · exact hts _ (lt2 37 rfl)
    · exact hts _ (lt2 125 rfl)
    · exact hts _ (lt3 45 rfl)
/-- an object is made by the law -/
theorem l_make {X : kX} {G0 : kG} {l : Launch} {n1 n2 pc : Nat} {lv : List (Nat × Value)} {Φ : Heap → Prop} {h0 z : Nat} (C : k_C X kT code R_law eS G0 7 l room_1) {S S0 : kS} {G : kG} {ph : Nat → Nat → Nat → Nat → Nat} {K1 : kM} {y : MethodName} {cy : ByteArray} {n mc ms ix ix2 nLy : Nat} {Cn : String} {T : u_T} {ty0 : Nat → FieldType} {fs : List Value} {rm : Room}
    (hX : match X with
      | (_, _, _, _, s, _, _, _, _, _, _, _, _, A, _) => h0 = s.heap.size ∧ A = (fun q => h0 ≤ q) ∧ k_T S0 G s ∧ n_Nt s)
    (hd0 : decode code pc = .ok (.new ix, 3)) (hd3 : decode code (pc + 3) = .ok (.dup, 1)) (hd4 : decode code (pc + 3 + 1) = .ok (.invokespecial ix2, 3)) (hc : S0.1[0]? = some (Cn, T, n)) (hin : ∀ w ∈ u_ws Cn T n, w ∈ kT) (hty : ∀ k, k < n → parseFieldDescriptor (T k).2.2.1 = some (ty0 k)) (hw : Cond.classLink R_law ix Cn ∈ kT ∧ Cond.instantiable Cn n ∈ kT ∧ Cond.initialized Cn ∈ kT) (hfs : ∀ j, j < n → defaultValue (ty0 j) = vp_V fs j)
    (hM : ∀ a z : Nat, a < z → Met l y (.code y cy nLy none :: kT) rm (n_Pc S0 G a z [] (.inr (0, fs))) (k_Qc S (G.1, G.2.1, ph a z) none K1 (n_A a z)) mc ms (n_A a z)) (hs1 : k_site kT R_law ix2 y cy nLy none 0) (hinst : Cond.instanceMethod y ∈ kT) (hy1 : y.name = "<init>") (hrc : rm.cells = mc ∧ rm.slots = ms) (hR : rm.frames + 1 ≤ room_1.frames ∧ 8 + (nLy + 11) + rm.locals ≤ room_1.locals) (hcs : n1 + 1 + mc ≤ room_1.cells ∧ n2 + n + ms ≤ room_1.slots)
    (hΦ : ∀ H H1 : Heap, Φ H → H.size = z → (∀ q : Nat, q < z → H1[q]? = H[q]?) → Φ H1) (k : q_W X (n1 + 1 + mc) (n2 + n + ms) (pc + 3 + 1 + 3) lv [.ref z] (fun H => Φ H ∧ k_H S (G.1, G.2.1, ph z (z + 1)) K1 H)) : q_W X n1 n2 pc lv [] (fun H => Φ H ∧ H.size = z) := by
  obtain ⟨p, l, e, R, s, m, args, below, meth, cd, Q, S', G', A, nL'⟩ := X
  obtain ⟨rfl, rfl, rfl, rfl, rfl, hx, hb, hml, hown, hts, hT, hI, hA, hAf⟩ := C
  obtain ⟨rfl, rfl, hK, hN⟩ := hX
  refine fun H locs ls hH hS hl => ?_
  obtain ⟨hΦ0, hsz⟩ := hH
  have hKn := hK.1 0 _ hc
  have hlz : s.heap.size ≤ z := by rw [← hsz]; exact hS.1
  refine W.newcK hx hb hown (hts _ hw.1) (hts _ hw.2.1) (hts _ hw.2.2) (g := F0 m pc ls []) rfl hd0 (Nat.le_trans (Nat.le_add_right _ mc) hcs.1) (Nat.le_trans (Nat.le_add_right _ ms) hcs.2) hKn.2.1 hsz fun H1 kC hkC e1 z1 o1 => ?_
  have hat : va_at G.1 S0.1 (z, .inr (0, fs)) H1 := ⟨_, hc, (u_born ty0 hts hin hKn hkC e1 hty).to hfs⟩
  have hS1 : va_S (fun q => s.heap.size ≤ q) s.heap H1 locs := ⟨by rw [z1]; omega, fun q h1 h2 => (o1 q (by omega)).trans (hS.2.1 q h1 h2), hS.2.2⟩
  refine lv_dup hx hb hd3 rfl ?_
  obtain ⟨s1, s2, s3, s4, s5, s6⟩ := hs1
  have hpre : PreS s H1 (n_Pc S0 G z (z + 1) [] (.inr (0, fs))) [.ref z] := ⟨n_blind, fun U hU hW => ⟨rfl, by rw [hU]; exact z1, by omega, by rw [hU]; exact hat, va_K.moved hW.alike hK, hN.moved hW⟩⟩
  intro U hU XU
  obtain ⟨v, st₀, u, T', Lq, h0', X', hLq, f1, f2, ⟨hv, hH', hz, hk⟩, stp⟩ := va_runI (As := []) (rest := [.ref z]) ⟨hx, hb, hml, hown, hts⟩ (hM z (z + 1) (by omega)) ⟨callB_of 0 hts (k_good kg_all s1) rfl hrc.1 hrc.2 (hts _ s3) (hts _ s2) ⟨s4, s5, s6⟩ hR, hy1, hts _ hinst⟩ hpre rfl rfl hl.1 rfl (lv_room (Nat.le_of_ble_eq_true rfl)) hd4 hcs U hU XU
  cases hv
  rw [h0'] at hz hk
  obtain ⟨t2, a1, b1⟩ := k T'.heap (locs ++ Lq) ls ⟨hΦ H T'.heap hΦ0 hsz (fun q hq => by
      rw [f1, hk q (by omega) (fun y => by rcases y with y | y <;> omega)]
      exact o1 q hq), by rw [f1]; exact hH'⟩
    ⟨by rw [f1]; exact Nat.le_trans hS1.1 hz, fun q g1 g2 => by
        rw [f1, hk q (by omega) (fun y => by rcases y with y | y <;> omega)]
        exact hS1.2.1 q g1 g2, fun q hq => by
        rcases List.mem_append.mp hq with h | h
        · exact hS1.2.2 q h
        · show s.heap.size ≤ q.base
          rcases hLq q h with h | h <;> omega⟩ hl T' rfl X'
  exact ⟨t2, stp t2 a1, b1⟩
theorem l_newl {X : kX} {G0 : kG} {l : Launch} {n1 n2 pc : Nat} {lv : List (Nat × Value)} {Φ : Heap → Prop} {h0 z : Nat} {cL : ClassId} (C : k_C X kT code R_law eS G0 7 l room_1)
    (hX : match X with
      | (_, _, _, _, s, _, _, _, _, _, _, _, _, A, _) => h0 = s.heap.size ∧ A = (fun q => h0 ≤ q) ∧ va_RA s cL .long)
    (hd : decode code pc = .ok (.newarray .long, 2)) (hw : Cond.arrayClass .long ∈ kT) (hcs : n1 + 1 ≤ room_1.cells ∧ n2 + 1 ≤ room_1.slots) (hΦ : ∀ H H1 : Heap, Φ H → H.size = z → (∀ q : Nat, q < z → H1[q]? = H[q]?) → Φ H1) (k : q_W X (n1 + 1) (n2 + 1) (pc + 2) lv [.ref z] (fun H => Φ H ∧ w_o cL z (fun _ => 0) H)) : q_W X n1 n2 pc lv [.int 1] (fun H => Φ H ∧ H.size = z) := by
  obtain ⟨p, l, e, R, s, m, args, below, meth, cd, Q, S', G', A, nL'⟩ := X
  obtain ⟨rfl, rfl, rfl, rfl, rfl, hx, hb, hml, hown, hts, hT, hI, hA, hAf⟩ := C
  obtain ⟨rfl, rfl, hK⟩ := hX
  refine fun H locs ls hH hS hl => ?_
  obtain ⟨hΦ0, hsz⟩ := hH
  have hlz : s.heap.size ≤ z := by rw [← hsz]; exact hS.1
  refine va_newaK hx hb (atype := .long) (hts _ hw) (g := F0 m pc ls [.int 1]) rfl hd rfl (by decide) (N := 1) (by decide) (by decide) hcs.1 hcs.2 hsz fun H1 cA e1 z1 o1 hAr hNm => ?_
  have hcA : cA = cL := Option.some.inj (hNm.symm.trans hK)
  subst hcA
  exact k H1 locs ls ⟨hΦ H H1 hΦ0 hsz o1, e1⟩ ⟨by rw [z1]; omega, fun q h1 h2 => (o1 q (by omega)).trans (hS.2.1 q h1 h2), hS.2.2⟩ hl
