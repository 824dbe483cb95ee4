/-! ===== THE TWO SIDE BY SIDE (11): a child is born ===== -/
def s_bK (K : kM) (g i : Nat) (a q m : Int32) : kM := k_up (k_up (k_up (k_up (k_up (k_up (k_up (k_up (k_up (k_up (k_up (k_up (k_up (k_up (k_up (k_up (k_up (k_up K 8 i 0 0) 8 i 1 0) 8 i 2 0) 8 i 3 0) 9 i 0 (-1)) 9 i 1 (-1)) 9 i 2 (-1)) 9 i 3 (-1)) 7 i 4 a) 7 i 5 (-1)) 7 i 6 q) 7 i 7 0) 7 i 8 0) 7 i 9 (nI g)) 7 i 10 0) 7 i 11 0) 8 i 0 m) 7 g 8 (K 7 g 8 + q)
def s_bM (M : kM) (g i : Nat) (a q m : Int32) : kM := k_up (k_up (k_up (k_up (k_up (k_up (k_up (k_up (k_up (k_up (k_up (k_up (k_up (k_up (k_up (k_up (k_up (k_up M 10 0 g (M 10 0 g + q)) 6 0 i a) 8 0 i q) 11 0 i (nI g)) 7 0 i (-1)) 9 0 i 0) 10 0 i 0) 12 0 i 0) 13 0 i 0) 15 0 (i * 4 + 0) 0) 16 0 (i * 4 + 0) (-1)) 15 0 (i * 4 + 1) 0) 16 0 (i * 4 + 1) (-1)) 15 0 (i * 4 + 2) 0) 16 0 (i * 4 + 2) (-1)) 15 0 (i * 4 + 3) 0) 16 0 (i * 4 + 3) (-1)) 15 0 (i * 4) m
theorem s_E.beg {x : Nat} {K M : kM} (E : s_E x K M) {g i : Nat} {a q m : Int32} (hg : g < 6) (hig : i ≠ g) : s_E x (s_bK K g i a q m) (s_bM M g i a q m) := by
  refine ⟨?_, ?_, ?_, ?_, ?_, ?_, ?_, ?_, ?_, ?_, ?_, ?_, ?_, ?_, ?_, ?_, ?_, ?_, ?_, ?_, ?_, ?_, ?_, ?_, ?_, ?_⟩
  · intro i' h0
    simpa [k_up, s_bK, s_bM] using E.p0 _ h0
  · intro i' h0
    simpa [k_up, s_bK, s_bM] using E.p1 _ h0
  · intro i' h0
    simpa [k_up, s_bK, s_bM] using E.p2 _ h0
  · intro i' h0
    simpa [k_up, s_bK, s_bM] using E.p3 _ h0
  · intro j' h0
    simpa [k_up, s_bK, s_bM] using E.me _ h0
  · intro j' h0
    simpa [k_up, s_bK, s_bM] using E.tk _ h0
  · intro g' h0
    simpa [k_up, s_bK, s_bM] using E.st _ h0
  · intro g' h0 h1
    have e := E.pl g' h0 h1
    unfold s_bK s_bM
    by_cases z : g' = i
    · subst z
      simp [k_up]
    · simp [k_up, z, e]
  · intro g' h0
    have e := E.hd g' h0
    unfold s_bK s_bM
    by_cases z : g' = i
    · subst z
      simp [k_up]
    · simp [k_up, z, e]
  · intro g' h0
    have e := E.qu g' h0
    unfold s_bK s_bM
    by_cases z : g' = i
    · subst z
      simp [k_up]
    · simp [k_up, z, e]
  · intro g' h0
    have e := E.us g' h0
    unfold s_bK s_bM
    by_cases z : g' = i
    · subst z
      simp [k_up]
    · simp [k_up, z, e]
  · intro g' h0
    have e := E.gi g' h0
    have eg := E.gi g hg
    unfold s_bK s_bM
    by_cases z : g' = i
    · subst z
      simp [k_up, hig]
    · by_cases y : g' = g
      · subst y
        simp [k_up, z, e]
      · simp [k_up, z, y, e]
  · intro g' h0
    have e := E.pa g' h0
    unfold s_bK s_bM
    by_cases z : g' = i
    · subst z
      simp [k_up]
    · simp [k_up, z, e]
  · intro g' h0
    have e := E.oc g' h0
    unfold s_bK s_bM
    by_cases z : g' = i
    · subst z
      simp [k_up]
    · simp [k_up, z, e]
  · intro g' h0
    have e := E.tr g' h0
    unfold s_bK s_bM
    by_cases z : g' = i
    · subst z
      simp [k_up]
    · simp [k_up, z, e]
  · intro g' h0 j' h1
    have e := E.re g' h0 j' h1
    unfold s_bK s_bM
    by_cases z : g' = i
    · subst z
      have : j' = 0 ∨ j' = 1 ∨ j' = 2 ∨ j' = 3 := by omega
      rcases this with rfl | rfl | rfl | rfl <;> simp [k_up]
    · have n0 : g' * 4 + j' ≠ i * 4 := by omega
      have n1 : g' * 4 + j' ≠ i * 4 + 1 := by omega
      have n2 : g' * 4 + j' ≠ i * 4 + 2 := by omega
      have n3 : g' * 4 + j' ≠ i * 4 + 3 := by omega
      simp [k_up, z, n0, n1, n2, n3, e]
  · intro g' h0 j' h1
    have e := E.pg g' h0 j' h1
    unfold s_bK s_bM
    by_cases z : g' = i
    · subst z
      have : j' = 0 ∨ j' = 1 ∨ j' = 2 ∨ j' = 3 := by omega
      rcases this with rfl | rfl | rfl | rfl <;> simp [k_up]
    · have n0 : g' * 4 + j' ≠ i * 4 := by omega
      have n1 : g' * 4 + j' ≠ i * 4 + 1 := by omega
      have n2 : g' * 4 + j' ≠ i * 4 + 2 := by omega
      have n3 : g' * 4 + j' ≠ i * 4 + 3 := by omega
      simp [k_up, z, n0, n1, n2, n3, e]
  · intro p' h0
    simpa [k_up, s_bK, s_bM] using E.ha _ h0
  · intro p' h0
    simpa [k_up, s_bK, s_bM] using E.ti _ h0
  · intro r' h0
    simpa [k_up, s_bK, s_bM] using E.sz _ h0
  · intro r' h0
    unfold s_bK s_bM
    simpa only [s_rK_up, s_rM_up, ne_eq, reduceCtorEq, not_false_eq_true, Nat.reduceEqDiff] using E.ro _ h0
  · intro k' h0
    simpa [k_up, s_bK, s_bM] using E.lo _ h0
  · intro k' h0
    simpa [k_up, s_bK, s_bM] using E.cs _ h0
  · intro k' h0 j' h1
    have h2 := E.cv _ h0 _ (by simpa [k_up, s_bK, s_bM] using h1)
    simpa [k_up, s_bK, s_bM] using h2
  · intro j' h0
    simpa [k_up, s_bK, s_bM] using E.nu _ h0
  · unfold s_bK s_bM
    simpa [s_fru, k_up] using E.fr
theorem s_bKe {K : kM} {g i : Nat} {n q m : Int32} (hig : i ≠ g) (I : g_Inv K) : k_up (k_up (g_begin K i n q (K 7 g 0)) 8 i 0 m) 7 g 8 (k_up (g_begin K i n q (K 7 g 0)) 8 i 0 m 7 g 8 + q) = s_bK K g i (n &&& 31) q m := by
  have e : k_up (g_begin K i n q (K 7 g 0)) 8 i 0 m 7 g 8 = K 7 g 8 := by
    rw [ku_f (by decide)]
    unfold g_begin g_goTo
    simp [k_up, g_fill, hig.symm]
  rw [e, show K 7 g 0 = nI g from I 7 g 0]
  unfold g_begin g_goTo s_bK
  rw [s_fma]
  rfl
theorem s_bMe {M : kM} {g i : Nat} {a q m : Int32} : k_up (m_begL (m_beg0 (k_up M 10 0 g (M 10 0 g + q)) i a q (nI g)) i 4) 15 0 (i * 4) m = s_bM M g i a q m := rfl
theorem s_wkc {M : kM} {g f i j : Nat} {v : Int32} (h5 : f ≠ 5) (h1 : f ≠ 19) (h2 : f ≠ 20) : k_up (m_wake M g) f i j v = m_wake (k_up M f i j v) g := by
  unfold m_wake m_add
  simp only [ku_f (K := M) (show (20 : Nat) ≠ 5 by decide), ku_f (show (20 : Nat) ≠ 19 by decide), ku_f (show (20 : Nat) ≠ 5 by decide), ku_f h2.symm]
  rw [ku_comm (f := 20) (fun z => absurd z.1 h2.symm), ku_comm (f := 19) (fun z => absurd z.1 h1.symm), ku_comm (f := 5) (fun z => absurd z.1 h5.symm)]
theorem s_sp {x p : Nat} {K M : kM} (E : s_E x K M) (A : s_A p M) {g : Nat} {m q n : Int32} : ∀ c i, c + i = 6 → (m_sf M c i = 6 ∧ g_spLX K c i = -1 ∧ g_spLT K g m q n c i = K) ∨ (m_sf M c i < 6 ∧ M 5 0 (m_sf M c i) = -1 ∧ g_spLX K c i = nI (m_sf M c i) ∧ g_spLT K g m q n c i = g_sp1 K g m q n (m_sf M c i))
  | 0, i, h => Or.inl ⟨by unfold m_sf; omega, rfl, rfl⟩
  | c + 1, i, h => by
    unfold m_sf g_spLX g_spLT
    rw [E.st i (by omega)]
    by_cases z : M 5 0 i = -1
    · rw [if_pos z, if_pos z, if_pos ((s_neg A (by omega)).mpr z)]
      exact Or.inr ⟨by omega, z, rfl, rfl⟩
    · rw [if_neg z, if_neg z, if_neg (fun y => z ((s_neg A (by omega)).mp y))]
      exact s_sp E A c (i + 1) (by omega)
theorem s_B.born {M M' : kM} (B : s_B M) {i : Nat} (e5 : ∀ a, M' 5 0 a = if a = i then 0 else M 5 0 a) (e16 : ∀ g j, j < 4 → M' 16 0 (g * 4 + j) = if g = i then -1 else M 16 0 (g * 4 + j)) (e18 : ∀ a, M' 18 0 a = M 18 0 a) (e9 : ∀ a, M' 9 0 a = if a = i then 0 else M 9 0 a) : s_B M' := by
  refine ⟨fun g hg h j hj => ?_, fun g hg h j hj => ?_, fun g hg h => ?_⟩
  · rw [e16 g j hj]
    by_cases z : g = i
    · rw [if_pos z]
      exact fun y => absurd rfl y
    · rw [if_neg z, e18]
      rw [e5, if_neg z] at h
      exact B.1 g hg h j hj
  · rw [e16 g j hj]
    by_cases z : g = i
    · rw [if_pos z]
      exact fun y => absurd rfl y
    · rw [if_neg z]
      rw [e5, if_neg z] at h
      intro h3 g' hg' h' j' hj'
      rw [e16 g' j' hj']
      by_cases z' : g' = i
      · rw [if_pos z']
        exact fun y => absurd y.symm h3
      · rw [if_neg z']
        rw [e5, if_neg z'] at h'
        exact B.2.1 g hg h j hj h3 g' hg' h' j' hj'
  · have e0 := e16 g 0 (by omega)
    rw [Nat.add_zero] at e0
    rw [e9]
    unfold s_np
    rw [e0, e16 g 1 (by omega), e16 g 2 (by omega), e16 g 3 (by omega)]
    by_cases z : g = i
    · rw [if_pos z, if_pos z, if_pos z, if_pos z, if_pos z]
      rfl
    · rw [if_neg z, if_neg z, if_neg z, if_neg z, if_neg z]
      rw [e5, if_neg z] at h
      exact B.2.2 g hg h
theorem s_bMf {M : kM} {g i b c d : Nat} {a q m : Int32} (h6 : b ≠ 6) (h7 : b ≠ 7) (h8 : b ≠ 8) (h9 : b ≠ 9) (h10 : b ≠ 10) (h11 : b ≠ 11) (h12 : b ≠ 12) (h13 : b ≠ 13) (h15 : b ≠ 15) (h16 : b ≠ 16) : s_bM M g i a q m b c d = M b c d := by
  unfold s_bM
  simp [k_up, h6, h7, h8, h9, h10, h11, h12, h13, h15, h16]
theorem s_R.sp1 {p x : Nat} {K M : kM} (R : s_R p x 6 K M) {g i : Nat} {m q n : Int32} (hg : g < 6) (hi : i < 6) (h1 : M 5 0 g = 1) (hn : M 5 0 i = -1) (q1 : 0 ≤ q.toInt) (q2 : q.toInt + (M 9 0 g).toInt + (M 10 0 g).toInt ≤ (M 8 0 g).toInt) : s_R p x 6 (g_sp1 K g m q n i) (m_sp1 M g i (n &&& 31) q m) ∧ (m_sp1 M g i (n &&& 31) q m 5 0 g = 1) ∧ ∀ j, m_sp1 M g i (n &&& 31) q m 24 0 j = M 24 0 j := by
  have hig : i ≠ g := fun z => by
    rw [z, h1] at hn
    exact absurd hn (by decide)
  obtain ⟨I, J, E, A, B, ⟨rk, C⟩, D⟩ := R
  have eK : g_sp1 K g m q n i = k_up (g_ready (s_bK K g i (n &&& 31) q m) i) 0 0 9 (g_ready (s_bK K g i (n &&& 31) q m) i 0 0 9 + 1) := by
    unfold g_sp1
    rw [s_bKe hig I]
  have eM : m_sp1 M g i (n &&& 31) q m = k_up (m_wake (s_bM M g i (n &&& 31) q m) i) 0 0 28 (m_wake (s_bM M g i (n &&& 31) q m) i 0 0 28 + 1) := by
    unfold m_sp1 m_begin
    rw [s_wkc (by decide) (by decide) (by decide), s_bMe]
  have vb : vp_in (n &&& 31) 32 := m_31 n
  have I0 : g_Inv (s_bK K g i (n &&& 31) q m) := by
    rw [← s_bKe hig I]
    exact k_Inv.up (k_Inv.up (iv_begin I) trivial) trivial
  have J0 : m_Inv (s_bM M g i (n &&& 31) q m) := by
    rw [← s_bMe]
    have Ja : m_Inv (k_up M 10 0 g (M 10 0 g + q)) := k_Inv.up J trivial
    exact k_Inv.up (iv_mbegL (iv_mbeg0 Ja vb) 4) trivial
  have ni0 : M 5 0 i ≠ 0 := by rw [hn]; decide
  have ni2 : M 5 0 i ≠ 2 := by rw [hn]; decide
  have f5 : ∀ a, s_bM M g i (n &&& 31) q m 5 0 a = M 5 0 a := fun a => s_bMf (by decide) (by decide) (by decide) (by decide) (by decide) (by decide) (by decide) (by decide) (by decide) (by decide)
  have f24 : ∀ a, s_bM M g i (n &&& 31) q m 24 0 a = M 24 0 a := fun a => s_bMf (by decide) (by decide) (by decide) (by decide) (by decide) (by decide) (by decide) (by decide) (by decide) (by decide)
  have fr : ∀ r, s_rM (s_bM M g i (n &&& 31) q m) r = s_rM M r := fun r => s_rM_c (fun a => s_bMf (by decide) (by decide) (by decide) (by decide) (by decide) (by decide) (by decide) (by decide) (by decide) (by decide)) (fun a => s_bMf (by decide) (by decide) (by decide) (by decide) (by decide) (by decide) (by decide) (by decide) (by decide) (by decide)) r
  have A0 : s_A p (s_bM M g i (n &&& 31) q m) := A.congr f5 f24 (fun r _ => fr r)
  have hl : ∀ r, r < 14 → (s_rM (s_bM M g i (n &&& 31) q m) r).length < 6 := fun r hr => A0.len5 J0 hi (by rw [f5]; exact ni0) (by rw [f5]; exact ni2) hr
  have ht : m_tot (s_bM M g i (n &&& 31) q m) ≤ 5 := A0.tot5 J0 hi (by rw [f5]; exact ni0) (by rw [f5]; exact ni2)
  rw [eK, eM]
  have I1 := iv_ready I0 hi
  have J1 := iv_mwake J0 ht hi
  have E1 := (E.beg (a := n &&& 31) (q := q) (m := m) hg hig).wake I0 J0 hi (hl _ (by omega))
  have A1 : s_A p (m_wake (s_bM M g i (n &&& 31) q m) i) := A0.put J0 hi (by omega) (Or.inl ⟨rfl, by omega⟩) (by rw [f5]; exact ni0) (by rw [f5]; exact ni2) (fun j a b z => by
    rw [f24] at z
    have := A.h1 j a b i hi z
    rw [hn] at this
    exact absurd this (by decide))
  have e5 : ∀ a, m_wake (s_bM M g i (n &&& 31) q m) i 5 0 a = if a = i then 0 else M 5 0 a := fun a => by rw [s_wk5, f5]
  have fw : ∀ b c d, b ≠ 5 → b ≠ 19 → b ≠ 20 → m_wake (s_bM M g i (n &&& 31) q m) i b c d = s_bM M g i (n &&& 31) q m b c d := fun b c d a1 a2 a3 => s_wkf a1 a2 a3
  have B1 : s_B (m_wake (s_bM M g i (n &&& 31) q m) i) := B.born (i := i) e5 (fun g' j hj => by
      rw [fw _ _ _ (by decide) (by decide) (by decide)]
      unfold s_bM
      by_cases z : g' = i
      · subst z
        have : j = 0 ∨ j = 1 ∨ j = 2 ∨ j = 3 := by omega
        rcases this with rfl | rfl | rfl | rfl <;> simp [k_up]
      · have n0 : g' * 4 + j ≠ i * 4 := by omega
        have n1 : g' * 4 + j ≠ i * 4 + 1 := by omega
        have n2 : g' * 4 + j ≠ i * 4 + 2 := by omega
        have n3 : g' * 4 + j ≠ i * 4 + 3 := by omega
        simp [k_up, z, n0, n1, n2, n3]) (fun a => by
      rw [fw _ _ _ (by decide) (by decide) (by decide)]
      exact s_bMf (by decide) (by decide) (by decide) (by decide) (by decide) (by decide) (by decide) (by decide) (by decide) (by decide)) (fun a => by
      rw [fw _ _ _ (by decide) (by decide) (by decide)]
      unfold s_bM
      simp [k_up])
  have C1 := C.spawn (M' := m_wake (s_bM M g i (n &&& 31) q m) i) (g := g) (i := i) (q := q) hg hi (by rw [h1]; decide) (by rw [h1]; decide) hn q1 q2 e5 (fun a => by
      rw [fw _ _ _ (by decide) (by decide) (by decide)]
      unfold s_bM
      simp [k_up]) (fun a => by
      rw [fw _ _ _ (by decide) (by decide) (by decide)]
      unfold s_bM
      simp [k_up]) (fun a => by
      rw [fw _ _ _ (by decide) (by decide) (by decide)]
      unfold s_bM
      simp [k_up]) (fun a => by
      rw [fw _ _ _ (by decide) (by decide) (by decide)]
      unfold s_bM
      simp [k_up])
  have D0 : s_D (s_bK K g i (n &&& 31) q m) (s_bM M g i (n &&& 31) q m) := D.gen (fun r _ _ y hy => by rw [fr] at hy; exact hy) (fun k => s_bMf (by decide) (by decide) (by decide) (by decide) (by decide) (by decide) (by decide) (by decide) (by decide) (by decide)) (fun w hw r h2 h3 hm => by
      rw [fr] at hm
      have wi : w ≠ i := fun z => by
        rw [z] at hm
        exact A.nin hi ni2 h2 (by omega) hm
      refine ⟨s_bMf (by decide) (by decide) (by decide) (by decide) (by decide) (by decide) (by decide) (by decide) (by decide) (by decide), ?_, fun j => ?_⟩
      · unfold s_bK
        simp [k_up]
      · unfold s_bK
        simp [k_up, wi])
  have D1 := D0.wake J0 (g := i) (hl _ (by omega))
  have e9 : g_ready (s_bK K g i (n &&& 31) q m) i 0 0 9 = m_wake (s_bM M g i (n &&& 31) q m) i 0 0 28 := E1.nu 3 (by omega)
  rw [e9]
  refine ⟨s_R.nu (j := 3) ⟨I1, J1, E1, A1, B1, ⟨_, C1⟩, D1⟩, ?_, fun j => ?_⟩
  · rw [ku_f (by decide), e5, if_neg hig.symm, h1]
  · rw [ku_f (by decide), fw _ _ _ (by decide) (by decide) (by decide), f24]
theorem s_R.spawn {p x : Nat} {K M : kM} (R : s_R p x 6 K M) {g a : Nat} {m q n : Int32} (hg : g < 6) (ha : a < 4) (h1 : M 5 0 g = 1) : s_R p x 6 (k_up (g_spT K g m q n) 8 g a (g_spX K g q)) (k_up (m_spT M g (n &&& 31) q m) 15 0 (g * 4 + a) (m_spX M g q)) := by
  obtain ⟨rk, C⟩ := R.C
  have n5 : M 5 0 g ≠ -1 := by rw [h1]; decide
  have lf := s_left C hg n5
  have b := C.2.2 g hg n5
  have eq : g_qleft K g = M 8 0 g - M 9 0 g - M 10 0 g := by
    unfold g_qleft
    rw [R.E.qu g hg, R.E.us g hg, R.E.gi g hg]
  unfold g_spT g_spX m_spT m_spX m_sqT m_sqX
  rw [eq]
  by_cases z1 : q < 0
  · rw [if_pos z1, if_pos z1, if_pos z1, if_pos z1]
    exact R.reg hg ha (by rw [h1]; decide)
  · rw [if_neg z1, if_neg z1, if_neg z1, if_neg z1]
    by_cases z2 : q ≤ M 8 0 g - M 9 0 g - M 10 0 g
    · rw [if_pos z2, if_pos z2, if_neg (Int32.not_lt.mpr z2), if_neg (Int32.not_lt.mpr z2)]
      rcases s_sp R.E R.A (g := g) (m := m) (q := q) (n := n) 6 0 rfl with ⟨e1, e2, e3⟩ | ⟨e1, e2, e3, e4⟩
      · rw [e1, e2, e3, if_pos (show nI 6 = 6 from rfl), if_pos (show nI 6 = 6 from rfl)]
        exact R.reg hg ha (by rw [h1]; decide)
      · have n6 : ¬ nI (m_sf M 6 0) = 6 := fun z => by
          have := (nI_eq (a := m_sf M 6 0) (b := 6) (by omega) (by decide)).mp z
          omega
        rw [e3, e4, if_neg n6, if_neg n6]
        rw [Int32.lt_iff_toInt_lt] at z1
        rw [Int32.le_iff_toInt_le, lf] at z2
        have z0 : (0 : Int32).toInt = 0 := by decide
        obtain ⟨r1, r2, r3⟩ := R.sp1 (m := m) (q := q) (n := n) hg e1 h1 e2 (by omega) (by omega)
        exact r1.reg hg ha (by rw [r2]; decide)
    · rw [if_neg z2, if_neg z2, if_pos (Int32.not_le.mp z2), if_pos (Int32.not_le.mp z2)]
      exact R.reg hg ha (by rw [h1]; decide)
