/-! ===== THE TWO SIDE BY SIDE (3): rows ===== -/
theorem s_mAf {M : kM} {r g f i j : Nat} (h1 : f ≠ 19) (h2 : f ≠ 20) : m_add M r g f i j = M f i j := by
  unfold m_add
  rw [ku_f h2, ku_f h1]
theorem s_frc {M M' : kM} (h : ∀ j, M' 18 0 j = M 18 0 j) : ∀ n, m_fr M' n = m_fr M n
  | 0 => rfl
  | n + 1 => by
    unfold m_fr
    rw [s_frc h n, h]
theorem s_szm {M : kM} {r g : Nat} (r' : Nat) : m_add M r g 20 0 r' = if r' = r then M 20 0 r + 1 else M 20 0 r' := by
  unfold m_add
  by_cases q : r' = r
  · subst q
    rw [ku_eq, if_pos rfl, ku_f (by decide)]
  · rw [ku_j q, ku_f (by decide), if_neg q]
theorem s_szk {M : kM} {r : Nat} (r' : Nat) : m_tkT M r 20 0 r' = if r' = r then M 20 0 r - 1 else M 20 0 r' := by
  unfold m_tkT
  rw [s_shf (by decide)]
  unfold m_tk1
  by_cases q : r' = r
  · subst q
    rw [ku_eq, if_pos rfl]
  · rw [ku_j q, if_neg q]
theorem s_E.len {x : Nat} {K M : kM} (E : s_E x K M) {r : Nat} (hr : r < 14) : (s_rK K r).length = (s_rM M r).length := by rw [E.ro r hr]
theorem s_E.z {x : Nat} {K M : kM} (E : s_E x K M) (J : m_Inv M) {r : Nat} (hr : r < 14) : (K 12 r 2 = 0) ↔ M 20 0 r ≤ 0 := by
  rw [E.sz r hr]
  exact ⟨fun h => by rw [h]; decide, fun h => Int32.le_antisymm h (J 20 0 r).1⟩
theorem s_E.add {x : Nat} {K M : kM} (E : s_E x K M) (I : g_Inv K) (J : m_Inv M) {r g : Nat} (hr : r < 14) (hl : (s_rM M r).length < 6) : s_E x (g_rowAdd K r (nI g)) (m_add M r g) := by
  refine ⟨?_, ?_, ?_, ?_, ?_, ?_, ?_, ?_, ?_, ?_, ?_, ?_, ?_, ?_, ?_, ?_, ?_, ?_, ?_, ?_, ?_, ?_, ?_, ?_, ?_, ?_⟩
  · intro i' h0
    simpa [s_rAf, s_mAf] using E.p0 _ h0
  · intro i' h0
    simpa [s_rAf, s_mAf] using E.p1 _ h0
  · intro i' h0
    simpa [s_rAf, s_mAf] using E.p2 _ h0
  · intro i' h0
    simpa [s_rAf, s_mAf] using E.p3 _ h0
  · intro j' h0
    simpa [s_rAf, s_mAf] using E.me _ h0
  · intro j' h0
    simpa [s_rAf, s_mAf] using E.tk _ h0
  · intro g' h0
    simpa [s_rAf, s_mAf] using E.st _ h0
  · intro g' h0 h1
    simpa [s_rAf, s_mAf] using E.pl _ h0 h1
  · intro g' h0
    simpa [s_rAf, s_mAf] using E.hd _ h0
  · intro g' h0
    simpa [s_rAf, s_mAf] using E.qu _ h0
  · intro g' h0
    simpa [s_rAf, s_mAf] using E.us _ h0
  · intro g' h0
    simpa [s_rAf, s_mAf] using E.gi _ h0
  · intro g' h0
    simpa [s_rAf, s_mAf] using E.pa _ h0
  · intro g' h0
    simpa [s_rAf, s_mAf] using E.oc _ h0
  · intro g' h0
    simpa [s_rAf, s_mAf] using E.tr _ h0
  · intro g' h0 j' h1
    simpa [s_rAf, s_mAf] using E.re _ h0 _ h1
  · intro g' h0 j' h1
    simpa [s_rAf, s_mAf] using E.pg _ h0 _ h1
  · intro p' h0
    simpa [s_rAf, s_mAf] using E.ha _ h0
  · intro p' h0
    simpa [s_rAf, s_mAf] using E.ti _ h0
  · intro r' h0
    rw [s_szA I (by rw [E.len hr]; exact hl), s_szm, E.sz _ h0, E.sz _ hr]
  · intro r' h0
    rw [s_rA I (by rw [E.len hr]; exact hl), s_add J hl, E.ro _ h0, E.ro _ hr]
  · intro k' h0
    simpa [s_rAf, s_mAf] using E.lo _ h0
  · intro k' h0
    simpa [s_rAf, s_mAf] using E.cs _ h0
  · intro k' h0 j' h1
    have h2 := E.cv _ h0 _ (by simpa [s_rAf, s_mAf] using h1)
    simpa [s_rAf, s_mAf] using h2
  · intro j' h0
    simpa [s_rAf, s_mAf] using E.nu _ h0
  · rw [s_frc (M := M) (fun j => by simp [s_rAf, s_mAf])]
    simpa [s_rAf, s_mAf] using E.fr
theorem s_E.hd0 {x : Nat} {K M : kM} (E : s_E x K M) (I : g_Inv K) (J : m_Inv M) {r : Nat} (hr : r < 14) (h : ¬ M 20 0 r ≤ 0) : g_rowX K r = m_tkX M r ∧ s_rK (g_rowT K r) r = s_rM (m_tkT M r) r := by
  have h1 := s_rT I (fun z => h ((E.z J hr).mp z))
  rw [E.ro r hr, s_tk J h] at h1
  injection h1 with a b
  exact ⟨a.symm, b.symm⟩
theorem s_E.take {x : Nat} {K M : kM} (E : s_E x K M) (I : g_Inv K) (J : m_Inv M) {r : Nat} (hr : r < 14) (h : ¬ M 20 0 r ≤ 0) : s_E x (g_rowT K r) (m_tkT M r) := by
  refine ⟨?_, ?_, ?_, ?_, ?_, ?_, ?_, ?_, ?_, ?_, ?_, ?_, ?_, ?_, ?_, ?_, ?_, ?_, ?_, ?_, ?_, ?_, ?_, ?_, ?_, ?_⟩
  · intro i' h0
    simpa [s_rTf, s_tkf] using E.p0 _ h0
  · intro i' h0
    simpa [s_rTf, s_tkf] using E.p1 _ h0
  · intro i' h0
    simpa [s_rTf, s_tkf] using E.p2 _ h0
  · intro i' h0
    simpa [s_rTf, s_tkf] using E.p3 _ h0
  · intro j' h0
    simpa [s_rTf, s_tkf] using E.me _ h0
  · intro j' h0
    simpa [s_rTf, s_tkf] using E.tk _ h0
  · intro g' h0
    simpa [s_rTf, s_tkf] using E.st _ h0
  · intro g' h0 h1
    simpa [s_rTf, s_tkf] using E.pl _ h0 h1
  · intro g' h0
    simpa [s_rTf, s_tkf] using E.hd _ h0
  · intro g' h0
    simpa [s_rTf, s_tkf] using E.qu _ h0
  · intro g' h0
    simpa [s_rTf, s_tkf] using E.us _ h0
  · intro g' h0
    simpa [s_rTf, s_tkf] using E.gi _ h0
  · intro g' h0
    simpa [s_rTf, s_tkf] using E.pa _ h0
  · intro g' h0
    simpa [s_rTf, s_tkf] using E.oc _ h0
  · intro g' h0
    simpa [s_rTf, s_tkf] using E.tr _ h0
  · intro g' h0 j' h1
    simpa [s_rTf, s_tkf] using E.re _ h0 _ h1
  · intro g' h0 j' h1
    simpa [s_rTf, s_tkf] using E.pg _ h0 _ h1
  · intro p' h0
    simpa [s_rTf, s_tkf] using E.ha _ h0
  · intro p' h0
    simpa [s_rTf, s_tkf] using E.ti _ h0
  · intro r' h0
    rw [s_szT (fun z => h ((E.z J hr).mp z)), s_szk, E.sz _ h0, E.sz _ hr]
  · intro r' h0
    by_cases q : r' = r
    · rw [q]
      exact (E.hd0 I J hr h).2
    · rw [s_rTo q, s_tko J h q]
      exact E.ro _ h0
  · intro k' h0
    simpa [s_rTf, s_tkf] using E.lo _ h0
  · intro k' h0
    simpa [s_rTf, s_tkf] using E.cs _ h0
  · intro k' h0 j' h1
    have h2 := E.cv _ h0 _ (by simpa [s_rTf, s_tkf] using h1)
    simpa [s_rTf, s_tkf] using h2
  · intro j' h0
    simpa [s_rTf, s_tkf] using E.nu _ h0
  · rw [s_frc (M := M) (fun j => by simp [s_rTf, s_tkf])]
    simpa [s_rTf, s_tkf] using E.fr
theorem s_ready {K : kM} {g : Nat} (I : g_Inv K) (hg : g < 6) : g_ready K g = g_rowAdd (k_up K 7 g 3 0) (g % 2) (nI g) := by
  have e : k_up K 7 g 3 0 7 g 0 = nI g := by
    rw [ku_j (by decide)]
    exact I 7 g 0
  unfold g_ready
  rw [e, mr2 hg, s_nC (by omega)]
theorem s_E.wake {x : Nat} {K M : kM} (E : s_E x K M) (I : g_Inv K) (J : m_Inv M) {g : Nat} (hg : g < 6) (hl : (s_rM M (g % 2)).length < 6) : s_E x (g_ready K g) (m_wake M g) := by
  rw [s_ready I hg]
  exact (E.w_st hg 0).add (k_Inv.up I trivial) (k_Inv.up J trivial) (by omega) (by rw [s_rM_up (by decide) (by decide)]; exact hl)
theorem s_block {K : kM} {g r : Nat} {a : Int32} (I : g_Inv K) : g_block K g a r = g_rowAdd (k_up (k_up K 7 g 3 2) 7 g 12 a) r (nI g) := by
  have e : k_up (k_up K 7 g 3 2) 7 g 12 a 7 g 0 = nI g := by
    rw [ku_j (by decide), ku_j (by decide)]
    exact I 7 g 0
  unfold g_block
  rw [e]
theorem s_E.blk {x : Nat} {K M : kM} (E : s_E x K M) (I : g_Inv K) (J : m_Inv M) {g r : Nat} {a : Int32} (ha : vp_in a 4) (hg : g < 6) (hr : r < 14) (hl : (s_rM M r).length < 6) : s_E x (g_block K g a r) (m_blk M g r) := by
  rw [s_block I]
  exact ((E.w_st hg 2).x_bl a).add (k_Inv.up (k_Inv.up I trivial) ha) (k_Inv.up J trivial) hr (by rw [s_rM_up (by decide) (by decide)]; exact hl)
