/-! ===== how many wait in rows; the ranges of the reference are kept ===== -/
def m_tot (K : kM) : Nat := (K 20 0 0).toNatClampNeg + (K 20 0 1).toNatClampNeg + (K 20 0 2).toNatClampNeg + (K 20 0 3).toNatClampNeg + (K 20 0 4).toNatClampNeg + (K 20 0 5).toNatClampNeg + (K 20 0 6).toNatClampNeg + (K 20 0 7).toNatClampNeg + (K 20 0 8).toNatClampNeg + (K 20 0 9).toNatClampNeg + (K 20 0 10).toNatClampNeg + (K 20 0 11).toNatClampNeg + (K 20 0 12).toNatClampNeg + (K 20 0 13).toNatClampNeg
theorem m_c14 {r : Nat} (h : r < 14) : r = 0 ∨ r = 1 ∨ r = 2 ∨ r = 3 ∨ r = 4 ∨ r = 5 ∨ r = 6 ∨ r = 7 ∨ r = 8 ∨ r = 9 ∨ r = 10 ∨ r = 11 ∨ r = 12 ∨ r = 13 := by omega
theorem mt_le {K : kM} {r : Nat} (hr : r < 14) : (K 20 0 r).toNatClampNeg ≤ m_tot K := by
  unfold m_tot
  rcases m_c14 hr with rfl | rfl | rfl | rfl | rfl | rfl | rfl | rfl | rfl | rfl | rfl | rfl | rfl | rfl <;> omega
theorem mt_ne {K : kM} {f i j : Nat} {x : Int32} (h : f ≠ 20) : m_tot (k_up K f i j x) = m_tot K := by
  have e : ∀ a, k_up K f i j x 20 0 a = K 20 0 a := fun a => by
    unfold k_up
    rw [if_neg (fun q => h q.1.symm)]
  unfold m_tot
  simp only [e]
theorem mt_up {K : kM} {r : Nat} {x : Int32} (hr : r < 14) : m_tot (k_up K 20 0 r x) + (K 20 0 r).toNatClampNeg = m_tot K + x.toNatClampNeg := by
  have e : ∀ a, a ≠ r → k_up K 20 0 r x 20 0 a = K 20 0 a := fun a q => by
    unfold k_up
    rw [if_neg (fun z => q z.2.1)]
  have e0 := k_up_eq K 20 0 r x
  unfold m_tot
  rcases m_c14 hr with rfl | rfl | rfl | rfl | rfl | rfl | rfl | rfl | rfl | rfl | rfl | rfl | rfl | rfl <;>
    (rw [e0]
     repeat rw [e _ (by decide)]
     omega)
theorem mt_v {K : kM} {r : Nat} (I : m_Inv K) (ht : m_tot K ≤ 5) (hr : r < 14) : vp_in (K 20 0 r) 6 := by
  have h1 := r_szid (I 20 0 r)
  have h2 := mt_le (K := K) hr
  rw [h1.1]
  exact vp_in_nI (by omega) (by decide)
theorem mt_add {K : kM} {r g : Nat} (I : m_Inv K) (ht : m_tot K ≤ 5) (hr : r < 14) : m_tot (m_add K r g) = m_tot K + 1 := by
  obtain ⟨s, hs, e⟩ := r_nat (mt_v I ht hr) (by decide)
  have h := mt_up (K := k_up K 19 0 (r * 6 + (K 20 0 r).toNatClampNeg) (nI g)) (r := r) (x := k_up K 19 0 (r * 6 + (K 20 0 r).toNatClampNeg) (nI g) 20 0 r + 1) hr
  rw [mt_ne (K := K) (f := 19) (by decide)] at h
  unfold m_add
  have e2 : k_up K 19 0 (r * 6 + (K 20 0 r).toNatClampNeg) (nI g) 20 0 r = nI s := e
  rw [e2] at h ⊢
  rw [nI_1, nI_clamp (by omega), nI_clamp (by omega)] at h
  rw [nI_1]
  omega
theorem iv_madd {K : kM} {r g : Nat} (I : m_Inv K) (ht : m_tot K ≤ 5) (hr : r < 14) (hg : g < 6) : m_Inv (m_add K r g) := by
  refine k_Inv.up (k_Inv.up I (vp_in_nI hg (by decide))) ?_
  obtain ⟨s, hs, e⟩ := r_nat (mt_v I ht hr) (by decide)
  have e2 : k_up K 19 0 (r * 6 + (K 20 0 r).toNatClampNeg) (nI g) 20 0 r = nI s := e
  rw [e2, nI_1]
  exact ⟨nI_pos' (by omega), show nI (s + 1) ≤ nI 6 from nI_le (by omega) (by decide)⟩
theorem mt_sh {r : Nat} : ∀ (c k : Nat) (K : kM), m_tot (m_sh K r c k) = m_tot K
  | 0, _, _ => rfl
  | c + 1, k, K => by
    unfold m_sh
    rw [mt_sh c (k + 1), mt_ne (by decide)]
theorem iv_msh {r : Nat} : ∀ (c k : Nat) (K : kM), m_Inv K → m_Inv (m_sh K r c k)
  | 0, _, _, I => I
  | c + 1, k, K, I => iv_msh c (k + 1) _ (k_Inv.up I (I 19 0 (r * 6 + k + 1)))
theorem m_sz1 {K : kM} {r : Nat} (I : m_Inv K) (h : ¬ K 20 0 r ≤ 0) : ∃ s, s < 6 ∧ K 20 0 r = nI (s + 1) ∧ m_tk1 K r 20 0 r = nI s := by
  obtain ⟨j, hj, e⟩ := r_sz (I 20 0 r)
  cases j with
  | zero =>
    rw [e] at h
    exact absurd (show nI 0 ≤ 0 from by decide) h
  | succ j =>
    refine ⟨j, by omega, e, ?_⟩
    unfold m_tk1
    rw [k_up_eq, e, nI_pred]
theorem iv_mtk1 {K : kM} {r : Nat} (I : m_Inv K) (h : ¬ K 20 0 r ≤ 0) : m_Inv (m_tk1 K r) := by
  obtain ⟨s, hs, e1, e2⟩ := m_sz1 I h
  unfold m_tk1 at e2 ⊢
  rw [k_up_eq] at e2
  refine k_Inv.up I ?_
  rw [e2]
  exact ⟨nI_pos' (by omega), show nI s ≤ nI 6 from nI_le (by omega) (by decide)⟩
theorem iv_mtk {K : kM} {r : Nat} (I : m_Inv K) (h : ¬ K 20 0 r ≤ 0) : m_Inv (m_tkT K r) := iv_msh _ _ _ (iv_mtk1 I h)
theorem mt_tk {K : kM} {r : Nat} (I : m_Inv K) (h : ¬ K 20 0 r ≤ 0) (hr : r < 14) : m_tot (m_tkT K r) + 1 = m_tot K := by
  obtain ⟨s, hs, e1, e2⟩ := m_sz1 I h
  unfold m_tkT
  rw [mt_sh]
  have q := mt_up (K := K) (r := r) (x := K 20 0 r - 1) hr
  unfold m_tk1 at e2 ⊢
  rw [k_up_eq] at e2
  rw [e2] at q ⊢
  rw [e1, nI_clamp (by omega), nI_clamp (by omega)] at q
  omega
theorem r_tkX {K : kM} (r : Nat) (I : m_Inv K) : vp_in (m_tkX K r) 6 := I 19 0 (r * 6)
theorem mt_wake {K : kM} {g : Nat} (I : m_Inv K) (ht : m_tot K ≤ 5) : m_tot (m_wake K g) = m_tot K + 1 := by
  have e : m_tot (k_up K 5 0 g 0) = m_tot K := mt_ne (by decide)
  unfold m_wake
  have I1 : m_Inv (k_up K 5 0 g 0) := k_Inv.up I trivial
  rw [mt_add I1 (by omega) (by omega), e]
theorem iv_mwake {K : kM} {g : Nat} (I : m_Inv K) (ht : m_tot K ≤ 5) (hg : g < 6) : m_Inv (m_wake K g) := by
  have e : m_tot (k_up K 5 0 g 0) = m_tot K := mt_ne (by decide)
  exact iv_madd (k_Inv.up I trivial) (by omega) (by omega) hg
theorem iv_mbeg0 {K : kM} {g : Nat} {a q b : Int32} (I : m_Inv K) (ha : vp_in a 32) : m_Inv (m_beg0 K g a q b) := by
  unfold m_beg0
  refine k_Inv.up (k_Inv.up (k_Inv.up (k_Inv.up (k_Inv.up (k_Inv.up (k_Inv.up (k_Inv.up I ha) trivial) trivial) (Or.inl rfl)) trivial) trivial) trivial) trivial
theorem mt_beg0 {K : kM} {g : Nat} {a q b : Int32} : m_tot (m_beg0 K g a q b) = m_tot K := by
  unfold m_beg0
  rw [mt_ne (by decide), mt_ne (by decide), mt_ne (by decide), mt_ne (by decide), mt_ne (by decide), mt_ne (by decide), mt_ne (by decide), mt_ne (by decide)]
theorem iv_mbegL {K : kM} {g : Nat} (I : m_Inv K) : ∀ n, m_Inv (m_begL K g n)
  | 0 => I
  | n + 1 => k_Inv.up (f := 16) (x := -1) (k_Inv.up (f := 15) (x := 0) (iv_mbegL I n) trivial) (Or.inl rfl)
theorem mt_begL {K : kM} {g : Nat} : ∀ n, m_tot (m_begL K g n) = m_tot K
  | 0 => rfl
  | n + 1 => by
    unfold m_begL
    rw [mt_ne (by decide), mt_ne (by decide), mt_begL n]
theorem iv_mbegin {K : kM} {g : Nat} {a q b : Int32} (I : m_Inv K) (ht : m_tot K ≤ 5) (hg : g < 6) (ha : vp_in a 32) : m_Inv (m_begin K g a q b) := by
  refine iv_mwake (iv_mbegL (iv_mbeg0 I ha) 4) ?_ hg
  rw [mt_begL, mt_beg0]
  exact ht
theorem mt_begin {K : kM} {g : Nat} {a q b : Int32} (I : m_Inv K) (ht : m_tot K ≤ 5) (ha : vp_in a 32) : m_tot (m_begin K g a q b) = m_tot K + 1 := by
  unfold m_begin
  rw [mt_wake (iv_mbegL (iv_mbeg0 I ha) 4) (by rw [mt_begL, mt_beg0]; exact ht), mt_begL, mt_beg0]
theorem iv_munmap {K : kM} {g p : Nat} (I : m_Inv K) : m_Inv (m_unmap K g p) := by
  unfold m_unmap
  split
  · exact k_Inv.up (k_Inv.up (k_Inv.up I trivial) (Or.inl rfl)) trivial
  · exact I
theorem mt_unmap {K : kM} {g p : Nat} : m_tot (m_unmap K g p) = m_tot K := by
  unfold m_unmap
  split
  · rw [mt_ne (by decide), mt_ne (by decide), mt_ne (by decide)]
  · rfl
theorem iv_munl1 {K : kM} {k : Nat} (I : m_Inv K) : m_Inv (m_unl1 K k) := by
  unfold m_unl1
  split
  · exact k_Inv.up I (Or.inl rfl)
  · exact k_Inv.up (iv_mtk I ‹_›) (Or.inr (r_tkX _ I))
theorem m_neg {x : Int32} (h : x = -1 ∨ vp_in x 6) (q : ¬ x < 0) : vp_in x 6 := by
  rcases h with h | h
  · rw [h] at q
    exact absurd (by decide) q
  · exact h
theorem mt_unl1 {K : kM} {k : Nat} (I : m_Inv K) (hk : k < 4) : m_tot (m_unl1 K k) ≤ m_tot K ∧ (¬ m_unl1 K k 23 0 k < 0 → m_tot (m_unl1 K k) + 1 = m_tot K) := by
  unfold m_unl1
  split
  · rw [mt_ne (by decide), k_up_eq]
    exact ⟨Nat.le_refl _, fun h => absurd (by decide) h⟩
  · rename_i h
    rw [mt_ne (by decide)]
    have := mt_tk I h (by omega)
    exact ⟨by omega, fun _ => this⟩
theorem mt_unl {K : kM} {k : Nat} (I : m_Inv K) (ht : m_tot K ≤ 6) (hk : k < 4) : m_tot (m_unl K k) ≤ m_tot K := by
  obtain ⟨h1, h2⟩ := mt_unl1 I hk
  unfold m_unl
  split
  · exact h1
  · rename_i h
    have := h2 h
    rw [mt_wake (iv_munl1 I) (by omega)]
    omega
theorem iv_munl {K : kM} {k : Nat} (I : m_Inv K) (ht : m_tot K ≤ 6) (hk : k < 4) : m_Inv (m_unl K k) := by
  obtain ⟨h1, h2⟩ := mt_unl1 I hk
  unfold m_unl
  split
  · exact iv_munl1 I
  · rename_i h
    have := h2 h
    exact iv_mwake (iv_munl1 I) (by omega) (k_lt (m_neg (iv_munl1 I 23 0 k) h))
theorem mt_dU {K : kM} {g : Nat} : ∀ n, m_tot (m_dU K g n) = m_tot K
  | 0 => rfl
  | n + 1 => by
    unfold m_dU
    rw [mt_unmap, mt_dU n]
theorem iv_mdU {K : kM} {g : Nat} (I : m_Inv K) : ∀ n, m_Inv (m_dU K g n)
  | 0 => I
  | n + 1 => iv_munmap (iv_mdU I n)
theorem j_dL1 {K : kM} {g k : Nat} (I : m_Inv K) (ht : m_tot K ≤ 6) (hk : k < 4) : m_Inv (m_dL1 K g k) ∧ m_tot (m_dL1 K g k) ≤ m_tot K := by
  unfold m_dL1
  split
  · exact ⟨iv_munl I ht hk, mt_unl I ht hk⟩
  · exact ⟨I, Nat.le_refl _⟩
theorem j_dL {K : kM} {g : Nat} (I : m_Inv K) (ht : m_tot K ≤ 6) : ∀ n, n ≤ 4 → m_Inv (m_dL K g n) ∧ m_tot (m_dL K g n) ≤ m_tot K
  | 0, _ => ⟨I, Nat.le_refl _⟩
  | n + 1, h => by
    obtain ⟨a, b⟩ := j_dL (g := g) I ht n (by omega)
    obtain ⟨c, d⟩ := j_dL1 (g := g) a (by omega) (show n < 4 by omega)
    exact ⟨c, Nat.le_trans d b⟩
theorem iv_mdC1 {K : kM} {g c : Nat} (I : m_Inv K) : m_Inv (m_dC1 K g c) := by
  unfold m_dC1
  split
  · exact I
  · split
    · exact k_Inv.up (k_Inv.up I trivial) trivial
    · exact I
theorem mt_dC1 {K : kM} {g c : Nat} : m_tot (m_dC1 K g c) = m_tot K := by
  unfold m_dC1
  split
  · rfl
  · split
    · rw [mt_ne (by decide), mt_ne (by decide)]
    · rfl
theorem iv_mdC {K : kM} {g : Nat} (I : m_Inv K) : ∀ n, m_Inv (m_dC K g n)
  | 0 => I
  | n + 1 => iv_mdC1 (iv_mdC I n)
theorem mt_dC {K : kM} {g : Nat} : ∀ n, m_tot (m_dC K g n) = m_tot K
  | 0 => rfl
  | n + 1 => by
    unfold m_dC
    rw [mt_dC1, mt_dC n]
theorem j_die {K : kM} {g : Nat} {w : Int32} (I : m_Inv K) (ht : m_tot K ≤ 6) : m_Inv (m_die K g w) ∧ m_tot (m_die K g w) ≤ m_tot K := by
  have I1 : m_Inv (m_dU (k_up (k_up K 5 0 g 3) 12 0 g w) g 4) := iv_mdU (k_Inv.up (f := 12) (k_Inv.up (f := 5) (x := 3) I trivial) trivial) 4
  have t1 : m_tot (m_dU (k_up (k_up K 5 0 g 3) 12 0 g w) g 4) = m_tot K := by rw [mt_dU, mt_ne (by decide), mt_ne (by decide)]
  obtain ⟨I2, t2⟩ := j_dL (g := g) I1 (by omega) 4 (by omega)
  unfold m_die
  refine ⟨k_Inv.up (iv_mdC I2 6) trivial, ?_⟩
  rw [mt_ne (by decide), mt_dC]
  omega
theorem iv_mtr2 {K : kM} {g : Nat} (I : m_Inv K) : m_Inv (m_tr2 K g) := k_Inv.up (k_Inv.up I trivial) trivial
theorem mt_tr2 {K : kM} {g : Nat} : m_tot (m_tr2 K g) = m_tot K := by
  unfold m_tr2
  rw [mt_ne (by decide), mt_ne (by decide)]
theorem m_neg32 {x : Int32} (h : x = -1 ∨ vp_in x 32) (q : 0 ≤ x) : vp_in x 32 := by
  rcases h with h | h
  · rw [h] at q
    exact absurd q (by decide)
  · exact h
theorem m_neg12 {x : Int32} (h : x = -1 ∨ vp_in x 12) (q : 0 ≤ x) : vp_in x 12 := by
  rcases h with h | h
  · rw [h] at q
    exact absurd q (by decide)
  · exact h
theorem j_trap {K : kM} {g : Nat} {kd : Int32} (I : m_Inv K) (ht : m_tot K ≤ 6) : m_Inv (m_trap K g kd) ∧ m_tot (m_trap K g kd) ≤ m_tot K := by
  have I2 := iv_mtr2 (g := g) I
  have t2 := mt_tr2 (K := K) (g := g)
  unfold m_trap
  split
  · rename_i h
    refine ⟨k_Inv.up (k_Inv.up (k_Inv.up I2 trivial) (m_neg32 (I2 7 0 g) h)) (Or.inl rfl), ?_⟩
    rw [mt_ne (by decide), mt_ne (by decide), mt_ne (by decide)]
    omega
  · obtain ⟨a, b⟩ := j_die (g := g) (w := -100 - kd) I2 (by omega)
    exact ⟨a, by omega⟩
theorem m_tkz {K : kM} {r : Nat} (I : m_Inv K) (h : ¬ K 20 0 r ≤ 0) : m_tk1 K r 20 0 r = nI ((m_tk1 K r 20 0 r).toNatClampNeg + 0) ∧ (m_tk1 K r 20 0 r).toNatClampNeg + 0 ≤ 5 := by
  obtain ⟨s, hs, e1, e2⟩ := m_sz1 I h
  rw [e2, nI_clamp (by omega)]
  exact ⟨rfl, by omega⟩
