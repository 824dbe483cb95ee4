/-! ===== more of the reference's ranges ===== -/
theorem m_fin {f n : Nat} (hn : n < 2 ^ 31) (h : f ≤ n) (q : ¬ nI f = nI n) : f < n := by
  rcases Nat.lt_or_eq_of_le h with z | z
  · exact z
  · exact absurd (by rw [z]) q
theorem r_h2 {x : Int32} (h : 0 ≤ x ∧ x ≤ 2) (q : ¬ 2 ≤ x) : vp_in x 2 := by
  refine r_lt (by decide) ?_ ?_
  · exact Int32.not_lt.mpr h.1
  · exact Int32.not_le.mp q
theorem r_hm {x : Int32} (h : 0 ≤ x ∧ x ≤ 2) (q : ¬ x = 0) : 0 ≤ x - 1 ∧ x - 1 ≤ 2 :=
  r_szm2 h (fun z => q (Int32.le_antisymm z h.1))
theorem iv_mblk {K : kM} {g r : Nat} (I : m_Inv K) (ht : m_tot K ≤ 5) (hr : r < 14) (hg : g < 6) : m_Inv (m_blk K g r) := by
  have e : m_tot (k_up K 5 0 g 2) = m_tot K := mt_ne (by decide)
  exact iv_madd (k_Inv.up I trivial) (by omega) hr hg
theorem mt_blk {K : kM} {g r : Nat} (I : m_Inv K) (ht : m_tot K ≤ 5) (hr : r < 14) : m_tot (m_blk K g r) = m_tot K + 1 := by
  have e : m_tot (k_up K 5 0 g 2) = m_tot K := mt_ne (by decide)
  have I1 : m_Inv (k_up K 5 0 g 2) := k_Inv.up I trivial
  unfold m_blk
  rw [mt_add I1 (by omega) hr, e]
theorem mt_rc1 {K : kM} {g k a : Nat} : m_tot (m_rc1 K g k a) = m_tot K := by
  unfold m_rc1
  rw [mt_ne (by decide), mt_ne (by decide), mt_ne (by decide)]
theorem m_mfle {K : kM} : ∀ c i : Nat, m_mf K c i ≤ c + i
  | 0, i => by simp [m_mf]
  | c + 1, i => by
    unfold m_mf
    split
    · omega
    · have := m_mfle (K := K) c (i + 1)
      omega
theorem m_sfle {K : kM} : ∀ c i : Nat, m_sf K c i ≤ c + i
  | 0, i => by simp [m_sf]
  | c + 1, i => by
    unfold m_sf
    split
    · omega
    · have := m_sfle (K := K) c (i + 1)
      omega
