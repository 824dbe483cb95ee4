/-! ===== indices of the reference's arrays ===== -/
theorem mx (a b c n : Nat) (h : a * b + c < n) (hn : n < 2 ^ 31) : vp_in (nI a * nI b + nI c) n ∧ (nI a * nI b + nI c).toNatClampNeg = a * b + c := by
  rw [pk_mul, nI_add]
  exact ⟨vp_in_nI h hn, nI_clamp (by omega)⟩
theorem mxp (a b n : Nat) (h : a * b < n) (hn : n < 2 ^ 31) : vp_in (nI a * nI b) n ∧ (nI a * nI b).toNatClampNeg = a * b := by
  rw [pk_mul]
  exact ⟨vp_in_nI h hn, nI_clamp (by omega)⟩
theorem mt (a b n : Nat) (h : a + b < n) (hn : n < 2 ^ 31) : vp_in (nI a + nI b) n ∧ (nI a + nI b).toNatClampNeg = a + b := by
  rw [nI_add]
  exact ⟨vp_in_nI h hn, nI_clamp (by omega)⟩
theorem mx1 (a b c d n : Nat) (h : a * b + c + d < n) (hn : n < 2 ^ 31) : vp_in (nI a * nI b + nI c + nI d) n ∧ (nI a * nI b + nI c + nI d).toNatClampNeg = a * b + c + d := by
  rw [pk_mul, nI_add, nI_add]
  exact ⟨vp_in_nI h hn, nI_clamp (by omega)⟩
theorem r_id {x : Int32} {n : Nat} (h : vp_in x n) (hn : n < 2 ^ 31) : x = nI x.toNatClampNeg := by
  obtain ⟨j, hj, rfl⟩ := r_nat h hn
  rw [nI_clamp (by omega)]
theorem r_szid {x : Int32} (h : 0 ≤ x ∧ x ≤ 6) : x = nI x.toNatClampNeg ∧ x.toNatClampNeg ≤ 6 := by
  obtain ⟨j, hj, rfl⟩ := r_sz h
  rw [nI_clamp (by omega)]
  exact ⟨rfl, hj⟩
theorem r_no {v : Int32} {n : Nat} (hn : n + 1 < 2 ^ 31) (h : m_no v (nI n) = 0) : vp_in v (n + 1) := by
  unfold m_no at h
  split at h
  · exact absurd h (by decide)
  · split at h
    · rename_i h0 h1
      refine r_lt hn h0 ?_
      rw [Int32.lt_iff_toInt_lt, nI_toInt hn]
      rw [Int32.le_iff_toInt_le, nI_toInt (by omega)] at h1
      omega
    · exact absurd h (by decide)
theorem mr2 {g : Nat} (h : g < 6) : k_rem (nI g) 2 = nI (g % 2) := by
  show nI g - nI g / nI 2 * nI 2 = _
  rw [pk_rem (by omega) (by decide) (by decide)]
theorem m_n6 {s : Int32} (h : vp_in s 6) : ¬ 6 ≤ s := by
  obtain ⟨j, hj, rfl⟩ := r_nat h (by decide)
  exact nI_ge hj (by decide)
