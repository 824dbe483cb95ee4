/-! ===== ranges ===== -/
theorem r_nat {x : Int32} {n : Nat} (h : vp_in x n) (hn : n < 2 ^ 31) : ∃ j : Nat, j < n ∧ x = nI j := vp_in_of h hn
theorem r_sz {s : Int32} (h : 0 ≤ s ∧ s ≤ 6) : ∃ j : Nat, j ≤ 6 ∧ s = nI j := nI_of2 (M := 6) (n := 6) (by decide) (fun q => absurd h.1 (by rw [Int32.not_le]; exact q)) h.2
theorem r_sz2 {s : Int32} (h : 0 ≤ s ∧ s ≤ 2) : ∃ j : Nat, j ≤ 2 ∧ s = nI j := nI_of2 (M := 2) (n := 2) (by decide) (fun q => absurd h.1 (by rw [Int32.not_le]; exact q)) h.2
theorem r_idx {a s : Int32} (ha : vp_in a 6) (hs : 0 ≤ s ∧ s ≤ 6) : vp_in (k_rem (a + s) 6) 6 := by
  obtain ⟨i, hi, rfl⟩ := r_nat ha (by decide)
  obtain ⟨j, hj, rfl⟩ := r_sz hs
  show vp_in (nI i + nI j - (nI i + nI j) / nI 6 * nI 6) 6
  rw [nI_add, pk_rem (by omega) (by decide) (by decide)]
  exact vp_in_nI (Nat.mod_lt _ (by decide)) (by decide)
theorem r_fi1 {a : Int32} (ha : vp_in a 6) : vp_in (k_rem (a + 1) 6) 6 := r_idx ha (s := 1) (by decide)
theorem r_szp {s : Int32} (hs : 0 ≤ s ∧ s ≤ 6) (h : ¬ 6 ≤ s) : 0 ≤ s + 1 ∧ s + 1 ≤ 6 := by
  obtain ⟨j, hj, rfl⟩ := r_sz hs
  have : j < 6 := by
    rcases Nat.lt_or_ge j 6 with q | q
    · exact q
    · exact absurd (show nI 6 ≤ nI j from nI_le q (by omega)) h
  rw [nI_1]
  exact ⟨nI_pos' (by omega), show nI (j + 1) ≤ nI 6 from nI_le (by omega) (by decide)⟩
theorem r_szm {s : Int32} (hs : 0 ≤ s ∧ s ≤ 6) (h : ¬ s = 0) : 0 ≤ s - 1 ∧ s - 1 ≤ 6 := by
  obtain ⟨j, hj, rfl⟩ := r_sz hs
  cases j with
  | zero => exact absurd rfl h
  | succ j =>
    rw [nI_pred]
    exact ⟨nI_pos' (by omega), show nI j ≤ nI 6 from nI_le (by omega) (by decide)⟩
theorem iv_rowAdd {K : kM} {r : Nat} {x : Int32} (I : g_Inv K) (hx : vp_in x 6) : g_Inv (g_rowAdd K r x) := by
  unfold g_rowAdd
  split
  · exact I
  · rename_i h
    exact k_Inv.up (k_Inv.up I hx) (r_szp (I 12 r 2) h)
theorem iv_rowT {K : kM} {r : Nat} (I : g_Inv K) : g_Inv (g_rowT K r) := by
  unfold g_rowT
  split
  · exact I
  · rename_i h
    exact k_Inv.up (k_Inv.up I (r_fi1 (I 12 r 1))) (r_szm (I 12 r 2) h)
