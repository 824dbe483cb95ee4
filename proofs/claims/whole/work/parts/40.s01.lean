/-! ===== THE TWO SIDE BY SIDE (1): rows as lists ===== -/
theorem ku_eq {K : kM} {f i j : Nat} {x : Int32} : k_up K f i j x f i j = x := by simp [k_up]
theorem ku_f {K : kM} {f i j a b c : Nat} {x : Int32} (h : a ≠ f) : k_up K f i j x a b c = K a b c := by simp [k_up, h]
theorem ku_i {K : kM} {f i j a b c : Nat} {x : Int32} (h : b ≠ i) : k_up K f i j x a b c = K a b c := by simp [k_up, h]
theorem ku_j {K : kM} {f i j a b c : Nat} {x : Int32} (h : c ≠ j) : k_up K f i j x a b c = K a b c := by simp [k_up, h]
theorem ku_self {K : kM} {f i j : Nat} : k_up K f i j (K f i j) = K := by
  funext a b c
  unfold k_up
  split
  · rename_i h
    rw [h.1, h.2.1, h.2.2]
  · rfl
theorem ku_comm {K : kM} {f i j f' i' j' : Nat} {x y : Int32} (h : ¬ (f = f' ∧ i = i' ∧ j = j')) : k_up (k_up K f i j x) f' i' j' y = k_up (k_up K f' i' j' y) f i j x := by
  funext a b c
  unfold k_up
  by_cases h1 : a = f ∧ c = j ∧ b = i
  · by_cases h2 : a = f' ∧ c = j' ∧ b = i'
    · exact absurd ⟨h1.1.symm.trans h2.1, h1.2.2.symm.trans h2.2.2, h1.2.1.symm.trans h2.2.1⟩ h
    · rw [if_neg h2, if_pos h1, if_pos h1]
  · by_cases h2 : a = f' ∧ c = j' ∧ b = i'
    · rw [if_pos h2, if_neg h1, if_pos h2]
    · rw [if_neg h2, if_neg h1, if_neg h1, if_neg h2]
def s_rM (M : kM) (r : Nat) : List Int32 := (List.range (M 20 0 r).toNatClampNeg).map fun k => M 19 0 (r * 6 + k)
def s_rK (K : kM) (r : Nat) : List Int32 := (List.range (K 12 r 2).toNatClampNeg).map fun k => K 13 r (((K 12 r 1).toNatClampNeg + k) % 6)
theorem s_rM_up {M : kM} {f i j r : Nat} {x : Int32} (h1 : f ≠ 19) (h2 : f ≠ 20) : s_rM (k_up M f i j x) r = s_rM M r := by
  simp [s_rM, k_up, h1.symm, h2.symm]
theorem s_rK_up {K : kM} {f i j r : Nat} {x : Int32} (h1 : f ≠ 12) (h2 : f ≠ 13) : s_rK (k_up K f i j x) r = s_rK K r := by
  simp [s_rK, k_up, h1.symm, h2.symm]
theorem s_rM_len {M : kM} {r : Nat} : (s_rM M r).length = (M 20 0 r).toNatClampNeg := by simp [s_rM]
theorem s_rK_len {K : kM} {r : Nat} : (s_rK K r).length = (K 12 r 2).toNatClampNeg := by simp [s_rK]
theorem s_nC {n : Nat} (h : n < 1000) : (nI n).toNatClampNeg = n := nI_clamp (by omega)
theorem s_sz {M : kM} {r : Nat} (I : m_Inv M) : ∃ n, n ≤ 6 ∧ M 20 0 r = nI n ∧ (M 20 0 r).toNatClampNeg = n := by
  obtain ⟨n, h1, h2⟩ := r_sz (I 20 0 r)
  exact ⟨n, h1, h2, by rw [h2, s_nC (by omega)]⟩
theorem s_szK {K : kM} {r : Nat} (I : g_Inv K) : ∃ n, n ≤ 6 ∧ K 12 r 2 = nI n ∧ (K 12 r 2).toNatClampNeg = n := by
  obtain ⟨n, h1, h2⟩ := r_sz (I 12 r 2)
  exact ⟨n, h1, h2, by rw [h2, s_nC (by omega)]⟩
theorem s_fiK {K : kM} {r : Nat} (I : g_Inv K) : ∃ n, n < 6 ∧ K 12 r 1 = nI n ∧ (K 12 r 1).toNatClampNeg = n := by
  obtain ⟨n, h1, h2⟩ := r_nat (I 12 r 1) (by decide)
  exact ⟨n, h1, h2, by rw [h2, s_nC (by omega)]⟩
theorem s_add {M : kM} {r g : Nat} (I : m_Inv M) (hr : (s_rM M r).length < 6) (r' : Nat) : s_rM (m_add M r g) r' = if r' = r then s_rM M r ++ [nI g] else s_rM M r' := by
  rw [s_rM_len] at hr
  obtain ⟨n, h1, h2, h3⟩ := s_sz (r := r) I
  rw [h3] at hr
  unfold m_add
  rw [h3, ku_f (by decide), h2, nI_1]
  by_cases q : r' = r
  · subst q
    rw [if_pos rfl]
    unfold s_rM
    rw [ku_eq, s_nC (by omega), h3, List.range_succ, List.map_append]
    congr 1
    · apply List.map_congr_left
      intro k hk
      have := List.mem_range.mp hk
      rw [ku_f (by decide), ku_j (by omega)]
    · simp [k_up]
  · rw [if_neg q]
    unfold s_rM
    rw [ku_j q, ku_f (by decide)]
    apply List.map_congr_left
    intro k hk
    have hk := List.mem_range.mp hk
    obtain ⟨n', g1, g2, g3⟩ := s_sz (r := r') I
    rw [g3] at hk
    rw [ku_f (by decide), ku_j (by omega)]
theorem s_sh {r : Nat} : ∀ (c k : Nat) (M : kM) (j : Nat), m_sh M r c k 19 0 j = if r * 6 + k ≤ j ∧ j < r * 6 + k + c then M 19 0 (j + 1) else M 19 0 j
  | 0, k, M, j => by
    rw [if_neg (by omega)]
    rfl
  | c + 1, k, M, j => by
    unfold m_sh
    rw [s_sh c (k + 1)]
    by_cases q : j = r * 6 + k
    · subst q
      rw [if_neg (by omega), if_pos (by omega), ku_eq]
    · by_cases q2 : r * 6 + (k + 1) ≤ j ∧ j < r * 6 + (k + 1) + c
      · rw [if_pos q2, if_pos (by omega), ku_j (by omega)]
      · rw [if_neg q2, if_neg (by omega), ku_j q]
theorem s_shf {r f : Nat} (hf : f ≠ 19) : ∀ (c k : Nat) (M : kM) (i j : Nat), m_sh M r c k f i j = M f i j
  | 0, _, _, _, _ => rfl
  | c + 1, k, M, i, j => by
    unfold m_sh
    rw [s_shf hf c (k + 1), ku_f hf]
theorem s_tkf {M : kM} {r f i j : Nat} (hf : f ≠ 19) (hg : f ≠ 20) : m_tkT M r f i j = M f i j := by
  unfold m_tkT m_tk1
  rw [s_shf hf, ku_f hg]
theorem s_tk {M : kM} {r : Nat} (I : m_Inv M) (h : ¬ M 20 0 r ≤ 0) : s_rM M r = m_tkX M r :: s_rM (m_tkT M r) r := by
  obtain ⟨s, h1, h2, h3⟩ := m_sz1 I h
  unfold s_rM m_tkT m_tkX
  rw [s_shf (by decide), h3, h2, s_nC (by omega), s_nC (by omega), List.range_succ_eq_map, List.map_cons, List.map_map]
  congr 1
  apply List.map_congr_left
  intro k hk
  have := List.mem_range.mp hk
  rw [s_sh, if_pos (by omega)]
  unfold m_tk1
  rw [ku_f (by decide)]
  rfl
theorem s_tko {M : kM} {r r' : Nat} (I : m_Inv M) (h : ¬ M 20 0 r ≤ 0) (q : r' ≠ r) : s_rM (m_tkT M r) r' = s_rM M r' := by
  obtain ⟨s, h1, h2, h3⟩ := m_sz1 I h
  obtain ⟨n', g1, g2, g3⟩ := s_sz (r := r') I
  unfold s_rM m_tkT
  rw [s_shf (by decide), h3, s_nC (by omega)]
  unfold m_tk1
  rw [ku_j q]
  apply List.map_congr_left
  intro k hk
  have hk := List.mem_range.mp hk
  rw [g3] at hk
  rw [s_sh]
  by_cases z : r * 6 + 0 ≤ r' * 6 + k ∧ r' * 6 + k < r * 6 + 0 + s
  · exfalso
    omega
  · rw [if_neg z, ku_f (by decide)]
theorem s_rem6 {a b : Nat} (h : a + b < 1000) : k_rem (nI a + nI b) 6 = nI ((a + b) % 6) := by
  rw [nI_add]
  exact pk_rem (d := 6) (by omega) (by decide) (by decide)
theorem s_rAf {K : kM} {r f i j : Nat} {x : Int32} (h1 : f ≠ 12) (h2 : f ≠ 13) : g_rowAdd K r x f i j = K f i j := by
  unfold g_rowAdd
  split
  · rfl
  · rw [ku_f h1, ku_f h2]
theorem s_rTf {K : kM} {r f i j : Nat} (h1 : f ≠ 12) : g_rowT K r f i j = K f i j := by
  unfold g_rowT
  split
  · rfl
  · rw [ku_f h1, ku_f h1]
theorem s_rA {K : kM} {r : Nat} {x : Int32} (I : g_Inv K) (hr : (s_rK K r).length < 6) (r' : Nat) : s_rK (g_rowAdd K r x) r' = if r' = r then s_rK K r ++ [x] else s_rK K r' := by
  rw [s_rK_len] at hr
  obtain ⟨n, h1, h2, h3⟩ := s_szK (r := r) I
  obtain ⟨a, a1, a2, a3⟩ := s_fiK (r := r) I
  rw [h3] at hr
  have hn : ¬ 6 ≤ K 12 r 2 := by rw [h2]; exact nI_ge (b := 6) hr (by decide)
  unfold g_rowAdd
  rw [if_neg hn, ku_f (by decide), h2, a2, s_rem6 (by omega), nI_1, s_nC (by omega)]
  by_cases q : r' = r
  · subst q
    rw [if_pos rfl]
    unfold s_rK
    rw [ku_eq, s_nC (by omega), h3, List.range_succ, List.map_append, ku_j (c := 1) (by decide), ku_f (a := 12) (by decide), a3]
    congr 1
    · apply List.map_congr_left
      intro k hk
      have := List.mem_range.mp hk
      rw [ku_f (by decide), ku_j (by omega)]
    · simp [k_up]
  · rw [if_neg q]
    unfold s_rK
    simp only [k_up, q, and_false, if_false]
theorem s_szA {K : kM} {r : Nat} {x : Int32} (I : g_Inv K) (hr : (s_rK K r).length < 6) (r' : Nat) : g_rowAdd K r x 12 r' 2 = if r' = r then K 12 r 2 + 1 else K 12 r' 2 := by
  rw [s_rK_len] at hr
  obtain ⟨n, h1, h2, h3⟩ := s_szK (r := r) I
  rw [h3] at hr
  have hn : ¬ 6 ≤ K 12 r 2 := by rw [h2]; exact nI_ge (b := 6) hr (by decide)
  unfold g_rowAdd
  rw [if_neg hn]
  by_cases q : r' = r
  · subst q
    rw [ku_eq, if_pos rfl, ku_f (by decide)]
  · rw [ku_i q, ku_f (by decide), if_neg q]
theorem s_rT {K : kM} {r : Nat} (I : g_Inv K) (h : ¬ K 12 r 2 = 0) : s_rK K r = g_rowX K r :: s_rK (g_rowT K r) r := by
  obtain ⟨n, h1, h2, h3⟩ := s_szK (r := r) I
  obtain ⟨a, a1, a2, a3⟩ := s_fiK (r := r) I
  have hn : n ≠ 0 := fun z => h (by rw [h2, z]; rfl)
  obtain ⟨s, rfl⟩ : ∃ s, n = s + 1 := ⟨n - 1, by omega⟩
  unfold g_rowX g_rowT
  rw [if_neg h, if_neg h]
  unfold s_rK
  rw [ku_eq, ku_j (c := 2) (by decide), h2, nI_pred, s_nC (by omega), s_nC (by omega), List.range_succ_eq_map, List.map_cons, List.map_map, a2, s_nC (by omega), ku_j (c := 1) (by decide), ku_eq]
  have e : k_rem (nI a + 1) 6 = nI ((a + 1) % 6) := s_rem6 (b := 1) (by omega)
  rw [e, s_nC (by omega)]
  congr 1
  · rw [Nat.add_zero, Nat.mod_eq_of_lt a1]
  · apply List.map_congr_left
    intro k hk
    rw [ku_f (by decide), ku_f (by decide)]
    show K 13 r ((a + (k + 1)) % 6) = _
    congr 1
    omega
theorem s_rTo {K : kM} {r r' : Nat} (q : r' ≠ r) : s_rK (g_rowT K r) r' = s_rK K r' := by
  unfold g_rowT
  split
  · rfl
  · unfold s_rK
    simp only [k_up, q, and_false, if_false]
theorem s_rX0 {K : kM} {r : Nat} (h : K 12 r 2 = 0) : g_rowX K r = -1 ∧ g_rowT K r = K := by
  unfold g_rowX g_rowT
  rw [if_pos h, if_pos h]
  exact ⟨rfl, rfl⟩
theorem s_szT {K : kM} {r : Nat} (h : ¬ K 12 r 2 = 0) (r' : Nat) : g_rowT K r 12 r' 2 = if r' = r then K 12 r 2 - 1 else K 12 r' 2 := by
  unfold g_rowT
  rw [if_neg h]
  by_cases q : r' = r
  · subst q
    rw [ku_eq, if_pos rfl, ku_j (by decide)]
  · rw [ku_i q, ku_i q, if_neg q]
