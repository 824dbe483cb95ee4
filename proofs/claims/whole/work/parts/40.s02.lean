/-! ===== THE TWO SIDE BY SIDE (2): what is equal, slot by slot (x: a guest whose place is left out) ===== -/
def s_E (x : Nat) (K M : kM) : Prop := (∀ i, i < 32 → K 2 0 (i * 4) = M 1 0 i) ∧ (∀ i, i < 32 → K 2 0 (i * 4 + 1) = M 2 0 i) ∧ (∀ i, i < 32 → K 2 0 (i * 4 + 2) = M 3 0 i) ∧ (∀ i, i < 32 → K 2 0 (i * 4 + 3) = M 4 0 i) ∧ (∀ j, j < 96 → K 4 0 j = M 17 0 j) ∧ (∀ j, j < 12 → K 5 0 j = M 18 0 j) ∧ (∀ g, g < 6 → K 7 g 3 = M 5 0 g) ∧ (∀ g, g < 6 → g ≠ x → K 7 g 4 = M 6 0 g) ∧ (∀ g, g < 6 → K 7 g 5 = M 7 0 g) ∧ (∀ g, g < 6 → K 7 g 6 = M 8 0 g) ∧ (∀ g, g < 6 → K 7 g 7 = M 9 0 g) ∧ (∀ g, g < 6 → K 7 g 8 = M 10 0 g) ∧ (∀ g, g < 6 → K 7 g 9 = M 11 0 g) ∧ (∀ g, g < 6 → K 7 g 10 = M 12 0 g) ∧ (∀ g, g < 6 → K 7 g 11 = M 13 0 g) ∧ (∀ g, g < 6 → ∀ j, j < 4 → K 8 g j = M 15 0 (g * 4 + j)) ∧ (∀ g, g < 6 → ∀ j, j < 4 → K 9 g j = M 16 0 (g * 4 + j)) ∧ (∀ p, p < 2 → K 11 p 1 = M 24 0 p) ∧ (∀ p, p < 2 → K 11 p 2 = M 25 0 p) ∧ (∀ r, r < 14 → K 12 r 2 = M 20 0 r) ∧ (∀ r, r < 14 → s_rK K r = s_rM M r) ∧ (∀ k, k < 4 → K 15 k 1 = M 23 0 k) ∧ (∀ k, k < 4 → K 17 k 3 = M 22 0 k) ∧ (∀ k, k < 4 → ∀ j, j < (M 22 0 k).toNatClampNeg → K 18 k j = M 21 0 (k * 2 + j)) ∧ (∀ j, j < 7 → K 0 0 (6 + j) = M 0 0 (25 + j)) ∧ (K 3 0 2 = m_fr M 12)
theorem s_E.p0 {x : Nat} {K M : kM} (E : s_E x K M) : ∀ i, i < 32 → K 2 0 (i * 4) = M 1 0 i := E.1
theorem s_E.p1 {x : Nat} {K M : kM} (E : s_E x K M) : ∀ i, i < 32 → K 2 0 (i * 4 + 1) = M 2 0 i := E.2.1
theorem s_E.p2 {x : Nat} {K M : kM} (E : s_E x K M) : ∀ i, i < 32 → K 2 0 (i * 4 + 2) = M 3 0 i := E.2.2.1
theorem s_E.p3 {x : Nat} {K M : kM} (E : s_E x K M) : ∀ i, i < 32 → K 2 0 (i * 4 + 3) = M 4 0 i := E.2.2.2.1
theorem s_E.me {x : Nat} {K M : kM} (E : s_E x K M) : ∀ j, j < 96 → K 4 0 j = M 17 0 j := E.2.2.2.2.1
theorem s_E.tk {x : Nat} {K M : kM} (E : s_E x K M) : ∀ j, j < 12 → K 5 0 j = M 18 0 j := E.2.2.2.2.2.1
theorem s_E.st {x : Nat} {K M : kM} (E : s_E x K M) : ∀ g, g < 6 → K 7 g 3 = M 5 0 g := E.2.2.2.2.2.2.1
theorem s_E.pl {x : Nat} {K M : kM} (E : s_E x K M) : ∀ g, g < 6 → g ≠ x → K 7 g 4 = M 6 0 g := E.2.2.2.2.2.2.2.1
theorem s_E.hd {x : Nat} {K M : kM} (E : s_E x K M) : ∀ g, g < 6 → K 7 g 5 = M 7 0 g := E.2.2.2.2.2.2.2.2.1
theorem s_E.qu {x : Nat} {K M : kM} (E : s_E x K M) : ∀ g, g < 6 → K 7 g 6 = M 8 0 g := E.2.2.2.2.2.2.2.2.2.1
theorem s_E.us {x : Nat} {K M : kM} (E : s_E x K M) : ∀ g, g < 6 → K 7 g 7 = M 9 0 g := E.2.2.2.2.2.2.2.2.2.2.1
theorem s_E.gi {x : Nat} {K M : kM} (E : s_E x K M) : ∀ g, g < 6 → K 7 g 8 = M 10 0 g := E.2.2.2.2.2.2.2.2.2.2.2.1
theorem s_E.pa {x : Nat} {K M : kM} (E : s_E x K M) : ∀ g, g < 6 → K 7 g 9 = M 11 0 g := E.2.2.2.2.2.2.2.2.2.2.2.2.1
theorem s_E.oc {x : Nat} {K M : kM} (E : s_E x K M) : ∀ g, g < 6 → K 7 g 10 = M 12 0 g := E.2.2.2.2.2.2.2.2.2.2.2.2.2.1
theorem s_E.tr {x : Nat} {K M : kM} (E : s_E x K M) : ∀ g, g < 6 → K 7 g 11 = M 13 0 g := E.2.2.2.2.2.2.2.2.2.2.2.2.2.2.1
theorem s_E.re {x : Nat} {K M : kM} (E : s_E x K M) : ∀ g, g < 6 → ∀ j, j < 4 → K 8 g j = M 15 0 (g * 4 + j) := E.2.2.2.2.2.2.2.2.2.2.2.2.2.2.2.1
theorem s_E.pg {x : Nat} {K M : kM} (E : s_E x K M) : ∀ g, g < 6 → ∀ j, j < 4 → K 9 g j = M 16 0 (g * 4 + j) := E.2.2.2.2.2.2.2.2.2.2.2.2.2.2.2.2.1
theorem s_E.ha {x : Nat} {K M : kM} (E : s_E x K M) : ∀ p, p < 2 → K 11 p 1 = M 24 0 p := E.2.2.2.2.2.2.2.2.2.2.2.2.2.2.2.2.2.1
theorem s_E.ti {x : Nat} {K M : kM} (E : s_E x K M) : ∀ p, p < 2 → K 11 p 2 = M 25 0 p := E.2.2.2.2.2.2.2.2.2.2.2.2.2.2.2.2.2.2.1
theorem s_E.sz {x : Nat} {K M : kM} (E : s_E x K M) : ∀ r, r < 14 → K 12 r 2 = M 20 0 r := E.2.2.2.2.2.2.2.2.2.2.2.2.2.2.2.2.2.2.2.1
theorem s_E.ro {x : Nat} {K M : kM} (E : s_E x K M) : ∀ r, r < 14 → s_rK K r = s_rM M r := E.2.2.2.2.2.2.2.2.2.2.2.2.2.2.2.2.2.2.2.2.1
theorem s_E.lo {x : Nat} {K M : kM} (E : s_E x K M) : ∀ k, k < 4 → K 15 k 1 = M 23 0 k := E.2.2.2.2.2.2.2.2.2.2.2.2.2.2.2.2.2.2.2.2.2.1
theorem s_E.cs {x : Nat} {K M : kM} (E : s_E x K M) : ∀ k, k < 4 → K 17 k 3 = M 22 0 k := E.2.2.2.2.2.2.2.2.2.2.2.2.2.2.2.2.2.2.2.2.2.2.1
theorem s_E.cv {x : Nat} {K M : kM} (E : s_E x K M) : ∀ k, k < 4 → ∀ j, j < (M 22 0 k).toNatClampNeg → K 18 k j = M 21 0 (k * 2 + j) := E.2.2.2.2.2.2.2.2.2.2.2.2.2.2.2.2.2.2.2.2.2.2.2.1
theorem s_E.nu {x : Nat} {K M : kM} (E : s_E x K M) : ∀ j, j < 7 → K 0 0 (6 + j) = M 0 0 (25 + j) := E.2.2.2.2.2.2.2.2.2.2.2.2.2.2.2.2.2.2.2.2.2.2.2.2.1
theorem s_E.fr {x : Nat} {K M : kM} (E : s_E x K M) : K 3 0 2 = m_fr M 12 := E.2.2.2.2.2.2.2.2.2.2.2.2.2.2.2.2.2.2.2.2.2.2.2.2.2
theorem s_fru {M : kM} {f i j : Nat} {x : Int32} (h : f ≠ 18) : ∀ n, m_fr (k_up M f i j x) n = m_fr M n
  | 0 => rfl
  | n + 1 => by
    unfold m_fr
    rw [s_fru h n, ku_f h.symm]
theorem s_E.w_st {x : Nat} {K M : kM} (E : s_E x K M) {g : Nat} (hg : g < 6) (v : Int32) : s_E x (k_up K 7 g 3 v) (k_up M 5 0 g v) := by
  refine ⟨?_, ?_, ?_, ?_, ?_, ?_, ?_, ?_, ?_, ?_, ?_, ?_, ?_, ?_, ?_, ?_, ?_, ?_, ?_, ?_, ?_, ?_, ?_, ?_, ?_, ?_⟩
  · intro i' h0
    simpa [k_up] using E.p0 _ h0
  · intro i' h0
    simpa [k_up] using E.p1 _ h0
  · intro i' h0
    simpa [k_up] using E.p2 _ h0
  · intro i' h0
    simpa [k_up] using E.p3 _ h0
  · intro j' h0
    simpa [k_up] using E.me _ h0
  · intro j' h0
    simpa [k_up] using E.tk _ h0
  · intro g' h0
    by_cases q : g' = g
    · subst q
      rw [ku_eq, ku_eq]
    · rw [ku_i q, ku_j q]
      exact E.st _ h0
  · intro g' h0 h1
    simpa [k_up] using E.pl _ h0 h1
  · intro g' h0
    simpa [k_up] using E.hd _ h0
  · intro g' h0
    simpa [k_up] using E.qu _ h0
  · intro g' h0
    simpa [k_up] using E.us _ h0
  · intro g' h0
    simpa [k_up] using E.gi _ h0
  · intro g' h0
    simpa [k_up] using E.pa _ h0
  · intro g' h0
    simpa [k_up] using E.oc _ h0
  · intro g' h0
    simpa [k_up] using E.tr _ h0
  · intro g' h0 j' h1
    simpa [k_up] using E.re _ h0 _ h1
  · intro g' h0 j' h1
    simpa [k_up] using E.pg _ h0 _ h1
  · intro p' h0
    simpa [k_up] using E.ha _ h0
  · intro p' h0
    simpa [k_up] using E.ti _ h0
  · intro r' h0
    simpa [k_up] using E.sz _ h0
  · intro r' h0
    simpa only [s_rK_up, s_rM_up, ne_eq, reduceCtorEq, not_false_eq_true, Nat.reduceEqDiff] using E.ro _ h0
  · intro k' h0
    simpa [k_up] using E.lo _ h0
  · intro k' h0
    simpa [k_up] using E.cs _ h0
  · intro k' h0 j' h1
    have h2 := E.cv _ h0 _ (by simpa [k_up] using h1)
    simpa [k_up] using h2
  · intro j' h0
    simpa [k_up] using E.nu _ h0
  · rw [ku_f (by decide), s_fru (by decide)]
    exact E.fr
theorem s_E.w_hd {x : Nat} {K M : kM} (E : s_E x K M) {g : Nat} (hg : g < 6) (v : Int32) : s_E x (k_up K 7 g 5 v) (k_up M 7 0 g v) := by
  refine ⟨?_, ?_, ?_, ?_, ?_, ?_, ?_, ?_, ?_, ?_, ?_, ?_, ?_, ?_, ?_, ?_, ?_, ?_, ?_, ?_, ?_, ?_, ?_, ?_, ?_, ?_⟩
  · intro i' h0
    simpa [k_up] using E.p0 _ h0
  · intro i' h0
    simpa [k_up] using E.p1 _ h0
  · intro i' h0
    simpa [k_up] using E.p2 _ h0
  · intro i' h0
    simpa [k_up] using E.p3 _ h0
  · intro j' h0
    simpa [k_up] using E.me _ h0
  · intro j' h0
    simpa [k_up] using E.tk _ h0
  · intro g' h0
    simpa [k_up] using E.st _ h0
  · intro g' h0 h1
    simpa [k_up] using E.pl _ h0 h1
  · intro g' h0
    by_cases q : g' = g
    · subst q
      rw [ku_eq, ku_eq]
    · rw [ku_i q, ku_j q]
      exact E.hd _ h0
  · intro g' h0
    simpa [k_up] using E.qu _ h0
  · intro g' h0
    simpa [k_up] using E.us _ h0
  · intro g' h0
    simpa [k_up] using E.gi _ h0
  · intro g' h0
    simpa [k_up] using E.pa _ h0
  · intro g' h0
    simpa [k_up] using E.oc _ h0
  · intro g' h0
    simpa [k_up] using E.tr _ h0
  · intro g' h0 j' h1
    simpa [k_up] using E.re _ h0 _ h1
  · intro g' h0 j' h1
    simpa [k_up] using E.pg _ h0 _ h1
  · intro p' h0
    simpa [k_up] using E.ha _ h0
  · intro p' h0
    simpa [k_up] using E.ti _ h0
  · intro r' h0
    simpa [k_up] using E.sz _ h0
  · intro r' h0
    simpa only [s_rK_up, s_rM_up, ne_eq, reduceCtorEq, not_false_eq_true, Nat.reduceEqDiff] using E.ro _ h0
  · intro k' h0
    simpa [k_up] using E.lo _ h0
  · intro k' h0
    simpa [k_up] using E.cs _ h0
  · intro k' h0 j' h1
    have h2 := E.cv _ h0 _ (by simpa [k_up] using h1)
    simpa [k_up] using h2
  · intro j' h0
    simpa [k_up] using E.nu _ h0
  · rw [ku_f (by decide), s_fru (by decide)]
    exact E.fr
theorem s_E.w_qu {x : Nat} {K M : kM} (E : s_E x K M) {g : Nat} (hg : g < 6) (v : Int32) : s_E x (k_up K 7 g 6 v) (k_up M 8 0 g v) := by
  refine ⟨?_, ?_, ?_, ?_, ?_, ?_, ?_, ?_, ?_, ?_, ?_, ?_, ?_, ?_, ?_, ?_, ?_, ?_, ?_, ?_, ?_, ?_, ?_, ?_, ?_, ?_⟩
  · intro i' h0
    simpa [k_up] using E.p0 _ h0
  · intro i' h0
    simpa [k_up] using E.p1 _ h0
  · intro i' h0
    simpa [k_up] using E.p2 _ h0
  · intro i' h0
    simpa [k_up] using E.p3 _ h0
  · intro j' h0
    simpa [k_up] using E.me _ h0
  · intro j' h0
    simpa [k_up] using E.tk _ h0
  · intro g' h0
    simpa [k_up] using E.st _ h0
  · intro g' h0 h1
    simpa [k_up] using E.pl _ h0 h1
  · intro g' h0
    simpa [k_up] using E.hd _ h0
  · intro g' h0
    by_cases q : g' = g
    · subst q
      rw [ku_eq, ku_eq]
    · rw [ku_i q, ku_j q]
      exact E.qu _ h0
  · intro g' h0
    simpa [k_up] using E.us _ h0
  · intro g' h0
    simpa [k_up] using E.gi _ h0
  · intro g' h0
    simpa [k_up] using E.pa _ h0
  · intro g' h0
    simpa [k_up] using E.oc _ h0
  · intro g' h0
    simpa [k_up] using E.tr _ h0
  · intro g' h0 j' h1
    simpa [k_up] using E.re _ h0 _ h1
  · intro g' h0 j' h1
    simpa [k_up] using E.pg _ h0 _ h1
  · intro p' h0
    simpa [k_up] using E.ha _ h0
  · intro p' h0
    simpa [k_up] using E.ti _ h0
  · intro r' h0
    simpa [k_up] using E.sz _ h0
  · intro r' h0
    simpa only [s_rK_up, s_rM_up, ne_eq, reduceCtorEq, not_false_eq_true, Nat.reduceEqDiff] using E.ro _ h0
  · intro k' h0
    simpa [k_up] using E.lo _ h0
  · intro k' h0
    simpa [k_up] using E.cs _ h0
  · intro k' h0 j' h1
    have h2 := E.cv _ h0 _ (by simpa [k_up] using h1)
    simpa [k_up] using h2
  · intro j' h0
    simpa [k_up] using E.nu _ h0
  · rw [ku_f (by decide), s_fru (by decide)]
    exact E.fr
theorem s_E.w_us {x : Nat} {K M : kM} (E : s_E x K M) {g : Nat} (hg : g < 6) (v : Int32) : s_E x (k_up K 7 g 7 v) (k_up M 9 0 g v) := by
  refine ⟨?_, ?_, ?_, ?_, ?_, ?_, ?_, ?_, ?_, ?_, ?_, ?_, ?_, ?_, ?_, ?_, ?_, ?_, ?_, ?_, ?_, ?_, ?_, ?_, ?_, ?_⟩
  · intro i' h0
    simpa [k_up] using E.p0 _ h0
  · intro i' h0
    simpa [k_up] using E.p1 _ h0
  · intro i' h0
    simpa [k_up] using E.p2 _ h0
  · intro i' h0
    simpa [k_up] using E.p3 _ h0
  · intro j' h0
    simpa [k_up] using E.me _ h0
  · intro j' h0
    simpa [k_up] using E.tk _ h0
  · intro g' h0
    simpa [k_up] using E.st _ h0
  · intro g' h0 h1
    simpa [k_up] using E.pl _ h0 h1
  · intro g' h0
    simpa [k_up] using E.hd _ h0
  · intro g' h0
    simpa [k_up] using E.qu _ h0
  · intro g' h0
    by_cases q : g' = g
    · subst q
      rw [ku_eq, ku_eq]
    · rw [ku_i q, ku_j q]
      exact E.us _ h0
  · intro g' h0
    simpa [k_up] using E.gi _ h0
  · intro g' h0
    simpa [k_up] using E.pa _ h0
  · intro g' h0
    simpa [k_up] using E.oc _ h0
  · intro g' h0
    simpa [k_up] using E.tr _ h0
  · intro g' h0 j' h1
    simpa [k_up] using E.re _ h0 _ h1
  · intro g' h0 j' h1
    simpa [k_up] using E.pg _ h0 _ h1
  · intro p' h0
    simpa [k_up] using E.ha _ h0
  · intro p' h0
    simpa [k_up] using E.ti _ h0
  · intro r' h0
    simpa [k_up] using E.sz _ h0
  · intro r' h0
    simpa only [s_rK_up, s_rM_up, ne_eq, reduceCtorEq, not_false_eq_true, Nat.reduceEqDiff] using E.ro _ h0
  · intro k' h0
    simpa [k_up] using E.lo _ h0
  · intro k' h0
    simpa [k_up] using E.cs _ h0
  · intro k' h0 j' h1
    have h2 := E.cv _ h0 _ (by simpa [k_up] using h1)
    simpa [k_up] using h2
  · intro j' h0
    simpa [k_up] using E.nu _ h0
  · rw [ku_f (by decide), s_fru (by decide)]
    exact E.fr
theorem s_E.w_gi {x : Nat} {K M : kM} (E : s_E x K M) {g : Nat} (hg : g < 6) (v : Int32) : s_E x (k_up K 7 g 8 v) (k_up M 10 0 g v) := by
  refine ⟨?_, ?_, ?_, ?_, ?_, ?_, ?_, ?_, ?_, ?_, ?_, ?_, ?_, ?_, ?_, ?_, ?_, ?_, ?_, ?_, ?_, ?_, ?_, ?_, ?_, ?_⟩
  · intro i' h0
    simpa [k_up] using E.p0 _ h0
  · intro i' h0
    simpa [k_up] using E.p1 _ h0
  · intro i' h0
    simpa [k_up] using E.p2 _ h0
  · intro i' h0
    simpa [k_up] using E.p3 _ h0
  · intro j' h0
    simpa [k_up] using E.me _ h0
  · intro j' h0
    simpa [k_up] using E.tk _ h0
  · intro g' h0
    simpa [k_up] using E.st _ h0
  · intro g' h0 h1
    simpa [k_up] using E.pl _ h0 h1
  · intro g' h0
    simpa [k_up] using E.hd _ h0
  · intro g' h0
    simpa [k_up] using E.qu _ h0
  · intro g' h0
    simpa [k_up] using E.us _ h0
  · intro g' h0
    by_cases q : g' = g
    · subst q
      rw [ku_eq, ku_eq]
    · rw [ku_i q, ku_j q]
      exact E.gi _ h0
  · intro g' h0
    simpa [k_up] using E.pa _ h0
  · intro g' h0
    simpa [k_up] using E.oc _ h0
  · intro g' h0
    simpa [k_up] using E.tr _ h0
  · intro g' h0 j' h1
    simpa [k_up] using E.re _ h0 _ h1
  · intro g' h0 j' h1
    simpa [k_up] using E.pg _ h0 _ h1
  · intro p' h0
    simpa [k_up] using E.ha _ h0
  · intro p' h0
    simpa [k_up] using E.ti _ h0
  · intro r' h0
    simpa [k_up] using E.sz _ h0
  · intro r' h0
    simpa only [s_rK_up, s_rM_up, ne_eq, reduceCtorEq, not_false_eq_true, Nat.reduceEqDiff] using E.ro _ h0
  · intro k' h0
    simpa [k_up] using E.lo _ h0
  · intro k' h0
    simpa [k_up] using E.cs _ h0
  · intro k' h0 j' h1
    have h2 := E.cv _ h0 _ (by simpa [k_up] using h1)
    simpa [k_up] using h2
  · intro j' h0
    simpa [k_up] using E.nu _ h0
  · rw [ku_f (by decide), s_fru (by decide)]
    exact E.fr
theorem s_E.w_pa {x : Nat} {K M : kM} (E : s_E x K M) {g : Nat} (hg : g < 6) (v : Int32) : s_E x (k_up K 7 g 9 v) (k_up M 11 0 g v) := by
  refine ⟨?_, ?_, ?_, ?_, ?_, ?_, ?_, ?_, ?_, ?_, ?_, ?_, ?_, ?_, ?_, ?_, ?_, ?_, ?_, ?_, ?_, ?_, ?_, ?_, ?_, ?_⟩
  · intro i' h0
    simpa [k_up] using E.p0 _ h0
  · intro i' h0
    simpa [k_up] using E.p1 _ h0
  · intro i' h0
    simpa [k_up] using E.p2 _ h0
  · intro i' h0
    simpa [k_up] using E.p3 _ h0
  · intro j' h0
    simpa [k_up] using E.me _ h0
  · intro j' h0
    simpa [k_up] using E.tk _ h0
  · intro g' h0
    simpa [k_up] using E.st _ h0
  · intro g' h0 h1
    simpa [k_up] using E.pl _ h0 h1
  · intro g' h0
    simpa [k_up] using E.hd _ h0
  · intro g' h0
    simpa [k_up] using E.qu _ h0
  · intro g' h0
    simpa [k_up] using E.us _ h0
  · intro g' h0
    simpa [k_up] using E.gi _ h0
  · intro g' h0
    by_cases q : g' = g
    · subst q
      rw [ku_eq, ku_eq]
    · rw [ku_i q, ku_j q]
      exact E.pa _ h0
  · intro g' h0
    simpa [k_up] using E.oc _ h0
  · intro g' h0
    simpa [k_up] using E.tr _ h0
  · intro g' h0 j' h1
    simpa [k_up] using E.re _ h0 _ h1
  · intro g' h0 j' h1
    simpa [k_up] using E.pg _ h0 _ h1
  · intro p' h0
    simpa [k_up] using E.ha _ h0
  · intro p' h0
    simpa [k_up] using E.ti _ h0
  · intro r' h0
    simpa [k_up] using E.sz _ h0
  · intro r' h0
    simpa only [s_rK_up, s_rM_up, ne_eq, reduceCtorEq, not_false_eq_true, Nat.reduceEqDiff] using E.ro _ h0
  · intro k' h0
    simpa [k_up] using E.lo _ h0
  · intro k' h0
    simpa [k_up] using E.cs _ h0
  · intro k' h0 j' h1
    have h2 := E.cv _ h0 _ (by simpa [k_up] using h1)
    simpa [k_up] using h2
  · intro j' h0
    simpa [k_up] using E.nu _ h0
  · rw [ku_f (by decide), s_fru (by decide)]
    exact E.fr
theorem s_E.w_oc {x : Nat} {K M : kM} (E : s_E x K M) {g : Nat} (hg : g < 6) (v : Int32) : s_E x (k_up K 7 g 10 v) (k_up M 12 0 g v) := by
  refine ⟨?_, ?_, ?_, ?_, ?_, ?_, ?_, ?_, ?_, ?_, ?_, ?_, ?_, ?_, ?_, ?_, ?_, ?_, ?_, ?_, ?_, ?_, ?_, ?_, ?_, ?_⟩
  · intro i' h0
    simpa [k_up] using E.p0 _ h0
  · intro i' h0
    simpa [k_up] using E.p1 _ h0
  · intro i' h0
    simpa [k_up] using E.p2 _ h0
  · intro i' h0
    simpa [k_up] using E.p3 _ h0
  · intro j' h0
    simpa [k_up] using E.me _ h0
  · intro j' h0
    simpa [k_up] using E.tk _ h0
  · intro g' h0
    simpa [k_up] using E.st _ h0
  · intro g' h0 h1
    simpa [k_up] using E.pl _ h0 h1
  · intro g' h0
    simpa [k_up] using E.hd _ h0
  · intro g' h0
    simpa [k_up] using E.qu _ h0
  · intro g' h0
    simpa [k_up] using E.us _ h0
  · intro g' h0
    simpa [k_up] using E.gi _ h0
  · intro g' h0
    simpa [k_up] using E.pa _ h0
  · intro g' h0
    by_cases q : g' = g
    · subst q
      rw [ku_eq, ku_eq]
    · rw [ku_i q, ku_j q]
      exact E.oc _ h0
  · intro g' h0
    simpa [k_up] using E.tr _ h0
  · intro g' h0 j' h1
    simpa [k_up] using E.re _ h0 _ h1
  · intro g' h0 j' h1
    simpa [k_up] using E.pg _ h0 _ h1
  · intro p' h0
    simpa [k_up] using E.ha _ h0
  · intro p' h0
    simpa [k_up] using E.ti _ h0
  · intro r' h0
    simpa [k_up] using E.sz _ h0
  · intro r' h0
    simpa only [s_rK_up, s_rM_up, ne_eq, reduceCtorEq, not_false_eq_true, Nat.reduceEqDiff] using E.ro _ h0
  · intro k' h0
    simpa [k_up] using E.lo _ h0
  · intro k' h0
    simpa [k_up] using E.cs _ h0
  · intro k' h0 j' h1
    have h2 := E.cv _ h0 _ (by simpa [k_up] using h1)
    simpa [k_up] using h2
  · intro j' h0
    simpa [k_up] using E.nu _ h0
  · rw [ku_f (by decide), s_fru (by decide)]
    exact E.fr
theorem s_E.w_tr {x : Nat} {K M : kM} (E : s_E x K M) {g : Nat} (hg : g < 6) (v : Int32) : s_E x (k_up K 7 g 11 v) (k_up M 13 0 g v) := by
  refine ⟨?_, ?_, ?_, ?_, ?_, ?_, ?_, ?_, ?_, ?_, ?_, ?_, ?_, ?_, ?_, ?_, ?_, ?_, ?_, ?_, ?_, ?_, ?_, ?_, ?_, ?_⟩
  · intro i' h0
    simpa [k_up] using E.p0 _ h0
  · intro i' h0
    simpa [k_up] using E.p1 _ h0
  · intro i' h0
    simpa [k_up] using E.p2 _ h0
  · intro i' h0
    simpa [k_up] using E.p3 _ h0
  · intro j' h0
    simpa [k_up] using E.me _ h0
  · intro j' h0
    simpa [k_up] using E.tk _ h0
  · intro g' h0
    simpa [k_up] using E.st _ h0
  · intro g' h0 h1
    simpa [k_up] using E.pl _ h0 h1
  · intro g' h0
    simpa [k_up] using E.hd _ h0
  · intro g' h0
    simpa [k_up] using E.qu _ h0
  · intro g' h0
    simpa [k_up] using E.us _ h0
  · intro g' h0
    simpa [k_up] using E.gi _ h0
  · intro g' h0
    simpa [k_up] using E.pa _ h0
  · intro g' h0
    simpa [k_up] using E.oc _ h0
  · intro g' h0
    by_cases q : g' = g
    · subst q
      rw [ku_eq, ku_eq]
    · rw [ku_i q, ku_j q]
      exact E.tr _ h0
  · intro g' h0 j' h1
    simpa [k_up] using E.re _ h0 _ h1
  · intro g' h0 j' h1
    simpa [k_up] using E.pg _ h0 _ h1
  · intro p' h0
    simpa [k_up] using E.ha _ h0
  · intro p' h0
    simpa [k_up] using E.ti _ h0
  · intro r' h0
    simpa [k_up] using E.sz _ h0
  · intro r' h0
    simpa only [s_rK_up, s_rM_up, ne_eq, reduceCtorEq, not_false_eq_true, Nat.reduceEqDiff] using E.ro _ h0
  · intro k' h0
    simpa [k_up] using E.lo _ h0
  · intro k' h0
    simpa [k_up] using E.cs _ h0
  · intro k' h0 j' h1
    have h2 := E.cv _ h0 _ (by simpa [k_up] using h1)
    simpa [k_up] using h2
  · intro j' h0
    simpa [k_up] using E.nu _ h0
  · rw [ku_f (by decide), s_fru (by decide)]
    exact E.fr
theorem s_E.w_pl {x : Nat} {K M : kM} (E : s_E x K M) {g : Nat} (hg : g < 6) (v : Int32) : s_E x (k_up K 7 g 4 v) (k_up M 6 0 g v) := by
  refine ⟨?_, ?_, ?_, ?_, ?_, ?_, ?_, ?_, ?_, ?_, ?_, ?_, ?_, ?_, ?_, ?_, ?_, ?_, ?_, ?_, ?_, ?_, ?_, ?_, ?_, ?_⟩
  · intro i' h0
    simpa [k_up] using E.p0 _ h0
  · intro i' h0
    simpa [k_up] using E.p1 _ h0
  · intro i' h0
    simpa [k_up] using E.p2 _ h0
  · intro i' h0
    simpa [k_up] using E.p3 _ h0
  · intro j' h0
    simpa [k_up] using E.me _ h0
  · intro j' h0
    simpa [k_up] using E.tk _ h0
  · intro g' h0
    simpa [k_up] using E.st _ h0
  · intro g' h0 h1
    by_cases q : g' = g
    · subst q
      rw [ku_eq, ku_eq]
    · rw [ku_i q, ku_j q]
      exact E.pl _ h0 h1
  · intro g' h0
    simpa [k_up] using E.hd _ h0
  · intro g' h0
    simpa [k_up] using E.qu _ h0
  · intro g' h0
    simpa [k_up] using E.us _ h0
  · intro g' h0
    simpa [k_up] using E.gi _ h0
  · intro g' h0
    simpa [k_up] using E.pa _ h0
  · intro g' h0
    simpa [k_up] using E.oc _ h0
  · intro g' h0
    simpa [k_up] using E.tr _ h0
  · intro g' h0 j' h1
    simpa [k_up] using E.re _ h0 _ h1
  · intro g' h0 j' h1
    simpa [k_up] using E.pg _ h0 _ h1
  · intro p' h0
    simpa [k_up] using E.ha _ h0
  · intro p' h0
    simpa [k_up] using E.ti _ h0
  · intro r' h0
    simpa [k_up] using E.sz _ h0
  · intro r' h0
    simpa only [s_rK_up, s_rM_up, ne_eq, reduceCtorEq, not_false_eq_true, Nat.reduceEqDiff] using E.ro _ h0
  · intro k' h0
    simpa [k_up] using E.lo _ h0
  · intro k' h0
    simpa [k_up] using E.cs _ h0
  · intro k' h0 j' h1
    have h2 := E.cv _ h0 _ (by simpa [k_up] using h1)
    simpa [k_up] using h2
  · intro j' h0
    simpa [k_up] using E.nu _ h0
  · rw [ku_f (by decide), s_fru (by decide)]
    exact E.fr
theorem s_E.x_pl {x : Nat} {K M : kM} (E : s_E x K M) (v : Int32) : s_E x (k_up K 7 x 4 v) (M) := by
  refine ⟨?_, ?_, ?_, ?_, ?_, ?_, ?_, ?_, ?_, ?_, ?_, ?_, ?_, ?_, ?_, ?_, ?_, ?_, ?_, ?_, ?_, ?_, ?_, ?_, ?_, ?_⟩
  · intro i' h0
    simpa [k_up] using E.p0 _ h0
  · intro i' h0
    simpa [k_up] using E.p1 _ h0
  · intro i' h0
    simpa [k_up] using E.p2 _ h0
  · intro i' h0
    simpa [k_up] using E.p3 _ h0
  · intro j' h0
    simpa [k_up] using E.me _ h0
  · intro j' h0
    simpa [k_up] using E.tk _ h0
  · intro g' h0
    simpa [k_up] using E.st _ h0
  · intro g' h0 h1
    rw [ku_i h1]
    exact E.pl _ h0 h1
  · intro g' h0
    simpa [k_up] using E.hd _ h0
  · intro g' h0
    simpa [k_up] using E.qu _ h0
  · intro g' h0
    simpa [k_up] using E.us _ h0
  · intro g' h0
    simpa [k_up] using E.gi _ h0
  · intro g' h0
    simpa [k_up] using E.pa _ h0
  · intro g' h0
    simpa [k_up] using E.oc _ h0
  · intro g' h0
    simpa [k_up] using E.tr _ h0
  · intro g' h0 j' h1
    simpa [k_up] using E.re _ h0 _ h1
  · intro g' h0 j' h1
    simpa [k_up] using E.pg _ h0 _ h1
  · intro p' h0
    simpa [k_up] using E.ha _ h0
  · intro p' h0
    simpa [k_up] using E.ti _ h0
  · intro r' h0
    simpa [k_up] using E.sz _ h0
  · intro r' h0
    simpa only [s_rK_up, ne_eq, reduceCtorEq, not_false_eq_true, Nat.reduceEqDiff] using E.ro _ h0
  · intro k' h0
    simpa [k_up] using E.lo _ h0
  · intro k' h0
    simpa [k_up] using E.cs _ h0
  · intro k' h0 j' h1
    have h2 := E.cv _ h0 _ (by simpa [k_up] using h1)
    simpa [k_up] using h2
  · intro j' h0
    simpa [k_up] using E.nu _ h0
  · rw [ku_f (by decide)]
    exact E.fr
theorem s_E.x_plm {x : Nat} {K M : kM} (E : s_E x K M) (v : Int32) : s_E x (K) (k_up M 6 0 x v) := by
  refine ⟨?_, ?_, ?_, ?_, ?_, ?_, ?_, ?_, ?_, ?_, ?_, ?_, ?_, ?_, ?_, ?_, ?_, ?_, ?_, ?_, ?_, ?_, ?_, ?_, ?_, ?_⟩
  · intro i' h0
    simpa [k_up] using E.p0 _ h0
  · intro i' h0
    simpa [k_up] using E.p1 _ h0
  · intro i' h0
    simpa [k_up] using E.p2 _ h0
  · intro i' h0
    simpa [k_up] using E.p3 _ h0
  · intro j' h0
    simpa [k_up] using E.me _ h0
  · intro j' h0
    simpa [k_up] using E.tk _ h0
  · intro g' h0
    simpa [k_up] using E.st _ h0
  · intro g' h0 h1
    rw [ku_j h1]
    exact E.pl _ h0 h1
  · intro g' h0
    simpa [k_up] using E.hd _ h0
  · intro g' h0
    simpa [k_up] using E.qu _ h0
  · intro g' h0
    simpa [k_up] using E.us _ h0
  · intro g' h0
    simpa [k_up] using E.gi _ h0
  · intro g' h0
    simpa [k_up] using E.pa _ h0
  · intro g' h0
    simpa [k_up] using E.oc _ h0
  · intro g' h0
    simpa [k_up] using E.tr _ h0
  · intro g' h0 j' h1
    simpa [k_up] using E.re _ h0 _ h1
  · intro g' h0 j' h1
    simpa [k_up] using E.pg _ h0 _ h1
  · intro p' h0
    simpa [k_up] using E.ha _ h0
  · intro p' h0
    simpa [k_up] using E.ti _ h0
  · intro r' h0
    simpa [k_up] using E.sz _ h0
  · intro r' h0
    simpa only [s_rM_up, ne_eq, reduceCtorEq, not_false_eq_true, Nat.reduceEqDiff] using E.ro _ h0
  · intro k' h0
    simpa [k_up] using E.lo _ h0
  · intro k' h0
    simpa [k_up] using E.cs _ h0
  · intro k' h0 j' h1
    have h2 := E.cv _ h0 _ (by simpa [k_up] using h1)
    simpa [k_up] using h2
  · intro j' h0
    simpa [k_up] using E.nu _ h0
  · rw [s_fru (by decide)]
    exact E.fr
theorem s_E.x_bl {x : Nat} {K M : kM} (E : s_E x K M) {g : Nat} (v : Int32) : s_E x (k_up K 7 g 12 v) (M) := by
  refine ⟨?_, ?_, ?_, ?_, ?_, ?_, ?_, ?_, ?_, ?_, ?_, ?_, ?_, ?_, ?_, ?_, ?_, ?_, ?_, ?_, ?_, ?_, ?_, ?_, ?_, ?_⟩
  · intro i' h0
    simpa [k_up] using E.p0 _ h0
  · intro i' h0
    simpa [k_up] using E.p1 _ h0
  · intro i' h0
    simpa [k_up] using E.p2 _ h0
  · intro i' h0
    simpa [k_up] using E.p3 _ h0
  · intro j' h0
    simpa [k_up] using E.me _ h0
  · intro j' h0
    simpa [k_up] using E.tk _ h0
  · intro g' h0
    simpa [k_up] using E.st _ h0
  · intro g' h0 h1
    simpa [k_up] using E.pl _ h0 h1
  · intro g' h0
    simpa [k_up] using E.hd _ h0
  · intro g' h0
    simpa [k_up] using E.qu _ h0
  · intro g' h0
    simpa [k_up] using E.us _ h0
  · intro g' h0
    simpa [k_up] using E.gi _ h0
  · intro g' h0
    simpa [k_up] using E.pa _ h0
  · intro g' h0
    simpa [k_up] using E.oc _ h0
  · intro g' h0
    simpa [k_up] using E.tr _ h0
  · intro g' h0 j' h1
    simpa [k_up] using E.re _ h0 _ h1
  · intro g' h0 j' h1
    simpa [k_up] using E.pg _ h0 _ h1
  · intro p' h0
    simpa [k_up] using E.ha _ h0
  · intro p' h0
    simpa [k_up] using E.ti _ h0
  · intro r' h0
    simpa [k_up] using E.sz _ h0
  · intro r' h0
    simpa only [s_rK_up, ne_eq, reduceCtorEq, not_false_eq_true, Nat.reduceEqDiff] using E.ro _ h0
  · intro k' h0
    simpa [k_up] using E.lo _ h0
  · intro k' h0
    simpa [k_up] using E.cs _ h0
  · intro k' h0 j' h1
    have h2 := E.cv _ h0 _ (by simpa [k_up] using h1)
    simpa [k_up] using h2
  · intro j' h0
    simpa [k_up] using E.nu _ h0
  · rw [ku_f (by decide)]
    exact E.fr
theorem s_E.x_ca {x : Nat} {K M : kM} (E : s_E x K M) {i j : Nat} (v : Int32) : s_E x (K) (k_up M 14 i j v) := by
  refine ⟨?_, ?_, ?_, ?_, ?_, ?_, ?_, ?_, ?_, ?_, ?_, ?_, ?_, ?_, ?_, ?_, ?_, ?_, ?_, ?_, ?_, ?_, ?_, ?_, ?_, ?_⟩
  · intro i' h0
    simpa [k_up] using E.p0 _ h0
  · intro i' h0
    simpa [k_up] using E.p1 _ h0
  · intro i' h0
    simpa [k_up] using E.p2 _ h0
  · intro i' h0
    simpa [k_up] using E.p3 _ h0
  · intro j' h0
    simpa [k_up] using E.me _ h0
  · intro j' h0
    simpa [k_up] using E.tk _ h0
  · intro g' h0
    simpa [k_up] using E.st _ h0
  · intro g' h0 h1
    simpa [k_up] using E.pl _ h0 h1
  · intro g' h0
    simpa [k_up] using E.hd _ h0
  · intro g' h0
    simpa [k_up] using E.qu _ h0
  · intro g' h0
    simpa [k_up] using E.us _ h0
  · intro g' h0
    simpa [k_up] using E.gi _ h0
  · intro g' h0
    simpa [k_up] using E.pa _ h0
  · intro g' h0
    simpa [k_up] using E.oc _ h0
  · intro g' h0
    simpa [k_up] using E.tr _ h0
  · intro g' h0 j' h1
    simpa [k_up] using E.re _ h0 _ h1
  · intro g' h0 j' h1
    simpa [k_up] using E.pg _ h0 _ h1
  · intro p' h0
    simpa [k_up] using E.ha _ h0
  · intro p' h0
    simpa [k_up] using E.ti _ h0
  · intro r' h0
    simpa [k_up] using E.sz _ h0
  · intro r' h0
    simpa only [s_rM_up, ne_eq, reduceCtorEq, not_false_eq_true, Nat.reduceEqDiff] using E.ro _ h0
  · intro k' h0
    simpa [k_up] using E.lo _ h0
  · intro k' h0
    simpa [k_up] using E.cs _ h0
  · intro k' h0 j' h1
    have h2 := E.cv _ h0 _ (by simpa [k_up] using h1)
    simpa [k_up] using h2
  · intro j' h0
    simpa [k_up] using E.nu _ h0
  · rw [s_fru (by decide)]
    exact E.fr
theorem s_E.x_th {x : Nat} {K M : kM} (E : s_E x K M) (v : Int32) : s_E x (K) (k_up M 0 0 32 v) := by
  refine ⟨?_, ?_, ?_, ?_, ?_, ?_, ?_, ?_, ?_, ?_, ?_, ?_, ?_, ?_, ?_, ?_, ?_, ?_, ?_, ?_, ?_, ?_, ?_, ?_, ?_, ?_⟩
  · intro i' h0
    simpa [k_up] using E.p0 _ h0
  · intro i' h0
    simpa [k_up] using E.p1 _ h0
  · intro i' h0
    simpa [k_up] using E.p2 _ h0
  · intro i' h0
    simpa [k_up] using E.p3 _ h0
  · intro j' h0
    simpa [k_up] using E.me _ h0
  · intro j' h0
    simpa [k_up] using E.tk _ h0
  · intro g' h0
    simpa [k_up] using E.st _ h0
  · intro g' h0 h1
    simpa [k_up] using E.pl _ h0 h1
  · intro g' h0
    simpa [k_up] using E.hd _ h0
  · intro g' h0
    simpa [k_up] using E.qu _ h0
  · intro g' h0
    simpa [k_up] using E.us _ h0
  · intro g' h0
    simpa [k_up] using E.gi _ h0
  · intro g' h0
    simpa [k_up] using E.pa _ h0
  · intro g' h0
    simpa [k_up] using E.oc _ h0
  · intro g' h0
    simpa [k_up] using E.tr _ h0
  · intro g' h0 j' h1
    simpa [k_up] using E.re _ h0 _ h1
  · intro g' h0 j' h1
    simpa [k_up] using E.pg _ h0 _ h1
  · intro p' h0
    simpa [k_up] using E.ha _ h0
  · intro p' h0
    simpa [k_up] using E.ti _ h0
  · intro r' h0
    simpa [k_up] using E.sz _ h0
  · intro r' h0
    simpa only [s_rM_up, ne_eq, reduceCtorEq, not_false_eq_true, Nat.reduceEqDiff] using E.ro _ h0
  · intro k' h0
    simpa [k_up] using E.lo _ h0
  · intro k' h0
    simpa [k_up] using E.cs _ h0
  · intro k' h0 j' h1
    have h2 := E.cv _ h0 _ (by simpa [k_up] using h1)
    simpa [k_up] using h2
  · intro j' h0
    rw [ku_j (by omega)]
    exact E.nu _ h0
  · rw [s_fru (by decide)]
    exact E.fr
theorem s_E.w_re {x : Nat} {K M : kM} (E : s_E x K M) {g j : Nat} (hg : g < 6) (hj : j < 4) (v : Int32) : s_E x (k_up K 8 g j v) (k_up M 15 0 (g * 4 + j) v) := by
  refine ⟨?_, ?_, ?_, ?_, ?_, ?_, ?_, ?_, ?_, ?_, ?_, ?_, ?_, ?_, ?_, ?_, ?_, ?_, ?_, ?_, ?_, ?_, ?_, ?_, ?_, ?_⟩
  · intro i' h0
    simpa [k_up] using E.p0 _ h0
  · intro i' h0
    simpa [k_up] using E.p1 _ h0
  · intro i' h0
    simpa [k_up] using E.p2 _ h0
  · intro i' h0
    simpa [k_up] using E.p3 _ h0
  · intro j' h0
    simpa [k_up] using E.me _ h0
  · intro j' h0
    simpa [k_up] using E.tk _ h0
  · intro g' h0
    simpa [k_up] using E.st _ h0
  · intro g' h0 h1
    simpa [k_up] using E.pl _ h0 h1
  · intro g' h0
    simpa [k_up] using E.hd _ h0
  · intro g' h0
    simpa [k_up] using E.qu _ h0
  · intro g' h0
    simpa [k_up] using E.us _ h0
  · intro g' h0
    simpa [k_up] using E.gi _ h0
  · intro g' h0
    simpa [k_up] using E.pa _ h0
  · intro g' h0
    simpa [k_up] using E.oc _ h0
  · intro g' h0
    simpa [k_up] using E.tr _ h0
  · intro g' h0 j' h1
    by_cases q : g' = g ∧ j' = j
    · obtain ⟨rfl, rfl⟩ := q
      rw [ku_eq, ku_eq]
    · rw [ku_j (i := 0) (c := g' * 4 + j') (by omega)]
      by_cases q1 : g' = g
      · rw [ku_j (fun z => q ⟨q1, z⟩)]
        exact E.re _ h0 _ h1
      · rw [ku_i q1]
        exact E.re _ h0 _ h1
  · intro g' h0 j' h1
    simpa [k_up] using E.pg _ h0 _ h1
  · intro p' h0
    simpa [k_up] using E.ha _ h0
  · intro p' h0
    simpa [k_up] using E.ti _ h0
  · intro r' h0
    simpa [k_up] using E.sz _ h0
  · intro r' h0
    simpa only [s_rK_up, s_rM_up, ne_eq, reduceCtorEq, not_false_eq_true, Nat.reduceEqDiff] using E.ro _ h0
  · intro k' h0
    simpa [k_up] using E.lo _ h0
  · intro k' h0
    simpa [k_up] using E.cs _ h0
  · intro k' h0 j' h1
    have h2 := E.cv _ h0 _ (by simpa [k_up] using h1)
    simpa [k_up] using h2
  · intro j' h0
    simpa [k_up] using E.nu _ h0
  · rw [ku_f (by decide), s_fru (by decide)]
    exact E.fr
theorem s_E.w_pg {x : Nat} {K M : kM} (E : s_E x K M) {g j : Nat} (hg : g < 6) (hj : j < 4) (v : Int32) : s_E x (k_up K 9 g j v) (k_up M 16 0 (g * 4 + j) v) := by
  refine ⟨?_, ?_, ?_, ?_, ?_, ?_, ?_, ?_, ?_, ?_, ?_, ?_, ?_, ?_, ?_, ?_, ?_, ?_, ?_, ?_, ?_, ?_, ?_, ?_, ?_, ?_⟩
  · intro i' h0
    simpa [k_up] using E.p0 _ h0
  · intro i' h0
    simpa [k_up] using E.p1 _ h0
  · intro i' h0
    simpa [k_up] using E.p2 _ h0
  · intro i' h0
    simpa [k_up] using E.p3 _ h0
  · intro j' h0
    simpa [k_up] using E.me _ h0
  · intro j' h0
    simpa [k_up] using E.tk _ h0
  · intro g' h0
    simpa [k_up] using E.st _ h0
  · intro g' h0 h1
    simpa [k_up] using E.pl _ h0 h1
  · intro g' h0
    simpa [k_up] using E.hd _ h0
  · intro g' h0
    simpa [k_up] using E.qu _ h0
  · intro g' h0
    simpa [k_up] using E.us _ h0
  · intro g' h0
    simpa [k_up] using E.gi _ h0
  · intro g' h0
    simpa [k_up] using E.pa _ h0
  · intro g' h0
    simpa [k_up] using E.oc _ h0
  · intro g' h0
    simpa [k_up] using E.tr _ h0
  · intro g' h0 j' h1
    simpa [k_up] using E.re _ h0 _ h1
  · intro g' h0 j' h1
    by_cases q : g' = g ∧ j' = j
    · obtain ⟨rfl, rfl⟩ := q
      rw [ku_eq, ku_eq]
    · rw [ku_j (i := 0) (c := g' * 4 + j') (by omega)]
      by_cases q1 : g' = g
      · rw [ku_j (fun z => q ⟨q1, z⟩)]
        exact E.pg _ h0 _ h1
      · rw [ku_i q1]
        exact E.pg _ h0 _ h1
  · intro p' h0
    simpa [k_up] using E.ha _ h0
  · intro p' h0
    simpa [k_up] using E.ti _ h0
  · intro r' h0
    simpa [k_up] using E.sz _ h0
  · intro r' h0
    simpa only [s_rK_up, s_rM_up, ne_eq, reduceCtorEq, not_false_eq_true, Nat.reduceEqDiff] using E.ro _ h0
  · intro k' h0
    simpa [k_up] using E.lo _ h0
  · intro k' h0
    simpa [k_up] using E.cs _ h0
  · intro k' h0 j' h1
    have h2 := E.cv _ h0 _ (by simpa [k_up] using h1)
    simpa [k_up] using h2
  · intro j' h0
    simpa [k_up] using E.nu _ h0
  · rw [ku_f (by decide), s_fru (by decide)]
    exact E.fr
theorem s_E.w_ha {x : Nat} {K M : kM} (E : s_E x K M) {p : Nat} (v : Int32) : s_E x (k_up K 11 p 1 v) (k_up M 24 0 p v) := by
  refine ⟨?_, ?_, ?_, ?_, ?_, ?_, ?_, ?_, ?_, ?_, ?_, ?_, ?_, ?_, ?_, ?_, ?_, ?_, ?_, ?_, ?_, ?_, ?_, ?_, ?_, ?_⟩
  · intro i' h0
    simpa [k_up] using E.p0 _ h0
  · intro i' h0
    simpa [k_up] using E.p1 _ h0
  · intro i' h0
    simpa [k_up] using E.p2 _ h0
  · intro i' h0
    simpa [k_up] using E.p3 _ h0
  · intro j' h0
    simpa [k_up] using E.me _ h0
  · intro j' h0
    simpa [k_up] using E.tk _ h0
  · intro g' h0
    simpa [k_up] using E.st _ h0
  · intro g' h0 h1
    simpa [k_up] using E.pl _ h0 h1
  · intro g' h0
    simpa [k_up] using E.hd _ h0
  · intro g' h0
    simpa [k_up] using E.qu _ h0
  · intro g' h0
    simpa [k_up] using E.us _ h0
  · intro g' h0
    simpa [k_up] using E.gi _ h0
  · intro g' h0
    simpa [k_up] using E.pa _ h0
  · intro g' h0
    simpa [k_up] using E.oc _ h0
  · intro g' h0
    simpa [k_up] using E.tr _ h0
  · intro g' h0 j' h1
    simpa [k_up] using E.re _ h0 _ h1
  · intro g' h0 j' h1
    simpa [k_up] using E.pg _ h0 _ h1
  · intro g' h0
    by_cases q : g' = p
    · subst q
      rw [ku_eq, ku_eq]
    · rw [ku_i q, ku_j q]
      exact E.ha _ h0
  · intro p' h0
    simpa [k_up] using E.ti _ h0
  · intro r' h0
    simpa [k_up] using E.sz _ h0
  · intro r' h0
    simpa only [s_rK_up, s_rM_up, ne_eq, reduceCtorEq, not_false_eq_true, Nat.reduceEqDiff] using E.ro _ h0
  · intro k' h0
    simpa [k_up] using E.lo _ h0
  · intro k' h0
    simpa [k_up] using E.cs _ h0
  · intro k' h0 j' h1
    have h2 := E.cv _ h0 _ (by simpa [k_up] using h1)
    simpa [k_up] using h2
  · intro j' h0
    simpa [k_up] using E.nu _ h0
  · rw [ku_f (by decide), s_fru (by decide)]
    exact E.fr
theorem s_E.w_ti {x : Nat} {K M : kM} (E : s_E x K M) {p : Nat} (v : Int32) : s_E x (k_up K 11 p 2 v) (k_up M 25 0 p v) := by
  refine ⟨?_, ?_, ?_, ?_, ?_, ?_, ?_, ?_, ?_, ?_, ?_, ?_, ?_, ?_, ?_, ?_, ?_, ?_, ?_, ?_, ?_, ?_, ?_, ?_, ?_, ?_⟩
  · intro i' h0
    simpa [k_up] using E.p0 _ h0
  · intro i' h0
    simpa [k_up] using E.p1 _ h0
  · intro i' h0
    simpa [k_up] using E.p2 _ h0
  · intro i' h0
    simpa [k_up] using E.p3 _ h0
  · intro j' h0
    simpa [k_up] using E.me _ h0
  · intro j' h0
    simpa [k_up] using E.tk _ h0
  · intro g' h0
    simpa [k_up] using E.st _ h0
  · intro g' h0 h1
    simpa [k_up] using E.pl _ h0 h1
  · intro g' h0
    simpa [k_up] using E.hd _ h0
  · intro g' h0
    simpa [k_up] using E.qu _ h0
  · intro g' h0
    simpa [k_up] using E.us _ h0
  · intro g' h0
    simpa [k_up] using E.gi _ h0
  · intro g' h0
    simpa [k_up] using E.pa _ h0
  · intro g' h0
    simpa [k_up] using E.oc _ h0
  · intro g' h0
    simpa [k_up] using E.tr _ h0
  · intro g' h0 j' h1
    simpa [k_up] using E.re _ h0 _ h1
  · intro g' h0 j' h1
    simpa [k_up] using E.pg _ h0 _ h1
  · intro p' h0
    simpa [k_up] using E.ha _ h0
  · intro g' h0
    by_cases q : g' = p
    · subst q
      rw [ku_eq, ku_eq]
    · rw [ku_i q, ku_j q]
      exact E.ti _ h0
  · intro r' h0
    simpa [k_up] using E.sz _ h0
  · intro r' h0
    simpa only [s_rK_up, s_rM_up, ne_eq, reduceCtorEq, not_false_eq_true, Nat.reduceEqDiff] using E.ro _ h0
  · intro k' h0
    simpa [k_up] using E.lo _ h0
  · intro k' h0
    simpa [k_up] using E.cs _ h0
  · intro k' h0 j' h1
    have h2 := E.cv _ h0 _ (by simpa [k_up] using h1)
    simpa [k_up] using h2
  · intro j' h0
    simpa [k_up] using E.nu _ h0
  · rw [ku_f (by decide), s_fru (by decide)]
    exact E.fr
theorem s_E.w_lo {x : Nat} {K M : kM} (E : s_E x K M) {p : Nat} (v : Int32) : s_E x (k_up K 15 p 1 v) (k_up M 23 0 p v) := by
  refine ⟨?_, ?_, ?_, ?_, ?_, ?_, ?_, ?_, ?_, ?_, ?_, ?_, ?_, ?_, ?_, ?_, ?_, ?_, ?_, ?_, ?_, ?_, ?_, ?_, ?_, ?_⟩
  · intro i' h0
    simpa [k_up] using E.p0 _ h0
  · intro i' h0
    simpa [k_up] using E.p1 _ h0
  · intro i' h0
    simpa [k_up] using E.p2 _ h0
  · intro i' h0
    simpa [k_up] using E.p3 _ h0
  · intro j' h0
    simpa [k_up] using E.me _ h0
  · intro j' h0
    simpa [k_up] using E.tk _ h0
  · intro g' h0
    simpa [k_up] using E.st _ h0
  · intro g' h0 h1
    simpa [k_up] using E.pl _ h0 h1
  · intro g' h0
    simpa [k_up] using E.hd _ h0
  · intro g' h0
    simpa [k_up] using E.qu _ h0
  · intro g' h0
    simpa [k_up] using E.us _ h0
  · intro g' h0
    simpa [k_up] using E.gi _ h0
  · intro g' h0
    simpa [k_up] using E.pa _ h0
  · intro g' h0
    simpa [k_up] using E.oc _ h0
  · intro g' h0
    simpa [k_up] using E.tr _ h0
  · intro g' h0 j' h1
    simpa [k_up] using E.re _ h0 _ h1
  · intro g' h0 j' h1
    simpa [k_up] using E.pg _ h0 _ h1
  · intro p' h0
    simpa [k_up] using E.ha _ h0
  · intro p' h0
    simpa [k_up] using E.ti _ h0
  · intro r' h0
    simpa [k_up] using E.sz _ h0
  · intro r' h0
    simpa only [s_rK_up, s_rM_up, ne_eq, reduceCtorEq, not_false_eq_true, Nat.reduceEqDiff] using E.ro _ h0
  · intro g' h0
    by_cases q : g' = p
    · subst q
      rw [ku_eq, ku_eq]
    · rw [ku_i q, ku_j q]
      exact E.lo _ h0
  · intro k' h0
    simpa [k_up] using E.cs _ h0
  · intro k' h0 j' h1
    have h2 := E.cv _ h0 _ (by simpa [k_up] using h1)
    simpa [k_up] using h2
  · intro j' h0
    simpa [k_up] using E.nu _ h0
  · rw [ku_f (by decide), s_fru (by decide)]
    exact E.fr
theorem s_E.w_me {x : Nat} {K M : kM} (E : s_E x K M) {j : Nat} (v : Int32) : s_E x (k_up K 4 0 j v) (k_up M 17 0 j v) := by
  refine ⟨?_, ?_, ?_, ?_, ?_, ?_, ?_, ?_, ?_, ?_, ?_, ?_, ?_, ?_, ?_, ?_, ?_, ?_, ?_, ?_, ?_, ?_, ?_, ?_, ?_, ?_⟩
  · intro i' h0
    simpa [k_up] using E.p0 _ h0
  · intro i' h0
    simpa [k_up] using E.p1 _ h0
  · intro i' h0
    simpa [k_up] using E.p2 _ h0
  · intro i' h0
    simpa [k_up] using E.p3 _ h0
  · intro g' h0
    by_cases q : g' = j
    · subst q
      rw [ku_eq, ku_eq]
    · rw [ku_j q, ku_j q]
      exact E.me _ h0
  · intro j' h0
    simpa [k_up] using E.tk _ h0
  · intro g' h0
    simpa [k_up] using E.st _ h0
  · intro g' h0 h1
    simpa [k_up] using E.pl _ h0 h1
  · intro g' h0
    simpa [k_up] using E.hd _ h0
  · intro g' h0
    simpa [k_up] using E.qu _ h0
  · intro g' h0
    simpa [k_up] using E.us _ h0
  · intro g' h0
    simpa [k_up] using E.gi _ h0
  · intro g' h0
    simpa [k_up] using E.pa _ h0
  · intro g' h0
    simpa [k_up] using E.oc _ h0
  · intro g' h0
    simpa [k_up] using E.tr _ h0
  · intro g' h0 j' h1
    simpa [k_up] using E.re _ h0 _ h1
  · intro g' h0 j' h1
    simpa [k_up] using E.pg _ h0 _ h1
  · intro p' h0
    simpa [k_up] using E.ha _ h0
  · intro p' h0
    simpa [k_up] using E.ti _ h0
  · intro r' h0
    simpa [k_up] using E.sz _ h0
  · intro r' h0
    simpa only [s_rK_up, s_rM_up, ne_eq, reduceCtorEq, not_false_eq_true, Nat.reduceEqDiff] using E.ro _ h0
  · intro k' h0
    simpa [k_up] using E.lo _ h0
  · intro k' h0
    simpa [k_up] using E.cs _ h0
  · intro k' h0 j' h1
    have h2 := E.cv _ h0 _ (by simpa [k_up] using h1)
    simpa [k_up] using h2
  · intro j' h0
    simpa [k_up] using E.nu _ h0
  · rw [ku_f (by decide), s_fru (by decide)]
    exact E.fr
theorem s_E.w_nu {x : Nat} {K M : kM} (E : s_E x K M) {j : Nat} (v : Int32) : s_E x (k_up K 0 0 (6 + j) v) (k_up M 0 0 (25 + j) v) := by
  refine ⟨?_, ?_, ?_, ?_, ?_, ?_, ?_, ?_, ?_, ?_, ?_, ?_, ?_, ?_, ?_, ?_, ?_, ?_, ?_, ?_, ?_, ?_, ?_, ?_, ?_, ?_⟩
  · intro i' h0
    simpa [k_up] using E.p0 _ h0
  · intro i' h0
    simpa [k_up] using E.p1 _ h0
  · intro i' h0
    simpa [k_up] using E.p2 _ h0
  · intro i' h0
    simpa [k_up] using E.p3 _ h0
  · intro j' h0
    simpa [k_up] using E.me _ h0
  · intro j' h0
    simpa [k_up] using E.tk _ h0
  · intro g' h0
    simpa [k_up] using E.st _ h0
  · intro g' h0 h1
    simpa [k_up] using E.pl _ h0 h1
  · intro g' h0
    simpa [k_up] using E.hd _ h0
  · intro g' h0
    simpa [k_up] using E.qu _ h0
  · intro g' h0
    simpa [k_up] using E.us _ h0
  · intro g' h0
    simpa [k_up] using E.gi _ h0
  · intro g' h0
    simpa [k_up] using E.pa _ h0
  · intro g' h0
    simpa [k_up] using E.oc _ h0
  · intro g' h0
    simpa [k_up] using E.tr _ h0
  · intro g' h0 j' h1
    simpa [k_up] using E.re _ h0 _ h1
  · intro g' h0 j' h1
    simpa [k_up] using E.pg _ h0 _ h1
  · intro p' h0
    simpa [k_up] using E.ha _ h0
  · intro p' h0
    simpa [k_up] using E.ti _ h0
  · intro r' h0
    simpa [k_up] using E.sz _ h0
  · intro r' h0
    simpa only [s_rK_up, s_rM_up, ne_eq, reduceCtorEq, not_false_eq_true, Nat.reduceEqDiff] using E.ro _ h0
  · intro k' h0
    simpa [k_up] using E.lo _ h0
  · intro k' h0
    simpa [k_up] using E.cs _ h0
  · intro k' h0 j' h1
    have h2 := E.cv _ h0 _ (by simpa [k_up] using h1)
    simpa [k_up] using h2
  · intro g' h0
    by_cases q : g' = j
    · subst q
      rw [ku_eq, ku_eq]
    · rw [ku_j (by omega), ku_j (by omega)]
      exact E.nu _ h0
  · rw [ku_f (by decide), s_fru (by decide)]
    exact E.fr
