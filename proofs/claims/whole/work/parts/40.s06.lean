/-! ===== THE TWO SIDE BY SIDE (6): pages and frames ===== -/
def s_o (x : Int32) : Nat := if x = -1 then 0 else 1
def s_np (M : kM) (g : Nat) : Nat := s_o (M 16 0 (g * 4)) + s_o (M 16 0 (g * 4 + 1)) + s_o (M 16 0 (g * 4 + 2)) + s_o (M 16 0 (g * 4 + 3))
def s_B (M : kM) : Prop := (∀ g, g < 6 → M 5 0 g ≠ -1 → ∀ j, j < 4 → M 16 0 (g * 4 + j) ≠ -1 → M 18 0 (M 16 0 (g * 4 + j)).toNatClampNeg ≠ 0) ∧
  (∀ g, g < 6 → M 5 0 g ≠ -1 → ∀ j, j < 4 → M 16 0 (g * 4 + j) ≠ -1 → ∀ g', g' < 6 → M 5 0 g' ≠ -1 → ∀ j', j' < 4 → M 16 0 (g' * 4 + j') = M 16 0 (g * 4 + j) → g' = g ∧ j' = j) ∧
  (∀ g, g < 6 → M 5 0 g ≠ -1 → M 9 0 g = nI (s_np M g))
theorem s_B.congr {M M' : kM} (B : s_B M) (e5 : ∀ g, g < 6 → M' 5 0 g ≠ -1 → M 5 0 g ≠ -1) (e16 : ∀ j, M' 16 0 j = M 16 0 j) (e18 : ∀ j, M' 18 0 j = M 18 0 j) (e9 : ∀ j, M' 9 0 j = M 9 0 j) : s_B M' := by
  refine ⟨fun g hg h => ?_, fun g hg h => ?_, fun g hg h => ?_⟩
  · simp only [e16, e18]
    exact B.1 g hg (e5 g hg h)
  · intro j hj
    rw [e16]
    intro h1 g' hg' h' j' hj'
    rw [e16]
    exact B.2.1 g hg (e5 g hg h) j hj h1 g' hg' (e5 g' hg' h') j' hj'
  · have : s_np M' g = s_np M g := by simp only [s_np, e16]
    rw [e9, this]
    exact B.2.2 g hg (e5 g hg h)
theorem s_B.up {M : kM} (B : s_B M) {f i j : Nat} {x : Int32} (h5 : f ≠ 5) (h16 : f ≠ 16) (h18 : f ≠ 18) (h9 : f ≠ 9) : s_B (k_up M f i j x) :=
  B.congr (fun g _ => by rw [ku_f h5.symm]; exact id) (fun _ => ku_f h16.symm) (fun _ => ku_f h18.symm) (fun _ => ku_f h9.symm)
theorem s_B.st {M : kM} (B : s_B M) {g : Nat} {v : Int32} (h : M 5 0 g ≠ -1) : s_B (k_up M 5 0 g v) :=
  B.congr (fun g' _ => by
    by_cases z : g' = g
    · rw [z]; exact fun _ => h
    · rw [ku_j z]; exact id) (fun _ => ku_f (by decide)) (fun _ => ku_f (by decide)) (fun _ => ku_f (by decide))
theorem s_oset {M : kM} {g p : Nat} {x : Int32} (hp : p < 4) : s_np (k_up M 16 0 (g * 4 + p) x) g + s_o (M 16 0 (g * 4 + p)) = s_np M g + s_o x := by
  unfold s_np
  have : p = 0 ∨ p = 1 ∨ p = 2 ∨ p = 3 := by omega
  rcases this with rfl | rfl | rfl | rfl
  · rw [Nat.add_zero, ku_eq, ku_j (by omega), ku_j (by omega), ku_j (by omega)]; omega
  · rw [ku_eq, ku_j (by omega), ku_j (by omega), ku_j (by omega)]; omega
  · rw [ku_eq, ku_j (by omega), ku_j (by omega), ku_j (by omega)]; omega
  · rw [ku_eq, ku_j (by omega), ku_j (by omega), ku_j (by omega)]; omega
theorem s_npo {M : kM} {g g' p : Nat} {x : Int32} (hp : p < 4) (h : g' ≠ g) : s_np (k_up M 16 0 (g * 4 + p) x) g' = s_np M g' := by
  unfold s_np
  rw [ku_j (by omega), ku_j (by omega), ku_j (by omega), ku_j (by omega)]
theorem s_B.set {M : kM} (B : s_B M) {g p f : Nat} {u : Int32} (hg : g < 6) (hp : p < 4) (hf : f < 12) (h5 : M 5 0 g ≠ -1) (h0 : M 18 0 f = 0) (hm : M 16 0 (g * 4 + p) = -1) (hu : u = M 9 0 g + 1) :
    s_B (k_up (k_up (k_up M 18 0 f 1) 16 0 (g * 4 + p) (nI f)) 9 0 g u) := by
  have e5 : ∀ a, k_up (k_up (k_up M 18 0 f 1) 16 0 (g * 4 + p) (nI f)) 9 0 g u 5 0 a = M 5 0 a := fun a => by rw [ku_f (by decide), ku_f (by decide), ku_f (by decide)]
  have e16 : ∀ a, k_up (k_up (k_up M 18 0 f 1) 16 0 (g * 4 + p) (nI f)) 9 0 g u 16 0 a = if a = g * 4 + p then nI f else M 16 0 a := fun a => by
    rw [ku_f (by decide)]
    by_cases z : a = g * 4 + p
    · rw [z, ku_eq, if_pos rfl]
    · rw [ku_j z, ku_f (by decide), if_neg z]
  have e18 : ∀ a, k_up (k_up (k_up M 18 0 f 1) 16 0 (g * 4 + p) (nI f)) 9 0 g u 18 0 a = if a = f then 1 else M 18 0 a := fun a => by
    rw [ku_f (by decide), ku_f (by decide)]
    by_cases z : a = f
    · rw [z, ku_eq, if_pos rfl]
    · rw [ku_j z, if_neg z]
  refine ⟨fun g1 hg1 h1 j1 hj1 => ?_, fun g1 hg1 h1 j1 hj1 => ?_, fun g1 hg1 h1 => ?_⟩
  · rw [e5] at h1
    rw [e16]
    by_cases z : g1 * 4 + j1 = g * 4 + p
    · rw [if_pos z, e18, s_nC (by omega), if_pos rfl]
      exact fun _ => by decide
    · rw [if_neg z, e18]
      intro h2
      split
      · decide
      · exact B.1 g1 hg1 h1 j1 hj1 h2
  · rw [e5] at h1
    rw [e16]
    by_cases z : g1 * 4 + j1 = g * 4 + p
    · rw [if_pos z]
      intro _ g2 hg2 h2 j2 hj2
      rw [e5] at h2
      rw [e16]
      by_cases y : g2 * 4 + j2 = g * 4 + p
      · exact fun _ => by omega
      · rw [if_neg y]
        intro h
        have := B.1 g2 hg2 h2 j2 hj2 (by rw [h]; intro q; have := nI_toInt (n := f) (by omega); rw [q] at this; have e : (-1 : Int32).toInt = -1 := by decide
                                         omega)
        rw [h, s_nC (by omega)] at this
        exact absurd h0 this
    · rw [if_neg z]
      intro h3 g2 hg2 h2 j2 hj2
      rw [e5] at h2
      rw [e16]
      by_cases y : g2 * 4 + j2 = g * 4 + p
      · rw [if_pos y]
        intro h
        have := B.1 g1 hg1 h1 j1 hj1 h3
        rw [← h, s_nC (by omega)] at this
        exact absurd h0 this
      · rw [if_neg y]
        exact B.2.1 g1 hg1 h1 j1 hj1 h3 g2 hg2 h2 j2 hj2
  · rw [e5] at h1
    have en : s_np (k_up (k_up (k_up M 18 0 f 1) 16 0 (g * 4 + p) (nI f)) 9 0 g u) g1 = s_np (k_up M 16 0 (g * 4 + p) (nI f)) g1 := by
      unfold s_np
      rw [e16, e16, e16, e16]
      simp only [k_up, true_and, and_true]
    rw [en]
    by_cases z : g1 = g
    · rw [z, ku_eq, hu, B.2.2 g hg h5, nI_1]
      have := s_oset (M := M) (g := g) (x := nI f) hp
      have e1 : s_o (M 16 0 (g * 4 + p)) = 0 := by rw [hm]; rfl
      have e2 : s_o (nI f) = 1 := by
        unfold s_o
        rw [if_neg]
        intro q
        have := nI_toInt (n := f) (by omega)
        rw [q] at this
        have e : (-1 : Int32).toInt = -1 := by decide
        omega
      congr 1
      omega
    · rw [ku_j z, ku_f (by decide), ku_f (by decide), s_npo hp z]
      exact B.2.2 g1 hg1 h1
theorem s_B.unset {M : kM} (B : s_B M) (J : m_Inv M) {g p f : Nat} {u : Int32} (hg : g < 6) (hp : p < 4) (hf : f < 12) (h5 : M 5 0 g ≠ -1) (hm : M 16 0 (g * 4 + p) = nI f) (hu : u = M 9 0 g - 1) :
    s_B (k_up (k_up (k_up M 16 0 (g * 4 + p) (-1)) 9 0 g u) 18 0 f 0) ∧ M 18 0 f ≠ 0 ∧ 1 ≤ s_np M g := by
  have nf : nI f ≠ -1 := by
    intro q
    have := nI_toInt (n := f) (by omega)
    rw [q] at this
    have e : (-1 : Int32).toInt = -1 := by decide
    omega
  have ht : M 18 0 f ≠ 0 := by
    have := B.1 g hg h5 p hp (by rw [hm]; exact nf)
    rw [hm, s_nC (by omega)] at this
    exact this
  have e5 : ∀ a, k_up (k_up (k_up M 16 0 (g * 4 + p) (-1)) 9 0 g u) 18 0 f 0 5 0 a = M 5 0 a := fun a => by rw [ku_f (by decide), ku_f (by decide), ku_f (by decide)]
  have e16 : ∀ a, k_up (k_up (k_up M 16 0 (g * 4 + p) (-1)) 9 0 g u) 18 0 f 0 16 0 a = if a = g * 4 + p then -1 else M 16 0 a := fun a => by
    rw [ku_f (by decide), ku_f (by decide)]
    by_cases z : a = g * 4 + p
    · rw [z, ku_eq, if_pos rfl]
    · rw [ku_j z, if_neg z]
  have e18 : ∀ a, k_up (k_up (k_up M 16 0 (g * 4 + p) (-1)) 9 0 g u) 18 0 f 0 18 0 a = if a = f then 0 else M 18 0 a := fun a => by
    by_cases z : a = f
    · rw [z, ku_eq, if_pos rfl]
    · rw [ku_j z, ku_f (by decide), ku_f (by decide), if_neg z]
  have so := s_oset (M := M) (g := g) (x := -1) hp
  have e1 : s_o (M 16 0 (g * 4 + p)) = 1 := by rw [hm]; unfold s_o; rw [if_neg nf]
  have e2 : s_o (-1) = 0 := rfl
  refine ⟨⟨fun g1 hg1 h1 j1 hj1 => ?_, fun g1 hg1 h1 j1 hj1 => ?_, fun g1 hg1 h1 => ?_⟩, ht, by omega⟩
  · rw [e5] at h1
    rw [e16]
    by_cases z : g1 * 4 + j1 = g * 4 + p
    · rw [if_pos z]
      exact fun q => absurd rfl q
    · rw [if_neg z, e18]
      intro h2
      rw [if_neg]
      · exact B.1 g1 hg1 h1 j1 hj1 h2
      · intro q
        obtain ⟨a, a1, a2⟩ : ∃ a, a < 12 ∧ M 16 0 (g1 * 4 + j1) = nI a := r_nat (Or.resolve_left (J 16 0 (g1 * 4 + j1)) h2) (by decide)
        rw [a2, s_nC (by omega)] at q
        have := B.2.1 g hg h5 p hp (by rw [hm]; exact nf) g1 hg1 h1 j1 hj1 (by rw [a2, q, hm])
        exact z (by rw [this.1, this.2])
  · rw [e5] at h1
    rw [e16]
    by_cases z : g1 * 4 + j1 = g * 4 + p
    · rw [if_pos z]
      exact fun q => absurd rfl q
    · rw [if_neg z]
      intro h3 g2 hg2 h2 j2 hj2
      rw [e5] at h2
      rw [e16]
      by_cases y : g2 * 4 + j2 = g * 4 + p
      · rw [if_pos y]
        exact fun h => absurd h.symm h3
      · rw [if_neg y]
        exact B.2.1 g1 hg1 h1 j1 hj1 h3 g2 hg2 h2 j2 hj2
  · rw [e5] at h1
    have en : s_np (k_up (k_up (k_up M 16 0 (g * 4 + p) (-1)) 9 0 g u) 18 0 f 0) g1 = s_np (k_up M 16 0 (g * 4 + p) (-1)) g1 := by
      unfold s_np
      rw [e16, e16, e16, e16]
      simp only [k_up, true_and, and_true]
    rw [en, ku_f (by decide)]
    by_cases z : g1 = g
    · rw [z, ku_eq, hu, B.2.2 g hg h5]
      obtain ⟨n, hn⟩ : ∃ n, s_np M g = n + 1 := ⟨s_np M g - 1, by omega⟩
      rw [hn, nI_pred]
      congr 1
      omega
    · rw [ku_j z, ku_f (by decide), s_npo hp z]
      exact B.2.2 g1 hg1 h1
