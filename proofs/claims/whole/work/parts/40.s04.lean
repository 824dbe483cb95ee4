/-! ===== THE TWO SIDE BY SIDE (4): who stands where ===== -/
def s_c (M : kM) (r g : Nat) : Nat := (s_rM M r).count (nI g)
def s_cR (M : kM) (g : Nat) : Nat := s_c M 0 g + s_c M 1 g
def s_cB (M : kM) (g : Nat) : Nat := s_c M 2 g + s_c M 3 g + s_c M 4 g + s_c M 5 g + s_c M 6 g + s_c M 7 g + s_c M 8 g + s_c M 9 g + s_c M 10 g + s_c M 11 g + s_c M 12 g + s_c M 13 g
theorem s_in {M : kM} {r : Nat} (J : m_Inv M) : ∀ x ∈ s_rM M r, ∃ a, a < 6 ∧ x = nI a := by
  intro x hx
  obtain ⟨k, hk, rfl⟩ := List.mem_map.mp hx
  exact r_nat (J 19 0 (r * 6 + k)) (by decide)
theorem s_c6 {a : Nat} (h : a < 6) : a = 0 ∨ a = 1 ∨ a = 2 ∨ a = 3 ∨ a = 4 ∨ a = 5 := by omega
theorem s_lenl : ∀ l : List Int32, (∀ x ∈ l, ∃ a, a < 6 ∧ x = nI a) → l.length = l.count (nI 0) + l.count (nI 1) + l.count (nI 2) + l.count (nI 3) + l.count (nI 4) + l.count (nI 5)
  | [], _ => rfl
  | x :: l, h => by
    have ih := s_lenl l (fun y hy => h y (List.mem_cons_of_mem _ hy))
    obtain ⟨a, ha, rfl⟩ := h x List.mem_cons_self
    rw [List.length_cons, List.count_cons, List.count_cons, List.count_cons, List.count_cons, List.count_cons, List.count_cons]
    rcases s_c6 ha with rfl | rfl | rfl | rfl | rfl | rfl
    · rw [if_pos (by decide), if_neg (by decide), if_neg (by decide), if_neg (by decide), if_neg (by decide), if_neg (by decide)]; omega
    · rw [if_neg (by decide), if_pos (by decide), if_neg (by decide), if_neg (by decide), if_neg (by decide), if_neg (by decide)]; omega
    · rw [if_neg (by decide), if_neg (by decide), if_pos (by decide), if_neg (by decide), if_neg (by decide), if_neg (by decide)]; omega
    · rw [if_neg (by decide), if_neg (by decide), if_neg (by decide), if_pos (by decide), if_neg (by decide), if_neg (by decide)]; omega
    · rw [if_neg (by decide), if_neg (by decide), if_neg (by decide), if_neg (by decide), if_pos (by decide), if_neg (by decide)]; omega
    · rw [if_neg (by decide), if_neg (by decide), if_neg (by decide), if_neg (by decide), if_neg (by decide), if_pos (by decide)]; omega
theorem s_len {M : kM} (J : m_Inv M) (r : Nat) : (M 20 0 r).toNatClampNeg = s_c M r 0 + s_c M r 1 + s_c M r 2 + s_c M r 3 + s_c M r 4 + s_c M r 5 := by
  rw [← s_rM_len]
  exact s_lenl _ (s_in J)
def s_k (M : kM) (g : Nat) : Nat := s_cR M g + s_cB M g
theorem s_tot {M : kM} (J : m_Inv M) : m_tot M = s_k M 0 + s_k M 1 + s_k M 2 + s_k M 3 + s_k M 4 + s_k M 5 := by
  unfold m_tot s_k s_cR s_cB
  rw [s_len J, s_len J, s_len J, s_len J, s_len J, s_len J, s_len J, s_len J, s_len J, s_len J, s_len J, s_len J, s_len J, s_len J]
  omega
def s_A (p : Nat) (M : kM) : Prop := (∀ g, g < 6 → M 5 0 g = -1 ∨ M 5 0 g = 0 ∨ M 5 0 g = 1 ∨ M 5 0 g = 2 ∨ M 5 0 g = 3) ∧
  (∀ g, g < 6 → s_cR M g = if M 5 0 g = 0 then 1 else 0) ∧ (∀ g, g < 6 → s_cB M g = if M 5 0 g = 2 then 1 else 0) ∧
  (∀ q, q < 2 → q ≠ p → ∀ g, g < 6 → M 24 0 q = nI g → M 5 0 g = 1) ∧ (∀ g, g < 6 → M 5 0 g = 1 → ∃ q, q < 2 ∧ M 24 0 q = nI g) ∧ (M 24 0 0 = M 24 0 1 → M 24 0 0 = -1)
theorem s_A.rg {p : Nat} {M : kM} (A : s_A p M) : ∀ g, g < 6 → M 5 0 g = -1 ∨ M 5 0 g = 0 ∨ M 5 0 g = 1 ∨ M 5 0 g = 2 ∨ M 5 0 g = 3 := A.1
theorem s_A.cr {p : Nat} {M : kM} (A : s_A p M) : ∀ g, g < 6 → s_cR M g = if M 5 0 g = 0 then 1 else 0 := A.2.1
theorem s_A.cb {p : Nat} {M : kM} (A : s_A p M) : ∀ g, g < 6 → s_cB M g = if M 5 0 g = 2 then 1 else 0 := A.2.2.1
theorem s_A.h1 {p : Nat} {M : kM} (A : s_A p M) : ∀ q, q < 2 → q ≠ p → ∀ g, g < 6 → M 24 0 q = nI g → M 5 0 g = 1 := A.2.2.2.1
theorem s_A.h2 {p : Nat} {M : kM} (A : s_A p M) : ∀ g, g < 6 → M 5 0 g = 1 → ∃ q, q < 2 ∧ M 24 0 q = nI g := A.2.2.2.2.1
theorem s_A.h3 {p : Nat} {M : kM} (A : s_A p M) : M 24 0 0 = M 24 0 1 → M 24 0 0 = -1 := A.2.2.2.2.2
theorem s_A.k1 {p : Nat} {M : kM} (A : s_A p M) {g : Nat} (hg : g < 6) : s_k M g ≤ 1 ∧ (M 5 0 g ≠ 0 → M 5 0 g ≠ 2 → s_k M g = 0) := by
  unfold s_k
  rw [A.cr g hg, A.cb g hg]
  by_cases h : M 5 0 g = 0
  · rw [if_pos h, h, if_neg (by decide)]
    exact ⟨by omega, fun z => absurd rfl z⟩
  · rw [if_neg h]
    by_cases h2 : M 5 0 g = 2
    · rw [if_pos h2]
      exact ⟨by omega, fun _ z => absurd h2 z⟩
    · rw [if_neg h2]
      exact ⟨by omega, fun _ _ => rfl⟩
theorem s_A.tot6 {p : Nat} {M : kM} (A : s_A p M) (J : m_Inv M) : m_tot M ≤ 6 := by
  rw [s_tot J]
  have a0 := (A.k1 (g := 0) (by omega)).1
  have a1 := (A.k1 (g := 1) (by omega)).1
  have a2 := (A.k1 (g := 2) (by omega)).1
  have a3 := (A.k1 (g := 3) (by omega)).1
  have a4 := (A.k1 (g := 4) (by omega)).1
  have a5 := (A.k1 (g := 5) (by omega)).1
  omega
theorem s_A.tot5 {p : Nat} {M : kM} (A : s_A p M) (J : m_Inv M) {g : Nat} (hg : g < 6) (h0 : M 5 0 g ≠ 0) (h2 : M 5 0 g ≠ 2) : m_tot M ≤ 5 := by
  rw [s_tot J]
  have a0 := (A.k1 (g := 0) (by omega)).1
  have a1 := (A.k1 (g := 1) (by omega)).1
  have a2 := (A.k1 (g := 2) (by omega)).1
  have a3 := (A.k1 (g := 3) (by omega)).1
  have a4 := (A.k1 (g := 4) (by omega)).1
  have a5 := (A.k1 (g := 5) (by omega)).1
  have z := (A.k1 hg).2 h0 h2
  rcases s_c6 hg with rfl | rfl | rfl | rfl | rfl | rfl <;> omega
theorem s_A.len5 {p : Nat} {M : kM} (A : s_A p M) (J : m_Inv M) {g : Nat} (hg : g < 6) (h0 : M 5 0 g ≠ 0) (h2 : M 5 0 g ≠ 2) {r : Nat} (hr : r < 14) : (s_rM M r).length < 6 := by
  have a := A.tot5 J hg h0 h2
  have b := mt_le (K := M) hr
  rw [s_rM_len]
  omega
theorem s_upR {M M' : kM} {r : Nat} (h : ∀ r', r' < 14 → r' ≠ r → s_rM M' r' = s_rM M r') (hr : r < 2) (g : Nat) : s_cR M' g + s_c M r g = s_cR M g + s_c M' r g ∧ s_cB M' g = s_cB M g := by
  have e : ∀ r', r' < 14 → r' ≠ r → s_c M' r' g = s_c M r' g := fun r' a b => by
    unfold s_c
    rw [h r' a b]
  unfold s_cR s_cB
  rw [e 2 (by omega) (by omega), e 3 (by omega) (by omega), e 4 (by omega) (by omega), e 5 (by omega) (by omega), e 6 (by omega) (by omega), e 7 (by omega) (by omega), e 8 (by omega) (by omega), e 9 (by omega) (by omega), e 10 (by omega) (by omega), e 11 (by omega) (by omega), e 12 (by omega) (by omega), e 13 (by omega) (by omega)]
  have : r = 0 ∨ r = 1 := by omega
  rcases this with rfl | rfl
  · rw [e 1 (by omega) (by omega)]; exact ⟨by omega, rfl⟩
  · rw [e 0 (by omega) (by omega)]; exact ⟨by omega, rfl⟩
theorem s_upB {M M' : kM} {r : Nat} (h : ∀ r', r' < 14 → r' ≠ r → s_rM M' r' = s_rM M r') (hr2 : 2 ≤ r) (hr : r < 14) (g : Nat) : s_cB M' g + s_c M r g = s_cB M g + s_c M' r g ∧ s_cR M' g = s_cR M g := by
  have e : ∀ r', r' < 14 → r' = r ∨ s_c M' r' g = s_c M r' g := fun r' a => by
    by_cases b : r' = r
    · exact Or.inl b
    · refine Or.inr ?_
      unfold s_c
      rw [h r' a b]
  unfold s_cR s_cB
  have e0 := e 0 (by omega)
  have e1 := e 1 (by omega)
  have e2 := e 2 (by omega)
  have e3 := e 3 (by omega)
  have e4 := e 4 (by omega)
  have e5 := e 5 (by omega)
  have e6 := e 6 (by omega)
  have e7 := e 7 (by omega)
  have e8 := e 8 (by omega)
  have e9 := e 9 (by omega)
  have e10 := e 10 (by omega)
  have e11 := e 11 (by omega)
  have e12 := e 12 (by omega)
  have e13 := e 13 (by omega)
  rcases m_c14 hr with rfl | rfl | rfl | rfl | rfl | rfl | rfl | rfl | rfl | rfl | rfl | rfl | rfl | rfl
  · omega
  · omega
  all_goals (
    have f0 := Or.resolve_left e0 (by decide)
    have f1 := Or.resolve_left e1 (by decide)
    refine ⟨?_, by omega⟩
    clear f0 f1 e0 e1 hr hr2
    (try replace e2 := Or.resolve_left e2 (by decide))
    (try replace e3 := Or.resolve_left e3 (by decide))
    (try replace e4 := Or.resolve_left e4 (by decide))
    (try replace e5 := Or.resolve_left e5 (by decide))
    (try replace e6 := Or.resolve_left e6 (by decide))
    (try replace e7 := Or.resolve_left e7 (by decide))
    (try replace e8 := Or.resolve_left e8 (by decide))
    (try replace e9 := Or.resolve_left e9 (by decide))
    (try replace e10 := Or.resolve_left e10 (by decide))
    (try replace e11 := Or.resolve_left e11 (by decide))
    (try replace e12 := Or.resolve_left e12 (by decide))
    (try replace e13 := Or.resolve_left e13 (by decide))
    omega)
theorem s_A.gen {p : Nat} {M M' : kM} (A : s_A p M) {w : Nat} (_ : w < 6) (e5 : ∀ g, g < 6 → g ≠ w → M' 5 0 g = M 5 0 g) (e24 : ∀ q, M' 24 0 q = M 24 0 q)
    (ec : ∀ g, g < 6 → g ≠ w → s_cR M' g = s_cR M g ∧ s_cB M' g = s_cB M g) (rw' : M' 5 0 w = -1 ∨ M' 5 0 w = 0 ∨ M' 5 0 w = 1 ∨ M' 5 0 w = 2 ∨ M' 5 0 w = 3)
    (cr : s_cR M' w = if M' 5 0 w = 0 then 1 else 0) (cb : s_cB M' w = if M' 5 0 w = 2 then 1 else 0) (n1 : M' 5 0 w ≠ 1) (hq : ∀ q, q < 2 → q ≠ p → M 24 0 q ≠ nI w) : s_A p M' := by
  refine ⟨fun g hg => ?_, fun g hg => ?_, fun g hg => ?_, fun q h1 h2 g hg hh => ?_, fun g hg h1 => ?_, ?_⟩
  · by_cases z : g = w
    · rw [z]; exact rw'
    · rw [e5 g hg z]; exact A.rg g hg
  · by_cases z : g = w
    · rw [z]; exact cr
    · rw [e5 g hg z, (ec g hg z).1]; exact A.cr g hg
  · by_cases z : g = w
    · rw [z]; exact cb
    · rw [e5 g hg z, (ec g hg z).2]; exact A.cb g hg
  · rw [e24] at hh
    by_cases z : g = w
    · rw [z] at hh
      exact absurd hh (hq q h1 h2)
    · rw [e5 g hg z]; exact A.h1 q h1 h2 g hg hh
  · by_cases z : g = w
    · rw [z] at h1
      exact absurd h1 n1
    · rw [e5 g hg z] at h1
      obtain ⟨q, a, b⟩ := A.h2 g hg h1
      exact ⟨q, a, by rw [e24]; exact b⟩
  · rw [e24, e24]; exact A.h3
theorem s_A.congr {p : Nat} {M M' : kM} (A : s_A p M) (e5 : ∀ g, M' 5 0 g = M 5 0 g) (e24 : ∀ q, M' 24 0 q = M 24 0 q) (er : ∀ r, r < 14 → s_rM M' r = s_rM M r) : s_A p M' := by
  have ec : ∀ g r, r < 14 → s_c M' r g = s_c M r g := fun g r h => by
    unfold s_c
    rw [er r h]
  have e1 : ∀ g, s_cR M' g = s_cR M g := fun g => by
    unfold s_cR
    rw [ec g 0 (by omega), ec g 1 (by omega)]
  have e2 : ∀ g, s_cB M' g = s_cB M g := fun g => by
    unfold s_cB
    rw [ec g 2 (by omega), ec g 3 (by omega), ec g 4 (by omega), ec g 5 (by omega), ec g 6 (by omega), ec g 7 (by omega), ec g 8 (by omega), ec g 9 (by omega), ec g 10 (by omega), ec g 11 (by omega), ec g 12 (by omega), ec g 13 (by omega)]
  unfold s_A
  simp only [e5, e24, e1, e2]
  exact A
theorem s_A.up {p : Nat} {M : kM} (A : s_A p M) {f i j : Nat} {x : Int32} (h5 : f ≠ 5) (h19 : f ≠ 19) (h20 : f ≠ 20) (h24 : f ≠ 24) : s_A p (k_up M f i j x) :=
  A.congr (fun _ => ku_f h5.symm) (fun _ => ku_f h24.symm) (fun _ _ => s_rM_up h19 h20)
theorem s_ne {a b : Nat} (ha : a < 6) (hb : b < 6) (h : a ≠ b) : nI a ≠ nI b := fun z => h ((nI_eq (by omega) (by omega)).mp z)
theorem s_cnt {l : List Int32} {a g : Nat} (ha : a < 6) (hg : g < 6) : (l ++ [nI a]).count (nI g) = l.count (nI g) + (if g = a then 1 else 0) := by
  rw [List.count_append, List.count_cons, List.count_nil]
  by_cases z : g = a
  · rw [z, if_pos (by simp), if_pos rfl]
  · rw [if_neg (by simpa using s_ne ha hg (Ne.symm z)), if_neg z]
theorem s_cnt' {l : List Int32} {a g : Nat} (ha : a < 6) (hg : g < 6) : (nI a :: l).count (nI g) = l.count (nI g) + (if g = a then 1 else 0) := by
  rw [List.count_cons]
  by_cases z : g = a
  · rw [z, if_pos (by simp), if_pos rfl]
  · rw [if_neg (by simpa using s_ne ha hg (Ne.symm z)), if_neg z]
/-- a guest that stands nowhere takes a place in a ready row -/
theorem s_A.put {p : Nat} {M : kM} (A : s_A p M) (J : m_Inv M) {w r : Nat} {v : Int32} (hw : w < 6) (hr : r < 14) (hv : v = 0 ∧ r < 2 ∨ v = 2 ∧ 2 ≤ r) (h0 : M 5 0 w ≠ 0) (h2 : M 5 0 w ≠ 2) (hq : ∀ q, q < 2 → q ≠ p → M 24 0 q ≠ nI w) : s_A p (m_add (k_up M 5 0 w v) r w) := by
  have hl : (s_rM (k_up M 5 0 w v) r).length < 6 := by
    rw [s_rM_up (by decide) (by decide)]
    exact A.len5 J hw h0 h2 hr
  have J1 : m_Inv (k_up M 5 0 w v) := k_Inv.up J trivial
  have er : ∀ r', s_rM (m_add (k_up M 5 0 w v) r w) r' = if r' = r then s_rM M r ++ [nI w] else s_rM M r' := fun r' => by
    rw [s_add J1 hl, s_rM_up (by decide) (by decide), s_rM_up (by decide) (by decide)]
  have en : ∀ r', r' < 14 → r' ≠ r → s_rM (m_add (k_up M 5 0 w v) r w) r' = s_rM M r' := fun r' _ h => by rw [er, if_neg h]
  have ec : ∀ g, g < 6 → s_c (m_add (k_up M 5 0 w v) r w) r g = s_c M r g + if g = w then 1 else 0 := fun g hg => by
    unfold s_c
    rw [er, if_pos rfl, s_cnt hw hg]
  have es : ∀ g, m_add (k_up M 5 0 w v) r w 5 0 g = if g = w then v else M 5 0 g := fun g => by
    rw [s_mAf (by decide) (by decide)]
    by_cases z : g = w
    · rw [z, ku_eq, if_pos rfl]
    · rw [ku_j z, if_neg z]
  have c1 := A.cr w hw
  have c2 := A.cb w hw
  rw [if_neg h0] at c1
  rw [if_neg h2] at c2
  refine A.gen hw (fun g hg z => by rw [es, if_neg z]) (fun q => by rw [s_mAf (by decide) (by decide), ku_f (by decide)]) (fun g hg z => ?_) ?_ ?_ ?_ ?_ hq
  · rcases hv with ⟨_, h⟩ | ⟨_, h⟩
    · have a := s_upR en h g
      rw [ec g hg, if_neg z] at a
      exact ⟨by omega, a.2⟩
    · have a := s_upB en h hr g
      rw [ec g hg, if_neg z] at a
      exact ⟨a.2, by omega⟩
  · rw [es, if_pos rfl]
    rcases hv with ⟨h, _⟩ | ⟨h, _⟩
    · exact Or.inr (Or.inl h)
    · exact Or.inr (Or.inr (Or.inr (Or.inl h)))
  · rw [es, if_pos rfl]
    rcases hv with ⟨h, h'⟩ | ⟨h, h'⟩
    · have a := s_upR en h' w
      rw [ec w hw, if_pos rfl] at a
      rw [if_pos h]
      omega
    · have a := s_upB en h' hr w
      rw [if_neg (by rw [h]; decide), a.2, c1]
  · rw [es, if_pos rfl]
    rcases hv with ⟨h, h'⟩ | ⟨h, h'⟩
    · have a := s_upR en h' w
      rw [if_neg (by rw [h]; decide), a.2, c2]
    · have a := s_upB en h' hr w
      rw [ec w hw, if_pos rfl] at a
      rw [if_pos h]
      omega
  · rw [es, if_pos rfl]
    rcases hv with ⟨h, _⟩ | ⟨h, _⟩ <;> rw [h] <;> decide
