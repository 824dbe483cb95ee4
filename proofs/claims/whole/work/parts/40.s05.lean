/-! ===== THE TWO SIDE BY SIDE (5): moves between rows and hands ===== -/
theorem s_n1 {g : Nat} (hg : g < 6) : (-1 : Int32) ≠ nI g := by
  rcases s_c6 hg with rfl | rfl | rfl | rfl | rfl | rfl <;> decide
theorem ku_ku {K : kM} {f i j : Nat} {x y : Int32} : k_up (k_up K f i j x) f i j y = k_up K f i j y := by
  funext a b c
  unfold k_up
  split
  · rfl
  · rfl
theorem s_A.ex {M : kM} (A : s_A 2 M) (p : Nat) : s_A p M := ⟨A.rg, A.cr, A.cb, fun q h1 _ => A.h1 q h1 (by omega), A.h2, A.h3⟩
theorem s_A.oth {p : Nat} {M : kM} (A : s_A p M) {g : Nat} (hg : g < 6) (hp : p < 2) (hh : M 24 0 p = nI g) : ∀ q, q < 2 → q ≠ p → M 24 0 q ≠ nI g := by
  intro q h1 h2 z
  have e : M 24 0 0 = M 24 0 1 := by
    have : (p = 0 ∧ q = 1) ∨ (p = 1 ∧ q = 0) := by omega
    rcases this with ⟨rfl, rfl⟩ | ⟨rfl, rfl⟩
    · rw [hh, z]
    · rw [hh, z]
  have h := A.h3 e
  have : (p = 0) ∨ (p = 1) := by omega
  rcases this with rfl | rfl
  · exact s_n1 hg (by rw [← h, hh])
  · exact s_n1 hg (by rw [← h, e, hh])
theorem s_A.keep {p : Nat} {M : kM} (A : s_A p M) {g : Nat} (hg : g < 6) (hh : M 24 0 p = nI g) (h : M 5 0 g = 1) : s_A 2 M :=
  ⟨A.rg, A.cr, A.cb, fun q h1 _ g' hg' hh' => by
    by_cases z : q = p
    · rw [z, hh] at hh'
      have : g = g' := (nI_eq (by omega) (by omega)).mp hh'
      rw [← this]
      exact h
    · exact A.h1 q h1 z g' hg' hh', A.h2, A.h3⟩
theorem s_A.off {p : Nat} {M : kM} (A : s_A p M) {g : Nat} (hg : g < 6) (hp : p < 2) (hh : M 24 0 p = nI g) (h : M 5 0 g ≠ 1) : s_A 2 (k_up M 24 0 p (-1)) := by
  have e5 : ∀ g, k_up M 24 0 p (-1) 5 0 g = M 5 0 g := fun g => ku_f (by decide)
  have er : ∀ r, s_rM (k_up M 24 0 p (-1)) r = s_rM M r := fun r => s_rM_up (by decide) (by decide)
  have ec : ∀ r g, s_c (k_up M 24 0 p (-1)) r g = s_c M r g := fun r g => by unfold s_c; rw [er]
  refine ⟨fun g hg => by rw [e5]; exact A.rg g hg, fun g hg => by unfold s_cR; rw [e5, ec, ec]; exact A.cr g hg, fun g hg => ?_, fun q h1 _ g' hg' hh' => ?_, fun g' hg' h1 => ?_, fun z => ?_⟩
  · unfold s_cB
    rw [e5, ec, ec, ec, ec, ec, ec, ec, ec, ec, ec, ec, ec]
    exact A.cb g hg
  · rw [e5]
    by_cases z : q = p
    · rw [z, ku_eq] at hh'
      exact absurd hh' (s_n1 hg')
    · rw [ku_j z] at hh'
      exact A.h1 q h1 z g' hg' hh'
  · rw [e5] at h1
    obtain ⟨q, a, b⟩ := A.h2 g' hg' h1
    refine ⟨q, a, ?_⟩
    rw [ku_j (fun z => ?_)]
    · exact b
    · rw [z, hh] at b
      have : g = g' := (nI_eq (by omega) (by omega)).mp b
      rw [← this] at h1
      exact h h1
  · have : (p = 0) ∨ (p = 1) := by omega
    rcases this with rfl | rfl
    · exact ku_eq
    · rw [z]; exact ku_eq
theorem s_A.st {p : Nat} {M : kM} (A : s_A p M) {w : Nat} {v : Int32} (hw : w < 6) (hv : v = 3 ∨ v = -1) (h0 : M 5 0 w ≠ 0) (h2 : M 5 0 w ≠ 2) (hq : ∀ q, q < 2 → q ≠ p → M 24 0 q ≠ nI w) : s_A p (k_up M 5 0 w v) := by
  have er : ∀ r, s_rM (k_up M 5 0 w v) r = s_rM M r := fun r => s_rM_up (by decide) (by decide)
  have ec : ∀ r g, s_c (k_up M 5 0 w v) r g = s_c M r g := fun r g => by unfold s_c; rw [er]
  have eR : ∀ g, s_cR (k_up M 5 0 w v) g = s_cR M g := fun g => by unfold s_cR; rw [ec, ec]
  have eB : ∀ g, s_cB (k_up M 5 0 w v) g = s_cB M g := fun g => by
    unfold s_cB
    rw [ec, ec, ec, ec, ec, ec, ec, ec, ec, ec, ec, ec]
  have c1 := A.cr w hw
  have c2 := A.cb w hw
  rw [if_neg h0] at c1
  rw [if_neg h2] at c2
  refine A.gen hw (fun g hg z => ku_j z) (fun q => ku_f (by decide)) (fun g _ _ => ⟨eR g, eB g⟩) ?_ ?_ ?_ ?_ hq
  · rw [ku_eq]
    rcases hv with h | h
    · exact Or.inr (Or.inr (Or.inr (Or.inr h)))
    · exact Or.inl h
  · rw [ku_eq, eR, c1, if_neg (by rcases hv with h | h <;> rw [h] <;> decide)]
  · rw [ku_eq, eB, c2, if_neg (by rcases hv with h | h <;> rw [h] <;> decide)]
  · rw [ku_eq]
    rcases hv with h | h <;> rw [h] <;> decide
/-- the head of a row of the blocked -/
theorem s_A.hd {p : Nat} {M : kM} (A : s_A p M) (J : m_Inv M) {r : Nat} (h : ¬ M 20 0 r ≤ 0) (h2 : 2 ≤ r) (hr : r < 14) : ∃ w, w < 6 ∧ m_tkX M r = nI w ∧ M 5 0 w = 2 ∧ s_A p (k_up (m_tkT M r) 5 0 w 3) := by
  obtain ⟨w, hw, ew⟩ := r_nat (r_tkX r J) (by decide)
  have e := s_tk J h
  rw [ew] at e
  have er : ∀ r', s_rM (k_up (m_tkT M r) 5 0 w 3) r' = s_rM (m_tkT M r) r' := fun r' => s_rM_up (by decide) (by decide)
  have en : ∀ r', r' < 14 → r' ≠ r → s_rM (k_up (m_tkT M r) 5 0 w 3) r' = s_rM M r' := fun r' _ z => by rw [er, s_tko J h z]
  have ec : ∀ g, g < 6 → s_c M r g = s_c (k_up (m_tkT M r) 5 0 w 3) r g + if g = w then 1 else 0 := fun g hg => by
    unfold s_c
    rw [er, e, s_cnt' hw hg]
  have uw := s_upB en h2 hr w
  have cw := ec w hw
  rw [if_pos rfl] at cw
  have cb := A.cb w hw
  have e2 : M 5 0 w = 2 := by
    by_cases z : M 5 0 w = 2
    · exact z
    · rw [if_neg z] at cb
      omega
  refine ⟨w, hw, ew, e2, ?_⟩
  have cr := A.cr w hw
  rw [if_neg (by rw [e2]; decide)] at cr
  rw [if_pos e2] at cb
  refine A.gen hw (fun g hg z => by rw [ku_j z, s_tkf (by decide) (by decide)]) (fun q => by rw [ku_f (by decide), s_tkf (by decide) (by decide)]) (fun g hg z => ?_) ?_ ?_ ?_ ?_ ?_
  · have u := s_upB en h2 hr g
    have c := ec g hg
    rw [if_neg z] at c
    exact ⟨u.2, by omega⟩
  · rw [ku_eq]
    exact Or.inr (Or.inr (Or.inr (Or.inr rfl)))
  · rw [ku_eq, if_neg (by decide), uw.2, cr]
  · rw [ku_eq, if_neg (by decide)]
    omega
  · rw [ku_eq]
    decide
  · intro q h1 h3 z
    have := A.h1 q h1 h3 w hw z
    rw [e2] at this
    exact absurd this (by decide)
/-- .. is woken -/
theorem s_A.mv {p : Nat} {M M1 : kM} (A : s_A p M) (J : m_Inv M) (J1 : m_Inv M1) {r : Nat} (h : ¬ M 20 0 r ≤ 0) (h2 : 2 ≤ r) (hr : r < 14) (e5 : ∀ g, M1 5 0 g = M 5 0 g) (e24 : ∀ q, M1 24 0 q = M 24 0 q) (er : ∀ r', r' < 14 → s_rM M1 r' = s_rM (m_tkT M r) r') :
    s_A p (m_wake M1 (m_tkX M r).toNatClampNeg) ∧ ∀ r', r' < 14 → (s_rM M1 r').length < 6 := by
  obtain ⟨w, hw, ew, e2, A1⟩ := A.hd J h h2 hr
  have A2 : s_A p (k_up M1 5 0 w 3) := A1.congr (fun g => by
      by_cases z : g = w
      · rw [z, ku_eq, ku_eq]
      · rw [ku_j z, ku_j z, e5, s_tkf (by decide) (by decide)]) (fun q => by rw [ku_f (by decide), ku_f (by decide), e24, s_tkf (by decide) (by decide)]) (fun r' h' => by rw [s_rM_up (by decide) (by decide), s_rM_up (by decide) (by decide), er r' h'])
  have J2 : m_Inv (k_up M1 5 0 w 3) := k_Inv.up J1 trivial
  have n0 : k_up M1 5 0 w 3 5 0 w ≠ 0 := by rw [ku_eq]; decide
  have n2 : k_up M1 5 0 w 3 5 0 w ≠ 2 := by rw [ku_eq]; decide
  rw [ew, s_nC (by omega)]
  refine ⟨?_, fun r' hr' => ?_⟩
  · have := A2.put J2 (r := w % 2) (v := 0) hw (by omega) (Or.inl ⟨rfl, by omega⟩) n0 n2 (fun q h1 h3 z => by
      rw [ku_f (by decide), e24] at z
      have := A.h1 q h1 h3 w hw z
      rw [e2] at this
      exact absurd this (by decide))
    rw [ku_ku] at this
    exact this
  · have := A2.len5 J2 hw n0 n2 hr'
    rw [s_rM_up (by decide) (by decide)] at this
    exact this
theorem s_A.blk {p : Nat} {M : kM} (A : s_A p M) (J : m_Inv M) {g r : Nat} (hg : g < 6) (hp : p < 2) (hh : M 24 0 p = nI g) (h1 : M 5 0 g = 1) (h2 : 2 ≤ r) (hr : r < 14) : s_A p (m_blk M g r) :=
  A.put J hg hr (Or.inr ⟨rfl, h2⟩) (by rw [h1]; decide) (by rw [h1]; decide) (A.oth hg hp hh)
theorem s_A.rdy {p : Nat} {M : kM} (A : s_A p M) (J : m_Inv M) {g : Nat} (hg : g < 6) (hp : p < 2) (hh : M 24 0 p = nI g) (h1 : M 5 0 g = 1) : s_A 2 (m_wake (k_up M 24 0 p (-1)) g) := by
  have A1 : s_A p (k_up M 5 0 g 3) := A.st hg (Or.inl rfl) (by rw [h1]; decide) (by rw [h1]; decide) (A.oth hg hp hh)
  have A2 : s_A 2 (k_up (k_up M 5 0 g 3) 24 0 p (-1)) := A1.off hg hp (by rw [ku_f (by decide)]; exact hh) (by rw [ku_eq]; decide)
  rw [ku_comm (fun z => absurd z.1 (by decide))] at A2
  have := A2.put (k_Inv.up (k_Inv.up J (Or.inl rfl)) trivial) (r := g % 2) (v := 0) hg (by omega) (Or.inl ⟨rfl, by omega⟩) (by rw [ku_eq]; decide) (by rw [ku_eq]; decide) (fun q h1 h3 z => by
    rw [ku_f (by decide)] at z
    by_cases y : q = p
    · rw [y, ku_eq] at z
      exact s_n1 hg z
    · rw [ku_j y] at z
      exact A.oth hg hp hh q h1 y z)
  rw [ku_ku] at this
  exact this
/-- a processor takes the first that is ready -/
theorem s_A.next {M : kM} (A : s_A 2 M) (J : m_Inv M) {p : Nat} (hp : p < 2) (hf : M 24 0 p = -1) (h : ¬ M 20 0 p ≤ 0) : ∃ w, w < 6 ∧ m_tkX M p = nI w ∧ M 5 0 w = 0 ∧ s_A 2 (m_ch M p) ∧ m_ch M p 24 0 p = nI w ∧ m_ch M p 5 0 w = 1 := by
  obtain ⟨w, hw, ew⟩ := r_nat (r_tkX p J) (by decide)
  have e := s_tk J h
  rw [ew] at e
  have e5 : ∀ g, m_ch M p 5 0 g = if g = w then 1 else M 5 0 g := fun g => by
    unfold m_ch
    (try dsimp only)
    rw [ku_f (by decide), ku_f (by decide), ku_eq, ew, s_nC (by omega)]
    by_cases z : g = w
    · rw [z, ku_eq, if_pos rfl]
    · rw [ku_j z, ku_f (by decide), s_tkf (by decide) (by decide), if_neg z]
  have e24 : ∀ q, m_ch M p 24 0 q = if q = p then nI w else M 24 0 q := fun q => by
    unfold m_ch
    (try dsimp only)
    rw [ku_f (by decide), ku_f (by decide), ku_f (by decide)]
    by_cases z : q = p
    · rw [z, ku_eq, if_pos rfl, ew]
    · rw [ku_j z, s_tkf (by decide) (by decide), if_neg z]
  have er : ∀ r', s_rM (m_ch M p) r' = s_rM (m_tkT M p) r' := fun r' => by
    unfold m_ch
    (try dsimp only)
    rw [s_rM_up (by decide) (by decide), s_rM_up (by decide) (by decide), s_rM_up (by decide) (by decide), s_rM_up (by decide) (by decide)]
  have en : ∀ r', r' < 14 → r' ≠ p → s_rM (m_ch M p) r' = s_rM M r' := fun r' _ z => by rw [er, s_tko J h z]
  have ec : ∀ g, g < 6 → s_c M p g = s_c (m_ch M p) p g + if g = w then 1 else 0 := fun g hg => by
    unfold s_c
    rw [er, e, s_cnt' hw hg]
  have cw := ec w hw
  rw [if_pos rfl] at cw
  have uw := s_upR en hp w
  have cr := A.cr w hw
  have e0 : M 5 0 w = 0 := by
    by_cases z : M 5 0 w = 0
    · exact z
    · rw [if_neg z] at cr
      omega
  refine ⟨w, hw, ew, e0, ?_, by rw [e24, if_pos rfl], by rw [e5, if_pos rfl]⟩
  rw [if_pos e0] at cr
  have cb := A.cb w hw
  rw [if_neg (by rw [e0]; decide)] at cb
  refine ⟨fun g hg => ?_, fun g hg => ?_, fun g hg => ?_, fun q h1 h2 g hg hh => ?_, fun g hg h1 => ?_, fun z => ?_⟩
  · rw [e5]
    split
    · exact Or.inr (Or.inr (Or.inl rfl))
    · exact A.rg g hg
  · rw [e5]
    by_cases z : g = w
    · rw [if_pos z, if_neg (by decide), z]
      omega
    · have u := s_upR en hp g
      have c := ec g hg
      rw [if_neg z] at c
      rw [if_neg z, ← A.cr g hg]
      omega
  · rw [e5]
    by_cases z : g = w
    · rw [if_pos z, if_neg (by decide), z, uw.2, cb]
    · rw [if_neg z, ← A.cb g hg]
      exact (s_upR en hp g).2
  · rw [e5]
    rw [e24] at hh
    by_cases z : g = w
    · rw [if_pos z]
    · rw [if_neg z]
      by_cases y : q = p
      · rw [if_pos y] at hh
        exact absurd hh (s_ne hw hg (Ne.symm z))
      · rw [if_neg y] at hh
        exact A.h1 q h1 h2 g hg hh
  · rw [e5] at h1
    by_cases z : g = w
    · exact ⟨p, hp, by rw [e24, if_pos rfl, z]⟩
    · rw [if_neg z] at h1
      obtain ⟨q, a, b⟩ := A.h2 g hg h1
      refine ⟨q, a, ?_⟩
      rw [e24]
      by_cases y : q = p
      · rw [y, hf] at b
        exact absurd b (s_n1 hg)
      · rw [if_neg y]
        exact b
  · exfalso
    have h24 : ∃ q, q < 2 ∧ q ≠ p ∧ M 24 0 q = nI w := by
      rw [e24, e24] at z
      have : p = 0 ∨ p = 1 := by omega
      rcases this with rfl | rfl
      · rw [if_pos rfl, if_neg (by decide)] at z
        exact ⟨1, by decide, by decide, z.symm⟩
      · rw [if_neg (by decide), if_pos rfl] at z
        exact ⟨0, by decide, by decide, z⟩
    obtain ⟨q, a, b, c⟩ := h24
    have := A.h1 q a (by omega) w hw c
    rw [e0] at this
    exact absurd this (by decide)
