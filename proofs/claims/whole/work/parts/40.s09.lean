/-! ===== THE TWO SIDE BY SIDE (9): waking, and a guest ends ===== -/
theorem s_wkf {M : kM} {g f i j : Nat} (h5 : f ≠ 5) (h1 : f ≠ 19) (h2 : f ≠ 20) : m_wake M g f i j = M f i j := by
  unfold m_wake
  rw [s_mAf h1 h2, ku_f h5]
theorem s_wk5 {M : kM} {g a : Nat} : m_wake M g 5 0 a = if a = g then 0 else M 5 0 a := by
  unfold m_wake
  rw [s_mAf (by decide) (by decide)]
  by_cases z : a = g
  · rw [z, ku_eq, if_pos rfl]
  · rw [ku_j z, if_neg z]
theorem s_rdf {K : kM} {g f i j : Nat} (h7 : f ≠ 7 ∨ j ≠ 3) (h1 : f ≠ 12) (h2 : f ≠ 13) : g_ready K g f i j = K f i j := by
  unfold g_ready
  rw [s_rAf h1 h2]
  rcases h7 with h | h
  · exact ku_f h
  · exact ku_j h
theorem s_B.tk {M : kM} (B : s_B M) (r : Nat) : s_B (m_tkT M r) := B.congr (fun g _ => by rw [s_tkf (by decide) (by decide)]; exact id) (fun _ => s_tkf (by decide) (by decide)) (fun _ => s_tkf (by decide) (by decide)) (fun _ => s_tkf (by decide) (by decide))
theorem s_C.tk {rk : Nat → Nat} {x : Nat} {M : kM} (C : s_C rk x M) (r : Nat) : s_C rk x (m_tkT M r) := C.congr (fun _ => s_tkf (by decide) (by decide)) (fun _ => s_tkf (by decide) (by decide)) (fun _ => s_tkf (by decide) (by decide)) (fun _ => s_tkf (by decide) (by decide)) (fun _ => s_tkf (by decide) (by decide))
theorem s_B.add {M : kM} (B : s_B M) (r g : Nat) : s_B (m_add M r g) := B.congr (fun g _ => by rw [s_mAf (by decide) (by decide)]; exact id) (fun _ => s_mAf (by decide) (by decide)) (fun _ => s_mAf (by decide) (by decide)) (fun _ => s_mAf (by decide) (by decide))
theorem s_C.add {rk : Nat → Nat} {x : Nat} {M : kM} (C : s_C rk x M) (r g : Nat) : s_C rk x (m_add M r g) := C.congr (fun _ => s_mAf (by decide) (by decide)) (fun _ => s_mAf (by decide) (by decide)) (fun _ => s_mAf (by decide) (by decide)) (fun _ => s_mAf (by decide) (by decide)) (fun _ => s_mAf (by decide) (by decide))
theorem s_B.wake {M : kM} (B : s_B M) {g : Nat} (h : M 5 0 g ≠ -1) : s_B (m_wake M g) := (B.st h).add _ _
theorem s_C.wake {rk : Nat → Nat} {x : Nat} {M : kM} (C : s_C rk x M) {g : Nat} (h : M 5 0 g ≠ -1) : s_C rk x (m_wake M g) := (C.st h (by decide) (Or.inl (by decide))).add _ _
theorem s_tkr {M : kM} (J : m_Inv M) {r : Nat} (h : ¬ M 20 0 r ≤ 0) (r' : Nat) : ∀ y ∈ s_rM (m_tkT M r) r', y ∈ s_rM M r' := by
  intro y hy
  by_cases z : r' = r
  · rw [z, s_tk J h]
    rw [z] at hy
    exact List.mem_cons_of_mem _ hy
  · rw [s_tko J h z] at hy
    exact hy
theorem s_D.tk {K M : kM} (D : s_D K M) (J : m_Inv M) {r : Nat} (h : ¬ M 20 0 r ≤ 0) : s_D (g_rowT K r) (m_tkT M r) :=
  D.gen (fun r' _ _ => s_tkr J h r') (fun _ => s_tkf (by decide) (by decide)) (fun w _ _ _ _ _ => ⟨s_tkf (by decide) (by decide), s_rTf (by decide), fun _ => s_rTf (by decide)⟩)
theorem s_D.wake {K M : kM} (D : s_D K M) (J : m_Inv M) {g : Nat} (hl : (s_rM M (g % 2)).length < 6) : s_D (g_ready K g) (m_wake M g) := by
  refine D.same (fun r h1 _ => ?_) (fun _ => s_wkf (by decide) (by decide) (by decide)) (fun _ => s_wkf (by decide) (by decide) (by decide)) (fun _ => s_rdf (Or.inr (by decide)) (by decide) (by decide)) (fun _ _ => s_rdf (Or.inl (by decide)) (by decide) (by decide))
  unfold m_wake
  have J1 : m_Inv (k_up M 5 0 g 0) := k_Inv.up J trivial
  rw [s_add J1 (by rw [s_rM_up (by decide) (by decide)]; exact hl), if_neg (by omega), s_rM_up (by decide) (by decide)]
/-- a lock goes on to the first that waits -/
theorem s_R.pass {p x y : Nat} {K M : kM} (R : s_R p x y K M) {k : Nat} (hk : k < 4) : s_R p x y (g_pass K k) (m_unl M k) := by
  have I1 := iv_pass (k := k) R.I
  have J1 := iv_munl R.J (R.A.tot6 R.J) hk
  by_cases h : M 20 0 (10 + k) ≤ 0
  · have hK := (R.E.z R.J (r := 10 + k) (by omega)).mpr h
    obtain ⟨a, b⟩ := s_rX0 hK
    have eK : g_pass K k = k_up K 15 k 1 (-1) := by
      unfold g_pass
      rw [a, b, ku_eq, if_pos rfl]
    have eM : m_unl M k = k_up M 23 0 k (-1) := by
      have e1 : m_unl1 M k = k_up M 23 0 k (-1) := by
        unfold m_unl1
        rw [if_pos h]
      unfold m_unl
      rw [e1, ku_eq, if_pos (by decide)]
    rw [eK, eM]
    exact R.lck (Or.inl rfl)
  · obtain ⟨w, hw, ew, e2, _⟩ := R.A.hd R.J h (by omega) (by omega)
    obtain ⟨a, b⟩ := R.E.hd0 R.I R.J (r := 10 + k) (by omega) h
    have n1 : ¬ (nI w = -1) := fun z => s_n1 hw z.symm
    have eK : g_pass K k = g_ready (k_up (g_rowT K (10 + k)) 15 k 1 (nI w)) w := by
      unfold g_pass
      rw [a, ew, ku_eq, if_neg n1, s_nC (by omega)]
    have eM : m_unl M k = m_wake (k_up (m_tkT M (10 + k)) 23 0 k (nI w)) w := by
      have e1 : m_unl1 M k = k_up (m_tkT M (10 + k)) 23 0 k (nI w) := by
        unfold m_unl1
        rw [if_neg h, ew]
      unfold m_unl
      rw [e1, ku_eq, if_neg (nI_pos (by omega)), s_nC (by omega)]
    rw [eK] at I1 ⊢
    rw [eM] at J1 ⊢
    obtain ⟨I, J, E, A, B, ⟨rk, C⟩, D⟩ := R
    have Jt := iv_mtk J h
    have J2 : m_Inv (k_up (m_tkT M (10 + k)) 23 0 k (nI w)) := k_Inv.up Jt (Or.inr (vp_in_nI hw (by decide)))
    have I2 : g_Inv (k_up (g_rowT K (10 + k)) 15 k 1 (nI w)) := (iv_rowT I).up (Or.inr (vp_in_nI hw (by decide)))
    obtain ⟨A1, hl⟩ := A.mv J J2 h (by omega) (by omega) (fun g => by rw [ku_f (by decide), s_tkf (by decide) (by decide)]) (fun g => by rw [ku_f (by decide), s_tkf (by decide) (by decide)]) (fun r' _ => s_rM_up (by decide) (by decide))
    rw [ew, s_nC (by omega)] at A1
    have hp : k_up (m_tkT M (10 + k)) 23 0 k (nI w) 5 0 w ≠ -1 := by
      rw [ku_f (by decide), s_tkf (by decide) (by decide), e2]
      decide
    exact ⟨I1, J1, ((E.take I J (by omega) h).w_lo _).wake I2 J2 hw (hl _ (by omega)), A1, ((B.tk _).up (by decide) (by decide) (by decide) (by decide)).wake hp, ⟨rk, ((C.tk _).up (by decide) (by decide) (by decide) (by decide) (by decide)).wake hp⟩,
      ((D.tk J h).up (by decide) (Or.inl (by decide)) (by decide) (by decide) (by decide) (by decide)).wake J2 (hl _ (by omega))⟩
theorem s_u1f {M : kM} {k f i j : Nat} (h1 : f ≠ 19) (h2 : f ≠ 20) (h3 : f ≠ 23) : m_unl1 M k f i j = M f i j := by
  unfold m_unl1
  split
  · exact ku_f h3
  · rw [ku_f h3, s_tkf h1 h2]
theorem s_unf {M : kM} {k f i j : Nat} (h5 : f ≠ 5) (h1 : f ≠ 19) (h2 : f ≠ 20) (h3 : f ≠ 23) : m_unl M k f i j = M f i j := by
  unfold m_unl
  split
  · exact s_u1f h1 h2 h3
  · rw [s_wkf h5 h1 h2, s_u1f h1 h2 h3]
theorem s_un5 {p : Nat} {M : kM} (A : s_A p M) (J : m_Inv M) {k g : Nat} (hk : k < 4) (h : M 5 0 g ≠ 2) : m_unl M k 5 0 g = M 5 0 g := by
  unfold m_unl
  split
  · exact s_u1f (by decide) (by decide) (by decide)
  · rename_i q
    rw [s_wk5]
    by_cases z : M 20 0 (10 + k) ≤ 0
    · exfalso
      have e1 : m_unl1 M k = k_up M 23 0 k (-1) := by
        unfold m_unl1
        rw [if_pos z]
      rw [e1, ku_eq] at q
      exact q (by decide)
    · obtain ⟨w, hw, ew, e2, _⟩ := A.hd J z (by omega) (by omega)
      have e1 : m_unl1 M k = k_up (m_tkT M (10 + k)) 23 0 k (nI w) := by
        unfold m_unl1
        rw [if_neg z, ew]
      rw [e1, ku_eq, s_nC (by omega), if_neg (fun y => h (by rw [y]; exact e2)), ku_f (by decide), s_tkf (by decide) (by decide)]
theorem s_R.ul {p x y : Nat} {K M : kM} (R : s_R p x y K M) {g : Nat} (hg : g < 6) (h2 : M 5 0 g ≠ 2) : ∀ n, n ≤ 4 → s_R p x y (g_ul K g n) (m_dL M g n) ∧ m_dL M g n 5 0 g = M 5 0 g ∧ (∀ f i j, f ≠ 5 → f ≠ 19 → f ≠ 20 → f ≠ 23 → m_dL M g n f i j = M f i j)
  | 0, _ => ⟨R, rfl, fun _ _ _ _ _ _ _ => rfl⟩
  | n + 1, hn => by
    obtain ⟨R1, a, b⟩ := R.ul hg h2 n (by omega)
    unfold g_ul m_dL g_ul1 m_dL1
    rw [R1.E.lo n (by omega), show g_ul K g n 7 g 0 = nI g from R1.I 7 g 0]
    by_cases z : m_dL M g n 23 0 n = nI g
    · rw [if_pos z, if_pos z]
      refine ⟨R1.pass (by omega), ?_, fun f i j h5 h19 h20 h23 => ?_⟩
      · rw [s_un5 R1.A R1.J (by omega) (by rw [a]; exact h2), a]
      · rw [s_unf h5 h19 h20 h23, b f i j h5 h19 h20 h23]
    · rw [if_neg z, if_neg z]
      exact ⟨R1, a, b⟩
theorem s_umf {M : kM} {g q f i j : Nat} (h1 : f ≠ 18) (h2 : f ≠ 16) (h3 : f ≠ 9) : m_unmap M g q f i j = M f i j := by
  unfold m_unmap
  split
  · rw [ku_f h3, ku_f h2, ku_f h1]
  · rfl
theorem s_um16 {M : kM} (J : m_Inv M) {g q : Nat} (a : Nat) : m_unmap M g q 16 0 a = if a = g * 4 + q then -1 else M 16 0 a := by
  unfold m_unmap
  split
  · rw [ku_f (by decide)]
    by_cases z : a = g * 4 + q
    · rw [z, ku_eq, if_pos rfl]
    · rw [ku_j z, ku_f (by decide), if_neg z]
  · rename_i h
    by_cases z : a = g * 4 + q
    · rw [if_pos z, z]
      rcases J 16 0 (g * 4 + q) with y | y
      · exact y
      · obtain ⟨f, hf, ef⟩ := r_nat y (by decide)
        exact absurd (by rw [ef]; exact nI_pos' (by omega)) h
    · rw [if_neg z]
theorem s_R.dr {p x y : Nat} {K M : kM} (R : s_R p x y K M) {g : Nat} (hg : g < 6) (h5 : M 5 0 g ≠ -1) : ∀ n, n ≤ 4 → s_R p x y (g_dr K g n) (m_dU M g n) ∧ (∀ f i j, f ≠ 18 → f ≠ 16 → f ≠ 9 → m_dU M g n f i j = M f i j) ∧ ∀ j, j < n → m_dU M g n 16 0 (g * 4 + j) = -1
  | 0, _ => ⟨R, fun _ _ _ _ _ _ => rfl, fun j h => absurd h (Nat.not_lt_zero j)⟩
  | n + 1, hn => by
    obtain ⟨R1, a, b⟩ := R.dr hg h5 n (by omega)
    unfold g_dr m_dU
    refine ⟨R1.unm hg (by omega) (by rw [a _ _ _ (by decide) (by decide) (by decide)]; exact h5), fun f i j h1 h2 h3 => by rw [s_umf h1 h2 h3, a f i j h1 h2 h3], fun j hj => ?_⟩
    rw [s_um16 R1.J]
    by_cases z : g * 4 + j = g * 4 + n
    · rw [if_pos z]
    · rw [if_neg z]
      exact b j (by omega)
theorem s_hof {K : kM} {g f i j : Nat} (h : f ≠ 7 ∨ j ≠ 9) : ∀ n, g_ho K g n f i j = K f i j
  | 0 => rfl
  | n + 1 => by
    unfold g_ho g_ho1
    split
    · exact s_hof h n
    · split
      · rcases h with q | q
        · rw [ku_f q]; exact s_hof (Or.inl q) n
        · rw [ku_j q]; exact s_hof (Or.inr q) n
      · exact s_hof h n
theorem s_ho9 {K : kM} {g : Nat} (I : g_Inv K) (hs : K 7 g 9 ≠ nI g) : ∀ n c, g_ho K g n 7 c 9 = if c < n ∧ K 7 c 3 ≠ -1 ∧ K 7 c 9 = nI g then K 7 g 9 else K 7 c 9
  | 0, c => by rw [if_neg (fun z => absurd z.1 (Nat.not_lt_zero c))]; rfl
  | n + 1, c => by
    have ih := s_ho9 I hs n
    have e3 : g_ho K g n 7 n 3 = K 7 n 3 := s_hof (Or.inr (by decide)) n
    have e0 : g_ho K g n 7 g 0 = nI g := by rw [s_hof (Or.inr (by decide)) n]; exact I 7 g 0
    have en : g_ho K g n 7 n 9 = K 7 n 9 := by rw [ih n, if_neg (fun z => absurd z.1 (Nat.lt_irrefl n))]
    have eg : g_ho K g n 7 g 9 = K 7 g 9 := by rw [ih g, if_neg (fun z => hs z.2.2)]
    unfold g_ho g_ho1
    rw [e3, e0, en, eg]
    by_cases q : K 7 n 3 = -1
    · rw [if_pos q, ih c]
      by_cases z : c = n
      · rw [z, if_neg (fun y => y.2.1 q), if_neg (fun y => y.2.1 q)]
      · have : (c < n ∧ K 7 c 3 ≠ -1 ∧ K 7 c 9 = nI g) ↔ (c < n + 1 ∧ K 7 c 3 ≠ -1 ∧ K 7 c 9 = nI g) := ⟨fun y => ⟨by omega, y.2⟩, fun y => ⟨by omega, y.2⟩⟩
        simp only [this]
    · rw [if_neg q]
      by_cases r : K 7 n 9 = nI g
      · rw [if_pos r]
        by_cases z : c = n
        · rw [z, ku_eq, if_pos ⟨Nat.lt_succ_self n, q, r⟩]
        · rw [ku_i z, ih c]
          have : (c < n ∧ K 7 c 3 ≠ -1 ∧ K 7 c 9 = nI g) ↔ (c < n + 1 ∧ K 7 c 3 ≠ -1 ∧ K 7 c 9 = nI g) := ⟨fun y => ⟨by omega, y.2⟩, fun y => ⟨by omega, y.2⟩⟩
          simp only [this]
      · rw [if_neg r, ih c]
        by_cases z : c = n
        · rw [z, if_neg (fun y => r y.2.2), if_neg (fun y => r y.2.2)]
        · have : (c < n ∧ K 7 c 3 ≠ -1 ∧ K 7 c 9 = nI g) ↔ (c < n + 1 ∧ K 7 c 3 ≠ -1 ∧ K 7 c 9 = nI g) := ⟨fun y => ⟨by omega, y.2⟩, fun y => ⟨by omega, y.2⟩⟩
          simp only [this]
theorem s_dCf {M : kM} {g f i j : Nat} (h8 : f ≠ 8) (h11 : f ≠ 11) : ∀ n, m_dC M g n f i j = M f i j
  | 0 => rfl
  | n + 1 => by
    unfold m_dC m_dC1
    split
    · exact s_dCf h8 h11 n
    · split
      · rw [ku_f h8, ku_f h11]; exact s_dCf h8 h11 n
      · exact s_dCf h8 h11 n
theorem s_neg {p : Nat} {M : kM} (A : s_A p M) {c : Nat} (hc : c < 6) : M 5 0 c < 0 ↔ M 5 0 c = -1 := by
  rcases A.rg c hc with h | h | h | h | h <;> rw [h] <;> decide
theorem s_dC {p : Nat} {M : kM} (A : s_A p M) {g : Nat} (hs : M 11 0 g ≠ nI g) : ∀ n, n ≤ 6 → (∀ c, m_dC M g n 11 0 c = if c < n ∧ M 5 0 c ≠ -1 ∧ M 11 0 c = nI g then M 11 0 g else M 11 0 c) ∧ (∀ c, m_dC M g n 8 0 c = if c = g then M 8 0 g - s_sum M g n else M 8 0 c)
  | 0, _ => ⟨fun c => by rw [if_neg (fun z => absurd z.1 (Nat.not_lt_zero c))]; rfl, fun c => by
      by_cases z : c = g
      · rw [if_pos z, z]
        unfold s_sum m_dC
        simp
      · rw [if_neg z]
        rfl⟩
  | n + 1, hn => by
    obtain ⟨ih, i8⟩ := s_dC A hs n (by omega)
    have e5 : m_dC M g n 5 0 n = M 5 0 n := s_dCf (by decide) (by decide) n
    have en : m_dC M g n 11 0 n = M 11 0 n := by rw [ih n, if_neg (fun z => absurd z.1 (Nat.lt_irrefl n))]
    have eg : m_dC M g n 11 0 g = M 11 0 g := by rw [ih g, if_neg (fun z => hs z.2.2)]
    have hlt : ∀ c, c ≠ n → ((c < n ∧ M 5 0 c ≠ -1 ∧ M 11 0 c = nI g) ↔ (c < n + 1 ∧ M 5 0 c ≠ -1 ∧ M 11 0 c = nI g)) := fun c z => ⟨fun y => ⟨by omega, y.2⟩, fun y => ⟨by omega, y.2⟩⟩
    unfold m_dC m_dC1 s_sum s_t
    rw [e5, en, eg]
    by_cases q : M 5 0 n = -1
    · rw [if_pos ((s_neg A (by omega)).mpr q), if_pos q]
      refine ⟨fun c => ?_, fun c => ?_⟩
      · rw [ih c]
        by_cases z : c = n
        · rw [z, if_neg (fun y => y.2.1 q), if_neg (fun y => y.2.1 q)]
        · simp only [hlt c z]
      · rw [i8 c]
        simp
    · rw [if_neg (fun z => q ((s_neg A (by omega)).mp z)), if_neg q]
      by_cases r : M 11 0 n = nI g
      · have ng : n ≠ g := fun z => hs (by rw [← z]; rw [z] at r; rw [z]; exact r)
        rw [if_pos r, if_pos r]
        refine ⟨fun c => ?_, fun c => ?_⟩
        · rw [ku_f (by decide)]
          by_cases z : c = n
          · rw [z, ku_eq, if_pos ⟨Nat.lt_succ_self n, q, r⟩]
          · rw [ku_j z, ih c]
            simp only [hlt c z]
        · rw [ku_f (f := 11) (by decide), ku_f (f := 11) (by decide), i8 g, if_pos rfl, i8 n, if_neg ng]
          by_cases z : c = g
          · rw [z, ku_eq, if_pos rfl]
            grind
          · rw [ku_j z, if_neg z, ku_f (by decide), i8 c, if_neg z]
      · rw [if_neg r, if_neg r]
        refine ⟨fun c => ?_, fun c => ?_⟩
        · rw [ih c]
          by_cases z : c = n
          · rw [z, if_neg (fun y => r y.2.2), if_neg (fun y => r y.2.2)]
          · simp only [hlt c z]
        · rw [i8 c]
          simp
theorem s_E.hand {x : Nat} {K M : kM} (E : s_E x K M) (I : g_Inv K) {p : Nat} (A : s_A p M) {g : Nat} (hg : g < 6) (hs : M 11 0 g ≠ nI g) (hG : M 10 0 g = s_sum M g 6) : s_E x (g_hand K g) (k_up (m_dC M g 6) 10 0 g 0) := by
  unfold g_hand
  refine ⟨?_, ?_, ?_, ?_, ?_, ?_, ?_, ?_, ?_, ?_, ?_, ?_, ?_, ?_, ?_, ?_, ?_, ?_, ?_, ?_, ?_, ?_, ?_, ?_, ?_, ?_⟩
  · intro i' h0
    simpa [k_up, s_hof, s_dCf] using E.p0 _ h0
  · intro i' h0
    simpa [k_up, s_hof, s_dCf] using E.p1 _ h0
  · intro i' h0
    simpa [k_up, s_hof, s_dCf] using E.p2 _ h0
  · intro i' h0
    simpa [k_up, s_hof, s_dCf] using E.p3 _ h0
  · intro j' h0
    simpa [k_up, s_hof, s_dCf] using E.me _ h0
  · intro j' h0
    simpa [k_up, s_hof, s_dCf] using E.tk _ h0
  · intro g' h0
    simpa [k_up, s_hof, s_dCf] using E.st _ h0
  · intro g' h0 h1
    simpa [k_up, s_hof, s_dCf] using E.pl _ h0 h1
  · intro g' h0
    simpa [k_up, s_hof, s_dCf] using E.hd _ h0
  · intro c h0
    rw [ku_j (by decide), ku_f (f := 10) (by decide), (s_dC A hs 6 (Nat.le_refl 6)).2 c]
    by_cases z : c = g
    · rw [z, ku_eq, if_pos rfl, s_hof (Or.inr (by decide)), s_hof (Or.inr (by decide)), E.qu g hg, E.gi g hg, hG]
    · rw [ku_i z, s_hof (Or.inr (by decide)), if_neg z]
      exact E.qu c h0
  · intro g' h0
    simpa [k_up, s_hof, s_dCf] using E.us _ h0
  · intro c h0
    by_cases z : c = g
    · rw [z, ku_eq, ku_eq]
    · rw [ku_i z, ku_i z, s_hof (Or.inr (by decide)), ku_j z, s_dCf (by decide) (by decide)]
      exact E.gi c h0
  · intro c h0
    rw [ku_j (by decide), ku_j (by decide), ku_f (by decide), s_ho9 I (by rw [E.pa g hg]; exact hs), (s_dC A hs 6 (Nat.le_refl 6)).1, E.st c h0, E.pa c h0, E.pa g hg]
  · intro g' h0
    simpa [k_up, s_hof, s_dCf] using E.oc _ h0
  · intro g' h0
    simpa [k_up, s_hof, s_dCf] using E.tr _ h0
  · intro g' h0 j' h1
    simpa [k_up, s_hof, s_dCf] using E.re _ h0 _ h1
  · intro g' h0 j' h1
    simpa [k_up, s_hof, s_dCf] using E.pg _ h0 _ h1
  · intro p' h0
    simpa [k_up, s_hof, s_dCf] using E.ha _ h0
  · intro p' h0
    simpa [k_up, s_hof, s_dCf] using E.ti _ h0
  · intro r' h0
    simpa [k_up, s_hof, s_dCf] using E.sz _ h0
  · intro r' h0
    rw [s_rK_up (by decide) (by decide), s_rK_up (by decide) (by decide), s_rM_up (by decide) (by decide)]
    have e1 : s_rK (g_ho K g 6) r' = s_rK K r' := by
      unfold s_rK
      rw [s_hof (Or.inl (by decide)), s_hof (Or.inl (by decide))]
      apply List.map_congr_left
      intro k _
      rw [s_hof (Or.inl (by decide))]
    have e2 : s_rM (m_dC M g 6) r' = s_rM M r' := by
      unfold s_rM
      rw [s_dCf (by decide) (by decide)]
      apply List.map_congr_left
      intro k _
      rw [s_dCf (by decide) (by decide)]
    rw [e1, e2]
    exact E.ro _ h0
  · intro k' h0
    simpa [k_up, s_hof, s_dCf] using E.lo _ h0
  · intro k' h0
    simpa [k_up, s_hof, s_dCf] using E.cs _ h0
  · intro k' h0 j' h1
    have h2 := E.cv _ h0 _ (by simpa [k_up, s_hof, s_dCf] using h1)
    simpa [k_up, s_hof, s_dCf] using h2
  · intro j' h0
    simpa [k_up, s_hof, s_dCf] using E.nu _ h0
  · rw [s_frc (M := M) (fun j => by rw [ku_f (by decide), s_dCf (by decide) (by decide)])]
    rw [ku_f (by decide), ku_f (by decide), s_hof (Or.inl (by decide))]
    exact E.fr
/-- a guest in hand ends -/
theorem s_R.die {p x : Nat} {K M : kM} (R : s_R p x 6 K M) {g : Nat} {oc : Int32} (hg : g < 6) (hp : p < 2) (hh : M 24 0 p = nI g) (h1 : M 5 0 g = 1) : s_R p x 6 (g_end K g oc) (m_die M g oc) ∧ m_die M g oc 24 0 p = nI g ∧ m_die M g oc 6 0 g = M 6 0 g ∧ m_die M g oc 5 0 g = 3 := by
  have I1 := iv_end (g := g) (oc := oc) R.I
  have J1 := (j_die (g := g) (w := oc) R.J (R.A.tot6 R.J)).1
  have n5 : M 5 0 g ≠ -1 := by rw [h1]; decide
  have R1 : s_R p x g (k_up K 7 g 3 3) (k_up M 5 0 g 3) := by
    obtain ⟨I, J, E, A, B, ⟨rk, C⟩, D⟩ := R
    exact ⟨I.up trivial, k_Inv.up J trivial, E.w_st hg 3, A.st hg (Or.inl rfl) (by rw [h1]; decide) (by rw [h1]; decide) (A.oth hg hp hh), B.st n5, ⟨rk, (C.wk g).st n5 (by decide) (Or.inr rfl)⟩, D.up (by decide) (Or.inr (by decide)) (by decide) (by decide) (by decide) (by decide)⟩
  have R2 := R1.out (g := g) (v := oc) hg
  obtain ⟨M2, eM2⟩ : ∃ M2, M2 = k_up (k_up M 5 0 g 3) 12 0 g oc := ⟨_, rfl⟩
  have s2 : M2 5 0 g = 3 := by rw [eM2, ku_f (by decide), ku_eq]
  have f2 : ∀ f i j, f ≠ 5 → f ≠ 12 → M2 f i j = M f i j := fun f i j a b => by rw [eM2, ku_f b, ku_f a]
  rw [← eM2] at R2
  obtain ⟨R3, a3, b3⟩ := R2.dr hg (by rw [s2]; decide) 4 (Nat.le_refl 4)
  have s3 : m_dU M2 g 4 5 0 g = 3 := by rw [a3 _ _ _ (by decide) (by decide) (by decide), s2]
  obtain ⟨R4, a4, b4⟩ := R3.ul hg (by rw [s3]; decide) 4 (Nat.le_refl 4)
  obtain ⟨M4, eM4⟩ : ∃ M4, M4 = m_dL (m_dU M2 g 4) g 4 := ⟨_, rfl⟩
  have eD : m_die M g oc = k_up (m_dC M4 g 6) 10 0 g 0 := by
    rw [eM4, eM2]
    rfl
  rw [← eM4] at R4 a4 b4
  rw [eD] at J1 ⊢
  have s4 : M4 5 0 g = 3 := by rw [a4, s3]
  have u4 : M4 9 0 g = 0 := by
    have e16 : ∀ j, j < 4 → M4 16 0 (g * 4 + j) = -1 := fun j hj => by
      rw [b4 _ _ _ (by decide) (by decide) (by decide) (by decide)]
      exact b3 j hj
    rw [R4.B.2.2 g hg (by rw [s4]; decide)]
    unfold s_np
    have e0 := e16 0 (by omega)
    rw [Nat.add_zero] at e0
    rw [e0, e16 1 (by omega), e16 2 (by omega), e16 3 (by omega)]
    rfl
  obtain ⟨I, J, E, A, B, ⟨rk, C⟩, D⟩ := R4
  have n4 : M4 5 0 g ≠ -1 := by rw [s4]; decide
  have ns := C.nself hg n4
  have hG := C.2.1 g hg n4
  obtain ⟨d11, d8⟩ := s_dC A ns 6 (Nat.le_refl 6)
  have er : ∀ r, s_rM (k_up (m_dC M4 g 6) 10 0 g 0) r = s_rM M4 r := fun r => by
    rw [s_rM_up (by decide) (by decide)]
    unfold s_rM
    rw [s_dCf (by decide) (by decide)]
    apply List.map_congr_left
    intro k _
    rw [s_dCf (by decide) (by decide)]
  have fr : ∀ f i j, f ≠ 8 → f ≠ 10 → f ≠ 11 → k_up (m_dC M4 g 6) 10 0 g 0 f i j = M4 f i j := fun f i j a b c => by rw [ku_f b, s_dCf a c]
  refine ⟨⟨I1, J1, E.hand I A hg ns hG, A.congr (fun a => fr _ _ _ (by decide) (by decide) (by decide)) (fun a => fr _ _ _ (by decide) (by decide) (by decide)) (fun r _ => er r), B.congr (fun a _ => by rw [fr _ _ _ (by decide) (by decide) (by decide)]; exact id) (fun a => fr _ _ _ (by decide) (by decide) (by decide)) (fun a => fr _ _ _ (by decide) (by decide) (by decide)) (fun a => fr _ _ _ (by decide) (by decide) (by decide)), ⟨rk, ?_⟩, ?_⟩, ?_, ?_, ?_⟩
  · refine C.hand hg s4 (fun a => fr _ _ _ (by decide) (by decide) (by decide)) (fun a => fr _ _ _ (by decide) (by decide) (by decide)) u4 (fun c hc => ?_) (fun c => ?_) (fun c => ?_)
    · rw [ku_f (by decide), d11 c]
      by_cases z : M4 5 0 c ≠ -1 ∧ M4 11 0 c = nI g
      · rw [if_pos ⟨hc, z⟩, if_pos z]
      · rw [if_neg (fun y => z y.2), if_neg z]
    · rw [ku_f (by decide), d8 c]
    · by_cases z : c = g
      · rw [z, ku_eq, if_pos rfl]
      · rw [ku_j z, s_dCf (by decide) (by decide), if_neg z]
  · refine D.same (fun r _ _ => er r) (fun a => fr _ _ _ (by decide) (by decide) (by decide)) (fun a => fr _ _ _ (by decide) (by decide) (by decide)) (fun w => ?_) (fun w j => ?_)
    · unfold g_end g_hand
      rw [ku_j (by decide), ku_j (by decide), s_hof (Or.inr (by decide))]
    · unfold g_end g_hand
      rw [ku_f (by decide), ku_f (by decide), s_hof (Or.inl (by decide))]
  · rw [fr _ _ _ (by decide) (by decide) (by decide), b4 _ _ _ (by decide) (by decide) (by decide) (by decide), a3 _ _ _ (by decide) (by decide) (by decide), f2 _ _ _ (by decide) (by decide), hh]
  · rw [fr _ _ _ (by decide) (by decide) (by decide), b4 _ _ _ (by decide) (by decide) (by decide) (by decide), a3 _ _ _ (by decide) (by decide) (by decide), f2 _ _ _ (by decide) (by decide)]
  · rw [fr _ _ _ (by decide) (by decide) (by decide), s4]
