/-! ===== THE TWO SIDE BY SIDE (10): traps, pages, memory ===== -/
theorem s_and (t : Int32) : (t &&& 31).toInt = t.toInt % 32 := by
  have h1 : (t &&& 31).toInt = (t.toBitVec &&& 31#32).toInt := rfl
  have h2 : (t.toBitVec &&& 31#32).toNat = t.toBitVec.toNat % 32 := by
    rw [BitVec.toNat_and]
    exact Nat.and_two_pow_sub_one_eq_mod _ 5
  have h3 : t.toInt = t.toBitVec.toInt := rfl
  rw [h1, h3, BitVec.toInt_eq_toNat_of_lt (by omega), h2, BitVec.toInt_eq_toNat_cond]
  split <;> omega
theorem s_fma (t : Int32) : g_fm t 32 = t &&& 31 := by
  obtain ⟨j, hj, e, ej⟩ := r_fmv t
  apply Int32.toInt_inj.mp
  rw [e, nI_toInt (by omega), s_and]
  exact ej
theorem s_a32 {t : Int32} (h : vp_in t 32) : t &&& 31 = t := by
  apply Int32.toInt_inj.mp
  rw [s_and]
  have := vp_in_iff.mp h
  omega
theorem s_fm {t : Int32} (h : vp_in t 32) : g_fm t 32 = t := by rw [s_fma, s_a32 h]
theorem s_rem32 {t : Int32} (h : 0 ≤ t) : k_rem t 32 = t &&& 31 := by
  apply Int32.toInt_inj.mp
  rw [r_rem32, s_and]
  rw [Int32.le_iff_toInt_le] at h
  have e : (0 : Int32).toInt = 0 := by decide
  rw [e] at h
  exact Int.tmod_eq_emod_of_nonneg h
theorem s_on {v : Int32} {k : Nat} (hk : k < 1000) : g_out v (nI (k + 1)) = m_no v (nI k) := by
  unfold g_out m_no
  by_cases h : v < 0
  · rw [if_pos h, if_pos h]
  · rw [if_neg h, if_neg h]
    have : v < nI (k + 1) ↔ v ≤ nI k := by
      rw [Int32.lt_iff_toInt_lt, Int32.le_iff_toInt_le, nI_toInt (by omega), nI_toInt (by omega)]
      omega
    by_cases h2 : v ≤ nI k
    · rw [if_pos h2, if_pos (this.mpr h2)]
    · rw [if_neg h2, if_neg (fun z => h2 (this.mp z))]
theorem s_on4 {v : Int32} : g_out v 4 = m_no v 3 := s_on (k := 3) (by omega)
theorem s_on32 {v : Int32} : g_out v 32 = m_no v 31 := s_on (k := 31) (by omega)
theorem s_pos {x : Int32} (h : x = -1 ∨ ∃ n, n < 1000 ∧ x = nI n) : (0 ≤ x) ↔ ¬ x = -1 := by
  rcases h with h | ⟨n, hn, h⟩
  · rw [h]
    decide
  · refine ⟨fun _ z => ?_, fun _ => ?_⟩
    · rw [h] at z
      have := nI_toInt (n := n) (by omega)
      rw [z] at this
      have e : (-1 : Int32).toInt = -1 := by decide
      omega
    · rw [h]
      exact nI_pos' (by omega)
theorem s_v {x : Int32} {n : Nat} (hn : n ≤ 1000) (h : x = -1 ∨ vp_in x n) : x = -1 ∨ ∃ a, a < 1000 ∧ x = nI a := by
  rcases h with h | h
  · exact Or.inl h
  · obtain ⟨a, h1, h2⟩ := r_nat h (by omega)
    exact Or.inr ⟨a, by omega, h2⟩
theorem s_R.trap {p : Nat} {K M : kM} {g : Nat} (R : s_R p g 6 K M) {kd pl : Int32} (hg : g < 6) (hp : p < 2) (hh : M 24 0 p = nI g) (h1 : M 5 0 g = 1) (hpl : M 6 0 g = pl) : s_R p 6 6 (g_trap K g kd pl) (m_trap M g kd) ∧ m_trap M g kd 24 0 p = nI g := by
  have hv : vp_in pl 32 := by rw [← hpl]; exact R.J 6 0 g
  have R1 := (R.nu (j := 2) (v := K 0 0 8 + 1)).trp (g := g) (v := K 7 g 11 + 1) hg
  have eM : k_up (k_up M 0 0 (25 + 2) (K 0 0 8 + 1)) 13 0 g (K 7 g 11 + 1) = m_tr2 M g := by
    unfold m_tr2
    rw [ku_f (f := 13) (by decide), ku_comm (f := 13) (fun z => absurd z.1 (by decide)), R.E.nu 2 (by omega), R.E.tr g hg]
  have eK : k_up (k_up K 0 0 (6 + 2) (K 0 0 8 + 1)) 7 g 11 (K 7 g 11 + 1) = k_up (k_up K 0 0 8 (K 0 0 8 + 1)) 7 g 11 (k_up K 0 0 8 (K 0 0 8 + 1) 7 g 11 + 1) := by
    rw [ku_f (f := 0) (a := 7) (by decide)]
  rw [eM, eK] at R1
  have f1 : ∀ f i j, f ≠ 0 → f ≠ 13 → m_tr2 M g f i j = M f i j := fun f i j a b => by
    unfold m_tr2
    rw [ku_f a, ku_f b]
  unfold g_trap m_trap
  dsimp only
  obtain ⟨K2, eK2⟩ : ∃ K2, K2 = k_up (k_up K 0 0 8 (K 0 0 8 + 1)) 7 g 11 (k_up K 0 0 8 (K 0 0 8 + 1) 7 g 11 + 1) := ⟨_, rfl⟩
  obtain ⟨M2, eM2⟩ : ∃ M2, M2 = m_tr2 M g := ⟨_, rfl⟩
  rw [← eK2] at R1 ⊢
  rw [← eM2] at R1 f1 ⊢
  have eh := R1.E.hd g hg
  have ps := s_pos (s_v (by decide) (R1.J 7 0 g))
  by_cases q : M2 7 0 g = -1
  · rw [if_pos (eh.trans q), if_neg (fun z => ps.mp z q)]
    have R2 : s_R p 6 6 (g_goTo K2 g pl) M2 := (R1.pl (v := g_fm pl 32) (r_fm pl)).ox 6 (fun _ => by
      rw [ku_eq, s_fm hv, f1 _ _ _ (by decide) (by decide), hpl])
    obtain ⟨a, b, _, _⟩ := R2.die (oc := -100 - kd) hg hp (by rw [f1 _ _ _ (by decide) (by decide)]; exact hh) (by rw [f1 _ _ _ (by decide) (by decide)]; exact h1)
    exact ⟨a, b⟩
  · rw [if_neg (fun z => q (eh.symm.trans z)), if_pos (ps.mpr q)]
    have R2 := R1.reg (g := g) (a := 3) (v := kd) hg (by omega) (by rw [f1 _ _ _ (by decide) (by decide), h1]; decide)
    have hv2 : vp_in (M2 7 0 g) 32 := Or.resolve_left (R1.J 7 0 g) q
    have eK7 : k_up K2 8 g 3 kd 7 g 5 = M2 7 0 g := by rw [ku_f (by decide), eh]
    have eM7 : k_up M2 15 0 (g * 4 + 3) kd 7 0 g = M2 7 0 g := ku_f (by decide)
    rw [eK7, eM7]
    have R3 : s_R p 6 6 (k_up (k_up K2 8 g 3 kd) 7 g 4 (g_fm (M2 7 0 g) 32)) (k_up (k_up M2 15 0 (g * 4 + 3) kd) 6 0 g (M2 7 0 g)) := ((R2.pl (v := g_fm (M2 7 0 g) 32) (r_fm _)).plm (v := M2 7 0 g) hv2).ox 6 (fun _ => by rw [ku_eq, ku_eq, s_fm hv2])
    refine ⟨R3.hdl hg (Or.inl rfl), ?_⟩
    rw [ku_f (by decide), ku_f (by decide), ku_f (by decide), f1 _ _ _ (by decide) (by decide), hh]
/-- the frames: the first that is free -/
theorem s_fr {x : Nat} {K M : kM} (E : s_E x K M) : ∀ n i, n + i = 12 → (m_mf M n i = 12 ∧ g_frX K n i = -1 ∧ g_frT K n i = K) ∨ (m_mf M n i < 12 ∧ M 18 0 (m_mf M n i) = 0 ∧ g_frX K n i = nI (m_mf M n i) ∧ g_frT K n i = g_clear (k_up (k_up K 5 0 (m_mf M n i) 1) 3 0 2 (K 3 0 2 - 1)) (nI (m_mf M n i)) 8)
  | 0, i, h => Or.inl ⟨by unfold m_mf; omega, rfl, rfl⟩
  | n + 1, i, h => by
    unfold m_mf g_frX g_frT
    rw [E.tk i (by omega)]
    by_cases z : M 18 0 i = 0
    · rw [if_pos z, if_pos z, if_pos z]
      exact Or.inr ⟨by omega, z, rfl, by rw [ku_f (f := 5) (by decide)]⟩
    · rw [if_neg z, if_neg z, if_neg z]
      exact s_fr E n (i + 1) (by omega)
theorem s_R.clr {p x y : Nat} {K M : kM} (R : s_R p x y K M) {f : Nat} (hf : f < 12) : ∀ n, n ≤ 8 → s_R p x y (g_clear K (nI f) n) (m_clr M f n)
  | 0, _ => R
  | n + 1, hn => by
    unfold g_clear m_clr g_store
    have e : (nI f * 8 + nI n).toNatClampNeg = f * 8 + n := (mx f 8 n 96 (by omega) (by decide)).2
    rw [e]
    exact (R.clr hf n (by omega)).mem
theorem s_E.clr {x : Nat} {K M : kM} (R : s_E x K M) {f : Nat} (hf : f < 12) : ∀ n, n ≤ 8 → s_E x (g_clear K (nI f) n) (m_clr M f n)
  | 0, _ => R
  | n + 1, hn => by
    unfold g_clear m_clr g_store
    have e : (nI f * 8 + nI n).toNatClampNeg = f * 8 + n := (mx f 8 n 96 (by omega) (by decide)).2
    rw [e]
    exact (R.clr hf n (by omega)).w_me _
theorem s_clrf {M : kM} {f a i j : Nat} (h : a ≠ 17) : ∀ n, m_clr M f n a i j = M a i j
  | 0 => rfl
  | n + 1 => by
    unfold m_clr
    rw [ku_f h, s_clrf h n]
theorem s_clf {K : kM} {f : Int32} {a i j : Nat} (h : a ≠ 4) : ∀ n, g_clear K f n a i j = K a i j
  | 0 => rfl
  | n + 1 => by
    unfold g_clear g_store
    rw [ku_f h, s_clf h n]
theorem s_rM_c {M M' : kM} (h1 : ∀ j, M' 19 0 j = M 19 0 j) (h2 : ∀ j, M' 20 0 j = M 20 0 j) (r : Nat) : s_rM M' r = s_rM M r := by
  unfold s_rM
  simp only [h1, h2]
theorem s_left {rk : Nat → Nat} {y : Nat} {M : kM} (C : s_C rk y M) {g : Nat} (hg : g < 6) (h5 : M 5 0 g ≠ -1) : (M 8 0 g - M 9 0 g - M 10 0 g).toInt = (M 8 0 g).toInt - (M 9 0 g).toInt - (M 10 0 g).toInt := by
  have b := C.2.2 g hg h5
  have e : (M 8 0 g - M 9 0 g).toInt = (M 8 0 g).toInt - (M 9 0 g).toInt := s_is (by omega) (by omega) (by omega) (by omega)
  rw [s_is (by omega) (by omega) (by omega) (by omega), e]
/-- a page comes -/
theorem s_R.map {p x : Nat} {K M : kM} (R : s_R p x 6 K M) {g a q : Nat} (hg : g < 6) (ha : a < 4) (hq : q < 4) (h1 : M 5 0 g = 1) : s_R p x 6 (g_mapT K g (nI a) (nI q)) (k_up (m_mapT M g q) 15 0 (g * 4 + a) (m_mapX M g q)) := by
  have n5 : M 5 0 g ≠ -1 := by rw [h1]; decide
  have n2 : M 5 0 g ≠ 2 := by rw [h1]; decide
  have eo : g_out (nI q) 4 = 0 := by
    rw [s_on4]
    unfold m_no
    rw [if_neg (nI_pos (by omega)), if_pos (show nI q ≤ 3 from nI_le (a := q) (b := 3) (by omega) (by decide))]
  have ep := R.E.pg g hg q hq
  obtain ⟨rk, C⟩ := R.C
  have lf := s_left C hg n5
  have b := C.2.2 g hg n5
  have z0 : (0 : Int32).toInt = 0 := by decide
  have eq : g_qleft K g ≤ 0 ↔ M 8 0 g ≤ M 9 0 g + M 10 0 g := by
    unfold g_qleft
    rw [R.E.qu g hg, R.E.us g hg, R.E.gi g hg, Int32.le_iff_toInt_le, Int32.le_iff_toInt_le, lf, s_ia (by omega) (by omega) (by omega) (by omega), z0]
    omega
  have ps := s_pos (s_v (by decide) (R.J 16 0 (g * 4 + q)))
  unfold g_mapT
  rw [if_pos eo, s_nC (n := a) (by omega), s_nC (n := q) (by omega)]
  have none : ∀ (KK : kM), KK = K → m_mapT M g q = M → m_mapX M g q = 0 → s_R p x 6 (k_up KK 8 g a 0) (k_up (m_mapT M g q) 15 0 (g * 4 + a) (m_mapX M g q)) := fun KK h e1 e2 => by
    rw [h, e1, e2]
    exact R.reg hg ha n2
  unfold g_mapF g_mapK
  rw [s_nC (n := q) (by omega), ep]
  by_cases z1 : M 16 0 (g * 4 + q) = -1
  · rw [if_pos z1, if_pos z1]
    have np : ¬ 0 ≤ M 16 0 (g * 4 + q) := fun z => ps.mp z z1
    by_cases z2 : M 8 0 g ≤ M 9 0 g + M 10 0 g
    · rw [if_pos (eq.mpr z2), if_pos (eq.mpr z2), if_pos rfl]
      refine none K rfl ?_ ?_
      · unfold m_mapT m_mpT
        rw [if_neg np, if_pos z2]
      · unfold m_mapX m_mpX
        rw [if_neg np, if_pos z2]
    · rw [if_neg (fun z => z2 (eq.mp z)), if_neg (fun z => z2 (eq.mp z))]
      rcases s_fr R.E 12 0 rfl with ⟨e1, e2, e3⟩ | ⟨e1, e2, e3, e4⟩
      · rw [e2, e3, if_pos rfl]
        refine none K rfl ?_ ?_
        · unfold m_mapT m_mpT
          rw [if_neg np, if_neg z2, e1, if_pos (show nI 12 = 12 from rfl)]
        · unfold m_mapX m_mpX
          rw [if_neg np, if_neg z2, e1, if_pos (show nI 12 = 12 from rfl)]
      · obtain ⟨f, ef⟩ : ∃ f, f = m_mf M 12 0 := ⟨_, rfl⟩
        rw [← ef] at e1 e2 e3 e4
        have n12 : ¬ nI f = 12 := fun z => by
          have := (nI_eq (a := f) (b := 12) (by omega) (by decide)).mp z
          omega
        have nm : ¬ nI f = -1 := fun z => by
          have := nI_toInt (n := f) (by omega)
          rw [z] at this
          have e : (-1 : Int32).toInt = -1 := by decide
          omega
        have eT : m_mapT M g q = m_map1 M g q f := by
          unfold m_mapT m_mpT
          rw [if_neg np, if_neg z2, ← ef, if_neg n12]
        have eX : m_mapX M g q = 1 := by
          unfold m_mapX m_mpX
          rw [if_neg np, if_neg z2, ← ef, if_neg n12]
        rw [e3, e4, eT, eX, if_neg nm]
        refine s_R.reg ?_ hg ha (by
          unfold m_map1
          rw [ku_f (by decide), ku_f (by decide), s_clrf (by decide), ku_f (by decide)]
          exact n2)
        obtain ⟨I, J, E, A, B, _, D⟩ := R
        have e9 : k_up (m_clr (k_up M 18 0 f 1) f 8) 16 0 (g * 4 + q) (nI f) 9 0 g = M 9 0 g := by
          rw [ku_f (by decide), s_clrf (by decide), ku_f (by decide)]
        have e7 : k_up (g_clear (k_up (k_up K 5 0 f 1) 3 0 2 (K 3 0 2 - 1)) (nI f) 8) 9 g q (nI f) 7 g 7 = M 9 0 g := by
          rw [ku_f (by decide), s_clf (by decide), ku_f (by decide), ku_f (by decide), E.us g hg]
        have fM : ∀ b i j, b ≠ 18 → b ≠ 17 → b ≠ 16 → b ≠ 9 → m_map1 M g q f b i j = M b i j := fun b i j c1 c2 c3 c4 => by
          unfold m_map1
          rw [ku_f c4, ku_f c3, s_clrf c2, ku_f c1]
        have vf : vp_in (nI f) 12 := vp_in_nI e1 (by decide)
        have J1 : m_Inv (m_map1 M g q f) := by
          unfold m_map1
          exact k_Inv.up (k_Inv.up (j_clr (K := k_up M 18 0 f 1) (f := f) (k_Inv.up J trivial) 8).1 (Or.inr vf)) trivial
        have I0 : g_Inv (k_up (k_up K 5 0 f 1) 3 0 2 (K 3 0 2 - 1)) := k_Inv.up (k_Inv.up I trivial) trivial
        have I1 : g_Inv (k_up (k_up (g_clear (k_up (k_up K 5 0 f 1) 3 0 2 (K 3 0 2 - 1)) (nI f) 8) 9 g q (nI f)) 7 g 7 (k_up (g_clear (k_up (k_up K 5 0 f 1) 3 0 2 (K 3 0 2 - 1)) (nI f) 8) 9 g q (nI f) 7 g 7 + 1)) := k_Inv.up (k_Inv.up (iv_clear I0 8) (Or.inr vf)) trivial
        refine ⟨I1, J1, ?_, ?_, ?_, ⟨rk, ?_⟩, ?_⟩
        · rw [e7]
          unfold m_map1
          rw [e9]
          exact (((E.get e1 e2).clr e1 8 (Nat.le_refl 8)).w_pg hg hq _).w_us hg _
        · exact A.congr (fun _ => fM _ _ _ (by decide) (by decide) (by decide) (by decide)) (fun _ => fM _ _ _ (by decide) (by decide) (by decide) (by decide)) (fun r _ => s_rM_c (fun _ => fM _ _ _ (by decide) (by decide) (by decide) (by decide)) (fun _ => fM _ _ _ (by decide) (by decide) (by decide) (by decide)) r)
        · refine (B.set (u := M 9 0 g + 1) hg hq e1 n5 e2 z1 rfl).congr (fun c _ => ?_) (fun c => ?_) (fun c => ?_) (fun c => ?_)
          · rw [fM _ _ _ (by decide) (by decide) (by decide) (by decide), ku_f (by decide), ku_f (by decide), ku_f (by decide)]
            exact id
          · unfold m_map1
            rw [e9, ku_f (by decide), ku_f (f := 9) (by decide)]
            by_cases z : c = g * 4 + q
            · rw [z, ku_eq, ku_eq]
            · rw [ku_j z, ku_j z, s_clrf (by decide)]
          · unfold m_map1
            rw [e9, ku_f (by decide), ku_f (by decide), ku_f (f := 9) (by decide), ku_f (f := 16) (by decide), s_clrf (by decide)]
          · unfold m_map1
            rw [e9]
            by_cases z : c = g
            · rw [z, ku_eq, ku_eq]
            · rw [ku_j z, ku_j z, ku_f (by decide), s_clrf (by decide), ku_f (by decide), ku_f (by decide), ku_f (by decide)]
        · unfold m_map1
          rw [e9]
          have e1' : (1 : Int32).toInt = 1 := by decide
          have u2 : (M 9 0 g + 1).toInt = (M 9 0 g).toInt + 1 := by rw [s_ia (by omega) (by omega) (by omega) (by omega), e1']
          have C1 : s_C rk 6 (k_up (m_clr (k_up M 18 0 f 1) f 8) 16 0 (g * 4 + q) (nI f)) := C.congr (fun _ => by rw [ku_f (by decide), s_clrf (by decide), ku_f (by decide)]) (fun _ => by rw [ku_f (by decide), s_clrf (by decide), ku_f (by decide)]) (fun _ => by rw [ku_f (by decide), s_clrf (by decide), ku_f (by decide)]) (fun _ => by rw [ku_f (by decide), s_clrf (by decide), ku_f (by decide)]) (fun _ => by rw [ku_f (by decide), s_clrf (by decide), ku_f (by decide)])
          refine C1.us (by omega) ?_
          rw [ku_f (by decide), s_clrf (by decide), ku_f (by decide), ku_f (by decide), s_clrf (by decide), ku_f (by decide)]
          rw [Int32.le_iff_toInt_le, s_ia (by omega) (by omega) (by omega) (by omega)] at z2
          omega
        · exact D.same (fun r _ _ => s_rM_c (fun _ => fM _ _ _ (by decide) (by decide) (by decide) (by decide)) (fun _ => fM _ _ _ (by decide) (by decide) (by decide) (by decide)) r) (fun _ => fM _ _ _ (by decide) (by decide) (by decide) (by decide)) (fun _ => fM _ _ _ (by decide) (by decide) (by decide) (by decide)) (fun w => by rw [ku_j (by decide), ku_f (by decide), s_clf (by decide), ku_f (by decide), ku_f (by decide)]) (fun w j => by rw [ku_f (by decide), ku_f (by decide), s_clf (by decide), ku_f (by decide), ku_f (by decide)])
  · rw [if_neg z1, if_neg z1, if_pos rfl]
    refine none K rfl ?_ ?_
    · unfold m_mapT m_mpT
      rw [if_pos (ps.mpr z1)]
    · unfold m_mapX m_mpX
      rw [if_pos (ps.mpr z1)]
