/-! ===== THE TWO SIDE BY SIDE (19): the law's questions ===== -/
theorem s_R.qreg {K M : kM} (R : s_R 2 6 6 K M) (g r : Int32) : s_R 2 6 6 K (m_gT M g (m_no r 3)) ∧ m_gT M g (m_no r 3) 0 0 32 = g_s3 K g r 4 ∧ (g_s3 K g r 4 = 0 → K 8 g.toNatClampNeg r.toNatClampNeg = m_regX M g r) := by
  obtain ⟨a, b⟩ := R.gs g r 4 3 s_on4
  refine ⟨R.thr, by unfold m_gT; rw [ku_eq, a], fun z => ?_⟩
  obtain ⟨q, hq, rfl, h1, h2⟩ := b z
  obtain ⟨w, hw, rfl⟩ := r_nat (r_no (n := 3) (by decide) h1) (by decide)
  unfold m_regX
  rw [if_neg (by rw [h2]; decide), s_nC (by omega), s_nC (by omega)]
  exact R.E.re q hq w hw
theorem s_R.qpag {K M : kM} (R : s_R 2 6 6 K M) (g r : Int32) : s_R 2 6 6 K (m_gT M g (m_no r 3)) ∧ m_gT M g (m_no r 3) 0 0 32 = g_s3 K g r 4 ∧ (g_s3 K g r 4 = 0 → K 9 g.toNatClampNeg r.toNatClampNeg = m_pagX M g r) := by
  obtain ⟨a, b⟩ := R.gs g r 4 3 s_on4
  refine ⟨R.thr, by unfold m_gT; rw [ku_eq, a], fun z => ?_⟩
  obtain ⟨q, hq, rfl, h1, h2⟩ := b z
  obtain ⟨w, hw, rfl⟩ := r_nat (r_no (n := 3) (by decide) h1) (by decide)
  unfold m_pagX
  rw [if_neg (by rw [h2]; decide), s_nC (by omega), s_nC (by omega)]
  exact R.E.pg q hq w hw
theorem s_R.qtol {K M : kM} (R : s_R 2 6 6 K M) (g w : Int32) : s_R 2 6 6 K (m_gT M g (m_no w 8)) ∧ m_gT M g (m_no w 8) 0 0 32 = g_s3 K g w 9 ∧ (g_s3 K g w 9 = 0 → g_telX K g.toNatClampNeg w = m_telX M g w) := by
  obtain ⟨a, b⟩ := R.gs g w 9 8 s_on9
  refine ⟨R.thr, by unfold m_gT; rw [ku_eq, a], fun z => ?_⟩
  obtain ⟨q, hq, rfl, h1, h2⟩ := b z
  have hv := r_c9 (r_no (n := 8) (by decide) h1)
  unfold m_telX g_telX
  rw [if_neg (by rw [h2]; decide), s_nC (by omega)]
  rcases hv with rfl | rfl | rfl | rfl | rfl | rfl | rfl | rfl | rfl
  · exact R.E.st q hq
  · exact R.E.pl q hq (by omega)
  · exact R.E.hd q hq
  · exact R.E.qu q hq
  · exact R.E.us q hq
  · exact R.E.gi q hq
  · exact R.E.pa q hq
  · exact R.E.oc q hq
  · exact R.E.tr q hq
theorem s_n20 {a m b n : Int32} (h : m_no2 a m b n = 0) : m_no a m = 0 ∧ m_no b n = 0 := by
  unfold m_no2 at h
  by_cases z : m_no a m = 0
  · rw [if_pos z] at h
    by_cases y : m_no b n = 0
    · exact ⟨z, y⟩
    · rw [if_neg y] at h
      exact absurd h (by decide)
  · rw [if_neg z] at h
    exact absurd h (by decide)
theorem s_R.qmem {K M : kM} (R : s_R 2 6 6 K M) (f i : Int32) : s_R 2 6 6 K (m_th M (m_no2 f 11 i 7)) ∧ m_th M (m_no2 f 11 i 7) 0 0 32 = g_s2 f 12 i 8 ∧ (g_s2 f 12 i 8 = 0 → g_read K f i = m_memX M f i) := by
  have e := s_no2 (a := f) (b := i) s_on12 s_on8
  refine ⟨R.thr, by unfold m_th; rw [ku_eq, e], fun z => ?_⟩
  rw [e] at z
  obtain ⟨h1, h2⟩ := s_n20 z
  obtain ⟨q, hq, rfl⟩ := r_nat (r_no (n := 11) (by decide) h1) (by decide)
  obtain ⟨w, hw, rfl⟩ := r_nat (r_no (n := 7) (by decide) h2) (by decide)
  unfold m_memX g_read
  rw [if_pos z, s_nC (n := q) (by omega), s_nC (n := w) (by omega), show (8 : Int32) = nI 8 from rfl, (mx q 8 w 96 (by omega) (by decide)).2]
  exact R.E.me _ (by omega)
theorem s_R.qobj {K M : kM} (R : s_R 2 6 6 K M) (k w : Int32) : s_R 2 6 6 K (m_th M (m_no2 k 3 w 4)) ∧ m_th M (m_no2 k 3 w 4) 0 0 32 = g_s2 k 4 w 5 ∧ (g_s2 k 4 w 5 = 0 → g_objX K k.toNatClampNeg w = m_objX M k w) := by
  have e := s_no2 (a := k) (b := w) s_on4 s_on5
  refine ⟨R.thr, by unfold m_th; rw [ku_eq, e], fun z => ?_⟩
  rw [e] at z
  obtain ⟨h1, h2⟩ := s_n20 z
  obtain ⟨q, hq, rfl⟩ := r_nat (r_no (n := 3) (by decide) h1) (by decide)
  have hv := r_c5 (r_no (n := 4) (by decide) h2)
  unfold m_objX g_objX
  rw [if_pos z, s_nC (n := q) (by omega)]
  rcases hv with rfl | rfl | rfl | rfl | rfl
  · exact R.E.lo q hq
  · exact R.E.sz (10 + q) (by omega)
  · exact R.E.cs q hq
  · exact R.E.sz (2 + q) (by omega)
  · exact R.E.sz (6 + q) (by omega)
theorem s_R.qwri {K M : kM} (R : s_R 2 6 6 K M) (i w : Int32) : s_R 2 6 6 K (m_th M (m_no2 i 31 w 3)) ∧ m_th M (m_no2 i 31 w 3) 0 0 32 = g_s2 i 32 w 4 ∧ (g_s2 i 32 w 4 = 0 → g_part K i w = m_wriX M i w) := by
  have e := s_no2 (a := i) (b := w) s_on32 s_on4
  refine ⟨R.thr, by unfold m_th; rw [ku_eq, e], fun z => ?_⟩
  rw [e] at z
  obtain ⟨h1, h2⟩ := s_n20 z
  obtain ⟨q, hq, rfl⟩ := r_nat (r_no (n := 31) (by decide) h1) (by decide)
  obtain ⟨j, hj, rfl⟩ := r_nat (r_no (n := 3) (by decide) h2) (by decide)
  unfold m_wriX
  rw [if_pos z, s_gp hq hj, s_nC (n := q) (by omega)]
  have : j = 0 ∨ j = 1 ∨ j = 2 ∨ j = 3 := by omega
  rcases this with rfl | rfl | rfl | rfl
  · rw [if_pos (show nI 0 = 0 from rfl)]
    exact R.E.p0 q hq
  · rw [if_neg (by decide), if_pos (show nI 1 = 1 from rfl)]
    exact R.E.p1 q hq
  · rw [if_neg (by decide), if_neg (by decide), if_pos (show nI 2 = 2 from rfl)]
    exact R.E.p2 q hq
  · rw [if_neg (by decide), if_neg (by decide), if_neg (by decide)]
    exact R.E.p3 q hq
theorem s_R.qcnt {K M : kM} (R : s_R 2 6 6 K M) (w : Int32) : s_R 2 6 6 K (m_th M 0) ∧ g_count K w = m_cntX (m_th M 0) w := by
  have R1 : s_R 2 6 6 K (m_th M 0) := R.thr
  refine ⟨R1, ?_⟩
  generalize m_th M 0 = M at R1
  by_cases h : w.toInt < 0 ∨ 21 < w.toInt
  · rw [mk_o M h, gk_o K h]
  · have hv : vp_in w 22 := vp_in_iff.mpr (by omega)
    rcases r_c22 hv with rfl | rfl | rfl | rfl | rfl | rfl | rfl | rfl | rfl | rfl | rfl | rfl | rfl | rfl | rfl | rfl | rfl | rfl | rfl | rfl | rfl | rfl
    · rw [mk_0, gk_0]; exact R1.E.nu 0 (by omega)
    · rw [mk_1, gk_1]; exact R1.E.nu 1 (by omega)
    · rw [mk_2, gk_2]; exact R1.E.nu 2 (by omega)
    · rw [mk_3, gk_3]; exact R1.E.nu 3 (by omega)
    · rw [mk_4, gk_4]; exact R1.E.nu 4 (by omega)
    · rw [mk_5, gk_5]; exact R1.E.fr
    · rw [mk_6, gk_6]; exact R1.E.nu 5 (by omega)
    · rw [mk_7, gk_7]; exact R1.E.nu 6 (by omega)
    · rw [mk_8, gk_8]
    · rw [mk_9, gk_9]
    · rw [mk_10, gk_10]; exact R1.E.ha 0 (by omega)
    · rw [mk_11, gk_11]; exact R1.E.ha 1 (by omega)
    · rw [mk_12, gk_12]
    · rw [mk_13, gk_13]
    · rw [mk_14, gk_14]
    · rw [mk_15, gk_15]
    · rw [mk_16, gk_16]
    · rw [mk_17, gk_17]
    · rw [mk_18, gk_18]
    · rw [mk_19, gk_19]
    · rw [mk_20, gk_20]; exact R1.E.sz 0 (by omega)
    · rw [mk_21, gk_21]; exact R1.E.sz 1 (by omega)
theorem s_E.wp {x : Nat} {K M : kM} (E : s_E x K M) {i : Nat} {o a b n : Int32} (hi : i < 32) : s_E x (k_up (k_up (k_up (k_up K 2 0 (i * 4) o) 2 0 (i * 4 + 1) a) 2 0 (i * 4 + 2) b) 2 0 (i * 4 + 3) n) (k_up (k_up (k_up (k_up M 1 0 i o) 2 0 i a) 3 0 i b) 4 0 i n) := by
  refine ⟨?_, ?_, ?_, ?_, ?_, ?_, ?_, ?_, ?_, ?_, ?_, ?_, ?_, ?_, ?_, ?_, ?_, ?_, ?_, ?_, ?_, ?_, ?_, ?_, ?_, ?_⟩
  · intro g' h0
    have e := E.p0 g' h0
    by_cases z : g' = i
    · subst z
      simp [k_up]
    · have n0 : g' * 4 ≠ i * 4 := by omega
      have n1 : g' * 4 ≠ i * 4 + 1 := by omega
      have n2 : g' * 4 ≠ i * 4 + 2 := by omega
      have n3 : g' * 4 ≠ i * 4 + 3 := by omega
      simp only [k_up, n0, n1, n2, n3, z, and_false, false_and, if_false]
      simpa using e
  · intro g' h0
    have e := E.p1 g' h0
    by_cases z : g' = i
    · subst z
      simp [k_up]
    · have n0 : g' * 4 + 1 ≠ i * 4 := by omega
      have n1 : g' * 4 + 1 ≠ i * 4 + 1 := by omega
      have n2 : g' * 4 + 1 ≠ i * 4 + 2 := by omega
      have n3 : g' * 4 + 1 ≠ i * 4 + 3 := by omega
      simp only [k_up, n0, n1, n2, n3, z, and_false, false_and, if_false]
      simpa using e
  · intro g' h0
    have e := E.p2 g' h0
    by_cases z : g' = i
    · subst z
      simp [k_up]
    · have n0 : g' * 4 + 2 ≠ i * 4 := by omega
      have n1 : g' * 4 + 2 ≠ i * 4 + 1 := by omega
      have n2 : g' * 4 + 2 ≠ i * 4 + 2 := by omega
      have n3 : g' * 4 + 2 ≠ i * 4 + 3 := by omega
      simp only [k_up, n0, n1, n2, n3, z, and_false, false_and, if_false]
      simpa using e
  · intro g' h0
    have e := E.p3 g' h0
    by_cases z : g' = i
    · subst z
      simp [k_up]
    · have n0 : g' * 4 + 3 ≠ i * 4 := by omega
      have n1 : g' * 4 + 3 ≠ i * 4 + 1 := by omega
      have n2 : g' * 4 + 3 ≠ i * 4 + 2 := by omega
      have n3 : g' * 4 + 3 ≠ i * 4 + 3 := by omega
      simp only [k_up, n0, n1, n2, n3, z, and_false, false_and, if_false]
      simpa using e
  · intro j' h0
    simpa [k_up] using E.me _ h0
  · intro j' h0
    simpa [k_up] using E.tk _ h0
  · intro g' h0
    simpa [k_up] using E.st _ h0
  · intro g' h0 h1
    simpa [k_up] using E.pl _ h0 h1
  · intro g' h0
    simpa [k_up] using E.hd _ h0
  · intro g' h0
    simpa [k_up] using E.qu _ h0
  · intro g' h0
    simpa [k_up] using E.us _ h0
  · intro g' h0
    simpa [k_up] using E.gi _ h0
  · intro g' h0
    simpa [k_up] using E.pa _ h0
  · intro g' h0
    simpa [k_up] using E.oc _ h0
  · intro g' h0
    simpa [k_up] using E.tr _ h0
  · intro g' h0 j' h1
    simpa [k_up] using E.re _ h0 _ h1
  · intro g' h0 j' h1
    simpa [k_up] using E.pg _ h0 _ h1
  · intro p' h0
    simpa [k_up] using E.ha _ h0
  · intro p' h0
    simpa [k_up] using E.ti _ h0
  · intro r' h0
    simpa [k_up] using E.sz _ h0
  · intro r' h0
    simpa only [s_rK_up, s_rM_up, ne_eq, reduceCtorEq, not_false_eq_true, Nat.reduceEqDiff] using E.ro _ h0
  · intro k' h0
    simpa [k_up] using E.lo _ h0
  · intro k' h0
    simpa [k_up] using E.cs _ h0
  · intro k' h0 j' h1
    have h2 := E.cv _ h0 _ (by simpa [k_up] using h1)
    simpa [k_up] using h2
  · intro j' h0
    simpa [k_up] using E.nu _ h0
  · simpa [s_fru, k_up] using E.fr
theorem s_R.qcod {K M : kM} (R : s_R 2 6 6 K M) (i o a b n : Int32) : s_R 2 6 6 (g_cdT K i o a b n) (m_codT M i o a b n) ∧ m_codT M i o a b n 0 0 32 = g_cdS i o a b := by
  have e : g_cdS i o a b = m_cdS i o a b := by
    unfold g_cdS m_cdS
    rw [s_on32, s_on22, s_on4, s_on4]
  unfold g_cdT m_codT
  rw [e]
  by_cases z : m_cdS i o a b = 0
  · rw [if_pos z, if_pos z]
    have hz : m_no i 31 = 0 ∧ m_no o 21 = 0 ∧ m_no a 3 = 0 ∧ m_no b 3 = 0 := by
      unfold m_cdS at z
      by_cases z1 : m_no i 31 = 0
      · rw [if_pos z1] at z
        by_cases z2 : m_no o 21 = 0
        · rw [if_pos z2] at z
          by_cases z3 : m_no a 3 = 0
          · rw [if_pos z3] at z
            by_cases z4 : m_no b 3 = 0
            · exact ⟨z1, z2, z3, z4⟩
            · rw [if_neg z4] at z
              exact absurd z (by decide)
          · rw [if_neg z3] at z
            exact absurd z (by decide)
        · rw [if_neg z2] at z
          exact absurd z (by decide)
      · rw [if_neg z1] at z
        exact absurd z (by decide)
    have vi := r_no (n := 31) (by decide) hz.1
    have vo := r_no (n := 21) (by decide) hz.2.1
    have va := r_no (n := 3) (by decide) hz.2.2.1
    have vb := r_no (n := 3) (by decide) hz.2.2.2
    have I1 := iv_write (n := n) R.I vi vo va vb
    obtain ⟨q, hq, rfl⟩ := r_nat vi (by decide)
    have eK : g_write K (nI q) o a b n = k_up (k_up (k_up (k_up K 2 0 (q * 4) o) 2 0 (q * 4 + 1) a) 2 0 (q * 4 + 2) b) 2 0 (q * 4 + 3) n := by
      have h0 : (nI q * 4 + 0).toNatClampNeg = q * 4 := (mx q 4 0 128 (by omega) (by decide)).2
      have h1 : (nI q * 4 + 1).toNatClampNeg = q * 4 + 1 := (mx q 4 1 128 (by omega) (by decide)).2
      have h2 : (nI q * 4 + 2).toNatClampNeg = q * 4 + 2 := (mx q 4 2 128 (by omega) (by decide)).2
      have h3 : (nI q * 4 + 3).toNatClampNeg = q * 4 + 3 := (mx q 4 3 128 (by omega) (by decide)).2
      unfold g_write
      rw [h0, h1, h2, h3]
    rw [eK] at I1 ⊢
    rw [s_nC (by omega)]
    obtain ⟨I, J, E, A, B, ⟨rk, C⟩, D⟩ := R.thr (v := 0)
    refine ⟨⟨I1, k_Inv.up (k_Inv.up (k_Inv.up (k_Inv.up J vo) va) vb) trivial, E.wp hq, (((A.up (by decide) (by decide) (by decide) (by decide)).up (by decide) (by decide) (by decide) (by decide)).up (by decide) (by decide) (by decide) (by decide)).up (by decide) (by decide) (by decide) (by decide), (((B.up (by decide) (by decide) (by decide) (by decide)).up (by decide) (by decide) (by decide) (by decide)).up (by decide) (by decide) (by decide) (by decide)).up (by decide) (by decide) (by decide) (by decide), ⟨rk, (((C.up (by decide) (by decide) (by decide) (by decide) (by decide)).up (by decide) (by decide) (by decide) (by decide) (by decide)).up (by decide) (by decide) (by decide) (by decide) (by decide)).up (by decide) (by decide) (by decide) (by decide) (by decide)⟩, (((D.up (by decide) (Or.inl (by decide)) (by decide) (by decide) (by decide) (by decide)).up (by decide) (Or.inl (by decide)) (by decide) (by decide) (by decide) (by decide)).up (by decide) (Or.inl (by decide)) (by decide) (by decide) (by decide) (by decide)).up (by decide) (Or.inl (by decide)) (by decide) (by decide) (by decide) (by decide)⟩, ?_⟩
    rw [ku_f (by decide), ku_f (by decide), ku_f (by decide), ku_f (by decide), ku_eq, z]
  · rw [if_neg z, if_neg z]
    refine ⟨R.thr, ?_⟩
    rw [ku_eq]
    unfold m_cdS at z ⊢
    by_cases z1 : m_no i 31 = 0
    · rw [if_pos z1] at z ⊢
      by_cases z2 : m_no o 21 = 0
      · rw [if_pos z2] at z ⊢
        by_cases z3 : m_no a 3 = 0
        · rw [if_pos z3] at z ⊢
          by_cases z4 : m_no b 3 = 0
          · rw [if_pos z4] at z
            exact absurd rfl z
          · rw [if_neg z4]
        · rw [if_neg z3]
      · rw [if_neg z2]
    · rw [if_neg z1]
