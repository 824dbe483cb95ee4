/-! ===== for the reference's public methods ===== -/
theorem m_300 {n : Int32} (h1 : ¬ n < 1) (h2 : n ≤ 300) : ∃ N : Nat, N ≤ 300 ∧ n = nI N := by
  rw [Int32.lt_iff_toInt_lt] at h1
  rw [Int32.le_iff_toInt_le] at h2
  have e1 : (1 : Int32).toInt = 1 := rfl
  have e3 : (300 : Int32).toInt = 300 := rfl
  rw [e1] at h1
  rw [e3] at h2
  refine ⟨n.toInt.toNat, by omega, ?_⟩
  apply Int32.toInt_inj.mp
  rw [nI_toInt (by omega)]
  omega
theorem m_gxr {K : kM} {g bad : Int32} (h : ¬ m_gX K g bad = 0) : m_no g 5 = 0 ∧ bad = 0 ∧ 0 ≤ K 5 0 g.toNatClampNeg := by
  unfold m_gX m_gs at h
  by_cases h1 : m_no g 5 = 0
  · rw [if_pos h1] at h
    by_cases h2 : bad = 0
    · rw [if_pos h2] at h
      by_cases h3 : 0 ≤ K 5 0 g.toNatClampNeg
      · exact ⟨h1, h2, h3⟩
      · rw [if_neg h3] at h
        exact absurd (if_neg (by decide)) h
    · rw [if_neg h2] at h
      exact absurd (if_neg (by decide)) h
  · rw [if_neg h1] at h
    exact absurd (if_neg (by decide)) h
theorem iv_gT {K : kM} {g bad : Int32} (I : m_Inv K) : m_Inv (m_gT K g bad) := k_Inv.up I trivial
theorem r_c9 {x : Int32} (h : vp_in x 9) : x = 0 ∨ x = 1 ∨ x = 2 ∨ x = 3 ∨ x = 4 ∨ x = 5 ∨ x = 6 ∨ x = 7 ∨ x = 8 := by
  obtain ⟨j, hj, rfl⟩ := r_nat h (by decide)
  have : j = 0 ∨ j = 1 ∨ j = 2 ∨ j = 3 ∨ j = 4 ∨ j = 5 ∨ j = 6 ∨ j = 7 ∨ j = 8 := by omega
  rcases this with rfl | rfl | rfl | rfl | rfl | rfl | rfl | rfl | rfl <;> decide
theorem r_c5 {x : Int32} (h : vp_in x 5) : x = 0 ∨ x = 1 ∨ x = 2 ∨ x = 3 ∨ x = 4 := by
  obtain ⟨j, hj, rfl⟩ := r_nat h (by decide)
  have : j = 0 ∨ j = 1 ∨ j = 2 ∨ j = 3 ∨ j = 4 := by omega
  rcases this with rfl | rfl | rfl | rfl | rfl <;> decide
theorem mk_0 (K : kM) : m_cntX K 0 = K 0 0 25 := rfl
theorem mk_1 (K : kM) : m_cntX K 1 = K 0 0 26 := rfl
theorem mk_2 (K : kM) : m_cntX K 2 = K 0 0 27 := rfl
theorem mk_3 (K : kM) : m_cntX K 3 = K 0 0 28 := rfl
theorem mk_4 (K : kM) : m_cntX K 4 = K 0 0 29 := rfl
theorem mk_5 (K : kM) : m_cntX K 5 = m_fr K 12 := rfl
theorem mk_6 (K : kM) : m_cntX K 6 = K 0 0 30 := rfl
theorem mk_7 (K : kM) : m_cntX K 7 = K 0 0 31 := rfl
theorem mk_8 (K : kM) : m_cntX K 8 = -2 := rfl
theorem mk_9 (K : kM) : m_cntX K 9 = -2 := rfl
theorem mk_10 (K : kM) : m_cntX K 10 = K 24 0 0 := rfl
theorem mk_11 (K : kM) : m_cntX K 11 = K 24 0 1 := rfl
theorem mk_12 (K : kM) : m_cntX K 12 = -2 := rfl
theorem mk_13 (K : kM) : m_cntX K 13 = -2 := rfl
theorem mk_14 (K : kM) : m_cntX K 14 = -2 := rfl
theorem mk_15 (K : kM) : m_cntX K 15 = -2 := rfl
theorem mk_16 (K : kM) : m_cntX K 16 = -2 := rfl
theorem mk_17 (K : kM) : m_cntX K 17 = -2 := rfl
theorem mk_18 (K : kM) : m_cntX K 18 = -2 := rfl
theorem mk_19 (K : kM) : m_cntX K 19 = -2 := rfl
theorem mk_20 (K : kM) : m_cntX K 20 = K 20 0 0 := rfl
theorem mk_21 (K : kM) : m_cntX K 21 = K 20 0 1 := rfl
theorem mk_o (K : kM) {w : Int32} (h : w.toInt < 0 ∨ 21 < w.toInt) : m_cntX K w = -2 := by
  unfold m_cntX
  rw [if_neg (r_ni h (k := 0) (a := 0) (by decide) (by decide) (by decide)), if_neg (r_ni h (k := 1) (a := 1) (by decide) (by decide) (by decide)), if_neg (r_ni h (k := 2) (a := 2) (by decide) (by decide) (by decide)), if_neg (r_ni h (k := 3) (a := 3) (by decide) (by decide) (by decide)), if_neg (r_ni h (k := 4) (a := 4) (by decide) (by decide) (by decide)), if_neg (r_ni h (k := 5) (a := 5) (by decide) (by decide) (by decide)), if_neg (r_ni h (k := 6) (a := 6) (by decide) (by decide) (by decide)), if_neg (r_ni h (k := 7) (a := 7) (by decide) (by decide) (by decide)), if_neg (r_ni h (k := 10) (a := 10) (by decide) (by decide) (by decide)), if_neg (r_ni h (k := 11) (a := 11) (by decide) (by decide) (by decide)), if_neg (r_ni h (k := 20) (a := 20) (by decide) (by decide) (by decide)), if_neg (r_ni h (k := 21) (a := 21) (by decide) (by decide) (by decide))]
theorem mtl_0 (K : kM) (g : Int32) : m_telX K g 0 = (if m_gX K g (m_no 0 8) = 0 then 0 else K 5 0 g.toNatClampNeg) := rfl
theorem mtl_1 (K : kM) (g : Int32) : m_telX K g 1 = (if m_gX K g (m_no 1 8) = 0 then 0 else K 6 0 g.toNatClampNeg) := rfl
theorem mtl_2 (K : kM) (g : Int32) : m_telX K g 2 = (if m_gX K g (m_no 2 8) = 0 then 0 else K 7 0 g.toNatClampNeg) := rfl
theorem mtl_3 (K : kM) (g : Int32) : m_telX K g 3 = (if m_gX K g (m_no 3 8) = 0 then 0 else K 8 0 g.toNatClampNeg) := rfl
theorem mtl_4 (K : kM) (g : Int32) : m_telX K g 4 = (if m_gX K g (m_no 4 8) = 0 then 0 else K 9 0 g.toNatClampNeg) := rfl
theorem mtl_5 (K : kM) (g : Int32) : m_telX K g 5 = (if m_gX K g (m_no 5 8) = 0 then 0 else K 10 0 g.toNatClampNeg) := rfl
theorem mtl_6 (K : kM) (g : Int32) : m_telX K g 6 = (if m_gX K g (m_no 6 8) = 0 then 0 else K 11 0 g.toNatClampNeg) := rfl
theorem mtl_7 (K : kM) (g : Int32) : m_telX K g 7 = (if m_gX K g (m_no 7 8) = 0 then 0 else K 12 0 g.toNatClampNeg) := rfl
theorem mtl_8 (K : kM) (g : Int32) : m_telX K g 8 = (if m_gX K g (m_no 8 8) = 0 then 0 else K 13 0 g.toNatClampNeg) := rfl
theorem mob_0 (K : kM) (k : Int32) : m_objX K k 0 = (if m_no2 k 3 0 4 = 0 then K 23 0 k.toNatClampNeg else 0) := rfl
theorem mob_1 (K : kM) (k : Int32) : m_objX K k 1 = (if m_no2 k 3 1 4 = 0 then K 20 0 (10 + k.toNatClampNeg) else 0) := rfl
theorem mob_2 (K : kM) (k : Int32) : m_objX K k 2 = (if m_no2 k 3 2 4 = 0 then K 22 0 k.toNatClampNeg else 0) := rfl
theorem mob_3 (K : kM) (k : Int32) : m_objX K k 3 = (if m_no2 k 3 3 4 = 0 then K 20 0 (2 + k.toNatClampNeg) else 0) := rfl
theorem mob_4 (K : kM) (k : Int32) : m_objX K k 4 = (if m_no2 k 3 4 4 = 0 then K 20 0 (6 + k.toNatClampNeg) else 0) := rfl
