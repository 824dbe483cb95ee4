/-! ===== ranges ===== -/
theorem r_nat {x : Int32} {n : Nat} (h : vp_in x n) (hn : n < 2 ^ 31) : ∃ j : Nat, j < n ∧ x = nI j := vp_in_of h hn
theorem r_sz {s : Int32} (h : 0 ≤ s ∧ s ≤ 6) : ∃ j : Nat, j ≤ 6 ∧ s = nI j := nI_of2 (M := 6) (n := 6) (by decide) (fun q => absurd h.1 (by rw [Int32.not_le]; exact q)) h.2
theorem r_sz2 {s : Int32} (h : 0 ≤ s ∧ s ≤ 2) : ∃ j : Nat, j ≤ 2 ∧ s = nI j := nI_of2 (M := 2) (n := 2) (by decide) (fun q => absurd h.1 (by rw [Int32.not_le]; exact q)) h.2
theorem r_idx {a s : Int32} (ha : vp_in a 6) (hs : 0 ≤ s ∧ s ≤ 6) : vp_in (k_rem (a + s) 6) 6 := by
  obtain ⟨i, hi, rfl⟩ := r_nat ha (by decide)
  obtain ⟨j, hj, rfl⟩ := r_sz hs
  show vp_in (nI i + nI j - (nI i + nI j) / nI 6 * nI 6) 6
  rw [nI_add, pk_rem (by omega) (by decide) (by decide)]
  exact vp_in_nI (Nat.mod_lt _ (by decide)) (by decide)
theorem r_fi1 {a : Int32} (ha : vp_in a 6) : vp_in (k_rem (a + 1) 6) 6 := r_idx ha (s := 1) (by decide)
theorem r_szp {s : Int32} (hs : 0 ≤ s ∧ s ≤ 6) (h : ¬ 6 ≤ s) : 0 ≤ s + 1 ∧ s + 1 ≤ 6 := by
  obtain ⟨j, hj, rfl⟩ := r_sz hs
  have : j < 6 := by
    rcases Nat.lt_or_ge j 6 with q | q
    · exact q
    · exact absurd (show nI 6 ≤ nI j from nI_le q (by omega)) h
  rw [nI_1]
  exact ⟨nI_pos' (by omega), show nI (j + 1) ≤ nI 6 from nI_le (by omega) (by decide)⟩
theorem r_szm {s : Int32} (hs : 0 ≤ s ∧ s ≤ 6) (h : ¬ s = 0) : 0 ≤ s - 1 ∧ s - 1 ≤ 6 := by
  obtain ⟨j, hj, rfl⟩ := r_sz hs
  cases j with
  | zero => exact absurd rfl h
  | succ j =>
    rw [nI_pred]
    exact ⟨nI_pos' (by omega), show nI j ≤ nI 6 from nI_le (by omega) (by decide)⟩
theorem iv_rowAdd {K : kM} {r : Nat} {x : Int32} (I : g_Inv K) (hx : vp_in x 6) : g_Inv (g_rowAdd K r x) := by
  unfold g_rowAdd
  split
  · exact I
  · rename_i h
    exact k_Inv.up (k_Inv.up I hx) (r_szp (I 12 r 2) h)
theorem iv_rowT {K : kM} {r : Nat} (I : g_Inv K) : g_Inv (g_rowT K r) := by
  unfold g_rowT
  split
  · exact I
  · rename_i h
    exact k_Inv.up (k_Inv.up I (r_fi1 (I 12 r 1))) (r_szm (I 12 r 2) h)
theorem r_lt {v : Int32} {n : Nat} (hn : n < 2 ^ 31) (h0 : ¬ v < 0) (h1 : v < nI n) : vp_in v n := by
  rw [vp_in_iff]
  have a := Int32.not_lt.mp h0
  rw [Int32.le_iff_toInt_le] at a
  rw [Int32.lt_iff_toInt_lt, nI_toInt hn] at h1
  exact ⟨by simpa using a, h1⟩
theorem r_out {v : Int32} {n : Nat} (hn : n < 2 ^ 31) (h : g_out v (nI n) = 0) : vp_in v n := by
  unfold g_out at h
  split at h
  · exact absurd h (by decide)
  · split at h
    · exact r_lt hn ‹_› ‹_›
    · exact absurd h (by decide)
theorem r_out4 {v : Int32} (h : g_out v 4 = 0) : vp_in v 4 := r_out (n := 4) (by decide) h
theorem r_out32 {v : Int32} (h : g_out v 32 = 0) : vp_in v 32 := r_out (n := 32) (by decide) h
theorem r_mad {p w : Int32} {n k : Nat} (hp : vp_in p n) (hw : vp_in w k) (h : n * k < 2 ^ 30) (hk : k < 2 ^ 30) (hn : n < 2 ^ 30) : ∃ a b : Nat, a < n ∧ b < k ∧ p = nI a ∧ w = nI b ∧ p * nI k + w = nI (a * k + b) ∧ a * k + b < n * k := by
  obtain ⟨a, ha, rfl⟩ := r_nat hp (by omega)
  obtain ⟨b, hb, rfl⟩ := r_nat hw (by omega)
  have : a * k + b < n * k := by
    calc a * k + b < a * k + k := by omega
      _ = (a + 1) * k := by rw [Nat.succ_mul]
      _ ≤ n * k := Nat.mul_le_mul_right k ha
  exact ⟨a, b, ha, hb, rfl, rfl, by rw [pk_mul, nI_add], this⟩
theorem r_part {p w : Int32} (hp : vp_in p 32) (hw : vp_in w 4) : vp_in (p * 4 + w) 128 := by
  obtain ⟨a, b, ha, hb, -, -, e, h⟩ := r_mad (n := 32) (k := 4) hp hw (by decide) (by decide) (by decide)
  show vp_in (p * nI 4 + w) 128
  rw [e]
  exact vp_in_nI h (by decide)
theorem r_mem {f i : Int32} (hp : vp_in f 12) (hw : vp_in i 8) : vp_in (f * 8 + i) 96 := by
  obtain ⟨a, b, ha, hb, -, -, e, h⟩ := r_mad (n := 12) (k := 8) hp hw (by decide) (by decide) (by decide)
  show vp_in (f * nI 8 + i) 96
  rw [e]
  exact vp_in_nI h (by decide)
theorem r_slot {p w : Int32} (hp : vp_in p 32) (hw : vp_in w 4) : (p * 4 + w).toNatClampNeg % 4 = w.toNatClampNeg := by
  obtain ⟨a, b, ha, hb, rfl, rfl, e, h⟩ := r_mad (n := 32) (k := 4) hp hw (by decide) (by decide) (by decide)
  show (nI a * nI 4 + nI b).toNatClampNeg % 4 = _
  rw [e, nI_clamp (by omega), nI_clamp (by omega)]
  omega
theorem r_w0 {p x : Int32} (hp : vp_in p 32) (hx : vp_in x 22) : g_rng 2 0 (p * 4 + 0).toNatClampNeg x := by
  show (if (p * 4 + 0).toNatClampNeg % 4 = 0 then _ else _)
  rw [if_pos (by rw [r_slot hp (k_in (by decide))]; decide)]
  exact hx
theorem r_w1 {p x : Int32} (hp : vp_in p 32) (hx : vp_in x 4) : g_rng 2 0 (p * 4 + 1).toNatClampNeg x := by
  show (if (p * 4 + 1).toNatClampNeg % 4 = 0 then _ else _)
  rw [r_slot hp (k_in (by decide))]
  exact hx
theorem r_w2 {p x : Int32} (hp : vp_in p 32) (hx : vp_in x 4) : g_rng 2 0 (p * 4 + 2).toNatClampNeg x := by
  show (if (p * 4 + 2).toNatClampNeg % 4 = 0 then _ else _)
  rw [r_slot hp (k_in (by decide))]
  exact hx
theorem r_w3 {p x : Int32} (hp : vp_in p 32) : g_rng 2 0 (p * 4 + 3).toNatClampNeg x := by
  show (if (p * 4 + 3).toNatClampNeg % 4 = 0 then _ else _)
  rw [r_slot hp (k_in (by decide))]
  exact trivial
theorem r_p0 {K : kM} {p : Int32} (I : g_Inv K) (hp : vp_in p 32) : vp_in (g_part K p 0) 22 := by
  have h := I 2 0 (p * 4 + 0).toNatClampNeg
  change (if (p * 4 + 0).toNatClampNeg % 4 = 0 then vp_in _ 22 else _) at h
  rw [if_pos (by rw [r_slot hp (k_in (by decide))]; decide)] at h
  exact h
theorem r_p1 {K : kM} {p : Int32} (I : g_Inv K) (hp : vp_in p 32) : vp_in (g_part K p 1) 4 := by
  have h := I 2 0 (p * 4 + 1).toNatClampNeg
  change (if (p * 4 + 1).toNatClampNeg % 4 = 0 then vp_in _ 22 else if (p * 4 + 1).toNatClampNeg % 4 = 3 then True else vp_in _ 4) at h
  rw [r_slot hp (k_in (by decide))] at h
  exact h
theorem r_p2 {K : kM} {p : Int32} (I : g_Inv K) (hp : vp_in p 32) : vp_in (g_part K p 2) 4 := by
  have h := I 2 0 (p * 4 + 2).toNatClampNeg
  change (if (p * 4 + 2).toNatClampNeg % 4 = 0 then vp_in _ 22 else if (p * 4 + 2).toNatClampNeg % 4 = 3 then True else vp_in _ 4) at h
  rw [r_slot hp (k_in (by decide))] at h
  exact h
theorem r_div8 {a : Int32} (h : vp_in a 32) : vp_in (a / 8) 4 := by
  obtain ⟨j, hj, rfl⟩ := r_nat h (by decide)
  show vp_in (nI j / nI 8) 4
  rw [pk_div (by omega) (by decide) (by decide)]
  exact vp_in_nI (by omega) (by decide)
theorem r_rem8 {a : Int32} (h : vp_in a 32) : vp_in (k_rem a 8) 8 := by
  obtain ⟨j, hj, rfl⟩ := r_nat h (by decide)
  show vp_in (nI j - nI j / nI 8 * nI 8) 8
  rw [pk_rem (by omega) (by decide) (by decide)]
  exact vp_in_nI (by omega) (by decide)
theorem r_mod2 {g : Nat} (h : g < 6) : vp_in (k_rem (nI g) 2) 2 := by
  show vp_in (nI g - nI g / nI 2 * nI 2) 2
  rw [pk_rem (by omega) (by decide) (by decide)]
  exact vp_in_nI (by omega) (by decide)
theorem r_n {x : Int32} {g : Nat} (h : x = nI g) (hg : g < 6) : vp_in x 6 := by rw [h]; exact vp_in_nI hg (by decide)
theorem r_e32 (x : Int32) : ∃ q : Int, x.toInt = 32 * q + (x.toInt % 32) ∧ 0 ≤ x.toInt % 32 ∧ x.toInt % 32 < 32 := ⟨x.toInt / 32, by omega, by omega, by omega⟩
theorem r_rem32 (x : Int32) : (k_rem x 32).toInt = x.toInt.tmod 32 := by
  have h1 : x.toInt.tmod 32 = x.toInt - 32 * (x.toInt.tdiv 32) := by rw [Int.tmod_def]
  have hb := x.toInt_lt
  have hb2 := x.le_toInt
  have hq : -32 < x.toInt.tmod 32 ∧ x.toInt.tmod 32 < 32 ∧ (0 ≤ x.toInt → 0 ≤ x.toInt.tmod 32) ∧ (x.toInt ≤ 0 → x.toInt.tmod 32 ≤ 0) := by
    rcases Int.le_total 0 x.toInt with h | h
    · rw [Int.tmod_eq_emod_of_nonneg h]
      refine ⟨by omega, by omega, by omega, fun q => ?_⟩
      have : x.toInt = 0 := by omega
      rw [this]
      decide
    · have h2 : x.toInt.tmod 32 = -((-x.toInt) % 32) := by
        rw [← Int.tmod_eq_emod_of_nonneg (by omega : (0 : Int) ≤ -x.toInt), Int.neg_tmod, Int.neg_neg]
      omega
  have hd : (x / 32).toInt = (x.toInt.tdiv 32) := by
    rw [Int32.toInt_div]
    have : (32 : Int32).toInt = 32 := by decide
    rw [this]
    apply Int.bmod_eq_of_le <;> omega
  have hm : (x / 32 * 32).toInt = x.toInt.tdiv 32 * 32 := by
    rw [Int32.toInt_mul, hd]
    have : (32 : Int32).toInt = 32 := by decide
    rw [this]
    apply Int.bmod_eq_of_le <;> omega
  show (x - x / 32 * 32).toInt = _
  rw [Int32.toInt_sub, hm, h1]
  rw [Int.bmod_eq_of_le] <;> omega
theorem r_sgn (x : Int32) : (0 ≤ x ^^^ 32) ↔ 0 ≤ x := by
  rw [Int32.le_iff_toBitVec_sle, Int32.le_iff_toBitVec_sle]
  have e : (x ^^^ 32).toBitVec.msb = x.toBitVec.msb := by
    show (x.toBitVec ^^^ (32 : Int32).toBitVec).msb = _
    rw [BitVec.msb_xor]
    have : ((32 : Int32).toBitVec).msb = false := by decide
    rw [this, Bool.xor_false]
  have s : ∀ b : BitVec 32, ((0 : Int32).toBitVec.sle b) = !b.msb := by
    intro b
    have : (0 : Int32).toBitVec = 0#32 := by decide
    rw [this, BitVec.zero_sle_eq_not_msb]
  rw [s, s, e]
/-- floorMod by 32, as a number -/
theorem r_fmv (t : Int32) : ∃ j : Nat, j < 32 ∧ g_fm t 32 = nI j ∧ (j : Int) = t.toInt % 32 := by
  have hr := r_rem32 t
  have hb := t.toInt_lt
  have hb2 := t.le_toInt
  have key : (g_fm t 32).toInt = t.toInt % 32 := by
    unfold g_fm
    by_cases h : (0 : Int32) ≤ t ^^^ 32
    · rw [if_pos h, hr]
      rw [r_sgn, Int32.le_iff_toInt_le] at h
      have h0 : (0 : Int) ≤ t.toInt := by simpa using h
      rw [Int.tmod_eq_emod_of_nonneg h0]
    · rw [if_neg h]
      rw [r_sgn, Int32.le_iff_toInt_le] at h
      have h0 : t.toInt < 0 := by
        have : ¬ (0 : Int) ≤ t.toInt := by simpa using h
        omega
      have h2 : t.toInt.tmod 32 = -((-t.toInt) % 32) := by
        rw [← Int.tmod_eq_emod_of_nonneg (by omega : (0 : Int) ≤ -t.toInt), Int.neg_tmod, Int.neg_neg]
      by_cases hz : k_rem t 32 = 0
      · rw [if_pos hz, hr]
        have : (k_rem t 32).toInt = 0 := by rw [hz]; decide
        omega
      · rw [if_neg hz, Int32.toInt_add, hr]
        have hz' : t.toInt.tmod 32 ≠ 0 := fun q => hz (Int32.toInt_inj.mp (by rw [hr, q]; decide))
        have : (32 : Int32).toInt = 32 := by decide
        rw [this]
        rw [Int.bmod_eq_of_le] <;> omega
  refine ⟨(t.toInt % 32).toNat, by omega, ?_, by omega⟩
  apply Int32.toInt_inj.mp
  rw [key, nI_toInt (by omega)]
  omega
theorem r_fm (t : Int32) : vp_in (g_fm t 32) 32 := by
  obtain ⟨j, hj, e, -⟩ := r_fmv t
  rw [e]
  exact vp_in_nI hj (by decide)
