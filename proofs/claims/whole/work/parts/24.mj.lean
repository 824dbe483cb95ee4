/-! ===== the reference's instructions keep the ranges ===== -/
theorem m_31 (t : Int32) : vp_in (t &&& 31) 32 := by
  rw [vp_in_iff]
  have h1 : (t &&& 31).toInt = (t.toBitVec &&& 31#32).toInt := rfl
  have h2 : (t.toBitVec &&& 31#32).toNat < 32 := by
    rw [BitVec.toNat_and]
    exact Nat.lt_of_le_of_lt Nat.and_le_right (by decide)
  rw [h1, BitVec.toInt_eq_toNat_of_lt (by omega)]
  omega
theorem m_h0 {x : Int32} (h : x = -1 ∨ vp_in x 6) (q : 0 ≤ x) : vp_in x 6 := m_neg h (Int32.not_lt.mpr q)
theorem iv_msnd0 {K : kM} {g k : Nat} {v : Int32} (I : m_Inv K) (ht : m_tot K ≤ 5) (hg : g < 6) (hk : k < 4) : m_Inv (m_snd0 K g k v) ∧ m_tot (m_snd0 K g k v) ≤ m_tot K + 1 := by
  unfold m_snd0
  have e : m_tot (k_up K 14 0 g v) = m_tot K := mt_ne (by decide)
  have I1 : m_Inv (k_up K 14 0 g v) := k_Inv.up I trivial
  split
  · exact ⟨iv_mblk I1 (by omega) (by omega) hg, by rw [mt_blk I1 (by omega) (by omega), e]; omega⟩
  · rename_i h
    refine ⟨k_Inv.up (k_Inv.up I trivial) (r_szp2 (r_h2 (I 22 0 k) h)), ?_⟩
    rw [mt_ne (by decide), mt_ne (by decide)]
    omega
theorem j_snd {K : kM} {g k : Nat} {v : Int32} (I : m_Inv K) (ht : m_tot K ≤ 5) (hg : g < 6) (hk : k < 4) : m_Inv (m_snd K g k v) ∧ m_tot (m_snd K g k v) ≤ m_tot K + 1 := by
  unfold m_snd
  split
  · split
    · exact iv_msnd0 I ht hg hk
    · rename_i h
      have t1 := mt_tk I h (show 6 + k < 14 by omega)
      have I1 : m_Inv (k_up (m_tkT K (6 + k)) 15 0 ((m_tkX K (6 + k)).toNatClampNeg * 4 + (m_tkT K (6 + k) 14 0 (m_tkX K (6 + k)).toNatClampNeg).toNatClampNeg) v) := k_Inv.up (iv_mtk I h) trivial
      have e1 : m_tot (k_up (m_tkT K (6 + k)) 15 0 ((m_tkX K (6 + k)).toNatClampNeg * 4 + (m_tkT K (6 + k) 14 0 (m_tkX K (6 + k)).toNatClampNeg).toNatClampNeg) v) = m_tot (m_tkT K (6 + k)) := mt_ne (by decide)
      exact ⟨iv_mwake I1 (by omega) (k_lt (r_tkX _ I)), by unfold m_snd1; rw [mt_wake I1 (by omega)]; omega⟩
  · exact iv_msnd0 I ht hg hk
theorem iv_mrc1 {K : kM} {g k a : Nat} (I : m_Inv K) (h : ¬ K 22 0 k = 0) : m_Inv (m_rc1 K g k a) := by
  unfold m_rc1
  exact k_Inv.up (k_Inv.up (k_Inv.up I trivial) trivial) (r_hm (I 22 0 k) h)
theorem j_rcv {K : kM} {g k a : Nat} (I : m_Inv K) (ht : m_tot K ≤ 5) (hg : g < 6) (hk : k < 4) : m_Inv (m_rcv K g k a) ∧ m_tot (m_rcv K g k a) ≤ m_tot K + 1 := by
  have e0 := mt_rc1 (K := K) (g := g) (k := k) (a := a)
  unfold m_rcv
  split
  · have e : m_tot (k_up K 14 0 g (nI a)) = m_tot K := mt_ne (by decide)
    have I1 : m_Inv (k_up K 14 0 g (nI a)) := k_Inv.up I trivial
    exact ⟨iv_mblk I1 (by omega) (by omega) hg, by rw [mt_blk I1 (by omega) (by omega), e]; omega⟩
  · rename_i h0
    have I0 := iv_mrc1 (g := g) (a := a) I h0
    split
    · split
      · exact ⟨I0, by omega⟩
      · rename_i h
        have t1 := mt_tk I0 h (show 2 + k < 14 by omega)
        have I1 : m_Inv (k_up (k_up (m_tkT (m_rc1 K g k a) (2 + k)) 21 0 (k * 2 + 1) (m_tkT (m_rc1 K g k a) (2 + k) 14 0 (m_tkX (m_rc1 K g k a) (2 + k)).toNatClampNeg)) 22 0 k 2) := k_Inv.up (k_Inv.up (iv_mtk I0 h) trivial) ⟨by decide, by decide⟩
        have e1 : m_tot (k_up (k_up (m_tkT (m_rc1 K g k a) (2 + k)) 21 0 (k * 2 + 1) (m_tkT (m_rc1 K g k a) (2 + k) 14 0 (m_tkX (m_rc1 K g k a) (2 + k)).toNatClampNeg)) 22 0 k 2) = m_tot (m_tkT (m_rc1 K g k a) (2 + k)) := by rw [mt_ne (by decide), mt_ne (by decide)]
        exact ⟨iv_mwake I1 (by omega) (k_lt (r_tkX _ I0)), by unfold m_rc2; rw [mt_wake I1 (by omega)]; omega⟩
    · exact ⟨I0, by omega⟩
theorem j_clr {K : kM} {f : Nat} (I : m_Inv K) : ∀ n, m_Inv (m_clr K f n) ∧ m_tot (m_clr K f n) = m_tot K
  | 0 => ⟨I, rfl⟩
  | n + 1 => by
    obtain ⟨a, b⟩ := j_clr (f := f) I n
    unfold m_clr
    exact ⟨k_Inv.up a trivial, by rw [mt_ne (by decide), b]⟩
theorem j_map {K : kM} {g p : Nat} (I : m_Inv K) : m_Inv (m_mapT K g p) ∧ m_tot (m_mapT K g p) = m_tot K := by
  have hf := m_mfle (K := K) 12 0
  unfold m_mapT m_mpT
  split
  · exact ⟨I, rfl⟩
  · split
    · exact ⟨I, rfl⟩
    · split
      · exact ⟨I, rfl⟩
      · rename_i h
        obtain ⟨a, b⟩ := j_clr (K := k_up K 18 0 (m_mf K 12 0) 1) (f := m_mf K 12 0) (k_Inv.up I trivial) 8
        unfold m_map1
        refine ⟨k_Inv.up (k_Inv.up a (Or.inr (vp_in_nI (m_fin (n := 12) (by decide) hf h) (by decide)))) trivial, ?_⟩
        rw [mt_ne (by decide), mt_ne (by decide), b, mt_ne (by decide)]
theorem j_sp {K : kM} {g : Nat} {a q v : Int32} (I : m_Inv K) (ht : m_tot K ≤ 5) (ha : vp_in a 32) : m_Inv (m_spT K g a q v) ∧ m_tot (m_spT K g a q v) ≤ m_tot K + 1 := by
  have hf := m_sfle (K := K) 6 0
  unfold m_spT m_sqT
  split
  · exact ⟨I, Nat.le_succ _⟩
  · split
    · exact ⟨I, Nat.le_succ _⟩
    · split
      · exact ⟨I, Nat.le_succ _⟩
      · rename_i h
        have e : m_tot (k_up K 10 0 g (K 10 0 g + q)) = m_tot K := mt_ne (by decide)
        have I1 : m_Inv (k_up K 10 0 g (K 10 0 g + q)) := k_Inv.up I trivial
        unfold m_sp1
        refine ⟨k_Inv.up (k_Inv.up (iv_mbegin I1 (by omega) (m_fin (n := 6) (by decide) hf h) ha) trivial) trivial, ?_⟩
        rw [mt_ne (by decide), mt_ne (by decide), mt_begin I1 (by omega) ha, e]
        omega
theorem j_rp {K : kM} {g : Nat} (I : m_Inv K) : ∀ n c, m_Inv (m_rpT K g n c) ∧ m_tot (m_rpT K g n c) = m_tot K
  | 0, _ => ⟨I, rfl⟩
  | n + 1, c => by
    unfold m_rpT
    split
    · split
      · unfold m_rp1
        refine ⟨k_Inv.up (k_Inv.up (k_Inv.up I trivial) trivial) trivial, ?_⟩
        rw [mt_ne (by decide), mt_ne (by decide), mt_ne (by decide)]
      · exact j_rp I n (c + 1)
    · exact j_rp I n (c + 1)
theorem m_rpv {K : kM} {g : Nat} : ∀ n c, n + c = 6 → ¬ m_rpX K g n c < 0 → vp_in (m_rpX K g n c) 6
  | 0, c, _, h => absurd (show (-1 : Int32) < 0 by decide) h
  | n + 1, c, hc, h => by
    unfold m_rpX at h ⊢
    split at h
    · rename_i h1
      rw [if_pos h1]
      split at h
      · rename_i h2
        rw [if_pos h2]
        exact vp_in_nI (by omega) (by decide)
      · rename_i h2
        rw [if_neg h2]
        exact m_rpv n (c + 1) (by omega) h
    · rename_i h1
      rw [if_neg h1]
      exact m_rpv n (c + 1) (by omega) h
theorem m_whv {K : kM} {g : Nat} {ad : Int32} (I : m_Inv K) (h : 0 ≤ m_wh K g ad) : vp_in (m_wh K g ad) 96 := by
  unfold m_wh at h ⊢
  split at h
  · rename_i h1
    rw [if_pos h1]
    split at h
    · rename_i h2
      rw [if_pos h2]
      exact r_mem (m_neg12 (I 16 0 _) h2) (r_rem8 (r_no (n := 31) (by decide) h1))
    · exact absurd h (by decide)
  · exact absurd h (by decide)
theorem j_sh {K : kM} {g a n : Nat} {o : Int32} (I : m_Inv K) (ht : m_tot K ≤ 5) (hg : g < 6) (hn : n < 4) : m_Inv (m_shT K g o a n) ∧ m_tot (m_shT K g o a n) ≤ m_tot K + 1 := by
  unfold m_shT
  split
  · exact j_snd I ht hg hn
  · split
    · exact j_rcv I ht hg hn
    · split
      · split
        · exact ⟨iv_munl I (by omega) hn, Nat.le_succ_of_le (mt_unl I (by omega) hn)⟩
        · exact ⟨I, Nat.le_succ _⟩
      · split
        · exact ⟨iv_mblk I ht (by omega) hg, by rw [mt_blk I ht (by omega)]; omega⟩
        · exact ⟨k_Inv.up I (Or.inr (vp_in_nI hg (by decide))), by rw [mt_ne (by decide)]; omega⟩
theorem j_pf {K : kM} {g a b : Nat} {o n : Int32} (I : m_Inv K) (ht : m_tot K ≤ 5) (hg : g < 6) (ho : vp_in o 22) : m_Inv (m_pfT K g o a b n) ∧ m_tot (m_pfT K g o a b n) ≤ m_tot K + 1 := by
  have c0 : ∀ x : Int32, ∀ f i j : Nat, f = 15 ∨ f = 17 → m_Inv (k_up K f i j x) ∧ m_tot (k_up K f i j x) ≤ m_tot K + 1 := by
    intro x f i j hf
    rcases hf with rfl | rfl
    · exact ⟨k_Inv.up I trivial, by rw [mt_ne (by decide)]; omega⟩
    · exact ⟨k_Inv.up I trivial, by rw [mt_ne (by decide)]; omega⟩
  have cK : m_Inv K ∧ m_tot K ≤ m_tot K + 1 := ⟨I, Nat.le_succ _⟩
  rcases r_c22 ho with rfl | rfl | rfl | rfl | rfl | rfl | rfl | rfl | rfl | rfl | rfl | rfl | rfl | rfl | rfl | rfl | rfl | rfl | rfl | rfl | rfl | rfl
  · rw [mpT_0]; exact cK
  · rw [mpT_1]; exact c0 _ _ _ _ (Or.inl rfl)
  · rw [mpT_2]; exact c0 _ _ _ _ (Or.inl rfl)
  · rw [mpT_3]; exact c0 _ _ _ _ (Or.inl rfl)
  · rw [mpT_4]; exact c0 _ _ _ _ (Or.inl rfl)
  · rw [mpT_5]; exact c0 _ _ _ _ (Or.inl rfl)
  · rw [mpT_6]
    split
    · exact cK
    · exact c0 _ _ _ _ (Or.inl rfl)
  · rw [mpT_7]
    split
    · exact c0 _ _ _ _ (Or.inl rfl)
    · exact cK
  · rw [mpT_8]
    split
    · exact c0 _ _ _ _ (Or.inr rfl)
    · exact cK
  · rw [mpT_9]; exact cK
  · rw [mpT_10]; exact cK
  · rw [mpT_11]
    refine ⟨k_Inv.up I ?_, by rw [mt_ne (by decide)]; omega⟩
    split
    · exact Or.inr (m_31 n)
    · exact Or.inl rfl
  · rw [mpT_12]; exact cK
  · rw [mpT_13]
    split
    · obtain ⟨x, y⟩ := j_map (g := g) (p := n.toNatClampNeg) I
      exact ⟨k_Inv.up x trivial, by rw [mt_ne (by decide), y]; omega⟩
    · exact cK
  · rw [mpT_14]
    split
    · exact ⟨k_Inv.up (iv_munmap I) trivial, by rw [mt_ne (by decide), mt_unmap]; omega⟩
    · exact cK
  · rw [mpT_15]
    obtain ⟨x, y⟩ := j_sp (g := g) (a := n &&& 31) (q := K 15 0 (g * 4 + b)) (v := K 15 0 (g * 4 + a)) I ht (m_31 n)
    exact ⟨k_Inv.up x trivial, by rw [mt_ne (by decide)]; exact y⟩
  · rw [mpT_16]
    split
    · rename_i h
      exact j_sh I ht hg (k_lt (r_no (n := 3) (by decide) h))
    · exact cK
  · rw [mpT_17]
    split
    · rename_i h
      exact j_sh I ht hg (k_lt (r_no (n := 3) (by decide) h))
    · exact cK
  · rw [mpT_18]
    split
    · rename_i h
      exact j_sh I ht hg (k_lt (r_no (n := 3) (by decide) h))
    · exact cK
  · rw [mpT_19]
    split
    · rename_i h
      exact j_sh I ht hg (k_lt (r_no (n := 3) (by decide) h))
    · exact cK
  · rw [mpT_20]; exact cK
  · rw [mpT_21]
    obtain ⟨x, y⟩ := j_rp (g := g) I 6 0
    have z : m_tot (k_up (m_rpT K g 6 0) 15 0 (g * 4 + a) (m_rpX K g 6 0)) = m_tot K := by rw [mt_ne (by decide), y]
    have w : m_Inv (k_up (m_rpT K g 6 0) 15 0 (g * 4 + a) (m_rpX K g 6 0)) := k_Inv.up x trivial
    unfold m_rpE
    split
    · exact ⟨w, by omega⟩
    · exact ⟨k_Inv.up w trivial, by rw [mt_ne (by decide)]; omega⟩
theorem iv_mst1 {K : kM} {p : Nat} (I : m_Inv K) : m_Inv (m_st1 K p) := k_Inv.up (k_Inv.up I trivial) trivial
theorem mt_st1 {K : kM} {p : Nat} : m_tot (m_st1 K p) = m_tot K := by
  unfold m_st1
  rw [mt_ne (by decide), mt_ne (by decide)]
theorem iv_mst2 {K : kM} {g a b i : Nat} {o n j : Int32} (I : m_Inv K) (ht : m_tot K ≤ 5) (hg : g < 6) (ho : vp_in o 22) : m_Inv (m_st2 K g o a b n i j) := by
  obtain ⟨x, y⟩ := j_pf (a := a) (b := b) (n := n) I ht hg ho
  unfold m_st2
  split
  · refine k_Inv.up x ?_
    split
    · exact m_31 _
    · exact m_31 _
  · exact (j_trap x (by omega)).1
theorem iv_mstM {K : kM} {g i : Nat} {o : Int32} (I : m_Inv K) (ht : m_tot K ≤ 5) (hg : g < 6) (ho : vp_in o 22) : m_Inv (m_stM K g i o) := by
  have I1 : m_Inv (m_stD K g i) := k_Inv.up I (m_31 _)
  have e1 : m_tot (m_stD K g i) = m_tot K := mt_ne (by decide)
  unfold m_stM
  split
  · exact (j_die I1 (by omega)).1
  · split
    · exact (j_die I1 (by omega)).1
    · exact iv_mst2 I ht hg ho
theorem iv_mst4 {K : kM} {p g : Nat} (I : m_Inv K) (hg : g < 6) (hw : K 5 0 g = 1 → m_tot K ≤ 5) : m_Inv (m_st4 K p g) := by
  have I1 : m_Inv (k_up K 24 0 p (-1)) := k_Inv.up I (Or.inl rfl)
  unfold m_st4
  split
  · rename_i h
    exact iv_mwake I1 (by rw [mt_ne (by decide)]; exact hw h) hg
  · exact I1
theorem iv_mst3 {K : kM} {p g : Nat} {o : Int32} (I : m_Inv K) (hg : g < 6) (hw : K 5 0 g = 1 → m_tot K ≤ 5) : m_Inv (m_st3 K p g o) := by
  unfold m_st3
  split
  · split
    · exact iv_mst4 I hg hw
    · split
      · exact iv_mst4 I hg hw
      · exact I
  · exact iv_mst4 I hg hw
theorem iv_mmid {K : kM} {p : Nat} (I : m_Inv K) (hx : vp_in (K 24 0 p) 6) (ht : m_tot K ≤ 5) : m_Inv (m_mid K p) :=
  iv_mstM (iv_mst1 I) (by rw [mt_st1]; exact ht) (k_lt hx) (I 1 0 _)
theorem iv_mstep {K : kM} {p : Nat} (I : m_Inv K) (hx : vp_in (K 24 0 p) 6) (ho : m_ok K p) : m_Inv (m_step K p) :=
  iv_mst3 (iv_mmid I hx ho.1) (k_lt hx) ho.2.2
theorem iv_mch {K : kM} {p : Nat} (I : m_Inv K) (h : ¬ K 20 0 p ≤ 0) : m_Inv (m_ch K p) := by
  unfold m_ch
  exact k_Inv.up (k_Inv.up (k_Inv.up (k_Inv.up (iv_mtk I h) (Or.inr (r_tkX p I))) trivial) trivial) trivial
theorem iv_mtk' {K : kM} {p : Nat} (I : m_Inv K) : m_Inv (m_tk K p) := by
  unfold m_tk
  split
  · exact I
  · split
    · exact I
    · exact iv_mch I ‹_›
theorem iv_mturn {K : kM} {p : Nat} (I : m_Inv K) (ho : m_okU K p) : m_Inv (m_turn K p) := by
  have I1 := iv_mtk' (p := p) I
  unfold m_turn m_tu
  split
  · rename_i h
    exact iv_mstep I1 (m_h0 (I1 24 0 p) h) (ho h)
  · exact k_Inv.up I1 trivial
theorem iv_mtick {K : kM} (I : m_Inv K) (ho : m_okT K) : m_Inv (m_tick K) := iv_mturn (iv_mturn (k_Inv.up I trivial) ho.1) ho.2
