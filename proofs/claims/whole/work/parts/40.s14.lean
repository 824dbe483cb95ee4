/-! ===== THE TWO SIDE BY SIDE (14): what an instruction leaves alone ===== -/
def s_Z (f j : Nat) : Prop := f = 24 ∨ (f = 0 ∧ j = 32)
theorem s_zu {M : kM} {f i j a b c : Nat} {x : Int32} (z : s_Z a c) (h1 : f ≠ 24) (h2 : f ≠ 0 ∨ j ≠ 32) : k_up M f i j x a b c = M a b c := by
  unfold k_up
  rw [if_neg]
  rintro ⟨e1, e2, e3⟩
  rcases z with z | z
  · exact h1 (e1.symm.trans z)
  · rcases h2 with h | h
    · exact h (e1.symm.trans z.1)
    · exact h (e2.symm.trans z.2)
theorem s_zn {a c f : Nat} (z : s_Z a c) (h1 : f ≠ 24) (h2 : f ≠ 0) : a ≠ f := by
  rcases z with z | z
  · rw [z]; exact h1.symm
  · rw [z.1]; exact h2.symm
theorem s_zmap {M : kM} {g p a b c : Nat} (z : s_Z a c) : m_mapT M g p a b c = M a b c := by
  unfold m_mapT m_mpT
  split
  · rfl
  · split
    · rfl
    · split
      · rfl
      · unfold m_map1
        rw [s_zu z (by decide) (Or.inl (by decide)), s_zu z (by decide) (Or.inl (by decide)), s_clrf (s_zn z (by decide) (by decide)), s_zu z (by decide) (Or.inl (by decide))]
theorem s_zum {M : kM} {g p a b c : Nat} (z : s_Z a c) : m_unmap M g p a b c = M a b c := s_umf (s_zn z (by decide) (by decide)) (s_zn z (by decide) (by decide)) (s_zn z (by decide) (by decide))
theorem s_zwk {M : kM} {g a b c : Nat} (z : s_Z a c) : m_wake M g a b c = M a b c := s_wkf (s_zn z (by decide) (by decide)) (s_zn z (by decide) (by decide)) (s_zn z (by decide) (by decide))
theorem s_ztk {M : kM} {r a b c : Nat} (z : s_Z a c) : m_tkT M r a b c = M a b c := s_tkf (s_zn z (by decide) (by decide)) (s_zn z (by decide) (by decide))
theorem s_zad {M : kM} {r g a b c : Nat} (z : s_Z a c) : m_add M r g a b c = M a b c := s_mAf (s_zn z (by decide) (by decide)) (s_zn z (by decide) (by decide))
theorem s_zbl {M : kM} {r g a b c : Nat} (z : s_Z a c) : m_blk M g r a b c = M a b c := by
  unfold m_blk
  rw [s_zad z, s_zu z (by decide) (Or.inl (by decide))]
theorem s_zun {M : kM} {k a b c : Nat} (z : s_Z a c) : m_unl M k a b c = M a b c := s_unf (s_zn z (by decide) (by decide)) (s_zn z (by decide) (by decide)) (s_zn z (by decide) (by decide)) (s_zn z (by decide) (by decide))
theorem s_zsp {M : kM} {g a b c : Nat} {v w u : Int32} (z : s_Z a c) : m_spT M g v w u a b c = M a b c := by
  unfold m_spT m_sqT
  split
  · rfl
  · split
    · rfl
    · split
      · rfl
      · unfold m_sp1 m_begin
        rw [s_zu z (by decide) (Or.inr (by decide)), s_zu z (by decide) (Or.inl (by decide)), s_zwk z]
        unfold m_begL m_begL m_begL m_begL m_begL m_beg0
        simp only [s_zu z (show (15 : Nat) ≠ 24 by decide) (Or.inl (show (15 : Nat) ≠ 0 by decide)), s_zu z (show (16 : Nat) ≠ 24 by decide) (Or.inl (show (16 : Nat) ≠ 0 by decide)), s_zu z (show (6 : Nat) ≠ 24 by decide) (Or.inl (show (6 : Nat) ≠ 0 by decide)), s_zu z (show (7 : Nat) ≠ 24 by decide) (Or.inl (show (7 : Nat) ≠ 0 by decide)), s_zu z (show (8 : Nat) ≠ 24 by decide) (Or.inl (show (8 : Nat) ≠ 0 by decide)), s_zu z (show (9 : Nat) ≠ 24 by decide) (Or.inl (show (9 : Nat) ≠ 0 by decide)), s_zu z (show (10 : Nat) ≠ 24 by decide) (Or.inl (show (10 : Nat) ≠ 0 by decide)), s_zu z (show (11 : Nat) ≠ 24 by decide) (Or.inl (show (11 : Nat) ≠ 0 by decide)), s_zu z (show (12 : Nat) ≠ 24 by decide) (Or.inl (show (12 : Nat) ≠ 0 by decide)), s_zu z (show (13 : Nat) ≠ 24 by decide) (Or.inl (show (13 : Nat) ≠ 0 by decide))]
theorem s_zrp {M : kM} {g a b c : Nat} (z : s_Z a c) : ∀ n i, m_rpT M g n i a b c = M a b c
  | 0, _ => rfl
  | n + 1, i => by
    unfold m_rpT
    split
    · split
      · unfold m_rp1
        rw [s_zu z (by decide) (Or.inr (by decide)), s_zu z (by decide) (Or.inl (by decide)), s_zu z (by decide) (Or.inl (by decide))]
      · exact s_zrp z n (i + 1)
    · exact s_zrp z n (i + 1)
theorem s_zsn {M : kM} {g k a b c : Nat} {v : Int32} (z : s_Z a c) : m_snd M g k v a b c = M a b c := by
  have e0 : m_snd0 M g k v a b c = M a b c := by
    unfold m_snd0
    split
    · rw [s_zbl z, s_zu z (by decide) (Or.inl (by decide))]
    · rw [s_zu z (by decide) (Or.inl (by decide)), s_zu z (by decide) (Or.inl (by decide))]
  unfold m_snd
  split
  · split
    · exact e0
    · unfold m_snd1
      rw [s_zwk z, s_zu z (by decide) (Or.inl (by decide)), s_ztk z]
  · exact e0
theorem s_zrc {M : kM} {g k d a b c : Nat} (z : s_Z a c) : m_rcv M g k d a b c = M a b c := by
  have e0 : m_rc1 M g k d a b c = M a b c := by
    unfold m_rc1
    (try dsimp only)
    rw [s_zu z (by decide) (Or.inl (by decide)), s_zu z (by decide) (Or.inl (by decide)), s_zu z (by decide) (Or.inl (by decide))]
  unfold m_rcv
  split
  · rw [s_zbl z, s_zu z (by decide) (Or.inl (by decide))]
  · split
    · split
      · exact e0
      · unfold m_rc2
        rw [s_zwk z, s_zu z (by decide) (Or.inl (by decide)), s_zu z (by decide) (Or.inl (by decide)), s_ztk z, e0]
    · exact e0
theorem s_zdU {M : kM} {g a b c : Nat} (z : s_Z a c) : ∀ n, m_dU M g n a b c = M a b c
  | 0 => rfl
  | n + 1 => by
    unfold m_dU
    rw [s_zum z, s_zdU z n]
theorem s_zdL {M : kM} {g a b c : Nat} (z : s_Z a c) : ∀ n, m_dL M g n a b c = M a b c
  | 0 => rfl
  | n + 1 => by
    unfold m_dL m_dL1
    split
    · rw [s_zun z, s_zdL z n]
    · exact s_zdL z n
theorem s_zdie {M : kM} {g a b c : Nat} {w : Int32} (z : s_Z a c) : m_die M g w a b c = M a b c := by
  unfold m_die
  rw [s_zu z (by decide) (Or.inl (by decide)), s_dCf (s_zn z (by decide) (by decide)) (s_zn z (by decide) (by decide)), s_zdL z, s_zdU z, s_zu z (by decide) (Or.inl (by decide)), s_zu z (by decide) (Or.inl (by decide))]
theorem s_ztr {M : kM} {g a b c : Nat} {kd : Int32} (z : s_Z a c) : m_trap M g kd a b c = M a b c := by
  have e0 : m_tr2 M g a b c = M a b c := by
    unfold m_tr2
    rw [s_zu z (by decide) (Or.inr (by decide)), s_zu z (by decide) (Or.inl (by decide))]
  unfold m_trap
  split
  · rw [s_zu z (by decide) (Or.inl (by decide)), s_zu z (by decide) (Or.inl (by decide)), s_zu z (by decide) (Or.inl (by decide)), e0]
  · rw [s_zdie z, e0]
theorem s_zsh {M : kM} {g d n a b c : Nat} {o : Int32} (z : s_Z a c) : m_shT M g o d n a b c = M a b c := by
  unfold m_shT
  split
  · exact s_zsn z
  · split
    · exact s_zrc z
    · split
      · split
        · exact s_zun z
        · rfl
      · split
        · exact s_zbl z
        · exact s_zu z (by decide) (Or.inl (by decide))
theorem s_zpf {M : kM} {g d e a b c : Nat} {o n : Int32} (z : s_Z a c) (ho : vp_in o 22) : m_pfT M g o d e n a b c = M a b c := by
  have u15 : ∀ (X : kM) (j : Nat) (x : Int32), k_up X 15 0 j x a b c = X a b c := fun X j x => s_zu z (by decide) (Or.inl (by decide))
  rcases r_c22 ho with rfl | rfl | rfl | rfl | rfl | rfl | rfl | rfl | rfl | rfl | rfl | rfl | rfl | rfl | rfl | rfl | rfl | rfl | rfl | rfl | rfl | rfl
  · rfl
  · rw [mpT_1, u15]
  · rw [mpT_2, u15]
  · rw [mpT_3, u15]
  · rw [mpT_4, u15]
  · rw [mpT_5, u15]
  · rw [mpT_6]
    split
    · rfl
    · rw [u15]
  · rw [mpT_7]
    split
    · rw [u15]
    · rfl
  · rw [mpT_8]
    split
    · exact s_zu z (by decide) (Or.inl (by decide))
    · rfl
  · rfl
  · rfl
  · rw [mpT_11]
    exact s_zu z (by decide) (Or.inl (by decide))
  · rfl
  · rw [mpT_13]
    split
    · rw [u15, s_zmap z]
    · rfl
  · rw [mpT_14]
    split
    · rw [u15, s_zum z]
    · rfl
  · rw [mpT_15, u15, s_zsp z]
  · rw [mpT_16]
    split
    · exact s_zsh z
    · rfl
  · rw [mpT_17]
    split
    · exact s_zsh z
    · rfl
  · rw [mpT_18]
    split
    · exact s_zsh z
    · rfl
  · rw [mpT_19]
    split
    · exact s_zsh z
    · rfl
  · rfl
  · rw [mpT_21]
    unfold m_rpE
    split
    · rw [u15, s_zrp z]
    · rw [u15, u15, s_zrp z]
/-! the kernel: the place of the guest -/
theorem s_4re {K : kM} {g w : Nat} : g_ready K w 7 g 4 = K 7 g 4 := s_rdf (Or.inr (by decide)) (by decide) (by decide)
theorem s_4dr {K : kM} {g w : Nat} {q : Int32} : g_drop K w q 7 g 4 = K 7 g 4 := by
  unfold g_drop
  split
  · rfl
  · unfold g_give
    rw [ku_f (by decide), ku_f (by decide), ku_j (by decide), ku_f (by decide)]
theorem s_4fr {K : kM} {g : Nat} : ∀ n i, g_frT K n i 7 g 4 = K 7 g 4
  | 0, _ => rfl
  | n + 1, i => by
    unfold g_frT
    split
    · rw [s_clf (by decide), ku_f (by decide), ku_f (by decide)]
    · exact s_4fr n (i + 1)
theorem s_4map {K : kM} {g : Nat} {a n : Int32} : g_mapT K g a n 7 g 4 = K 7 g 4 := by
  have e : g_mapK K g n 7 g 4 = K 7 g 4 := by
    unfold g_mapK
    split
    · split
      · rfl
      · exact s_4fr 12 0
    · rfl
  unfold g_mapT
  split
  · split
    · rw [ku_f (by decide), e]
    · rw [ku_f (by decide), ku_j (by decide), ku_f (by decide), e]
  · rfl
theorem s_4sp {K : kM} {g : Nat} {m q n : Int32} (h : K 7 g 3 = 1) : ∀ c i, g_spLT K g m q n c i 7 g 4 = K 7 g 4
  | 0, _ => rfl
  | c + 1, i => by
    unfold g_spLT
    split
    · rename_i z
      have ig : g ≠ i := fun y => by
        rw [← y, h] at z
        exact absurd z (by decide)
      unfold g_sp1
      rw [ku_f (by decide), s_4re, ku_j (by decide), ku_f (by decide)]
      unfold g_begin g_goTo
      simp [k_up, g_fill, ig]
    · exact s_4sp h c (i + 1)
theorem s_4pu {K : kM} {g k : Nat} {v : Int32} : g_put K k v 7 g 4 = K 7 g 4 := by
  unfold g_put
  split
  · rw [ku_f (by decide), ku_f (by decide)]
  · rfl
theorem s_4bl {K : kM} {g w r : Nat} {a : Int32} : g_block K w a r 7 g 4 = K 7 g 4 := by
  unfold g_block
  rw [s_rAf (by decide) (by decide), ku_j (by decide), ku_j (by decide)]
theorem s_4sn {K : kM} {g : Nat} {a n : Int32} : g_sendT K g a n 7 g 4 = K 7 g 4 := by
  unfold g_sendT
  split
  · split
    · split
      · rw [s_4pu, s_rTf (by decide)]
      · unfold g_wake
        rw [s_4re, ku_f (by decide), s_rTf (by decide)]
    · exact s_4bl
  · rfl
theorem s_4rc {K : kM} {g : Nat} {a n : Int32} : g_recvT K g a n 7 g 4 = K 7 g 4 := by
  have e : ∀ k, g_rcv1 K g a k 7 g 4 = K 7 g 4 := fun k => by
    unfold g_rcv1 g_chT
    rw [ku_f (by decide)]
    split
    · rfl
    · rw [k_row_ne (fun z => absurd z.1 (by decide)), ku_f (by decide)]
  unfold g_recvT
  split
  · split
    · exact s_4bl
    · split
      · rw [s_rTf (by decide), e]
      · dsimp only
        rw [s_4re, s_4pu, s_rTf (by decide), e]
  · rfl
theorem s_4pa {K : kM} {g k : Nat} : g_pass K k 7 g 4 = K 7 g 4 := by
  unfold g_pass
  split
  · rw [ku_f (by decide), s_rTf (by decide)]
  · rw [s_4re, ku_f (by decide), s_rTf (by decide)]
theorem s_4rp {K : kM} {g : Nat} {a b : Int32} : ∀ c i, g_rpT K g a b c i 7 g 4 = K 7 g 4
  | 0, _ => by
    unfold g_rpT
    exact ku_f (by decide)
  | c + 1, i => by
    unfold g_rpT
    split
    · split
      · unfold g_rp1
        (try dsimp only)
        rw [ku_f (by decide), ku_f (by decide), ku_f (by decide), ku_j (by decide), ku_j (by decide)]
      · exact s_4rp c (i + 1)
    · exact s_4rp c (i + 1)
