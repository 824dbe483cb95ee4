/-! ===== the ranges are kept (2) ===== -/
theorem iv_ldT {K : kM} {g : Nat} {a ad : Int32} (I : g_Inv K) : g_Inv (g_ldT K g a ad) := by
  unfold g_ldT
  split
  · exact I.up trivial
  · exact I
theorem iv_stT {K : kM} {g : Nat} {a ad : Int32} (I : g_Inv K) : g_Inv (g_stT K g a ad) := by
  unfold g_stT
  split
  · exact iv_store I
  · exact I
theorem iv_mapK {K : kM} {g : Nat} {n : Int32} (I : g_Inv K) : g_Inv (g_mapK K g n) := by
  unfold g_mapK
  split
  · split
    · exact I
    · exact iv_frT I 12 0
  · exact I
theorem r_mapF {K : kM} {g : Nat} {n : Int32} : g_mapF K g n = -1 ∨ vp_in (g_mapF K g n) 12 := by
  unfold g_mapF
  split
  · split
    · exact Or.inl rfl
    · exact r_frX 12 0 rfl
  · exact Or.inl rfl
theorem iv_mapT {K : kM} {g : Nat} {a n : Int32} (I : g_Inv K) : g_Inv (g_mapT K g a n) := by
  unfold g_mapT
  split
  · split
    · exact k_Inv.up (iv_mapK I) trivial
    · exact k_Inv.up (k_Inv.up (k_Inv.up (iv_mapK I) r_mapF) trivial) trivial
  · exact I
theorem iv_unT {K : kM} {g : Nat} {a n : Int32} (I : g_Inv K) : g_Inv (g_unT K g a n) := by
  unfold g_unT
  split
  · exact k_Inv.up (iv_drop I) trivial
  · exact I
theorem iv_sp1 {K : kM} {g : Nat} {m q n : Int32} {i : Nat} (I : g_Inv K) (hi : i < 6) : g_Inv (g_sp1 K g m q n i) := by
  unfold g_sp1
  refine k_Inv.up (iv_ready (k_Inv.up (k_Inv.up (iv_begin I) trivial) trivial) hi) trivial
theorem iv_spLT {K : kM} {g : Nat} {m q n : Int32} (I : g_Inv K) : ∀ c i, c + i = 6 → g_Inv (g_spLT K g m q n c i)
  | 0, _, _ => I
  | c + 1, i, h => by
    unfold g_spLT
    split
    · exact iv_sp1 I (by omega)
    · exact iv_spLT I c (i + 1) (by omega)
theorem iv_spT {K : kM} {g : Nat} {m q n : Int32} (I : g_Inv K) : g_Inv (g_spT K g m q n) := by
  unfold g_spT
  split
  · exact I
  · split
    · exact iv_spLT I 6 0 rfl
    · exact I
theorem iv_rp1 {K : kM} {g : Nat} {a b : Int32} {i : Nat} (I : g_Inv K) : g_Inv (g_rp1 K g a b i) := by
  unfold g_rp1
  refine k_Inv.up (k_Inv.up (k_Inv.up (k_Inv.up (k_Inv.up I trivial) trivial) trivial) trivial) trivial
theorem iv_rpT {K : kM} {g : Nat} {a b : Int32} (I : g_Inv K) : ∀ c i, g_Inv (g_rpT K g a b c i)
  | 0, _ => I.up trivial
  | c + 1, i => by
    unfold g_rpT
    split
    · split
      · exact iv_rp1 I
      · exact iv_rpT I c (i + 1)
    · exact iv_rpT I c (i + 1)
theorem iv_wake {K : kM} {w v : Int32} (I : g_Inv K) (hw : vp_in w 6) : g_Inv (g_wake K w v) := iv_ready (k_Inv.up I trivial) (k_lt hw)
theorem iv_sendT {K : kM} {g : Nat} {a n : Int32} (I : g_Inv K) (hg : g < 6) (ha : vp_in a 4) : g_Inv (g_sendT K g a n) := by
  unfold g_sendT
  split
  · split
    · split
      · exact iv_put (iv_rowT I)
      · exact iv_wake (iv_rowT I) (r_rowX1 I ‹_›)
    · exact iv_block I hg ha
  · exact I
theorem iv_rcv1 {K : kM} {g k : Nat} {a : Int32} (I : g_Inv K) : g_Inv (g_rcv1 K g a k) := k_Inv.up (iv_chT I) trivial
theorem iv_recvT {K : kM} {g : Nat} {a n : Int32} (I : g_Inv K) (hg : g < 6) (ha : vp_in a 4) : g_Inv (g_recvT K g a n) := by
  unfold g_recvT
  split
  · split
    · exact iv_block I hg ha
    · split
      · exact iv_rowT (iv_rcv1 I)
      · exact iv_ready (iv_put (iv_rowT (iv_rcv1 I))) (k_lt (r_rowX1 (iv_rcv1 I) ‹_›))
  · exact I
theorem iv_lockT {K : kM} {g : Nat} {a n : Int32} (I : g_Inv K) (hg : g < 6) (ha : vp_in a 4) : g_Inv (g_lockT K g a n) := by
  unfold g_lockT
  split
  · split
    · exact k_Inv.up I (Or.inr (r_num I hg))
    · exact iv_block I hg ha
  · exact I
theorem iv_unlT {K : kM} {g : Nat} {n : Int32} (I : g_Inv K) : g_Inv (g_unlT K g n) := by
  unfold g_unlT
  split
  · split
    · exact iv_pass I
    · exact I
  · exact I
theorem iv_trap {K : kM} {g : Nat} {kd pl : Int32} (I : g_Inv K) : g_Inv (g_trap K g kd pl) := by
  have I2 : g_Inv (k_up (k_up K 0 0 8 (K 0 0 8 + 1)) 7 g 11 (k_up K 0 0 8 (K 0 0 8 + 1) 7 g 11 + 1)) := k_Inv.up (k_Inv.up I trivial) trivial
  unfold g_trap
  dsimp only
  split
  · exact iv_end (iv_goTo I2)
  · exact k_Inv.up (iv_goTo (k_Inv.up I2 trivial)) trivial
theorem iv_calT {K : kM} {g : Nat} {op a b n : Int32} (I : g_Inv K) : g_Inv (g_calT K g op a b n) := by
  unfold g_calT
  split
  · exact k_Inv.up I trivial
  · split
    · exact k_Inv.up I trivial
    · split
      · exact k_Inv.up I trivial
      · split
        · exact k_Inv.up I trivial
        · split
          · exact k_Inv.up I trivial
          · split
            · split
              · exact I
              · exact k_Inv.up I trivial
            · split
              · split
                · exact I
                · exact iv_goTo I
              · split
                · split
                  · exact iv_goTo I
                  · exact I
                · split
                  · exact k_Inv.up I trivial
                  · exact I
theorem iv_perT {K : kM} {g : Nat} {op pl : Int32} (I : g_Inv K) (hg : g < 6) (hp : vp_in pl 32) : g_Inv (g_perT K g op pl) := by
  have ha := r_p1 I hp
  unfold g_perT
  dsimp only
  by_cases h : op = 0
  · rw [if_pos h]
    exact iv_end I
  rw [if_neg h]
  clear h
  by_cases h : op = 7
  · rw [if_pos h]
    exact iv_ldT I
  rw [if_neg h]
  clear h
  by_cases h : op = 8
  · rw [if_pos h]
    exact iv_stT I
  rw [if_neg h]
  clear h
  by_cases h : op = 13
  · rw [if_pos h]
    exact iv_mapT I
  rw [if_neg h]
  clear h
  by_cases h : op = 14
  · rw [if_pos h]
    exact iv_unT I
  rw [if_neg h]
  clear h
  by_cases h : op = 15
  · rw [if_pos h]
    exact k_Inv.up (iv_spT I) trivial
  rw [if_neg h]
  clear h
  by_cases h : op = 16
  · rw [if_pos h]
    exact iv_sendT I hg ha
  rw [if_neg h]
  clear h
  by_cases h : op = 17
  · rw [if_pos h]
    exact iv_recvT I hg ha
  rw [if_neg h]
  clear h
  by_cases h : op = 18
  · rw [if_pos h]
    exact iv_lockT I hg ha
  rw [if_neg h]
  clear h
  by_cases h : op = 19
  · rw [if_pos h]
    exact iv_unlT I
  rw [if_neg h]
  clear h
  by_cases h : op = 20
  · rw [if_pos h]
    exact iv_end I
  rw [if_neg h]
  clear h
  by_cases h : op = 21
  · rw [if_pos h]
    exact iv_rpT I 6 0
  rw [if_neg h]
  clear h
  exact iv_calT I
theorem iv_turnA {K : kM} {p g : Nat} (I : g_Inv K) (hg : g < 6) : g_Inv (g_turnA K p g) := by
  have I3 : g_Inv (k_up (k_up (g_goTo K g (K 7 g 4 + 1)) 11 p 2 (g_goTo K g (K 7 g 4 + 1) 11 p 2 - 1)) 0 0 7 (k_up (g_goTo K g (K 7 g 4 + 1)) 11 p 2 (g_goTo K g (K 7 g 4 + 1) 11 p 2 - 1) 0 0 7 + 1)) := k_Inv.up (k_Inv.up (iv_goTo I) trivial) trivial
  unfold g_turnA
  dsimp only
  generalize (k_up (k_up (g_goTo K g (K 7 g 4 + 1)) 11 p 2 (g_goTo K g (K 7 g 4 + 1) 11 p 2 - 1)) 0 0 7 (k_up (g_goTo K g (K 7 g 4 + 1)) 11 p 2 (g_goTo K g (K 7 g 4 + 1) 11 p 2 - 1) 0 0 7 + 1)) = K3 at I3 ⊢
  have I5 : g_Inv (if g_perX K3 g (g_part K (K 7 g 4) 0) (K 7 g 4) = 0 then g_perT K3 g (g_part K (K 7 g 4) 0) (K 7 g 4) else g_trap (g_perT K3 g (g_part K (K 7 g 4) 0) (K 7 g 4)) g (g_perX K3 g (g_part K (K 7 g 4) 0) (K 7 g 4)) (K 7 g 4)) := by
    split
    · exact iv_perT I3 hg (I 7 g 4)
    · exact iv_trap (iv_perT I3 hg (I 7 g 4))
  generalize (if g_perX K3 g (g_part K (K 7 g 4) 0) (K 7 g 4) = 0 then g_perT K3 g (g_part K (K 7 g 4) 0) (K 7 g 4) else g_trap (g_perT K3 g (g_part K (K 7 g 4) 0) (K 7 g 4)) g (g_perX K3 g (g_part K (K 7 g 4) 0) (K 7 g 4)) (K 7 g 4)) = K5 at I5 ⊢
  split
  · split
    · exact iv_ready (k_Inv.up I5 (Or.inl rfl)) hg
    · split
      · exact iv_ready (k_Inv.up I5 (Or.inl rfl)) hg
      · exact I5
  · exact k_Inv.up I5 (Or.inl rfl)
theorem iv_turn {K : kM} {p : Nat} (I : g_Inv K) : g_Inv (g_turn K p) := by
  unfold g_turn
  split
  · split
    · exact k_Inv.up (iv_next I) trivial
    · exact iv_turnA (iv_next I) (k_lt (r_rowX1 I ‹_›))
  · exact iv_turnA I (k_lt (Or.resolve_left (I 11 p 1) ‹_›))
theorem iv_tick {K : kM} (I : g_Inv K) : g_Inv (g_tick K) := iv_turn (iv_turn (k_Inv.up I trivial))
theorem r_adr {K : kM} {g : Nat} {a : Int32} (h : g_addr K g a = 0) : vp_in a 32 ∧ ¬ K 9 g (a / 8).toNatClampNeg = -1 := by
  unfold g_addr at h
  split at h
  · split at h
    · exact absurd h (by decide)
    · exact ⟨r_out32 ‹_›, ‹_›⟩
  · exact absurd h (by decide)
theorem r_adr2 {K : kM} {g : Nat} {a : Int32} (I : g_Inv K) (h : g_addr K g a = 0) : vp_in (K 9 g (a / 8).toNatClampNeg) 12 := Or.resolve_left (I 9 g (a / 8).toNatClampNeg) (r_adr h).2
