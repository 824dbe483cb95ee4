/-! ===== the switches at a literal op ===== -/
theorem gpT_0 (K : kM) (g : Nat) (pl : Int32) : g_perT K g 0 pl = g_end K g 0 := by
  unfold g_perT
  dsimp only
  rw [if_pos rfl]
theorem gpX_0 (K : kM) (g : Nat) (pl : Int32) : g_perX K g 0 pl = 0 := by
  unfold g_perX
  dsimp only
  rw [if_pos rfl]
theorem gpT_1 (K : kM) (g : Nat) (pl : Int32) : g_perT K g 1 pl = g_calT K g 1 (g_part K pl 1) (g_part K pl 2) (g_part K pl 3) := by
  unfold g_perT
  dsimp only
  rw [if_neg (by decide), if_neg (by decide), if_neg (by decide), if_neg (by decide), if_neg (by decide), if_neg (by decide), if_neg (by decide), if_neg (by decide), if_neg (by decide), if_neg (by decide), if_neg (by decide), if_neg (by decide)]
theorem gpX_1 (K : kM) (g : Nat) (pl : Int32) : g_perX K g 1 pl = g_calX K g 1 (g_part K pl 2) := by
  unfold g_perX
  dsimp only
  rw [if_neg (by decide), if_neg (by decide), if_neg (by decide), if_neg (by decide), if_neg (by decide), if_neg (by decide), if_neg (by decide), if_neg (by decide), if_neg (by decide), if_neg (by decide), if_neg (by decide), if_neg (by decide)]
theorem gpT_2 (K : kM) (g : Nat) (pl : Int32) : g_perT K g 2 pl = g_calT K g 2 (g_part K pl 1) (g_part K pl 2) (g_part K pl 3) := by
  unfold g_perT
  dsimp only
  rw [if_neg (by decide), if_neg (by decide), if_neg (by decide), if_neg (by decide), if_neg (by decide), if_neg (by decide), if_neg (by decide), if_neg (by decide), if_neg (by decide), if_neg (by decide), if_neg (by decide), if_neg (by decide)]
theorem gpX_2 (K : kM) (g : Nat) (pl : Int32) : g_perX K g 2 pl = g_calX K g 2 (g_part K pl 2) := by
  unfold g_perX
  dsimp only
  rw [if_neg (by decide), if_neg (by decide), if_neg (by decide), if_neg (by decide), if_neg (by decide), if_neg (by decide), if_neg (by decide), if_neg (by decide), if_neg (by decide), if_neg (by decide), if_neg (by decide), if_neg (by decide)]
theorem gpT_3 (K : kM) (g : Nat) (pl : Int32) : g_perT K g 3 pl = g_calT K g 3 (g_part K pl 1) (g_part K pl 2) (g_part K pl 3) := by
  unfold g_perT
  dsimp only
  rw [if_neg (by decide), if_neg (by decide), if_neg (by decide), if_neg (by decide), if_neg (by decide), if_neg (by decide), if_neg (by decide), if_neg (by decide), if_neg (by decide), if_neg (by decide), if_neg (by decide), if_neg (by decide)]
theorem gpX_3 (K : kM) (g : Nat) (pl : Int32) : g_perX K g 3 pl = g_calX K g 3 (g_part K pl 2) := by
  unfold g_perX
  dsimp only
  rw [if_neg (by decide), if_neg (by decide), if_neg (by decide), if_neg (by decide), if_neg (by decide), if_neg (by decide), if_neg (by decide), if_neg (by decide), if_neg (by decide), if_neg (by decide), if_neg (by decide), if_neg (by decide)]
theorem gpT_4 (K : kM) (g : Nat) (pl : Int32) : g_perT K g 4 pl = g_calT K g 4 (g_part K pl 1) (g_part K pl 2) (g_part K pl 3) := by
  unfold g_perT
  dsimp only
  rw [if_neg (by decide), if_neg (by decide), if_neg (by decide), if_neg (by decide), if_neg (by decide), if_neg (by decide), if_neg (by decide), if_neg (by decide), if_neg (by decide), if_neg (by decide), if_neg (by decide), if_neg (by decide)]
theorem gpX_4 (K : kM) (g : Nat) (pl : Int32) : g_perX K g 4 pl = g_calX K g 4 (g_part K pl 2) := by
  unfold g_perX
  dsimp only
  rw [if_neg (by decide), if_neg (by decide), if_neg (by decide), if_neg (by decide), if_neg (by decide), if_neg (by decide), if_neg (by decide), if_neg (by decide), if_neg (by decide), if_neg (by decide), if_neg (by decide), if_neg (by decide)]
theorem gpT_5 (K : kM) (g : Nat) (pl : Int32) : g_perT K g 5 pl = g_calT K g 5 (g_part K pl 1) (g_part K pl 2) (g_part K pl 3) := by
  unfold g_perT
  dsimp only
  rw [if_neg (by decide), if_neg (by decide), if_neg (by decide), if_neg (by decide), if_neg (by decide), if_neg (by decide), if_neg (by decide), if_neg (by decide), if_neg (by decide), if_neg (by decide), if_neg (by decide), if_neg (by decide)]
theorem gpX_5 (K : kM) (g : Nat) (pl : Int32) : g_perX K g 5 pl = g_calX K g 5 (g_part K pl 2) := by
  unfold g_perX
  dsimp only
  rw [if_neg (by decide), if_neg (by decide), if_neg (by decide), if_neg (by decide), if_neg (by decide), if_neg (by decide), if_neg (by decide), if_neg (by decide), if_neg (by decide), if_neg (by decide), if_neg (by decide), if_neg (by decide)]
theorem gpT_6 (K : kM) (g : Nat) (pl : Int32) : g_perT K g 6 pl = g_calT K g 6 (g_part K pl 1) (g_part K pl 2) (g_part K pl 3) := by
  unfold g_perT
  dsimp only
  rw [if_neg (by decide), if_neg (by decide), if_neg (by decide), if_neg (by decide), if_neg (by decide), if_neg (by decide), if_neg (by decide), if_neg (by decide), if_neg (by decide), if_neg (by decide), if_neg (by decide), if_neg (by decide)]
theorem gpX_6 (K : kM) (g : Nat) (pl : Int32) : g_perX K g 6 pl = g_calX K g 6 (g_part K pl 2) := by
  unfold g_perX
  dsimp only
  rw [if_neg (by decide), if_neg (by decide), if_neg (by decide), if_neg (by decide), if_neg (by decide), if_neg (by decide), if_neg (by decide), if_neg (by decide), if_neg (by decide), if_neg (by decide), if_neg (by decide), if_neg (by decide)]
theorem gpT_7 (K : kM) (g : Nat) (pl : Int32) : g_perT K g 7 pl = g_ldT K g (g_part K pl 1) (K 8 g (g_part K pl 2).toNatClampNeg + g_part K pl 3) := by
  unfold g_perT
  dsimp only
  rw [if_neg (by decide), if_pos rfl]
theorem gpX_7 (K : kM) (g : Nat) (pl : Int32) : g_perX K g 7 pl = g_addr K g (K 8 g (g_part K pl 2).toNatClampNeg + g_part K pl 3) := by
  unfold g_perX
  dsimp only
  rw [if_neg (by decide), if_pos rfl]
theorem gpT_8 (K : kM) (g : Nat) (pl : Int32) : g_perT K g 8 pl = g_stT K g (g_part K pl 1) (K 8 g (g_part K pl 2).toNatClampNeg + g_part K pl 3) := by
  unfold g_perT
  dsimp only
  rw [if_neg (by decide), if_neg (by decide), if_pos rfl]
theorem gpX_8 (K : kM) (g : Nat) (pl : Int32) : g_perX K g 8 pl = g_addr K g (K 8 g (g_part K pl 2).toNatClampNeg + g_part K pl 3) := by
  unfold g_perX
  dsimp only
  rw [if_neg (by decide), if_neg (by decide), if_pos rfl]
theorem gpT_9 (K : kM) (g : Nat) (pl : Int32) : g_perT K g 9 pl = g_calT K g 9 (g_part K pl 1) (g_part K pl 2) (g_part K pl 3) := by
  unfold g_perT
  dsimp only
  rw [if_neg (by decide), if_neg (by decide), if_neg (by decide), if_neg (by decide), if_neg (by decide), if_neg (by decide), if_neg (by decide), if_neg (by decide), if_neg (by decide), if_neg (by decide), if_neg (by decide), if_neg (by decide)]
theorem gpX_9 (K : kM) (g : Nat) (pl : Int32) : g_perX K g 9 pl = g_calX K g 9 (g_part K pl 2) := by
  unfold g_perX
  dsimp only
  rw [if_neg (by decide), if_neg (by decide), if_neg (by decide), if_neg (by decide), if_neg (by decide), if_neg (by decide), if_neg (by decide), if_neg (by decide), if_neg (by decide), if_neg (by decide), if_neg (by decide), if_neg (by decide)]
theorem gpT_10 (K : kM) (g : Nat) (pl : Int32) : g_perT K g 10 pl = g_calT K g 10 (g_part K pl 1) (g_part K pl 2) (g_part K pl 3) := by
  unfold g_perT
  dsimp only
  rw [if_neg (by decide), if_neg (by decide), if_neg (by decide), if_neg (by decide), if_neg (by decide), if_neg (by decide), if_neg (by decide), if_neg (by decide), if_neg (by decide), if_neg (by decide), if_neg (by decide), if_neg (by decide)]
theorem gpX_10 (K : kM) (g : Nat) (pl : Int32) : g_perX K g 10 pl = g_calX K g 10 (g_part K pl 2) := by
  unfold g_perX
  dsimp only
  rw [if_neg (by decide), if_neg (by decide), if_neg (by decide), if_neg (by decide), if_neg (by decide), if_neg (by decide), if_neg (by decide), if_neg (by decide), if_neg (by decide), if_neg (by decide), if_neg (by decide), if_neg (by decide)]
theorem gpT_11 (K : kM) (g : Nat) (pl : Int32) : g_perT K g 11 pl = g_calT K g 11 (g_part K pl 1) (g_part K pl 2) (g_part K pl 3) := by
  unfold g_perT
  dsimp only
  rw [if_neg (by decide), if_neg (by decide), if_neg (by decide), if_neg (by decide), if_neg (by decide), if_neg (by decide), if_neg (by decide), if_neg (by decide), if_neg (by decide), if_neg (by decide), if_neg (by decide), if_neg (by decide)]
theorem gpX_11 (K : kM) (g : Nat) (pl : Int32) : g_perX K g 11 pl = g_calX K g 11 (g_part K pl 2) := by
  unfold g_perX
  dsimp only
  rw [if_neg (by decide), if_neg (by decide), if_neg (by decide), if_neg (by decide), if_neg (by decide), if_neg (by decide), if_neg (by decide), if_neg (by decide), if_neg (by decide), if_neg (by decide), if_neg (by decide), if_neg (by decide)]
theorem gpT_12 (K : kM) (g : Nat) (pl : Int32) : g_perT K g 12 pl = g_calT K g 12 (g_part K pl 1) (g_part K pl 2) (g_part K pl 3) := by
  unfold g_perT
  dsimp only
  rw [if_neg (by decide), if_neg (by decide), if_neg (by decide), if_neg (by decide), if_neg (by decide), if_neg (by decide), if_neg (by decide), if_neg (by decide), if_neg (by decide), if_neg (by decide), if_neg (by decide), if_neg (by decide)]
theorem gpX_12 (K : kM) (g : Nat) (pl : Int32) : g_perX K g 12 pl = g_calX K g 12 (g_part K pl 2) := by
  unfold g_perX
  dsimp only
  rw [if_neg (by decide), if_neg (by decide), if_neg (by decide), if_neg (by decide), if_neg (by decide), if_neg (by decide), if_neg (by decide), if_neg (by decide), if_neg (by decide), if_neg (by decide), if_neg (by decide), if_neg (by decide)]
theorem gpT_13 (K : kM) (g : Nat) (pl : Int32) : g_perT K g 13 pl = g_mapT K g (g_part K pl 1) (g_part K pl 3) := by
  unfold g_perT
  dsimp only
  rw [if_neg (by decide), if_neg (by decide), if_neg (by decide), if_pos rfl]
theorem gpX_13 (K : kM) (g : Nat) (pl : Int32) : g_perX K g 13 pl = g_n4 (g_part K pl 3) := by
  unfold g_perX
  dsimp only
  rw [if_neg (by decide), if_neg (by decide), if_neg (by decide), if_pos rfl]
theorem gpT_14 (K : kM) (g : Nat) (pl : Int32) : g_perT K g 14 pl = g_unT K g (g_part K pl 1) (g_part K pl 3) := by
  unfold g_perT
  dsimp only
  rw [if_neg (by decide), if_neg (by decide), if_neg (by decide), if_neg (by decide), if_pos rfl]
theorem gpX_14 (K : kM) (g : Nat) (pl : Int32) : g_perX K g 14 pl = g_n4 (g_part K pl 3) := by
  unfold g_perX
  dsimp only
  rw [if_neg (by decide), if_neg (by decide), if_neg (by decide), if_neg (by decide), if_pos rfl]
theorem gpT_15 (K : kM) (g : Nat) (pl : Int32) : g_perT K g 15 pl = k_up (g_spT K g (K 8 g (g_part K pl 1).toNatClampNeg) (K 8 g (g_part K pl 2).toNatClampNeg) (g_part K pl 3)) 8 g (g_part K pl 1).toNatClampNeg (g_spX K g (K 8 g (g_part K pl 2).toNatClampNeg)) := by
  unfold g_perT
  dsimp only
  rw [if_neg (by decide), if_neg (by decide), if_neg (by decide), if_neg (by decide), if_neg (by decide), if_pos rfl]
theorem gpX_15 (K : kM) (g : Nat) (pl : Int32) : g_perX K g 15 pl = 0 := by
  unfold g_perX
  dsimp only
  rw [if_neg (by decide), if_neg (by decide), if_neg (by decide), if_neg (by decide), if_neg (by decide), if_pos rfl]
theorem gpT_16 (K : kM) (g : Nat) (pl : Int32) : g_perT K g 16 pl = g_sendT K g (g_part K pl 1) (g_part K pl 3) := by
  unfold g_perT
  dsimp only
  rw [if_neg (by decide), if_neg (by decide), if_neg (by decide), if_neg (by decide), if_neg (by decide), if_neg (by decide), if_pos rfl]
theorem gpX_16 (K : kM) (g : Nat) (pl : Int32) : g_perX K g 16 pl = g_n4 (g_part K pl 3) := by
  unfold g_perX
  dsimp only
  rw [if_neg (by decide), if_neg (by decide), if_neg (by decide), if_neg (by decide), if_neg (by decide), if_neg (by decide), if_pos rfl]
theorem gpT_17 (K : kM) (g : Nat) (pl : Int32) : g_perT K g 17 pl = g_recvT K g (g_part K pl 1) (g_part K pl 3) := by
  unfold g_perT
  dsimp only
  rw [if_neg (by decide), if_neg (by decide), if_neg (by decide), if_neg (by decide), if_neg (by decide), if_neg (by decide), if_neg (by decide), if_pos rfl]
theorem gpX_17 (K : kM) (g : Nat) (pl : Int32) : g_perX K g 17 pl = g_n4 (g_part K pl 3) := by
  unfold g_perX
  dsimp only
  rw [if_neg (by decide), if_neg (by decide), if_neg (by decide), if_neg (by decide), if_neg (by decide), if_neg (by decide), if_neg (by decide), if_pos rfl]
theorem gpT_18 (K : kM) (g : Nat) (pl : Int32) : g_perT K g 18 pl = g_lockT K g (g_part K pl 1) (g_part K pl 3) := by
  unfold g_perT
  dsimp only
  rw [if_neg (by decide), if_neg (by decide), if_neg (by decide), if_neg (by decide), if_neg (by decide), if_neg (by decide), if_neg (by decide), if_neg (by decide), if_pos rfl]
theorem gpX_18 (K : kM) (g : Nat) (pl : Int32) : g_perX K g 18 pl = g_n4 (g_part K pl 3) := by
  unfold g_perX
  dsimp only
  rw [if_neg (by decide), if_neg (by decide), if_neg (by decide), if_neg (by decide), if_neg (by decide), if_neg (by decide), if_neg (by decide), if_neg (by decide), if_pos rfl]
theorem gpT_19 (K : kM) (g : Nat) (pl : Int32) : g_perT K g 19 pl = g_unlT K g (g_part K pl 3) := by
  unfold g_perT
  dsimp only
  rw [if_neg (by decide), if_neg (by decide), if_neg (by decide), if_neg (by decide), if_neg (by decide), if_neg (by decide), if_neg (by decide), if_neg (by decide), if_neg (by decide), if_pos rfl]
theorem gpX_19 (K : kM) (g : Nat) (pl : Int32) : g_perX K g 19 pl = g_unlX K g (g_part K pl 3) := by
  unfold g_perX
  dsimp only
  rw [if_neg (by decide), if_neg (by decide), if_neg (by decide), if_neg (by decide), if_neg (by decide), if_neg (by decide), if_neg (by decide), if_neg (by decide), if_neg (by decide), if_pos rfl]
theorem gpT_20 (K : kM) (g : Nat) (pl : Int32) : g_perT K g 20 pl = g_end K g (K 8 g (g_part K pl 1).toNatClampNeg) := by
  unfold g_perT
  dsimp only
  rw [if_neg (by decide), if_neg (by decide), if_neg (by decide), if_neg (by decide), if_neg (by decide), if_neg (by decide), if_neg (by decide), if_neg (by decide), if_neg (by decide), if_neg (by decide), if_pos rfl]
theorem gpX_20 (K : kM) (g : Nat) (pl : Int32) : g_perX K g 20 pl = 0 := by
  unfold g_perX
  dsimp only
  rw [if_neg (by decide), if_neg (by decide), if_neg (by decide), if_neg (by decide), if_neg (by decide), if_neg (by decide), if_neg (by decide), if_neg (by decide), if_neg (by decide), if_neg (by decide), if_pos rfl]
theorem gpT_21 (K : kM) (g : Nat) (pl : Int32) : g_perT K g 21 pl = g_rpT K g (g_part K pl 1) (g_part K pl 2) 6 0 := by
  unfold g_perT
  dsimp only
  rw [if_neg (by decide), if_neg (by decide), if_neg (by decide), if_neg (by decide), if_neg (by decide), if_neg (by decide), if_neg (by decide), if_neg (by decide), if_neg (by decide), if_neg (by decide), if_neg (by decide), if_pos rfl]
theorem gpX_21 (K : kM) (g : Nat) (pl : Int32) : g_perX K g 21 pl = 0 := by
  unfold g_perX
  dsimp only
  rw [if_neg (by decide), if_neg (by decide), if_neg (by decide), if_neg (by decide), if_neg (by decide), if_neg (by decide), if_neg (by decide), if_neg (by decide), if_neg (by decide), if_neg (by decide), if_neg (by decide), if_pos rfl]
theorem gcT_0 (K : kM) (g : Nat) (a b n : Int32) : g_calT K g 0 a b n = K := by
  unfold g_calT
  rw [if_neg (by decide), if_neg (by decide), if_neg (by decide), if_neg (by decide), if_neg (by decide), if_neg (by decide), if_neg (by decide), if_neg (by decide), if_neg (by decide)]
theorem gcX_0 (K : kM) (g : Nat) (b : Int32) : g_calX K g 0 b = 0 := by
  unfold g_calX
  rw [if_neg (by decide)]
theorem gcT_1 (K : kM) (g : Nat) (a b n : Int32) : g_calT K g 1 a b n = k_up K 8 g a.toNatClampNeg n := by
  unfold g_calT
  rw [if_pos rfl]
theorem gcX_1 (K : kM) (g : Nat) (b : Int32) : g_calX K g 1 b = 0 := by
  unfold g_calX
  rw [if_neg (by decide)]
theorem gcT_2 (K : kM) (g : Nat) (a b n : Int32) : g_calT K g 2 a b n = k_up K 8 g a.toNatClampNeg (K 8 g b.toNatClampNeg + n) := by
  unfold g_calT
  rw [if_neg (by decide), if_pos rfl]
theorem gcX_2 (K : kM) (g : Nat) (b : Int32) : g_calX K g 2 b = 0 := by
  unfold g_calX
  rw [if_neg (by decide)]
theorem gcT_3 (K : kM) (g : Nat) (a b n : Int32) : g_calT K g 3 a b n = k_up K 8 g a.toNatClampNeg (K 8 g a.toNatClampNeg + K 8 g b.toNatClampNeg) := by
  unfold g_calT
  rw [if_neg (by decide), if_neg (by decide), if_pos rfl]
theorem gcX_3 (K : kM) (g : Nat) (b : Int32) : g_calX K g 3 b = 0 := by
  unfold g_calX
  rw [if_neg (by decide)]
theorem gcT_4 (K : kM) (g : Nat) (a b n : Int32) : g_calT K g 4 a b n = k_up K 8 g a.toNatClampNeg (K 8 g a.toNatClampNeg - K 8 g b.toNatClampNeg) := by
  unfold g_calT
  rw [if_neg (by decide), if_neg (by decide), if_neg (by decide), if_pos rfl]
theorem gcX_4 (K : kM) (g : Nat) (b : Int32) : g_calX K g 4 b = 0 := by
  unfold g_calX
  rw [if_neg (by decide)]
theorem gcT_5 (K : kM) (g : Nat) (a b n : Int32) : g_calT K g 5 a b n = k_up K 8 g a.toNatClampNeg (K 8 g a.toNatClampNeg * K 8 g b.toNatClampNeg) := by
  unfold g_calT
  rw [if_neg (by decide), if_neg (by decide), if_neg (by decide), if_neg (by decide), if_pos rfl]
theorem gcX_5 (K : kM) (g : Nat) (b : Int32) : g_calX K g 5 b = 0 := by
  unfold g_calX
  rw [if_neg (by decide)]
theorem gcT_6 (K : kM) (g : Nat) (a b n : Int32) : g_calT K g 6 a b n = (if K 8 g b.toNatClampNeg = 0 then K else k_up K 8 g a.toNatClampNeg (K 8 g a.toNatClampNeg / K 8 g b.toNatClampNeg)) := by
  unfold g_calT
  rw [if_neg (by decide), if_neg (by decide), if_neg (by decide), if_neg (by decide), if_neg (by decide), if_pos rfl]
theorem gcX_6 (K : kM) (g : Nat) (b : Int32) : g_calX K g 6 b = (if K 8 g b.toNatClampNeg = 0 then 1 else 0) := by
  unfold g_calX
  rw [if_pos rfl]
theorem gcT_7 (K : kM) (g : Nat) (a b n : Int32) : g_calT K g 7 a b n = K := by
  unfold g_calT
  rw [if_neg (by decide), if_neg (by decide), if_neg (by decide), if_neg (by decide), if_neg (by decide), if_neg (by decide), if_neg (by decide), if_neg (by decide), if_neg (by decide)]
theorem gcX_7 (K : kM) (g : Nat) (b : Int32) : g_calX K g 7 b = 0 := by
  unfold g_calX
  rw [if_neg (by decide)]
theorem gcT_8 (K : kM) (g : Nat) (a b n : Int32) : g_calT K g 8 a b n = K := by
  unfold g_calT
  rw [if_neg (by decide), if_neg (by decide), if_neg (by decide), if_neg (by decide), if_neg (by decide), if_neg (by decide), if_neg (by decide), if_neg (by decide), if_neg (by decide)]
theorem gcX_8 (K : kM) (g : Nat) (b : Int32) : g_calX K g 8 b = 0 := by
  unfold g_calX
  rw [if_neg (by decide)]
theorem gcT_9 (K : kM) (g : Nat) (a b n : Int32) : g_calT K g 9 a b n = (if K 8 g b.toNatClampNeg ≤ K 8 g a.toNatClampNeg then K else g_goTo K g n) := by
  unfold g_calT
  rw [if_neg (by decide), if_neg (by decide), if_neg (by decide), if_neg (by decide), if_neg (by decide), if_neg (by decide), if_pos rfl]
theorem gcX_9 (K : kM) (g : Nat) (b : Int32) : g_calX K g 9 b = 0 := by
  unfold g_calX
  rw [if_neg (by decide)]
theorem gcT_10 (K : kM) (g : Nat) (a b n : Int32) : g_calT K g 10 a b n = (if K 8 g a.toNatClampNeg = 0 then g_goTo K g n else K) := by
  unfold g_calT
  rw [if_neg (by decide), if_neg (by decide), if_neg (by decide), if_neg (by decide), if_neg (by decide), if_neg (by decide), if_neg (by decide), if_pos rfl]
theorem gcX_10 (K : kM) (g : Nat) (b : Int32) : g_calX K g 10 b = 0 := by
  unfold g_calX
  rw [if_neg (by decide)]
theorem gcT_11 (K : kM) (g : Nat) (a b n : Int32) : g_calT K g 11 a b n = k_up K 7 g 5 (if 0 ≤ n then k_rem n 32 else -1) := by
  unfold g_calT
  rw [if_neg (by decide), if_neg (by decide), if_neg (by decide), if_neg (by decide), if_neg (by decide), if_neg (by decide), if_neg (by decide), if_neg (by decide), if_pos rfl]
theorem gcX_11 (K : kM) (g : Nat) (b : Int32) : g_calX K g 11 b = 0 := by
  unfold g_calX
  rw [if_neg (by decide)]
theorem gcT_12 (K : kM) (g : Nat) (a b n : Int32) : g_calT K g 12 a b n = K := by
  unfold g_calT
  rw [if_neg (by decide), if_neg (by decide), if_neg (by decide), if_neg (by decide), if_neg (by decide), if_neg (by decide), if_neg (by decide), if_neg (by decide), if_neg (by decide)]
theorem gcX_12 (K : kM) (g : Nat) (b : Int32) : g_calX K g 12 b = 0 := by
  unfold g_calX
  rw [if_neg (by decide)]
theorem gcT_13 (K : kM) (g : Nat) (a b n : Int32) : g_calT K g 13 a b n = K := by
  unfold g_calT
  rw [if_neg (by decide), if_neg (by decide), if_neg (by decide), if_neg (by decide), if_neg (by decide), if_neg (by decide), if_neg (by decide), if_neg (by decide), if_neg (by decide)]
theorem gcX_13 (K : kM) (g : Nat) (b : Int32) : g_calX K g 13 b = 0 := by
  unfold g_calX
  rw [if_neg (by decide)]
theorem gcT_14 (K : kM) (g : Nat) (a b n : Int32) : g_calT K g 14 a b n = K := by
  unfold g_calT
  rw [if_neg (by decide), if_neg (by decide), if_neg (by decide), if_neg (by decide), if_neg (by decide), if_neg (by decide), if_neg (by decide), if_neg (by decide), if_neg (by decide)]
theorem gcX_14 (K : kM) (g : Nat) (b : Int32) : g_calX K g 14 b = 0 := by
  unfold g_calX
  rw [if_neg (by decide)]
theorem gcT_15 (K : kM) (g : Nat) (a b n : Int32) : g_calT K g 15 a b n = K := by
  unfold g_calT
  rw [if_neg (by decide), if_neg (by decide), if_neg (by decide), if_neg (by decide), if_neg (by decide), if_neg (by decide), if_neg (by decide), if_neg (by decide), if_neg (by decide)]
theorem gcX_15 (K : kM) (g : Nat) (b : Int32) : g_calX K g 15 b = 0 := by
  unfold g_calX
  rw [if_neg (by decide)]
theorem gcT_16 (K : kM) (g : Nat) (a b n : Int32) : g_calT K g 16 a b n = K := by
  unfold g_calT
  rw [if_neg (by decide), if_neg (by decide), if_neg (by decide), if_neg (by decide), if_neg (by decide), if_neg (by decide), if_neg (by decide), if_neg (by decide), if_neg (by decide)]
theorem gcX_16 (K : kM) (g : Nat) (b : Int32) : g_calX K g 16 b = 0 := by
  unfold g_calX
  rw [if_neg (by decide)]
theorem gcT_17 (K : kM) (g : Nat) (a b n : Int32) : g_calT K g 17 a b n = K := by
  unfold g_calT
  rw [if_neg (by decide), if_neg (by decide), if_neg (by decide), if_neg (by decide), if_neg (by decide), if_neg (by decide), if_neg (by decide), if_neg (by decide), if_neg (by decide)]
theorem gcX_17 (K : kM) (g : Nat) (b : Int32) : g_calX K g 17 b = 0 := by
  unfold g_calX
  rw [if_neg (by decide)]
theorem gcT_18 (K : kM) (g : Nat) (a b n : Int32) : g_calT K g 18 a b n = K := by
  unfold g_calT
  rw [if_neg (by decide), if_neg (by decide), if_neg (by decide), if_neg (by decide), if_neg (by decide), if_neg (by decide), if_neg (by decide), if_neg (by decide), if_neg (by decide)]
theorem gcX_18 (K : kM) (g : Nat) (b : Int32) : g_calX K g 18 b = 0 := by
  unfold g_calX
  rw [if_neg (by decide)]
theorem gcT_19 (K : kM) (g : Nat) (a b n : Int32) : g_calT K g 19 a b n = K := by
  unfold g_calT
  rw [if_neg (by decide), if_neg (by decide), if_neg (by decide), if_neg (by decide), if_neg (by decide), if_neg (by decide), if_neg (by decide), if_neg (by decide), if_neg (by decide)]
theorem gcX_19 (K : kM) (g : Nat) (b : Int32) : g_calX K g 19 b = 0 := by
  unfold g_calX
  rw [if_neg (by decide)]
theorem gcT_20 (K : kM) (g : Nat) (a b n : Int32) : g_calT K g 20 a b n = K := by
  unfold g_calT
  rw [if_neg (by decide), if_neg (by decide), if_neg (by decide), if_neg (by decide), if_neg (by decide), if_neg (by decide), if_neg (by decide), if_neg (by decide), if_neg (by decide)]
theorem gcX_20 (K : kM) (g : Nat) (b : Int32) : g_calX K g 20 b = 0 := by
  unfold g_calX
  rw [if_neg (by decide)]
theorem gcT_21 (K : kM) (g : Nat) (a b n : Int32) : g_calT K g 21 a b n = K := by
  unfold g_calT
  rw [if_neg (by decide), if_neg (by decide), if_neg (by decide), if_neg (by decide), if_neg (by decide), if_neg (by decide), if_neg (by decide), if_neg (by decide), if_neg (by decide)]
theorem gcX_21 (K : kM) (g : Nat) (b : Int32) : g_calX K g 21 b = 0 := by
  unfold g_calX
  rw [if_neg (by decide)]
def g_count (K : kM) (w : Int32) : Int32 :=
  if w = 0 then K 0 0 6 else if w = 1 then K 0 0 7 else if w = 2 then K 0 0 8 else if w = 3 then K 0 0 9 else if w = 4 then K 0 0 10 else if w = 5 then K 3 0 2 else if w = 6 then K 0 0 11 else if w = 7 then K 0 0 12
  else if w = 10 then K 11 0 1 else if w = 11 then K 11 1 1 else if w = 20 then K 12 0 2 else if w = 21 then K 12 1 2 else -2
theorem r_c22 {x : Int32} (h : vp_in x 22) : x = 0 ∨ x = 1 ∨ x = 2 ∨ x = 3 ∨ x = 4 ∨ x = 5 ∨ x = 6 ∨ x = 7 ∨ x = 8 ∨ x = 9 ∨ x = 10 ∨ x = 11 ∨ x = 12 ∨ x = 13 ∨ x = 14 ∨ x = 15 ∨ x = 16 ∨ x = 17 ∨ x = 18 ∨ x = 19 ∨ x = 20 ∨ x = 21 := by
  obtain ⟨j, hj, rfl⟩ := r_nat h (by decide)
  have : ∀ j : Fin 22, (nI j.val = 0 ∨ nI j.val = 1 ∨ nI j.val = 2 ∨ nI j.val = 3 ∨ nI j.val = 4 ∨ nI j.val = 5 ∨ nI j.val = 6 ∨ nI j.val = 7 ∨ nI j.val = 8 ∨ nI j.val = 9 ∨ nI j.val = 10 ∨ nI j.val = 11 ∨ nI j.val = 12 ∨ nI j.val = 13 ∨ nI j.val = 14 ∨ nI j.val = 15 ∨ nI j.val = 16 ∨ nI j.val = 17 ∨ nI j.val = 18 ∨ nI j.val = 19 ∨ nI j.val = 20 ∨ nI j.val = 21) := by decide +kernel
  exact this ⟨j, hj⟩
theorem gk_0 (K : kM) : g_count K 0 = K 0 0 6 := by
  unfold g_count
  rw [if_pos rfl]
theorem gk_1 (K : kM) : g_count K 1 = K 0 0 7 := by
  unfold g_count
  rw [if_neg (by decide), if_pos rfl]
theorem gk_2 (K : kM) : g_count K 2 = K 0 0 8 := by
  unfold g_count
  rw [if_neg (by decide), if_neg (by decide), if_pos rfl]
theorem gk_3 (K : kM) : g_count K 3 = K 0 0 9 := by
  unfold g_count
  rw [if_neg (by decide), if_neg (by decide), if_neg (by decide), if_pos rfl]
theorem gk_4 (K : kM) : g_count K 4 = K 0 0 10 := by
  unfold g_count
  rw [if_neg (by decide), if_neg (by decide), if_neg (by decide), if_neg (by decide), if_pos rfl]
theorem gk_5 (K : kM) : g_count K 5 = K 3 0 2 := by
  unfold g_count
  rw [if_neg (by decide), if_neg (by decide), if_neg (by decide), if_neg (by decide), if_neg (by decide), if_pos rfl]
theorem gk_6 (K : kM) : g_count K 6 = K 0 0 11 := by
  unfold g_count
  rw [if_neg (by decide), if_neg (by decide), if_neg (by decide), if_neg (by decide), if_neg (by decide), if_neg (by decide), if_pos rfl]
theorem gk_7 (K : kM) : g_count K 7 = K 0 0 12 := by
  unfold g_count
  rw [if_neg (by decide), if_neg (by decide), if_neg (by decide), if_neg (by decide), if_neg (by decide), if_neg (by decide), if_neg (by decide), if_pos rfl]
theorem gk_8 (K : kM) : g_count K 8 = -2 := by
  unfold g_count
  rw [if_neg (by decide), if_neg (by decide), if_neg (by decide), if_neg (by decide), if_neg (by decide), if_neg (by decide), if_neg (by decide), if_neg (by decide), if_neg (by decide), if_neg (by decide), if_neg (by decide), if_neg (by decide)]
theorem gk_9 (K : kM) : g_count K 9 = -2 := by
  unfold g_count
  rw [if_neg (by decide), if_neg (by decide), if_neg (by decide), if_neg (by decide), if_neg (by decide), if_neg (by decide), if_neg (by decide), if_neg (by decide), if_neg (by decide), if_neg (by decide), if_neg (by decide), if_neg (by decide)]
theorem gk_10 (K : kM) : g_count K 10 = K 11 0 1 := by
  unfold g_count
  rw [if_neg (by decide), if_neg (by decide), if_neg (by decide), if_neg (by decide), if_neg (by decide), if_neg (by decide), if_neg (by decide), if_neg (by decide), if_pos rfl]
theorem gk_11 (K : kM) : g_count K 11 = K 11 1 1 := by
  unfold g_count
  rw [if_neg (by decide), if_neg (by decide), if_neg (by decide), if_neg (by decide), if_neg (by decide), if_neg (by decide), if_neg (by decide), if_neg (by decide), if_neg (by decide), if_pos rfl]
theorem gk_12 (K : kM) : g_count K 12 = -2 := by
  unfold g_count
  rw [if_neg (by decide), if_neg (by decide), if_neg (by decide), if_neg (by decide), if_neg (by decide), if_neg (by decide), if_neg (by decide), if_neg (by decide), if_neg (by decide), if_neg (by decide), if_neg (by decide), if_neg (by decide)]
theorem gk_13 (K : kM) : g_count K 13 = -2 := by
  unfold g_count
  rw [if_neg (by decide), if_neg (by decide), if_neg (by decide), if_neg (by decide), if_neg (by decide), if_neg (by decide), if_neg (by decide), if_neg (by decide), if_neg (by decide), if_neg (by decide), if_neg (by decide), if_neg (by decide)]
theorem gk_14 (K : kM) : g_count K 14 = -2 := by
  unfold g_count
  rw [if_neg (by decide), if_neg (by decide), if_neg (by decide), if_neg (by decide), if_neg (by decide), if_neg (by decide), if_neg (by decide), if_neg (by decide), if_neg (by decide), if_neg (by decide), if_neg (by decide), if_neg (by decide)]
theorem gk_15 (K : kM) : g_count K 15 = -2 := by
  unfold g_count
  rw [if_neg (by decide), if_neg (by decide), if_neg (by decide), if_neg (by decide), if_neg (by decide), if_neg (by decide), if_neg (by decide), if_neg (by decide), if_neg (by decide), if_neg (by decide), if_neg (by decide), if_neg (by decide)]
theorem gk_16 (K : kM) : g_count K 16 = -2 := by
  unfold g_count
  rw [if_neg (by decide), if_neg (by decide), if_neg (by decide), if_neg (by decide), if_neg (by decide), if_neg (by decide), if_neg (by decide), if_neg (by decide), if_neg (by decide), if_neg (by decide), if_neg (by decide), if_neg (by decide)]
theorem gk_17 (K : kM) : g_count K 17 = -2 := by
  unfold g_count
  rw [if_neg (by decide), if_neg (by decide), if_neg (by decide), if_neg (by decide), if_neg (by decide), if_neg (by decide), if_neg (by decide), if_neg (by decide), if_neg (by decide), if_neg (by decide), if_neg (by decide), if_neg (by decide)]
theorem gk_18 (K : kM) : g_count K 18 = -2 := by
  unfold g_count
  rw [if_neg (by decide), if_neg (by decide), if_neg (by decide), if_neg (by decide), if_neg (by decide), if_neg (by decide), if_neg (by decide), if_neg (by decide), if_neg (by decide), if_neg (by decide), if_neg (by decide), if_neg (by decide)]
theorem gk_19 (K : kM) : g_count K 19 = -2 := by
  unfold g_count
  rw [if_neg (by decide), if_neg (by decide), if_neg (by decide), if_neg (by decide), if_neg (by decide), if_neg (by decide), if_neg (by decide), if_neg (by decide), if_neg (by decide), if_neg (by decide), if_neg (by decide), if_neg (by decide)]
theorem gk_20 (K : kM) : g_count K 20 = K 12 0 2 := by
  unfold g_count
  rw [if_neg (by decide), if_neg (by decide), if_neg (by decide), if_neg (by decide), if_neg (by decide), if_neg (by decide), if_neg (by decide), if_neg (by decide), if_neg (by decide), if_neg (by decide), if_pos rfl]
theorem gk_21 (K : kM) : g_count K 21 = K 12 1 2 := by
  unfold g_count
  rw [if_neg (by decide), if_neg (by decide), if_neg (by decide), if_neg (by decide), if_neg (by decide), if_neg (by decide), if_neg (by decide), if_neg (by decide), if_neg (by decide), if_neg (by decide), if_neg (by decide), if_pos rfl]
theorem r_ni {x k : Int32} {a : Int} (h : x.toInt < 0 ∨ 21 < x.toInt) (hk : k.toInt = a) (h0 : 0 ≤ a) (h1 : a ≤ 21) : ¬ x = k := fun e => by
  rw [e, hk] at h
  omega
theorem gk_o (K : kM) {w : Int32} (h : w.toInt < 0 ∨ 21 < w.toInt) : g_count K w = -2 := by
  unfold g_count
  rw [if_neg (r_ni h (k := 0) (a := 0) (by decide) (by decide) (by decide)), if_neg (r_ni h (k := 1) (a := 1) (by decide) (by decide) (by decide)), if_neg (r_ni h (k := 2) (a := 2) (by decide) (by decide) (by decide)), if_neg (r_ni h (k := 3) (a := 3) (by decide) (by decide) (by decide)), if_neg (r_ni h (k := 4) (a := 4) (by decide) (by decide) (by decide)), if_neg (r_ni h (k := 5) (a := 5) (by decide) (by decide) (by decide)), if_neg (r_ni h (k := 6) (a := 6) (by decide) (by decide) (by decide)), if_neg (r_ni h (k := 7) (a := 7) (by decide) (by decide) (by decide)), if_neg (r_ni h (k := 10) (a := 10) (by decide) (by decide) (by decide)), if_neg (r_ni h (k := 11) (a := 11) (by decide) (by decide) (by decide)), if_neg (r_ni h (k := 20) (a := 20) (by decide) (by decide) (by decide)), if_neg (r_ni h (k := 21) (a := 21) (by decide) (by decide) (by decide))]
theorem r_w22 (x : Int32) : (x.toInt < 0 ∨ 21 < x.toInt) ∨ x = 0 ∨ x = 1 ∨ x = 2 ∨ x = 3 ∨ x = 4 ∨ x = 5 ∨ x = 6 ∨ x = 7 ∨ x = 8 ∨ x = 9 ∨ x = 10 ∨ x = 11 ∨ x = 12 ∨ x = 13 ∨ x = 14 ∨ x = 15 ∨ x = 16 ∨ x = 17 ∨ x = 18 ∨ x = 19 ∨ x = 20 ∨ x = 21 := by
  by_cases h : x.toInt < 0 ∨ 21 < x.toInt
  · exact Or.inl h
  · refine Or.inr (r_c22 (vp_in_iff.mpr ⟨by omega, by omega⟩))
