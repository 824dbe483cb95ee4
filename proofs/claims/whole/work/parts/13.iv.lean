/-! ===== the ranges are kept ===== -/
theorem k_Inv.row {rng : Nat → Nat → Nat → Int32 → Prop} {K : kM} {f i : Nat} {h : Nat → Int32} (I : k_Inv rng K) (hr : ∀ j, rng f i j (h j)) : k_Inv rng (k_row K f i h) := by
  intro a b c
  unfold k_row
  by_cases q : a = f ∧ b = i
  · rw [if_pos q]
    obtain ⟨rfl, rfl⟩ := q
    exact hr c
  · rw [if_neg q]
    exact I a b c
theorem r_num {K : kM} {g : Nat} (I : g_Inv K) (hg : g < 6) : vp_in (K 7 g 0) 6 := r_n (I 7 g 0) hg
theorem r_num2 {K : kM} {g : Nat} (I : g_Inv K) (hg : g < 6) : vp_in (k_rem (K 7 g 0) 2) 2 := by
  rw [show K 7 g 0 = nI g from I 7 g 0]
  exact r_mod2 hg
theorem r_rowX {K : kM} (r : Nat) (I : g_Inv K) : g_rowX K r = -1 ∨ vp_in (g_rowX K r) 6 := by
  unfold g_rowX
  split
  · exact Or.inl rfl
  · exact Or.inr (I 13 r _)
theorem r_rowX1 {K : kM} {r : Nat} (I : g_Inv K) (h : ¬ g_rowX K r = -1) : vp_in (g_rowX K r) 6 := Or.resolve_left (r_rowX r I) h
theorem r_ful {K : kM} {k : Nat} (I : g_Inv K) (h : g_full K k = 0) : vp_in (K 17 k 3) 2 := by
  unfold g_full at h
  split at h
  · rename_i q
    obtain ⟨j, hj, e⟩ := r_sz2 (I 17 k 3)
    rw [e] at q ⊢
    exact r_lt (by decide) (nI_pos (by omega)) q
  · exact absurd h (by decide)
theorem r_szp2 {s : Int32} (h : vp_in s 2) : 0 ≤ s + 1 ∧ s + 1 ≤ 2 := by
  obtain ⟨j, hj, rfl⟩ := r_nat h (by decide)
  rw [nI_1]
  exact ⟨nI_pos' (by omega), show nI (j + 1) ≤ nI 2 from nI_le (by omega) (by decide)⟩
theorem r_szm2 {s : Int32} (hs : 0 ≤ s ∧ s ≤ 2) (h : ¬ s ≤ 0) : 0 ≤ s - 1 ∧ s - 1 ≤ 2 := by
  obtain ⟨j, hj, rfl⟩ := r_sz2 hs
  cases j with
  | zero => exact absurd (show nI 0 ≤ 0 from by decide) h
  | succ j =>
    rw [nI_pred]
    exact ⟨nI_pos' (by omega), show nI j ≤ nI 2 from nI_le (by omega) (by decide)⟩
theorem r_cp {s : Int32} (hs : 0 ≤ s ∧ s ≤ 2) (h : ¬ s ≤ 0) : ¬ s - 1 < 0 ∧ 1 + (s - 1).toNatClampNeg ≤ 2 := by
  obtain ⟨j, hj, rfl⟩ := r_sz2 hs
  cases j with
  | zero => exact absurd (show nI 0 ≤ 0 from by decide) h
  | succ j =>
    rw [nI_pred, nI_clamp (by omega)]
    exact ⟨nI_pos (by omega), by omega⟩
theorem iv_goTo {K : kM} {g : Nat} {t : Int32} (I : g_Inv K) : g_Inv (g_goTo K g t) := I.up (r_fm t)
theorem iv_fill {K : kM} {f i : Nat} {v : Int32} (I : g_Inv K) (h : ∀ j, g_rng f i j v) : ∀ n, g_Inv (g_fill K f i v n)
  | 0 => I
  | n + 1 => (iv_fill I h n).up (h n)
theorem iv_begin {K : kM} {g : Nat} {t q p : Int32} (I : g_Inv K) : g_Inv (g_begin K g t q p) :=
  k_Inv.up (k_Inv.up (k_Inv.up (k_Inv.up (k_Inv.up (k_Inv.up (k_Inv.up (iv_goTo (iv_fill (f := 9) (i := g) (v := -1) (iv_fill (f := 8) (i := g) (v := 0) I (fun _ => trivial) 4) (fun _ => Or.inl rfl) 4)) trivial) trivial) trivial) trivial) trivial) trivial) trivial
theorem iv_write {K : kM} {i op a b n : Int32} (I : g_Inv K) (hi : vp_in i 32) (ho : vp_in op 22) (ha : vp_in a 4) (hb : vp_in b 4) : g_Inv (g_write K i op a b n) :=
  k_Inv.up (k_Inv.up (k_Inv.up (k_Inv.up I (r_w0 hi ho)) (r_w1 hi ha)) (r_w2 hi hb)) (r_w3 hi)
theorem iv_put {K : kM} {k : Nat} {v : Int32} (I : g_Inv K) : g_Inv (g_put K k v) := by
  unfold g_put
  split
  · exact k_Inv.up (k_Inv.up I trivial) (r_szp2 (r_ful (K := K) I ‹_›))
  · exact I
theorem iv_chT {K : kM} {k : Nat} (I : g_Inv K) : g_Inv (g_chT K k) := by
  unfold g_chT
  split
  · exact I
  · exact k_Inv.row (k_Inv.up I (r_szm2 (I 17 k 3) ‹_›)) (fun _ => trivial)
theorem iv_store {K : kM} {f i v : Int32} (I : g_Inv K) : g_Inv (g_store K f i v) := I.up trivial
theorem iv_clear {K : kM} {f : Int32} (I : g_Inv K) : ∀ n, g_Inv (g_clear K f n)
  | 0 => I
  | n + 1 => iv_store (iv_clear I n)
theorem iv_frT {K : kM} (I : g_Inv K) : ∀ n i, g_Inv (g_frT K n i)
  | 0, _ => I
  | n + 1, i => by
    unfold g_frT
    split
    · exact iv_clear (k_Inv.up (f := 3) (i := 0) (j := 2) (k_Inv.up (f := 5) (i := 0) (j := i) (x := 1) I trivial) trivial) 8
    · exact iv_frT I n (i + 1)
theorem r_frX {K : kM} : ∀ n i, n + i = 12 → g_frX K n i = -1 ∨ vp_in (g_frX K n i) 12
  | 0, _, _ => Or.inl rfl
  | n + 1, i, h => by
    unfold g_frX
    split
    · exact Or.inr (vp_in_nI (by omega) (by decide))
    · exact r_frX n (i + 1) (by omega)
theorem iv_give {K : kM} {f : Int32} (I : g_Inv K) : g_Inv (g_give K f) := k_Inv.up (k_Inv.up I trivial) trivial
theorem iv_ready {K : kM} {g : Nat} (I : g_Inv K) (hg : g < 6) : g_Inv (g_ready K g) := iv_rowAdd (k_Inv.up I trivial) (r_num (K := K) I hg)
theorem iv_block {K : kM} {g r : Nat} {a : Int32} (I : g_Inv K) (hg : g < 6) (ha : vp_in a 4) : g_Inv (g_block K g a r) := iv_rowAdd (k_Inv.up (k_Inv.up I trivial) ha) (r_num (K := K) I hg)
theorem iv_next {K : kM} {p : Nat} (I : g_Inv K) : g_Inv (g_next K p) := by
  unfold g_next
  split
  · exact iv_rowT I
  · exact k_Inv.up (k_Inv.up (k_Inv.up (k_Inv.up (iv_rowT I) trivial) (r_rowX p I)) trivial) trivial
theorem iv_drop {K : kM} {g : Nat} {p : Int32} (I : g_Inv K) : g_Inv (g_drop K g p) := by
  unfold g_drop
  split
  · exact I
  · exact iv_give (k_Inv.up (k_Inv.up I (Or.inl rfl)) trivial)
theorem iv_pass {K : kM} {k : Nat} (I : g_Inv K) : g_Inv (g_pass K k) := by
  have I1 : g_Inv (k_up (g_rowT K (10 + k)) 15 k 1 (g_rowX K (10 + k))) := k_Inv.up (iv_rowT I) (r_rowX (10 + k) I)
  unfold g_pass
  split
  · exact I1
  · exact iv_ready I1 (k_lt (Or.resolve_left (I1 15 k 1) ‹_›))
theorem iv_ho1 {K : kM} {g i : Nat} (I : g_Inv K) : g_Inv (g_ho1 K g i) := by
  unfold g_ho1
  split
  · exact I
  · split
    · exact k_Inv.up I trivial
    · exact I
theorem iv_ho {K : kM} {g : Nat} (I : g_Inv K) : ∀ n, g_Inv (g_ho K g n)
  | 0 => I
  | n + 1 => iv_ho1 (iv_ho I n)
theorem iv_hand {K : kM} {g : Nat} (I : g_Inv K) : g_Inv (g_hand K g) := k_Inv.up (k_Inv.up (iv_ho I 6) trivial) trivial
theorem iv_dr {K : kM} {g : Nat} (I : g_Inv K) : ∀ n, g_Inv (g_dr K g n)
  | 0 => I
  | n + 1 => iv_drop (iv_dr I n)
theorem iv_ul1 {K : kM} {g k : Nat} (I : g_Inv K) : g_Inv (g_ul1 K g k) := by
  unfold g_ul1
  split
  · exact iv_pass I
  · exact I
theorem iv_ul {K : kM} {g : Nat} (I : g_Inv K) : ∀ n, g_Inv (g_ul K g n)
  | 0 => I
  | n + 1 => iv_ul1 (iv_ul I n)
theorem iv_end {K : kM} {g : Nat} {oc : Int32} (I : g_Inv K) : g_Inv (g_end K g oc) := iv_hand (iv_ul (iv_dr (k_Inv.up (f := 7) (i := g) (j := 10) (k_Inv.up (f := 7) (i := g) (j := 3) (x := 3) I trivial) trivial) 4) 4)
theorem r_cp3 {K : kM} {k : Nat} (I : g_Inv K) (h : ¬ K 17 k 3 ≤ 0) : ¬ k_up K 17 k 3 (K 17 k 3 - 1) 17 k 3 < 0 ∧ (1 : Int32).toNatClampNeg + (k_up K 17 k 3 (K 17 k 3 - 1) 17 k 3).toNatClampNeg ≤ 2 ∧ (0 : Int32).toNatClampNeg + (k_up K 17 k 3 (K 17 k 3 - 1) 17 k 3).toNatClampNeg ≤ 2 := by
  have e1 : (1 : Int32).toNatClampNeg = 1 := by decide
  have e0 : (0 : Int32).toNatClampNeg = 0 := by decide
  obtain ⟨h1, h2⟩ := r_cp (I 17 k 3) h
  rw [k_up_eq, e1, e0]
  exact ⟨h1, h2, by omega⟩
