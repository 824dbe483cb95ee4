/-! ===== THE TWO SIDE BY SIDE (8): channels; the whole relation; pages and registers ===== -/
theorem s_fr0 {M : kM} {f : Nat} (h : M 18 0 f ≠ 0) : ∀ n, m_fr (k_up M 18 0 f 0) n = if f < n then m_fr M n + 1 else m_fr M n
  | 0 => by rw [if_neg (Nat.not_lt_zero f)]; rfl
  | n + 1 => by
    unfold m_fr
    rw [s_fr0 h n]
    by_cases z : n = f
    · rw [z, ku_eq, if_pos rfl, if_neg (Nat.lt_irrefl f), if_pos (Nat.lt_succ_self f), if_neg h]
    · rw [ku_j z]
      by_cases y : f < n
      · rw [if_pos y, if_pos (show f < n + 1 by omega)]
        split <;> rfl
      · rw [if_neg y, if_neg (show ¬ f < n + 1 by omega)]
theorem s_fr1 {M : kM} {f : Nat} (h : M 18 0 f = 0) : ∀ n, m_fr (k_up M 18 0 f 1) n = if f < n then m_fr M n - 1 else m_fr M n
  | 0 => by rw [if_neg (Nat.not_lt_zero f)]; rfl
  | n + 1 => by
    unfold m_fr
    rw [s_fr1 h n]
    by_cases z : n = f
    · rw [z, ku_eq, if_neg (by decide), if_neg (Nat.lt_irrefl f), if_pos (Nat.lt_succ_self f), if_pos h]
      grind
    · rw [ku_j z]
      by_cases y : f < n
      · rw [if_pos y, if_pos (show f < n + 1 by omega)]
        split
        · grind
        · rfl
      · rw [if_neg y, if_neg (show ¬ f < n + 1 by omega)]
theorem s_E.give {x : Nat} {K M : kM} (E : s_E x K M) {f : Nat} (hf : f < 12) (h : M 18 0 f ≠ 0) : s_E x (k_up (k_up K 5 0 f 0) 3 0 2 (K 3 0 2 + 1)) (k_up M 18 0 f 0) := by
  refine ⟨?_, ?_, ?_, ?_, ?_, ?_, ?_, ?_, ?_, ?_, ?_, ?_, ?_, ?_, ?_, ?_, ?_, ?_, ?_, ?_, ?_, ?_, ?_, ?_, ?_, ?_⟩
  · intro i' h0
    simpa [k_up] using E.p0 _ h0
  · intro i' h0
    simpa [k_up] using E.p1 _ h0
  · intro i' h0
    simpa [k_up] using E.p2 _ h0
  · intro i' h0
    simpa [k_up] using E.p3 _ h0
  · intro j' h0
    simpa [k_up] using E.me _ h0
  · intro j' h0
    rw [ku_f (by decide)]
    by_cases q : j' = f
    · subst q
      rw [ku_eq, ku_eq]
    · rw [ku_j q, ku_j q]
      exact E.tk _ h0
  · intro g' h0
    simpa [k_up] using E.st _ h0
  · intro g' h0 h1
    simpa [k_up] using E.pl _ h0 h1
  · intro g' h0
    simpa [k_up] using E.hd _ h0
  · intro g' h0
    simpa [k_up] using E.qu _ h0
  · intro g' h0
    simpa [k_up] using E.us _ h0
  · intro g' h0
    simpa [k_up] using E.gi _ h0
  · intro g' h0
    simpa [k_up] using E.pa _ h0
  · intro g' h0
    simpa [k_up] using E.oc _ h0
  · intro g' h0
    simpa [k_up] using E.tr _ h0
  · intro g' h0 j' h1
    simpa [k_up] using E.re _ h0 _ h1
  · intro g' h0 j' h1
    simpa [k_up] using E.pg _ h0 _ h1
  · intro p' h0
    simpa [k_up] using E.ha _ h0
  · intro p' h0
    simpa [k_up] using E.ti _ h0
  · intro r' h0
    simpa [k_up] using E.sz _ h0
  · intro r' h0
    simpa only [s_rK_up, s_rM_up, ne_eq, reduceCtorEq, not_false_eq_true, Nat.reduceEqDiff] using E.ro _ h0
  · intro k' h0
    simpa [k_up] using E.lo _ h0
  · intro k' h0
    simpa [k_up] using E.cs _ h0
  · intro k' h0 j' h1
    have h2 := E.cv _ h0 _ (by simpa [k_up] using h1)
    simpa [k_up] using h2
  · intro j' h0
    simpa [k_up] using E.nu _ h0
  · rw [ku_eq, s_fr0 h, if_pos hf, E.fr]
theorem s_E.get {x : Nat} {K M : kM} (E : s_E x K M) {f : Nat} (hf : f < 12) (h : M 18 0 f = 0) : s_E x (k_up (k_up K 5 0 f 1) 3 0 2 (K 3 0 2 - 1)) (k_up M 18 0 f 1) := by
  refine ⟨?_, ?_, ?_, ?_, ?_, ?_, ?_, ?_, ?_, ?_, ?_, ?_, ?_, ?_, ?_, ?_, ?_, ?_, ?_, ?_, ?_, ?_, ?_, ?_, ?_, ?_⟩
  · intro i' h0
    simpa [k_up] using E.p0 _ h0
  · intro i' h0
    simpa [k_up] using E.p1 _ h0
  · intro i' h0
    simpa [k_up] using E.p2 _ h0
  · intro i' h0
    simpa [k_up] using E.p3 _ h0
  · intro j' h0
    simpa [k_up] using E.me _ h0
  · intro j' h0
    rw [ku_f (by decide)]
    by_cases q : j' = f
    · subst q
      rw [ku_eq, ku_eq]
    · rw [ku_j q, ku_j q]
      exact E.tk _ h0
  · intro g' h0
    simpa [k_up] using E.st _ h0
  · intro g' h0 h1
    simpa [k_up] using E.pl _ h0 h1
  · intro g' h0
    simpa [k_up] using E.hd _ h0
  · intro g' h0
    simpa [k_up] using E.qu _ h0
  · intro g' h0
    simpa [k_up] using E.us _ h0
  · intro g' h0
    simpa [k_up] using E.gi _ h0
  · intro g' h0
    simpa [k_up] using E.pa _ h0
  · intro g' h0
    simpa [k_up] using E.oc _ h0
  · intro g' h0
    simpa [k_up] using E.tr _ h0
  · intro g' h0 j' h1
    simpa [k_up] using E.re _ h0 _ h1
  · intro g' h0 j' h1
    simpa [k_up] using E.pg _ h0 _ h1
  · intro p' h0
    simpa [k_up] using E.ha _ h0
  · intro p' h0
    simpa [k_up] using E.ti _ h0
  · intro r' h0
    simpa [k_up] using E.sz _ h0
  · intro r' h0
    simpa only [s_rK_up, s_rM_up, ne_eq, reduceCtorEq, not_false_eq_true, Nat.reduceEqDiff] using E.ro _ h0
  · intro k' h0
    simpa [k_up] using E.lo _ h0
  · intro k' h0
    simpa [k_up] using E.cs _ h0
  · intro k' h0 j' h1
    have h2 := E.cv _ h0 _ (by simpa [k_up] using h1)
    simpa [k_up] using h2
  · intro j' h0
    simpa [k_up] using E.nu _ h0
  · rw [ku_eq, s_fr1 h, if_pos hf, E.fr]
def s_D (K M : kM) : Prop := (∀ k, k < 4 → s_rM M (2 + k) ≠ [] → M 22 0 k = 2) ∧ (∀ k, k < 4 → s_rM M (6 + k) ≠ [] → M 22 0 k = 0) ∧
  (∀ k, k < 4 → ∀ w, w < 6 → nI w ∈ s_rM M (6 + k) → M 14 0 w = K 7 w 12) ∧ (∀ k, k < 4 → ∀ w, w < 6 → nI w ∈ s_rM M (2 + k) → M 14 0 w = K 8 w (K 7 w 12).toNatClampNeg)
theorem s_D.gen2 {K K' M M' : kM} (D : s_D K M) (hr : ∀ r, 2 ≤ r → r < 10 → ∀ y ∈ s_rM M' r, y ∈ s_rM M r) (h1 : ∀ k, k < 4 → s_rM M' (2 + k) ≠ [] → M' 22 0 k = 2) (h2 : ∀ k, k < 4 → s_rM M' (6 + k) ≠ [] → M' 22 0 k = 0)
    (hw : ∀ w, w < 6 → ∀ r, 2 ≤ r → r < 10 → nI w ∈ s_rM M' r → M' 14 0 w = M 14 0 w ∧ K' 7 w 12 = K 7 w 12 ∧ ∀ j, K' 8 w j = K 8 w j) : s_D K' M' := by
  refine ⟨h1, h2, fun k hk w hw' hm => ?_, fun k hk w hw' hm => ?_⟩
  · obtain ⟨a, b, c⟩ := hw w hw' (6 + k) (by omega) (by omega) hm
    rw [a, b]
    exact D.2.2.1 k hk w hw' (hr _ (by omega) (by omega) _ hm)
  · obtain ⟨a, b, c⟩ := hw w hw' (2 + k) (by omega) (by omega) hm
    rw [a, b, c]
    exact D.2.2.2 k hk w hw' (hr _ (by omega) (by omega) _ hm)
theorem s_ne0 {l l' : List Int32} (h : ∀ y ∈ l, y ∈ l') (n : l ≠ []) : l' ≠ [] := fun z => by
  rw [z] at h
  cases l with
  | nil => exact n rfl
  | cons a t => exact absurd (h a List.mem_cons_self) List.not_mem_nil
theorem s_D.gen {K K' M M' : kM} (D : s_D K M) (hr : ∀ r, 2 ≤ r → r < 10 → ∀ y ∈ s_rM M' r, y ∈ s_rM M r) (e22 : ∀ k, M' 22 0 k = M 22 0 k)
    (hw : ∀ w, w < 6 → ∀ r, 2 ≤ r → r < 10 → nI w ∈ s_rM M' r → M' 14 0 w = M 14 0 w ∧ K' 7 w 12 = K 7 w 12 ∧ ∀ j, K' 8 w j = K 8 w j) : s_D K' M' :=
  D.gen2 hr (fun k hk h => by rw [e22]; exact D.1 k hk (s_ne0 (hr _ (by omega) (by omega)) h)) (fun k hk h => by rw [e22]; exact D.2.1 k hk (s_ne0 (hr _ (by omega) (by omega)) h)) hw
theorem s_D.same {K K' M M' : kM} (D : s_D K M) (hr : ∀ r, 2 ≤ r → r < 10 → s_rM M' r = s_rM M r) (e22 : ∀ k, M' 22 0 k = M 22 0 k) (e14 : ∀ w, M' 14 0 w = M 14 0 w) (e12 : ∀ w, K' 7 w 12 = K 7 w 12) (e8 : ∀ w j, K' 8 w j = K 8 w j) : s_D K' M' :=
  D.gen (fun r h1 h2 y hy => by rw [hr r h1 h2] at hy; exact hy) e22 (fun w _ _ _ _ _ => ⟨e14 w, e12 w, e8 w⟩)
theorem s_D.up {K M : kM} (D : s_D K M) {f i j f' i' j' : Nat} {v v' : Int32} (h1 : f ≠ 8) (h2 : f ≠ 7 ∨ j ≠ 12) (h3 : f' ≠ 14) (h4 : f' ≠ 19) (h5 : f' ≠ 20) (h6 : f' ≠ 22) : s_D (k_up K f i j v) (k_up M f' i' j' v') :=
  D.same (fun _ _ _ => s_rM_up h4 h5) (fun _ => ku_f h6.symm) (fun _ => ku_f h3.symm) (fun w => by
    rcases h2 with h | h
    · exact ku_f h.symm
    · exact ku_j h.symm) (fun _ _ => ku_f h1.symm)
theorem s_D.upK {K M : kM} (D : s_D K M) {f i j : Nat} {v : Int32} (h1 : f ≠ 8) (h2 : f ≠ 7 ∨ j ≠ 12) : s_D (k_up K f i j v) M :=
  D.same (fun _ _ _ => rfl) (fun _ => rfl) (fun _ => rfl) (fun w => by
    rcases h2 with h | h
    · exact ku_f h.symm
    · exact ku_j h.symm) (fun _ _ => ku_f h1.symm)
theorem s_D.upM {K M : kM} (D : s_D K M) {f' i' j' : Nat} {v' : Int32} (h3 : f' ≠ 14) (h4 : f' ≠ 19) (h5 : f' ≠ 20) (h6 : f' ≠ 22) : s_D K (k_up M f' i' j' v') :=
  D.same (fun _ _ _ => s_rM_up h4 h5) (fun _ => ku_f h6.symm) (fun _ => ku_f h3.symm) (fun _ => rfl) (fun _ _ => rfl)
theorem s_A.nin {p : Nat} {M : kM} (A : s_A p M) {g r : Nat} (hg : g < 6) (h : M 5 0 g ≠ 2) (h2 : 2 ≤ r) (hr : r < 14) : nI g ∉ s_rM M r := by
  intro z
  have c : 1 ≤ s_c M r g := List.one_le_count_iff.mpr z
  have b := A.cb g hg
  rw [if_neg h] at b
  unfold s_cB at b
  rcases m_c14 hr with rfl | rfl | rfl | rfl | rfl | rfl | rfl | rfl | rfl | rfl | rfl | rfl | rfl | rfl <;> omega
/-- the whole relation: p the processor whose turn it is, x the guest whose place is left out, y the guest that ends -/
def s_R (p x y : Nat) (K M : kM) : Prop := g_Inv K ∧ m_Inv M ∧ s_E x K M ∧ s_A p M ∧ s_B M ∧ (∃ rk, s_C rk y M) ∧ s_D K M
theorem s_R.I {p x y : Nat} {K M : kM} (R : s_R p x y K M) : g_Inv K := R.1
theorem s_R.J {p x y : Nat} {K M : kM} (R : s_R p x y K M) : m_Inv M := R.2.1
theorem s_R.E {p x y : Nat} {K M : kM} (R : s_R p x y K M) : s_E x K M := R.2.2.1
theorem s_R.A {p x y : Nat} {K M : kM} (R : s_R p x y K M) : s_A p M := R.2.2.2.1
theorem s_R.B {p x y : Nat} {K M : kM} (R : s_R p x y K M) : s_B M := R.2.2.2.2.1
theorem s_R.C {p x y : Nat} {K M : kM} (R : s_R p x y K M) : ∃ rk, s_C rk y M := R.2.2.2.2.2.1
theorem s_R.D {p x y : Nat} {K M : kM} (R : s_R p x y K M) : s_D K M := R.2.2.2.2.2.2
theorem s_R.reg {p x y : Nat} {K M : kM} (R : s_R p x y K M) {g a : Nat} {v : Int32} (hg : g < 6) (ha : a < 4) (h2 : M 5 0 g ≠ 2) : s_R p x y (k_up K 8 g a v) (k_up M 15 0 (g * 4 + a) v) := by
  obtain ⟨I, J, E, A, B, ⟨rk, C⟩, D⟩ := R
  refine ⟨I.up trivial, k_Inv.up J trivial, E.w_re hg ha v, A.up (by decide) (by decide) (by decide) (by decide), B.up (by decide) (by decide) (by decide) (by decide), ⟨rk, C.up (by decide) (by decide) (by decide) (by decide) (by decide)⟩, ?_⟩
  refine D.gen (fun r _ _ y hy => by rw [s_rM_up (by decide) (by decide)] at hy; exact hy) (fun k => ku_f (by decide)) (fun w hw r h1 h3 hm => ⟨ku_f (by decide), ku_f (by decide), fun j => ku_i (fun z => ?_)⟩)
  rw [s_rM_up (by decide) (by decide), z] at hm
  exact A.nin hg h2 h1 (by omega) hm
theorem s_R.mem {p x y : Nat} {K M : kM} (R : s_R p x y K M) {j : Nat} {v : Int32} : s_R p x y (k_up K 4 0 j v) (k_up M 17 0 j v) := by
  obtain ⟨I, J, E, A, B, ⟨rk, C⟩, D⟩ := R
  exact ⟨I.up trivial, k_Inv.up J trivial, E.w_me v, A.up (by decide) (by decide) (by decide) (by decide), B.up (by decide) (by decide) (by decide) (by decide), ⟨rk, C.up (by decide) (by decide) (by decide) (by decide) (by decide)⟩, D.up (by decide) (Or.inl (by decide)) (by decide) (by decide) (by decide) (by decide)⟩
theorem s_R.nu {p x y : Nat} {K M : kM} (R : s_R p x y K M) {j : Nat} {v : Int32} : s_R p x y (k_up K 0 0 (6 + j) v) (k_up M 0 0 (25 + j) v) := by
  obtain ⟨I, J, E, A, B, ⟨rk, C⟩, D⟩ := R
  exact ⟨I.up trivial, k_Inv.up J trivial, E.w_nu v, A.up (by decide) (by decide) (by decide) (by decide), B.up (by decide) (by decide) (by decide) (by decide), ⟨rk, C.up (by decide) (by decide) (by decide) (by decide) (by decide)⟩, D.up (by decide) (Or.inl (by decide)) (by decide) (by decide) (by decide) (by decide)⟩
theorem s_R.hdl {p x y : Nat} {K M : kM} (R : s_R p x y K M) {g : Nat} {v : Int32} (hg : g < 6) (hv : v = -1 ∨ vp_in v 32) : s_R p x y (k_up K 7 g 5 v) (k_up M 7 0 g v) := by
  obtain ⟨I, J, E, A, B, ⟨rk, C⟩, D⟩ := R
  exact ⟨I.up trivial, k_Inv.up J hv, E.w_hd hg v, A.up (by decide) (by decide) (by decide) (by decide), B.up (by decide) (by decide) (by decide) (by decide), ⟨rk, C.up (by decide) (by decide) (by decide) (by decide) (by decide)⟩, D.up (by decide) (Or.inr (by decide)) (by decide) (by decide) (by decide) (by decide)⟩
theorem s_R.trp {p x y : Nat} {K M : kM} (R : s_R p x y K M) {g : Nat} {v : Int32} (hg : g < 6) : s_R p x y (k_up K 7 g 11 v) (k_up M 13 0 g v) := by
  obtain ⟨I, J, E, A, B, ⟨rk, C⟩, D⟩ := R
  exact ⟨I.up trivial, k_Inv.up J trivial, E.w_tr hg v, A.up (by decide) (by decide) (by decide) (by decide), B.up (by decide) (by decide) (by decide) (by decide), ⟨rk, C.up (by decide) (by decide) (by decide) (by decide) (by decide)⟩, D.up (by decide) (Or.inr (by decide)) (by decide) (by decide) (by decide) (by decide)⟩
theorem s_R.out {p x y : Nat} {K M : kM} (R : s_R p x y K M) {g : Nat} {v : Int32} (hg : g < 6) : s_R p x y (k_up K 7 g 10 v) (k_up M 12 0 g v) := by
  obtain ⟨I, J, E, A, B, ⟨rk, C⟩, D⟩ := R
  exact ⟨I.up trivial, k_Inv.up J trivial, E.w_oc hg v, A.up (by decide) (by decide) (by decide) (by decide), B.up (by decide) (by decide) (by decide) (by decide), ⟨rk, C.up (by decide) (by decide) (by decide) (by decide) (by decide)⟩, D.up (by decide) (Or.inr (by decide)) (by decide) (by decide) (by decide) (by decide)⟩
theorem s_R.lck {p x y : Nat} {K M : kM} (R : s_R p x y K M) {k : Nat} {v : Int32} (hv : v = -1 ∨ vp_in v 6) : s_R p x y (k_up K 15 k 1 v) (k_up M 23 0 k v) := by
  obtain ⟨I, J, E, A, B, ⟨rk, C⟩, D⟩ := R
  exact ⟨I.up hv, k_Inv.up J hv, E.w_lo v, A.up (by decide) (by decide) (by decide) (by decide), B.up (by decide) (by decide) (by decide) (by decide), ⟨rk, C.up (by decide) (by decide) (by decide) (by decide) (by decide)⟩, D.up (by decide) (Or.inl (by decide)) (by decide) (by decide) (by decide) (by decide)⟩
theorem s_R.tim {p x y : Nat} {K M : kM} (R : s_R p x y K M) {q : Nat} {v : Int32} : s_R p x y (k_up K 11 q 2 v) (k_up M 25 0 q v) := by
  obtain ⟨I, J, E, A, B, ⟨rk, C⟩, D⟩ := R
  exact ⟨I.up trivial, k_Inv.up J trivial, E.w_ti v, A.up (by decide) (by decide) (by decide) (by decide), B.up (by decide) (by decide) (by decide) (by decide), ⟨rk, C.up (by decide) (by decide) (by decide) (by decide) (by decide)⟩, D.up (by decide) (Or.inl (by decide)) (by decide) (by decide) (by decide) (by decide)⟩
theorem s_R.thr {p x y : Nat} {K M : kM} (R : s_R p x y K M) {v : Int32} : s_R p x y K (k_up M 0 0 32 v) := by
  obtain ⟨I, J, E, A, B, ⟨rk, C⟩, D⟩ := R
  exact ⟨I, k_Inv.up J trivial, E.x_th v, A.up (by decide) (by decide) (by decide) (by decide), B.up (by decide) (by decide) (by decide) (by decide), ⟨rk, C.up (by decide) (by decide) (by decide) (by decide) (by decide)⟩, D.upM (by decide) (by decide) (by decide) (by decide)⟩
theorem s_R.pl {p x y : Nat} {K M : kM} (R : s_R p x y K M) {v : Int32} (hv : vp_in v 32) : s_R p x y (k_up K 7 x 4 v) M := by
  obtain ⟨I, J, E, A, B, C, D⟩ := R
  exact ⟨I.up hv, J, E.x_pl v, A, B, C, D.upK (by decide) (Or.inr (by decide))⟩
theorem s_R.plm {p x y : Nat} {K M : kM} (R : s_R p x y K M) {v : Int32} (hv : vp_in v 32) : s_R p x y K (k_up M 6 0 x v) := by
  obtain ⟨I, J, E, A, B, ⟨rk, C⟩, D⟩ := R
  exact ⟨I, k_Inv.up J hv, E.x_plm v, A.up (by decide) (by decide) (by decide) (by decide), B.up (by decide) (by decide) (by decide) (by decide), ⟨rk, C.up (by decide) (by decide) (by decide) (by decide) (by decide)⟩, D.upM (by decide) (by decide) (by decide) (by decide)⟩
theorem s_E.ox {x : Nat} {K M : kM} (E : s_E x K M) (y : Nat) (h : x < 6 → K 7 x 4 = M 6 0 x) : s_E y K M := by
  obtain ⟨a1, a2, a3, a4, a5, a6, a7, a8, r⟩ := E
  refine ⟨a1, a2, a3, a4, a5, a6, a7, fun g hg _ => ?_, r⟩
  by_cases z : g = x
  · rw [z]
    exact h (by omega)
  · exact a8 g hg z
theorem s_R.ox {p x y : Nat} {K M : kM} (R : s_R p x y K M) (x' : Nat) (h : x < 6 → K 7 x 4 = M 6 0 x) : s_R p x' y K M := by
  obtain ⟨I, J, E, A, B, C, D⟩ := R
  exact ⟨I, J, E.ox x' h, A, B, C, D⟩
/-- a page goes -/
theorem s_R.unm {p x y : Nat} {K M : kM} (R : s_R p x y K M) {g q : Nat} (hg : g < 6) (hq : q < 4) (h5 : M 5 0 g ≠ -1) : s_R p x y (g_drop K g (nI q)) (m_unmap M g q) := by
  have I1 := iv_drop (g := g) (p := nI q) R.I
  have J1 := iv_munmap (g := g) (p := q) R.J
  obtain ⟨I, J, E, A, B, ⟨rk, C⟩, D⟩ := R
  have ep := E.pg g hg q hq
  unfold g_drop at I1 ⊢
  unfold m_unmap at J1 ⊢
  rw [s_nC (by omega)] at I1 ⊢
  rcases J 16 0 (g * 4 + q) with h | h
  · rw [if_pos (ep.trans h)]
    rw [if_neg (by rw [h]; decide)]
    exact ⟨I, J, E, A, B, ⟨rk, C⟩, D⟩
  · obtain ⟨f, hf, ef⟩ := r_nat h (by decide)
    have hm1 : ¬ K 9 g q = -1 := by
      rw [ep, ef]
      intro z
      have := nI_toInt (n := f) (by omega)
      rw [z] at this
      have e : (-1 : Int32).toInt = -1 := by decide
      omega
    have h0 : 0 ≤ M 16 0 (g * 4 + q) := by rw [ef]; exact nI_pos' (by omega)
    rw [if_neg hm1] at I1 ⊢
    rw [if_pos h0] at J1 ⊢
    obtain ⟨B1, ht, hn⟩ := B.unset J (u := M 9 0 g - 1) hg hq hf h5 ef rfl
    rw [ef, s_nC (by omega)] at J1 ⊢
    have eM : k_up (k_up (k_up M 18 0 f 0) 16 0 (g * 4 + q) (-1)) 9 0 g (k_up (k_up M 18 0 f 0) 16 0 (g * 4 + q) (-1) 9 0 g - 1) = k_up (k_up (k_up M 16 0 (g * 4 + q) (-1)) 9 0 g (M 9 0 g - 1)) 18 0 f 0 := by
      rw [ku_f (by decide), ku_f (by decide), ku_comm (f := 18) (fun z => absurd z.1 (by decide)), ku_comm (f := 18) (fun z => absurd z.1 (by decide))]
    have eK : g_give (k_up (k_up K 9 g q (-1)) 7 g 7 (k_up K 9 g q (-1) 7 g 7 - 1)) (K 9 g q) = k_up (k_up (k_up (k_up K 9 g q (-1)) 7 g 7 (M 9 0 g - 1)) 5 0 f 0) 3 0 2 (k_up (k_up K 9 g q (-1)) 7 g 7 (M 9 0 g - 1) 3 0 2 + 1) := by
      unfold g_give
      rw [ku_f (f := 9) (by decide), E.us g hg, ep, ef, s_nC (by omega), ku_f (f := 5) (by decide)]
    rw [eM] at J1 ⊢
    rw [eK] at I1 ⊢
    refine ⟨I1, J1, ((E.w_pg hg hq (-1)).w_us hg _).give hf (by rw [ku_f (by decide), ku_f (by decide)]; exact ht), ((A.up (by decide) (by decide) (by decide) (by decide)).up (by decide) (by decide) (by decide) (by decide)).up (by decide) (by decide) (by decide) (by decide), B1, ⟨rk, ?_⟩, ?_⟩
    · have b := C.2.2 g hg h5
      have eu := B.2.2 g hg h5
      have np : s_np M g ≤ 4 := by
        unfold s_np s_o
        split <;> split <;> split <;> split <;> omega
      have u1 : (M 9 0 g).toInt = (s_np M g : Int) := by rw [eu]; exact nI_toInt (by omega)
      have e1 : (1 : Int32).toInt = 1 := by decide
      have u2 : (M 9 0 g - 1).toInt = (M 9 0 g).toInt - 1 := by rw [s_is (by omega) (by omega) (by omega) (by omega), e1]
      refine ((C.up (by decide) (by decide) (by decide) (by decide) (by decide)).us (by omega) ?_).up (by decide) (by decide) (by decide) (by decide) (by decide)
      rw [ku_f (by decide), ku_f (by decide)]
      omega
    · exact (((D.up (by decide) (Or.inl (by decide)) (by decide) (by decide) (by decide) (by decide)).up (by decide) (Or.inr (by decide)) (by decide) (by decide) (by decide) (by decide)).up (by decide) (Or.inl (by decide)) (by decide) (by decide) (by decide) (by decide)).upK (by decide) (Or.inl (by decide))
