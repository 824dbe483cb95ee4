/-! ===== THE TWO SIDE BY SIDE (12): reaping, locks, channels ===== -/
theorem s_rp {x : Nat} {K M : kM} (E : s_E x K M) (I : g_Inv K) {g : Nat} {a b : Int32} : ∀ c i, c + i = 6 → (m_rpX M g c i = -1 ∧ m_rpT M g c i = M ∧ g_rpT K g a b c i = k_up K 8 g a.toNatClampNeg (-1)) ∨ (∃ t, t < 6 ∧ M 5 0 t = 3 ∧ M 11 0 t = nI g ∧ m_rpX M g c i = nI t ∧ m_rpT M g c i = m_rp1 M g t ∧ g_rpT K g a b c i = g_rp1 K g a b t)
  | 0, i, h => Or.inl ⟨rfl, rfl, rfl⟩
  | c + 1, i, h => by
    unfold m_rpX m_rpT g_rpT
    rw [E.st i (by omega), E.pa i (by omega), show K 7 g 0 = nI g from I 7 g 0]
    by_cases z : M 5 0 i = 3
    · rw [if_pos z, if_pos z, if_pos z]
      by_cases y : M 11 0 i = nI g
      · rw [if_pos y, if_pos y, if_pos y]
        exact Or.inr ⟨i, by omega, z, y, rfl, rfl, rfl⟩
      · rw [if_neg y, if_neg y, if_neg y]
        exact s_rp E I c (i + 1) (by omega)
    · rw [if_neg z, if_neg z, if_neg z]
      exact s_rp E I c (i + 1) (by omega)
theorem s_R.reap {p x : Nat} {K M : kM} (R : s_R p x 6 K M) {g a b : Nat} (hg : g < 6) (ha : a < 4) (hb : b < 4) (h1 : M 5 0 g = 1) : s_R p x 6 (g_rpT K g (nI a) (nI b) 6 0) (m_rpE (k_up (m_rpT M g 6 0) 15 0 (g * 4 + a) (m_rpX M g 6 0)) g b (m_rpX M g 6 0)) := by
  rcases s_rp R.E R.I (g := g) (a := nI a) (b := nI b) 6 0 rfl with ⟨e1, e2, e3⟩ | ⟨t, ht, t3, tp, e1, e2, e3⟩
  · rw [e1, e2, e3, s_nC (by omega)]
    unfold m_rpE
    rw [if_pos (by decide)]
    exact R.reg hg ha (by rw [h1]; decide)
  · rw [e1, e2, e3]
    have htg : t ≠ g := fun z => by
      rw [z, h1] at t3
      exact absurd t3 (by decide)
    have R2 : s_R p x 6 (k_up (k_up K 7 t 3 (-1)) 7 g 8 (M 10 0 g - M 8 0 t)) (k_up (k_up M 5 0 t (-1)) 10 0 g (M 10 0 g - M 8 0 t)) := by
      obtain ⟨I, J, E, A, B, ⟨rk, C⟩, D⟩ := R
      refine ⟨k_Inv.up (k_Inv.up I trivial) trivial, k_Inv.up (k_Inv.up J trivial) trivial, (E.w_st ht _).w_gi hg _, (A.st ht (Or.inr rfl) (by rw [t3]; decide) (by rw [t3]; decide) (fun j c d z => ?_)).up (by decide) (by decide) (by decide) (by decide), ?_, ⟨rk, ?_⟩, (D.up (by decide) (Or.inr (by decide)) (by decide) (by decide) (by decide) (by decide)).up (by decide) (Or.inr (by decide)) (by decide) (by decide) (by decide) (by decide)⟩
      · have := A.h1 j c d t ht z
        rw [t3] at this
        exact absurd this (by decide)
      · refine (s_B.congr B (fun c _ => ?_) (fun c => ku_f (by decide)) (fun c => ku_f (by decide)) (fun c => ku_f (by decide)) : s_B (k_up M 5 0 t (-1))).up (by decide) (by decide) (by decide) (by decide)
        by_cases z : c = t
        · rw [z, ku_eq]
          exact fun y => absurd rfl y
        · rw [ku_j z]
          exact id
      · refine C.reap (g := g) (c := t) hg ht (by rw [h1]; decide) t3 tp (fun c => ?_) (fun c => by rw [ku_f (by decide), ku_f (by decide)]) (fun c => by rw [ku_f (by decide), ku_f (by decide)]) (fun c => ?_) (fun c => by rw [ku_f (by decide), ku_f (by decide)])
        · rw [ku_f (by decide)]
          by_cases z : c = t
          · rw [z, ku_eq, if_pos rfl]
          · rw [ku_j z, if_neg z]
        · by_cases z : c = g
          · rw [z, ku_eq, if_pos rfl]
          · rw [ku_j z, ku_f (by decide), if_neg z]
    have s5 : k_up (k_up M 5 0 t (-1)) 10 0 g (M 10 0 g - M 8 0 t) 5 0 g = 1 := by rw [ku_f (by decide), ku_j htg.symm, h1]
    have R3 := ((R2.nu (j := 4) (v := K 0 0 10 + 1)).reg (g := g) (a := a) (v := nI t) hg ha (by rw [ku_f (by decide), s5]; decide)).reg (g := g) (a := b) (v := M 12 0 t) hg hb (by rw [ku_f (by decide), ku_f (by decide), s5]; decide)
    have eK : g_rp1 K g (nI a) (nI b) t = k_up (k_up (k_up (k_up (k_up K 7 t 3 (-1)) 7 g 8 (M 10 0 g - M 8 0 t)) 0 0 (6 + 4) (K 0 0 10 + 1)) 8 g a (nI t)) 8 g b (M 12 0 t) := by
      unfold g_rp1
      dsimp only
      have q1 : k_up K 7 t 3 (-1) 7 g 8 = M 10 0 g := by rw [ku_j (by decide), R.E.gi g hg]
      have q2 : k_up K 7 t 3 (-1) 7 t 6 = M 8 0 t := by rw [ku_j (by decide), R.E.qu t ht]
      rw [q1, q2, s_nC (by omega), s_nC (by omega)]
      have q3 : k_up (k_up (k_up K 7 t 3 (-1)) 7 g 8 (M 10 0 g - M 8 0 t)) 8 g a (nI t) 7 t 10 = M 12 0 t := by rw [ku_f (by decide), ku_j (by decide), ku_j (by decide), R.E.oc t ht]
      rw [q3, ku_f (f := 8) (by decide), ku_f (f := 8) (by decide), ku_f (f := 7) (by decide), ku_f (f := 7) (by decide), ku_comm (f := 8) (f' := 0) (fun z => absurd z.1 (by decide)), ku_comm (f := 8) (f' := 0) (fun z => absurd z.1 (by decide))]
    have eM : m_rpE (k_up (m_rp1 M g t) 15 0 (g * 4 + a) (nI t)) g b (nI t) = k_up (k_up (k_up (k_up (k_up M 5 0 t (-1)) 10 0 g (M 10 0 g - M 8 0 t)) 0 0 (25 + 4) (K 0 0 10 + 1)) 15 0 (g * 4 + a) (nI t)) 15 0 (g * 4 + b) (M 12 0 t) := by
      unfold m_rpE m_rp1
      rw [if_neg (nI_pos (by omega)), s_nC (by omega)]
      have q1 : k_up M 5 0 t (-1) 10 0 g = M 10 0 g := ku_f (by decide)
      have q2 : k_up M 5 0 t (-1) 8 0 t = M 8 0 t := ku_f (by decide)
      rw [q1, q2, ku_f (f := 10) (a := 0) (by decide), ku_f (f := 5) (a := 0) (by decide), ku_f (f := 15) (a := 12) (by decide), ku_f (f := 0) (a := 12) (by decide), ku_f (f := 10) (a := 12) (by decide), ku_f (f := 5) (a := 12) (by decide), R.E.nu 4 (by omega)]
    rw [eK, eM]
    exact R3
/-- a guest in hand is blocked -/
theorem s_R.blk {p x : Nat} {K M : kM} (R : s_R p x 6 K M) {g r a : Nat} {v : Int32} (hg : g < 6) (hp : p < 2) (hh : M 24 0 p = nI g) (h1 : M 5 0 g = 1) (ha : a < 4) (h2 : 2 ≤ r) (hr : r < 14) (hS : ∀ k, k < 4 → r = 2 + k → M 22 0 k = 2 ∧ v = K 8 g a) (hV : ∀ k, k < 4 → r = 6 + k → M 22 0 k = 0 ∧ v = nI a) :
    s_R p x 6 (g_block K g (nI a) r) (m_blk (k_up M 14 0 g v) g r) := by
  obtain ⟨I, J, E, A, B, ⟨rk, C⟩, D⟩ := R
  have va : vp_in (nI a) 4 := vp_in_nI ha (by decide)
  have J1 : m_Inv (k_up M 14 0 g v) := k_Inv.up J trivial
  have A1 : s_A p (k_up M 14 0 g v) := A.up (by decide) (by decide) (by decide) (by decide)
  have s1 : k_up M 14 0 g v 5 0 g = 1 := by rw [ku_f (by decide), h1]
  have n0 : k_up M 14 0 g v 5 0 g ≠ 0 := by rw [s1]; decide
  have n2 : k_up M 14 0 g v 5 0 g ≠ 2 := by rw [s1]; decide
  have n5 : k_up M 14 0 g v 5 0 g ≠ -1 := by rw [s1]; decide
  have hl := A1.len5 J1 hg n0 n2 hr
  have ht := A1.tot5 J1 hg n0 n2
  have er : ∀ r', s_rM (m_blk (k_up M 14 0 g v) g r) r' = if r' = r then s_rM M r ++ [nI g] else s_rM M r' := fun r' => by
    unfold m_blk
    have J2 : m_Inv (k_up (k_up M 14 0 g v) 5 0 g 2) := k_Inv.up J1 trivial
    rw [s_add J2 (by rw [s_rM_up (by decide) (by decide)]; exact hl), s_rM_up (by decide) (by decide), s_rM_up (by decide) (by decide), s_rM_up (by decide) (by decide), s_rM_up (by decide) (by decide)]
  have fM : ∀ b i j, b ≠ 5 → b ≠ 19 → b ≠ 20 → m_blk (k_up M 14 0 g v) g r b i j = k_up M 14 0 g v b i j := fun b i j c1 c2 c3 => by
    unfold m_blk
    rw [s_mAf c2 c3, ku_f c1]
  have fK : ∀ w, w ≠ g → g_block K g (nI a) r 7 w 12 = K 7 w 12 := fun w hw => by
    unfold g_block
    rw [s_rAf (by decide) (by decide), ku_i hw, ku_i hw]
  have gK : g_block K g (nI a) r 7 g 12 = nI a := by
    unfold g_block
    rw [s_rAf (by decide) (by decide), ku_eq]
  have hK : ∀ w j, g_block K g (nI a) r 8 w j = K 8 w j := fun w j => by
    unfold g_block
    rw [s_rAf (by decide) (by decide), ku_f (by decide), ku_f (by decide)]
  refine ⟨iv_block I hg va, iv_mblk J1 ht hr hg, (E.x_ca v).blk I J1 va hg hr hl, A1.blk J1 hg hp (by rw [ku_f (by decide)]; exact hh) s1 h2 hr, ((B.up (by decide) (by decide) (by decide) (by decide)).st n5).add _ _, ⟨rk, ((C.up (by decide) (by decide) (by decide) (by decide) (by decide)).st n5 (by decide) (Or.inl (by decide))).add _ _⟩, ⟨fun k hk h => ?_, fun k hk h => ?_, fun k hk w hw hm => ?_, fun k hk w hw hm => ?_⟩⟩
  · rw [fM _ _ _ (by decide) (by decide) (by decide), ku_f (by decide)]
    by_cases z : r = 2 + k
    · exact (hS k hk z).1
    · rw [er, if_neg (Ne.symm z)] at h
      exact D.1 k hk h
  · rw [fM _ _ _ (by decide) (by decide) (by decide), ku_f (by decide)]
    by_cases z : r = 6 + k
    · exact (hV k hk z).1
    · rw [er, if_neg (Ne.symm z)] at h
      exact D.2.1 k hk h
  · rw [fM _ _ _ (by decide) (by decide) (by decide)]
    by_cases y : w = g
    · rw [y, ku_eq, gK]
      rw [er] at hm
      by_cases z : 6 + k = r
      · exact (hV k hk z.symm).2
      · rw [if_neg z, y] at hm
        exact absurd hm (A.nin hg (by rw [h1]; decide) (by omega) (by omega))
    · rw [ku_j y, fK w y]
      refine D.2.2.1 k hk w hw ?_
      rw [er] at hm
      by_cases z : 6 + k = r
      · rw [if_pos z] at hm
        rw [z]
        rcases List.mem_append.mp hm with q | q
        · exact q
        · exact absurd (List.mem_singleton.mp q) (s_ne hw hg y)
      · rw [if_neg z] at hm
        exact hm
  · rw [fM _ _ _ (by decide) (by decide) (by decide), hK]
    by_cases y : w = g
    · rw [y, ku_eq, gK, s_nC (by omega)]
      rw [er] at hm
      by_cases z : 2 + k = r
      · exact (hS k hk z.symm).2
      · rw [if_neg z, y] at hm
        exact absurd hm (A.nin hg (by rw [h1]; decide) (by omega) (by omega))
    · rw [ku_j y, fK w y]
      refine D.2.2.2 k hk w hw ?_
      rw [er] at hm
      by_cases z : 2 + k = r
      · rw [if_pos z] at hm
        rw [z]
        rcases List.mem_append.mp hm with q | q
        · exact q
        · exact absurd (List.mem_singleton.mp q) (s_ne hw hg y)
      · rw [if_neg z] at hm
        exact hm
theorem s_R.lock {p x : Nat} {K M : kM} (R : s_R p x 6 K M) {g a k : Nat} (hg : g < 6) (hp : p < 2) (hh : M 24 0 p = nI g) (h1 : M 5 0 g = 1) (ha : a < 4) (hk : k < 4) : s_R p x 6 (if K 15 k 1 = -1 then k_up K 15 k 1 (K 7 g 0) else g_block K g (nI a) (10 + k)) (if 0 ≤ M 23 0 k then m_blk M g (10 + k) else k_up M 23 0 k (nI g)) := by
  have ps := s_pos (s_v (by decide) (R.J 23 0 k))
  rw [R.E.lo k hk, show K 7 g 0 = nI g from R.I 7 g 0]
  by_cases z : M 23 0 k = -1
  · rw [if_pos z, if_neg (fun y => ps.mp y z)]
    exact R.lck (Or.inr (vp_in_nI hg (by decide)))
  · rw [if_neg z, if_pos (ps.mpr z)]
    have := R.blk (r := 10 + k) (a := a) (v := M 14 0 g) hg hp hh h1 ha (by omega) (by omega) (fun j hj e => by omega) (fun j hj e => by omega)
    rw [ku_self] at this
    exact this
theorem s_E.put {x : Nat} {K M : kM} (E : s_E x K M) (J : m_Inv M) {k h : Nat} {v : Int32} (hk : k < 4) (hh : h < 2) (e : M 22 0 k = nI h) : s_E x (k_up (k_up K 18 k h v) 17 k 3 (nI (h + 1))) (k_up (k_up M 21 0 (k * 2 + h) v) 22 0 k (nI (h + 1))) := by
  refine ⟨?_, ?_, ?_, ?_, ?_, ?_, ?_, ?_, ?_, ?_, ?_, ?_, ?_, ?_, ?_, ?_, ?_, ?_, ?_, ?_, ?_, ?_, ?_, ?_, ?_, ?_⟩
  · intro i' h0
    simpa [k_up] using E.p0 _ h0
  · intro i' h0
    simpa [k_up] using E.p1 _ h0
  · intro i' h0
    simpa [k_up] using E.p2 _ h0
  · intro i' h0
    simpa [k_up] using E.p3 _ h0
  · intro j' h0
    simpa [k_up] using E.me _ h0
  · intro j' h0
    simpa [k_up] using E.tk _ h0
  · intro g' h0
    simpa [k_up] using E.st _ h0
  · intro g' h0 h1
    simpa [k_up] using E.pl _ h0 h1
  · intro g' h0
    simpa [k_up] using E.hd _ h0
  · intro g' h0
    simpa [k_up] using E.qu _ h0
  · intro g' h0
    simpa [k_up] using E.us _ h0
  · intro g' h0
    simpa [k_up] using E.gi _ h0
  · intro g' h0
    simpa [k_up] using E.pa _ h0
  · intro g' h0
    simpa [k_up] using E.oc _ h0
  · intro g' h0
    simpa [k_up] using E.tr _ h0
  · intro g' h0 j' h1
    simpa [k_up] using E.re _ h0 _ h1
  · intro g' h0 j' h1
    simpa [k_up] using E.pg _ h0 _ h1
  · intro p' h0
    simpa [k_up] using E.ha _ h0
  · intro p' h0
    simpa [k_up] using E.ti _ h0
  · intro r' h0
    simpa [k_up] using E.sz _ h0
  · intro r' h0
    simpa only [s_rK_up, s_rM_up, ne_eq, reduceCtorEq, not_false_eq_true, Nat.reduceEqDiff] using E.ro _ h0
  · intro k' h0
    simpa [k_up] using E.lo _ h0
  · intro k' h0
    by_cases z : k' = k
    · rw [z, ku_eq, ku_eq]
    · rw [ku_i z, ku_f (by decide), ku_j z, ku_f (by decide)]
      exact E.cs _ h0
  · intro k' h0 j' h1
    rw [ku_f (f := 17) (by decide), ku_f (f := 22) (by decide)]
    by_cases z : k' = k
    · rw [z] at h1 ⊢
      rw [ku_eq, s_nC (by omega)] at h1
      by_cases y : j' = h
      · rw [y, ku_eq, ku_eq]
      · rw [ku_j y, ku_j (by omega)]
        exact E.cv k hk j' (by rw [e, s_nC (by omega)]; omega)
    · rw [ku_j z, ku_f (by decide)] at h1
      have hj : j' < 2 := by
        have := (J 22 0 k').2
        obtain ⟨n, n1, n2⟩ := r_sz2 (J 22 0 k')
        rw [n2, s_nC (by omega)] at h1
        omega
      rw [ku_i z, ku_j (by omega)]
      exact E.cv k' h0 j' h1
  · intro j' h0
    simpa [k_up] using E.nu _ h0
  · rw [ku_f (by decide), ku_f (by decide), s_fru (by decide), s_fru (by decide)]
    exact E.fr
theorem s_E.cht {x : Nat} {K M : kM} (E : s_E x K M) (J : m_Inv M) {k h : Nat} (hk : k < 4) (hh : h < 2) (e : M 22 0 k = nI (h + 1)) : s_E x (k_row (k_up K 17 k 3 (nI h)) 18 k (va_cpy (K 18 k) (K 18 k) 1 0 h)) (k_up (k_up M 21 0 (k * 2) (M 21 0 (k * 2 + 1))) 22 0 k (nI h)) := by
  refine ⟨?_, ?_, ?_, ?_, ?_, ?_, ?_, ?_, ?_, ?_, ?_, ?_, ?_, ?_, ?_, ?_, ?_, ?_, ?_, ?_, ?_, ?_, ?_, ?_, ?_, ?_⟩
  · intro i' h0
    simpa [k_up, k_row] using E.p0 _ h0
  · intro i' h0
    simpa [k_up, k_row] using E.p1 _ h0
  · intro i' h0
    simpa [k_up, k_row] using E.p2 _ h0
  · intro i' h0
    simpa [k_up, k_row] using E.p3 _ h0
  · intro j' h0
    simpa [k_up, k_row] using E.me _ h0
  · intro j' h0
    simpa [k_up, k_row] using E.tk _ h0
  · intro g' h0
    simpa [k_up, k_row] using E.st _ h0
  · intro g' h0 h1
    simpa [k_up, k_row] using E.pl _ h0 h1
  · intro g' h0
    simpa [k_up, k_row] using E.hd _ h0
  · intro g' h0
    simpa [k_up, k_row] using E.qu _ h0
  · intro g' h0
    simpa [k_up, k_row] using E.us _ h0
  · intro g' h0
    simpa [k_up, k_row] using E.gi _ h0
  · intro g' h0
    simpa [k_up, k_row] using E.pa _ h0
  · intro g' h0
    simpa [k_up, k_row] using E.oc _ h0
  · intro g' h0
    simpa [k_up, k_row] using E.tr _ h0
  · intro g' h0 j' h1
    simpa [k_up, k_row] using E.re _ h0 _ h1
  · intro g' h0 j' h1
    simpa [k_up, k_row] using E.pg _ h0 _ h1
  · intro p' h0
    simpa [k_up, k_row] using E.ha _ h0
  · intro p' h0
    simpa [k_up, k_row] using E.ti _ h0
  · intro r' h0
    simpa [k_up, k_row] using E.sz _ h0
  · intro r' h0
    have e1 : s_rK (k_row (k_up K 17 k 3 (nI h)) 18 k (va_cpy (K 18 k) (K 18 k) 1 0 h)) r' = s_rK K r' := by
      unfold s_rK
      rw [k_row_ne (fun z => absurd z.1 (by decide)), k_row_ne (fun z => absurd z.1 (by decide)), ku_f (by decide), ku_f (by decide)]
      apply List.map_congr_left
      intro j _
      rw [ku_f (by decide)]
    rw [e1, s_rM_up (by decide) (by decide), s_rM_up (by decide) (by decide)]
    exact E.ro _ h0
  · intro k' h0
    simpa [k_up, k_row] using E.lo _ h0
  · intro k' h0
    rw [k_row_ne (fun z => absurd z.1 (by decide))]
    by_cases z : k' = k
    · rw [z, ku_eq, ku_eq]
    · rw [ku_i z, ku_j z, ku_f (by decide)]
      exact E.cs _ h0
  · intro k' h0 j' h1
    rw [ku_f (by decide)]
    by_cases z : k' = k
    · rw [z] at h1 ⊢
      rw [ku_eq, s_nC (by omega)] at h1
      have hj : j' = 0 ∧ h = 1 := by omega
      rw [k_row_eq, hj.1, hj.2]
      show _ = k_up M 21 0 (k * 2) (M 21 0 (k * 2 + 1)) 21 0 (k * 2)
      rw [ku_eq]
      show (if 0 ≤ 0 ∧ 0 < 0 + 1 then K 18 k (1 + (0 - 0)) else K 18 k 0) = _
      rw [if_pos (by decide)]
      exact E.cv k hk 1 (by rw [e, s_nC (by omega)]; omega)
    · rw [ku_j z, ku_f (by decide)] at h1
      have hj : j' < 2 := by
        obtain ⟨n, n1, n2⟩ := r_sz2 (J 22 0 k')
        rw [n2, s_nC (by omega)] at h1
        omega
      rw [k_row_ne (fun y => z y.2), ku_f (by decide), ku_j (by omega)]
      exact E.cv k' h0 j' h1
  · intro j' h0
    simpa [k_up, k_row] using E.nu _ h0
  · rw [k_row_ne (fun z => absurd z.1 (by decide)), ku_f (by decide), s_fru (by decide), s_fru (by decide)]
    exact E.fr
