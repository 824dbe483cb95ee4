/-! ===== THE TWO SIDE BY SIDE (13): sending and receiving ===== -/
theorem s_ful {K : kM} {k h : Nat} (hh : h ≤ 2) (e : K 17 k 3 = nI h) : (g_full K k = 0) ↔ h < 2 := by
  unfold g_full
  rw [e]
  have : nI h < 2 ↔ h < 2 := nI_ltI (b := 2) (by omega) (by decide)
  by_cases z : h < 2
  · rw [if_pos (this.mpr z)]
    exact ⟨fun _ => z, fun _ => rfl⟩
  · rw [if_neg (fun y => z (this.mp y))]
    exact ⟨fun y => absurd y (by decide), fun y => absurd y z⟩
theorem s_emp {M : kM} (J : m_Inv M) {r : Nat} : (s_rM M r = []) ↔ M 20 0 r ≤ 0 := by
  refine ⟨fun h => ?_, fun h => ?_⟩
  · refine Decidable.byContradiction fun z => ?_
    rw [s_tk J z] at h
    exact absurd h (List.cons_ne_nil _ _)
  · have : M 20 0 r = 0 := Int32.le_antisymm h (J 20 0 r).1
    unfold s_rM
    rw [this]
    rfl
theorem s_R.send {p x : Nat} {K M : kM} (R : s_R p x 6 K M) {g a k : Nat} (hg : g < 6) (hp : p < 2) (hh : M 24 0 p = nI g) (h1 : M 5 0 g = 1) (ha : a < 4) (hk : k < 4) (n : Int32) (hn : n = nI k) : s_R p x 6 (g_sendT K g (nI a) n) (m_snd M g k (M 15 0 (g * 4 + a))) := by
  subst hn
  have eo : g_out (nI k) 4 = 0 := by
    rw [s_on4]
    unfold m_no
    rw [if_neg (nI_pos (by omega)), if_pos (show nI k ≤ 3 from nI_le (a := k) (b := 3) (by omega) (by decide))]
  obtain ⟨h, hh2, eh⟩ := r_sz2 (R.J 22 0 k)
  have ec : K 17 k 3 = nI h := (R.E.cs k hk).trans eh
  have ev := R.E.re g hg a ha
  unfold g_sendT
  rw [if_pos eo, s_nC (n := k) (by omega), s_nC (n := a) (by omega)]
  have e22 : ∀ m : Nat, m < 3 → (M 22 0 k = nI m ↔ h = m) := fun m hm => by
    rw [eh]
    exact nI_eq (by omega) (by omega)
  by_cases zf : h < 2
  · rw [if_pos ((s_ful hh2 ec).mpr zf)]
    have n2 : ¬ (2 ≤ M 22 0 k) := by
      rw [eh]
      exact nI_ge (b := 2) zf (by decide)
    by_cases ze : M 20 0 (6 + k) ≤ 0
    · obtain ⟨x1, x2⟩ := s_rX0 ((R.E.z R.J (r := 6 + k) (by omega)).mpr ze)
      rw [x1, x2, if_pos rfl, ev]
      have eM : m_snd M g k (M 15 0 (g * 4 + a)) = k_up (k_up M 21 0 (k * 2 + h) (M 15 0 (g * 4 + a))) 22 0 k (nI (h + 1)) := by
        have e0 : m_snd0 M g k (M 15 0 (g * 4 + a)) = k_up (k_up M 21 0 (k * 2 + h) (M 15 0 (g * 4 + a))) 22 0 k (nI (h + 1)) := by
          unfold m_snd0
          rw [if_neg n2, ku_f (by decide), eh, s_nC (by omega), nI_1]
        unfold m_snd
        rw [if_pos ze, e0]
        split <;> rfl
      have eK : g_put K k (M 15 0 (g * 4 + a)) = k_up (k_up K 18 k h (M 15 0 (g * 4 + a))) 17 k 3 (nI (h + 1)) := by
        unfold g_put
        rw [if_pos ((s_ful hh2 ec).mpr zf), ku_f (by decide), ec, s_nC (by omega), nI_1]
      have I1 := iv_put (k := k) (v := M 15 0 (g * 4 + a)) R.I
      rw [eM, eK]
      rw [eK] at I1
      obtain ⟨I, J, E, A, B, ⟨rk, C⟩, D⟩ := R
      have vh : 0 ≤ nI (h + 1) ∧ nI (h + 1) ≤ 2 := ⟨nI_pos' (by omega), nI_le (a := h + 1) (b := 2) (by omega) (by decide)⟩
      refine ⟨I1, k_Inv.up (k_Inv.up J trivial) vh, E.put J hk zf eh, (A.up (by decide) (by decide) (by decide) (by decide)).up (by decide) (by decide) (by decide) (by decide), (B.up (by decide) (by decide) (by decide) (by decide)).up (by decide) (by decide) (by decide) (by decide), ⟨rk, (C.up (by decide) (by decide) (by decide) (by decide) (by decide)).up (by decide) (by decide) (by decide) (by decide) (by decide)⟩, ?_⟩
      refine D.gen2 (fun r _ _ y hy => by rw [s_rM_up (by decide) (by decide), s_rM_up (by decide) (by decide)] at hy; exact hy) (fun k' hk' h' => ?_) (fun k' hk' h' => ?_) (fun w _ _ _ _ _ => ⟨by rw [ku_f (by decide), ku_f (by decide)], by rw [ku_f (by decide), ku_f (by decide)], fun j => by rw [ku_f (by decide), ku_f (by decide)]⟩)
      · rw [s_rM_up (by decide) (by decide), s_rM_up (by decide) (by decide)] at h'
        have d := D.1 k' hk' h'
        by_cases z : k' = k
        · rw [z] at d
          have := (e22 2 (by omega)).mp d
          omega
        · rw [ku_j z, ku_f (by decide)]
          exact d
      · rw [s_rM_up (by decide) (by decide), s_rM_up (by decide) (by decide)] at h'
        by_cases z : k' = k
        · rw [z] at h'
          exact absurd ((s_emp J).mpr ze) h'
        · rw [ku_j z, ku_f (by decide)]
          exact D.2.1 k' hk' h'
    · have h0 : M 22 0 k = 0 := R.D.2.1 k hk (fun z => ze ((s_emp R.J).mp z))
      obtain ⟨w, hw, ew, e2, A0⟩ := R.A.hd R.J ze (by omega) (by omega)
      obtain ⟨x1, x2⟩ := R.E.hd0 R.I R.J (r := 6 + k) (by omega) ze
      have n1 : ¬ (nI w = -1) := fun z => s_n1 hw z.symm
      have wi : nI w ∈ s_rM M (6 + k) := by
        rw [s_tk R.J ze, ew]
        exact List.mem_cons_self
      have d3 : M 14 0 w = K 7 w 12 := R.D.2.2.1 k hk w hw wi
      obtain ⟨b, hb, eb⟩ := r_nat (R.I 7 w 12 : vp_in (K 7 w 12) 4) (by decide)
      rw [x1, ew, if_neg n1]
      have I1 : g_Inv (g_wake (g_rowT K (6 + k)) (nI w) (g_rowT K (6 + k) 8 g a)) := iv_ready ((iv_rowT R.I).up trivial) (by rw [s_nC (by omega)]; exact hw)
      have J1 := (j_snd (g := g) (k := k) (v := M 15 0 (g * 4 + a)) R.J (R.A.tot5 R.J hg (by rw [h1]; decide) (by rw [h1]; decide)) hg hk).1
      have eM : m_snd M g k (M 15 0 (g * 4 + a)) = m_wake (k_up (m_tkT M (6 + k)) 15 0 (w * 4 + b) (M 15 0 (g * 4 + a))) w := by
        unfold m_snd m_snd1
        rw [if_pos h0, if_neg ze, ew, s_nC (by omega), s_tkf (f := 14) (by decide) (by decide), d3, eb, s_nC (by omega)]
      have eK : g_wake (g_rowT K (6 + k)) (nI w) (g_rowT K (6 + k) 8 g a) = g_ready (k_up (g_rowT K (6 + k)) 8 w b (M 15 0 (g * 4 + a))) w := by
        unfold g_wake
        rw [s_nC (n := w) (by omega), s_rTf (f := 7) (by decide), eb, s_nC (n := b) (by omega), s_rTf (f := 8) (by decide), ev]
      rw [eM] at J1 ⊢
      rw [eK] at I1 ⊢
      obtain ⟨I, J, E, A, B, ⟨rk, C⟩, D⟩ := R
      have Jt := iv_mtk J ze
      have J2 : m_Inv (k_up (m_tkT M (6 + k)) 15 0 (w * 4 + b) (M 15 0 (g * 4 + a))) := k_Inv.up Jt trivial
      have I2 : g_Inv (k_up (g_rowT K (6 + k)) 8 w b (M 15 0 (g * 4 + a))) := (iv_rowT I).up trivial
      obtain ⟨A1, hl⟩ := A.mv J J2 ze (by omega) (by omega) (fun g => by rw [ku_f (by decide), s_tkf (by decide) (by decide)]) (fun g => by rw [ku_f (by decide), s_tkf (by decide) (by decide)]) (fun r' _ => s_rM_up (by decide) (by decide))
      rw [ew, s_nC (by omega)] at A1
      have hp5 : k_up (m_tkT M (6 + k)) 15 0 (w * 4 + b) (M 15 0 (g * 4 + a)) 5 0 w ≠ -1 := by
        rw [ku_f (by decide), s_tkf (by decide) (by decide), e2]
        decide
      have nin : ∀ r', 2 ≤ r' → r' < 14 → nI w ∉ s_rM (m_tkT M (6 + k)) r' := fun r' c1 c2 => by
        have := A0.nin (r := r') hw (by rw [ku_eq]; decide) c1 c2
        rw [s_rM_up (by decide) (by decide)] at this
        exact this
      have D2 : s_D (k_up (g_rowT K (6 + k)) 8 w b (M 15 0 (g * 4 + a))) (k_up (m_tkT M (6 + k)) 15 0 (w * 4 + b) (M 15 0 (g * 4 + a))) := (D.tk J ze).gen (fun r _ _ y hy => by rw [s_rM_up (by decide) (by decide)] at hy; exact hy) (fun _ => ku_f (by decide)) (fun w' hw' r' c1 c2 hm => ⟨ku_f (by decide), ku_f (by decide), fun j => ku_i (fun z => by
        rw [s_rM_up (by decide) (by decide), z] at hm
        exact nin r' c1 (by omega) hm)⟩)
      exact ⟨I1, J1, ((E.take I J (by omega) ze).w_re hw hb _).wake I2 J2 hw (hl _ (by omega)), A1, ((B.tk _).up (by decide) (by decide) (by decide) (by decide)).wake hp5, ⟨rk, ((C.tk _).up (by decide) (by decide) (by decide) (by decide) (by decide)).wake hp5⟩, D2.wake J2 (hl _ (by omega))⟩
  · have h2 : h = 2 := by omega
    rw [if_neg (fun z => zf ((s_ful hh2 ec).mp z))]
    have eM : m_snd M g k (M 15 0 (g * 4 + a)) = m_blk (k_up M 14 0 g (M 15 0 (g * 4 + a))) g (2 + k) := by
      unfold m_snd
      rw [if_neg (fun z => by have := (e22 0 (by omega)).mp z; omega)]
      unfold m_snd0
      rw [if_pos (by rw [eh, h2]; decide)]
    rw [eM]
    refine R.blk (r := 2 + k) (a := a) hg hp hh h1 ha (by omega) (by omega) (fun j hj e => ?_) (fun j hj e => ?_)
    · have : j = k := by omega
      rw [this]
      exact ⟨by rw [eh, h2]; rfl, ev.symm⟩
    · omega
theorem s_R.recv {p x : Nat} {K M : kM} (R : s_R p x 6 K M) {g a k : Nat} (hg : g < 6) (hp : p < 2) (hh : M 24 0 p = nI g) (h1 : M 5 0 g = 1) (ha : a < 4) (hk : k < 4) (n : Int32) (hn : n = nI k) : s_R p x 6 (g_recvT K g (nI a) n) (m_rcv M g k a) := by
  subst hn
  have eo : g_out (nI k) 4 = 0 := by
    rw [s_on4]
    unfold m_no
    rw [if_neg (nI_pos (by omega)), if_pos (show nI k ≤ 3 from nI_le (a := k) (b := 3) (by omega) (by decide))]
  obtain ⟨h, hh2, eh⟩ := r_sz2 (R.J 22 0 k)
  have ec : K 17 k 3 = nI h := (R.E.cs k hk).trans eh
  have e22 : ∀ m : Nat, m < 3 → (nI h = nI m ↔ h = m) := fun m hm => nI_eq (by omega) (by omega)
  have tot := R.A.tot5 R.J hg (by rw [h1]; decide) (by rw [h1]; decide)
  have J1 := (j_rcv (g := g) (k := k) (a := a) R.J tot hg hk).1
  unfold g_recvT
  rw [if_pos eo, s_nC (n := k) (by omega)]
  unfold m_rcv at J1 ⊢
  by_cases z0 : h = 0
  · have e0 : M 22 0 k = 0 := by rw [eh, z0]; rfl
    rw [if_pos ((R.E.cs k hk).trans e0), if_pos e0]
    exact R.blk (r := 6 + k) (a := a) hg hp hh h1 ha (by omega) (by omega) (fun j hj e => by omega) (fun j hj e => by
      have : j = k := by omega
      rw [this]
      exact ⟨e0, rfl⟩)
  · obtain ⟨h', rfl⟩ : ∃ h', h = h' + 1 := ⟨h - 1, by omega⟩
    have hh' : h' < 2 := by omega
    have n0 : ¬ M 22 0 k = 0 := by
      rw [eh]
      exact nI_ne0 (by omega) (by omega)
    rw [if_neg (fun z => n0 ((R.E.cs k hk).symm.trans z))]
    rw [if_neg n0] at J1 ⊢
    have rec0 : s_rM M (6 + k) = [] := Decidable.byContradiction fun z => n0 (R.D.2.1 k hk z)
    have ev : K 18 k 0 = M 21 0 (k * 2) := R.E.cv k hk 0 (by rw [eh, s_nC (by omega)]; omega)
    -- the first of the channel
    have eC : g_rcv1 K g (nI a) k = k_up (k_row (k_up K 17 k 3 (nI h')) 18 k (va_cpy (K 18 k) (K 18 k) 1 0 h')) 8 g a (M 21 0 (k * 2)) := by
      have e1 : g_chT K k = k_row (k_up K 17 k 3 (nI h')) 18 k (va_cpy (K 18 k) (K 18 k) 1 0 h') := by
        unfold g_chT
        have e2 : k_up K 17 k 3 (nI h') 18 k = K 18 k := k_up_row (fun z => absurd z.1 (by decide))
        rw [ec, if_neg (nI_nle (by omega) (by omega)), nI_pred, ku_eq, s_nC (by omega), e2]
      unfold g_rcv1
      rw [e1, s_nC (by omega), ev]
    have eR : m_rc1 M g k a = k_up (k_up (k_up M 21 0 (k * 2) (M 21 0 (k * 2 + 1))) 22 0 k (nI h')) 15 0 (g * 4 + a) (M 21 0 (k * 2)) := by
      unfold m_rc1
      dsimp only
      rw [ku_f (f := 15) (a := 21) (by decide), ku_f (f := 21) (a := 22) (by decide), ku_f (f := 15) (a := 22) (by decide), eh, nI_pred, ku_comm (f := 15) (f' := 21) (fun z => absurd z.1 (by decide)), ku_comm (f := 15) (f' := 22) (fun z => absurd z.1 (by decide))]
    have I0 : g_Inv (g_rcv1 K g (nI a) k) := by
      unfold g_rcv1
      exact (iv_chT R.I).up trivial
    have J0 := iv_mrc1 (g := g) (a := a) R.J n0
    have E0 : s_E x (g_rcv1 K g (nI a) k) (m_rc1 M g k a) := by
      rw [eC, eR]
      exact (R.E.cht R.J hk hh' eh).w_re hg ha _
    rw [eR] at J0 E0 J1
    rw [eR]
    rw [eC] at I0 E0
    rw [eC]
    obtain ⟨M1, eM1⟩ : ∃ M1, M1 = k_up (k_up (k_up M 21 0 (k * 2) (M 21 0 (k * 2 + 1))) 22 0 k (nI h')) 15 0 (g * 4 + a) (M 21 0 (k * 2)) := ⟨_, rfl⟩
    obtain ⟨K1, eK1⟩ : ∃ K1, K1 = k_up (k_row (k_up K 17 k 3 (nI h')) 18 k (va_cpy (K 18 k) (K 18 k) 1 0 h')) 8 g a (M 21 0 (k * 2)) := ⟨_, rfl⟩
    have f1 : ∀ b i j, b ≠ 21 → b ≠ 22 → b ≠ 15 → M1 b i j = M b i j := fun b i j c1 c2 c3 => by rw [eM1, ku_f c3, ku_f c2, ku_f c1]
    have fk : ∀ b i j, b ≠ 17 → b ≠ 18 → b ≠ 8 → K1 b i j = K b i j := fun b i j c1 c2 c3 => by rw [eK1, ku_f c3, k_row_ne (fun z => c2 z.1), ku_f c1]
    have h22 : M1 22 0 k = nI h' := by rw [eM1, ku_f (by decide), ku_eq]
    have o22 : ∀ k', k' ≠ k → M1 22 0 k' = M 22 0 k' := fun k' z => by rw [eM1, ku_f (by decide), ku_j z, ku_f (by decide)]
    have k8 : ∀ w j, w ≠ g → K1 8 w j = K 8 w j := fun w j z => by rw [eK1, ku_i z, k_row_ne (fun y => absurd y.1 (by decide)), ku_f (by decide)]
    rw [← eM1] at J0 E0 J1 ⊢
    rw [← eK1] at I0 E0 ⊢
    have fr : ∀ r, s_rM M1 r = s_rM M r := fun r => s_rM_c (fun _ => f1 _ _ _ (by decide) (by decide) (by decide)) (fun _ => f1 _ _ _ (by decide) (by decide) (by decide)) r
    obtain ⟨I, J, E, A, B, ⟨rk, C⟩, D⟩ := R
    have A1 : s_A p M1 := A.congr (fun _ => f1 _ _ _ (by decide) (by decide) (by decide)) (fun _ => f1 _ _ _ (by decide) (by decide) (by decide)) (fun r _ => fr r)
    have B1 : s_B M1 := B.congr (fun c _ => by rw [f1 _ _ _ (by decide) (by decide) (by decide)]; exact id) (fun _ => f1 _ _ _ (by decide) (by decide) (by decide)) (fun _ => f1 _ _ _ (by decide) (by decide) (by decide)) (fun _ => f1 _ _ _ (by decide) (by decide) (by decide))
    have C1 : s_C rk 6 M1 := C.congr (fun _ => f1 _ _ _ (by decide) (by decide) (by decide)) (fun _ => f1 _ _ _ (by decide) (by decide) (by decide)) (fun _ => f1 _ _ _ (by decide) (by decide) (by decide)) (fun _ => f1 _ _ _ (by decide) (by decide) (by decide)) (fun _ => f1 _ _ _ (by decide) (by decide) (by decide))
    have gn : ∀ w r, w < 6 → 2 ≤ r → r < 14 → nI w ∈ s_rM M r → w ≠ g := fun w r _ c1 c2 hm z => by
      rw [z] at hm
      exact A.nin hg (by rw [h1]; decide) c1 c2 hm
    have e20 : M1 20 0 (2 + k) = M 20 0 (2 + k) := f1 _ _ _ (by decide) (by decide) (by decide)
    by_cases zs : M 20 0 (2 + k) ≤ 0
    · obtain ⟨x1, x2⟩ := s_rX0 ((E0.z J0 (r := 2 + k) (by omega)).mpr (by rw [e20]; exact zs))
      rw [x1, x2, if_pos rfl, e20, if_pos zs]
      have : (if M1 22 0 k = 1 then M1 else M1) = M1 := by split <;> rfl
      rw [this]
      refine ⟨I0, J0, E0, A1, B1, ⟨rk, C1⟩, D.gen2 (fun r _ _ y hy => by rw [fr] at hy; exact hy) (fun k' hk' h3 => ?_) (fun k' hk' h3 => ?_) (fun w hw r c1 c2 hm => ?_)⟩
      · rw [fr] at h3
        by_cases z : k' = k
        · rw [z] at h3
          exact absurd ((s_emp J).mpr zs) h3
        · rw [o22 k' z]
          exact D.1 k' hk' h3
      · rw [fr] at h3
        by_cases z : k' = k
        · rw [z] at h3
          exact absurd rec0 h3
        · rw [o22 k' z]
          exact D.2.1 k' hk' h3
      · rw [fr] at hm
        have wg := gn w r hw c1 (by omega) hm
        exact ⟨f1 _ _ _ (by decide) (by decide) (by decide), fk _ _ _ (by decide) (by decide) (by decide), fun j => k8 w j wg⟩
    · have full : M 22 0 k = 2 := D.1 k hk (fun z => zs ((s_emp J).mp z))
      have h'1 : h' = 1 := by
        have := (e22 2 (by omega)).mp (eh.symm.trans full)
        omega
      subst h'1
      have zs1 : ¬ M1 20 0 (2 + k) ≤ 0 := by rw [e20]; exact zs
      obtain ⟨w, hw, ew, e2, A0⟩ := A1.hd J0 zs1 (by omega) (by omega)
      obtain ⟨x1, x2⟩ := E0.hd0 I0 J0 (r := 2 + k) (by omega) zs1
      have n1 : ¬ (nI w = -1) := fun z => s_n1 hw z.symm
      have wi : nI w ∈ s_rM M (2 + k) := by
        rw [← fr, s_tk J0 zs1, ew]
        exact List.mem_cons_self
      have wg := gn w (2 + k) hw (by omega) (by omega) wi
      have d4 : M 14 0 w = K 8 w (K 7 w 12).toNatClampNeg := D.2.2.2 k hk w hw wi
      have one : M1 22 0 k = 1 := by rw [h22]; rfl
      rw [x1, ew, if_neg n1, if_pos one, if_neg zs1]
      rw [if_pos one, if_neg zs1] at J1
      dsimp only
      rw [s_nC (n := w) (by omega)]
      have eM : m_rc2 M1 k = m_wake (k_up (k_up (m_tkT M1 (2 + k)) 21 0 (k * 2 + 1) (M 14 0 w)) 22 0 k (nI (1 + 1))) w := by
        unfold m_rc2
        rw [ew, s_nC (by omega), s_tkf (f := 14) (by decide) (by decide), f1 _ _ _ (by decide) (by decide) (by decide)]
        rfl
      have evw : g_rowT K1 (2 + k) 8 w (g_rowT K1 (2 + k) 7 w 12).toNatClampNeg = M 14 0 w := by
        rw [s_rTf (f := 8) (by decide), s_rTf (f := 7) (by decide), k8 _ _ wg, fk 7 _ _ (by decide) (by decide) (by decide), d4]
      have hc1 : g_rowT K1 (2 + k) 17 k 3 = nI 1 := by rw [s_rTf (by decide), E0.cs k hk, h22]
      have eK : g_put (g_rowT K1 (2 + k)) k (M 14 0 w) = k_up (k_up (g_rowT K1 (2 + k)) 18 k 1 (M 14 0 w)) 17 k 3 (nI (1 + 1)) := by
        unfold g_put
        rw [if_pos ((s_ful (by omega) hc1).mpr (by omega)), ku_f (by decide), hc1, s_nC (by omega), nI_1]
      rw [evw, eK]
      rw [eM] at J1 ⊢
      have Jt := iv_mtk J0 zs1
      have It : g_Inv (g_rowT K1 (2 + k)) := iv_rowT I0
      have It2 : g_Inv (k_up (k_up (g_rowT K1 (2 + k)) 18 k 1 (M 14 0 w)) 17 k 3 (nI (1 + 1))) := by
        rw [← eK]
        exact iv_put It
      have Jt2 : m_Inv (k_up (k_up (m_tkT M1 (2 + k)) 21 0 (k * 2 + 1) (M 14 0 w)) 22 0 k (nI (1 + 1))) := k_Inv.up (k_Inv.up Jt trivial) ⟨by decide, by decide⟩
      obtain ⟨A2, hl⟩ := A1.mv J0 Jt2 zs1 (by omega) (by omega) (fun _ => by rw [ku_f (by decide), ku_f (by decide), s_tkf (by decide) (by decide)]) (fun _ => by rw [ku_f (by decide), ku_f (by decide), s_tkf (by decide) (by decide)]) (fun r' _ => by rw [s_rM_up (by decide) (by decide), s_rM_up (by decide) (by decide)])
      rw [ew, s_nC (by omega)] at A2
      have hp5 : k_up (k_up (m_tkT M1 (2 + k)) 21 0 (k * 2 + 1) (M 14 0 w)) 22 0 k (nI (1 + 1)) 5 0 w ≠ -1 := by
        rw [ku_f (by decide), ku_f (by decide), s_tkf (by decide) (by decide), e2]
        decide
      have Et : s_E x (g_rowT K1 (2 + k)) (m_tkT M1 (2 + k)) := E0.take I0 J0 (by omega) zs1
      have ht22 : m_tkT M1 (2 + k) 22 0 k = nI 1 := by rw [s_tkf (by decide) (by decide), h22]
      have D2 : s_D (k_up (k_up (g_rowT K1 (2 + k)) 18 k 1 (M 14 0 w)) 17 k 3 (nI (1 + 1))) (k_up (k_up (m_tkT M1 (2 + k)) 21 0 (k * 2 + 1) (M 14 0 w)) 22 0 k (nI (1 + 1))) := by
        have rr : ∀ r y, y ∈ s_rM (k_up (k_up (m_tkT M1 (2 + k)) 21 0 (k * 2 + 1) (M 14 0 w)) 22 0 k (nI (1 + 1))) r → y ∈ s_rM M r := fun r y hy => by
          rw [s_rM_up (by decide) (by decide), s_rM_up (by decide) (by decide)] at hy
          have := s_tkr J0 zs1 r y hy
          rw [fr] at this
          exact this
        refine D.gen2 (fun r _ _ y hy => rr r y hy) (fun k' hk' h3 => ?_) (fun k' hk' h3 => ?_) (fun w' hw' r c1 c2 hm => ?_)
        · by_cases z : k' = k
          · rw [z, ku_eq]
            rfl
          · rw [ku_j z, ku_f (by decide), s_tkf (by decide) (by decide), o22 k' z]
            exact D.1 k' hk' (s_ne0 (rr _) h3)
        · by_cases z : k' = k
          · rw [z] at h3
            exact absurd rec0 (s_ne0 (rr _) h3)
          · rw [ku_j z, ku_f (by decide), s_tkf (by decide) (by decide), o22 k' z]
            exact D.2.1 k' hk' (s_ne0 (rr _) h3)
        · have wg' := gn w' r hw' c1 (by omega) (rr _ _ hm)
          exact ⟨by rw [ku_f (by decide), ku_f (by decide), s_tkf (by decide) (by decide), f1 _ _ _ (by decide) (by decide) (by decide)], by rw [ku_f (by decide), ku_f (by decide), s_rTf (by decide), fk _ _ _ (by decide) (by decide) (by decide)], fun j => by rw [ku_f (by decide), ku_f (by decide), s_rTf (by decide), k8 _ _ wg']⟩
      exact ⟨iv_ready It2 hw, J1, (Et.put Jt hk (by omega) ht22).wake It2 Jt2 hw (hl _ (by omega)), A2, (((B1.tk _).up (by decide) (by decide) (by decide) (by decide)).up (by decide) (by decide) (by decide) (by decide)).wake hp5, ⟨rk, (((C1.tk _).up (by decide) (by decide) (by decide) (by decide) (by decide)).up (by decide) (by decide) (by decide) (by decide) (by decide)).wake hp5⟩, D2.wake Jt2 (hl _ (by omega))⟩
