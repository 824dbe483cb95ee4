/-! ===== THE TWO SIDE BY SIDE (16): a turn ===== -/
theorem s_R.car {p x y : Nat} {K M : kM} (R : s_R p x y K M) : m_car M := by
  intro k hk h
  obtain ⟨w, hw, ew, e2, _⟩ := R.A.hd R.J h (by omega) (by omega)
  have wi : nI w ∈ s_rM M (6 + k) := by
    rw [s_tk R.J h, ew]
    exact List.mem_cons_self
  rw [ew, s_nC (by omega), s_tkf (by decide) (by decide), R.D.2.2.1 k hk w hw wi]
  exact R.I 7 w 12
theorem s_gp {K : kM} {i w : Nat} (hi : i < 32) (hw : w < 4) : g_part K (nI i) (nI w) = K 2 0 (i * 4 + w) := by
  unfold g_part
  rw [show (4 : Int32) = nI 4 from rfl, (mx i 4 w 128 (by omega) (by decide)).2]
theorem s_R.mid {K M : kM} (R : s_R 2 6 6 K M) {p g i : Nat} (hp : p < 2) (hg : g < 6) (hi : i < 32) (hh : M 24 0 p = nI g) (h1 : M 5 0 g = 1) (ei : M 6 0 g = nI i) {K3 K5 : kM} {o : Int32} (eo : o = M 1 0 i)
    (e3 : K3 = k_up (k_up (k_up K 7 g 4 (g_fm (nI i + 1) 32)) 11 p 2 (M 25 0 p - 1)) 0 0 7 (M 0 0 26 + 1)) (e5 : K5 = if g_perX K3 g o (nI i) = 0 then g_perT K3 g o (nI i) else g_trap (g_perT K3 g o (nI i)) g (g_perX K3 g o (nI i)) (nI i)) :
    s_R p 6 6 K5 (m_stM (m_st1 M p) g i o) ∧ m_stM (m_st1 M p) g i o 24 0 p = nI g ∧ m_stM (m_st1 M p) g i o 0 0 32 = M 0 0 32 ∧ m_car (m_st1 M p) := by
  have vi : vp_in (nI i) 32 := vp_in_nI hi (by decide)
  have eM1 : m_st1 M p = k_up (k_up M 25 0 p (M 25 0 p - 1)) 0 0 (25 + 1) (M 0 0 26 + 1) := by
    unfold m_st1
    rw [ku_f (f := 0) (by decide), ku_comm (f := 0) (fun z => absurd z.1 (by decide))]
  have R3 : s_R p g 6 K3 (m_st1 M p) := by
    obtain ⟨I, J, E, A, B, C, D⟩ := R
    have R0 : s_R p g 6 K M := ⟨I, J, E.ox g (fun z => absurd z (by omega)), A.ex p, B, C, D⟩
    rw [e3, eM1]
    exact ((R0.pl (r_fm _)).tim).nu (j := 1)
  have f1 : ∀ f a b, f ≠ 0 → f ≠ 25 → m_st1 M p f a b = M f a b := fun f a b c1 c2 => by
    unfold m_st1
    rw [ku_f c2, ku_f c1]
  have z1 : m_st1 M p 0 0 32 = M 0 0 32 := by
    unfold m_st1
    rw [ku_f (by decide), ku_j (by decide)]
  have hh1 : m_st1 M p 24 0 p = nI g := by rw [f1 _ _ _ (by decide) (by decide), hh]
  have s1 : m_st1 M p 5 0 g = 1 := by rw [f1 _ _ _ (by decide) (by decide), h1]
  have p4 : K3 7 g 4 = g_fm (nI i + 1) 32 := by rw [e3, ku_f (by decide), ku_f (by decide), ku_eq]
  have zz : ∀ X : kM, s_Z 24 p := fun _ => Or.inl rfl
  have z24 : s_Z 24 p := Or.inl rfl
  have z32 : s_Z 0 32 := Or.inr ⟨rfl, rfl⟩
  obtain ⟨a, ha, ea⟩ := r_nat (R.J 2 0 i : vp_in (M 2 0 i) 4) (by decide)
  obtain ⟨b, hb, eb⟩ := r_nat (R.J 3 0 i : vp_in (M 3 0 i) 4) (by decide)
  have ho : vp_in o 22 := by rw [eo]; exact R.J 1 0 i
  have g1 : g_part K3 (nI i) 1 = nI a := by
    rw [show (1 : Int32) = nI 1 from rfl, s_gp hi (by decide), R3.E.p1 i hi, f1 _ _ _ (by decide) (by decide), ea]
  have g2 : g_part K3 (nI i) 2 = nI b := by
    rw [show (2 : Int32) = nI 2 from rfl, s_gp hi (by decide), R3.E.p2 i hi, f1 _ _ _ (by decide) (by decide), eb]
  have g3 : g_part K3 (nI i) 3 = M 4 0 i := by
    rw [show (3 : Int32) = nI 3 from rfl, s_gp hi (by decide), R3.E.p3 i hi, f1 _ _ _ (by decide) (by decide)]
  have RD : s_R p 6 6 K3 (m_stD (m_st1 M p) g i) := (R3.plm (v := (nI i + 1) &&& 31) (m_31 _)).ox 6 (fun _ => by rw [p4, s_fma, ku_eq])
  have dh : m_stD (m_st1 M p) g i 24 0 p = nI g := by unfold m_stD; rw [ku_f (by decide), hh1]
  have d1 : m_stD (m_st1 M p) g i 5 0 g = 1 := by unfold m_stD; rw [ku_f (by decide), s1]
  have d32 : m_stD (m_st1 M p) g i 0 0 32 = M 0 0 32 := by unfold m_stD; rw [ku_f (by decide), z1]
  unfold m_stM
  by_cases o0 : o = 0
  · rw [o0] at e5
    rw [gpX_0, gpT_0, if_pos rfl] at e5
    rw [if_pos o0, e5]
    obtain ⟨r1, r2, _, _⟩ := RD.die (oc := 0) hg hp dh d1
    exact ⟨r1, r2, by rw [s_zdie z32, d32], R3.car⟩
  · rw [if_neg o0]
    by_cases o20 : o = 20
    · rw [o20] at e5
      rw [gpX_20, gpT_20, if_pos rfl, g1, s_nC (by omega)] at e5
      rw [if_pos o20, e5, f1 2 _ _ (by decide) (by decide), ea, s_nC (by omega)]
      have ev : m_stD (m_st1 M p) g i 15 0 (g * 4 + a) = K3 8 g a := (RD.E.re g hg a ha).symm
      rw [ev]
      obtain ⟨r1, r2, _, _⟩ := RD.die (oc := K3 8 g a) hg hp dh d1
      exact ⟨r1, r2, by rw [s_zdie z32, d32], R3.car⟩
    · rw [if_neg o20, f1 2 _ _ (by decide) (by decide), f1 3 _ _ (by decide) (by decide), f1 4 _ _ (by decide) (by decide), ea, eb, s_nC (n := a) (by omega), s_nC (n := b) (by omega)]
      obtain ⟨r1, r2, r3, r4, r5⟩ := R3.perf (op := o) (pl := nI i) hg hp hh1 s1 ha hb g1 g2 g3 ho o0 o20
      rw [r2] at e5
      unfold m_st2
      by_cases zx : m_pfX (m_st1 M p) g o b (M 4 0 i) = 0
      · rw [if_pos zx] at e5 ⊢
        rw [e5]
        refine ⟨?_, by rw [ku_f (by decide), s_zpf z24 ho, hh1], by rw [ku_f (by decide), s_zpf z32 ho, z1], R3.car⟩
        by_cases zj : m_jp (m_st1 M p) g o a b = 0
        · rw [if_pos zj] at r4 ⊢
          refine (r1.plm (v := (nI i + 1) &&& 31) (m_31 _)).ox 6 (fun _ => ?_)
          rw [r4, p4, s_fma, ku_eq]
        · rw [if_neg zj] at r4 ⊢
          have eM4 : m_pfT (m_st1 M p) g o a b (M 4 0 i) 4 0 i = M 4 0 i := by rw [(r5 zj).1, f1 _ _ _ (by decide) (by decide)]
          rw [eM4]
          refine (r1.plm (v := (M 4 0 i) &&& 31) (m_31 _)).ox 6 (fun _ => ?_)
          rw [r4, s_fma, ku_eq]
      · rw [if_neg zx] at e5 ⊢
        have em := r3 zx
        rw [em] at r1 ⊢
        rw [e5]
        obtain ⟨t1, t2⟩ := r1.trap (kd := m_pfX (m_st1 M p) g o b (M 4 0 i)) (pl := nI i) hg hp hh1 s1 (by rw [f1 _ _ _ (by decide) (by decide), ei])
        exact ⟨t1, t2, by rw [s_ztr z32, z1], R3.car⟩
theorem s_R.off {p : Nat} {K M : kM} (R : s_R p 6 6 K M) {g : Nat} (hg : g < 6) (hp : p < 2) (hh : M 24 0 p = nI g) (h : M 5 0 g ≠ 1) : s_R 2 6 6 (k_up K 11 p 1 (-1)) (k_up M 24 0 p (-1)) := by
  obtain ⟨I, J, E, A, B, ⟨rk, C⟩, D⟩ := R
  exact ⟨I.up (Or.inl rfl), k_Inv.up J (Or.inl rfl), E.w_ha _, A.off hg hp hh h, B.up (by decide) (by decide) (by decide) (by decide), ⟨rk, C.up (by decide) (by decide) (by decide) (by decide) (by decide)⟩, D.up (by decide) (Or.inl (by decide)) (by decide) (by decide) (by decide) (by decide)⟩
theorem s_R.rdy {p : Nat} {K M : kM} (R : s_R p 6 6 K M) {g : Nat} (hg : g < 6) (hp : p < 2) (hh : M 24 0 p = nI g) (h : M 5 0 g = 1) : s_R 2 6 6 (g_ready (k_up K 11 p 1 (-1)) g) (m_wake (k_up M 24 0 p (-1)) g) := by
  obtain ⟨I, J, E, A, B, ⟨rk, C⟩, D⟩ := R
  have I1 : g_Inv (k_up K 11 p 1 (-1)) := I.up (Or.inl rfl)
  have J1 : m_Inv (k_up M 24 0 p (-1)) := k_Inv.up J (Or.inl rfl)
  have n0 : M 5 0 g ≠ 0 := by rw [h]; decide
  have n2 : M 5 0 g ≠ 2 := by rw [h]; decide
  have hl : ∀ r, r < 14 → (s_rM (k_up M 24 0 p (-1)) r).length < 6 := fun r hr => by
    rw [s_rM_up (by decide) (by decide)]
    exact A.len5 J hg n0 n2 hr
  have ht : m_tot (k_up M 24 0 p (-1)) ≤ 5 := by
    rw [mt_ne (by decide)]
    exact A.tot5 J hg n0 n2
  have n5 : k_up M 24 0 p (-1) 5 0 g ≠ -1 := by
    rw [ku_f (by decide), h]
    decide
  have D1 : s_D (k_up K 11 p 1 (-1)) (k_up M 24 0 p (-1)) := D.up (by decide) (Or.inl (by decide)) (by decide) (by decide) (by decide) (by decide)
  exact ⟨iv_ready I1 hg, iv_mwake J1 ht hg, (E.w_ha _).wake I1 J1 hg (hl _ (by omega)), A.rdy J hg hp hh h, (B.up (by decide) (by decide) (by decide) (by decide)).wake n5, ⟨rk, (C.up (by decide) (by decide) (by decide) (by decide) (by decide)).wake n5⟩, D1.wake J1 (hl _ (by omega))⟩
theorem s_R.step {K M : kM} (R : s_R 2 6 6 K M) {p g : Nat} (hp : p < 2) (hg : g < 6) (hh : M 24 0 p = nI g) : s_R 2 6 6 (g_turnA K p g) (m_step M p) ∧ m_ok M p ∧ m_step M p 0 0 32 = M 0 0 32 := by
  have h1 : M 5 0 g = 1 := R.A.h1 p hp (by omega) g hg hh
  obtain ⟨i, hi, ei⟩ := r_nat (R.J 6 0 g : vp_in (M 6 0 g) 32) (by decide)
  have epl : K 7 g 4 = nI i := (R.E.pl g hg (by omega)).trans ei
  have hgE : m_hg M p = g := by unfold m_hg; rw [hh, s_nC (by omega)]
  have hiE : m_hi M p = i := by unfold m_hi; rw [hgE, ei, s_nC (by omega)]
  have eop : g_part K (nI i) 0 = M 1 0 i := by
    rw [show (0 : Int32) = nI 0 from rfl, s_gp hi (by decide), Nat.add_zero, R.E.p0 i hi]
  have et : k_up K 7 g 4 (g_fm (nI i + 1) 32) 11 p 2 = M 25 0 p := by rw [ku_f (by decide), R.E.ti p hp]
  have en : k_up (k_up K 7 g 4 (g_fm (nI i + 1) 32)) 11 p 2 (M 25 0 p - 1) 0 0 7 = M 0 0 26 := by rw [ku_f (by decide), ku_f (by decide)]; exact R.E.nu 1 (by omega)
  unfold m_step
  have em : m_mid M p = m_stM (m_st1 M p) g i (M 1 0 i) := by
    unfold m_mid
    rw [hgE, hiE]
  rw [em, hgE, hiE]
  unfold g_turnA
  dsimp only
  rw [epl, eop]
  unfold g_goTo
  rw [et, en]
  obtain ⟨m1, m2, m3, m4⟩ := R.mid hp hg hi hh h1 ei (o := M 1 0 i) rfl rfl rfl
  obtain ⟨M5, eM5⟩ : ∃ M5, M5 = m_stM (m_st1 M p) g i (M 1 0 i) := ⟨_, rfl⟩
  rw [← eM5] at m1 m2 m3 ⊢
  generalize (if g_perX (k_up (k_up (k_up K 7 g 4 (g_fm (nI i + 1) 32)) 11 p 2 (M 25 0 p - 1)) 0 0 7 (M 0 0 26 + 1)) g (M 1 0 i) (nI i) = 0 then g_perT (k_up (k_up (k_up K 7 g 4 (g_fm (nI i + 1) 32)) 11 p 2 (M 25 0 p - 1)) 0 0 7 (M 0 0 26 + 1)) g (M 1 0 i) (nI i) else g_trap (g_perT (k_up (k_up (k_up K 7 g 4 (g_fm (nI i + 1) 32)) 11 p 2 (M 25 0 p - 1)) 0 0 7 (M 0 0 26 + 1)) g (M 1 0 i) (nI i)) g (g_perX (k_up (k_up (k_up K 7 g 4 (g_fm (nI i + 1) 32)) 11 p 2 (M 25 0 p - 1)) 0 0 7 (M 0 0 26 + 1)) g (M 1 0 i) (nI i)) (nI i)) = K5 at m1 ⊢
  have ok : m_ok M p := by
    refine ⟨R.A.tot5 R.J hg (by rw [h1]; decide) (by rw [h1]; decide), m4, fun z => ?_⟩
    rw [em, hgE, ← eM5] at z
    rw [em, ← eM5]
    exact m1.A.tot5 m1.J hg (by rw [z]; decide) (by rw [z]; decide)
  rw [m1.E.st g hg, m1.E.ti p hp]
  unfold m_st3
  have e5 : k_up M5 24 0 p (-1) 5 0 g = M5 5 0 g := ku_f (by decide)
  by_cases z : M5 5 0 g = 1
  · rw [if_pos z, if_pos z]
    have r4 : s_R 2 6 6 (g_ready (k_up K5 11 p 1 (-1)) g) (m_st4 M5 p g) ∧ m_st4 M5 p g 0 0 32 = M 0 0 32 := by
      unfold m_st4
      rw [e5, if_pos z]
      exact ⟨m1.rdy hg hp m2 z, by rw [s_wkf (by decide) (by decide) (by decide), ku_f (by decide), m3]⟩
    by_cases y : M5 25 0 p ≤ 0
    · rw [if_pos y, if_pos y]
      exact ⟨r4.1, ok, r4.2⟩
    · rw [if_neg y, if_neg y]
      by_cases w : M 1 0 i = 12
      · rw [if_pos w, if_pos w]
        exact ⟨r4.1, ok, r4.2⟩
      · rw [if_neg w, if_neg w]
        obtain ⟨I, J, E, A, B, C, D⟩ := m1
        exact ⟨⟨I, J, E, A.keep hg m2 z, B, C, D⟩, ok, m3⟩
  · rw [if_neg z, if_neg z]
    unfold m_st4
    rw [e5, if_neg z]
    exact ⟨m1.off hg hp m2 z, ok, by rw [ku_f (by decide), m3]⟩
theorem s_R.next {K M : kM} (R : s_R 2 6 6 K M) {p : Nat} (hp : p < 2) (hf : M 24 0 p = -1) (h : ¬ M 20 0 p ≤ 0) : ∃ w, w < 6 ∧ g_rowX K p = nI w ∧ s_R 2 6 6 (g_next K p) (m_ch M p) ∧ m_ch M p 24 0 p = nI w ∧ m_ch M p 0 0 32 = M 0 0 32 := by
  obtain ⟨I, J, E, A, B, ⟨rk, C⟩, D⟩ := R
  obtain ⟨w, hw, ew, e0, A1, a24, a5⟩ := A.next J hp hf h
  obtain ⟨x1, x2⟩ := E.hd0 I J (r := p) (by omega) h
  have n1 : ¬ (nI w = -1) := fun z => s_n1 hw z.symm
  have vw : vp_in (nI w) 6 := vp_in_nI hw (by decide)
  have eM : m_ch M p = k_up (k_up (k_up (k_up (m_tkT M p) 5 0 w 1) 24 0 p (nI w)) 25 0 p 3) 0 0 (25 + 6) (M 0 0 31 + 1) := by
    unfold m_ch
    (try dsimp only)
    rw [ew, ku_eq, s_nC (by omega), ku_f (f := 25) (by decide), ku_f (f := 5) (by decide), ku_f (f := 24) (by decide), s_tkf (f := 0) (by decide) (by decide), ku_comm (f := 24) (f' := 5) (fun z => absurd z.1 (by decide))]
  have eK : g_next K p = k_up (k_up (k_up (k_up (g_rowT K p) 7 w 3 1) 11 p 1 (nI w)) 11 p 2 3) 0 0 (6 + 6) (M 0 0 31 + 1) := by
    unfold g_next
    rw [x1, ew, if_neg n1, s_nC (by omega), ku_f (f := 11) (by decide), ku_f (f := 11) (by decide), ku_f (f := 7) (by decide), s_rTf (f := 0) (by decide), show K 0 0 12 = M 0 0 31 from E.nu 6 (by omega)]
  have n5 : m_tkT M p 5 0 w ≠ -1 := by
    rw [s_tkf (by decide) (by decide), e0]
    decide
  refine ⟨w, hw, x1.trans ew, ⟨iv_next I, iv_mch J h, ?_, A1, ?_, ⟨rk, ?_⟩, ?_⟩, a24, ?_⟩
  · rw [eK, eM]
    exact ((((E.take I J (by omega) h).w_st hw 1).w_ha (nI w)).w_ti 3).w_nu (j := 6) _
  · rw [eM]
    exact ((((B.tk p).st n5).up (by decide) (by decide) (by decide) (by decide)).up (by decide) (by decide) (by decide) (by decide)).up (by decide) (by decide) (by decide) (by decide)
  · rw [eM]
    exact ((((C.tk p).st n5 (by decide) (Or.inl (by decide))).up (by decide) (by decide) (by decide) (by decide) (by decide)).up (by decide) (by decide) (by decide) (by decide) (by decide)).up (by decide) (by decide) (by decide) (by decide) (by decide)
  · rw [eK, eM]
    exact ((((D.tk J h).up (by decide) (Or.inr (by decide)) (by decide) (by decide) (by decide) (by decide)).up (by decide) (Or.inl (by decide)) (by decide) (by decide) (by decide) (by decide)).up (by decide) (Or.inl (by decide)) (by decide) (by decide) (by decide) (by decide)).up (by decide) (Or.inl (by decide)) (by decide) (by decide) (by decide) (by decide)
  · rw [eM, ku_j (by decide), ku_f (by decide), ku_f (by decide), ku_f (by decide), s_tkf (by decide) (by decide)]
theorem s_R.turn {K M : kM} (R : s_R 2 6 6 K M) {p : Nat} (hp : p < 2) : s_R 2 6 6 (g_turn K p) (m_turn M p) ∧ m_okU M p ∧ m_turn M p 0 0 32 = M 0 0 32 := by
  have eh := R.E.ha p hp
  unfold g_turn m_turn m_okU m_tu
  rcases R.J 24 0 p with hm | hm
  · have nh : ¬ 0 ≤ M 24 0 p := by rw [hm]; decide
    rw [if_pos (eh.trans hm)]
    by_cases h : M 20 0 p ≤ 0
    · obtain ⟨x1, x2⟩ := s_rX0 ((R.E.z R.J (r := p) (by omega)).mpr h)
      have et : m_tk M p = M := by
        unfold m_tk
        rw [if_neg nh, if_pos h]
      have en : g_next K p = K := by
        unfold g_next
        rw [x1, if_pos rfl, x2]
      rw [et, if_neg nh, x1, if_pos rfl, en, show K 0 0 11 = M 0 0 30 from R.E.nu 5 (by omega)]
      exact ⟨R.nu (j := 5), fun z => absurd z nh, ku_j (by decide)⟩
    · obtain ⟨w, hw, x1, R1, h24, h32⟩ := R.next hp hm h
      have et : m_tk M p = m_ch M p := by
        unfold m_tk
        rw [if_neg nh, if_neg h]
      have n1 : ¬ (nI w = -1) := fun z => s_n1 hw z.symm
      have hpos : 0 ≤ m_ch M p 24 0 p := by rw [h24]; exact nI_pos' (by omega)
      rw [et, if_pos hpos, x1, if_neg n1, s_nC (by omega)]
      obtain ⟨a, b, c⟩ := R1.step hp hw h24
      exact ⟨a, fun _ => b, c.trans h32⟩
  · obtain ⟨g, hg, eg⟩ := r_nat hm (by decide)
    have hpos : 0 ≤ M 24 0 p := by rw [eg]; exact nI_pos' (by omega)
    have n1 : ¬ (nI g = -1) := fun z => s_n1 hg z.symm
    have et : m_tk M p = M := by
      unfold m_tk
      rw [if_pos hpos]
    rw [et, if_pos hpos, eh, eg, if_neg n1, s_nC (by omega)]
    obtain ⟨a, b, c⟩ := R.step hp hg eg
    exact ⟨a, fun _ => b, c⟩
theorem s_R.tick {K M : kM} (R : s_R 2 6 6 K M) : s_R 2 6 6 (g_tick K) (m_tick M) ∧ m_okT M ∧ m_tick M 0 0 32 = M 0 0 32 := by
  have R0 : s_R 2 6 6 (k_up K 0 0 6 (K 0 0 6 + 1)) (k_up M 0 0 25 (M 0 0 25 + 1)) := by
    rw [show K 0 0 6 = M 0 0 25 from R.E.nu 0 (by omega)]
    exact R.nu (j := 0)
  obtain ⟨a1, b1, c1⟩ := R0.turn (p := 0) (by decide)
  obtain ⟨a2, b2, c2⟩ := a1.turn (p := 1) (by decide)
  exact ⟨a2, ⟨b1, b2⟩, by unfold m_tick; rw [c2, c1, ku_j (by decide)]⟩
