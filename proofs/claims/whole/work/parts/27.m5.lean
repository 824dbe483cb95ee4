set_option maxHeartbeats 4000000 in
set_option maxRecDepth 100000 in
theorem b_mrx {X : kX} {G : kG} {l : Launch} {K : kM} (C : k_C X kT b_Mo_run y_Mo_run.cls mS G 3 l (k_rm 7)) (k n : Int32) (I0 : m_Inv K) (hz : ¬ K 0 0 32 = 0) (E : k_E X (some .int) (some (.int 0)) K 0 0) : k_W X 0 0 23 [(2, .int (k)), (0, .ref (G.2.2 0 0)), (1, .int (n))] [] K := by
  refine k_aload_n C d_Mo_run_23 rfl ?_
  refine k_get C d_Mo_run_24 fg_Mo_90 (by decide) rfl ?_
  refine k_if_ne C d_Mo_run_27 (tgt := 87) (by decide) (fun h1 => ?_) (fun h1 => absurd h1 hz)
  refine k_aload_n C d_Mo_run_87 rfl ?_
  refine k_get C d_Mo_run_88 fg_Mo_90 (by decide) rfl ?_
  refine k_if_ne C d_Mo_run_91 (tgt := 98) (by decide) (fun h2 => ?_) (fun h2 => absurd h2 hz)
  refine k_iconst C d_Mo_run_98 (v := 0) (by decide) ?_
  exact k_ireturn C (E.to (by first | rfl | (simp only [m_no, ↓reduceIte, Nat.reduceAdd]; done) | (simp only [m_no, ↓reduceIte, Nat.reduceAdd]; rfl) | contradiction | (simp [m_no, ↓reduceIte, Nat.reduceAdd]; done) | (simp [m_no, ↓reduceIte, Nat.reduceAdd]; rfl)) (by first | rfl | (simp only [m_no, ↓reduceIte, Nat.reduceAdd]; done) | (simp only [m_no, ↓reduceIte, Nat.reduceAdd]; rfl) | contradiction | (simp [m_no, ↓reduceIte, Nat.reduceAdd]; done) | (simp [m_no, ↓reduceIte, Nat.reduceAdd]; rfl))) d_Mo_run_99
set_option maxHeartbeats 4000000 in
set_option maxRecDepth 100000 in
theorem b_mrn {X : kX} {G : kG} {l : Launch} (C : k_C X kT b_Mo_run y_Mo_run.cls mS G 3 l (k_rm 7)) (J : kM → Prop) (hJ : ∀ K, J K → m_Inv K ∧ K 0 0 32 = 0 ∧ m_okT K ∧ J (m_tick K)) (N : Nat) (hN : N ≤ 300) : ∀ (c k : Nat) {K : kM}, c + k = N → J K → m_Inv K → k_E X (some .int) (some (.int (m_rnX K c k))) (m_rnT K c) 0 0 → k_W X 0 0 23 [(2, .int (nI k)), (0, .ref (G.2.2 0 0)), (1, .int (nI N))] [] K
  | 0, k, K, hc, hj, I0, E => by
    have e : k = N := by omega
    subst e
    refine k_aload_n C d_Mo_run_23 rfl ?_
    refine k_get C d_Mo_run_24 fg_Mo_90 (by decide) rfl ?_
    refine k_if_ne C d_Mo_run_27 (tgt := 87) (by decide) (fun h1 => absurd (hJ _ hj).2.1 h1) (fun h1 => ?_)
    refine k_iload_n C d_Mo_run_30 rfl ?_
    refine k_iload_n C d_Mo_run_31 rfl ?_
    refine k_icmp_ge C d_Mo_run_32 (tgt := 87) (by decide) (fun h2 => ?_) (fun h2 => absurd (Int32.le_refl _) h2)
    refine k_aload_n C d_Mo_run_87 rfl ?_
    refine k_get C d_Mo_run_88 fg_Mo_90 (by decide) rfl ?_
    refine k_if_ne C d_Mo_run_91 (tgt := 98) (by decide) (fun h3 => absurd (hJ _ hj).2.1 h3) (fun h3 => ?_)
    refine k_iload_n C d_Mo_run_94 rfl ?_
    refine k_goto C d_Mo_run_95 (tgt := 99) (by decide) ?_
    exact k_ireturn C (E.to (by first | (simp only [m_rnX, m_rnT, ↓reduceIte]; done) | (simp only [m_rnX, m_rnT, ↓reduceIte]; rfl) | contradiction | rfl) (by first | (simp only [m_rnX, m_rnT, ↓reduceIte]; done) | (simp only [m_rnX, m_rnT, ↓reduceIte]; rfl) | contradiction | rfl)) d_Mo_run_99
  | c + 1, k, K, hc, hj, I0, E => by
    refine k_aload_n C d_Mo_run_23 rfl ?_
    refine k_get C d_Mo_run_24 fg_Mo_90 (by decide) rfl ?_
    refine k_if_ne C d_Mo_run_27 (tgt := 87) (by decide) (fun h1 => absurd (hJ _ hj).2.1 h1) (fun h1 => ?_)
    refine k_iload_n C d_Mo_run_30 rfl ?_
    refine k_iload_n C d_Mo_run_31 rfl ?_
    refine k_icmp_ge C d_Mo_run_32 (tgt := 87) (by decide) (fun h2 => absurd h2 (nI_ge (by omega) (by omega))) (fun h2 => ?_)
    refine k_aload_n C d_Mo_run_35 rfl ?_
    refine k_iconst C d_Mo_run_36 (v := 0) (by decide) ?_
    refine k_callVi C kg_all (c_Mo_many l G _ _ I0) cs_Mo_177 cv_Mo_many om_0 (by decide) rfl rfl (Nat.le_of_ble_eq_true rfl) ⟨rfl, rfl⟩ ⟨by decide, by decide⟩ ⟨Nat.zero_le _, Nat.zero_le _⟩ d_Mo_run_37 I0 (fun I3 => ?_)
    refine k_aload_n C d_Mo_run_40 rfl ?_
    refine k_iconst C d_Mo_run_41 (v := 1) (by decide) ?_
    refine k_callVi C kg_all (c_Mo_many l G _ _ I3) cs_Mo_177 cv_Mo_many om_0 (by decide) rfl rfl (Nat.le_of_ble_eq_true rfl) ⟨rfl, rfl⟩ ⟨by decide, by decide⟩ ⟨Nat.zero_le _, Nat.zero_le _⟩ d_Mo_run_42 I3 (fun I4 => ?_)
    refine k_iadd C d_Mo_run_45 ?_
    refine k_aload_n C d_Mo_run_46 rfl ?_
    refine k_iconst C d_Mo_run_47 (v := 2) (by decide) ?_
    refine k_callVi C kg_all (c_Mo_many l G _ _ I4) cs_Mo_177 cv_Mo_many om_0 (by decide) rfl rfl (Nat.le_of_ble_eq_true rfl) ⟨rfl, rfl⟩ ⟨by decide, by decide⟩ ⟨Nat.zero_le _, Nat.zero_le _⟩ d_Mo_run_48 I4 (fun I5 => ?_)
    refine k_iadd C d_Mo_run_51 ?_
    refine k_if_le C d_Mo_run_52 (tgt := 87) (by decide) (fun h6 => ?_) (fun h6 => ?_)
    · refine k_aload_n C d_Mo_run_87 rfl ?_
      refine k_get C d_Mo_run_88 fg_Mo_90 (by decide) rfl ?_
      refine k_if_ne C d_Mo_run_91 (tgt := 98) (by decide) (fun h7 => absurd (hJ _ hj).2.1 h7) (fun h7 => ?_)
      refine k_iload_n C d_Mo_run_94 rfl ?_
      refine k_goto C d_Mo_run_95 (tgt := 99) (by decide) ?_
      exact k_ireturn C (E.to (by first | (simp only [m_rnX, m_rnT, m_all, m_act, h6, ↓reduceIte]; done) | (simp only [m_rnX, m_rnT, m_all, m_act, h6, ↓reduceIte]; rfl) | contradiction | rfl) (by first | (simp only [m_rnX, m_rnT, m_all, m_act, h6, ↓reduceIte]; done) | (simp only [m_rnX, m_rnT, m_all, m_act, h6, ↓reduceIte]; rfl) | contradiction | rfl)) d_Mo_run_99
    · refine k_aload_n C d_Mo_run_55 rfl ?_
      refine k_iconst C d_Mo_run_56 (v := 0) (by decide) ?_
      refine k_callVi C kg_all (c_Mo_many l G _ _ I5) cs_Mo_177 cv_Mo_many om_0 (by decide) rfl rfl (Nat.le_of_ble_eq_true rfl) ⟨rfl, rfl⟩ ⟨by decide, by decide⟩ ⟨Nat.zero_le _, Nat.zero_le _⟩ d_Mo_run_57 I5 (fun I8 => ?_)
      refine k_aload_n C d_Mo_run_60 rfl ?_
      refine k_iconst C d_Mo_run_61 (v := 1) (by decide) ?_
      refine k_callVi C kg_all (c_Mo_many l G _ _ I8) cs_Mo_177 cv_Mo_many om_0 (by decide) rfl rfl (Nat.le_of_ble_eq_true rfl) ⟨rfl, rfl⟩ ⟨by decide, by decide⟩ ⟨Nat.zero_le _, Nat.zero_le _⟩ d_Mo_run_62 I8 (fun I9 => ?_)
      refine k_iadd C d_Mo_run_65 ?_
      refine k_if_ne C d_Mo_run_66 (tgt := 77) (by decide) (fun h10 => ?_) (fun h10 => ?_)
      · refine k_aload_n C d_Mo_run_77 rfl ?_
        refine k_callVv C kg_all (c_Mo_tick l G _ I9 (hJ _ hj).2.2.1) cs_Mo_180 cv_Mo_tick om_0 (by decide) rfl rfl (Nat.le_of_ble_eq_true rfl) ⟨rfl, rfl⟩ ⟨by decide, by decide⟩ ⟨Nat.zero_le _, Nat.zero_le _⟩ d_Mo_run_78 (iv_mtick I9 (hJ _ hj).2.2.1) (fun I11 => ?_)
        refine k_iinc C d_Mo_run_81 rfl (v := nI (k + 1)) (nI_1 k) (by decide) ?_
        refine k_goto C d_Mo_run_84 (tgt := 23) (by decide) ?_
        first | (exact k_loc [(2, .int (nI (k + 1))), (0, .ref (G.2.2 0 0)), (1, .int (nI N))] ⟨rfl, rfl, rfl, trivial⟩ (b_mrn C J hJ N hN c (k + 1) (by omega) (hJ _ hj).2.2.2 I11 (E.to (by simp only [m_rnX, m_all, m_act, h6, h10, ↓reduceIte]) (by simp only [m_rnT, m_all, m_act, h6, h10, ↓reduceIte])))) | (exact k_loc [(2, .int (nI k)), (0, .ref (G.2.2 0 0)), (1, .int (nI N))] ⟨rfl, rfl, rfl, trivial⟩ (b_mrx C _ _ I11 (by rw [k_up_eq]; decide) (E.to (by unfold m_rnX; rw [if_neg (show ¬ m_all K ≤ 0 from h6), if_pos (show m_act K = 0 from h10)]) (by unfold m_rnT; rw [if_neg (show ¬ m_all K ≤ 0 from h6), if_pos (show m_act K = 0 from h10)]))))
      · refine k_aload_n C d_Mo_run_69 rfl ?_
        refine k_iconst C d_Mo_run_70 (v := 2) (by decide) ?_
        refine k_put C d_Mo_run_71 fp_Mo_90 (by decide) rfl I9 (trivial) (fun I12 => ?_)
        refine k_goto C d_Mo_run_74 (tgt := 23) (by decide) ?_
        first | (exact k_loc [(2, .int (nI (k + 1))), (0, .ref (G.2.2 0 0)), (1, .int (nI N))] ⟨rfl, rfl, rfl, trivial⟩ (b_mrn C J hJ N hN c (k + 1) (by omega) (hJ _ hj).2.2.2 I12 (E.to (by simp only [m_rnX, m_all, m_act, h6, h10, ↓reduceIte]) (by simp only [m_rnT, m_all, m_act, h6, h10, ↓reduceIte])))) | (exact k_loc [(2, .int (nI k)), (0, .ref (G.2.2 0 0)), (1, .int (nI N))] ⟨rfl, rfl, rfl, trivial⟩ (b_mrx C _ _ I12 (by rw [k_up_eq]; decide) (E.to (by unfold m_rnX; rw [if_neg (show ¬ m_all K ≤ 0 from h6), if_pos (show m_act K = 0 from h10)]) (by unfold m_rnT; rw [if_neg (show ¬ m_all K ≤ 0 from h6), if_pos (show m_act K = 0 from h10)]))))
set_option maxHeartbeats 4000000 in
set_option maxRecDepth 100000 in
theorem c_Mo_run (l : Launch) (G : kG) (K : kM) (n : Int32)   (I0 : m_Inv K) (J : kM → Prop) (hJ : ∀ K, J K → m_Inv K ∧ K 0 0 32 = 0 ∧ m_okT K ∧ J (m_tick K)) (hj : J (k_up K 0 0 32 0)) : k_Met l mS kT y_Mo_run b_Mo_run 3 (some .int) (k_rm 7) G [.ref (G.2.2 0 0), .int n] K (some (.int (m_runX K n))) (m_runT K n) := by
  refine k_intro (by decide +kernel) rfl (Nat.le_of_ble_eq_true rfl) ?_
  intro X C E
  refine k_aload_n C d_Mo_run_0 rfl ?_
  refine k_iload_n C d_Mo_run_1 rfl ?_
  refine k_iconst C d_Mo_run_2 (v := 1) (by decide) ?_
  refine k_icmp_lt C d_Mo_run_3 (tgt := 13) (by decide) (fun h1 => ?_) (fun h1 => ?_)
  · refine k_iconst C d_Mo_run_13 (v := 1) (by decide) ?_
    refine k_goto C d_Mo_run_14 (tgt := 18) (by decide) ?_
    refine k_put C d_Mo_run_18 fp_Mo_90 (by decide) rfl I0 (trivial) (fun I2 => ?_)
    refine k_iconst C d_Mo_run_21 (v := 0) (by decide) ?_
    refine k_istore_n C d_Mo_run_22 (by decide) ?_
    first | (exact k_loc [(2, .int (0)), (0, .ref (G.2.2 0 0)), (1, .int (n))] ⟨rfl, rfl, rfl, trivial⟩ (b_mrx C _ _ I2 (by rw [k_up_eq]; decide) (E.to (by simp only [m_runX, h1, ↓reduceIte]) (by simp only [m_runT, h1, ↓reduceIte])))) | (obtain ⟨N, hN, rfl⟩ := m_300 h1 ‹_›; have e := nI_clamp (n := N) (by omega); exact k_loc [(2, .int (nI 0)), (0, .ref (G.2.2 0 0)), (1, .int (nI N))] ⟨rfl, rfl, rfl, trivial⟩ (b_mrn C J hJ N hN N 0 rfl hj I2 (E.to (by simp only [m_runX, h1, ↓reduceIte, e]) (by simp only [m_runT, h1, ↓reduceIte, e]))))
  · refine k_iload_n C d_Mo_run_6 rfl ?_
    refine k_sipush C d_Mo_run_7 (v := 300) (by decide) ?_
    refine k_icmp_le C d_Mo_run_10 (tgt := 17) (by decide) (fun h3 => ?_) (fun h3 => ?_)
    · refine k_iconst C d_Mo_run_17 (v := 0) (by decide) ?_
      refine k_put C d_Mo_run_18 fp_Mo_90 (by decide) rfl I0 (trivial) (fun I4 => ?_)
      refine k_iconst C d_Mo_run_21 (v := 0) (by decide) ?_
      refine k_istore_n C d_Mo_run_22 (by decide) ?_
      first | (exact k_loc [(2, .int (0)), (0, .ref (G.2.2 0 0)), (1, .int (n))] ⟨rfl, rfl, rfl, trivial⟩ (b_mrx C _ _ I4 (by rw [k_up_eq]; decide) (E.to (by simp only [m_runX, h1, h3, ↓reduceIte]) (by simp only [m_runT, h1, h3, ↓reduceIte])))) | (obtain ⟨N, hN, rfl⟩ := m_300 h1 ‹_›; have e := nI_clamp (n := N) (by omega); exact k_loc [(2, .int (nI 0)), (0, .ref (G.2.2 0 0)), (1, .int (nI N))] ⟨rfl, rfl, rfl, trivial⟩ (b_mrn C J hJ N hN N 0 rfl hj I4 (E.to (by simp only [m_runX, h1, h3, ↓reduceIte, e]) (by simp only [m_runT, h1, h3, ↓reduceIte, e]))))
    · refine k_iconst C d_Mo_run_13 (v := 1) (by decide) ?_
      refine k_goto C d_Mo_run_14 (tgt := 18) (by decide) ?_
      refine k_put C d_Mo_run_18 fp_Mo_90 (by decide) rfl I0 (trivial) (fun I5 => ?_)
      refine k_iconst C d_Mo_run_21 (v := 0) (by decide) ?_
      refine k_istore_n C d_Mo_run_22 (by decide) ?_
      first | (exact k_loc [(2, .int (0)), (0, .ref (G.2.2 0 0)), (1, .int (n))] ⟨rfl, rfl, rfl, trivial⟩ (b_mrx C _ _ I5 (by rw [k_up_eq]; decide) (E.to (by simp only [m_runX, h1, h3, ↓reduceIte]) (by simp only [m_runT, h1, h3, ↓reduceIte])))) | (obtain ⟨N, hN, rfl⟩ := m_300 h1 ‹_›; have e := nI_clamp (n := N) (by omega); exact k_loc [(2, .int (nI 0)), (0, .ref (G.2.2 0 0)), (1, .int (nI N))] ⟨rfl, rfl, rfl, trivial⟩ (b_mrn C J hJ N hN N 0 rfl hj I5 (E.to (by simp only [m_runX, h1, h3, ↓reduceIte, e]) (by simp only [m_runT, h1, h3, ↓reduceIte, e]))))
set_option maxHeartbeats 4000000 in
set_option maxRecDepth 100000 in
theorem c_Mo_guest (l : Launch) (G : kG) (K : kM) (g : Int32) (bad : Int32)   (I0 : m_Inv K) : k_Met l mS kT y_Mo_guest b_Mo_guest 3 (some .boolean) (k_rm 1) G [.ref (G.2.2 0 0), .int g, .int bad] K (some (.int (m_gX K g bad))) (m_gT K g bad) := by
  refine k_intro (by decide +kernel) rfl (Nat.le_of_ble_eq_true rfl) ?_
  intro X C E
  refine k_aload_n C d_Mo_guest_0 rfl ?_
  refine k_aload_n C d_Mo_guest_1 rfl ?_
  refine k_iload_n C d_Mo_guest_2 rfl ?_
  refine k_iconst C d_Mo_guest_3 (v := 5) (by decide) ?_
  refine k_callVi C kg_all (c_Mo_no l G _ _ _ I0) cs_Mo_102 cv_Mo_no om_0 (by decide) rfl rfl (Nat.le_of_ble_eq_true rfl) ⟨rfl, rfl⟩ ⟨by decide, by decide⟩ ⟨Nat.zero_le _, Nat.zero_le _⟩ d_Mo_guest_4 I0 (fun I1 => ?_)
  refine k_if_ne C d_Mo_guest_7 (tgt := 14) (by decide) (fun h2 => ?_) (fun h2 => ?_)
  · refine k_iconst C d_Mo_guest_14 (v := 1) (by decide) ?_
    refine k_goto C d_Mo_guest_15 (tgt := 32) (by decide) ?_
    refine k_put C d_Mo_guest_32 fp_Mo_90 (by decide) rfl I1 (trivial) (fun I3 => ?_)
    refine k_aload_n C d_Mo_guest_35 rfl ?_
    refine k_get C d_Mo_guest_36 fg_Mo_90 (by decide) rfl ?_
    refine k_top (k_up_eq _ _ _ _ _) ?_
    refine k_if_ne C d_Mo_guest_39 (tgt := 46) (by decide) (fun _ => ?_) (fun h => absurd h (by decide))
    refine k_iconst C d_Mo_guest_46 (v := 0) (by decide) ?_
    exact k_zreturn C (E.to (by first | rfl | (simp only [m_gX, m_gT, m_gs, h2, ↓reduceIte, Nat.reduceAdd]; done) | (simp only [m_gX, m_gT, m_gs, h2, ↓reduceIte, Nat.reduceAdd]; rfl) | contradiction | (simp [m_gX, m_gT, m_gs, h2, ↓reduceIte, Nat.reduceAdd]; done) | (simp [m_gX, m_gT, m_gs, h2, ↓reduceIte, Nat.reduceAdd]; rfl)) (by first | rfl | (simp only [m_gX, m_gT, m_gs, h2, ↓reduceIte, Nat.reduceAdd]; done) | (simp only [m_gX, m_gT, m_gs, h2, ↓reduceIte, Nat.reduceAdd]; rfl) | contradiction | (simp [m_gX, m_gT, m_gs, h2, ↓reduceIte, Nat.reduceAdd]; done) | (simp [m_gX, m_gT, m_gs, h2, ↓reduceIte, Nat.reduceAdd]; rfl))) d_Mo_guest_47 (by first | rfl | decide)
  · refine k_iload_n C d_Mo_guest_10 rfl ?_
    refine k_if_eq C d_Mo_guest_11 (tgt := 18) (by decide) (fun h4 => ?_) (fun h4 => ?_)
    · refine k_aload_n C d_Mo_guest_18 rfl ?_
      refine k_getr C d_Mo_guest_19 fg_Mo_22 (by decide) rfl ?_
      refine k_iload_n C d_Mo_guest_22 rfl ?_
      refine k_iaload C d_Mo_guest_23 am_5 (by decide) (r_no (n := 5) (by decide) ‹_›) rfl ?_
      refine k_if_ge C d_Mo_guest_24 (tgt := 31) (by decide) (fun h5 => ?_) (fun h5 => ?_)
      · refine k_iconst C d_Mo_guest_31 (v := 0) (by decide) ?_
        refine k_put C d_Mo_guest_32 fp_Mo_90 (by decide) rfl I1 (trivial) (fun I6 => ?_)
        refine k_aload_n C d_Mo_guest_35 rfl ?_
        refine k_get C d_Mo_guest_36 fg_Mo_90 (by decide) rfl ?_
        refine k_top (k_up_eq _ _ _ _ _) ?_
        refine k_if_ne C d_Mo_guest_39 (tgt := 46) (by decide) (fun h => absurd h (by decide)) (fun _ => ?_)
        refine k_iconst C d_Mo_guest_42 (v := 1) (by decide) ?_
        refine k_goto C d_Mo_guest_43 (tgt := 47) (by decide) ?_
        exact k_zreturn C (E.to (by first | rfl | (simp only [m_gX, m_gT, m_gs, h2, h4, h5, ↓reduceIte, Nat.reduceAdd]; done) | (simp only [m_gX, m_gT, m_gs, h2, h4, h5, ↓reduceIte, Nat.reduceAdd]; rfl) | contradiction | (simp [m_gX, m_gT, m_gs, h2, h4, h5, ↓reduceIte, Nat.reduceAdd]; done) | (simp [m_gX, m_gT, m_gs, h2, h4, h5, ↓reduceIte, Nat.reduceAdd]; rfl)) (by first | rfl | (simp only [m_gX, m_gT, m_gs, h2, h4, h5, ↓reduceIte, Nat.reduceAdd]; done) | (simp only [m_gX, m_gT, m_gs, h2, h4, h5, ↓reduceIte, Nat.reduceAdd]; rfl) | contradiction | (simp [m_gX, m_gT, m_gs, h2, h4, h5, ↓reduceIte, Nat.reduceAdd]; done) | (simp [m_gX, m_gT, m_gs, h2, h4, h5, ↓reduceIte, Nat.reduceAdd]; rfl))) d_Mo_guest_47 (by first | rfl | decide)
      · refine k_iconst C d_Mo_guest_27 (v := 2) (by decide) ?_
        refine k_goto C d_Mo_guest_28 (tgt := 32) (by decide) ?_
        refine k_put C d_Mo_guest_32 fp_Mo_90 (by decide) rfl I1 (trivial) (fun I7 => ?_)
        refine k_aload_n C d_Mo_guest_35 rfl ?_
        refine k_get C d_Mo_guest_36 fg_Mo_90 (by decide) rfl ?_
        refine k_top (k_up_eq _ _ _ _ _) ?_
        refine k_if_ne C d_Mo_guest_39 (tgt := 46) (by decide) (fun _ => ?_) (fun h => absurd h (by decide))
        refine k_iconst C d_Mo_guest_46 (v := 0) (by decide) ?_
        exact k_zreturn C (E.to (by first | rfl | (simp only [m_gX, m_gT, m_gs, h2, h4, h5, ↓reduceIte, Nat.reduceAdd]; done) | (simp only [m_gX, m_gT, m_gs, h2, h4, h5, ↓reduceIte, Nat.reduceAdd]; rfl) | contradiction | (simp [m_gX, m_gT, m_gs, h2, h4, h5, ↓reduceIte, Nat.reduceAdd]; done) | (simp [m_gX, m_gT, m_gs, h2, h4, h5, ↓reduceIte, Nat.reduceAdd]; rfl)) (by first | rfl | (simp only [m_gX, m_gT, m_gs, h2, h4, h5, ↓reduceIte, Nat.reduceAdd]; done) | (simp only [m_gX, m_gT, m_gs, h2, h4, h5, ↓reduceIte, Nat.reduceAdd]; rfl) | contradiction | (simp [m_gX, m_gT, m_gs, h2, h4, h5, ↓reduceIte, Nat.reduceAdd]; done) | (simp [m_gX, m_gT, m_gs, h2, h4, h5, ↓reduceIte, Nat.reduceAdd]; rfl))) d_Mo_guest_47 (by first | rfl | decide)
    · refine k_iconst C d_Mo_guest_14 (v := 1) (by decide) ?_
      refine k_goto C d_Mo_guest_15 (tgt := 32) (by decide) ?_
      refine k_put C d_Mo_guest_32 fp_Mo_90 (by decide) rfl I1 (trivial) (fun I8 => ?_)
      refine k_aload_n C d_Mo_guest_35 rfl ?_
      refine k_get C d_Mo_guest_36 fg_Mo_90 (by decide) rfl ?_
      refine k_top (k_up_eq _ _ _ _ _) ?_
      refine k_if_ne C d_Mo_guest_39 (tgt := 46) (by decide) (fun _ => ?_) (fun h => absurd h (by decide))
      refine k_iconst C d_Mo_guest_46 (v := 0) (by decide) ?_
      exact k_zreturn C (E.to (by first | rfl | (simp only [m_gX, m_gT, m_gs, h2, h4, ↓reduceIte, Nat.reduceAdd]; done) | (simp only [m_gX, m_gT, m_gs, h2, h4, ↓reduceIte, Nat.reduceAdd]; rfl) | contradiction | (simp [m_gX, m_gT, m_gs, h2, h4, ↓reduceIte, Nat.reduceAdd]; done) | (simp [m_gX, m_gT, m_gs, h2, h4, ↓reduceIte, Nat.reduceAdd]; rfl)) (by first | rfl | (simp only [m_gX, m_gT, m_gs, h2, h4, ↓reduceIte, Nat.reduceAdd]; done) | (simp only [m_gX, m_gT, m_gs, h2, h4, ↓reduceIte, Nat.reduceAdd]; rfl) | contradiction | (simp [m_gX, m_gT, m_gs, h2, h4, ↓reduceIte, Nat.reduceAdd]; done) | (simp [m_gX, m_gT, m_gs, h2, h4, ↓reduceIte, Nat.reduceAdd]; rfl))) d_Mo_guest_47 (by first | rfl | decide)
set_option maxHeartbeats 4000000 in
set_option maxRecDepth 100000 in
theorem c_Mo_register (l : Launch) (G : kG) (K : kM) (g : Int32) (r : Int32)   (I0 : m_Inv K) : k_Met l mS kT y_Mo_register b_Mo_register 3 (some .int) (k_rm 2) G [.ref (G.2.2 0 0), .int g, .int r] K (some (.int (m_regX K g r))) (m_gT K g (m_no r 3)) := by
  refine k_intro (by decide +kernel) rfl (Nat.le_of_ble_eq_true rfl) ?_
  intro X C E
  refine k_aload_n C d_Mo_register_0 rfl ?_
  refine k_iload_n C d_Mo_register_1 rfl ?_
  refine k_aload_n C d_Mo_register_2 rfl ?_
  refine k_iload_n C d_Mo_register_3 rfl ?_
  refine k_iconst C d_Mo_register_4 (v := 3) (by decide) ?_
  refine k_callVi C kg_all (c_Mo_no l G _ _ _ I0) cs_Mo_102 cv_Mo_no om_0 (by decide) rfl rfl (Nat.le_of_ble_eq_true rfl) ⟨rfl, rfl⟩ ⟨by decide, by decide⟩ ⟨Nat.zero_le _, Nat.zero_le _⟩ d_Mo_register_5 I0 (fun I1 => ?_)
  refine k_callVi C kg_all (c_Mo_guest l G _ _ _ I1) cs_Mo_183 cv_Mo_guest om_0 (by decide) rfl rfl (Nat.le_of_ble_eq_true rfl) ⟨rfl, rfl⟩ ⟨by decide, by decide⟩ ⟨Nat.zero_le _, Nat.zero_le _⟩ d_Mo_register_8 (iv_gT I1) (fun I2 => ?_)
  refine k_if_eq C d_Mo_register_11 (tgt := 27) (by decide) (fun h3 => ?_) (fun h3 => ?_)
  · refine k_iconst C d_Mo_register_27 (v := 0) (by decide) ?_
    exact k_ireturn C (E.to (by first | (simp only [m_regX, h3, ↓reduceIte]; done) | (simp only [m_regX, h3, ↓reduceIte]; rfl) | contradiction | rfl) (by first | (simp only [m_regX, h3, ↓reduceIte]; done) | (simp only [m_regX, h3, ↓reduceIte]; rfl) | contradiction | rfl)) d_Mo_register_28
  · have hq := m_gxr ‹_›
    have hq1 := r_no (n := 5) (by decide) hq.1
    have hq2 := r_no (n := 3) (by decide) hq.2.1
    have hl1 := k_lt hq1
    have hl2 := k_lt hq2
    refine k_aload_n C d_Mo_register_14 rfl ?_
    refine k_getr C d_Mo_register_15 fg_Mo_52 (by decide) rfl ?_
    refine k_iload_n C d_Mo_register_18 rfl ?_
    refine k_top (r_id hq1 (by decide)) ?_
    refine k_iconst C d_Mo_register_19 (v := 4) (by decide) ?_
    refine k_imul C d_Mo_register_20 ?_
    refine k_iload_n C d_Mo_register_21 rfl ?_
    refine k_top (r_id hq2 (by decide)) ?_
    refine k_iadd C d_Mo_register_22 ?_
    refine k_iaload C d_Mo_register_23 am_15 (by decide) (mx (g.toNatClampNeg) 4 (r.toNatClampNeg) 24 (by omega) (by decide)).1 (mx (g.toNatClampNeg) 4 (r.toNatClampNeg) 24 (by omega) (by decide)).2 ?_
    refine k_goto C d_Mo_register_24 (tgt := 28) (by decide) ?_
    exact k_ireturn C (E.to (by first | (simp only [m_regX, h3, ↓reduceIte]; done) | (simp only [m_regX, h3, ↓reduceIte]; rfl) | contradiction | rfl) (by first | (simp only [m_regX, h3, ↓reduceIte]; done) | (simp only [m_regX, h3, ↓reduceIte]; rfl) | contradiction | rfl)) d_Mo_register_28
set_option maxHeartbeats 4000000 in
set_option maxRecDepth 100000 in
theorem c_Mo_page (l : Launch) (G : kG) (K : kM) (g : Int32) (r : Int32)   (I0 : m_Inv K) : k_Met l mS kT y_Mo_page b_Mo_page 3 (some .int) (k_rm 2) G [.ref (G.2.2 0 0), .int g, .int r] K (some (.int (m_pagX K g r))) (m_gT K g (m_no r 3)) := by
  refine k_intro (by decide +kernel) rfl (Nat.le_of_ble_eq_true rfl) ?_
  intro X C E
  refine k_aload_n C d_Mo_page_0 rfl ?_
  refine k_iload_n C d_Mo_page_1 rfl ?_
  refine k_aload_n C d_Mo_page_2 rfl ?_
  refine k_iload_n C d_Mo_page_3 rfl ?_
  refine k_iconst C d_Mo_page_4 (v := 3) (by decide) ?_
  refine k_callVi C kg_all (c_Mo_no l G _ _ _ I0) cs_Mo_102 cv_Mo_no om_0 (by decide) rfl rfl (Nat.le_of_ble_eq_true rfl) ⟨rfl, rfl⟩ ⟨by decide, by decide⟩ ⟨Nat.zero_le _, Nat.zero_le _⟩ d_Mo_page_5 I0 (fun I1 => ?_)
  refine k_callVi C kg_all (c_Mo_guest l G _ _ _ I1) cs_Mo_183 cv_Mo_guest om_0 (by decide) rfl rfl (Nat.le_of_ble_eq_true rfl) ⟨rfl, rfl⟩ ⟨by decide, by decide⟩ ⟨Nat.zero_le _, Nat.zero_le _⟩ d_Mo_page_8 (iv_gT I1) (fun I2 => ?_)
  refine k_if_eq C d_Mo_page_11 (tgt := 27) (by decide) (fun h3 => ?_) (fun h3 => ?_)
  · refine k_iconst C d_Mo_page_27 (v := 0) (by decide) ?_
    exact k_ireturn C (E.to (by first | (simp only [m_pagX, h3, ↓reduceIte]; done) | (simp only [m_pagX, h3, ↓reduceIte]; rfl) | contradiction | rfl) (by first | (simp only [m_pagX, h3, ↓reduceIte]; done) | (simp only [m_pagX, h3, ↓reduceIte]; rfl) | contradiction | rfl)) d_Mo_page_28
  · have hq := m_gxr ‹_›
    have hq1 := r_no (n := 5) (by decide) hq.1
    have hq2 := r_no (n := 3) (by decide) hq.2.1
    have hl1 := k_lt hq1
    have hl2 := k_lt hq2
    refine k_aload_n C d_Mo_page_14 rfl ?_
    refine k_getr C d_Mo_page_15 fg_Mo_55 (by decide) rfl ?_
    refine k_iload_n C d_Mo_page_18 rfl ?_
    refine k_top (r_id hq1 (by decide)) ?_
    refine k_iconst C d_Mo_page_19 (v := 4) (by decide) ?_
    refine k_imul C d_Mo_page_20 ?_
    refine k_iload_n C d_Mo_page_21 rfl ?_
    refine k_top (r_id hq2 (by decide)) ?_
    refine k_iadd C d_Mo_page_22 ?_
    refine k_iaload C d_Mo_page_23 am_16 (by decide) (mx (g.toNatClampNeg) 4 (r.toNatClampNeg) 24 (by omega) (by decide)).1 (mx (g.toNatClampNeg) 4 (r.toNatClampNeg) 24 (by omega) (by decide)).2 ?_
    refine k_goto C d_Mo_page_24 (tgt := 28) (by decide) ?_
    exact k_ireturn C (E.to (by first | (simp only [m_pagX, h3, ↓reduceIte]; done) | (simp only [m_pagX, h3, ↓reduceIte]; rfl) | contradiction | rfl) (by first | (simp only [m_pagX, h3, ↓reduceIte]; done) | (simp only [m_pagX, h3, ↓reduceIte]; rfl) | contradiction | rfl)) d_Mo_page_28
set_option maxHeartbeats 4000000 in
set_option maxRecDepth 100000 in
theorem c_Mo_told (l : Launch) (G : kG) (K : kM) (g : Int32) (w : Int32)   (I0 : m_Inv K) : k_Met l mS kT y_Mo_told b_Mo_told 3 (some .int) (k_rm 2) G [.ref (G.2.2 0 0), .int g, .int w] K (some (.int (m_telX K g w))) (m_gT K g (m_no w 8)) := by
  refine k_intro (by decide +kernel) rfl (Nat.le_of_ble_eq_true rfl) ?_
  intro X C E
  refine k_aload_n C d_Mo_told_0 rfl ?_
  refine k_iload_n C d_Mo_told_1 rfl ?_
  refine k_aload_n C d_Mo_told_2 rfl ?_
  refine k_iload_n C d_Mo_told_3 rfl ?_
  refine k_bipush C d_Mo_told_4 (v := 8) (by decide) ?_
  refine k_callVi C kg_all (c_Mo_no l G _ _ _ I0) cs_Mo_102 cv_Mo_no om_0 (by decide) rfl rfl (Nat.le_of_ble_eq_true rfl) ⟨rfl, rfl⟩ ⟨by decide, by decide⟩ ⟨Nat.zero_le _, Nat.zero_le _⟩ d_Mo_told_6 I0 (fun I1 => ?_)
  refine k_callVi C kg_all (c_Mo_guest l G _ _ _ I1) cs_Mo_183 cv_Mo_guest om_0 (by decide) rfl rfl (Nat.le_of_ble_eq_true rfl) ⟨rfl, rfl⟩ ⟨by decide, by decide⟩ ⟨Nat.zero_le _, Nat.zero_le _⟩ d_Mo_told_9 (iv_gT I1) (fun I2 => ?_)
  refine k_if_ne C d_Mo_told_12 (tgt := 17) (by decide) (fun h3 => ?_) (fun h3 => ?_)
  · have hq := m_gxr ‹_›
    have hq1 := r_no (n := 5) (by decide) hq.1
    have hq2 := r_no (n := 8) (by decide) hq.2.1
    have hl1 := k_lt hq1
    refine k_iload_n C d_Mo_told_17 rfl ?_
    rcases r_c9 hq2 with rfl | rfl | rfl | rfl | rfl | rfl | rfl | rfl | rfl
    · refine k_tabIn C d_Mo_told_18 (by decide) (by decide) (off := 46) (by decide) (tgt := 64) (by decide) ?_
      refine k_aload_n C d_Mo_told_64 rfl ?_
      refine k_getr C d_Mo_told_65 fg_Mo_22 (by decide) rfl ?_
      refine k_iload_n C d_Mo_told_68 rfl ?_
      refine k_top (r_id hq1 (by decide)) ?_
      refine k_iaload C d_Mo_told_69 am_5 (by decide) (vp_in_nI (by omega) (by decide)) (nI_clamp (by omega)) ?_
      exact k_ireturn C (E.to (by first | (simp only [mtl_0, mtl_1, mtl_2, mtl_3, mtl_4, mtl_5, mtl_6, mtl_7, mtl_8, m_telX, h3, ↓reduceIte]; done) | (simp only [mtl_0, mtl_1, mtl_2, mtl_3, mtl_4, mtl_5, mtl_6, mtl_7, mtl_8, m_telX, h3, ↓reduceIte]; rfl) | contradiction | rfl) (by first | (simp only [mtl_0, mtl_1, mtl_2, mtl_3, mtl_4, mtl_5, mtl_6, mtl_7, mtl_8, m_telX, h3, ↓reduceIte]; done) | (simp only [mtl_0, mtl_1, mtl_2, mtl_3, mtl_4, mtl_5, mtl_6, mtl_7, mtl_8, m_telX, h3, ↓reduceIte]; rfl) | contradiction | rfl)) d_Mo_told_70
    · refine k_tabIn C d_Mo_told_18 (by decide) (by decide) (off := 53) (by decide) (tgt := 71) (by decide) ?_
      refine k_aload_n C d_Mo_told_71 rfl ?_
      refine k_getr C d_Mo_told_72 fg_Mo_25 (by decide) rfl ?_
      refine k_iload_n C d_Mo_told_75 rfl ?_
      refine k_top (r_id hq1 (by decide)) ?_
      refine k_iaload C d_Mo_told_76 am_6 (by decide) (vp_in_nI (by omega) (by decide)) (nI_clamp (by omega)) ?_
      exact k_ireturn C (E.to (by first | (simp only [mtl_0, mtl_1, mtl_2, mtl_3, mtl_4, mtl_5, mtl_6, mtl_7, mtl_8, m_telX, h3, ↓reduceIte]; done) | (simp only [mtl_0, mtl_1, mtl_2, mtl_3, mtl_4, mtl_5, mtl_6, mtl_7, mtl_8, m_telX, h3, ↓reduceIte]; rfl) | contradiction | rfl) (by first | (simp only [mtl_0, mtl_1, mtl_2, mtl_3, mtl_4, mtl_5, mtl_6, mtl_7, mtl_8, m_telX, h3, ↓reduceIte]; done) | (simp only [mtl_0, mtl_1, mtl_2, mtl_3, mtl_4, mtl_5, mtl_6, mtl_7, mtl_8, m_telX, h3, ↓reduceIte]; rfl) | contradiction | rfl)) d_Mo_told_77
    · refine k_tabIn C d_Mo_told_18 (by decide) (by decide) (off := 60) (by decide) (tgt := 78) (by decide) ?_
      refine k_aload_n C d_Mo_told_78 rfl ?_
      refine k_getr C d_Mo_told_79 fg_Mo_28 (by decide) rfl ?_
      refine k_iload_n C d_Mo_told_82 rfl ?_
      refine k_top (r_id hq1 (by decide)) ?_
      refine k_iaload C d_Mo_told_83 am_7 (by decide) (vp_in_nI (by omega) (by decide)) (nI_clamp (by omega)) ?_
      exact k_ireturn C (E.to (by first | (simp only [mtl_0, mtl_1, mtl_2, mtl_3, mtl_4, mtl_5, mtl_6, mtl_7, mtl_8, m_telX, h3, ↓reduceIte]; done) | (simp only [mtl_0, mtl_1, mtl_2, mtl_3, mtl_4, mtl_5, mtl_6, mtl_7, mtl_8, m_telX, h3, ↓reduceIte]; rfl) | contradiction | rfl) (by first | (simp only [mtl_0, mtl_1, mtl_2, mtl_3, mtl_4, mtl_5, mtl_6, mtl_7, mtl_8, m_telX, h3, ↓reduceIte]; done) | (simp only [mtl_0, mtl_1, mtl_2, mtl_3, mtl_4, mtl_5, mtl_6, mtl_7, mtl_8, m_telX, h3, ↓reduceIte]; rfl) | contradiction | rfl)) d_Mo_told_84
    · refine k_tabIn C d_Mo_told_18 (by decide) (by decide) (off := 67) (by decide) (tgt := 85) (by decide) ?_
      refine k_aload_n C d_Mo_told_85 rfl ?_
      refine k_getr C d_Mo_told_86 fg_Mo_31 (by decide) rfl ?_
      refine k_iload_n C d_Mo_told_89 rfl ?_
      refine k_top (r_id hq1 (by decide)) ?_
      refine k_iaload C d_Mo_told_90 am_8 (by decide) (vp_in_nI (by omega) (by decide)) (nI_clamp (by omega)) ?_
      exact k_ireturn C (E.to (by first | (simp only [mtl_0, mtl_1, mtl_2, mtl_3, mtl_4, mtl_5, mtl_6, mtl_7, mtl_8, m_telX, h3, ↓reduceIte]; done) | (simp only [mtl_0, mtl_1, mtl_2, mtl_3, mtl_4, mtl_5, mtl_6, mtl_7, mtl_8, m_telX, h3, ↓reduceIte]; rfl) | contradiction | rfl) (by first | (simp only [mtl_0, mtl_1, mtl_2, mtl_3, mtl_4, mtl_5, mtl_6, mtl_7, mtl_8, m_telX, h3, ↓reduceIte]; done) | (simp only [mtl_0, mtl_1, mtl_2, mtl_3, mtl_4, mtl_5, mtl_6, mtl_7, mtl_8, m_telX, h3, ↓reduceIte]; rfl) | contradiction | rfl)) d_Mo_told_91
    · refine k_tabIn C d_Mo_told_18 (by decide) (by decide) (off := 74) (by decide) (tgt := 92) (by decide) ?_
      refine k_aload_n C d_Mo_told_92 rfl ?_
      refine k_getr C d_Mo_told_93 fg_Mo_34 (by decide) rfl ?_
      refine k_iload_n C d_Mo_told_96 rfl ?_
      refine k_top (r_id hq1 (by decide)) ?_
      refine k_iaload C d_Mo_told_97 am_9 (by decide) (vp_in_nI (by omega) (by decide)) (nI_clamp (by omega)) ?_
      exact k_ireturn C (E.to (by first | (simp only [mtl_0, mtl_1, mtl_2, mtl_3, mtl_4, mtl_5, mtl_6, mtl_7, mtl_8, m_telX, h3, ↓reduceIte]; done) | (simp only [mtl_0, mtl_1, mtl_2, mtl_3, mtl_4, mtl_5, mtl_6, mtl_7, mtl_8, m_telX, h3, ↓reduceIte]; rfl) | contradiction | rfl) (by first | (simp only [mtl_0, mtl_1, mtl_2, mtl_3, mtl_4, mtl_5, mtl_6, mtl_7, mtl_8, m_telX, h3, ↓reduceIte]; done) | (simp only [mtl_0, mtl_1, mtl_2, mtl_3, mtl_4, mtl_5, mtl_6, mtl_7, mtl_8, m_telX, h3, ↓reduceIte]; rfl) | contradiction | rfl)) d_Mo_told_98
    · refine k_tabIn C d_Mo_told_18 (by decide) (by decide) (off := 81) (by decide) (tgt := 99) (by decide) ?_
      refine k_aload_n C d_Mo_told_99 rfl ?_
      refine k_getr C d_Mo_told_100 fg_Mo_37 (by decide) rfl ?_
      refine k_iload_n C d_Mo_told_103 rfl ?_
      refine k_top (r_id hq1 (by decide)) ?_
      refine k_iaload C d_Mo_told_104 am_10 (by decide) (vp_in_nI (by omega) (by decide)) (nI_clamp (by omega)) ?_
      exact k_ireturn C (E.to (by first | (simp only [mtl_0, mtl_1, mtl_2, mtl_3, mtl_4, mtl_5, mtl_6, mtl_7, mtl_8, m_telX, h3, ↓reduceIte]; done) | (simp only [mtl_0, mtl_1, mtl_2, mtl_3, mtl_4, mtl_5, mtl_6, mtl_7, mtl_8, m_telX, h3, ↓reduceIte]; rfl) | contradiction | rfl) (by first | (simp only [mtl_0, mtl_1, mtl_2, mtl_3, mtl_4, mtl_5, mtl_6, mtl_7, mtl_8, m_telX, h3, ↓reduceIte]; done) | (simp only [mtl_0, mtl_1, mtl_2, mtl_3, mtl_4, mtl_5, mtl_6, mtl_7, mtl_8, m_telX, h3, ↓reduceIte]; rfl) | contradiction | rfl)) d_Mo_told_105
    · refine k_tabIn C d_Mo_told_18 (by decide) (by decide) (off := 88) (by decide) (tgt := 106) (by decide) ?_
      refine k_aload_n C d_Mo_told_106 rfl ?_
      refine k_getr C d_Mo_told_107 fg_Mo_40 (by decide) rfl ?_
      refine k_iload_n C d_Mo_told_110 rfl ?_
      refine k_top (r_id hq1 (by decide)) ?_
      refine k_iaload C d_Mo_told_111 am_11 (by decide) (vp_in_nI (by omega) (by decide)) (nI_clamp (by omega)) ?_
      exact k_ireturn C (E.to (by first | (simp only [mtl_0, mtl_1, mtl_2, mtl_3, mtl_4, mtl_5, mtl_6, mtl_7, mtl_8, m_telX, h3, ↓reduceIte]; done) | (simp only [mtl_0, mtl_1, mtl_2, mtl_3, mtl_4, mtl_5, mtl_6, mtl_7, mtl_8, m_telX, h3, ↓reduceIte]; rfl) | contradiction | rfl) (by first | (simp only [mtl_0, mtl_1, mtl_2, mtl_3, mtl_4, mtl_5, mtl_6, mtl_7, mtl_8, m_telX, h3, ↓reduceIte]; done) | (simp only [mtl_0, mtl_1, mtl_2, mtl_3, mtl_4, mtl_5, mtl_6, mtl_7, mtl_8, m_telX, h3, ↓reduceIte]; rfl) | contradiction | rfl)) d_Mo_told_112
    · refine k_tabIn C d_Mo_told_18 (by decide) (by decide) (off := 95) (by decide) (tgt := 113) (by decide) ?_
      refine k_aload_n C d_Mo_told_113 rfl ?_
      refine k_getr C d_Mo_told_114 fg_Mo_43 (by decide) rfl ?_
      refine k_iload_n C d_Mo_told_117 rfl ?_
      refine k_top (r_id hq1 (by decide)) ?_
      refine k_iaload C d_Mo_told_118 am_12 (by decide) (vp_in_nI (by omega) (by decide)) (nI_clamp (by omega)) ?_
      exact k_ireturn C (E.to (by first | (simp only [mtl_0, mtl_1, mtl_2, mtl_3, mtl_4, mtl_5, mtl_6, mtl_7, mtl_8, m_telX, h3, ↓reduceIte]; done) | (simp only [mtl_0, mtl_1, mtl_2, mtl_3, mtl_4, mtl_5, mtl_6, mtl_7, mtl_8, m_telX, h3, ↓reduceIte]; rfl) | contradiction | rfl) (by first | (simp only [mtl_0, mtl_1, mtl_2, mtl_3, mtl_4, mtl_5, mtl_6, mtl_7, mtl_8, m_telX, h3, ↓reduceIte]; done) | (simp only [mtl_0, mtl_1, mtl_2, mtl_3, mtl_4, mtl_5, mtl_6, mtl_7, mtl_8, m_telX, h3, ↓reduceIte]; rfl) | contradiction | rfl)) d_Mo_told_119
    · refine k_tabOut C d_Mo_told_18 (by decide) (tgt := 120) (by decide) ?_
      refine k_aload_n C d_Mo_told_120 rfl ?_
      refine k_getr C d_Mo_told_121 fg_Mo_46 (by decide) rfl ?_
      refine k_iload_n C d_Mo_told_124 rfl ?_
      refine k_top (r_id hq1 (by decide)) ?_
      refine k_iaload C d_Mo_told_125 am_13 (by decide) (vp_in_nI (by omega) (by decide)) (nI_clamp (by omega)) ?_
      exact k_ireturn C (E.to (by first | (simp only [mtl_0, mtl_1, mtl_2, mtl_3, mtl_4, mtl_5, mtl_6, mtl_7, mtl_8, m_telX, h3, ↓reduceIte]; done) | (simp only [mtl_0, mtl_1, mtl_2, mtl_3, mtl_4, mtl_5, mtl_6, mtl_7, mtl_8, m_telX, h3, ↓reduceIte]; rfl) | contradiction | rfl) (by first | (simp only [mtl_0, mtl_1, mtl_2, mtl_3, mtl_4, mtl_5, mtl_6, mtl_7, mtl_8, m_telX, h3, ↓reduceIte]; done) | (simp only [mtl_0, mtl_1, mtl_2, mtl_3, mtl_4, mtl_5, mtl_6, mtl_7, mtl_8, m_telX, h3, ↓reduceIte]; rfl) | contradiction | rfl)) d_Mo_told_126
  · refine k_iconst C d_Mo_told_15 (v := 0) (by decide) ?_
    exact k_ireturn C (E.to (by first | (simp only [mtl_0, mtl_1, mtl_2, mtl_3, mtl_4, mtl_5, mtl_6, mtl_7, mtl_8, m_telX, h3, ↓reduceIte]; done) | (simp only [mtl_0, mtl_1, mtl_2, mtl_3, mtl_4, mtl_5, mtl_6, mtl_7, mtl_8, m_telX, h3, ↓reduceIte]; rfl) | contradiction | rfl) (by first | (simp only [mtl_0, mtl_1, mtl_2, mtl_3, mtl_4, mtl_5, mtl_6, mtl_7, mtl_8, m_telX, h3, ↓reduceIte]; done) | (simp only [mtl_0, mtl_1, mtl_2, mtl_3, mtl_4, mtl_5, mtl_6, mtl_7, mtl_8, m_telX, h3, ↓reduceIte]; rfl) | contradiction | rfl)) d_Mo_told_16
set_option maxHeartbeats 4000000 in
set_option maxRecDepth 100000 in
theorem c_Mo_memory (l : Launch) (G : kG) (K : kM) (f : Int32) (i : Int32)   (I0 : m_Inv K) : k_Met l mS kT y_Mo_memory b_Mo_memory 3 (some .int) (k_rm 1) G [.ref (G.2.2 0 0), .int f, .int i] K (some (.int (m_memX K f i))) (m_th K (m_no2 f 11 i 7)) := by
  refine k_intro (by decide +kernel) rfl (Nat.le_of_ble_eq_true rfl) ?_
  intro X C E
  refine k_aload_n C d_Mo_memory_0 rfl ?_
  refine k_aload_n C d_Mo_memory_1 rfl ?_
  refine k_iload_n C d_Mo_memory_2 rfl ?_
  refine k_bipush C d_Mo_memory_3 (v := 11) (by decide) ?_
  refine k_callVi C kg_all (c_Mo_no l G _ _ _ I0) cs_Mo_102 cv_Mo_no om_0 (by decide) rfl rfl (Nat.le_of_ble_eq_true rfl) ⟨rfl, rfl⟩ ⟨by decide, by decide⟩ ⟨Nat.zero_le _, Nat.zero_le _⟩ d_Mo_memory_5 I0 (fun I1 => ?_)
  refine k_if_ne C d_Mo_memory_8 (tgt := 21) (by decide) (fun h2 => ?_) (fun h2 => ?_)
  · refine k_iconst C d_Mo_memory_21 (v := 1) (by decide) ?_
    refine k_goto C d_Mo_memory_22 (tgt := 26) (by decide) ?_
    refine k_put C d_Mo_memory_26 fp_Mo_90 (by decide) rfl I1 (trivial) (fun I3 => ?_)
    refine k_aload_n C d_Mo_memory_29 rfl ?_
    refine k_get C d_Mo_memory_30 fg_Mo_90 (by decide) rfl ?_
    refine k_top (k_up_eq _ _ _ _ _) ?_
    refine k_if_ne C d_Mo_memory_33 (tgt := 50) (by decide) (fun _ => ?_) (fun h => absurd h (by decide))
    refine k_iconst C d_Mo_memory_50 (v := 0) (by decide) ?_
    exact k_ireturn C (E.to (by first | rfl | (simp only [m_memX, m_no2, m_th, h2, ↓reduceIte, Nat.reduceAdd]; done) | (simp only [m_memX, m_no2, m_th, h2, ↓reduceIte, Nat.reduceAdd]; rfl) | contradiction | (simp [m_memX, m_no2, m_th, h2, ↓reduceIte, Nat.reduceAdd]; done) | (simp [m_memX, m_no2, m_th, h2, ↓reduceIte, Nat.reduceAdd]; rfl)) (by first | rfl | (simp only [m_memX, m_no2, m_th, h2, ↓reduceIte, Nat.reduceAdd]; done) | (simp only [m_memX, m_no2, m_th, h2, ↓reduceIte, Nat.reduceAdd]; rfl) | contradiction | (simp [m_memX, m_no2, m_th, h2, ↓reduceIte, Nat.reduceAdd]; done) | (simp [m_memX, m_no2, m_th, h2, ↓reduceIte, Nat.reduceAdd]; rfl))) d_Mo_memory_51
  · refine k_aload_n C d_Mo_memory_11 rfl ?_
    refine k_iload_n C d_Mo_memory_12 rfl ?_
    refine k_bipush C d_Mo_memory_13 (v := 7) (by decide) ?_
    refine k_callVi C kg_all (c_Mo_no l G _ _ _ I1) cs_Mo_102 cv_Mo_no om_0 (by decide) rfl rfl (Nat.le_of_ble_eq_true rfl) ⟨rfl, rfl⟩ ⟨by decide, by decide⟩ ⟨Nat.zero_le _, Nat.zero_le _⟩ d_Mo_memory_15 I1 (fun I4 => ?_)
    refine k_if_eq C d_Mo_memory_18 (tgt := 25) (by decide) (fun h5 => ?_) (fun h5 => ?_)
    · refine k_iconst C d_Mo_memory_25 (v := 0) (by decide) ?_
      refine k_put C d_Mo_memory_26 fp_Mo_90 (by decide) rfl I4 (trivial) (fun I6 => ?_)
      refine k_aload_n C d_Mo_memory_29 rfl ?_
      refine k_get C d_Mo_memory_30 fg_Mo_90 (by decide) rfl ?_
      refine k_top (k_up_eq _ _ _ _ _) ?_
      refine k_if_ne C d_Mo_memory_33 (tgt := 50) (by decide) (fun h => absurd h (by decide)) (fun _ => ?_)
      have hq1 := r_no (n := 11) (v := f) (by decide) ‹_›
      have hq2 := r_no (n := 7) (v := i) (by decide) ‹_›
      have hl1 := k_lt hq1
      have hl2 := k_lt hq2
      refine k_aload_n C d_Mo_memory_36 rfl ?_
      refine k_getr C d_Mo_memory_37 fg_Mo_58 (by decide) rfl ?_
      refine k_iload_n C d_Mo_memory_40 rfl ?_
      refine k_top (r_id hq1 (by decide)) ?_
      refine k_bipush C d_Mo_memory_41 (v := 8) (by decide) ?_
      refine k_imul C d_Mo_memory_43 ?_
      refine k_iload_n C d_Mo_memory_44 rfl ?_
      refine k_top (r_id hq2 (by decide)) ?_
      refine k_iadd C d_Mo_memory_45 ?_
      refine k_iaload C d_Mo_memory_46 am_17 (by decide) (mx (f.toNatClampNeg) 8 (i.toNatClampNeg) 96 (by omega) (by decide)).1 (mx (f.toNatClampNeg) 8 (i.toNatClampNeg) 96 (by omega) (by decide)).2 ?_
      refine k_goto C d_Mo_memory_47 (tgt := 51) (by decide) ?_
      exact k_ireturn C (E.to (by first | rfl | (simp only [m_memX, m_no2, m_th, h2, h5, ↓reduceIte, Nat.reduceAdd]; done) | (simp only [m_memX, m_no2, m_th, h2, h5, ↓reduceIte, Nat.reduceAdd]; rfl) | contradiction | (simp [m_memX, m_no2, m_th, h2, h5, ↓reduceIte, Nat.reduceAdd]; done) | (simp [m_memX, m_no2, m_th, h2, h5, ↓reduceIte, Nat.reduceAdd]; rfl)) (by first | rfl | (simp only [m_memX, m_no2, m_th, h2, h5, ↓reduceIte, Nat.reduceAdd]; done) | (simp only [m_memX, m_no2, m_th, h2, h5, ↓reduceIte, Nat.reduceAdd]; rfl) | contradiction | (simp [m_memX, m_no2, m_th, h2, h5, ↓reduceIte, Nat.reduceAdd]; done) | (simp [m_memX, m_no2, m_th, h2, h5, ↓reduceIte, Nat.reduceAdd]; rfl))) d_Mo_memory_51
    · refine k_iconst C d_Mo_memory_21 (v := 1) (by decide) ?_
      refine k_goto C d_Mo_memory_22 (tgt := 26) (by decide) ?_
      refine k_put C d_Mo_memory_26 fp_Mo_90 (by decide) rfl I4 (trivial) (fun I7 => ?_)
      refine k_aload_n C d_Mo_memory_29 rfl ?_
      refine k_get C d_Mo_memory_30 fg_Mo_90 (by decide) rfl ?_
      refine k_top (k_up_eq _ _ _ _ _) ?_
      refine k_if_ne C d_Mo_memory_33 (tgt := 50) (by decide) (fun _ => ?_) (fun h => absurd h (by decide))
      refine k_iconst C d_Mo_memory_50 (v := 0) (by decide) ?_
      exact k_ireturn C (E.to (by first | rfl | (simp only [m_memX, m_no2, m_th, h2, h5, ↓reduceIte, Nat.reduceAdd]; done) | (simp only [m_memX, m_no2, m_th, h2, h5, ↓reduceIte, Nat.reduceAdd]; rfl) | contradiction | (simp [m_memX, m_no2, m_th, h2, h5, ↓reduceIte, Nat.reduceAdd]; done) | (simp [m_memX, m_no2, m_th, h2, h5, ↓reduceIte, Nat.reduceAdd]; rfl)) (by first | rfl | (simp only [m_memX, m_no2, m_th, h2, h5, ↓reduceIte, Nat.reduceAdd]; done) | (simp only [m_memX, m_no2, m_th, h2, h5, ↓reduceIte, Nat.reduceAdd]; rfl) | contradiction | (simp [m_memX, m_no2, m_th, h2, h5, ↓reduceIte, Nat.reduceAdd]; done) | (simp [m_memX, m_no2, m_th, h2, h5, ↓reduceIte, Nat.reduceAdd]; rfl))) d_Mo_memory_51
set_option maxHeartbeats 4000000 in
set_option maxRecDepth 100000 in
theorem c_Mo_object (l : Launch) (G : kG) (K : kM) (k : Int32) (w : Int32)   (I0 : m_Inv K) : k_Met l mS kT y_Mo_object b_Mo_object 3 (some .int) (k_rm 1) G [.ref (G.2.2 0 0), .int k, .int w] K (some (.int (m_objX K k w))) (m_th K (m_no2 k 3 w 4)) := by
  refine k_intro (by decide +kernel) rfl (Nat.le_of_ble_eq_true rfl) ?_
  intro X C E
  refine k_aload_n C d_Mo_object_0 rfl ?_
  refine k_aload_n C d_Mo_object_1 rfl ?_
  refine k_iload_n C d_Mo_object_2 rfl ?_
  refine k_iconst C d_Mo_object_3 (v := 3) (by decide) ?_
  refine k_callVi C kg_all (c_Mo_no l G _ _ _ I0) cs_Mo_102 cv_Mo_no om_0 (by decide) rfl rfl (Nat.le_of_ble_eq_true rfl) ⟨rfl, rfl⟩ ⟨by decide, by decide⟩ ⟨Nat.zero_le _, Nat.zero_le _⟩ d_Mo_object_4 I0 (fun I1 => ?_)
  refine k_if_ne C d_Mo_object_7 (tgt := 19) (by decide) (fun h2 => ?_) (fun h2 => ?_)
  · refine k_iconst C d_Mo_object_19 (v := 1) (by decide) ?_
    refine k_goto C d_Mo_object_20 (tgt := 24) (by decide) ?_
    refine k_put C d_Mo_object_24 fp_Mo_90 (by decide) rfl I1 (trivial) (fun I3 => ?_)
    refine k_aload_n C d_Mo_object_27 rfl ?_
    refine k_get C d_Mo_object_28 fg_Mo_90 (by decide) rfl ?_
    refine k_top (k_up_eq _ _ _ _ _) ?_
    refine k_if_eq C d_Mo_object_31 (tgt := 36) (by decide) (fun h => absurd h (by decide)) (fun _ => ?_)
    refine k_iconst C d_Mo_object_34 (v := 0) (by decide) ?_
    exact k_ireturn C (E.to (by first | rfl | (simp only [mob_0, mob_1, mob_2, mob_3, mob_4, m_no2, m_th, m_objX, h2, ↓reduceIte, Nat.reduceAdd]; done) | (simp only [mob_0, mob_1, mob_2, mob_3, mob_4, m_no2, m_th, m_objX, h2, ↓reduceIte, Nat.reduceAdd]; rfl) | contradiction | (simp [mob_0, mob_1, mob_2, mob_3, mob_4, m_no2, m_th, m_objX, h2, ↓reduceIte, Nat.reduceAdd]; done) | (simp [mob_0, mob_1, mob_2, mob_3, mob_4, m_no2, m_th, m_objX, h2, ↓reduceIte, Nat.reduceAdd]; rfl)) (by first | rfl | (simp only [mob_0, mob_1, mob_2, mob_3, mob_4, m_no2, m_th, m_objX, h2, ↓reduceIte, Nat.reduceAdd]; done) | (simp only [mob_0, mob_1, mob_2, mob_3, mob_4, m_no2, m_th, m_objX, h2, ↓reduceIte, Nat.reduceAdd]; rfl) | contradiction | (simp [mob_0, mob_1, mob_2, mob_3, mob_4, m_no2, m_th, m_objX, h2, ↓reduceIte, Nat.reduceAdd]; done) | (simp [mob_0, mob_1, mob_2, mob_3, mob_4, m_no2, m_th, m_objX, h2, ↓reduceIte, Nat.reduceAdd]; rfl))) d_Mo_object_35
  · refine k_aload_n C d_Mo_object_10 rfl ?_
    refine k_iload_n C d_Mo_object_11 rfl ?_
    refine k_iconst C d_Mo_object_12 (v := 4) (by decide) ?_
    refine k_callVi C kg_all (c_Mo_no l G _ _ _ I1) cs_Mo_102 cv_Mo_no om_0 (by decide) rfl rfl (Nat.le_of_ble_eq_true rfl) ⟨rfl, rfl⟩ ⟨by decide, by decide⟩ ⟨Nat.zero_le _, Nat.zero_le _⟩ d_Mo_object_13 I1 (fun I4 => ?_)
    refine k_if_eq C d_Mo_object_16 (tgt := 23) (by decide) (fun h5 => ?_) (fun h5 => ?_)
    · refine k_iconst C d_Mo_object_23 (v := 0) (by decide) ?_
      refine k_put C d_Mo_object_24 fp_Mo_90 (by decide) rfl I4 (trivial) (fun I6 => ?_)
      refine k_aload_n C d_Mo_object_27 rfl ?_
      refine k_get C d_Mo_object_28 fg_Mo_90 (by decide) rfl ?_
      refine k_top (k_up_eq _ _ _ _ _) ?_
      refine k_if_eq C d_Mo_object_31 (tgt := 36) (by decide) (fun _ => ?_) (fun h => absurd h (by decide))
      have hq1 := r_no (n := 3) (v := k) (by decide) ‹_›
      have hq2 := r_no (n := 4) (v := w) (by decide) ‹_›
      have hl1 := k_lt hq1
      refine k_iload_n C d_Mo_object_36 rfl ?_
      rcases r_c5 hq2 with rfl | rfl | rfl | rfl | rfl
      · refine k_tabIn C d_Mo_object_37 (by decide) (by decide) (off := 31) (by decide) (tgt := 68) (by decide) ?_
        refine k_aload_n C d_Mo_object_68 rfl ?_
        refine k_getr C d_Mo_object_69 fg_Mo_77 (by decide) rfl ?_
        refine k_iload_n C d_Mo_object_72 rfl ?_
        refine k_top (r_id hq1 (by decide)) ?_
        refine k_iaload C d_Mo_object_73 am_23 (by decide) (vp_in_nI (by omega) (by decide)) (nI_clamp (by omega)) ?_
        exact k_ireturn C (E.to (by first | rfl | (simp only [mob_0, mob_1, mob_2, mob_3, mob_4, m_no2, m_th, m_objX, h2, h5, ↓reduceIte, Nat.reduceAdd]; done) | (simp only [mob_0, mob_1, mob_2, mob_3, mob_4, m_no2, m_th, m_objX, h2, h5, ↓reduceIte, Nat.reduceAdd]; rfl) | contradiction | (simp [mob_0, mob_1, mob_2, mob_3, mob_4, m_no2, m_th, m_objX, h2, h5, ↓reduceIte, Nat.reduceAdd]; done) | (simp [mob_0, mob_1, mob_2, mob_3, mob_4, m_no2, m_th, m_objX, h2, h5, ↓reduceIte, Nat.reduceAdd]; rfl)) (by first | rfl | (simp only [mob_0, mob_1, mob_2, mob_3, mob_4, m_no2, m_th, m_objX, h2, h5, ↓reduceIte, Nat.reduceAdd]; done) | (simp only [mob_0, mob_1, mob_2, mob_3, mob_4, m_no2, m_th, m_objX, h2, h5, ↓reduceIte, Nat.reduceAdd]; rfl) | contradiction | (simp [mob_0, mob_1, mob_2, mob_3, mob_4, m_no2, m_th, m_objX, h2, h5, ↓reduceIte, Nat.reduceAdd]; done) | (simp [mob_0, mob_1, mob_2, mob_3, mob_4, m_no2, m_th, m_objX, h2, h5, ↓reduceIte, Nat.reduceAdd]; rfl))) d_Mo_object_74
      · refine k_tabIn C d_Mo_object_37 (by decide) (by decide) (off := 38) (by decide) (tgt := 75) (by decide) ?_
        refine k_aload_n C d_Mo_object_75 rfl ?_
        refine k_getr C d_Mo_object_76 fg_Mo_68 (by decide) rfl ?_
        refine k_bipush C d_Mo_object_79 (v := 10) (by decide) ?_
        refine k_iload_n C d_Mo_object_81 rfl ?_
        refine k_top (r_id hq1 (by decide)) ?_
        refine k_iadd C d_Mo_object_82 ?_
        refine k_iaload C d_Mo_object_83 am_20 (by decide) (mt (10) (k.toNatClampNeg) 14 (by omega) (by decide)).1 (mt (10) (k.toNatClampNeg) 14 (by omega) (by decide)).2 ?_
        exact k_ireturn C (E.to (by first | rfl | (simp only [mob_0, mob_1, mob_2, mob_3, mob_4, m_no2, m_th, m_objX, h2, h5, ↓reduceIte, Nat.reduceAdd]; done) | (simp only [mob_0, mob_1, mob_2, mob_3, mob_4, m_no2, m_th, m_objX, h2, h5, ↓reduceIte, Nat.reduceAdd]; rfl) | contradiction | (simp [mob_0, mob_1, mob_2, mob_3, mob_4, m_no2, m_th, m_objX, h2, h5, ↓reduceIte, Nat.reduceAdd]; done) | (simp [mob_0, mob_1, mob_2, mob_3, mob_4, m_no2, m_th, m_objX, h2, h5, ↓reduceIte, Nat.reduceAdd]; rfl)) (by first | rfl | (simp only [mob_0, mob_1, mob_2, mob_3, mob_4, m_no2, m_th, m_objX, h2, h5, ↓reduceIte, Nat.reduceAdd]; done) | (simp only [mob_0, mob_1, mob_2, mob_3, mob_4, m_no2, m_th, m_objX, h2, h5, ↓reduceIte, Nat.reduceAdd]; rfl) | contradiction | (simp [mob_0, mob_1, mob_2, mob_3, mob_4, m_no2, m_th, m_objX, h2, h5, ↓reduceIte, Nat.reduceAdd]; done) | (simp [mob_0, mob_1, mob_2, mob_3, mob_4, m_no2, m_th, m_objX, h2, h5, ↓reduceIte, Nat.reduceAdd]; rfl))) d_Mo_object_84
      · refine k_tabIn C d_Mo_object_37 (by decide) (by decide) (off := 48) (by decide) (tgt := 85) (by decide) ?_
        refine k_aload_n C d_Mo_object_85 rfl ?_
        refine k_getr C d_Mo_object_86 fg_Mo_74 (by decide) rfl ?_
        refine k_iload_n C d_Mo_object_89 rfl ?_
        refine k_top (r_id hq1 (by decide)) ?_
        refine k_iaload C d_Mo_object_90 am_22 (by decide) (vp_in_nI (by omega) (by decide)) (nI_clamp (by omega)) ?_
        exact k_ireturn C (E.to (by first | rfl | (simp only [mob_0, mob_1, mob_2, mob_3, mob_4, m_no2, m_th, m_objX, h2, h5, ↓reduceIte, Nat.reduceAdd]; done) | (simp only [mob_0, mob_1, mob_2, mob_3, mob_4, m_no2, m_th, m_objX, h2, h5, ↓reduceIte, Nat.reduceAdd]; rfl) | contradiction | (simp [mob_0, mob_1, mob_2, mob_3, mob_4, m_no2, m_th, m_objX, h2, h5, ↓reduceIte, Nat.reduceAdd]; done) | (simp [mob_0, mob_1, mob_2, mob_3, mob_4, m_no2, m_th, m_objX, h2, h5, ↓reduceIte, Nat.reduceAdd]; rfl)) (by first | rfl | (simp only [mob_0, mob_1, mob_2, mob_3, mob_4, m_no2, m_th, m_objX, h2, h5, ↓reduceIte, Nat.reduceAdd]; done) | (simp only [mob_0, mob_1, mob_2, mob_3, mob_4, m_no2, m_th, m_objX, h2, h5, ↓reduceIte, Nat.reduceAdd]; rfl) | contradiction | (simp [mob_0, mob_1, mob_2, mob_3, mob_4, m_no2, m_th, m_objX, h2, h5, ↓reduceIte, Nat.reduceAdd]; done) | (simp [mob_0, mob_1, mob_2, mob_3, mob_4, m_no2, m_th, m_objX, h2, h5, ↓reduceIte, Nat.reduceAdd]; rfl))) d_Mo_object_91
      · refine k_tabIn C d_Mo_object_37 (by decide) (by decide) (off := 55) (by decide) (tgt := 92) (by decide) ?_
        refine k_aload_n C d_Mo_object_92 rfl ?_
        refine k_getr C d_Mo_object_93 fg_Mo_68 (by decide) rfl ?_
        refine k_iconst C d_Mo_object_96 (v := 2) (by decide) ?_
        refine k_iload_n C d_Mo_object_97 rfl ?_
        refine k_top (r_id hq1 (by decide)) ?_
        refine k_iadd C d_Mo_object_98 ?_
        refine k_iaload C d_Mo_object_99 am_20 (by decide) (mt (2) (k.toNatClampNeg) 14 (by omega) (by decide)).1 (mt (2) (k.toNatClampNeg) 14 (by omega) (by decide)).2 ?_
        exact k_ireturn C (E.to (by first | rfl | (simp only [mob_0, mob_1, mob_2, mob_3, mob_4, m_no2, m_th, m_objX, h2, h5, ↓reduceIte, Nat.reduceAdd]; done) | (simp only [mob_0, mob_1, mob_2, mob_3, mob_4, m_no2, m_th, m_objX, h2, h5, ↓reduceIte, Nat.reduceAdd]; rfl) | contradiction | (simp [mob_0, mob_1, mob_2, mob_3, mob_4, m_no2, m_th, m_objX, h2, h5, ↓reduceIte, Nat.reduceAdd]; done) | (simp [mob_0, mob_1, mob_2, mob_3, mob_4, m_no2, m_th, m_objX, h2, h5, ↓reduceIte, Nat.reduceAdd]; rfl)) (by first | rfl | (simp only [mob_0, mob_1, mob_2, mob_3, mob_4, m_no2, m_th, m_objX, h2, h5, ↓reduceIte, Nat.reduceAdd]; done) | (simp only [mob_0, mob_1, mob_2, mob_3, mob_4, m_no2, m_th, m_objX, h2, h5, ↓reduceIte, Nat.reduceAdd]; rfl) | contradiction | (simp [mob_0, mob_1, mob_2, mob_3, mob_4, m_no2, m_th, m_objX, h2, h5, ↓reduceIte, Nat.reduceAdd]; done) | (simp [mob_0, mob_1, mob_2, mob_3, mob_4, m_no2, m_th, m_objX, h2, h5, ↓reduceIte, Nat.reduceAdd]; rfl))) d_Mo_object_100
      · refine k_tabOut C d_Mo_object_37 (by decide) (tgt := 101) (by decide) ?_
        refine k_aload_n C d_Mo_object_101 rfl ?_
        refine k_getr C d_Mo_object_102 fg_Mo_68 (by decide) rfl ?_
        refine k_bipush C d_Mo_object_105 (v := 6) (by decide) ?_
        refine k_iload_n C d_Mo_object_107 rfl ?_
        refine k_top (r_id hq1 (by decide)) ?_
        refine k_iadd C d_Mo_object_108 ?_
        refine k_iaload C d_Mo_object_109 am_20 (by decide) (mt (6) (k.toNatClampNeg) 14 (by omega) (by decide)).1 (mt (6) (k.toNatClampNeg) 14 (by omega) (by decide)).2 ?_
        exact k_ireturn C (E.to (by first | rfl | (simp only [mob_0, mob_1, mob_2, mob_3, mob_4, m_no2, m_th, m_objX, h2, h5, ↓reduceIte, Nat.reduceAdd]; done) | (simp only [mob_0, mob_1, mob_2, mob_3, mob_4, m_no2, m_th, m_objX, h2, h5, ↓reduceIte, Nat.reduceAdd]; rfl) | contradiction | (simp [mob_0, mob_1, mob_2, mob_3, mob_4, m_no2, m_th, m_objX, h2, h5, ↓reduceIte, Nat.reduceAdd]; done) | (simp [mob_0, mob_1, mob_2, mob_3, mob_4, m_no2, m_th, m_objX, h2, h5, ↓reduceIte, Nat.reduceAdd]; rfl)) (by first | rfl | (simp only [mob_0, mob_1, mob_2, mob_3, mob_4, m_no2, m_th, m_objX, h2, h5, ↓reduceIte, Nat.reduceAdd]; done) | (simp only [mob_0, mob_1, mob_2, mob_3, mob_4, m_no2, m_th, m_objX, h2, h5, ↓reduceIte, Nat.reduceAdd]; rfl) | contradiction | (simp [mob_0, mob_1, mob_2, mob_3, mob_4, m_no2, m_th, m_objX, h2, h5, ↓reduceIte, Nat.reduceAdd]; done) | (simp [mob_0, mob_1, mob_2, mob_3, mob_4, m_no2, m_th, m_objX, h2, h5, ↓reduceIte, Nat.reduceAdd]; rfl))) d_Mo_object_110
    · refine k_iconst C d_Mo_object_19 (v := 1) (by decide) ?_
      refine k_goto C d_Mo_object_20 (tgt := 24) (by decide) ?_
      refine k_put C d_Mo_object_24 fp_Mo_90 (by decide) rfl I4 (trivial) (fun I7 => ?_)
      refine k_aload_n C d_Mo_object_27 rfl ?_
      refine k_get C d_Mo_object_28 fg_Mo_90 (by decide) rfl ?_
      refine k_top (k_up_eq _ _ _ _ _) ?_
      refine k_if_eq C d_Mo_object_31 (tgt := 36) (by decide) (fun h => absurd h (by decide)) (fun _ => ?_)
      refine k_iconst C d_Mo_object_34 (v := 0) (by decide) ?_
      exact k_ireturn C (E.to (by first | rfl | (simp only [mob_0, mob_1, mob_2, mob_3, mob_4, m_no2, m_th, m_objX, h2, h5, ↓reduceIte, Nat.reduceAdd]; done) | (simp only [mob_0, mob_1, mob_2, mob_3, mob_4, m_no2, m_th, m_objX, h2, h5, ↓reduceIte, Nat.reduceAdd]; rfl) | contradiction | (simp [mob_0, mob_1, mob_2, mob_3, mob_4, m_no2, m_th, m_objX, h2, h5, ↓reduceIte, Nat.reduceAdd]; done) | (simp [mob_0, mob_1, mob_2, mob_3, mob_4, m_no2, m_th, m_objX, h2, h5, ↓reduceIte, Nat.reduceAdd]; rfl)) (by first | rfl | (simp only [mob_0, mob_1, mob_2, mob_3, mob_4, m_no2, m_th, m_objX, h2, h5, ↓reduceIte, Nat.reduceAdd]; done) | (simp only [mob_0, mob_1, mob_2, mob_3, mob_4, m_no2, m_th, m_objX, h2, h5, ↓reduceIte, Nat.reduceAdd]; rfl) | contradiction | (simp [mob_0, mob_1, mob_2, mob_3, mob_4, m_no2, m_th, m_objX, h2, h5, ↓reduceIte, Nat.reduceAdd]; done) | (simp [mob_0, mob_1, mob_2, mob_3, mob_4, m_no2, m_th, m_objX, h2, h5, ↓reduceIte, Nat.reduceAdd]; rfl))) d_Mo_object_35
set_option maxHeartbeats 4000000 in
set_option maxRecDepth 100000 in
theorem c_Mo_written (l : Launch) (G : kG) (K : kM) (i : Int32) (w : Int32)   (I0 : m_Inv K) : k_Met l mS kT y_Mo_written b_Mo_written 3 (some .int) (k_rm 1) G [.ref (G.2.2 0 0), .int i, .int w] K (some (.int (m_wriX K i w))) (m_th K (m_no2 i 31 w 3)) := by
  refine k_intro (by decide +kernel) rfl (Nat.le_of_ble_eq_true rfl) ?_
  intro X C E
  refine k_aload_n C d_Mo_written_0 rfl ?_
  refine k_aload_n C d_Mo_written_1 rfl ?_
  refine k_iload_n C d_Mo_written_2 rfl ?_
  refine k_bipush C d_Mo_written_3 (v := 31) (by decide) ?_
  refine k_callVi C kg_all (c_Mo_no l G _ _ _ I0) cs_Mo_102 cv_Mo_no om_0 (by decide) rfl rfl (Nat.le_of_ble_eq_true rfl) ⟨rfl, rfl⟩ ⟨by decide, by decide⟩ ⟨Nat.zero_le _, Nat.zero_le _⟩ d_Mo_written_5 I0 (fun I1 => ?_)
  refine k_if_ne C d_Mo_written_8 (tgt := 20) (by decide) (fun h2 => ?_) (fun h2 => ?_)
  · refine k_iconst C d_Mo_written_20 (v := 1) (by decide) ?_
    refine k_goto C d_Mo_written_21 (tgt := 25) (by decide) ?_
    refine k_put C d_Mo_written_25 fp_Mo_90 (by decide) rfl I1 (trivial) (fun I3 => ?_)
    refine k_aload_n C d_Mo_written_28 rfl ?_
    refine k_get C d_Mo_written_29 fg_Mo_90 (by decide) rfl ?_
    refine k_top (k_up_eq _ _ _ _ _) ?_
    refine k_if_eq C d_Mo_written_32 (tgt := 37) (by decide) (fun h => absurd h (by decide)) (fun _ => ?_)
    refine k_iconst C d_Mo_written_35 (v := 0) (by decide) ?_
    exact k_ireturn C (E.to (by first | rfl | (simp only [m_wriX, m_no2, m_th, h2, ↓reduceIte, Nat.reduceAdd]; done) | (simp only [m_wriX, m_no2, m_th, h2, ↓reduceIte, Nat.reduceAdd]; rfl) | contradiction | (simp [m_wriX, m_no2, m_th, h2, ↓reduceIte, Nat.reduceAdd]; done) | (simp [m_wriX, m_no2, m_th, h2, ↓reduceIte, Nat.reduceAdd]; rfl)) (by first | rfl | (simp only [m_wriX, m_no2, m_th, h2, ↓reduceIte, Nat.reduceAdd]; done) | (simp only [m_wriX, m_no2, m_th, h2, ↓reduceIte, Nat.reduceAdd]; rfl) | contradiction | (simp [m_wriX, m_no2, m_th, h2, ↓reduceIte, Nat.reduceAdd]; done) | (simp [m_wriX, m_no2, m_th, h2, ↓reduceIte, Nat.reduceAdd]; rfl))) d_Mo_written_36
  · refine k_aload_n C d_Mo_written_11 rfl ?_
    refine k_iload_n C d_Mo_written_12 rfl ?_
    refine k_iconst C d_Mo_written_13 (v := 3) (by decide) ?_
    refine k_callVi C kg_all (c_Mo_no l G _ _ _ I1) cs_Mo_102 cv_Mo_no om_0 (by decide) rfl rfl (Nat.le_of_ble_eq_true rfl) ⟨rfl, rfl⟩ ⟨by decide, by decide⟩ ⟨Nat.zero_le _, Nat.zero_le _⟩ d_Mo_written_14 I1 (fun I4 => ?_)
    refine k_if_eq C d_Mo_written_17 (tgt := 24) (by decide) (fun h5 => ?_) (fun h5 => ?_)
    · refine k_iconst C d_Mo_written_24 (v := 0) (by decide) ?_
      refine k_put C d_Mo_written_25 fp_Mo_90 (by decide) rfl I4 (trivial) (fun I6 => ?_)
      refine k_aload_n C d_Mo_written_28 rfl ?_
      refine k_get C d_Mo_written_29 fg_Mo_90 (by decide) rfl ?_
      refine k_top (k_up_eq _ _ _ _ _) ?_
      refine k_if_eq C d_Mo_written_32 (tgt := 37) (by decide) (fun _ => ?_) (fun h => absurd h (by decide))
      have hq1 := r_no (n := 31) (v := i) (by decide) ‹_›
      have hl1 := k_lt hq1
      refine k_iload_n C d_Mo_written_37 rfl ?_
      refine k_if_ne C d_Mo_written_38 (tgt := 50) (by decide) (fun h7 => ?_) (fun h7 => ?_)
      · refine k_iload_n C d_Mo_written_50 rfl ?_
        refine k_iconst C d_Mo_written_51 (v := 1) (by decide) ?_
        refine k_icmp_ne C d_Mo_written_52 (tgt := 64) (by decide) (fun h8 => ?_) (fun h8 => ?_)
        · refine k_iload_n C d_Mo_written_64 rfl ?_
          refine k_iconst C d_Mo_written_65 (v := 2) (by decide) ?_
          refine k_icmp_ne C d_Mo_written_66 (tgt := 78) (by decide) (fun h9 => ?_) (fun h9 => ?_)
          · refine k_aload_n C d_Mo_written_78 rfl ?_
            refine k_getr C d_Mo_written_79 fg_Mo_19 (by decide) rfl ?_
            refine k_iload_n C d_Mo_written_82 rfl ?_
            refine k_top (r_id hq1 (by decide)) ?_
            refine k_iaload C d_Mo_written_83 am_4 (by decide) (vp_in_nI (by omega) (by decide)) (nI_clamp (by omega)) ?_
            exact k_ireturn C (E.to (by first | rfl | (simp only [m_wriX, m_no2, m_th, h2, h5, h7, h8, h9, ↓reduceIte, Nat.reduceAdd]; done) | (simp only [m_wriX, m_no2, m_th, h2, h5, h7, h8, h9, ↓reduceIte, Nat.reduceAdd]; rfl) | contradiction | (simp [m_wriX, m_no2, m_th, h2, h5, h7, h8, h9, ↓reduceIte, Nat.reduceAdd]; done) | (simp [m_wriX, m_no2, m_th, h2, h5, h7, h8, h9, ↓reduceIte, Nat.reduceAdd]; rfl)) (by first | rfl | (simp only [m_wriX, m_no2, m_th, h2, h5, h7, h8, h9, ↓reduceIte, Nat.reduceAdd]; done) | (simp only [m_wriX, m_no2, m_th, h2, h5, h7, h8, h9, ↓reduceIte, Nat.reduceAdd]; rfl) | contradiction | (simp [m_wriX, m_no2, m_th, h2, h5, h7, h8, h9, ↓reduceIte, Nat.reduceAdd]; done) | (simp [m_wriX, m_no2, m_th, h2, h5, h7, h8, h9, ↓reduceIte, Nat.reduceAdd]; rfl))) d_Mo_written_84
          · refine k_aload_n C d_Mo_written_69 rfl ?_
            refine k_getr C d_Mo_written_70 fg_Mo_16 (by decide) rfl ?_
            refine k_iload_n C d_Mo_written_73 rfl ?_
            refine k_top (r_id hq1 (by decide)) ?_
            refine k_iaload C d_Mo_written_74 am_3 (by decide) (vp_in_nI (by omega) (by decide)) (nI_clamp (by omega)) ?_
            refine k_goto C d_Mo_written_75 (tgt := 84) (by decide) ?_
            exact k_ireturn C (E.to (by first | rfl | (simp only [m_wriX, m_no2, m_th, h2, h5, h7, h8, h9, ↓reduceIte, Nat.reduceAdd]; done) | (simp only [m_wriX, m_no2, m_th, h2, h5, h7, h8, h9, ↓reduceIte, Nat.reduceAdd]; rfl) | contradiction | (simp [m_wriX, m_no2, m_th, h2, h5, h7, h8, h9, ↓reduceIte, Nat.reduceAdd]; done) | (simp [m_wriX, m_no2, m_th, h2, h5, h7, h8, h9, ↓reduceIte, Nat.reduceAdd]; rfl)) (by first | rfl | (simp only [m_wriX, m_no2, m_th, h2, h5, h7, h8, h9, ↓reduceIte, Nat.reduceAdd]; done) | (simp only [m_wriX, m_no2, m_th, h2, h5, h7, h8, h9, ↓reduceIte, Nat.reduceAdd]; rfl) | contradiction | (simp [m_wriX, m_no2, m_th, h2, h5, h7, h8, h9, ↓reduceIte, Nat.reduceAdd]; done) | (simp [m_wriX, m_no2, m_th, h2, h5, h7, h8, h9, ↓reduceIte, Nat.reduceAdd]; rfl))) d_Mo_written_84
        · refine k_aload_n C d_Mo_written_55 rfl ?_
          refine k_getr C d_Mo_written_56 fg_Mo_13 (by decide) rfl ?_
          refine k_iload_n C d_Mo_written_59 rfl ?_
          refine k_top (r_id hq1 (by decide)) ?_
          refine k_iaload C d_Mo_written_60 am_2 (by decide) (vp_in_nI (by omega) (by decide)) (nI_clamp (by omega)) ?_
          refine k_goto C d_Mo_written_61 (tgt := 84) (by decide) ?_
          exact k_ireturn C (E.to (by first | rfl | (simp only [m_wriX, m_no2, m_th, h2, h5, h7, h8, ↓reduceIte, Nat.reduceAdd]; done) | (simp only [m_wriX, m_no2, m_th, h2, h5, h7, h8, ↓reduceIte, Nat.reduceAdd]; rfl) | contradiction | (simp [m_wriX, m_no2, m_th, h2, h5, h7, h8, ↓reduceIte, Nat.reduceAdd]; done) | (simp [m_wriX, m_no2, m_th, h2, h5, h7, h8, ↓reduceIte, Nat.reduceAdd]; rfl)) (by first | rfl | (simp only [m_wriX, m_no2, m_th, h2, h5, h7, h8, ↓reduceIte, Nat.reduceAdd]; done) | (simp only [m_wriX, m_no2, m_th, h2, h5, h7, h8, ↓reduceIte, Nat.reduceAdd]; rfl) | contradiction | (simp [m_wriX, m_no2, m_th, h2, h5, h7, h8, ↓reduceIte, Nat.reduceAdd]; done) | (simp [m_wriX, m_no2, m_th, h2, h5, h7, h8, ↓reduceIte, Nat.reduceAdd]; rfl))) d_Mo_written_84
      · refine k_aload_n C d_Mo_written_41 rfl ?_
        refine k_getr C d_Mo_written_42 fg_Mo_7 (by decide) rfl ?_
        refine k_iload_n C d_Mo_written_45 rfl ?_
        refine k_top (r_id hq1 (by decide)) ?_
        refine k_iaload C d_Mo_written_46 am_1 (by decide) (vp_in_nI (by omega) (by decide)) (nI_clamp (by omega)) ?_
        refine k_goto C d_Mo_written_47 (tgt := 84) (by decide) ?_
        exact k_ireturn C (E.to (by first | rfl | (simp only [m_wriX, m_no2, m_th, h2, h5, h7, ↓reduceIte, Nat.reduceAdd]; done) | (simp only [m_wriX, m_no2, m_th, h2, h5, h7, ↓reduceIte, Nat.reduceAdd]; rfl) | contradiction | (simp [m_wriX, m_no2, m_th, h2, h5, h7, ↓reduceIte, Nat.reduceAdd]; done) | (simp [m_wriX, m_no2, m_th, h2, h5, h7, ↓reduceIte, Nat.reduceAdd]; rfl)) (by first | rfl | (simp only [m_wriX, m_no2, m_th, h2, h5, h7, ↓reduceIte, Nat.reduceAdd]; done) | (simp only [m_wriX, m_no2, m_th, h2, h5, h7, ↓reduceIte, Nat.reduceAdd]; rfl) | contradiction | (simp [m_wriX, m_no2, m_th, h2, h5, h7, ↓reduceIte, Nat.reduceAdd]; done) | (simp [m_wriX, m_no2, m_th, h2, h5, h7, ↓reduceIte, Nat.reduceAdd]; rfl))) d_Mo_written_84
    · refine k_iconst C d_Mo_written_20 (v := 1) (by decide) ?_
      refine k_goto C d_Mo_written_21 (tgt := 25) (by decide) ?_
      refine k_put C d_Mo_written_25 fp_Mo_90 (by decide) rfl I4 (trivial) (fun I10 => ?_)
      refine k_aload_n C d_Mo_written_28 rfl ?_
      refine k_get C d_Mo_written_29 fg_Mo_90 (by decide) rfl ?_
      refine k_top (k_up_eq _ _ _ _ _) ?_
      refine k_if_eq C d_Mo_written_32 (tgt := 37) (by decide) (fun h => absurd h (by decide)) (fun _ => ?_)
      refine k_iconst C d_Mo_written_35 (v := 0) (by decide) ?_
      exact k_ireturn C (E.to (by first | rfl | (simp only [m_wriX, m_no2, m_th, h2, h5, ↓reduceIte, Nat.reduceAdd]; done) | (simp only [m_wriX, m_no2, m_th, h2, h5, ↓reduceIte, Nat.reduceAdd]; rfl) | contradiction | (simp [m_wriX, m_no2, m_th, h2, h5, ↓reduceIte, Nat.reduceAdd]; done) | (simp [m_wriX, m_no2, m_th, h2, h5, ↓reduceIte, Nat.reduceAdd]; rfl)) (by first | rfl | (simp only [m_wriX, m_no2, m_th, h2, h5, ↓reduceIte, Nat.reduceAdd]; done) | (simp only [m_wriX, m_no2, m_th, h2, h5, ↓reduceIte, Nat.reduceAdd]; rfl) | contradiction | (simp [m_wriX, m_no2, m_th, h2, h5, ↓reduceIte, Nat.reduceAdd]; done) | (simp [m_wriX, m_no2, m_th, h2, h5, ↓reduceIte, Nat.reduceAdd]; rfl))) d_Mo_written_36
set_option maxHeartbeats 4000000 in
set_option maxRecDepth 100000 in
theorem c_Mo_code (l : Launch) (G : kG) (K : kM) (i : Int32) (o : Int32) (a : Int32) (b : Int32) (n : Int32)   (I0 : m_Inv K) : k_Met l mS kT y_Mo_code b_Mo_code 6 none (k_rm 1) G [.ref (G.2.2 0 0), .int i, .int o, .int a, .int b, .int n] K none (m_codT K i o a b n) := by
  refine k_intro (by decide +kernel) rfl (Nat.le_of_ble_eq_true rfl) ?_
  intro X C E
  refine k_aload_n C d_Mo_code_0 rfl ?_
  refine k_aload_n C d_Mo_code_1 rfl ?_
  refine k_iload_n C d_Mo_code_2 rfl ?_
  refine k_bipush C d_Mo_code_3 (v := 31) (by decide) ?_
  refine k_callVi C kg_all (c_Mo_no l G _ _ _ I0) cs_Mo_102 cv_Mo_no om_0 (by decide) rfl rfl (Nat.le_of_ble_eq_true rfl) ⟨rfl, rfl⟩ ⟨by decide, by decide⟩ ⟨Nat.zero_le _, Nat.zero_le _⟩ d_Mo_code_5 I0 (fun I1 => ?_)
  refine k_if_ne C d_Mo_code_8 (tgt := 40) (by decide) (fun h2 => ?_) (fun h2 => ?_)
  · refine k_iconst C d_Mo_code_40 (v := 1) (by decide) ?_
    refine k_goto C d_Mo_code_41 (tgt := 45) (by decide) ?_
    refine k_put C d_Mo_code_45 fp_Mo_90 (by decide) rfl I1 (trivial) (fun I3 => ?_)
    refine k_aload_n C d_Mo_code_48 rfl ?_
    refine k_get C d_Mo_code_49 fg_Mo_90 (by decide) rfl ?_
    refine k_top (k_up_eq _ _ _ _ _) ?_
    refine k_if_eq C d_Mo_code_52 (tgt := 56) (by decide) (fun h => absurd h (by decide)) (fun _ => ?_)
    exact k_return C (E.to rfl (by first | rfl | (simp only [m_codT, m_cdS, h2, ↓reduceIte, Nat.reduceAdd]; done) | (simp only [m_codT, m_cdS, h2, ↓reduceIte, Nat.reduceAdd]; rfl) | contradiction | (simp [m_codT, m_cdS, h2, ↓reduceIte, Nat.reduceAdd]; done) | (simp [m_codT, m_cdS, h2, ↓reduceIte, Nat.reduceAdd]; rfl))) d_Mo_code_55
  · refine k_aload_n C d_Mo_code_11 rfl ?_
    refine k_iload_n C d_Mo_code_12 rfl ?_
    refine k_bipush C d_Mo_code_13 (v := 21) (by decide) ?_
    refine k_callVi C kg_all (c_Mo_no l G _ _ _ I1) cs_Mo_102 cv_Mo_no om_0 (by decide) rfl rfl (Nat.le_of_ble_eq_true rfl) ⟨rfl, rfl⟩ ⟨by decide, by decide⟩ ⟨Nat.zero_le _, Nat.zero_le _⟩ d_Mo_code_15 I1 (fun I4 => ?_)
    refine k_if_ne C d_Mo_code_18 (tgt := 40) (by decide) (fun h5 => ?_) (fun h5 => ?_)
    · refine k_iconst C d_Mo_code_40 (v := 1) (by decide) ?_
      refine k_goto C d_Mo_code_41 (tgt := 45) (by decide) ?_
      refine k_put C d_Mo_code_45 fp_Mo_90 (by decide) rfl I4 (trivial) (fun I6 => ?_)
      refine k_aload_n C d_Mo_code_48 rfl ?_
      refine k_get C d_Mo_code_49 fg_Mo_90 (by decide) rfl ?_
      refine k_top (k_up_eq _ _ _ _ _) ?_
      refine k_if_eq C d_Mo_code_52 (tgt := 56) (by decide) (fun h => absurd h (by decide)) (fun _ => ?_)
      exact k_return C (E.to rfl (by first | rfl | (simp only [m_codT, m_cdS, h2, h5, ↓reduceIte, Nat.reduceAdd]; done) | (simp only [m_codT, m_cdS, h2, h5, ↓reduceIte, Nat.reduceAdd]; rfl) | contradiction | (simp [m_codT, m_cdS, h2, h5, ↓reduceIte, Nat.reduceAdd]; done) | (simp [m_codT, m_cdS, h2, h5, ↓reduceIte, Nat.reduceAdd]; rfl))) d_Mo_code_55
    · refine k_aload_n C d_Mo_code_21 rfl ?_
      refine k_iload_n C d_Mo_code_22 rfl ?_
      refine k_iconst C d_Mo_code_23 (v := 3) (by decide) ?_
      refine k_callVi C kg_all (c_Mo_no l G _ _ _ I4) cs_Mo_102 cv_Mo_no om_0 (by decide) rfl rfl (Nat.le_of_ble_eq_true rfl) ⟨rfl, rfl⟩ ⟨by decide, by decide⟩ ⟨Nat.zero_le _, Nat.zero_le _⟩ d_Mo_code_24 I4 (fun I7 => ?_)
      refine k_if_ne C d_Mo_code_27 (tgt := 40) (by decide) (fun h8 => ?_) (fun h8 => ?_)
      · refine k_iconst C d_Mo_code_40 (v := 1) (by decide) ?_
        refine k_goto C d_Mo_code_41 (tgt := 45) (by decide) ?_
        refine k_put C d_Mo_code_45 fp_Mo_90 (by decide) rfl I7 (trivial) (fun I9 => ?_)
        refine k_aload_n C d_Mo_code_48 rfl ?_
        refine k_get C d_Mo_code_49 fg_Mo_90 (by decide) rfl ?_
        refine k_top (k_up_eq _ _ _ _ _) ?_
        refine k_if_eq C d_Mo_code_52 (tgt := 56) (by decide) (fun h => absurd h (by decide)) (fun _ => ?_)
        exact k_return C (E.to rfl (by first | rfl | (simp only [m_codT, m_cdS, h2, h5, h8, ↓reduceIte, Nat.reduceAdd]; done) | (simp only [m_codT, m_cdS, h2, h5, h8, ↓reduceIte, Nat.reduceAdd]; rfl) | contradiction | (simp [m_codT, m_cdS, h2, h5, h8, ↓reduceIte, Nat.reduceAdd]; done) | (simp [m_codT, m_cdS, h2, h5, h8, ↓reduceIte, Nat.reduceAdd]; rfl))) d_Mo_code_55
      · refine k_aload_n C d_Mo_code_30 rfl ?_
        refine k_iload C d_Mo_code_31 rfl ?_
        refine k_iconst C d_Mo_code_33 (v := 3) (by decide) ?_
        refine k_callVi C kg_all (c_Mo_no l G _ _ _ I7) cs_Mo_102 cv_Mo_no om_0 (by decide) rfl rfl (Nat.le_of_ble_eq_true rfl) ⟨rfl, rfl⟩ ⟨by decide, by decide⟩ ⟨Nat.zero_le _, Nat.zero_le _⟩ d_Mo_code_34 I7 (fun I10 => ?_)
        refine k_if_eq C d_Mo_code_37 (tgt := 44) (by decide) (fun h11 => ?_) (fun h11 => ?_)
        · refine k_iconst C d_Mo_code_44 (v := 0) (by decide) ?_
          refine k_put C d_Mo_code_45 fp_Mo_90 (by decide) rfl I10 (trivial) (fun I12 => ?_)
          refine k_aload_n C d_Mo_code_48 rfl ?_
          refine k_get C d_Mo_code_49 fg_Mo_90 (by decide) rfl ?_
          refine k_top (k_up_eq _ _ _ _ _) ?_
          refine k_if_eq C d_Mo_code_52 (tgt := 56) (by decide) (fun _ => ?_) (fun h => absurd h (by decide))
          refine k_aload_n C d_Mo_code_56 rfl ?_
          refine k_getr C d_Mo_code_57 fg_Mo_7 (by decide) rfl ?_
          refine k_iload_n C d_Mo_code_60 rfl ?_
          refine k_iload_n C d_Mo_code_61 rfl ?_
          refine k_iastore C d_Mo_code_62 am_1 (by decide) (r_no (n := 31) (v := i) (by decide) ‹_›) rfl I12 (r_no (n := 21) (v := o) (by decide) ‹_›) (fun I13 => ?_)
          refine k_aload_n C d_Mo_code_63 rfl ?_
          refine k_getr C d_Mo_code_64 fg_Mo_13 (by decide) rfl ?_
          refine k_iload_n C d_Mo_code_67 rfl ?_
          refine k_iload_n C d_Mo_code_68 rfl ?_
          refine k_iastore C d_Mo_code_69 am_2 (by decide) (r_no (n := 31) (v := i) (by decide) ‹_›) rfl I13 (r_no (n := 3) (v := a) (by decide) ‹_›) (fun I14 => ?_)
          refine k_aload_n C d_Mo_code_70 rfl ?_
          refine k_getr C d_Mo_code_71 fg_Mo_16 (by decide) rfl ?_
          refine k_iload_n C d_Mo_code_74 rfl ?_
          refine k_iload C d_Mo_code_75 rfl ?_
          refine k_iastore C d_Mo_code_77 am_3 (by decide) (r_no (n := 31) (v := i) (by decide) ‹_›) rfl I14 (r_no (n := 3) (v := b) (by decide) ‹_›) (fun I15 => ?_)
          refine k_aload_n C d_Mo_code_78 rfl ?_
          refine k_getr C d_Mo_code_79 fg_Mo_19 (by decide) rfl ?_
          refine k_iload_n C d_Mo_code_82 rfl ?_
          refine k_iload C d_Mo_code_83 rfl ?_
          refine k_iastore C d_Mo_code_85 am_4 (by decide) (r_no (n := 31) (v := i) (by decide) ‹_›) rfl I15 (trivial) (fun I16 => ?_)
          exact k_return C (E.to rfl (by first | rfl | (simp only [m_codT, m_cdS, h2, h5, h8, h11, ↓reduceIte, Nat.reduceAdd]; done) | (simp only [m_codT, m_cdS, h2, h5, h8, h11, ↓reduceIte, Nat.reduceAdd]; rfl) | contradiction | (simp [m_codT, m_cdS, h2, h5, h8, h11, ↓reduceIte, Nat.reduceAdd]; done) | (simp [m_codT, m_cdS, h2, h5, h8, h11, ↓reduceIte, Nat.reduceAdd]; rfl))) d_Mo_code_86
        · refine k_iconst C d_Mo_code_40 (v := 1) (by decide) ?_
          refine k_goto C d_Mo_code_41 (tgt := 45) (by decide) ?_
          refine k_put C d_Mo_code_45 fp_Mo_90 (by decide) rfl I10 (trivial) (fun I17 => ?_)
          refine k_aload_n C d_Mo_code_48 rfl ?_
          refine k_get C d_Mo_code_49 fg_Mo_90 (by decide) rfl ?_
          refine k_top (k_up_eq _ _ _ _ _) ?_
          refine k_if_eq C d_Mo_code_52 (tgt := 56) (by decide) (fun h => absurd h (by decide)) (fun _ => ?_)
          exact k_return C (E.to rfl (by first | rfl | (simp only [m_codT, m_cdS, h2, h5, h8, h11, ↓reduceIte, Nat.reduceAdd]; done) | (simp only [m_codT, m_cdS, h2, h5, h8, h11, ↓reduceIte, Nat.reduceAdd]; rfl) | contradiction | (simp [m_codT, m_cdS, h2, h5, h8, h11, ↓reduceIte, Nat.reduceAdd]; done) | (simp [m_codT, m_cdS, h2, h5, h8, h11, ↓reduceIte, Nat.reduceAdd]; rfl))) d_Mo_code_55
set_option maxHeartbeats 4000000 in
set_option maxRecDepth 100000 in
theorem b_mct {X : kX} {G : kG} {l : Launch} {K : kM} (C : k_C X kT b_Mo_count y_Mo_count.cls mS G 4 l (k_rm 0)) (w : Int32) (I0 : m_Inv K) (E : k_E X (some .int) (some (.int (m_cntX K w))) K 0 0) : k_W X 0 0 33 [(2, .int (m_fr K 12)), (0, .ref (G.2.2 0 0)), (1, .int w)] [] K := by
  refine k_iload_n C d_Mo_count_33 rfl ?_
  rcases r_w22 w with h | rfl | rfl | rfl | rfl | rfl | rfl | rfl | rfl | rfl | rfl | rfl | rfl | rfl | rfl | rfl | rfl | rfl | rfl | rfl | rfl | rfl | rfl
  · refine k_tabOut C d_Mo_count_34 h (tgt := 193) (by decide) ?_
    refine k_bipush C d_Mo_count_193 (v := (-2)) (by decide) ?_
    exact k_ireturn C (E.to (by first | (simp only [mk_0, mk_1, mk_2, mk_3, mk_4, mk_5, mk_6, mk_7, mk_8, mk_9, mk_10, mk_11, mk_12, mk_13, mk_14, mk_15, mk_16, mk_17, mk_18, mk_19, mk_20, mk_21, mk_o K h, ↓reduceIte]; done) | (simp only [mk_0, mk_1, mk_2, mk_3, mk_4, mk_5, mk_6, mk_7, mk_8, mk_9, mk_10, mk_11, mk_12, mk_13, mk_14, mk_15, mk_16, mk_17, mk_18, mk_19, mk_20, mk_21, mk_o K h, ↓reduceIte]; rfl) | contradiction | rfl) (by first | (simp only [mk_0, mk_1, mk_2, mk_3, mk_4, mk_5, mk_6, mk_7, mk_8, mk_9, mk_10, mk_11, mk_12, mk_13, mk_14, mk_15, mk_16, mk_17, mk_18, mk_19, mk_20, mk_21, mk_o K h, ↓reduceIte]; done) | (simp only [mk_0, mk_1, mk_2, mk_3, mk_4, mk_5, mk_6, mk_7, mk_8, mk_9, mk_10, mk_11, mk_12, mk_13, mk_14, mk_15, mk_16, mk_17, mk_18, mk_19, mk_20, mk_21, mk_o K h, ↓reduceIte]; rfl) | contradiction | rfl)) d_Mo_count_195
  · refine k_tabIn C d_Mo_count_34 (by decide) (by decide) (off := 102) (by decide) (tgt := 136) (by decide) ?_
    refine k_aload_n C d_Mo_count_136 rfl ?_
    refine k_get C d_Mo_count_137 fg_Mo_165 (by decide) rfl ?_
    exact k_ireturn C (E.to (by first | (simp only [mk_0, mk_1, mk_2, mk_3, mk_4, mk_5, mk_6, mk_7, mk_8, mk_9, mk_10, mk_11, mk_12, mk_13, mk_14, mk_15, mk_16, mk_17, mk_18, mk_19, mk_20, mk_21, ↓reduceIte]; done) | (simp only [mk_0, mk_1, mk_2, mk_3, mk_4, mk_5, mk_6, mk_7, mk_8, mk_9, mk_10, mk_11, mk_12, mk_13, mk_14, mk_15, mk_16, mk_17, mk_18, mk_19, mk_20, mk_21, ↓reduceIte]; rfl) | contradiction | rfl) (by first | (simp only [mk_0, mk_1, mk_2, mk_3, mk_4, mk_5, mk_6, mk_7, mk_8, mk_9, mk_10, mk_11, mk_12, mk_13, mk_14, mk_15, mk_16, mk_17, mk_18, mk_19, mk_20, mk_21, ↓reduceIte]; done) | (simp only [mk_0, mk_1, mk_2, mk_3, mk_4, mk_5, mk_6, mk_7, mk_8, mk_9, mk_10, mk_11, mk_12, mk_13, mk_14, mk_15, mk_16, mk_17, mk_18, mk_19, mk_20, mk_21, ↓reduceIte]; rfl) | contradiction | rfl)) d_Mo_count_140
  · refine k_tabIn C d_Mo_count_34 (by decide) (by decide) (off := 107) (by decide) (tgt := 141) (by decide) ?_
    refine k_aload_n C d_Mo_count_141 rfl ?_
    refine k_get C d_Mo_count_142 fg_Mo_155 (by decide) rfl ?_
    exact k_ireturn C (E.to (by first | (simp only [mk_0, mk_1, mk_2, mk_3, mk_4, mk_5, mk_6, mk_7, mk_8, mk_9, mk_10, mk_11, mk_12, mk_13, mk_14, mk_15, mk_16, mk_17, mk_18, mk_19, mk_20, mk_21, ↓reduceIte]; done) | (simp only [mk_0, mk_1, mk_2, mk_3, mk_4, mk_5, mk_6, mk_7, mk_8, mk_9, mk_10, mk_11, mk_12, mk_13, mk_14, mk_15, mk_16, mk_17, mk_18, mk_19, mk_20, mk_21, ↓reduceIte]; rfl) | contradiction | rfl) (by first | (simp only [mk_0, mk_1, mk_2, mk_3, mk_4, mk_5, mk_6, mk_7, mk_8, mk_9, mk_10, mk_11, mk_12, mk_13, mk_14, mk_15, mk_16, mk_17, mk_18, mk_19, mk_20, mk_21, ↓reduceIte]; done) | (simp only [mk_0, mk_1, mk_2, mk_3, mk_4, mk_5, mk_6, mk_7, mk_8, mk_9, mk_10, mk_11, mk_12, mk_13, mk_14, mk_15, mk_16, mk_17, mk_18, mk_19, mk_20, mk_21, ↓reduceIte]; rfl) | contradiction | rfl)) d_Mo_count_145
  · refine k_tabIn C d_Mo_count_34 (by decide) (by decide) (off := 112) (by decide) (tgt := 146) (by decide) ?_
    refine k_aload_n C d_Mo_count_146 rfl ?_
    refine k_get C d_Mo_count_147 fg_Mo_116 (by decide) rfl ?_
    exact k_ireturn C (E.to (by first | (simp only [mk_0, mk_1, mk_2, mk_3, mk_4, mk_5, mk_6, mk_7, mk_8, mk_9, mk_10, mk_11, mk_12, mk_13, mk_14, mk_15, mk_16, mk_17, mk_18, mk_19, mk_20, mk_21, ↓reduceIte]; done) | (simp only [mk_0, mk_1, mk_2, mk_3, mk_4, mk_5, mk_6, mk_7, mk_8, mk_9, mk_10, mk_11, mk_12, mk_13, mk_14, mk_15, mk_16, mk_17, mk_18, mk_19, mk_20, mk_21, ↓reduceIte]; rfl) | contradiction | rfl) (by first | (simp only [mk_0, mk_1, mk_2, mk_3, mk_4, mk_5, mk_6, mk_7, mk_8, mk_9, mk_10, mk_11, mk_12, mk_13, mk_14, mk_15, mk_16, mk_17, mk_18, mk_19, mk_20, mk_21, ↓reduceIte]; done) | (simp only [mk_0, mk_1, mk_2, mk_3, mk_4, mk_5, mk_6, mk_7, mk_8, mk_9, mk_10, mk_11, mk_12, mk_13, mk_14, mk_15, mk_16, mk_17, mk_18, mk_19, mk_20, mk_21, ↓reduceIte]; rfl) | contradiction | rfl)) d_Mo_count_150
  · refine k_tabIn C d_Mo_count_34 (by decide) (by decide) (off := 117) (by decide) (tgt := 151) (by decide) ?_
    refine k_aload_n C d_Mo_count_151 rfl ?_
    refine k_get C d_Mo_count_152 fg_Mo_122 (by decide) rfl ?_
    exact k_ireturn C (E.to (by first | (simp only [mk_0, mk_1, mk_2, mk_3, mk_4, mk_5, mk_6, mk_7, mk_8, mk_9, mk_10, mk_11, mk_12, mk_13, mk_14, mk_15, mk_16, mk_17, mk_18, mk_19, mk_20, mk_21, ↓reduceIte]; done) | (simp only [mk_0, mk_1, mk_2, mk_3, mk_4, mk_5, mk_6, mk_7, mk_8, mk_9, mk_10, mk_11, mk_12, mk_13, mk_14, mk_15, mk_16, mk_17, mk_18, mk_19, mk_20, mk_21, ↓reduceIte]; rfl) | contradiction | rfl) (by first | (simp only [mk_0, mk_1, mk_2, mk_3, mk_4, mk_5, mk_6, mk_7, mk_8, mk_9, mk_10, mk_11, mk_12, mk_13, mk_14, mk_15, mk_16, mk_17, mk_18, mk_19, mk_20, mk_21, ↓reduceIte]; done) | (simp only [mk_0, mk_1, mk_2, mk_3, mk_4, mk_5, mk_6, mk_7, mk_8, mk_9, mk_10, mk_11, mk_12, mk_13, mk_14, mk_15, mk_16, mk_17, mk_18, mk_19, mk_20, mk_21, ↓reduceIte]; rfl) | contradiction | rfl)) d_Mo_count_155
  · refine k_tabIn C d_Mo_count_34 (by decide) (by decide) (off := 122) (by decide) (tgt := 156) (by decide) ?_
    refine k_aload_n C d_Mo_count_156 rfl ?_
    refine k_get C d_Mo_count_157 fg_Mo_125 (by decide) rfl ?_
    exact k_ireturn C (E.to (by first | (simp only [mk_0, mk_1, mk_2, mk_3, mk_4, mk_5, mk_6, mk_7, mk_8, mk_9, mk_10, mk_11, mk_12, mk_13, mk_14, mk_15, mk_16, mk_17, mk_18, mk_19, mk_20, mk_21, ↓reduceIte]; done) | (simp only [mk_0, mk_1, mk_2, mk_3, mk_4, mk_5, mk_6, mk_7, mk_8, mk_9, mk_10, mk_11, mk_12, mk_13, mk_14, mk_15, mk_16, mk_17, mk_18, mk_19, mk_20, mk_21, ↓reduceIte]; rfl) | contradiction | rfl) (by first | (simp only [mk_0, mk_1, mk_2, mk_3, mk_4, mk_5, mk_6, mk_7, mk_8, mk_9, mk_10, mk_11, mk_12, mk_13, mk_14, mk_15, mk_16, mk_17, mk_18, mk_19, mk_20, mk_21, ↓reduceIte]; done) | (simp only [mk_0, mk_1, mk_2, mk_3, mk_4, mk_5, mk_6, mk_7, mk_8, mk_9, mk_10, mk_11, mk_12, mk_13, mk_14, mk_15, mk_16, mk_17, mk_18, mk_19, mk_20, mk_21, ↓reduceIte]; rfl) | contradiction | rfl)) d_Mo_count_160
  · refine k_tabIn C d_Mo_count_34 (by decide) (by decide) (off := 127) (by decide) (tgt := 161) (by decide) ?_
    refine k_iload_n C d_Mo_count_161 rfl ?_
    exact k_ireturn C (E.to (by first | (simp only [mk_0, mk_1, mk_2, mk_3, mk_4, mk_5, mk_6, mk_7, mk_8, mk_9, mk_10, mk_11, mk_12, mk_13, mk_14, mk_15, mk_16, mk_17, mk_18, mk_19, mk_20, mk_21, ↓reduceIte]; done) | (simp only [mk_0, mk_1, mk_2, mk_3, mk_4, mk_5, mk_6, mk_7, mk_8, mk_9, mk_10, mk_11, mk_12, mk_13, mk_14, mk_15, mk_16, mk_17, mk_18, mk_19, mk_20, mk_21, ↓reduceIte]; rfl) | contradiction | rfl) (by first | (simp only [mk_0, mk_1, mk_2, mk_3, mk_4, mk_5, mk_6, mk_7, mk_8, mk_9, mk_10, mk_11, mk_12, mk_13, mk_14, mk_15, mk_16, mk_17, mk_18, mk_19, mk_20, mk_21, ↓reduceIte]; done) | (simp only [mk_0, mk_1, mk_2, mk_3, mk_4, mk_5, mk_6, mk_7, mk_8, mk_9, mk_10, mk_11, mk_12, mk_13, mk_14, mk_15, mk_16, mk_17, mk_18, mk_19, mk_20, mk_21, ↓reduceIte]; rfl) | contradiction | rfl)) d_Mo_count_162
  · refine k_tabIn C d_Mo_count_34 (by decide) (by decide) (off := 129) (by decide) (tgt := 163) (by decide) ?_
    refine k_aload_n C d_Mo_count_163 rfl ?_
    refine k_get C d_Mo_count_164 fg_Mo_171 (by decide) rfl ?_
    exact k_ireturn C (E.to (by first | (simp only [mk_0, mk_1, mk_2, mk_3, mk_4, mk_5, mk_6, mk_7, mk_8, mk_9, mk_10, mk_11, mk_12, mk_13, mk_14, mk_15, mk_16, mk_17, mk_18, mk_19, mk_20, mk_21, ↓reduceIte]; done) | (simp only [mk_0, mk_1, mk_2, mk_3, mk_4, mk_5, mk_6, mk_7, mk_8, mk_9, mk_10, mk_11, mk_12, mk_13, mk_14, mk_15, mk_16, mk_17, mk_18, mk_19, mk_20, mk_21, ↓reduceIte]; rfl) | contradiction | rfl) (by first | (simp only [mk_0, mk_1, mk_2, mk_3, mk_4, mk_5, mk_6, mk_7, mk_8, mk_9, mk_10, mk_11, mk_12, mk_13, mk_14, mk_15, mk_16, mk_17, mk_18, mk_19, mk_20, mk_21, ↓reduceIte]; done) | (simp only [mk_0, mk_1, mk_2, mk_3, mk_4, mk_5, mk_6, mk_7, mk_8, mk_9, mk_10, mk_11, mk_12, mk_13, mk_14, mk_15, mk_16, mk_17, mk_18, mk_19, mk_20, mk_21, ↓reduceIte]; rfl) | contradiction | rfl)) d_Mo_count_167
  · refine k_tabIn C d_Mo_count_34 (by decide) (by decide) (off := 134) (by decide) (tgt := 168) (by decide) ?_
    refine k_aload_n C d_Mo_count_168 rfl ?_
    refine k_get C d_Mo_count_169 fg_Mo_168 (by decide) rfl ?_
    exact k_ireturn C (E.to (by first | (simp only [mk_0, mk_1, mk_2, mk_3, mk_4, mk_5, mk_6, mk_7, mk_8, mk_9, mk_10, mk_11, mk_12, mk_13, mk_14, mk_15, mk_16, mk_17, mk_18, mk_19, mk_20, mk_21, ↓reduceIte]; done) | (simp only [mk_0, mk_1, mk_2, mk_3, mk_4, mk_5, mk_6, mk_7, mk_8, mk_9, mk_10, mk_11, mk_12, mk_13, mk_14, mk_15, mk_16, mk_17, mk_18, mk_19, mk_20, mk_21, ↓reduceIte]; rfl) | contradiction | rfl) (by first | (simp only [mk_0, mk_1, mk_2, mk_3, mk_4, mk_5, mk_6, mk_7, mk_8, mk_9, mk_10, mk_11, mk_12, mk_13, mk_14, mk_15, mk_16, mk_17, mk_18, mk_19, mk_20, mk_21, ↓reduceIte]; done) | (simp only [mk_0, mk_1, mk_2, mk_3, mk_4, mk_5, mk_6, mk_7, mk_8, mk_9, mk_10, mk_11, mk_12, mk_13, mk_14, mk_15, mk_16, mk_17, mk_18, mk_19, mk_20, mk_21, ↓reduceIte]; rfl) | contradiction | rfl)) d_Mo_count_172
  · refine k_tabIn C d_Mo_count_34 (by decide) (by decide) (off := 159) (by decide) (tgt := 193) (by decide) ?_
    refine k_bipush C d_Mo_count_193 (v := (-2)) (by decide) ?_
    exact k_ireturn C (E.to (by first | (simp only [mk_0, mk_1, mk_2, mk_3, mk_4, mk_5, mk_6, mk_7, mk_8, mk_9, mk_10, mk_11, mk_12, mk_13, mk_14, mk_15, mk_16, mk_17, mk_18, mk_19, mk_20, mk_21, ↓reduceIte]; done) | (simp only [mk_0, mk_1, mk_2, mk_3, mk_4, mk_5, mk_6, mk_7, mk_8, mk_9, mk_10, mk_11, mk_12, mk_13, mk_14, mk_15, mk_16, mk_17, mk_18, mk_19, mk_20, mk_21, ↓reduceIte]; rfl) | contradiction | rfl) (by first | (simp only [mk_0, mk_1, mk_2, mk_3, mk_4, mk_5, mk_6, mk_7, mk_8, mk_9, mk_10, mk_11, mk_12, mk_13, mk_14, mk_15, mk_16, mk_17, mk_18, mk_19, mk_20, mk_21, ↓reduceIte]; done) | (simp only [mk_0, mk_1, mk_2, mk_3, mk_4, mk_5, mk_6, mk_7, mk_8, mk_9, mk_10, mk_11, mk_12, mk_13, mk_14, mk_15, mk_16, mk_17, mk_18, mk_19, mk_20, mk_21, ↓reduceIte]; rfl) | contradiction | rfl)) d_Mo_count_195
  · refine k_tabIn C d_Mo_count_34 (by decide) (by decide) (off := 159) (by decide) (tgt := 193) (by decide) ?_
    refine k_bipush C d_Mo_count_193 (v := (-2)) (by decide) ?_
    exact k_ireturn C (E.to (by first | (simp only [mk_0, mk_1, mk_2, mk_3, mk_4, mk_5, mk_6, mk_7, mk_8, mk_9, mk_10, mk_11, mk_12, mk_13, mk_14, mk_15, mk_16, mk_17, mk_18, mk_19, mk_20, mk_21, ↓reduceIte]; done) | (simp only [mk_0, mk_1, mk_2, mk_3, mk_4, mk_5, mk_6, mk_7, mk_8, mk_9, mk_10, mk_11, mk_12, mk_13, mk_14, mk_15, mk_16, mk_17, mk_18, mk_19, mk_20, mk_21, ↓reduceIte]; rfl) | contradiction | rfl) (by first | (simp only [mk_0, mk_1, mk_2, mk_3, mk_4, mk_5, mk_6, mk_7, mk_8, mk_9, mk_10, mk_11, mk_12, mk_13, mk_14, mk_15, mk_16, mk_17, mk_18, mk_19, mk_20, mk_21, ↓reduceIte]; done) | (simp only [mk_0, mk_1, mk_2, mk_3, mk_4, mk_5, mk_6, mk_7, mk_8, mk_9, mk_10, mk_11, mk_12, mk_13, mk_14, mk_15, mk_16, mk_17, mk_18, mk_19, mk_20, mk_21, ↓reduceIte]; rfl) | contradiction | rfl)) d_Mo_count_195
  · refine k_tabIn C d_Mo_count_34 (by decide) (by decide) (off := 139) (by decide) (tgt := 173) (by decide) ?_
    refine k_aload_n C d_Mo_count_173 rfl ?_
    refine k_getr C d_Mo_count_174 fg_Mo_80 (by decide) rfl ?_
    refine k_iload_n C d_Mo_count_177 rfl ?_
    refine k_bipush C d_Mo_count_178 (v := 10) (by decide) ?_
    refine k_isub C d_Mo_count_180 ?_
    refine k_iaload C d_Mo_count_181 am_24 (by decide) (k_in (by decide)) (j := 0) (by decide) ?_
    exact k_ireturn C (E.to (by first | (simp only [mk_0, mk_1, mk_2, mk_3, mk_4, mk_5, mk_6, mk_7, mk_8, mk_9, mk_10, mk_11, mk_12, mk_13, mk_14, mk_15, mk_16, mk_17, mk_18, mk_19, mk_20, mk_21, ↓reduceIte]; done) | (simp only [mk_0, mk_1, mk_2, mk_3, mk_4, mk_5, mk_6, mk_7, mk_8, mk_9, mk_10, mk_11, mk_12, mk_13, mk_14, mk_15, mk_16, mk_17, mk_18, mk_19, mk_20, mk_21, ↓reduceIte]; rfl) | contradiction | rfl) (by first | (simp only [mk_0, mk_1, mk_2, mk_3, mk_4, mk_5, mk_6, mk_7, mk_8, mk_9, mk_10, mk_11, mk_12, mk_13, mk_14, mk_15, mk_16, mk_17, mk_18, mk_19, mk_20, mk_21, ↓reduceIte]; done) | (simp only [mk_0, mk_1, mk_2, mk_3, mk_4, mk_5, mk_6, mk_7, mk_8, mk_9, mk_10, mk_11, mk_12, mk_13, mk_14, mk_15, mk_16, mk_17, mk_18, mk_19, mk_20, mk_21, ↓reduceIte]; rfl) | contradiction | rfl)) d_Mo_count_182
  · refine k_tabIn C d_Mo_count_34 (by decide) (by decide) (off := 139) (by decide) (tgt := 173) (by decide) ?_
    refine k_aload_n C d_Mo_count_173 rfl ?_
    refine k_getr C d_Mo_count_174 fg_Mo_80 (by decide) rfl ?_
    refine k_iload_n C d_Mo_count_177 rfl ?_
    refine k_bipush C d_Mo_count_178 (v := 10) (by decide) ?_
    refine k_isub C d_Mo_count_180 ?_
    refine k_iaload C d_Mo_count_181 am_24 (by decide) (k_in (by decide)) (j := 1) (by decide) ?_
    exact k_ireturn C (E.to (by first | (simp only [mk_0, mk_1, mk_2, mk_3, mk_4, mk_5, mk_6, mk_7, mk_8, mk_9, mk_10, mk_11, mk_12, mk_13, mk_14, mk_15, mk_16, mk_17, mk_18, mk_19, mk_20, mk_21, ↓reduceIte]; done) | (simp only [mk_0, mk_1, mk_2, mk_3, mk_4, mk_5, mk_6, mk_7, mk_8, mk_9, mk_10, mk_11, mk_12, mk_13, mk_14, mk_15, mk_16, mk_17, mk_18, mk_19, mk_20, mk_21, ↓reduceIte]; rfl) | contradiction | rfl) (by first | (simp only [mk_0, mk_1, mk_2, mk_3, mk_4, mk_5, mk_6, mk_7, mk_8, mk_9, mk_10, mk_11, mk_12, mk_13, mk_14, mk_15, mk_16, mk_17, mk_18, mk_19, mk_20, mk_21, ↓reduceIte]; done) | (simp only [mk_0, mk_1, mk_2, mk_3, mk_4, mk_5, mk_6, mk_7, mk_8, mk_9, mk_10, mk_11, mk_12, mk_13, mk_14, mk_15, mk_16, mk_17, mk_18, mk_19, mk_20, mk_21, ↓reduceIte]; rfl) | contradiction | rfl)) d_Mo_count_182
  · refine k_tabIn C d_Mo_count_34 (by decide) (by decide) (off := 159) (by decide) (tgt := 193) (by decide) ?_
    refine k_bipush C d_Mo_count_193 (v := (-2)) (by decide) ?_
    exact k_ireturn C (E.to (by first | (simp only [mk_0, mk_1, mk_2, mk_3, mk_4, mk_5, mk_6, mk_7, mk_8, mk_9, mk_10, mk_11, mk_12, mk_13, mk_14, mk_15, mk_16, mk_17, mk_18, mk_19, mk_20, mk_21, ↓reduceIte]; done) | (simp only [mk_0, mk_1, mk_2, mk_3, mk_4, mk_5, mk_6, mk_7, mk_8, mk_9, mk_10, mk_11, mk_12, mk_13, mk_14, mk_15, mk_16, mk_17, mk_18, mk_19, mk_20, mk_21, ↓reduceIte]; rfl) | contradiction | rfl) (by first | (simp only [mk_0, mk_1, mk_2, mk_3, mk_4, mk_5, mk_6, mk_7, mk_8, mk_9, mk_10, mk_11, mk_12, mk_13, mk_14, mk_15, mk_16, mk_17, mk_18, mk_19, mk_20, mk_21, ↓reduceIte]; done) | (simp only [mk_0, mk_1, mk_2, mk_3, mk_4, mk_5, mk_6, mk_7, mk_8, mk_9, mk_10, mk_11, mk_12, mk_13, mk_14, mk_15, mk_16, mk_17, mk_18, mk_19, mk_20, mk_21, ↓reduceIte]; rfl) | contradiction | rfl)) d_Mo_count_195
  · refine k_tabIn C d_Mo_count_34 (by decide) (by decide) (off := 159) (by decide) (tgt := 193) (by decide) ?_
    refine k_bipush C d_Mo_count_193 (v := (-2)) (by decide) ?_
    exact k_ireturn C (E.to (by first | (simp only [mk_0, mk_1, mk_2, mk_3, mk_4, mk_5, mk_6, mk_7, mk_8, mk_9, mk_10, mk_11, mk_12, mk_13, mk_14, mk_15, mk_16, mk_17, mk_18, mk_19, mk_20, mk_21, ↓reduceIte]; done) | (simp only [mk_0, mk_1, mk_2, mk_3, mk_4, mk_5, mk_6, mk_7, mk_8, mk_9, mk_10, mk_11, mk_12, mk_13, mk_14, mk_15, mk_16, mk_17, mk_18, mk_19, mk_20, mk_21, ↓reduceIte]; rfl) | contradiction | rfl) (by first | (simp only [mk_0, mk_1, mk_2, mk_3, mk_4, mk_5, mk_6, mk_7, mk_8, mk_9, mk_10, mk_11, mk_12, mk_13, mk_14, mk_15, mk_16, mk_17, mk_18, mk_19, mk_20, mk_21, ↓reduceIte]; done) | (simp only [mk_0, mk_1, mk_2, mk_3, mk_4, mk_5, mk_6, mk_7, mk_8, mk_9, mk_10, mk_11, mk_12, mk_13, mk_14, mk_15, mk_16, mk_17, mk_18, mk_19, mk_20, mk_21, ↓reduceIte]; rfl) | contradiction | rfl)) d_Mo_count_195
  · refine k_tabIn C d_Mo_count_34 (by decide) (by decide) (off := 159) (by decide) (tgt := 193) (by decide) ?_
    refine k_bipush C d_Mo_count_193 (v := (-2)) (by decide) ?_
    exact k_ireturn C (E.to (by first | (simp only [mk_0, mk_1, mk_2, mk_3, mk_4, mk_5, mk_6, mk_7, mk_8, mk_9, mk_10, mk_11, mk_12, mk_13, mk_14, mk_15, mk_16, mk_17, mk_18, mk_19, mk_20, mk_21, ↓reduceIte]; done) | (simp only [mk_0, mk_1, mk_2, mk_3, mk_4, mk_5, mk_6, mk_7, mk_8, mk_9, mk_10, mk_11, mk_12, mk_13, mk_14, mk_15, mk_16, mk_17, mk_18, mk_19, mk_20, mk_21, ↓reduceIte]; rfl) | contradiction | rfl) (by first | (simp only [mk_0, mk_1, mk_2, mk_3, mk_4, mk_5, mk_6, mk_7, mk_8, mk_9, mk_10, mk_11, mk_12, mk_13, mk_14, mk_15, mk_16, mk_17, mk_18, mk_19, mk_20, mk_21, ↓reduceIte]; done) | (simp only [mk_0, mk_1, mk_2, mk_3, mk_4, mk_5, mk_6, mk_7, mk_8, mk_9, mk_10, mk_11, mk_12, mk_13, mk_14, mk_15, mk_16, mk_17, mk_18, mk_19, mk_20, mk_21, ↓reduceIte]; rfl) | contradiction | rfl)) d_Mo_count_195
  · refine k_tabIn C d_Mo_count_34 (by decide) (by decide) (off := 159) (by decide) (tgt := 193) (by decide) ?_
    refine k_bipush C d_Mo_count_193 (v := (-2)) (by decide) ?_
    exact k_ireturn C (E.to (by first | (simp only [mk_0, mk_1, mk_2, mk_3, mk_4, mk_5, mk_6, mk_7, mk_8, mk_9, mk_10, mk_11, mk_12, mk_13, mk_14, mk_15, mk_16, mk_17, mk_18, mk_19, mk_20, mk_21, ↓reduceIte]; done) | (simp only [mk_0, mk_1, mk_2, mk_3, mk_4, mk_5, mk_6, mk_7, mk_8, mk_9, mk_10, mk_11, mk_12, mk_13, mk_14, mk_15, mk_16, mk_17, mk_18, mk_19, mk_20, mk_21, ↓reduceIte]; rfl) | contradiction | rfl) (by first | (simp only [mk_0, mk_1, mk_2, mk_3, mk_4, mk_5, mk_6, mk_7, mk_8, mk_9, mk_10, mk_11, mk_12, mk_13, mk_14, mk_15, mk_16, mk_17, mk_18, mk_19, mk_20, mk_21, ↓reduceIte]; done) | (simp only [mk_0, mk_1, mk_2, mk_3, mk_4, mk_5, mk_6, mk_7, mk_8, mk_9, mk_10, mk_11, mk_12, mk_13, mk_14, mk_15, mk_16, mk_17, mk_18, mk_19, mk_20, mk_21, ↓reduceIte]; rfl) | contradiction | rfl)) d_Mo_count_195
  · refine k_tabIn C d_Mo_count_34 (by decide) (by decide) (off := 159) (by decide) (tgt := 193) (by decide) ?_
    refine k_bipush C d_Mo_count_193 (v := (-2)) (by decide) ?_
    exact k_ireturn C (E.to (by first | (simp only [mk_0, mk_1, mk_2, mk_3, mk_4, mk_5, mk_6, mk_7, mk_8, mk_9, mk_10, mk_11, mk_12, mk_13, mk_14, mk_15, mk_16, mk_17, mk_18, mk_19, mk_20, mk_21, ↓reduceIte]; done) | (simp only [mk_0, mk_1, mk_2, mk_3, mk_4, mk_5, mk_6, mk_7, mk_8, mk_9, mk_10, mk_11, mk_12, mk_13, mk_14, mk_15, mk_16, mk_17, mk_18, mk_19, mk_20, mk_21, ↓reduceIte]; rfl) | contradiction | rfl) (by first | (simp only [mk_0, mk_1, mk_2, mk_3, mk_4, mk_5, mk_6, mk_7, mk_8, mk_9, mk_10, mk_11, mk_12, mk_13, mk_14, mk_15, mk_16, mk_17, mk_18, mk_19, mk_20, mk_21, ↓reduceIte]; done) | (simp only [mk_0, mk_1, mk_2, mk_3, mk_4, mk_5, mk_6, mk_7, mk_8, mk_9, mk_10, mk_11, mk_12, mk_13, mk_14, mk_15, mk_16, mk_17, mk_18, mk_19, mk_20, mk_21, ↓reduceIte]; rfl) | contradiction | rfl)) d_Mo_count_195
  · refine k_tabIn C d_Mo_count_34 (by decide) (by decide) (off := 159) (by decide) (tgt := 193) (by decide) ?_
    refine k_bipush C d_Mo_count_193 (v := (-2)) (by decide) ?_
    exact k_ireturn C (E.to (by first | (simp only [mk_0, mk_1, mk_2, mk_3, mk_4, mk_5, mk_6, mk_7, mk_8, mk_9, mk_10, mk_11, mk_12, mk_13, mk_14, mk_15, mk_16, mk_17, mk_18, mk_19, mk_20, mk_21, ↓reduceIte]; done) | (simp only [mk_0, mk_1, mk_2, mk_3, mk_4, mk_5, mk_6, mk_7, mk_8, mk_9, mk_10, mk_11, mk_12, mk_13, mk_14, mk_15, mk_16, mk_17, mk_18, mk_19, mk_20, mk_21, ↓reduceIte]; rfl) | contradiction | rfl) (by first | (simp only [mk_0, mk_1, mk_2, mk_3, mk_4, mk_5, mk_6, mk_7, mk_8, mk_9, mk_10, mk_11, mk_12, mk_13, mk_14, mk_15, mk_16, mk_17, mk_18, mk_19, mk_20, mk_21, ↓reduceIte]; done) | (simp only [mk_0, mk_1, mk_2, mk_3, mk_4, mk_5, mk_6, mk_7, mk_8, mk_9, mk_10, mk_11, mk_12, mk_13, mk_14, mk_15, mk_16, mk_17, mk_18, mk_19, mk_20, mk_21, ↓reduceIte]; rfl) | contradiction | rfl)) d_Mo_count_195
  · refine k_tabIn C d_Mo_count_34 (by decide) (by decide) (off := 159) (by decide) (tgt := 193) (by decide) ?_
    refine k_bipush C d_Mo_count_193 (v := (-2)) (by decide) ?_
    exact k_ireturn C (E.to (by first | (simp only [mk_0, mk_1, mk_2, mk_3, mk_4, mk_5, mk_6, mk_7, mk_8, mk_9, mk_10, mk_11, mk_12, mk_13, mk_14, mk_15, mk_16, mk_17, mk_18, mk_19, mk_20, mk_21, ↓reduceIte]; done) | (simp only [mk_0, mk_1, mk_2, mk_3, mk_4, mk_5, mk_6, mk_7, mk_8, mk_9, mk_10, mk_11, mk_12, mk_13, mk_14, mk_15, mk_16, mk_17, mk_18, mk_19, mk_20, mk_21, ↓reduceIte]; rfl) | contradiction | rfl) (by first | (simp only [mk_0, mk_1, mk_2, mk_3, mk_4, mk_5, mk_6, mk_7, mk_8, mk_9, mk_10, mk_11, mk_12, mk_13, mk_14, mk_15, mk_16, mk_17, mk_18, mk_19, mk_20, mk_21, ↓reduceIte]; done) | (simp only [mk_0, mk_1, mk_2, mk_3, mk_4, mk_5, mk_6, mk_7, mk_8, mk_9, mk_10, mk_11, mk_12, mk_13, mk_14, mk_15, mk_16, mk_17, mk_18, mk_19, mk_20, mk_21, ↓reduceIte]; rfl) | contradiction | rfl)) d_Mo_count_195
  · refine k_tabIn C d_Mo_count_34 (by decide) (by decide) (off := 159) (by decide) (tgt := 193) (by decide) ?_
    refine k_bipush C d_Mo_count_193 (v := (-2)) (by decide) ?_
    exact k_ireturn C (E.to (by first | (simp only [mk_0, mk_1, mk_2, mk_3, mk_4, mk_5, mk_6, mk_7, mk_8, mk_9, mk_10, mk_11, mk_12, mk_13, mk_14, mk_15, mk_16, mk_17, mk_18, mk_19, mk_20, mk_21, ↓reduceIte]; done) | (simp only [mk_0, mk_1, mk_2, mk_3, mk_4, mk_5, mk_6, mk_7, mk_8, mk_9, mk_10, mk_11, mk_12, mk_13, mk_14, mk_15, mk_16, mk_17, mk_18, mk_19, mk_20, mk_21, ↓reduceIte]; rfl) | contradiction | rfl) (by first | (simp only [mk_0, mk_1, mk_2, mk_3, mk_4, mk_5, mk_6, mk_7, mk_8, mk_9, mk_10, mk_11, mk_12, mk_13, mk_14, mk_15, mk_16, mk_17, mk_18, mk_19, mk_20, mk_21, ↓reduceIte]; done) | (simp only [mk_0, mk_1, mk_2, mk_3, mk_4, mk_5, mk_6, mk_7, mk_8, mk_9, mk_10, mk_11, mk_12, mk_13, mk_14, mk_15, mk_16, mk_17, mk_18, mk_19, mk_20, mk_21, ↓reduceIte]; rfl) | contradiction | rfl)) d_Mo_count_195
  · refine k_tabIn C d_Mo_count_34 (by decide) (by decide) (off := 149) (by decide) (tgt := 183) (by decide) ?_
    refine k_aload_n C d_Mo_count_183 rfl ?_
    refine k_getr C d_Mo_count_184 fg_Mo_68 (by decide) rfl ?_
    refine k_iload_n C d_Mo_count_187 rfl ?_
    refine k_bipush C d_Mo_count_188 (v := 20) (by decide) ?_
    refine k_isub C d_Mo_count_190 ?_
    refine k_iaload C d_Mo_count_191 am_20 (by decide) (k_in (by decide)) (j := 0) (by decide) ?_
    exact k_ireturn C (E.to (by first | (simp only [mk_0, mk_1, mk_2, mk_3, mk_4, mk_5, mk_6, mk_7, mk_8, mk_9, mk_10, mk_11, mk_12, mk_13, mk_14, mk_15, mk_16, mk_17, mk_18, mk_19, mk_20, mk_21, ↓reduceIte]; done) | (simp only [mk_0, mk_1, mk_2, mk_3, mk_4, mk_5, mk_6, mk_7, mk_8, mk_9, mk_10, mk_11, mk_12, mk_13, mk_14, mk_15, mk_16, mk_17, mk_18, mk_19, mk_20, mk_21, ↓reduceIte]; rfl) | contradiction | rfl) (by first | (simp only [mk_0, mk_1, mk_2, mk_3, mk_4, mk_5, mk_6, mk_7, mk_8, mk_9, mk_10, mk_11, mk_12, mk_13, mk_14, mk_15, mk_16, mk_17, mk_18, mk_19, mk_20, mk_21, ↓reduceIte]; done) | (simp only [mk_0, mk_1, mk_2, mk_3, mk_4, mk_5, mk_6, mk_7, mk_8, mk_9, mk_10, mk_11, mk_12, mk_13, mk_14, mk_15, mk_16, mk_17, mk_18, mk_19, mk_20, mk_21, ↓reduceIte]; rfl) | contradiction | rfl)) d_Mo_count_192
  · refine k_tabIn C d_Mo_count_34 (by decide) (by decide) (off := 149) (by decide) (tgt := 183) (by decide) ?_
    refine k_aload_n C d_Mo_count_183 rfl ?_
    refine k_getr C d_Mo_count_184 fg_Mo_68 (by decide) rfl ?_
    refine k_iload_n C d_Mo_count_187 rfl ?_
    refine k_bipush C d_Mo_count_188 (v := 20) (by decide) ?_
    refine k_isub C d_Mo_count_190 ?_
    refine k_iaload C d_Mo_count_191 am_20 (by decide) (k_in (by decide)) (j := 1) (by decide) ?_
    exact k_ireturn C (E.to (by first | (simp only [mk_0, mk_1, mk_2, mk_3, mk_4, mk_5, mk_6, mk_7, mk_8, mk_9, mk_10, mk_11, mk_12, mk_13, mk_14, mk_15, mk_16, mk_17, mk_18, mk_19, mk_20, mk_21, ↓reduceIte]; done) | (simp only [mk_0, mk_1, mk_2, mk_3, mk_4, mk_5, mk_6, mk_7, mk_8, mk_9, mk_10, mk_11, mk_12, mk_13, mk_14, mk_15, mk_16, mk_17, mk_18, mk_19, mk_20, mk_21, ↓reduceIte]; rfl) | contradiction | rfl) (by first | (simp only [mk_0, mk_1, mk_2, mk_3, mk_4, mk_5, mk_6, mk_7, mk_8, mk_9, mk_10, mk_11, mk_12, mk_13, mk_14, mk_15, mk_16, mk_17, mk_18, mk_19, mk_20, mk_21, ↓reduceIte]; done) | (simp only [mk_0, mk_1, mk_2, mk_3, mk_4, mk_5, mk_6, mk_7, mk_8, mk_9, mk_10, mk_11, mk_12, mk_13, mk_14, mk_15, mk_16, mk_17, mk_18, mk_19, mk_20, mk_21, ↓reduceIte]; rfl) | contradiction | rfl)) d_Mo_count_192
set_option maxHeartbeats 4000000 in
set_option maxRecDepth 100000 in
theorem b_mcf {X : kX} {G : kG} {l : Launch} {K : kM} (C : k_C X kT b_Mo_count y_Mo_count.cls mS G 4 l (k_rm 0)) (w : Int32) (I0 : m_Inv K) : ∀ (c i : Nat), c + i = 12 → k_E X (some .int) (some (.int (m_cntX K w))) K 0 0 → k_W X 0 0 9 [(3, .int (nI i)), (2, .int (m_fr K i)), (0, .ref (G.2.2 0 0)), (1, .int w)] [] K
  | 0, i, hc, E => by
    have e : i = 12 := by omega
    subst e
    refine k_iload_n C d_Mo_count_9 rfl ?_
    refine k_bipush C d_Mo_count_10 (v := 12) (by decide) ?_
    refine k_icmp_ge C d_Mo_count_12 (tgt := 33) (by decide) (fun h1 => ?_) (fun h1 => absurd (by decide : (12 : Int32) ≤ nI 12) h1)
    exact k_loc [(2, .int (m_fr K 12)), (0, .ref (G.2.2 0 0)), (1, .int w)] ⟨rfl, rfl, rfl, trivial⟩ (b_mct C w I0 E)
  | c + 1, i, hc, E => by
    have hi : i < 12 := by omega
    refine k_iload_n C d_Mo_count_9 rfl ?_
    refine k_bipush C d_Mo_count_10 (v := 12) (by decide) ?_
    refine k_icmp_ge C d_Mo_count_12 (tgt := 33) (by decide) (fun h1 => absurd h1 (nI_ge hi (by decide))) (fun h1 => ?_)
    refine k_aload_n C d_Mo_count_15 rfl ?_
    refine k_getr C d_Mo_count_16 fg_Mo_61 (by decide) rfl ?_
    refine k_iload_n C d_Mo_count_19 rfl ?_
    refine k_zaload C d_Mo_count_20 am_18 (by decide) (vp_in_nI (by omega) (by decide)) (nI_clamp (by omega)) ?_
    refine k_if_ne C d_Mo_count_21 (tgt := 27) (by decide) (fun h2 => ?_) (fun h2 => ?_)
    · refine k_iinc C d_Mo_count_27 rfl (v := nI (i + 1)) (nI_1 i) (by decide) ?_
      refine k_goto C d_Mo_count_30 (tgt := 9) (by decide) ?_
      exact k_loc [(3, .int (nI (i + 1))), (2, .int (m_fr K (i + 1))), (0, .ref (G.2.2 0 0)), (1, .int w)] ⟨rfl, (by simp only [m_fr, h2, ↓reduceIte]; rfl), rfl, rfl, trivial⟩ (b_mcf C w I0 c (i + 1) (by omega) E)
    · refine k_iinc C d_Mo_count_24 rfl rfl (by decide) ?_
      refine k_iinc C d_Mo_count_27 rfl (v := nI (i + 1)) (nI_1 i) (by decide) ?_
      refine k_goto C d_Mo_count_30 (tgt := 9) (by decide) ?_
      exact k_loc [(3, .int (nI (i + 1))), (2, .int (m_fr K (i + 1))), (0, .ref (G.2.2 0 0)), (1, .int w)] ⟨rfl, (by simp only [m_fr, h2, ↓reduceIte]; rfl), rfl, rfl, trivial⟩ (b_mcf C w I0 c (i + 1) (by omega) E)
set_option maxHeartbeats 4000000 in
set_option maxRecDepth 100000 in
theorem c_Mo_count (l : Launch) (G : kG) (K : kM) (w : Int32)   (I0 : m_Inv K) : k_Met l mS kT y_Mo_count b_Mo_count 4 (some .int) (k_rm 0) G [.ref (G.2.2 0 0), .int w] K (some (.int (m_cntX (m_th K 0) w))) (m_th K 0) := by
  refine k_intro (by decide +kernel) rfl (Nat.le_of_ble_eq_true rfl) ?_
  intro X C E
  refine k_aload_n C d_Mo_count_0 rfl ?_
  refine k_iconst C d_Mo_count_1 (v := 0) (by decide) ?_
  refine k_put C d_Mo_count_2 fp_Mo_90 (by decide) rfl I0 (trivial) (fun I1 => ?_)
  refine k_iconst C d_Mo_count_5 (v := 0) (by decide) ?_
  refine k_istore_n C d_Mo_count_6 (by decide) ?_
  refine k_iconst C d_Mo_count_7 (v := 0) (by decide) ?_
  refine k_istore_n C d_Mo_count_8 (by decide) ?_
  exact k_loc [(3, .int (nI 0)), (2, .int (m_fr (m_th K 0) 0)), (0, .ref (G.2.2 0 0)), (1, .int w)] ⟨rfl, rfl, rfl, rfl, trivial⟩ (b_mcf C w I1 12 0 rfl E)
