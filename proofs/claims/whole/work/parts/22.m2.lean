set_option maxHeartbeats 4000000 in
set_option maxRecDepth 100000 in
theorem b_mdL {X : kX} {G : kG} {l : Launch} {K : kM} (C : k_C X kT b_Mo_die y_Mo_die.cls mS G 4 l (k_rm 3)) (g i : Nat) (hg : g < 6) (hi : i < 4) (ht : m_tot K ≤ 6) (I0 : m_Inv K) (k : m_Inv (m_dL1 K g i) → k_W X 0 0 35 [(3, .int (nI (i + 1))), (0, .ref (G.2.2 0 0)), (1, .int (nI g))] [] (m_dL1 K g i)) : k_W X 0 0 35 [(3, .int (nI i)), (0, .ref (G.2.2 0 0)), (1, .int (nI g))] [] K := by
  refine k_iload_n C d_Mo_die_35 rfl ?_
  refine k_iconst C d_Mo_die_36 (v := 4) (by decide) ?_
  refine k_icmp_ge C d_Mo_die_37 (tgt := 61) (by decide) (fun h1 => absurd h1 (nI_ge hi (by decide))) (fun h1 => ?_)
  refine k_aload_n C d_Mo_die_40 rfl ?_
  refine k_getr C d_Mo_die_41 fg_Mo_77 (by decide) rfl ?_
  refine k_iload_n C d_Mo_die_44 rfl ?_
  refine k_iaload C d_Mo_die_45 am_23 (by decide) (vp_in_nI (by omega) (by decide)) (nI_clamp (by omega)) ?_
  refine k_iload_n C d_Mo_die_46 rfl ?_
  refine k_icmp_ne C d_Mo_die_47 (tgt := 55) (by decide) (fun h2 => ?_) (fun h2 => ?_)
  · refine k_iinc C d_Mo_die_55 rfl (v := nI (i + 1)) (nI_1 i) (by decide) ?_
    refine k_goto C d_Mo_die_58 (tgt := 35) (by decide) ?_
    exact k_loc [(3, .int (nI (i + 1))), (0, .ref (G.2.2 0 0)), (1, .int (nI g))] ⟨rfl, rfl, rfl, trivial⟩ (k_mem (by first | rfl | (simp only [m_dL1, h2, ↓reduceIte]; done) | (simp only [m_dL1, h2, ↓reduceIte]; rfl) | (simp [m_dL1, h2]; done)) (k (j_dL1 I0 ht hi).1))
  · refine k_aload_n C d_Mo_die_50 rfl ?_
    refine k_iload_n C d_Mo_die_51 rfl ?_
    refine k_callVv C kg_all (c_Mo_unlock l G _ _ i rfl I0 hi ht) cs_Mo_113 cv_Mo_unlock om_0 (by decide) rfl rfl (Nat.le_of_ble_eq_true rfl) ⟨rfl, rfl⟩ ⟨by decide, by decide⟩ ⟨Nat.zero_le _, Nat.zero_le _⟩ d_Mo_die_52 (iv_munl I0 ht hi) (fun I3 => ?_)
    refine k_iinc C d_Mo_die_55 rfl (v := nI (i + 1)) (nI_1 i) (by decide) ?_
    refine k_goto C d_Mo_die_58 (tgt := 35) (by decide) ?_
    exact k_loc [(3, .int (nI (i + 1))), (0, .ref (G.2.2 0 0)), (1, .int (nI g))] ⟨rfl, rfl, rfl, trivial⟩ (k_mem (by first | rfl | (simp only [m_dL1, h2, ↓reduceIte]; done) | (simp only [m_dL1, h2, ↓reduceIte]; rfl) | (simp [m_dL1, h2]; done)) (k (j_dL1 I0 ht hi).1))
set_option maxHeartbeats 4000000 in
set_option maxRecDepth 100000 in
theorem b_mdC {X : kX} {G : kG} {l : Launch} {K : kM} (C : k_C X kT b_Mo_die y_Mo_die.cls mS G 4 l (k_rm 3)) (g i : Nat) (hg : g < 6) (hi : i < 6) (I0 : m_Inv K) (k : m_Inv (m_dC1 K g i) → k_W X 0 0 63 [(3, .int (nI (i + 1))), (0, .ref (G.2.2 0 0)), (1, .int (nI g))] [] (m_dC1 K g i)) : k_W X 0 0 63 [(3, .int (nI i)), (0, .ref (G.2.2 0 0)), (1, .int (nI g))] [] K := by
  refine k_iload_n C d_Mo_die_63 rfl ?_
  refine k_bipush C d_Mo_die_64 (v := 6) (by decide) ?_
  refine k_icmp_ge C d_Mo_die_66 (tgt := 121) (by decide) (fun h1 => absurd h1 (nI_ge hi (by decide))) (fun h1 => ?_)
  refine k_aload_n C d_Mo_die_69 rfl ?_
  refine k_getr C d_Mo_die_70 fg_Mo_22 (by decide) rfl ?_
  refine k_iload_n C d_Mo_die_73 rfl ?_
  refine k_iaload C d_Mo_die_74 am_5 (by decide) (vp_in_nI (by omega) (by decide)) (nI_clamp (by omega)) ?_
  refine k_if_lt C d_Mo_die_75 (tgt := 115) (by decide) (fun h2 => ?_) (fun h2 => ?_)
  · refine k_iinc C d_Mo_die_115 rfl (v := nI (i + 1)) (nI_1 i) (by decide) ?_
    refine k_goto C d_Mo_die_118 (tgt := 63) (by decide) ?_
    exact k_loc [(3, .int (nI (i + 1))), (0, .ref (G.2.2 0 0)), (1, .int (nI g))] ⟨rfl, rfl, rfl, trivial⟩ (k_mem (by first | rfl | (simp only [m_dC1, h2, ↓reduceIte]; done) | (simp only [m_dC1, h2, ↓reduceIte]; rfl) | (simp [m_dC1, h2]; done)) (k (iv_mdC1 I0)))
  · refine k_aload_n C d_Mo_die_78 rfl ?_
    refine k_getr C d_Mo_die_79 fg_Mo_40 (by decide) rfl ?_
    refine k_iload_n C d_Mo_die_82 rfl ?_
    refine k_iaload C d_Mo_die_83 am_11 (by decide) (vp_in_nI (by omega) (by decide)) (nI_clamp (by omega)) ?_
    refine k_iload_n C d_Mo_die_84 rfl ?_
    refine k_icmp_ne C d_Mo_die_85 (tgt := 115) (by decide) (fun h3 => ?_) (fun h3 => ?_)
    · refine k_iinc C d_Mo_die_115 rfl (v := nI (i + 1)) (nI_1 i) (by decide) ?_
      refine k_goto C d_Mo_die_118 (tgt := 63) (by decide) ?_
      exact k_loc [(3, .int (nI (i + 1))), (0, .ref (G.2.2 0 0)), (1, .int (nI g))] ⟨rfl, rfl, rfl, trivial⟩ (k_mem (by first | rfl | (simp only [m_dC1, h2, h3, ↓reduceIte]; done) | (simp only [m_dC1, h2, h3, ↓reduceIte]; rfl) | (simp [m_dC1, h2, h3]; done)) (k (iv_mdC1 I0)))
    · refine k_aload_n C d_Mo_die_88 rfl ?_
      refine k_getr C d_Mo_die_89 fg_Mo_40 (by decide) rfl ?_
      refine k_iload_n C d_Mo_die_92 rfl ?_
      refine k_aload_n C d_Mo_die_93 rfl ?_
      refine k_getr C d_Mo_die_94 fg_Mo_40 (by decide) rfl ?_
      refine k_iload_n C d_Mo_die_97 rfl ?_
      refine k_iaload C d_Mo_die_98 am_11 (by decide) (vp_in_nI (by omega) (by decide)) (nI_clamp (by omega)) ?_
      refine k_iastore C d_Mo_die_99 am_11 (by decide) (vp_in_nI (by omega) (by decide)) (nI_clamp (by omega)) I0 (trivial) (fun I4 => ?_)
      refine k_aload_n C d_Mo_die_100 rfl ?_
      refine k_getr C d_Mo_die_101 fg_Mo_31 (by decide) rfl ?_
      refine k_iload_n C d_Mo_die_104 rfl ?_
      refine k_dup2 C d_Mo_die_105 rfl rfl ?_
      refine k_iaload C d_Mo_die_106 am_8 (by decide) (vp_in_nI (by omega) (by decide)) (nI_clamp (by omega)) ?_
      refine k_aload_n C d_Mo_die_107 rfl ?_
      refine k_getr C d_Mo_die_108 fg_Mo_31 (by decide) rfl ?_
      refine k_iload_n C d_Mo_die_111 rfl ?_
      refine k_iaload C d_Mo_die_112 am_8 (by decide) (vp_in_nI (by omega) (by decide)) (nI_clamp (by omega)) ?_
      refine k_isub C d_Mo_die_113 ?_
      refine k_iastore C d_Mo_die_114 am_8 (by decide) (vp_in_nI (by omega) (by decide)) (nI_clamp (by omega)) I4 (trivial) (fun I5 => ?_)
      refine k_iinc C d_Mo_die_115 rfl (v := nI (i + 1)) (nI_1 i) (by decide) ?_
      refine k_goto C d_Mo_die_118 (tgt := 63) (by decide) ?_
      exact k_loc [(3, .int (nI (i + 1))), (0, .ref (G.2.2 0 0)), (1, .int (nI g))] ⟨rfl, rfl, rfl, trivial⟩ (k_mem (by first | rfl | (simp only [m_dC1, h2, h3, ↓reduceIte]; done) | (simp only [m_dC1, h2, h3, ↓reduceIte]; rfl) | (simp [m_dC1, h2, h3]; done)) (k (iv_mdC1 I0)))
set_option maxHeartbeats 4000000 in
set_option maxRecDepth 100000 in
theorem c_Mo_die (l : Launch) (G : kG) (K : kM) (x0 : Int32) (w : Int32) (g : Nat) (e0 : x0 = nI g) (I0 : m_Inv K) (hg : g < 6) (ht : m_tot K ≤ 6) : k_Met l mS kT y_Mo_die b_Mo_die 4 none (k_rm 3) G [.ref (G.2.2 0 0), .int x0, .int w] K none (m_die K g w) := by
  subst e0
  refine k_intro (by decide +kernel) rfl (Nat.le_of_ble_eq_true rfl) ?_
  intro X C E
  refine k_aload_n C d_Mo_die_0 rfl ?_
  refine k_getr C d_Mo_die_1 fg_Mo_22 (by decide) rfl ?_
  refine k_iload_n C d_Mo_die_4 rfl ?_
  refine k_iconst C d_Mo_die_5 (v := 3) (by decide) ?_
  refine k_iastore C d_Mo_die_6 am_5 (by decide) (vp_in_nI (by omega) (by decide)) (nI_clamp (by omega)) I0 (trivial) (fun I1 => ?_)
  refine k_aload_n C d_Mo_die_7 rfl ?_
  refine k_getr C d_Mo_die_8 fg_Mo_43 (by decide) rfl ?_
  refine k_iload_n C d_Mo_die_11 rfl ?_
  refine k_iload_n C d_Mo_die_12 rfl ?_
  refine k_iastore C d_Mo_die_13 am_12 (by decide) (vp_in_nI (by omega) (by decide)) (nI_clamp (by omega)) I1 (trivial) (fun I2 => ?_)
  refine k_iconst C d_Mo_die_14 (v := 0) (by decide) ?_
  refine k_istore_n C d_Mo_die_15 (by decide) ?_
  refine k_iload_n C d_Mo_die_16 rfl ?_
  refine k_iconst C d_Mo_die_17 (v := 4) (by decide) ?_
  refine k_icmp_ge C d_Mo_die_18 (tgt := 33) (by decide) (fun h => absurd h (by decide)) (fun _ => ?_)
  refine k_aload_n C d_Mo_die_21 rfl ?_
  refine k_iload_n C d_Mo_die_22 rfl ?_
  refine k_iload_n C d_Mo_die_23 rfl ?_
  refine k_callVv C kg_all (c_Mo_unmap l G _ _ _ g 0 rfl rfl I2 hg (by decide)) cs_Mo_110 cv_Mo_unmap om_0 (by decide) rfl rfl (Nat.le_of_ble_eq_true rfl) ⟨rfl, rfl⟩ ⟨by decide, by decide⟩ ⟨Nat.zero_le _, Nat.zero_le _⟩ d_Mo_die_24 (iv_munmap I2) (fun I3 => ?_)
  refine k_iinc C d_Mo_die_27 rfl (v := 1) (by decide) (by decide) ?_
  refine k_goto C d_Mo_die_30 (tgt := 16) (by decide) ?_
  refine k_iload_n C d_Mo_die_16 rfl ?_
  refine k_iconst C d_Mo_die_17 (v := 4) (by decide) ?_
  refine k_icmp_ge C d_Mo_die_18 (tgt := 33) (by decide) (fun h => absurd h (by decide)) (fun _ => ?_)
  refine k_aload_n C d_Mo_die_21 rfl ?_
  refine k_iload_n C d_Mo_die_22 rfl ?_
  refine k_iload_n C d_Mo_die_23 rfl ?_
  refine k_callVv C kg_all (c_Mo_unmap l G _ _ _ g 1 rfl rfl I3 hg (by decide)) cs_Mo_110 cv_Mo_unmap om_0 (by decide) rfl rfl (Nat.le_of_ble_eq_true rfl) ⟨rfl, rfl⟩ ⟨by decide, by decide⟩ ⟨Nat.zero_le _, Nat.zero_le _⟩ d_Mo_die_24 (iv_munmap I3) (fun I4 => ?_)
  refine k_iinc C d_Mo_die_27 rfl (v := 2) (by decide) (by decide) ?_
  refine k_goto C d_Mo_die_30 (tgt := 16) (by decide) ?_
  refine k_iload_n C d_Mo_die_16 rfl ?_
  refine k_iconst C d_Mo_die_17 (v := 4) (by decide) ?_
  refine k_icmp_ge C d_Mo_die_18 (tgt := 33) (by decide) (fun h => absurd h (by decide)) (fun _ => ?_)
  refine k_aload_n C d_Mo_die_21 rfl ?_
  refine k_iload_n C d_Mo_die_22 rfl ?_
  refine k_iload_n C d_Mo_die_23 rfl ?_
  refine k_callVv C kg_all (c_Mo_unmap l G _ _ _ g 2 rfl rfl I4 hg (by decide)) cs_Mo_110 cv_Mo_unmap om_0 (by decide) rfl rfl (Nat.le_of_ble_eq_true rfl) ⟨rfl, rfl⟩ ⟨by decide, by decide⟩ ⟨Nat.zero_le _, Nat.zero_le _⟩ d_Mo_die_24 (iv_munmap I4) (fun I5 => ?_)
  refine k_iinc C d_Mo_die_27 rfl (v := 3) (by decide) (by decide) ?_
  refine k_goto C d_Mo_die_30 (tgt := 16) (by decide) ?_
  refine k_iload_n C d_Mo_die_16 rfl ?_
  refine k_iconst C d_Mo_die_17 (v := 4) (by decide) ?_
  refine k_icmp_ge C d_Mo_die_18 (tgt := 33) (by decide) (fun h => absurd h (by decide)) (fun _ => ?_)
  refine k_aload_n C d_Mo_die_21 rfl ?_
  refine k_iload_n C d_Mo_die_22 rfl ?_
  refine k_iload_n C d_Mo_die_23 rfl ?_
  refine k_callVv C kg_all (c_Mo_unmap l G _ _ _ g 3 rfl rfl I5 hg (by decide)) cs_Mo_110 cv_Mo_unmap om_0 (by decide) rfl rfl (Nat.le_of_ble_eq_true rfl) ⟨rfl, rfl⟩ ⟨by decide, by decide⟩ ⟨Nat.zero_le _, Nat.zero_le _⟩ d_Mo_die_24 (iv_munmap I5) (fun I6 => ?_)
  refine k_iinc C d_Mo_die_27 rfl (v := 4) (by decide) (by decide) ?_
  refine k_goto C d_Mo_die_30 (tgt := 16) (by decide) ?_
  refine k_iload_n C d_Mo_die_16 rfl ?_
  refine k_iconst C d_Mo_die_17 (v := 4) (by decide) ?_
  refine k_icmp_ge C d_Mo_die_18 (tgt := 33) (by decide) (fun _ => ?_) (fun h => absurd h (by decide))
  refine k_iconst C d_Mo_die_33 (v := 0) (by decide) ?_
  refine k_istore_n C d_Mo_die_34 (by decide) ?_
  refine k_loc [(3, .int (nI 0)), (0, .ref (G.2.2 0 0)), (1, .int (nI g))] ⟨rfl, rfl, rfl, trivial⟩ ?_
  have J0 : m_Inv (m_dU (k_up (k_up K 5 0 g 3) 12 0 g w) g 4) := I6
  have t0 : m_tot (m_dU (k_up (k_up K 5 0 g 3) 12 0 g w) g 4) ≤ 6 := by rw [mt_dU, mt_ne (by decide), mt_ne (by decide)]; exact ht
  have t1 := Nat.le_trans (j_dL1 (g := g) J0 t0 (show 0 < 4 by decide)).2 t0
  refine b_mdL C g 0 hg (by decide) t0 J0 (fun J1 => ?_)
  have t2 := Nat.le_trans (j_dL1 (g := g) J1 t1 (show 1 < 4 by decide)).2 t1
  refine b_mdL C g 1 hg (by decide) t1 J1 (fun J2 => ?_)
  have t3 := Nat.le_trans (j_dL1 (g := g) J2 t2 (show 2 < 4 by decide)).2 t2
  refine b_mdL C g 2 hg (by decide) t2 J2 (fun J3 => ?_)
  have t4 := Nat.le_trans (j_dL1 (g := g) J3 t3 (show 3 < 4 by decide)).2 t3
  refine b_mdL C g 3 hg (by decide) t3 J3 (fun J4 => ?_)
  refine k_iload_n C d_Mo_die_35 rfl ?_
  refine k_iconst C d_Mo_die_36 (v := 4) (by decide) ?_
  refine k_icmp_ge C d_Mo_die_37 (tgt := 61) (by decide) (fun h21 => ?_) (fun h21 => absurd (by decide : (4 : Int32) ≤ nI 4) h21)
  refine k_iconst C d_Mo_die_61 (v := 0) (by decide) ?_
  refine k_istore_n C d_Mo_die_62 (by decide) ?_
  refine k_loc [(3, .int (nI 0)), (0, .ref (G.2.2 0 0)), (1, .int (nI g))] ⟨rfl, rfl, rfl, trivial⟩ ?_
  refine b_mdC C g 0 hg (by decide) J4 (fun J5 => ?_)
  refine b_mdC C g 1 hg (by decide) J5 (fun J6 => ?_)
  refine b_mdC C g 2 hg (by decide) J6 (fun J7 => ?_)
  refine b_mdC C g 3 hg (by decide) J7 (fun J8 => ?_)
  refine b_mdC C g 4 hg (by decide) J8 (fun J9 => ?_)
  refine b_mdC C g 5 hg (by decide) J9 (fun J10 => ?_)
  refine k_iload_n C d_Mo_die_63 rfl ?_
  refine k_bipush C d_Mo_die_64 (v := 6) (by decide) ?_
  refine k_icmp_ge C d_Mo_die_66 (tgt := 121) (by decide) (fun h41 => ?_) (fun h41 => absurd (by decide : (6 : Int32) ≤ nI 6) h41)
  refine k_aload_n C d_Mo_die_121 rfl ?_
  refine k_getr C d_Mo_die_122 fg_Mo_37 (by decide) rfl ?_
  refine k_iload_n C d_Mo_die_125 rfl ?_
  refine k_iconst C d_Mo_die_126 (v := 0) (by decide) ?_
  refine k_iastore C d_Mo_die_127 am_10 (by decide) (vp_in_nI (by omega) (by decide)) (nI_clamp (by omega)) J10 (trivial) (fun I42 => ?_)
  exact k_return C (E.to rfl (by first | rfl | (simp only [m_die, m_dL, m_dU, m_dC, ↓reduceIte, Nat.reduceAdd]; done) | (simp only [m_die, m_dL, m_dU, m_dC, ↓reduceIte, Nat.reduceAdd]; rfl) | contradiction | (simp [m_die, m_dL, m_dU, m_dC, ↓reduceIte, Nat.reduceAdd]; done) | (simp [m_die, m_dL, m_dU, m_dC, ↓reduceIte, Nat.reduceAdd]; rfl))) d_Mo_die_128
set_option maxHeartbeats 4000000 in
set_option maxRecDepth 100000 in
theorem c_Mo_trap (l : Launch) (G : kG) (K : kM) (x0 : Int32) (kd : Int32) (g : Nat) (e0 : x0 = nI g) (I0 : m_Inv K) (hg : g < 6) (ht : m_tot K ≤ 6) : k_Met l mS kT y_Mo_trap b_Mo_trap 3 none (k_rm 4) G [.ref (G.2.2 0 0), .int x0, .int kd] K none (m_trap K g kd) := by
  subst e0
  refine k_intro (by decide +kernel) rfl (Nat.le_of_ble_eq_true rfl) ?_
  intro X C E
  refine k_aload_n C d_Mo_trap_0 rfl ?_
  refine k_getr C d_Mo_trap_1 fg_Mo_46 (by decide) rfl ?_
  refine k_iload_n C d_Mo_trap_4 rfl ?_
  refine k_dup2 C d_Mo_trap_5 rfl rfl ?_
  refine k_iaload C d_Mo_trap_6 am_13 (by decide) (vp_in_nI (by omega) (by decide)) (nI_clamp (by omega)) ?_
  refine k_iconst C d_Mo_trap_7 (v := 1) (by decide) ?_
  refine k_iadd C d_Mo_trap_8 ?_
  refine k_iastore C d_Mo_trap_9 am_13 (by decide) (vp_in_nI (by omega) (by decide)) (nI_clamp (by omega)) I0 (trivial) (fun I1 => ?_)
  refine k_aload_n C d_Mo_trap_10 rfl ?_
  refine k_dup C d_Mo_trap_11 rfl ?_
  refine k_get C d_Mo_trap_12 fg_Mo_116 (by decide) rfl ?_
  refine k_iconst C d_Mo_trap_15 (v := 1) (by decide) ?_
  refine k_iadd C d_Mo_trap_16 ?_
  refine k_put C d_Mo_trap_17 fp_Mo_116 (by decide) rfl I1 (trivial) (fun I2 => ?_)
  refine k_aload_n C d_Mo_trap_20 rfl ?_
  refine k_getr C d_Mo_trap_21 fg_Mo_28 (by decide) rfl ?_
  refine k_iload_n C d_Mo_trap_24 rfl ?_
  refine k_iaload C d_Mo_trap_25 am_7 (by decide) (vp_in_nI (by omega) (by decide)) (nI_clamp (by omega)) ?_
  refine k_if_ge C d_Mo_trap_26 (tgt := 41) (by decide) (fun h3 => ?_) (fun h3 => ?_)
  · refine k_aload_n C d_Mo_trap_41 rfl ?_
    refine k_getr C d_Mo_trap_42 fg_Mo_52 (by decide) rfl ?_
    refine k_iload_n C d_Mo_trap_45 rfl ?_
    refine k_iconst C d_Mo_trap_46 (v := 4) (by decide) ?_
    refine k_imul C d_Mo_trap_47 ?_
    refine k_iconst C d_Mo_trap_48 (v := 3) (by decide) ?_
    refine k_iadd C d_Mo_trap_49 ?_
    refine k_iload_n C d_Mo_trap_50 rfl ?_
    refine k_iastore C d_Mo_trap_51 am_15 (by decide) (mx (g) 4 (3) 24 (by omega) (by decide)).1 (mx (g) 4 (3) 24 (by omega) (by decide)).2 I2 (trivial) (fun I4 => ?_)
    refine k_aload_n C d_Mo_trap_52 rfl ?_
    refine k_getr C d_Mo_trap_53 fg_Mo_25 (by decide) rfl ?_
    refine k_iload_n C d_Mo_trap_56 rfl ?_
    refine k_aload_n C d_Mo_trap_57 rfl ?_
    refine k_getr C d_Mo_trap_58 fg_Mo_28 (by decide) rfl ?_
    refine k_iload_n C d_Mo_trap_61 rfl ?_
    refine k_iaload C d_Mo_trap_62 am_7 (by decide) (vp_in_nI (by omega) (by decide)) (nI_clamp (by omega)) ?_
    refine k_iastore C d_Mo_trap_63 am_6 (by decide) (vp_in_nI (by omega) (by decide)) (nI_clamp (by omega)) I4 (m_neg32 (I4 7 0 g) h3) (fun I5 => ?_)
    refine k_aload_n C d_Mo_trap_64 rfl ?_
    refine k_getr C d_Mo_trap_65 fg_Mo_28 (by decide) rfl ?_
    refine k_iload_n C d_Mo_trap_68 rfl ?_
    refine k_iconst C d_Mo_trap_69 (v := (-1)) (by decide) ?_
    refine k_iastore C d_Mo_trap_70 am_7 (by decide) (vp_in_nI (by omega) (by decide)) (nI_clamp (by omega)) I5 (Or.inl rfl) (fun I6 => ?_)
    exact k_return C (E.to rfl (by first | (simp only [m_trap, m_tr2, h3, ↓reduceIte]; done) | (simp only [m_trap, m_tr2, h3, ↓reduceIte]; rfl) | contradiction | rfl)) d_Mo_trap_71
  · refine k_aload_n C d_Mo_trap_29 rfl ?_
    refine k_iload_n C d_Mo_trap_30 rfl ?_
    refine k_bipush C d_Mo_trap_31 (v := (-100)) (by decide) ?_
    refine k_iload_n C d_Mo_trap_33 rfl ?_
    refine k_isub C d_Mo_trap_34 ?_
    refine k_callVv C kg_all (c_Mo_die l G _ _ _ g rfl I2 hg (by (repeat rw [mt_ne (by decide)]); first | assumption | omega)) cs_Mo_119 cv_Mo_die om_0 (by decide) rfl rfl (Nat.le_of_ble_eq_true rfl) ⟨rfl, rfl⟩ ⟨by decide, by decide⟩ ⟨Nat.zero_le _, Nat.zero_le _⟩ d_Mo_trap_35 (j_die I2 (by (repeat rw [mt_ne (by decide)]); first | assumption | omega)).1 (fun I7 => ?_)
    refine k_goto C d_Mo_trap_38 (tgt := 71) (by decide) ?_
    exact k_return C (E.to rfl (by first | (simp only [m_trap, m_tr2, h3, ↓reduceIte]; done) | (simp only [m_trap, m_tr2, h3, ↓reduceIte]; rfl) | contradiction | rfl)) d_Mo_trap_71
set_option maxHeartbeats 4000000 in
set_option maxRecDepth 100000 in
theorem c_Mo_where (l : Launch) (G : kG) (K : kM) (x0 : Int32) (ad : Int32) (g : Nat) (e0 : x0 = nI g) (I0 : m_Inv K) (hg : g < 6) : k_Met l mS kT y_Mo_where b_Mo_where 4 (some .int) (k_rm 1) G [.ref (G.2.2 0 0), .int x0, .int ad] K (some (.int (m_wh K g ad))) (K) := by
  subst e0
  refine k_intro (by decide +kernel) rfl (Nat.le_of_ble_eq_true rfl) ?_
  intro X C E
  refine k_aload_n C d_Mo_where_0 rfl ?_
  refine k_iload_n C d_Mo_where_1 rfl ?_
  refine k_bipush C d_Mo_where_2 (v := 31) (by decide) ?_
  refine k_callVi C kg_all (c_Mo_no l G _ _ _ I0) cs_Mo_102 cv_Mo_no om_0 (by decide) rfl rfl (Nat.le_of_ble_eq_true rfl) ⟨rfl, rfl⟩ ⟨by decide, by decide⟩ ⟨Nat.zero_le _, Nat.zero_le _⟩ d_Mo_where_4 I0 (fun I1 => ?_)
  refine k_if_eq C d_Mo_where_7 (tgt := 13) (by decide) (fun h2 => ?_) (fun h2 => ?_)
  · refine k_aload_n C d_Mo_where_13 rfl ?_
    refine k_getr C d_Mo_where_14 fg_Mo_55 (by decide) rfl ?_
    refine k_iload_n C d_Mo_where_17 rfl ?_
    refine k_iconst C d_Mo_where_18 (v := 4) (by decide) ?_
    refine k_imul C d_Mo_where_19 ?_
    have hd := r_div8 (r_no (n := 31) (by decide) h2)
    have hq := k_lt hd
    refine k_iload_n C d_Mo_where_20 rfl ?_
    refine k_bipush C d_Mo_where_21 (v := 8) (by decide) ?_
    refine k_idiv C d_Mo_where_23 (by first | decide | assumption) ?_
    refine k_top (r_id hd (by decide)) ?_
    refine k_iadd C d_Mo_where_24 ?_
    refine k_iaload C d_Mo_where_25 am_16 (by decide) (mx (g) 4 ((ad / 8).toNatClampNeg) 24 (by omega) (by decide)).1 (mx (g) 4 ((ad / 8).toNatClampNeg) 24 (by omega) (by decide)).2 ?_
    refine k_istore_n C d_Mo_where_26 (by decide) ?_
    refine k_iload_n C d_Mo_where_27 rfl ?_
    refine k_if_ge C d_Mo_where_28 (tgt := 36) (by decide) (fun h3 => ?_) (fun h3 => ?_)
    · refine k_iload_n C d_Mo_where_36 rfl ?_
      refine k_bipush C d_Mo_where_37 (v := 8) (by decide) ?_
      refine k_imul C d_Mo_where_39 ?_
      refine k_iload_n C d_Mo_where_40 rfl ?_
      refine k_bipush C d_Mo_where_41 (v := 8) (by decide) ?_
      refine k_irem C d_Mo_where_43 (by first | decide | assumption) ?_
      refine k_iadd C d_Mo_where_44 ?_
      exact k_ireturn C (E.to (by first | (simp only [m_wh, h2, h3, ↓reduceIte]; done) | (simp only [m_wh, h2, h3, ↓reduceIte]; rfl) | contradiction | rfl) (by first | (simp only [m_wh, h2, h3, ↓reduceIte]; done) | (simp only [m_wh, h2, h3, ↓reduceIte]; rfl) | contradiction | rfl)) d_Mo_where_45
    · refine k_bipush C d_Mo_where_31 (v := (-3)) (by decide) ?_
      refine k_goto C d_Mo_where_33 (tgt := 45) (by decide) ?_
      exact k_ireturn C (E.to (by first | (simp only [m_wh, h2, h3, ↓reduceIte]; done) | (simp only [m_wh, h2, h3, ↓reduceIte]; rfl) | contradiction | rfl) (by first | (simp only [m_wh, h2, h3, ↓reduceIte]; done) | (simp only [m_wh, h2, h3, ↓reduceIte]; rfl) | contradiction | rfl)) d_Mo_where_45
  · refine k_bipush C d_Mo_where_10 (v := (-2)) (by decide) ?_
    exact k_ireturn C (E.to (by first | (simp only [m_wh, h2, ↓reduceIte]; done) | (simp only [m_wh, h2, ↓reduceIte]; rfl) | contradiction | rfl) (by first | (simp only [m_wh, h2, ↓reduceIte]; done) | (simp only [m_wh, h2, ↓reduceIte]; rfl) | contradiction | rfl)) d_Mo_where_12
set_option maxHeartbeats 4000000 in
set_option maxRecDepth 100000 in
theorem b_mmf {X : kX} {G : kG} {l : Launch} {K : kM} (C : k_C X kT b_Mo_map y_Mo_map.cls mS G 5 l (k_rm 0)) (g p : Nat) (I0 : m_Inv K) : ∀ (c i : Nat), c + i = 12 → k_W X 0 0 23 [(3, .int (nI (m_mf K c i))), (0, .ref (G.2.2 0 0)), (1, .int (nI g)), (2, .int (nI p))] [] K → k_W X 0 0 2 [(3, .int (nI i)), (0, .ref (G.2.2 0 0)), (1, .int (nI g)), (2, .int (nI p))] [] K
  | 0, i, hc, k => by
    have e : i = 12 := by omega
    subst e
    refine k_iload_n C d_Mo_map_2 rfl ?_
    refine k_bipush C d_Mo_map_3 (v := 12) (by decide) ?_
    refine k_icmp_ge C d_Mo_map_5 (tgt := 23) (by decide) (fun h1 => ?_) (fun h1 => absurd (by decide : (12 : Int32) ≤ nI 12) h1)
    exact k
  | c + 1, i, hc, k => by
    have hi : i < 12 := by omega
    refine k_iload_n C d_Mo_map_2 rfl ?_
    refine k_bipush C d_Mo_map_3 (v := 12) (by decide) ?_
    refine k_icmp_ge C d_Mo_map_5 (tgt := 23) (by decide) (fun h1 => absurd h1 (nI_ge hi (by decide))) (fun h1 => ?_)
    refine k_aload_n C d_Mo_map_8 rfl ?_
    refine k_getr C d_Mo_map_9 fg_Mo_61 (by decide) rfl ?_
    refine k_iload_n C d_Mo_map_12 rfl ?_
    refine k_zaload C d_Mo_map_13 am_18 (by decide) (vp_in_nI (by omega) (by decide)) (nI_clamp (by omega)) ?_
    refine k_if_eq C d_Mo_map_14 (tgt := 23) (by decide) (fun h2 => ?_) (fun h2 => ?_)
    · rw [show m_mf K (c + 1) i = i by simp only [m_mf, h2, ↓reduceIte]] at k; exact k
    · refine k_iinc C d_Mo_map_17 rfl (v := nI (i + 1)) (nI_1 i) (by decide) ?_
      refine k_goto C d_Mo_map_20 (tgt := 2) (by decide) ?_
      rw [show m_mf K (c + 1) i = m_mf K c (i + 1) by simp only [m_mf, h2, ↓reduceIte]] at k; exact k_loc [(3, .int (nI (i + 1))), (0, .ref (G.2.2 0 0)), (1, .int (nI g)), (2, .int (nI p))] ⟨rfl, rfl, rfl, rfl, trivial⟩ (b_mmf C g p I0 c (i + 1) (by omega) k)
set_option maxHeartbeats 4000000 in
set_option maxRecDepth 100000 in
theorem b_mpt {X : kX} {G : kG} {l : Launch} {K : kM} (C : k_C X kT b_Mo_map y_Mo_map.cls mS G 5 l (k_rm 0)) (g p f : Nat) (hg : g < 6) (hp : p < 4) (hf : f ≤ 12) (I0 : m_Inv K) (E : k_E X (some .int) (some (.int (m_mpX K g p f))) (m_mpT K g p f) 0 0) : k_W X 0 0 23 [(3, .int (nI f)), (0, .ref (G.2.2 0 0)), (1, .int (nI g)), (2, .int (nI p))] [] K := by
  refine k_aload_n C d_Mo_map_23 rfl ?_
  refine k_getr C d_Mo_map_24 fg_Mo_55 (by decide) rfl ?_
  refine k_iload_n C d_Mo_map_27 rfl ?_
  refine k_iconst C d_Mo_map_28 (v := 4) (by decide) ?_
  refine k_imul C d_Mo_map_29 ?_
  refine k_iload_n C d_Mo_map_30 rfl ?_
  refine k_iadd C d_Mo_map_31 ?_
  refine k_iaload C d_Mo_map_32 am_16 (by decide) (mx (g) 4 (p) 24 (by omega) (by decide)).1 (mx (g) 4 (p) 24 (by omega) (by decide)).2 ?_
  refine k_if_ge C d_Mo_map_33 (tgt := 64) (by decide) (fun h1 => ?_) (fun h1 => ?_)
  · refine k_iconst C d_Mo_map_64 (v := 0) (by decide) ?_
    exact k_ireturn C (E.to (by first | (simp only [m_mpX, m_mpT, m_map1, m_clr, h1, ↓reduceIte]; done) | (simp only [m_mpX, m_mpT, m_map1, m_clr, h1, ↓reduceIte]; rfl) | contradiction | rfl) (by first | (simp only [m_mpX, m_mpT, m_map1, m_clr, h1, ↓reduceIte]; done) | (simp only [m_mpX, m_mpT, m_map1, m_clr, h1, ↓reduceIte]; rfl) | contradiction | rfl)) d_Mo_map_65
  · refine k_aload_n C d_Mo_map_36 rfl ?_
    refine k_getr C d_Mo_map_37 fg_Mo_34 (by decide) rfl ?_
    refine k_iload_n C d_Mo_map_40 rfl ?_
    refine k_iaload C d_Mo_map_41 am_9 (by decide) (vp_in_nI (by omega) (by decide)) (nI_clamp (by omega)) ?_
    refine k_aload_n C d_Mo_map_42 rfl ?_
    refine k_getr C d_Mo_map_43 fg_Mo_37 (by decide) rfl ?_
    refine k_iload_n C d_Mo_map_46 rfl ?_
    refine k_iaload C d_Mo_map_47 am_10 (by decide) (vp_in_nI (by omega) (by decide)) (nI_clamp (by omega)) ?_
    refine k_iadd C d_Mo_map_48 ?_
    refine k_aload_n C d_Mo_map_49 rfl ?_
    refine k_getr C d_Mo_map_50 fg_Mo_31 (by decide) rfl ?_
    refine k_iload_n C d_Mo_map_53 rfl ?_
    refine k_iaload C d_Mo_map_54 am_8 (by decide) (vp_in_nI (by omega) (by decide)) (nI_clamp (by omega)) ?_
    refine k_icmp_ge C d_Mo_map_55 (tgt := 64) (by decide) (fun h2 => ?_) (fun h2 => ?_)
    · refine k_iconst C d_Mo_map_64 (v := 0) (by decide) ?_
      exact k_ireturn C (E.to (by first | (simp only [m_mpX, m_mpT, m_map1, m_clr, h1, h2, ↓reduceIte]; done) | (simp only [m_mpX, m_mpT, m_map1, m_clr, h1, h2, ↓reduceIte]; rfl) | contradiction | rfl) (by first | (simp only [m_mpX, m_mpT, m_map1, m_clr, h1, h2, ↓reduceIte]; done) | (simp only [m_mpX, m_mpT, m_map1, m_clr, h1, h2, ↓reduceIte]; rfl) | contradiction | rfl)) d_Mo_map_65
    · refine k_iload_n C d_Mo_map_58 rfl ?_
      refine k_bipush C d_Mo_map_59 (v := 12) (by decide) ?_
      refine k_icmp_ne C d_Mo_map_61 (tgt := 66) (by decide) (fun h3 => ?_) (fun h3 => ?_)
      · have hf2 : f < 12 := m_fin (n := 12) (by decide) hf ‹_›
        refine k_aload_n C d_Mo_map_66 rfl ?_
        refine k_getr C d_Mo_map_67 fg_Mo_61 (by decide) rfl ?_
        refine k_iload_n C d_Mo_map_70 rfl ?_
        refine k_iconst C d_Mo_map_71 (v := 1) (by decide) ?_
        refine k_zastore C d_Mo_map_72 am_18 (by decide) (vp_in_nI (by omega) (by decide)) (nI_clamp (by omega)) (by first | rfl | decide) I0 (trivial) (fun I4 => ?_)
        refine k_iconst C d_Mo_map_73 (v := 0) (by decide) ?_
        refine k_istore C d_Mo_map_74 (by decide) ?_
        refine k_iload C d_Mo_map_76 rfl ?_
        refine k_bipush C d_Mo_map_78 (v := 8) (by decide) ?_
        refine k_icmp_ge C d_Mo_map_80 (tgt := 102) (by decide) (fun h => absurd h (by decide)) (fun _ => ?_)
        refine k_aload_n C d_Mo_map_83 rfl ?_
        refine k_getr C d_Mo_map_84 fg_Mo_58 (by decide) rfl ?_
        refine k_iload_n C d_Mo_map_87 rfl ?_
        refine k_bipush C d_Mo_map_88 (v := 8) (by decide) ?_
        refine k_imul C d_Mo_map_90 ?_
        refine k_iload C d_Mo_map_91 rfl ?_
        refine k_iadd C d_Mo_map_93 ?_
        refine k_iconst C d_Mo_map_94 (v := 0) (by decide) ?_
        refine k_iastore C d_Mo_map_95 am_17 (by decide) (mx (f) 8 (0) 96 (by omega) (by decide)).1 (mx (f) 8 (0) 96 (by omega) (by decide)).2 I4 (trivial) (fun I5 => ?_)
        refine k_iinc C d_Mo_map_96 rfl (v := 1) (by decide) (by decide) ?_
        refine k_goto C d_Mo_map_99 (tgt := 76) (by decide) ?_
        refine k_iload C d_Mo_map_76 rfl ?_
        refine k_bipush C d_Mo_map_78 (v := 8) (by decide) ?_
        refine k_icmp_ge C d_Mo_map_80 (tgt := 102) (by decide) (fun h => absurd h (by decide)) (fun _ => ?_)
        refine k_aload_n C d_Mo_map_83 rfl ?_
        refine k_getr C d_Mo_map_84 fg_Mo_58 (by decide) rfl ?_
        refine k_iload_n C d_Mo_map_87 rfl ?_
        refine k_bipush C d_Mo_map_88 (v := 8) (by decide) ?_
        refine k_imul C d_Mo_map_90 ?_
        refine k_iload C d_Mo_map_91 rfl ?_
        refine k_iadd C d_Mo_map_93 ?_
        refine k_iconst C d_Mo_map_94 (v := 0) (by decide) ?_
        refine k_iastore C d_Mo_map_95 am_17 (by decide) (mx (f) 8 (1) 96 (by omega) (by decide)).1 (mx (f) 8 (1) 96 (by omega) (by decide)).2 I5 (trivial) (fun I6 => ?_)
        refine k_iinc C d_Mo_map_96 rfl (v := 2) (by decide) (by decide) ?_
        refine k_goto C d_Mo_map_99 (tgt := 76) (by decide) ?_
        refine k_iload C d_Mo_map_76 rfl ?_
        refine k_bipush C d_Mo_map_78 (v := 8) (by decide) ?_
        refine k_icmp_ge C d_Mo_map_80 (tgt := 102) (by decide) (fun h => absurd h (by decide)) (fun _ => ?_)
        refine k_aload_n C d_Mo_map_83 rfl ?_
        refine k_getr C d_Mo_map_84 fg_Mo_58 (by decide) rfl ?_
        refine k_iload_n C d_Mo_map_87 rfl ?_
        refine k_bipush C d_Mo_map_88 (v := 8) (by decide) ?_
        refine k_imul C d_Mo_map_90 ?_
        refine k_iload C d_Mo_map_91 rfl ?_
        refine k_iadd C d_Mo_map_93 ?_
        refine k_iconst C d_Mo_map_94 (v := 0) (by decide) ?_
        refine k_iastore C d_Mo_map_95 am_17 (by decide) (mx (f) 8 (2) 96 (by omega) (by decide)).1 (mx (f) 8 (2) 96 (by omega) (by decide)).2 I6 (trivial) (fun I7 => ?_)
        refine k_iinc C d_Mo_map_96 rfl (v := 3) (by decide) (by decide) ?_
        refine k_goto C d_Mo_map_99 (tgt := 76) (by decide) ?_
        refine k_iload C d_Mo_map_76 rfl ?_
        refine k_bipush C d_Mo_map_78 (v := 8) (by decide) ?_
        refine k_icmp_ge C d_Mo_map_80 (tgt := 102) (by decide) (fun h => absurd h (by decide)) (fun _ => ?_)
        refine k_aload_n C d_Mo_map_83 rfl ?_
        refine k_getr C d_Mo_map_84 fg_Mo_58 (by decide) rfl ?_
        refine k_iload_n C d_Mo_map_87 rfl ?_
        refine k_bipush C d_Mo_map_88 (v := 8) (by decide) ?_
        refine k_imul C d_Mo_map_90 ?_
        refine k_iload C d_Mo_map_91 rfl ?_
        refine k_iadd C d_Mo_map_93 ?_
        refine k_iconst C d_Mo_map_94 (v := 0) (by decide) ?_
        refine k_iastore C d_Mo_map_95 am_17 (by decide) (mx (f) 8 (3) 96 (by omega) (by decide)).1 (mx (f) 8 (3) 96 (by omega) (by decide)).2 I7 (trivial) (fun I8 => ?_)
        refine k_iinc C d_Mo_map_96 rfl (v := 4) (by decide) (by decide) ?_
        refine k_goto C d_Mo_map_99 (tgt := 76) (by decide) ?_
        refine k_iload C d_Mo_map_76 rfl ?_
        refine k_bipush C d_Mo_map_78 (v := 8) (by decide) ?_
        refine k_icmp_ge C d_Mo_map_80 (tgt := 102) (by decide) (fun h => absurd h (by decide)) (fun _ => ?_)
        refine k_aload_n C d_Mo_map_83 rfl ?_
        refine k_getr C d_Mo_map_84 fg_Mo_58 (by decide) rfl ?_
        refine k_iload_n C d_Mo_map_87 rfl ?_
        refine k_bipush C d_Mo_map_88 (v := 8) (by decide) ?_
        refine k_imul C d_Mo_map_90 ?_
        refine k_iload C d_Mo_map_91 rfl ?_
        refine k_iadd C d_Mo_map_93 ?_
        refine k_iconst C d_Mo_map_94 (v := 0) (by decide) ?_
        refine k_iastore C d_Mo_map_95 am_17 (by decide) (mx (f) 8 (4) 96 (by omega) (by decide)).1 (mx (f) 8 (4) 96 (by omega) (by decide)).2 I8 (trivial) (fun I9 => ?_)
        refine k_iinc C d_Mo_map_96 rfl (v := 5) (by decide) (by decide) ?_
        refine k_goto C d_Mo_map_99 (tgt := 76) (by decide) ?_
        refine k_iload C d_Mo_map_76 rfl ?_
        refine k_bipush C d_Mo_map_78 (v := 8) (by decide) ?_
        refine k_icmp_ge C d_Mo_map_80 (tgt := 102) (by decide) (fun h => absurd h (by decide)) (fun _ => ?_)
        refine k_aload_n C d_Mo_map_83 rfl ?_
        refine k_getr C d_Mo_map_84 fg_Mo_58 (by decide) rfl ?_
        refine k_iload_n C d_Mo_map_87 rfl ?_
        refine k_bipush C d_Mo_map_88 (v := 8) (by decide) ?_
        refine k_imul C d_Mo_map_90 ?_
        refine k_iload C d_Mo_map_91 rfl ?_
        refine k_iadd C d_Mo_map_93 ?_
        refine k_iconst C d_Mo_map_94 (v := 0) (by decide) ?_
        refine k_iastore C d_Mo_map_95 am_17 (by decide) (mx (f) 8 (5) 96 (by omega) (by decide)).1 (mx (f) 8 (5) 96 (by omega) (by decide)).2 I9 (trivial) (fun I10 => ?_)
        refine k_iinc C d_Mo_map_96 rfl (v := 6) (by decide) (by decide) ?_
        refine k_goto C d_Mo_map_99 (tgt := 76) (by decide) ?_
        refine k_iload C d_Mo_map_76 rfl ?_
        refine k_bipush C d_Mo_map_78 (v := 8) (by decide) ?_
        refine k_icmp_ge C d_Mo_map_80 (tgt := 102) (by decide) (fun h => absurd h (by decide)) (fun _ => ?_)
        refine k_aload_n C d_Mo_map_83 rfl ?_
        refine k_getr C d_Mo_map_84 fg_Mo_58 (by decide) rfl ?_
        refine k_iload_n C d_Mo_map_87 rfl ?_
        refine k_bipush C d_Mo_map_88 (v := 8) (by decide) ?_
        refine k_imul C d_Mo_map_90 ?_
        refine k_iload C d_Mo_map_91 rfl ?_
        refine k_iadd C d_Mo_map_93 ?_
        refine k_iconst C d_Mo_map_94 (v := 0) (by decide) ?_
        refine k_iastore C d_Mo_map_95 am_17 (by decide) (mx (f) 8 (6) 96 (by omega) (by decide)).1 (mx (f) 8 (6) 96 (by omega) (by decide)).2 I10 (trivial) (fun I11 => ?_)
        refine k_iinc C d_Mo_map_96 rfl (v := 7) (by decide) (by decide) ?_
        refine k_goto C d_Mo_map_99 (tgt := 76) (by decide) ?_
        refine k_iload C d_Mo_map_76 rfl ?_
        refine k_bipush C d_Mo_map_78 (v := 8) (by decide) ?_
        refine k_icmp_ge C d_Mo_map_80 (tgt := 102) (by decide) (fun h => absurd h (by decide)) (fun _ => ?_)
        refine k_aload_n C d_Mo_map_83 rfl ?_
        refine k_getr C d_Mo_map_84 fg_Mo_58 (by decide) rfl ?_
        refine k_iload_n C d_Mo_map_87 rfl ?_
        refine k_bipush C d_Mo_map_88 (v := 8) (by decide) ?_
        refine k_imul C d_Mo_map_90 ?_
        refine k_iload C d_Mo_map_91 rfl ?_
        refine k_iadd C d_Mo_map_93 ?_
        refine k_iconst C d_Mo_map_94 (v := 0) (by decide) ?_
        refine k_iastore C d_Mo_map_95 am_17 (by decide) (mx (f) 8 (7) 96 (by omega) (by decide)).1 (mx (f) 8 (7) 96 (by omega) (by decide)).2 I11 (trivial) (fun I12 => ?_)
        refine k_iinc C d_Mo_map_96 rfl (v := 8) (by decide) (by decide) ?_
        refine k_goto C d_Mo_map_99 (tgt := 76) (by decide) ?_
        refine k_iload C d_Mo_map_76 rfl ?_
        refine k_bipush C d_Mo_map_78 (v := 8) (by decide) ?_
        refine k_icmp_ge C d_Mo_map_80 (tgt := 102) (by decide) (fun _ => ?_) (fun h => absurd h (by decide))
        refine k_aload_n C d_Mo_map_102 rfl ?_
        refine k_getr C d_Mo_map_103 fg_Mo_55 (by decide) rfl ?_
        refine k_iload_n C d_Mo_map_106 rfl ?_
        refine k_iconst C d_Mo_map_107 (v := 4) (by decide) ?_
        refine k_imul C d_Mo_map_108 ?_
        refine k_iload_n C d_Mo_map_109 rfl ?_
        refine k_iadd C d_Mo_map_110 ?_
        refine k_iload_n C d_Mo_map_111 rfl ?_
        refine k_iastore C d_Mo_map_112 am_16 (by decide) (mx (g) 4 (p) 24 (by omega) (by decide)).1 (mx (g) 4 (p) 24 (by omega) (by decide)).2 I12 (Or.inr (vp_in_nI hf2 (by decide))) (fun I13 => ?_)
        refine k_aload_n C d_Mo_map_113 rfl ?_
        refine k_getr C d_Mo_map_114 fg_Mo_34 (by decide) rfl ?_
        refine k_iload_n C d_Mo_map_117 rfl ?_
        refine k_dup2 C d_Mo_map_118 rfl rfl ?_
        refine k_iaload C d_Mo_map_119 am_9 (by decide) (vp_in_nI (by omega) (by decide)) (nI_clamp (by omega)) ?_
        refine k_iconst C d_Mo_map_120 (v := 1) (by decide) ?_
        refine k_iadd C d_Mo_map_121 ?_
        refine k_iastore C d_Mo_map_122 am_9 (by decide) (vp_in_nI (by omega) (by decide)) (nI_clamp (by omega)) I13 (trivial) (fun I14 => ?_)
        refine k_iconst C d_Mo_map_123 (v := 1) (by decide) ?_
        exact k_ireturn C (E.to (by first | (simp only [m_mpX, m_mpT, m_map1, m_clr, h1, h2, h3, ↓reduceIte]; done) | (simp only [m_mpX, m_mpT, m_map1, m_clr, h1, h2, h3, ↓reduceIte]; rfl) | contradiction | rfl) (by first | (simp only [m_mpX, m_mpT, m_map1, m_clr, h1, h2, h3, ↓reduceIte]; done) | (simp only [m_mpX, m_mpT, m_map1, m_clr, h1, h2, h3, ↓reduceIte]; rfl) | contradiction | rfl)) d_Mo_map_124
      · refine k_iconst C d_Mo_map_64 (v := 0) (by decide) ?_
        exact k_ireturn C (E.to (by first | (simp only [m_mpX, m_mpT, m_map1, m_clr, h1, h2, h3, ↓reduceIte]; done) | (simp only [m_mpX, m_mpT, m_map1, m_clr, h1, h2, h3, ↓reduceIte]; rfl) | contradiction | rfl) (by first | (simp only [m_mpX, m_mpT, m_map1, m_clr, h1, h2, h3, ↓reduceIte]; done) | (simp only [m_mpX, m_mpT, m_map1, m_clr, h1, h2, h3, ↓reduceIte]; rfl) | contradiction | rfl)) d_Mo_map_65
set_option maxHeartbeats 4000000 in
set_option maxRecDepth 100000 in
theorem c_Mo_map (l : Launch) (G : kG) (K : kM) (x0 : Int32) (x1 : Int32) (g p : Nat) (e0 : x0 = nI g) (e1 : x1 = nI p) (I0 : m_Inv K) (hg : g < 6) (hp : p < 4) : k_Met l mS kT y_Mo_map b_Mo_map 5 (some .int) (k_rm 0) G [.ref (G.2.2 0 0), .int x0, .int x1] K (some (.int (m_mapX K g p))) (m_mapT K g p) := by
  subst e0
  subst e1
  refine k_intro (by decide +kernel) rfl (Nat.le_of_ble_eq_true rfl) ?_
  intro X C E
  refine k_iconst C d_Mo_map_0 (v := 0) (by decide) ?_
  refine k_istore_n C d_Mo_map_1 (by decide) ?_
  exact k_loc [(3, .int (nI 0)), (0, .ref (G.2.2 0 0)), (1, .int (nI g)), (2, .int (nI p))] ⟨rfl, rfl, rfl, rfl, trivial⟩ (b_mmf C g p I0 12 0 rfl (b_mpt C g p _ hg hp (m_mfle 12 0) I0 E))
set_option maxHeartbeats 4000000 in
set_option maxRecDepth 100000 in
theorem b_msf {X : kX} {G : kG} {l : Launch} {K : kM} (C : k_C X kT b_Mo_spawn y_Mo_spawn.cls mS G 6 l (k_rm 3)) (g : Nat) (a q v : Int32) (I0 : m_Inv K) : ∀ (c i : Nat), c + i = 6 → k_W X 0 0 26 [(5, .int (nI (m_sf K c i))), (0, .ref (G.2.2 0 0)), (1, .int (nI g)), (2, .int a), (3, .int q), (4, .int v)] [] K → k_W X 0 0 3 [(5, .int (nI i)), (0, .ref (G.2.2 0 0)), (1, .int (nI g)), (2, .int a), (3, .int q), (4, .int v)] [] K
  | 0, i, hc, k => by
    have e : i = 6 := by omega
    subst e
    refine k_iload C d_Mo_spawn_3 rfl ?_
    refine k_bipush C d_Mo_spawn_5 (v := 6) (by decide) ?_
    refine k_icmp_ge C d_Mo_spawn_7 (tgt := 26) (by decide) (fun h1 => ?_) (fun h1 => absurd (by decide : (6 : Int32) ≤ nI 6) h1)
    exact k
  | c + 1, i, hc, k => by
    have hi : i < 6 := by omega
    refine k_iload C d_Mo_spawn_3 rfl ?_
    refine k_bipush C d_Mo_spawn_5 (v := 6) (by decide) ?_
    refine k_icmp_ge C d_Mo_spawn_7 (tgt := 26) (by decide) (fun h1 => absurd h1 (nI_ge hi (by decide))) (fun h1 => ?_)
    refine k_aload_n C d_Mo_spawn_10 rfl ?_
    refine k_getr C d_Mo_spawn_11 fg_Mo_22 (by decide) rfl ?_
    refine k_iload C d_Mo_spawn_14 rfl ?_
    refine k_iaload C d_Mo_spawn_16 am_5 (by decide) (vp_in_nI (by omega) (by decide)) (nI_clamp (by omega)) ?_
    refine k_if_lt C d_Mo_spawn_17 (tgt := 26) (by decide) (fun h2 => ?_) (fun h2 => ?_)
    · rw [show m_sf K (c + 1) i = i by simp only [m_sf, h2, ↓reduceIte]] at k; exact k
    · refine k_iinc C d_Mo_spawn_20 rfl (v := nI (i + 1)) (nI_1 i) (by decide) ?_
      refine k_goto C d_Mo_spawn_23 (tgt := 3) (by decide) ?_
      rw [show m_sf K (c + 1) i = m_sf K c (i + 1) by simp only [m_sf, h2, ↓reduceIte]] at k; exact k_loc [(5, .int (nI (i + 1))), (0, .ref (G.2.2 0 0)), (1, .int (nI g)), (2, .int a), (3, .int q), (4, .int v)] ⟨rfl, rfl, rfl, rfl, rfl, rfl, trivial⟩ (b_msf C g a q v I0 c (i + 1) (by omega) k)
set_option maxHeartbeats 4000000 in
set_option maxRecDepth 100000 in
theorem b_msq {X : kX} {G : kG} {l : Launch} {K : kM} (C : k_C X kT b_Mo_spawn y_Mo_spawn.cls mS G 6 l (k_rm 3)) (g : Nat) (a q v : Int32) (c : Nat) (hg : g < 6) (hc : c ≤ 6) (ht : m_tot K ≤ 5) (ha : vp_in a 32) (I0 : m_Inv K) (E : k_E X (some .int) (some (.int (m_sqX K g q c))) (m_sqT K g a q v c) 0 0) : k_W X 0 0 26 [(5, .int (nI c)), (0, .ref (G.2.2 0 0)), (1, .int (nI g)), (2, .int a), (3, .int q), (4, .int v)] [] K := by
  refine k_iload_n C d_Mo_spawn_26 rfl ?_
  refine k_if_lt C d_Mo_spawn_27 (tgt := 61) (by decide) (fun h1 => ?_) (fun h1 => ?_)
  · refine k_iconst C d_Mo_spawn_61 (v := (-1)) (by decide) ?_
    exact k_ireturn C (E.to (by first | (simp only [m_sqX, m_sqT, m_sp1, h1, ↓reduceIte]; done) | (simp only [m_sqX, m_sqT, m_sp1, h1, ↓reduceIte]; rfl) | contradiction | rfl) (by first | (simp only [m_sqX, m_sqT, m_sp1, h1, ↓reduceIte]; done) | (simp only [m_sqX, m_sqT, m_sp1, h1, ↓reduceIte]; rfl) | contradiction | rfl)) d_Mo_spawn_62
  · refine k_iload_n C d_Mo_spawn_30 rfl ?_
    refine k_aload_n C d_Mo_spawn_31 rfl ?_
    refine k_getr C d_Mo_spawn_32 fg_Mo_31 (by decide) rfl ?_
    refine k_iload_n C d_Mo_spawn_35 rfl ?_
    refine k_iaload C d_Mo_spawn_36 am_8 (by decide) (vp_in_nI (by omega) (by decide)) (nI_clamp (by omega)) ?_
    refine k_aload_n C d_Mo_spawn_37 rfl ?_
    refine k_getr C d_Mo_spawn_38 fg_Mo_34 (by decide) rfl ?_
    refine k_iload_n C d_Mo_spawn_41 rfl ?_
    refine k_iaload C d_Mo_spawn_42 am_9 (by decide) (vp_in_nI (by omega) (by decide)) (nI_clamp (by omega)) ?_
    refine k_isub C d_Mo_spawn_43 ?_
    refine k_aload_n C d_Mo_spawn_44 rfl ?_
    refine k_getr C d_Mo_spawn_45 fg_Mo_37 (by decide) rfl ?_
    refine k_iload_n C d_Mo_spawn_48 rfl ?_
    refine k_iaload C d_Mo_spawn_49 am_10 (by decide) (vp_in_nI (by omega) (by decide)) (nI_clamp (by omega)) ?_
    refine k_isub C d_Mo_spawn_50 ?_
    refine k_icmp_gt C d_Mo_spawn_51 (tgt := 61) (by decide) (fun h2 => ?_) (fun h2 => ?_)
    · refine k_iconst C d_Mo_spawn_61 (v := (-1)) (by decide) ?_
      exact k_ireturn C (E.to (by first | (simp only [m_sqX, m_sqT, m_sp1, h1, h2, ↓reduceIte]; done) | (simp only [m_sqX, m_sqT, m_sp1, h1, h2, ↓reduceIte]; rfl) | contradiction | rfl) (by first | (simp only [m_sqX, m_sqT, m_sp1, h1, h2, ↓reduceIte]; done) | (simp only [m_sqX, m_sqT, m_sp1, h1, h2, ↓reduceIte]; rfl) | contradiction | rfl)) d_Mo_spawn_62
    · refine k_iload C d_Mo_spawn_54 rfl ?_
      refine k_bipush C d_Mo_spawn_56 (v := 6) (by decide) ?_
      refine k_icmp_ne C d_Mo_spawn_58 (tgt := 63) (by decide) (fun h3 => ?_) (fun h3 => ?_)
      · have hc2 : c < 6 := m_fin (n := 6) (by decide) hc ‹_›
        refine k_aload_n C d_Mo_spawn_63 rfl ?_
        refine k_getr C d_Mo_spawn_64 fg_Mo_37 (by decide) rfl ?_
        refine k_iload_n C d_Mo_spawn_67 rfl ?_
        refine k_dup2 C d_Mo_spawn_68 rfl rfl ?_
        refine k_iaload C d_Mo_spawn_69 am_10 (by decide) (vp_in_nI (by omega) (by decide)) (nI_clamp (by omega)) ?_
        refine k_iload_n C d_Mo_spawn_70 rfl ?_
        refine k_iadd C d_Mo_spawn_71 ?_
        refine k_iastore C d_Mo_spawn_72 am_10 (by decide) (vp_in_nI (by omega) (by decide)) (nI_clamp (by omega)) I0 (trivial) (fun I4 => ?_)
        refine k_aload_n C d_Mo_spawn_73 rfl ?_
        refine k_iload C d_Mo_spawn_74 rfl ?_
        refine k_iload_n C d_Mo_spawn_76 rfl ?_
        refine k_iload_n C d_Mo_spawn_77 rfl ?_
        refine k_iload_n C d_Mo_spawn_78 rfl ?_
        refine k_callVv C kg_all (c_Mo_begin l G _ _ _ _ _ c rfl I4 hc2 (by (repeat rw [mt_ne (by decide)]); first | assumption | omega) ha) cs_Mo_86 cv_Mo_begin om_0 (by decide) rfl rfl (Nat.le_of_ble_eq_true rfl) ⟨rfl, rfl⟩ ⟨by decide, by decide⟩ ⟨Nat.zero_le _, Nat.zero_le _⟩ d_Mo_spawn_79 (iv_mbegin I4 (by (repeat rw [mt_ne (by decide)]); first | assumption | omega) hc2 ha) (fun I5 => ?_)
        refine k_aload_n C d_Mo_spawn_82 rfl ?_
        refine k_getr C d_Mo_spawn_83 fg_Mo_52 (by decide) rfl ?_
        refine k_iload C d_Mo_spawn_86 rfl ?_
        refine k_iconst C d_Mo_spawn_88 (v := 4) (by decide) ?_
        refine k_imul C d_Mo_spawn_89 ?_
        refine k_iload C d_Mo_spawn_90 rfl ?_
        refine k_iastore C d_Mo_spawn_92 am_15 (by decide) (mxp (c) 4 24 (by omega) (by decide)).1 (mxp (c) 4 24 (by omega) (by decide)).2 I5 (trivial) (fun I6 => ?_)
        refine k_aload_n C d_Mo_spawn_93 rfl ?_
        refine k_dup C d_Mo_spawn_94 rfl ?_
        refine k_get C d_Mo_spawn_95 fg_Mo_122 (by decide) rfl ?_
        refine k_iconst C d_Mo_spawn_98 (v := 1) (by decide) ?_
        refine k_iadd C d_Mo_spawn_99 ?_
        refine k_put C d_Mo_spawn_100 fp_Mo_122 (by decide) rfl I6 (trivial) (fun I7 => ?_)
        refine k_iload C d_Mo_spawn_103 rfl ?_
        exact k_ireturn C (E.to (by first | (simp only [m_sqX, m_sqT, m_sp1, h1, h2, h3, ↓reduceIte]; done) | (simp only [m_sqX, m_sqT, m_sp1, h1, h2, h3, ↓reduceIte]; rfl) | contradiction | rfl) (by first | (simp only [m_sqX, m_sqT, m_sp1, h1, h2, h3, ↓reduceIte]; done) | (simp only [m_sqX, m_sqT, m_sp1, h1, h2, h3, ↓reduceIte]; rfl) | contradiction | rfl)) d_Mo_spawn_105
      · refine k_iconst C d_Mo_spawn_61 (v := (-1)) (by decide) ?_
        exact k_ireturn C (E.to (by first | (simp only [m_sqX, m_sqT, m_sp1, h1, h2, h3, ↓reduceIte]; done) | (simp only [m_sqX, m_sqT, m_sp1, h1, h2, h3, ↓reduceIte]; rfl) | contradiction | rfl) (by first | (simp only [m_sqX, m_sqT, m_sp1, h1, h2, h3, ↓reduceIte]; done) | (simp only [m_sqX, m_sqT, m_sp1, h1, h2, h3, ↓reduceIte]; rfl) | contradiction | rfl)) d_Mo_spawn_62
set_option maxHeartbeats 4000000 in
set_option maxRecDepth 100000 in
theorem c_Mo_spawn (l : Launch) (G : kG) (K : kM) (x0 : Int32) (a : Int32) (q : Int32) (v : Int32) (g : Nat) (e0 : x0 = nI g) (I0 : m_Inv K) (hg : g < 6) (ht : m_tot K ≤ 5) (ha : vp_in a 32) : k_Met l mS kT y_Mo_spawn b_Mo_spawn 6 (some .int) (k_rm 3) G [.ref (G.2.2 0 0), .int x0, .int a, .int q, .int v] K (some (.int (m_spX K g q))) (m_spT K g a q v) := by
  subst e0
  refine k_intro (by decide +kernel) rfl (Nat.le_of_ble_eq_true rfl) ?_
  intro X C E
  refine k_iconst C d_Mo_spawn_0 (v := 0) (by decide) ?_
  refine k_istore C d_Mo_spawn_1 (by decide) ?_
  exact k_loc [(5, .int (nI 0)), (0, .ref (G.2.2 0 0)), (1, .int (nI g)), (2, .int a), (3, .int q), (4, .int v)] ⟨rfl, rfl, rfl, rfl, rfl, rfl, trivial⟩ (b_msf C g a q v I0 6 0 rfl (b_msq C g a q v _ hg (m_sfle 6 0) ht ha I0 E))
set_option maxHeartbeats 4000000 in
set_option maxRecDepth 100000 in
theorem b_mrp {X : kX} {G : kG} {l : Launch} {K : kM} (C : k_C X kT b_Mo_reap y_Mo_reap.cls mS G 3 l (k_rm 0)) (g : Nat) (hg : g < 6) : ∀ (c i : Nat), c + i = 6 → m_Inv K → k_E X (some .int) (some (.int (m_rpX K g c i))) (m_rpT K g c i) 0 0 → k_W X 0 0 2 [(2, .int (nI i)), (0, .ref (G.2.2 0 0)), (1, .int (nI g))] [] K
  | 0, i, hc, I0, E => by
    have e : i = 6 := by omega
    subst e
    refine k_iload_n C d_Mo_reap_2 rfl ?_
    refine k_bipush C d_Mo_reap_3 (v := 6) (by decide) ?_
    refine k_icmp_ge C d_Mo_reap_5 (tgt := 68) (by decide) (fun h1 => ?_) (fun h1 => absurd (by decide : (6 : Int32) ≤ nI 6) h1)
    refine k_iconst C d_Mo_reap_68 (v := (-1)) (by decide) ?_
    exact k_ireturn C (E.to (by first | (simp only [m_rpX, m_rpT, ↓reduceIte]; done) | (simp only [m_rpX, m_rpT, ↓reduceIte]; rfl) | contradiction | rfl) (by first | (simp only [m_rpX, m_rpT, ↓reduceIte]; done) | (simp only [m_rpX, m_rpT, ↓reduceIte]; rfl) | contradiction | rfl)) d_Mo_reap_69
  | c + 1, i, hc, I0, E => by
    have hi : i < 6 := by omega
    refine k_iload_n C d_Mo_reap_2 rfl ?_
    refine k_bipush C d_Mo_reap_3 (v := 6) (by decide) ?_
    refine k_icmp_ge C d_Mo_reap_5 (tgt := 68) (by decide) (fun h1 => absurd h1 (nI_ge hi (by decide))) (fun h1 => ?_)
    refine k_aload_n C d_Mo_reap_8 rfl ?_
    refine k_getr C d_Mo_reap_9 fg_Mo_22 (by decide) rfl ?_
    refine k_iload_n C d_Mo_reap_12 rfl ?_
    refine k_iaload C d_Mo_reap_13 am_5 (by decide) (vp_in_nI (by omega) (by decide)) (nI_clamp (by omega)) ?_
    refine k_iconst C d_Mo_reap_14 (v := 3) (by decide) ?_
    refine k_icmp_ne C d_Mo_reap_15 (tgt := 62) (by decide) (fun h2 => ?_) (fun h2 => ?_)
    · refine k_iinc C d_Mo_reap_62 rfl (v := nI (i + 1)) (nI_1 i) (by decide) ?_
      refine k_goto C d_Mo_reap_65 (tgt := 2) (by decide) ?_
      exact k_loc [(2, .int (nI (i + 1))), (0, .ref (G.2.2 0 0)), (1, .int (nI g))] ⟨rfl, rfl, rfl, trivial⟩ (b_mrp C g hg c (i + 1) (by omega) I0 (E.to (by simp only [m_rpX, h2, ↓reduceIte]) (by simp only [m_rpT, h2, ↓reduceIte])))
    · refine k_aload_n C d_Mo_reap_18 rfl ?_
      refine k_getr C d_Mo_reap_19 fg_Mo_40 (by decide) rfl ?_
      refine k_iload_n C d_Mo_reap_22 rfl ?_
      refine k_iaload C d_Mo_reap_23 am_11 (by decide) (vp_in_nI (by omega) (by decide)) (nI_clamp (by omega)) ?_
      refine k_iload_n C d_Mo_reap_24 rfl ?_
      refine k_icmp_ne C d_Mo_reap_25 (tgt := 62) (by decide) (fun h3 => ?_) (fun h3 => ?_)
      · refine k_iinc C d_Mo_reap_62 rfl (v := nI (i + 1)) (nI_1 i) (by decide) ?_
        refine k_goto C d_Mo_reap_65 (tgt := 2) (by decide) ?_
        exact k_loc [(2, .int (nI (i + 1))), (0, .ref (G.2.2 0 0)), (1, .int (nI g))] ⟨rfl, rfl, rfl, trivial⟩ (b_mrp C g hg c (i + 1) (by omega) I0 (E.to (by simp only [m_rpX, h2, h3, ↓reduceIte]) (by simp only [m_rpT, h2, h3, ↓reduceIte])))
      · refine k_aload_n C d_Mo_reap_28 rfl ?_
        refine k_getr C d_Mo_reap_29 fg_Mo_22 (by decide) rfl ?_
        refine k_iload_n C d_Mo_reap_32 rfl ?_
        refine k_iconst C d_Mo_reap_33 (v := (-1)) (by decide) ?_
        refine k_iastore C d_Mo_reap_34 am_5 (by decide) (vp_in_nI (by omega) (by decide)) (nI_clamp (by omega)) I0 (trivial) (fun I4 => ?_)
        refine k_aload_n C d_Mo_reap_35 rfl ?_
        refine k_getr C d_Mo_reap_36 fg_Mo_37 (by decide) rfl ?_
        refine k_iload_n C d_Mo_reap_39 rfl ?_
        refine k_dup2 C d_Mo_reap_40 rfl rfl ?_
        refine k_iaload C d_Mo_reap_41 am_10 (by decide) (vp_in_nI (by omega) (by decide)) (nI_clamp (by omega)) ?_
        refine k_aload_n C d_Mo_reap_42 rfl ?_
        refine k_getr C d_Mo_reap_43 fg_Mo_31 (by decide) rfl ?_
        refine k_iload_n C d_Mo_reap_46 rfl ?_
        refine k_iaload C d_Mo_reap_47 am_8 (by decide) (vp_in_nI (by omega) (by decide)) (nI_clamp (by omega)) ?_
        refine k_isub C d_Mo_reap_48 ?_
        refine k_iastore C d_Mo_reap_49 am_10 (by decide) (vp_in_nI (by omega) (by decide)) (nI_clamp (by omega)) I4 (trivial) (fun I5 => ?_)
        refine k_aload_n C d_Mo_reap_50 rfl ?_
        refine k_dup C d_Mo_reap_51 rfl ?_
        refine k_get C d_Mo_reap_52 fg_Mo_125 (by decide) rfl ?_
        refine k_iconst C d_Mo_reap_55 (v := 1) (by decide) ?_
        refine k_iadd C d_Mo_reap_56 ?_
        refine k_put C d_Mo_reap_57 fp_Mo_125 (by decide) rfl I5 (trivial) (fun I6 => ?_)
        refine k_iload_n C d_Mo_reap_60 rfl ?_
        exact k_ireturn C (E.to (by first | (simp only [m_rpX, m_rpT, m_rp1, h2, h3, ↓reduceIte]; done) | (simp only [m_rpX, m_rpT, m_rp1, h2, h3, ↓reduceIte]; rfl) | contradiction | rfl) (by first | (simp only [m_rpX, m_rpT, m_rp1, h2, h3, ↓reduceIte]; done) | (simp only [m_rpX, m_rpT, m_rp1, h2, h3, ↓reduceIte]; rfl) | contradiction | rfl)) d_Mo_reap_61
set_option maxHeartbeats 4000000 in
set_option maxRecDepth 100000 in
theorem c_Mo_reap (l : Launch) (G : kG) (K : kM) (x0 : Int32) (g : Nat) (e0 : x0 = nI g) (I0 : m_Inv K) (hg : g < 6) : k_Met l mS kT y_Mo_reap b_Mo_reap 3 (some .int) (k_rm 0) G [.ref (G.2.2 0 0), .int x0] K (some (.int (m_rpX K g 6 0))) (m_rpT K g 6 0) := by
  subst e0
  refine k_intro (by decide +kernel) rfl (Nat.le_of_ble_eq_true rfl) ?_
  intro X C E
  refine k_iconst C d_Mo_reap_0 (v := 0) (by decide) ?_
  refine k_istore_n C d_Mo_reap_1 (by decide) ?_
  exact k_loc [(2, .int (nI 0)), (0, .ref (G.2.2 0 0)), (1, .int (nI g))] ⟨rfl, rfl, rfl, trivial⟩ (b_mrp C g hg 6 0 rfl I0 E)
set_option maxHeartbeats 4000000 in
set_option maxRecDepth 100000 in
theorem c_Mo_send (l : Launch) (G : kG) (K : kM) (x0 : Int32) (x1 : Int32) (v : Int32) (g k : Nat) (e0 : x0 = nI g) (e1 : x1 = nI k) (I0 : m_Inv K) (hg : g < 6) (hk : k < 4) (ht : m_tot K ≤ 5) (hcar : ¬ K 20 0 (6 + k) ≤ 0 → vp_in (m_tkT K (6 + k) 14 0 (m_tkX K (6 + k)).toNatClampNeg) 4) : k_Met l mS kT y_Mo_send b_Mo_send 5 none (k_rm 2) G [.ref (G.2.2 0 0), .int x0, .int x1, .int v] K none (m_snd K g k v) := by
  subst e0
  subst e1
  refine k_intro (by decide +kernel) rfl (Nat.le_of_ble_eq_true rfl) ?_
  intro X C E
  refine k_aload_n C d_Mo_send_0 rfl ?_
  refine k_getr C d_Mo_send_1 fg_Mo_74 (by decide) rfl ?_
  refine k_iload_n C d_Mo_send_4 rfl ?_
  refine k_iaload C d_Mo_send_5 am_22 (by decide) (vp_in_nI (by omega) (by decide)) (nI_clamp (by omega)) ?_
  refine k_if_ne C d_Mo_send_6 (tgt := 58) (by decide) (fun h1 => ?_) (fun h1 => ?_)
  · refine k_aload_n C d_Mo_send_58 rfl ?_
    refine k_getr C d_Mo_send_59 fg_Mo_74 (by decide) rfl ?_
    refine k_iload_n C d_Mo_send_62 rfl ?_
    refine k_iaload C d_Mo_send_63 am_22 (by decide) (vp_in_nI (by omega) (by decide)) (nI_clamp (by omega)) ?_
    refine k_iconst C d_Mo_send_64 (v := 2) (by decide) ?_
    refine k_icmp_ge C d_Mo_send_65 (tgt := 97) (by decide) (fun h2 => ?_) (fun h2 => ?_)
    · refine k_aload_n C d_Mo_send_97 rfl ?_
      refine k_getr C d_Mo_send_98 fg_Mo_49 (by decide) rfl ?_
      refine k_iload_n C d_Mo_send_101 rfl ?_
      refine k_iload_n C d_Mo_send_102 rfl ?_
      refine k_iastore C d_Mo_send_103 am_14 (by decide) (vp_in_nI (by omega) (by decide)) (nI_clamp (by omega)) I0 (trivial) (fun I3 => ?_)
      refine k_aload_n C d_Mo_send_104 rfl ?_
      refine k_iload_n C d_Mo_send_105 rfl ?_
      refine k_iconst C d_Mo_send_106 (v := 2) (by decide) ?_
      refine k_iload_n C d_Mo_send_107 rfl ?_
      refine k_iadd C d_Mo_send_108 ?_
      refine k_callVv C kg_all (c_Mo_block l G _ _ _ g (2 + k) rfl (nI_add 2 k) I3 hg (by omega) (by (repeat rw [mt_ne (by decide)]); first | assumption | omega)) cs_Mo_128 cv_Mo_block om_0 (by decide) rfl rfl (Nat.le_of_ble_eq_true rfl) ⟨rfl, rfl⟩ ⟨by decide, by decide⟩ ⟨Nat.zero_le _, Nat.zero_le _⟩ d_Mo_send_109 (iv_mblk I3 (by (repeat rw [mt_ne (by decide)]); first | assumption | omega) (by omega) hg) (fun I4 => ?_)
      exact k_return C (E.to rfl (by first | (simp only [m_snd, m_snd0, m_snd1, h1, h2, ↓reduceIte]; done) | (simp only [m_snd, m_snd0, m_snd1, h1, h2, ↓reduceIte]; rfl) | contradiction | rfl)) d_Mo_send_112
    · refine k_aload_n C d_Mo_send_68 rfl ?_
      refine k_getr C d_Mo_send_69 fg_Mo_71 (by decide) rfl ?_
      refine k_iload_n C d_Mo_send_72 rfl ?_
      refine k_iconst C d_Mo_send_73 (v := 2) (by decide) ?_
      refine k_imul C d_Mo_send_74 ?_
      refine k_aload_n C d_Mo_send_75 rfl ?_
      refine k_getr C d_Mo_send_76 fg_Mo_74 (by decide) rfl ?_
      refine k_iload_n C d_Mo_send_79 rfl ?_
      have hq3 := k_lt (r_h2 (I0 22 0 k) (by assumption))
      refine k_iaload C d_Mo_send_80 am_22 (by decide) (vp_in_nI (by omega) (by decide)) (nI_clamp (by omega)) ?_
      refine k_top (r_id (r_h2 (I0 22 0 k) (by assumption)) (by decide)) ?_
      refine k_iadd C d_Mo_send_81 ?_
      refine k_iload_n C d_Mo_send_82 rfl ?_
      refine k_iastore C d_Mo_send_83 am_21 (by decide) (mx (k) 2 ((K 22 0 k).toNatClampNeg) 8 (by omega) (by decide)).1 (mx (k) 2 ((K 22 0 k).toNatClampNeg) 8 (by omega) (by decide)).2 I0 (trivial) (fun I5 => ?_)
      refine k_aload_n C d_Mo_send_84 rfl ?_
      refine k_getr C d_Mo_send_85 fg_Mo_74 (by decide) rfl ?_
      refine k_iload_n C d_Mo_send_88 rfl ?_
      refine k_dup2 C d_Mo_send_89 rfl rfl ?_
      refine k_iaload C d_Mo_send_90 am_22 (by decide) (vp_in_nI (by omega) (by decide)) (nI_clamp (by omega)) ?_
      refine k_iconst C d_Mo_send_91 (v := 1) (by decide) ?_
      refine k_iadd C d_Mo_send_92 ?_
      refine k_iastore C d_Mo_send_93 am_22 (by decide) (vp_in_nI (by omega) (by decide)) (nI_clamp (by omega)) I5 (r_szp2 (r_h2 (I0 22 0 k) (by assumption))) (fun I6 => ?_)
      refine k_goto C d_Mo_send_94 (tgt := 112) (by decide) ?_
      exact k_return C (E.to rfl (by first | (simp only [m_snd, m_snd0, m_snd1, h1, h2, ↓reduceIte]; done) | (simp only [m_snd, m_snd0, m_snd1, h1, h2, ↓reduceIte]; rfl) | contradiction | rfl)) d_Mo_send_112
  · refine k_aload_n C d_Mo_send_9 rfl ?_
    refine k_getr C d_Mo_send_10 fg_Mo_68 (by decide) rfl ?_
    refine k_bipush C d_Mo_send_13 (v := 6) (by decide) ?_
    refine k_iload_n C d_Mo_send_15 rfl ?_
    refine k_iadd C d_Mo_send_16 ?_
    refine k_iaload C d_Mo_send_17 am_20 (by decide) (mt (6) (k) 14 (by omega) (by decide)).1 (mt (6) (k) 14 (by omega) (by decide)).2 ?_
    refine k_if_le C d_Mo_send_18 (tgt := 58) (by decide) (fun h7 => ?_) (fun h7 => ?_)
    · refine k_aload_n C d_Mo_send_58 rfl ?_
      refine k_getr C d_Mo_send_59 fg_Mo_74 (by decide) rfl ?_
      refine k_iload_n C d_Mo_send_62 rfl ?_
      refine k_iaload C d_Mo_send_63 am_22 (by decide) (vp_in_nI (by omega) (by decide)) (nI_clamp (by omega)) ?_
      refine k_iconst C d_Mo_send_64 (v := 2) (by decide) ?_
      refine k_icmp_ge C d_Mo_send_65 (tgt := 97) (by decide) (fun h8 => absurd (h1 ▸ h8 : (2 : Int32) ≤ 0) (by decide)) (fun h8 => ?_)
      refine k_aload_n C d_Mo_send_68 rfl ?_
      refine k_getr C d_Mo_send_69 fg_Mo_71 (by decide) rfl ?_
      refine k_iload_n C d_Mo_send_72 rfl ?_
      refine k_iconst C d_Mo_send_73 (v := 2) (by decide) ?_
      refine k_imul C d_Mo_send_74 ?_
      refine k_aload_n C d_Mo_send_75 rfl ?_
      refine k_getr C d_Mo_send_76 fg_Mo_74 (by decide) rfl ?_
      refine k_iload_n C d_Mo_send_79 rfl ?_
      have hq3 := k_lt (r_h2 (I0 22 0 k) (by assumption))
      refine k_iaload C d_Mo_send_80 am_22 (by decide) (vp_in_nI (by omega) (by decide)) (nI_clamp (by omega)) ?_
      refine k_top (r_id (r_h2 (I0 22 0 k) (by assumption)) (by decide)) ?_
      refine k_iadd C d_Mo_send_81 ?_
      refine k_iload_n C d_Mo_send_82 rfl ?_
      refine k_iastore C d_Mo_send_83 am_21 (by decide) (mx (k) 2 ((K 22 0 k).toNatClampNeg) 8 (by omega) (by decide)).1 (mx (k) 2 ((K 22 0 k).toNatClampNeg) 8 (by omega) (by decide)).2 I0 (trivial) (fun I9 => ?_)
      refine k_aload_n C d_Mo_send_84 rfl ?_
      refine k_getr C d_Mo_send_85 fg_Mo_74 (by decide) rfl ?_
      refine k_iload_n C d_Mo_send_88 rfl ?_
      refine k_dup2 C d_Mo_send_89 rfl rfl ?_
      refine k_iaload C d_Mo_send_90 am_22 (by decide) (vp_in_nI (by omega) (by decide)) (nI_clamp (by omega)) ?_
      refine k_iconst C d_Mo_send_91 (v := 1) (by decide) ?_
      refine k_iadd C d_Mo_send_92 ?_
      refine k_iastore C d_Mo_send_93 am_22 (by decide) (vp_in_nI (by omega) (by decide)) (nI_clamp (by omega)) I9 (r_szp2 (r_h2 (I0 22 0 k) (by assumption))) (fun I10 => ?_)
      refine k_goto C d_Mo_send_94 (tgt := 112) (by decide) ?_
      exact k_return C (E.to rfl (by first | (simp only [m_snd, m_snd0, m_snd1, h1, h7, ↓reduceIte]; done) | (simp only [m_snd, m_snd0, m_snd1, h1, h7, ↓reduceIte]; rfl) | contradiction | rfl)) d_Mo_send_112
    · refine k_aload_n C d_Mo_send_21 rfl ?_
      refine k_bipush C d_Mo_send_22 (v := 6) (by decide) ?_
      refine k_iload_n C d_Mo_send_24 rfl ?_
      refine k_iadd C d_Mo_send_25 ?_
      have hq1 := k_lt (r_tkX (6 + k) I0)
      have hq2 := k_lt (hcar h7)
      refine k_callVi C kg_all (c_Mo_take l G _ _ (6 + k) (nI_add 6 k) I0 (by omega) h7) cs_Mo_106 cv_Mo_take om_0 (by decide) rfl rfl (Nat.le_of_ble_eq_true rfl) ⟨rfl, rfl⟩ ⟨by decide, by decide⟩ ⟨Nat.zero_le _, Nat.zero_le _⟩ d_Mo_send_26 (iv_mtk I0 h7) (fun I11 => ?_)
      refine k_top (r_id (r_tkX (6 + k) I0) (by decide)) ?_
      refine k_istore C d_Mo_send_29 (by decide) ?_
      refine k_aload_n C d_Mo_send_31 rfl ?_
      refine k_getr C d_Mo_send_32 fg_Mo_52 (by decide) rfl ?_
      refine k_iload C d_Mo_send_35 rfl ?_
      refine k_iconst C d_Mo_send_37 (v := 4) (by decide) ?_
      refine k_imul C d_Mo_send_38 ?_
      refine k_aload_n C d_Mo_send_39 rfl ?_
      refine k_getr C d_Mo_send_40 fg_Mo_49 (by decide) rfl ?_
      refine k_iload C d_Mo_send_43 rfl ?_
      refine k_iaload C d_Mo_send_45 am_14 (by decide) (vp_in_nI (by omega) (by decide)) (nI_clamp (by omega)) ?_
      refine k_top (r_id (hcar h7) (by decide)) ?_
      refine k_iadd C d_Mo_send_46 ?_
      refine k_iload_n C d_Mo_send_47 rfl ?_
      refine k_iastore C d_Mo_send_48 am_15 (by decide) (mx ((m_tkX K (6 + k)).toNatClampNeg) 4 ((m_tkT K (6 + k) 14 0 (m_tkX K (6 + k)).toNatClampNeg).toNatClampNeg) 24 (by omega) (by decide)).1 (mx ((m_tkX K (6 + k)).toNatClampNeg) 4 ((m_tkT K (6 + k) 14 0 (m_tkX K (6 + k)).toNatClampNeg).toNatClampNeg) 24 (by omega) (by decide)).2 I11 (trivial) (fun I12 => ?_)
      refine k_aload_n C d_Mo_send_49 rfl ?_
      refine k_iload C d_Mo_send_50 rfl ?_
      refine k_callVv C kg_all (c_Mo_wake l G _ _ _ rfl I12 hq1 (by rw [mt_ne (by decide)]; have := mt_tk I0 h7 (show 6 + k < 14 by omega); omega)) cs_Mo_98 cv_Mo_wake om_0 (by decide) rfl rfl (Nat.le_of_ble_eq_true rfl) ⟨rfl, rfl⟩ ⟨by decide, by decide⟩ ⟨Nat.zero_le _, Nat.zero_le _⟩ d_Mo_send_52 (iv_mwake I12 (by rw [mt_ne (by decide)]; have := mt_tk I0 h7 (show 6 + k < 14 by omega); omega) hq1) (fun I13 => ?_)
      refine k_goto C d_Mo_send_55 (tgt := 112) (by decide) ?_
      exact k_return C (E.to rfl (by first | (simp only [m_snd, m_snd0, m_snd1, h1, h7, ↓reduceIte]; done) | (simp only [m_snd, m_snd0, m_snd1, h1, h7, ↓reduceIte]; rfl) | contradiction | rfl)) d_Mo_send_112
set_option maxHeartbeats 4000000 in
set_option maxRecDepth 100000 in
theorem c_Mo_receive (l : Launch) (G : kG) (K : kM) (x0 : Int32) (x1 : Int32) (x2 : Int32) (g k a : Nat) (e0 : x0 = nI g) (e1 : x1 = nI k) (e2 : x2 = nI a) (I0 : m_Inv K) (hg : g < 6) (hk : k < 4) (ha : a < 4) (ht : m_tot K ≤ 5) : k_Met l mS kT y_Mo_receive b_Mo_receive 5 none (k_rm 2) G [.ref (G.2.2 0 0), .int x0, .int x1, .int x2] K none (m_rcv K g k a) := by
  subst e0
  subst e1
  subst e2
  refine k_intro (by decide +kernel) rfl (Nat.le_of_ble_eq_true rfl) ?_
  intro X C E
  refine k_aload_n C d_Mo_receive_0 rfl ?_
  refine k_getr C d_Mo_receive_1 fg_Mo_74 (by decide) rfl ?_
  refine k_iload_n C d_Mo_receive_4 rfl ?_
  refine k_iaload C d_Mo_receive_5 am_22 (by decide) (vp_in_nI (by omega) (by decide)) (nI_clamp (by omega)) ?_
  refine k_if_ne C d_Mo_receive_6 (tgt := 26) (by decide) (fun h1 => ?_) (fun h1 => ?_)
  · refine k_aload_n C d_Mo_receive_26 rfl ?_
    refine k_getr C d_Mo_receive_27 fg_Mo_52 (by decide) rfl ?_
    refine k_iload_n C d_Mo_receive_30 rfl ?_
    refine k_iconst C d_Mo_receive_31 (v := 4) (by decide) ?_
    refine k_imul C d_Mo_receive_32 ?_
    refine k_iload_n C d_Mo_receive_33 rfl ?_
    refine k_iadd C d_Mo_receive_34 ?_
    refine k_aload_n C d_Mo_receive_35 rfl ?_
    refine k_getr C d_Mo_receive_36 fg_Mo_71 (by decide) rfl ?_
    refine k_iload_n C d_Mo_receive_39 rfl ?_
    refine k_iconst C d_Mo_receive_40 (v := 2) (by decide) ?_
    refine k_imul C d_Mo_receive_41 ?_
    refine k_iaload C d_Mo_receive_42 am_21 (by decide) (mxp (k) 2 8 (by omega) (by decide)).1 (mxp (k) 2 8 (by omega) (by decide)).2 ?_
    refine k_iastore C d_Mo_receive_43 am_15 (by decide) (mx (g) 4 (a) 24 (by omega) (by decide)).1 (mx (g) 4 (a) 24 (by omega) (by decide)).2 I0 (trivial) (fun I2 => ?_)
    refine k_aload_n C d_Mo_receive_44 rfl ?_
    refine k_getr C d_Mo_receive_45 fg_Mo_71 (by decide) rfl ?_
    refine k_iload_n C d_Mo_receive_48 rfl ?_
    refine k_iconst C d_Mo_receive_49 (v := 2) (by decide) ?_
    refine k_imul C d_Mo_receive_50 ?_
    refine k_aload_n C d_Mo_receive_51 rfl ?_
    refine k_getr C d_Mo_receive_52 fg_Mo_71 (by decide) rfl ?_
    refine k_iload_n C d_Mo_receive_55 rfl ?_
    refine k_iconst C d_Mo_receive_56 (v := 2) (by decide) ?_
    refine k_imul C d_Mo_receive_57 ?_
    refine k_iconst C d_Mo_receive_58 (v := 1) (by decide) ?_
    refine k_iadd C d_Mo_receive_59 ?_
    refine k_iaload C d_Mo_receive_60 am_21 (by decide) (mx (k) 2 (1) 8 (by omega) (by decide)).1 (mx (k) 2 (1) 8 (by omega) (by decide)).2 ?_
    refine k_iastore C d_Mo_receive_61 am_21 (by decide) (mxp (k) 2 8 (by omega) (by decide)).1 (mxp (k) 2 8 (by omega) (by decide)).2 I2 (trivial) (fun I3 => ?_)
    refine k_aload_n C d_Mo_receive_62 rfl ?_
    refine k_getr C d_Mo_receive_63 fg_Mo_74 (by decide) rfl ?_
    refine k_iload_n C d_Mo_receive_66 rfl ?_
    refine k_dup2 C d_Mo_receive_67 rfl rfl ?_
    refine k_iaload C d_Mo_receive_68 am_22 (by decide) (vp_in_nI (by omega) (by decide)) (nI_clamp (by omega)) ?_
    refine k_iconst C d_Mo_receive_69 (v := 1) (by decide) ?_
    refine k_isub C d_Mo_receive_70 ?_
    refine k_iastore C d_Mo_receive_71 am_22 (by decide) (vp_in_nI (by omega) (by decide)) (nI_clamp (by omega)) I3 (r_hm (I0 22 0 k) h1) (fun I4 => ?_)
    refine k_aload_n C d_Mo_receive_72 rfl ?_
    refine k_getr C d_Mo_receive_73 fg_Mo_74 (by decide) rfl ?_
    refine k_iload_n C d_Mo_receive_76 rfl ?_
    refine k_iaload C d_Mo_receive_77 am_22 (by decide) (vp_in_nI (by omega) (by decide)) (nI_clamp (by omega)) ?_
    refine k_iconst C d_Mo_receive_78 (v := 1) (by decide) ?_
    refine k_icmp_ne C d_Mo_receive_79 (tgt := 132) (by decide) (fun h5 => ?_) (fun h5 => ?_)
    · exact k_return C (E.to rfl (by first | (simp only [m_rcv, m_rc1, m_rc2, h1, h5, ↓reduceIte]; done) | (simp only [m_rcv, m_rc1, m_rc2, h1, h5, ↓reduceIte]; rfl) | contradiction | rfl)) d_Mo_receive_132
    · refine k_aload_n C d_Mo_receive_82 rfl ?_
      refine k_getr C d_Mo_receive_83 fg_Mo_68 (by decide) rfl ?_
      refine k_iconst C d_Mo_receive_86 (v := 2) (by decide) ?_
      refine k_iload_n C d_Mo_receive_87 rfl ?_
      refine k_iadd C d_Mo_receive_88 ?_
      refine k_iaload C d_Mo_receive_89 am_20 (by decide) (mt (2) (k) 14 (by omega) (by decide)).1 (mt (2) (k) 14 (by omega) (by decide)).2 ?_
      refine k_if_le C d_Mo_receive_90 (tgt := 132) (by decide) (fun h6 => ?_) (fun h6 => ?_)
      · exact k_return C (E.to rfl (by first | (simp only [m_rcv, m_rc1, m_rc2, h1, h5, h6, ↓reduceIte]; done) | (simp only [m_rcv, m_rc1, m_rc2, h1, h5, h6, ↓reduceIte]; rfl) | contradiction | rfl)) d_Mo_receive_132
      · refine k_mem (K' := m_rc1 K g k a) rfl ?_
        refine k_aload_n C d_Mo_receive_93 rfl ?_
        refine k_iconst C d_Mo_receive_94 (v := 2) (by decide) ?_
        refine k_iload_n C d_Mo_receive_95 rfl ?_
        refine k_iadd C d_Mo_receive_96 ?_
        have hI : m_Inv (m_rc1 K g k a) := I4
        have hx := r_tkX (2 + k) hI
        have hq := k_lt hx
        have e0 := mt_rc1 (K := K) (g := g) (k := k) (a := a)
        refine k_callVi C kg_all (c_Mo_take l G _ _ (2 + k) (nI_add 2 k) hI (by omega) h6) cs_Mo_106 cv_Mo_take om_0 (by decide) rfl rfl (Nat.le_of_ble_eq_true rfl) ⟨rfl, rfl⟩ ⟨by decide, by decide⟩ ⟨Nat.zero_le _, Nat.zero_le _⟩ d_Mo_receive_97 (iv_mtk hI h6) (fun I7 => ?_)
        refine k_top (r_id hx (by decide)) ?_
        refine k_istore C d_Mo_receive_100 (by decide) ?_
        refine k_aload_n C d_Mo_receive_102 rfl ?_
        refine k_getr C d_Mo_receive_103 fg_Mo_71 (by decide) rfl ?_
        refine k_iload_n C d_Mo_receive_106 rfl ?_
        refine k_iconst C d_Mo_receive_107 (v := 2) (by decide) ?_
        refine k_imul C d_Mo_receive_108 ?_
        refine k_iconst C d_Mo_receive_109 (v := 1) (by decide) ?_
        refine k_iadd C d_Mo_receive_110 ?_
        refine k_aload_n C d_Mo_receive_111 rfl ?_
        refine k_getr C d_Mo_receive_112 fg_Mo_49 (by decide) rfl ?_
        refine k_iload C d_Mo_receive_115 rfl ?_
        refine k_iaload C d_Mo_receive_117 am_14 (by decide) (vp_in_nI (by omega) (by decide)) (nI_clamp (by omega)) ?_
        refine k_iastore C d_Mo_receive_118 am_21 (by decide) (mx (k) 2 (1) 8 (by omega) (by decide)).1 (mx (k) 2 (1) 8 (by omega) (by decide)).2 I7 (trivial) (fun I8 => ?_)
        refine k_aload_n C d_Mo_receive_119 rfl ?_
        refine k_getr C d_Mo_receive_120 fg_Mo_74 (by decide) rfl ?_
        refine k_iload_n C d_Mo_receive_123 rfl ?_
        refine k_iconst C d_Mo_receive_124 (v := 2) (by decide) ?_
        refine k_iastore C d_Mo_receive_125 am_22 (by decide) (vp_in_nI (by omega) (by decide)) (nI_clamp (by omega)) I8 ((by decide : (0 : Int32) ≤ 2 ∧ (2 : Int32) ≤ 2)) (fun I9 => ?_)
        refine k_aload_n C d_Mo_receive_126 rfl ?_
        refine k_iload C d_Mo_receive_127 rfl ?_
        refine k_callVv C kg_all (c_Mo_wake l G _ _ _ rfl I9 hq (by rw [mt_ne (by decide), mt_ne (by decide)]; have := mt_tk hI h6 (show 2 + k < 14 by omega); omega)) cs_Mo_98 cv_Mo_wake om_0 (by decide) rfl rfl (Nat.le_of_ble_eq_true rfl) ⟨rfl, rfl⟩ ⟨by decide, by decide⟩ ⟨Nat.zero_le _, Nat.zero_le _⟩ d_Mo_receive_129 (iv_mwake I9 (by rw [mt_ne (by decide), mt_ne (by decide)]; have := mt_tk hI h6 (show 2 + k < 14 by omega); omega) hq) (fun I10 => ?_)
        exact k_return C (E.to rfl (by first | (simp only [m_rcv, m_rc1, m_rc2, h1, h5, h6, ↓reduceIte]; done) | (simp only [m_rcv, m_rc1, m_rc2, h1, h5, h6, ↓reduceIte]; rfl) | contradiction | rfl)) d_Mo_receive_132
  · refine k_aload_n C d_Mo_receive_9 rfl ?_
    refine k_getr C d_Mo_receive_10 fg_Mo_49 (by decide) rfl ?_
    refine k_iload_n C d_Mo_receive_13 rfl ?_
    refine k_iload_n C d_Mo_receive_14 rfl ?_
    refine k_iastore C d_Mo_receive_15 am_14 (by decide) (vp_in_nI (by omega) (by decide)) (nI_clamp (by omega)) I0 (trivial) (fun I11 => ?_)
    refine k_aload_n C d_Mo_receive_16 rfl ?_
    refine k_iload_n C d_Mo_receive_17 rfl ?_
    refine k_bipush C d_Mo_receive_18 (v := 6) (by decide) ?_
    refine k_iload_n C d_Mo_receive_20 rfl ?_
    refine k_iadd C d_Mo_receive_21 ?_
    refine k_callVv C kg_all (c_Mo_block l G _ _ _ g (6 + k) rfl (nI_add 6 k) I11 hg (by omega) (by (repeat rw [mt_ne (by decide)]); first | assumption | omega)) cs_Mo_128 cv_Mo_block om_0 (by decide) rfl rfl (Nat.le_of_ble_eq_true rfl) ⟨rfl, rfl⟩ ⟨by decide, by decide⟩ ⟨Nat.zero_le _, Nat.zero_le _⟩ d_Mo_receive_22 (iv_mblk I11 (by (repeat rw [mt_ne (by decide)]); first | assumption | omega) (by omega) hg) (fun I12 => ?_)
    exact k_return C (E.to rfl (by first | (simp only [m_rcv, m_rc1, m_rc2, h1, ↓reduceIte]; done) | (simp only [m_rcv, m_rc1, m_rc2, h1, ↓reduceIte]; rfl) | contradiction | rfl)) d_Mo_receive_25
