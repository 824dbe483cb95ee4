set_option maxHeartbeats 4000000 in
set_option maxRecDepth 100000 in
theorem c_Mo_share (l : Launch) (G : kG) (K : kM) (x0 : Int32) (o : Int32) (x2 : Int32) (x3 : Int32) (g a n : Nat) (e0 : x0 = nI g) (e2 : x2 = nI a) (e3 : x3 = nI n) (I0 : m_Inv K) (hg : g < 6) (ha : a < 4) (hn : n < 4) (ht : m_tot K ≤ 5) (hcar : m_car K) : k_Met l mS kT y_Mo_share b_Mo_share 5 (some .int) (k_rm 3) G [.ref (G.2.2 0 0), .int x0, .int o, .int x2, .int x3] K (some (.int (m_shX K g o n))) (m_shT K g o a n) := by
  subst e0
  subst e2
  subst e3
  refine k_intro (by decide +kernel) rfl (Nat.le_of_ble_eq_true rfl) ?_
  intro X C E
  refine k_iload_n C d_Mo_share_0 rfl ?_
  refine k_bipush C d_Mo_share_1 (v := 16) (by decide) ?_
  refine k_icmp_ne C d_Mo_share_3 (tgt := 26) (by decide) (fun h1 => ?_) (fun h1 => ?_)
  · refine k_iload_n C d_Mo_share_26 rfl ?_
    refine k_bipush C d_Mo_share_27 (v := 17) (by decide) ?_
    refine k_icmp_ne C d_Mo_share_29 (tgt := 43) (by decide) (fun h2 => ?_) (fun h2 => ?_)
    · refine k_iload_n C d_Mo_share_43 rfl ?_
      refine k_bipush C d_Mo_share_44 (v := 19) (by decide) ?_
      refine k_icmp_ne C d_Mo_share_46 (tgt := 71) (by decide) (fun h3 => ?_) (fun h3 => ?_)
      · refine k_aload_n C d_Mo_share_71 rfl ?_
        refine k_getr C d_Mo_share_72 fg_Mo_77 (by decide) rfl ?_
        refine k_iload C d_Mo_share_75 rfl ?_
        refine k_iaload C d_Mo_share_77 am_23 (by decide) (vp_in_nI (by omega) (by decide)) (nI_clamp (by omega)) ?_
        refine k_if_ge C d_Mo_share_78 (tgt := 92) (by decide) (fun h4 => ?_) (fun h4 => ?_)
        · refine k_aload_n C d_Mo_share_92 rfl ?_
          refine k_iload_n C d_Mo_share_93 rfl ?_
          refine k_bipush C d_Mo_share_94 (v := 10) (by decide) ?_
          refine k_iload C d_Mo_share_96 rfl ?_
          refine k_iadd C d_Mo_share_98 ?_
          refine k_callVv C kg_all (c_Mo_block l G _ _ _ g (10 + n) rfl (nI_add 10 n) I0 hg (by omega) ht) cs_Mo_128 cv_Mo_block om_0 (by decide) rfl rfl (Nat.le_of_ble_eq_true rfl) ⟨rfl, rfl⟩ ⟨by decide, by decide⟩ ⟨Nat.zero_le _, Nat.zero_le _⟩ d_Mo_share_99 (iv_mblk I0 ht (by omega) hg) (fun I5 => ?_)
          refine k_iconst C d_Mo_share_102 (v := 0) (by decide) ?_
          exact k_ireturn C (E.to (by first | (simp only [m_shX, m_shT, h1, h2, h3, h4, ↓reduceIte]; done) | (simp only [m_shX, m_shT, h1, h2, h3, h4, ↓reduceIte]; rfl) | contradiction | rfl) (by first | (simp only [m_shX, m_shT, h1, h2, h3, h4, ↓reduceIte]; done) | (simp only [m_shX, m_shT, h1, h2, h3, h4, ↓reduceIte]; rfl) | contradiction | rfl)) d_Mo_share_103
        · refine k_aload_n C d_Mo_share_81 rfl ?_
          refine k_getr C d_Mo_share_82 fg_Mo_77 (by decide) rfl ?_
          refine k_iload C d_Mo_share_85 rfl ?_
          refine k_iload_n C d_Mo_share_87 rfl ?_
          refine k_iastore C d_Mo_share_88 am_23 (by decide) (vp_in_nI (by omega) (by decide)) (nI_clamp (by omega)) I0 (Or.inr (vp_in_nI hg (by decide))) (fun I6 => ?_)
          refine k_goto C d_Mo_share_89 (tgt := 102) (by decide) ?_
          refine k_iconst C d_Mo_share_102 (v := 0) (by decide) ?_
          exact k_ireturn C (E.to (by first | (simp only [m_shX, m_shT, h1, h2, h3, h4, ↓reduceIte]; done) | (simp only [m_shX, m_shT, h1, h2, h3, h4, ↓reduceIte]; rfl) | contradiction | rfl) (by first | (simp only [m_shX, m_shT, h1, h2, h3, h4, ↓reduceIte]; done) | (simp only [m_shX, m_shT, h1, h2, h3, h4, ↓reduceIte]; rfl) | contradiction | rfl)) d_Mo_share_103
      · refine k_aload_n C d_Mo_share_49 rfl ?_
        refine k_getr C d_Mo_share_50 fg_Mo_77 (by decide) rfl ?_
        refine k_iload C d_Mo_share_53 rfl ?_
        refine k_iaload C d_Mo_share_55 am_23 (by decide) (vp_in_nI (by omega) (by decide)) (nI_clamp (by omega)) ?_
        refine k_iload_n C d_Mo_share_56 rfl ?_
        refine k_icmp_eq C d_Mo_share_57 (tgt := 62) (by decide) (fun h7 => ?_) (fun h7 => ?_)
        · refine k_aload_n C d_Mo_share_62 rfl ?_
          refine k_iload C d_Mo_share_63 rfl ?_
          refine k_callVv C kg_all (c_Mo_unlock l G _ _ n rfl I0 hn (by omega)) cs_Mo_113 cv_Mo_unlock om_0 (by decide) rfl rfl (Nat.le_of_ble_eq_true rfl) ⟨rfl, rfl⟩ ⟨by decide, by decide⟩ ⟨Nat.zero_le _, Nat.zero_le _⟩ d_Mo_share_65 (iv_munl I0 (by omega) hn) (fun I8 => ?_)
          refine k_goto C d_Mo_share_68 (tgt := 102) (by decide) ?_
          refine k_iconst C d_Mo_share_102 (v := 0) (by decide) ?_
          exact k_ireturn C (E.to (by first | (simp only [m_shX, m_shT, h1, h2, h3, h7, ↓reduceIte]; done) | (simp only [m_shX, m_shT, h1, h2, h3, h7, ↓reduceIte]; rfl) | contradiction | rfl) (by first | (simp only [m_shX, m_shT, h1, h2, h3, h7, ↓reduceIte]; done) | (simp only [m_shX, m_shT, h1, h2, h3, h7, ↓reduceIte]; rfl) | contradiction | rfl)) d_Mo_share_103
        · refine k_iconst C d_Mo_share_60 (v := 5) (by decide) ?_
          exact k_ireturn C (E.to (by first | (simp only [m_shX, m_shT, h1, h2, h3, h7, ↓reduceIte]; done) | (simp only [m_shX, m_shT, h1, h2, h3, h7, ↓reduceIte]; rfl) | contradiction | rfl) (by first | (simp only [m_shX, m_shT, h1, h2, h3, h7, ↓reduceIte]; done) | (simp only [m_shX, m_shT, h1, h2, h3, h7, ↓reduceIte]; rfl) | contradiction | rfl)) d_Mo_share_61
    · refine k_aload_n C d_Mo_share_32 rfl ?_
      refine k_iload_n C d_Mo_share_33 rfl ?_
      refine k_iload C d_Mo_share_34 rfl ?_
      refine k_iload_n C d_Mo_share_36 rfl ?_
      refine k_callVv C kg_all (c_Mo_receive l G _ _ _ _ g n a rfl rfl rfl I0 hg hn ha ht) cs_Mo_152 cv_Mo_receive om_0 (by decide) rfl rfl (Nat.le_of_ble_eq_true rfl) ⟨rfl, rfl⟩ ⟨by decide, by decide⟩ ⟨Nat.zero_le _, Nat.zero_le _⟩ d_Mo_share_37 (j_rcv I0 ht hg hn).1 (fun I9 => ?_)
      refine k_goto C d_Mo_share_40 (tgt := 102) (by decide) ?_
      refine k_iconst C d_Mo_share_102 (v := 0) (by decide) ?_
      exact k_ireturn C (E.to (by first | (simp only [m_shX, m_shT, h1, h2, ↓reduceIte]; done) | (simp only [m_shX, m_shT, h1, h2, ↓reduceIte]; rfl) | contradiction | rfl) (by first | (simp only [m_shX, m_shT, h1, h2, ↓reduceIte]; done) | (simp only [m_shX, m_shT, h1, h2, ↓reduceIte]; rfl) | contradiction | rfl)) d_Mo_share_103
  · refine k_aload_n C d_Mo_share_6 rfl ?_
    refine k_iload_n C d_Mo_share_7 rfl ?_
    refine k_iload C d_Mo_share_8 rfl ?_
    refine k_aload_n C d_Mo_share_10 rfl ?_
    refine k_getr C d_Mo_share_11 fg_Mo_52 (by decide) rfl ?_
    refine k_iload_n C d_Mo_share_14 rfl ?_
    refine k_iconst C d_Mo_share_15 (v := 4) (by decide) ?_
    refine k_imul C d_Mo_share_16 ?_
    refine k_iload_n C d_Mo_share_17 rfl ?_
    refine k_iadd C d_Mo_share_18 ?_
    refine k_iaload C d_Mo_share_19 am_15 (by decide) (mx (g) 4 (a) 24 (by omega) (by decide)).1 (mx (g) 4 (a) 24 (by omega) (by decide)).2 ?_
    refine k_callVv C kg_all (c_Mo_send l G _ _ _ _ g n rfl rfl I0 hg hn ht (hcar n hn)) cs_Mo_148 cv_Mo_send om_0 (by decide) rfl rfl (Nat.le_of_ble_eq_true rfl) ⟨rfl, rfl⟩ ⟨by decide, by decide⟩ ⟨Nat.zero_le _, Nat.zero_le _⟩ d_Mo_share_20 (j_snd I0 ht hg hn).1 (fun I10 => ?_)
    refine k_goto C d_Mo_share_23 (tgt := 102) (by decide) ?_
    refine k_iconst C d_Mo_share_102 (v := 0) (by decide) ?_
    exact k_ireturn C (E.to (by first | (simp only [m_shX, m_shT, h1, ↓reduceIte]; done) | (simp only [m_shX, m_shT, h1, ↓reduceIte]; rfl) | contradiction | rfl) (by first | (simp only [m_shX, m_shT, h1, ↓reduceIte]; done) | (simp only [m_shX, m_shT, h1, ↓reduceIte]; rfl) | contradiction | rfl)) d_Mo_share_103
set_option maxHeartbeats 4000000 in
set_option maxRecDepth 100000 in
theorem c_Mo_perform (l : Launch) (G : kG) (K : kM) (x0 : Int32) (o : Int32) (x2 : Int32) (x3 : Int32) (n : Int32) (g a b : Nat) (e0 : x0 = nI g) (e2 : x2 = nI a) (e3 : x3 = nI b) (I0 : m_Inv K) (hg : g < 6) (ho : vp_in o 22) (ha : a < 4) (hb : b < 4) (ht : m_tot K ≤ 5) (hcar : m_car K) : k_Met l mS kT y_Mo_perform b_Mo_perform 11 (some .int) (k_rm 4) G [.ref (G.2.2 0 0), .int x0, .int o, .int x2, .int x3, .int n] K (some (.int (m_pfX K g o b n))) (m_pfT K g o a b n) := by
  subst e0
  subst e2
  subst e3
  refine k_intro (by decide +kernel) rfl (Nat.le_of_ble_eq_true rfl) ?_
  intro X C E
  refine k_iload_n C d_Mo_perform_0 rfl ?_
  refine k_iconst C d_Mo_perform_1 (v := 4) (by decide) ?_
  refine k_imul C d_Mo_perform_2 ?_
  refine k_iload_n C d_Mo_perform_3 rfl ?_
  refine k_iadd C d_Mo_perform_4 ?_
  refine k_istore C d_Mo_perform_5 (by decide) ?_
  refine k_aload_n C d_Mo_perform_7 rfl ?_
  refine k_getr C d_Mo_perform_8 fg_Mo_52 (by decide) rfl ?_
  refine k_iload_n C d_Mo_perform_11 rfl ?_
  refine k_iconst C d_Mo_perform_12 (v := 4) (by decide) ?_
  refine k_imul C d_Mo_perform_13 ?_
  refine k_iload C d_Mo_perform_14 rfl ?_
  refine k_iadd C d_Mo_perform_16 ?_
  refine k_iaload C d_Mo_perform_17 am_15 (by decide) (mx (g) 4 (b) 24 (by omega) (by decide)).1 (mx (g) 4 (b) 24 (by omega) (by decide)).2 ?_
  refine k_istore C d_Mo_perform_18 (by decide) ?_
  refine k_iload_n C d_Mo_perform_20 rfl ?_
  rcases r_c22 ho with rfl | rfl | rfl | rfl | rfl | rfl | rfl | rfl | rfl | rfl | rfl | rfl | rfl | rfl | rfl | rfl | rfl | rfl | rfl | rfl | rfl | rfl
  · refine k_tabOut C d_Mo_perform_21 (by decide) (tgt := 456) (by decide) ?_
    refine k_iconst C d_Mo_perform_456 (v := 0) (by decide) ?_
    exact k_ireturn C (E.to (by first | (simp only [mpT_0, mpT_1, mpT_2, mpT_3, mpT_4, mpT_5, mpT_6, mpT_7, mpT_8, mpT_9, mpT_10, mpT_11, mpT_12, mpT_13, mpT_14, mpT_15, mpT_16, mpT_17, mpT_18, mpT_19, mpT_20, mpT_21, mpX_0, mpX_1, mpX_2, mpX_3, mpX_4, mpX_5, mpX_6, mpX_7, mpX_8, mpX_9, mpX_10, mpX_11, mpX_12, mpX_13, mpX_14, mpX_15, mpX_16, mpX_17, mpX_18, mpX_19, mpX_20, mpX_21, m_rpE, ↓reduceIte]; done) | (simp only [mpT_0, mpT_1, mpT_2, mpT_3, mpT_4, mpT_5, mpT_6, mpT_7, mpT_8, mpT_9, mpT_10, mpT_11, mpT_12, mpT_13, mpT_14, mpT_15, mpT_16, mpT_17, mpT_18, mpT_19, mpT_20, mpT_21, mpX_0, mpX_1, mpX_2, mpX_3, mpX_4, mpX_5, mpX_6, mpX_7, mpX_8, mpX_9, mpX_10, mpX_11, mpX_12, mpX_13, mpX_14, mpX_15, mpX_16, mpX_17, mpX_18, mpX_19, mpX_20, mpX_21, m_rpE, ↓reduceIte]; rfl) | contradiction | rfl) (by first | (simp only [mpT_0, mpT_1, mpT_2, mpT_3, mpT_4, mpT_5, mpT_6, mpT_7, mpT_8, mpT_9, mpT_10, mpT_11, mpT_12, mpT_13, mpT_14, mpT_15, mpT_16, mpT_17, mpT_18, mpT_19, mpT_20, mpT_21, mpX_0, mpX_1, mpX_2, mpX_3, mpX_4, mpX_5, mpX_6, mpX_7, mpX_8, mpX_9, mpX_10, mpX_11, mpX_12, mpX_13, mpX_14, mpX_15, mpX_16, mpX_17, mpX_18, mpX_19, mpX_20, mpX_21, m_rpE, ↓reduceIte]; done) | (simp only [mpT_0, mpT_1, mpT_2, mpT_3, mpT_4, mpT_5, mpT_6, mpT_7, mpT_8, mpT_9, mpT_10, mpT_11, mpT_12, mpT_13, mpT_14, mpT_15, mpT_16, mpT_17, mpT_18, mpT_19, mpT_20, mpT_21, mpX_0, mpX_1, mpX_2, mpX_3, mpX_4, mpX_5, mpX_6, mpX_7, mpX_8, mpX_9, mpX_10, mpX_11, mpX_12, mpX_13, mpX_14, mpX_15, mpX_16, mpX_17, mpX_18, mpX_19, mpX_20, mpX_21, m_rpE, ↓reduceIte]; rfl) | contradiction | rfl)) d_Mo_perform_457
  · refine k_tabIn C d_Mo_perform_21 (by decide) (by decide) (off := 99) (by decide) (tgt := 120) (by decide) ?_
    refine k_aload_n C d_Mo_perform_120 rfl ?_
    refine k_getr C d_Mo_perform_121 fg_Mo_52 (by decide) rfl ?_
    refine k_iload C d_Mo_perform_124 rfl ?_
    refine k_iload C d_Mo_perform_126 rfl ?_
    refine k_iastore C d_Mo_perform_128 am_15 (by decide) (mx (g) 4 (a) 24 (by omega) (by decide)).1 (mx (g) 4 (a) 24 (by omega) (by decide)).2 I0 (trivial) (fun I1 => ?_)
    refine k_iconst C d_Mo_perform_129 (v := 0) (by decide) ?_
    exact k_ireturn C (E.to (by first | (simp only [mpT_0, mpT_1, mpT_2, mpT_3, mpT_4, mpT_5, mpT_6, mpT_7, mpT_8, mpT_9, mpT_10, mpT_11, mpT_12, mpT_13, mpT_14, mpT_15, mpT_16, mpT_17, mpT_18, mpT_19, mpT_20, mpT_21, mpX_0, mpX_1, mpX_2, mpX_3, mpX_4, mpX_5, mpX_6, mpX_7, mpX_8, mpX_9, mpX_10, mpX_11, mpX_12, mpX_13, mpX_14, mpX_15, mpX_16, mpX_17, mpX_18, mpX_19, mpX_20, mpX_21, m_rpE, ↓reduceIte]; done) | (simp only [mpT_0, mpT_1, mpT_2, mpT_3, mpT_4, mpT_5, mpT_6, mpT_7, mpT_8, mpT_9, mpT_10, mpT_11, mpT_12, mpT_13, mpT_14, mpT_15, mpT_16, mpT_17, mpT_18, mpT_19, mpT_20, mpT_21, mpX_0, mpX_1, mpX_2, mpX_3, mpX_4, mpX_5, mpX_6, mpX_7, mpX_8, mpX_9, mpX_10, mpX_11, mpX_12, mpX_13, mpX_14, mpX_15, mpX_16, mpX_17, mpX_18, mpX_19, mpX_20, mpX_21, m_rpE, ↓reduceIte]; rfl) | contradiction | rfl) (by first | (simp only [mpT_0, mpT_1, mpT_2, mpT_3, mpT_4, mpT_5, mpT_6, mpT_7, mpT_8, mpT_9, mpT_10, mpT_11, mpT_12, mpT_13, mpT_14, mpT_15, mpT_16, mpT_17, mpT_18, mpT_19, mpT_20, mpT_21, mpX_0, mpX_1, mpX_2, mpX_3, mpX_4, mpX_5, mpX_6, mpX_7, mpX_8, mpX_9, mpX_10, mpX_11, mpX_12, mpX_13, mpX_14, mpX_15, mpX_16, mpX_17, mpX_18, mpX_19, mpX_20, mpX_21, m_rpE, ↓reduceIte]; done) | (simp only [mpT_0, mpT_1, mpT_2, mpT_3, mpT_4, mpT_5, mpT_6, mpT_7, mpT_8, mpT_9, mpT_10, mpT_11, mpT_12, mpT_13, mpT_14, mpT_15, mpT_16, mpT_17, mpT_18, mpT_19, mpT_20, mpT_21, mpX_0, mpX_1, mpX_2, mpX_3, mpX_4, mpX_5, mpX_6, mpX_7, mpX_8, mpX_9, mpX_10, mpX_11, mpX_12, mpX_13, mpX_14, mpX_15, mpX_16, mpX_17, mpX_18, mpX_19, mpX_20, mpX_21, m_rpE, ↓reduceIte]; rfl) | contradiction | rfl)) d_Mo_perform_130
  · refine k_tabIn C d_Mo_perform_21 (by decide) (by decide) (off := 110) (by decide) (tgt := 131) (by decide) ?_
    refine k_aload_n C d_Mo_perform_131 rfl ?_
    refine k_getr C d_Mo_perform_132 fg_Mo_52 (by decide) rfl ?_
    refine k_iload C d_Mo_perform_135 rfl ?_
    refine k_iload C d_Mo_perform_137 rfl ?_
    refine k_iload C d_Mo_perform_139 rfl ?_
    refine k_iadd C d_Mo_perform_141 ?_
    refine k_iastore C d_Mo_perform_142 am_15 (by decide) (mx (g) 4 (a) 24 (by omega) (by decide)).1 (mx (g) 4 (a) 24 (by omega) (by decide)).2 I0 (trivial) (fun I2 => ?_)
    refine k_iconst C d_Mo_perform_143 (v := 0) (by decide) ?_
    exact k_ireturn C (E.to (by first | (simp only [mpT_0, mpT_1, mpT_2, mpT_3, mpT_4, mpT_5, mpT_6, mpT_7, mpT_8, mpT_9, mpT_10, mpT_11, mpT_12, mpT_13, mpT_14, mpT_15, mpT_16, mpT_17, mpT_18, mpT_19, mpT_20, mpT_21, mpX_0, mpX_1, mpX_2, mpX_3, mpX_4, mpX_5, mpX_6, mpX_7, mpX_8, mpX_9, mpX_10, mpX_11, mpX_12, mpX_13, mpX_14, mpX_15, mpX_16, mpX_17, mpX_18, mpX_19, mpX_20, mpX_21, m_rpE, ↓reduceIte]; done) | (simp only [mpT_0, mpT_1, mpT_2, mpT_3, mpT_4, mpT_5, mpT_6, mpT_7, mpT_8, mpT_9, mpT_10, mpT_11, mpT_12, mpT_13, mpT_14, mpT_15, mpT_16, mpT_17, mpT_18, mpT_19, mpT_20, mpT_21, mpX_0, mpX_1, mpX_2, mpX_3, mpX_4, mpX_5, mpX_6, mpX_7, mpX_8, mpX_9, mpX_10, mpX_11, mpX_12, mpX_13, mpX_14, mpX_15, mpX_16, mpX_17, mpX_18, mpX_19, mpX_20, mpX_21, m_rpE, ↓reduceIte]; rfl) | contradiction | rfl) (by first | (simp only [mpT_0, mpT_1, mpT_2, mpT_3, mpT_4, mpT_5, mpT_6, mpT_7, mpT_8, mpT_9, mpT_10, mpT_11, mpT_12, mpT_13, mpT_14, mpT_15, mpT_16, mpT_17, mpT_18, mpT_19, mpT_20, mpT_21, mpX_0, mpX_1, mpX_2, mpX_3, mpX_4, mpX_5, mpX_6, mpX_7, mpX_8, mpX_9, mpX_10, mpX_11, mpX_12, mpX_13, mpX_14, mpX_15, mpX_16, mpX_17, mpX_18, mpX_19, mpX_20, mpX_21, m_rpE, ↓reduceIte]; done) | (simp only [mpT_0, mpT_1, mpT_2, mpT_3, mpT_4, mpT_5, mpT_6, mpT_7, mpT_8, mpT_9, mpT_10, mpT_11, mpT_12, mpT_13, mpT_14, mpT_15, mpT_16, mpT_17, mpT_18, mpT_19, mpT_20, mpT_21, mpX_0, mpX_1, mpX_2, mpX_3, mpX_4, mpX_5, mpX_6, mpX_7, mpX_8, mpX_9, mpX_10, mpX_11, mpX_12, mpX_13, mpX_14, mpX_15, mpX_16, mpX_17, mpX_18, mpX_19, mpX_20, mpX_21, m_rpE, ↓reduceIte]; rfl) | contradiction | rfl)) d_Mo_perform_144
  · refine k_tabIn C d_Mo_perform_21 (by decide) (by decide) (off := 124) (by decide) (tgt := 145) (by decide) ?_
    refine k_aload_n C d_Mo_perform_145 rfl ?_
    refine k_getr C d_Mo_perform_146 fg_Mo_52 (by decide) rfl ?_
    refine k_iload C d_Mo_perform_149 rfl ?_
    refine k_dup2 C d_Mo_perform_151 rfl rfl ?_
    refine k_iaload C d_Mo_perform_152 am_15 (by decide) (mx (g) 4 (a) 24 (by omega) (by decide)).1 (mx (g) 4 (a) 24 (by omega) (by decide)).2 ?_
    refine k_iload C d_Mo_perform_153 rfl ?_
    refine k_iadd C d_Mo_perform_155 ?_
    refine k_iastore C d_Mo_perform_156 am_15 (by decide) (mx (g) 4 (a) 24 (by omega) (by decide)).1 (mx (g) 4 (a) 24 (by omega) (by decide)).2 I0 (trivial) (fun I3 => ?_)
    refine k_iconst C d_Mo_perform_157 (v := 0) (by decide) ?_
    exact k_ireturn C (E.to (by first | (simp only [mpT_0, mpT_1, mpT_2, mpT_3, mpT_4, mpT_5, mpT_6, mpT_7, mpT_8, mpT_9, mpT_10, mpT_11, mpT_12, mpT_13, mpT_14, mpT_15, mpT_16, mpT_17, mpT_18, mpT_19, mpT_20, mpT_21, mpX_0, mpX_1, mpX_2, mpX_3, mpX_4, mpX_5, mpX_6, mpX_7, mpX_8, mpX_9, mpX_10, mpX_11, mpX_12, mpX_13, mpX_14, mpX_15, mpX_16, mpX_17, mpX_18, mpX_19, mpX_20, mpX_21, m_rpE, ↓reduceIte]; done) | (simp only [mpT_0, mpT_1, mpT_2, mpT_3, mpT_4, mpT_5, mpT_6, mpT_7, mpT_8, mpT_9, mpT_10, mpT_11, mpT_12, mpT_13, mpT_14, mpT_15, mpT_16, mpT_17, mpT_18, mpT_19, mpT_20, mpT_21, mpX_0, mpX_1, mpX_2, mpX_3, mpX_4, mpX_5, mpX_6, mpX_7, mpX_8, mpX_9, mpX_10, mpX_11, mpX_12, mpX_13, mpX_14, mpX_15, mpX_16, mpX_17, mpX_18, mpX_19, mpX_20, mpX_21, m_rpE, ↓reduceIte]; rfl) | contradiction | rfl) (by first | (simp only [mpT_0, mpT_1, mpT_2, mpT_3, mpT_4, mpT_5, mpT_6, mpT_7, mpT_8, mpT_9, mpT_10, mpT_11, mpT_12, mpT_13, mpT_14, mpT_15, mpT_16, mpT_17, mpT_18, mpT_19, mpT_20, mpT_21, mpX_0, mpX_1, mpX_2, mpX_3, mpX_4, mpX_5, mpX_6, mpX_7, mpX_8, mpX_9, mpX_10, mpX_11, mpX_12, mpX_13, mpX_14, mpX_15, mpX_16, mpX_17, mpX_18, mpX_19, mpX_20, mpX_21, m_rpE, ↓reduceIte]; done) | (simp only [mpT_0, mpT_1, mpT_2, mpT_3, mpT_4, mpT_5, mpT_6, mpT_7, mpT_8, mpT_9, mpT_10, mpT_11, mpT_12, mpT_13, mpT_14, mpT_15, mpT_16, mpT_17, mpT_18, mpT_19, mpT_20, mpT_21, mpX_0, mpX_1, mpX_2, mpX_3, mpX_4, mpX_5, mpX_6, mpX_7, mpX_8, mpX_9, mpX_10, mpX_11, mpX_12, mpX_13, mpX_14, mpX_15, mpX_16, mpX_17, mpX_18, mpX_19, mpX_20, mpX_21, m_rpE, ↓reduceIte]; rfl) | contradiction | rfl)) d_Mo_perform_158
  · refine k_tabIn C d_Mo_perform_21 (by decide) (by decide) (off := 138) (by decide) (tgt := 159) (by decide) ?_
    refine k_aload_n C d_Mo_perform_159 rfl ?_
    refine k_getr C d_Mo_perform_160 fg_Mo_52 (by decide) rfl ?_
    refine k_iload C d_Mo_perform_163 rfl ?_
    refine k_dup2 C d_Mo_perform_165 rfl rfl ?_
    refine k_iaload C d_Mo_perform_166 am_15 (by decide) (mx (g) 4 (a) 24 (by omega) (by decide)).1 (mx (g) 4 (a) 24 (by omega) (by decide)).2 ?_
    refine k_iload C d_Mo_perform_167 rfl ?_
    refine k_isub C d_Mo_perform_169 ?_
    refine k_iastore C d_Mo_perform_170 am_15 (by decide) (mx (g) 4 (a) 24 (by omega) (by decide)).1 (mx (g) 4 (a) 24 (by omega) (by decide)).2 I0 (trivial) (fun I4 => ?_)
    refine k_iconst C d_Mo_perform_171 (v := 0) (by decide) ?_
    exact k_ireturn C (E.to (by first | (simp only [mpT_0, mpT_1, mpT_2, mpT_3, mpT_4, mpT_5, mpT_6, mpT_7, mpT_8, mpT_9, mpT_10, mpT_11, mpT_12, mpT_13, mpT_14, mpT_15, mpT_16, mpT_17, mpT_18, mpT_19, mpT_20, mpT_21, mpX_0, mpX_1, mpX_2, mpX_3, mpX_4, mpX_5, mpX_6, mpX_7, mpX_8, mpX_9, mpX_10, mpX_11, mpX_12, mpX_13, mpX_14, mpX_15, mpX_16, mpX_17, mpX_18, mpX_19, mpX_20, mpX_21, m_rpE, ↓reduceIte]; done) | (simp only [mpT_0, mpT_1, mpT_2, mpT_3, mpT_4, mpT_5, mpT_6, mpT_7, mpT_8, mpT_9, mpT_10, mpT_11, mpT_12, mpT_13, mpT_14, mpT_15, mpT_16, mpT_17, mpT_18, mpT_19, mpT_20, mpT_21, mpX_0, mpX_1, mpX_2, mpX_3, mpX_4, mpX_5, mpX_6, mpX_7, mpX_8, mpX_9, mpX_10, mpX_11, mpX_12, mpX_13, mpX_14, mpX_15, mpX_16, mpX_17, mpX_18, mpX_19, mpX_20, mpX_21, m_rpE, ↓reduceIte]; rfl) | contradiction | rfl) (by first | (simp only [mpT_0, mpT_1, mpT_2, mpT_3, mpT_4, mpT_5, mpT_6, mpT_7, mpT_8, mpT_9, mpT_10, mpT_11, mpT_12, mpT_13, mpT_14, mpT_15, mpT_16, mpT_17, mpT_18, mpT_19, mpT_20, mpT_21, mpX_0, mpX_1, mpX_2, mpX_3, mpX_4, mpX_5, mpX_6, mpX_7, mpX_8, mpX_9, mpX_10, mpX_11, mpX_12, mpX_13, mpX_14, mpX_15, mpX_16, mpX_17, mpX_18, mpX_19, mpX_20, mpX_21, m_rpE, ↓reduceIte]; done) | (simp only [mpT_0, mpT_1, mpT_2, mpT_3, mpT_4, mpT_5, mpT_6, mpT_7, mpT_8, mpT_9, mpT_10, mpT_11, mpT_12, mpT_13, mpT_14, mpT_15, mpT_16, mpT_17, mpT_18, mpT_19, mpT_20, mpT_21, mpX_0, mpX_1, mpX_2, mpX_3, mpX_4, mpX_5, mpX_6, mpX_7, mpX_8, mpX_9, mpX_10, mpX_11, mpX_12, mpX_13, mpX_14, mpX_15, mpX_16, mpX_17, mpX_18, mpX_19, mpX_20, mpX_21, m_rpE, ↓reduceIte]; rfl) | contradiction | rfl)) d_Mo_perform_172
  · refine k_tabIn C d_Mo_perform_21 (by decide) (by decide) (off := 152) (by decide) (tgt := 173) (by decide) ?_
    refine k_aload_n C d_Mo_perform_173 rfl ?_
    refine k_getr C d_Mo_perform_174 fg_Mo_52 (by decide) rfl ?_
    refine k_iload C d_Mo_perform_177 rfl ?_
    refine k_dup2 C d_Mo_perform_179 rfl rfl ?_
    refine k_iaload C d_Mo_perform_180 am_15 (by decide) (mx (g) 4 (a) 24 (by omega) (by decide)).1 (mx (g) 4 (a) 24 (by omega) (by decide)).2 ?_
    refine k_iload C d_Mo_perform_181 rfl ?_
    refine k_imul C d_Mo_perform_183 ?_
    refine k_iastore C d_Mo_perform_184 am_15 (by decide) (mx (g) 4 (a) 24 (by omega) (by decide)).1 (mx (g) 4 (a) 24 (by omega) (by decide)).2 I0 (trivial) (fun I5 => ?_)
    refine k_iconst C d_Mo_perform_185 (v := 0) (by decide) ?_
    exact k_ireturn C (E.to (by first | (simp only [mpT_0, mpT_1, mpT_2, mpT_3, mpT_4, mpT_5, mpT_6, mpT_7, mpT_8, mpT_9, mpT_10, mpT_11, mpT_12, mpT_13, mpT_14, mpT_15, mpT_16, mpT_17, mpT_18, mpT_19, mpT_20, mpT_21, mpX_0, mpX_1, mpX_2, mpX_3, mpX_4, mpX_5, mpX_6, mpX_7, mpX_8, mpX_9, mpX_10, mpX_11, mpX_12, mpX_13, mpX_14, mpX_15, mpX_16, mpX_17, mpX_18, mpX_19, mpX_20, mpX_21, m_rpE, ↓reduceIte]; done) | (simp only [mpT_0, mpT_1, mpT_2, mpT_3, mpT_4, mpT_5, mpT_6, mpT_7, mpT_8, mpT_9, mpT_10, mpT_11, mpT_12, mpT_13, mpT_14, mpT_15, mpT_16, mpT_17, mpT_18, mpT_19, mpT_20, mpT_21, mpX_0, mpX_1, mpX_2, mpX_3, mpX_4, mpX_5, mpX_6, mpX_7, mpX_8, mpX_9, mpX_10, mpX_11, mpX_12, mpX_13, mpX_14, mpX_15, mpX_16, mpX_17, mpX_18, mpX_19, mpX_20, mpX_21, m_rpE, ↓reduceIte]; rfl) | contradiction | rfl) (by first | (simp only [mpT_0, mpT_1, mpT_2, mpT_3, mpT_4, mpT_5, mpT_6, mpT_7, mpT_8, mpT_9, mpT_10, mpT_11, mpT_12, mpT_13, mpT_14, mpT_15, mpT_16, mpT_17, mpT_18, mpT_19, mpT_20, mpT_21, mpX_0, mpX_1, mpX_2, mpX_3, mpX_4, mpX_5, mpX_6, mpX_7, mpX_8, mpX_9, mpX_10, mpX_11, mpX_12, mpX_13, mpX_14, mpX_15, mpX_16, mpX_17, mpX_18, mpX_19, mpX_20, mpX_21, m_rpE, ↓reduceIte]; done) | (simp only [mpT_0, mpT_1, mpT_2, mpT_3, mpT_4, mpT_5, mpT_6, mpT_7, mpT_8, mpT_9, mpT_10, mpT_11, mpT_12, mpT_13, mpT_14, mpT_15, mpT_16, mpT_17, mpT_18, mpT_19, mpT_20, mpT_21, mpX_0, mpX_1, mpX_2, mpX_3, mpX_4, mpX_5, mpX_6, mpX_7, mpX_8, mpX_9, mpX_10, mpX_11, mpX_12, mpX_13, mpX_14, mpX_15, mpX_16, mpX_17, mpX_18, mpX_19, mpX_20, mpX_21, m_rpE, ↓reduceIte]; rfl) | contradiction | rfl)) d_Mo_perform_186
  · refine k_tabIn C d_Mo_perform_21 (by decide) (by decide) (off := 166) (by decide) (tgt := 187) (by decide) ?_
    refine k_iload C d_Mo_perform_187 rfl ?_
    refine k_if_ne C d_Mo_perform_189 (tgt := 194) (by decide) (fun h6 => ?_) (fun h6 => ?_)
    · refine k_aload_n C d_Mo_perform_194 rfl ?_
      refine k_getr C d_Mo_perform_195 fg_Mo_52 (by decide) rfl ?_
      refine k_iload C d_Mo_perform_198 rfl ?_
      refine k_dup2 C d_Mo_perform_200 rfl rfl ?_
      refine k_iaload C d_Mo_perform_201 am_15 (by decide) (mx (g) 4 (a) 24 (by omega) (by decide)).1 (mx (g) 4 (a) 24 (by omega) (by decide)).2 ?_
      refine k_iload C d_Mo_perform_202 rfl ?_
      refine k_idiv C d_Mo_perform_204 (by first | decide | assumption) ?_
      refine k_iastore C d_Mo_perform_205 am_15 (by decide) (mx (g) 4 (a) 24 (by omega) (by decide)).1 (mx (g) 4 (a) 24 (by omega) (by decide)).2 I0 (trivial) (fun I7 => ?_)
      refine k_iconst C d_Mo_perform_206 (v := 0) (by decide) ?_
      exact k_ireturn C (E.to (by first | (simp only [mpT_0, mpT_1, mpT_2, mpT_3, mpT_4, mpT_5, mpT_6, mpT_7, mpT_8, mpT_9, mpT_10, mpT_11, mpT_12, mpT_13, mpT_14, mpT_15, mpT_16, mpT_17, mpT_18, mpT_19, mpT_20, mpT_21, mpX_0, mpX_1, mpX_2, mpX_3, mpX_4, mpX_5, mpX_6, mpX_7, mpX_8, mpX_9, mpX_10, mpX_11, mpX_12, mpX_13, mpX_14, mpX_15, mpX_16, mpX_17, mpX_18, mpX_19, mpX_20, mpX_21, m_rpE, h6, ↓reduceIte]; done) | (simp only [mpT_0, mpT_1, mpT_2, mpT_3, mpT_4, mpT_5, mpT_6, mpT_7, mpT_8, mpT_9, mpT_10, mpT_11, mpT_12, mpT_13, mpT_14, mpT_15, mpT_16, mpT_17, mpT_18, mpT_19, mpT_20, mpT_21, mpX_0, mpX_1, mpX_2, mpX_3, mpX_4, mpX_5, mpX_6, mpX_7, mpX_8, mpX_9, mpX_10, mpX_11, mpX_12, mpX_13, mpX_14, mpX_15, mpX_16, mpX_17, mpX_18, mpX_19, mpX_20, mpX_21, m_rpE, h6, ↓reduceIte]; rfl) | contradiction | rfl) (by first | (simp only [mpT_0, mpT_1, mpT_2, mpT_3, mpT_4, mpT_5, mpT_6, mpT_7, mpT_8, mpT_9, mpT_10, mpT_11, mpT_12, mpT_13, mpT_14, mpT_15, mpT_16, mpT_17, mpT_18, mpT_19, mpT_20, mpT_21, mpX_0, mpX_1, mpX_2, mpX_3, mpX_4, mpX_5, mpX_6, mpX_7, mpX_8, mpX_9, mpX_10, mpX_11, mpX_12, mpX_13, mpX_14, mpX_15, mpX_16, mpX_17, mpX_18, mpX_19, mpX_20, mpX_21, m_rpE, h6, ↓reduceIte]; done) | (simp only [mpT_0, mpT_1, mpT_2, mpT_3, mpT_4, mpT_5, mpT_6, mpT_7, mpT_8, mpT_9, mpT_10, mpT_11, mpT_12, mpT_13, mpT_14, mpT_15, mpT_16, mpT_17, mpT_18, mpT_19, mpT_20, mpT_21, mpX_0, mpX_1, mpX_2, mpX_3, mpX_4, mpX_5, mpX_6, mpX_7, mpX_8, mpX_9, mpX_10, mpX_11, mpX_12, mpX_13, mpX_14, mpX_15, mpX_16, mpX_17, mpX_18, mpX_19, mpX_20, mpX_21, m_rpE, h6, ↓reduceIte]; rfl) | contradiction | rfl)) d_Mo_perform_207
    · refine k_iconst C d_Mo_perform_192 (v := 1) (by decide) ?_
      exact k_ireturn C (E.to (by first | (simp only [mpT_0, mpT_1, mpT_2, mpT_3, mpT_4, mpT_5, mpT_6, mpT_7, mpT_8, mpT_9, mpT_10, mpT_11, mpT_12, mpT_13, mpT_14, mpT_15, mpT_16, mpT_17, mpT_18, mpT_19, mpT_20, mpT_21, mpX_0, mpX_1, mpX_2, mpX_3, mpX_4, mpX_5, mpX_6, mpX_7, mpX_8, mpX_9, mpX_10, mpX_11, mpX_12, mpX_13, mpX_14, mpX_15, mpX_16, mpX_17, mpX_18, mpX_19, mpX_20, mpX_21, m_rpE, h6, ↓reduceIte]; done) | (simp only [mpT_0, mpT_1, mpT_2, mpT_3, mpT_4, mpT_5, mpT_6, mpT_7, mpT_8, mpT_9, mpT_10, mpT_11, mpT_12, mpT_13, mpT_14, mpT_15, mpT_16, mpT_17, mpT_18, mpT_19, mpT_20, mpT_21, mpX_0, mpX_1, mpX_2, mpX_3, mpX_4, mpX_5, mpX_6, mpX_7, mpX_8, mpX_9, mpX_10, mpX_11, mpX_12, mpX_13, mpX_14, mpX_15, mpX_16, mpX_17, mpX_18, mpX_19, mpX_20, mpX_21, m_rpE, h6, ↓reduceIte]; rfl) | contradiction | rfl) (by first | (simp only [mpT_0, mpT_1, mpT_2, mpT_3, mpT_4, mpT_5, mpT_6, mpT_7, mpT_8, mpT_9, mpT_10, mpT_11, mpT_12, mpT_13, mpT_14, mpT_15, mpT_16, mpT_17, mpT_18, mpT_19, mpT_20, mpT_21, mpX_0, mpX_1, mpX_2, mpX_3, mpX_4, mpX_5, mpX_6, mpX_7, mpX_8, mpX_9, mpX_10, mpX_11, mpX_12, mpX_13, mpX_14, mpX_15, mpX_16, mpX_17, mpX_18, mpX_19, mpX_20, mpX_21, m_rpE, h6, ↓reduceIte]; done) | (simp only [mpT_0, mpT_1, mpT_2, mpT_3, mpT_4, mpT_5, mpT_6, mpT_7, mpT_8, mpT_9, mpT_10, mpT_11, mpT_12, mpT_13, mpT_14, mpT_15, mpT_16, mpT_17, mpT_18, mpT_19, mpT_20, mpT_21, mpX_0, mpX_1, mpX_2, mpX_3, mpX_4, mpX_5, mpX_6, mpX_7, mpX_8, mpX_9, mpX_10, mpX_11, mpX_12, mpX_13, mpX_14, mpX_15, mpX_16, mpX_17, mpX_18, mpX_19, mpX_20, mpX_21, m_rpE, h6, ↓reduceIte]; rfl) | contradiction | rfl)) d_Mo_perform_193
  · refine k_tabIn C d_Mo_perform_21 (by decide) (by decide) (off := 187) (by decide) (tgt := 208) (by decide) ?_
    refine k_aload_n C d_Mo_perform_208 rfl ?_
    refine k_iload_n C d_Mo_perform_209 rfl ?_
    refine k_iload C d_Mo_perform_210 rfl ?_
    refine k_iload C d_Mo_perform_212 rfl ?_
    refine k_iadd C d_Mo_perform_214 ?_
    refine k_callVi C kg_all (c_Mo_where l G _ _ _ g rfl I0 hg) cs_Mo_131 cv_Mo_where om_0 (by decide) rfl rfl (Nat.le_of_ble_eq_true rfl) ⟨rfl, rfl⟩ ⟨by decide, by decide⟩ ⟨Nat.zero_le _, Nat.zero_le _⟩ d_Mo_perform_215 I0 (fun I8 => ?_)
    refine k_istore C d_Mo_perform_218 (by decide) ?_
    refine k_iload C d_Mo_perform_220 rfl ?_
    refine k_if_ge C d_Mo_perform_222 (tgt := 229) (by decide) (fun h9 => ?_) (fun h9 => ?_)
    · refine k_iload_n C d_Mo_perform_229 rfl ?_
      refine k_bipush C d_Mo_perform_230 (v := 7) (by decide) ?_
      refine k_icmp_ne C d_Mo_perform_232 (tgt := 252) (by decide) (fun h => absurd h (by decide)) (fun _ => ?_)
      refine k_aload_n C d_Mo_perform_235 rfl ?_
      refine k_getr C d_Mo_perform_236 fg_Mo_52 (by decide) rfl ?_
      refine k_iload C d_Mo_perform_239 rfl ?_
      refine k_aload_n C d_Mo_perform_241 rfl ?_
      refine k_getr C d_Mo_perform_242 fg_Mo_58 (by decide) rfl ?_
      refine k_iload C d_Mo_perform_245 rfl ?_
      refine k_iaload C d_Mo_perform_247 am_17 (by decide) (m_whv I0 ‹_›) rfl ?_
      refine k_iastore C d_Mo_perform_248 am_15 (by decide) (mx (g) 4 (a) 24 (by omega) (by decide)).1 (mx (g) 4 (a) 24 (by omega) (by decide)).2 I8 (trivial) (fun I10 => ?_)
      refine k_goto C d_Mo_perform_249 (tgt := 266) (by decide) ?_
      refine k_iconst C d_Mo_perform_266 (v := 0) (by decide) ?_
      exact k_ireturn C (E.to (by first | (simp only [mpT_0, mpT_1, mpT_2, mpT_3, mpT_4, mpT_5, mpT_6, mpT_7, mpT_8, mpT_9, mpT_10, mpT_11, mpT_12, mpT_13, mpT_14, mpT_15, mpT_16, mpT_17, mpT_18, mpT_19, mpT_20, mpT_21, mpX_0, mpX_1, mpX_2, mpX_3, mpX_4, mpX_5, mpX_6, mpX_7, mpX_8, mpX_9, mpX_10, mpX_11, mpX_12, mpX_13, mpX_14, mpX_15, mpX_16, mpX_17, mpX_18, mpX_19, mpX_20, mpX_21, m_rpE, h9, ↓reduceIte]; done) | (simp only [mpT_0, mpT_1, mpT_2, mpT_3, mpT_4, mpT_5, mpT_6, mpT_7, mpT_8, mpT_9, mpT_10, mpT_11, mpT_12, mpT_13, mpT_14, mpT_15, mpT_16, mpT_17, mpT_18, mpT_19, mpT_20, mpT_21, mpX_0, mpX_1, mpX_2, mpX_3, mpX_4, mpX_5, mpX_6, mpX_7, mpX_8, mpX_9, mpX_10, mpX_11, mpX_12, mpX_13, mpX_14, mpX_15, mpX_16, mpX_17, mpX_18, mpX_19, mpX_20, mpX_21, m_rpE, h9, ↓reduceIte]; rfl) | contradiction | rfl) (by first | (simp only [mpT_0, mpT_1, mpT_2, mpT_3, mpT_4, mpT_5, mpT_6, mpT_7, mpT_8, mpT_9, mpT_10, mpT_11, mpT_12, mpT_13, mpT_14, mpT_15, mpT_16, mpT_17, mpT_18, mpT_19, mpT_20, mpT_21, mpX_0, mpX_1, mpX_2, mpX_3, mpX_4, mpX_5, mpX_6, mpX_7, mpX_8, mpX_9, mpX_10, mpX_11, mpX_12, mpX_13, mpX_14, mpX_15, mpX_16, mpX_17, mpX_18, mpX_19, mpX_20, mpX_21, m_rpE, h9, ↓reduceIte]; done) | (simp only [mpT_0, mpT_1, mpT_2, mpT_3, mpT_4, mpT_5, mpT_6, mpT_7, mpT_8, mpT_9, mpT_10, mpT_11, mpT_12, mpT_13, mpT_14, mpT_15, mpT_16, mpT_17, mpT_18, mpT_19, mpT_20, mpT_21, mpX_0, mpX_1, mpX_2, mpX_3, mpX_4, mpX_5, mpX_6, mpX_7, mpX_8, mpX_9, mpX_10, mpX_11, mpX_12, mpX_13, mpX_14, mpX_15, mpX_16, mpX_17, mpX_18, mpX_19, mpX_20, mpX_21, m_rpE, h9, ↓reduceIte]; rfl) | contradiction | rfl)) d_Mo_perform_267
    · refine k_iload C d_Mo_perform_225 rfl ?_
      refine k_ineg C d_Mo_perform_227 ?_
      exact k_ireturn C (E.to (by first | (simp only [mpT_0, mpT_1, mpT_2, mpT_3, mpT_4, mpT_5, mpT_6, mpT_7, mpT_8, mpT_9, mpT_10, mpT_11, mpT_12, mpT_13, mpT_14, mpT_15, mpT_16, mpT_17, mpT_18, mpT_19, mpT_20, mpT_21, mpX_0, mpX_1, mpX_2, mpX_3, mpX_4, mpX_5, mpX_6, mpX_7, mpX_8, mpX_9, mpX_10, mpX_11, mpX_12, mpX_13, mpX_14, mpX_15, mpX_16, mpX_17, mpX_18, mpX_19, mpX_20, mpX_21, m_rpE, h9, ↓reduceIte]; done) | (simp only [mpT_0, mpT_1, mpT_2, mpT_3, mpT_4, mpT_5, mpT_6, mpT_7, mpT_8, mpT_9, mpT_10, mpT_11, mpT_12, mpT_13, mpT_14, mpT_15, mpT_16, mpT_17, mpT_18, mpT_19, mpT_20, mpT_21, mpX_0, mpX_1, mpX_2, mpX_3, mpX_4, mpX_5, mpX_6, mpX_7, mpX_8, mpX_9, mpX_10, mpX_11, mpX_12, mpX_13, mpX_14, mpX_15, mpX_16, mpX_17, mpX_18, mpX_19, mpX_20, mpX_21, m_rpE, h9, ↓reduceIte]; rfl) | contradiction | rfl) (by first | (simp only [mpT_0, mpT_1, mpT_2, mpT_3, mpT_4, mpT_5, mpT_6, mpT_7, mpT_8, mpT_9, mpT_10, mpT_11, mpT_12, mpT_13, mpT_14, mpT_15, mpT_16, mpT_17, mpT_18, mpT_19, mpT_20, mpT_21, mpX_0, mpX_1, mpX_2, mpX_3, mpX_4, mpX_5, mpX_6, mpX_7, mpX_8, mpX_9, mpX_10, mpX_11, mpX_12, mpX_13, mpX_14, mpX_15, mpX_16, mpX_17, mpX_18, mpX_19, mpX_20, mpX_21, m_rpE, h9, ↓reduceIte]; done) | (simp only [mpT_0, mpT_1, mpT_2, mpT_3, mpT_4, mpT_5, mpT_6, mpT_7, mpT_8, mpT_9, mpT_10, mpT_11, mpT_12, mpT_13, mpT_14, mpT_15, mpT_16, mpT_17, mpT_18, mpT_19, mpT_20, mpT_21, mpX_0, mpX_1, mpX_2, mpX_3, mpX_4, mpX_5, mpX_6, mpX_7, mpX_8, mpX_9, mpX_10, mpX_11, mpX_12, mpX_13, mpX_14, mpX_15, mpX_16, mpX_17, mpX_18, mpX_19, mpX_20, mpX_21, m_rpE, h9, ↓reduceIte]; rfl) | contradiction | rfl)) d_Mo_perform_228
  · refine k_tabIn C d_Mo_perform_21 (by decide) (by decide) (off := 187) (by decide) (tgt := 208) (by decide) ?_
    refine k_aload_n C d_Mo_perform_208 rfl ?_
    refine k_iload_n C d_Mo_perform_209 rfl ?_
    refine k_iload C d_Mo_perform_210 rfl ?_
    refine k_iload C d_Mo_perform_212 rfl ?_
    refine k_iadd C d_Mo_perform_214 ?_
    refine k_callVi C kg_all (c_Mo_where l G _ _ _ g rfl I0 hg) cs_Mo_131 cv_Mo_where om_0 (by decide) rfl rfl (Nat.le_of_ble_eq_true rfl) ⟨rfl, rfl⟩ ⟨by decide, by decide⟩ ⟨Nat.zero_le _, Nat.zero_le _⟩ d_Mo_perform_215 I0 (fun I11 => ?_)
    refine k_istore C d_Mo_perform_218 (by decide) ?_
    refine k_iload C d_Mo_perform_220 rfl ?_
    refine k_if_ge C d_Mo_perform_222 (tgt := 229) (by decide) (fun h12 => ?_) (fun h12 => ?_)
    · refine k_iload_n C d_Mo_perform_229 rfl ?_
      refine k_bipush C d_Mo_perform_230 (v := 7) (by decide) ?_
      refine k_icmp_ne C d_Mo_perform_232 (tgt := 252) (by decide) (fun _ => ?_) (fun h => absurd h (by decide))
      refine k_aload_n C d_Mo_perform_252 rfl ?_
      refine k_getr C d_Mo_perform_253 fg_Mo_58 (by decide) rfl ?_
      refine k_iload C d_Mo_perform_256 rfl ?_
      refine k_aload_n C d_Mo_perform_258 rfl ?_
      refine k_getr C d_Mo_perform_259 fg_Mo_52 (by decide) rfl ?_
      refine k_iload C d_Mo_perform_262 rfl ?_
      refine k_iaload C d_Mo_perform_264 am_15 (by decide) (mx (g) 4 (a) 24 (by omega) (by decide)).1 (mx (g) 4 (a) 24 (by omega) (by decide)).2 ?_
      refine k_iastore C d_Mo_perform_265 am_17 (by decide) (m_whv I0 ‹_›) rfl I11 (trivial) (fun I13 => ?_)
      refine k_iconst C d_Mo_perform_266 (v := 0) (by decide) ?_
      exact k_ireturn C (E.to (by first | (simp only [mpT_0, mpT_1, mpT_2, mpT_3, mpT_4, mpT_5, mpT_6, mpT_7, mpT_8, mpT_9, mpT_10, mpT_11, mpT_12, mpT_13, mpT_14, mpT_15, mpT_16, mpT_17, mpT_18, mpT_19, mpT_20, mpT_21, mpX_0, mpX_1, mpX_2, mpX_3, mpX_4, mpX_5, mpX_6, mpX_7, mpX_8, mpX_9, mpX_10, mpX_11, mpX_12, mpX_13, mpX_14, mpX_15, mpX_16, mpX_17, mpX_18, mpX_19, mpX_20, mpX_21, m_rpE, h12, ↓reduceIte]; done) | (simp only [mpT_0, mpT_1, mpT_2, mpT_3, mpT_4, mpT_5, mpT_6, mpT_7, mpT_8, mpT_9, mpT_10, mpT_11, mpT_12, mpT_13, mpT_14, mpT_15, mpT_16, mpT_17, mpT_18, mpT_19, mpT_20, mpT_21, mpX_0, mpX_1, mpX_2, mpX_3, mpX_4, mpX_5, mpX_6, mpX_7, mpX_8, mpX_9, mpX_10, mpX_11, mpX_12, mpX_13, mpX_14, mpX_15, mpX_16, mpX_17, mpX_18, mpX_19, mpX_20, mpX_21, m_rpE, h12, ↓reduceIte]; rfl) | contradiction | rfl) (by first | (simp only [mpT_0, mpT_1, mpT_2, mpT_3, mpT_4, mpT_5, mpT_6, mpT_7, mpT_8, mpT_9, mpT_10, mpT_11, mpT_12, mpT_13, mpT_14, mpT_15, mpT_16, mpT_17, mpT_18, mpT_19, mpT_20, mpT_21, mpX_0, mpX_1, mpX_2, mpX_3, mpX_4, mpX_5, mpX_6, mpX_7, mpX_8, mpX_9, mpX_10, mpX_11, mpX_12, mpX_13, mpX_14, mpX_15, mpX_16, mpX_17, mpX_18, mpX_19, mpX_20, mpX_21, m_rpE, h12, ↓reduceIte]; done) | (simp only [mpT_0, mpT_1, mpT_2, mpT_3, mpT_4, mpT_5, mpT_6, mpT_7, mpT_8, mpT_9, mpT_10, mpT_11, mpT_12, mpT_13, mpT_14, mpT_15, mpT_16, mpT_17, mpT_18, mpT_19, mpT_20, mpT_21, mpX_0, mpX_1, mpX_2, mpX_3, mpX_4, mpX_5, mpX_6, mpX_7, mpX_8, mpX_9, mpX_10, mpX_11, mpX_12, mpX_13, mpX_14, mpX_15, mpX_16, mpX_17, mpX_18, mpX_19, mpX_20, mpX_21, m_rpE, h12, ↓reduceIte]; rfl) | contradiction | rfl)) d_Mo_perform_267
    · refine k_iload C d_Mo_perform_225 rfl ?_
      refine k_ineg C d_Mo_perform_227 ?_
      exact k_ireturn C (E.to (by first | (simp only [mpT_0, mpT_1, mpT_2, mpT_3, mpT_4, mpT_5, mpT_6, mpT_7, mpT_8, mpT_9, mpT_10, mpT_11, mpT_12, mpT_13, mpT_14, mpT_15, mpT_16, mpT_17, mpT_18, mpT_19, mpT_20, mpT_21, mpX_0, mpX_1, mpX_2, mpX_3, mpX_4, mpX_5, mpX_6, mpX_7, mpX_8, mpX_9, mpX_10, mpX_11, mpX_12, mpX_13, mpX_14, mpX_15, mpX_16, mpX_17, mpX_18, mpX_19, mpX_20, mpX_21, m_rpE, h12, ↓reduceIte]; done) | (simp only [mpT_0, mpT_1, mpT_2, mpT_3, mpT_4, mpT_5, mpT_6, mpT_7, mpT_8, mpT_9, mpT_10, mpT_11, mpT_12, mpT_13, mpT_14, mpT_15, mpT_16, mpT_17, mpT_18, mpT_19, mpT_20, mpT_21, mpX_0, mpX_1, mpX_2, mpX_3, mpX_4, mpX_5, mpX_6, mpX_7, mpX_8, mpX_9, mpX_10, mpX_11, mpX_12, mpX_13, mpX_14, mpX_15, mpX_16, mpX_17, mpX_18, mpX_19, mpX_20, mpX_21, m_rpE, h12, ↓reduceIte]; rfl) | contradiction | rfl) (by first | (simp only [mpT_0, mpT_1, mpT_2, mpT_3, mpT_4, mpT_5, mpT_6, mpT_7, mpT_8, mpT_9, mpT_10, mpT_11, mpT_12, mpT_13, mpT_14, mpT_15, mpT_16, mpT_17, mpT_18, mpT_19, mpT_20, mpT_21, mpX_0, mpX_1, mpX_2, mpX_3, mpX_4, mpX_5, mpX_6, mpX_7, mpX_8, mpX_9, mpX_10, mpX_11, mpX_12, mpX_13, mpX_14, mpX_15, mpX_16, mpX_17, mpX_18, mpX_19, mpX_20, mpX_21, m_rpE, h12, ↓reduceIte]; done) | (simp only [mpT_0, mpT_1, mpT_2, mpT_3, mpT_4, mpT_5, mpT_6, mpT_7, mpT_8, mpT_9, mpT_10, mpT_11, mpT_12, mpT_13, mpT_14, mpT_15, mpT_16, mpT_17, mpT_18, mpT_19, mpT_20, mpT_21, mpX_0, mpX_1, mpX_2, mpX_3, mpX_4, mpX_5, mpX_6, mpX_7, mpX_8, mpX_9, mpX_10, mpX_11, mpX_12, mpX_13, mpX_14, mpX_15, mpX_16, mpX_17, mpX_18, mpX_19, mpX_20, mpX_21, m_rpE, h12, ↓reduceIte]; rfl) | contradiction | rfl)) d_Mo_perform_228
  · refine k_tabIn C d_Mo_perform_21 (by decide) (by decide) (off := 435) (by decide) (tgt := 456) (by decide) ?_
    refine k_iconst C d_Mo_perform_456 (v := 0) (by decide) ?_
    exact k_ireturn C (E.to (by first | (simp only [mpT_0, mpT_1, mpT_2, mpT_3, mpT_4, mpT_5, mpT_6, mpT_7, mpT_8, mpT_9, mpT_10, mpT_11, mpT_12, mpT_13, mpT_14, mpT_15, mpT_16, mpT_17, mpT_18, mpT_19, mpT_20, mpT_21, mpX_0, mpX_1, mpX_2, mpX_3, mpX_4, mpX_5, mpX_6, mpX_7, mpX_8, mpX_9, mpX_10, mpX_11, mpX_12, mpX_13, mpX_14, mpX_15, mpX_16, mpX_17, mpX_18, mpX_19, mpX_20, mpX_21, m_rpE, ↓reduceIte]; done) | (simp only [mpT_0, mpT_1, mpT_2, mpT_3, mpT_4, mpT_5, mpT_6, mpT_7, mpT_8, mpT_9, mpT_10, mpT_11, mpT_12, mpT_13, mpT_14, mpT_15, mpT_16, mpT_17, mpT_18, mpT_19, mpT_20, mpT_21, mpX_0, mpX_1, mpX_2, mpX_3, mpX_4, mpX_5, mpX_6, mpX_7, mpX_8, mpX_9, mpX_10, mpX_11, mpX_12, mpX_13, mpX_14, mpX_15, mpX_16, mpX_17, mpX_18, mpX_19, mpX_20, mpX_21, m_rpE, ↓reduceIte]; rfl) | contradiction | rfl) (by first | (simp only [mpT_0, mpT_1, mpT_2, mpT_3, mpT_4, mpT_5, mpT_6, mpT_7, mpT_8, mpT_9, mpT_10, mpT_11, mpT_12, mpT_13, mpT_14, mpT_15, mpT_16, mpT_17, mpT_18, mpT_19, mpT_20, mpT_21, mpX_0, mpX_1, mpX_2, mpX_3, mpX_4, mpX_5, mpX_6, mpX_7, mpX_8, mpX_9, mpX_10, mpX_11, mpX_12, mpX_13, mpX_14, mpX_15, mpX_16, mpX_17, mpX_18, mpX_19, mpX_20, mpX_21, m_rpE, ↓reduceIte]; done) | (simp only [mpT_0, mpT_1, mpT_2, mpT_3, mpT_4, mpT_5, mpT_6, mpT_7, mpT_8, mpT_9, mpT_10, mpT_11, mpT_12, mpT_13, mpT_14, mpT_15, mpT_16, mpT_17, mpT_18, mpT_19, mpT_20, mpT_21, mpX_0, mpX_1, mpX_2, mpX_3, mpX_4, mpX_5, mpX_6, mpX_7, mpX_8, mpX_9, mpX_10, mpX_11, mpX_12, mpX_13, mpX_14, mpX_15, mpX_16, mpX_17, mpX_18, mpX_19, mpX_20, mpX_21, m_rpE, ↓reduceIte]; rfl) | contradiction | rfl)) d_Mo_perform_457
  · refine k_tabIn C d_Mo_perform_21 (by decide) (by decide) (off := 435) (by decide) (tgt := 456) (by decide) ?_
    refine k_iconst C d_Mo_perform_456 (v := 0) (by decide) ?_
    exact k_ireturn C (E.to (by first | (simp only [mpT_0, mpT_1, mpT_2, mpT_3, mpT_4, mpT_5, mpT_6, mpT_7, mpT_8, mpT_9, mpT_10, mpT_11, mpT_12, mpT_13, mpT_14, mpT_15, mpT_16, mpT_17, mpT_18, mpT_19, mpT_20, mpT_21, mpX_0, mpX_1, mpX_2, mpX_3, mpX_4, mpX_5, mpX_6, mpX_7, mpX_8, mpX_9, mpX_10, mpX_11, mpX_12, mpX_13, mpX_14, mpX_15, mpX_16, mpX_17, mpX_18, mpX_19, mpX_20, mpX_21, m_rpE, ↓reduceIte]; done) | (simp only [mpT_0, mpT_1, mpT_2, mpT_3, mpT_4, mpT_5, mpT_6, mpT_7, mpT_8, mpT_9, mpT_10, mpT_11, mpT_12, mpT_13, mpT_14, mpT_15, mpT_16, mpT_17, mpT_18, mpT_19, mpT_20, mpT_21, mpX_0, mpX_1, mpX_2, mpX_3, mpX_4, mpX_5, mpX_6, mpX_7, mpX_8, mpX_9, mpX_10, mpX_11, mpX_12, mpX_13, mpX_14, mpX_15, mpX_16, mpX_17, mpX_18, mpX_19, mpX_20, mpX_21, m_rpE, ↓reduceIte]; rfl) | contradiction | rfl) (by first | (simp only [mpT_0, mpT_1, mpT_2, mpT_3, mpT_4, mpT_5, mpT_6, mpT_7, mpT_8, mpT_9, mpT_10, mpT_11, mpT_12, mpT_13, mpT_14, mpT_15, mpT_16, mpT_17, mpT_18, mpT_19, mpT_20, mpT_21, mpX_0, mpX_1, mpX_2, mpX_3, mpX_4, mpX_5, mpX_6, mpX_7, mpX_8, mpX_9, mpX_10, mpX_11, mpX_12, mpX_13, mpX_14, mpX_15, mpX_16, mpX_17, mpX_18, mpX_19, mpX_20, mpX_21, m_rpE, ↓reduceIte]; done) | (simp only [mpT_0, mpT_1, mpT_2, mpT_3, mpT_4, mpT_5, mpT_6, mpT_7, mpT_8, mpT_9, mpT_10, mpT_11, mpT_12, mpT_13, mpT_14, mpT_15, mpT_16, mpT_17, mpT_18, mpT_19, mpT_20, mpT_21, mpX_0, mpX_1, mpX_2, mpX_3, mpX_4, mpX_5, mpX_6, mpX_7, mpX_8, mpX_9, mpX_10, mpX_11, mpX_12, mpX_13, mpX_14, mpX_15, mpX_16, mpX_17, mpX_18, mpX_19, mpX_20, mpX_21, m_rpE, ↓reduceIte]; rfl) | contradiction | rfl)) d_Mo_perform_457
  · refine k_tabIn C d_Mo_perform_21 (by decide) (by decide) (off := 247) (by decide) (tgt := 268) (by decide) ?_
    refine k_aload_n C d_Mo_perform_268 rfl ?_
    refine k_getr C d_Mo_perform_269 fg_Mo_28 (by decide) rfl ?_
    refine k_iload_n C d_Mo_perform_272 rfl ?_
    refine k_iload C d_Mo_perform_273 rfl ?_
    refine k_if_ge C d_Mo_perform_275 (tgt := 282) (by decide) (fun h14 => ?_) (fun h14 => ?_)
    · refine k_iload C d_Mo_perform_282 rfl ?_
      refine k_bipush C d_Mo_perform_284 (v := 31) (by decide) ?_
      refine k_iand C d_Mo_perform_286 ?_
      refine k_iastore C d_Mo_perform_287 am_7 (by decide) (vp_in_nI (by omega) (by decide)) (nI_clamp (by omega)) I0 (Or.inr (m_31 n)) (fun I15 => ?_)
      refine k_iconst C d_Mo_perform_288 (v := 0) (by decide) ?_
      exact k_ireturn C (E.to (by first | (simp only [mpT_0, mpT_1, mpT_2, mpT_3, mpT_4, mpT_5, mpT_6, mpT_7, mpT_8, mpT_9, mpT_10, mpT_11, mpT_12, mpT_13, mpT_14, mpT_15, mpT_16, mpT_17, mpT_18, mpT_19, mpT_20, mpT_21, mpX_0, mpX_1, mpX_2, mpX_3, mpX_4, mpX_5, mpX_6, mpX_7, mpX_8, mpX_9, mpX_10, mpX_11, mpX_12, mpX_13, mpX_14, mpX_15, mpX_16, mpX_17, mpX_18, mpX_19, mpX_20, mpX_21, m_rpE, h14, ↓reduceIte]; done) | (simp only [mpT_0, mpT_1, mpT_2, mpT_3, mpT_4, mpT_5, mpT_6, mpT_7, mpT_8, mpT_9, mpT_10, mpT_11, mpT_12, mpT_13, mpT_14, mpT_15, mpT_16, mpT_17, mpT_18, mpT_19, mpT_20, mpT_21, mpX_0, mpX_1, mpX_2, mpX_3, mpX_4, mpX_5, mpX_6, mpX_7, mpX_8, mpX_9, mpX_10, mpX_11, mpX_12, mpX_13, mpX_14, mpX_15, mpX_16, mpX_17, mpX_18, mpX_19, mpX_20, mpX_21, m_rpE, h14, ↓reduceIte]; rfl) | contradiction | rfl) (by first | (simp only [mpT_0, mpT_1, mpT_2, mpT_3, mpT_4, mpT_5, mpT_6, mpT_7, mpT_8, mpT_9, mpT_10, mpT_11, mpT_12, mpT_13, mpT_14, mpT_15, mpT_16, mpT_17, mpT_18, mpT_19, mpT_20, mpT_21, mpX_0, mpX_1, mpX_2, mpX_3, mpX_4, mpX_5, mpX_6, mpX_7, mpX_8, mpX_9, mpX_10, mpX_11, mpX_12, mpX_13, mpX_14, mpX_15, mpX_16, mpX_17, mpX_18, mpX_19, mpX_20, mpX_21, m_rpE, h14, ↓reduceIte]; done) | (simp only [mpT_0, mpT_1, mpT_2, mpT_3, mpT_4, mpT_5, mpT_6, mpT_7, mpT_8, mpT_9, mpT_10, mpT_11, mpT_12, mpT_13, mpT_14, mpT_15, mpT_16, mpT_17, mpT_18, mpT_19, mpT_20, mpT_21, mpX_0, mpX_1, mpX_2, mpX_3, mpX_4, mpX_5, mpX_6, mpX_7, mpX_8, mpX_9, mpX_10, mpX_11, mpX_12, mpX_13, mpX_14, mpX_15, mpX_16, mpX_17, mpX_18, mpX_19, mpX_20, mpX_21, m_rpE, h14, ↓reduceIte]; rfl) | contradiction | rfl)) d_Mo_perform_289
    · refine k_iconst C d_Mo_perform_278 (v := (-1)) (by decide) ?_
      refine k_goto C d_Mo_perform_279 (tgt := 287) (by decide) ?_
      refine k_iastore C d_Mo_perform_287 am_7 (by decide) (vp_in_nI (by omega) (by decide)) (nI_clamp (by omega)) I0 (Or.inl rfl) (fun I16 => ?_)
      refine k_iconst C d_Mo_perform_288 (v := 0) (by decide) ?_
      exact k_ireturn C (E.to (by first | (simp only [mpT_0, mpT_1, mpT_2, mpT_3, mpT_4, mpT_5, mpT_6, mpT_7, mpT_8, mpT_9, mpT_10, mpT_11, mpT_12, mpT_13, mpT_14, mpT_15, mpT_16, mpT_17, mpT_18, mpT_19, mpT_20, mpT_21, mpX_0, mpX_1, mpX_2, mpX_3, mpX_4, mpX_5, mpX_6, mpX_7, mpX_8, mpX_9, mpX_10, mpX_11, mpX_12, mpX_13, mpX_14, mpX_15, mpX_16, mpX_17, mpX_18, mpX_19, mpX_20, mpX_21, m_rpE, h14, ↓reduceIte]; done) | (simp only [mpT_0, mpT_1, mpT_2, mpT_3, mpT_4, mpT_5, mpT_6, mpT_7, mpT_8, mpT_9, mpT_10, mpT_11, mpT_12, mpT_13, mpT_14, mpT_15, mpT_16, mpT_17, mpT_18, mpT_19, mpT_20, mpT_21, mpX_0, mpX_1, mpX_2, mpX_3, mpX_4, mpX_5, mpX_6, mpX_7, mpX_8, mpX_9, mpX_10, mpX_11, mpX_12, mpX_13, mpX_14, mpX_15, mpX_16, mpX_17, mpX_18, mpX_19, mpX_20, mpX_21, m_rpE, h14, ↓reduceIte]; rfl) | contradiction | rfl) (by first | (simp only [mpT_0, mpT_1, mpT_2, mpT_3, mpT_4, mpT_5, mpT_6, mpT_7, mpT_8, mpT_9, mpT_10, mpT_11, mpT_12, mpT_13, mpT_14, mpT_15, mpT_16, mpT_17, mpT_18, mpT_19, mpT_20, mpT_21, mpX_0, mpX_1, mpX_2, mpX_3, mpX_4, mpX_5, mpX_6, mpX_7, mpX_8, mpX_9, mpX_10, mpX_11, mpX_12, mpX_13, mpX_14, mpX_15, mpX_16, mpX_17, mpX_18, mpX_19, mpX_20, mpX_21, m_rpE, h14, ↓reduceIte]; done) | (simp only [mpT_0, mpT_1, mpT_2, mpT_3, mpT_4, mpT_5, mpT_6, mpT_7, mpT_8, mpT_9, mpT_10, mpT_11, mpT_12, mpT_13, mpT_14, mpT_15, mpT_16, mpT_17, mpT_18, mpT_19, mpT_20, mpT_21, mpX_0, mpX_1, mpX_2, mpX_3, mpX_4, mpX_5, mpX_6, mpX_7, mpX_8, mpX_9, mpX_10, mpX_11, mpX_12, mpX_13, mpX_14, mpX_15, mpX_16, mpX_17, mpX_18, mpX_19, mpX_20, mpX_21, m_rpE, h14, ↓reduceIte]; rfl) | contradiction | rfl)) d_Mo_perform_289
  · refine k_tabIn C d_Mo_perform_21 (by decide) (by decide) (off := 435) (by decide) (tgt := 456) (by decide) ?_
    refine k_iconst C d_Mo_perform_456 (v := 0) (by decide) ?_
    exact k_ireturn C (E.to (by first | (simp only [mpT_0, mpT_1, mpT_2, mpT_3, mpT_4, mpT_5, mpT_6, mpT_7, mpT_8, mpT_9, mpT_10, mpT_11, mpT_12, mpT_13, mpT_14, mpT_15, mpT_16, mpT_17, mpT_18, mpT_19, mpT_20, mpT_21, mpX_0, mpX_1, mpX_2, mpX_3, mpX_4, mpX_5, mpX_6, mpX_7, mpX_8, mpX_9, mpX_10, mpX_11, mpX_12, mpX_13, mpX_14, mpX_15, mpX_16, mpX_17, mpX_18, mpX_19, mpX_20, mpX_21, m_rpE, ↓reduceIte]; done) | (simp only [mpT_0, mpT_1, mpT_2, mpT_3, mpT_4, mpT_5, mpT_6, mpT_7, mpT_8, mpT_9, mpT_10, mpT_11, mpT_12, mpT_13, mpT_14, mpT_15, mpT_16, mpT_17, mpT_18, mpT_19, mpT_20, mpT_21, mpX_0, mpX_1, mpX_2, mpX_3, mpX_4, mpX_5, mpX_6, mpX_7, mpX_8, mpX_9, mpX_10, mpX_11, mpX_12, mpX_13, mpX_14, mpX_15, mpX_16, mpX_17, mpX_18, mpX_19, mpX_20, mpX_21, m_rpE, ↓reduceIte]; rfl) | contradiction | rfl) (by first | (simp only [mpT_0, mpT_1, mpT_2, mpT_3, mpT_4, mpT_5, mpT_6, mpT_7, mpT_8, mpT_9, mpT_10, mpT_11, mpT_12, mpT_13, mpT_14, mpT_15, mpT_16, mpT_17, mpT_18, mpT_19, mpT_20, mpT_21, mpX_0, mpX_1, mpX_2, mpX_3, mpX_4, mpX_5, mpX_6, mpX_7, mpX_8, mpX_9, mpX_10, mpX_11, mpX_12, mpX_13, mpX_14, mpX_15, mpX_16, mpX_17, mpX_18, mpX_19, mpX_20, mpX_21, m_rpE, ↓reduceIte]; done) | (simp only [mpT_0, mpT_1, mpT_2, mpT_3, mpT_4, mpT_5, mpT_6, mpT_7, mpT_8, mpT_9, mpT_10, mpT_11, mpT_12, mpT_13, mpT_14, mpT_15, mpT_16, mpT_17, mpT_18, mpT_19, mpT_20, mpT_21, mpX_0, mpX_1, mpX_2, mpX_3, mpX_4, mpX_5, mpX_6, mpX_7, mpX_8, mpX_9, mpX_10, mpX_11, mpX_12, mpX_13, mpX_14, mpX_15, mpX_16, mpX_17, mpX_18, mpX_19, mpX_20, mpX_21, m_rpE, ↓reduceIte]; rfl) | contradiction | rfl)) d_Mo_perform_457
  · refine k_tabIn C d_Mo_perform_21 (by decide) (by decide) (off := 269) (by decide) (tgt := 290) (by decide) ?_
    refine k_aload_n C d_Mo_perform_290 rfl ?_
    refine k_iload C d_Mo_perform_291 rfl ?_
    refine k_iconst C d_Mo_perform_293 (v := 3) (by decide) ?_
    refine k_callVi C kg_all (c_Mo_no l G _ _ _ I0) cs_Mo_102 cv_Mo_no om_0 (by decide) rfl rfl (Nat.le_of_ble_eq_true rfl) ⟨rfl, rfl⟩ ⟨by decide, by decide⟩ ⟨Nat.zero_le _, Nat.zero_le _⟩ d_Mo_perform_294 I0 (fun I17 => ?_)
    refine k_if_eq C d_Mo_perform_297 (tgt := 302) (by decide) (fun h18 => ?_) (fun h18 => ?_)
    · have hn := r_no (n := 3) (by decide) ‹_›
      have hn4 := k_lt hn
      refine k_aload_n C d_Mo_perform_302 rfl ?_
      refine k_getr C d_Mo_perform_303 fg_Mo_55 (by decide) rfl ?_
      refine k_iload_n C d_Mo_perform_306 rfl ?_
      refine k_iconst C d_Mo_perform_307 (v := 4) (by decide) ?_
      refine k_imul C d_Mo_perform_308 ?_
      refine k_iload C d_Mo_perform_309 rfl ?_
      refine k_top (r_id hn (by decide)) ?_
      refine k_iadd C d_Mo_perform_311 ?_
      refine k_iaload C d_Mo_perform_312 am_16 (by decide) (mx (g) 4 (n.toNatClampNeg) 24 (by omega) (by decide)).1 (mx (g) 4 (n.toNatClampNeg) 24 (by omega) (by decide)).2 ?_
      refine k_if_ge C d_Mo_perform_313 (tgt := 320) (by decide) (fun h19 => ?_) (fun h19 => ?_)
      · refine k_iconst C d_Mo_perform_320 (v := 1) (by decide) ?_
        refine k_istore C d_Mo_perform_321 (by decide) ?_
        refine k_iload_n C d_Mo_perform_323 rfl ?_
        refine k_bipush C d_Mo_perform_324 (v := 14) (by decide) ?_
        refine k_icmp_ne C d_Mo_perform_326 (tgt := 336) (by decide) (fun _ => ?_) (fun h => absurd h (by decide))
        refine k_aload_n C d_Mo_perform_336 rfl ?_
        refine k_getr C d_Mo_perform_337 fg_Mo_52 (by decide) rfl ?_
        refine k_iload C d_Mo_perform_340 rfl ?_
        refine k_iload_n C d_Mo_perform_342 rfl ?_
        refine k_bipush C d_Mo_perform_343 (v := 13) (by decide) ?_
        refine k_icmp_ne C d_Mo_perform_345 (tgt := 358) (by decide) (fun h => absurd h (by decide)) (fun _ => ?_)
        refine k_aload_n C d_Mo_perform_348 rfl ?_
        refine k_iload_n C d_Mo_perform_349 rfl ?_
        refine k_iload C d_Mo_perform_350 rfl ?_
        refine k_callVi C kg_all (c_Mo_map l G _ _ _ g n.toNatClampNeg rfl (r_id hn (by decide)) I17 hg hn4) cs_Mo_135 cv_Mo_map om_0 (by decide) rfl rfl (Nat.le_of_ble_eq_true rfl) ⟨rfl, rfl⟩ ⟨by decide, by decide⟩ ⟨Nat.zero_le _, Nat.zero_le _⟩ d_Mo_perform_352 (j_map I17).1 (fun I20 => ?_)
        refine k_goto C d_Mo_perform_355 (tgt := 360) (by decide) ?_
        refine k_iastore C d_Mo_perform_360 am_15 (by decide) (mx (g) 4 (a) 24 (by omega) (by decide)).1 (mx (g) 4 (a) 24 (by omega) (by decide)).2 I20 (trivial) (fun I21 => ?_)
        refine k_iconst C d_Mo_perform_361 (v := 0) (by decide) ?_
        exact k_ireturn C (E.to (by first | (simp only [mpT_0, mpT_1, mpT_2, mpT_3, mpT_4, mpT_5, mpT_6, mpT_7, mpT_8, mpT_9, mpT_10, mpT_11, mpT_12, mpT_13, mpT_14, mpT_15, mpT_16, mpT_17, mpT_18, mpT_19, mpT_20, mpT_21, mpX_0, mpX_1, mpX_2, mpX_3, mpX_4, mpX_5, mpX_6, mpX_7, mpX_8, mpX_9, mpX_10, mpX_11, mpX_12, mpX_13, mpX_14, mpX_15, mpX_16, mpX_17, mpX_18, mpX_19, mpX_20, mpX_21, m_rpE, h18, h19, ↓reduceIte]; done) | (simp only [mpT_0, mpT_1, mpT_2, mpT_3, mpT_4, mpT_5, mpT_6, mpT_7, mpT_8, mpT_9, mpT_10, mpT_11, mpT_12, mpT_13, mpT_14, mpT_15, mpT_16, mpT_17, mpT_18, mpT_19, mpT_20, mpT_21, mpX_0, mpX_1, mpX_2, mpX_3, mpX_4, mpX_5, mpX_6, mpX_7, mpX_8, mpX_9, mpX_10, mpX_11, mpX_12, mpX_13, mpX_14, mpX_15, mpX_16, mpX_17, mpX_18, mpX_19, mpX_20, mpX_21, m_rpE, h18, h19, ↓reduceIte]; rfl) | contradiction | rfl) (by first | (simp only [mpT_0, mpT_1, mpT_2, mpT_3, mpT_4, mpT_5, mpT_6, mpT_7, mpT_8, mpT_9, mpT_10, mpT_11, mpT_12, mpT_13, mpT_14, mpT_15, mpT_16, mpT_17, mpT_18, mpT_19, mpT_20, mpT_21, mpX_0, mpX_1, mpX_2, mpX_3, mpX_4, mpX_5, mpX_6, mpX_7, mpX_8, mpX_9, mpX_10, mpX_11, mpX_12, mpX_13, mpX_14, mpX_15, mpX_16, mpX_17, mpX_18, mpX_19, mpX_20, mpX_21, m_rpE, h18, h19, ↓reduceIte]; done) | (simp only [mpT_0, mpT_1, mpT_2, mpT_3, mpT_4, mpT_5, mpT_6, mpT_7, mpT_8, mpT_9, mpT_10, mpT_11, mpT_12, mpT_13, mpT_14, mpT_15, mpT_16, mpT_17, mpT_18, mpT_19, mpT_20, mpT_21, mpX_0, mpX_1, mpX_2, mpX_3, mpX_4, mpX_5, mpX_6, mpX_7, mpX_8, mpX_9, mpX_10, mpX_11, mpX_12, mpX_13, mpX_14, mpX_15, mpX_16, mpX_17, mpX_18, mpX_19, mpX_20, mpX_21, m_rpE, h18, h19, ↓reduceIte]; rfl) | contradiction | rfl)) d_Mo_perform_362
      · refine k_iconst C d_Mo_perform_316 (v := 0) (by decide) ?_
        refine k_goto C d_Mo_perform_317 (tgt := 321) (by decide) ?_
        refine k_istore C d_Mo_perform_321 (by decide) ?_
        refine k_iload_n C d_Mo_perform_323 rfl ?_
        refine k_bipush C d_Mo_perform_324 (v := 14) (by decide) ?_
        refine k_icmp_ne C d_Mo_perform_326 (tgt := 336) (by decide) (fun _ => ?_) (fun h => absurd h (by decide))
        refine k_aload_n C d_Mo_perform_336 rfl ?_
        refine k_getr C d_Mo_perform_337 fg_Mo_52 (by decide) rfl ?_
        refine k_iload C d_Mo_perform_340 rfl ?_
        refine k_iload_n C d_Mo_perform_342 rfl ?_
        refine k_bipush C d_Mo_perform_343 (v := 13) (by decide) ?_
        refine k_icmp_ne C d_Mo_perform_345 (tgt := 358) (by decide) (fun h => absurd h (by decide)) (fun _ => ?_)
        refine k_aload_n C d_Mo_perform_348 rfl ?_
        refine k_iload_n C d_Mo_perform_349 rfl ?_
        refine k_iload C d_Mo_perform_350 rfl ?_
        refine k_callVi C kg_all (c_Mo_map l G _ _ _ g n.toNatClampNeg rfl (r_id hn (by decide)) I17 hg hn4) cs_Mo_135 cv_Mo_map om_0 (by decide) rfl rfl (Nat.le_of_ble_eq_true rfl) ⟨rfl, rfl⟩ ⟨by decide, by decide⟩ ⟨Nat.zero_le _, Nat.zero_le _⟩ d_Mo_perform_352 (j_map I17).1 (fun I22 => ?_)
        refine k_goto C d_Mo_perform_355 (tgt := 360) (by decide) ?_
        refine k_iastore C d_Mo_perform_360 am_15 (by decide) (mx (g) 4 (a) 24 (by omega) (by decide)).1 (mx (g) 4 (a) 24 (by omega) (by decide)).2 I22 (trivial) (fun I23 => ?_)
        refine k_iconst C d_Mo_perform_361 (v := 0) (by decide) ?_
        exact k_ireturn C (E.to (by first | (simp only [mpT_0, mpT_1, mpT_2, mpT_3, mpT_4, mpT_5, mpT_6, mpT_7, mpT_8, mpT_9, mpT_10, mpT_11, mpT_12, mpT_13, mpT_14, mpT_15, mpT_16, mpT_17, mpT_18, mpT_19, mpT_20, mpT_21, mpX_0, mpX_1, mpX_2, mpX_3, mpX_4, mpX_5, mpX_6, mpX_7, mpX_8, mpX_9, mpX_10, mpX_11, mpX_12, mpX_13, mpX_14, mpX_15, mpX_16, mpX_17, mpX_18, mpX_19, mpX_20, mpX_21, m_rpE, h18, h19, ↓reduceIte]; done) | (simp only [mpT_0, mpT_1, mpT_2, mpT_3, mpT_4, mpT_5, mpT_6, mpT_7, mpT_8, mpT_9, mpT_10, mpT_11, mpT_12, mpT_13, mpT_14, mpT_15, mpT_16, mpT_17, mpT_18, mpT_19, mpT_20, mpT_21, mpX_0, mpX_1, mpX_2, mpX_3, mpX_4, mpX_5, mpX_6, mpX_7, mpX_8, mpX_9, mpX_10, mpX_11, mpX_12, mpX_13, mpX_14, mpX_15, mpX_16, mpX_17, mpX_18, mpX_19, mpX_20, mpX_21, m_rpE, h18, h19, ↓reduceIte]; rfl) | contradiction | rfl) (by first | (simp only [mpT_0, mpT_1, mpT_2, mpT_3, mpT_4, mpT_5, mpT_6, mpT_7, mpT_8, mpT_9, mpT_10, mpT_11, mpT_12, mpT_13, mpT_14, mpT_15, mpT_16, mpT_17, mpT_18, mpT_19, mpT_20, mpT_21, mpX_0, mpX_1, mpX_2, mpX_3, mpX_4, mpX_5, mpX_6, mpX_7, mpX_8, mpX_9, mpX_10, mpX_11, mpX_12, mpX_13, mpX_14, mpX_15, mpX_16, mpX_17, mpX_18, mpX_19, mpX_20, mpX_21, m_rpE, h18, h19, ↓reduceIte]; done) | (simp only [mpT_0, mpT_1, mpT_2, mpT_3, mpT_4, mpT_5, mpT_6, mpT_7, mpT_8, mpT_9, mpT_10, mpT_11, mpT_12, mpT_13, mpT_14, mpT_15, mpT_16, mpT_17, mpT_18, mpT_19, mpT_20, mpT_21, mpX_0, mpX_1, mpX_2, mpX_3, mpX_4, mpX_5, mpX_6, mpX_7, mpX_8, mpX_9, mpX_10, mpX_11, mpX_12, mpX_13, mpX_14, mpX_15, mpX_16, mpX_17, mpX_18, mpX_19, mpX_20, mpX_21, m_rpE, h18, h19, ↓reduceIte]; rfl) | contradiction | rfl)) d_Mo_perform_362
    · refine k_iconst C d_Mo_perform_300 (v := 4) (by decide) ?_
      exact k_ireturn C (E.to (by first | (simp only [mpT_0, mpT_1, mpT_2, mpT_3, mpT_4, mpT_5, mpT_6, mpT_7, mpT_8, mpT_9, mpT_10, mpT_11, mpT_12, mpT_13, mpT_14, mpT_15, mpT_16, mpT_17, mpT_18, mpT_19, mpT_20, mpT_21, mpX_0, mpX_1, mpX_2, mpX_3, mpX_4, mpX_5, mpX_6, mpX_7, mpX_8, mpX_9, mpX_10, mpX_11, mpX_12, mpX_13, mpX_14, mpX_15, mpX_16, mpX_17, mpX_18, mpX_19, mpX_20, mpX_21, m_rpE, h18, ↓reduceIte]; done) | (simp only [mpT_0, mpT_1, mpT_2, mpT_3, mpT_4, mpT_5, mpT_6, mpT_7, mpT_8, mpT_9, mpT_10, mpT_11, mpT_12, mpT_13, mpT_14, mpT_15, mpT_16, mpT_17, mpT_18, mpT_19, mpT_20, mpT_21, mpX_0, mpX_1, mpX_2, mpX_3, mpX_4, mpX_5, mpX_6, mpX_7, mpX_8, mpX_9, mpX_10, mpX_11, mpX_12, mpX_13, mpX_14, mpX_15, mpX_16, mpX_17, mpX_18, mpX_19, mpX_20, mpX_21, m_rpE, h18, ↓reduceIte]; rfl) | contradiction | rfl) (by first | (simp only [mpT_0, mpT_1, mpT_2, mpT_3, mpT_4, mpT_5, mpT_6, mpT_7, mpT_8, mpT_9, mpT_10, mpT_11, mpT_12, mpT_13, mpT_14, mpT_15, mpT_16, mpT_17, mpT_18, mpT_19, mpT_20, mpT_21, mpX_0, mpX_1, mpX_2, mpX_3, mpX_4, mpX_5, mpX_6, mpX_7, mpX_8, mpX_9, mpX_10, mpX_11, mpX_12, mpX_13, mpX_14, mpX_15, mpX_16, mpX_17, mpX_18, mpX_19, mpX_20, mpX_21, m_rpE, h18, ↓reduceIte]; done) | (simp only [mpT_0, mpT_1, mpT_2, mpT_3, mpT_4, mpT_5, mpT_6, mpT_7, mpT_8, mpT_9, mpT_10, mpT_11, mpT_12, mpT_13, mpT_14, mpT_15, mpT_16, mpT_17, mpT_18, mpT_19, mpT_20, mpT_21, mpX_0, mpX_1, mpX_2, mpX_3, mpX_4, mpX_5, mpX_6, mpX_7, mpX_8, mpX_9, mpX_10, mpX_11, mpX_12, mpX_13, mpX_14, mpX_15, mpX_16, mpX_17, mpX_18, mpX_19, mpX_20, mpX_21, m_rpE, h18, ↓reduceIte]; rfl) | contradiction | rfl)) d_Mo_perform_301
  · refine k_tabIn C d_Mo_perform_21 (by decide) (by decide) (off := 269) (by decide) (tgt := 290) (by decide) ?_
    refine k_aload_n C d_Mo_perform_290 rfl ?_
    refine k_iload C d_Mo_perform_291 rfl ?_
    refine k_iconst C d_Mo_perform_293 (v := 3) (by decide) ?_
    refine k_callVi C kg_all (c_Mo_no l G _ _ _ I0) cs_Mo_102 cv_Mo_no om_0 (by decide) rfl rfl (Nat.le_of_ble_eq_true rfl) ⟨rfl, rfl⟩ ⟨by decide, by decide⟩ ⟨Nat.zero_le _, Nat.zero_le _⟩ d_Mo_perform_294 I0 (fun I24 => ?_)
    refine k_if_eq C d_Mo_perform_297 (tgt := 302) (by decide) (fun h25 => ?_) (fun h25 => ?_)
    · have hn := r_no (n := 3) (by decide) ‹_›
      have hn4 := k_lt hn
      refine k_aload_n C d_Mo_perform_302 rfl ?_
      refine k_getr C d_Mo_perform_303 fg_Mo_55 (by decide) rfl ?_
      refine k_iload_n C d_Mo_perform_306 rfl ?_
      refine k_iconst C d_Mo_perform_307 (v := 4) (by decide) ?_
      refine k_imul C d_Mo_perform_308 ?_
      refine k_iload C d_Mo_perform_309 rfl ?_
      refine k_top (r_id hn (by decide)) ?_
      refine k_iadd C d_Mo_perform_311 ?_
      refine k_iaload C d_Mo_perform_312 am_16 (by decide) (mx (g) 4 (n.toNatClampNeg) 24 (by omega) (by decide)).1 (mx (g) 4 (n.toNatClampNeg) 24 (by omega) (by decide)).2 ?_
      refine k_if_ge C d_Mo_perform_313 (tgt := 320) (by decide) (fun h26 => ?_) (fun h26 => ?_)
      · refine k_iconst C d_Mo_perform_320 (v := 1) (by decide) ?_
        refine k_istore C d_Mo_perform_321 (by decide) ?_
        refine k_iload_n C d_Mo_perform_323 rfl ?_
        refine k_bipush C d_Mo_perform_324 (v := 14) (by decide) ?_
        refine k_icmp_ne C d_Mo_perform_326 (tgt := 336) (by decide) (fun h => absurd h (by decide)) (fun _ => ?_)
        refine k_aload_n C d_Mo_perform_329 rfl ?_
        refine k_iload_n C d_Mo_perform_330 rfl ?_
        refine k_iload C d_Mo_perform_331 rfl ?_
        refine k_callVv C kg_all (c_Mo_unmap l G _ _ _ g n.toNatClampNeg rfl (r_id hn (by decide)) I24 hg hn4) cs_Mo_110 cv_Mo_unmap om_0 (by decide) rfl rfl (Nat.le_of_ble_eq_true rfl) ⟨rfl, rfl⟩ ⟨by decide, by decide⟩ ⟨Nat.zero_le _, Nat.zero_le _⟩ d_Mo_perform_333 (iv_munmap I24) (fun I27 => ?_)
        refine k_aload_n C d_Mo_perform_336 rfl ?_
        refine k_getr C d_Mo_perform_337 fg_Mo_52 (by decide) rfl ?_
        refine k_iload C d_Mo_perform_340 rfl ?_
        refine k_iload_n C d_Mo_perform_342 rfl ?_
        refine k_bipush C d_Mo_perform_343 (v := 13) (by decide) ?_
        refine k_icmp_ne C d_Mo_perform_345 (tgt := 358) (by decide) (fun _ => ?_) (fun h => absurd h (by decide))
        refine k_iload C d_Mo_perform_358 rfl ?_
        refine k_iastore C d_Mo_perform_360 am_15 (by decide) (mx (g) 4 (a) 24 (by omega) (by decide)).1 (mx (g) 4 (a) 24 (by omega) (by decide)).2 I27 (trivial) (fun I28 => ?_)
        refine k_iconst C d_Mo_perform_361 (v := 0) (by decide) ?_
        exact k_ireturn C (E.to (by first | (simp only [mpT_0, mpT_1, mpT_2, mpT_3, mpT_4, mpT_5, mpT_6, mpT_7, mpT_8, mpT_9, mpT_10, mpT_11, mpT_12, mpT_13, mpT_14, mpT_15, mpT_16, mpT_17, mpT_18, mpT_19, mpT_20, mpT_21, mpX_0, mpX_1, mpX_2, mpX_3, mpX_4, mpX_5, mpX_6, mpX_7, mpX_8, mpX_9, mpX_10, mpX_11, mpX_12, mpX_13, mpX_14, mpX_15, mpX_16, mpX_17, mpX_18, mpX_19, mpX_20, mpX_21, m_rpE, h25, h26, ↓reduceIte]; done) | (simp only [mpT_0, mpT_1, mpT_2, mpT_3, mpT_4, mpT_5, mpT_6, mpT_7, mpT_8, mpT_9, mpT_10, mpT_11, mpT_12, mpT_13, mpT_14, mpT_15, mpT_16, mpT_17, mpT_18, mpT_19, mpT_20, mpT_21, mpX_0, mpX_1, mpX_2, mpX_3, mpX_4, mpX_5, mpX_6, mpX_7, mpX_8, mpX_9, mpX_10, mpX_11, mpX_12, mpX_13, mpX_14, mpX_15, mpX_16, mpX_17, mpX_18, mpX_19, mpX_20, mpX_21, m_rpE, h25, h26, ↓reduceIte]; rfl) | contradiction | rfl) (by first | (simp only [mpT_0, mpT_1, mpT_2, mpT_3, mpT_4, mpT_5, mpT_6, mpT_7, mpT_8, mpT_9, mpT_10, mpT_11, mpT_12, mpT_13, mpT_14, mpT_15, mpT_16, mpT_17, mpT_18, mpT_19, mpT_20, mpT_21, mpX_0, mpX_1, mpX_2, mpX_3, mpX_4, mpX_5, mpX_6, mpX_7, mpX_8, mpX_9, mpX_10, mpX_11, mpX_12, mpX_13, mpX_14, mpX_15, mpX_16, mpX_17, mpX_18, mpX_19, mpX_20, mpX_21, m_rpE, h25, h26, ↓reduceIte]; done) | (simp only [mpT_0, mpT_1, mpT_2, mpT_3, mpT_4, mpT_5, mpT_6, mpT_7, mpT_8, mpT_9, mpT_10, mpT_11, mpT_12, mpT_13, mpT_14, mpT_15, mpT_16, mpT_17, mpT_18, mpT_19, mpT_20, mpT_21, mpX_0, mpX_1, mpX_2, mpX_3, mpX_4, mpX_5, mpX_6, mpX_7, mpX_8, mpX_9, mpX_10, mpX_11, mpX_12, mpX_13, mpX_14, mpX_15, mpX_16, mpX_17, mpX_18, mpX_19, mpX_20, mpX_21, m_rpE, h25, h26, ↓reduceIte]; rfl) | contradiction | rfl)) d_Mo_perform_362
      · refine k_iconst C d_Mo_perform_316 (v := 0) (by decide) ?_
        refine k_goto C d_Mo_perform_317 (tgt := 321) (by decide) ?_
        refine k_istore C d_Mo_perform_321 (by decide) ?_
        refine k_iload_n C d_Mo_perform_323 rfl ?_
        refine k_bipush C d_Mo_perform_324 (v := 14) (by decide) ?_
        refine k_icmp_ne C d_Mo_perform_326 (tgt := 336) (by decide) (fun h => absurd h (by decide)) (fun _ => ?_)
        refine k_aload_n C d_Mo_perform_329 rfl ?_
        refine k_iload_n C d_Mo_perform_330 rfl ?_
        refine k_iload C d_Mo_perform_331 rfl ?_
        refine k_callVv C kg_all (c_Mo_unmap l G _ _ _ g n.toNatClampNeg rfl (r_id hn (by decide)) I24 hg hn4) cs_Mo_110 cv_Mo_unmap om_0 (by decide) rfl rfl (Nat.le_of_ble_eq_true rfl) ⟨rfl, rfl⟩ ⟨by decide, by decide⟩ ⟨Nat.zero_le _, Nat.zero_le _⟩ d_Mo_perform_333 (iv_munmap I24) (fun I29 => ?_)
        refine k_aload_n C d_Mo_perform_336 rfl ?_
        refine k_getr C d_Mo_perform_337 fg_Mo_52 (by decide) rfl ?_
        refine k_iload C d_Mo_perform_340 rfl ?_
        refine k_iload_n C d_Mo_perform_342 rfl ?_
        refine k_bipush C d_Mo_perform_343 (v := 13) (by decide) ?_
        refine k_icmp_ne C d_Mo_perform_345 (tgt := 358) (by decide) (fun _ => ?_) (fun h => absurd h (by decide))
        refine k_iload C d_Mo_perform_358 rfl ?_
        refine k_iastore C d_Mo_perform_360 am_15 (by decide) (mx (g) 4 (a) 24 (by omega) (by decide)).1 (mx (g) 4 (a) 24 (by omega) (by decide)).2 I29 (trivial) (fun I30 => ?_)
        refine k_iconst C d_Mo_perform_361 (v := 0) (by decide) ?_
        exact k_ireturn C (E.to (by first | (simp only [mpT_0, mpT_1, mpT_2, mpT_3, mpT_4, mpT_5, mpT_6, mpT_7, mpT_8, mpT_9, mpT_10, mpT_11, mpT_12, mpT_13, mpT_14, mpT_15, mpT_16, mpT_17, mpT_18, mpT_19, mpT_20, mpT_21, mpX_0, mpX_1, mpX_2, mpX_3, mpX_4, mpX_5, mpX_6, mpX_7, mpX_8, mpX_9, mpX_10, mpX_11, mpX_12, mpX_13, mpX_14, mpX_15, mpX_16, mpX_17, mpX_18, mpX_19, mpX_20, mpX_21, m_rpE, h25, h26, ↓reduceIte]; done) | (simp only [mpT_0, mpT_1, mpT_2, mpT_3, mpT_4, mpT_5, mpT_6, mpT_7, mpT_8, mpT_9, mpT_10, mpT_11, mpT_12, mpT_13, mpT_14, mpT_15, mpT_16, mpT_17, mpT_18, mpT_19, mpT_20, mpT_21, mpX_0, mpX_1, mpX_2, mpX_3, mpX_4, mpX_5, mpX_6, mpX_7, mpX_8, mpX_9, mpX_10, mpX_11, mpX_12, mpX_13, mpX_14, mpX_15, mpX_16, mpX_17, mpX_18, mpX_19, mpX_20, mpX_21, m_rpE, h25, h26, ↓reduceIte]; rfl) | contradiction | rfl) (by first | (simp only [mpT_0, mpT_1, mpT_2, mpT_3, mpT_4, mpT_5, mpT_6, mpT_7, mpT_8, mpT_9, mpT_10, mpT_11, mpT_12, mpT_13, mpT_14, mpT_15, mpT_16, mpT_17, mpT_18, mpT_19, mpT_20, mpT_21, mpX_0, mpX_1, mpX_2, mpX_3, mpX_4, mpX_5, mpX_6, mpX_7, mpX_8, mpX_9, mpX_10, mpX_11, mpX_12, mpX_13, mpX_14, mpX_15, mpX_16, mpX_17, mpX_18, mpX_19, mpX_20, mpX_21, m_rpE, h25, h26, ↓reduceIte]; done) | (simp only [mpT_0, mpT_1, mpT_2, mpT_3, mpT_4, mpT_5, mpT_6, mpT_7, mpT_8, mpT_9, mpT_10, mpT_11, mpT_12, mpT_13, mpT_14, mpT_15, mpT_16, mpT_17, mpT_18, mpT_19, mpT_20, mpT_21, mpX_0, mpX_1, mpX_2, mpX_3, mpX_4, mpX_5, mpX_6, mpX_7, mpX_8, mpX_9, mpX_10, mpX_11, mpX_12, mpX_13, mpX_14, mpX_15, mpX_16, mpX_17, mpX_18, mpX_19, mpX_20, mpX_21, m_rpE, h25, h26, ↓reduceIte]; rfl) | contradiction | rfl)) d_Mo_perform_362
    · refine k_iconst C d_Mo_perform_300 (v := 4) (by decide) ?_
      exact k_ireturn C (E.to (by first | (simp only [mpT_0, mpT_1, mpT_2, mpT_3, mpT_4, mpT_5, mpT_6, mpT_7, mpT_8, mpT_9, mpT_10, mpT_11, mpT_12, mpT_13, mpT_14, mpT_15, mpT_16, mpT_17, mpT_18, mpT_19, mpT_20, mpT_21, mpX_0, mpX_1, mpX_2, mpX_3, mpX_4, mpX_5, mpX_6, mpX_7, mpX_8, mpX_9, mpX_10, mpX_11, mpX_12, mpX_13, mpX_14, mpX_15, mpX_16, mpX_17, mpX_18, mpX_19, mpX_20, mpX_21, m_rpE, h25, ↓reduceIte]; done) | (simp only [mpT_0, mpT_1, mpT_2, mpT_3, mpT_4, mpT_5, mpT_6, mpT_7, mpT_8, mpT_9, mpT_10, mpT_11, mpT_12, mpT_13, mpT_14, mpT_15, mpT_16, mpT_17, mpT_18, mpT_19, mpT_20, mpT_21, mpX_0, mpX_1, mpX_2, mpX_3, mpX_4, mpX_5, mpX_6, mpX_7, mpX_8, mpX_9, mpX_10, mpX_11, mpX_12, mpX_13, mpX_14, mpX_15, mpX_16, mpX_17, mpX_18, mpX_19, mpX_20, mpX_21, m_rpE, h25, ↓reduceIte]; rfl) | contradiction | rfl) (by first | (simp only [mpT_0, mpT_1, mpT_2, mpT_3, mpT_4, mpT_5, mpT_6, mpT_7, mpT_8, mpT_9, mpT_10, mpT_11, mpT_12, mpT_13, mpT_14, mpT_15, mpT_16, mpT_17, mpT_18, mpT_19, mpT_20, mpT_21, mpX_0, mpX_1, mpX_2, mpX_3, mpX_4, mpX_5, mpX_6, mpX_7, mpX_8, mpX_9, mpX_10, mpX_11, mpX_12, mpX_13, mpX_14, mpX_15, mpX_16, mpX_17, mpX_18, mpX_19, mpX_20, mpX_21, m_rpE, h25, ↓reduceIte]; done) | (simp only [mpT_0, mpT_1, mpT_2, mpT_3, mpT_4, mpT_5, mpT_6, mpT_7, mpT_8, mpT_9, mpT_10, mpT_11, mpT_12, mpT_13, mpT_14, mpT_15, mpT_16, mpT_17, mpT_18, mpT_19, mpT_20, mpT_21, mpX_0, mpX_1, mpX_2, mpX_3, mpX_4, mpX_5, mpX_6, mpX_7, mpX_8, mpX_9, mpX_10, mpX_11, mpX_12, mpX_13, mpX_14, mpX_15, mpX_16, mpX_17, mpX_18, mpX_19, mpX_20, mpX_21, m_rpE, h25, ↓reduceIte]; rfl) | contradiction | rfl)) d_Mo_perform_301
  · refine k_tabIn C d_Mo_perform_21 (by decide) (by decide) (off := 342) (by decide) (tgt := 363) (by decide) ?_
    refine k_aload_n C d_Mo_perform_363 rfl ?_
    refine k_getr C d_Mo_perform_364 fg_Mo_52 (by decide) rfl ?_
    refine k_iload C d_Mo_perform_367 rfl ?_
    refine k_aload_n C d_Mo_perform_369 rfl ?_
    refine k_iload_n C d_Mo_perform_370 rfl ?_
    refine k_iload C d_Mo_perform_371 rfl ?_
    refine k_bipush C d_Mo_perform_373 (v := 31) (by decide) ?_
    refine k_iand C d_Mo_perform_375 ?_
    refine k_iload C d_Mo_perform_376 rfl ?_
    refine k_aload_n C d_Mo_perform_378 rfl ?_
    refine k_getr C d_Mo_perform_379 fg_Mo_52 (by decide) rfl ?_
    refine k_iload C d_Mo_perform_382 rfl ?_
    refine k_iaload C d_Mo_perform_384 am_15 (by decide) (mx (g) 4 (a) 24 (by omega) (by decide)).1 (mx (g) 4 (a) 24 (by omega) (by decide)).2 ?_
    refine k_callVi C kg_all (c_Mo_spawn l G _ _ _ _ _ g rfl I0 hg ht (m_31 n)) cs_Mo_138 cv_Mo_spawn om_0 (by decide) rfl rfl (Nat.le_of_ble_eq_true rfl) ⟨rfl, rfl⟩ ⟨by decide, by decide⟩ ⟨Nat.zero_le _, Nat.zero_le _⟩ d_Mo_perform_385 (j_sp I0 ht (m_31 n)).1 (fun I31 => ?_)
    refine k_iastore C d_Mo_perform_388 am_15 (by decide) (mx (g) 4 (a) 24 (by omega) (by decide)).1 (mx (g) 4 (a) 24 (by omega) (by decide)).2 I31 (trivial) (fun I32 => ?_)
    refine k_iconst C d_Mo_perform_389 (v := 0) (by decide) ?_
    exact k_ireturn C (E.to (by first | (simp only [mpT_0, mpT_1, mpT_2, mpT_3, mpT_4, mpT_5, mpT_6, mpT_7, mpT_8, mpT_9, mpT_10, mpT_11, mpT_12, mpT_13, mpT_14, mpT_15, mpT_16, mpT_17, mpT_18, mpT_19, mpT_20, mpT_21, mpX_0, mpX_1, mpX_2, mpX_3, mpX_4, mpX_5, mpX_6, mpX_7, mpX_8, mpX_9, mpX_10, mpX_11, mpX_12, mpX_13, mpX_14, mpX_15, mpX_16, mpX_17, mpX_18, mpX_19, mpX_20, mpX_21, m_rpE, ↓reduceIte]; done) | (simp only [mpT_0, mpT_1, mpT_2, mpT_3, mpT_4, mpT_5, mpT_6, mpT_7, mpT_8, mpT_9, mpT_10, mpT_11, mpT_12, mpT_13, mpT_14, mpT_15, mpT_16, mpT_17, mpT_18, mpT_19, mpT_20, mpT_21, mpX_0, mpX_1, mpX_2, mpX_3, mpX_4, mpX_5, mpX_6, mpX_7, mpX_8, mpX_9, mpX_10, mpX_11, mpX_12, mpX_13, mpX_14, mpX_15, mpX_16, mpX_17, mpX_18, mpX_19, mpX_20, mpX_21, m_rpE, ↓reduceIte]; rfl) | contradiction | rfl) (by first | (simp only [mpT_0, mpT_1, mpT_2, mpT_3, mpT_4, mpT_5, mpT_6, mpT_7, mpT_8, mpT_9, mpT_10, mpT_11, mpT_12, mpT_13, mpT_14, mpT_15, mpT_16, mpT_17, mpT_18, mpT_19, mpT_20, mpT_21, mpX_0, mpX_1, mpX_2, mpX_3, mpX_4, mpX_5, mpX_6, mpX_7, mpX_8, mpX_9, mpX_10, mpX_11, mpX_12, mpX_13, mpX_14, mpX_15, mpX_16, mpX_17, mpX_18, mpX_19, mpX_20, mpX_21, m_rpE, ↓reduceIte]; done) | (simp only [mpT_0, mpT_1, mpT_2, mpT_3, mpT_4, mpT_5, mpT_6, mpT_7, mpT_8, mpT_9, mpT_10, mpT_11, mpT_12, mpT_13, mpT_14, mpT_15, mpT_16, mpT_17, mpT_18, mpT_19, mpT_20, mpT_21, mpX_0, mpX_1, mpX_2, mpX_3, mpX_4, mpX_5, mpX_6, mpX_7, mpX_8, mpX_9, mpX_10, mpX_11, mpX_12, mpX_13, mpX_14, mpX_15, mpX_16, mpX_17, mpX_18, mpX_19, mpX_20, mpX_21, m_rpE, ↓reduceIte]; rfl) | contradiction | rfl)) d_Mo_perform_390
  · refine k_tabIn C d_Mo_perform_21 (by decide) (by decide) (off := 370) (by decide) (tgt := 391) (by decide) ?_
    refine k_aload_n C d_Mo_perform_391 rfl ?_
    refine k_iload C d_Mo_perform_392 rfl ?_
    refine k_iconst C d_Mo_perform_394 (v := 3) (by decide) ?_
    refine k_callVi C kg_all (c_Mo_no l G _ _ _ I0) cs_Mo_102 cv_Mo_no om_0 (by decide) rfl rfl (Nat.le_of_ble_eq_true rfl) ⟨rfl, rfl⟩ ⟨by decide, by decide⟩ ⟨Nat.zero_le _, Nat.zero_le _⟩ d_Mo_perform_395 I0 (fun I33 => ?_)
    refine k_if_eq C d_Mo_perform_398 (tgt := 405) (by decide) (fun h34 => ?_) (fun h34 => ?_)
    · have hn := r_no (n := 3) (by decide) ‹_›
      have hn4 := k_lt hn
      refine k_aload_n C d_Mo_perform_405 rfl ?_
      refine k_iload_n C d_Mo_perform_406 rfl ?_
      refine k_iload_n C d_Mo_perform_407 rfl ?_
      refine k_iload_n C d_Mo_perform_408 rfl ?_
      refine k_iload C d_Mo_perform_409 rfl ?_
      refine k_callVi C kg_all (c_Mo_share l G _ _ _ _ _ g a n.toNatClampNeg rfl rfl (r_id hn (by decide)) I33 hg ha (k_lt hn) ht hcar) cs_Mo_142 cv_Mo_share om_0 (by decide) rfl rfl (Nat.le_of_ble_eq_true rfl) ⟨rfl, rfl⟩ ⟨by decide, by decide⟩ ⟨Nat.zero_le _, Nat.zero_le _⟩ d_Mo_perform_411 (j_sh I33 ht hg (k_lt hn)).1 (fun I35 => ?_)
      exact k_ireturn C (E.to (by first | (simp only [mpT_0, mpT_1, mpT_2, mpT_3, mpT_4, mpT_5, mpT_6, mpT_7, mpT_8, mpT_9, mpT_10, mpT_11, mpT_12, mpT_13, mpT_14, mpT_15, mpT_16, mpT_17, mpT_18, mpT_19, mpT_20, mpT_21, mpX_0, mpX_1, mpX_2, mpX_3, mpX_4, mpX_5, mpX_6, mpX_7, mpX_8, mpX_9, mpX_10, mpX_11, mpX_12, mpX_13, mpX_14, mpX_15, mpX_16, mpX_17, mpX_18, mpX_19, mpX_20, mpX_21, m_rpE, h34, ↓reduceIte]; done) | (simp only [mpT_0, mpT_1, mpT_2, mpT_3, mpT_4, mpT_5, mpT_6, mpT_7, mpT_8, mpT_9, mpT_10, mpT_11, mpT_12, mpT_13, mpT_14, mpT_15, mpT_16, mpT_17, mpT_18, mpT_19, mpT_20, mpT_21, mpX_0, mpX_1, mpX_2, mpX_3, mpX_4, mpX_5, mpX_6, mpX_7, mpX_8, mpX_9, mpX_10, mpX_11, mpX_12, mpX_13, mpX_14, mpX_15, mpX_16, mpX_17, mpX_18, mpX_19, mpX_20, mpX_21, m_rpE, h34, ↓reduceIte]; rfl) | contradiction | rfl) (by first | (simp only [mpT_0, mpT_1, mpT_2, mpT_3, mpT_4, mpT_5, mpT_6, mpT_7, mpT_8, mpT_9, mpT_10, mpT_11, mpT_12, mpT_13, mpT_14, mpT_15, mpT_16, mpT_17, mpT_18, mpT_19, mpT_20, mpT_21, mpX_0, mpX_1, mpX_2, mpX_3, mpX_4, mpX_5, mpX_6, mpX_7, mpX_8, mpX_9, mpX_10, mpX_11, mpX_12, mpX_13, mpX_14, mpX_15, mpX_16, mpX_17, mpX_18, mpX_19, mpX_20, mpX_21, m_rpE, h34, ↓reduceIte]; done) | (simp only [mpT_0, mpT_1, mpT_2, mpT_3, mpT_4, mpT_5, mpT_6, mpT_7, mpT_8, mpT_9, mpT_10, mpT_11, mpT_12, mpT_13, mpT_14, mpT_15, mpT_16, mpT_17, mpT_18, mpT_19, mpT_20, mpT_21, mpX_0, mpX_1, mpX_2, mpX_3, mpX_4, mpX_5, mpX_6, mpX_7, mpX_8, mpX_9, mpX_10, mpX_11, mpX_12, mpX_13, mpX_14, mpX_15, mpX_16, mpX_17, mpX_18, mpX_19, mpX_20, mpX_21, m_rpE, h34, ↓reduceIte]; rfl) | contradiction | rfl)) d_Mo_perform_414
    · refine k_iconst C d_Mo_perform_401 (v := 4) (by decide) ?_
      refine k_goto C d_Mo_perform_402 (tgt := 414) (by decide) ?_
      exact k_ireturn C (E.to (by first | (simp only [mpT_0, mpT_1, mpT_2, mpT_3, mpT_4, mpT_5, mpT_6, mpT_7, mpT_8, mpT_9, mpT_10, mpT_11, mpT_12, mpT_13, mpT_14, mpT_15, mpT_16, mpT_17, mpT_18, mpT_19, mpT_20, mpT_21, mpX_0, mpX_1, mpX_2, mpX_3, mpX_4, mpX_5, mpX_6, mpX_7, mpX_8, mpX_9, mpX_10, mpX_11, mpX_12, mpX_13, mpX_14, mpX_15, mpX_16, mpX_17, mpX_18, mpX_19, mpX_20, mpX_21, m_rpE, h34, ↓reduceIte]; done) | (simp only [mpT_0, mpT_1, mpT_2, mpT_3, mpT_4, mpT_5, mpT_6, mpT_7, mpT_8, mpT_9, mpT_10, mpT_11, mpT_12, mpT_13, mpT_14, mpT_15, mpT_16, mpT_17, mpT_18, mpT_19, mpT_20, mpT_21, mpX_0, mpX_1, mpX_2, mpX_3, mpX_4, mpX_5, mpX_6, mpX_7, mpX_8, mpX_9, mpX_10, mpX_11, mpX_12, mpX_13, mpX_14, mpX_15, mpX_16, mpX_17, mpX_18, mpX_19, mpX_20, mpX_21, m_rpE, h34, ↓reduceIte]; rfl) | contradiction | rfl) (by first | (simp only [mpT_0, mpT_1, mpT_2, mpT_3, mpT_4, mpT_5, mpT_6, mpT_7, mpT_8, mpT_9, mpT_10, mpT_11, mpT_12, mpT_13, mpT_14, mpT_15, mpT_16, mpT_17, mpT_18, mpT_19, mpT_20, mpT_21, mpX_0, mpX_1, mpX_2, mpX_3, mpX_4, mpX_5, mpX_6, mpX_7, mpX_8, mpX_9, mpX_10, mpX_11, mpX_12, mpX_13, mpX_14, mpX_15, mpX_16, mpX_17, mpX_18, mpX_19, mpX_20, mpX_21, m_rpE, h34, ↓reduceIte]; done) | (simp only [mpT_0, mpT_1, mpT_2, mpT_3, mpT_4, mpT_5, mpT_6, mpT_7, mpT_8, mpT_9, mpT_10, mpT_11, mpT_12, mpT_13, mpT_14, mpT_15, mpT_16, mpT_17, mpT_18, mpT_19, mpT_20, mpT_21, mpX_0, mpX_1, mpX_2, mpX_3, mpX_4, mpX_5, mpX_6, mpX_7, mpX_8, mpX_9, mpX_10, mpX_11, mpX_12, mpX_13, mpX_14, mpX_15, mpX_16, mpX_17, mpX_18, mpX_19, mpX_20, mpX_21, m_rpE, h34, ↓reduceIte]; rfl) | contradiction | rfl)) d_Mo_perform_414
  · refine k_tabIn C d_Mo_perform_21 (by decide) (by decide) (off := 370) (by decide) (tgt := 391) (by decide) ?_
    refine k_aload_n C d_Mo_perform_391 rfl ?_
    refine k_iload C d_Mo_perform_392 rfl ?_
    refine k_iconst C d_Mo_perform_394 (v := 3) (by decide) ?_
    refine k_callVi C kg_all (c_Mo_no l G _ _ _ I0) cs_Mo_102 cv_Mo_no om_0 (by decide) rfl rfl (Nat.le_of_ble_eq_true rfl) ⟨rfl, rfl⟩ ⟨by decide, by decide⟩ ⟨Nat.zero_le _, Nat.zero_le _⟩ d_Mo_perform_395 I0 (fun I36 => ?_)
    refine k_if_eq C d_Mo_perform_398 (tgt := 405) (by decide) (fun h37 => ?_) (fun h37 => ?_)
    · have hn := r_no (n := 3) (by decide) ‹_›
      have hn4 := k_lt hn
      refine k_aload_n C d_Mo_perform_405 rfl ?_
      refine k_iload_n C d_Mo_perform_406 rfl ?_
      refine k_iload_n C d_Mo_perform_407 rfl ?_
      refine k_iload_n C d_Mo_perform_408 rfl ?_
      refine k_iload C d_Mo_perform_409 rfl ?_
      refine k_callVi C kg_all (c_Mo_share l G _ _ _ _ _ g a n.toNatClampNeg rfl rfl (r_id hn (by decide)) I36 hg ha (k_lt hn) ht hcar) cs_Mo_142 cv_Mo_share om_0 (by decide) rfl rfl (Nat.le_of_ble_eq_true rfl) ⟨rfl, rfl⟩ ⟨by decide, by decide⟩ ⟨Nat.zero_le _, Nat.zero_le _⟩ d_Mo_perform_411 (j_sh I36 ht hg (k_lt hn)).1 (fun I38 => ?_)
      exact k_ireturn C (E.to (by first | (simp only [mpT_0, mpT_1, mpT_2, mpT_3, mpT_4, mpT_5, mpT_6, mpT_7, mpT_8, mpT_9, mpT_10, mpT_11, mpT_12, mpT_13, mpT_14, mpT_15, mpT_16, mpT_17, mpT_18, mpT_19, mpT_20, mpT_21, mpX_0, mpX_1, mpX_2, mpX_3, mpX_4, mpX_5, mpX_6, mpX_7, mpX_8, mpX_9, mpX_10, mpX_11, mpX_12, mpX_13, mpX_14, mpX_15, mpX_16, mpX_17, mpX_18, mpX_19, mpX_20, mpX_21, m_rpE, h37, ↓reduceIte]; done) | (simp only [mpT_0, mpT_1, mpT_2, mpT_3, mpT_4, mpT_5, mpT_6, mpT_7, mpT_8, mpT_9, mpT_10, mpT_11, mpT_12, mpT_13, mpT_14, mpT_15, mpT_16, mpT_17, mpT_18, mpT_19, mpT_20, mpT_21, mpX_0, mpX_1, mpX_2, mpX_3, mpX_4, mpX_5, mpX_6, mpX_7, mpX_8, mpX_9, mpX_10, mpX_11, mpX_12, mpX_13, mpX_14, mpX_15, mpX_16, mpX_17, mpX_18, mpX_19, mpX_20, mpX_21, m_rpE, h37, ↓reduceIte]; rfl) | contradiction | rfl) (by first | (simp only [mpT_0, mpT_1, mpT_2, mpT_3, mpT_4, mpT_5, mpT_6, mpT_7, mpT_8, mpT_9, mpT_10, mpT_11, mpT_12, mpT_13, mpT_14, mpT_15, mpT_16, mpT_17, mpT_18, mpT_19, mpT_20, mpT_21, mpX_0, mpX_1, mpX_2, mpX_3, mpX_4, mpX_5, mpX_6, mpX_7, mpX_8, mpX_9, mpX_10, mpX_11, mpX_12, mpX_13, mpX_14, mpX_15, mpX_16, mpX_17, mpX_18, mpX_19, mpX_20, mpX_21, m_rpE, h37, ↓reduceIte]; done) | (simp only [mpT_0, mpT_1, mpT_2, mpT_3, mpT_4, mpT_5, mpT_6, mpT_7, mpT_8, mpT_9, mpT_10, mpT_11, mpT_12, mpT_13, mpT_14, mpT_15, mpT_16, mpT_17, mpT_18, mpT_19, mpT_20, mpT_21, mpX_0, mpX_1, mpX_2, mpX_3, mpX_4, mpX_5, mpX_6, mpX_7, mpX_8, mpX_9, mpX_10, mpX_11, mpX_12, mpX_13, mpX_14, mpX_15, mpX_16, mpX_17, mpX_18, mpX_19, mpX_20, mpX_21, m_rpE, h37, ↓reduceIte]; rfl) | contradiction | rfl)) d_Mo_perform_414
    · refine k_iconst C d_Mo_perform_401 (v := 4) (by decide) ?_
      refine k_goto C d_Mo_perform_402 (tgt := 414) (by decide) ?_
      exact k_ireturn C (E.to (by first | (simp only [mpT_0, mpT_1, mpT_2, mpT_3, mpT_4, mpT_5, mpT_6, mpT_7, mpT_8, mpT_9, mpT_10, mpT_11, mpT_12, mpT_13, mpT_14, mpT_15, mpT_16, mpT_17, mpT_18, mpT_19, mpT_20, mpT_21, mpX_0, mpX_1, mpX_2, mpX_3, mpX_4, mpX_5, mpX_6, mpX_7, mpX_8, mpX_9, mpX_10, mpX_11, mpX_12, mpX_13, mpX_14, mpX_15, mpX_16, mpX_17, mpX_18, mpX_19, mpX_20, mpX_21, m_rpE, h37, ↓reduceIte]; done) | (simp only [mpT_0, mpT_1, mpT_2, mpT_3, mpT_4, mpT_5, mpT_6, mpT_7, mpT_8, mpT_9, mpT_10, mpT_11, mpT_12, mpT_13, mpT_14, mpT_15, mpT_16, mpT_17, mpT_18, mpT_19, mpT_20, mpT_21, mpX_0, mpX_1, mpX_2, mpX_3, mpX_4, mpX_5, mpX_6, mpX_7, mpX_8, mpX_9, mpX_10, mpX_11, mpX_12, mpX_13, mpX_14, mpX_15, mpX_16, mpX_17, mpX_18, mpX_19, mpX_20, mpX_21, m_rpE, h37, ↓reduceIte]; rfl) | contradiction | rfl) (by first | (simp only [mpT_0, mpT_1, mpT_2, mpT_3, mpT_4, mpT_5, mpT_6, mpT_7, mpT_8, mpT_9, mpT_10, mpT_11, mpT_12, mpT_13, mpT_14, mpT_15, mpT_16, mpT_17, mpT_18, mpT_19, mpT_20, mpT_21, mpX_0, mpX_1, mpX_2, mpX_3, mpX_4, mpX_5, mpX_6, mpX_7, mpX_8, mpX_9, mpX_10, mpX_11, mpX_12, mpX_13, mpX_14, mpX_15, mpX_16, mpX_17, mpX_18, mpX_19, mpX_20, mpX_21, m_rpE, h37, ↓reduceIte]; done) | (simp only [mpT_0, mpT_1, mpT_2, mpT_3, mpT_4, mpT_5, mpT_6, mpT_7, mpT_8, mpT_9, mpT_10, mpT_11, mpT_12, mpT_13, mpT_14, mpT_15, mpT_16, mpT_17, mpT_18, mpT_19, mpT_20, mpT_21, mpX_0, mpX_1, mpX_2, mpX_3, mpX_4, mpX_5, mpX_6, mpX_7, mpX_8, mpX_9, mpX_10, mpX_11, mpX_12, mpX_13, mpX_14, mpX_15, mpX_16, mpX_17, mpX_18, mpX_19, mpX_20, mpX_21, m_rpE, h37, ↓reduceIte]; rfl) | contradiction | rfl)) d_Mo_perform_414
  · refine k_tabIn C d_Mo_perform_21 (by decide) (by decide) (off := 370) (by decide) (tgt := 391) (by decide) ?_
    refine k_aload_n C d_Mo_perform_391 rfl ?_
    refine k_iload C d_Mo_perform_392 rfl ?_
    refine k_iconst C d_Mo_perform_394 (v := 3) (by decide) ?_
    refine k_callVi C kg_all (c_Mo_no l G _ _ _ I0) cs_Mo_102 cv_Mo_no om_0 (by decide) rfl rfl (Nat.le_of_ble_eq_true rfl) ⟨rfl, rfl⟩ ⟨by decide, by decide⟩ ⟨Nat.zero_le _, Nat.zero_le _⟩ d_Mo_perform_395 I0 (fun I39 => ?_)
    refine k_if_eq C d_Mo_perform_398 (tgt := 405) (by decide) (fun h40 => ?_) (fun h40 => ?_)
    · have hn := r_no (n := 3) (by decide) ‹_›
      have hn4 := k_lt hn
      refine k_aload_n C d_Mo_perform_405 rfl ?_
      refine k_iload_n C d_Mo_perform_406 rfl ?_
      refine k_iload_n C d_Mo_perform_407 rfl ?_
      refine k_iload_n C d_Mo_perform_408 rfl ?_
      refine k_iload C d_Mo_perform_409 rfl ?_
      refine k_callVi C kg_all (c_Mo_share l G _ _ _ _ _ g a n.toNatClampNeg rfl rfl (r_id hn (by decide)) I39 hg ha (k_lt hn) ht hcar) cs_Mo_142 cv_Mo_share om_0 (by decide) rfl rfl (Nat.le_of_ble_eq_true rfl) ⟨rfl, rfl⟩ ⟨by decide, by decide⟩ ⟨Nat.zero_le _, Nat.zero_le _⟩ d_Mo_perform_411 (j_sh I39 ht hg (k_lt hn)).1 (fun I41 => ?_)
      exact k_ireturn C (E.to (by first | (simp only [mpT_0, mpT_1, mpT_2, mpT_3, mpT_4, mpT_5, mpT_6, mpT_7, mpT_8, mpT_9, mpT_10, mpT_11, mpT_12, mpT_13, mpT_14, mpT_15, mpT_16, mpT_17, mpT_18, mpT_19, mpT_20, mpT_21, mpX_0, mpX_1, mpX_2, mpX_3, mpX_4, mpX_5, mpX_6, mpX_7, mpX_8, mpX_9, mpX_10, mpX_11, mpX_12, mpX_13, mpX_14, mpX_15, mpX_16, mpX_17, mpX_18, mpX_19, mpX_20, mpX_21, m_rpE, h40, ↓reduceIte]; done) | (simp only [mpT_0, mpT_1, mpT_2, mpT_3, mpT_4, mpT_5, mpT_6, mpT_7, mpT_8, mpT_9, mpT_10, mpT_11, mpT_12, mpT_13, mpT_14, mpT_15, mpT_16, mpT_17, mpT_18, mpT_19, mpT_20, mpT_21, mpX_0, mpX_1, mpX_2, mpX_3, mpX_4, mpX_5, mpX_6, mpX_7, mpX_8, mpX_9, mpX_10, mpX_11, mpX_12, mpX_13, mpX_14, mpX_15, mpX_16, mpX_17, mpX_18, mpX_19, mpX_20, mpX_21, m_rpE, h40, ↓reduceIte]; rfl) | contradiction | rfl) (by first | (simp only [mpT_0, mpT_1, mpT_2, mpT_3, mpT_4, mpT_5, mpT_6, mpT_7, mpT_8, mpT_9, mpT_10, mpT_11, mpT_12, mpT_13, mpT_14, mpT_15, mpT_16, mpT_17, mpT_18, mpT_19, mpT_20, mpT_21, mpX_0, mpX_1, mpX_2, mpX_3, mpX_4, mpX_5, mpX_6, mpX_7, mpX_8, mpX_9, mpX_10, mpX_11, mpX_12, mpX_13, mpX_14, mpX_15, mpX_16, mpX_17, mpX_18, mpX_19, mpX_20, mpX_21, m_rpE, h40, ↓reduceIte]; done) | (simp only [mpT_0, mpT_1, mpT_2, mpT_3, mpT_4, mpT_5, mpT_6, mpT_7, mpT_8, mpT_9, mpT_10, mpT_11, mpT_12, mpT_13, mpT_14, mpT_15, mpT_16, mpT_17, mpT_18, mpT_19, mpT_20, mpT_21, mpX_0, mpX_1, mpX_2, mpX_3, mpX_4, mpX_5, mpX_6, mpX_7, mpX_8, mpX_9, mpX_10, mpX_11, mpX_12, mpX_13, mpX_14, mpX_15, mpX_16, mpX_17, mpX_18, mpX_19, mpX_20, mpX_21, m_rpE, h40, ↓reduceIte]; rfl) | contradiction | rfl)) d_Mo_perform_414
    · refine k_iconst C d_Mo_perform_401 (v := 4) (by decide) ?_
      refine k_goto C d_Mo_perform_402 (tgt := 414) (by decide) ?_
      exact k_ireturn C (E.to (by first | (simp only [mpT_0, mpT_1, mpT_2, mpT_3, mpT_4, mpT_5, mpT_6, mpT_7, mpT_8, mpT_9, mpT_10, mpT_11, mpT_12, mpT_13, mpT_14, mpT_15, mpT_16, mpT_17, mpT_18, mpT_19, mpT_20, mpT_21, mpX_0, mpX_1, mpX_2, mpX_3, mpX_4, mpX_5, mpX_6, mpX_7, mpX_8, mpX_9, mpX_10, mpX_11, mpX_12, mpX_13, mpX_14, mpX_15, mpX_16, mpX_17, mpX_18, mpX_19, mpX_20, mpX_21, m_rpE, h40, ↓reduceIte]; done) | (simp only [mpT_0, mpT_1, mpT_2, mpT_3, mpT_4, mpT_5, mpT_6, mpT_7, mpT_8, mpT_9, mpT_10, mpT_11, mpT_12, mpT_13, mpT_14, mpT_15, mpT_16, mpT_17, mpT_18, mpT_19, mpT_20, mpT_21, mpX_0, mpX_1, mpX_2, mpX_3, mpX_4, mpX_5, mpX_6, mpX_7, mpX_8, mpX_9, mpX_10, mpX_11, mpX_12, mpX_13, mpX_14, mpX_15, mpX_16, mpX_17, mpX_18, mpX_19, mpX_20, mpX_21, m_rpE, h40, ↓reduceIte]; rfl) | contradiction | rfl) (by first | (simp only [mpT_0, mpT_1, mpT_2, mpT_3, mpT_4, mpT_5, mpT_6, mpT_7, mpT_8, mpT_9, mpT_10, mpT_11, mpT_12, mpT_13, mpT_14, mpT_15, mpT_16, mpT_17, mpT_18, mpT_19, mpT_20, mpT_21, mpX_0, mpX_1, mpX_2, mpX_3, mpX_4, mpX_5, mpX_6, mpX_7, mpX_8, mpX_9, mpX_10, mpX_11, mpX_12, mpX_13, mpX_14, mpX_15, mpX_16, mpX_17, mpX_18, mpX_19, mpX_20, mpX_21, m_rpE, h40, ↓reduceIte]; done) | (simp only [mpT_0, mpT_1, mpT_2, mpT_3, mpT_4, mpT_5, mpT_6, mpT_7, mpT_8, mpT_9, mpT_10, mpT_11, mpT_12, mpT_13, mpT_14, mpT_15, mpT_16, mpT_17, mpT_18, mpT_19, mpT_20, mpT_21, mpX_0, mpX_1, mpX_2, mpX_3, mpX_4, mpX_5, mpX_6, mpX_7, mpX_8, mpX_9, mpX_10, mpX_11, mpX_12, mpX_13, mpX_14, mpX_15, mpX_16, mpX_17, mpX_18, mpX_19, mpX_20, mpX_21, m_rpE, h40, ↓reduceIte]; rfl) | contradiction | rfl)) d_Mo_perform_414
  · refine k_tabIn C d_Mo_perform_21 (by decide) (by decide) (off := 370) (by decide) (tgt := 391) (by decide) ?_
    refine k_aload_n C d_Mo_perform_391 rfl ?_
    refine k_iload C d_Mo_perform_392 rfl ?_
    refine k_iconst C d_Mo_perform_394 (v := 3) (by decide) ?_
    refine k_callVi C kg_all (c_Mo_no l G _ _ _ I0) cs_Mo_102 cv_Mo_no om_0 (by decide) rfl rfl (Nat.le_of_ble_eq_true rfl) ⟨rfl, rfl⟩ ⟨by decide, by decide⟩ ⟨Nat.zero_le _, Nat.zero_le _⟩ d_Mo_perform_395 I0 (fun I42 => ?_)
    refine k_if_eq C d_Mo_perform_398 (tgt := 405) (by decide) (fun h43 => ?_) (fun h43 => ?_)
    · have hn := r_no (n := 3) (by decide) ‹_›
      have hn4 := k_lt hn
      refine k_aload_n C d_Mo_perform_405 rfl ?_
      refine k_iload_n C d_Mo_perform_406 rfl ?_
      refine k_iload_n C d_Mo_perform_407 rfl ?_
      refine k_iload_n C d_Mo_perform_408 rfl ?_
      refine k_iload C d_Mo_perform_409 rfl ?_
      refine k_callVi C kg_all (c_Mo_share l G _ _ _ _ _ g a n.toNatClampNeg rfl rfl (r_id hn (by decide)) I42 hg ha (k_lt hn) ht hcar) cs_Mo_142 cv_Mo_share om_0 (by decide) rfl rfl (Nat.le_of_ble_eq_true rfl) ⟨rfl, rfl⟩ ⟨by decide, by decide⟩ ⟨Nat.zero_le _, Nat.zero_le _⟩ d_Mo_perform_411 (j_sh I42 ht hg (k_lt hn)).1 (fun I44 => ?_)
      exact k_ireturn C (E.to (by first | (simp only [mpT_0, mpT_1, mpT_2, mpT_3, mpT_4, mpT_5, mpT_6, mpT_7, mpT_8, mpT_9, mpT_10, mpT_11, mpT_12, mpT_13, mpT_14, mpT_15, mpT_16, mpT_17, mpT_18, mpT_19, mpT_20, mpT_21, mpX_0, mpX_1, mpX_2, mpX_3, mpX_4, mpX_5, mpX_6, mpX_7, mpX_8, mpX_9, mpX_10, mpX_11, mpX_12, mpX_13, mpX_14, mpX_15, mpX_16, mpX_17, mpX_18, mpX_19, mpX_20, mpX_21, m_rpE, h43, ↓reduceIte]; done) | (simp only [mpT_0, mpT_1, mpT_2, mpT_3, mpT_4, mpT_5, mpT_6, mpT_7, mpT_8, mpT_9, mpT_10, mpT_11, mpT_12, mpT_13, mpT_14, mpT_15, mpT_16, mpT_17, mpT_18, mpT_19, mpT_20, mpT_21, mpX_0, mpX_1, mpX_2, mpX_3, mpX_4, mpX_5, mpX_6, mpX_7, mpX_8, mpX_9, mpX_10, mpX_11, mpX_12, mpX_13, mpX_14, mpX_15, mpX_16, mpX_17, mpX_18, mpX_19, mpX_20, mpX_21, m_rpE, h43, ↓reduceIte]; rfl) | contradiction | rfl) (by first | (simp only [mpT_0, mpT_1, mpT_2, mpT_3, mpT_4, mpT_5, mpT_6, mpT_7, mpT_8, mpT_9, mpT_10, mpT_11, mpT_12, mpT_13, mpT_14, mpT_15, mpT_16, mpT_17, mpT_18, mpT_19, mpT_20, mpT_21, mpX_0, mpX_1, mpX_2, mpX_3, mpX_4, mpX_5, mpX_6, mpX_7, mpX_8, mpX_9, mpX_10, mpX_11, mpX_12, mpX_13, mpX_14, mpX_15, mpX_16, mpX_17, mpX_18, mpX_19, mpX_20, mpX_21, m_rpE, h43, ↓reduceIte]; done) | (simp only [mpT_0, mpT_1, mpT_2, mpT_3, mpT_4, mpT_5, mpT_6, mpT_7, mpT_8, mpT_9, mpT_10, mpT_11, mpT_12, mpT_13, mpT_14, mpT_15, mpT_16, mpT_17, mpT_18, mpT_19, mpT_20, mpT_21, mpX_0, mpX_1, mpX_2, mpX_3, mpX_4, mpX_5, mpX_6, mpX_7, mpX_8, mpX_9, mpX_10, mpX_11, mpX_12, mpX_13, mpX_14, mpX_15, mpX_16, mpX_17, mpX_18, mpX_19, mpX_20, mpX_21, m_rpE, h43, ↓reduceIte]; rfl) | contradiction | rfl)) d_Mo_perform_414
    · refine k_iconst C d_Mo_perform_401 (v := 4) (by decide) ?_
      refine k_goto C d_Mo_perform_402 (tgt := 414) (by decide) ?_
      exact k_ireturn C (E.to (by first | (simp only [mpT_0, mpT_1, mpT_2, mpT_3, mpT_4, mpT_5, mpT_6, mpT_7, mpT_8, mpT_9, mpT_10, mpT_11, mpT_12, mpT_13, mpT_14, mpT_15, mpT_16, mpT_17, mpT_18, mpT_19, mpT_20, mpT_21, mpX_0, mpX_1, mpX_2, mpX_3, mpX_4, mpX_5, mpX_6, mpX_7, mpX_8, mpX_9, mpX_10, mpX_11, mpX_12, mpX_13, mpX_14, mpX_15, mpX_16, mpX_17, mpX_18, mpX_19, mpX_20, mpX_21, m_rpE, h43, ↓reduceIte]; done) | (simp only [mpT_0, mpT_1, mpT_2, mpT_3, mpT_4, mpT_5, mpT_6, mpT_7, mpT_8, mpT_9, mpT_10, mpT_11, mpT_12, mpT_13, mpT_14, mpT_15, mpT_16, mpT_17, mpT_18, mpT_19, mpT_20, mpT_21, mpX_0, mpX_1, mpX_2, mpX_3, mpX_4, mpX_5, mpX_6, mpX_7, mpX_8, mpX_9, mpX_10, mpX_11, mpX_12, mpX_13, mpX_14, mpX_15, mpX_16, mpX_17, mpX_18, mpX_19, mpX_20, mpX_21, m_rpE, h43, ↓reduceIte]; rfl) | contradiction | rfl) (by first | (simp only [mpT_0, mpT_1, mpT_2, mpT_3, mpT_4, mpT_5, mpT_6, mpT_7, mpT_8, mpT_9, mpT_10, mpT_11, mpT_12, mpT_13, mpT_14, mpT_15, mpT_16, mpT_17, mpT_18, mpT_19, mpT_20, mpT_21, mpX_0, mpX_1, mpX_2, mpX_3, mpX_4, mpX_5, mpX_6, mpX_7, mpX_8, mpX_9, mpX_10, mpX_11, mpX_12, mpX_13, mpX_14, mpX_15, mpX_16, mpX_17, mpX_18, mpX_19, mpX_20, mpX_21, m_rpE, h43, ↓reduceIte]; done) | (simp only [mpT_0, mpT_1, mpT_2, mpT_3, mpT_4, mpT_5, mpT_6, mpT_7, mpT_8, mpT_9, mpT_10, mpT_11, mpT_12, mpT_13, mpT_14, mpT_15, mpT_16, mpT_17, mpT_18, mpT_19, mpT_20, mpT_21, mpX_0, mpX_1, mpX_2, mpX_3, mpX_4, mpX_5, mpX_6, mpX_7, mpX_8, mpX_9, mpX_10, mpX_11, mpX_12, mpX_13, mpX_14, mpX_15, mpX_16, mpX_17, mpX_18, mpX_19, mpX_20, mpX_21, m_rpE, h43, ↓reduceIte]; rfl) | contradiction | rfl)) d_Mo_perform_414
  · refine k_tabIn C d_Mo_perform_21 (by decide) (by decide) (off := 435) (by decide) (tgt := 456) (by decide) ?_
    refine k_iconst C d_Mo_perform_456 (v := 0) (by decide) ?_
    exact k_ireturn C (E.to (by first | (simp only [mpT_0, mpT_1, mpT_2, mpT_3, mpT_4, mpT_5, mpT_6, mpT_7, mpT_8, mpT_9, mpT_10, mpT_11, mpT_12, mpT_13, mpT_14, mpT_15, mpT_16, mpT_17, mpT_18, mpT_19, mpT_20, mpT_21, mpX_0, mpX_1, mpX_2, mpX_3, mpX_4, mpX_5, mpX_6, mpX_7, mpX_8, mpX_9, mpX_10, mpX_11, mpX_12, mpX_13, mpX_14, mpX_15, mpX_16, mpX_17, mpX_18, mpX_19, mpX_20, mpX_21, m_rpE, ↓reduceIte]; done) | (simp only [mpT_0, mpT_1, mpT_2, mpT_3, mpT_4, mpT_5, mpT_6, mpT_7, mpT_8, mpT_9, mpT_10, mpT_11, mpT_12, mpT_13, mpT_14, mpT_15, mpT_16, mpT_17, mpT_18, mpT_19, mpT_20, mpT_21, mpX_0, mpX_1, mpX_2, mpX_3, mpX_4, mpX_5, mpX_6, mpX_7, mpX_8, mpX_9, mpX_10, mpX_11, mpX_12, mpX_13, mpX_14, mpX_15, mpX_16, mpX_17, mpX_18, mpX_19, mpX_20, mpX_21, m_rpE, ↓reduceIte]; rfl) | contradiction | rfl) (by first | (simp only [mpT_0, mpT_1, mpT_2, mpT_3, mpT_4, mpT_5, mpT_6, mpT_7, mpT_8, mpT_9, mpT_10, mpT_11, mpT_12, mpT_13, mpT_14, mpT_15, mpT_16, mpT_17, mpT_18, mpT_19, mpT_20, mpT_21, mpX_0, mpX_1, mpX_2, mpX_3, mpX_4, mpX_5, mpX_6, mpX_7, mpX_8, mpX_9, mpX_10, mpX_11, mpX_12, mpX_13, mpX_14, mpX_15, mpX_16, mpX_17, mpX_18, mpX_19, mpX_20, mpX_21, m_rpE, ↓reduceIte]; done) | (simp only [mpT_0, mpT_1, mpT_2, mpT_3, mpT_4, mpT_5, mpT_6, mpT_7, mpT_8, mpT_9, mpT_10, mpT_11, mpT_12, mpT_13, mpT_14, mpT_15, mpT_16, mpT_17, mpT_18, mpT_19, mpT_20, mpT_21, mpX_0, mpX_1, mpX_2, mpX_3, mpX_4, mpX_5, mpX_6, mpX_7, mpX_8, mpX_9, mpX_10, mpX_11, mpX_12, mpX_13, mpX_14, mpX_15, mpX_16, mpX_17, mpX_18, mpX_19, mpX_20, mpX_21, m_rpE, ↓reduceIte]; rfl) | contradiction | rfl)) d_Mo_perform_457
  · refine k_tabIn C d_Mo_perform_21 (by decide) (by decide) (off := 394) (by decide) (tgt := 415) (by decide) ?_
    refine k_aload_n C d_Mo_perform_415 rfl ?_
    refine k_iload_n C d_Mo_perform_416 rfl ?_
    refine k_callVi C kg_all (c_Mo_reap l G _ _ g rfl I0 hg) cs_Mo_145 cv_Mo_reap om_0 (by decide) rfl rfl (Nat.le_of_ble_eq_true rfl) ⟨rfl, rfl⟩ ⟨by decide, by decide⟩ ⟨Nat.zero_le _, Nat.zero_le _⟩ d_Mo_perform_417 (j_rp I0 6 0).1 (fun I45 => ?_)
    refine k_istore C d_Mo_perform_420 (by decide) ?_
    refine k_aload_n C d_Mo_perform_422 rfl ?_
    refine k_getr C d_Mo_perform_423 fg_Mo_52 (by decide) rfl ?_
    refine k_iload C d_Mo_perform_426 rfl ?_
    refine k_iload C d_Mo_perform_428 rfl ?_
    refine k_iastore C d_Mo_perform_430 am_15 (by decide) (mx (g) 4 (a) 24 (by omega) (by decide)).1 (mx (g) 4 (a) 24 (by omega) (by decide)).2 I45 (trivial) (fun I46 => ?_)
    refine k_iload C d_Mo_perform_431 rfl ?_
    refine k_if_lt C d_Mo_perform_433 (tgt := 454) (by decide) (fun h47 => ?_) (fun h47 => ?_)
    · refine k_iconst C d_Mo_perform_454 (v := 0) (by decide) ?_
      exact k_ireturn C (E.to (by first | (simp only [mpT_0, mpT_1, mpT_2, mpT_3, mpT_4, mpT_5, mpT_6, mpT_7, mpT_8, mpT_9, mpT_10, mpT_11, mpT_12, mpT_13, mpT_14, mpT_15, mpT_16, mpT_17, mpT_18, mpT_19, mpT_20, mpT_21, mpX_0, mpX_1, mpX_2, mpX_3, mpX_4, mpX_5, mpX_6, mpX_7, mpX_8, mpX_9, mpX_10, mpX_11, mpX_12, mpX_13, mpX_14, mpX_15, mpX_16, mpX_17, mpX_18, mpX_19, mpX_20, mpX_21, m_rpE, h47, ↓reduceIte]; done) | (simp only [mpT_0, mpT_1, mpT_2, mpT_3, mpT_4, mpT_5, mpT_6, mpT_7, mpT_8, mpT_9, mpT_10, mpT_11, mpT_12, mpT_13, mpT_14, mpT_15, mpT_16, mpT_17, mpT_18, mpT_19, mpT_20, mpT_21, mpX_0, mpX_1, mpX_2, mpX_3, mpX_4, mpX_5, mpX_6, mpX_7, mpX_8, mpX_9, mpX_10, mpX_11, mpX_12, mpX_13, mpX_14, mpX_15, mpX_16, mpX_17, mpX_18, mpX_19, mpX_20, mpX_21, m_rpE, h47, ↓reduceIte]; rfl) | contradiction | rfl) (by first | (simp only [mpT_0, mpT_1, mpT_2, mpT_3, mpT_4, mpT_5, mpT_6, mpT_7, mpT_8, mpT_9, mpT_10, mpT_11, mpT_12, mpT_13, mpT_14, mpT_15, mpT_16, mpT_17, mpT_18, mpT_19, mpT_20, mpT_21, mpX_0, mpX_1, mpX_2, mpX_3, mpX_4, mpX_5, mpX_6, mpX_7, mpX_8, mpX_9, mpX_10, mpX_11, mpX_12, mpX_13, mpX_14, mpX_15, mpX_16, mpX_17, mpX_18, mpX_19, mpX_20, mpX_21, m_rpE, h47, ↓reduceIte]; done) | (simp only [mpT_0, mpT_1, mpT_2, mpT_3, mpT_4, mpT_5, mpT_6, mpT_7, mpT_8, mpT_9, mpT_10, mpT_11, mpT_12, mpT_13, mpT_14, mpT_15, mpT_16, mpT_17, mpT_18, mpT_19, mpT_20, mpT_21, mpX_0, mpX_1, mpX_2, mpX_3, mpX_4, mpX_5, mpX_6, mpX_7, mpX_8, mpX_9, mpX_10, mpX_11, mpX_12, mpX_13, mpX_14, mpX_15, mpX_16, mpX_17, mpX_18, mpX_19, mpX_20, mpX_21, m_rpE, h47, ↓reduceIte]; rfl) | contradiction | rfl)) d_Mo_perform_455
    · refine k_aload_n C d_Mo_perform_436 rfl ?_
      refine k_getr C d_Mo_perform_437 fg_Mo_52 (by decide) rfl ?_
      refine k_iload_n C d_Mo_perform_440 rfl ?_
      refine k_iconst C d_Mo_perform_441 (v := 4) (by decide) ?_
      refine k_imul C d_Mo_perform_442 ?_
      refine k_iload C d_Mo_perform_443 rfl ?_
      refine k_iadd C d_Mo_perform_445 ?_
      refine k_aload_n C d_Mo_perform_446 rfl ?_
      refine k_getr C d_Mo_perform_447 fg_Mo_43 (by decide) rfl ?_
      refine k_iload C d_Mo_perform_450 rfl ?_
      refine k_iaload C d_Mo_perform_452 am_12 (by decide) (m_rpv 6 0 rfl ‹_›) rfl ?_
      refine k_iastore C d_Mo_perform_453 am_15 (by decide) (mx (g) 4 (b) 24 (by omega) (by decide)).1 (mx (g) 4 (b) 24 (by omega) (by decide)).2 I46 (trivial) (fun I48 => ?_)
      refine k_iconst C d_Mo_perform_454 (v := 0) (by decide) ?_
      exact k_ireturn C (E.to (by first | (simp only [mpT_0, mpT_1, mpT_2, mpT_3, mpT_4, mpT_5, mpT_6, mpT_7, mpT_8, mpT_9, mpT_10, mpT_11, mpT_12, mpT_13, mpT_14, mpT_15, mpT_16, mpT_17, mpT_18, mpT_19, mpT_20, mpT_21, mpX_0, mpX_1, mpX_2, mpX_3, mpX_4, mpX_5, mpX_6, mpX_7, mpX_8, mpX_9, mpX_10, mpX_11, mpX_12, mpX_13, mpX_14, mpX_15, mpX_16, mpX_17, mpX_18, mpX_19, mpX_20, mpX_21, m_rpE, h47, ↓reduceIte]; done) | (simp only [mpT_0, mpT_1, mpT_2, mpT_3, mpT_4, mpT_5, mpT_6, mpT_7, mpT_8, mpT_9, mpT_10, mpT_11, mpT_12, mpT_13, mpT_14, mpT_15, mpT_16, mpT_17, mpT_18, mpT_19, mpT_20, mpT_21, mpX_0, mpX_1, mpX_2, mpX_3, mpX_4, mpX_5, mpX_6, mpX_7, mpX_8, mpX_9, mpX_10, mpX_11, mpX_12, mpX_13, mpX_14, mpX_15, mpX_16, mpX_17, mpX_18, mpX_19, mpX_20, mpX_21, m_rpE, h47, ↓reduceIte]; rfl) | contradiction | rfl) (by first | (simp only [mpT_0, mpT_1, mpT_2, mpT_3, mpT_4, mpT_5, mpT_6, mpT_7, mpT_8, mpT_9, mpT_10, mpT_11, mpT_12, mpT_13, mpT_14, mpT_15, mpT_16, mpT_17, mpT_18, mpT_19, mpT_20, mpT_21, mpX_0, mpX_1, mpX_2, mpX_3, mpX_4, mpX_5, mpX_6, mpX_7, mpX_8, mpX_9, mpX_10, mpX_11, mpX_12, mpX_13, mpX_14, mpX_15, mpX_16, mpX_17, mpX_18, mpX_19, mpX_20, mpX_21, m_rpE, h47, ↓reduceIte]; done) | (simp only [mpT_0, mpT_1, mpT_2, mpT_3, mpT_4, mpT_5, mpT_6, mpT_7, mpT_8, mpT_9, mpT_10, mpT_11, mpT_12, mpT_13, mpT_14, mpT_15, mpT_16, mpT_17, mpT_18, mpT_19, mpT_20, mpT_21, mpX_0, mpX_1, mpX_2, mpX_3, mpX_4, mpX_5, mpX_6, mpX_7, mpX_8, mpX_9, mpX_10, mpX_11, mpX_12, mpX_13, mpX_14, mpX_15, mpX_16, mpX_17, mpX_18, mpX_19, mpX_20, mpX_21, m_rpE, h47, ↓reduceIte]; rfl) | contradiction | rfl)) d_Mo_perform_455
