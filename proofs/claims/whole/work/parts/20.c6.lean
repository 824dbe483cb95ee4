set_option maxHeartbeats 4000000 in
set_option maxRecDepth 100000 in
theorem b_turn {X : kX} {G : kG} {l : Launch} {K : kM} (C : k_C X kT b_Ke_takeTurn y_Ke_takeTurn.cls gS G 7 l (k_rm 6)) (p : Nat) (x : Int32) (hp : p < 2) (hx : vp_in x 6) (I0 : g_Inv K) (E : k_E X none none (g_turnA K p x.toNatClampNeg) 0 0) : k_W X 0 0 37 [(2, .int (x)), (0, .ref (G.2.2 0 0)), (1, .ref (G.2.2 11 p))] [] K := by
  refine k_aload_n C d_Ke_takeTurn_37 rfl ?_
  refine k_getr C d_Ke_takeTurn_38 fg_Ke_25 (by first | assumption | decide | exact k_lt (by assumption)) rfl ?_
  refine k_iload_n C d_Ke_takeTurn_41 rfl ?_
  refine k_aaload C d_Ke_takeTurn_42 ar_6 (by first | assumption | decide | exact k_lt (by assumption)) hx rfl rfl ?_
  refine k_astore_n C d_Ke_takeTurn_43 (by decide) ?_
  refine k_aload_n C d_Ke_takeTurn_44 rfl ?_
  refine k_get C d_Ke_takeTurn_45 fg_Ke_101 (by first | assumption | decide | exact k_lt (by assumption)) rfl ?_
  refine k_istore C d_Ke_takeTurn_48 (by decide) ?_
  refine k_aload_n C d_Ke_takeTurn_50 rfl ?_
  refine k_getr C d_Ke_takeTurn_51 fg_Ke_12 (by first | assumption | decide | exact k_lt (by assumption)) rfl ?_
  refine k_iload C d_Ke_takeTurn_54 rfl ?_
  refine k_iconst C d_Ke_takeTurn_56 (v := 0) (by decide) ?_
  refine k_callVi C kg_all (c_Pg_part l G _ _ _ I0 (I0 7 _ 4) (k_in (by decide))) cs_Ke_151 cv_Pg_part ob_1 (by first | assumption | decide | exact k_lt (by assumption)) rfl rfl (Nat.le_of_ble_eq_true rfl) ⟨rfl, rfl⟩ ⟨by decide, by decide⟩ ⟨Nat.zero_le _, Nat.zero_le _⟩ d_Ke_takeTurn_57 I0 (fun I1 => ?_)
  refine k_istore C d_Ke_takeTurn_60 (by decide) ?_
  refine k_aload_n C d_Ke_takeTurn_62 rfl ?_
  refine k_iload C d_Ke_takeTurn_63 rfl ?_
  refine k_iconst C d_Ke_takeTurn_65 (v := 1) (by decide) ?_
  refine k_iadd C d_Ke_takeTurn_66 ?_
  refine k_callVv C kg_all (c_Gu_goTo l G _ _ _ I1 (by first | assumption | decide | exact k_lt (by assumption))) cs_Ke_197 cv_Gu_goTo ob_7 (by first | assumption | decide | exact k_lt (by assumption)) rfl rfl (Nat.le_of_ble_eq_true rfl) ⟨rfl, rfl⟩ ⟨by decide, by decide⟩ ⟨Nat.zero_le _, Nat.zero_le _⟩ d_Ke_takeTurn_67 (iv_goTo I1) (fun I2 => ?_)
  refine k_aload_n C d_Ke_takeTurn_70 rfl ?_
  refine k_dup C d_Ke_takeTurn_71 rfl ?_
  refine k_get C d_Ke_takeTurn_72 fg_Ke_200 (by first | assumption | decide | exact k_lt (by assumption)) rfl ?_
  refine k_iconst C d_Ke_takeTurn_75 (v := 1) (by decide) ?_
  refine k_isub C d_Ke_takeTurn_76 ?_
  refine k_put C d_Ke_takeTurn_77 fp_Ke_200 (by first | assumption | decide | exact k_lt (by assumption)) rfl I2 (trivial) (fun I3 => ?_)
  refine k_aload_n C d_Ke_takeTurn_80 rfl ?_
  refine k_dup C d_Ke_takeTurn_81 rfl ?_
  refine k_get C d_Ke_takeTurn_82 fg_Ke_154 (by first | assumption | decide | exact k_lt (by assumption)) rfl ?_
  refine k_iconst C d_Ke_takeTurn_85 (v := 1) (by decide) ?_
  refine k_iadd C d_Ke_takeTurn_86 ?_
  refine k_put C d_Ke_takeTurn_87 fp_Ke_154 (by first | assumption | decide | exact k_lt (by assumption)) rfl I3 (trivial) (fun I4 => ?_)
  refine k_aload_n C d_Ke_takeTurn_90 rfl ?_
  refine k_aload_n C d_Ke_takeTurn_91 rfl ?_
  refine k_iload C d_Ke_takeTurn_92 rfl ?_
  refine k_iload C d_Ke_takeTurn_94 rfl ?_
  refine k_callVi C kg_all (c_Ke_perform l G _ _ _ _ I4 (k_lt hx) (r_p0 I0 (I0 7 _ 4)) (I0 7 _ 4)) cs_Ke_203 cv_Ke_perform ob_0 (by first | assumption | decide | exact k_lt (by assumption)) rfl rfl (Nat.le_of_ble_eq_true rfl) ⟨rfl, rfl⟩ ⟨by decide, by decide⟩ ⟨Nat.zero_le _, Nat.zero_le _⟩ d_Ke_takeTurn_96 (iv_perT I4 (k_lt hx) (I0 7 _ 4)) (fun I5 => ?_)
  refine k_istore C d_Ke_takeTurn_99 (by decide) ?_
  refine k_iload C d_Ke_takeTurn_101 rfl ?_
  refine k_if_eq C d_Ke_takeTurn_103 (tgt := 115) (by decide) (fun h6 => ?_) (fun h6 => ?_)
  · refine k_aload_n C d_Ke_takeTurn_115 rfl ?_
    refine k_get C d_Ke_takeTurn_116 fg_Ke_98 (by first | assumption | decide | exact k_lt (by assumption)) rfl ?_
    refine k_iconst C d_Ke_takeTurn_119 (v := 1) (by decide) ?_
    refine k_icmp_eq C d_Ke_takeTurn_120 (tgt := 131) (by decide) (fun h7 => ?_) (fun h7 => ?_)
    · refine k_aload_n C d_Ke_takeTurn_131 rfl ?_
      refine k_get C d_Ke_takeTurn_132 fg_Ke_200 (by first | assumption | decide | exact k_lt (by assumption)) rfl ?_
      refine k_if_le C d_Ke_takeTurn_135 (tgt := 145) (by decide) (fun h8 => ?_) (fun h8 => ?_)
      · refine k_aload_n C d_Ke_takeTurn_145 rfl ?_
        refine k_iconst C d_Ke_takeTurn_146 (v := (-1)) (by decide) ?_
        refine k_put C d_Ke_takeTurn_147 fp_Ke_173 (by first | assumption | decide | exact k_lt (by assumption)) rfl I5 (Or.inl rfl) (fun I9 => ?_)
        refine k_aload_n C d_Ke_takeTurn_150 rfl ?_
        refine k_aload_n C d_Ke_takeTurn_151 rfl ?_
        refine k_callVv C kg_all (c_Ke_makeReady l G _ _ I9 (by first | assumption | decide | exact k_lt (by assumption))) cs_Ke_57 cv_Ke_makeReady ob_0 (by first | assumption | decide | exact k_lt (by assumption)) rfl rfl (Nat.le_of_ble_eq_true rfl) ⟨rfl, rfl⟩ ⟨by decide, by decide⟩ ⟨Nat.zero_le _, Nat.zero_le _⟩ d_Ke_takeTurn_152 (iv_ready I9 (by first | assumption | decide | exact k_lt (by assumption))) (fun I10 => ?_)
        exact k_return C (E.to rfl (by first | (simp only [g_turnA, h6, h7, h8, ↓reduceIte]; done) | (simp only [g_turnA, h6, h7, h8, ↓reduceIte]; rfl) | contradiction | rfl)) d_Ke_takeTurn_155
      · refine k_iload C d_Ke_takeTurn_138 rfl ?_
        refine k_bipush C d_Ke_takeTurn_140 (v := 12) (by decide) ?_
        refine k_icmp_ne C d_Ke_takeTurn_142 (tgt := 155) (by decide) (fun h11 => ?_) (fun h11 => ?_)
        · exact k_return C (E.to rfl (by first | (simp only [g_turnA, h6, h7, h8, h11, ↓reduceIte]; done) | (simp only [g_turnA, h6, h7, h8, h11, ↓reduceIte]; rfl) | contradiction | rfl)) d_Ke_takeTurn_155
        · refine k_aload_n C d_Ke_takeTurn_145 rfl ?_
          refine k_iconst C d_Ke_takeTurn_146 (v := (-1)) (by decide) ?_
          refine k_put C d_Ke_takeTurn_147 fp_Ke_173 (by first | assumption | decide | exact k_lt (by assumption)) rfl I5 (Or.inl rfl) (fun I12 => ?_)
          refine k_aload_n C d_Ke_takeTurn_150 rfl ?_
          refine k_aload_n C d_Ke_takeTurn_151 rfl ?_
          refine k_callVv C kg_all (c_Ke_makeReady l G _ _ I12 (by first | assumption | decide | exact k_lt (by assumption))) cs_Ke_57 cv_Ke_makeReady ob_0 (by first | assumption | decide | exact k_lt (by assumption)) rfl rfl (Nat.le_of_ble_eq_true rfl) ⟨rfl, rfl⟩ ⟨by decide, by decide⟩ ⟨Nat.zero_le _, Nat.zero_le _⟩ d_Ke_takeTurn_152 (iv_ready I12 (by first | assumption | decide | exact k_lt (by assumption))) (fun I13 => ?_)
          exact k_return C (E.to rfl (by first | (simp only [g_turnA, h6, h7, h8, if_pos h11, ↓reduceIte]; done) | (simp only [g_turnA, h6, h7, h8, if_pos h11, ↓reduceIte]; rfl))) d_Ke_takeTurn_155
    · refine k_aload_n C d_Ke_takeTurn_123 rfl ?_
      refine k_iconst C d_Ke_takeTurn_124 (v := (-1)) (by decide) ?_
      refine k_put C d_Ke_takeTurn_125 fp_Ke_173 (by first | assumption | decide | exact k_lt (by assumption)) rfl I5 (Or.inl rfl) (fun I14 => ?_)
      refine k_goto C d_Ke_takeTurn_128 (tgt := 155) (by decide) ?_
      exact k_return C (E.to rfl (by first | (simp only [g_turnA, h6, h7, ↓reduceIte]; done) | (simp only [g_turnA, h6, h7, ↓reduceIte]; rfl) | contradiction | rfl)) d_Ke_takeTurn_155
  · refine k_aload_n C d_Ke_takeTurn_106 rfl ?_
    refine k_aload_n C d_Ke_takeTurn_107 rfl ?_
    refine k_iload C d_Ke_takeTurn_108 rfl ?_
    refine k_iload C d_Ke_takeTurn_110 rfl ?_
    refine k_callVv C kg_all (c_Ke_trap l G _ _ _ _ I5 (by first | assumption | decide | exact k_lt (by assumption))) cs_Ke_207 cv_Ke_trap ob_0 (by first | assumption | decide | exact k_lt (by assumption)) rfl rfl (Nat.le_of_ble_eq_true rfl) ⟨rfl, rfl⟩ ⟨by decide, by decide⟩ ⟨Nat.zero_le _, Nat.zero_le _⟩ d_Ke_takeTurn_112 (iv_trap I5) (fun I15 => ?_)
    refine k_aload_n C d_Ke_takeTurn_115 rfl ?_
    refine k_get C d_Ke_takeTurn_116 fg_Ke_98 (by first | assumption | decide | exact k_lt (by assumption)) rfl ?_
    refine k_iconst C d_Ke_takeTurn_119 (v := 1) (by decide) ?_
    refine k_icmp_eq C d_Ke_takeTurn_120 (tgt := 131) (by decide) (fun h16 => ?_) (fun h16 => ?_)
    · refine k_aload_n C d_Ke_takeTurn_131 rfl ?_
      refine k_get C d_Ke_takeTurn_132 fg_Ke_200 (by first | assumption | decide | exact k_lt (by assumption)) rfl ?_
      refine k_if_le C d_Ke_takeTurn_135 (tgt := 145) (by decide) (fun h17 => ?_) (fun h17 => ?_)
      · refine k_aload_n C d_Ke_takeTurn_145 rfl ?_
        refine k_iconst C d_Ke_takeTurn_146 (v := (-1)) (by decide) ?_
        refine k_put C d_Ke_takeTurn_147 fp_Ke_173 (by first | assumption | decide | exact k_lt (by assumption)) rfl I15 (Or.inl rfl) (fun I18 => ?_)
        refine k_aload_n C d_Ke_takeTurn_150 rfl ?_
        refine k_aload_n C d_Ke_takeTurn_151 rfl ?_
        refine k_callVv C kg_all (c_Ke_makeReady l G _ _ I18 (by first | assumption | decide | exact k_lt (by assumption))) cs_Ke_57 cv_Ke_makeReady ob_0 (by first | assumption | decide | exact k_lt (by assumption)) rfl rfl (Nat.le_of_ble_eq_true rfl) ⟨rfl, rfl⟩ ⟨by decide, by decide⟩ ⟨Nat.zero_le _, Nat.zero_le _⟩ d_Ke_takeTurn_152 (iv_ready I18 (by first | assumption | decide | exact k_lt (by assumption))) (fun I19 => ?_)
        exact k_return C (E.to rfl (by first | (simp only [g_turnA, h6, h16, h17, ↓reduceIte]; done) | (simp only [g_turnA, h6, h16, h17, ↓reduceIte]; rfl) | contradiction | rfl)) d_Ke_takeTurn_155
      · refine k_iload C d_Ke_takeTurn_138 rfl ?_
        refine k_bipush C d_Ke_takeTurn_140 (v := 12) (by decide) ?_
        refine k_icmp_ne C d_Ke_takeTurn_142 (tgt := 155) (by decide) (fun h20 => ?_) (fun h20 => ?_)
        · exact k_return C (E.to rfl (by first | (simp only [g_turnA, h6, h16, h17, h20, ↓reduceIte]; done) | (simp only [g_turnA, h6, h16, h17, h20, ↓reduceIte]; rfl) | contradiction | rfl)) d_Ke_takeTurn_155
        · refine k_aload_n C d_Ke_takeTurn_145 rfl ?_
          refine k_iconst C d_Ke_takeTurn_146 (v := (-1)) (by decide) ?_
          refine k_put C d_Ke_takeTurn_147 fp_Ke_173 (by first | assumption | decide | exact k_lt (by assumption)) rfl I15 (Or.inl rfl) (fun I21 => ?_)
          refine k_aload_n C d_Ke_takeTurn_150 rfl ?_
          refine k_aload_n C d_Ke_takeTurn_151 rfl ?_
          refine k_callVv C kg_all (c_Ke_makeReady l G _ _ I21 (by first | assumption | decide | exact k_lt (by assumption))) cs_Ke_57 cv_Ke_makeReady ob_0 (by first | assumption | decide | exact k_lt (by assumption)) rfl rfl (Nat.le_of_ble_eq_true rfl) ⟨rfl, rfl⟩ ⟨by decide, by decide⟩ ⟨Nat.zero_le _, Nat.zero_le _⟩ d_Ke_takeTurn_152 (iv_ready I21 (by first | assumption | decide | exact k_lt (by assumption))) (fun I22 => ?_)
          exact k_return C (E.to rfl (by first | (simp only [g_turnA, h6, h16, h17, if_pos h20, ↓reduceIte]; done) | (simp only [g_turnA, h6, h16, h17, if_pos h20, ↓reduceIte]; rfl))) d_Ke_takeTurn_155
    · refine k_aload_n C d_Ke_takeTurn_123 rfl ?_
      refine k_iconst C d_Ke_takeTurn_124 (v := (-1)) (by decide) ?_
      refine k_put C d_Ke_takeTurn_125 fp_Ke_173 (by first | assumption | decide | exact k_lt (by assumption)) rfl I15 (Or.inl rfl) (fun I23 => ?_)
      refine k_goto C d_Ke_takeTurn_128 (tgt := 155) (by decide) ?_
      exact k_return C (E.to rfl (by first | (simp only [g_turnA, h6, h16, ↓reduceIte]; done) | (simp only [g_turnA, h6, h16, ↓reduceIte]; rfl) | contradiction | rfl)) d_Ke_takeTurn_155
set_option maxHeartbeats 4000000 in
set_option maxRecDepth 100000 in
theorem c_Ke_takeTurn (l : Launch) (G : kG) (K : kM) (p : Nat) (I0 : g_Inv K) (hp : p < 2) : k_Met l gS kT y_Ke_takeTurn b_Ke_takeTurn 7 none (k_rm 6) G [.ref (G.2.2 0 0), .ref (G.2.2 11 p)] K none (g_turn K p) := by
  refine k_intro (by decide +kernel) rfl (Nat.le_of_ble_eq_true rfl) ?_
  intro X C E
  refine k_aload_n C d_Ke_takeTurn_0 rfl ?_
  refine k_get C d_Ke_takeTurn_1 fg_Ke_173 (by first | assumption | decide | exact k_lt (by assumption)) rfl ?_
  refine k_iconst C d_Ke_takeTurn_4 (v := (-1)) (by decide) ?_
  refine k_icmp_ne C d_Ke_takeTurn_5 (tgt := 16) (by decide) (fun h1 => ?_) (fun h1 => ?_)
  · refine k_aload_n C d_Ke_takeTurn_16 rfl ?_
    refine k_get C d_Ke_takeTurn_17 fg_Ke_173 (by first | assumption | decide | exact k_lt (by assumption)) rfl ?_
    refine k_istore_n C d_Ke_takeTurn_20 (by decide) ?_
    refine k_iload_n C d_Ke_takeTurn_21 rfl ?_
    refine k_iconst C d_Ke_takeTurn_22 (v := (-1)) (by decide) ?_
    refine k_icmp_ne C d_Ke_takeTurn_23 (tgt := 37) (by decide) (fun h2 => ?_) (fun h2 => absurd h2 h1)
    first | (exact k_loc [(2, .int (K 11 p 1)), (0, .ref (G.2.2 0 0)), (1, .ref (G.2.2 11 p))] ⟨rfl, rfl, rfl, trivial⟩ (b_turn C p _ hp (Or.resolve_left (I0 11 p 1) h1) I0 (E.to rfl (by simp only [g_turn, *, ↓reduceIte])))) | (exact k_loc [(2, .int (g_rowX K p)), (0, .ref (G.2.2 0 0)), (1, .ref (G.2.2 11 p))] ⟨rfl, rfl, rfl, trivial⟩ (b_turn C p _ hp (r_rowX1 I0 ‹_›) I0 (E.to rfl (by simp only [g_turn, *, ↓reduceIte]))))
  · refine k_aload_n C d_Ke_takeTurn_8 rfl ?_
    refine k_aload_n C d_Ke_takeTurn_9 rfl ?_
    refine k_callVi C kg_all (c_Ke_takeNext l G _ _ I0 (by first | assumption | decide | exact k_lt (by assumption))) cs_Ke_193 cv_Ke_takeNext ob_0 (by first | assumption | decide | exact k_lt (by assumption)) rfl rfl (Nat.le_of_ble_eq_true rfl) ⟨rfl, rfl⟩ ⟨by decide, by decide⟩ ⟨Nat.zero_le _, Nat.zero_le _⟩ d_Ke_takeTurn_10 (iv_next I0) (fun I3 => ?_)
    refine k_goto C d_Ke_takeTurn_13 (tgt := 20) (by decide) ?_
    refine k_istore_n C d_Ke_takeTurn_20 (by decide) ?_
    refine k_iload_n C d_Ke_takeTurn_21 rfl ?_
    refine k_iconst C d_Ke_takeTurn_22 (v := (-1)) (by decide) ?_
    refine k_icmp_ne C d_Ke_takeTurn_23 (tgt := 37) (by decide) (fun h4 => ?_) (fun h4 => ?_)
    · first | (exact k_loc [(2, .int (K 11 p 1)), (0, .ref (G.2.2 0 0)), (1, .ref (G.2.2 11 p))] ⟨rfl, rfl, rfl, trivial⟩ (b_turn C p _ hp (Or.resolve_left (I0 11 p 1) h1) I0 (E.to rfl (by simp only [g_turn, *, ↓reduceIte])))) | (exact k_loc [(2, .int (g_rowX K p)), (0, .ref (G.2.2 0 0)), (1, .ref (G.2.2 11 p))] ⟨rfl, rfl, rfl, trivial⟩ (b_turn C p _ hp (r_rowX1 I0 ‹_›) I3 (E.to rfl (by simp only [g_turn, *, ↓reduceIte]))))
    · refine k_aload_n C d_Ke_takeTurn_26 rfl ?_
      refine k_dup C d_Ke_takeTurn_27 rfl ?_
      refine k_get C d_Ke_takeTurn_28 fg_Ke_167 (by first | assumption | decide | exact k_lt (by assumption)) rfl ?_
      refine k_iconst C d_Ke_takeTurn_31 (v := 1) (by decide) ?_
      refine k_iadd C d_Ke_takeTurn_32 ?_
      refine k_put C d_Ke_takeTurn_33 fp_Ke_167 (by first | assumption | decide | exact k_lt (by assumption)) rfl I3 (trivial) (fun I5 => ?_)
      exact k_return C (E.to rfl (by first | (simp only [g_turn, h1, h4, ↓reduceIte]; done) | (simp only [g_turn, h1, h4, ↓reduceIte]; rfl) | contradiction | rfl)) d_Ke_takeTurn_36
set_option maxHeartbeats 4000000 in
set_option maxRecDepth 100000 in
theorem c_Ke_count (l : Launch) (G : kG) (K : kM) (w : Int32) (I0 : g_Inv K) : k_Met l gS kT y_Ke_count b_Ke_count 2 (some .int) (k_rm 0) G [.ref (G.2.2 0 0), .int w] K (some (.int (g_count K w))) (K) := by
  refine k_intro (by decide +kernel) rfl (Nat.le_of_ble_eq_true rfl) ?_
  intro X C E
  refine k_iload_n C d_Ke_count_0 rfl ?_
  rcases r_w22 w with h | rfl | rfl | rfl | rfl | rfl | rfl | rfl | rfl | rfl | rfl | rfl | rfl | rfl | rfl | rfl | rfl | rfl | rfl | rfl | rfl | rfl | rfl
  · refine k_tabOut C d_Ke_count_1 h (tgt := 193) (by decide) ?_
    refine k_bipush C d_Ke_count_193 (v := (-2)) (by decide) ?_
    exact k_ireturn C (E.to (by first | (simp only [gk_0, gk_1, gk_2, gk_3, gk_4, gk_5, gk_6, gk_7, gk_8, gk_9, gk_10, gk_11, gk_12, gk_13, gk_14, gk_15, gk_16, gk_17, gk_18, gk_19, gk_20, gk_21, gk_o K h, ↓reduceIte]; done) | (simp only [gk_0, gk_1, gk_2, gk_3, gk_4, gk_5, gk_6, gk_7, gk_8, gk_9, gk_10, gk_11, gk_12, gk_13, gk_14, gk_15, gk_16, gk_17, gk_18, gk_19, gk_20, gk_21, gk_o K h, ↓reduceIte]; rfl) | contradiction | rfl) (by first | (simp only [gk_0, gk_1, gk_2, gk_3, gk_4, gk_5, gk_6, gk_7, gk_8, gk_9, gk_10, gk_11, gk_12, gk_13, gk_14, gk_15, gk_16, gk_17, gk_18, gk_19, gk_20, gk_21, gk_o K h, ↓reduceIte]; done) | (simp only [gk_0, gk_1, gk_2, gk_3, gk_4, gk_5, gk_6, gk_7, gk_8, gk_9, gk_10, gk_11, gk_12, gk_13, gk_14, gk_15, gk_16, gk_17, gk_18, gk_19, gk_20, gk_21, gk_o K h, ↓reduceIte]; rfl) | contradiction | rfl)) d_Ke_count_195
  · refine k_tabIn C d_Ke_count_1 (by decide) (by decide) (off := 103) (by decide) (tgt := 104) (by decide) ?_
    refine k_aload_n C d_Ke_count_104 rfl ?_
    refine k_get C d_Ke_count_105 fg_Ke_83 (by first | assumption | decide | exact k_lt (by assumption)) rfl ?_
    exact k_ireturn C (E.to (by first | (simp only [gk_0, gk_1, gk_2, gk_3, gk_4, gk_5, gk_6, gk_7, gk_8, gk_9, gk_10, gk_11, gk_12, gk_13, gk_14, gk_15, gk_16, gk_17, gk_18, gk_19, gk_20, gk_21, ↓reduceIte]; done) | (simp only [gk_0, gk_1, gk_2, gk_3, gk_4, gk_5, gk_6, gk_7, gk_8, gk_9, gk_10, gk_11, gk_12, gk_13, gk_14, gk_15, gk_16, gk_17, gk_18, gk_19, gk_20, gk_21, ↓reduceIte]; rfl) | contradiction | rfl) (by first | (simp only [gk_0, gk_1, gk_2, gk_3, gk_4, gk_5, gk_6, gk_7, gk_8, gk_9, gk_10, gk_11, gk_12, gk_13, gk_14, gk_15, gk_16, gk_17, gk_18, gk_19, gk_20, gk_21, ↓reduceIte]; done) | (simp only [gk_0, gk_1, gk_2, gk_3, gk_4, gk_5, gk_6, gk_7, gk_8, gk_9, gk_10, gk_11, gk_12, gk_13, gk_14, gk_15, gk_16, gk_17, gk_18, gk_19, gk_20, gk_21, ↓reduceIte]; rfl) | contradiction | rfl)) d_Ke_count_108
  · refine k_tabIn C d_Ke_count_1 (by decide) (by decide) (off := 108) (by decide) (tgt := 109) (by decide) ?_
    refine k_aload_n C d_Ke_count_109 rfl ?_
    refine k_get C d_Ke_count_110 fg_Ke_154 (by first | assumption | decide | exact k_lt (by assumption)) rfl ?_
    exact k_ireturn C (E.to (by first | (simp only [gk_0, gk_1, gk_2, gk_3, gk_4, gk_5, gk_6, gk_7, gk_8, gk_9, gk_10, gk_11, gk_12, gk_13, gk_14, gk_15, gk_16, gk_17, gk_18, gk_19, gk_20, gk_21, ↓reduceIte]; done) | (simp only [gk_0, gk_1, gk_2, gk_3, gk_4, gk_5, gk_6, gk_7, gk_8, gk_9, gk_10, gk_11, gk_12, gk_13, gk_14, gk_15, gk_16, gk_17, gk_18, gk_19, gk_20, gk_21, ↓reduceIte]; rfl) | contradiction | rfl) (by first | (simp only [gk_0, gk_1, gk_2, gk_3, gk_4, gk_5, gk_6, gk_7, gk_8, gk_9, gk_10, gk_11, gk_12, gk_13, gk_14, gk_15, gk_16, gk_17, gk_18, gk_19, gk_20, gk_21, ↓reduceIte]; done) | (simp only [gk_0, gk_1, gk_2, gk_3, gk_4, gk_5, gk_6, gk_7, gk_8, gk_9, gk_10, gk_11, gk_12, gk_13, gk_14, gk_15, gk_16, gk_17, gk_18, gk_19, gk_20, gk_21, ↓reduceIte]; rfl) | contradiction | rfl)) d_Ke_count_113
  · refine k_tabIn C d_Ke_count_1 (by decide) (by decide) (off := 113) (by decide) (tgt := 114) (by decide) ?_
    refine k_aload_n C d_Ke_count_114 rfl ?_
    refine k_get C d_Ke_count_115 fg_Ke_157 (by first | assumption | decide | exact k_lt (by assumption)) rfl ?_
    exact k_ireturn C (E.to (by first | (simp only [gk_0, gk_1, gk_2, gk_3, gk_4, gk_5, gk_6, gk_7, gk_8, gk_9, gk_10, gk_11, gk_12, gk_13, gk_14, gk_15, gk_16, gk_17, gk_18, gk_19, gk_20, gk_21, ↓reduceIte]; done) | (simp only [gk_0, gk_1, gk_2, gk_3, gk_4, gk_5, gk_6, gk_7, gk_8, gk_9, gk_10, gk_11, gk_12, gk_13, gk_14, gk_15, gk_16, gk_17, gk_18, gk_19, gk_20, gk_21, ↓reduceIte]; rfl) | contradiction | rfl) (by first | (simp only [gk_0, gk_1, gk_2, gk_3, gk_4, gk_5, gk_6, gk_7, gk_8, gk_9, gk_10, gk_11, gk_12, gk_13, gk_14, gk_15, gk_16, gk_17, gk_18, gk_19, gk_20, gk_21, ↓reduceIte]; done) | (simp only [gk_0, gk_1, gk_2, gk_3, gk_4, gk_5, gk_6, gk_7, gk_8, gk_9, gk_10, gk_11, gk_12, gk_13, gk_14, gk_15, gk_16, gk_17, gk_18, gk_19, gk_20, gk_21, ↓reduceIte]; rfl) | contradiction | rfl)) d_Ke_count_118
  · refine k_tabIn C d_Ke_count_1 (by decide) (by decide) (off := 118) (by decide) (tgt := 119) (by decide) ?_
    refine k_aload_n C d_Ke_count_119 rfl ?_
    refine k_get C d_Ke_count_120 fg_Ke_158 (by first | assumption | decide | exact k_lt (by assumption)) rfl ?_
    exact k_ireturn C (E.to (by first | (simp only [gk_0, gk_1, gk_2, gk_3, gk_4, gk_5, gk_6, gk_7, gk_8, gk_9, gk_10, gk_11, gk_12, gk_13, gk_14, gk_15, gk_16, gk_17, gk_18, gk_19, gk_20, gk_21, ↓reduceIte]; done) | (simp only [gk_0, gk_1, gk_2, gk_3, gk_4, gk_5, gk_6, gk_7, gk_8, gk_9, gk_10, gk_11, gk_12, gk_13, gk_14, gk_15, gk_16, gk_17, gk_18, gk_19, gk_20, gk_21, ↓reduceIte]; rfl) | contradiction | rfl) (by first | (simp only [gk_0, gk_1, gk_2, gk_3, gk_4, gk_5, gk_6, gk_7, gk_8, gk_9, gk_10, gk_11, gk_12, gk_13, gk_14, gk_15, gk_16, gk_17, gk_18, gk_19, gk_20, gk_21, ↓reduceIte]; done) | (simp only [gk_0, gk_1, gk_2, gk_3, gk_4, gk_5, gk_6, gk_7, gk_8, gk_9, gk_10, gk_11, gk_12, gk_13, gk_14, gk_15, gk_16, gk_17, gk_18, gk_19, gk_20, gk_21, ↓reduceIte]; rfl) | contradiction | rfl)) d_Ke_count_123
  · refine k_tabIn C d_Ke_count_1 (by decide) (by decide) (off := 123) (by decide) (tgt := 124) (by decide) ?_
    refine k_aload_n C d_Ke_count_124 rfl ?_
    refine k_get C d_Ke_count_125 fg_Ke_161 (by first | assumption | decide | exact k_lt (by assumption)) rfl ?_
    exact k_ireturn C (E.to (by first | (simp only [gk_0, gk_1, gk_2, gk_3, gk_4, gk_5, gk_6, gk_7, gk_8, gk_9, gk_10, gk_11, gk_12, gk_13, gk_14, gk_15, gk_16, gk_17, gk_18, gk_19, gk_20, gk_21, ↓reduceIte]; done) | (simp only [gk_0, gk_1, gk_2, gk_3, gk_4, gk_5, gk_6, gk_7, gk_8, gk_9, gk_10, gk_11, gk_12, gk_13, gk_14, gk_15, gk_16, gk_17, gk_18, gk_19, gk_20, gk_21, ↓reduceIte]; rfl) | contradiction | rfl) (by first | (simp only [gk_0, gk_1, gk_2, gk_3, gk_4, gk_5, gk_6, gk_7, gk_8, gk_9, gk_10, gk_11, gk_12, gk_13, gk_14, gk_15, gk_16, gk_17, gk_18, gk_19, gk_20, gk_21, ↓reduceIte]; done) | (simp only [gk_0, gk_1, gk_2, gk_3, gk_4, gk_5, gk_6, gk_7, gk_8, gk_9, gk_10, gk_11, gk_12, gk_13, gk_14, gk_15, gk_16, gk_17, gk_18, gk_19, gk_20, gk_21, ↓reduceIte]; rfl) | contradiction | rfl)) d_Ke_count_128
  · refine k_tabIn C d_Ke_count_1 (by decide) (by decide) (off := 128) (by decide) (tgt := 129) (by decide) ?_
    refine k_aload_n C d_Ke_count_129 rfl ?_
    refine k_getr C d_Ke_count_130 fg_Ke_19 (by first | assumption | decide | exact k_lt (by assumption)) rfl ?_
    refine k_get C d_Ke_count_133 fg_Ke_164 (by first | assumption | decide | exact k_lt (by assumption)) rfl ?_
    exact k_ireturn C (E.to (by first | (simp only [gk_0, gk_1, gk_2, gk_3, gk_4, gk_5, gk_6, gk_7, gk_8, gk_9, gk_10, gk_11, gk_12, gk_13, gk_14, gk_15, gk_16, gk_17, gk_18, gk_19, gk_20, gk_21, ↓reduceIte]; done) | (simp only [gk_0, gk_1, gk_2, gk_3, gk_4, gk_5, gk_6, gk_7, gk_8, gk_9, gk_10, gk_11, gk_12, gk_13, gk_14, gk_15, gk_16, gk_17, gk_18, gk_19, gk_20, gk_21, ↓reduceIte]; rfl) | contradiction | rfl) (by first | (simp only [gk_0, gk_1, gk_2, gk_3, gk_4, gk_5, gk_6, gk_7, gk_8, gk_9, gk_10, gk_11, gk_12, gk_13, gk_14, gk_15, gk_16, gk_17, gk_18, gk_19, gk_20, gk_21, ↓reduceIte]; done) | (simp only [gk_0, gk_1, gk_2, gk_3, gk_4, gk_5, gk_6, gk_7, gk_8, gk_9, gk_10, gk_11, gk_12, gk_13, gk_14, gk_15, gk_16, gk_17, gk_18, gk_19, gk_20, gk_21, ↓reduceIte]; rfl) | contradiction | rfl)) d_Ke_count_136
  · refine k_tabIn C d_Ke_count_1 (by decide) (by decide) (off := 136) (by decide) (tgt := 137) (by decide) ?_
    refine k_aload_n C d_Ke_count_137 rfl ?_
    refine k_get C d_Ke_count_138 fg_Ke_167 (by first | assumption | decide | exact k_lt (by assumption)) rfl ?_
    exact k_ireturn C (E.to (by first | (simp only [gk_0, gk_1, gk_2, gk_3, gk_4, gk_5, gk_6, gk_7, gk_8, gk_9, gk_10, gk_11, gk_12, gk_13, gk_14, gk_15, gk_16, gk_17, gk_18, gk_19, gk_20, gk_21, ↓reduceIte]; done) | (simp only [gk_0, gk_1, gk_2, gk_3, gk_4, gk_5, gk_6, gk_7, gk_8, gk_9, gk_10, gk_11, gk_12, gk_13, gk_14, gk_15, gk_16, gk_17, gk_18, gk_19, gk_20, gk_21, ↓reduceIte]; rfl) | contradiction | rfl) (by first | (simp only [gk_0, gk_1, gk_2, gk_3, gk_4, gk_5, gk_6, gk_7, gk_8, gk_9, gk_10, gk_11, gk_12, gk_13, gk_14, gk_15, gk_16, gk_17, gk_18, gk_19, gk_20, gk_21, ↓reduceIte]; done) | (simp only [gk_0, gk_1, gk_2, gk_3, gk_4, gk_5, gk_6, gk_7, gk_8, gk_9, gk_10, gk_11, gk_12, gk_13, gk_14, gk_15, gk_16, gk_17, gk_18, gk_19, gk_20, gk_21, ↓reduceIte]; rfl) | contradiction | rfl)) d_Ke_count_141
  · refine k_tabIn C d_Ke_count_1 (by decide) (by decide) (off := 141) (by decide) (tgt := 142) (by decide) ?_
    refine k_aload_n C d_Ke_count_142 rfl ?_
    refine k_get C d_Ke_count_143 fg_Ke_170 (by first | assumption | decide | exact k_lt (by assumption)) rfl ?_
    exact k_ireturn C (E.to (by first | (simp only [gk_0, gk_1, gk_2, gk_3, gk_4, gk_5, gk_6, gk_7, gk_8, gk_9, gk_10, gk_11, gk_12, gk_13, gk_14, gk_15, gk_16, gk_17, gk_18, gk_19, gk_20, gk_21, ↓reduceIte]; done) | (simp only [gk_0, gk_1, gk_2, gk_3, gk_4, gk_5, gk_6, gk_7, gk_8, gk_9, gk_10, gk_11, gk_12, gk_13, gk_14, gk_15, gk_16, gk_17, gk_18, gk_19, gk_20, gk_21, ↓reduceIte]; rfl) | contradiction | rfl) (by first | (simp only [gk_0, gk_1, gk_2, gk_3, gk_4, gk_5, gk_6, gk_7, gk_8, gk_9, gk_10, gk_11, gk_12, gk_13, gk_14, gk_15, gk_16, gk_17, gk_18, gk_19, gk_20, gk_21, ↓reduceIte]; done) | (simp only [gk_0, gk_1, gk_2, gk_3, gk_4, gk_5, gk_6, gk_7, gk_8, gk_9, gk_10, gk_11, gk_12, gk_13, gk_14, gk_15, gk_16, gk_17, gk_18, gk_19, gk_20, gk_21, ↓reduceIte]; rfl) | contradiction | rfl)) d_Ke_count_146
  · refine k_tabIn C d_Ke_count_1 (by decide) (by decide) (off := 192) (by decide) (tgt := 193) (by decide) ?_
    refine k_bipush C d_Ke_count_193 (v := (-2)) (by decide) ?_
    exact k_ireturn C (E.to (by first | (simp only [gk_0, gk_1, gk_2, gk_3, gk_4, gk_5, gk_6, gk_7, gk_8, gk_9, gk_10, gk_11, gk_12, gk_13, gk_14, gk_15, gk_16, gk_17, gk_18, gk_19, gk_20, gk_21, ↓reduceIte]; done) | (simp only [gk_0, gk_1, gk_2, gk_3, gk_4, gk_5, gk_6, gk_7, gk_8, gk_9, gk_10, gk_11, gk_12, gk_13, gk_14, gk_15, gk_16, gk_17, gk_18, gk_19, gk_20, gk_21, ↓reduceIte]; rfl) | contradiction | rfl) (by first | (simp only [gk_0, gk_1, gk_2, gk_3, gk_4, gk_5, gk_6, gk_7, gk_8, gk_9, gk_10, gk_11, gk_12, gk_13, gk_14, gk_15, gk_16, gk_17, gk_18, gk_19, gk_20, gk_21, ↓reduceIte]; done) | (simp only [gk_0, gk_1, gk_2, gk_3, gk_4, gk_5, gk_6, gk_7, gk_8, gk_9, gk_10, gk_11, gk_12, gk_13, gk_14, gk_15, gk_16, gk_17, gk_18, gk_19, gk_20, gk_21, ↓reduceIte]; rfl) | contradiction | rfl)) d_Ke_count_195
  · refine k_tabIn C d_Ke_count_1 (by decide) (by decide) (off := 192) (by decide) (tgt := 193) (by decide) ?_
    refine k_bipush C d_Ke_count_193 (v := (-2)) (by decide) ?_
    exact k_ireturn C (E.to (by first | (simp only [gk_0, gk_1, gk_2, gk_3, gk_4, gk_5, gk_6, gk_7, gk_8, gk_9, gk_10, gk_11, gk_12, gk_13, gk_14, gk_15, gk_16, gk_17, gk_18, gk_19, gk_20, gk_21, ↓reduceIte]; done) | (simp only [gk_0, gk_1, gk_2, gk_3, gk_4, gk_5, gk_6, gk_7, gk_8, gk_9, gk_10, gk_11, gk_12, gk_13, gk_14, gk_15, gk_16, gk_17, gk_18, gk_19, gk_20, gk_21, ↓reduceIte]; rfl) | contradiction | rfl) (by first | (simp only [gk_0, gk_1, gk_2, gk_3, gk_4, gk_5, gk_6, gk_7, gk_8, gk_9, gk_10, gk_11, gk_12, gk_13, gk_14, gk_15, gk_16, gk_17, gk_18, gk_19, gk_20, gk_21, ↓reduceIte]; done) | (simp only [gk_0, gk_1, gk_2, gk_3, gk_4, gk_5, gk_6, gk_7, gk_8, gk_9, gk_10, gk_11, gk_12, gk_13, gk_14, gk_15, gk_16, gk_17, gk_18, gk_19, gk_20, gk_21, ↓reduceIte]; rfl) | contradiction | rfl)) d_Ke_count_195
  · refine k_tabIn C d_Ke_count_1 (by decide) (by decide) (off := 146) (by decide) (tgt := 147) (by decide) ?_
    refine k_aload_n C d_Ke_count_147 rfl ?_
    refine k_getr C d_Ke_count_148 fg_Ke_31 (by first | assumption | decide | exact k_lt (by assumption)) rfl ?_
    refine k_iconst C d_Ke_count_151 (v := 0) (by decide) ?_
    refine k_aaload C d_Ke_count_152 ar_10 (by first | assumption | decide | exact k_lt (by assumption)) (k_in (by decide)) (j := 0) (by decide) rfl ?_
    refine k_get C d_Ke_count_153 fg_Ke_173 (by first | assumption | decide | exact k_lt (by assumption)) rfl ?_
    exact k_ireturn C (E.to (by first | (simp only [gk_0, gk_1, gk_2, gk_3, gk_4, gk_5, gk_6, gk_7, gk_8, gk_9, gk_10, gk_11, gk_12, gk_13, gk_14, gk_15, gk_16, gk_17, gk_18, gk_19, gk_20, gk_21, ↓reduceIte]; done) | (simp only [gk_0, gk_1, gk_2, gk_3, gk_4, gk_5, gk_6, gk_7, gk_8, gk_9, gk_10, gk_11, gk_12, gk_13, gk_14, gk_15, gk_16, gk_17, gk_18, gk_19, gk_20, gk_21, ↓reduceIte]; rfl) | contradiction | rfl) (by first | (simp only [gk_0, gk_1, gk_2, gk_3, gk_4, gk_5, gk_6, gk_7, gk_8, gk_9, gk_10, gk_11, gk_12, gk_13, gk_14, gk_15, gk_16, gk_17, gk_18, gk_19, gk_20, gk_21, ↓reduceIte]; done) | (simp only [gk_0, gk_1, gk_2, gk_3, gk_4, gk_5, gk_6, gk_7, gk_8, gk_9, gk_10, gk_11, gk_12, gk_13, gk_14, gk_15, gk_16, gk_17, gk_18, gk_19, gk_20, gk_21, ↓reduceIte]; rfl) | contradiction | rfl)) d_Ke_count_156
  · refine k_tabIn C d_Ke_count_1 (by decide) (by decide) (off := 156) (by decide) (tgt := 157) (by decide) ?_
    refine k_aload_n C d_Ke_count_157 rfl ?_
    refine k_getr C d_Ke_count_158 fg_Ke_31 (by first | assumption | decide | exact k_lt (by assumption)) rfl ?_
    refine k_iconst C d_Ke_count_161 (v := 1) (by decide) ?_
    refine k_aaload C d_Ke_count_162 ar_10 (by first | assumption | decide | exact k_lt (by assumption)) (k_in (by decide)) (j := 1) (by decide) rfl ?_
    refine k_get C d_Ke_count_163 fg_Ke_173 (by first | assumption | decide | exact k_lt (by assumption)) rfl ?_
    exact k_ireturn C (E.to (by first | (simp only [gk_0, gk_1, gk_2, gk_3, gk_4, gk_5, gk_6, gk_7, gk_8, gk_9, gk_10, gk_11, gk_12, gk_13, gk_14, gk_15, gk_16, gk_17, gk_18, gk_19, gk_20, gk_21, ↓reduceIte]; done) | (simp only [gk_0, gk_1, gk_2, gk_3, gk_4, gk_5, gk_6, gk_7, gk_8, gk_9, gk_10, gk_11, gk_12, gk_13, gk_14, gk_15, gk_16, gk_17, gk_18, gk_19, gk_20, gk_21, ↓reduceIte]; rfl) | contradiction | rfl) (by first | (simp only [gk_0, gk_1, gk_2, gk_3, gk_4, gk_5, gk_6, gk_7, gk_8, gk_9, gk_10, gk_11, gk_12, gk_13, gk_14, gk_15, gk_16, gk_17, gk_18, gk_19, gk_20, gk_21, ↓reduceIte]; done) | (simp only [gk_0, gk_1, gk_2, gk_3, gk_4, gk_5, gk_6, gk_7, gk_8, gk_9, gk_10, gk_11, gk_12, gk_13, gk_14, gk_15, gk_16, gk_17, gk_18, gk_19, gk_20, gk_21, ↓reduceIte]; rfl) | contradiction | rfl)) d_Ke_count_166
  · refine k_tabIn C d_Ke_count_1 (by decide) (by decide) (off := 192) (by decide) (tgt := 193) (by decide) ?_
    refine k_bipush C d_Ke_count_193 (v := (-2)) (by decide) ?_
    exact k_ireturn C (E.to (by first | (simp only [gk_0, gk_1, gk_2, gk_3, gk_4, gk_5, gk_6, gk_7, gk_8, gk_9, gk_10, gk_11, gk_12, gk_13, gk_14, gk_15, gk_16, gk_17, gk_18, gk_19, gk_20, gk_21, ↓reduceIte]; done) | (simp only [gk_0, gk_1, gk_2, gk_3, gk_4, gk_5, gk_6, gk_7, gk_8, gk_9, gk_10, gk_11, gk_12, gk_13, gk_14, gk_15, gk_16, gk_17, gk_18, gk_19, gk_20, gk_21, ↓reduceIte]; rfl) | contradiction | rfl) (by first | (simp only [gk_0, gk_1, gk_2, gk_3, gk_4, gk_5, gk_6, gk_7, gk_8, gk_9, gk_10, gk_11, gk_12, gk_13, gk_14, gk_15, gk_16, gk_17, gk_18, gk_19, gk_20, gk_21, ↓reduceIte]; done) | (simp only [gk_0, gk_1, gk_2, gk_3, gk_4, gk_5, gk_6, gk_7, gk_8, gk_9, gk_10, gk_11, gk_12, gk_13, gk_14, gk_15, gk_16, gk_17, gk_18, gk_19, gk_20, gk_21, ↓reduceIte]; rfl) | contradiction | rfl)) d_Ke_count_195
  · refine k_tabIn C d_Ke_count_1 (by decide) (by decide) (off := 192) (by decide) (tgt := 193) (by decide) ?_
    refine k_bipush C d_Ke_count_193 (v := (-2)) (by decide) ?_
    exact k_ireturn C (E.to (by first | (simp only [gk_0, gk_1, gk_2, gk_3, gk_4, gk_5, gk_6, gk_7, gk_8, gk_9, gk_10, gk_11, gk_12, gk_13, gk_14, gk_15, gk_16, gk_17, gk_18, gk_19, gk_20, gk_21, ↓reduceIte]; done) | (simp only [gk_0, gk_1, gk_2, gk_3, gk_4, gk_5, gk_6, gk_7, gk_8, gk_9, gk_10, gk_11, gk_12, gk_13, gk_14, gk_15, gk_16, gk_17, gk_18, gk_19, gk_20, gk_21, ↓reduceIte]; rfl) | contradiction | rfl) (by first | (simp only [gk_0, gk_1, gk_2, gk_3, gk_4, gk_5, gk_6, gk_7, gk_8, gk_9, gk_10, gk_11, gk_12, gk_13, gk_14, gk_15, gk_16, gk_17, gk_18, gk_19, gk_20, gk_21, ↓reduceIte]; done) | (simp only [gk_0, gk_1, gk_2, gk_3, gk_4, gk_5, gk_6, gk_7, gk_8, gk_9, gk_10, gk_11, gk_12, gk_13, gk_14, gk_15, gk_16, gk_17, gk_18, gk_19, gk_20, gk_21, ↓reduceIte]; rfl) | contradiction | rfl)) d_Ke_count_195
  · refine k_tabIn C d_Ke_count_1 (by decide) (by decide) (off := 192) (by decide) (tgt := 193) (by decide) ?_
    refine k_bipush C d_Ke_count_193 (v := (-2)) (by decide) ?_
    exact k_ireturn C (E.to (by first | (simp only [gk_0, gk_1, gk_2, gk_3, gk_4, gk_5, gk_6, gk_7, gk_8, gk_9, gk_10, gk_11, gk_12, gk_13, gk_14, gk_15, gk_16, gk_17, gk_18, gk_19, gk_20, gk_21, ↓reduceIte]; done) | (simp only [gk_0, gk_1, gk_2, gk_3, gk_4, gk_5, gk_6, gk_7, gk_8, gk_9, gk_10, gk_11, gk_12, gk_13, gk_14, gk_15, gk_16, gk_17, gk_18, gk_19, gk_20, gk_21, ↓reduceIte]; rfl) | contradiction | rfl) (by first | (simp only [gk_0, gk_1, gk_2, gk_3, gk_4, gk_5, gk_6, gk_7, gk_8, gk_9, gk_10, gk_11, gk_12, gk_13, gk_14, gk_15, gk_16, gk_17, gk_18, gk_19, gk_20, gk_21, ↓reduceIte]; done) | (simp only [gk_0, gk_1, gk_2, gk_3, gk_4, gk_5, gk_6, gk_7, gk_8, gk_9, gk_10, gk_11, gk_12, gk_13, gk_14, gk_15, gk_16, gk_17, gk_18, gk_19, gk_20, gk_21, ↓reduceIte]; rfl) | contradiction | rfl)) d_Ke_count_195
  · refine k_tabIn C d_Ke_count_1 (by decide) (by decide) (off := 192) (by decide) (tgt := 193) (by decide) ?_
    refine k_bipush C d_Ke_count_193 (v := (-2)) (by decide) ?_
    exact k_ireturn C (E.to (by first | (simp only [gk_0, gk_1, gk_2, gk_3, gk_4, gk_5, gk_6, gk_7, gk_8, gk_9, gk_10, gk_11, gk_12, gk_13, gk_14, gk_15, gk_16, gk_17, gk_18, gk_19, gk_20, gk_21, ↓reduceIte]; done) | (simp only [gk_0, gk_1, gk_2, gk_3, gk_4, gk_5, gk_6, gk_7, gk_8, gk_9, gk_10, gk_11, gk_12, gk_13, gk_14, gk_15, gk_16, gk_17, gk_18, gk_19, gk_20, gk_21, ↓reduceIte]; rfl) | contradiction | rfl) (by first | (simp only [gk_0, gk_1, gk_2, gk_3, gk_4, gk_5, gk_6, gk_7, gk_8, gk_9, gk_10, gk_11, gk_12, gk_13, gk_14, gk_15, gk_16, gk_17, gk_18, gk_19, gk_20, gk_21, ↓reduceIte]; done) | (simp only [gk_0, gk_1, gk_2, gk_3, gk_4, gk_5, gk_6, gk_7, gk_8, gk_9, gk_10, gk_11, gk_12, gk_13, gk_14, gk_15, gk_16, gk_17, gk_18, gk_19, gk_20, gk_21, ↓reduceIte]; rfl) | contradiction | rfl)) d_Ke_count_195
  · refine k_tabIn C d_Ke_count_1 (by decide) (by decide) (off := 192) (by decide) (tgt := 193) (by decide) ?_
    refine k_bipush C d_Ke_count_193 (v := (-2)) (by decide) ?_
    exact k_ireturn C (E.to (by first | (simp only [gk_0, gk_1, gk_2, gk_3, gk_4, gk_5, gk_6, gk_7, gk_8, gk_9, gk_10, gk_11, gk_12, gk_13, gk_14, gk_15, gk_16, gk_17, gk_18, gk_19, gk_20, gk_21, ↓reduceIte]; done) | (simp only [gk_0, gk_1, gk_2, gk_3, gk_4, gk_5, gk_6, gk_7, gk_8, gk_9, gk_10, gk_11, gk_12, gk_13, gk_14, gk_15, gk_16, gk_17, gk_18, gk_19, gk_20, gk_21, ↓reduceIte]; rfl) | contradiction | rfl) (by first | (simp only [gk_0, gk_1, gk_2, gk_3, gk_4, gk_5, gk_6, gk_7, gk_8, gk_9, gk_10, gk_11, gk_12, gk_13, gk_14, gk_15, gk_16, gk_17, gk_18, gk_19, gk_20, gk_21, ↓reduceIte]; done) | (simp only [gk_0, gk_1, gk_2, gk_3, gk_4, gk_5, gk_6, gk_7, gk_8, gk_9, gk_10, gk_11, gk_12, gk_13, gk_14, gk_15, gk_16, gk_17, gk_18, gk_19, gk_20, gk_21, ↓reduceIte]; rfl) | contradiction | rfl)) d_Ke_count_195
  · refine k_tabIn C d_Ke_count_1 (by decide) (by decide) (off := 192) (by decide) (tgt := 193) (by decide) ?_
    refine k_bipush C d_Ke_count_193 (v := (-2)) (by decide) ?_
    exact k_ireturn C (E.to (by first | (simp only [gk_0, gk_1, gk_2, gk_3, gk_4, gk_5, gk_6, gk_7, gk_8, gk_9, gk_10, gk_11, gk_12, gk_13, gk_14, gk_15, gk_16, gk_17, gk_18, gk_19, gk_20, gk_21, ↓reduceIte]; done) | (simp only [gk_0, gk_1, gk_2, gk_3, gk_4, gk_5, gk_6, gk_7, gk_8, gk_9, gk_10, gk_11, gk_12, gk_13, gk_14, gk_15, gk_16, gk_17, gk_18, gk_19, gk_20, gk_21, ↓reduceIte]; rfl) | contradiction | rfl) (by first | (simp only [gk_0, gk_1, gk_2, gk_3, gk_4, gk_5, gk_6, gk_7, gk_8, gk_9, gk_10, gk_11, gk_12, gk_13, gk_14, gk_15, gk_16, gk_17, gk_18, gk_19, gk_20, gk_21, ↓reduceIte]; done) | (simp only [gk_0, gk_1, gk_2, gk_3, gk_4, gk_5, gk_6, gk_7, gk_8, gk_9, gk_10, gk_11, gk_12, gk_13, gk_14, gk_15, gk_16, gk_17, gk_18, gk_19, gk_20, gk_21, ↓reduceIte]; rfl) | contradiction | rfl)) d_Ke_count_195
  · refine k_tabIn C d_Ke_count_1 (by decide) (by decide) (off := 192) (by decide) (tgt := 193) (by decide) ?_
    refine k_bipush C d_Ke_count_193 (v := (-2)) (by decide) ?_
    exact k_ireturn C (E.to (by first | (simp only [gk_0, gk_1, gk_2, gk_3, gk_4, gk_5, gk_6, gk_7, gk_8, gk_9, gk_10, gk_11, gk_12, gk_13, gk_14, gk_15, gk_16, gk_17, gk_18, gk_19, gk_20, gk_21, ↓reduceIte]; done) | (simp only [gk_0, gk_1, gk_2, gk_3, gk_4, gk_5, gk_6, gk_7, gk_8, gk_9, gk_10, gk_11, gk_12, gk_13, gk_14, gk_15, gk_16, gk_17, gk_18, gk_19, gk_20, gk_21, ↓reduceIte]; rfl) | contradiction | rfl) (by first | (simp only [gk_0, gk_1, gk_2, gk_3, gk_4, gk_5, gk_6, gk_7, gk_8, gk_9, gk_10, gk_11, gk_12, gk_13, gk_14, gk_15, gk_16, gk_17, gk_18, gk_19, gk_20, gk_21, ↓reduceIte]; done) | (simp only [gk_0, gk_1, gk_2, gk_3, gk_4, gk_5, gk_6, gk_7, gk_8, gk_9, gk_10, gk_11, gk_12, gk_13, gk_14, gk_15, gk_16, gk_17, gk_18, gk_19, gk_20, gk_21, ↓reduceIte]; rfl) | contradiction | rfl)) d_Ke_count_195
  · refine k_tabIn C d_Ke_count_1 (by decide) (by decide) (off := 192) (by decide) (tgt := 193) (by decide) ?_
    refine k_bipush C d_Ke_count_193 (v := (-2)) (by decide) ?_
    exact k_ireturn C (E.to (by first | (simp only [gk_0, gk_1, gk_2, gk_3, gk_4, gk_5, gk_6, gk_7, gk_8, gk_9, gk_10, gk_11, gk_12, gk_13, gk_14, gk_15, gk_16, gk_17, gk_18, gk_19, gk_20, gk_21, ↓reduceIte]; done) | (simp only [gk_0, gk_1, gk_2, gk_3, gk_4, gk_5, gk_6, gk_7, gk_8, gk_9, gk_10, gk_11, gk_12, gk_13, gk_14, gk_15, gk_16, gk_17, gk_18, gk_19, gk_20, gk_21, ↓reduceIte]; rfl) | contradiction | rfl) (by first | (simp only [gk_0, gk_1, gk_2, gk_3, gk_4, gk_5, gk_6, gk_7, gk_8, gk_9, gk_10, gk_11, gk_12, gk_13, gk_14, gk_15, gk_16, gk_17, gk_18, gk_19, gk_20, gk_21, ↓reduceIte]; done) | (simp only [gk_0, gk_1, gk_2, gk_3, gk_4, gk_5, gk_6, gk_7, gk_8, gk_9, gk_10, gk_11, gk_12, gk_13, gk_14, gk_15, gk_16, gk_17, gk_18, gk_19, gk_20, gk_21, ↓reduceIte]; rfl) | contradiction | rfl)) d_Ke_count_195
  · refine k_tabIn C d_Ke_count_1 (by decide) (by decide) (off := 166) (by decide) (tgt := 167) (by decide) ?_
    refine k_aload_n C d_Ke_count_167 rfl ?_
    refine k_getr C d_Ke_count_168 fg_Ke_31 (by first | assumption | decide | exact k_lt (by assumption)) rfl ?_
    refine k_iconst C d_Ke_count_171 (v := 0) (by decide) ?_
    refine k_aaload C d_Ke_count_172 ar_10 (by first | assumption | decide | exact k_lt (by assumption)) (k_in (by decide)) (j := 0) (by decide) rfl ?_
    refine k_getr C d_Ke_count_173 fg_Ke_176 (by first | assumption | decide | exact k_lt (by assumption)) rfl ?_
    refine k_get C d_Ke_count_176 fg_Ke_139 (by decide) rfl ?_
    exact k_ireturn C (E.to (by first | (simp only [gk_0, gk_1, gk_2, gk_3, gk_4, gk_5, gk_6, gk_7, gk_8, gk_9, gk_10, gk_11, gk_12, gk_13, gk_14, gk_15, gk_16, gk_17, gk_18, gk_19, gk_20, gk_21, ↓reduceIte]; done) | (simp only [gk_0, gk_1, gk_2, gk_3, gk_4, gk_5, gk_6, gk_7, gk_8, gk_9, gk_10, gk_11, gk_12, gk_13, gk_14, gk_15, gk_16, gk_17, gk_18, gk_19, gk_20, gk_21, ↓reduceIte]; rfl) | contradiction | rfl) (by first | (simp only [gk_0, gk_1, gk_2, gk_3, gk_4, gk_5, gk_6, gk_7, gk_8, gk_9, gk_10, gk_11, gk_12, gk_13, gk_14, gk_15, gk_16, gk_17, gk_18, gk_19, gk_20, gk_21, ↓reduceIte]; done) | (simp only [gk_0, gk_1, gk_2, gk_3, gk_4, gk_5, gk_6, gk_7, gk_8, gk_9, gk_10, gk_11, gk_12, gk_13, gk_14, gk_15, gk_16, gk_17, gk_18, gk_19, gk_20, gk_21, ↓reduceIte]; rfl) | contradiction | rfl)) d_Ke_count_179
  · refine k_tabIn C d_Ke_count_1 (by decide) (by decide) (off := 179) (by decide) (tgt := 180) (by decide) ?_
    refine k_aload_n C d_Ke_count_180 rfl ?_
    refine k_getr C d_Ke_count_181 fg_Ke_31 (by first | assumption | decide | exact k_lt (by assumption)) rfl ?_
    refine k_iconst C d_Ke_count_184 (v := 1) (by decide) ?_
    refine k_aaload C d_Ke_count_185 ar_10 (by first | assumption | decide | exact k_lt (by assumption)) (k_in (by decide)) (j := 1) (by decide) rfl ?_
    refine k_getr C d_Ke_count_186 fg_Ke_176 (by first | assumption | decide | exact k_lt (by assumption)) rfl ?_
    refine k_get C d_Ke_count_189 fg_Ke_139 (by decide) rfl ?_
    exact k_ireturn C (E.to (by first | (simp only [gk_0, gk_1, gk_2, gk_3, gk_4, gk_5, gk_6, gk_7, gk_8, gk_9, gk_10, gk_11, gk_12, gk_13, gk_14, gk_15, gk_16, gk_17, gk_18, gk_19, gk_20, gk_21, ↓reduceIte]; done) | (simp only [gk_0, gk_1, gk_2, gk_3, gk_4, gk_5, gk_6, gk_7, gk_8, gk_9, gk_10, gk_11, gk_12, gk_13, gk_14, gk_15, gk_16, gk_17, gk_18, gk_19, gk_20, gk_21, ↓reduceIte]; rfl) | contradiction | rfl) (by first | (simp only [gk_0, gk_1, gk_2, gk_3, gk_4, gk_5, gk_6, gk_7, gk_8, gk_9, gk_10, gk_11, gk_12, gk_13, gk_14, gk_15, gk_16, gk_17, gk_18, gk_19, gk_20, gk_21, ↓reduceIte]; done) | (simp only [gk_0, gk_1, gk_2, gk_3, gk_4, gk_5, gk_6, gk_7, gk_8, gk_9, gk_10, gk_11, gk_12, gk_13, gk_14, gk_15, gk_16, gk_17, gk_18, gk_19, gk_20, gk_21, ↓reduceIte]; rfl) | contradiction | rfl)) d_Ke_count_192
