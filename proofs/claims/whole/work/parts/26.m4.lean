set_option maxHeartbeats 4000000 in
set_option maxRecDepth 100000 in
theorem b_ms3 {X : kX} {G : kG} {l : Launch} {K : kM} (C : k_C X kT b_Mo_step y_Mo_step.cls mS G 7 l (k_rm 5)) (p g : Nat) (o : Int32) (hp : p < 2) (hg : g < 6) (I0 : m_Inv K) (hw : K 5 0 g = 1 → m_tot K ≤ 5) (E : k_E X none none (m_st3 K p g o) 0 0) : k_W X 0 0 241 [(0, .ref (G.2.2 0 0)), (1, .int (nI p)), (2, .int (nI g)), (4, .int o)] [] K := by
  refine k_aload_n C d_Mo_step_241 rfl ?_
  refine k_getr C d_Mo_step_242 fg_Mo_22 (by decide) rfl ?_
  refine k_iload_n C d_Mo_step_245 rfl ?_
  refine k_iaload C d_Mo_step_246 am_5 (by decide) (vp_in_nI (by omega) (by decide)) (nI_clamp (by omega)) ?_
  refine k_iconst C d_Mo_step_247 (v := 1) (by decide) ?_
  refine k_icmp_ne C d_Mo_step_248 (tgt := 268) (by decide) (fun h1 => ?_) (fun h1 => ?_)
  · refine k_aload_n C d_Mo_step_268 rfl ?_
    refine k_getr C d_Mo_step_269 fg_Mo_80 (by decide) rfl ?_
    refine k_iload_n C d_Mo_step_272 rfl ?_
    refine k_iconst C d_Mo_step_273 (v := (-1)) (by decide) ?_
    refine k_iastore C d_Mo_step_274 am_24 (by decide) (vp_in_nI (by omega) (by decide)) (nI_clamp (by omega)) I0 (Or.inl rfl) (fun I2 => ?_)
    refine k_aload_n C d_Mo_step_275 rfl ?_
    refine k_getr C d_Mo_step_276 fg_Mo_22 (by decide) rfl ?_
    refine k_iload_n C d_Mo_step_279 rfl ?_
    refine k_iaload C d_Mo_step_280 am_5 (by decide) (vp_in_nI (by omega) (by decide)) (nI_clamp (by omega)) ?_
    refine k_iconst C d_Mo_step_281 (v := 1) (by decide) ?_
    refine k_icmp_ne C d_Mo_step_282 (tgt := 290) (by decide) (fun h3 => ?_) (fun h3 => ?_)
    · exact k_return C (E.to rfl (by first | (simp only [m_st3, m_st4, h1, h3, ↓reduceIte]; done) | (simp only [m_st3, m_st4, h1, h3, ↓reduceIte]; rfl) | contradiction | rfl)) d_Mo_step_290
    · refine k_aload_n C d_Mo_step_285 rfl ?_
      refine k_iload_n C d_Mo_step_286 rfl ?_
      refine k_callVv C kg_all (c_Mo_wake l G _ _ g rfl I2 hg (by rw [mt_ne (by decide)]; exact hw ‹_›)) cs_Mo_98 cv_Mo_wake om_0 (by decide) rfl rfl (Nat.le_of_ble_eq_true rfl) ⟨rfl, rfl⟩ ⟨by decide, by decide⟩ ⟨Nat.zero_le _, Nat.zero_le _⟩ d_Mo_step_287 (iv_mwake I2 (by rw [mt_ne (by decide)]; exact hw ‹_›) hg) (fun I4 => ?_)
      exact k_return C (E.to rfl (by first | (simp only [m_st3, m_st4, h1, h3, ↓reduceIte]; done) | (simp only [m_st3, m_st4, h1, h3, ↓reduceIte]; rfl) | contradiction | rfl)) d_Mo_step_290
  · refine k_aload_n C d_Mo_step_251 rfl ?_
    refine k_getr C d_Mo_step_252 fg_Mo_83 (by decide) rfl ?_
    refine k_iload_n C d_Mo_step_255 rfl ?_
    refine k_iaload C d_Mo_step_256 am_25 (by decide) (vp_in_nI (by omega) (by decide)) (nI_clamp (by omega)) ?_
    refine k_if_le C d_Mo_step_257 (tgt := 268) (by decide) (fun h5 => ?_) (fun h5 => ?_)
    · refine k_aload_n C d_Mo_step_268 rfl ?_
      refine k_getr C d_Mo_step_269 fg_Mo_80 (by decide) rfl ?_
      refine k_iload_n C d_Mo_step_272 rfl ?_
      refine k_iconst C d_Mo_step_273 (v := (-1)) (by decide) ?_
      refine k_iastore C d_Mo_step_274 am_24 (by decide) (vp_in_nI (by omega) (by decide)) (nI_clamp (by omega)) I0 (Or.inl rfl) (fun I6 => ?_)
      refine k_aload_n C d_Mo_step_275 rfl ?_
      refine k_getr C d_Mo_step_276 fg_Mo_22 (by decide) rfl ?_
      refine k_iload_n C d_Mo_step_279 rfl ?_
      refine k_iaload C d_Mo_step_280 am_5 (by decide) (vp_in_nI (by omega) (by decide)) (nI_clamp (by omega)) ?_
      refine k_iconst C d_Mo_step_281 (v := 1) (by decide) ?_
      refine k_icmp_ne C d_Mo_step_282 (tgt := 290) (by decide) (fun h7 => ?_) (fun h7 => ?_)
      · exact k_return C (E.to rfl (by first | (simp only [m_st3, m_st4, h1, h5, h7, ↓reduceIte]; done) | (simp only [m_st3, m_st4, h1, h5, h7, ↓reduceIte]; rfl) | contradiction | rfl)) d_Mo_step_290
      · refine k_aload_n C d_Mo_step_285 rfl ?_
        refine k_iload_n C d_Mo_step_286 rfl ?_
        refine k_callVv C kg_all (c_Mo_wake l G _ _ g rfl I6 hg (by rw [mt_ne (by decide)]; exact hw ‹_›)) cs_Mo_98 cv_Mo_wake om_0 (by decide) rfl rfl (Nat.le_of_ble_eq_true rfl) ⟨rfl, rfl⟩ ⟨by decide, by decide⟩ ⟨Nat.zero_le _, Nat.zero_le _⟩ d_Mo_step_287 (iv_mwake I6 (by rw [mt_ne (by decide)]; exact hw ‹_›) hg) (fun I8 => ?_)
        exact k_return C (E.to rfl (by first | (simp only [m_st3, m_st4, h1, h5, h7, ↓reduceIte]; done) | (simp only [m_st3, m_st4, h1, h5, h7, ↓reduceIte]; rfl) | contradiction | rfl)) d_Mo_step_290
    · refine k_iload C d_Mo_step_260 rfl ?_
      refine k_bipush C d_Mo_step_262 (v := 12) (by decide) ?_
      refine k_icmp_eq C d_Mo_step_264 (tgt := 268) (by decide) (fun h9 => ?_) (fun h9 => ?_)
      · refine k_aload_n C d_Mo_step_268 rfl ?_
        refine k_getr C d_Mo_step_269 fg_Mo_80 (by decide) rfl ?_
        refine k_iload_n C d_Mo_step_272 rfl ?_
        refine k_iconst C d_Mo_step_273 (v := (-1)) (by decide) ?_
        refine k_iastore C d_Mo_step_274 am_24 (by decide) (vp_in_nI (by omega) (by decide)) (nI_clamp (by omega)) I0 (Or.inl rfl) (fun I10 => ?_)
        refine k_aload_n C d_Mo_step_275 rfl ?_
        refine k_getr C d_Mo_step_276 fg_Mo_22 (by decide) rfl ?_
        refine k_iload_n C d_Mo_step_279 rfl ?_
        refine k_iaload C d_Mo_step_280 am_5 (by decide) (vp_in_nI (by omega) (by decide)) (nI_clamp (by omega)) ?_
        refine k_iconst C d_Mo_step_281 (v := 1) (by decide) ?_
        refine k_icmp_ne C d_Mo_step_282 (tgt := 290) (by decide) (fun h11 => ?_) (fun h11 => ?_)
        · exact k_return C (E.to rfl (by first | (simp only [m_st3, m_st4, h1, h5, h9, h11, ↓reduceIte]; done) | (simp only [m_st3, m_st4, h1, h5, h9, h11, ↓reduceIte]; rfl) | contradiction | rfl)) d_Mo_step_290
        · refine k_aload_n C d_Mo_step_285 rfl ?_
          refine k_iload_n C d_Mo_step_286 rfl ?_
          refine k_callVv C kg_all (c_Mo_wake l G _ _ g rfl I10 hg (by rw [mt_ne (by decide)]; exact hw ‹_›)) cs_Mo_98 cv_Mo_wake om_0 (by decide) rfl rfl (Nat.le_of_ble_eq_true rfl) ⟨rfl, rfl⟩ ⟨by decide, by decide⟩ ⟨Nat.zero_le _, Nat.zero_le _⟩ d_Mo_step_287 (iv_mwake I10 (by rw [mt_ne (by decide)]; exact hw ‹_›) hg) (fun I12 => ?_)
          exact k_return C (E.to rfl (by first | (simp only [m_st3, m_st4, h1, h5, h9, h11, ↓reduceIte]; done) | (simp only [m_st3, m_st4, h1, h5, h9, h11, ↓reduceIte]; rfl) | contradiction | rfl)) d_Mo_step_290
      · exact k_return C (E.to rfl (by first | (simp only [m_st3, m_st4, h1, h5, h9, ↓reduceIte]; done) | (simp only [m_st3, m_st4, h1, h5, h9, ↓reduceIte]; rfl) | contradiction | rfl)) d_Mo_step_267
set_option maxHeartbeats 4000000 in
set_option maxRecDepth 100000 in
theorem b_ms2 {X : kX} {G : kG} {l : Launch} {K : kM} (C : k_C X kT b_Mo_step y_Mo_step.cls mS G 7 l (k_rm 5)) (p g i : Nat) (o j : Int32) (hp : p < 2) (hg : g < 6) (hi : i < 32) (ho : vp_in o 22) (I0 : m_Inv K) (ht : m_tot K ≤ 5) (hcar : m_car K) (k : k_W X 0 0 241 [(0, .ref (G.2.2 0 0)), (1, .int (nI p)), (2, .int (nI g)), (4, .int o)] [] (m_st2 K g o (K 2 0 i).toNatClampNeg (K 3 0 i).toNatClampNeg (K 4 0 i) i j)) : k_W X 0 0 170 [(5, .int (j)), (0, .ref (G.2.2 0 0)), (1, .int (nI p)), (2, .int (nI g)), (3, .int (nI i)), (4, .int o)] [] K := by
  refine k_aload_n C d_Mo_step_170 rfl ?_
  refine k_iload_n C d_Mo_step_171 rfl ?_
  refine k_iload C d_Mo_step_172 rfl ?_
  refine k_aload_n C d_Mo_step_174 rfl ?_
  refine k_getr C d_Mo_step_175 fg_Mo_13 (by decide) rfl ?_
  refine k_iload_n C d_Mo_step_178 rfl ?_
  refine k_iaload C d_Mo_step_179 am_2 (by decide) (vp_in_nI (by omega) (by decide)) (nI_clamp (by omega)) ?_
  refine k_top (r_id (I0 2 0 i) (by decide)) ?_
  refine k_aload_n C d_Mo_step_180 rfl ?_
  refine k_getr C d_Mo_step_181 fg_Mo_16 (by decide) rfl ?_
  refine k_iload_n C d_Mo_step_184 rfl ?_
  refine k_iaload C d_Mo_step_185 am_3 (by decide) (vp_in_nI (by omega) (by decide)) (nI_clamp (by omega)) ?_
  refine k_top (r_id (I0 3 0 i) (by decide)) ?_
  refine k_aload_n C d_Mo_step_186 rfl ?_
  refine k_getr C d_Mo_step_187 fg_Mo_19 (by decide) rfl ?_
  refine k_iload_n C d_Mo_step_190 rfl ?_
  refine k_iaload C d_Mo_step_191 am_4 (by decide) (vp_in_nI (by omega) (by decide)) (nI_clamp (by omega)) ?_
  refine k_callVi C kg_all (c_Mo_perform l G _ _ _ _ _ _ g (K 2 0 i).toNatClampNeg (K 3 0 i).toNatClampNeg rfl rfl rfl I0 hg ho (k_lt (I0 2 0 i)) (k_lt (I0 3 0 i)) ht hcar) cs_Mo_158 cv_Mo_perform om_0 (by decide) rfl rfl (Nat.le_of_ble_eq_true rfl) ⟨rfl, rfl⟩ ⟨by decide, by decide⟩ ⟨Nat.zero_le _, Nat.zero_le _⟩ d_Mo_step_192 (j_pf I0 ht hg ho).1 (fun I1 => ?_)
  refine k_istore C d_Mo_step_195 (by decide) ?_
  refine k_iload C d_Mo_step_197 rfl ?_
  refine k_if_eq C d_Mo_step_199 (tgt := 212) (by decide) (fun h2 => ?_) (fun h2 => ?_)
  · refine k_aload_n C d_Mo_step_212 rfl ?_
    refine k_getr C d_Mo_step_213 fg_Mo_25 (by decide) rfl ?_
    refine k_iload_n C d_Mo_step_216 rfl ?_
    refine k_iload C d_Mo_step_217 rfl ?_
    refine k_if_eq C d_Mo_step_219 (tgt := 234) (by decide) (fun h3 => ?_) (fun h3 => ?_)
    · refine k_iload_n C d_Mo_step_234 rfl ?_
      refine k_iconst C d_Mo_step_235 (v := 1) (by decide) ?_
      refine k_iadd C d_Mo_step_236 ?_
      refine k_bipush C d_Mo_step_237 (v := 31) (by decide) ?_
      refine k_iand C d_Mo_step_239 ?_
      refine k_iastore C d_Mo_step_240 am_6 (by decide) (vp_in_nI (by omega) (by decide)) (nI_clamp (by omega)) I1 (m_31 _) (fun I4 => ?_)
      exact k_loc [(0, .ref (G.2.2 0 0)), (1, .int (nI p)), (2, .int (nI g)), (4, .int o)] ⟨rfl, rfl, rfl, rfl, trivial⟩ (k_mem (by first | rfl | (simp only [m_st2, h2, h3, ↓reduceIte]; done) | (simp only [m_st2, h2, h3, ↓reduceIte]; rfl) | (simp [m_st2, h2, h3]; done)) k)
    · refine k_aload_n C d_Mo_step_222 rfl ?_
      refine k_getr C d_Mo_step_223 fg_Mo_19 (by decide) rfl ?_
      refine k_iload_n C d_Mo_step_226 rfl ?_
      refine k_iaload C d_Mo_step_227 am_4 (by decide) (vp_in_nI (by omega) (by decide)) (nI_clamp (by omega)) ?_
      refine k_bipush C d_Mo_step_228 (v := 31) (by decide) ?_
      refine k_iand C d_Mo_step_230 ?_
      refine k_goto C d_Mo_step_231 (tgt := 240) (by decide) ?_
      refine k_iastore C d_Mo_step_240 am_6 (by decide) (vp_in_nI (by omega) (by decide)) (nI_clamp (by omega)) I1 (m_31 _) (fun I5 => ?_)
      exact k_loc [(0, .ref (G.2.2 0 0)), (1, .int (nI p)), (2, .int (nI g)), (4, .int o)] ⟨rfl, rfl, rfl, rfl, trivial⟩ (k_mem (by first | rfl | (simp only [m_st2, h2, h3, ↓reduceIte]; done) | (simp only [m_st2, h2, h3, ↓reduceIte]; rfl) | (simp [m_st2, h2, h3]; done)) k)
  · refine k_aload_n C d_Mo_step_202 rfl ?_
    refine k_iload_n C d_Mo_step_203 rfl ?_
    refine k_iload C d_Mo_step_204 rfl ?_
    refine k_callVv C kg_all (c_Mo_trap l G _ _ _ g rfl I1 hg (by have := (j_pf (a := (K 2 0 i).toNatClampNeg) (b := (K 3 0 i).toNatClampNeg) (n := K 4 0 i) I0 ht hg ho).2; omega)) cs_Mo_162 cv_Mo_trap om_0 (by decide) rfl rfl (Nat.le_of_ble_eq_true rfl) ⟨rfl, rfl⟩ ⟨by decide, by decide⟩ ⟨Nat.zero_le _, Nat.zero_le _⟩ d_Mo_step_206 (j_trap I1 (by have := (j_pf (a := (K 2 0 i).toNatClampNeg) (b := (K 3 0 i).toNatClampNeg) (n := K 4 0 i) I0 ht hg ho).2; omega)).1 (fun I6 => ?_)
    refine k_goto C d_Mo_step_209 (tgt := 241) (by decide) ?_
    exact k_loc [(0, .ref (G.2.2 0 0)), (1, .int (nI p)), (2, .int (nI g)), (4, .int o)] ⟨rfl, rfl, rfl, rfl, trivial⟩ (k_mem (by first | rfl | (simp only [m_st2, h2, ↓reduceIte]; done) | (simp only [m_st2, h2, ↓reduceIte]; rfl) | (simp [m_st2, h2]; done)) k)
set_option maxHeartbeats 4000000 in
set_option maxRecDepth 100000 in
theorem b_ms1 {X : kX} {G : kG} {l : Launch} {K : kM} (C : k_C X kT b_Mo_step y_Mo_step.cls mS G 7 l (k_rm 5)) (p g i : Nat) (o : Int32) (hp : p < 2) (hg : g < 6) (hi : i < 32) (ho : vp_in o 22) (I0 : m_Inv K) (ht : m_tot K ≤ 5) (hcar : m_car K) (k : k_W X 0 0 241 [(0, .ref (G.2.2 0 0)), (1, .int (nI p)), (2, .int (nI g)), (4, .int o)] [] (m_stM K g i o)) : k_W X 0 0 42 [(0, .ref (G.2.2 0 0)), (1, .int (nI p)), (2, .int (nI g)), (3, .int (nI i)), (4, .int o)] [] K := by
  have ha2 := k_lt (I0 2 0 i)
  have hb2 := k_lt (I0 3 0 i)
  refine k_iload C d_Mo_step_42 rfl ?_
  refine k_if_eq C d_Mo_step_44 (tgt := 54) (by decide) (fun h1 => ?_) (fun h1 => ?_)
  · refine k_aload_n C d_Mo_step_54 rfl ?_
    refine k_getr C d_Mo_step_55 fg_Mo_25 (by decide) rfl ?_
    refine k_iload_n C d_Mo_step_58 rfl ?_
    refine k_iload_n C d_Mo_step_59 rfl ?_
    refine k_iconst C d_Mo_step_60 (v := 1) (by decide) ?_
    refine k_iadd C d_Mo_step_61 ?_
    refine k_bipush C d_Mo_step_62 (v := 31) (by decide) ?_
    refine k_iand C d_Mo_step_64 ?_
    refine k_iastore C d_Mo_step_65 am_6 (by decide) (vp_in_nI (by omega) (by decide)) (nI_clamp (by omega)) I0 (m_31 _) (fun I2 => ?_)
    refine k_aload_n C d_Mo_step_66 rfl ?_
    refine k_iload_n C d_Mo_step_67 rfl ?_
    refine k_iload C d_Mo_step_68 rfl ?_
    refine k_if_ne C d_Mo_step_70 (tgt := 77) (by decide) (fun h3 => absurd h1 h3) (fun h3 => ?_)
    refine k_iconst C d_Mo_step_73 (v := 0) (by decide) ?_
    refine k_goto C d_Mo_step_74 (tgt := 92) (by decide) ?_
    refine k_callVv C kg_all (c_Mo_die l G _ _ _ g rfl I2 hg (by show m_tot (k_up _ _ _ _ _) ≤ 6; rw [mt_ne (by decide)]; omega)) cs_Mo_119 cv_Mo_die om_0 (by decide) rfl rfl (Nat.le_of_ble_eq_true rfl) ⟨rfl, rfl⟩ ⟨by decide, by decide⟩ ⟨Nat.zero_le _, Nat.zero_le _⟩ d_Mo_step_92 (j_die I2 (by show m_tot (k_up _ _ _ _ _) ≤ 6; rw [mt_ne (by decide)]; omega)).1 (fun I4 => ?_)
    refine k_goto C d_Mo_step_95 (tgt := 241) (by decide) ?_
    exact k_loc [(0, .ref (G.2.2 0 0)), (1, .int (nI p)), (2, .int (nI g)), (4, .int o)] ⟨rfl, rfl, rfl, rfl, trivial⟩ (k_mem (by first | (simp only [m_stM, m_stD, h1, ↓reduceIte]; done) | (simp only [m_stM, m_stD, h1, ↓reduceIte]; rfl)) k)
  · refine k_iload C d_Mo_step_47 rfl ?_
    refine k_bipush C d_Mo_step_49 (v := 20) (by decide) ?_
    refine k_icmp_ne C d_Mo_step_51 (tgt := 98) (by decide) (fun h5 => ?_) (fun h5 => ?_)
    · refine k_iload C d_Mo_step_98 rfl ?_
      refine k_bipush C d_Mo_step_100 (v := 9) (by decide) ?_
      refine k_icmp_ne C d_Mo_step_102 (tgt := 138) (by decide) (fun h6 => ?_) (fun h6 => ?_)
      · refine k_iload C d_Mo_step_138 rfl ?_
        refine k_bipush C d_Mo_step_140 (v := 10) (by decide) ?_
        refine k_icmp_ne C d_Mo_step_142 (tgt := 167) (by decide) (fun h7 => ?_) (fun h7 => ?_)
        · refine k_iconst C d_Mo_step_167 (v := 0) (by decide) ?_
          refine k_istore C d_Mo_step_168 (by decide) ?_
          exact b_ms2 C p g i o _ hp hg hi ho I0 ht hcar (k_mem (by first | (simp only [m_stM, m_jp, h1, h5, h6, h7, ↓reduceIte]; done) | (simp only [m_stM, m_jp, h1, h5, h6, h7, ↓reduceIte]; rfl) | (simp [m_stM, m_jp, h1, h5, h6, h7]; done)) k)
        · refine k_aload_n C d_Mo_step_145 rfl ?_
          refine k_getr C d_Mo_step_146 fg_Mo_52 (by decide) rfl ?_
          refine k_iload_n C d_Mo_step_149 rfl ?_
          refine k_iconst C d_Mo_step_150 (v := 4) (by decide) ?_
          refine k_imul C d_Mo_step_151 ?_
          refine k_aload_n C d_Mo_step_152 rfl ?_
          refine k_getr C d_Mo_step_153 fg_Mo_13 (by decide) rfl ?_
          refine k_iload_n C d_Mo_step_156 rfl ?_
          refine k_iaload C d_Mo_step_157 am_2 (by decide) (vp_in_nI (by omega) (by decide)) (nI_clamp (by omega)) ?_
          refine k_top (r_id (I0 2 0 i) (by decide)) ?_
          refine k_iadd C d_Mo_step_158 ?_
          refine k_iaload C d_Mo_step_159 am_15 (by decide) (mx (g) 4 ((K 2 0 i).toNatClampNeg) 24 (by omega) (by decide)).1 (mx (g) 4 ((K 2 0 i).toNatClampNeg) 24 (by omega) (by decide)).2 ?_
          refine k_if_ne C d_Mo_step_160 (tgt := 167) (by decide) (fun h8 => ?_) (fun h8 => ?_)
          · refine k_iconst C d_Mo_step_167 (v := 0) (by decide) ?_
            refine k_istore C d_Mo_step_168 (by decide) ?_
            exact b_ms2 C p g i o _ hp hg hi ho I0 ht hcar (k_mem (by first | (simp only [m_stM, m_jp, h1, h5, h6, h7, h8, ↓reduceIte]; done) | (simp only [m_stM, m_jp, h1, h5, h6, h7, h8, ↓reduceIte]; rfl) | (simp [m_stM, m_jp, h1, h5, h6, h7, h8]; done)) k)
          · refine k_iconst C d_Mo_step_163 (v := 1) (by decide) ?_
            refine k_goto C d_Mo_step_164 (tgt := 168) (by decide) ?_
            refine k_istore C d_Mo_step_168 (by decide) ?_
            exact b_ms2 C p g i o _ hp hg hi ho I0 ht hcar (k_mem (by first | (simp only [m_stM, m_jp, h1, h5, h6, h7, h8, ↓reduceIte]; done) | (simp only [m_stM, m_jp, h1, h5, h6, h7, h8, ↓reduceIte]; rfl) | (simp [m_stM, m_jp, h1, h5, h6, h7, h8]; done)) k)
      · refine k_aload_n C d_Mo_step_105 rfl ?_
        refine k_getr C d_Mo_step_106 fg_Mo_52 (by decide) rfl ?_
        refine k_iload_n C d_Mo_step_109 rfl ?_
        refine k_iconst C d_Mo_step_110 (v := 4) (by decide) ?_
        refine k_imul C d_Mo_step_111 ?_
        refine k_aload_n C d_Mo_step_112 rfl ?_
        refine k_getr C d_Mo_step_113 fg_Mo_13 (by decide) rfl ?_
        refine k_iload_n C d_Mo_step_116 rfl ?_
        refine k_iaload C d_Mo_step_117 am_2 (by decide) (vp_in_nI (by omega) (by decide)) (nI_clamp (by omega)) ?_
        refine k_top (r_id (I0 2 0 i) (by decide)) ?_
        refine k_iadd C d_Mo_step_118 ?_
        refine k_iaload C d_Mo_step_119 am_15 (by decide) (mx (g) 4 ((K 2 0 i).toNatClampNeg) 24 (by omega) (by decide)).1 (mx (g) 4 ((K 2 0 i).toNatClampNeg) 24 (by omega) (by decide)).2 ?_
        refine k_aload_n C d_Mo_step_120 rfl ?_
        refine k_getr C d_Mo_step_121 fg_Mo_52 (by decide) rfl ?_
        refine k_iload_n C d_Mo_step_124 rfl ?_
        refine k_iconst C d_Mo_step_125 (v := 4) (by decide) ?_
        refine k_imul C d_Mo_step_126 ?_
        refine k_aload_n C d_Mo_step_127 rfl ?_
        refine k_getr C d_Mo_step_128 fg_Mo_16 (by decide) rfl ?_
        refine k_iload_n C d_Mo_step_131 rfl ?_
        refine k_iaload C d_Mo_step_132 am_3 (by decide) (vp_in_nI (by omega) (by decide)) (nI_clamp (by omega)) ?_
        refine k_top (r_id (I0 3 0 i) (by decide)) ?_
        refine k_iadd C d_Mo_step_133 ?_
        refine k_iaload C d_Mo_step_134 am_15 (by decide) (mx (g) 4 ((K 3 0 i).toNatClampNeg) 24 (by omega) (by decide)).1 (mx (g) 4 ((K 3 0 i).toNatClampNeg) 24 (by omega) (by decide)).2 ?_
        refine k_icmp_lt C d_Mo_step_135 (tgt := 163) (by decide) (fun h9 => ?_) (fun h9 => ?_)
        · refine k_iconst C d_Mo_step_163 (v := 1) (by decide) ?_
          refine k_goto C d_Mo_step_164 (tgt := 168) (by decide) ?_
          refine k_istore C d_Mo_step_168 (by decide) ?_
          exact b_ms2 C p g i o _ hp hg hi ho I0 ht hcar (k_mem (by first | (simp only [m_stM, m_jp, h1, h5, h6, h9, ↓reduceIte]; done) | (simp only [m_stM, m_jp, h1, h5, h6, h9, ↓reduceIte]; rfl) | (simp [m_stM, m_jp, h1, h5, h6, h9]; done)) k)
        · refine k_iload C d_Mo_step_138 rfl ?_
          refine k_bipush C d_Mo_step_140 (v := 10) (by decide) ?_
          refine k_icmp_ne C d_Mo_step_142 (tgt := 167) (by decide) (fun h10 => ?_) (fun h10 => absurd (h6.symm.trans h10 : (9 : Int32) = 10) (by decide))
          refine k_iconst C d_Mo_step_167 (v := 0) (by decide) ?_
          refine k_istore C d_Mo_step_168 (by decide) ?_
          exact b_ms2 C p g i o _ hp hg hi ho I0 ht hcar (k_mem (by first | (simp only [m_stM, m_jp, h1, h5, h6, h9, ↓reduceIte]; done) | (simp only [m_stM, m_jp, h1, h5, h6, h9, ↓reduceIte]; rfl) | (simp [m_stM, m_jp, h1, h5, h6, h9]; done)) k)
    · refine k_aload_n C d_Mo_step_54 rfl ?_
      refine k_getr C d_Mo_step_55 fg_Mo_25 (by decide) rfl ?_
      refine k_iload_n C d_Mo_step_58 rfl ?_
      refine k_iload_n C d_Mo_step_59 rfl ?_
      refine k_iconst C d_Mo_step_60 (v := 1) (by decide) ?_
      refine k_iadd C d_Mo_step_61 ?_
      refine k_bipush C d_Mo_step_62 (v := 31) (by decide) ?_
      refine k_iand C d_Mo_step_64 ?_
      refine k_iastore C d_Mo_step_65 am_6 (by decide) (vp_in_nI (by omega) (by decide)) (nI_clamp (by omega)) I0 (m_31 _) (fun I11 => ?_)
      refine k_aload_n C d_Mo_step_66 rfl ?_
      refine k_iload_n C d_Mo_step_67 rfl ?_
      refine k_iload C d_Mo_step_68 rfl ?_
      refine k_if_ne C d_Mo_step_70 (tgt := 77) (by decide) (fun h12 => ?_) (fun h12 => absurd h12 h1)
      refine k_aload_n C d_Mo_step_77 rfl ?_
      refine k_getr C d_Mo_step_78 fg_Mo_52 (by decide) rfl ?_
      refine k_iload_n C d_Mo_step_81 rfl ?_
      refine k_iconst C d_Mo_step_82 (v := 4) (by decide) ?_
      refine k_imul C d_Mo_step_83 ?_
      refine k_aload_n C d_Mo_step_84 rfl ?_
      refine k_getr C d_Mo_step_85 fg_Mo_13 (by decide) rfl ?_
      refine k_iload_n C d_Mo_step_88 rfl ?_
      refine k_iaload C d_Mo_step_89 am_2 (by decide) (vp_in_nI (by omega) (by decide)) (nI_clamp (by omega)) ?_
      refine k_top (r_id (I0 2 0 i) (by decide)) ?_
      refine k_iadd C d_Mo_step_90 ?_
      refine k_iaload C d_Mo_step_91 am_15 (by decide) (mx (g) 4 ((K 2 0 i).toNatClampNeg) 24 (by omega) (by decide)).1 (mx (g) 4 ((K 2 0 i).toNatClampNeg) 24 (by omega) (by decide)).2 ?_
      refine k_callVv C kg_all (c_Mo_die l G _ _ _ g rfl I11 hg (by show m_tot (k_up _ _ _ _ _) ≤ 6; rw [mt_ne (by decide)]; omega)) cs_Mo_119 cv_Mo_die om_0 (by decide) rfl rfl (Nat.le_of_ble_eq_true rfl) ⟨rfl, rfl⟩ ⟨by decide, by decide⟩ ⟨Nat.zero_le _, Nat.zero_le _⟩ d_Mo_step_92 (j_die I11 (by show m_tot (k_up _ _ _ _ _) ≤ 6; rw [mt_ne (by decide)]; omega)).1 (fun I13 => ?_)
      refine k_goto C d_Mo_step_95 (tgt := 241) (by decide) ?_
      exact k_loc [(0, .ref (G.2.2 0 0)), (1, .int (nI p)), (2, .int (nI g)), (4, .int o)] ⟨rfl, rfl, rfl, rfl, trivial⟩ (k_mem (by first | (simp only [m_stM, m_stD, h1, h5, ↓reduceIte]; done) | (simp only [m_stM, m_stD, h1, h5, ↓reduceIte]; rfl)) k)
set_option maxHeartbeats 4000000 in
set_option maxRecDepth 100000 in
theorem c_Mo_step (l : Launch) (G : kG) (K : kM) (x0 : Int32) (p : Nat) (e0 : x0 = nI p) (I0 : m_Inv K) (hp : p < 2) (hx : vp_in (K 24 0 p) 6) (hok : m_ok K p) : k_Met l mS kT y_Mo_step b_Mo_step 7 none (k_rm 5) G [.ref (G.2.2 0 0), .int x0] K none (m_step K p) := by
  subst e0
  refine k_intro (by decide +kernel) rfl (Nat.le_of_ble_eq_true rfl) ?_
  intro X C E
  refine k_aload_n C d_Mo_step_0 rfl ?_
  refine k_getr C d_Mo_step_1 fg_Mo_80 (by decide) rfl ?_
  refine k_iload_n C d_Mo_step_4 rfl ?_
  have hgl : m_hg K p < 6 := k_lt hx
  refine k_iaload C d_Mo_step_5 am_24 (by decide) (vp_in_nI (by omega) (by decide)) (nI_clamp (by omega)) ?_
  refine k_top (show K 24 0 p = nI (m_hg K p) from r_id hx (by decide)) ?_
  refine k_istore_n C d_Mo_step_6 (by decide) ?_
  refine k_aload_n C d_Mo_step_7 rfl ?_
  refine k_getr C d_Mo_step_8 fg_Mo_25 (by decide) rfl ?_
  refine k_iload_n C d_Mo_step_11 rfl ?_
  have hil : m_hi K p < 32 := k_lt (I0 6 0 _)
  refine k_iaload C d_Mo_step_12 am_6 (by decide) (vp_in_nI (by omega) (by decide)) (nI_clamp (by omega)) ?_
  refine k_top (show K 6 0 (m_hg K p) = nI (m_hi K p) from r_id (I0 6 0 _) (by decide)) ?_
  refine k_istore_n C d_Mo_step_13 (by decide) ?_
  refine k_aload_n C d_Mo_step_14 rfl ?_
  refine k_getr C d_Mo_step_15 fg_Mo_7 (by decide) rfl ?_
  refine k_iload_n C d_Mo_step_18 rfl ?_
  refine k_iaload C d_Mo_step_19 am_1 (by decide) (vp_in_nI (by omega) (by decide)) (nI_clamp (by omega)) ?_
  refine k_istore C d_Mo_step_20 (by decide) ?_
  refine k_aload_n C d_Mo_step_22 rfl ?_
  refine k_dup C d_Mo_step_23 rfl ?_
  refine k_get C d_Mo_step_24 fg_Mo_155 (by decide) rfl ?_
  refine k_iconst C d_Mo_step_27 (v := 1) (by decide) ?_
  refine k_iadd C d_Mo_step_28 ?_
  refine k_put C d_Mo_step_29 fp_Mo_155 (by decide) rfl I0 (trivial) (fun I1 => ?_)
  refine k_aload_n C d_Mo_step_32 rfl ?_
  refine k_getr C d_Mo_step_33 fg_Mo_83 (by decide) rfl ?_
  refine k_iload_n C d_Mo_step_36 rfl ?_
  refine k_dup2 C d_Mo_step_37 rfl rfl ?_
  refine k_iaload C d_Mo_step_38 am_25 (by decide) (vp_in_nI (by omega) (by decide)) (nI_clamp (by omega)) ?_
  refine k_iconst C d_Mo_step_39 (v := 1) (by decide) ?_
  refine k_isub C d_Mo_step_40 ?_
  refine k_iastore C d_Mo_step_41 am_25 (by decide) (vp_in_nI (by omega) (by decide)) (nI_clamp (by omega)) I1 (trivial) (fun I2 => ?_)
  exact k_loc [(0, .ref (G.2.2 0 0)), (1, .int (nI p)), (2, .int (nI (m_hg K p))), (3, .int (nI (m_hi K p))), (4, .int (K 1 0 (m_hi K p)))] ⟨rfl, rfl, rfl, rfl, rfl, trivial⟩ (b_ms1 C p (m_hg K p) (m_hi K p) _ hp hgl hil (I0 1 0 _) I2 (by show m_tot (m_st1 K p) ≤ 5; rw [mt_st1]; exact hok.1) hok.2.1 (b_ms3 C p (m_hg K p) _ hp hgl (iv_mmid I0 hx hok.1) hok.2.2 E))
set_option maxHeartbeats 4000000 in
set_option maxRecDepth 100000 in
theorem b_mtu {X : kX} {G : kG} {l : Launch} {K : kM} (C : k_C X kT b_Mo_tick y_Mo_tick.cls mS G 2 l (k_rm 6)) (p : Nat) (hp : p < 2) (I0 : m_Inv K) (hok : 0 ≤ K 24 0 p → m_ok K p) (k : k_W X 0 0 12 [(1, .int (nI (p + 1))), (0, .ref (G.2.2 0 0))] [] (m_tu K p)) : k_W X 0 0 75 [(1, .int (nI p)), (0, .ref (G.2.2 0 0))] [] K := by
  refine k_aload_n C d_Mo_tick_75 rfl ?_
  refine k_getr C d_Mo_tick_76 fg_Mo_80 (by decide) rfl ?_
  refine k_iload_n C d_Mo_tick_79 rfl ?_
  refine k_iaload C d_Mo_tick_80 am_24 (by decide) (vp_in_nI (by omega) (by decide)) (nI_clamp (by omega)) ?_
  refine k_if_ge C d_Mo_tick_81 (tgt := 97) (by decide) (fun h1 => ?_) (fun h1 => ?_)
  · refine k_aload_n C d_Mo_tick_97 rfl ?_
    refine k_iload_n C d_Mo_tick_98 rfl ?_
    refine k_callVv C kg_all (c_Mo_step l G _ _ p rfl I0 hp (m_h0 (I0 24 0 p) ‹_›) (hok ‹_›)) cs_Mo_174 cv_Mo_step om_0 (by decide) rfl rfl (Nat.le_of_ble_eq_true rfl) ⟨rfl, rfl⟩ ⟨by decide, by decide⟩ ⟨Nat.zero_le _, Nat.zero_le _⟩ d_Mo_tick_99 (iv_mstep I0 (m_h0 (I0 24 0 p) ‹_›) (hok ‹_›)) (fun I2 => ?_)
    refine k_iinc C d_Mo_tick_102 rfl (v := nI (p + 1)) (nI_1 p) (by decide) ?_
    refine k_goto C d_Mo_tick_105 (tgt := 12) (by decide) ?_
    exact k_loc [(1, .int (nI (p + 1))), (0, .ref (G.2.2 0 0))] ⟨rfl, rfl, trivial⟩ (k_mem (by first | rfl | (simp only [m_tu, h1, ↓reduceIte]; done) | (simp only [m_tu, h1, ↓reduceIte]; rfl) | (simp [m_tu, h1]; done)) k)
  · refine k_aload_n C d_Mo_tick_84 rfl ?_
    refine k_dup C d_Mo_tick_85 rfl ?_
    refine k_get C d_Mo_tick_86 fg_Mo_171 (by decide) rfl ?_
    refine k_iconst C d_Mo_tick_89 (v := 1) (by decide) ?_
    refine k_iadd C d_Mo_tick_90 ?_
    refine k_put C d_Mo_tick_91 fp_Mo_171 (by decide) rfl I0 (trivial) (fun I3 => ?_)
    refine k_goto C d_Mo_tick_94 (tgt := 102) (by decide) ?_
    refine k_iinc C d_Mo_tick_102 rfl (v := nI (p + 1)) (nI_1 p) (by decide) ?_
    refine k_goto C d_Mo_tick_105 (tgt := 12) (by decide) ?_
    exact k_loc [(1, .int (nI (p + 1))), (0, .ref (G.2.2 0 0))] ⟨rfl, rfl, trivial⟩ (k_mem (by first | rfl | (simp only [m_tu, h1, ↓reduceIte]; done) | (simp only [m_tu, h1, ↓reduceIte]; rfl) | (simp [m_tu, h1]; done)) k)
set_option maxHeartbeats 4000000 in
set_option maxRecDepth 100000 in
theorem b_mtk {X : kX} {G : kG} {l : Launch} {K : kM} (C : k_C X kT b_Mo_tick y_Mo_tick.cls mS G 2 l (k_rm 6)) (p : Nat) (hp : p < 2) (I0 : m_Inv K) (k : k_W X 0 0 75 [(1, .int (nI p)), (0, .ref (G.2.2 0 0))] [] (m_tk K p)) : k_W X 0 0 12 [(1, .int (nI p)), (0, .ref (G.2.2 0 0))] [] K := by
  refine k_iload_n C d_Mo_tick_12 rfl ?_
  refine k_iconst C d_Mo_tick_13 (v := 2) (by decide) ?_
  refine k_icmp_ge C d_Mo_tick_14 (tgt := 108) (by decide) (fun h1 => absurd h1 (nI_ge hp (by decide))) (fun h1 => ?_)
  refine k_aload_n C d_Mo_tick_17 rfl ?_
  refine k_getr C d_Mo_tick_18 fg_Mo_80 (by decide) rfl ?_
  refine k_iload_n C d_Mo_tick_21 rfl ?_
  refine k_iaload C d_Mo_tick_22 am_24 (by decide) (vp_in_nI (by omega) (by decide)) (nI_clamp (by omega)) ?_
  refine k_if_ge C d_Mo_tick_23 (tgt := 75) (by decide) (fun h2 => ?_) (fun h2 => ?_)
  · exact k_mem (by first | rfl | (simp only [m_tk, m_ch, h2, ↓reduceIte]; done) | (simp only [m_tk, m_ch, h2, ↓reduceIte]; rfl) | (simp [m_tk, m_ch, h2]; done)) k
  · refine k_aload_n C d_Mo_tick_26 rfl ?_
    refine k_getr C d_Mo_tick_27 fg_Mo_68 (by decide) rfl ?_
    refine k_iload_n C d_Mo_tick_30 rfl ?_
    refine k_iaload C d_Mo_tick_31 am_20 (by decide) (vp_in_nI (by omega) (by decide)) (nI_clamp (by omega)) ?_
    refine k_if_le C d_Mo_tick_32 (tgt := 75) (by decide) (fun h3 => ?_) (fun h3 => ?_)
    · exact k_mem (by first | rfl | (simp only [m_tk, m_ch, h2, h3, ↓reduceIte]; done) | (simp only [m_tk, m_ch, h2, h3, ↓reduceIte]; rfl) | (simp [m_tk, m_ch, h2, h3]; done)) k
    · refine k_aload_n C d_Mo_tick_35 rfl ?_
      refine k_getr C d_Mo_tick_36 fg_Mo_80 (by decide) rfl ?_
      refine k_iload_n C d_Mo_tick_39 rfl ?_
      refine k_aload_n C d_Mo_tick_40 rfl ?_
      refine k_iload_n C d_Mo_tick_41 rfl ?_
      refine k_callVi C kg_all (c_Mo_take l G _ _ p rfl I0 (by omega) ‹_›) cs_Mo_106 cv_Mo_take om_0 (by decide) rfl rfl (Nat.le_of_ble_eq_true rfl) ⟨rfl, rfl⟩ ⟨by decide, by decide⟩ ⟨Nat.zero_le _, Nat.zero_le _⟩ d_Mo_tick_42 (iv_mtk I0 ‹_›) (fun I4 => ?_)
      refine k_iastore C d_Mo_tick_45 am_24 (by decide) (vp_in_nI (by omega) (by decide)) (nI_clamp (by omega)) I4 (Or.inr (r_tkX p I0)) (fun I5 => ?_)
      refine k_aload_n C d_Mo_tick_46 rfl ?_
      refine k_getr C d_Mo_tick_47 fg_Mo_22 (by decide) rfl ?_
      refine k_aload_n C d_Mo_tick_50 rfl ?_
      refine k_getr C d_Mo_tick_51 fg_Mo_80 (by decide) rfl ?_
      refine k_iload_n C d_Mo_tick_54 rfl ?_
      refine k_iaload C d_Mo_tick_55 am_24 (by decide) (vp_in_nI (by omega) (by decide)) (nI_clamp (by omega)) ?_
      refine k_iconst C d_Mo_tick_56 (v := 1) (by decide) ?_
      refine k_iastore C d_Mo_tick_57 am_5 (by decide) (by rw [k_up_eq]; exact r_tkX p I0) rfl I5 (trivial) (fun I6 => ?_)
      refine k_aload_n C d_Mo_tick_58 rfl ?_
      refine k_getr C d_Mo_tick_59 fg_Mo_83 (by decide) rfl ?_
      refine k_iload_n C d_Mo_tick_62 rfl ?_
      refine k_iconst C d_Mo_tick_63 (v := 3) (by decide) ?_
      refine k_iastore C d_Mo_tick_64 am_25 (by decide) (vp_in_nI (by omega) (by decide)) (nI_clamp (by omega)) I6 (trivial) (fun I7 => ?_)
      refine k_aload_n C d_Mo_tick_65 rfl ?_
      refine k_dup C d_Mo_tick_66 rfl ?_
      refine k_get C d_Mo_tick_67 fg_Mo_168 (by decide) rfl ?_
      refine k_iconst C d_Mo_tick_70 (v := 1) (by decide) ?_
      refine k_iadd C d_Mo_tick_71 ?_
      refine k_put C d_Mo_tick_72 fp_Mo_168 (by decide) rfl I7 (trivial) (fun I8 => ?_)
      exact k_mem (by first | rfl | (simp only [m_tk, m_ch, h2, h3, ↓reduceIte]; done) | (simp only [m_tk, m_ch, h2, h3, ↓reduceIte]; rfl) | (simp [m_tk, m_ch, h2, h3]; done)) k
set_option maxHeartbeats 4000000 in
set_option maxRecDepth 100000 in
theorem c_Mo_tick (l : Launch) (G : kG) (K : kM)    (I0 : m_Inv K) (hok : m_okT K) : k_Met l mS kT y_Mo_tick b_Mo_tick 2 none (k_rm 6) G [.ref (G.2.2 0 0)] K none (m_tick K) := by
  refine k_intro (by decide +kernel) rfl (Nat.le_of_ble_eq_true rfl) ?_
  intro X C E
  refine k_aload_n C d_Mo_tick_0 rfl ?_
  refine k_dup C d_Mo_tick_1 rfl ?_
  refine k_get C d_Mo_tick_2 fg_Mo_165 (by decide) rfl ?_
  refine k_iconst C d_Mo_tick_5 (v := 1) (by decide) ?_
  refine k_iadd C d_Mo_tick_6 ?_
  refine k_put C d_Mo_tick_7 fp_Mo_165 (by decide) rfl I0 (trivial) (fun I1 => ?_)
  refine k_iconst C d_Mo_tick_10 (v := 0) (by decide) ?_
  refine k_istore_n C d_Mo_tick_11 (by decide) ?_
  refine k_loc [(1, .int (nI 0)), (0, .ref (G.2.2 0 0))] ⟨rfl, rfl, trivial⟩ ?_
  refine b_mtk C 0 (by decide) I1 (b_mtu C 0 (by decide) (iv_mtk' I1) hok.1 ?_)
  have J1 : m_Inv (m_turn (k_up K 0 0 25 (K 0 0 25 + 1)) 0) := iv_mturn I1 hok.1
  refine b_mtk C 1 (by decide) J1 (b_mtu C 1 (by decide) (iv_mtk' J1) hok.2 ?_)
  refine k_iload_n C d_Mo_tick_12 rfl ?_
  refine k_iconst C d_Mo_tick_13 (v := 2) (by decide) ?_
  refine k_icmp_ge C d_Mo_tick_14 (tgt := 108) (by decide) (fun h21 => ?_) (fun h21 => absurd (by decide : (2 : Int32) ≤ nI 2) h21)
  exact k_return C (E.to rfl (by first | rfl | (simp only [m_tick, m_turn, ↓reduceIte, Nat.reduceAdd]; done) | (simp only [m_tick, m_turn, ↓reduceIte, Nat.reduceAdd]; rfl) | contradiction | (simp [m_tick, m_turn, ↓reduceIte, Nat.reduceAdd]; done) | (simp [m_tick, m_turn, ↓reduceIte, Nat.reduceAdd]; rfl))) d_Mo_tick_108
set_option maxHeartbeats 4000000 in
set_option maxRecDepth 100000 in
theorem b_mmy {X : kX} {G : kG} {l : Launch} {K : kM} (C : k_C X kT b_Mo_many y_Mo_many.cls mS G 4 l (k_rm 0)) (w : Int32) (I0 : m_Inv K) : ∀ (c i : Nat), c + i = 6 → k_E X (some .int) (some (.int (m_mny K w 6))) K 0 0 → k_W X 0 0 4 [(3, .int (nI i)), (2, .int (m_mny K w i)), (0, .ref (G.2.2 0 0)), (1, .int w)] [] K
  | 0, i, hc, E => by
    have e : i = 6 := by omega
    subst e
    refine k_iload_n C d_Mo_many_4 rfl ?_
    refine k_bipush C d_Mo_many_5 (v := 6) (by decide) ?_
    refine k_icmp_ge C d_Mo_many_7 (tgt := 29) (by decide) (fun h1 => ?_) (fun h1 => absurd (by decide : (6 : Int32) ≤ nI 6) h1)
    refine k_iload_n C d_Mo_many_29 rfl ?_
    exact k_ireturn C (E.to (by first | (simp only [m_mny, ↓reduceIte]; done) | (simp only [m_mny, ↓reduceIte]; rfl) | contradiction | rfl) (by first | (simp only [m_mny, ↓reduceIte]; done) | (simp only [m_mny, ↓reduceIte]; rfl) | contradiction | rfl)) d_Mo_many_30
  | c + 1, i, hc, E => by
    have hi : i < 6 := by omega
    refine k_iload_n C d_Mo_many_4 rfl ?_
    refine k_bipush C d_Mo_many_5 (v := 6) (by decide) ?_
    refine k_icmp_ge C d_Mo_many_7 (tgt := 29) (by decide) (fun h1 => absurd h1 (nI_ge hi (by decide))) (fun h1 => ?_)
    refine k_aload_n C d_Mo_many_10 rfl ?_
    refine k_getr C d_Mo_many_11 fg_Mo_22 (by decide) rfl ?_
    refine k_iload_n C d_Mo_many_14 rfl ?_
    refine k_iaload C d_Mo_many_15 am_5 (by decide) (vp_in_nI (by omega) (by decide)) (nI_clamp (by omega)) ?_
    refine k_iload_n C d_Mo_many_16 rfl ?_
    refine k_icmp_ne C d_Mo_many_17 (tgt := 23) (by decide) (fun h2 => ?_) (fun h2 => ?_)
    · refine k_iinc C d_Mo_many_23 rfl (v := nI (i + 1)) (nI_1 i) (by decide) ?_
      refine k_goto C d_Mo_many_26 (tgt := 4) (by decide) ?_
      exact k_loc [(3, .int (nI (i + 1))), (2, .int (m_mny K w (i + 1))), (0, .ref (G.2.2 0 0)), (1, .int w)] ⟨rfl, (by simp only [m_mny, h2, ↓reduceIte]; rfl), rfl, rfl, trivial⟩ (b_mmy C w I0 c (i + 1) (by omega) E)
    · refine k_iinc C d_Mo_many_20 rfl rfl (by decide) ?_
      refine k_iinc C d_Mo_many_23 rfl (v := nI (i + 1)) (nI_1 i) (by decide) ?_
      refine k_goto C d_Mo_many_26 (tgt := 4) (by decide) ?_
      exact k_loc [(3, .int (nI (i + 1))), (2, .int (m_mny K w (i + 1))), (0, .ref (G.2.2 0 0)), (1, .int w)] ⟨rfl, (by simp only [m_mny, h2, ↓reduceIte]; rfl), rfl, rfl, trivial⟩ (b_mmy C w I0 c (i + 1) (by omega) E)
set_option maxHeartbeats 4000000 in
set_option maxRecDepth 100000 in
theorem c_Mo_many (l : Launch) (G : kG) (K : kM) (w : Int32)   (I0 : m_Inv K) : k_Met l mS kT y_Mo_many b_Mo_many 4 (some .int) (k_rm 0) G [.ref (G.2.2 0 0), .int w] K (some (.int (m_mny K w 6))) (K) := by
  refine k_intro (by decide +kernel) rfl (Nat.le_of_ble_eq_true rfl) ?_
  intro X C E
  refine k_iconst C d_Mo_many_0 (v := 0) (by decide) ?_
  refine k_istore_n C d_Mo_many_1 (by decide) ?_
  refine k_iconst C d_Mo_many_2 (v := 0) (by decide) ?_
  refine k_istore_n C d_Mo_many_3 (by decide) ?_
  exact k_loc [(3, .int (nI 0)), (2, .int (m_mny K w 0)), (0, .ref (G.2.2 0 0)), (1, .int w)] ⟨rfl, rfl, rfl, rfl, trivial⟩ (b_mmy C w I0 6 0 rfl E)
