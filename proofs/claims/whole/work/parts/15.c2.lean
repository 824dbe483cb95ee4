set_option maxHeartbeats 4000000 in
set_option maxRecDepth 100000 in
theorem c_Ke_makeReady (l : Launch) (G : kG) (K : kM) (g : Nat) (I0 : g_Inv K) (hg : g < 6) : k_Met l gS kT y_Ke_makeReady b_Ke_makeReady 2 none (k_rm 1) G [.ref (G.2.2 0 0), .ref (G.2.2 7 g)] K none (g_ready K g) := by
  refine k_intro (by decide +kernel) rfl (Nat.le_of_ble_eq_true rfl) ?_
  intro X C E
  refine k_aload_n C d_Ke_makeReady_0 rfl ?_
  refine k_iconst C d_Ke_makeReady_1 (v := 0) (by decide) ?_
  refine k_put C d_Ke_makeReady_2 fp_Ke_98 (by first | assumption | decide | exact k_lt (by assumption)) rfl I0 (trivial) (fun I1 => ?_)
  refine k_aload_n C d_Ke_makeReady_5 rfl ?_
  refine k_getr C d_Ke_makeReady_6 fg_Ke_31 (by first | assumption | decide | exact k_lt (by assumption)) rfl ?_
  refine k_aload_n C d_Ke_makeReady_9 rfl ?_
  refine k_get C d_Ke_makeReady_10 fg_Ke_273 (by first | assumption | decide | exact k_lt (by assumption)) rfl ?_
  refine k_iconst C d_Ke_makeReady_13 (v := 2) (by decide) ?_
  refine k_irem C d_Ke_makeReady_14 (by first | decide | assumption) ?_
  refine k_aaload C d_Ke_makeReady_15 ar_10 (by first | assumption | decide | exact k_lt (by assumption)) (r_num2 I1 hg) rfl rfl ?_
  refine k_getr C d_Ke_makeReady_16 fg_Ke_176 (k_lt (r_num2 I1 hg)) rfl ?_
  refine k_aload_n C d_Ke_makeReady_19 rfl ?_
  refine k_get C d_Ke_makeReady_20 fg_Ke_273 (by first | assumption | decide | exact k_lt (by assumption)) rfl ?_
  refine k_callVv C kg_all (c_Ro_add l G _ _ _ I1 (Nat.lt_of_lt_of_le (k_lt (r_num2 I1 hg)) (by decide)) (r_num I1 hg)) cs_Ke_297 cv_Ro_add ob_12 (Nat.lt_of_lt_of_le (k_lt (r_num2 I1 hg)) (by decide)) rfl rfl (Nat.le_of_ble_eq_true rfl) ⟨rfl, rfl⟩ ⟨by decide, by decide⟩ ⟨Nat.zero_le _, Nat.zero_le _⟩ d_Ke_makeReady_23 (iv_rowAdd I1 (r_num I1 hg)) (fun I2 => ?_)
  exact k_return C (E.to rfl (by first | rfl | (simp only [g_ready, ↓reduceIte, Nat.reduceAdd]; done) | (simp only [g_ready, ↓reduceIte, Nat.reduceAdd]; rfl) | contradiction | (simp [g_ready, ↓reduceIte, Nat.reduceAdd]; done) | (simp [g_ready, ↓reduceIte, Nat.reduceAdd]; rfl))) d_Ke_makeReady_26
set_option maxHeartbeats 4000000 in
set_option maxRecDepth 100000 in
theorem c_Ke_block (l : Launch) (G : kG) (K : kM) (g : Nat) (a : Int32) (r : Nat) (I0 : g_Inv K) (hg : g < 6) (ha : vp_in a 4) (hr : r < 14) : k_Met l gS kT y_Ke_block b_Ke_block 3 none (k_rm 1) G [.ref (G.2.2 7 g), .int a, .ref (G.2.2 12 r)] K none (g_block K g a r) := by
  refine k_intro (by decide +kernel) rfl (Nat.le_of_ble_eq_true rfl) ?_
  intro X C E
  refine k_aload_n C d_Ke_block_0 rfl ?_
  refine k_iconst C d_Ke_block_1 (v := 2) (by decide) ?_
  refine k_put C d_Ke_block_2 fp_Ke_98 (by first | assumption | decide | exact k_lt (by assumption)) rfl I0 (trivial) (fun I1 => ?_)
  refine k_aload_n C d_Ke_block_5 rfl ?_
  refine k_iload_n C d_Ke_block_6 rfl ?_
  refine k_put C d_Ke_block_7 fp_Ke_286 (by first | assumption | decide | exact k_lt (by assumption)) rfl I1 (ha) (fun I2 => ?_)
  refine k_aload_n C d_Ke_block_10 rfl ?_
  refine k_aload_n C d_Ke_block_11 rfl ?_
  refine k_get C d_Ke_block_12 fg_Ke_273 (by first | assumption | decide | exact k_lt (by assumption)) rfl ?_
  refine k_callVv C kg_all (c_Ro_add l G _ _ _ I2 hr (r_num I2 hg)) cs_Ke_297 cv_Ro_add ob_12 (by first | assumption | decide | exact k_lt (by assumption)) rfl rfl (Nat.le_of_ble_eq_true rfl) ⟨rfl, rfl⟩ ⟨by decide, by decide⟩ ⟨Nat.zero_le _, Nat.zero_le _⟩ d_Ke_block_15 (iv_rowAdd I2 (r_num I2 hg)) (fun I3 => ?_)
  exact k_return C (E.to rfl (by first | rfl | (simp only [g_block, ↓reduceIte, Nat.reduceAdd]; done) | (simp only [g_block, ↓reduceIte, Nat.reduceAdd]; rfl) | contradiction | (simp [g_block, ↓reduceIte, Nat.reduceAdd]; done) | (simp [g_block, ↓reduceIte, Nat.reduceAdd]; rfl))) d_Ke_block_18
set_option maxHeartbeats 4000000 in
set_option maxRecDepth 100000 in
theorem c_Ke_takeNext (l : Launch) (G : kG) (K : kM) (p : Nat) (I0 : g_Inv K) (hp : p < 2) : k_Met l gS kT y_Ke_takeNext b_Ke_takeNext 3 (some .int) (k_rm 1) G [.ref (G.2.2 0 0), .ref (G.2.2 11 p)] K (some (.int (g_rowX K p))) (g_next K p) := by
  refine k_intro (by decide +kernel) rfl (Nat.le_of_ble_eq_true rfl) ?_
  intro X C E
  refine k_aload_n C d_Ke_takeNext_0 rfl ?_
  refine k_getr C d_Ke_takeNext_1 fg_Ke_176 (by first | assumption | decide | exact k_lt (by assumption)) rfl ?_
  refine k_callVi C kg_all (c_Ro_takeFirst l G _ _ I0 (by omega)) cs_Ke_211 cv_Ro_takeFirst ob_12 (by omega) rfl rfl (Nat.le_of_ble_eq_true rfl) ⟨rfl, rfl⟩ ⟨by decide, by decide⟩ ⟨Nat.zero_le _, Nat.zero_le _⟩ d_Ke_takeNext_4 (iv_rowT I0) (fun I1 => ?_)
  refine k_istore_n C d_Ke_takeNext_7 (by decide) ?_
  refine k_iload_n C d_Ke_takeNext_8 rfl ?_
  refine k_iconst C d_Ke_takeNext_9 (v := (-1)) (by decide) ?_
  refine k_icmp_eq C d_Ke_takeNext_10 (tgt := 43) (by decide) (fun h2 => ?_) (fun h2 => ?_)
  · refine k_iload_n C d_Ke_takeNext_43 rfl ?_
    exact k_ireturn C (E.to (by first | rfl | (simp only [g_next, h2, ↓reduceIte, Nat.reduceAdd]; done) | (simp only [g_next, h2, ↓reduceIte, Nat.reduceAdd]; rfl) | contradiction | (simp [g_next, h2, ↓reduceIte, Nat.reduceAdd]; done) | (simp [g_next, h2, ↓reduceIte, Nat.reduceAdd]; rfl)) (by first | rfl | (simp only [g_next, h2, ↓reduceIte, Nat.reduceAdd]; done) | (simp only [g_next, h2, ↓reduceIte, Nat.reduceAdd]; rfl) | contradiction | (simp [g_next, h2, ↓reduceIte, Nat.reduceAdd]; done) | (simp [g_next, h2, ↓reduceIte, Nat.reduceAdd]; rfl))) d_Ke_takeNext_44
  · refine k_aload_n C d_Ke_takeNext_13 rfl ?_
    refine k_getr C d_Ke_takeNext_14 fg_Ke_25 (by first | assumption | decide | exact k_lt (by assumption)) rfl ?_
    refine k_iload_n C d_Ke_takeNext_17 rfl ?_
    refine k_aaload C d_Ke_takeNext_18 ar_6 (by first | assumption | decide | exact k_lt (by assumption)) (r_rowX1 I0 h2) rfl rfl ?_
    refine k_iconst C d_Ke_takeNext_19 (v := 1) (by decide) ?_
    refine k_put C d_Ke_takeNext_20 fp_Ke_98 (k_lt (r_rowX1 I0 h2)) rfl I1 (trivial) (fun I3 => ?_)
    refine k_aload_n C d_Ke_takeNext_23 rfl ?_
    refine k_iload_n C d_Ke_takeNext_24 rfl ?_
    refine k_put C d_Ke_takeNext_25 fp_Ke_173 (by first | assumption | decide | exact k_lt (by assumption)) rfl I3 (Or.inr (r_rowX1 I0 h2)) (fun I4 => ?_)
    refine k_aload_n C d_Ke_takeNext_28 rfl ?_
    refine k_iconst C d_Ke_takeNext_29 (v := 3) (by decide) ?_
    refine k_put C d_Ke_takeNext_30 fp_Ke_200 (by first | assumption | decide | exact k_lt (by assumption)) rfl I4 (trivial) (fun I5 => ?_)
    refine k_aload_n C d_Ke_takeNext_33 rfl ?_
    refine k_dup C d_Ke_takeNext_34 rfl ?_
    refine k_get C d_Ke_takeNext_35 fg_Ke_170 (by first | assumption | decide | exact k_lt (by assumption)) rfl ?_
    refine k_iconst C d_Ke_takeNext_38 (v := 1) (by decide) ?_
    refine k_iadd C d_Ke_takeNext_39 ?_
    refine k_put C d_Ke_takeNext_40 fp_Ke_170 (by first | assumption | decide | exact k_lt (by assumption)) rfl I5 (trivial) (fun I6 => ?_)
    refine k_iload_n C d_Ke_takeNext_43 rfl ?_
    exact k_ireturn C (E.to (by first | rfl | (simp only [g_next, h2, ↓reduceIte, Nat.reduceAdd]; done) | (simp only [g_next, h2, ↓reduceIte, Nat.reduceAdd]; rfl) | contradiction | (simp [g_next, h2, ↓reduceIte, Nat.reduceAdd]; done) | (simp [g_next, h2, ↓reduceIte, Nat.reduceAdd]; rfl)) (by first | rfl | (simp only [g_next, h2, ↓reduceIte, Nat.reduceAdd]; done) | (simp only [g_next, h2, ↓reduceIte, Nat.reduceAdd]; rfl) | contradiction | (simp [g_next, h2, ↓reduceIte, Nat.reduceAdd]; done) | (simp [g_next, h2, ↓reduceIte, Nat.reduceAdd]; rfl))) d_Ke_takeNext_44
set_option maxHeartbeats 4000000 in
set_option maxRecDepth 100000 in
theorem c_Ke_dropPage (l : Launch) (G : kG) (K : kM) (g : Nat) (p : Int32) (I0 : g_Inv K) (hg : g < 6) (hp : vp_in p 4) : k_Met l gS kT y_Ke_dropPage b_Ke_dropPage 4 (some .boolean) (k_rm 1) G [.ref (G.2.2 0 0), .ref (G.2.2 7 g), .int p] K (some (.int (g_dropX K g p))) (g_drop K g p) := by
  refine k_intro (by decide +kernel) rfl (Nat.le_of_ble_eq_true rfl) ?_
  intro X C E
  refine k_aload_n C d_Ke_dropPage_0 rfl ?_
  refine k_getr C d_Ke_dropPage_1 fg_Ke_125 (by first | assumption | decide | exact k_lt (by assumption)) rfl ?_
  refine k_iload_n C d_Ke_dropPage_4 rfl ?_
  refine k_iaload C d_Ke_dropPage_5 ar_9 (by first | assumption | decide | exact k_lt (by assumption)) (by assumption) rfl ?_
  refine k_istore_n C d_Ke_dropPage_6 (by decide) ?_
  refine k_iload_n C d_Ke_dropPage_7 rfl ?_
  refine k_iconst C d_Ke_dropPage_8 (v := (-1)) (by decide) ?_
  refine k_icmp_ne C d_Ke_dropPage_9 (tgt := 14) (by decide) (fun h1 => ?_) (fun h1 => ?_)
  · refine k_aload_n C d_Ke_dropPage_14 rfl ?_
    refine k_getr C d_Ke_dropPage_15 fg_Ke_125 (by first | assumption | decide | exact k_lt (by assumption)) rfl ?_
    refine k_iload_n C d_Ke_dropPage_18 rfl ?_
    refine k_iconst C d_Ke_dropPage_19 (v := (-1)) (by decide) ?_
    refine k_iastore C d_Ke_dropPage_20 ar_9 (by first | assumption | decide | exact k_lt (by assumption)) (by assumption) rfl I0 (Or.inl rfl) (fun I2 => ?_)
    refine k_aload_n C d_Ke_dropPage_21 rfl ?_
    refine k_dup C d_Ke_dropPage_22 rfl ?_
    refine k_get C d_Ke_dropPage_23 fg_Ke_110 (by first | assumption | decide | exact k_lt (by assumption)) rfl ?_
    refine k_iconst C d_Ke_dropPage_26 (v := 1) (by decide) ?_
    refine k_isub C d_Ke_dropPage_27 ?_
    refine k_put C d_Ke_dropPage_28 fp_Ke_110 (by first | assumption | decide | exact k_lt (by assumption)) rfl I2 (trivial) (fun I3 => ?_)
    refine k_aload_n C d_Ke_dropPage_31 rfl ?_
    refine k_getr C d_Ke_dropPage_32 fg_Ke_19 (by first | assumption | decide | exact k_lt (by assumption)) rfl ?_
    refine k_iload_n C d_Ke_dropPage_35 rfl ?_
    refine k_callVv C kg_all (c_Fr_giveBack l G _ _ I3 (Or.resolve_left (I0 9 g p.toNatClampNeg) h1)) cs_Ke_270 cv_Fr_giveBack ob_3 (by first | assumption | decide | exact k_lt (by assumption)) rfl rfl (Nat.le_of_ble_eq_true rfl) ⟨rfl, rfl⟩ ⟨by decide, by decide⟩ ⟨Nat.zero_le _, Nat.zero_le _⟩ d_Ke_dropPage_36 (iv_give I3) (fun I4 => ?_)
    refine k_iconst C d_Ke_dropPage_39 (v := 1) (by decide) ?_
    exact k_zreturn C (E.to (by first | rfl | (simp only [g_dropX, g_drop, h1, ↓reduceIte, Nat.reduceAdd]; done) | (simp only [g_dropX, g_drop, h1, ↓reduceIte, Nat.reduceAdd]; rfl) | contradiction | (simp [g_dropX, g_drop, h1, ↓reduceIte, Nat.reduceAdd]; done) | (simp [g_dropX, g_drop, h1, ↓reduceIte, Nat.reduceAdd]; rfl)) (by first | rfl | (simp only [g_dropX, g_drop, h1, ↓reduceIte, Nat.reduceAdd]; done) | (simp only [g_dropX, g_drop, h1, ↓reduceIte, Nat.reduceAdd]; rfl) | contradiction | (simp [g_dropX, g_drop, h1, ↓reduceIte, Nat.reduceAdd]; done) | (simp [g_dropX, g_drop, h1, ↓reduceIte, Nat.reduceAdd]; rfl))) d_Ke_dropPage_40 (by first | rfl | decide)
  · refine k_iconst C d_Ke_dropPage_12 (v := 0) (by decide) ?_
    exact k_zreturn C (E.to (by first | rfl | (simp only [g_dropX, g_drop, h1, ↓reduceIte, Nat.reduceAdd]; done) | (simp only [g_dropX, g_drop, h1, ↓reduceIte, Nat.reduceAdd]; rfl) | contradiction | (simp [g_dropX, g_drop, h1, ↓reduceIte, Nat.reduceAdd]; done) | (simp [g_dropX, g_drop, h1, ↓reduceIte, Nat.reduceAdd]; rfl)) (by first | rfl | (simp only [g_dropX, g_drop, h1, ↓reduceIte, Nat.reduceAdd]; done) | (simp only [g_dropX, g_drop, h1, ↓reduceIte, Nat.reduceAdd]; rfl) | contradiction | (simp [g_dropX, g_drop, h1, ↓reduceIte, Nat.reduceAdd]; done) | (simp [g_dropX, g_drop, h1, ↓reduceIte, Nat.reduceAdd]; rfl))) d_Ke_dropPage_13 (by first | rfl | decide)
set_option maxHeartbeats 4000000 in
set_option maxRecDepth 100000 in
theorem c_Ke_passOn (l : Launch) (G : kG) (K : kM) (k : Nat) (I0 : g_Inv K) (hk : k < 4) : k_Met l gS kT y_Ke_passOn b_Ke_passOn 2 none (k_rm 2) G [.ref (G.2.2 0 0), .ref (G.2.2 15 k)] K none (g_pass K k) := by
  refine k_intro (by decide +kernel) rfl (Nat.le_of_ble_eq_true rfl) ?_
  intro X C E
  refine k_aload_n C d_Ke_passOn_0 rfl ?_
  refine k_aload_n C d_Ke_passOn_1 rfl ?_
  refine k_getr C d_Ke_passOn_2 fg_Ke_135 (by first | assumption | decide | exact k_lt (by assumption)) rfl ?_
  refine k_callVi C kg_all (c_Ro_takeFirst l G _ _ I0 (by omega)) cs_Ke_211 cv_Ro_takeFirst ob_12 (by omega) rfl rfl (Nat.le_of_ble_eq_true rfl) ⟨rfl, rfl⟩ ⟨by decide, by decide⟩ ⟨Nat.zero_le _, Nat.zero_le _⟩ d_Ke_passOn_5 (iv_rowT I0) (fun I1 => ?_)
  refine k_put C d_Ke_passOn_8 fp_Ke_132 (by first | assumption | decide | exact k_lt (by assumption)) rfl I1 (r_rowX (10 + k) I0) (fun I2 => ?_)
  refine k_aload_n C d_Ke_passOn_11 rfl ?_
  refine k_get C d_Ke_passOn_12 fg_Ke_132 (by first | assumption | decide | exact k_lt (by assumption)) rfl ?_
  refine k_iconst C d_Ke_passOn_15 (v := (-1)) (by decide) ?_
  refine k_icmp_eq C d_Ke_passOn_16 (tgt := 32) (by decide) (fun h3 => ?_) (fun h3 => ?_)
  · exact k_return C (E.to rfl (by first | rfl | (simp only [g_pass, h3, ↓reduceIte, Nat.reduceAdd]; done) | (simp only [g_pass, h3, ↓reduceIte, Nat.reduceAdd]; rfl) | contradiction | (simp [g_pass, h3, ↓reduceIte, Nat.reduceAdd]; done) | (simp [g_pass, h3, ↓reduceIte, Nat.reduceAdd]; rfl))) d_Ke_passOn_32
  · refine k_aload_n C d_Ke_passOn_19 rfl ?_
    refine k_aload_n C d_Ke_passOn_20 rfl ?_
    refine k_getr C d_Ke_passOn_21 fg_Ke_25 (by first | assumption | decide | exact k_lt (by assumption)) rfl ?_
    refine k_aload_n C d_Ke_passOn_24 rfl ?_
    refine k_get C d_Ke_passOn_25 fg_Ke_132 (by first | assumption | decide | exact k_lt (by assumption)) rfl ?_
    refine k_aaload C d_Ke_passOn_28 ar_6 (by first | assumption | decide | exact k_lt (by assumption)) (Or.resolve_left (I2 15 k 1) h3) rfl rfl ?_
    refine k_callVv C kg_all (c_Ke_makeReady l G _ _ I2 (k_lt (Or.resolve_left (I2 15 k 1) h3))) cs_Ke_57 cv_Ke_makeReady ob_0 (by decide) rfl rfl (Nat.le_of_ble_eq_true rfl) ⟨rfl, rfl⟩ ⟨by decide, by decide⟩ ⟨Nat.zero_le _, Nat.zero_le _⟩ d_Ke_passOn_29 (iv_ready I2 (k_lt (Or.resolve_left (I2 15 k 1) h3))) (fun I4 => ?_)
    exact k_return C (E.to rfl (by first | rfl | (simp only [g_pass, h3, ↓reduceIte, Nat.reduceAdd]; done) | (simp only [g_pass, h3, ↓reduceIte, Nat.reduceAdd]; rfl) | contradiction | (simp [g_pass, h3, ↓reduceIte, Nat.reduceAdd]; done) | (simp [g_pass, h3, ↓reduceIte, Nat.reduceAdd]; rfl))) d_Ke_passOn_32
set_option maxHeartbeats 4000000 in
set_option maxRecDepth 100000 in
theorem c_Ke_addressTrap (l : Launch) (G : kG) (K : kM) (g : Nat) (a : Int32) (I0 : g_Inv K) (hg : g < 6) : k_Met l gS kT y_Ke_addressTrap b_Ke_addressTrap 2 (some .int) (k_rm 1) G [.ref (G.2.2 7 g), .int a] K (some (.int (g_addr K g a))) (K) := by
  refine k_intro (by decide +kernel) rfl (Nat.le_of_ble_eq_true rfl) ?_
  intro X C E
  refine k_iload_n C d_Ke_addressTrap_0 rfl ?_
  refine k_bipush C d_Ke_addressTrap_1 (v := 32) (by decide) ?_
  refine k_callSi C kg_all (c_Ke_isOutside l G _ _ _ I0) cs_Ke_179 cv_Ke_isOutside rfl rfl (Nat.le_of_ble_eq_true rfl) ⟨rfl, rfl⟩ ⟨by decide, by decide⟩ ⟨Nat.zero_le _, Nat.zero_le _⟩ d_Ke_addressTrap_3 I0 (fun I1 => ?_)
  refine k_if_eq C d_Ke_addressTrap_6 (tgt := 11) (by decide) (fun h2 => ?_) (fun h2 => ?_)
  · refine k_aload_n C d_Ke_addressTrap_11 rfl ?_
    refine k_getr C d_Ke_addressTrap_12 fg_Ke_125 (by first | assumption | decide | exact k_lt (by assumption)) rfl ?_
    refine k_iload_n C d_Ke_addressTrap_15 rfl ?_
    refine k_bipush C d_Ke_addressTrap_16 (v := 8) (by decide) ?_
    refine k_idiv C d_Ke_addressTrap_18 (by first | decide | assumption) ?_
    refine k_iaload C d_Ke_addressTrap_19 ar_9 (by first | assumption | decide | exact k_lt (by assumption)) (r_div8 (r_out32 h2)) rfl ?_
    refine k_iconst C d_Ke_addressTrap_20 (v := (-1)) (by decide) ?_
    refine k_icmp_ne C d_Ke_addressTrap_21 (tgt := 28) (by decide) (fun h3 => ?_) (fun h3 => ?_)
    · refine k_iconst C d_Ke_addressTrap_28 (v := 0) (by decide) ?_
      exact k_ireturn C (E.to (by first | rfl | (simp only [g_addr, h2, h3, ↓reduceIte, Nat.reduceAdd]; done) | (simp only [g_addr, h2, h3, ↓reduceIte, Nat.reduceAdd]; rfl) | contradiction | (simp [g_addr, h2, h3, ↓reduceIte, Nat.reduceAdd]; done) | (simp [g_addr, h2, h3, ↓reduceIte, Nat.reduceAdd]; rfl)) (by first | rfl | (simp only [g_addr, h2, h3, ↓reduceIte, Nat.reduceAdd]; done) | (simp only [g_addr, h2, h3, ↓reduceIte, Nat.reduceAdd]; rfl) | contradiction | (simp [g_addr, h2, h3, ↓reduceIte, Nat.reduceAdd]; done) | (simp [g_addr, h2, h3, ↓reduceIte, Nat.reduceAdd]; rfl))) d_Ke_addressTrap_29
    · refine k_iconst C d_Ke_addressTrap_24 (v := 3) (by decide) ?_
      refine k_goto C d_Ke_addressTrap_25 (tgt := 29) (by decide) ?_
      exact k_ireturn C (E.to (by first | rfl | (simp only [g_addr, h2, h3, ↓reduceIte, Nat.reduceAdd]; done) | (simp only [g_addr, h2, h3, ↓reduceIte, Nat.reduceAdd]; rfl) | contradiction | (simp [g_addr, h2, h3, ↓reduceIte, Nat.reduceAdd]; done) | (simp [g_addr, h2, h3, ↓reduceIte, Nat.reduceAdd]; rfl)) (by first | rfl | (simp only [g_addr, h2, h3, ↓reduceIte, Nat.reduceAdd]; done) | (simp only [g_addr, h2, h3, ↓reduceIte, Nat.reduceAdd]; rfl) | contradiction | (simp [g_addr, h2, h3, ↓reduceIte, Nat.reduceAdd]; done) | (simp [g_addr, h2, h3, ↓reduceIte, Nat.reduceAdd]; rfl))) d_Ke_addressTrap_29
  · refine k_iconst C d_Ke_addressTrap_9 (v := 2) (by decide) ?_
    exact k_ireturn C (E.to (by first | rfl | (simp only [g_addr, h2, ↓reduceIte, Nat.reduceAdd]; done) | (simp only [g_addr, h2, ↓reduceIte, Nat.reduceAdd]; rfl) | contradiction | (simp [g_addr, h2, ↓reduceIte, Nat.reduceAdd]; done) | (simp [g_addr, h2, ↓reduceIte, Nat.reduceAdd]; rfl)) (by first | rfl | (simp only [g_addr, h2, ↓reduceIte, Nat.reduceAdd]; done) | (simp only [g_addr, h2, ↓reduceIte, Nat.reduceAdd]; rfl) | contradiction | (simp [g_addr, h2, ↓reduceIte, Nat.reduceAdd]; done) | (simp [g_addr, h2, ↓reduceIte, Nat.reduceAdd]; rfl))) d_Ke_addressTrap_10
