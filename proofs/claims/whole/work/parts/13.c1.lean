set_option maxHeartbeats 4000000 in
set_option maxRecDepth 100000 in
theorem c_Ke_isOutside (l : Launch) (G : kG) (K : kM) (v b : Int32) (I0 : g_Inv K) : k_Met l gS kT y_Ke_isOutside b_Ke_isOutside 2 (some .boolean) (k_rm 0) G [.int v, .int b] K (some (.int (g_out v b))) (K) := by
  refine k_intro (by decide +kernel) rfl (Nat.le_of_ble_eq_true rfl) ?_
  intro X C E
  refine k_iload_n C d_Ke_isOutside_0 rfl ?_
  refine k_if_lt C d_Ke_isOutside_1 (tgt := 9) (by decide) (fun h1 => ?_) (fun h1 => ?_)
  · refine k_iconst C d_Ke_isOutside_9 (v := 1) (by decide) ?_
    refine k_goto C d_Ke_isOutside_10 (tgt := 14) (by decide) ?_
    exact k_zreturn C (E.to (by first | rfl | (simp only [g_out, h1, ↓reduceIte]) | contradiction | (simp [g_out, h1])) (by first | rfl | (simp only [g_out, h1, ↓reduceIte]) | contradiction | (simp [g_out, h1]))) d_Ke_isOutside_14 (by first | rfl | decide)
  · refine k_iload_n C d_Ke_isOutside_4 rfl ?_
    refine k_iload_n C d_Ke_isOutside_5 rfl ?_
    refine k_icmp_lt C d_Ke_isOutside_6 (tgt := 13) (by decide) (fun h2 => ?_) (fun h2 => ?_)
    · refine k_iconst C d_Ke_isOutside_13 (v := 0) (by decide) ?_
      exact k_zreturn C (E.to (by first | rfl | (simp only [g_out, h1, h2, ↓reduceIte]) | contradiction | (simp [g_out, h1, h2])) (by first | rfl | (simp only [g_out, h1, h2, ↓reduceIte]) | contradiction | (simp [g_out, h1, h2]))) d_Ke_isOutside_14 (by first | rfl | decide)
    · refine k_iconst C d_Ke_isOutside_9 (v := 1) (by decide) ?_
      refine k_goto C d_Ke_isOutside_10 (tgt := 14) (by decide) ?_
      exact k_zreturn C (E.to (by first | rfl | (simp only [g_out, h1, h2, ↓reduceIte]) | contradiction | (simp [g_out, h1, h2])) (by first | rfl | (simp only [g_out, h1, h2, ↓reduceIte]) | contradiction | (simp [g_out, h1, h2]))) d_Ke_isOutside_14 (by first | rfl | decide)
set_option maxHeartbeats 4000000 in
set_option maxRecDepth 100000 in
theorem c_Gu_quotaLeft (l : Launch) (G : kG) (K : kM) (g : Nat) (I0 : g_Inv K) (hg : g < 6) : k_Met l gS kT y_Gu_quotaLeft b_Gu_quotaLeft 1 (some .int) (k_rm 0) G [.ref (G.2.2 7 g)] K (some (.int (g_qleft K g))) (K) := by
  refine k_intro (by decide +kernel) rfl (Nat.le_of_ble_eq_true rfl) ?_
  intro X C E
  refine k_aload_n C d_Gu_quotaLeft_0 rfl ?_
  refine k_get C d_Gu_quotaLeft_1 fg_Gu_38 (by first | assumption | decide | exact k_lt (by assumption)) rfl ?_
  refine k_aload_n C d_Gu_quotaLeft_4 rfl ?_
  refine k_get C d_Gu_quotaLeft_5 fg_Gu_41 (by first | assumption | decide | exact k_lt (by assumption)) rfl ?_
  refine k_isub C d_Gu_quotaLeft_8 ?_
  refine k_aload_n C d_Gu_quotaLeft_9 rfl ?_
  refine k_get C d_Gu_quotaLeft_10 fg_Gu_44 (by first | assumption | decide | exact k_lt (by assumption)) rfl ?_
  refine k_isub C d_Gu_quotaLeft_13 ?_
  exact k_ireturn C (E.to (by first | rfl | (simp only [g_qleft, ↓reduceIte]) | contradiction | (simp [g_qleft])) (by first | rfl | (simp only [g_qleft, ↓reduceIte]) | contradiction | (simp [g_qleft]))) d_Gu_quotaLeft_14
set_option maxHeartbeats 4000000 in
set_option maxRecDepth 100000 in
theorem c_Ro_add (l : Launch) (G : kG) (K : kM) (r : Nat) (x : Int32) (I0 : g_Inv K) (hr : r < 14) (hx : vp_in x 6) : k_Met l gS kT y_Ro_add b_Ro_add 2 none (k_rm 0) G [.ref (G.2.2 12 r), .int x] K none (g_rowAdd K r x) := by
  refine k_intro (by decide +kernel) rfl (Nat.le_of_ble_eq_true rfl) ?_
  intro X C E
  refine k_aload_n C d_Ro_add_0 rfl ?_
  refine k_get C d_Ro_add_1 fg_Ro_15 (by first | assumption | decide | exact k_lt (by assumption)) rfl ?_
  refine k_bipush C d_Ro_add_4 (v := 6) (by decide) ?_
  refine k_icmp_ge C d_Ro_add_6 (tgt := 37) (by decide) (fun h1 => ?_) (fun h1 => ?_)
  · exact k_return C (E.to rfl (by first | rfl | (simp only [g_rowAdd, h1, ↓reduceIte]) | contradiction | (simp [g_rowAdd, h1]))) d_Ro_add_37
  · refine k_aload_n C d_Ro_add_9 rfl ?_
    refine k_getr C d_Ro_add_10 fg_Ro_9 (by first | assumption | decide | exact k_lt (by assumption)) rfl ?_
    refine k_aload_n C d_Ro_add_13 rfl ?_
    refine k_get C d_Ro_add_14 fg_Ro_19 (by first | assumption | decide | exact k_lt (by assumption)) rfl ?_
    refine k_aload_n C d_Ro_add_17 rfl ?_
    refine k_get C d_Ro_add_18 fg_Ro_15 (by first | assumption | decide | exact k_lt (by assumption)) rfl ?_
    refine k_iadd C d_Ro_add_21 ?_
    refine k_bipush C d_Ro_add_22 (v := 6) (by decide) ?_
    refine k_irem C d_Ro_add_24 (by first | decide | assumption) ?_
    refine k_iload_n C d_Ro_add_25 rfl ?_
    refine k_iastore C d_Ro_add_26 ar_13 (by first | assumption | decide | exact k_lt (by assumption)) (r_idx (I0 12 r 1) (I0 12 r 2)) rfl I0 (hx) (fun I2 => ?_)
    refine k_aload_n C d_Ro_add_27 rfl ?_
    refine k_dup C d_Ro_add_28 rfl ?_
    refine k_get C d_Ro_add_29 fg_Ro_15 (by first | assumption | decide | exact k_lt (by assumption)) rfl ?_
    refine k_iconst C d_Ro_add_32 (v := 1) (by decide) ?_
    refine k_iadd C d_Ro_add_33 ?_
    refine k_put C d_Ro_add_34 fp_Ro_15 (by first | assumption | decide | exact k_lt (by assumption)) rfl I2 (r_szp (I2 12 r 2) h1) (fun I3 => ?_)
    exact k_return C (E.to rfl (by first | rfl | (simp only [g_rowAdd, h1, ↓reduceIte]) | contradiction | (simp [g_rowAdd, h1]))) d_Ro_add_37
set_option maxHeartbeats 4000000 in
set_option maxRecDepth 100000 in
theorem c_Ro_takeFirst (l : Launch) (G : kG) (K : kM) (r : Nat) (I0 : g_Inv K) (hr : r < 14) : k_Met l gS kT y_Ro_takeFirst b_Ro_takeFirst 2 (some .int) (k_rm 0) G [.ref (G.2.2 12 r)] K (some (.int (g_rowX K r))) (g_rowT K r) := by
  refine k_intro (by decide +kernel) rfl (Nat.le_of_ble_eq_true rfl) ?_
  intro X C E
  refine k_aload_n C d_Ro_takeFirst_0 rfl ?_
  refine k_get C d_Ro_takeFirst_1 fg_Ro_15 (by first | assumption | decide | exact k_lt (by assumption)) rfl ?_
  refine k_if_ne C d_Ro_takeFirst_4 (tgt := 9) (by decide) (fun h1 => ?_) (fun h1 => ?_)
  · refine k_aload_n C d_Ro_takeFirst_9 rfl ?_
    refine k_getr C d_Ro_takeFirst_10 fg_Ro_9 (by first | assumption | decide | exact k_lt (by assumption)) rfl ?_
    refine k_aload_n C d_Ro_takeFirst_13 rfl ?_
    refine k_get C d_Ro_takeFirst_14 fg_Ro_19 (by first | assumption | decide | exact k_lt (by assumption)) rfl ?_
    refine k_iaload C d_Ro_takeFirst_17 ar_13 (by first | assumption | decide | exact k_lt (by assumption)) (I0 12 r 1) rfl ?_
    refine k_istore_n C d_Ro_takeFirst_18 (by decide) ?_
    refine k_aload_n C d_Ro_takeFirst_19 rfl ?_
    refine k_aload_n C d_Ro_takeFirst_20 rfl ?_
    refine k_get C d_Ro_takeFirst_21 fg_Ro_19 (by first | assumption | decide | exact k_lt (by assumption)) rfl ?_
    refine k_iconst C d_Ro_takeFirst_24 (v := 1) (by decide) ?_
    refine k_iadd C d_Ro_takeFirst_25 ?_
    refine k_bipush C d_Ro_takeFirst_26 (v := 6) (by decide) ?_
    refine k_irem C d_Ro_takeFirst_28 (by first | decide | assumption) ?_
    refine k_put C d_Ro_takeFirst_29 fp_Ro_19 (by first | assumption | decide | exact k_lt (by assumption)) rfl I0 (r_fi1 (I0 12 r 1)) (fun I2 => ?_)
    refine k_aload_n C d_Ro_takeFirst_32 rfl ?_
    refine k_dup C d_Ro_takeFirst_33 rfl ?_
    refine k_get C d_Ro_takeFirst_34 fg_Ro_15 (by first | assumption | decide | exact k_lt (by assumption)) rfl ?_
    refine k_iconst C d_Ro_takeFirst_37 (v := 1) (by decide) ?_
    refine k_isub C d_Ro_takeFirst_38 ?_
    refine k_put C d_Ro_takeFirst_39 fp_Ro_15 (by first | assumption | decide | exact k_lt (by assumption)) rfl I2 (r_szm (I2 12 r 2) h1) (fun I3 => ?_)
    refine k_iload_n C d_Ro_takeFirst_42 rfl ?_
    exact k_ireturn C (E.to (by first | rfl | (simp only [g_rowX, g_rowT, h1, ↓reduceIte]) | contradiction | (simp [g_rowX, g_rowT, h1])) (by first | rfl | (simp only [g_rowX, g_rowT, h1, ↓reduceIte]) | contradiction | (simp [g_rowX, g_rowT, h1]))) d_Ro_takeFirst_43
  · refine k_iconst C d_Ro_takeFirst_7 (v := (-1)) (by decide) ?_
    exact k_ireturn C (E.to (by first | rfl | (simp only [g_rowX, g_rowT, h1, ↓reduceIte]) | contradiction | (simp [g_rowX, g_rowT, h1])) (by first | rfl | (simp only [g_rowX, g_rowT, h1, ↓reduceIte]) | contradiction | (simp [g_rowX, g_rowT, h1]))) d_Ro_takeFirst_8
