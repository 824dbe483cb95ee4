set_option maxHeartbeats 4000000 in
set_option maxRecDepth 100000 in
theorem c_Ke_isOutside (l : Launch) (G : kG) (K : kM) (v b : Int32) (I0 : g_Inv K) : k_Met l gS kT y_Ke_isOutside b_Ke_isOutside 2 (some .boolean) (k_rm 0) G [.int v, .int b] K (some (.int (g_out v b))) (K) := by
  refine k_intro (by decide +kernel) rfl (Nat.le_of_ble_eq_true rfl) ?_
  intro X C E
  refine k_iload_n C d_Ke_isOutside_0 rfl ?_
  refine k_if_lt C d_Ke_isOutside_1 (tgt := 9) (by decide) (fun h1 => ?_) (fun h1 => ?_)
  · refine k_iconst C d_Ke_isOutside_9 (v := 1) (by decide) ?_
    refine k_goto C d_Ke_isOutside_10 (tgt := 14) (by decide) ?_
    exact k_zreturn C (E.to (by first | rfl | (simp only [g_out, h1, ↓reduceIte, Nat.reduceAdd]; done) | (simp only [g_out, h1, ↓reduceIte, Nat.reduceAdd]; rfl) | contradiction | (simp [g_out, h1, ↓reduceIte, Nat.reduceAdd]; done) | (simp [g_out, h1, ↓reduceIte, Nat.reduceAdd]; rfl)) (by first | rfl | (simp only [g_out, h1, ↓reduceIte, Nat.reduceAdd]; done) | (simp only [g_out, h1, ↓reduceIte, Nat.reduceAdd]; rfl) | contradiction | (simp [g_out, h1, ↓reduceIte, Nat.reduceAdd]; done) | (simp [g_out, h1, ↓reduceIte, Nat.reduceAdd]; rfl))) d_Ke_isOutside_14 (by first | rfl | decide)
  · refine k_iload_n C d_Ke_isOutside_4 rfl ?_
    refine k_iload_n C d_Ke_isOutside_5 rfl ?_
    refine k_icmp_lt C d_Ke_isOutside_6 (tgt := 13) (by decide) (fun h2 => ?_) (fun h2 => ?_)
    · refine k_iconst C d_Ke_isOutside_13 (v := 0) (by decide) ?_
      exact k_zreturn C (E.to (by first | rfl | (simp only [g_out, h1, h2, ↓reduceIte, Nat.reduceAdd]; done) | (simp only [g_out, h1, h2, ↓reduceIte, Nat.reduceAdd]; rfl) | contradiction | (simp [g_out, h1, h2, ↓reduceIte, Nat.reduceAdd]; done) | (simp [g_out, h1, h2, ↓reduceIte, Nat.reduceAdd]; rfl)) (by first | rfl | (simp only [g_out, h1, h2, ↓reduceIte, Nat.reduceAdd]; done) | (simp only [g_out, h1, h2, ↓reduceIte, Nat.reduceAdd]; rfl) | contradiction | (simp [g_out, h1, h2, ↓reduceIte, Nat.reduceAdd]; done) | (simp [g_out, h1, h2, ↓reduceIte, Nat.reduceAdd]; rfl))) d_Ke_isOutside_14 (by first | rfl | decide)
    · refine k_iconst C d_Ke_isOutside_9 (v := 1) (by decide) ?_
      refine k_goto C d_Ke_isOutside_10 (tgt := 14) (by decide) ?_
      exact k_zreturn C (E.to (by first | rfl | (simp only [g_out, h1, h2, ↓reduceIte, Nat.reduceAdd]; done) | (simp only [g_out, h1, h2, ↓reduceIte, Nat.reduceAdd]; rfl) | contradiction | (simp [g_out, h1, h2, ↓reduceIte, Nat.reduceAdd]; done) | (simp [g_out, h1, h2, ↓reduceIte, Nat.reduceAdd]; rfl)) (by first | rfl | (simp only [g_out, h1, h2, ↓reduceIte, Nat.reduceAdd]; done) | (simp only [g_out, h1, h2, ↓reduceIte, Nat.reduceAdd]; rfl) | contradiction | (simp [g_out, h1, h2, ↓reduceIte, Nat.reduceAdd]; done) | (simp [g_out, h1, h2, ↓reduceIte, Nat.reduceAdd]; rfl))) d_Ke_isOutside_14 (by first | rfl | decide)
set_option maxHeartbeats 4000000 in
set_option maxRecDepth 100000 in
theorem c_Ma_floorMod (l : Launch) (G : kG) (K : kM) (x : Int32) (I0 : g_Inv K) : k_Met l gS kT y_Ma_floorMod b_Ma_floorMod 3 (some .int) (k_rm 0) G [.int x, .int 32] K (some (.int (g_fm x 32))) (K) := by
  refine k_intro (by decide +kernel) rfl (Nat.le_of_ble_eq_true rfl) ?_
  intro X C E
  refine k_iload_n C d_Ma_floorMod_0 rfl ?_
  refine k_iload_n C d_Ma_floorMod_1 rfl ?_
  refine k_irem C d_Ma_floorMod_2 (by first | decide | assumption) ?_
  refine k_istore_n C d_Ma_floorMod_3 (by decide) ?_
  refine k_iload_n C d_Ma_floorMod_4 rfl ?_
  refine k_iload_n C d_Ma_floorMod_5 rfl ?_
  refine k_ixor C d_Ma_floorMod_6 ?_
  refine k_if_ge C d_Ma_floorMod_7 (tgt := 18) (by decide) (fun h1 => ?_) (fun h1 => ?_)
  · refine k_iload_n C d_Ma_floorMod_18 rfl ?_
    exact k_ireturn C (E.to (by first | rfl | (simp only [g_fm, h1, ↓reduceIte, Nat.reduceAdd]; done) | (simp only [g_fm, h1, ↓reduceIte, Nat.reduceAdd]; rfl) | contradiction | (simp [g_fm, h1, ↓reduceIte, Nat.reduceAdd]; done) | (simp [g_fm, h1, ↓reduceIte, Nat.reduceAdd]; rfl)) (by first | rfl | (simp only [g_fm, h1, ↓reduceIte, Nat.reduceAdd]; done) | (simp only [g_fm, h1, ↓reduceIte, Nat.reduceAdd]; rfl) | contradiction | (simp [g_fm, h1, ↓reduceIte, Nat.reduceAdd]; done) | (simp [g_fm, h1, ↓reduceIte, Nat.reduceAdd]; rfl))) d_Ma_floorMod_19
  · refine k_iload_n C d_Ma_floorMod_10 rfl ?_
    refine k_if_eq C d_Ma_floorMod_11 (tgt := 18) (by decide) (fun h2 => ?_) (fun h2 => ?_)
    · refine k_iload_n C d_Ma_floorMod_18 rfl ?_
      exact k_ireturn C (E.to (by first | rfl | (simp only [g_fm, h1, h2, ↓reduceIte, Nat.reduceAdd]; done) | (simp only [g_fm, h1, h2, ↓reduceIte, Nat.reduceAdd]; rfl) | contradiction | (simp [g_fm, h1, h2, ↓reduceIte, Nat.reduceAdd]; done) | (simp [g_fm, h1, h2, ↓reduceIte, Nat.reduceAdd]; rfl)) (by first | rfl | (simp only [g_fm, h1, h2, ↓reduceIte, Nat.reduceAdd]; done) | (simp only [g_fm, h1, h2, ↓reduceIte, Nat.reduceAdd]; rfl) | contradiction | (simp [g_fm, h1, h2, ↓reduceIte, Nat.reduceAdd]; done) | (simp [g_fm, h1, h2, ↓reduceIte, Nat.reduceAdd]; rfl))) d_Ma_floorMod_19
    · refine k_iload_n C d_Ma_floorMod_14 rfl ?_
      refine k_iload_n C d_Ma_floorMod_15 rfl ?_
      refine k_iadd C d_Ma_floorMod_16 ?_
      exact k_ireturn C (E.to (by first | rfl | (simp only [g_fm, h1, h2, ↓reduceIte, Nat.reduceAdd]; done) | (simp only [g_fm, h1, h2, ↓reduceIte, Nat.reduceAdd]; rfl) | contradiction | (simp [g_fm, h1, h2, ↓reduceIte, Nat.reduceAdd]; done) | (simp [g_fm, h1, h2, ↓reduceIte, Nat.reduceAdd]; rfl)) (by first | rfl | (simp only [g_fm, h1, h2, ↓reduceIte, Nat.reduceAdd]; done) | (simp only [g_fm, h1, h2, ↓reduceIte, Nat.reduceAdd]; rfl) | contradiction | (simp [g_fm, h1, h2, ↓reduceIte, Nat.reduceAdd]; done) | (simp [g_fm, h1, h2, ↓reduceIte, Nat.reduceAdd]; rfl))) d_Ma_floorMod_17
set_option maxHeartbeats 4000000 in
set_option maxRecDepth 100000 in
theorem c_Ar_fill (l : Launch) (G : kG) (K : kM) (f i : Nat) (v : Int32) (I0 : g_Inv K) (hq : k_arr gS f 6 4 .int) (hi : i < 6) (hr : ∀ j, g_rng f i j v) : k_Met l gS kT y_Ar_fill b_Ar_fill 4 none (k_rm 0) G [.ref (G.2.2 f i), .int v] K none (g_fill K f i v 4) := by
  refine k_intro (by decide +kernel) rfl (Nat.le_of_ble_eq_true rfl) ?_
  intro X C E
  refine k_iconst C d_Ar_fill_0 (v := 0) (by decide) ?_
  refine k_istore_n C d_Ar_fill_1 (by decide) ?_
  refine k_aload_n C d_Ar_fill_2 rfl ?_
  refine k_alen C d_Ar_fill_3 hq (by first | assumption | decide | exact k_lt (by assumption)) (v := 4) (by decide) ?_
  refine k_istore_n C d_Ar_fill_4 (by decide) ?_
  refine k_iload_n C d_Ar_fill_5 rfl ?_
  refine k_iload_n C d_Ar_fill_6 rfl ?_
  refine k_icmp_ge C d_Ar_fill_7 (tgt := 20) (by decide) (fun h => absurd h (by decide)) (fun _ => ?_)
  refine k_aload_n C d_Ar_fill_10 rfl ?_
  refine k_iload_n C d_Ar_fill_11 rfl ?_
  refine k_iload_n C d_Ar_fill_12 rfl ?_
  refine k_iastore C d_Ar_fill_13 hq (by first | assumption | decide | exact k_lt (by assumption)) (k_in (by decide)) (j := 0) (by decide) I0 (hr _) (fun I1 => ?_)
  refine k_iinc C d_Ar_fill_14 rfl (v := 1) (by decide) (by decide) ?_
  refine k_goto C d_Ar_fill_17 (tgt := 5) (by decide) ?_
  refine k_iload_n C d_Ar_fill_5 rfl ?_
  refine k_iload_n C d_Ar_fill_6 rfl ?_
  refine k_icmp_ge C d_Ar_fill_7 (tgt := 20) (by decide) (fun h => absurd h (by decide)) (fun _ => ?_)
  refine k_aload_n C d_Ar_fill_10 rfl ?_
  refine k_iload_n C d_Ar_fill_11 rfl ?_
  refine k_iload_n C d_Ar_fill_12 rfl ?_
  refine k_iastore C d_Ar_fill_13 hq (by first | assumption | decide | exact k_lt (by assumption)) (k_in (by decide)) (j := 1) (by decide) I1 (hr _) (fun I2 => ?_)
  refine k_iinc C d_Ar_fill_14 rfl (v := 2) (by decide) (by decide) ?_
  refine k_goto C d_Ar_fill_17 (tgt := 5) (by decide) ?_
  refine k_iload_n C d_Ar_fill_5 rfl ?_
  refine k_iload_n C d_Ar_fill_6 rfl ?_
  refine k_icmp_ge C d_Ar_fill_7 (tgt := 20) (by decide) (fun h => absurd h (by decide)) (fun _ => ?_)
  refine k_aload_n C d_Ar_fill_10 rfl ?_
  refine k_iload_n C d_Ar_fill_11 rfl ?_
  refine k_iload_n C d_Ar_fill_12 rfl ?_
  refine k_iastore C d_Ar_fill_13 hq (by first | assumption | decide | exact k_lt (by assumption)) (k_in (by decide)) (j := 2) (by decide) I2 (hr _) (fun I3 => ?_)
  refine k_iinc C d_Ar_fill_14 rfl (v := 3) (by decide) (by decide) ?_
  refine k_goto C d_Ar_fill_17 (tgt := 5) (by decide) ?_
  refine k_iload_n C d_Ar_fill_5 rfl ?_
  refine k_iload_n C d_Ar_fill_6 rfl ?_
  refine k_icmp_ge C d_Ar_fill_7 (tgt := 20) (by decide) (fun h => absurd h (by decide)) (fun _ => ?_)
  refine k_aload_n C d_Ar_fill_10 rfl ?_
  refine k_iload_n C d_Ar_fill_11 rfl ?_
  refine k_iload_n C d_Ar_fill_12 rfl ?_
  refine k_iastore C d_Ar_fill_13 hq (by first | assumption | decide | exact k_lt (by assumption)) (k_in (by decide)) (j := 3) (by decide) I3 (hr _) (fun I4 => ?_)
  refine k_iinc C d_Ar_fill_14 rfl (v := 4) (by decide) (by decide) ?_
  refine k_goto C d_Ar_fill_17 (tgt := 5) (by decide) ?_
  refine k_iload_n C d_Ar_fill_5 rfl ?_
  refine k_iload_n C d_Ar_fill_6 rfl ?_
  refine k_icmp_ge C d_Ar_fill_7 (tgt := 20) (by decide) (fun _ => ?_) (fun h => absurd h (by decide))
  exact k_return C (E.to rfl (by first | rfl | (simp only [g_fill, ↓reduceIte, Nat.reduceAdd]; done) | (simp only [g_fill, ↓reduceIte, Nat.reduceAdd]; rfl) | contradiction | (simp [g_fill, ↓reduceIte, Nat.reduceAdd]; done) | (simp [g_fill, ↓reduceIte, Nat.reduceAdd]; rfl))) d_Ar_fill_20
set_option maxHeartbeats 4000000 in
set_option maxRecDepth 100000 in
theorem c_Gu_quotaLeft (l : Launch) (G : kG) (K : kM) (g : Nat) (I0 : g_Inv K) (hg : g < 6) : k_Met l gS kT y_Gu_quotaLeft b_Gu_quotaLeft 1 (some .int) (k_rm 0) G [.ref (G.2.2 7 g)] K (some (.int (g_qleft K g))) (K) := by
  refine k_intro (by decide +kernel) rfl (Nat.le_of_ble_eq_true rfl) ?_
  intro X C E
  refine k_aload_n C d_Gu_quotaLeft_0 rfl ?_
  refine k_get C d_Gu_quotaLeft_1 fg_Gu_38 (by first | assumption | decide | exact k_lt (by assumption)) rfl ?_
  refine k_aload_n C d_Gu_quotaLeft_4 rfl ?_
  refine k_get C d_Gu_quotaLeft_5 fg_Gu_41 (by first | assumption | decide | exact k_lt (by assumption)) rfl ?_
  refine k_isub C d_Gu_quotaLeft_8 ?_
  refine k_aload_n C d_Gu_quotaLeft_9 rfl ?_
  refine k_get C d_Gu_quotaLeft_10 fg_Gu_44 (by first | assumption | decide | exact k_lt (by assumption)) rfl ?_
  refine k_isub C d_Gu_quotaLeft_13 ?_
  exact k_ireturn C (E.to (by first | rfl | (simp only [g_qleft, ↓reduceIte, Nat.reduceAdd]; done) | (simp only [g_qleft, ↓reduceIte, Nat.reduceAdd]; rfl) | contradiction | (simp [g_qleft, ↓reduceIte, Nat.reduceAdd]; done) | (simp [g_qleft, ↓reduceIte, Nat.reduceAdd]; rfl)) (by first | rfl | (simp only [g_qleft, ↓reduceIte, Nat.reduceAdd]; done) | (simp only [g_qleft, ↓reduceIte, Nat.reduceAdd]; rfl) | contradiction | (simp [g_qleft, ↓reduceIte, Nat.reduceAdd]; done) | (simp [g_qleft, ↓reduceIte, Nat.reduceAdd]; rfl))) d_Gu_quotaLeft_14
set_option maxHeartbeats 4000000 in
set_option maxRecDepth 100000 in
theorem c_Ro_add (l : Launch) (G : kG) (K : kM) (r : Nat) (x : Int32) (I0 : g_Inv K) (hr : r < 14) (hx : vp_in x 6) : k_Met l gS kT y_Ro_add b_Ro_add 2 none (k_rm 0) G [.ref (G.2.2 12 r), .int x] K none (g_rowAdd K r x) := by
  refine k_intro (by decide +kernel) rfl (Nat.le_of_ble_eq_true rfl) ?_
  intro X C E
  refine k_aload_n C d_Ro_add_0 rfl ?_
  refine k_get C d_Ro_add_1 fg_Ro_15 (by first | assumption | decide | exact k_lt (by assumption)) rfl ?_
  refine k_bipush C d_Ro_add_4 (v := 6) (by decide) ?_
  refine k_icmp_ge C d_Ro_add_6 (tgt := 37) (by decide) (fun h1 => ?_) (fun h1 => ?_)
  · exact k_return C (E.to rfl (by first | rfl | (simp only [g_rowAdd, h1, ↓reduceIte, Nat.reduceAdd]; done) | (simp only [g_rowAdd, h1, ↓reduceIte, Nat.reduceAdd]; rfl) | contradiction | (simp [g_rowAdd, h1, ↓reduceIte, Nat.reduceAdd]; done) | (simp [g_rowAdd, h1, ↓reduceIte, Nat.reduceAdd]; rfl))) d_Ro_add_37
  · refine k_aload_n C d_Ro_add_9 rfl ?_
    refine k_getr C d_Ro_add_10 fg_Ro_9 (by first | assumption | decide | exact k_lt (by assumption)) rfl ?_
    refine k_aload_n C d_Ro_add_13 rfl ?_
    refine k_get C d_Ro_add_14 fg_Ro_19 (by first | assumption | decide | exact k_lt (by assumption)) rfl ?_
    refine k_aload_n C d_Ro_add_17 rfl ?_
    refine k_get C d_Ro_add_18 fg_Ro_15 (by first | assumption | decide | exact k_lt (by assumption)) rfl ?_
    refine k_iadd C d_Ro_add_21 ?_
    refine k_bipush C d_Ro_add_22 (v := 6) (by decide) ?_
    refine k_irem C d_Ro_add_24 (by first | decide | assumption) ?_
    refine k_iload_n C d_Ro_add_25 rfl ?_
    refine k_iastore C d_Ro_add_26 ar_13 (by first | assumption | decide | exact k_lt (by assumption)) (r_idx (I0 12 r 1) (I0 12 r 2)) rfl I0 (hx) (fun I2 => ?_)
    refine k_aload_n C d_Ro_add_27 rfl ?_
    refine k_dup C d_Ro_add_28 rfl ?_
    refine k_get C d_Ro_add_29 fg_Ro_15 (by first | assumption | decide | exact k_lt (by assumption)) rfl ?_
    refine k_iconst C d_Ro_add_32 (v := 1) (by decide) ?_
    refine k_iadd C d_Ro_add_33 ?_
    refine k_put C d_Ro_add_34 fp_Ro_15 (by first | assumption | decide | exact k_lt (by assumption)) rfl I2 (r_szp (I2 12 r 2) h1) (fun I3 => ?_)
    exact k_return C (E.to rfl (by first | rfl | (simp only [g_rowAdd, h1, ↓reduceIte, Nat.reduceAdd]; done) | (simp only [g_rowAdd, h1, ↓reduceIte, Nat.reduceAdd]; rfl) | contradiction | (simp [g_rowAdd, h1, ↓reduceIte, Nat.reduceAdd]; done) | (simp [g_rowAdd, h1, ↓reduceIte, Nat.reduceAdd]; rfl))) d_Ro_add_37
set_option maxHeartbeats 4000000 in
set_option maxRecDepth 100000 in
theorem c_Ro_takeFirst (l : Launch) (G : kG) (K : kM) (r : Nat) (I0 : g_Inv K) (hr : r < 14) : k_Met l gS kT y_Ro_takeFirst b_Ro_takeFirst 2 (some .int) (k_rm 0) G [.ref (G.2.2 12 r)] K (some (.int (g_rowX K r))) (g_rowT K r) := by
  refine k_intro (by decide +kernel) rfl (Nat.le_of_ble_eq_true rfl) ?_
  intro X C E
  refine k_aload_n C d_Ro_takeFirst_0 rfl ?_
  refine k_get C d_Ro_takeFirst_1 fg_Ro_15 (by first | assumption | decide | exact k_lt (by assumption)) rfl ?_
  refine k_if_ne C d_Ro_takeFirst_4 (tgt := 9) (by decide) (fun h1 => ?_) (fun h1 => ?_)
  · refine k_aload_n C d_Ro_takeFirst_9 rfl ?_
    refine k_getr C d_Ro_takeFirst_10 fg_Ro_9 (by first | assumption | decide | exact k_lt (by assumption)) rfl ?_
    refine k_aload_n C d_Ro_takeFirst_13 rfl ?_
    refine k_get C d_Ro_takeFirst_14 fg_Ro_19 (by first | assumption | decide | exact k_lt (by assumption)) rfl ?_
    refine k_iaload C d_Ro_takeFirst_17 ar_13 (by first | assumption | decide | exact k_lt (by assumption)) (I0 12 r 1) rfl ?_
    refine k_istore_n C d_Ro_takeFirst_18 (by decide) ?_
    refine k_aload_n C d_Ro_takeFirst_19 rfl ?_
    refine k_aload_n C d_Ro_takeFirst_20 rfl ?_
    refine k_get C d_Ro_takeFirst_21 fg_Ro_19 (by first | assumption | decide | exact k_lt (by assumption)) rfl ?_
    refine k_iconst C d_Ro_takeFirst_24 (v := 1) (by decide) ?_
    refine k_iadd C d_Ro_takeFirst_25 ?_
    refine k_bipush C d_Ro_takeFirst_26 (v := 6) (by decide) ?_
    refine k_irem C d_Ro_takeFirst_28 (by first | decide | assumption) ?_
    refine k_put C d_Ro_takeFirst_29 fp_Ro_19 (by first | assumption | decide | exact k_lt (by assumption)) rfl I0 (r_fi1 (I0 12 r 1)) (fun I2 => ?_)
    refine k_aload_n C d_Ro_takeFirst_32 rfl ?_
    refine k_dup C d_Ro_takeFirst_33 rfl ?_
    refine k_get C d_Ro_takeFirst_34 fg_Ro_15 (by first | assumption | decide | exact k_lt (by assumption)) rfl ?_
    refine k_iconst C d_Ro_takeFirst_37 (v := 1) (by decide) ?_
    refine k_isub C d_Ro_takeFirst_38 ?_
    refine k_put C d_Ro_takeFirst_39 fp_Ro_15 (by first | assumption | decide | exact k_lt (by assumption)) rfl I2 (r_szm (I2 12 r 2) h1) (fun I3 => ?_)
    refine k_iload_n C d_Ro_takeFirst_42 rfl ?_
    exact k_ireturn C (E.to (by first | rfl | (simp only [g_rowX, g_rowT, h1, ↓reduceIte, Nat.reduceAdd]; done) | (simp only [g_rowX, g_rowT, h1, ↓reduceIte, Nat.reduceAdd]; rfl) | contradiction | (simp [g_rowX, g_rowT, h1, ↓reduceIte, Nat.reduceAdd]; done) | (simp [g_rowX, g_rowT, h1, ↓reduceIte, Nat.reduceAdd]; rfl)) (by first | rfl | (simp only [g_rowX, g_rowT, h1, ↓reduceIte, Nat.reduceAdd]; done) | (simp only [g_rowX, g_rowT, h1, ↓reduceIte, Nat.reduceAdd]; rfl) | contradiction | (simp [g_rowX, g_rowT, h1, ↓reduceIte, Nat.reduceAdd]; done) | (simp [g_rowX, g_rowT, h1, ↓reduceIte, Nat.reduceAdd]; rfl))) d_Ro_takeFirst_43
  · refine k_iconst C d_Ro_takeFirst_7 (v := (-1)) (by decide) ?_
    exact k_ireturn C (E.to (by first | rfl | (simp only [g_rowX, g_rowT, h1, ↓reduceIte, Nat.reduceAdd]; done) | (simp only [g_rowX, g_rowT, h1, ↓reduceIte, Nat.reduceAdd]; rfl) | contradiction | (simp [g_rowX, g_rowT, h1, ↓reduceIte, Nat.reduceAdd]; done) | (simp [g_rowX, g_rowT, h1, ↓reduceIte, Nat.reduceAdd]; rfl)) (by first | rfl | (simp only [g_rowX, g_rowT, h1, ↓reduceIte, Nat.reduceAdd]; done) | (simp only [g_rowX, g_rowT, h1, ↓reduceIte, Nat.reduceAdd]; rfl) | contradiction | (simp [g_rowX, g_rowT, h1, ↓reduceIte, Nat.reduceAdd]; done) | (simp [g_rowX, g_rowT, h1, ↓reduceIte, Nat.reduceAdd]; rfl))) d_Ro_takeFirst_8
set_option maxHeartbeats 4000000 in
set_option maxRecDepth 100000 in
theorem c_Ch_isFull (l : Launch) (G : kG) (K : kM) (k : Nat) (I0 : g_Inv K) (hk : k < 4) : k_Met l gS kT y_Ch_isFull b_Ch_isFull 1 (some .boolean) (k_rm 0) G [.ref (G.2.2 17 k)] K (some (.int (g_full K k))) (K) := by
  refine k_intro (by decide +kernel) rfl (Nat.le_of_ble_eq_true rfl) ?_
  intro X C E
  refine k_aload_n C d_Ch_isFull_0 rfl ?_
  refine k_get C d_Ch_isFull_1 fg_Ch_25 (by first | assumption | decide | exact k_lt (by assumption)) rfl ?_
  refine k_iconst C d_Ch_isFull_4 (v := 2) (by decide) ?_
  refine k_icmp_lt C d_Ch_isFull_5 (tgt := 12) (by decide) (fun h1 => ?_) (fun h1 => ?_)
  · refine k_iconst C d_Ch_isFull_12 (v := 0) (by decide) ?_
    exact k_zreturn C (E.to (by first | rfl | (simp only [g_full, h1, ↓reduceIte, Nat.reduceAdd]; done) | (simp only [g_full, h1, ↓reduceIte, Nat.reduceAdd]; rfl) | contradiction | (simp [g_full, h1, ↓reduceIte, Nat.reduceAdd]; done) | (simp [g_full, h1, ↓reduceIte, Nat.reduceAdd]; rfl)) (by first | rfl | (simp only [g_full, h1, ↓reduceIte, Nat.reduceAdd]; done) | (simp only [g_full, h1, ↓reduceIte, Nat.reduceAdd]; rfl) | contradiction | (simp [g_full, h1, ↓reduceIte, Nat.reduceAdd]; done) | (simp [g_full, h1, ↓reduceIte, Nat.reduceAdd]; rfl))) d_Ch_isFull_13 (by first | rfl | decide)
  · refine k_iconst C d_Ch_isFull_8 (v := 1) (by decide) ?_
    refine k_goto C d_Ch_isFull_9 (tgt := 13) (by decide) ?_
    exact k_zreturn C (E.to (by first | rfl | (simp only [g_full, h1, ↓reduceIte, Nat.reduceAdd]; done) | (simp only [g_full, h1, ↓reduceIte, Nat.reduceAdd]; rfl) | contradiction | (simp [g_full, h1, ↓reduceIte, Nat.reduceAdd]; done) | (simp [g_full, h1, ↓reduceIte, Nat.reduceAdd]; rfl)) (by first | rfl | (simp only [g_full, h1, ↓reduceIte, Nat.reduceAdd]; done) | (simp only [g_full, h1, ↓reduceIte, Nat.reduceAdd]; rfl) | contradiction | (simp [g_full, h1, ↓reduceIte, Nat.reduceAdd]; done) | (simp [g_full, h1, ↓reduceIte, Nat.reduceAdd]; rfl))) d_Ch_isFull_13 (by first | rfl | decide)
set_option maxHeartbeats 4000000 in
set_option maxRecDepth 100000 in
theorem c_Ch_put (l : Launch) (G : kG) (K : kM) (k : Nat) (v : Int32) (I0 : g_Inv K) (hk : k < 4) : k_Met l gS kT y_Ch_put b_Ch_put 2 none (k_rm 1) G [.ref (G.2.2 17 k), .int v] K none (g_put K k v) := by
  refine k_intro (by decide +kernel) rfl (Nat.le_of_ble_eq_true rfl) ?_
  intro X C E
  refine k_aload_n C d_Ch_put_0 rfl ?_
  refine k_callVi C kg_all (c_Ch_isFull l G _ _ I0 (by first | assumption | decide | exact k_lt (by assumption))) cs_Ch_29 cv_Ch_isFull ob_17 (by first | assumption | decide | exact k_lt (by assumption)) rfl rfl (Nat.le_of_ble_eq_true rfl) ⟨rfl, rfl⟩ ⟨by decide, by decide⟩ ⟨Nat.zero_le _, Nat.zero_le _⟩ d_Ch_put_1 I0 (fun I1 => ?_)
  refine k_if_ne C d_Ch_put_4 (tgt := 27) (by decide) (fun h2 => ?_) (fun h2 => ?_)
  · exact k_return C (E.to rfl (by first | rfl | (simp only [g_put, h2, ↓reduceIte, Nat.reduceAdd]; done) | (simp only [g_put, h2, ↓reduceIte, Nat.reduceAdd]; rfl) | contradiction | (simp [g_put, h2, ↓reduceIte, Nat.reduceAdd]; done) | (simp [g_put, h2, ↓reduceIte, Nat.reduceAdd]; rfl))) d_Ch_put_27
  · refine k_aload_n C d_Ch_put_7 rfl ?_
    refine k_getr C d_Ch_put_8 fg_Ch_21 (by first | assumption | decide | exact k_lt (by assumption)) rfl ?_
    refine k_aload_n C d_Ch_put_11 rfl ?_
    refine k_get C d_Ch_put_12 fg_Ch_25 (by first | assumption | decide | exact k_lt (by assumption)) rfl ?_
    refine k_iload_n C d_Ch_put_15 rfl ?_
    refine k_iastore C d_Ch_put_16 ar_18 (by first | assumption | decide | exact k_lt (by assumption)) (r_ful I0 h2) rfl I1 (trivial) (fun I3 => ?_)
    refine k_aload_n C d_Ch_put_17 rfl ?_
    refine k_dup C d_Ch_put_18 rfl ?_
    refine k_get C d_Ch_put_19 fg_Ch_25 (by first | assumption | decide | exact k_lt (by assumption)) rfl ?_
    refine k_iconst C d_Ch_put_22 (v := 1) (by decide) ?_
    refine k_iadd C d_Ch_put_23 ?_
    refine k_put C d_Ch_put_24 fp_Ch_25 (by first | assumption | decide | exact k_lt (by assumption)) rfl I3 (r_szp2 (r_ful (K := K) I0 h2)) (fun I4 => ?_)
    exact k_return C (E.to rfl (by first | rfl | (simp only [g_put, h2, ↓reduceIte, Nat.reduceAdd]; done) | (simp only [g_put, h2, ↓reduceIte, Nat.reduceAdd]; rfl) | contradiction | (simp [g_put, h2, ↓reduceIte, Nat.reduceAdd]; done) | (simp [g_put, h2, ↓reduceIte, Nat.reduceAdd]; rfl))) d_Ch_put_27
set_option maxHeartbeats 4000000 in
set_option maxRecDepth 100000 in
theorem c_Ch_takeFirst (l : Launch) (G : kG) (K : kM) (k : Nat) (I0 : g_Inv K) (hk : k < 4) : k_Met l gS kT y_Ch_takeFirst b_Ch_takeFirst 2 (some .int) (k_rm 1) G [.ref (G.2.2 17 k)] K (some (.int (K 18 k 0))) (g_chT K k) := by
  refine k_intro (by decide +kernel) rfl (Nat.le_of_ble_eq_true rfl) ?_
  intro X C E
  refine k_aload_n C d_Ch_takeFirst_0 rfl ?_
  refine k_getr C d_Ch_takeFirst_1 fg_Ch_21 (by first | assumption | decide | exact k_lt (by assumption)) rfl ?_
  refine k_iconst C d_Ch_takeFirst_4 (v := 0) (by decide) ?_
  refine k_iaload C d_Ch_takeFirst_5 ar_18 (by first | assumption | decide | exact k_lt (by assumption)) (k_in (by decide)) (j := 0) (by decide) ?_
  refine k_istore_n C d_Ch_takeFirst_6 (by decide) ?_
  refine k_aload_n C d_Ch_takeFirst_7 rfl ?_
  refine k_get C d_Ch_takeFirst_8 fg_Ch_25 (by first | assumption | decide | exact k_lt (by assumption)) rfl ?_
  refine k_if_le C d_Ch_takeFirst_11 (tgt := 41) (by decide) (fun h1 => ?_) (fun h1 => ?_)
  · refine k_iload_n C d_Ch_takeFirst_41 rfl ?_
    exact k_ireturn C (E.to (by first | rfl | (simp only [g_chT, h1, ↓reduceIte, Nat.reduceAdd]; done) | (simp only [g_chT, h1, ↓reduceIte, Nat.reduceAdd]; rfl) | contradiction | (simp [g_chT, h1, ↓reduceIte, Nat.reduceAdd]; done) | (simp [g_chT, h1, ↓reduceIte, Nat.reduceAdd]; rfl)) (by first | rfl | (simp only [g_chT, h1, ↓reduceIte, Nat.reduceAdd]; done) | (simp only [g_chT, h1, ↓reduceIte, Nat.reduceAdd]; rfl) | contradiction | (simp [g_chT, h1, ↓reduceIte, Nat.reduceAdd]; done) | (simp [g_chT, h1, ↓reduceIte, Nat.reduceAdd]; rfl))) d_Ch_takeFirst_42
  · refine k_aload_n C d_Ch_takeFirst_14 rfl ?_
    refine k_dup C d_Ch_takeFirst_15 rfl ?_
    refine k_get C d_Ch_takeFirst_16 fg_Ch_25 (by first | assumption | decide | exact k_lt (by assumption)) rfl ?_
    refine k_iconst C d_Ch_takeFirst_19 (v := 1) (by decide) ?_
    refine k_isub C d_Ch_takeFirst_20 ?_
    refine k_put C d_Ch_takeFirst_21 fp_Ch_25 (by first | assumption | decide | exact k_lt (by assumption)) rfl I0 (r_szm2 (I0 17 k 3) h1) (fun I2 => ?_)
    refine k_aload_n C d_Ch_takeFirst_24 rfl ?_
    refine k_getr C d_Ch_takeFirst_25 fg_Ch_21 (by first | assumption | decide | exact k_lt (by assumption)) rfl ?_
    refine k_iconst C d_Ch_takeFirst_28 (v := 1) (by decide) ?_
    refine k_aload_n C d_Ch_takeFirst_29 rfl ?_
    refine k_getr C d_Ch_takeFirst_30 fg_Ch_21 (by first | assumption | decide | exact k_lt (by assumption)) rfl ?_
    refine k_iconst C d_Ch_takeFirst_33 (v := 0) (by decide) ?_
    refine k_aload_n C d_Ch_takeFirst_34 rfl ?_
    refine k_get C d_Ch_takeFirst_35 fg_Ch_25 (by first | assumption | decide | exact k_lt (by assumption)) rfl ?_
    refine k_copy C d_Ch_takeFirst_38 cp_Ch_33 ar_18 (by first | assumption | decide | exact k_lt (by assumption)) (by decide) (by decide) (r_cp3 I0 h1).1 (r_cp3 I0 h1).2.1 (r_cp3 I0 h1).2.2 (by decide) (Nat.le_of_ble_eq_true rfl) (k_Inv.row I2 (fun _ => trivial)) (fun I3 => ?_)
    refine k_iload_n C d_Ch_takeFirst_41 rfl ?_
    exact k_ireturn C (E.to (by first | rfl | (simp only [g_chT, h1, ↓reduceIte, Nat.reduceAdd]; done) | (simp only [g_chT, h1, ↓reduceIte, Nat.reduceAdd]; rfl) | contradiction | (simp [g_chT, h1, ↓reduceIte, Nat.reduceAdd]; done) | (simp [g_chT, h1, ↓reduceIte, Nat.reduceAdd]; rfl)) (by first | rfl | (simp only [g_chT, h1, ↓reduceIte, Nat.reduceAdd]; done) | (simp only [g_chT, h1, ↓reduceIte, Nat.reduceAdd]; rfl) | contradiction | (simp [g_chT, h1, ↓reduceIte, Nat.reduceAdd]; done) | (simp [g_chT, h1, ↓reduceIte, Nat.reduceAdd]; rfl))) d_Ch_takeFirst_42
set_option maxHeartbeats 4000000 in
set_option maxRecDepth 100000 in
theorem c_Fr_read (l : Launch) (G : kG) (K : kM) (f i : Int32) (I0 : g_Inv K) (hf : vp_in f 12) (hi : vp_in i 8) : k_Met l gS kT y_Fr_read b_Fr_read 3 (some .int) (k_rm 0) G [.ref (G.2.2 3 0), .int f, .int i] K (some (.int (g_read K f i))) (K) := by
  refine k_intro (by decide +kernel) rfl (Nat.le_of_ble_eq_true rfl) ?_
  intro X C E
  refine k_aload_n C d_Fr_read_0 rfl ?_
  refine k_getr C d_Fr_read_1 fg_Fr_9 (by first | assumption | decide | exact k_lt (by assumption)) rfl ?_
  refine k_iload_n C d_Fr_read_4 rfl ?_
  refine k_bipush C d_Fr_read_5 (v := 8) (by decide) ?_
  refine k_imul C d_Fr_read_7 ?_
  refine k_iload_n C d_Fr_read_8 rfl ?_
  refine k_iadd C d_Fr_read_9 ?_
  refine k_iaload C d_Fr_read_10 ar_4 (by first | assumption | decide | exact k_lt (by assumption)) (r_mem hf hi) rfl ?_
  exact k_ireturn C (E.to (by first | rfl | (simp only [g_read, ↓reduceIte, Nat.reduceAdd]; done) | (simp only [g_read, ↓reduceIte, Nat.reduceAdd]; rfl) | contradiction | (simp [g_read, ↓reduceIte, Nat.reduceAdd]; done) | (simp [g_read, ↓reduceIte, Nat.reduceAdd]; rfl)) (by first | rfl | (simp only [g_read, ↓reduceIte, Nat.reduceAdd]; done) | (simp only [g_read, ↓reduceIte, Nat.reduceAdd]; rfl) | contradiction | (simp [g_read, ↓reduceIte, Nat.reduceAdd]; done) | (simp [g_read, ↓reduceIte, Nat.reduceAdd]; rfl))) d_Fr_read_11
set_option maxHeartbeats 4000000 in
set_option maxRecDepth 100000 in
theorem c_Fr_write (l : Launch) (G : kG) (K : kM) (f i v : Int32) (I0 : g_Inv K) (hf : vp_in f 12) (hi : vp_in i 8) : k_Met l gS kT y_Fr_write b_Fr_write 4 none (k_rm 0) G [.ref (G.2.2 3 0), .int f, .int i, .int v] K none (g_store K f i v) := by
  refine k_intro (by decide +kernel) rfl (Nat.le_of_ble_eq_true rfl) ?_
  intro X C E
  refine k_aload_n C d_Fr_write_0 rfl ?_
  refine k_getr C d_Fr_write_1 fg_Fr_9 (by first | assumption | decide | exact k_lt (by assumption)) rfl ?_
  refine k_iload_n C d_Fr_write_4 rfl ?_
  refine k_bipush C d_Fr_write_5 (v := 8) (by decide) ?_
  refine k_imul C d_Fr_write_7 ?_
  refine k_iload_n C d_Fr_write_8 rfl ?_
  refine k_iadd C d_Fr_write_9 ?_
  refine k_iload_n C d_Fr_write_10 rfl ?_
  refine k_iastore C d_Fr_write_11 ar_4 (by first | assumption | decide | exact k_lt (by assumption)) (r_mem hf hi) rfl I0 (trivial) (fun I1 => ?_)
  exact k_return C (E.to rfl (by first | rfl | (simp only [g_store, ↓reduceIte, Nat.reduceAdd]; done) | (simp only [g_store, ↓reduceIte, Nat.reduceAdd]; rfl) | contradiction | (simp [g_store, ↓reduceIte, Nat.reduceAdd]; done) | (simp [g_store, ↓reduceIte, Nat.reduceAdd]; rfl))) d_Fr_write_12
set_option maxHeartbeats 4000000 in
set_option maxRecDepth 100000 in
theorem c_Fr_clear (l : Launch) (G : kG) (K : kM) (f : Int32) (I0 : g_Inv K) (hf : vp_in f 12) : k_Met l gS kT y_Fr_clear b_Fr_clear 3 none (k_rm 1) G [.ref (G.2.2 3 0), .int f] K none (g_clear K f 8) := by
  refine k_intro (by decide +kernel) rfl (Nat.le_of_ble_eq_true rfl) ?_
  intro X C E
  refine k_iconst C d_Fr_clear_0 (v := 0) (by decide) ?_
  refine k_istore_n C d_Fr_clear_1 (by decide) ?_
  refine k_iload_n C d_Fr_clear_2 rfl ?_
  refine k_bipush C d_Fr_clear_3 (v := 8) (by decide) ?_
  refine k_icmp_ge C d_Fr_clear_5 (tgt := 21) (by decide) (fun h => absurd h (by decide)) (fun _ => ?_)
  refine k_aload_n C d_Fr_clear_8 rfl ?_
  refine k_iload_n C d_Fr_clear_9 rfl ?_
  refine k_iload_n C d_Fr_clear_10 rfl ?_
  refine k_iconst C d_Fr_clear_11 (v := 0) (by decide) ?_
  refine k_callVv C kg_all (c_Fr_write l G _ _ _ _ I0 hf (k_in (by decide))) cs_Fr_27 cv_Fr_write ob_3 (by first | assumption | decide | exact k_lt (by assumption)) rfl rfl (Nat.le_of_ble_eq_true rfl) ⟨rfl, rfl⟩ ⟨by decide, by decide⟩ ⟨Nat.zero_le _, Nat.zero_le _⟩ d_Fr_clear_12 (iv_store I0) (fun I1 => ?_)
  refine k_iinc C d_Fr_clear_15 rfl (v := 1) (by decide) (by decide) ?_
  refine k_goto C d_Fr_clear_18 (tgt := 2) (by decide) ?_
  refine k_iload_n C d_Fr_clear_2 rfl ?_
  refine k_bipush C d_Fr_clear_3 (v := 8) (by decide) ?_
  refine k_icmp_ge C d_Fr_clear_5 (tgt := 21) (by decide) (fun h => absurd h (by decide)) (fun _ => ?_)
  refine k_aload_n C d_Fr_clear_8 rfl ?_
  refine k_iload_n C d_Fr_clear_9 rfl ?_
  refine k_iload_n C d_Fr_clear_10 rfl ?_
  refine k_iconst C d_Fr_clear_11 (v := 0) (by decide) ?_
  refine k_callVv C kg_all (c_Fr_write l G _ _ _ _ I1 hf (k_in (by decide))) cs_Fr_27 cv_Fr_write ob_3 (by first | assumption | decide | exact k_lt (by assumption)) rfl rfl (Nat.le_of_ble_eq_true rfl) ⟨rfl, rfl⟩ ⟨by decide, by decide⟩ ⟨Nat.zero_le _, Nat.zero_le _⟩ d_Fr_clear_12 (iv_store I1) (fun I2 => ?_)
  refine k_iinc C d_Fr_clear_15 rfl (v := 2) (by decide) (by decide) ?_
  refine k_goto C d_Fr_clear_18 (tgt := 2) (by decide) ?_
  refine k_iload_n C d_Fr_clear_2 rfl ?_
  refine k_bipush C d_Fr_clear_3 (v := 8) (by decide) ?_
  refine k_icmp_ge C d_Fr_clear_5 (tgt := 21) (by decide) (fun h => absurd h (by decide)) (fun _ => ?_)
  refine k_aload_n C d_Fr_clear_8 rfl ?_
  refine k_iload_n C d_Fr_clear_9 rfl ?_
  refine k_iload_n C d_Fr_clear_10 rfl ?_
  refine k_iconst C d_Fr_clear_11 (v := 0) (by decide) ?_
  refine k_callVv C kg_all (c_Fr_write l G _ _ _ _ I2 hf (k_in (by decide))) cs_Fr_27 cv_Fr_write ob_3 (by first | assumption | decide | exact k_lt (by assumption)) rfl rfl (Nat.le_of_ble_eq_true rfl) ⟨rfl, rfl⟩ ⟨by decide, by decide⟩ ⟨Nat.zero_le _, Nat.zero_le _⟩ d_Fr_clear_12 (iv_store I2) (fun I3 => ?_)
  refine k_iinc C d_Fr_clear_15 rfl (v := 3) (by decide) (by decide) ?_
  refine k_goto C d_Fr_clear_18 (tgt := 2) (by decide) ?_
  refine k_iload_n C d_Fr_clear_2 rfl ?_
  refine k_bipush C d_Fr_clear_3 (v := 8) (by decide) ?_
  refine k_icmp_ge C d_Fr_clear_5 (tgt := 21) (by decide) (fun h => absurd h (by decide)) (fun _ => ?_)
  refine k_aload_n C d_Fr_clear_8 rfl ?_
  refine k_iload_n C d_Fr_clear_9 rfl ?_
  refine k_iload_n C d_Fr_clear_10 rfl ?_
  refine k_iconst C d_Fr_clear_11 (v := 0) (by decide) ?_
  refine k_callVv C kg_all (c_Fr_write l G _ _ _ _ I3 hf (k_in (by decide))) cs_Fr_27 cv_Fr_write ob_3 (by first | assumption | decide | exact k_lt (by assumption)) rfl rfl (Nat.le_of_ble_eq_true rfl) ⟨rfl, rfl⟩ ⟨by decide, by decide⟩ ⟨Nat.zero_le _, Nat.zero_le _⟩ d_Fr_clear_12 (iv_store I3) (fun I4 => ?_)
  refine k_iinc C d_Fr_clear_15 rfl (v := 4) (by decide) (by decide) ?_
  refine k_goto C d_Fr_clear_18 (tgt := 2) (by decide) ?_
  refine k_iload_n C d_Fr_clear_2 rfl ?_
  refine k_bipush C d_Fr_clear_3 (v := 8) (by decide) ?_
  refine k_icmp_ge C d_Fr_clear_5 (tgt := 21) (by decide) (fun h => absurd h (by decide)) (fun _ => ?_)
  refine k_aload_n C d_Fr_clear_8 rfl ?_
  refine k_iload_n C d_Fr_clear_9 rfl ?_
  refine k_iload_n C d_Fr_clear_10 rfl ?_
  refine k_iconst C d_Fr_clear_11 (v := 0) (by decide) ?_
  refine k_callVv C kg_all (c_Fr_write l G _ _ _ _ I4 hf (k_in (by decide))) cs_Fr_27 cv_Fr_write ob_3 (by first | assumption | decide | exact k_lt (by assumption)) rfl rfl (Nat.le_of_ble_eq_true rfl) ⟨rfl, rfl⟩ ⟨by decide, by decide⟩ ⟨Nat.zero_le _, Nat.zero_le _⟩ d_Fr_clear_12 (iv_store I4) (fun I5 => ?_)
  refine k_iinc C d_Fr_clear_15 rfl (v := 5) (by decide) (by decide) ?_
  refine k_goto C d_Fr_clear_18 (tgt := 2) (by decide) ?_
  refine k_iload_n C d_Fr_clear_2 rfl ?_
  refine k_bipush C d_Fr_clear_3 (v := 8) (by decide) ?_
  refine k_icmp_ge C d_Fr_clear_5 (tgt := 21) (by decide) (fun h => absurd h (by decide)) (fun _ => ?_)
  refine k_aload_n C d_Fr_clear_8 rfl ?_
  refine k_iload_n C d_Fr_clear_9 rfl ?_
  refine k_iload_n C d_Fr_clear_10 rfl ?_
  refine k_iconst C d_Fr_clear_11 (v := 0) (by decide) ?_
  refine k_callVv C kg_all (c_Fr_write l G _ _ _ _ I5 hf (k_in (by decide))) cs_Fr_27 cv_Fr_write ob_3 (by first | assumption | decide | exact k_lt (by assumption)) rfl rfl (Nat.le_of_ble_eq_true rfl) ⟨rfl, rfl⟩ ⟨by decide, by decide⟩ ⟨Nat.zero_le _, Nat.zero_le _⟩ d_Fr_clear_12 (iv_store I5) (fun I6 => ?_)
  refine k_iinc C d_Fr_clear_15 rfl (v := 6) (by decide) (by decide) ?_
  refine k_goto C d_Fr_clear_18 (tgt := 2) (by decide) ?_
  refine k_iload_n C d_Fr_clear_2 rfl ?_
  refine k_bipush C d_Fr_clear_3 (v := 8) (by decide) ?_
  refine k_icmp_ge C d_Fr_clear_5 (tgt := 21) (by decide) (fun h => absurd h (by decide)) (fun _ => ?_)
  refine k_aload_n C d_Fr_clear_8 rfl ?_
  refine k_iload_n C d_Fr_clear_9 rfl ?_
  refine k_iload_n C d_Fr_clear_10 rfl ?_
  refine k_iconst C d_Fr_clear_11 (v := 0) (by decide) ?_
  refine k_callVv C kg_all (c_Fr_write l G _ _ _ _ I6 hf (k_in (by decide))) cs_Fr_27 cv_Fr_write ob_3 (by first | assumption | decide | exact k_lt (by assumption)) rfl rfl (Nat.le_of_ble_eq_true rfl) ⟨rfl, rfl⟩ ⟨by decide, by decide⟩ ⟨Nat.zero_le _, Nat.zero_le _⟩ d_Fr_clear_12 (iv_store I6) (fun I7 => ?_)
  refine k_iinc C d_Fr_clear_15 rfl (v := 7) (by decide) (by decide) ?_
  refine k_goto C d_Fr_clear_18 (tgt := 2) (by decide) ?_
  refine k_iload_n C d_Fr_clear_2 rfl ?_
  refine k_bipush C d_Fr_clear_3 (v := 8) (by decide) ?_
  refine k_icmp_ge C d_Fr_clear_5 (tgt := 21) (by decide) (fun h => absurd h (by decide)) (fun _ => ?_)
  refine k_aload_n C d_Fr_clear_8 rfl ?_
  refine k_iload_n C d_Fr_clear_9 rfl ?_
  refine k_iload_n C d_Fr_clear_10 rfl ?_
  refine k_iconst C d_Fr_clear_11 (v := 0) (by decide) ?_
  refine k_callVv C kg_all (c_Fr_write l G _ _ _ _ I7 hf (k_in (by decide))) cs_Fr_27 cv_Fr_write ob_3 (by first | assumption | decide | exact k_lt (by assumption)) rfl rfl (Nat.le_of_ble_eq_true rfl) ⟨rfl, rfl⟩ ⟨by decide, by decide⟩ ⟨Nat.zero_le _, Nat.zero_le _⟩ d_Fr_clear_12 (iv_store I7) (fun I8 => ?_)
  refine k_iinc C d_Fr_clear_15 rfl (v := 8) (by decide) (by decide) ?_
  refine k_goto C d_Fr_clear_18 (tgt := 2) (by decide) ?_
  refine k_iload_n C d_Fr_clear_2 rfl ?_
  refine k_bipush C d_Fr_clear_3 (v := 8) (by decide) ?_
  refine k_icmp_ge C d_Fr_clear_5 (tgt := 21) (by decide) (fun _ => ?_) (fun h => absurd h (by decide))
  exact k_return C (E.to rfl (by first | rfl | (simp only [g_clear, ↓reduceIte, Nat.reduceAdd]; done) | (simp only [g_clear, ↓reduceIte, Nat.reduceAdd]; rfl) | contradiction | (simp [g_clear, ↓reduceIte, Nat.reduceAdd]; done) | (simp [g_clear, ↓reduceIte, Nat.reduceAdd]; rfl))) d_Fr_clear_21
set_option maxHeartbeats 4000000 in
set_option maxRecDepth 100000 in
theorem c_Fr_giveBack (l : Launch) (G : kG) (K : kM) (f : Int32) (I0 : g_Inv K) (hf : vp_in f 12) : k_Met l gS kT y_Fr_giveBack b_Fr_giveBack 2 none (k_rm 0) G [.ref (G.2.2 3 0), .int f] K none (g_give K f) := by
  refine k_intro (by decide +kernel) rfl (Nat.le_of_ble_eq_true rfl) ?_
  intro X C E
  refine k_aload_n C d_Fr_giveBack_0 rfl ?_
  refine k_getr C d_Fr_giveBack_1 fg_Fr_15 (by first | assumption | decide | exact k_lt (by assumption)) rfl ?_
  refine k_iload_n C d_Fr_giveBack_4 rfl ?_
  refine k_iconst C d_Fr_giveBack_5 (v := 0) (by decide) ?_
  refine k_zastore C d_Fr_giveBack_6 ar_5 (by first | assumption | decide | exact k_lt (by assumption)) hf rfl (by first | rfl | decide) I0 (trivial) (fun I1 => ?_)
  refine k_aload_n C d_Fr_giveBack_7 rfl ?_
  refine k_dup C d_Fr_giveBack_8 rfl ?_
  refine k_get C d_Fr_giveBack_9 fg_Fr_19 (by first | assumption | decide | exact k_lt (by assumption)) rfl ?_
  refine k_iconst C d_Fr_giveBack_12 (v := 1) (by decide) ?_
  refine k_iadd C d_Fr_giveBack_13 ?_
  refine k_put C d_Fr_giveBack_14 fp_Fr_19 (by first | assumption | decide | exact k_lt (by assumption)) rfl I1 (trivial) (fun I2 => ?_)
  exact k_return C (E.to rfl (by first | rfl | (simp only [g_give, ↓reduceIte, Nat.reduceAdd]; done) | (simp only [g_give, ↓reduceIte, Nat.reduceAdd]; rfl) | contradiction | (simp [g_give, ↓reduceIte, Nat.reduceAdd]; done) | (simp [g_give, ↓reduceIte, Nat.reduceAdd]; rfl))) d_Fr_giveBack_17
set_option maxHeartbeats 4000000 in
set_option maxRecDepth 100000 in
theorem c_Fr_takeLeast (l : Launch) (G : kG) (K : kM)  (I0 : g_Inv K) : k_Met l gS kT y_Fr_takeLeast b_Fr_takeLeast 2 (some .int) (k_rm 2) G [.ref (G.2.2 3 0)] K (some (.int (g_frX K 12 0))) (g_frT K 12 0) := by
  refine k_intro (by decide +kernel) rfl (Nat.le_of_ble_eq_true rfl) ?_
  intro X C E
  refine k_iconst C d_Fr_takeLeast_0 (v := 0) (by decide) ?_
  refine k_istore_n C d_Fr_takeLeast_1 (by decide) ?_
  refine k_iload_n C d_Fr_takeLeast_2 rfl ?_
  refine k_bipush C d_Fr_takeLeast_3 (v := 12) (by decide) ?_
  refine k_icmp_ge C d_Fr_takeLeast_5 (tgt := 47) (by decide) (fun h => absurd h (by decide)) (fun _ => ?_)
  refine k_aload_n C d_Fr_takeLeast_8 rfl ?_
  refine k_getr C d_Fr_takeLeast_9 fg_Fr_15 (by first | assumption | decide | exact k_lt (by assumption)) rfl ?_
  refine k_iload_n C d_Fr_takeLeast_12 rfl ?_
  refine k_zaload C d_Fr_takeLeast_13 ar_5 (by first | assumption | decide | exact k_lt (by assumption)) (k_in (by decide)) (j := 0) (by decide) ?_
  refine k_if_ne C d_Fr_takeLeast_14 (tgt := 41) (by decide) (fun h1 => ?_) (fun h1 => ?_)
  · refine k_iinc C d_Fr_takeLeast_41 rfl (v := 1) (by decide) (by decide) ?_
    refine k_goto C d_Fr_takeLeast_44 (tgt := 2) (by decide) ?_
    refine k_iload_n C d_Fr_takeLeast_2 rfl ?_
    refine k_bipush C d_Fr_takeLeast_3 (v := 12) (by decide) ?_
    refine k_icmp_ge C d_Fr_takeLeast_5 (tgt := 47) (by decide) (fun h => absurd h (by decide)) (fun _ => ?_)
    refine k_aload_n C d_Fr_takeLeast_8 rfl ?_
    refine k_getr C d_Fr_takeLeast_9 fg_Fr_15 (by first | assumption | decide | exact k_lt (by assumption)) rfl ?_
    refine k_iload_n C d_Fr_takeLeast_12 rfl ?_
    refine k_zaload C d_Fr_takeLeast_13 ar_5 (by first | assumption | decide | exact k_lt (by assumption)) (k_in (by decide)) (j := 1) (by decide) ?_
    refine k_if_ne C d_Fr_takeLeast_14 (tgt := 41) (by decide) (fun h2 => ?_) (fun h2 => ?_)
    · refine k_iinc C d_Fr_takeLeast_41 rfl (v := 2) (by decide) (by decide) ?_
      refine k_goto C d_Fr_takeLeast_44 (tgt := 2) (by decide) ?_
      refine k_iload_n C d_Fr_takeLeast_2 rfl ?_
      refine k_bipush C d_Fr_takeLeast_3 (v := 12) (by decide) ?_
      refine k_icmp_ge C d_Fr_takeLeast_5 (tgt := 47) (by decide) (fun h => absurd h (by decide)) (fun _ => ?_)
      refine k_aload_n C d_Fr_takeLeast_8 rfl ?_
      refine k_getr C d_Fr_takeLeast_9 fg_Fr_15 (by first | assumption | decide | exact k_lt (by assumption)) rfl ?_
      refine k_iload_n C d_Fr_takeLeast_12 rfl ?_
      refine k_zaload C d_Fr_takeLeast_13 ar_5 (by first | assumption | decide | exact k_lt (by assumption)) (k_in (by decide)) (j := 2) (by decide) ?_
      refine k_if_ne C d_Fr_takeLeast_14 (tgt := 41) (by decide) (fun h3 => ?_) (fun h3 => ?_)
      · refine k_iinc C d_Fr_takeLeast_41 rfl (v := 3) (by decide) (by decide) ?_
        refine k_goto C d_Fr_takeLeast_44 (tgt := 2) (by decide) ?_
        refine k_iload_n C d_Fr_takeLeast_2 rfl ?_
        refine k_bipush C d_Fr_takeLeast_3 (v := 12) (by decide) ?_
        refine k_icmp_ge C d_Fr_takeLeast_5 (tgt := 47) (by decide) (fun h => absurd h (by decide)) (fun _ => ?_)
        refine k_aload_n C d_Fr_takeLeast_8 rfl ?_
        refine k_getr C d_Fr_takeLeast_9 fg_Fr_15 (by first | assumption | decide | exact k_lt (by assumption)) rfl ?_
        refine k_iload_n C d_Fr_takeLeast_12 rfl ?_
        refine k_zaload C d_Fr_takeLeast_13 ar_5 (by first | assumption | decide | exact k_lt (by assumption)) (k_in (by decide)) (j := 3) (by decide) ?_
        refine k_if_ne C d_Fr_takeLeast_14 (tgt := 41) (by decide) (fun h4 => ?_) (fun h4 => ?_)
        · refine k_iinc C d_Fr_takeLeast_41 rfl (v := 4) (by decide) (by decide) ?_
          refine k_goto C d_Fr_takeLeast_44 (tgt := 2) (by decide) ?_
          refine k_iload_n C d_Fr_takeLeast_2 rfl ?_
          refine k_bipush C d_Fr_takeLeast_3 (v := 12) (by decide) ?_
          refine k_icmp_ge C d_Fr_takeLeast_5 (tgt := 47) (by decide) (fun h => absurd h (by decide)) (fun _ => ?_)
          refine k_aload_n C d_Fr_takeLeast_8 rfl ?_
          refine k_getr C d_Fr_takeLeast_9 fg_Fr_15 (by first | assumption | decide | exact k_lt (by assumption)) rfl ?_
          refine k_iload_n C d_Fr_takeLeast_12 rfl ?_
          refine k_zaload C d_Fr_takeLeast_13 ar_5 (by first | assumption | decide | exact k_lt (by assumption)) (k_in (by decide)) (j := 4) (by decide) ?_
          refine k_if_ne C d_Fr_takeLeast_14 (tgt := 41) (by decide) (fun h5 => ?_) (fun h5 => ?_)
          · refine k_iinc C d_Fr_takeLeast_41 rfl (v := 5) (by decide) (by decide) ?_
            refine k_goto C d_Fr_takeLeast_44 (tgt := 2) (by decide) ?_
            refine k_iload_n C d_Fr_takeLeast_2 rfl ?_
            refine k_bipush C d_Fr_takeLeast_3 (v := 12) (by decide) ?_
            refine k_icmp_ge C d_Fr_takeLeast_5 (tgt := 47) (by decide) (fun h => absurd h (by decide)) (fun _ => ?_)
            refine k_aload_n C d_Fr_takeLeast_8 rfl ?_
            refine k_getr C d_Fr_takeLeast_9 fg_Fr_15 (by first | assumption | decide | exact k_lt (by assumption)) rfl ?_
            refine k_iload_n C d_Fr_takeLeast_12 rfl ?_
            refine k_zaload C d_Fr_takeLeast_13 ar_5 (by first | assumption | decide | exact k_lt (by assumption)) (k_in (by decide)) (j := 5) (by decide) ?_
            refine k_if_ne C d_Fr_takeLeast_14 (tgt := 41) (by decide) (fun h6 => ?_) (fun h6 => ?_)
            · refine k_iinc C d_Fr_takeLeast_41 rfl (v := 6) (by decide) (by decide) ?_
              refine k_goto C d_Fr_takeLeast_44 (tgt := 2) (by decide) ?_
              refine k_iload_n C d_Fr_takeLeast_2 rfl ?_
              refine k_bipush C d_Fr_takeLeast_3 (v := 12) (by decide) ?_
              refine k_icmp_ge C d_Fr_takeLeast_5 (tgt := 47) (by decide) (fun h => absurd h (by decide)) (fun _ => ?_)
              refine k_aload_n C d_Fr_takeLeast_8 rfl ?_
              refine k_getr C d_Fr_takeLeast_9 fg_Fr_15 (by first | assumption | decide | exact k_lt (by assumption)) rfl ?_
              refine k_iload_n C d_Fr_takeLeast_12 rfl ?_
              refine k_zaload C d_Fr_takeLeast_13 ar_5 (by first | assumption | decide | exact k_lt (by assumption)) (k_in (by decide)) (j := 6) (by decide) ?_
              refine k_if_ne C d_Fr_takeLeast_14 (tgt := 41) (by decide) (fun h7 => ?_) (fun h7 => ?_)
              · refine k_iinc C d_Fr_takeLeast_41 rfl (v := 7) (by decide) (by decide) ?_
                refine k_goto C d_Fr_takeLeast_44 (tgt := 2) (by decide) ?_
                refine k_iload_n C d_Fr_takeLeast_2 rfl ?_
                refine k_bipush C d_Fr_takeLeast_3 (v := 12) (by decide) ?_
                refine k_icmp_ge C d_Fr_takeLeast_5 (tgt := 47) (by decide) (fun h => absurd h (by decide)) (fun _ => ?_)
                refine k_aload_n C d_Fr_takeLeast_8 rfl ?_
                refine k_getr C d_Fr_takeLeast_9 fg_Fr_15 (by first | assumption | decide | exact k_lt (by assumption)) rfl ?_
                refine k_iload_n C d_Fr_takeLeast_12 rfl ?_
                refine k_zaload C d_Fr_takeLeast_13 ar_5 (by first | assumption | decide | exact k_lt (by assumption)) (k_in (by decide)) (j := 7) (by decide) ?_
                refine k_if_ne C d_Fr_takeLeast_14 (tgt := 41) (by decide) (fun h8 => ?_) (fun h8 => ?_)
                · refine k_iinc C d_Fr_takeLeast_41 rfl (v := 8) (by decide) (by decide) ?_
                  refine k_goto C d_Fr_takeLeast_44 (tgt := 2) (by decide) ?_
                  refine k_iload_n C d_Fr_takeLeast_2 rfl ?_
                  refine k_bipush C d_Fr_takeLeast_3 (v := 12) (by decide) ?_
                  refine k_icmp_ge C d_Fr_takeLeast_5 (tgt := 47) (by decide) (fun h => absurd h (by decide)) (fun _ => ?_)
                  refine k_aload_n C d_Fr_takeLeast_8 rfl ?_
                  refine k_getr C d_Fr_takeLeast_9 fg_Fr_15 (by first | assumption | decide | exact k_lt (by assumption)) rfl ?_
                  refine k_iload_n C d_Fr_takeLeast_12 rfl ?_
                  refine k_zaload C d_Fr_takeLeast_13 ar_5 (by first | assumption | decide | exact k_lt (by assumption)) (k_in (by decide)) (j := 8) (by decide) ?_
                  refine k_if_ne C d_Fr_takeLeast_14 (tgt := 41) (by decide) (fun h9 => ?_) (fun h9 => ?_)
                  · refine k_iinc C d_Fr_takeLeast_41 rfl (v := 9) (by decide) (by decide) ?_
                    refine k_goto C d_Fr_takeLeast_44 (tgt := 2) (by decide) ?_
                    refine k_iload_n C d_Fr_takeLeast_2 rfl ?_
                    refine k_bipush C d_Fr_takeLeast_3 (v := 12) (by decide) ?_
                    refine k_icmp_ge C d_Fr_takeLeast_5 (tgt := 47) (by decide) (fun h => absurd h (by decide)) (fun _ => ?_)
                    refine k_aload_n C d_Fr_takeLeast_8 rfl ?_
                    refine k_getr C d_Fr_takeLeast_9 fg_Fr_15 (by first | assumption | decide | exact k_lt (by assumption)) rfl ?_
                    refine k_iload_n C d_Fr_takeLeast_12 rfl ?_
                    refine k_zaload C d_Fr_takeLeast_13 ar_5 (by first | assumption | decide | exact k_lt (by assumption)) (k_in (by decide)) (j := 9) (by decide) ?_
                    refine k_if_ne C d_Fr_takeLeast_14 (tgt := 41) (by decide) (fun h10 => ?_) (fun h10 => ?_)
                    · refine k_iinc C d_Fr_takeLeast_41 rfl (v := 10) (by decide) (by decide) ?_
                      refine k_goto C d_Fr_takeLeast_44 (tgt := 2) (by decide) ?_
                      refine k_iload_n C d_Fr_takeLeast_2 rfl ?_
                      refine k_bipush C d_Fr_takeLeast_3 (v := 12) (by decide) ?_
                      refine k_icmp_ge C d_Fr_takeLeast_5 (tgt := 47) (by decide) (fun h => absurd h (by decide)) (fun _ => ?_)
                      refine k_aload_n C d_Fr_takeLeast_8 rfl ?_
                      refine k_getr C d_Fr_takeLeast_9 fg_Fr_15 (by first | assumption | decide | exact k_lt (by assumption)) rfl ?_
                      refine k_iload_n C d_Fr_takeLeast_12 rfl ?_
                      refine k_zaload C d_Fr_takeLeast_13 ar_5 (by first | assumption | decide | exact k_lt (by assumption)) (k_in (by decide)) (j := 10) (by decide) ?_
                      refine k_if_ne C d_Fr_takeLeast_14 (tgt := 41) (by decide) (fun h11 => ?_) (fun h11 => ?_)
                      · refine k_iinc C d_Fr_takeLeast_41 rfl (v := 11) (by decide) (by decide) ?_
                        refine k_goto C d_Fr_takeLeast_44 (tgt := 2) (by decide) ?_
                        refine k_iload_n C d_Fr_takeLeast_2 rfl ?_
                        refine k_bipush C d_Fr_takeLeast_3 (v := 12) (by decide) ?_
                        refine k_icmp_ge C d_Fr_takeLeast_5 (tgt := 47) (by decide) (fun h => absurd h (by decide)) (fun _ => ?_)
                        refine k_aload_n C d_Fr_takeLeast_8 rfl ?_
                        refine k_getr C d_Fr_takeLeast_9 fg_Fr_15 (by first | assumption | decide | exact k_lt (by assumption)) rfl ?_
                        refine k_iload_n C d_Fr_takeLeast_12 rfl ?_
                        refine k_zaload C d_Fr_takeLeast_13 ar_5 (by first | assumption | decide | exact k_lt (by assumption)) (k_in (by decide)) (j := 11) (by decide) ?_
                        refine k_if_ne C d_Fr_takeLeast_14 (tgt := 41) (by decide) (fun h12 => ?_) (fun h12 => ?_)
                        · refine k_iinc C d_Fr_takeLeast_41 rfl (v := 12) (by decide) (by decide) ?_
                          refine k_goto C d_Fr_takeLeast_44 (tgt := 2) (by decide) ?_
                          refine k_iload_n C d_Fr_takeLeast_2 rfl ?_
                          refine k_bipush C d_Fr_takeLeast_3 (v := 12) (by decide) ?_
                          refine k_icmp_ge C d_Fr_takeLeast_5 (tgt := 47) (by decide) (fun _ => ?_) (fun h => absurd h (by decide))
                          refine k_iconst C d_Fr_takeLeast_47 (v := (-1)) (by decide) ?_
                          exact k_ireturn C (E.to (by first | rfl | (simp only [g_frX, g_frT, h1, h2, h3, h4, h5, h6, h7, h8, h9, h10, h11, h12, ↓reduceIte, Nat.reduceAdd]; done) | (simp only [g_frX, g_frT, h1, h2, h3, h4, h5, h6, h7, h8, h9, h10, h11, h12, ↓reduceIte, Nat.reduceAdd]; rfl) | contradiction | (simp [g_frX, g_frT, h1, h2, h3, h4, h5, h6, h7, h8, h9, h10, h11, h12, ↓reduceIte, Nat.reduceAdd]; done) | (simp [g_frX, g_frT, h1, h2, h3, h4, h5, h6, h7, h8, h9, h10, h11, h12, ↓reduceIte, Nat.reduceAdd]; rfl)) (by first | rfl | (simp only [g_frX, g_frT, h1, h2, h3, h4, h5, h6, h7, h8, h9, h10, h11, h12, ↓reduceIte, Nat.reduceAdd]; done) | (simp only [g_frX, g_frT, h1, h2, h3, h4, h5, h6, h7, h8, h9, h10, h11, h12, ↓reduceIte, Nat.reduceAdd]; rfl) | contradiction | (simp [g_frX, g_frT, h1, h2, h3, h4, h5, h6, h7, h8, h9, h10, h11, h12, ↓reduceIte, Nat.reduceAdd]; done) | (simp [g_frX, g_frT, h1, h2, h3, h4, h5, h6, h7, h8, h9, h10, h11, h12, ↓reduceIte, Nat.reduceAdd]; rfl))) d_Fr_takeLeast_48
                        · refine k_aload_n C d_Fr_takeLeast_17 rfl ?_
                          refine k_getr C d_Fr_takeLeast_18 fg_Fr_15 (by first | assumption | decide | exact k_lt (by assumption)) rfl ?_
                          refine k_iload_n C d_Fr_takeLeast_21 rfl ?_
                          refine k_iconst C d_Fr_takeLeast_22 (v := 1) (by decide) ?_
                          refine k_zastore C d_Fr_takeLeast_23 ar_5 (by first | assumption | decide | exact k_lt (by assumption)) (k_in (by decide)) (j := 11) (by decide) (by first | rfl | decide) I0 (trivial) (fun I13 => ?_)
                          refine k_aload_n C d_Fr_takeLeast_24 rfl ?_
                          refine k_dup C d_Fr_takeLeast_25 rfl ?_
                          refine k_get C d_Fr_takeLeast_26 fg_Fr_19 (by first | assumption | decide | exact k_lt (by assumption)) rfl ?_
                          refine k_iconst C d_Fr_takeLeast_29 (v := 1) (by decide) ?_
                          refine k_isub C d_Fr_takeLeast_30 ?_
                          refine k_put C d_Fr_takeLeast_31 fp_Fr_19 (by first | assumption | decide | exact k_lt (by assumption)) rfl I13 (trivial) (fun I14 => ?_)
                          refine k_aload_n C d_Fr_takeLeast_34 rfl ?_
                          refine k_iload_n C d_Fr_takeLeast_35 rfl ?_
                          refine k_callVv C kg_all (c_Fr_clear l G _ _ I14 (k_in (by decide))) cs_Fr_23 cv_Fr_clear ob_3 (by first | assumption | decide | exact k_lt (by assumption)) rfl rfl (Nat.le_of_ble_eq_true rfl) ⟨rfl, rfl⟩ ⟨by decide, by decide⟩ ⟨Nat.zero_le _, Nat.zero_le _⟩ d_Fr_takeLeast_36 (iv_clear I14 8) (fun I15 => ?_)
                          refine k_iload_n C d_Fr_takeLeast_39 rfl ?_
                          exact k_ireturn C (E.to (by first | rfl | (simp only [g_frX, g_frT, h1, h2, h3, h4, h5, h6, h7, h8, h9, h10, h11, h12, ↓reduceIte, Nat.reduceAdd]; done) | (simp only [g_frX, g_frT, h1, h2, h3, h4, h5, h6, h7, h8, h9, h10, h11, h12, ↓reduceIte, Nat.reduceAdd]; rfl) | contradiction | (simp [g_frX, g_frT, h1, h2, h3, h4, h5, h6, h7, h8, h9, h10, h11, h12, ↓reduceIte, Nat.reduceAdd]; done) | (simp [g_frX, g_frT, h1, h2, h3, h4, h5, h6, h7, h8, h9, h10, h11, h12, ↓reduceIte, Nat.reduceAdd]; rfl)) (by first | rfl | (simp only [g_frX, g_frT, h1, h2, h3, h4, h5, h6, h7, h8, h9, h10, h11, h12, ↓reduceIte, Nat.reduceAdd]; done) | (simp only [g_frX, g_frT, h1, h2, h3, h4, h5, h6, h7, h8, h9, h10, h11, h12, ↓reduceIte, Nat.reduceAdd]; rfl) | contradiction | (simp [g_frX, g_frT, h1, h2, h3, h4, h5, h6, h7, h8, h9, h10, h11, h12, ↓reduceIte, Nat.reduceAdd]; done) | (simp [g_frX, g_frT, h1, h2, h3, h4, h5, h6, h7, h8, h9, h10, h11, h12, ↓reduceIte, Nat.reduceAdd]; rfl))) d_Fr_takeLeast_40
                      · refine k_aload_n C d_Fr_takeLeast_17 rfl ?_
                        refine k_getr C d_Fr_takeLeast_18 fg_Fr_15 (by first | assumption | decide | exact k_lt (by assumption)) rfl ?_
                        refine k_iload_n C d_Fr_takeLeast_21 rfl ?_
                        refine k_iconst C d_Fr_takeLeast_22 (v := 1) (by decide) ?_
                        refine k_zastore C d_Fr_takeLeast_23 ar_5 (by first | assumption | decide | exact k_lt (by assumption)) (k_in (by decide)) (j := 10) (by decide) (by first | rfl | decide) I0 (trivial) (fun I16 => ?_)
                        refine k_aload_n C d_Fr_takeLeast_24 rfl ?_
                        refine k_dup C d_Fr_takeLeast_25 rfl ?_
                        refine k_get C d_Fr_takeLeast_26 fg_Fr_19 (by first | assumption | decide | exact k_lt (by assumption)) rfl ?_
                        refine k_iconst C d_Fr_takeLeast_29 (v := 1) (by decide) ?_
                        refine k_isub C d_Fr_takeLeast_30 ?_
                        refine k_put C d_Fr_takeLeast_31 fp_Fr_19 (by first | assumption | decide | exact k_lt (by assumption)) rfl I16 (trivial) (fun I17 => ?_)
                        refine k_aload_n C d_Fr_takeLeast_34 rfl ?_
                        refine k_iload_n C d_Fr_takeLeast_35 rfl ?_
                        refine k_callVv C kg_all (c_Fr_clear l G _ _ I17 (k_in (by decide))) cs_Fr_23 cv_Fr_clear ob_3 (by first | assumption | decide | exact k_lt (by assumption)) rfl rfl (Nat.le_of_ble_eq_true rfl) ⟨rfl, rfl⟩ ⟨by decide, by decide⟩ ⟨Nat.zero_le _, Nat.zero_le _⟩ d_Fr_takeLeast_36 (iv_clear I17 8) (fun I18 => ?_)
                        refine k_iload_n C d_Fr_takeLeast_39 rfl ?_
                        exact k_ireturn C (E.to (by first | rfl | (simp only [g_frX, g_frT, h1, h2, h3, h4, h5, h6, h7, h8, h9, h10, h11, ↓reduceIte, Nat.reduceAdd]; done) | (simp only [g_frX, g_frT, h1, h2, h3, h4, h5, h6, h7, h8, h9, h10, h11, ↓reduceIte, Nat.reduceAdd]; rfl) | contradiction | (simp [g_frX, g_frT, h1, h2, h3, h4, h5, h6, h7, h8, h9, h10, h11, ↓reduceIte, Nat.reduceAdd]; done) | (simp [g_frX, g_frT, h1, h2, h3, h4, h5, h6, h7, h8, h9, h10, h11, ↓reduceIte, Nat.reduceAdd]; rfl)) (by first | rfl | (simp only [g_frX, g_frT, h1, h2, h3, h4, h5, h6, h7, h8, h9, h10, h11, ↓reduceIte, Nat.reduceAdd]; done) | (simp only [g_frX, g_frT, h1, h2, h3, h4, h5, h6, h7, h8, h9, h10, h11, ↓reduceIte, Nat.reduceAdd]; rfl) | contradiction | (simp [g_frX, g_frT, h1, h2, h3, h4, h5, h6, h7, h8, h9, h10, h11, ↓reduceIte, Nat.reduceAdd]; done) | (simp [g_frX, g_frT, h1, h2, h3, h4, h5, h6, h7, h8, h9, h10, h11, ↓reduceIte, Nat.reduceAdd]; rfl))) d_Fr_takeLeast_40
                    · refine k_aload_n C d_Fr_takeLeast_17 rfl ?_
                      refine k_getr C d_Fr_takeLeast_18 fg_Fr_15 (by first | assumption | decide | exact k_lt (by assumption)) rfl ?_
                      refine k_iload_n C d_Fr_takeLeast_21 rfl ?_
                      refine k_iconst C d_Fr_takeLeast_22 (v := 1) (by decide) ?_
                      refine k_zastore C d_Fr_takeLeast_23 ar_5 (by first | assumption | decide | exact k_lt (by assumption)) (k_in (by decide)) (j := 9) (by decide) (by first | rfl | decide) I0 (trivial) (fun I19 => ?_)
                      refine k_aload_n C d_Fr_takeLeast_24 rfl ?_
                      refine k_dup C d_Fr_takeLeast_25 rfl ?_
                      refine k_get C d_Fr_takeLeast_26 fg_Fr_19 (by first | assumption | decide | exact k_lt (by assumption)) rfl ?_
                      refine k_iconst C d_Fr_takeLeast_29 (v := 1) (by decide) ?_
                      refine k_isub C d_Fr_takeLeast_30 ?_
                      refine k_put C d_Fr_takeLeast_31 fp_Fr_19 (by first | assumption | decide | exact k_lt (by assumption)) rfl I19 (trivial) (fun I20 => ?_)
                      refine k_aload_n C d_Fr_takeLeast_34 rfl ?_
                      refine k_iload_n C d_Fr_takeLeast_35 rfl ?_
                      refine k_callVv C kg_all (c_Fr_clear l G _ _ I20 (k_in (by decide))) cs_Fr_23 cv_Fr_clear ob_3 (by first | assumption | decide | exact k_lt (by assumption)) rfl rfl (Nat.le_of_ble_eq_true rfl) ⟨rfl, rfl⟩ ⟨by decide, by decide⟩ ⟨Nat.zero_le _, Nat.zero_le _⟩ d_Fr_takeLeast_36 (iv_clear I20 8) (fun I21 => ?_)
                      refine k_iload_n C d_Fr_takeLeast_39 rfl ?_
                      exact k_ireturn C (E.to (by first | rfl | (simp only [g_frX, g_frT, h1, h2, h3, h4, h5, h6, h7, h8, h9, h10, ↓reduceIte, Nat.reduceAdd]; done) | (simp only [g_frX, g_frT, h1, h2, h3, h4, h5, h6, h7, h8, h9, h10, ↓reduceIte, Nat.reduceAdd]; rfl) | contradiction | (simp [g_frX, g_frT, h1, h2, h3, h4, h5, h6, h7, h8, h9, h10, ↓reduceIte, Nat.reduceAdd]; done) | (simp [g_frX, g_frT, h1, h2, h3, h4, h5, h6, h7, h8, h9, h10, ↓reduceIte, Nat.reduceAdd]; rfl)) (by first | rfl | (simp only [g_frX, g_frT, h1, h2, h3, h4, h5, h6, h7, h8, h9, h10, ↓reduceIte, Nat.reduceAdd]; done) | (simp only [g_frX, g_frT, h1, h2, h3, h4, h5, h6, h7, h8, h9, h10, ↓reduceIte, Nat.reduceAdd]; rfl) | contradiction | (simp [g_frX, g_frT, h1, h2, h3, h4, h5, h6, h7, h8, h9, h10, ↓reduceIte, Nat.reduceAdd]; done) | (simp [g_frX, g_frT, h1, h2, h3, h4, h5, h6, h7, h8, h9, h10, ↓reduceIte, Nat.reduceAdd]; rfl))) d_Fr_takeLeast_40
                  · refine k_aload_n C d_Fr_takeLeast_17 rfl ?_
                    refine k_getr C d_Fr_takeLeast_18 fg_Fr_15 (by first | assumption | decide | exact k_lt (by assumption)) rfl ?_
                    refine k_iload_n C d_Fr_takeLeast_21 rfl ?_
                    refine k_iconst C d_Fr_takeLeast_22 (v := 1) (by decide) ?_
                    refine k_zastore C d_Fr_takeLeast_23 ar_5 (by first | assumption | decide | exact k_lt (by assumption)) (k_in (by decide)) (j := 8) (by decide) (by first | rfl | decide) I0 (trivial) (fun I22 => ?_)
                    refine k_aload_n C d_Fr_takeLeast_24 rfl ?_
                    refine k_dup C d_Fr_takeLeast_25 rfl ?_
                    refine k_get C d_Fr_takeLeast_26 fg_Fr_19 (by first | assumption | decide | exact k_lt (by assumption)) rfl ?_
                    refine k_iconst C d_Fr_takeLeast_29 (v := 1) (by decide) ?_
                    refine k_isub C d_Fr_takeLeast_30 ?_
                    refine k_put C d_Fr_takeLeast_31 fp_Fr_19 (by first | assumption | decide | exact k_lt (by assumption)) rfl I22 (trivial) (fun I23 => ?_)
                    refine k_aload_n C d_Fr_takeLeast_34 rfl ?_
                    refine k_iload_n C d_Fr_takeLeast_35 rfl ?_
                    refine k_callVv C kg_all (c_Fr_clear l G _ _ I23 (k_in (by decide))) cs_Fr_23 cv_Fr_clear ob_3 (by first | assumption | decide | exact k_lt (by assumption)) rfl rfl (Nat.le_of_ble_eq_true rfl) ⟨rfl, rfl⟩ ⟨by decide, by decide⟩ ⟨Nat.zero_le _, Nat.zero_le _⟩ d_Fr_takeLeast_36 (iv_clear I23 8) (fun I24 => ?_)
                    refine k_iload_n C d_Fr_takeLeast_39 rfl ?_
                    exact k_ireturn C (E.to (by first | rfl | (simp only [g_frX, g_frT, h1, h2, h3, h4, h5, h6, h7, h8, h9, ↓reduceIte, Nat.reduceAdd]; done) | (simp only [g_frX, g_frT, h1, h2, h3, h4, h5, h6, h7, h8, h9, ↓reduceIte, Nat.reduceAdd]; rfl) | contradiction | (simp [g_frX, g_frT, h1, h2, h3, h4, h5, h6, h7, h8, h9, ↓reduceIte, Nat.reduceAdd]; done) | (simp [g_frX, g_frT, h1, h2, h3, h4, h5, h6, h7, h8, h9, ↓reduceIte, Nat.reduceAdd]; rfl)) (by first | rfl | (simp only [g_frX, g_frT, h1, h2, h3, h4, h5, h6, h7, h8, h9, ↓reduceIte, Nat.reduceAdd]; done) | (simp only [g_frX, g_frT, h1, h2, h3, h4, h5, h6, h7, h8, h9, ↓reduceIte, Nat.reduceAdd]; rfl) | contradiction | (simp [g_frX, g_frT, h1, h2, h3, h4, h5, h6, h7, h8, h9, ↓reduceIte, Nat.reduceAdd]; done) | (simp [g_frX, g_frT, h1, h2, h3, h4, h5, h6, h7, h8, h9, ↓reduceIte, Nat.reduceAdd]; rfl))) d_Fr_takeLeast_40
                · refine k_aload_n C d_Fr_takeLeast_17 rfl ?_
                  refine k_getr C d_Fr_takeLeast_18 fg_Fr_15 (by first | assumption | decide | exact k_lt (by assumption)) rfl ?_
                  refine k_iload_n C d_Fr_takeLeast_21 rfl ?_
                  refine k_iconst C d_Fr_takeLeast_22 (v := 1) (by decide) ?_
                  refine k_zastore C d_Fr_takeLeast_23 ar_5 (by first | assumption | decide | exact k_lt (by assumption)) (k_in (by decide)) (j := 7) (by decide) (by first | rfl | decide) I0 (trivial) (fun I25 => ?_)
                  refine k_aload_n C d_Fr_takeLeast_24 rfl ?_
                  refine k_dup C d_Fr_takeLeast_25 rfl ?_
                  refine k_get C d_Fr_takeLeast_26 fg_Fr_19 (by first | assumption | decide | exact k_lt (by assumption)) rfl ?_
                  refine k_iconst C d_Fr_takeLeast_29 (v := 1) (by decide) ?_
                  refine k_isub C d_Fr_takeLeast_30 ?_
                  refine k_put C d_Fr_takeLeast_31 fp_Fr_19 (by first | assumption | decide | exact k_lt (by assumption)) rfl I25 (trivial) (fun I26 => ?_)
                  refine k_aload_n C d_Fr_takeLeast_34 rfl ?_
                  refine k_iload_n C d_Fr_takeLeast_35 rfl ?_
                  refine k_callVv C kg_all (c_Fr_clear l G _ _ I26 (k_in (by decide))) cs_Fr_23 cv_Fr_clear ob_3 (by first | assumption | decide | exact k_lt (by assumption)) rfl rfl (Nat.le_of_ble_eq_true rfl) ⟨rfl, rfl⟩ ⟨by decide, by decide⟩ ⟨Nat.zero_le _, Nat.zero_le _⟩ d_Fr_takeLeast_36 (iv_clear I26 8) (fun I27 => ?_)
                  refine k_iload_n C d_Fr_takeLeast_39 rfl ?_
                  exact k_ireturn C (E.to (by first | rfl | (simp only [g_frX, g_frT, h1, h2, h3, h4, h5, h6, h7, h8, ↓reduceIte, Nat.reduceAdd]; done) | (simp only [g_frX, g_frT, h1, h2, h3, h4, h5, h6, h7, h8, ↓reduceIte, Nat.reduceAdd]; rfl) | contradiction | (simp [g_frX, g_frT, h1, h2, h3, h4, h5, h6, h7, h8, ↓reduceIte, Nat.reduceAdd]; done) | (simp [g_frX, g_frT, h1, h2, h3, h4, h5, h6, h7, h8, ↓reduceIte, Nat.reduceAdd]; rfl)) (by first | rfl | (simp only [g_frX, g_frT, h1, h2, h3, h4, h5, h6, h7, h8, ↓reduceIte, Nat.reduceAdd]; done) | (simp only [g_frX, g_frT, h1, h2, h3, h4, h5, h6, h7, h8, ↓reduceIte, Nat.reduceAdd]; rfl) | contradiction | (simp [g_frX, g_frT, h1, h2, h3, h4, h5, h6, h7, h8, ↓reduceIte, Nat.reduceAdd]; done) | (simp [g_frX, g_frT, h1, h2, h3, h4, h5, h6, h7, h8, ↓reduceIte, Nat.reduceAdd]; rfl))) d_Fr_takeLeast_40
              · refine k_aload_n C d_Fr_takeLeast_17 rfl ?_
                refine k_getr C d_Fr_takeLeast_18 fg_Fr_15 (by first | assumption | decide | exact k_lt (by assumption)) rfl ?_
                refine k_iload_n C d_Fr_takeLeast_21 rfl ?_
                refine k_iconst C d_Fr_takeLeast_22 (v := 1) (by decide) ?_
                refine k_zastore C d_Fr_takeLeast_23 ar_5 (by first | assumption | decide | exact k_lt (by assumption)) (k_in (by decide)) (j := 6) (by decide) (by first | rfl | decide) I0 (trivial) (fun I28 => ?_)
                refine k_aload_n C d_Fr_takeLeast_24 rfl ?_
                refine k_dup C d_Fr_takeLeast_25 rfl ?_
                refine k_get C d_Fr_takeLeast_26 fg_Fr_19 (by first | assumption | decide | exact k_lt (by assumption)) rfl ?_
                refine k_iconst C d_Fr_takeLeast_29 (v := 1) (by decide) ?_
                refine k_isub C d_Fr_takeLeast_30 ?_
                refine k_put C d_Fr_takeLeast_31 fp_Fr_19 (by first | assumption | decide | exact k_lt (by assumption)) rfl I28 (trivial) (fun I29 => ?_)
                refine k_aload_n C d_Fr_takeLeast_34 rfl ?_
                refine k_iload_n C d_Fr_takeLeast_35 rfl ?_
                refine k_callVv C kg_all (c_Fr_clear l G _ _ I29 (k_in (by decide))) cs_Fr_23 cv_Fr_clear ob_3 (by first | assumption | decide | exact k_lt (by assumption)) rfl rfl (Nat.le_of_ble_eq_true rfl) ⟨rfl, rfl⟩ ⟨by decide, by decide⟩ ⟨Nat.zero_le _, Nat.zero_le _⟩ d_Fr_takeLeast_36 (iv_clear I29 8) (fun I30 => ?_)
                refine k_iload_n C d_Fr_takeLeast_39 rfl ?_
                exact k_ireturn C (E.to (by first | rfl | (simp only [g_frX, g_frT, h1, h2, h3, h4, h5, h6, h7, ↓reduceIte, Nat.reduceAdd]; done) | (simp only [g_frX, g_frT, h1, h2, h3, h4, h5, h6, h7, ↓reduceIte, Nat.reduceAdd]; rfl) | contradiction | (simp [g_frX, g_frT, h1, h2, h3, h4, h5, h6, h7, ↓reduceIte, Nat.reduceAdd]; done) | (simp [g_frX, g_frT, h1, h2, h3, h4, h5, h6, h7, ↓reduceIte, Nat.reduceAdd]; rfl)) (by first | rfl | (simp only [g_frX, g_frT, h1, h2, h3, h4, h5, h6, h7, ↓reduceIte, Nat.reduceAdd]; done) | (simp only [g_frX, g_frT, h1, h2, h3, h4, h5, h6, h7, ↓reduceIte, Nat.reduceAdd]; rfl) | contradiction | (simp [g_frX, g_frT, h1, h2, h3, h4, h5, h6, h7, ↓reduceIte, Nat.reduceAdd]; done) | (simp [g_frX, g_frT, h1, h2, h3, h4, h5, h6, h7, ↓reduceIte, Nat.reduceAdd]; rfl))) d_Fr_takeLeast_40
            · refine k_aload_n C d_Fr_takeLeast_17 rfl ?_
              refine k_getr C d_Fr_takeLeast_18 fg_Fr_15 (by first | assumption | decide | exact k_lt (by assumption)) rfl ?_
              refine k_iload_n C d_Fr_takeLeast_21 rfl ?_
              refine k_iconst C d_Fr_takeLeast_22 (v := 1) (by decide) ?_
              refine k_zastore C d_Fr_takeLeast_23 ar_5 (by first | assumption | decide | exact k_lt (by assumption)) (k_in (by decide)) (j := 5) (by decide) (by first | rfl | decide) I0 (trivial) (fun I31 => ?_)
              refine k_aload_n C d_Fr_takeLeast_24 rfl ?_
              refine k_dup C d_Fr_takeLeast_25 rfl ?_
              refine k_get C d_Fr_takeLeast_26 fg_Fr_19 (by first | assumption | decide | exact k_lt (by assumption)) rfl ?_
              refine k_iconst C d_Fr_takeLeast_29 (v := 1) (by decide) ?_
              refine k_isub C d_Fr_takeLeast_30 ?_
              refine k_put C d_Fr_takeLeast_31 fp_Fr_19 (by first | assumption | decide | exact k_lt (by assumption)) rfl I31 (trivial) (fun I32 => ?_)
              refine k_aload_n C d_Fr_takeLeast_34 rfl ?_
              refine k_iload_n C d_Fr_takeLeast_35 rfl ?_
              refine k_callVv C kg_all (c_Fr_clear l G _ _ I32 (k_in (by decide))) cs_Fr_23 cv_Fr_clear ob_3 (by first | assumption | decide | exact k_lt (by assumption)) rfl rfl (Nat.le_of_ble_eq_true rfl) ⟨rfl, rfl⟩ ⟨by decide, by decide⟩ ⟨Nat.zero_le _, Nat.zero_le _⟩ d_Fr_takeLeast_36 (iv_clear I32 8) (fun I33 => ?_)
              refine k_iload_n C d_Fr_takeLeast_39 rfl ?_
              exact k_ireturn C (E.to (by first | rfl | (simp only [g_frX, g_frT, h1, h2, h3, h4, h5, h6, ↓reduceIte, Nat.reduceAdd]; done) | (simp only [g_frX, g_frT, h1, h2, h3, h4, h5, h6, ↓reduceIte, Nat.reduceAdd]; rfl) | contradiction | (simp [g_frX, g_frT, h1, h2, h3, h4, h5, h6, ↓reduceIte, Nat.reduceAdd]; done) | (simp [g_frX, g_frT, h1, h2, h3, h4, h5, h6, ↓reduceIte, Nat.reduceAdd]; rfl)) (by first | rfl | (simp only [g_frX, g_frT, h1, h2, h3, h4, h5, h6, ↓reduceIte, Nat.reduceAdd]; done) | (simp only [g_frX, g_frT, h1, h2, h3, h4, h5, h6, ↓reduceIte, Nat.reduceAdd]; rfl) | contradiction | (simp [g_frX, g_frT, h1, h2, h3, h4, h5, h6, ↓reduceIte, Nat.reduceAdd]; done) | (simp [g_frX, g_frT, h1, h2, h3, h4, h5, h6, ↓reduceIte, Nat.reduceAdd]; rfl))) d_Fr_takeLeast_40
          · refine k_aload_n C d_Fr_takeLeast_17 rfl ?_
            refine k_getr C d_Fr_takeLeast_18 fg_Fr_15 (by first | assumption | decide | exact k_lt (by assumption)) rfl ?_
            refine k_iload_n C d_Fr_takeLeast_21 rfl ?_
            refine k_iconst C d_Fr_takeLeast_22 (v := 1) (by decide) ?_
            refine k_zastore C d_Fr_takeLeast_23 ar_5 (by first | assumption | decide | exact k_lt (by assumption)) (k_in (by decide)) (j := 4) (by decide) (by first | rfl | decide) I0 (trivial) (fun I34 => ?_)
            refine k_aload_n C d_Fr_takeLeast_24 rfl ?_
            refine k_dup C d_Fr_takeLeast_25 rfl ?_
            refine k_get C d_Fr_takeLeast_26 fg_Fr_19 (by first | assumption | decide | exact k_lt (by assumption)) rfl ?_
            refine k_iconst C d_Fr_takeLeast_29 (v := 1) (by decide) ?_
            refine k_isub C d_Fr_takeLeast_30 ?_
            refine k_put C d_Fr_takeLeast_31 fp_Fr_19 (by first | assumption | decide | exact k_lt (by assumption)) rfl I34 (trivial) (fun I35 => ?_)
            refine k_aload_n C d_Fr_takeLeast_34 rfl ?_
            refine k_iload_n C d_Fr_takeLeast_35 rfl ?_
            refine k_callVv C kg_all (c_Fr_clear l G _ _ I35 (k_in (by decide))) cs_Fr_23 cv_Fr_clear ob_3 (by first | assumption | decide | exact k_lt (by assumption)) rfl rfl (Nat.le_of_ble_eq_true rfl) ⟨rfl, rfl⟩ ⟨by decide, by decide⟩ ⟨Nat.zero_le _, Nat.zero_le _⟩ d_Fr_takeLeast_36 (iv_clear I35 8) (fun I36 => ?_)
            refine k_iload_n C d_Fr_takeLeast_39 rfl ?_
            exact k_ireturn C (E.to (by first | rfl | (simp only [g_frX, g_frT, h1, h2, h3, h4, h5, ↓reduceIte, Nat.reduceAdd]; done) | (simp only [g_frX, g_frT, h1, h2, h3, h4, h5, ↓reduceIte, Nat.reduceAdd]; rfl) | contradiction | (simp [g_frX, g_frT, h1, h2, h3, h4, h5, ↓reduceIte, Nat.reduceAdd]; done) | (simp [g_frX, g_frT, h1, h2, h3, h4, h5, ↓reduceIte, Nat.reduceAdd]; rfl)) (by first | rfl | (simp only [g_frX, g_frT, h1, h2, h3, h4, h5, ↓reduceIte, Nat.reduceAdd]; done) | (simp only [g_frX, g_frT, h1, h2, h3, h4, h5, ↓reduceIte, Nat.reduceAdd]; rfl) | contradiction | (simp [g_frX, g_frT, h1, h2, h3, h4, h5, ↓reduceIte, Nat.reduceAdd]; done) | (simp [g_frX, g_frT, h1, h2, h3, h4, h5, ↓reduceIte, Nat.reduceAdd]; rfl))) d_Fr_takeLeast_40
        · refine k_aload_n C d_Fr_takeLeast_17 rfl ?_
          refine k_getr C d_Fr_takeLeast_18 fg_Fr_15 (by first | assumption | decide | exact k_lt (by assumption)) rfl ?_
          refine k_iload_n C d_Fr_takeLeast_21 rfl ?_
          refine k_iconst C d_Fr_takeLeast_22 (v := 1) (by decide) ?_
          refine k_zastore C d_Fr_takeLeast_23 ar_5 (by first | assumption | decide | exact k_lt (by assumption)) (k_in (by decide)) (j := 3) (by decide) (by first | rfl | decide) I0 (trivial) (fun I37 => ?_)
          refine k_aload_n C d_Fr_takeLeast_24 rfl ?_
          refine k_dup C d_Fr_takeLeast_25 rfl ?_
          refine k_get C d_Fr_takeLeast_26 fg_Fr_19 (by first | assumption | decide | exact k_lt (by assumption)) rfl ?_
          refine k_iconst C d_Fr_takeLeast_29 (v := 1) (by decide) ?_
          refine k_isub C d_Fr_takeLeast_30 ?_
          refine k_put C d_Fr_takeLeast_31 fp_Fr_19 (by first | assumption | decide | exact k_lt (by assumption)) rfl I37 (trivial) (fun I38 => ?_)
          refine k_aload_n C d_Fr_takeLeast_34 rfl ?_
          refine k_iload_n C d_Fr_takeLeast_35 rfl ?_
          refine k_callVv C kg_all (c_Fr_clear l G _ _ I38 (k_in (by decide))) cs_Fr_23 cv_Fr_clear ob_3 (by first | assumption | decide | exact k_lt (by assumption)) rfl rfl (Nat.le_of_ble_eq_true rfl) ⟨rfl, rfl⟩ ⟨by decide, by decide⟩ ⟨Nat.zero_le _, Nat.zero_le _⟩ d_Fr_takeLeast_36 (iv_clear I38 8) (fun I39 => ?_)
          refine k_iload_n C d_Fr_takeLeast_39 rfl ?_
          exact k_ireturn C (E.to (by first | rfl | (simp only [g_frX, g_frT, h1, h2, h3, h4, ↓reduceIte, Nat.reduceAdd]; done) | (simp only [g_frX, g_frT, h1, h2, h3, h4, ↓reduceIte, Nat.reduceAdd]; rfl) | contradiction | (simp [g_frX, g_frT, h1, h2, h3, h4, ↓reduceIte, Nat.reduceAdd]; done) | (simp [g_frX, g_frT, h1, h2, h3, h4, ↓reduceIte, Nat.reduceAdd]; rfl)) (by first | rfl | (simp only [g_frX, g_frT, h1, h2, h3, h4, ↓reduceIte, Nat.reduceAdd]; done) | (simp only [g_frX, g_frT, h1, h2, h3, h4, ↓reduceIte, Nat.reduceAdd]; rfl) | contradiction | (simp [g_frX, g_frT, h1, h2, h3, h4, ↓reduceIte, Nat.reduceAdd]; done) | (simp [g_frX, g_frT, h1, h2, h3, h4, ↓reduceIte, Nat.reduceAdd]; rfl))) d_Fr_takeLeast_40
      · refine k_aload_n C d_Fr_takeLeast_17 rfl ?_
        refine k_getr C d_Fr_takeLeast_18 fg_Fr_15 (by first | assumption | decide | exact k_lt (by assumption)) rfl ?_
        refine k_iload_n C d_Fr_takeLeast_21 rfl ?_
        refine k_iconst C d_Fr_takeLeast_22 (v := 1) (by decide) ?_
        refine k_zastore C d_Fr_takeLeast_23 ar_5 (by first | assumption | decide | exact k_lt (by assumption)) (k_in (by decide)) (j := 2) (by decide) (by first | rfl | decide) I0 (trivial) (fun I40 => ?_)
        refine k_aload_n C d_Fr_takeLeast_24 rfl ?_
        refine k_dup C d_Fr_takeLeast_25 rfl ?_
        refine k_get C d_Fr_takeLeast_26 fg_Fr_19 (by first | assumption | decide | exact k_lt (by assumption)) rfl ?_
        refine k_iconst C d_Fr_takeLeast_29 (v := 1) (by decide) ?_
        refine k_isub C d_Fr_takeLeast_30 ?_
        refine k_put C d_Fr_takeLeast_31 fp_Fr_19 (by first | assumption | decide | exact k_lt (by assumption)) rfl I40 (trivial) (fun I41 => ?_)
        refine k_aload_n C d_Fr_takeLeast_34 rfl ?_
        refine k_iload_n C d_Fr_takeLeast_35 rfl ?_
        refine k_callVv C kg_all (c_Fr_clear l G _ _ I41 (k_in (by decide))) cs_Fr_23 cv_Fr_clear ob_3 (by first | assumption | decide | exact k_lt (by assumption)) rfl rfl (Nat.le_of_ble_eq_true rfl) ⟨rfl, rfl⟩ ⟨by decide, by decide⟩ ⟨Nat.zero_le _, Nat.zero_le _⟩ d_Fr_takeLeast_36 (iv_clear I41 8) (fun I42 => ?_)
        refine k_iload_n C d_Fr_takeLeast_39 rfl ?_
        exact k_ireturn C (E.to (by first | rfl | (simp only [g_frX, g_frT, h1, h2, h3, ↓reduceIte, Nat.reduceAdd]; done) | (simp only [g_frX, g_frT, h1, h2, h3, ↓reduceIte, Nat.reduceAdd]; rfl) | contradiction | (simp [g_frX, g_frT, h1, h2, h3, ↓reduceIte, Nat.reduceAdd]; done) | (simp [g_frX, g_frT, h1, h2, h3, ↓reduceIte, Nat.reduceAdd]; rfl)) (by first | rfl | (simp only [g_frX, g_frT, h1, h2, h3, ↓reduceIte, Nat.reduceAdd]; done) | (simp only [g_frX, g_frT, h1, h2, h3, ↓reduceIte, Nat.reduceAdd]; rfl) | contradiction | (simp [g_frX, g_frT, h1, h2, h3, ↓reduceIte, Nat.reduceAdd]; done) | (simp [g_frX, g_frT, h1, h2, h3, ↓reduceIte, Nat.reduceAdd]; rfl))) d_Fr_takeLeast_40
    · refine k_aload_n C d_Fr_takeLeast_17 rfl ?_
      refine k_getr C d_Fr_takeLeast_18 fg_Fr_15 (by first | assumption | decide | exact k_lt (by assumption)) rfl ?_
      refine k_iload_n C d_Fr_takeLeast_21 rfl ?_
      refine k_iconst C d_Fr_takeLeast_22 (v := 1) (by decide) ?_
      refine k_zastore C d_Fr_takeLeast_23 ar_5 (by first | assumption | decide | exact k_lt (by assumption)) (k_in (by decide)) (j := 1) (by decide) (by first | rfl | decide) I0 (trivial) (fun I43 => ?_)
      refine k_aload_n C d_Fr_takeLeast_24 rfl ?_
      refine k_dup C d_Fr_takeLeast_25 rfl ?_
      refine k_get C d_Fr_takeLeast_26 fg_Fr_19 (by first | assumption | decide | exact k_lt (by assumption)) rfl ?_
      refine k_iconst C d_Fr_takeLeast_29 (v := 1) (by decide) ?_
      refine k_isub C d_Fr_takeLeast_30 ?_
      refine k_put C d_Fr_takeLeast_31 fp_Fr_19 (by first | assumption | decide | exact k_lt (by assumption)) rfl I43 (trivial) (fun I44 => ?_)
      refine k_aload_n C d_Fr_takeLeast_34 rfl ?_
      refine k_iload_n C d_Fr_takeLeast_35 rfl ?_
      refine k_callVv C kg_all (c_Fr_clear l G _ _ I44 (k_in (by decide))) cs_Fr_23 cv_Fr_clear ob_3 (by first | assumption | decide | exact k_lt (by assumption)) rfl rfl (Nat.le_of_ble_eq_true rfl) ⟨rfl, rfl⟩ ⟨by decide, by decide⟩ ⟨Nat.zero_le _, Nat.zero_le _⟩ d_Fr_takeLeast_36 (iv_clear I44 8) (fun I45 => ?_)
      refine k_iload_n C d_Fr_takeLeast_39 rfl ?_
      exact k_ireturn C (E.to (by first | rfl | (simp only [g_frX, g_frT, h1, h2, ↓reduceIte, Nat.reduceAdd]; done) | (simp only [g_frX, g_frT, h1, h2, ↓reduceIte, Nat.reduceAdd]; rfl) | contradiction | (simp [g_frX, g_frT, h1, h2, ↓reduceIte, Nat.reduceAdd]; done) | (simp [g_frX, g_frT, h1, h2, ↓reduceIte, Nat.reduceAdd]; rfl)) (by first | rfl | (simp only [g_frX, g_frT, h1, h2, ↓reduceIte, Nat.reduceAdd]; done) | (simp only [g_frX, g_frT, h1, h2, ↓reduceIte, Nat.reduceAdd]; rfl) | contradiction | (simp [g_frX, g_frT, h1, h2, ↓reduceIte, Nat.reduceAdd]; done) | (simp [g_frX, g_frT, h1, h2, ↓reduceIte, Nat.reduceAdd]; rfl))) d_Fr_takeLeast_40
  · refine k_aload_n C d_Fr_takeLeast_17 rfl ?_
    refine k_getr C d_Fr_takeLeast_18 fg_Fr_15 (by first | assumption | decide | exact k_lt (by assumption)) rfl ?_
    refine k_iload_n C d_Fr_takeLeast_21 rfl ?_
    refine k_iconst C d_Fr_takeLeast_22 (v := 1) (by decide) ?_
    refine k_zastore C d_Fr_takeLeast_23 ar_5 (by first | assumption | decide | exact k_lt (by assumption)) (k_in (by decide)) (j := 0) (by decide) (by first | rfl | decide) I0 (trivial) (fun I46 => ?_)
    refine k_aload_n C d_Fr_takeLeast_24 rfl ?_
    refine k_dup C d_Fr_takeLeast_25 rfl ?_
    refine k_get C d_Fr_takeLeast_26 fg_Fr_19 (by first | assumption | decide | exact k_lt (by assumption)) rfl ?_
    refine k_iconst C d_Fr_takeLeast_29 (v := 1) (by decide) ?_
    refine k_isub C d_Fr_takeLeast_30 ?_
    refine k_put C d_Fr_takeLeast_31 fp_Fr_19 (by first | assumption | decide | exact k_lt (by assumption)) rfl I46 (trivial) (fun I47 => ?_)
    refine k_aload_n C d_Fr_takeLeast_34 rfl ?_
    refine k_iload_n C d_Fr_takeLeast_35 rfl ?_
    refine k_callVv C kg_all (c_Fr_clear l G _ _ I47 (k_in (by decide))) cs_Fr_23 cv_Fr_clear ob_3 (by first | assumption | decide | exact k_lt (by assumption)) rfl rfl (Nat.le_of_ble_eq_true rfl) ⟨rfl, rfl⟩ ⟨by decide, by decide⟩ ⟨Nat.zero_le _, Nat.zero_le _⟩ d_Fr_takeLeast_36 (iv_clear I47 8) (fun I48 => ?_)
    refine k_iload_n C d_Fr_takeLeast_39 rfl ?_
    exact k_ireturn C (E.to (by first | rfl | (simp only [g_frX, g_frT, h1, ↓reduceIte, Nat.reduceAdd]; done) | (simp only [g_frX, g_frT, h1, ↓reduceIte, Nat.reduceAdd]; rfl) | contradiction | (simp [g_frX, g_frT, h1, ↓reduceIte, Nat.reduceAdd]; done) | (simp [g_frX, g_frT, h1, ↓reduceIte, Nat.reduceAdd]; rfl)) (by first | rfl | (simp only [g_frX, g_frT, h1, ↓reduceIte, Nat.reduceAdd]; done) | (simp only [g_frX, g_frT, h1, ↓reduceIte, Nat.reduceAdd]; rfl) | contradiction | (simp [g_frX, g_frT, h1, ↓reduceIte, Nat.reduceAdd]; done) | (simp [g_frX, g_frT, h1, ↓reduceIte, Nat.reduceAdd]; rfl))) d_Fr_takeLeast_40
set_option maxHeartbeats 4000000 in
set_option maxRecDepth 100000 in
theorem c_Pg_part (l : Launch) (G : kG) (K : kM) (p w : Int32) (I0 : g_Inv K) (hp : vp_in p 32) (hw : vp_in w 4) : k_Met l gS kT y_Pg_part b_Pg_part 3 (some .int) (k_rm 0) G [.ref (G.2.2 1 0), .int p, .int w] K (some (.int (g_part K p w))) (K) := by
  refine k_intro (by decide +kernel) rfl (Nat.le_of_ble_eq_true rfl) ?_
  intro X C E
  refine k_aload_n C d_Pg_part_0 rfl ?_
  refine k_getr C d_Pg_part_1 fg_Pg_11 (by first | assumption | decide | exact k_lt (by assumption)) rfl ?_
  refine k_iload_n C d_Pg_part_4 rfl ?_
  refine k_iconst C d_Pg_part_5 (v := 4) (by decide) ?_
  refine k_imul C d_Pg_part_6 ?_
  refine k_iload_n C d_Pg_part_7 rfl ?_
  refine k_iadd C d_Pg_part_8 ?_
  refine k_iaload C d_Pg_part_9 ar_2 (by first | assumption | decide | exact k_lt (by assumption)) (r_part hp hw) rfl ?_
  exact k_ireturn C (E.to (by first | rfl | (simp only [g_part, ↓reduceIte, Nat.reduceAdd]; done) | (simp only [g_part, ↓reduceIte, Nat.reduceAdd]; rfl) | contradiction | (simp [g_part, ↓reduceIte, Nat.reduceAdd]; done) | (simp [g_part, ↓reduceIte, Nat.reduceAdd]; rfl)) (by first | rfl | (simp only [g_part, ↓reduceIte, Nat.reduceAdd]; done) | (simp only [g_part, ↓reduceIte, Nat.reduceAdd]; rfl) | contradiction | (simp [g_part, ↓reduceIte, Nat.reduceAdd]; done) | (simp [g_part, ↓reduceIte, Nat.reduceAdd]; rfl))) d_Pg_part_10
set_option maxHeartbeats 4000000 in
set_option maxRecDepth 100000 in
theorem c_Pg_write (l : Launch) (G : kG) (K : kM) (i op a b n : Int32) (I0 : g_Inv K) (hi : vp_in i 32) (ho : vp_in op 22) (ha : vp_in a 4) (hb : vp_in b 4) : k_Met l gS kT y_Pg_write b_Pg_write 7 none (k_rm 0) G [.ref (G.2.2 1 0), .int i, .int op, .int a, .int b, .int n] K none (g_write K i op a b n) := by
  refine k_intro (by decide +kernel) rfl (Nat.le_of_ble_eq_true rfl) ?_
  intro X C E
  refine k_iload_n C d_Pg_write_0 rfl ?_
  refine k_iconst C d_Pg_write_1 (v := 4) (by decide) ?_
  refine k_imul C d_Pg_write_2 ?_
  refine k_istore C d_Pg_write_3 (by decide) ?_
  refine k_aload_n C d_Pg_write_5 rfl ?_
  refine k_getr C d_Pg_write_6 fg_Pg_11 (by first | assumption | decide | exact k_lt (by assumption)) rfl ?_
  refine k_iload C d_Pg_write_9 rfl ?_
  refine k_iconst C d_Pg_write_11 (v := 0) (by decide) ?_
  refine k_iadd C d_Pg_write_12 ?_
  refine k_iload_n C d_Pg_write_13 rfl ?_
  refine k_iastore C d_Pg_write_14 ar_2 (by first | assumption | decide | exact k_lt (by assumption)) (r_part hi (k_in (by decide))) rfl I0 (r_w0 hi ho) (fun I1 => ?_)
  refine k_aload_n C d_Pg_write_15 rfl ?_
  refine k_getr C d_Pg_write_16 fg_Pg_11 (by first | assumption | decide | exact k_lt (by assumption)) rfl ?_
  refine k_iload C d_Pg_write_19 rfl ?_
  refine k_iconst C d_Pg_write_21 (v := 1) (by decide) ?_
  refine k_iadd C d_Pg_write_22 ?_
  refine k_iload_n C d_Pg_write_23 rfl ?_
  refine k_iastore C d_Pg_write_24 ar_2 (by first | assumption | decide | exact k_lt (by assumption)) (r_part hi (k_in (by decide))) rfl I1 (r_w1 hi ha) (fun I2 => ?_)
  refine k_aload_n C d_Pg_write_25 rfl ?_
  refine k_getr C d_Pg_write_26 fg_Pg_11 (by first | assumption | decide | exact k_lt (by assumption)) rfl ?_
  refine k_iload C d_Pg_write_29 rfl ?_
  refine k_iconst C d_Pg_write_31 (v := 2) (by decide) ?_
  refine k_iadd C d_Pg_write_32 ?_
  refine k_iload C d_Pg_write_33 rfl ?_
  refine k_iastore C d_Pg_write_35 ar_2 (by first | assumption | decide | exact k_lt (by assumption)) (r_part hi (k_in (by decide))) rfl I2 (r_w2 hi hb) (fun I3 => ?_)
  refine k_aload_n C d_Pg_write_36 rfl ?_
  refine k_getr C d_Pg_write_37 fg_Pg_11 (by first | assumption | decide | exact k_lt (by assumption)) rfl ?_
  refine k_iload C d_Pg_write_40 rfl ?_
  refine k_iconst C d_Pg_write_42 (v := 3) (by decide) ?_
  refine k_iadd C d_Pg_write_43 ?_
  refine k_iload C d_Pg_write_44 rfl ?_
  refine k_iastore C d_Pg_write_46 ar_2 (by first | assumption | decide | exact k_lt (by assumption)) (r_part hi (k_in (by decide))) rfl I3 (r_w3 hi) (fun I4 => ?_)
  exact k_return C (E.to rfl (by first | rfl | (simp only [g_write, ↓reduceIte, Nat.reduceAdd]; done) | (simp only [g_write, ↓reduceIte, Nat.reduceAdd]; rfl) | contradiction | (simp [g_write, ↓reduceIte, Nat.reduceAdd]; done) | (simp [g_write, ↓reduceIte, Nat.reduceAdd]; rfl))) d_Pg_write_47
set_option maxHeartbeats 4000000 in
set_option maxRecDepth 100000 in
theorem c_Pr_isEmpty (l : Launch) (G : kG) (K : kM) (p : Nat) (I0 : g_Inv K) (hp : p < 2) : k_Met l gS kT y_Pr_isEmpty b_Pr_isEmpty 1 (some .boolean) (k_rm 0) G [.ref (G.2.2 11 p)] K (some (.int (g_empty K p))) (K) := by
  refine k_intro (by decide +kernel) rfl (Nat.le_of_ble_eq_true rfl) ?_
  intro X C E
  refine k_aload_n C d_Pr_isEmpty_0 rfl ?_
  refine k_get C d_Pr_isEmpty_1 fg_Pr_18 (by first | assumption | decide | exact k_lt (by assumption)) rfl ?_
  refine k_iconst C d_Pr_isEmpty_4 (v := (-1)) (by decide) ?_
  refine k_icmp_ne C d_Pr_isEmpty_5 (tgt := 22) (by decide) (fun h1 => ?_) (fun h1 => ?_)
  · refine k_iconst C d_Pr_isEmpty_22 (v := 0) (by decide) ?_
    exact k_zreturn C (E.to (by first | rfl | (simp only [g_empty, h1, ↓reduceIte, Nat.reduceAdd]; done) | (simp only [g_empty, h1, ↓reduceIte, Nat.reduceAdd]; rfl) | contradiction | (simp [g_empty, h1, ↓reduceIte, Nat.reduceAdd]; done) | (simp [g_empty, h1, ↓reduceIte, Nat.reduceAdd]; rfl)) (by first | rfl | (simp only [g_empty, h1, ↓reduceIte, Nat.reduceAdd]; done) | (simp only [g_empty, h1, ↓reduceIte, Nat.reduceAdd]; rfl) | contradiction | (simp [g_empty, h1, ↓reduceIte, Nat.reduceAdd]; done) | (simp [g_empty, h1, ↓reduceIte, Nat.reduceAdd]; rfl))) d_Pr_isEmpty_23 (by first | rfl | decide)
  · refine k_aload_n C d_Pr_isEmpty_8 rfl ?_
    refine k_getr C d_Pr_isEmpty_9 fg_Pr_12 (by first | assumption | decide | exact k_lt (by assumption)) rfl ?_
    refine k_get C d_Pr_isEmpty_12 fg_Pr_22 (by omega) rfl ?_
    refine k_if_ne C d_Pr_isEmpty_15 (tgt := 22) (by decide) (fun h2 => ?_) (fun h2 => ?_)
    · refine k_iconst C d_Pr_isEmpty_22 (v := 0) (by decide) ?_
      exact k_zreturn C (E.to (by first | rfl | (simp only [g_empty, h1, h2, ↓reduceIte, Nat.reduceAdd]; done) | (simp only [g_empty, h1, h2, ↓reduceIte, Nat.reduceAdd]; rfl) | contradiction | (simp [g_empty, h1, h2, ↓reduceIte, Nat.reduceAdd]; done) | (simp [g_empty, h1, h2, ↓reduceIte, Nat.reduceAdd]; rfl)) (by first | rfl | (simp only [g_empty, h1, h2, ↓reduceIte, Nat.reduceAdd]; done) | (simp only [g_empty, h1, h2, ↓reduceIte, Nat.reduceAdd]; rfl) | contradiction | (simp [g_empty, h1, h2, ↓reduceIte, Nat.reduceAdd]; done) | (simp [g_empty, h1, h2, ↓reduceIte, Nat.reduceAdd]; rfl))) d_Pr_isEmpty_23 (by first | rfl | decide)
    · refine k_iconst C d_Pr_isEmpty_18 (v := 1) (by decide) ?_
      refine k_goto C d_Pr_isEmpty_19 (tgt := 23) (by decide) ?_
      exact k_zreturn C (E.to (by first | rfl | (simp only [g_empty, h1, h2, ↓reduceIte, Nat.reduceAdd]; done) | (simp only [g_empty, h1, h2, ↓reduceIte, Nat.reduceAdd]; rfl) | contradiction | (simp [g_empty, h1, h2, ↓reduceIte, Nat.reduceAdd]; done) | (simp [g_empty, h1, h2, ↓reduceIte, Nat.reduceAdd]; rfl)) (by first | rfl | (simp only [g_empty, h1, h2, ↓reduceIte, Nat.reduceAdd]; done) | (simp only [g_empty, h1, h2, ↓reduceIte, Nat.reduceAdd]; rfl) | contradiction | (simp [g_empty, h1, h2, ↓reduceIte, Nat.reduceAdd]; done) | (simp [g_empty, h1, h2, ↓reduceIte, Nat.reduceAdd]; rfl))) d_Pr_isEmpty_23 (by first | rfl | decide)
set_option maxHeartbeats 4000000 in
set_option maxRecDepth 100000 in
theorem c_Gu_goTo (l : Launch) (G : kG) (K : kM) (g : Nat) (t : Int32) (I0 : g_Inv K) (hg : g < 6) : k_Met l gS kT y_Gu_goTo b_Gu_goTo 2 none (k_rm 1) G [.ref (G.2.2 7 g), .int t] K none (g_goTo K g t) := by
  refine k_intro (by decide +kernel) rfl (Nat.le_of_ble_eq_true rfl) ?_
  intro X C E
  refine k_aload_n C d_Gu_goTo_0 rfl ?_
  refine k_iload_n C d_Gu_goTo_1 rfl ?_
  refine k_bipush C d_Gu_goTo_2 (v := 32) (by decide) ?_
  refine k_callSi C kg_all (c_Ma_floorMod l G _ _ I0) cs_Gu_56 cv_Ma_floorMod rfl rfl (Nat.le_of_ble_eq_true rfl) ⟨rfl, rfl⟩ ⟨by decide, by decide⟩ ⟨Nat.zero_le _, Nat.zero_le _⟩ d_Gu_goTo_4 I0 (fun I1 => ?_)
  refine k_put C d_Gu_goTo_7 fp_Gu_62 (by first | assumption | decide | exact k_lt (by assumption)) rfl I1 (r_fm _) (fun I2 => ?_)
  exact k_return C (E.to rfl (by first | rfl | (simp only [g_goTo, ↓reduceIte, Nat.reduceAdd]; done) | (simp only [g_goTo, ↓reduceIte, Nat.reduceAdd]; rfl) | contradiction | (simp [g_goTo, ↓reduceIte, Nat.reduceAdd]; done) | (simp [g_goTo, ↓reduceIte, Nat.reduceAdd]; rfl))) d_Gu_goTo_10
set_option maxHeartbeats 4000000 in
set_option maxRecDepth 100000 in
theorem c_Gu_begin (l : Launch) (G : kG) (K : kM) (g : Nat) (t q p : Int32) (I0 : g_Inv K) (hg : g < 6) : k_Met l gS kT y_Gu_begin b_Gu_begin 4 none (k_rm 2) G [.ref (G.2.2 7 g), .int t, .int q, .int p] K none (g_begin K g t q p) := by
  refine k_intro (by decide +kernel) rfl (Nat.le_of_ble_eq_true rfl) ?_
  intro X C E
  refine k_aload_n C d_Gu_begin_0 rfl ?_
  refine k_getr C d_Gu_begin_1 fg_Gu_9 (by first | assumption | decide | exact k_lt (by assumption)) rfl ?_
  refine k_iconst C d_Gu_begin_4 (v := 0) (by decide) ?_
  refine k_callSv C kg_all (c_Ar_fill l G _ 8 g 0 I0 ar_8 hg (fun _ => trivial)) cs_Gu_25 cv_Ar_fill rfl rfl (Nat.le_of_ble_eq_true rfl) ⟨rfl, rfl⟩ ⟨by decide, by decide⟩ ⟨Nat.zero_le _, Nat.zero_le _⟩ d_Gu_begin_5 (iv_fill (f := 8) (i := g) (v := 0) I0 (fun _ => trivial) 4) (fun I1 => ?_)
  refine k_aload_n C d_Gu_begin_8 rfl ?_
  refine k_getr C d_Gu_begin_9 fg_Gu_15 (by first | assumption | decide | exact k_lt (by assumption)) rfl ?_
  refine k_iconst C d_Gu_begin_12 (v := (-1)) (by decide) ?_
  refine k_callSv C kg_all (c_Ar_fill l G _ 9 g (-1) I1 ar_9 hg (fun _ => Or.inl rfl)) cs_Gu_25 cv_Ar_fill rfl rfl (Nat.le_of_ble_eq_true rfl) ⟨rfl, rfl⟩ ⟨by decide, by decide⟩ ⟨Nat.zero_le _, Nat.zero_le _⟩ d_Gu_begin_13 (iv_fill (f := 9) (i := g) (v := -1) I1 (fun _ => Or.inl rfl) 4) (fun I2 => ?_)
  refine k_aload_n C d_Gu_begin_16 rfl ?_
  refine k_iload_n C d_Gu_begin_17 rfl ?_
  refine k_callVv C kg_all (c_Gu_goTo l G _ _ _ I2 (by first | assumption | decide | exact k_lt (by assumption))) cs_Gu_31 cv_Gu_goTo ob_7 (by first | assumption | decide | exact k_lt (by assumption)) rfl rfl (Nat.le_of_ble_eq_true rfl) ⟨rfl, rfl⟩ ⟨by decide, by decide⟩ ⟨Nat.zero_le _, Nat.zero_le _⟩ d_Gu_begin_18 (iv_goTo I2) (fun I3 => ?_)
  refine k_aload_n C d_Gu_begin_21 rfl ?_
  refine k_iconst C d_Gu_begin_22 (v := (-1)) (by decide) ?_
  refine k_put C d_Gu_begin_23 fp_Gu_35 (by first | assumption | decide | exact k_lt (by assumption)) rfl I3 (trivial) (fun I4 => ?_)
  refine k_aload_n C d_Gu_begin_26 rfl ?_
  refine k_iload_n C d_Gu_begin_27 rfl ?_
  refine k_put C d_Gu_begin_28 fp_Gu_38 (by first | assumption | decide | exact k_lt (by assumption)) rfl I4 (trivial) (fun I5 => ?_)
  refine k_aload_n C d_Gu_begin_31 rfl ?_
  refine k_iconst C d_Gu_begin_32 (v := 0) (by decide) ?_
  refine k_put C d_Gu_begin_33 fp_Gu_41 (by first | assumption | decide | exact k_lt (by assumption)) rfl I5 (trivial) (fun I6 => ?_)
  refine k_aload_n C d_Gu_begin_36 rfl ?_
  refine k_iconst C d_Gu_begin_37 (v := 0) (by decide) ?_
  refine k_put C d_Gu_begin_38 fp_Gu_44 (by first | assumption | decide | exact k_lt (by assumption)) rfl I6 (trivial) (fun I7 => ?_)
  refine k_aload_n C d_Gu_begin_41 rfl ?_
  refine k_iload_n C d_Gu_begin_42 rfl ?_
  refine k_put C d_Gu_begin_43 fp_Gu_47 (by first | assumption | decide | exact k_lt (by assumption)) rfl I7 (trivial) (fun I8 => ?_)
  refine k_aload_n C d_Gu_begin_46 rfl ?_
  refine k_iconst C d_Gu_begin_47 (v := 0) (by decide) ?_
  refine k_put C d_Gu_begin_48 fp_Gu_50 (by first | assumption | decide | exact k_lt (by assumption)) rfl I8 (trivial) (fun I9 => ?_)
  refine k_aload_n C d_Gu_begin_51 rfl ?_
  refine k_iconst C d_Gu_begin_52 (v := 0) (by decide) ?_
  refine k_put C d_Gu_begin_53 fp_Gu_53 (by first | assumption | decide | exact k_lt (by assumption)) rfl I9 (trivial) (fun I10 => ?_)
  exact k_return C (E.to rfl (by first | rfl | (simp only [g_begin, ↓reduceIte, Nat.reduceAdd]; done) | (simp only [g_begin, ↓reduceIte, Nat.reduceAdd]; rfl) | contradiction | (simp [g_begin, ↓reduceIte, Nat.reduceAdd]; done) | (simp [g_begin, ↓reduceIte, Nat.reduceAdd]; rfl))) d_Gu_begin_56
