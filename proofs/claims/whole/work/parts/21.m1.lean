set_option maxHeartbeats 4000000 in
set_option maxRecDepth 100000 in
theorem c_Mo_thrown (l : Launch) (G : kG) (K : kM)    (I0 : m_Inv K) : k_Met l mS kT y_Mo_thrown b_Mo_thrown 1 (some .int) (k_rm 0) G [.ref (G.2.2 0 0)] K (some (.int (K 0 0 32))) (K) := by
  refine k_intro (by decide +kernel) rfl (Nat.le_of_ble_eq_true rfl) ?_
  intro X C E
  refine k_aload_n C d_Mo_thrown_0 rfl ?_
  refine k_get C d_Mo_thrown_1 fg_Mo_90 (by decide) rfl ?_
  exact k_ireturn C (E.to (by first | rfl | (simp only [m_no, ↓reduceIte, Nat.reduceAdd]; done) | (simp only [m_no, ↓reduceIte, Nat.reduceAdd]; rfl) | contradiction | (simp [m_no, ↓reduceIte, Nat.reduceAdd]; done) | (simp [m_no, ↓reduceIte, Nat.reduceAdd]; rfl)) (by first | rfl | (simp only [m_no, ↓reduceIte, Nat.reduceAdd]; done) | (simp only [m_no, ↓reduceIte, Nat.reduceAdd]; rfl) | contradiction | (simp [m_no, ↓reduceIte, Nat.reduceAdd]; done) | (simp [m_no, ↓reduceIte, Nat.reduceAdd]; rfl))) d_Mo_thrown_4
set_option maxHeartbeats 4000000 in
set_option maxRecDepth 100000 in
theorem c_Mo_no (l : Launch) (G : kG) (K : kM) (v : Int32) (w : Int32)   (I0 : m_Inv K) : k_Met l mS kT y_Mo_no b_Mo_no 3 (some .boolean) (k_rm 0) G [.ref (G.2.2 0 0), .int v, .int w] K (some (.int (m_no v w))) (K) := by
  refine k_intro (by decide +kernel) rfl (Nat.le_of_ble_eq_true rfl) ?_
  intro X C E
  refine k_iload_n C d_Mo_no_0 rfl ?_
  refine k_if_lt C d_Mo_no_1 (tgt := 9) (by decide) (fun h1 => ?_) (fun h1 => ?_)
  · refine k_iconst C d_Mo_no_9 (v := 1) (by decide) ?_
    refine k_goto C d_Mo_no_10 (tgt := 14) (by decide) ?_
    exact k_zreturn C (E.to (by first | (simp only [m_no, h1, ↓reduceIte]; done) | (simp only [m_no, h1, ↓reduceIte]; rfl) | contradiction | rfl) (by first | (simp only [m_no, h1, ↓reduceIte]; done) | (simp only [m_no, h1, ↓reduceIte]; rfl) | contradiction | rfl)) d_Mo_no_14 (by first | rfl | decide)
  · refine k_iload_n C d_Mo_no_4 rfl ?_
    refine k_iload_n C d_Mo_no_5 rfl ?_
    refine k_icmp_le C d_Mo_no_6 (tgt := 13) (by decide) (fun h2 => ?_) (fun h2 => ?_)
    · refine k_iconst C d_Mo_no_13 (v := 0) (by decide) ?_
      exact k_zreturn C (E.to (by first | (simp only [m_no, h1, h2, ↓reduceIte]; done) | (simp only [m_no, h1, h2, ↓reduceIte]; rfl) | contradiction | rfl) (by first | (simp only [m_no, h1, h2, ↓reduceIte]; done) | (simp only [m_no, h1, h2, ↓reduceIte]; rfl) | contradiction | rfl)) d_Mo_no_14 (by first | rfl | decide)
    · refine k_iconst C d_Mo_no_9 (v := 1) (by decide) ?_
      refine k_goto C d_Mo_no_10 (tgt := 14) (by decide) ?_
      exact k_zreturn C (E.to (by first | (simp only [m_no, h1, h2, ↓reduceIte]; done) | (simp only [m_no, h1, h2, ↓reduceIte]; rfl) | contradiction | rfl) (by first | (simp only [m_no, h1, h2, ↓reduceIte]; done) | (simp only [m_no, h1, h2, ↓reduceIte]; rfl) | contradiction | rfl)) d_Mo_no_14 (by first | rfl | decide)
set_option maxHeartbeats 4000000 in
set_option maxRecDepth 100000 in
theorem c_Mo_add (l : Launch) (G : kG) (K : kM) (x0 : Int32) (x1 : Int32) (r g : Nat) (e0 : x0 = nI r) (e1 : x1 = nI g) (I0 : m_Inv K) (hr : r < 14) (hg : g < 6) (ht : m_tot K ≤ 5) : k_Met l mS kT y_Mo_add b_Mo_add 3 none (k_rm 0) G [.ref (G.2.2 0 0), .int x0, .int x1] K none (m_add K r g) := by
  subst e0
  subst e1
  refine k_intro (by decide +kernel) rfl (Nat.le_of_ble_eq_true rfl) ?_
  intro X C E
  have hs := mt_v I0 ht hr
  have hq := k_lt hs
  refine k_aload_n C d_Mo_add_0 rfl ?_
  refine k_getr C d_Mo_add_1 fg_Mo_65 (by decide) rfl ?_
  refine k_iload_n C d_Mo_add_4 rfl ?_
  refine k_bipush C d_Mo_add_5 (v := 6) (by decide) ?_
  refine k_imul C d_Mo_add_7 ?_
  refine k_aload_n C d_Mo_add_8 rfl ?_
  refine k_getr C d_Mo_add_9 fg_Mo_68 (by decide) rfl ?_
  refine k_iload_n C d_Mo_add_12 rfl ?_
  refine k_iaload C d_Mo_add_13 am_20 (by decide) (vp_in_nI (by omega) (by decide)) (nI_clamp (by omega)) ?_
  refine k_top (r_id hs (by decide)) ?_
  refine k_iadd C d_Mo_add_14 ?_
  refine k_iload_n C d_Mo_add_15 rfl ?_
  refine k_iastore C d_Mo_add_16 am_19 (by decide) (mx (r) 6 ((K 20 0 r).toNatClampNeg) 84 (by omega) (by decide)).1 (mx (r) 6 ((K 20 0 r).toNatClampNeg) 84 (by omega) (by decide)).2 I0 (vp_in_nI hg (by decide)) (fun I1 => ?_)
  refine k_aload_n C d_Mo_add_17 rfl ?_
  refine k_getr C d_Mo_add_18 fg_Mo_68 (by decide) rfl ?_
  refine k_iload_n C d_Mo_add_21 rfl ?_
  refine k_dup2 C d_Mo_add_22 rfl rfl ?_
  refine k_iaload C d_Mo_add_23 am_20 (by decide) (vp_in_nI (by omega) (by decide)) (nI_clamp (by omega)) ?_
  refine k_iconst C d_Mo_add_24 (v := 1) (by decide) ?_
  refine k_iadd C d_Mo_add_25 ?_
  refine k_iastore C d_Mo_add_26 am_20 (by decide) (vp_in_nI (by omega) (by decide)) (nI_clamp (by omega)) I1 (r_szp (I0 20 0 r) (m_n6 hs)) (fun I2 => ?_)
  exact k_return C (E.to rfl (by first | rfl | (simp only [m_add, ↓reduceIte, Nat.reduceAdd]; done) | (simp only [m_add, ↓reduceIte, Nat.reduceAdd]; rfl) | contradiction | (simp [m_add, ↓reduceIte, Nat.reduceAdd]; done) | (simp [m_add, ↓reduceIte, Nat.reduceAdd]; rfl))) d_Mo_add_27
set_option maxHeartbeats 4000000 in
set_option maxRecDepth 100000 in
theorem b_tk {X : kX} {G : kG} {l : Launch} (C : k_C X kT b_Mo_take y_Mo_take.cls mS G 4 l (k_rm 0)) (r : Nat) (x : Int32) (hr : r < 14) : ∀ (c k : Nat) {K : kM}, c + k ≤ 5 → K 20 0 r = nI (c + k) → m_Inv K → k_E X (some .int) (some (.int x)) (m_sh K r c k) 0 0 → k_W X 0 0 22 [(3, .int (nI k)), (0, .ref (G.2.2 0 0)), (1, .int (nI r)), (2, .int x)] [] K
  | 0, k, K, hk, hz, I0, E => by
    refine k_iload_n C d_Mo_take_22 rfl ?_
    refine k_aload_n C d_Mo_take_23 rfl ?_
    refine k_getr C d_Mo_take_24 fg_Mo_68 (by decide) rfl ?_
    refine k_iload_n C d_Mo_take_27 rfl ?_
    refine k_iaload C d_Mo_take_28 am_20 (by decide) (vp_in_nI (by omega) (by decide)) (nI_clamp (by omega)) ?_
    refine k_top hz ?_
    refine k_icmp_ge C d_Mo_take_29 (tgt := 62) (by decide) (fun h1 => ?_) (fun h1 => absurd (by rw [Nat.zero_add]; exact Int32.le_refl _) h1)
    refine k_iload_n C d_Mo_take_62 rfl ?_
    exact k_ireturn C (E.to (by first | rfl | (simp only [m_sh, ↓reduceIte, Nat.reduceAdd]; done) | (simp only [m_sh, ↓reduceIte, Nat.reduceAdd]; rfl) | contradiction | (simp [m_sh, ↓reduceIte, Nat.reduceAdd]; done) | (simp [m_sh, ↓reduceIte, Nat.reduceAdd]; rfl)) (by first | rfl | (simp only [m_sh, ↓reduceIte, Nat.reduceAdd]; done) | (simp only [m_sh, ↓reduceIte, Nat.reduceAdd]; rfl) | contradiction | (simp [m_sh, ↓reduceIte, Nat.reduceAdd]; done) | (simp [m_sh, ↓reduceIte, Nat.reduceAdd]; rfl))) d_Mo_take_63
  | c + 1, k, K, hk, hz, I0, E => by
    refine k_iload_n C d_Mo_take_22 rfl ?_
    refine k_aload_n C d_Mo_take_23 rfl ?_
    refine k_getr C d_Mo_take_24 fg_Mo_68 (by decide) rfl ?_
    refine k_iload_n C d_Mo_take_27 rfl ?_
    refine k_iaload C d_Mo_take_28 am_20 (by decide) (vp_in_nI (by omega) (by decide)) (nI_clamp (by omega)) ?_
    refine k_top hz ?_
    refine k_icmp_ge C d_Mo_take_29 (tgt := 62) (by decide) (fun h1 => absurd h1 (nI_ge (by omega) (by omega))) (fun h1 => ?_)
    refine k_aload_n C d_Mo_take_32 rfl ?_
    refine k_getr C d_Mo_take_33 fg_Mo_65 (by decide) rfl ?_
    refine k_iload_n C d_Mo_take_36 rfl ?_
    refine k_bipush C d_Mo_take_37 (v := 6) (by decide) ?_
    refine k_imul C d_Mo_take_39 ?_
    refine k_iload_n C d_Mo_take_40 rfl ?_
    refine k_iadd C d_Mo_take_41 ?_
    refine k_aload_n C d_Mo_take_42 rfl ?_
    refine k_getr C d_Mo_take_43 fg_Mo_65 (by decide) rfl ?_
    refine k_iload_n C d_Mo_take_46 rfl ?_
    refine k_bipush C d_Mo_take_47 (v := 6) (by decide) ?_
    refine k_imul C d_Mo_take_49 ?_
    refine k_iload_n C d_Mo_take_50 rfl ?_
    refine k_iadd C d_Mo_take_51 ?_
    refine k_iconst C d_Mo_take_52 (v := 1) (by decide) ?_
    refine k_iadd C d_Mo_take_53 ?_
    refine k_iaload C d_Mo_take_54 am_19 (by decide) (mx1 (r) 6 (k) 1 84 (by omega) (by decide)).1 (mx1 (r) 6 (k) 1 84 (by omega) (by decide)).2 ?_
    refine k_iastore C d_Mo_take_55 am_19 (by decide) (mx (r) 6 (k) 84 (by omega) (by decide)).1 (mx (r) 6 (k) 84 (by omega) (by decide)).2 I0 (I0 19 0 _) (fun I2 => ?_)
    refine k_iinc C d_Mo_take_56 rfl (v := nI (k + 1)) (nI_1 k) (by decide) ?_
    refine k_goto C d_Mo_take_59 (tgt := 22) (by decide) ?_
    exact k_loc [(3, .int (nI (k + 1))), (0, .ref (G.2.2 0 0)), (1, .int (nI r)), (2, .int x)] ⟨rfl, rfl, rfl, rfl, trivial⟩ (b_tk C r x hr c (k + 1) (by omega) (by rw [show c + (k + 1) = c + 1 + k by omega]; exact hz) I2 E)
set_option maxHeartbeats 4000000 in
set_option maxRecDepth 100000 in
theorem c_Mo_take (l : Launch) (G : kG) (K : kM) (x0 : Int32) (r : Nat) (e0 : x0 = nI r) (I0 : m_Inv K) (hr : r < 14) (h0 : ¬ K 20 0 r ≤ 0) : k_Met l mS kT y_Mo_take b_Mo_take 4 (some .int) (k_rm 0) G [.ref (G.2.2 0 0), .int x0] K (some (.int (m_tkX K r))) (m_tkT K r) := by
  subst e0
  refine k_intro (by decide +kernel) rfl (Nat.le_of_ble_eq_true rfl) ?_
  intro X C E
  refine k_aload_n C d_Mo_take_0 rfl ?_
  refine k_getr C d_Mo_take_1 fg_Mo_65 (by decide) rfl ?_
  refine k_iload_n C d_Mo_take_4 rfl ?_
  refine k_bipush C d_Mo_take_5 (v := 6) (by decide) ?_
  refine k_imul C d_Mo_take_7 ?_
  refine k_iaload C d_Mo_take_8 am_19 (by decide) (mxp (r) 6 84 (by omega) (by decide)).1 (mxp (r) 6 84 (by omega) (by decide)).2 ?_
  refine k_istore_n C d_Mo_take_9 (by decide) ?_
  refine k_aload_n C d_Mo_take_10 rfl ?_
  refine k_getr C d_Mo_take_11 fg_Mo_68 (by decide) rfl ?_
  refine k_iload_n C d_Mo_take_14 rfl ?_
  refine k_dup2 C d_Mo_take_15 rfl rfl ?_
  refine k_iaload C d_Mo_take_16 am_20 (by decide) (vp_in_nI (by omega) (by decide)) (nI_clamp (by omega)) ?_
  refine k_iconst C d_Mo_take_17 (v := 1) (by decide) ?_
  refine k_isub C d_Mo_take_18 ?_
  refine k_iastore C d_Mo_take_19 am_20 (by decide) (vp_in_nI (by omega) (by decide)) (nI_clamp (by omega)) I0 (r_szm (I0 20 0 r) (fun e => h0 (by rw [e]; decide))) (fun I1 => ?_)
  refine k_iconst C d_Mo_take_20 (v := 0) (by decide) ?_
  refine k_istore_n C d_Mo_take_21 (by decide) ?_
  exact k_loc [(3, .int (nI 0)), (0, .ref (G.2.2 0 0)), (1, .int (nI r)), (2, .int (K 19 0 (r * 6)))] ⟨rfl, rfl, rfl, rfl, trivial⟩ (b_tk C r _ hr (m_tk1 K r 20 0 r).toNatClampNeg 0 (m_tkz I0 h0).2 (m_tkz I0 h0).1 I1 E)
set_option maxHeartbeats 4000000 in
set_option maxRecDepth 100000 in
theorem c_Mo_wake (l : Launch) (G : kG) (K : kM) (x0 : Int32) (g : Nat) (e0 : x0 = nI g) (I0 : m_Inv K) (hg : g < 6) (ht : m_tot K ≤ 5) : k_Met l mS kT y_Mo_wake b_Mo_wake 2 none (k_rm 1) G [.ref (G.2.2 0 0), .int x0] K none (m_wake K g) := by
  subst e0
  refine k_intro (by decide +kernel) rfl (Nat.le_of_ble_eq_true rfl) ?_
  intro X C E
  refine k_aload_n C d_Mo_wake_0 rfl ?_
  refine k_getr C d_Mo_wake_1 fg_Mo_22 (by decide) rfl ?_
  refine k_iload_n C d_Mo_wake_4 rfl ?_
  refine k_iconst C d_Mo_wake_5 (v := 0) (by decide) ?_
  refine k_iastore C d_Mo_wake_6 am_5 (by decide) (vp_in_nI (by omega) (by decide)) (nI_clamp (by omega)) I0 (trivial) (fun I1 => ?_)
  refine k_aload_n C d_Mo_wake_7 rfl ?_
  refine k_iload_n C d_Mo_wake_8 rfl ?_
  refine k_iconst C d_Mo_wake_9 (v := 2) (by decide) ?_
  refine k_irem C d_Mo_wake_10 (by first | decide | assumption) ?_
  refine k_iload_n C d_Mo_wake_11 rfl ?_
  refine k_callVv C kg_all (c_Mo_add l G _ _ _ (g % 2) g (mr2 hg) rfl I1 (by omega) hg (by (repeat rw [mt_ne (by decide)]); first | assumption | omega)) cs_Mo_94 cv_Mo_add om_0 (by decide) rfl rfl (Nat.le_of_ble_eq_true rfl) ⟨rfl, rfl⟩ ⟨by decide, by decide⟩ ⟨Nat.zero_le _, Nat.zero_le _⟩ d_Mo_wake_12 (iv_madd I1 (by (repeat rw [mt_ne (by decide)]); first | assumption | omega) (by omega) hg) (fun I2 => ?_)
  exact k_return C (E.to rfl (by first | rfl | (simp only [m_wake, ↓reduceIte, Nat.reduceAdd]; done) | (simp only [m_wake, ↓reduceIte, Nat.reduceAdd]; rfl) | contradiction | (simp [m_wake, ↓reduceIte, Nat.reduceAdd]; done) | (simp [m_wake, ↓reduceIte, Nat.reduceAdd]; rfl))) d_Mo_wake_15
set_option maxHeartbeats 4000000 in
set_option maxRecDepth 100000 in
theorem c_Mo_begin (l : Launch) (G : kG) (K : kM) (x0 : Int32) (a : Int32) (q : Int32) (b : Int32) (g : Nat) (e0 : x0 = nI g) (I0 : m_Inv K) (hg : g < 6) (ht : m_tot K ≤ 5) (ha : vp_in a 32) : k_Met l mS kT y_Mo_begin b_Mo_begin 6 none (k_rm 2) G [.ref (G.2.2 0 0), .int x0, .int a, .int q, .int b] K none (m_begin K g a q b) := by
  subst e0
  refine k_intro (by decide +kernel) rfl (Nat.le_of_ble_eq_true rfl) ?_
  intro X C E
  refine k_aload_n C d_Mo_begin_0 rfl ?_
  refine k_getr C d_Mo_begin_1 fg_Mo_25 (by decide) rfl ?_
  refine k_iload_n C d_Mo_begin_4 rfl ?_
  refine k_iload_n C d_Mo_begin_5 rfl ?_
  refine k_iastore C d_Mo_begin_6 am_6 (by decide) (vp_in_nI (by omega) (by decide)) (nI_clamp (by omega)) I0 (ha) (fun I1 => ?_)
  refine k_aload_n C d_Mo_begin_7 rfl ?_
  refine k_getr C d_Mo_begin_8 fg_Mo_31 (by decide) rfl ?_
  refine k_iload_n C d_Mo_begin_11 rfl ?_
  refine k_iload_n C d_Mo_begin_12 rfl ?_
  refine k_iastore C d_Mo_begin_13 am_8 (by decide) (vp_in_nI (by omega) (by decide)) (nI_clamp (by omega)) I1 (trivial) (fun I2 => ?_)
  refine k_aload_n C d_Mo_begin_14 rfl ?_
  refine k_getr C d_Mo_begin_15 fg_Mo_40 (by decide) rfl ?_
  refine k_iload_n C d_Mo_begin_18 rfl ?_
  refine k_iload C d_Mo_begin_19 rfl ?_
  refine k_iastore C d_Mo_begin_21 am_11 (by decide) (vp_in_nI (by omega) (by decide)) (nI_clamp (by omega)) I2 (trivial) (fun I3 => ?_)
  refine k_aload_n C d_Mo_begin_22 rfl ?_
  refine k_getr C d_Mo_begin_23 fg_Mo_28 (by decide) rfl ?_
  refine k_iload_n C d_Mo_begin_26 rfl ?_
  refine k_iconst C d_Mo_begin_27 (v := (-1)) (by decide) ?_
  refine k_iastore C d_Mo_begin_28 am_7 (by decide) (vp_in_nI (by omega) (by decide)) (nI_clamp (by omega)) I3 (Or.inl rfl) (fun I4 => ?_)
  refine k_aload_n C d_Mo_begin_29 rfl ?_
  refine k_getr C d_Mo_begin_30 fg_Mo_34 (by decide) rfl ?_
  refine k_iload_n C d_Mo_begin_33 rfl ?_
  refine k_iconst C d_Mo_begin_34 (v := 0) (by decide) ?_
  refine k_iastore C d_Mo_begin_35 am_9 (by decide) (vp_in_nI (by omega) (by decide)) (nI_clamp (by omega)) I4 (trivial) (fun I5 => ?_)
  refine k_aload_n C d_Mo_begin_36 rfl ?_
  refine k_getr C d_Mo_begin_37 fg_Mo_37 (by decide) rfl ?_
  refine k_iload_n C d_Mo_begin_40 rfl ?_
  refine k_iconst C d_Mo_begin_41 (v := 0) (by decide) ?_
  refine k_iastore C d_Mo_begin_42 am_10 (by decide) (vp_in_nI (by omega) (by decide)) (nI_clamp (by omega)) I5 (trivial) (fun I6 => ?_)
  refine k_aload_n C d_Mo_begin_43 rfl ?_
  refine k_getr C d_Mo_begin_44 fg_Mo_43 (by decide) rfl ?_
  refine k_iload_n C d_Mo_begin_47 rfl ?_
  refine k_iconst C d_Mo_begin_48 (v := 0) (by decide) ?_
  refine k_iastore C d_Mo_begin_49 am_12 (by decide) (vp_in_nI (by omega) (by decide)) (nI_clamp (by omega)) I6 (trivial) (fun I7 => ?_)
  refine k_aload_n C d_Mo_begin_50 rfl ?_
  refine k_getr C d_Mo_begin_51 fg_Mo_46 (by decide) rfl ?_
  refine k_iload_n C d_Mo_begin_54 rfl ?_
  refine k_iconst C d_Mo_begin_55 (v := 0) (by decide) ?_
  refine k_iastore C d_Mo_begin_56 am_13 (by decide) (vp_in_nI (by omega) (by decide)) (nI_clamp (by omega)) I7 (trivial) (fun I8 => ?_)
  refine k_iconst C d_Mo_begin_57 (v := 0) (by decide) ?_
  refine k_istore C d_Mo_begin_58 (by decide) ?_
  refine k_iload C d_Mo_begin_60 rfl ?_
  refine k_iconst C d_Mo_begin_62 (v := 4) (by decide) ?_
  refine k_icmp_ge C d_Mo_begin_63 (tgt := 96) (by decide) (fun h => absurd h (by decide)) (fun _ => ?_)
  refine k_aload_n C d_Mo_begin_66 rfl ?_
  refine k_getr C d_Mo_begin_67 fg_Mo_52 (by decide) rfl ?_
  refine k_iload_n C d_Mo_begin_70 rfl ?_
  refine k_iconst C d_Mo_begin_71 (v := 4) (by decide) ?_
  refine k_imul C d_Mo_begin_72 ?_
  refine k_iload C d_Mo_begin_73 rfl ?_
  refine k_iadd C d_Mo_begin_75 ?_
  refine k_iconst C d_Mo_begin_76 (v := 0) (by decide) ?_
  refine k_iastore C d_Mo_begin_77 am_15 (by decide) (mx (g) 4 (0) 24 (by omega) (by decide)).1 (mx (g) 4 (0) 24 (by omega) (by decide)).2 I8 (trivial) (fun I9 => ?_)
  refine k_aload_n C d_Mo_begin_78 rfl ?_
  refine k_getr C d_Mo_begin_79 fg_Mo_55 (by decide) rfl ?_
  refine k_iload_n C d_Mo_begin_82 rfl ?_
  refine k_iconst C d_Mo_begin_83 (v := 4) (by decide) ?_
  refine k_imul C d_Mo_begin_84 ?_
  refine k_iload C d_Mo_begin_85 rfl ?_
  refine k_iadd C d_Mo_begin_87 ?_
  refine k_iconst C d_Mo_begin_88 (v := (-1)) (by decide) ?_
  refine k_iastore C d_Mo_begin_89 am_16 (by decide) (mx (g) 4 (0) 24 (by omega) (by decide)).1 (mx (g) 4 (0) 24 (by omega) (by decide)).2 I9 (Or.inl rfl) (fun I10 => ?_)
  refine k_iinc C d_Mo_begin_90 rfl (v := 1) (by decide) (by decide) ?_
  refine k_goto C d_Mo_begin_93 (tgt := 60) (by decide) ?_
  refine k_iload C d_Mo_begin_60 rfl ?_
  refine k_iconst C d_Mo_begin_62 (v := 4) (by decide) ?_
  refine k_icmp_ge C d_Mo_begin_63 (tgt := 96) (by decide) (fun h => absurd h (by decide)) (fun _ => ?_)
  refine k_aload_n C d_Mo_begin_66 rfl ?_
  refine k_getr C d_Mo_begin_67 fg_Mo_52 (by decide) rfl ?_
  refine k_iload_n C d_Mo_begin_70 rfl ?_
  refine k_iconst C d_Mo_begin_71 (v := 4) (by decide) ?_
  refine k_imul C d_Mo_begin_72 ?_
  refine k_iload C d_Mo_begin_73 rfl ?_
  refine k_iadd C d_Mo_begin_75 ?_
  refine k_iconst C d_Mo_begin_76 (v := 0) (by decide) ?_
  refine k_iastore C d_Mo_begin_77 am_15 (by decide) (mx (g) 4 (1) 24 (by omega) (by decide)).1 (mx (g) 4 (1) 24 (by omega) (by decide)).2 I10 (trivial) (fun I11 => ?_)
  refine k_aload_n C d_Mo_begin_78 rfl ?_
  refine k_getr C d_Mo_begin_79 fg_Mo_55 (by decide) rfl ?_
  refine k_iload_n C d_Mo_begin_82 rfl ?_
  refine k_iconst C d_Mo_begin_83 (v := 4) (by decide) ?_
  refine k_imul C d_Mo_begin_84 ?_
  refine k_iload C d_Mo_begin_85 rfl ?_
  refine k_iadd C d_Mo_begin_87 ?_
  refine k_iconst C d_Mo_begin_88 (v := (-1)) (by decide) ?_
  refine k_iastore C d_Mo_begin_89 am_16 (by decide) (mx (g) 4 (1) 24 (by omega) (by decide)).1 (mx (g) 4 (1) 24 (by omega) (by decide)).2 I11 (Or.inl rfl) (fun I12 => ?_)
  refine k_iinc C d_Mo_begin_90 rfl (v := 2) (by decide) (by decide) ?_
  refine k_goto C d_Mo_begin_93 (tgt := 60) (by decide) ?_
  refine k_iload C d_Mo_begin_60 rfl ?_
  refine k_iconst C d_Mo_begin_62 (v := 4) (by decide) ?_
  refine k_icmp_ge C d_Mo_begin_63 (tgt := 96) (by decide) (fun h => absurd h (by decide)) (fun _ => ?_)
  refine k_aload_n C d_Mo_begin_66 rfl ?_
  refine k_getr C d_Mo_begin_67 fg_Mo_52 (by decide) rfl ?_
  refine k_iload_n C d_Mo_begin_70 rfl ?_
  refine k_iconst C d_Mo_begin_71 (v := 4) (by decide) ?_
  refine k_imul C d_Mo_begin_72 ?_
  refine k_iload C d_Mo_begin_73 rfl ?_
  refine k_iadd C d_Mo_begin_75 ?_
  refine k_iconst C d_Mo_begin_76 (v := 0) (by decide) ?_
  refine k_iastore C d_Mo_begin_77 am_15 (by decide) (mx (g) 4 (2) 24 (by omega) (by decide)).1 (mx (g) 4 (2) 24 (by omega) (by decide)).2 I12 (trivial) (fun I13 => ?_)
  refine k_aload_n C d_Mo_begin_78 rfl ?_
  refine k_getr C d_Mo_begin_79 fg_Mo_55 (by decide) rfl ?_
  refine k_iload_n C d_Mo_begin_82 rfl ?_
  refine k_iconst C d_Mo_begin_83 (v := 4) (by decide) ?_
  refine k_imul C d_Mo_begin_84 ?_
  refine k_iload C d_Mo_begin_85 rfl ?_
  refine k_iadd C d_Mo_begin_87 ?_
  refine k_iconst C d_Mo_begin_88 (v := (-1)) (by decide) ?_
  refine k_iastore C d_Mo_begin_89 am_16 (by decide) (mx (g) 4 (2) 24 (by omega) (by decide)).1 (mx (g) 4 (2) 24 (by omega) (by decide)).2 I13 (Or.inl rfl) (fun I14 => ?_)
  refine k_iinc C d_Mo_begin_90 rfl (v := 3) (by decide) (by decide) ?_
  refine k_goto C d_Mo_begin_93 (tgt := 60) (by decide) ?_
  refine k_iload C d_Mo_begin_60 rfl ?_
  refine k_iconst C d_Mo_begin_62 (v := 4) (by decide) ?_
  refine k_icmp_ge C d_Mo_begin_63 (tgt := 96) (by decide) (fun h => absurd h (by decide)) (fun _ => ?_)
  refine k_aload_n C d_Mo_begin_66 rfl ?_
  refine k_getr C d_Mo_begin_67 fg_Mo_52 (by decide) rfl ?_
  refine k_iload_n C d_Mo_begin_70 rfl ?_
  refine k_iconst C d_Mo_begin_71 (v := 4) (by decide) ?_
  refine k_imul C d_Mo_begin_72 ?_
  refine k_iload C d_Mo_begin_73 rfl ?_
  refine k_iadd C d_Mo_begin_75 ?_
  refine k_iconst C d_Mo_begin_76 (v := 0) (by decide) ?_
  refine k_iastore C d_Mo_begin_77 am_15 (by decide) (mx (g) 4 (3) 24 (by omega) (by decide)).1 (mx (g) 4 (3) 24 (by omega) (by decide)).2 I14 (trivial) (fun I15 => ?_)
  refine k_aload_n C d_Mo_begin_78 rfl ?_
  refine k_getr C d_Mo_begin_79 fg_Mo_55 (by decide) rfl ?_
  refine k_iload_n C d_Mo_begin_82 rfl ?_
  refine k_iconst C d_Mo_begin_83 (v := 4) (by decide) ?_
  refine k_imul C d_Mo_begin_84 ?_
  refine k_iload C d_Mo_begin_85 rfl ?_
  refine k_iadd C d_Mo_begin_87 ?_
  refine k_iconst C d_Mo_begin_88 (v := (-1)) (by decide) ?_
  refine k_iastore C d_Mo_begin_89 am_16 (by decide) (mx (g) 4 (3) 24 (by omega) (by decide)).1 (mx (g) 4 (3) 24 (by omega) (by decide)).2 I15 (Or.inl rfl) (fun I16 => ?_)
  refine k_iinc C d_Mo_begin_90 rfl (v := 4) (by decide) (by decide) ?_
  refine k_goto C d_Mo_begin_93 (tgt := 60) (by decide) ?_
  refine k_iload C d_Mo_begin_60 rfl ?_
  refine k_iconst C d_Mo_begin_62 (v := 4) (by decide) ?_
  refine k_icmp_ge C d_Mo_begin_63 (tgt := 96) (by decide) (fun _ => ?_) (fun h => absurd h (by decide))
  refine k_aload_n C d_Mo_begin_96 rfl ?_
  refine k_iload_n C d_Mo_begin_97 rfl ?_
  refine k_callVv C kg_all (c_Mo_wake l G _ _ g rfl I16 hg (by (repeat rw [mt_ne (by decide)]); first | assumption | omega)) cs_Mo_98 cv_Mo_wake om_0 (by decide) rfl rfl (Nat.le_of_ble_eq_true rfl) ⟨rfl, rfl⟩ ⟨by decide, by decide⟩ ⟨Nat.zero_le _, Nat.zero_le _⟩ d_Mo_begin_98 (iv_mwake I16 (by (repeat rw [mt_ne (by decide)]); first | assumption | omega) hg) (fun I17 => ?_)
  exact k_return C (E.to rfl (by first | rfl | (simp only [m_begin, m_begL, m_beg0, ↓reduceIte, Nat.reduceAdd]; done) | (simp only [m_begin, m_begL, m_beg0, ↓reduceIte, Nat.reduceAdd]; rfl) | contradiction | (simp [m_begin, m_begL, m_beg0, ↓reduceIte, Nat.reduceAdd]; done) | (simp [m_begin, m_begL, m_beg0, ↓reduceIte, Nat.reduceAdd]; rfl))) d_Mo_begin_101
set_option maxHeartbeats 4000000 in
set_option maxRecDepth 100000 in
theorem c_Mo_unmap (l : Launch) (G : kG) (K : kM) (x0 : Int32) (x1 : Int32) (g p : Nat) (e0 : x0 = nI g) (e1 : x1 = nI p) (I0 : m_Inv K) (hg : g < 6) (hp : p < 4) : k_Met l mS kT y_Mo_unmap b_Mo_unmap 3 none (k_rm 0) G [.ref (G.2.2 0 0), .int x0, .int x1] K none (m_unmap K g p) := by
  subst e0
  subst e1
  refine k_intro (by decide +kernel) rfl (Nat.le_of_ble_eq_true rfl) ?_
  intro X C E
  refine k_aload_n C d_Mo_unmap_0 rfl ?_
  refine k_getr C d_Mo_unmap_1 fg_Mo_55 (by decide) rfl ?_
  refine k_iload_n C d_Mo_unmap_4 rfl ?_
  refine k_iconst C d_Mo_unmap_5 (v := 4) (by decide) ?_
  refine k_imul C d_Mo_unmap_6 ?_
  refine k_iload_n C d_Mo_unmap_7 rfl ?_
  refine k_iadd C d_Mo_unmap_8 ?_
  refine k_iaload C d_Mo_unmap_9 am_16 (by decide) (mx (g) 4 (p) 24 (by omega) (by decide)).1 (mx (g) 4 (p) 24 (by omega) (by decide)).2 ?_
  refine k_if_ge C d_Mo_unmap_10 (tgt := 14) (by decide) (fun h1 => ?_) (fun h1 => ?_)
  · refine k_aload_n C d_Mo_unmap_14 rfl ?_
    refine k_getr C d_Mo_unmap_15 fg_Mo_61 (by decide) rfl ?_
    refine k_aload_n C d_Mo_unmap_18 rfl ?_
    refine k_getr C d_Mo_unmap_19 fg_Mo_55 (by decide) rfl ?_
    refine k_iload_n C d_Mo_unmap_22 rfl ?_
    refine k_iconst C d_Mo_unmap_23 (v := 4) (by decide) ?_
    refine k_imul C d_Mo_unmap_24 ?_
    refine k_iload_n C d_Mo_unmap_25 rfl ?_
    refine k_iadd C d_Mo_unmap_26 ?_
    refine k_iaload C d_Mo_unmap_27 am_16 (by decide) (mx (g) 4 (p) 24 (by omega) (by decide)).1 (mx (g) 4 (p) 24 (by omega) (by decide)).2 ?_
    refine k_iconst C d_Mo_unmap_28 (v := 0) (by decide) ?_
    refine k_zastore C d_Mo_unmap_29 am_18 (by decide) (m_neg12 (I0 16 0 _) h1) rfl (by first | rfl | decide) I0 (trivial) (fun I2 => ?_)
    refine k_aload_n C d_Mo_unmap_30 rfl ?_
    refine k_getr C d_Mo_unmap_31 fg_Mo_55 (by decide) rfl ?_
    refine k_iload_n C d_Mo_unmap_34 rfl ?_
    refine k_iconst C d_Mo_unmap_35 (v := 4) (by decide) ?_
    refine k_imul C d_Mo_unmap_36 ?_
    refine k_iload_n C d_Mo_unmap_37 rfl ?_
    refine k_iadd C d_Mo_unmap_38 ?_
    refine k_iconst C d_Mo_unmap_39 (v := (-1)) (by decide) ?_
    refine k_iastore C d_Mo_unmap_40 am_16 (by decide) (mx (g) 4 (p) 24 (by omega) (by decide)).1 (mx (g) 4 (p) 24 (by omega) (by decide)).2 I2 (Or.inl rfl) (fun I3 => ?_)
    refine k_aload_n C d_Mo_unmap_41 rfl ?_
    refine k_getr C d_Mo_unmap_42 fg_Mo_34 (by decide) rfl ?_
    refine k_iload_n C d_Mo_unmap_45 rfl ?_
    refine k_dup2 C d_Mo_unmap_46 rfl rfl ?_
    refine k_iaload C d_Mo_unmap_47 am_9 (by decide) (vp_in_nI (by omega) (by decide)) (nI_clamp (by omega)) ?_
    refine k_iconst C d_Mo_unmap_48 (v := 1) (by decide) ?_
    refine k_isub C d_Mo_unmap_49 ?_
    refine k_iastore C d_Mo_unmap_50 am_9 (by decide) (vp_in_nI (by omega) (by decide)) (nI_clamp (by omega)) I3 (trivial) (fun I4 => ?_)
    exact k_return C (E.to rfl (by first | (simp only [m_unmap, h1, ↓reduceIte]; done) | (simp only [m_unmap, h1, ↓reduceIte]; rfl) | contradiction | rfl)) d_Mo_unmap_51
  · exact k_return C (E.to rfl (by first | (simp only [m_unmap, h1, ↓reduceIte]; done) | (simp only [m_unmap, h1, ↓reduceIte]; rfl) | contradiction | rfl)) d_Mo_unmap_13
set_option maxHeartbeats 4000000 in
set_option maxRecDepth 100000 in
theorem c_Mo_unlock (l : Launch) (G : kG) (K : kM) (x0 : Int32) (k : Nat) (e0 : x0 = nI k) (I0 : m_Inv K) (hk : k < 4) (ht : m_tot K ≤ 6) : k_Met l mS kT y_Mo_unlock b_Mo_unlock 2 none (k_rm 2) G [.ref (G.2.2 0 0), .int x0] K none (m_unl K k) := by
  subst e0
  refine k_intro (by decide +kernel) rfl (Nat.le_of_ble_eq_true rfl) ?_
  intro X C E
  refine k_aload_n C d_Mo_unlock_0 rfl ?_
  refine k_getr C d_Mo_unlock_1 fg_Mo_77 (by decide) rfl ?_
  refine k_iload_n C d_Mo_unlock_4 rfl ?_
  refine k_aload_n C d_Mo_unlock_5 rfl ?_
  refine k_getr C d_Mo_unlock_6 fg_Mo_68 (by decide) rfl ?_
  refine k_bipush C d_Mo_unlock_9 (v := 10) (by decide) ?_
  refine k_iload_n C d_Mo_unlock_11 rfl ?_
  refine k_iadd C d_Mo_unlock_12 ?_
  refine k_iaload C d_Mo_unlock_13 am_20 (by decide) (mt (10) (k) 14 (by omega) (by decide)).1 (mt (10) (k) 14 (by omega) (by decide)).2 ?_
  refine k_if_le C d_Mo_unlock_14 (tgt := 28) (by decide) (fun h1 => ?_) (fun h1 => ?_)
  · refine k_iconst C d_Mo_unlock_28 (v := (-1)) (by decide) ?_
    refine k_iastore C d_Mo_unlock_29 am_23 (by decide) (vp_in_nI (by omega) (by decide)) (nI_clamp (by omega)) I0 (Or.inl rfl) (fun I2 => ?_)
    refine k_aload_n C d_Mo_unlock_30 rfl ?_
    refine k_getr C d_Mo_unlock_31 fg_Mo_77 (by decide) rfl ?_
    refine k_iload_n C d_Mo_unlock_34 rfl ?_
    refine k_iaload C d_Mo_unlock_35 am_23 (by decide) (vp_in_nI (by omega) (by decide)) (nI_clamp (by omega)) ?_
    refine k_if_lt C d_Mo_unlock_36 (tgt := 49) (by decide) (fun h3 => ?_) (fun h3 => absurd (by rw [k_up_eq]; decide) h3)
    exact k_return C (E.to rfl (by first | (simp only [m_unl, m_unl1, h1, h3, ↓reduceIte]; done) | (simp only [m_unl, m_unl1, h1, h3, ↓reduceIte]; rfl) | contradiction | rfl)) d_Mo_unlock_49
  · refine k_aload_n C d_Mo_unlock_17 rfl ?_
    refine k_bipush C d_Mo_unlock_18 (v := 10) (by decide) ?_
    refine k_iload_n C d_Mo_unlock_20 rfl ?_
    refine k_iadd C d_Mo_unlock_21 ?_
    refine k_callVi C kg_all (c_Mo_take l G _ _ (10 + k) (nI_add 10 k) I0 (by omega) h1) cs_Mo_106 cv_Mo_take om_0 (by decide) rfl rfl (Nat.le_of_ble_eq_true rfl) ⟨rfl, rfl⟩ ⟨by decide, by decide⟩ ⟨Nat.zero_le _, Nat.zero_le _⟩ d_Mo_unlock_22 (iv_mtk I0 h1) (fun I4 => ?_)
    refine k_goto C d_Mo_unlock_25 (tgt := 29) (by decide) ?_
    refine k_iastore C d_Mo_unlock_29 am_23 (by decide) (vp_in_nI (by omega) (by decide)) (nI_clamp (by omega)) I4 (Or.inr (r_tkX _ I0)) (fun I5 => ?_)
    refine k_aload_n C d_Mo_unlock_30 rfl ?_
    refine k_getr C d_Mo_unlock_31 fg_Mo_77 (by decide) rfl ?_
    refine k_iload_n C d_Mo_unlock_34 rfl ?_
    refine k_iaload C d_Mo_unlock_35 am_23 (by decide) (vp_in_nI (by omega) (by decide)) (nI_clamp (by omega)) ?_
    refine k_if_lt C d_Mo_unlock_36 (tgt := 49) (by decide) (fun h6 => ?_) (fun h6 => ?_)
    · exact k_return C (E.to rfl (by first | (simp only [m_unl, m_unl1, h1, h6, ↓reduceIte]; done) | (simp only [m_unl, m_unl1, h1, h6, ↓reduceIte]; rfl) | contradiction | rfl)) d_Mo_unlock_49
    · refine k_aload_n C d_Mo_unlock_39 rfl ?_
      refine k_aload_n C d_Mo_unlock_40 rfl ?_
      refine k_getr C d_Mo_unlock_41 fg_Mo_77 (by decide) rfl ?_
      refine k_iload_n C d_Mo_unlock_44 rfl ?_
      refine k_iaload C d_Mo_unlock_45 am_23 (by decide) (vp_in_nI (by omega) (by decide)) (nI_clamp (by omega)) ?_
      refine k_callVv C kg_all (c_Mo_wake l G _ _ _ (r_id (m_neg (I5 23 0 k) h6) (by decide)) I5 (k_lt (m_neg (I5 23 0 k) h6)) (by rw [mt_ne (by decide)]; have := mt_tk I0 h1 (show 10 + k < 14 by omega); omega)) cs_Mo_98 cv_Mo_wake om_0 (by decide) rfl rfl (Nat.le_of_ble_eq_true rfl) ⟨rfl, rfl⟩ ⟨by decide, by decide⟩ ⟨Nat.zero_le _, Nat.zero_le _⟩ d_Mo_unlock_46 (iv_mwake I5 (by rw [mt_ne (by decide)]; have := mt_tk I0 h1 (show 10 + k < 14 by omega); omega) (k_lt (m_neg (I5 23 0 k) h6))) (fun I7 => ?_)
      exact k_return C (E.to rfl (by first | (simp only [m_unl, m_unl1, h1, h6, ↓reduceIte]; done) | (simp only [m_unl, m_unl1, h1, h6, ↓reduceIte]; rfl) | contradiction | rfl)) d_Mo_unlock_49
set_option maxHeartbeats 4000000 in
set_option maxRecDepth 100000 in
theorem c_Mo_block (l : Launch) (G : kG) (K : kM) (x0 : Int32) (x1 : Int32) (g r : Nat) (e0 : x0 = nI g) (e1 : x1 = nI r) (I0 : m_Inv K) (hg : g < 6) (hr : r < 14) (ht : m_tot K ≤ 5) : k_Met l mS kT y_Mo_block b_Mo_block 3 none (k_rm 1) G [.ref (G.2.2 0 0), .int x0, .int x1] K none (m_blk K g r) := by
  subst e0
  subst e1
  refine k_intro (by decide +kernel) rfl (Nat.le_of_ble_eq_true rfl) ?_
  intro X C E
  refine k_aload_n C d_Mo_block_0 rfl ?_
  refine k_getr C d_Mo_block_1 fg_Mo_22 (by decide) rfl ?_
  refine k_iload_n C d_Mo_block_4 rfl ?_
  refine k_iconst C d_Mo_block_5 (v := 2) (by decide) ?_
  refine k_iastore C d_Mo_block_6 am_5 (by decide) (vp_in_nI (by omega) (by decide)) (nI_clamp (by omega)) I0 (trivial) (fun I1 => ?_)
  refine k_aload_n C d_Mo_block_7 rfl ?_
  refine k_iload_n C d_Mo_block_8 rfl ?_
  refine k_iload_n C d_Mo_block_9 rfl ?_
  refine k_callVv C kg_all (c_Mo_add l G _ _ _ r g rfl rfl I1 hr hg (by (repeat rw [mt_ne (by decide)]); first | assumption | omega)) cs_Mo_94 cv_Mo_add om_0 (by decide) rfl rfl (Nat.le_of_ble_eq_true rfl) ⟨rfl, rfl⟩ ⟨by decide, by decide⟩ ⟨Nat.zero_le _, Nat.zero_le _⟩ d_Mo_block_10 (iv_madd I1 (by (repeat rw [mt_ne (by decide)]); first | assumption | omega) hr hg) (fun I2 => ?_)
  exact k_return C (E.to rfl (by first | rfl | (simp only [m_blk, ↓reduceIte, Nat.reduceAdd]; done) | (simp only [m_blk, ↓reduceIte, Nat.reduceAdd]; rfl) | contradiction | (simp [m_blk, ↓reduceIte, Nat.reduceAdd]; done) | (simp [m_blk, ↓reduceIte, Nat.reduceAdd]; rfl))) d_Mo_block_13
