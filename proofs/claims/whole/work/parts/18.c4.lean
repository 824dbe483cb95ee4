set_option maxHeartbeats 4000000 in
set_option maxRecDepth 100000 in
theorem c_Ke_receive (l : Launch) (G : kG) (K : kM) (g : Nat) (a n : Int32) (I0 : g_Inv K) (hg : g < 6) (ha : vp_in a 4) : k_Met l gS kT y_Ke_receive b_Ke_receive 6 (some .int) (k_rm 2) G [.ref (G.2.2 0 0), .ref (G.2.2 7 g), .int a, .int n] K (some (.int (g_n4 n))) (g_recvT K g a n) := by
  refine k_intro (by decide +kernel) rfl (Nat.le_of_ble_eq_true rfl) ?_
  intro X C E
  refine k_iload_n C d_Ke_receive_0 rfl ?_
  refine k_iconst C d_Ke_receive_1 (v := 4) (by decide) ?_
  refine k_callSi C kg_all (c_Ke_isOutside l G _ _ _ I0) cs_Ke_179 cv_Ke_isOutside rfl rfl (Nat.le_of_ble_eq_true rfl) ⟨rfl, rfl⟩ ⟨by decide, by decide⟩ ⟨Nat.zero_le _, Nat.zero_le _⟩ d_Ke_receive_2 I0 (fun I1 => ?_)
  refine k_if_eq C d_Ke_receive_5 (tgt := 10) (by decide) (fun h2 => ?_) (fun h2 => ?_)
  · refine k_aload_n C d_Ke_receive_10 rfl ?_
    refine k_getr C d_Ke_receive_11 fg_Ke_43 (by first | assumption | decide | exact k_lt (by assumption)) rfl ?_
    refine k_iload_n C d_Ke_receive_14 rfl ?_
    refine k_aaload C d_Ke_receive_15 ar_16 (by first | assumption | decide | exact k_lt (by assumption)) (r_out4 h2) rfl rfl ?_
    refine k_astore C d_Ke_receive_16 (by decide) ?_
    refine k_aload C d_Ke_receive_18 rfl ?_
    refine k_get C d_Ke_receive_20 fg_Ke_144 (k_lt (r_out4 h2)) rfl ?_
    refine k_if_ne C d_Ke_receive_23 (tgt := 38) (by decide) (fun h3 => ?_) (fun h3 => ?_)
    · refine k_aload_n C d_Ke_receive_38 rfl ?_
      refine k_getr C d_Ke_receive_39 fg_Ke_94 (by first | assumption | decide | exact k_lt (by assumption)) rfl ?_
      refine k_iload_n C d_Ke_receive_42 rfl ?_
      refine k_aload C d_Ke_receive_43 rfl ?_
      refine k_callVi C kg_all (c_Ch_takeFirst l G _ _ I1 (k_lt (r_out4 h2))) cs_Ke_289 cv_Ch_takeFirst ob_17 (k_lt (r_out4 h2)) rfl rfl (Nat.le_of_ble_eq_true rfl) ⟨rfl, rfl⟩ ⟨by decide, by decide⟩ ⟨Nat.zero_le _, Nat.zero_le _⟩ d_Ke_receive_45 (iv_chT I1) (fun I4 => ?_)
      refine k_iastore C d_Ke_receive_48 ar_8 (by first | assumption | decide | exact k_lt (by assumption)) (by assumption) rfl I4 (trivial) (fun I5 => ?_)
      refine k_aload C d_Ke_receive_49 rfl ?_
      refine k_getr C d_Ke_receive_51 fg_Ke_145 (k_lt (r_out4 h2)) rfl ?_
      refine k_callVi C kg_all (c_Ro_takeFirst l G _ _ I5 (by have := k_lt (r_out4 h2); omega)) cs_Ke_211 cv_Ro_takeFirst ob_12 (by have := k_lt (r_out4 h2); omega) rfl rfl (Nat.le_of_ble_eq_true rfl) ⟨rfl, rfl⟩ ⟨by decide, by decide⟩ ⟨Nat.zero_le _, Nat.zero_le _⟩ d_Ke_receive_54 (iv_rowT I5) (fun I6 => ?_)
      refine k_istore C d_Ke_receive_57 (by decide) ?_
      refine k_iload C d_Ke_receive_59 rfl ?_
      refine k_iconst C d_Ke_receive_61 (v := (-1)) (by decide) ?_
      refine k_icmp_eq C d_Ke_receive_62 (tgt := 102) (by decide) (fun h7 => ?_) (fun h7 => ?_)
      · refine k_iconst C d_Ke_receive_102 (v := 0) (by decide) ?_
        exact k_ireturn C (E.to (by first | (simp only [g_n4, g_recvT, g_rcv1, h2, h3, h7, ↓reduceIte]; done) | (simp only [g_n4, g_recvT, g_rcv1, h2, h3, h7, ↓reduceIte]; rfl) | contradiction | rfl) (by first | (simp only [g_n4, g_recvT, g_rcv1, h2, h3, h7, ↓reduceIte]; done) | (simp only [g_n4, g_recvT, g_rcv1, h2, h3, h7, ↓reduceIte]; rfl) | contradiction | rfl)) d_Ke_receive_103
      · refine k_aload C d_Ke_receive_65 rfl ?_
        refine k_aload_n C d_Ke_receive_67 rfl ?_
        refine k_getr C d_Ke_receive_68 fg_Ke_25 (by first | assumption | decide | exact k_lt (by assumption)) rfl ?_
        refine k_iload C d_Ke_receive_71 rfl ?_
        refine k_aaload C d_Ke_receive_73 ar_6 (by first | assumption | decide | exact k_lt (by assumption)) (r_rowX1 I5 h7) rfl rfl ?_
        refine k_getr C d_Ke_receive_74 fg_Ke_94 (k_lt (r_rowX1 I5 h7)) rfl ?_
        refine k_aload_n C d_Ke_receive_77 rfl ?_
        refine k_getr C d_Ke_receive_78 fg_Ke_25 (by first | assumption | decide | exact k_lt (by assumption)) rfl ?_
        refine k_iload C d_Ke_receive_81 rfl ?_
        refine k_aaload C d_Ke_receive_83 ar_6 (by first | assumption | decide | exact k_lt (by assumption)) (r_rowX1 I5 h7) rfl rfl ?_
        refine k_get C d_Ke_receive_84 fg_Ke_286 (k_lt (r_rowX1 I5 h7)) rfl ?_
        refine k_iaload C d_Ke_receive_87 ar_8 (k_lt (r_rowX1 I5 h7)) (I6 7 _ 12) rfl ?_
        refine k_callVv C kg_all (c_Ch_put l G _ _ _ I6 (k_lt (r_out4 h2))) cs_Ke_283 cv_Ch_put ob_17 (k_lt (r_out4 h2)) rfl rfl (Nat.le_of_ble_eq_true rfl) ⟨rfl, rfl⟩ ⟨by decide, by decide⟩ ⟨Nat.zero_le _, Nat.zero_le _⟩ d_Ke_receive_88 (iv_put I6) (fun I8 => ?_)
        refine k_aload_n C d_Ke_receive_91 rfl ?_
        refine k_aload_n C d_Ke_receive_92 rfl ?_
        refine k_getr C d_Ke_receive_93 fg_Ke_25 (by first | assumption | decide | exact k_lt (by assumption)) rfl ?_
        refine k_iload C d_Ke_receive_96 rfl ?_
        refine k_aaload C d_Ke_receive_98 ar_6 (by first | assumption | decide | exact k_lt (by assumption)) (r_rowX1 I5 h7) rfl rfl ?_
        refine k_callVv C kg_all (c_Ke_makeReady l G _ _ I8 (k_lt (r_rowX1 I5 h7))) cs_Ke_57 cv_Ke_makeReady ob_0 (by first | assumption | decide | exact k_lt (by assumption)) rfl rfl (Nat.le_of_ble_eq_true rfl) ⟨rfl, rfl⟩ ⟨by decide, by decide⟩ ⟨Nat.zero_le _, Nat.zero_le _⟩ d_Ke_receive_99 (iv_ready I8 (k_lt (r_rowX1 I5 h7))) (fun I9 => ?_)
        refine k_iconst C d_Ke_receive_102 (v := 0) (by decide) ?_
        exact k_ireturn C (E.to (by first | (simp only [g_n4, g_recvT, g_rcv1, h2, h3, h7, ↓reduceIte]; done) | (simp only [g_n4, g_recvT, g_rcv1, h2, h3, h7, ↓reduceIte]; rfl) | contradiction | rfl) (by first | (simp only [g_n4, g_recvT, g_rcv1, h2, h3, h7, ↓reduceIte]; done) | (simp only [g_n4, g_recvT, g_rcv1, h2, h3, h7, ↓reduceIte]; rfl) | contradiction | rfl)) d_Ke_receive_103
    · refine k_aload_n C d_Ke_receive_26 rfl ?_
      refine k_iload_n C d_Ke_receive_27 rfl ?_
      refine k_aload C d_Ke_receive_28 rfl ?_
      refine k_getr C d_Ke_receive_30 fg_Ke_148 (k_lt (r_out4 h2)) rfl ?_
      refine k_callSv C kg_all (c_Ke_block l G _ _ _ _ I1 hg ha (by have := k_lt (r_out4 h2); omega)) cs_Ke_279 cv_Ke_block rfl rfl (Nat.le_of_ble_eq_true rfl) ⟨rfl, rfl⟩ ⟨by decide, by decide⟩ ⟨Nat.zero_le _, Nat.zero_le _⟩ d_Ke_receive_33 (iv_block I1 (by first | assumption | decide | exact k_lt (by assumption)) (by first | assumption | decide | exact k_lt (by assumption))) (fun I10 => ?_)
      refine k_iconst C d_Ke_receive_36 (v := 0) (by decide) ?_
      exact k_ireturn C (E.to (by first | (simp only [g_n4, g_recvT, g_rcv1, h2, h3, ↓reduceIte]; done) | (simp only [g_n4, g_recvT, g_rcv1, h2, h3, ↓reduceIte]; rfl) | contradiction | rfl) (by first | (simp only [g_n4, g_recvT, g_rcv1, h2, h3, ↓reduceIte]; done) | (simp only [g_n4, g_recvT, g_rcv1, h2, h3, ↓reduceIte]; rfl) | contradiction | rfl)) d_Ke_receive_37
  · refine k_iconst C d_Ke_receive_8 (v := 4) (by decide) ?_
    exact k_ireturn C (E.to (by first | (simp only [g_n4, g_recvT, g_rcv1, h2, ↓reduceIte]; done) | (simp only [g_n4, g_recvT, g_rcv1, h2, ↓reduceIte]; rfl) | contradiction | rfl) (by first | (simp only [g_n4, g_recvT, g_rcv1, h2, ↓reduceIte]; done) | (simp only [g_n4, g_recvT, g_rcv1, h2, ↓reduceIte]; rfl) | contradiction | rfl)) d_Ke_receive_9
set_option maxHeartbeats 4000000 in
set_option maxRecDepth 100000 in
theorem b_sp {X : kX} {G : kG} {l : Launch} {K : kM} (C : k_C X kT b_Ke_spawn y_Ke_spawn.cls gS G 7 l (k_rm 3)) (g : Nat) (m q n : Int32) (hg : g < 6) (I0 : g_Inv K) : ∀ c i : Nat, c + i = 6 → k_E X (some .int) (some (.int (g_spLX K c i))) (g_spLT K g m q n c i) 0 0 → k_W X 0 0 17 [(5, .int (nI i)), (0, .ref (G.2.2 0 0)), (1, .ref (G.2.2 7 g)), (2, .int m), (3, .int q), (4, .int n)] [] K
  | 0, i, hc, E => by
    have e : i = 6 := by omega
    subst e
    refine k_iload C d_Ke_spawn_17 rfl ?_
    refine k_bipush C d_Ke_spawn_19 (v := 6) (by decide) ?_
    refine k_icmp_ge C d_Ke_spawn_21 (tgt := 97) (by decide) (fun h1 => ?_) (fun h1 => absurd (by decide : (6 : Int32) ≤ nI 6) h1)
    refine k_iconst C d_Ke_spawn_97 (v := (-1)) (by decide) ?_
    exact k_ireturn C (E.to (by first | rfl | (simp only [g_spLX, g_spLT, ↓reduceIte, Nat.reduceAdd]; done) | (simp only [g_spLX, g_spLT, ↓reduceIte, Nat.reduceAdd]; rfl) | contradiction | (simp [g_spLX, g_spLT, ↓reduceIte, Nat.reduceAdd]; done) | (simp [g_spLX, g_spLT, ↓reduceIte, Nat.reduceAdd]; rfl)) (by first | rfl | (simp only [g_spLX, g_spLT, ↓reduceIte, Nat.reduceAdd]; done) | (simp only [g_spLX, g_spLT, ↓reduceIte, Nat.reduceAdd]; rfl) | contradiction | (simp [g_spLX, g_spLT, ↓reduceIte, Nat.reduceAdd]; done) | (simp [g_spLX, g_spLT, ↓reduceIte, Nat.reduceAdd]; rfl))) d_Ke_spawn_98
  | c + 1, i, hc, E => by
    have hi : i < 6 := by omega
    refine k_iload C d_Ke_spawn_17 rfl ?_
    refine k_bipush C d_Ke_spawn_19 (v := 6) (by decide) ?_
    refine k_icmp_ge C d_Ke_spawn_21 (tgt := 97) (by decide) (fun h1 => absurd h1 (nI_ge hi (by decide))) (fun h1 => ?_)
    refine k_aload_n C d_Ke_spawn_24 rfl ?_
    refine k_getr C d_Ke_spawn_25 fg_Ke_25 (by first | assumption | decide | exact k_lt (by assumption)) rfl ?_
    refine k_iload C d_Ke_spawn_28 rfl ?_
    refine k_aaload C d_Ke_spawn_30 ar_6 (by first | assumption | decide | exact k_lt (by assumption)) (vp_in_nI hi (by decide)) (j := i) (nI_clamp (by omega)) rfl ?_
    refine k_astore C d_Ke_spawn_31 (by decide) ?_
    refine k_aload C d_Ke_spawn_33 rfl ?_
    refine k_get C d_Ke_spawn_35 fg_Ke_98 (by first | assumption | decide | exact k_lt (by assumption)) rfl ?_
    refine k_iconst C d_Ke_spawn_38 (v := (-1)) (by decide) ?_
    refine k_icmp_ne C d_Ke_spawn_39 (tgt := 91) (by decide) (fun h2 => ?_) (fun h2 => ?_)
    · refine k_iinc C d_Ke_spawn_91 rfl (v := nI (i + 1)) (nI_1 i) (by decide) ?_
      refine k_goto C d_Ke_spawn_94 (tgt := 17) (by decide) ?_
      exact k_loc [(5, .int (nI (i + 1))), (0, .ref (G.2.2 0 0)), (1, .ref (G.2.2 7 g)), (2, .int m), (3, .int q), (4, .int n)] ⟨rfl, rfl, rfl, rfl, rfl, rfl, trivial⟩ (b_sp C g m q n hg I0 c (i + 1) (by omega) (E.to (by simp only [g_spLX, *, ↓reduceIte]) (by simp only [g_spLT, *, ↓reduceIte])))
    · refine k_aload C d_Ke_spawn_42 rfl ?_
      refine k_iload C d_Ke_spawn_44 rfl ?_
      refine k_iload_n C d_Ke_spawn_46 rfl ?_
      refine k_aload_n C d_Ke_spawn_47 rfl ?_
      refine k_get C d_Ke_spawn_48 fg_Ke_273 (by first | assumption | decide | exact k_lt (by assumption)) rfl ?_
      refine k_callVv C kg_all (c_Gu_begin l G _ _ _ _ _ I0 (by first | assumption | decide | exact k_lt (by assumption))) cs_Ke_53 cv_Gu_begin ob_7 (by first | assumption | decide | exact k_lt (by assumption)) rfl rfl (Nat.le_of_ble_eq_true rfl) ⟨rfl, rfl⟩ ⟨by decide, by decide⟩ ⟨Nat.zero_le _, Nat.zero_le _⟩ d_Ke_spawn_51 (iv_begin I0) (fun I3 => ?_)
      refine k_aload C d_Ke_spawn_54 rfl ?_
      refine k_getr C d_Ke_spawn_56 fg_Ke_94 (by first | assumption | decide | exact k_lt (by assumption)) rfl ?_
      refine k_iconst C d_Ke_spawn_59 (v := 0) (by decide) ?_
      refine k_iload_n C d_Ke_spawn_60 rfl ?_
      refine k_iastore C d_Ke_spawn_61 ar_8 (by first | assumption | decide | exact k_lt (by assumption)) (k_in (by decide)) (j := 0) (by decide) I3 (trivial) (fun I4 => ?_)
      refine k_aload_n C d_Ke_spawn_62 rfl ?_
      refine k_dup C d_Ke_spawn_63 rfl ?_
      refine k_get C d_Ke_spawn_64 fg_Ke_113 (by first | assumption | decide | exact k_lt (by assumption)) rfl ?_
      refine k_iload_n C d_Ke_spawn_67 rfl ?_
      refine k_iadd C d_Ke_spawn_68 ?_
      refine k_put C d_Ke_spawn_69 fp_Ke_113 (by first | assumption | decide | exact k_lt (by assumption)) rfl I4 (trivial) (fun I5 => ?_)
      refine k_aload_n C d_Ke_spawn_72 rfl ?_
      refine k_aload C d_Ke_spawn_73 rfl ?_
      refine k_callVv C kg_all (c_Ke_makeReady l G _ _ I5 (by first | assumption | decide | exact k_lt (by assumption))) cs_Ke_57 cv_Ke_makeReady ob_0 (by first | assumption | decide | exact k_lt (by assumption)) rfl rfl (Nat.le_of_ble_eq_true rfl) ⟨rfl, rfl⟩ ⟨by decide, by decide⟩ ⟨Nat.zero_le _, Nat.zero_le _⟩ d_Ke_spawn_75 (iv_ready I5 (by first | assumption | decide | exact k_lt (by assumption))) (fun I6 => ?_)
      refine k_aload_n C d_Ke_spawn_78 rfl ?_
      refine k_dup C d_Ke_spawn_79 rfl ?_
      refine k_get C d_Ke_spawn_80 fg_Ke_158 (by first | assumption | decide | exact k_lt (by assumption)) rfl ?_
      refine k_iconst C d_Ke_spawn_83 (v := 1) (by decide) ?_
      refine k_iadd C d_Ke_spawn_84 ?_
      refine k_put C d_Ke_spawn_85 fp_Ke_158 (by first | assumption | decide | exact k_lt (by assumption)) rfl I6 (trivial) (fun I7 => ?_)
      refine k_iload C d_Ke_spawn_88 rfl ?_
      exact k_ireturn C (E.to (by first | rfl | (simp only [g_spLX, g_spLT, g_sp1, h2, ↓reduceIte, Nat.reduceAdd]; done) | (simp only [g_spLX, g_spLT, g_sp1, h2, ↓reduceIte, Nat.reduceAdd]; rfl) | contradiction | (simp [g_spLX, g_spLT, g_sp1, h2, ↓reduceIte, Nat.reduceAdd]; done) | (simp [g_spLX, g_spLT, g_sp1, h2, ↓reduceIte, Nat.reduceAdd]; rfl)) (by first | rfl | (simp only [g_spLX, g_spLT, g_sp1, h2, ↓reduceIte, Nat.reduceAdd]; done) | (simp only [g_spLX, g_spLT, g_sp1, h2, ↓reduceIte, Nat.reduceAdd]; rfl) | contradiction | (simp [g_spLX, g_spLT, g_sp1, h2, ↓reduceIte, Nat.reduceAdd]; done) | (simp [g_spLX, g_spLT, g_sp1, h2, ↓reduceIte, Nat.reduceAdd]; rfl))) d_Ke_spawn_90
set_option maxHeartbeats 4000000 in
set_option maxRecDepth 100000 in
theorem c_Ke_spawn (l : Launch) (G : kG) (K : kM) (g : Nat) (m q n : Int32) (I0 : g_Inv K) (hg : g < 6) : k_Met l gS kT y_Ke_spawn b_Ke_spawn 7 (some .int) (k_rm 3) G [.ref (G.2.2 0 0), .ref (G.2.2 7 g), .int m, .int q, .int n] K (some (.int (g_spX K g q))) (g_spT K g m q n) := by
  refine k_intro (by decide +kernel) rfl (Nat.le_of_ble_eq_true rfl) ?_
  intro X C E
  refine k_iload_n C d_Ke_spawn_0 rfl ?_
  refine k_if_lt C d_Ke_spawn_1 (tgt := 12) (by decide) (fun h1 => ?_) (fun h1 => ?_)
  · refine k_iconst C d_Ke_spawn_12 (v := (-1)) (by decide) ?_
    exact k_ireturn C (E.to (by first | rfl | (simp only [g_spX, g_spT, h1, ↓reduceIte, Nat.reduceAdd]; done) | (simp only [g_spX, g_spT, h1, ↓reduceIte, Nat.reduceAdd]; rfl) | contradiction | (simp [g_spX, g_spT, h1, ↓reduceIte, Nat.reduceAdd]; done) | (simp [g_spX, g_spT, h1, ↓reduceIte, Nat.reduceAdd]; rfl)) (by first | rfl | (simp only [g_spX, g_spT, h1, ↓reduceIte, Nat.reduceAdd]; done) | (simp only [g_spX, g_spT, h1, ↓reduceIte, Nat.reduceAdd]; rfl) | contradiction | (simp [g_spX, g_spT, h1, ↓reduceIte, Nat.reduceAdd]; done) | (simp [g_spX, g_spT, h1, ↓reduceIte, Nat.reduceAdd]; rfl))) d_Ke_spawn_13
  · refine k_iload_n C d_Ke_spawn_4 rfl ?_
    refine k_aload_n C d_Ke_spawn_5 rfl ?_
    refine k_callVi C kg_all (c_Gu_quotaLeft l G _ _ I0 (by first | assumption | decide | exact k_lt (by assumption))) cs_Ke_260 cv_Gu_quotaLeft ob_7 (by first | assumption | decide | exact k_lt (by assumption)) rfl rfl (Nat.le_of_ble_eq_true rfl) ⟨rfl, rfl⟩ ⟨by decide, by decide⟩ ⟨Nat.zero_le _, Nat.zero_le _⟩ d_Ke_spawn_6 I0 (fun I2 => ?_)
    refine k_icmp_le C d_Ke_spawn_9 (tgt := 14) (by decide) (fun h3 => ?_) (fun h3 => ?_)
    · refine k_iconst C d_Ke_spawn_14 (v := 0) (by decide) ?_
      refine k_istore C d_Ke_spawn_15 (by decide) ?_
      exact k_loc [(5, .int (nI 0)), (0, .ref (G.2.2 0 0)), (1, .ref (G.2.2 7 g)), (2, .int m), (3, .int q), (4, .int n)] ⟨rfl, rfl, rfl, rfl, rfl, rfl, trivial⟩ (b_sp C g m q n hg I0 6 0 rfl (E.to (by simp only [g_spX, *, ↓reduceIte]) (by simp only [g_spT, *, ↓reduceIte])))
    · refine k_iconst C d_Ke_spawn_12 (v := (-1)) (by decide) ?_
      exact k_ireturn C (E.to (by first | rfl | (simp only [g_spX, g_spT, h1, h3, ↓reduceIte, Nat.reduceAdd]; done) | (simp only [g_spX, g_spT, h1, h3, ↓reduceIte, Nat.reduceAdd]; rfl) | contradiction | (simp [g_spX, g_spT, h1, h3, ↓reduceIte, Nat.reduceAdd]; done) | (simp [g_spX, g_spT, h1, h3, ↓reduceIte, Nat.reduceAdd]; rfl)) (by first | rfl | (simp only [g_spX, g_spT, h1, h3, ↓reduceIte, Nat.reduceAdd]; done) | (simp only [g_spX, g_spT, h1, h3, ↓reduceIte, Nat.reduceAdd]; rfl) | contradiction | (simp [g_spX, g_spT, h1, h3, ↓reduceIte, Nat.reduceAdd]; done) | (simp [g_spX, g_spT, h1, h3, ↓reduceIte, Nat.reduceAdd]; rfl))) d_Ke_spawn_13
set_option maxHeartbeats 4000000 in
set_option maxRecDepth 100000 in
theorem b_rp {X : kX} {G : kG} {l : Launch} {K : kM} (C : k_C X kT b_Ke_reap y_Ke_reap.cls gS G 6 l (k_rm 0)) (g : Nat) (a b : Int32) (hg : g < 6) (ha : vp_in a 4) (hb : vp_in b 4) (I0 : g_Inv K) : ∀ c i : Nat, c + i = 6 → k_E X none none (g_rpT K g a b c i) 0 0 → k_W X 0 0 3 [(4, .int (nI i)), (0, .ref (G.2.2 0 0)), (1, .ref (G.2.2 7 g)), (2, .int a), (3, .int b)] [] K
  | 0, i, hc, E => by
    have e : i = 6 := by omega
    subst e
    refine k_iload C d_Ke_reap_3 rfl ?_
    refine k_bipush C d_Ke_reap_5 (v := 6) (by decide) ?_
    refine k_icmp_ge C d_Ke_reap_7 (tgt := 96) (by decide) (fun h1 => ?_) (fun h1 => absurd (by decide : (6 : Int32) ≤ nI 6) h1)
    refine k_aload_n C d_Ke_reap_96 rfl ?_
    refine k_getr C d_Ke_reap_97 fg_Ke_94 (by first | assumption | decide | exact k_lt (by assumption)) rfl ?_
    refine k_iload_n C d_Ke_reap_100 rfl ?_
    refine k_iconst C d_Ke_reap_101 (v := (-1)) (by decide) ?_
    refine k_iastore C d_Ke_reap_102 ar_8 (by first | assumption | decide | exact k_lt (by assumption)) (by assumption) rfl I0 (trivial) (fun I2 => ?_)
    exact k_return C (E.to rfl (by first | rfl | (simp only [g_rpT, ↓reduceIte, Nat.reduceAdd]; done) | (simp only [g_rpT, ↓reduceIte, Nat.reduceAdd]; rfl) | contradiction | (simp [g_rpT, ↓reduceIte, Nat.reduceAdd]; done) | (simp [g_rpT, ↓reduceIte, Nat.reduceAdd]; rfl))) d_Ke_reap_103
  | c + 1, i, hc, E => by
    have hi : i < 6 := by omega
    refine k_iload C d_Ke_reap_3 rfl ?_
    refine k_bipush C d_Ke_reap_5 (v := 6) (by decide) ?_
    refine k_icmp_ge C d_Ke_reap_7 (tgt := 96) (by decide) (fun h1 => absurd h1 (nI_ge hi (by decide))) (fun h1 => ?_)
    refine k_aload_n C d_Ke_reap_10 rfl ?_
    refine k_getr C d_Ke_reap_11 fg_Ke_25 (by first | assumption | decide | exact k_lt (by assumption)) rfl ?_
    refine k_iload C d_Ke_reap_14 rfl ?_
    refine k_aaload C d_Ke_reap_16 ar_6 (by first | assumption | decide | exact k_lt (by assumption)) (vp_in_nI hi (by decide)) (j := i) (nI_clamp (by omega)) rfl ?_
    refine k_astore C d_Ke_reap_17 (by decide) ?_
    refine k_aload C d_Ke_reap_19 rfl ?_
    refine k_get C d_Ke_reap_21 fg_Ke_98 (by first | assumption | decide | exact k_lt (by assumption)) rfl ?_
    refine k_iconst C d_Ke_reap_24 (v := 3) (by decide) ?_
    refine k_icmp_ne C d_Ke_reap_25 (tgt := 90) (by decide) (fun h2 => ?_) (fun h2 => ?_)
    · refine k_iinc C d_Ke_reap_90 rfl (v := nI (i + 1)) (nI_1 i) (by decide) ?_
      refine k_goto C d_Ke_reap_93 (tgt := 3) (by decide) ?_
      exact k_loc [(4, .int (nI (i + 1))), (0, .ref (G.2.2 0 0)), (1, .ref (G.2.2 7 g)), (2, .int a), (3, .int b)] ⟨rfl, rfl, rfl, rfl, rfl, trivial⟩ (b_rp C g a b hg ha hb I0 c (i + 1) (by omega) (E.to rfl (by simp only [g_rpT, *, ↓reduceIte])))
    · refine k_aload C d_Ke_reap_28 rfl ?_
      refine k_get C d_Ke_reap_30 fg_Ke_116 (by first | assumption | decide | exact k_lt (by assumption)) rfl ?_
      refine k_aload_n C d_Ke_reap_33 rfl ?_
      refine k_get C d_Ke_reap_34 fg_Ke_273 (by first | assumption | decide | exact k_lt (by assumption)) rfl ?_
      refine k_icmp_ne C d_Ke_reap_37 (tgt := 90) (by decide) (fun h3 => ?_) (fun h3 => ?_)
      · refine k_iinc C d_Ke_reap_90 rfl (v := nI (i + 1)) (nI_1 i) (by decide) ?_
        refine k_goto C d_Ke_reap_93 (tgt := 3) (by decide) ?_
        exact k_loc [(4, .int (nI (i + 1))), (0, .ref (G.2.2 0 0)), (1, .ref (G.2.2 7 g)), (2, .int a), (3, .int b)] ⟨rfl, rfl, rfl, rfl, rfl, trivial⟩ (b_rp C g a b hg ha hb I0 c (i + 1) (by omega) (E.to rfl (by simp only [g_rpT, *, ↓reduceIte])))
      · refine k_aload C d_Ke_reap_40 rfl ?_
        refine k_iconst C d_Ke_reap_42 (v := (-1)) (by decide) ?_
        refine k_put C d_Ke_reap_43 fp_Ke_98 (by first | assumption | decide | exact k_lt (by assumption)) rfl I0 (trivial) (fun I4 => ?_)
        refine k_aload_n C d_Ke_reap_46 rfl ?_
        refine k_dup C d_Ke_reap_47 rfl ?_
        refine k_get C d_Ke_reap_48 fg_Ke_113 (by first | assumption | decide | exact k_lt (by assumption)) rfl ?_
        refine k_aload C d_Ke_reap_51 rfl ?_
        refine k_get C d_Ke_reap_53 fg_Ke_107 (by first | assumption | decide | exact k_lt (by assumption)) rfl ?_
        refine k_isub C d_Ke_reap_56 ?_
        refine k_put C d_Ke_reap_57 fp_Ke_113 (by first | assumption | decide | exact k_lt (by assumption)) rfl I4 (trivial) (fun I5 => ?_)
        refine k_aload_n C d_Ke_reap_60 rfl ?_
        refine k_getr C d_Ke_reap_61 fg_Ke_94 (by first | assumption | decide | exact k_lt (by assumption)) rfl ?_
        refine k_iload_n C d_Ke_reap_64 rfl ?_
        refine k_iload C d_Ke_reap_65 rfl ?_
        refine k_iastore C d_Ke_reap_67 ar_8 (by first | assumption | decide | exact k_lt (by assumption)) (by assumption) rfl I5 (trivial) (fun I6 => ?_)
        refine k_aload_n C d_Ke_reap_68 rfl ?_
        refine k_getr C d_Ke_reap_69 fg_Ke_94 (by first | assumption | decide | exact k_lt (by assumption)) rfl ?_
        refine k_iload_n C d_Ke_reap_72 rfl ?_
        refine k_aload C d_Ke_reap_73 rfl ?_
        refine k_get C d_Ke_reap_75 fg_Ke_119 (by first | assumption | decide | exact k_lt (by assumption)) rfl ?_
        refine k_iastore C d_Ke_reap_78 ar_8 (by first | assumption | decide | exact k_lt (by assumption)) (by assumption) rfl I6 (trivial) (fun I7 => ?_)
        refine k_aload_n C d_Ke_reap_79 rfl ?_
        refine k_dup C d_Ke_reap_80 rfl ?_
        refine k_get C d_Ke_reap_81 fg_Ke_161 (by first | assumption | decide | exact k_lt (by assumption)) rfl ?_
        refine k_iconst C d_Ke_reap_84 (v := 1) (by decide) ?_
        refine k_iadd C d_Ke_reap_85 ?_
        refine k_put C d_Ke_reap_86 fp_Ke_161 (by first | assumption | decide | exact k_lt (by assumption)) rfl I7 (trivial) (fun I8 => ?_)
        exact k_return C (E.to rfl (by first | rfl | (simp only [g_rpT, g_rp1, h2, h3, ↓reduceIte, Nat.reduceAdd]; done) | (simp only [g_rpT, g_rp1, h2, h3, ↓reduceIte, Nat.reduceAdd]; rfl) | contradiction | (simp [g_rpT, g_rp1, h2, h3, ↓reduceIte, Nat.reduceAdd]; done) | (simp [g_rpT, g_rp1, h2, h3, ↓reduceIte, Nat.reduceAdd]; rfl))) d_Ke_reap_89
set_option maxHeartbeats 4000000 in
set_option maxRecDepth 100000 in
theorem c_Ke_reap (l : Launch) (G : kG) (K : kM) (g : Nat) (a b : Int32) (I0 : g_Inv K) (hg : g < 6) (ha : vp_in a 4) (hb : vp_in b 4) : k_Met l gS kT y_Ke_reap b_Ke_reap 6 none (k_rm 0) G [.ref (G.2.2 0 0), .ref (G.2.2 7 g), .int a, .int b] K none (g_rpT K g a b 6 0) := by
  refine k_intro (by decide +kernel) rfl (Nat.le_of_ble_eq_true rfl) ?_
  intro X C E
  refine k_iconst C d_Ke_reap_0 (v := 0) (by decide) ?_
  refine k_istore C d_Ke_reap_1 (by decide) ?_
  exact k_loc [(4, .int (nI 0)), (0, .ref (G.2.2 0 0)), (1, .ref (G.2.2 7 g)), (2, .int a), (3, .int b)] ⟨rfl, rfl, rfl, rfl, rfl, trivial⟩ (b_rp C g a b hg ha hb I0 6 0 rfl E)
set_option maxHeartbeats 4000000 in
set_option maxRecDepth 100000 in
theorem c_Gu_calculate (l : Launch) (G : kG) (K : kM) (g : Nat) (op a b n : Int32) (I0 : g_Inv K) (hg : g < 6) (ho : vp_in op 22) (ha : vp_in a 4) (hb : vp_in b 4) : k_Met l gS kT y_Gu_calculate b_Gu_calculate 5 (some .int) (k_rm 2) G [.ref (G.2.2 7 g), .int op, .int a, .int b, .int n] K (some (.int (g_calX K g op b))) (g_calT K g op a b n) := by
  refine k_intro (by decide +kernel) rfl (Nat.le_of_ble_eq_true rfl) ?_
  intro X C E
  refine k_iload_n C d_Gu_calculate_0 rfl ?_
  rcases r_c22 ho with rfl | rfl | rfl | rfl | rfl | rfl | rfl | rfl | rfl | rfl | rfl | rfl | rfl | rfl | rfl | rfl | rfl | rfl | rfl | rfl | rfl | rfl
  · refine k_tabOut C d_Gu_calculate_1 (by decide) (tgt := 235) (by decide) ?_
    refine k_iconst C d_Gu_calculate_235 (v := 0) (by decide) ?_
    exact k_ireturn C (E.to (by first | (simp only [gcT_0, gcT_1, gcT_2, gcT_3, gcT_4, gcT_5, gcT_6, gcT_7, gcT_8, gcT_9, gcT_10, gcT_11, gcT_12, gcT_13, gcT_14, gcT_15, gcT_16, gcT_17, gcT_18, gcT_19, gcT_20, gcT_21, gcX_0, gcX_1, gcX_2, gcX_3, gcX_4, gcX_5, gcX_6, gcX_7, gcX_8, gcX_9, gcX_10, gcX_11, gcX_12, gcX_13, gcX_14, gcX_15, gcX_16, gcX_17, gcX_18, gcX_19, gcX_20, gcX_21, ↓reduceIte]; done) | (simp only [gcT_0, gcT_1, gcT_2, gcT_3, gcT_4, gcT_5, gcT_6, gcT_7, gcT_8, gcT_9, gcT_10, gcT_11, gcT_12, gcT_13, gcT_14, gcT_15, gcT_16, gcT_17, gcT_18, gcT_19, gcT_20, gcT_21, gcX_0, gcX_1, gcX_2, gcX_3, gcX_4, gcX_5, gcX_6, gcX_7, gcX_8, gcX_9, gcX_10, gcX_11, gcX_12, gcX_13, gcX_14, gcX_15, gcX_16, gcX_17, gcX_18, gcX_19, gcX_20, gcX_21, ↓reduceIte]; rfl) | contradiction | rfl) (by first | (simp only [gcT_0, gcT_1, gcT_2, gcT_3, gcT_4, gcT_5, gcT_6, gcT_7, gcT_8, gcT_9, gcT_10, gcT_11, gcT_12, gcT_13, gcT_14, gcT_15, gcT_16, gcT_17, gcT_18, gcT_19, gcT_20, gcT_21, gcX_0, gcX_1, gcX_2, gcX_3, gcX_4, gcX_5, gcX_6, gcX_7, gcX_8, gcX_9, gcX_10, gcX_11, gcX_12, gcX_13, gcX_14, gcX_15, gcX_16, gcX_17, gcX_18, gcX_19, gcX_20, gcX_21, ↓reduceIte]; done) | (simp only [gcT_0, gcT_1, gcT_2, gcT_3, gcT_4, gcT_5, gcT_6, gcT_7, gcT_8, gcT_9, gcT_10, gcT_11, gcT_12, gcT_13, gcT_14, gcT_15, gcT_16, gcT_17, gcT_18, gcT_19, gcT_20, gcT_21, gcX_0, gcX_1, gcX_2, gcX_3, gcX_4, gcX_5, gcX_6, gcX_7, gcX_8, gcX_9, gcX_10, gcX_11, gcX_12, gcX_13, gcX_14, gcX_15, gcX_16, gcX_17, gcX_18, gcX_19, gcX_20, gcX_21, ↓reduceIte]; rfl) | contradiction | rfl)) d_Gu_calculate_236
  · refine k_tabIn C d_Gu_calculate_1 (by decide) (by decide) (off := 59) (by decide) (tgt := 60) (by decide) ?_
    refine k_aload_n C d_Gu_calculate_60 rfl ?_
    refine k_getr C d_Gu_calculate_61 fg_Gu_9 (by first | assumption | decide | exact k_lt (by assumption)) rfl ?_
    refine k_iload_n C d_Gu_calculate_64 rfl ?_
    refine k_iload C d_Gu_calculate_65 rfl ?_
    refine k_iastore C d_Gu_calculate_67 ar_8 (by first | assumption | decide | exact k_lt (by assumption)) (by assumption) rfl I0 (trivial) (fun I1 => ?_)
    refine k_goto C d_Gu_calculate_68 (tgt := 235) (by decide) ?_
    refine k_iconst C d_Gu_calculate_235 (v := 0) (by decide) ?_
    exact k_ireturn C (E.to (by first | (simp only [gcT_0, gcT_1, gcT_2, gcT_3, gcT_4, gcT_5, gcT_6, gcT_7, gcT_8, gcT_9, gcT_10, gcT_11, gcT_12, gcT_13, gcT_14, gcT_15, gcT_16, gcT_17, gcT_18, gcT_19, gcT_20, gcT_21, gcX_0, gcX_1, gcX_2, gcX_3, gcX_4, gcX_5, gcX_6, gcX_7, gcX_8, gcX_9, gcX_10, gcX_11, gcX_12, gcX_13, gcX_14, gcX_15, gcX_16, gcX_17, gcX_18, gcX_19, gcX_20, gcX_21, ↓reduceIte]; done) | (simp only [gcT_0, gcT_1, gcT_2, gcT_3, gcT_4, gcT_5, gcT_6, gcT_7, gcT_8, gcT_9, gcT_10, gcT_11, gcT_12, gcT_13, gcT_14, gcT_15, gcT_16, gcT_17, gcT_18, gcT_19, gcT_20, gcT_21, gcX_0, gcX_1, gcX_2, gcX_3, gcX_4, gcX_5, gcX_6, gcX_7, gcX_8, gcX_9, gcX_10, gcX_11, gcX_12, gcX_13, gcX_14, gcX_15, gcX_16, gcX_17, gcX_18, gcX_19, gcX_20, gcX_21, ↓reduceIte]; rfl) | contradiction | rfl) (by first | (simp only [gcT_0, gcT_1, gcT_2, gcT_3, gcT_4, gcT_5, gcT_6, gcT_7, gcT_8, gcT_9, gcT_10, gcT_11, gcT_12, gcT_13, gcT_14, gcT_15, gcT_16, gcT_17, gcT_18, gcT_19, gcT_20, gcT_21, gcX_0, gcX_1, gcX_2, gcX_3, gcX_4, gcX_5, gcX_6, gcX_7, gcX_8, gcX_9, gcX_10, gcX_11, gcX_12, gcX_13, gcX_14, gcX_15, gcX_16, gcX_17, gcX_18, gcX_19, gcX_20, gcX_21, ↓reduceIte]; done) | (simp only [gcT_0, gcT_1, gcT_2, gcT_3, gcT_4, gcT_5, gcT_6, gcT_7, gcT_8, gcT_9, gcT_10, gcT_11, gcT_12, gcT_13, gcT_14, gcT_15, gcT_16, gcT_17, gcT_18, gcT_19, gcT_20, gcT_21, gcX_0, gcX_1, gcX_2, gcX_3, gcX_4, gcX_5, gcX_6, gcX_7, gcX_8, gcX_9, gcX_10, gcX_11, gcX_12, gcX_13, gcX_14, gcX_15, gcX_16, gcX_17, gcX_18, gcX_19, gcX_20, gcX_21, ↓reduceIte]; rfl) | contradiction | rfl)) d_Gu_calculate_236
  · refine k_tabIn C d_Gu_calculate_1 (by decide) (by decide) (off := 70) (by decide) (tgt := 71) (by decide) ?_
    refine k_aload_n C d_Gu_calculate_71 rfl ?_
    refine k_getr C d_Gu_calculate_72 fg_Gu_9 (by first | assumption | decide | exact k_lt (by assumption)) rfl ?_
    refine k_iload_n C d_Gu_calculate_75 rfl ?_
    refine k_aload_n C d_Gu_calculate_76 rfl ?_
    refine k_getr C d_Gu_calculate_77 fg_Gu_9 (by first | assumption | decide | exact k_lt (by assumption)) rfl ?_
    refine k_iload_n C d_Gu_calculate_80 rfl ?_
    refine k_iaload C d_Gu_calculate_81 ar_8 (by first | assumption | decide | exact k_lt (by assumption)) (by assumption) rfl ?_
    refine k_iload C d_Gu_calculate_82 rfl ?_
    refine k_iadd C d_Gu_calculate_84 ?_
    refine k_iastore C d_Gu_calculate_85 ar_8 (by first | assumption | decide | exact k_lt (by assumption)) (by assumption) rfl I0 (trivial) (fun I2 => ?_)
    refine k_goto C d_Gu_calculate_86 (tgt := 235) (by decide) ?_
    refine k_iconst C d_Gu_calculate_235 (v := 0) (by decide) ?_
    exact k_ireturn C (E.to (by first | (simp only [gcT_0, gcT_1, gcT_2, gcT_3, gcT_4, gcT_5, gcT_6, gcT_7, gcT_8, gcT_9, gcT_10, gcT_11, gcT_12, gcT_13, gcT_14, gcT_15, gcT_16, gcT_17, gcT_18, gcT_19, gcT_20, gcT_21, gcX_0, gcX_1, gcX_2, gcX_3, gcX_4, gcX_5, gcX_6, gcX_7, gcX_8, gcX_9, gcX_10, gcX_11, gcX_12, gcX_13, gcX_14, gcX_15, gcX_16, gcX_17, gcX_18, gcX_19, gcX_20, gcX_21, ↓reduceIte]; done) | (simp only [gcT_0, gcT_1, gcT_2, gcT_3, gcT_4, gcT_5, gcT_6, gcT_7, gcT_8, gcT_9, gcT_10, gcT_11, gcT_12, gcT_13, gcT_14, gcT_15, gcT_16, gcT_17, gcT_18, gcT_19, gcT_20, gcT_21, gcX_0, gcX_1, gcX_2, gcX_3, gcX_4, gcX_5, gcX_6, gcX_7, gcX_8, gcX_9, gcX_10, gcX_11, gcX_12, gcX_13, gcX_14, gcX_15, gcX_16, gcX_17, gcX_18, gcX_19, gcX_20, gcX_21, ↓reduceIte]; rfl) | contradiction | rfl) (by first | (simp only [gcT_0, gcT_1, gcT_2, gcT_3, gcT_4, gcT_5, gcT_6, gcT_7, gcT_8, gcT_9, gcT_10, gcT_11, gcT_12, gcT_13, gcT_14, gcT_15, gcT_16, gcT_17, gcT_18, gcT_19, gcT_20, gcT_21, gcX_0, gcX_1, gcX_2, gcX_3, gcX_4, gcX_5, gcX_6, gcX_7, gcX_8, gcX_9, gcX_10, gcX_11, gcX_12, gcX_13, gcX_14, gcX_15, gcX_16, gcX_17, gcX_18, gcX_19, gcX_20, gcX_21, ↓reduceIte]; done) | (simp only [gcT_0, gcT_1, gcT_2, gcT_3, gcT_4, gcT_5, gcT_6, gcT_7, gcT_8, gcT_9, gcT_10, gcT_11, gcT_12, gcT_13, gcT_14, gcT_15, gcT_16, gcT_17, gcT_18, gcT_19, gcT_20, gcT_21, gcX_0, gcX_1, gcX_2, gcX_3, gcX_4, gcX_5, gcX_6, gcX_7, gcX_8, gcX_9, gcX_10, gcX_11, gcX_12, gcX_13, gcX_14, gcX_15, gcX_16, gcX_17, gcX_18, gcX_19, gcX_20, gcX_21, ↓reduceIte]; rfl) | contradiction | rfl)) d_Gu_calculate_236
  · refine k_tabIn C d_Gu_calculate_1 (by decide) (by decide) (off := 88) (by decide) (tgt := 89) (by decide) ?_
    refine k_aload_n C d_Gu_calculate_89 rfl ?_
    refine k_getr C d_Gu_calculate_90 fg_Gu_9 (by first | assumption | decide | exact k_lt (by assumption)) rfl ?_
    refine k_iload_n C d_Gu_calculate_93 rfl ?_
    refine k_dup2 C d_Gu_calculate_94 rfl rfl ?_
    refine k_iaload C d_Gu_calculate_95 ar_8 (by first | assumption | decide | exact k_lt (by assumption)) (by assumption) rfl ?_
    refine k_aload_n C d_Gu_calculate_96 rfl ?_
    refine k_getr C d_Gu_calculate_97 fg_Gu_9 (by first | assumption | decide | exact k_lt (by assumption)) rfl ?_
    refine k_iload_n C d_Gu_calculate_100 rfl ?_
    refine k_iaload C d_Gu_calculate_101 ar_8 (by first | assumption | decide | exact k_lt (by assumption)) (by assumption) rfl ?_
    refine k_iadd C d_Gu_calculate_102 ?_
    refine k_iastore C d_Gu_calculate_103 ar_8 (by first | assumption | decide | exact k_lt (by assumption)) (by assumption) rfl I0 (trivial) (fun I3 => ?_)
    refine k_goto C d_Gu_calculate_104 (tgt := 235) (by decide) ?_
    refine k_iconst C d_Gu_calculate_235 (v := 0) (by decide) ?_
    exact k_ireturn C (E.to (by first | (simp only [gcT_0, gcT_1, gcT_2, gcT_3, gcT_4, gcT_5, gcT_6, gcT_7, gcT_8, gcT_9, gcT_10, gcT_11, gcT_12, gcT_13, gcT_14, gcT_15, gcT_16, gcT_17, gcT_18, gcT_19, gcT_20, gcT_21, gcX_0, gcX_1, gcX_2, gcX_3, gcX_4, gcX_5, gcX_6, gcX_7, gcX_8, gcX_9, gcX_10, gcX_11, gcX_12, gcX_13, gcX_14, gcX_15, gcX_16, gcX_17, gcX_18, gcX_19, gcX_20, gcX_21, ↓reduceIte]; done) | (simp only [gcT_0, gcT_1, gcT_2, gcT_3, gcT_4, gcT_5, gcT_6, gcT_7, gcT_8, gcT_9, gcT_10, gcT_11, gcT_12, gcT_13, gcT_14, gcT_15, gcT_16, gcT_17, gcT_18, gcT_19, gcT_20, gcT_21, gcX_0, gcX_1, gcX_2, gcX_3, gcX_4, gcX_5, gcX_6, gcX_7, gcX_8, gcX_9, gcX_10, gcX_11, gcX_12, gcX_13, gcX_14, gcX_15, gcX_16, gcX_17, gcX_18, gcX_19, gcX_20, gcX_21, ↓reduceIte]; rfl) | contradiction | rfl) (by first | (simp only [gcT_0, gcT_1, gcT_2, gcT_3, gcT_4, gcT_5, gcT_6, gcT_7, gcT_8, gcT_9, gcT_10, gcT_11, gcT_12, gcT_13, gcT_14, gcT_15, gcT_16, gcT_17, gcT_18, gcT_19, gcT_20, gcT_21, gcX_0, gcX_1, gcX_2, gcX_3, gcX_4, gcX_5, gcX_6, gcX_7, gcX_8, gcX_9, gcX_10, gcX_11, gcX_12, gcX_13, gcX_14, gcX_15, gcX_16, gcX_17, gcX_18, gcX_19, gcX_20, gcX_21, ↓reduceIte]; done) | (simp only [gcT_0, gcT_1, gcT_2, gcT_3, gcT_4, gcT_5, gcT_6, gcT_7, gcT_8, gcT_9, gcT_10, gcT_11, gcT_12, gcT_13, gcT_14, gcT_15, gcT_16, gcT_17, gcT_18, gcT_19, gcT_20, gcT_21, gcX_0, gcX_1, gcX_2, gcX_3, gcX_4, gcX_5, gcX_6, gcX_7, gcX_8, gcX_9, gcX_10, gcX_11, gcX_12, gcX_13, gcX_14, gcX_15, gcX_16, gcX_17, gcX_18, gcX_19, gcX_20, gcX_21, ↓reduceIte]; rfl) | contradiction | rfl)) d_Gu_calculate_236
  · refine k_tabIn C d_Gu_calculate_1 (by decide) (by decide) (off := 106) (by decide) (tgt := 107) (by decide) ?_
    refine k_aload_n C d_Gu_calculate_107 rfl ?_
    refine k_getr C d_Gu_calculate_108 fg_Gu_9 (by first | assumption | decide | exact k_lt (by assumption)) rfl ?_
    refine k_iload_n C d_Gu_calculate_111 rfl ?_
    refine k_dup2 C d_Gu_calculate_112 rfl rfl ?_
    refine k_iaload C d_Gu_calculate_113 ar_8 (by first | assumption | decide | exact k_lt (by assumption)) (by assumption) rfl ?_
    refine k_aload_n C d_Gu_calculate_114 rfl ?_
    refine k_getr C d_Gu_calculate_115 fg_Gu_9 (by first | assumption | decide | exact k_lt (by assumption)) rfl ?_
    refine k_iload_n C d_Gu_calculate_118 rfl ?_
    refine k_iaload C d_Gu_calculate_119 ar_8 (by first | assumption | decide | exact k_lt (by assumption)) (by assumption) rfl ?_
    refine k_isub C d_Gu_calculate_120 ?_
    refine k_iastore C d_Gu_calculate_121 ar_8 (by first | assumption | decide | exact k_lt (by assumption)) (by assumption) rfl I0 (trivial) (fun I4 => ?_)
    refine k_goto C d_Gu_calculate_122 (tgt := 235) (by decide) ?_
    refine k_iconst C d_Gu_calculate_235 (v := 0) (by decide) ?_
    exact k_ireturn C (E.to (by first | (simp only [gcT_0, gcT_1, gcT_2, gcT_3, gcT_4, gcT_5, gcT_6, gcT_7, gcT_8, gcT_9, gcT_10, gcT_11, gcT_12, gcT_13, gcT_14, gcT_15, gcT_16, gcT_17, gcT_18, gcT_19, gcT_20, gcT_21, gcX_0, gcX_1, gcX_2, gcX_3, gcX_4, gcX_5, gcX_6, gcX_7, gcX_8, gcX_9, gcX_10, gcX_11, gcX_12, gcX_13, gcX_14, gcX_15, gcX_16, gcX_17, gcX_18, gcX_19, gcX_20, gcX_21, ↓reduceIte]; done) | (simp only [gcT_0, gcT_1, gcT_2, gcT_3, gcT_4, gcT_5, gcT_6, gcT_7, gcT_8, gcT_9, gcT_10, gcT_11, gcT_12, gcT_13, gcT_14, gcT_15, gcT_16, gcT_17, gcT_18, gcT_19, gcT_20, gcT_21, gcX_0, gcX_1, gcX_2, gcX_3, gcX_4, gcX_5, gcX_6, gcX_7, gcX_8, gcX_9, gcX_10, gcX_11, gcX_12, gcX_13, gcX_14, gcX_15, gcX_16, gcX_17, gcX_18, gcX_19, gcX_20, gcX_21, ↓reduceIte]; rfl) | contradiction | rfl) (by first | (simp only [gcT_0, gcT_1, gcT_2, gcT_3, gcT_4, gcT_5, gcT_6, gcT_7, gcT_8, gcT_9, gcT_10, gcT_11, gcT_12, gcT_13, gcT_14, gcT_15, gcT_16, gcT_17, gcT_18, gcT_19, gcT_20, gcT_21, gcX_0, gcX_1, gcX_2, gcX_3, gcX_4, gcX_5, gcX_6, gcX_7, gcX_8, gcX_9, gcX_10, gcX_11, gcX_12, gcX_13, gcX_14, gcX_15, gcX_16, gcX_17, gcX_18, gcX_19, gcX_20, gcX_21, ↓reduceIte]; done) | (simp only [gcT_0, gcT_1, gcT_2, gcT_3, gcT_4, gcT_5, gcT_6, gcT_7, gcT_8, gcT_9, gcT_10, gcT_11, gcT_12, gcT_13, gcT_14, gcT_15, gcT_16, gcT_17, gcT_18, gcT_19, gcT_20, gcT_21, gcX_0, gcX_1, gcX_2, gcX_3, gcX_4, gcX_5, gcX_6, gcX_7, gcX_8, gcX_9, gcX_10, gcX_11, gcX_12, gcX_13, gcX_14, gcX_15, gcX_16, gcX_17, gcX_18, gcX_19, gcX_20, gcX_21, ↓reduceIte]; rfl) | contradiction | rfl)) d_Gu_calculate_236
  · refine k_tabIn C d_Gu_calculate_1 (by decide) (by decide) (off := 124) (by decide) (tgt := 125) (by decide) ?_
    refine k_aload_n C d_Gu_calculate_125 rfl ?_
    refine k_getr C d_Gu_calculate_126 fg_Gu_9 (by first | assumption | decide | exact k_lt (by assumption)) rfl ?_
    refine k_iload_n C d_Gu_calculate_129 rfl ?_
    refine k_dup2 C d_Gu_calculate_130 rfl rfl ?_
    refine k_iaload C d_Gu_calculate_131 ar_8 (by first | assumption | decide | exact k_lt (by assumption)) (by assumption) rfl ?_
    refine k_aload_n C d_Gu_calculate_132 rfl ?_
    refine k_getr C d_Gu_calculate_133 fg_Gu_9 (by first | assumption | decide | exact k_lt (by assumption)) rfl ?_
    refine k_iload_n C d_Gu_calculate_136 rfl ?_
    refine k_iaload C d_Gu_calculate_137 ar_8 (by first | assumption | decide | exact k_lt (by assumption)) (by assumption) rfl ?_
    refine k_imul C d_Gu_calculate_138 ?_
    refine k_iastore C d_Gu_calculate_139 ar_8 (by first | assumption | decide | exact k_lt (by assumption)) (by assumption) rfl I0 (trivial) (fun I5 => ?_)
    refine k_goto C d_Gu_calculate_140 (tgt := 235) (by decide) ?_
    refine k_iconst C d_Gu_calculate_235 (v := 0) (by decide) ?_
    exact k_ireturn C (E.to (by first | (simp only [gcT_0, gcT_1, gcT_2, gcT_3, gcT_4, gcT_5, gcT_6, gcT_7, gcT_8, gcT_9, gcT_10, gcT_11, gcT_12, gcT_13, gcT_14, gcT_15, gcT_16, gcT_17, gcT_18, gcT_19, gcT_20, gcT_21, gcX_0, gcX_1, gcX_2, gcX_3, gcX_4, gcX_5, gcX_6, gcX_7, gcX_8, gcX_9, gcX_10, gcX_11, gcX_12, gcX_13, gcX_14, gcX_15, gcX_16, gcX_17, gcX_18, gcX_19, gcX_20, gcX_21, ↓reduceIte]; done) | (simp only [gcT_0, gcT_1, gcT_2, gcT_3, gcT_4, gcT_5, gcT_6, gcT_7, gcT_8, gcT_9, gcT_10, gcT_11, gcT_12, gcT_13, gcT_14, gcT_15, gcT_16, gcT_17, gcT_18, gcT_19, gcT_20, gcT_21, gcX_0, gcX_1, gcX_2, gcX_3, gcX_4, gcX_5, gcX_6, gcX_7, gcX_8, gcX_9, gcX_10, gcX_11, gcX_12, gcX_13, gcX_14, gcX_15, gcX_16, gcX_17, gcX_18, gcX_19, gcX_20, gcX_21, ↓reduceIte]; rfl) | contradiction | rfl) (by first | (simp only [gcT_0, gcT_1, gcT_2, gcT_3, gcT_4, gcT_5, gcT_6, gcT_7, gcT_8, gcT_9, gcT_10, gcT_11, gcT_12, gcT_13, gcT_14, gcT_15, gcT_16, gcT_17, gcT_18, gcT_19, gcT_20, gcT_21, gcX_0, gcX_1, gcX_2, gcX_3, gcX_4, gcX_5, gcX_6, gcX_7, gcX_8, gcX_9, gcX_10, gcX_11, gcX_12, gcX_13, gcX_14, gcX_15, gcX_16, gcX_17, gcX_18, gcX_19, gcX_20, gcX_21, ↓reduceIte]; done) | (simp only [gcT_0, gcT_1, gcT_2, gcT_3, gcT_4, gcT_5, gcT_6, gcT_7, gcT_8, gcT_9, gcT_10, gcT_11, gcT_12, gcT_13, gcT_14, gcT_15, gcT_16, gcT_17, gcT_18, gcT_19, gcT_20, gcT_21, gcX_0, gcX_1, gcX_2, gcX_3, gcX_4, gcX_5, gcX_6, gcX_7, gcX_8, gcX_9, gcX_10, gcX_11, gcX_12, gcX_13, gcX_14, gcX_15, gcX_16, gcX_17, gcX_18, gcX_19, gcX_20, gcX_21, ↓reduceIte]; rfl) | contradiction | rfl)) d_Gu_calculate_236
  · refine k_tabIn C d_Gu_calculate_1 (by decide) (by decide) (off := 142) (by decide) (tgt := 143) (by decide) ?_
    refine k_aload_n C d_Gu_calculate_143 rfl ?_
    refine k_getr C d_Gu_calculate_144 fg_Gu_9 (by first | assumption | decide | exact k_lt (by assumption)) rfl ?_
    refine k_iload_n C d_Gu_calculate_147 rfl ?_
    refine k_iaload C d_Gu_calculate_148 ar_8 (by first | assumption | decide | exact k_lt (by assumption)) (by assumption) rfl ?_
    refine k_if_ne C d_Gu_calculate_149 (tgt := 154) (by decide) (fun h6 => ?_) (fun h6 => ?_)
    · refine k_aload_n C d_Gu_calculate_154 rfl ?_
      refine k_getr C d_Gu_calculate_155 fg_Gu_9 (by first | assumption | decide | exact k_lt (by assumption)) rfl ?_
      refine k_iload_n C d_Gu_calculate_158 rfl ?_
      refine k_dup2 C d_Gu_calculate_159 rfl rfl ?_
      refine k_iaload C d_Gu_calculate_160 ar_8 (by first | assumption | decide | exact k_lt (by assumption)) (by assumption) rfl ?_
      refine k_aload_n C d_Gu_calculate_161 rfl ?_
      refine k_getr C d_Gu_calculate_162 fg_Gu_9 (by first | assumption | decide | exact k_lt (by assumption)) rfl ?_
      refine k_iload_n C d_Gu_calculate_165 rfl ?_
      refine k_iaload C d_Gu_calculate_166 ar_8 (by first | assumption | decide | exact k_lt (by assumption)) (by assumption) rfl ?_
      refine k_idiv C d_Gu_calculate_167 (by first | decide | assumption) ?_
      refine k_iastore C d_Gu_calculate_168 ar_8 (by first | assumption | decide | exact k_lt (by assumption)) (by assumption) rfl I0 (trivial) (fun I7 => ?_)
      refine k_goto C d_Gu_calculate_169 (tgt := 235) (by decide) ?_
      refine k_iconst C d_Gu_calculate_235 (v := 0) (by decide) ?_
      exact k_ireturn C (E.to (by first | (simp only [gcT_0, gcT_1, gcT_2, gcT_3, gcT_4, gcT_5, gcT_6, gcT_7, gcT_8, gcT_9, gcT_10, gcT_11, gcT_12, gcT_13, gcT_14, gcT_15, gcT_16, gcT_17, gcT_18, gcT_19, gcT_20, gcT_21, gcX_0, gcX_1, gcX_2, gcX_3, gcX_4, gcX_5, gcX_6, gcX_7, gcX_8, gcX_9, gcX_10, gcX_11, gcX_12, gcX_13, gcX_14, gcX_15, gcX_16, gcX_17, gcX_18, gcX_19, gcX_20, gcX_21, h6, ↓reduceIte]; done) | (simp only [gcT_0, gcT_1, gcT_2, gcT_3, gcT_4, gcT_5, gcT_6, gcT_7, gcT_8, gcT_9, gcT_10, gcT_11, gcT_12, gcT_13, gcT_14, gcT_15, gcT_16, gcT_17, gcT_18, gcT_19, gcT_20, gcT_21, gcX_0, gcX_1, gcX_2, gcX_3, gcX_4, gcX_5, gcX_6, gcX_7, gcX_8, gcX_9, gcX_10, gcX_11, gcX_12, gcX_13, gcX_14, gcX_15, gcX_16, gcX_17, gcX_18, gcX_19, gcX_20, gcX_21, h6, ↓reduceIte]; rfl) | contradiction | rfl) (by first | (simp only [gcT_0, gcT_1, gcT_2, gcT_3, gcT_4, gcT_5, gcT_6, gcT_7, gcT_8, gcT_9, gcT_10, gcT_11, gcT_12, gcT_13, gcT_14, gcT_15, gcT_16, gcT_17, gcT_18, gcT_19, gcT_20, gcT_21, gcX_0, gcX_1, gcX_2, gcX_3, gcX_4, gcX_5, gcX_6, gcX_7, gcX_8, gcX_9, gcX_10, gcX_11, gcX_12, gcX_13, gcX_14, gcX_15, gcX_16, gcX_17, gcX_18, gcX_19, gcX_20, gcX_21, h6, ↓reduceIte]; done) | (simp only [gcT_0, gcT_1, gcT_2, gcT_3, gcT_4, gcT_5, gcT_6, gcT_7, gcT_8, gcT_9, gcT_10, gcT_11, gcT_12, gcT_13, gcT_14, gcT_15, gcT_16, gcT_17, gcT_18, gcT_19, gcT_20, gcT_21, gcX_0, gcX_1, gcX_2, gcX_3, gcX_4, gcX_5, gcX_6, gcX_7, gcX_8, gcX_9, gcX_10, gcX_11, gcX_12, gcX_13, gcX_14, gcX_15, gcX_16, gcX_17, gcX_18, gcX_19, gcX_20, gcX_21, h6, ↓reduceIte]; rfl) | contradiction | rfl)) d_Gu_calculate_236
    · refine k_iconst C d_Gu_calculate_152 (v := 1) (by decide) ?_
      exact k_ireturn C (E.to (by first | (simp only [gcT_0, gcT_1, gcT_2, gcT_3, gcT_4, gcT_5, gcT_6, gcT_7, gcT_8, gcT_9, gcT_10, gcT_11, gcT_12, gcT_13, gcT_14, gcT_15, gcT_16, gcT_17, gcT_18, gcT_19, gcT_20, gcT_21, gcX_0, gcX_1, gcX_2, gcX_3, gcX_4, gcX_5, gcX_6, gcX_7, gcX_8, gcX_9, gcX_10, gcX_11, gcX_12, gcX_13, gcX_14, gcX_15, gcX_16, gcX_17, gcX_18, gcX_19, gcX_20, gcX_21, h6, ↓reduceIte]; done) | (simp only [gcT_0, gcT_1, gcT_2, gcT_3, gcT_4, gcT_5, gcT_6, gcT_7, gcT_8, gcT_9, gcT_10, gcT_11, gcT_12, gcT_13, gcT_14, gcT_15, gcT_16, gcT_17, gcT_18, gcT_19, gcT_20, gcT_21, gcX_0, gcX_1, gcX_2, gcX_3, gcX_4, gcX_5, gcX_6, gcX_7, gcX_8, gcX_9, gcX_10, gcX_11, gcX_12, gcX_13, gcX_14, gcX_15, gcX_16, gcX_17, gcX_18, gcX_19, gcX_20, gcX_21, h6, ↓reduceIte]; rfl) | contradiction | rfl) (by first | (simp only [gcT_0, gcT_1, gcT_2, gcT_3, gcT_4, gcT_5, gcT_6, gcT_7, gcT_8, gcT_9, gcT_10, gcT_11, gcT_12, gcT_13, gcT_14, gcT_15, gcT_16, gcT_17, gcT_18, gcT_19, gcT_20, gcT_21, gcX_0, gcX_1, gcX_2, gcX_3, gcX_4, gcX_5, gcX_6, gcX_7, gcX_8, gcX_9, gcX_10, gcX_11, gcX_12, gcX_13, gcX_14, gcX_15, gcX_16, gcX_17, gcX_18, gcX_19, gcX_20, gcX_21, h6, ↓reduceIte]; done) | (simp only [gcT_0, gcT_1, gcT_2, gcT_3, gcT_4, gcT_5, gcT_6, gcT_7, gcT_8, gcT_9, gcT_10, gcT_11, gcT_12, gcT_13, gcT_14, gcT_15, gcT_16, gcT_17, gcT_18, gcT_19, gcT_20, gcT_21, gcX_0, gcX_1, gcX_2, gcX_3, gcX_4, gcX_5, gcX_6, gcX_7, gcX_8, gcX_9, gcX_10, gcX_11, gcX_12, gcX_13, gcX_14, gcX_15, gcX_16, gcX_17, gcX_18, gcX_19, gcX_20, gcX_21, h6, ↓reduceIte]; rfl) | contradiction | rfl)) d_Gu_calculate_153
  · refine k_tabIn C d_Gu_calculate_1 (by decide) (by decide) (off := 234) (by decide) (tgt := 235) (by decide) ?_
    refine k_iconst C d_Gu_calculate_235 (v := 0) (by decide) ?_
    exact k_ireturn C (E.to (by first | (simp only [gcT_0, gcT_1, gcT_2, gcT_3, gcT_4, gcT_5, gcT_6, gcT_7, gcT_8, gcT_9, gcT_10, gcT_11, gcT_12, gcT_13, gcT_14, gcT_15, gcT_16, gcT_17, gcT_18, gcT_19, gcT_20, gcT_21, gcX_0, gcX_1, gcX_2, gcX_3, gcX_4, gcX_5, gcX_6, gcX_7, gcX_8, gcX_9, gcX_10, gcX_11, gcX_12, gcX_13, gcX_14, gcX_15, gcX_16, gcX_17, gcX_18, gcX_19, gcX_20, gcX_21, ↓reduceIte]; done) | (simp only [gcT_0, gcT_1, gcT_2, gcT_3, gcT_4, gcT_5, gcT_6, gcT_7, gcT_8, gcT_9, gcT_10, gcT_11, gcT_12, gcT_13, gcT_14, gcT_15, gcT_16, gcT_17, gcT_18, gcT_19, gcT_20, gcT_21, gcX_0, gcX_1, gcX_2, gcX_3, gcX_4, gcX_5, gcX_6, gcX_7, gcX_8, gcX_9, gcX_10, gcX_11, gcX_12, gcX_13, gcX_14, gcX_15, gcX_16, gcX_17, gcX_18, gcX_19, gcX_20, gcX_21, ↓reduceIte]; rfl) | contradiction | rfl) (by first | (simp only [gcT_0, gcT_1, gcT_2, gcT_3, gcT_4, gcT_5, gcT_6, gcT_7, gcT_8, gcT_9, gcT_10, gcT_11, gcT_12, gcT_13, gcT_14, gcT_15, gcT_16, gcT_17, gcT_18, gcT_19, gcT_20, gcT_21, gcX_0, gcX_1, gcX_2, gcX_3, gcX_4, gcX_5, gcX_6, gcX_7, gcX_8, gcX_9, gcX_10, gcX_11, gcX_12, gcX_13, gcX_14, gcX_15, gcX_16, gcX_17, gcX_18, gcX_19, gcX_20, gcX_21, ↓reduceIte]; done) | (simp only [gcT_0, gcT_1, gcT_2, gcT_3, gcT_4, gcT_5, gcT_6, gcT_7, gcT_8, gcT_9, gcT_10, gcT_11, gcT_12, gcT_13, gcT_14, gcT_15, gcT_16, gcT_17, gcT_18, gcT_19, gcT_20, gcT_21, gcX_0, gcX_1, gcX_2, gcX_3, gcX_4, gcX_5, gcX_6, gcX_7, gcX_8, gcX_9, gcX_10, gcX_11, gcX_12, gcX_13, gcX_14, gcX_15, gcX_16, gcX_17, gcX_18, gcX_19, gcX_20, gcX_21, ↓reduceIte]; rfl) | contradiction | rfl)) d_Gu_calculate_236
  · refine k_tabIn C d_Gu_calculate_1 (by decide) (by decide) (off := 234) (by decide) (tgt := 235) (by decide) ?_
    refine k_iconst C d_Gu_calculate_235 (v := 0) (by decide) ?_
    exact k_ireturn C (E.to (by first | (simp only [gcT_0, gcT_1, gcT_2, gcT_3, gcT_4, gcT_5, gcT_6, gcT_7, gcT_8, gcT_9, gcT_10, gcT_11, gcT_12, gcT_13, gcT_14, gcT_15, gcT_16, gcT_17, gcT_18, gcT_19, gcT_20, gcT_21, gcX_0, gcX_1, gcX_2, gcX_3, gcX_4, gcX_5, gcX_6, gcX_7, gcX_8, gcX_9, gcX_10, gcX_11, gcX_12, gcX_13, gcX_14, gcX_15, gcX_16, gcX_17, gcX_18, gcX_19, gcX_20, gcX_21, ↓reduceIte]; done) | (simp only [gcT_0, gcT_1, gcT_2, gcT_3, gcT_4, gcT_5, gcT_6, gcT_7, gcT_8, gcT_9, gcT_10, gcT_11, gcT_12, gcT_13, gcT_14, gcT_15, gcT_16, gcT_17, gcT_18, gcT_19, gcT_20, gcT_21, gcX_0, gcX_1, gcX_2, gcX_3, gcX_4, gcX_5, gcX_6, gcX_7, gcX_8, gcX_9, gcX_10, gcX_11, gcX_12, gcX_13, gcX_14, gcX_15, gcX_16, gcX_17, gcX_18, gcX_19, gcX_20, gcX_21, ↓reduceIte]; rfl) | contradiction | rfl) (by first | (simp only [gcT_0, gcT_1, gcT_2, gcT_3, gcT_4, gcT_5, gcT_6, gcT_7, gcT_8, gcT_9, gcT_10, gcT_11, gcT_12, gcT_13, gcT_14, gcT_15, gcT_16, gcT_17, gcT_18, gcT_19, gcT_20, gcT_21, gcX_0, gcX_1, gcX_2, gcX_3, gcX_4, gcX_5, gcX_6, gcX_7, gcX_8, gcX_9, gcX_10, gcX_11, gcX_12, gcX_13, gcX_14, gcX_15, gcX_16, gcX_17, gcX_18, gcX_19, gcX_20, gcX_21, ↓reduceIte]; done) | (simp only [gcT_0, gcT_1, gcT_2, gcT_3, gcT_4, gcT_5, gcT_6, gcT_7, gcT_8, gcT_9, gcT_10, gcT_11, gcT_12, gcT_13, gcT_14, gcT_15, gcT_16, gcT_17, gcT_18, gcT_19, gcT_20, gcT_21, gcX_0, gcX_1, gcX_2, gcX_3, gcX_4, gcX_5, gcX_6, gcX_7, gcX_8, gcX_9, gcX_10, gcX_11, gcX_12, gcX_13, gcX_14, gcX_15, gcX_16, gcX_17, gcX_18, gcX_19, gcX_20, gcX_21, ↓reduceIte]; rfl) | contradiction | rfl)) d_Gu_calculate_236
  · refine k_tabIn C d_Gu_calculate_1 (by decide) (by decide) (off := 171) (by decide) (tgt := 172) (by decide) ?_
    refine k_aload_n C d_Gu_calculate_172 rfl ?_
    refine k_getr C d_Gu_calculate_173 fg_Gu_9 (by first | assumption | decide | exact k_lt (by assumption)) rfl ?_
    refine k_iload_n C d_Gu_calculate_176 rfl ?_
    refine k_iaload C d_Gu_calculate_177 ar_8 (by first | assumption | decide | exact k_lt (by assumption)) (by assumption) rfl ?_
    refine k_aload_n C d_Gu_calculate_178 rfl ?_
    refine k_getr C d_Gu_calculate_179 fg_Gu_9 (by first | assumption | decide | exact k_lt (by assumption)) rfl ?_
    refine k_iload_n C d_Gu_calculate_182 rfl ?_
    refine k_iaload C d_Gu_calculate_183 ar_8 (by first | assumption | decide | exact k_lt (by assumption)) (by assumption) rfl ?_
    refine k_icmp_ge C d_Gu_calculate_184 (tgt := 235) (by decide) (fun h8 => ?_) (fun h8 => ?_)
    · refine k_iconst C d_Gu_calculate_235 (v := 0) (by decide) ?_
      exact k_ireturn C (E.to (by first | (simp only [gcT_0, gcT_1, gcT_2, gcT_3, gcT_4, gcT_5, gcT_6, gcT_7, gcT_8, gcT_9, gcT_10, gcT_11, gcT_12, gcT_13, gcT_14, gcT_15, gcT_16, gcT_17, gcT_18, gcT_19, gcT_20, gcT_21, gcX_0, gcX_1, gcX_2, gcX_3, gcX_4, gcX_5, gcX_6, gcX_7, gcX_8, gcX_9, gcX_10, gcX_11, gcX_12, gcX_13, gcX_14, gcX_15, gcX_16, gcX_17, gcX_18, gcX_19, gcX_20, gcX_21, h8, ↓reduceIte]; done) | (simp only [gcT_0, gcT_1, gcT_2, gcT_3, gcT_4, gcT_5, gcT_6, gcT_7, gcT_8, gcT_9, gcT_10, gcT_11, gcT_12, gcT_13, gcT_14, gcT_15, gcT_16, gcT_17, gcT_18, gcT_19, gcT_20, gcT_21, gcX_0, gcX_1, gcX_2, gcX_3, gcX_4, gcX_5, gcX_6, gcX_7, gcX_8, gcX_9, gcX_10, gcX_11, gcX_12, gcX_13, gcX_14, gcX_15, gcX_16, gcX_17, gcX_18, gcX_19, gcX_20, gcX_21, h8, ↓reduceIte]; rfl) | contradiction | rfl) (by first | (simp only [gcT_0, gcT_1, gcT_2, gcT_3, gcT_4, gcT_5, gcT_6, gcT_7, gcT_8, gcT_9, gcT_10, gcT_11, gcT_12, gcT_13, gcT_14, gcT_15, gcT_16, gcT_17, gcT_18, gcT_19, gcT_20, gcT_21, gcX_0, gcX_1, gcX_2, gcX_3, gcX_4, gcX_5, gcX_6, gcX_7, gcX_8, gcX_9, gcX_10, gcX_11, gcX_12, gcX_13, gcX_14, gcX_15, gcX_16, gcX_17, gcX_18, gcX_19, gcX_20, gcX_21, h8, ↓reduceIte]; done) | (simp only [gcT_0, gcT_1, gcT_2, gcT_3, gcT_4, gcT_5, gcT_6, gcT_7, gcT_8, gcT_9, gcT_10, gcT_11, gcT_12, gcT_13, gcT_14, gcT_15, gcT_16, gcT_17, gcT_18, gcT_19, gcT_20, gcT_21, gcX_0, gcX_1, gcX_2, gcX_3, gcX_4, gcX_5, gcX_6, gcX_7, gcX_8, gcX_9, gcX_10, gcX_11, gcX_12, gcX_13, gcX_14, gcX_15, gcX_16, gcX_17, gcX_18, gcX_19, gcX_20, gcX_21, h8, ↓reduceIte]; rfl) | contradiction | rfl)) d_Gu_calculate_236
    · refine k_aload_n C d_Gu_calculate_187 rfl ?_
      refine k_iload C d_Gu_calculate_188 rfl ?_
      refine k_callVv C kg_all (c_Gu_goTo l G _ _ _ I0 (by first | assumption | decide | exact k_lt (by assumption))) cs_Gu_31 cv_Gu_goTo ob_7 (by first | assumption | decide | exact k_lt (by assumption)) rfl rfl (Nat.le_of_ble_eq_true rfl) ⟨rfl, rfl⟩ ⟨by decide, by decide⟩ ⟨Nat.zero_le _, Nat.zero_le _⟩ d_Gu_calculate_190 (iv_goTo I0) (fun I9 => ?_)
      refine k_goto C d_Gu_calculate_193 (tgt := 235) (by decide) ?_
      refine k_iconst C d_Gu_calculate_235 (v := 0) (by decide) ?_
      exact k_ireturn C (E.to (by first | (simp only [gcT_0, gcT_1, gcT_2, gcT_3, gcT_4, gcT_5, gcT_6, gcT_7, gcT_8, gcT_9, gcT_10, gcT_11, gcT_12, gcT_13, gcT_14, gcT_15, gcT_16, gcT_17, gcT_18, gcT_19, gcT_20, gcT_21, gcX_0, gcX_1, gcX_2, gcX_3, gcX_4, gcX_5, gcX_6, gcX_7, gcX_8, gcX_9, gcX_10, gcX_11, gcX_12, gcX_13, gcX_14, gcX_15, gcX_16, gcX_17, gcX_18, gcX_19, gcX_20, gcX_21, h8, ↓reduceIte]; done) | (simp only [gcT_0, gcT_1, gcT_2, gcT_3, gcT_4, gcT_5, gcT_6, gcT_7, gcT_8, gcT_9, gcT_10, gcT_11, gcT_12, gcT_13, gcT_14, gcT_15, gcT_16, gcT_17, gcT_18, gcT_19, gcT_20, gcT_21, gcX_0, gcX_1, gcX_2, gcX_3, gcX_4, gcX_5, gcX_6, gcX_7, gcX_8, gcX_9, gcX_10, gcX_11, gcX_12, gcX_13, gcX_14, gcX_15, gcX_16, gcX_17, gcX_18, gcX_19, gcX_20, gcX_21, h8, ↓reduceIte]; rfl) | contradiction | rfl) (by first | (simp only [gcT_0, gcT_1, gcT_2, gcT_3, gcT_4, gcT_5, gcT_6, gcT_7, gcT_8, gcT_9, gcT_10, gcT_11, gcT_12, gcT_13, gcT_14, gcT_15, gcT_16, gcT_17, gcT_18, gcT_19, gcT_20, gcT_21, gcX_0, gcX_1, gcX_2, gcX_3, gcX_4, gcX_5, gcX_6, gcX_7, gcX_8, gcX_9, gcX_10, gcX_11, gcX_12, gcX_13, gcX_14, gcX_15, gcX_16, gcX_17, gcX_18, gcX_19, gcX_20, gcX_21, h8, ↓reduceIte]; done) | (simp only [gcT_0, gcT_1, gcT_2, gcT_3, gcT_4, gcT_5, gcT_6, gcT_7, gcT_8, gcT_9, gcT_10, gcT_11, gcT_12, gcT_13, gcT_14, gcT_15, gcT_16, gcT_17, gcT_18, gcT_19, gcT_20, gcT_21, gcX_0, gcX_1, gcX_2, gcX_3, gcX_4, gcX_5, gcX_6, gcX_7, gcX_8, gcX_9, gcX_10, gcX_11, gcX_12, gcX_13, gcX_14, gcX_15, gcX_16, gcX_17, gcX_18, gcX_19, gcX_20, gcX_21, h8, ↓reduceIte]; rfl) | contradiction | rfl)) d_Gu_calculate_236
  · refine k_tabIn C d_Gu_calculate_1 (by decide) (by decide) (off := 195) (by decide) (tgt := 196) (by decide) ?_
    refine k_aload_n C d_Gu_calculate_196 rfl ?_
    refine k_getr C d_Gu_calculate_197 fg_Gu_9 (by first | assumption | decide | exact k_lt (by assumption)) rfl ?_
    refine k_iload_n C d_Gu_calculate_200 rfl ?_
    refine k_iaload C d_Gu_calculate_201 ar_8 (by first | assumption | decide | exact k_lt (by assumption)) (by assumption) rfl ?_
    refine k_if_ne C d_Gu_calculate_202 (tgt := 235) (by decide) (fun h10 => ?_) (fun h10 => ?_)
    · refine k_iconst C d_Gu_calculate_235 (v := 0) (by decide) ?_
      exact k_ireturn C (E.to (by first | (simp only [gcT_0, gcT_1, gcT_2, gcT_3, gcT_4, gcT_5, gcT_6, gcT_7, gcT_8, gcT_9, gcT_10, gcT_11, gcT_12, gcT_13, gcT_14, gcT_15, gcT_16, gcT_17, gcT_18, gcT_19, gcT_20, gcT_21, gcX_0, gcX_1, gcX_2, gcX_3, gcX_4, gcX_5, gcX_6, gcX_7, gcX_8, gcX_9, gcX_10, gcX_11, gcX_12, gcX_13, gcX_14, gcX_15, gcX_16, gcX_17, gcX_18, gcX_19, gcX_20, gcX_21, h10, ↓reduceIte]; done) | (simp only [gcT_0, gcT_1, gcT_2, gcT_3, gcT_4, gcT_5, gcT_6, gcT_7, gcT_8, gcT_9, gcT_10, gcT_11, gcT_12, gcT_13, gcT_14, gcT_15, gcT_16, gcT_17, gcT_18, gcT_19, gcT_20, gcT_21, gcX_0, gcX_1, gcX_2, gcX_3, gcX_4, gcX_5, gcX_6, gcX_7, gcX_8, gcX_9, gcX_10, gcX_11, gcX_12, gcX_13, gcX_14, gcX_15, gcX_16, gcX_17, gcX_18, gcX_19, gcX_20, gcX_21, h10, ↓reduceIte]; rfl) | contradiction | rfl) (by first | (simp only [gcT_0, gcT_1, gcT_2, gcT_3, gcT_4, gcT_5, gcT_6, gcT_7, gcT_8, gcT_9, gcT_10, gcT_11, gcT_12, gcT_13, gcT_14, gcT_15, gcT_16, gcT_17, gcT_18, gcT_19, gcT_20, gcT_21, gcX_0, gcX_1, gcX_2, gcX_3, gcX_4, gcX_5, gcX_6, gcX_7, gcX_8, gcX_9, gcX_10, gcX_11, gcX_12, gcX_13, gcX_14, gcX_15, gcX_16, gcX_17, gcX_18, gcX_19, gcX_20, gcX_21, h10, ↓reduceIte]; done) | (simp only [gcT_0, gcT_1, gcT_2, gcT_3, gcT_4, gcT_5, gcT_6, gcT_7, gcT_8, gcT_9, gcT_10, gcT_11, gcT_12, gcT_13, gcT_14, gcT_15, gcT_16, gcT_17, gcT_18, gcT_19, gcT_20, gcT_21, gcX_0, gcX_1, gcX_2, gcX_3, gcX_4, gcX_5, gcX_6, gcX_7, gcX_8, gcX_9, gcX_10, gcX_11, gcX_12, gcX_13, gcX_14, gcX_15, gcX_16, gcX_17, gcX_18, gcX_19, gcX_20, gcX_21, h10, ↓reduceIte]; rfl) | contradiction | rfl)) d_Gu_calculate_236
    · refine k_aload_n C d_Gu_calculate_205 rfl ?_
      refine k_iload C d_Gu_calculate_206 rfl ?_
      refine k_callVv C kg_all (c_Gu_goTo l G _ _ _ I0 (by first | assumption | decide | exact k_lt (by assumption))) cs_Gu_31 cv_Gu_goTo ob_7 (by first | assumption | decide | exact k_lt (by assumption)) rfl rfl (Nat.le_of_ble_eq_true rfl) ⟨rfl, rfl⟩ ⟨by decide, by decide⟩ ⟨Nat.zero_le _, Nat.zero_le _⟩ d_Gu_calculate_208 (iv_goTo I0) (fun I11 => ?_)
      refine k_goto C d_Gu_calculate_211 (tgt := 235) (by decide) ?_
      refine k_iconst C d_Gu_calculate_235 (v := 0) (by decide) ?_
      exact k_ireturn C (E.to (by first | (simp only [gcT_0, gcT_1, gcT_2, gcT_3, gcT_4, gcT_5, gcT_6, gcT_7, gcT_8, gcT_9, gcT_10, gcT_11, gcT_12, gcT_13, gcT_14, gcT_15, gcT_16, gcT_17, gcT_18, gcT_19, gcT_20, gcT_21, gcX_0, gcX_1, gcX_2, gcX_3, gcX_4, gcX_5, gcX_6, gcX_7, gcX_8, gcX_9, gcX_10, gcX_11, gcX_12, gcX_13, gcX_14, gcX_15, gcX_16, gcX_17, gcX_18, gcX_19, gcX_20, gcX_21, h10, ↓reduceIte]; done) | (simp only [gcT_0, gcT_1, gcT_2, gcT_3, gcT_4, gcT_5, gcT_6, gcT_7, gcT_8, gcT_9, gcT_10, gcT_11, gcT_12, gcT_13, gcT_14, gcT_15, gcT_16, gcT_17, gcT_18, gcT_19, gcT_20, gcT_21, gcX_0, gcX_1, gcX_2, gcX_3, gcX_4, gcX_5, gcX_6, gcX_7, gcX_8, gcX_9, gcX_10, gcX_11, gcX_12, gcX_13, gcX_14, gcX_15, gcX_16, gcX_17, gcX_18, gcX_19, gcX_20, gcX_21, h10, ↓reduceIte]; rfl) | contradiction | rfl) (by first | (simp only [gcT_0, gcT_1, gcT_2, gcT_3, gcT_4, gcT_5, gcT_6, gcT_7, gcT_8, gcT_9, gcT_10, gcT_11, gcT_12, gcT_13, gcT_14, gcT_15, gcT_16, gcT_17, gcT_18, gcT_19, gcT_20, gcT_21, gcX_0, gcX_1, gcX_2, gcX_3, gcX_4, gcX_5, gcX_6, gcX_7, gcX_8, gcX_9, gcX_10, gcX_11, gcX_12, gcX_13, gcX_14, gcX_15, gcX_16, gcX_17, gcX_18, gcX_19, gcX_20, gcX_21, h10, ↓reduceIte]; done) | (simp only [gcT_0, gcT_1, gcT_2, gcT_3, gcT_4, gcT_5, gcT_6, gcT_7, gcT_8, gcT_9, gcT_10, gcT_11, gcT_12, gcT_13, gcT_14, gcT_15, gcT_16, gcT_17, gcT_18, gcT_19, gcT_20, gcT_21, gcX_0, gcX_1, gcX_2, gcX_3, gcX_4, gcX_5, gcX_6, gcX_7, gcX_8, gcX_9, gcX_10, gcX_11, gcX_12, gcX_13, gcX_14, gcX_15, gcX_16, gcX_17, gcX_18, gcX_19, gcX_20, gcX_21, h10, ↓reduceIte]; rfl) | contradiction | rfl)) d_Gu_calculate_236
  · refine k_tabIn C d_Gu_calculate_1 (by decide) (by decide) (off := 213) (by decide) (tgt := 214) (by decide) ?_
    refine k_aload_n C d_Gu_calculate_214 rfl ?_
    refine k_iload C d_Gu_calculate_215 rfl ?_
    refine k_if_ge C d_Gu_calculate_217 (tgt := 224) (by decide) (fun h12 => ?_) (fun h12 => ?_)
    · refine k_iload C d_Gu_calculate_224 rfl ?_
      refine k_bipush C d_Gu_calculate_226 (v := 32) (by decide) ?_
      refine k_irem C d_Gu_calculate_228 (by first | decide | assumption) ?_
      refine k_put C d_Gu_calculate_229 fp_Gu_35 (by first | assumption | decide | exact k_lt (by assumption)) rfl I0 (trivial) (fun I13 => ?_)
      refine k_goto C d_Gu_calculate_232 (tgt := 235) (by decide) ?_
      refine k_iconst C d_Gu_calculate_235 (v := 0) (by decide) ?_
      exact k_ireturn C (E.to (by first | (simp only [gcT_0, gcT_1, gcT_2, gcT_3, gcT_4, gcT_5, gcT_6, gcT_7, gcT_8, gcT_9, gcT_10, gcT_11, gcT_12, gcT_13, gcT_14, gcT_15, gcT_16, gcT_17, gcT_18, gcT_19, gcT_20, gcT_21, gcX_0, gcX_1, gcX_2, gcX_3, gcX_4, gcX_5, gcX_6, gcX_7, gcX_8, gcX_9, gcX_10, gcX_11, gcX_12, gcX_13, gcX_14, gcX_15, gcX_16, gcX_17, gcX_18, gcX_19, gcX_20, gcX_21, h12, ↓reduceIte]; done) | (simp only [gcT_0, gcT_1, gcT_2, gcT_3, gcT_4, gcT_5, gcT_6, gcT_7, gcT_8, gcT_9, gcT_10, gcT_11, gcT_12, gcT_13, gcT_14, gcT_15, gcT_16, gcT_17, gcT_18, gcT_19, gcT_20, gcT_21, gcX_0, gcX_1, gcX_2, gcX_3, gcX_4, gcX_5, gcX_6, gcX_7, gcX_8, gcX_9, gcX_10, gcX_11, gcX_12, gcX_13, gcX_14, gcX_15, gcX_16, gcX_17, gcX_18, gcX_19, gcX_20, gcX_21, h12, ↓reduceIte]; rfl) | contradiction | rfl) (by first | (simp only [gcT_0, gcT_1, gcT_2, gcT_3, gcT_4, gcT_5, gcT_6, gcT_7, gcT_8, gcT_9, gcT_10, gcT_11, gcT_12, gcT_13, gcT_14, gcT_15, gcT_16, gcT_17, gcT_18, gcT_19, gcT_20, gcT_21, gcX_0, gcX_1, gcX_2, gcX_3, gcX_4, gcX_5, gcX_6, gcX_7, gcX_8, gcX_9, gcX_10, gcX_11, gcX_12, gcX_13, gcX_14, gcX_15, gcX_16, gcX_17, gcX_18, gcX_19, gcX_20, gcX_21, h12, ↓reduceIte]; done) | (simp only [gcT_0, gcT_1, gcT_2, gcT_3, gcT_4, gcT_5, gcT_6, gcT_7, gcT_8, gcT_9, gcT_10, gcT_11, gcT_12, gcT_13, gcT_14, gcT_15, gcT_16, gcT_17, gcT_18, gcT_19, gcT_20, gcT_21, gcX_0, gcX_1, gcX_2, gcX_3, gcX_4, gcX_5, gcX_6, gcX_7, gcX_8, gcX_9, gcX_10, gcX_11, gcX_12, gcX_13, gcX_14, gcX_15, gcX_16, gcX_17, gcX_18, gcX_19, gcX_20, gcX_21, h12, ↓reduceIte]; rfl) | contradiction | rfl)) d_Gu_calculate_236
    · refine k_iconst C d_Gu_calculate_220 (v := (-1)) (by decide) ?_
      refine k_goto C d_Gu_calculate_221 (tgt := 229) (by decide) ?_
      refine k_put C d_Gu_calculate_229 fp_Gu_35 (by first | assumption | decide | exact k_lt (by assumption)) rfl I0 (trivial) (fun I14 => ?_)
      refine k_goto C d_Gu_calculate_232 (tgt := 235) (by decide) ?_
      refine k_iconst C d_Gu_calculate_235 (v := 0) (by decide) ?_
      exact k_ireturn C (E.to (by first | (simp only [gcT_0, gcT_1, gcT_2, gcT_3, gcT_4, gcT_5, gcT_6, gcT_7, gcT_8, gcT_9, gcT_10, gcT_11, gcT_12, gcT_13, gcT_14, gcT_15, gcT_16, gcT_17, gcT_18, gcT_19, gcT_20, gcT_21, gcX_0, gcX_1, gcX_2, gcX_3, gcX_4, gcX_5, gcX_6, gcX_7, gcX_8, gcX_9, gcX_10, gcX_11, gcX_12, gcX_13, gcX_14, gcX_15, gcX_16, gcX_17, gcX_18, gcX_19, gcX_20, gcX_21, h12, ↓reduceIte]; done) | (simp only [gcT_0, gcT_1, gcT_2, gcT_3, gcT_4, gcT_5, gcT_6, gcT_7, gcT_8, gcT_9, gcT_10, gcT_11, gcT_12, gcT_13, gcT_14, gcT_15, gcT_16, gcT_17, gcT_18, gcT_19, gcT_20, gcT_21, gcX_0, gcX_1, gcX_2, gcX_3, gcX_4, gcX_5, gcX_6, gcX_7, gcX_8, gcX_9, gcX_10, gcX_11, gcX_12, gcX_13, gcX_14, gcX_15, gcX_16, gcX_17, gcX_18, gcX_19, gcX_20, gcX_21, h12, ↓reduceIte]; rfl) | contradiction | rfl) (by first | (simp only [gcT_0, gcT_1, gcT_2, gcT_3, gcT_4, gcT_5, gcT_6, gcT_7, gcT_8, gcT_9, gcT_10, gcT_11, gcT_12, gcT_13, gcT_14, gcT_15, gcT_16, gcT_17, gcT_18, gcT_19, gcT_20, gcT_21, gcX_0, gcX_1, gcX_2, gcX_3, gcX_4, gcX_5, gcX_6, gcX_7, gcX_8, gcX_9, gcX_10, gcX_11, gcX_12, gcX_13, gcX_14, gcX_15, gcX_16, gcX_17, gcX_18, gcX_19, gcX_20, gcX_21, h12, ↓reduceIte]; done) | (simp only [gcT_0, gcT_1, gcT_2, gcT_3, gcT_4, gcT_5, gcT_6, gcT_7, gcT_8, gcT_9, gcT_10, gcT_11, gcT_12, gcT_13, gcT_14, gcT_15, gcT_16, gcT_17, gcT_18, gcT_19, gcT_20, gcT_21, gcX_0, gcX_1, gcX_2, gcX_3, gcX_4, gcX_5, gcX_6, gcX_7, gcX_8, gcX_9, gcX_10, gcX_11, gcX_12, gcX_13, gcX_14, gcX_15, gcX_16, gcX_17, gcX_18, gcX_19, gcX_20, gcX_21, h12, ↓reduceIte]; rfl) | contradiction | rfl)) d_Gu_calculate_236
  · refine k_tabOut C d_Gu_calculate_1 (by decide) (tgt := 235) (by decide) ?_
    refine k_iconst C d_Gu_calculate_235 (v := 0) (by decide) ?_
    exact k_ireturn C (E.to (by first | (simp only [gcT_0, gcT_1, gcT_2, gcT_3, gcT_4, gcT_5, gcT_6, gcT_7, gcT_8, gcT_9, gcT_10, gcT_11, gcT_12, gcT_13, gcT_14, gcT_15, gcT_16, gcT_17, gcT_18, gcT_19, gcT_20, gcT_21, gcX_0, gcX_1, gcX_2, gcX_3, gcX_4, gcX_5, gcX_6, gcX_7, gcX_8, gcX_9, gcX_10, gcX_11, gcX_12, gcX_13, gcX_14, gcX_15, gcX_16, gcX_17, gcX_18, gcX_19, gcX_20, gcX_21, ↓reduceIte]; done) | (simp only [gcT_0, gcT_1, gcT_2, gcT_3, gcT_4, gcT_5, gcT_6, gcT_7, gcT_8, gcT_9, gcT_10, gcT_11, gcT_12, gcT_13, gcT_14, gcT_15, gcT_16, gcT_17, gcT_18, gcT_19, gcT_20, gcT_21, gcX_0, gcX_1, gcX_2, gcX_3, gcX_4, gcX_5, gcX_6, gcX_7, gcX_8, gcX_9, gcX_10, gcX_11, gcX_12, gcX_13, gcX_14, gcX_15, gcX_16, gcX_17, gcX_18, gcX_19, gcX_20, gcX_21, ↓reduceIte]; rfl) | contradiction | rfl) (by first | (simp only [gcT_0, gcT_1, gcT_2, gcT_3, gcT_4, gcT_5, gcT_6, gcT_7, gcT_8, gcT_9, gcT_10, gcT_11, gcT_12, gcT_13, gcT_14, gcT_15, gcT_16, gcT_17, gcT_18, gcT_19, gcT_20, gcT_21, gcX_0, gcX_1, gcX_2, gcX_3, gcX_4, gcX_5, gcX_6, gcX_7, gcX_8, gcX_9, gcX_10, gcX_11, gcX_12, gcX_13, gcX_14, gcX_15, gcX_16, gcX_17, gcX_18, gcX_19, gcX_20, gcX_21, ↓reduceIte]; done) | (simp only [gcT_0, gcT_1, gcT_2, gcT_3, gcT_4, gcT_5, gcT_6, gcT_7, gcT_8, gcT_9, gcT_10, gcT_11, gcT_12, gcT_13, gcT_14, gcT_15, gcT_16, gcT_17, gcT_18, gcT_19, gcT_20, gcT_21, gcX_0, gcX_1, gcX_2, gcX_3, gcX_4, gcX_5, gcX_6, gcX_7, gcX_8, gcX_9, gcX_10, gcX_11, gcX_12, gcX_13, gcX_14, gcX_15, gcX_16, gcX_17, gcX_18, gcX_19, gcX_20, gcX_21, ↓reduceIte]; rfl) | contradiction | rfl)) d_Gu_calculate_236
  · refine k_tabOut C d_Gu_calculate_1 (by decide) (tgt := 235) (by decide) ?_
    refine k_iconst C d_Gu_calculate_235 (v := 0) (by decide) ?_
    exact k_ireturn C (E.to (by first | (simp only [gcT_0, gcT_1, gcT_2, gcT_3, gcT_4, gcT_5, gcT_6, gcT_7, gcT_8, gcT_9, gcT_10, gcT_11, gcT_12, gcT_13, gcT_14, gcT_15, gcT_16, gcT_17, gcT_18, gcT_19, gcT_20, gcT_21, gcX_0, gcX_1, gcX_2, gcX_3, gcX_4, gcX_5, gcX_6, gcX_7, gcX_8, gcX_9, gcX_10, gcX_11, gcX_12, gcX_13, gcX_14, gcX_15, gcX_16, gcX_17, gcX_18, gcX_19, gcX_20, gcX_21, ↓reduceIte]; done) | (simp only [gcT_0, gcT_1, gcT_2, gcT_3, gcT_4, gcT_5, gcT_6, gcT_7, gcT_8, gcT_9, gcT_10, gcT_11, gcT_12, gcT_13, gcT_14, gcT_15, gcT_16, gcT_17, gcT_18, gcT_19, gcT_20, gcT_21, gcX_0, gcX_1, gcX_2, gcX_3, gcX_4, gcX_5, gcX_6, gcX_7, gcX_8, gcX_9, gcX_10, gcX_11, gcX_12, gcX_13, gcX_14, gcX_15, gcX_16, gcX_17, gcX_18, gcX_19, gcX_20, gcX_21, ↓reduceIte]; rfl) | contradiction | rfl) (by first | (simp only [gcT_0, gcT_1, gcT_2, gcT_3, gcT_4, gcT_5, gcT_6, gcT_7, gcT_8, gcT_9, gcT_10, gcT_11, gcT_12, gcT_13, gcT_14, gcT_15, gcT_16, gcT_17, gcT_18, gcT_19, gcT_20, gcT_21, gcX_0, gcX_1, gcX_2, gcX_3, gcX_4, gcX_5, gcX_6, gcX_7, gcX_8, gcX_9, gcX_10, gcX_11, gcX_12, gcX_13, gcX_14, gcX_15, gcX_16, gcX_17, gcX_18, gcX_19, gcX_20, gcX_21, ↓reduceIte]; done) | (simp only [gcT_0, gcT_1, gcT_2, gcT_3, gcT_4, gcT_5, gcT_6, gcT_7, gcT_8, gcT_9, gcT_10, gcT_11, gcT_12, gcT_13, gcT_14, gcT_15, gcT_16, gcT_17, gcT_18, gcT_19, gcT_20, gcT_21, gcX_0, gcX_1, gcX_2, gcX_3, gcX_4, gcX_5, gcX_6, gcX_7, gcX_8, gcX_9, gcX_10, gcX_11, gcX_12, gcX_13, gcX_14, gcX_15, gcX_16, gcX_17, gcX_18, gcX_19, gcX_20, gcX_21, ↓reduceIte]; rfl) | contradiction | rfl)) d_Gu_calculate_236
  · refine k_tabOut C d_Gu_calculate_1 (by decide) (tgt := 235) (by decide) ?_
    refine k_iconst C d_Gu_calculate_235 (v := 0) (by decide) ?_
    exact k_ireturn C (E.to (by first | (simp only [gcT_0, gcT_1, gcT_2, gcT_3, gcT_4, gcT_5, gcT_6, gcT_7, gcT_8, gcT_9, gcT_10, gcT_11, gcT_12, gcT_13, gcT_14, gcT_15, gcT_16, gcT_17, gcT_18, gcT_19, gcT_20, gcT_21, gcX_0, gcX_1, gcX_2, gcX_3, gcX_4, gcX_5, gcX_6, gcX_7, gcX_8, gcX_9, gcX_10, gcX_11, gcX_12, gcX_13, gcX_14, gcX_15, gcX_16, gcX_17, gcX_18, gcX_19, gcX_20, gcX_21, ↓reduceIte]; done) | (simp only [gcT_0, gcT_1, gcT_2, gcT_3, gcT_4, gcT_5, gcT_6, gcT_7, gcT_8, gcT_9, gcT_10, gcT_11, gcT_12, gcT_13, gcT_14, gcT_15, gcT_16, gcT_17, gcT_18, gcT_19, gcT_20, gcT_21, gcX_0, gcX_1, gcX_2, gcX_3, gcX_4, gcX_5, gcX_6, gcX_7, gcX_8, gcX_9, gcX_10, gcX_11, gcX_12, gcX_13, gcX_14, gcX_15, gcX_16, gcX_17, gcX_18, gcX_19, gcX_20, gcX_21, ↓reduceIte]; rfl) | contradiction | rfl) (by first | (simp only [gcT_0, gcT_1, gcT_2, gcT_3, gcT_4, gcT_5, gcT_6, gcT_7, gcT_8, gcT_9, gcT_10, gcT_11, gcT_12, gcT_13, gcT_14, gcT_15, gcT_16, gcT_17, gcT_18, gcT_19, gcT_20, gcT_21, gcX_0, gcX_1, gcX_2, gcX_3, gcX_4, gcX_5, gcX_6, gcX_7, gcX_8, gcX_9, gcX_10, gcX_11, gcX_12, gcX_13, gcX_14, gcX_15, gcX_16, gcX_17, gcX_18, gcX_19, gcX_20, gcX_21, ↓reduceIte]; done) | (simp only [gcT_0, gcT_1, gcT_2, gcT_3, gcT_4, gcT_5, gcT_6, gcT_7, gcT_8, gcT_9, gcT_10, gcT_11, gcT_12, gcT_13, gcT_14, gcT_15, gcT_16, gcT_17, gcT_18, gcT_19, gcT_20, gcT_21, gcX_0, gcX_1, gcX_2, gcX_3, gcX_4, gcX_5, gcX_6, gcX_7, gcX_8, gcX_9, gcX_10, gcX_11, gcX_12, gcX_13, gcX_14, gcX_15, gcX_16, gcX_17, gcX_18, gcX_19, gcX_20, gcX_21, ↓reduceIte]; rfl) | contradiction | rfl)) d_Gu_calculate_236
  · refine k_tabOut C d_Gu_calculate_1 (by decide) (tgt := 235) (by decide) ?_
    refine k_iconst C d_Gu_calculate_235 (v := 0) (by decide) ?_
    exact k_ireturn C (E.to (by first | (simp only [gcT_0, gcT_1, gcT_2, gcT_3, gcT_4, gcT_5, gcT_6, gcT_7, gcT_8, gcT_9, gcT_10, gcT_11, gcT_12, gcT_13, gcT_14, gcT_15, gcT_16, gcT_17, gcT_18, gcT_19, gcT_20, gcT_21, gcX_0, gcX_1, gcX_2, gcX_3, gcX_4, gcX_5, gcX_6, gcX_7, gcX_8, gcX_9, gcX_10, gcX_11, gcX_12, gcX_13, gcX_14, gcX_15, gcX_16, gcX_17, gcX_18, gcX_19, gcX_20, gcX_21, ↓reduceIte]; done) | (simp only [gcT_0, gcT_1, gcT_2, gcT_3, gcT_4, gcT_5, gcT_6, gcT_7, gcT_8, gcT_9, gcT_10, gcT_11, gcT_12, gcT_13, gcT_14, gcT_15, gcT_16, gcT_17, gcT_18, gcT_19, gcT_20, gcT_21, gcX_0, gcX_1, gcX_2, gcX_3, gcX_4, gcX_5, gcX_6, gcX_7, gcX_8, gcX_9, gcX_10, gcX_11, gcX_12, gcX_13, gcX_14, gcX_15, gcX_16, gcX_17, gcX_18, gcX_19, gcX_20, gcX_21, ↓reduceIte]; rfl) | contradiction | rfl) (by first | (simp only [gcT_0, gcT_1, gcT_2, gcT_3, gcT_4, gcT_5, gcT_6, gcT_7, gcT_8, gcT_9, gcT_10, gcT_11, gcT_12, gcT_13, gcT_14, gcT_15, gcT_16, gcT_17, gcT_18, gcT_19, gcT_20, gcT_21, gcX_0, gcX_1, gcX_2, gcX_3, gcX_4, gcX_5, gcX_6, gcX_7, gcX_8, gcX_9, gcX_10, gcX_11, gcX_12, gcX_13, gcX_14, gcX_15, gcX_16, gcX_17, gcX_18, gcX_19, gcX_20, gcX_21, ↓reduceIte]; done) | (simp only [gcT_0, gcT_1, gcT_2, gcT_3, gcT_4, gcT_5, gcT_6, gcT_7, gcT_8, gcT_9, gcT_10, gcT_11, gcT_12, gcT_13, gcT_14, gcT_15, gcT_16, gcT_17, gcT_18, gcT_19, gcT_20, gcT_21, gcX_0, gcX_1, gcX_2, gcX_3, gcX_4, gcX_5, gcX_6, gcX_7, gcX_8, gcX_9, gcX_10, gcX_11, gcX_12, gcX_13, gcX_14, gcX_15, gcX_16, gcX_17, gcX_18, gcX_19, gcX_20, gcX_21, ↓reduceIte]; rfl) | contradiction | rfl)) d_Gu_calculate_236
  · refine k_tabOut C d_Gu_calculate_1 (by decide) (tgt := 235) (by decide) ?_
    refine k_iconst C d_Gu_calculate_235 (v := 0) (by decide) ?_
    exact k_ireturn C (E.to (by first | (simp only [gcT_0, gcT_1, gcT_2, gcT_3, gcT_4, gcT_5, gcT_6, gcT_7, gcT_8, gcT_9, gcT_10, gcT_11, gcT_12, gcT_13, gcT_14, gcT_15, gcT_16, gcT_17, gcT_18, gcT_19, gcT_20, gcT_21, gcX_0, gcX_1, gcX_2, gcX_3, gcX_4, gcX_5, gcX_6, gcX_7, gcX_8, gcX_9, gcX_10, gcX_11, gcX_12, gcX_13, gcX_14, gcX_15, gcX_16, gcX_17, gcX_18, gcX_19, gcX_20, gcX_21, ↓reduceIte]; done) | (simp only [gcT_0, gcT_1, gcT_2, gcT_3, gcT_4, gcT_5, gcT_6, gcT_7, gcT_8, gcT_9, gcT_10, gcT_11, gcT_12, gcT_13, gcT_14, gcT_15, gcT_16, gcT_17, gcT_18, gcT_19, gcT_20, gcT_21, gcX_0, gcX_1, gcX_2, gcX_3, gcX_4, gcX_5, gcX_6, gcX_7, gcX_8, gcX_9, gcX_10, gcX_11, gcX_12, gcX_13, gcX_14, gcX_15, gcX_16, gcX_17, gcX_18, gcX_19, gcX_20, gcX_21, ↓reduceIte]; rfl) | contradiction | rfl) (by first | (simp only [gcT_0, gcT_1, gcT_2, gcT_3, gcT_4, gcT_5, gcT_6, gcT_7, gcT_8, gcT_9, gcT_10, gcT_11, gcT_12, gcT_13, gcT_14, gcT_15, gcT_16, gcT_17, gcT_18, gcT_19, gcT_20, gcT_21, gcX_0, gcX_1, gcX_2, gcX_3, gcX_4, gcX_5, gcX_6, gcX_7, gcX_8, gcX_9, gcX_10, gcX_11, gcX_12, gcX_13, gcX_14, gcX_15, gcX_16, gcX_17, gcX_18, gcX_19, gcX_20, gcX_21, ↓reduceIte]; done) | (simp only [gcT_0, gcT_1, gcT_2, gcT_3, gcT_4, gcT_5, gcT_6, gcT_7, gcT_8, gcT_9, gcT_10, gcT_11, gcT_12, gcT_13, gcT_14, gcT_15, gcT_16, gcT_17, gcT_18, gcT_19, gcT_20, gcT_21, gcX_0, gcX_1, gcX_2, gcX_3, gcX_4, gcX_5, gcX_6, gcX_7, gcX_8, gcX_9, gcX_10, gcX_11, gcX_12, gcX_13, gcX_14, gcX_15, gcX_16, gcX_17, gcX_18, gcX_19, gcX_20, gcX_21, ↓reduceIte]; rfl) | contradiction | rfl)) d_Gu_calculate_236
  · refine k_tabOut C d_Gu_calculate_1 (by decide) (tgt := 235) (by decide) ?_
    refine k_iconst C d_Gu_calculate_235 (v := 0) (by decide) ?_
    exact k_ireturn C (E.to (by first | (simp only [gcT_0, gcT_1, gcT_2, gcT_3, gcT_4, gcT_5, gcT_6, gcT_7, gcT_8, gcT_9, gcT_10, gcT_11, gcT_12, gcT_13, gcT_14, gcT_15, gcT_16, gcT_17, gcT_18, gcT_19, gcT_20, gcT_21, gcX_0, gcX_1, gcX_2, gcX_3, gcX_4, gcX_5, gcX_6, gcX_7, gcX_8, gcX_9, gcX_10, gcX_11, gcX_12, gcX_13, gcX_14, gcX_15, gcX_16, gcX_17, gcX_18, gcX_19, gcX_20, gcX_21, ↓reduceIte]; done) | (simp only [gcT_0, gcT_1, gcT_2, gcT_3, gcT_4, gcT_5, gcT_6, gcT_7, gcT_8, gcT_9, gcT_10, gcT_11, gcT_12, gcT_13, gcT_14, gcT_15, gcT_16, gcT_17, gcT_18, gcT_19, gcT_20, gcT_21, gcX_0, gcX_1, gcX_2, gcX_3, gcX_4, gcX_5, gcX_6, gcX_7, gcX_8, gcX_9, gcX_10, gcX_11, gcX_12, gcX_13, gcX_14, gcX_15, gcX_16, gcX_17, gcX_18, gcX_19, gcX_20, gcX_21, ↓reduceIte]; rfl) | contradiction | rfl) (by first | (simp only [gcT_0, gcT_1, gcT_2, gcT_3, gcT_4, gcT_5, gcT_6, gcT_7, gcT_8, gcT_9, gcT_10, gcT_11, gcT_12, gcT_13, gcT_14, gcT_15, gcT_16, gcT_17, gcT_18, gcT_19, gcT_20, gcT_21, gcX_0, gcX_1, gcX_2, gcX_3, gcX_4, gcX_5, gcX_6, gcX_7, gcX_8, gcX_9, gcX_10, gcX_11, gcX_12, gcX_13, gcX_14, gcX_15, gcX_16, gcX_17, gcX_18, gcX_19, gcX_20, gcX_21, ↓reduceIte]; done) | (simp only [gcT_0, gcT_1, gcT_2, gcT_3, gcT_4, gcT_5, gcT_6, gcT_7, gcT_8, gcT_9, gcT_10, gcT_11, gcT_12, gcT_13, gcT_14, gcT_15, gcT_16, gcT_17, gcT_18, gcT_19, gcT_20, gcT_21, gcX_0, gcX_1, gcX_2, gcX_3, gcX_4, gcX_5, gcX_6, gcX_7, gcX_8, gcX_9, gcX_10, gcX_11, gcX_12, gcX_13, gcX_14, gcX_15, gcX_16, gcX_17, gcX_18, gcX_19, gcX_20, gcX_21, ↓reduceIte]; rfl) | contradiction | rfl)) d_Gu_calculate_236
  · refine k_tabOut C d_Gu_calculate_1 (by decide) (tgt := 235) (by decide) ?_
    refine k_iconst C d_Gu_calculate_235 (v := 0) (by decide) ?_
    exact k_ireturn C (E.to (by first | (simp only [gcT_0, gcT_1, gcT_2, gcT_3, gcT_4, gcT_5, gcT_6, gcT_7, gcT_8, gcT_9, gcT_10, gcT_11, gcT_12, gcT_13, gcT_14, gcT_15, gcT_16, gcT_17, gcT_18, gcT_19, gcT_20, gcT_21, gcX_0, gcX_1, gcX_2, gcX_3, gcX_4, gcX_5, gcX_6, gcX_7, gcX_8, gcX_9, gcX_10, gcX_11, gcX_12, gcX_13, gcX_14, gcX_15, gcX_16, gcX_17, gcX_18, gcX_19, gcX_20, gcX_21, ↓reduceIte]; done) | (simp only [gcT_0, gcT_1, gcT_2, gcT_3, gcT_4, gcT_5, gcT_6, gcT_7, gcT_8, gcT_9, gcT_10, gcT_11, gcT_12, gcT_13, gcT_14, gcT_15, gcT_16, gcT_17, gcT_18, gcT_19, gcT_20, gcT_21, gcX_0, gcX_1, gcX_2, gcX_3, gcX_4, gcX_5, gcX_6, gcX_7, gcX_8, gcX_9, gcX_10, gcX_11, gcX_12, gcX_13, gcX_14, gcX_15, gcX_16, gcX_17, gcX_18, gcX_19, gcX_20, gcX_21, ↓reduceIte]; rfl) | contradiction | rfl) (by first | (simp only [gcT_0, gcT_1, gcT_2, gcT_3, gcT_4, gcT_5, gcT_6, gcT_7, gcT_8, gcT_9, gcT_10, gcT_11, gcT_12, gcT_13, gcT_14, gcT_15, gcT_16, gcT_17, gcT_18, gcT_19, gcT_20, gcT_21, gcX_0, gcX_1, gcX_2, gcX_3, gcX_4, gcX_5, gcX_6, gcX_7, gcX_8, gcX_9, gcX_10, gcX_11, gcX_12, gcX_13, gcX_14, gcX_15, gcX_16, gcX_17, gcX_18, gcX_19, gcX_20, gcX_21, ↓reduceIte]; done) | (simp only [gcT_0, gcT_1, gcT_2, gcT_3, gcT_4, gcT_5, gcT_6, gcT_7, gcT_8, gcT_9, gcT_10, gcT_11, gcT_12, gcT_13, gcT_14, gcT_15, gcT_16, gcT_17, gcT_18, gcT_19, gcT_20, gcT_21, gcX_0, gcX_1, gcX_2, gcX_3, gcX_4, gcX_5, gcX_6, gcX_7, gcX_8, gcX_9, gcX_10, gcX_11, gcX_12, gcX_13, gcX_14, gcX_15, gcX_16, gcX_17, gcX_18, gcX_19, gcX_20, gcX_21, ↓reduceIte]; rfl) | contradiction | rfl)) d_Gu_calculate_236
  · refine k_tabOut C d_Gu_calculate_1 (by decide) (tgt := 235) (by decide) ?_
    refine k_iconst C d_Gu_calculate_235 (v := 0) (by decide) ?_
    exact k_ireturn C (E.to (by first | (simp only [gcT_0, gcT_1, gcT_2, gcT_3, gcT_4, gcT_5, gcT_6, gcT_7, gcT_8, gcT_9, gcT_10, gcT_11, gcT_12, gcT_13, gcT_14, gcT_15, gcT_16, gcT_17, gcT_18, gcT_19, gcT_20, gcT_21, gcX_0, gcX_1, gcX_2, gcX_3, gcX_4, gcX_5, gcX_6, gcX_7, gcX_8, gcX_9, gcX_10, gcX_11, gcX_12, gcX_13, gcX_14, gcX_15, gcX_16, gcX_17, gcX_18, gcX_19, gcX_20, gcX_21, ↓reduceIte]; done) | (simp only [gcT_0, gcT_1, gcT_2, gcT_3, gcT_4, gcT_5, gcT_6, gcT_7, gcT_8, gcT_9, gcT_10, gcT_11, gcT_12, gcT_13, gcT_14, gcT_15, gcT_16, gcT_17, gcT_18, gcT_19, gcT_20, gcT_21, gcX_0, gcX_1, gcX_2, gcX_3, gcX_4, gcX_5, gcX_6, gcX_7, gcX_8, gcX_9, gcX_10, gcX_11, gcX_12, gcX_13, gcX_14, gcX_15, gcX_16, gcX_17, gcX_18, gcX_19, gcX_20, gcX_21, ↓reduceIte]; rfl) | contradiction | rfl) (by first | (simp only [gcT_0, gcT_1, gcT_2, gcT_3, gcT_4, gcT_5, gcT_6, gcT_7, gcT_8, gcT_9, gcT_10, gcT_11, gcT_12, gcT_13, gcT_14, gcT_15, gcT_16, gcT_17, gcT_18, gcT_19, gcT_20, gcT_21, gcX_0, gcX_1, gcX_2, gcX_3, gcX_4, gcX_5, gcX_6, gcX_7, gcX_8, gcX_9, gcX_10, gcX_11, gcX_12, gcX_13, gcX_14, gcX_15, gcX_16, gcX_17, gcX_18, gcX_19, gcX_20, gcX_21, ↓reduceIte]; done) | (simp only [gcT_0, gcT_1, gcT_2, gcT_3, gcT_4, gcT_5, gcT_6, gcT_7, gcT_8, gcT_9, gcT_10, gcT_11, gcT_12, gcT_13, gcT_14, gcT_15, gcT_16, gcT_17, gcT_18, gcT_19, gcT_20, gcT_21, gcX_0, gcX_1, gcX_2, gcX_3, gcX_4, gcX_5, gcX_6, gcX_7, gcX_8, gcX_9, gcX_10, gcX_11, gcX_12, gcX_13, gcX_14, gcX_15, gcX_16, gcX_17, gcX_18, gcX_19, gcX_20, gcX_21, ↓reduceIte]; rfl) | contradiction | rfl)) d_Gu_calculate_236
  · refine k_tabOut C d_Gu_calculate_1 (by decide) (tgt := 235) (by decide) ?_
    refine k_iconst C d_Gu_calculate_235 (v := 0) (by decide) ?_
    exact k_ireturn C (E.to (by first | (simp only [gcT_0, gcT_1, gcT_2, gcT_3, gcT_4, gcT_5, gcT_6, gcT_7, gcT_8, gcT_9, gcT_10, gcT_11, gcT_12, gcT_13, gcT_14, gcT_15, gcT_16, gcT_17, gcT_18, gcT_19, gcT_20, gcT_21, gcX_0, gcX_1, gcX_2, gcX_3, gcX_4, gcX_5, gcX_6, gcX_7, gcX_8, gcX_9, gcX_10, gcX_11, gcX_12, gcX_13, gcX_14, gcX_15, gcX_16, gcX_17, gcX_18, gcX_19, gcX_20, gcX_21, ↓reduceIte]; done) | (simp only [gcT_0, gcT_1, gcT_2, gcT_3, gcT_4, gcT_5, gcT_6, gcT_7, gcT_8, gcT_9, gcT_10, gcT_11, gcT_12, gcT_13, gcT_14, gcT_15, gcT_16, gcT_17, gcT_18, gcT_19, gcT_20, gcT_21, gcX_0, gcX_1, gcX_2, gcX_3, gcX_4, gcX_5, gcX_6, gcX_7, gcX_8, gcX_9, gcX_10, gcX_11, gcX_12, gcX_13, gcX_14, gcX_15, gcX_16, gcX_17, gcX_18, gcX_19, gcX_20, gcX_21, ↓reduceIte]; rfl) | contradiction | rfl) (by first | (simp only [gcT_0, gcT_1, gcT_2, gcT_3, gcT_4, gcT_5, gcT_6, gcT_7, gcT_8, gcT_9, gcT_10, gcT_11, gcT_12, gcT_13, gcT_14, gcT_15, gcT_16, gcT_17, gcT_18, gcT_19, gcT_20, gcT_21, gcX_0, gcX_1, gcX_2, gcX_3, gcX_4, gcX_5, gcX_6, gcX_7, gcX_8, gcX_9, gcX_10, gcX_11, gcX_12, gcX_13, gcX_14, gcX_15, gcX_16, gcX_17, gcX_18, gcX_19, gcX_20, gcX_21, ↓reduceIte]; done) | (simp only [gcT_0, gcT_1, gcT_2, gcT_3, gcT_4, gcT_5, gcT_6, gcT_7, gcT_8, gcT_9, gcT_10, gcT_11, gcT_12, gcT_13, gcT_14, gcT_15, gcT_16, gcT_17, gcT_18, gcT_19, gcT_20, gcT_21, gcX_0, gcX_1, gcX_2, gcX_3, gcX_4, gcX_5, gcX_6, gcX_7, gcX_8, gcX_9, gcX_10, gcX_11, gcX_12, gcX_13, gcX_14, gcX_15, gcX_16, gcX_17, gcX_18, gcX_19, gcX_20, gcX_21, ↓reduceIte]; rfl) | contradiction | rfl)) d_Gu_calculate_236
  · refine k_tabOut C d_Gu_calculate_1 (by decide) (tgt := 235) (by decide) ?_
    refine k_iconst C d_Gu_calculate_235 (v := 0) (by decide) ?_
    exact k_ireturn C (E.to (by first | (simp only [gcT_0, gcT_1, gcT_2, gcT_3, gcT_4, gcT_5, gcT_6, gcT_7, gcT_8, gcT_9, gcT_10, gcT_11, gcT_12, gcT_13, gcT_14, gcT_15, gcT_16, gcT_17, gcT_18, gcT_19, gcT_20, gcT_21, gcX_0, gcX_1, gcX_2, gcX_3, gcX_4, gcX_5, gcX_6, gcX_7, gcX_8, gcX_9, gcX_10, gcX_11, gcX_12, gcX_13, gcX_14, gcX_15, gcX_16, gcX_17, gcX_18, gcX_19, gcX_20, gcX_21, ↓reduceIte]; done) | (simp only [gcT_0, gcT_1, gcT_2, gcT_3, gcT_4, gcT_5, gcT_6, gcT_7, gcT_8, gcT_9, gcT_10, gcT_11, gcT_12, gcT_13, gcT_14, gcT_15, gcT_16, gcT_17, gcT_18, gcT_19, gcT_20, gcT_21, gcX_0, gcX_1, gcX_2, gcX_3, gcX_4, gcX_5, gcX_6, gcX_7, gcX_8, gcX_9, gcX_10, gcX_11, gcX_12, gcX_13, gcX_14, gcX_15, gcX_16, gcX_17, gcX_18, gcX_19, gcX_20, gcX_21, ↓reduceIte]; rfl) | contradiction | rfl) (by first | (simp only [gcT_0, gcT_1, gcT_2, gcT_3, gcT_4, gcT_5, gcT_6, gcT_7, gcT_8, gcT_9, gcT_10, gcT_11, gcT_12, gcT_13, gcT_14, gcT_15, gcT_16, gcT_17, gcT_18, gcT_19, gcT_20, gcT_21, gcX_0, gcX_1, gcX_2, gcX_3, gcX_4, gcX_5, gcX_6, gcX_7, gcX_8, gcX_9, gcX_10, gcX_11, gcX_12, gcX_13, gcX_14, gcX_15, gcX_16, gcX_17, gcX_18, gcX_19, gcX_20, gcX_21, ↓reduceIte]; done) | (simp only [gcT_0, gcT_1, gcT_2, gcT_3, gcT_4, gcT_5, gcT_6, gcT_7, gcT_8, gcT_9, gcT_10, gcT_11, gcT_12, gcT_13, gcT_14, gcT_15, gcT_16, gcT_17, gcT_18, gcT_19, gcT_20, gcT_21, gcX_0, gcX_1, gcX_2, gcX_3, gcX_4, gcX_5, gcX_6, gcX_7, gcX_8, gcX_9, gcX_10, gcX_11, gcX_12, gcX_13, gcX_14, gcX_15, gcX_16, gcX_17, gcX_18, gcX_19, gcX_20, gcX_21, ↓reduceIte]; rfl) | contradiction | rfl)) d_Gu_calculate_236
set_option maxHeartbeats 4000000 in
set_option maxRecDepth 100000 in
theorem c_Ke_trap (l : Launch) (G : kG) (K : kM) (g : Nat) (kd pl : Int32) (I0 : g_Inv K) (hg : g < 6) : k_Met l gS kT y_Ke_trap b_Ke_trap 4 none (k_rm 4) G [.ref (G.2.2 0 0), .ref (G.2.2 7 g), .int kd, .int pl] K none (g_trap K g kd pl) := by
  refine k_intro (by decide +kernel) rfl (Nat.le_of_ble_eq_true rfl) ?_
  intro X C E
  refine k_aload_n C d_Ke_trap_0 rfl ?_
  refine k_dup C d_Ke_trap_1 rfl ?_
  refine k_get C d_Ke_trap_2 fg_Ke_157 (by first | assumption | decide | exact k_lt (by assumption)) rfl ?_
  refine k_iconst C d_Ke_trap_5 (v := 1) (by decide) ?_
  refine k_iadd C d_Ke_trap_6 ?_
  refine k_put C d_Ke_trap_7 fp_Ke_157 (by first | assumption | decide | exact k_lt (by assumption)) rfl I0 (trivial) (fun I1 => ?_)
  refine k_aload_n C d_Ke_trap_10 rfl ?_
  refine k_dup C d_Ke_trap_11 rfl ?_
  refine k_get C d_Ke_trap_12 fg_Ke_122 (by first | assumption | decide | exact k_lt (by assumption)) rfl ?_
  refine k_iconst C d_Ke_trap_15 (v := 1) (by decide) ?_
  refine k_iadd C d_Ke_trap_16 ?_
  refine k_put C d_Ke_trap_17 fp_Ke_122 (by first | assumption | decide | exact k_lt (by assumption)) rfl I1 (trivial) (fun I2 => ?_)
  refine k_aload_n C d_Ke_trap_20 rfl ?_
  refine k_get C d_Ke_trap_21 fg_Ke_104 (by first | assumption | decide | exact k_lt (by assumption)) rfl ?_
  refine k_iconst C d_Ke_trap_24 (v := (-1)) (by decide) ?_
  refine k_icmp_ne C d_Ke_trap_25 (tgt := 45) (by decide) (fun h3 => ?_) (fun h3 => ?_)
  · refine k_aload_n C d_Ke_trap_45 rfl ?_
    refine k_getr C d_Ke_trap_46 fg_Ke_94 (by first | assumption | decide | exact k_lt (by assumption)) rfl ?_
    refine k_iconst C d_Ke_trap_49 (v := 3) (by decide) ?_
    refine k_iload_n C d_Ke_trap_50 rfl ?_
    refine k_iastore C d_Ke_trap_51 ar_8 (by first | assumption | decide | exact k_lt (by assumption)) (k_in (by decide)) (j := 3) (by decide) I2 (trivial) (fun I4 => ?_)
    refine k_aload_n C d_Ke_trap_52 rfl ?_
    refine k_aload_n C d_Ke_trap_53 rfl ?_
    refine k_get C d_Ke_trap_54 fg_Ke_104 (by first | assumption | decide | exact k_lt (by assumption)) rfl ?_
    refine k_callVv C kg_all (c_Gu_goTo l G _ _ _ I4 (by first | assumption | decide | exact k_lt (by assumption))) cs_Ke_197 cv_Gu_goTo ob_7 (by first | assumption | decide | exact k_lt (by assumption)) rfl rfl (Nat.le_of_ble_eq_true rfl) ⟨rfl, rfl⟩ ⟨by decide, by decide⟩ ⟨Nat.zero_le _, Nat.zero_le _⟩ d_Ke_trap_57 (iv_goTo I4) (fun I5 => ?_)
    refine k_aload_n C d_Ke_trap_60 rfl ?_
    refine k_iconst C d_Ke_trap_61 (v := (-1)) (by decide) ?_
    refine k_put C d_Ke_trap_62 fp_Ke_104 (by first | assumption | decide | exact k_lt (by assumption)) rfl I5 (trivial) (fun I6 => ?_)
    exact k_return C (E.to rfl (by first | (simp only [g_trap, h3, ↓reduceIte]; done) | (simp only [g_trap, h3, ↓reduceIte]; rfl) | contradiction | rfl)) d_Ke_trap_65
  · refine k_aload_n C d_Ke_trap_28 rfl ?_
    refine k_iload_n C d_Ke_trap_29 rfl ?_
    refine k_callVv C kg_all (c_Gu_goTo l G _ _ _ I2 (by first | assumption | decide | exact k_lt (by assumption))) cs_Ke_197 cv_Gu_goTo ob_7 (by first | assumption | decide | exact k_lt (by assumption)) rfl rfl (Nat.le_of_ble_eq_true rfl) ⟨rfl, rfl⟩ ⟨by decide, by decide⟩ ⟨Nat.zero_le _, Nat.zero_le _⟩ d_Ke_trap_30 (iv_goTo I2) (fun I7 => ?_)
    refine k_aload_n C d_Ke_trap_33 rfl ?_
    refine k_aload_n C d_Ke_trap_34 rfl ?_
    refine k_bipush C d_Ke_trap_35 (v := (-100)) (by decide) ?_
    refine k_iload_n C d_Ke_trap_37 rfl ?_
    refine k_isub C d_Ke_trap_38 ?_
    refine k_callVv C kg_all (c_Ke_end l G _ _ _ I7 (by first | assumption | decide | exact k_lt (by assumption))) cs_Ke_215 cv_Ke_end ob_0 (by first | assumption | decide | exact k_lt (by assumption)) rfl rfl (Nat.le_of_ble_eq_true rfl) ⟨rfl, rfl⟩ ⟨by decide, by decide⟩ ⟨Nat.zero_le _, Nat.zero_le _⟩ d_Ke_trap_39 (iv_end I7) (fun I8 => ?_)
    refine k_goto C d_Ke_trap_42 (tgt := 65) (by decide) ?_
    exact k_return C (E.to rfl (by first | (simp only [g_trap, h3, ↓reduceIte]; done) | (simp only [g_trap, h3, ↓reduceIte]; rfl) | contradiction | rfl)) d_Ke_trap_65
