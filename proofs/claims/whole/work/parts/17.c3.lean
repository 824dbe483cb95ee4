set_option maxHeartbeats 4000000 in
set_option maxRecDepth 100000 in
theorem b_ho {X : kX} {G : kG} {l : Launch} {K : kM} (C : k_C X kT b_Ke_handOverChildren y_Ke_handOverChildren.cls gS G 3 l (k_rm 0)) (g i : Nat) (hg : g < 6) (hi : i < 6) (I0 : g_Inv K) (k : g_Inv (g_ho1 K g i) → k_W X 0 0 2 [(2, .int (nI (i + 1))), (0, .ref (G.2.2 0 0)), (1, .ref (G.2.2 7 g))] [] (g_ho1 K g i)) : k_W X 0 0 2 [(2, .int (nI i)), (0, .ref (G.2.2 0 0)), (1, .ref (G.2.2 7 g))] [] K := by
  refine k_iload_n C d_Ke_handOverChildren_2 rfl ?_
  refine k_bipush C d_Ke_handOverChildren_3 (v := 6) (by decide) ?_
  refine k_icmp_ge C d_Ke_handOverChildren_5 (tgt := 56) (by decide) (fun h1 => absurd h1 (nI_ge hi (by decide))) (fun h1 => ?_)
  refine k_aload_n C d_Ke_handOverChildren_8 rfl ?_
  refine k_getr C d_Ke_handOverChildren_9 fg_Ke_25 (by first | assumption | decide | exact k_lt (by assumption)) rfl ?_
  refine k_iload_n C d_Ke_handOverChildren_12 rfl ?_
  refine k_aaload C d_Ke_handOverChildren_13 ar_6 (by first | assumption | decide | exact k_lt (by assumption)) (vp_in_nI hi (by decide)) (j := i) (nI_clamp (by omega)) rfl ?_
  refine k_get C d_Ke_handOverChildren_14 fg_Ke_98 (by first | assumption | decide | exact k_lt (by assumption)) rfl ?_
  refine k_iconst C d_Ke_handOverChildren_17 (v := (-1)) (by decide) ?_
  refine k_icmp_eq C d_Ke_handOverChildren_18 (tgt := 50) (by decide) (fun h2 => ?_) (fun h2 => ?_)
  · refine k_iinc C d_Ke_handOverChildren_50 rfl (v := nI (i + 1)) (nI_1 i) (by decide) ?_
    refine k_goto C d_Ke_handOverChildren_53 (tgt := 2) (by decide) ?_
    exact k_loc [(2, .int (nI (i + 1))), (0, .ref (G.2.2 0 0)), (1, .ref (G.2.2 7 g))] ⟨rfl, rfl, rfl, trivial⟩ (k_mem (by first | rfl | (unfold g_ho1; simp only [*, ↓reduceIte]; done) | (unfold g_ho1; simp only [*, ↓reduceIte]; rfl) | (unfold g_ho1; simp [*])) (k (iv_ho1 I0)))
  · refine k_aload_n C d_Ke_handOverChildren_21 rfl ?_
    refine k_getr C d_Ke_handOverChildren_22 fg_Ke_25 (by first | assumption | decide | exact k_lt (by assumption)) rfl ?_
    refine k_iload_n C d_Ke_handOverChildren_25 rfl ?_
    refine k_aaload C d_Ke_handOverChildren_26 ar_6 (by first | assumption | decide | exact k_lt (by assumption)) (vp_in_nI hi (by decide)) (j := i) (nI_clamp (by omega)) rfl ?_
    refine k_get C d_Ke_handOverChildren_27 fg_Ke_116 (by first | assumption | decide | exact k_lt (by assumption)) rfl ?_
    refine k_aload_n C d_Ke_handOverChildren_30 rfl ?_
    refine k_get C d_Ke_handOverChildren_31 fg_Ke_273 (by first | assumption | decide | exact k_lt (by assumption)) rfl ?_
    refine k_icmp_ne C d_Ke_handOverChildren_34 (tgt := 50) (by decide) (fun h3 => ?_) (fun h3 => ?_)
    · refine k_iinc C d_Ke_handOverChildren_50 rfl (v := nI (i + 1)) (nI_1 i) (by decide) ?_
      refine k_goto C d_Ke_handOverChildren_53 (tgt := 2) (by decide) ?_
      exact k_loc [(2, .int (nI (i + 1))), (0, .ref (G.2.2 0 0)), (1, .ref (G.2.2 7 g))] ⟨rfl, rfl, rfl, trivial⟩ (k_mem (by first | rfl | (unfold g_ho1; simp only [*, ↓reduceIte]; done) | (unfold g_ho1; simp only [*, ↓reduceIte]; rfl) | (unfold g_ho1; simp [*])) (k (iv_ho1 I0)))
    · refine k_aload_n C d_Ke_handOverChildren_37 rfl ?_
      refine k_getr C d_Ke_handOverChildren_38 fg_Ke_25 (by first | assumption | decide | exact k_lt (by assumption)) rfl ?_
      refine k_iload_n C d_Ke_handOverChildren_41 rfl ?_
      refine k_aaload C d_Ke_handOverChildren_42 ar_6 (by first | assumption | decide | exact k_lt (by assumption)) (vp_in_nI hi (by decide)) (j := i) (nI_clamp (by omega)) rfl ?_
      refine k_aload_n C d_Ke_handOverChildren_43 rfl ?_
      refine k_get C d_Ke_handOverChildren_44 fg_Ke_116 (by first | assumption | decide | exact k_lt (by assumption)) rfl ?_
      refine k_put C d_Ke_handOverChildren_47 fp_Ke_116 (by first | assumption | decide | exact k_lt (by assumption)) rfl I0 (trivial) (fun I4 => ?_)
      refine k_iinc C d_Ke_handOverChildren_50 rfl (v := nI (i + 1)) (nI_1 i) (by decide) ?_
      refine k_goto C d_Ke_handOverChildren_53 (tgt := 2) (by decide) ?_
      exact k_loc [(2, .int (nI (i + 1))), (0, .ref (G.2.2 0 0)), (1, .ref (G.2.2 7 g))] ⟨rfl, rfl, rfl, trivial⟩ (k_mem (by first | rfl | (unfold g_ho1; simp only [*, ↓reduceIte]; done) | (unfold g_ho1; simp only [*, ↓reduceIte]; rfl) | (unfold g_ho1; simp [*])) (k (iv_ho1 I0)))
set_option maxHeartbeats 4000000 in
set_option maxRecDepth 100000 in
theorem c_Ke_handOverChildren (l : Launch) (G : kG) (K : kM) (g : Nat) (I0 : g_Inv K) (hg : g < 6) : k_Met l gS kT y_Ke_handOverChildren b_Ke_handOverChildren 3 none (k_rm 0) G [.ref (G.2.2 0 0), .ref (G.2.2 7 g)] K none (g_hand K g) := by
  refine k_intro (by decide +kernel) rfl (Nat.le_of_ble_eq_true rfl) ?_
  intro X C E
  refine k_iconst C d_Ke_handOverChildren_0 (v := 0) (by decide) ?_
  refine k_istore_n C d_Ke_handOverChildren_1 (by decide) ?_
  refine k_loc [(2, .int (nI 0)), (0, .ref (G.2.2 0 0)), (1, .ref (G.2.2 7 g))] ⟨rfl, rfl, rfl, trivial⟩ ?_
  refine b_ho C g 0 hg (by decide) I0 (fun I1 => ?_)
  refine b_ho C g 1 hg (by decide) I1 (fun I2 => ?_)
  refine b_ho C g 2 hg (by decide) I2 (fun I3 => ?_)
  refine b_ho C g 3 hg (by decide) I3 (fun I4 => ?_)
  refine b_ho C g 4 hg (by decide) I4 (fun I5 => ?_)
  refine b_ho C g 5 hg (by decide) I5 (fun I6 => ?_)
  refine k_iload_n C d_Ke_handOverChildren_2 rfl ?_
  refine k_bipush C d_Ke_handOverChildren_3 (v := 6) (by decide) ?_
  refine k_icmp_ge C d_Ke_handOverChildren_5 (tgt := 56) (by decide) (fun h21 => ?_) (fun h21 => absurd (by decide : (6 : Int32) ≤ nI 6) h21)
  refine k_aload_n C d_Ke_handOverChildren_56 rfl ?_
  refine k_dup C d_Ke_handOverChildren_57 rfl ?_
  refine k_get C d_Ke_handOverChildren_58 fg_Ke_107 (by first | assumption | decide | exact k_lt (by assumption)) rfl ?_
  refine k_aload_n C d_Ke_handOverChildren_61 rfl ?_
  refine k_get C d_Ke_handOverChildren_62 fg_Ke_113 (by first | assumption | decide | exact k_lt (by assumption)) rfl ?_
  refine k_isub C d_Ke_handOverChildren_65 ?_
  refine k_put C d_Ke_handOverChildren_66 fp_Ke_107 (by first | assumption | decide | exact k_lt (by assumption)) rfl I6 (trivial) (fun I22 => ?_)
  refine k_aload_n C d_Ke_handOverChildren_69 rfl ?_
  refine k_iconst C d_Ke_handOverChildren_70 (v := 0) (by decide) ?_
  refine k_put C d_Ke_handOverChildren_71 fp_Ke_113 (by first | assumption | decide | exact k_lt (by assumption)) rfl I22 (trivial) (fun I23 => ?_)
  exact k_return C (E.to rfl (by first | rfl | (simp only [g_hand, g_ho, ↓reduceIte, Nat.reduceAdd]; done) | (simp only [g_hand, g_ho, ↓reduceIte, Nat.reduceAdd]; rfl) | contradiction | (simp [g_hand, g_ho, ↓reduceIte, Nat.reduceAdd]; done) | (simp [g_hand, g_ho, ↓reduceIte, Nat.reduceAdd]; rfl))) d_Ke_handOverChildren_74
set_option maxHeartbeats 4000000 in
set_option maxRecDepth 100000 in
theorem b_ul {X : kX} {G : kG} {l : Launch} {K : kM} (C : k_C X kT b_Ke_end y_Ke_end.cls gS G 4 l (k_rm 3)) (g i : Nat) (hg : g < 6) (hi : i < 4) (I0 : g_Inv K) (k : g_Inv (g_ul1 K g i) → k_W X 0 0 32 [(3, .int (nI (i + 1))), (0, .ref (G.2.2 0 0)), (1, .ref (G.2.2 7 g))] [] (g_ul1 K g i)) : k_W X 0 0 32 [(3, .int (nI i)), (0, .ref (G.2.2 0 0)), (1, .ref (G.2.2 7 g))] [] K := by
  refine k_iload_n C d_Ke_end_32 rfl ?_
  refine k_iconst C d_Ke_end_33 (v := 4) (by decide) ?_
  refine k_icmp_ge C d_Ke_end_34 (tgt := 69) (by decide) (fun h1 => absurd h1 (nI_ge hi (by decide))) (fun h1 => ?_)
  refine k_aload_n C d_Ke_end_37 rfl ?_
  refine k_getr C d_Ke_end_38 fg_Ke_37 (by first | assumption | decide | exact k_lt (by assumption)) rfl ?_
  refine k_iload_n C d_Ke_end_41 rfl ?_
  refine k_aaload C d_Ke_end_42 ar_14 (by first | assumption | decide | exact k_lt (by assumption)) (vp_in_nI hi (by decide)) (j := i) (nI_clamp (by omega)) rfl ?_
  refine k_get C d_Ke_end_43 fg_Ke_132 (by first | assumption | decide | exact k_lt (by assumption)) rfl ?_
  refine k_aload_n C d_Ke_end_46 rfl ?_
  refine k_get C d_Ke_end_47 fg_Ke_273 (by first | assumption | decide | exact k_lt (by assumption)) rfl ?_
  refine k_icmp_ne C d_Ke_end_50 (tgt := 63) (by decide) (fun h2 => ?_) (fun h2 => ?_)
  · refine k_iinc C d_Ke_end_63 rfl (v := nI (i + 1)) (nI_1 i) (by decide) ?_
    refine k_goto C d_Ke_end_66 (tgt := 32) (by decide) ?_
    exact k_loc [(3, .int (nI (i + 1))), (0, .ref (G.2.2 0 0)), (1, .ref (G.2.2 7 g))] ⟨rfl, rfl, rfl, trivial⟩ (k_mem (by first | rfl | (unfold g_ul1; simp only [*, ↓reduceIte]; done) | (unfold g_ul1; simp only [*, ↓reduceIte]; rfl) | (unfold g_ul1; simp [*])) (k (iv_ul1 I0)))
  · refine k_aload_n C d_Ke_end_53 rfl ?_
    refine k_aload_n C d_Ke_end_54 rfl ?_
    refine k_getr C d_Ke_end_55 fg_Ke_37 (by first | assumption | decide | exact k_lt (by assumption)) rfl ?_
    refine k_iload_n C d_Ke_end_58 rfl ?_
    refine k_aaload C d_Ke_end_59 ar_14 (by first | assumption | decide | exact k_lt (by assumption)) (vp_in_nI hi (by decide)) (j := i) (nI_clamp (by omega)) rfl ?_
    refine k_callVv C kg_all (c_Ke_passOn l G _ _ I0 (by first | assumption | decide | exact k_lt (by assumption))) cs_Ke_290 cv_Ke_passOn ob_0 (by first | assumption | decide | exact k_lt (by assumption)) rfl rfl (Nat.le_of_ble_eq_true rfl) ⟨rfl, rfl⟩ ⟨by decide, by decide⟩ ⟨Nat.zero_le _, Nat.zero_le _⟩ d_Ke_end_60 (iv_pass I0) (fun I3 => ?_)
    refine k_iinc C d_Ke_end_63 rfl (v := nI (i + 1)) (nI_1 i) (by decide) ?_
    refine k_goto C d_Ke_end_66 (tgt := 32) (by decide) ?_
    exact k_loc [(3, .int (nI (i + 1))), (0, .ref (G.2.2 0 0)), (1, .ref (G.2.2 7 g))] ⟨rfl, rfl, rfl, trivial⟩ (k_mem (by first | rfl | (unfold g_ul1; simp only [*, ↓reduceIte]; done) | (unfold g_ul1; simp only [*, ↓reduceIte]; rfl) | (unfold g_ul1; simp [*])) (k (iv_ul1 I0)))
set_option maxHeartbeats 4000000 in
set_option maxRecDepth 100000 in
theorem c_Ke_end (l : Launch) (G : kG) (K : kM) (g : Nat) (oc : Int32) (I0 : g_Inv K) (hg : g < 6) : k_Met l gS kT y_Ke_end b_Ke_end 4 none (k_rm 3) G [.ref (G.2.2 0 0), .ref (G.2.2 7 g), .int oc] K none (g_end K g oc) := by
  refine k_intro (by decide +kernel) rfl (Nat.le_of_ble_eq_true rfl) ?_
  intro X C E
  refine k_aload_n C d_Ke_end_0 rfl ?_
  refine k_iconst C d_Ke_end_1 (v := 3) (by decide) ?_
  refine k_put C d_Ke_end_2 fp_Ke_98 (by first | assumption | decide | exact k_lt (by assumption)) rfl I0 (trivial) (fun I1 => ?_)
  refine k_aload_n C d_Ke_end_5 rfl ?_
  refine k_iload_n C d_Ke_end_6 rfl ?_
  refine k_put C d_Ke_end_7 fp_Ke_119 (by first | assumption | decide | exact k_lt (by assumption)) rfl I1 (trivial) (fun I2 => ?_)
  refine k_iconst C d_Ke_end_10 (v := 0) (by decide) ?_
  refine k_istore_n C d_Ke_end_11 (by decide) ?_
  refine k_iload_n C d_Ke_end_12 rfl ?_
  refine k_iconst C d_Ke_end_13 (v := 4) (by decide) ?_
  refine k_icmp_ge C d_Ke_end_14 (tgt := 30) (by decide) (fun h => absurd h (by decide)) (fun _ => ?_)
  refine k_aload_n C d_Ke_end_17 rfl ?_
  refine k_aload_n C d_Ke_end_18 rfl ?_
  refine k_iload_n C d_Ke_end_19 rfl ?_
  refine k_callVi C kg_all (c_Ke_dropPage l G _ _ _ I2 hg (k_in (by decide))) cs_Ke_266 cv_Ke_dropPage ob_0 (by first | assumption | decide | exact k_lt (by assumption)) rfl rfl (Nat.le_of_ble_eq_true rfl) ⟨rfl, rfl⟩ ⟨by decide, by decide⟩ ⟨Nat.zero_le _, Nat.zero_le _⟩ d_Ke_end_20 (iv_drop I2) (fun I3 => ?_)
  refine k_pop C d_Ke_end_23 rfl ?_
  refine k_iinc C d_Ke_end_24 rfl (v := 1) (by decide) (by decide) ?_
  refine k_goto C d_Ke_end_27 (tgt := 12) (by decide) ?_
  refine k_iload_n C d_Ke_end_12 rfl ?_
  refine k_iconst C d_Ke_end_13 (v := 4) (by decide) ?_
  refine k_icmp_ge C d_Ke_end_14 (tgt := 30) (by decide) (fun h => absurd h (by decide)) (fun _ => ?_)
  refine k_aload_n C d_Ke_end_17 rfl ?_
  refine k_aload_n C d_Ke_end_18 rfl ?_
  refine k_iload_n C d_Ke_end_19 rfl ?_
  refine k_callVi C kg_all (c_Ke_dropPage l G _ _ _ I3 hg (k_in (by decide))) cs_Ke_266 cv_Ke_dropPage ob_0 (by first | assumption | decide | exact k_lt (by assumption)) rfl rfl (Nat.le_of_ble_eq_true rfl) ⟨rfl, rfl⟩ ⟨by decide, by decide⟩ ⟨Nat.zero_le _, Nat.zero_le _⟩ d_Ke_end_20 (iv_drop I3) (fun I4 => ?_)
  refine k_pop C d_Ke_end_23 rfl ?_
  refine k_iinc C d_Ke_end_24 rfl (v := 2) (by decide) (by decide) ?_
  refine k_goto C d_Ke_end_27 (tgt := 12) (by decide) ?_
  refine k_iload_n C d_Ke_end_12 rfl ?_
  refine k_iconst C d_Ke_end_13 (v := 4) (by decide) ?_
  refine k_icmp_ge C d_Ke_end_14 (tgt := 30) (by decide) (fun h => absurd h (by decide)) (fun _ => ?_)
  refine k_aload_n C d_Ke_end_17 rfl ?_
  refine k_aload_n C d_Ke_end_18 rfl ?_
  refine k_iload_n C d_Ke_end_19 rfl ?_
  refine k_callVi C kg_all (c_Ke_dropPage l G _ _ _ I4 hg (k_in (by decide))) cs_Ke_266 cv_Ke_dropPage ob_0 (by first | assumption | decide | exact k_lt (by assumption)) rfl rfl (Nat.le_of_ble_eq_true rfl) ⟨rfl, rfl⟩ ⟨by decide, by decide⟩ ⟨Nat.zero_le _, Nat.zero_le _⟩ d_Ke_end_20 (iv_drop I4) (fun I5 => ?_)
  refine k_pop C d_Ke_end_23 rfl ?_
  refine k_iinc C d_Ke_end_24 rfl (v := 3) (by decide) (by decide) ?_
  refine k_goto C d_Ke_end_27 (tgt := 12) (by decide) ?_
  refine k_iload_n C d_Ke_end_12 rfl ?_
  refine k_iconst C d_Ke_end_13 (v := 4) (by decide) ?_
  refine k_icmp_ge C d_Ke_end_14 (tgt := 30) (by decide) (fun h => absurd h (by decide)) (fun _ => ?_)
  refine k_aload_n C d_Ke_end_17 rfl ?_
  refine k_aload_n C d_Ke_end_18 rfl ?_
  refine k_iload_n C d_Ke_end_19 rfl ?_
  refine k_callVi C kg_all (c_Ke_dropPage l G _ _ _ I5 hg (k_in (by decide))) cs_Ke_266 cv_Ke_dropPage ob_0 (by first | assumption | decide | exact k_lt (by assumption)) rfl rfl (Nat.le_of_ble_eq_true rfl) ⟨rfl, rfl⟩ ⟨by decide, by decide⟩ ⟨Nat.zero_le _, Nat.zero_le _⟩ d_Ke_end_20 (iv_drop I5) (fun I6 => ?_)
  refine k_pop C d_Ke_end_23 rfl ?_
  refine k_iinc C d_Ke_end_24 rfl (v := 4) (by decide) (by decide) ?_
  refine k_goto C d_Ke_end_27 (tgt := 12) (by decide) ?_
  refine k_iload_n C d_Ke_end_12 rfl ?_
  refine k_iconst C d_Ke_end_13 (v := 4) (by decide) ?_
  refine k_icmp_ge C d_Ke_end_14 (tgt := 30) (by decide) (fun _ => ?_) (fun h => absurd h (by decide))
  refine k_iconst C d_Ke_end_30 (v := 0) (by decide) ?_
  refine k_istore_n C d_Ke_end_31 (by decide) ?_
  refine k_loc [(3, .int (nI 0)), (0, .ref (G.2.2 0 0)), (1, .ref (G.2.2 7 g))] ⟨rfl, rfl, rfl, trivial⟩ ?_
  have J0 : g_Inv _ := I6
  refine b_ul C g 0 hg (by decide) J0 (fun J1 => ?_)
  refine b_ul C g 1 hg (by decide) J1 (fun J2 => ?_)
  refine b_ul C g 2 hg (by decide) J2 (fun J3 => ?_)
  refine b_ul C g 3 hg (by decide) J3 (fun J4 => ?_)
  refine k_iload_n C d_Ke_end_32 rfl ?_
  refine k_iconst C d_Ke_end_33 (v := 4) (by decide) ?_
  refine k_icmp_ge C d_Ke_end_34 (tgt := 69) (by decide) (fun h21 => ?_) (fun h21 => absurd (by decide : (4 : Int32) ≤ nI 4) h21)
  refine k_aload_n C d_Ke_end_69 rfl ?_
  refine k_aload_n C d_Ke_end_70 rfl ?_
  refine k_callVv C kg_all (c_Ke_handOverChildren l G _ _ J4 (by first | assumption | decide | exact k_lt (by assumption))) cs_Ke_294 cv_Ke_handOverChildren ob_0 (by first | assumption | decide | exact k_lt (by assumption)) rfl rfl (Nat.le_of_ble_eq_true rfl) ⟨rfl, rfl⟩ ⟨by decide, by decide⟩ ⟨Nat.zero_le _, Nat.zero_le _⟩ d_Ke_end_71 (iv_hand J4) (fun I22 => ?_)
  exact k_return C (E.to rfl (by first | rfl | (simp only [g_end, g_ul, g_dr, ↓reduceIte, Nat.reduceAdd]; done) | (simp only [g_end, g_ul, g_dr, ↓reduceIte, Nat.reduceAdd]; rfl) | contradiction | (simp [g_end, g_ul, g_dr, ↓reduceIte, Nat.reduceAdd]; done) | (simp [g_end, g_ul, g_dr, ↓reduceIte, Nat.reduceAdd]; rfl))) d_Ke_end_74
set_option maxHeartbeats 4000000 in
set_option maxRecDepth 100000 in
theorem c_Ke_load (l : Launch) (G : kG) (K : kM) (g : Nat) (a ad : Int32) (I0 : g_Inv K) (hg : g < 6) (ha : vp_in a 4) : k_Met l gS kT y_Ke_load b_Ke_load 6 (some .int) (k_rm 2) G [.ref (G.2.2 0 0), .ref (G.2.2 7 g), .int a, .int ad] K (some (.int (g_addr K g ad))) (g_ldT K g a ad) := by
  refine k_intro (by decide +kernel) rfl (Nat.le_of_ble_eq_true rfl) ?_
  intro X C E
  refine k_aload_n C d_Ke_load_0 rfl ?_
  refine k_iload_n C d_Ke_load_1 rfl ?_
  refine k_callSi C kg_all (c_Ke_addressTrap l G _ _ _ I0 (by first | assumption | decide | exact k_lt (by assumption))) cs_Ke_255 cv_Ke_addressTrap rfl rfl (Nat.le_of_ble_eq_true rfl) ⟨rfl, rfl⟩ ⟨by decide, by decide⟩ ⟨Nat.zero_le _, Nat.zero_le _⟩ d_Ke_load_2 I0 (fun I1 => ?_)
  refine k_istore C d_Ke_load_5 (by decide) ?_
  refine k_iload C d_Ke_load_7 rfl ?_
  refine k_if_ne C d_Ke_load_9 (tgt := 42) (by decide) (fun h2 => ?_) (fun h2 => ?_)
  · refine k_iload C d_Ke_load_42 rfl ?_
    exact k_ireturn C (E.to (by first | rfl | (simp only [g_ldT, h2, ↓reduceIte, Nat.reduceAdd]; done) | (simp only [g_ldT, h2, ↓reduceIte, Nat.reduceAdd]; rfl) | contradiction | (simp [g_ldT, h2, ↓reduceIte, Nat.reduceAdd]; done) | (simp [g_ldT, h2, ↓reduceIte, Nat.reduceAdd]; rfl)) (by first | rfl | (simp only [g_ldT, h2, ↓reduceIte, Nat.reduceAdd]; done) | (simp only [g_ldT, h2, ↓reduceIte, Nat.reduceAdd]; rfl) | contradiction | (simp [g_ldT, h2, ↓reduceIte, Nat.reduceAdd]; done) | (simp [g_ldT, h2, ↓reduceIte, Nat.reduceAdd]; rfl))) d_Ke_load_44
  · refine k_aload_n C d_Ke_load_12 rfl ?_
    refine k_getr C d_Ke_load_13 fg_Ke_125 (by first | assumption | decide | exact k_lt (by assumption)) rfl ?_
    refine k_iload_n C d_Ke_load_16 rfl ?_
    refine k_bipush C d_Ke_load_17 (v := 8) (by decide) ?_
    refine k_idiv C d_Ke_load_19 (by first | decide | assumption) ?_
    refine k_iaload C d_Ke_load_20 ar_9 (by first | assumption | decide | exact k_lt (by assumption)) (r_div8 (r_adr h2).1) rfl ?_
    refine k_istore C d_Ke_load_21 (by decide) ?_
    refine k_aload_n C d_Ke_load_23 rfl ?_
    refine k_getr C d_Ke_load_24 fg_Ke_94 (by first | assumption | decide | exact k_lt (by assumption)) rfl ?_
    refine k_iload_n C d_Ke_load_27 rfl ?_
    refine k_aload_n C d_Ke_load_28 rfl ?_
    refine k_getr C d_Ke_load_29 fg_Ke_19 (by first | assumption | decide | exact k_lt (by assumption)) rfl ?_
    refine k_iload C d_Ke_load_32 rfl ?_
    refine k_iload_n C d_Ke_load_34 rfl ?_
    refine k_bipush C d_Ke_load_35 (v := 8) (by decide) ?_
    refine k_irem C d_Ke_load_37 (by first | decide | assumption) ?_
    refine k_callVi C kg_all (c_Fr_read l G _ _ _ I1 (r_adr2 I0 h2) (r_rem8 (r_adr h2).1)) cs_Ke_128 cv_Fr_read ob_3 (by first | assumption | decide | exact k_lt (by assumption)) rfl rfl (Nat.le_of_ble_eq_true rfl) ⟨rfl, rfl⟩ ⟨by decide, by decide⟩ ⟨Nat.zero_le _, Nat.zero_le _⟩ d_Ke_load_38 I1 (fun I3 => ?_)
    refine k_iastore C d_Ke_load_41 ar_8 (by first | assumption | decide | exact k_lt (by assumption)) (by assumption) rfl I3 (trivial) (fun I4 => ?_)
    refine k_iload C d_Ke_load_42 rfl ?_
    exact k_ireturn C (E.to (by first | rfl | (simp only [g_ldT, h2, ↓reduceIte, Nat.reduceAdd]; done) | (simp only [g_ldT, h2, ↓reduceIte, Nat.reduceAdd]; rfl) | contradiction | (simp [g_ldT, h2, ↓reduceIte, Nat.reduceAdd]; done) | (simp [g_ldT, h2, ↓reduceIte, Nat.reduceAdd]; rfl)) (by first | rfl | (simp only [g_ldT, h2, ↓reduceIte, Nat.reduceAdd]; done) | (simp only [g_ldT, h2, ↓reduceIte, Nat.reduceAdd]; rfl) | contradiction | (simp [g_ldT, h2, ↓reduceIte, Nat.reduceAdd]; done) | (simp [g_ldT, h2, ↓reduceIte, Nat.reduceAdd]; rfl))) d_Ke_load_44
set_option maxHeartbeats 4000000 in
set_option maxRecDepth 100000 in
theorem c_Ke_store (l : Launch) (G : kG) (K : kM) (g : Nat) (a ad : Int32) (I0 : g_Inv K) (hg : g < 6) (ha : vp_in a 4) : k_Met l gS kT y_Ke_store b_Ke_store 6 (some .int) (k_rm 2) G [.ref (G.2.2 0 0), .ref (G.2.2 7 g), .int a, .int ad] K (some (.int (g_addr K g ad))) (g_stT K g a ad) := by
  refine k_intro (by decide +kernel) rfl (Nat.le_of_ble_eq_true rfl) ?_
  intro X C E
  refine k_aload_n C d_Ke_store_0 rfl ?_
  refine k_iload_n C d_Ke_store_1 rfl ?_
  refine k_callSi C kg_all (c_Ke_addressTrap l G _ _ _ I0 (by first | assumption | decide | exact k_lt (by assumption))) cs_Ke_255 cv_Ke_addressTrap rfl rfl (Nat.le_of_ble_eq_true rfl) ⟨rfl, rfl⟩ ⟨by decide, by decide⟩ ⟨Nat.zero_le _, Nat.zero_le _⟩ d_Ke_store_2 I0 (fun I1 => ?_)
  refine k_istore C d_Ke_store_5 (by decide) ?_
  refine k_iload C d_Ke_store_7 rfl ?_
  refine k_if_ne C d_Ke_store_9 (tgt := 42) (by decide) (fun h2 => ?_) (fun h2 => ?_)
  · refine k_iload C d_Ke_store_42 rfl ?_
    exact k_ireturn C (E.to (by first | rfl | (simp only [g_stT, h2, ↓reduceIte, Nat.reduceAdd]; done) | (simp only [g_stT, h2, ↓reduceIte, Nat.reduceAdd]; rfl) | contradiction | (simp [g_stT, h2, ↓reduceIte, Nat.reduceAdd]; done) | (simp [g_stT, h2, ↓reduceIte, Nat.reduceAdd]; rfl)) (by first | rfl | (simp only [g_stT, h2, ↓reduceIte, Nat.reduceAdd]; done) | (simp only [g_stT, h2, ↓reduceIte, Nat.reduceAdd]; rfl) | contradiction | (simp [g_stT, h2, ↓reduceIte, Nat.reduceAdd]; done) | (simp [g_stT, h2, ↓reduceIte, Nat.reduceAdd]; rfl))) d_Ke_store_44
  · refine k_aload_n C d_Ke_store_12 rfl ?_
    refine k_getr C d_Ke_store_13 fg_Ke_125 (by first | assumption | decide | exact k_lt (by assumption)) rfl ?_
    refine k_iload_n C d_Ke_store_16 rfl ?_
    refine k_bipush C d_Ke_store_17 (v := 8) (by decide) ?_
    refine k_idiv C d_Ke_store_19 (by first | decide | assumption) ?_
    refine k_iaload C d_Ke_store_20 ar_9 (by first | assumption | decide | exact k_lt (by assumption)) (r_div8 (r_adr h2).1) rfl ?_
    refine k_istore C d_Ke_store_21 (by decide) ?_
    refine k_aload_n C d_Ke_store_23 rfl ?_
    refine k_getr C d_Ke_store_24 fg_Ke_19 (by first | assumption | decide | exact k_lt (by assumption)) rfl ?_
    refine k_iload C d_Ke_store_27 rfl ?_
    refine k_iload_n C d_Ke_store_29 rfl ?_
    refine k_bipush C d_Ke_store_30 (v := 8) (by decide) ?_
    refine k_irem C d_Ke_store_32 (by first | decide | assumption) ?_
    refine k_aload_n C d_Ke_store_33 rfl ?_
    refine k_getr C d_Ke_store_34 fg_Ke_94 (by first | assumption | decide | exact k_lt (by assumption)) rfl ?_
    refine k_iload_n C d_Ke_store_37 rfl ?_
    refine k_iaload C d_Ke_store_38 ar_8 (by first | assumption | decide | exact k_lt (by assumption)) (by assumption) rfl ?_
    refine k_callVv C kg_all (c_Fr_write l G _ _ _ _ I1 (r_adr2 I0 h2) (r_rem8 (r_adr h2).1)) cs_Ke_258 cv_Fr_write ob_3 (by first | assumption | decide | exact k_lt (by assumption)) rfl rfl (Nat.le_of_ble_eq_true rfl) ⟨rfl, rfl⟩ ⟨by decide, by decide⟩ ⟨Nat.zero_le _, Nat.zero_le _⟩ d_Ke_store_39 (iv_store I1) (fun I3 => ?_)
    refine k_iload C d_Ke_store_42 rfl ?_
    exact k_ireturn C (E.to (by first | rfl | (simp only [g_stT, h2, ↓reduceIte, Nat.reduceAdd]; done) | (simp only [g_stT, h2, ↓reduceIte, Nat.reduceAdd]; rfl) | contradiction | (simp [g_stT, h2, ↓reduceIte, Nat.reduceAdd]; done) | (simp [g_stT, h2, ↓reduceIte, Nat.reduceAdd]; rfl)) (by first | rfl | (simp only [g_stT, h2, ↓reduceIte, Nat.reduceAdd]; done) | (simp only [g_stT, h2, ↓reduceIte, Nat.reduceAdd]; rfl) | contradiction | (simp [g_stT, h2, ↓reduceIte, Nat.reduceAdd]; done) | (simp [g_stT, h2, ↓reduceIte, Nat.reduceAdd]; rfl))) d_Ke_store_44
set_option maxHeartbeats 4000000 in
set_option maxRecDepth 100000 in
theorem c_Ke_map (l : Launch) (G : kG) (K : kM) (g : Nat) (a n : Int32) (I0 : g_Inv K) (hg : g < 6) (ha : vp_in a 4) : k_Met l gS kT y_Ke_map b_Ke_map 5 (some .int) (k_rm 3) G [.ref (G.2.2 0 0), .ref (G.2.2 7 g), .int a, .int n] K (some (.int (g_n4 n))) (g_mapT K g a n) := by
  refine k_intro (by decide +kernel) rfl (Nat.le_of_ble_eq_true rfl) ?_
  intro X C E
  refine k_iload_n C d_Ke_map_0 rfl ?_
  refine k_iconst C d_Ke_map_1 (v := 4) (by decide) ?_
  refine k_callSi C kg_all (c_Ke_isOutside l G _ _ _ I0) cs_Ke_179 cv_Ke_isOutside rfl rfl (Nat.le_of_ble_eq_true rfl) ⟨rfl, rfl⟩ ⟨by decide, by decide⟩ ⟨Nat.zero_le _, Nat.zero_le _⟩ d_Ke_map_2 I0 (fun I1 => ?_)
  refine k_if_eq C d_Ke_map_5 (tgt := 10) (by decide) (fun h2 => ?_) (fun h2 => ?_)
  · refine k_iconst C d_Ke_map_10 (v := (-1)) (by decide) ?_
    refine k_istore C d_Ke_map_11 (by decide) ?_
    refine k_aload_n C d_Ke_map_13 rfl ?_
    refine k_getr C d_Ke_map_14 fg_Ke_125 (by first | assumption | decide | exact k_lt (by assumption)) rfl ?_
    refine k_iload_n C d_Ke_map_17 rfl ?_
    refine k_iaload C d_Ke_map_18 ar_9 (by first | assumption | decide | exact k_lt (by assumption)) (r_out4 h2) rfl ?_
    refine k_iconst C d_Ke_map_19 (v := (-1)) (by decide) ?_
    refine k_icmp_ne C d_Ke_map_20 (tgt := 39) (by decide) (fun h3 => ?_) (fun h3 => ?_)
    · refine k_iload C d_Ke_map_39 rfl ?_
      refine k_iconst C d_Ke_map_41 (v := (-1)) (by decide) ?_
      refine k_icmp_eq C d_Ke_map_42 (tgt := 63) (by decide) (fun _ => ?_) (fun h => absurd h (by decide))
      refine k_aload_n C d_Ke_map_63 rfl ?_
      refine k_getr C d_Ke_map_64 fg_Ke_94 (by first | assumption | decide | exact k_lt (by assumption)) rfl ?_
      refine k_iload_n C d_Ke_map_67 rfl ?_
      refine k_iload C d_Ke_map_68 rfl ?_
      refine k_iconst C d_Ke_map_70 (v := (-1)) (by decide) ?_
      refine k_icmp_ne C d_Ke_map_71 (tgt := 78) (by decide) (fun h => absurd h (by decide)) (fun _ => ?_)
      refine k_iconst C d_Ke_map_74 (v := 0) (by decide) ?_
      refine k_goto C d_Ke_map_75 (tgt := 79) (by decide) ?_
      refine k_iastore C d_Ke_map_79 ar_8 (by first | assumption | decide | exact k_lt (by assumption)) (by assumption) rfl I1 (trivial) (fun I4 => ?_)
      refine k_iconst C d_Ke_map_80 (v := 0) (by decide) ?_
      exact k_ireturn C (E.to (by first | rfl | (simp only [g_n4, g_mapT, g_mapF, g_mapK, h2, h3, ↓reduceIte, Nat.reduceAdd]; done) | (simp only [g_n4, g_mapT, g_mapF, g_mapK, h2, h3, ↓reduceIte, Nat.reduceAdd]; rfl) | contradiction | (simp [g_n4, g_mapT, g_mapF, g_mapK, h2, h3, ↓reduceIte, Nat.reduceAdd]; done) | (simp [g_n4, g_mapT, g_mapF, g_mapK, h2, h3, ↓reduceIte, Nat.reduceAdd]; rfl)) (by first | rfl | (simp only [g_n4, g_mapT, g_mapF, g_mapK, h2, h3, ↓reduceIte, Nat.reduceAdd]; done) | (simp only [g_n4, g_mapT, g_mapF, g_mapK, h2, h3, ↓reduceIte, Nat.reduceAdd]; rfl) | contradiction | (simp [g_n4, g_mapT, g_mapF, g_mapK, h2, h3, ↓reduceIte, Nat.reduceAdd]; done) | (simp [g_n4, g_mapT, g_mapF, g_mapK, h2, h3, ↓reduceIte, Nat.reduceAdd]; rfl))) d_Ke_map_81
    · refine k_aload_n C d_Ke_map_23 rfl ?_
      refine k_callVi C kg_all (c_Gu_quotaLeft l G _ _ I1 (by first | assumption | decide | exact k_lt (by assumption))) cs_Ke_260 cv_Gu_quotaLeft ob_7 (by first | assumption | decide | exact k_lt (by assumption)) rfl rfl (Nat.le_of_ble_eq_true rfl) ⟨rfl, rfl⟩ ⟨by decide, by decide⟩ ⟨Nat.zero_le _, Nat.zero_le _⟩ d_Ke_map_24 I1 (fun I5 => ?_)
      refine k_if_le C d_Ke_map_27 (tgt := 39) (by decide) (fun h6 => ?_) (fun h6 => ?_)
      · refine k_iload C d_Ke_map_39 rfl ?_
        refine k_iconst C d_Ke_map_41 (v := (-1)) (by decide) ?_
        refine k_icmp_eq C d_Ke_map_42 (tgt := 63) (by decide) (fun _ => ?_) (fun h => absurd h (by decide))
        refine k_aload_n C d_Ke_map_63 rfl ?_
        refine k_getr C d_Ke_map_64 fg_Ke_94 (by first | assumption | decide | exact k_lt (by assumption)) rfl ?_
        refine k_iload_n C d_Ke_map_67 rfl ?_
        refine k_iload C d_Ke_map_68 rfl ?_
        refine k_iconst C d_Ke_map_70 (v := (-1)) (by decide) ?_
        refine k_icmp_ne C d_Ke_map_71 (tgt := 78) (by decide) (fun h => absurd h (by decide)) (fun _ => ?_)
        refine k_iconst C d_Ke_map_74 (v := 0) (by decide) ?_
        refine k_goto C d_Ke_map_75 (tgt := 79) (by decide) ?_
        refine k_iastore C d_Ke_map_79 ar_8 (by first | assumption | decide | exact k_lt (by assumption)) (by assumption) rfl I5 (trivial) (fun I7 => ?_)
        refine k_iconst C d_Ke_map_80 (v := 0) (by decide) ?_
        exact k_ireturn C (E.to (by first | rfl | (simp only [g_n4, g_mapT, g_mapF, g_mapK, h2, h3, h6, ↓reduceIte, Nat.reduceAdd]; done) | (simp only [g_n4, g_mapT, g_mapF, g_mapK, h2, h3, h6, ↓reduceIte, Nat.reduceAdd]; rfl) | contradiction | (simp [g_n4, g_mapT, g_mapF, g_mapK, h2, h3, h6, ↓reduceIte, Nat.reduceAdd]; done) | (simp [g_n4, g_mapT, g_mapF, g_mapK, h2, h3, h6, ↓reduceIte, Nat.reduceAdd]; rfl)) (by first | rfl | (simp only [g_n4, g_mapT, g_mapF, g_mapK, h2, h3, h6, ↓reduceIte, Nat.reduceAdd]; done) | (simp only [g_n4, g_mapT, g_mapF, g_mapK, h2, h3, h6, ↓reduceIte, Nat.reduceAdd]; rfl) | contradiction | (simp [g_n4, g_mapT, g_mapF, g_mapK, h2, h3, h6, ↓reduceIte, Nat.reduceAdd]; done) | (simp [g_n4, g_mapT, g_mapF, g_mapK, h2, h3, h6, ↓reduceIte, Nat.reduceAdd]; rfl))) d_Ke_map_81
      · refine k_aload_n C d_Ke_map_30 rfl ?_
        refine k_getr C d_Ke_map_31 fg_Ke_19 (by first | assumption | decide | exact k_lt (by assumption)) rfl ?_
        refine k_callVi C kg_all (c_Fr_takeLeast l G _ I5) cs_Ke_263 cv_Fr_takeLeast ob_3 (by first | assumption | decide | exact k_lt (by assumption)) rfl rfl (Nat.le_of_ble_eq_true rfl) ⟨rfl, rfl⟩ ⟨by decide, by decide⟩ ⟨Nat.zero_le _, Nat.zero_le _⟩ d_Ke_map_34 (iv_frT I5 12 0) (fun I8 => ?_)
        refine k_istore C d_Ke_map_37 (by decide) ?_
        refine k_iload C d_Ke_map_39 rfl ?_
        refine k_iconst C d_Ke_map_41 (v := (-1)) (by decide) ?_
        refine k_icmp_eq C d_Ke_map_42 (tgt := 63) (by decide) (fun h9 => ?_) (fun h9 => ?_)
        · refine k_aload_n C d_Ke_map_63 rfl ?_
          refine k_getr C d_Ke_map_64 fg_Ke_94 (by first | assumption | decide | exact k_lt (by assumption)) rfl ?_
          refine k_iload_n C d_Ke_map_67 rfl ?_
          refine k_iload C d_Ke_map_68 rfl ?_
          refine k_iconst C d_Ke_map_70 (v := (-1)) (by decide) ?_
          refine k_icmp_ne C d_Ke_map_71 (tgt := 78) (by decide) (fun h10 => ?_) (fun h10 => ?_)
          · refine k_iconst C d_Ke_map_78 (v := 1) (by decide) ?_
            refine k_iastore C d_Ke_map_79 ar_8 (by first | assumption | decide | exact k_lt (by assumption)) (by assumption) rfl I8 (trivial) (fun I11 => ?_)
            refine k_iconst C d_Ke_map_80 (v := 0) (by decide) ?_
            exact k_ireturn C (E.to (by first | rfl | (simp only [g_n4, g_mapT, g_mapF, g_mapK, h2, h3, h6, h9, h10, ↓reduceIte, Nat.reduceAdd]; done) | (simp only [g_n4, g_mapT, g_mapF, g_mapK, h2, h3, h6, h9, h10, ↓reduceIte, Nat.reduceAdd]; rfl) | contradiction | (simp [g_n4, g_mapT, g_mapF, g_mapK, h2, h3, h6, h9, h10, ↓reduceIte, Nat.reduceAdd]; done) | (simp [g_n4, g_mapT, g_mapF, g_mapK, h2, h3, h6, h9, h10, ↓reduceIte, Nat.reduceAdd]; rfl)) (by first | rfl | (simp only [g_n4, g_mapT, g_mapF, g_mapK, h2, h3, h6, h9, h10, ↓reduceIte, Nat.reduceAdd]; done) | (simp only [g_n4, g_mapT, g_mapF, g_mapK, h2, h3, h6, h9, h10, ↓reduceIte, Nat.reduceAdd]; rfl) | contradiction | (simp [g_n4, g_mapT, g_mapF, g_mapK, h2, h3, h6, h9, h10, ↓reduceIte, Nat.reduceAdd]; done) | (simp [g_n4, g_mapT, g_mapF, g_mapK, h2, h3, h6, h9, h10, ↓reduceIte, Nat.reduceAdd]; rfl))) d_Ke_map_81
          · refine k_iconst C d_Ke_map_74 (v := 0) (by decide) ?_
            refine k_goto C d_Ke_map_75 (tgt := 79) (by decide) ?_
            refine k_iastore C d_Ke_map_79 ar_8 (by first | assumption | decide | exact k_lt (by assumption)) (by assumption) rfl I8 (trivial) (fun I12 => ?_)
            refine k_iconst C d_Ke_map_80 (v := 0) (by decide) ?_
            exact k_ireturn C (E.to (by first | rfl | (simp only [g_n4, g_mapT, g_mapF, g_mapK, h2, h3, h6, h9, h10, ↓reduceIte, Nat.reduceAdd]; done) | (simp only [g_n4, g_mapT, g_mapF, g_mapK, h2, h3, h6, h9, h10, ↓reduceIte, Nat.reduceAdd]; rfl) | contradiction | (simp [g_n4, g_mapT, g_mapF, g_mapK, h2, h3, h6, h9, h10, ↓reduceIte, Nat.reduceAdd]; done) | (simp [g_n4, g_mapT, g_mapF, g_mapK, h2, h3, h6, h9, h10, ↓reduceIte, Nat.reduceAdd]; rfl)) (by first | rfl | (simp only [g_n4, g_mapT, g_mapF, g_mapK, h2, h3, h6, h9, h10, ↓reduceIte, Nat.reduceAdd]; done) | (simp only [g_n4, g_mapT, g_mapF, g_mapK, h2, h3, h6, h9, h10, ↓reduceIte, Nat.reduceAdd]; rfl) | contradiction | (simp [g_n4, g_mapT, g_mapF, g_mapK, h2, h3, h6, h9, h10, ↓reduceIte, Nat.reduceAdd]; done) | (simp [g_n4, g_mapT, g_mapF, g_mapK, h2, h3, h6, h9, h10, ↓reduceIte, Nat.reduceAdd]; rfl))) d_Ke_map_81
        · refine k_aload_n C d_Ke_map_45 rfl ?_
          refine k_getr C d_Ke_map_46 fg_Ke_125 (by first | assumption | decide | exact k_lt (by assumption)) rfl ?_
          refine k_iload_n C d_Ke_map_49 rfl ?_
          refine k_iload C d_Ke_map_50 rfl ?_
          refine k_iastore C d_Ke_map_52 ar_9 (by first | assumption | decide | exact k_lt (by assumption)) (r_out4 h2) rfl I8 (r_frX 12 0 rfl) (fun I13 => ?_)
          refine k_aload_n C d_Ke_map_53 rfl ?_
          refine k_dup C d_Ke_map_54 rfl ?_
          refine k_get C d_Ke_map_55 fg_Ke_110 (by first | assumption | decide | exact k_lt (by assumption)) rfl ?_
          refine k_iconst C d_Ke_map_58 (v := 1) (by decide) ?_
          refine k_iadd C d_Ke_map_59 ?_
          refine k_put C d_Ke_map_60 fp_Ke_110 (by first | assumption | decide | exact k_lt (by assumption)) rfl I13 (trivial) (fun I14 => ?_)
          refine k_aload_n C d_Ke_map_63 rfl ?_
          refine k_getr C d_Ke_map_64 fg_Ke_94 (by first | assumption | decide | exact k_lt (by assumption)) rfl ?_
          refine k_iload_n C d_Ke_map_67 rfl ?_
          refine k_iload C d_Ke_map_68 rfl ?_
          refine k_iconst C d_Ke_map_70 (v := (-1)) (by decide) ?_
          refine k_icmp_ne C d_Ke_map_71 (tgt := 78) (by decide) (fun h15 => ?_) (fun h15 => ?_)
          · refine k_iconst C d_Ke_map_78 (v := 1) (by decide) ?_
            refine k_iastore C d_Ke_map_79 ar_8 (by first | assumption | decide | exact k_lt (by assumption)) (by assumption) rfl I14 (trivial) (fun I16 => ?_)
            refine k_iconst C d_Ke_map_80 (v := 0) (by decide) ?_
            exact k_ireturn C (E.to (by first | rfl | (simp only [g_n4, g_mapT, g_mapF, g_mapK, h2, h3, h6, h9, h15, ↓reduceIte, Nat.reduceAdd]; done) | (simp only [g_n4, g_mapT, g_mapF, g_mapK, h2, h3, h6, h9, h15, ↓reduceIte, Nat.reduceAdd]; rfl) | contradiction | (simp [g_n4, g_mapT, g_mapF, g_mapK, h2, h3, h6, h9, h15, ↓reduceIte, Nat.reduceAdd]; done) | (simp [g_n4, g_mapT, g_mapF, g_mapK, h2, h3, h6, h9, h15, ↓reduceIte, Nat.reduceAdd]; rfl)) (by first | rfl | (simp only [g_n4, g_mapT, g_mapF, g_mapK, h2, h3, h6, h9, h15, ↓reduceIte, Nat.reduceAdd]; done) | (simp only [g_n4, g_mapT, g_mapF, g_mapK, h2, h3, h6, h9, h15, ↓reduceIte, Nat.reduceAdd]; rfl) | contradiction | (simp [g_n4, g_mapT, g_mapF, g_mapK, h2, h3, h6, h9, h15, ↓reduceIte, Nat.reduceAdd]; done) | (simp [g_n4, g_mapT, g_mapF, g_mapK, h2, h3, h6, h9, h15, ↓reduceIte, Nat.reduceAdd]; rfl))) d_Ke_map_81
          · refine k_iconst C d_Ke_map_74 (v := 0) (by decide) ?_
            refine k_goto C d_Ke_map_75 (tgt := 79) (by decide) ?_
            refine k_iastore C d_Ke_map_79 ar_8 (by first | assumption | decide | exact k_lt (by assumption)) (by assumption) rfl I14 (trivial) (fun I17 => ?_)
            refine k_iconst C d_Ke_map_80 (v := 0) (by decide) ?_
            exact k_ireturn C (E.to (by first | rfl | (simp only [g_n4, g_mapT, g_mapF, g_mapK, h2, h3, h6, h9, h15, ↓reduceIte, Nat.reduceAdd]; done) | (simp only [g_n4, g_mapT, g_mapF, g_mapK, h2, h3, h6, h9, h15, ↓reduceIte, Nat.reduceAdd]; rfl) | contradiction | (simp [g_n4, g_mapT, g_mapF, g_mapK, h2, h3, h6, h9, h15, ↓reduceIte, Nat.reduceAdd]; done) | (simp [g_n4, g_mapT, g_mapF, g_mapK, h2, h3, h6, h9, h15, ↓reduceIte, Nat.reduceAdd]; rfl)) (by first | rfl | (simp only [g_n4, g_mapT, g_mapF, g_mapK, h2, h3, h6, h9, h15, ↓reduceIte, Nat.reduceAdd]; done) | (simp only [g_n4, g_mapT, g_mapF, g_mapK, h2, h3, h6, h9, h15, ↓reduceIte, Nat.reduceAdd]; rfl) | contradiction | (simp [g_n4, g_mapT, g_mapF, g_mapK, h2, h3, h6, h9, h15, ↓reduceIte, Nat.reduceAdd]; done) | (simp [g_n4, g_mapT, g_mapF, g_mapK, h2, h3, h6, h9, h15, ↓reduceIte, Nat.reduceAdd]; rfl))) d_Ke_map_81
  · refine k_iconst C d_Ke_map_8 (v := 4) (by decide) ?_
    exact k_ireturn C (E.to (by first | rfl | (simp only [g_n4, g_mapT, g_mapF, g_mapK, h2, ↓reduceIte, Nat.reduceAdd]; done) | (simp only [g_n4, g_mapT, g_mapF, g_mapK, h2, ↓reduceIte, Nat.reduceAdd]; rfl) | contradiction | (simp [g_n4, g_mapT, g_mapF, g_mapK, h2, ↓reduceIte, Nat.reduceAdd]; done) | (simp [g_n4, g_mapT, g_mapF, g_mapK, h2, ↓reduceIte, Nat.reduceAdd]; rfl)) (by first | rfl | (simp only [g_n4, g_mapT, g_mapF, g_mapK, h2, ↓reduceIte, Nat.reduceAdd]; done) | (simp only [g_n4, g_mapT, g_mapF, g_mapK, h2, ↓reduceIte, Nat.reduceAdd]; rfl) | contradiction | (simp [g_n4, g_mapT, g_mapF, g_mapK, h2, ↓reduceIte, Nat.reduceAdd]; done) | (simp [g_n4, g_mapT, g_mapF, g_mapK, h2, ↓reduceIte, Nat.reduceAdd]; rfl))) d_Ke_map_9
set_option maxHeartbeats 4000000 in
set_option maxRecDepth 100000 in
theorem c_Ke_unmap (l : Launch) (G : kG) (K : kM) (g : Nat) (a n : Int32) (I0 : g_Inv K) (hg : g < 6) (ha : vp_in a 4) : k_Met l gS kT y_Ke_unmap b_Ke_unmap 4 (some .int) (k_rm 2) G [.ref (G.2.2 0 0), .ref (G.2.2 7 g), .int a, .int n] K (some (.int (g_n4 n))) (g_unT K g a n) := by
  refine k_intro (by decide +kernel) rfl (Nat.le_of_ble_eq_true rfl) ?_
  intro X C E
  refine k_iload_n C d_Ke_unmap_0 rfl ?_
  refine k_iconst C d_Ke_unmap_1 (v := 4) (by decide) ?_
  refine k_callSi C kg_all (c_Ke_isOutside l G _ _ _ I0) cs_Ke_179 cv_Ke_isOutside rfl rfl (Nat.le_of_ble_eq_true rfl) ⟨rfl, rfl⟩ ⟨by decide, by decide⟩ ⟨Nat.zero_le _, Nat.zero_le _⟩ d_Ke_unmap_2 I0 (fun I1 => ?_)
  refine k_if_eq C d_Ke_unmap_5 (tgt := 10) (by decide) (fun h2 => ?_) (fun h2 => ?_)
  · refine k_aload_n C d_Ke_unmap_10 rfl ?_
    refine k_getr C d_Ke_unmap_11 fg_Ke_94 (by first | assumption | decide | exact k_lt (by assumption)) rfl ?_
    refine k_iload_n C d_Ke_unmap_14 rfl ?_
    refine k_aload_n C d_Ke_unmap_15 rfl ?_
    refine k_aload_n C d_Ke_unmap_16 rfl ?_
    refine k_iload_n C d_Ke_unmap_17 rfl ?_
    refine k_callVi C kg_all (c_Ke_dropPage l G _ _ _ I1 hg (r_out4 h2)) cs_Ke_266 cv_Ke_dropPage ob_0 (by first | assumption | decide | exact k_lt (by assumption)) rfl rfl (Nat.le_of_ble_eq_true rfl) ⟨rfl, rfl⟩ ⟨by decide, by decide⟩ ⟨Nat.zero_le _, Nat.zero_le _⟩ d_Ke_unmap_18 (iv_drop I1) (fun I3 => ?_)
    refine k_if_eq C d_Ke_unmap_21 (tgt := 28) (by decide) (fun h4 => ?_) (fun h4 => ?_)
    · refine k_iconst C d_Ke_unmap_28 (v := 0) (by decide) ?_
      refine k_iastore C d_Ke_unmap_29 ar_8 (by first | assumption | decide | exact k_lt (by assumption)) (by assumption) rfl I3 (trivial) (fun I5 => ?_)
      refine k_iconst C d_Ke_unmap_30 (v := 0) (by decide) ?_
      exact k_ireturn C (E.to (by first | rfl | (simp only [g_n4, g_unT, h2, h4, ↓reduceIte, Nat.reduceAdd]; done) | (simp only [g_n4, g_unT, h2, h4, ↓reduceIte, Nat.reduceAdd]; rfl) | contradiction | (simp [g_n4, g_unT, h2, h4, ↓reduceIte, Nat.reduceAdd]; done) | (simp [g_n4, g_unT, h2, h4, ↓reduceIte, Nat.reduceAdd]; rfl)) (by first | rfl | (simp only [g_n4, g_unT, h2, h4, ↓reduceIte, Nat.reduceAdd]; done) | (simp only [g_n4, g_unT, h2, h4, ↓reduceIte, Nat.reduceAdd]; rfl) | contradiction | (simp [g_n4, g_unT, h2, h4, ↓reduceIte, Nat.reduceAdd]; done) | (simp [g_n4, g_unT, h2, h4, ↓reduceIte, Nat.reduceAdd]; rfl))) d_Ke_unmap_31
    · refine k_iconst C d_Ke_unmap_24 (v := 1) (by decide) ?_
      refine k_goto C d_Ke_unmap_25 (tgt := 29) (by decide) ?_
      refine k_iastore C d_Ke_unmap_29 ar_8 (by first | assumption | decide | exact k_lt (by assumption)) (by assumption) rfl I3 (trivial) (fun I6 => ?_)
      refine k_iconst C d_Ke_unmap_30 (v := 0) (by decide) ?_
      exact k_ireturn C (E.to (by first | rfl | (simp only [g_n4, g_unT, h2, h4, ↓reduceIte, Nat.reduceAdd]; done) | (simp only [g_n4, g_unT, h2, h4, ↓reduceIte, Nat.reduceAdd]; rfl) | contradiction | (simp [g_n4, g_unT, h2, h4, ↓reduceIte, Nat.reduceAdd]; done) | (simp [g_n4, g_unT, h2, h4, ↓reduceIte, Nat.reduceAdd]; rfl)) (by first | rfl | (simp only [g_n4, g_unT, h2, h4, ↓reduceIte, Nat.reduceAdd]; done) | (simp only [g_n4, g_unT, h2, h4, ↓reduceIte, Nat.reduceAdd]; rfl) | contradiction | (simp [g_n4, g_unT, h2, h4, ↓reduceIte, Nat.reduceAdd]; done) | (simp [g_n4, g_unT, h2, h4, ↓reduceIte, Nat.reduceAdd]; rfl))) d_Ke_unmap_31
  · refine k_iconst C d_Ke_unmap_8 (v := 4) (by decide) ?_
    exact k_ireturn C (E.to (by first | rfl | (simp only [g_n4, g_unT, h2, ↓reduceIte, Nat.reduceAdd]; done) | (simp only [g_n4, g_unT, h2, ↓reduceIte, Nat.reduceAdd]; rfl) | contradiction | (simp [g_n4, g_unT, h2, ↓reduceIte, Nat.reduceAdd]; done) | (simp [g_n4, g_unT, h2, ↓reduceIte, Nat.reduceAdd]; rfl)) (by first | rfl | (simp only [g_n4, g_unT, h2, ↓reduceIte, Nat.reduceAdd]; done) | (simp only [g_n4, g_unT, h2, ↓reduceIte, Nat.reduceAdd]; rfl) | contradiction | (simp [g_n4, g_unT, h2, ↓reduceIte, Nat.reduceAdd]; done) | (simp [g_n4, g_unT, h2, ↓reduceIte, Nat.reduceAdd]; rfl))) d_Ke_unmap_9
set_option maxHeartbeats 4000000 in
set_option maxRecDepth 100000 in
theorem c_Ke_lock (l : Launch) (G : kG) (K : kM) (g : Nat) (a n : Int32) (I0 : g_Inv K) (hg : g < 6) (ha : vp_in a 4) : k_Met l gS kT y_Ke_lock b_Ke_lock 4 (some .int) (k_rm 2) G [.ref (G.2.2 0 0), .ref (G.2.2 7 g), .int a, .int n] K (some (.int (g_n4 n))) (g_lockT K g a n) := by
  refine k_intro (by decide +kernel) rfl (Nat.le_of_ble_eq_true rfl) ?_
  intro X C E
  refine k_iload_n C d_Ke_lock_0 rfl ?_
  refine k_iconst C d_Ke_lock_1 (v := 4) (by decide) ?_
  refine k_callSi C kg_all (c_Ke_isOutside l G _ _ _ I0) cs_Ke_179 cv_Ke_isOutside rfl rfl (Nat.le_of_ble_eq_true rfl) ⟨rfl, rfl⟩ ⟨by decide, by decide⟩ ⟨Nat.zero_le _, Nat.zero_le _⟩ d_Ke_lock_2 I0 (fun I1 => ?_)
  refine k_if_eq C d_Ke_lock_5 (tgt := 10) (by decide) (fun h2 => ?_) (fun h2 => ?_)
  · refine k_aload_n C d_Ke_lock_10 rfl ?_
    refine k_getr C d_Ke_lock_11 fg_Ke_37 (by first | assumption | decide | exact k_lt (by assumption)) rfl ?_
    refine k_iload_n C d_Ke_lock_14 rfl ?_
    refine k_aaload C d_Ke_lock_15 ar_14 (by first | assumption | decide | exact k_lt (by assumption)) (r_out4 h2) rfl rfl ?_
    refine k_get C d_Ke_lock_16 fg_Ke_132 (k_lt (r_out4 h2)) rfl ?_
    refine k_iconst C d_Ke_lock_19 (v := (-1)) (by decide) ?_
    refine k_icmp_ne C d_Ke_lock_20 (tgt := 39) (by decide) (fun h3 => ?_) (fun h3 => ?_)
    · refine k_aload_n C d_Ke_lock_39 rfl ?_
      refine k_iload_n C d_Ke_lock_40 rfl ?_
      refine k_aload_n C d_Ke_lock_41 rfl ?_
      refine k_getr C d_Ke_lock_42 fg_Ke_37 (by first | assumption | decide | exact k_lt (by assumption)) rfl ?_
      refine k_iload_n C d_Ke_lock_45 rfl ?_
      refine k_aaload C d_Ke_lock_46 ar_14 (by first | assumption | decide | exact k_lt (by assumption)) (r_out4 h2) rfl rfl ?_
      refine k_getr C d_Ke_lock_47 fg_Ke_135 (k_lt (r_out4 h2)) rfl ?_
      refine k_callSv C kg_all (c_Ke_block l G _ _ _ _ I1 hg ha (by have := k_lt (r_out4 h2); omega)) cs_Ke_279 cv_Ke_block rfl rfl (Nat.le_of_ble_eq_true rfl) ⟨rfl, rfl⟩ ⟨by decide, by decide⟩ ⟨Nat.zero_le _, Nat.zero_le _⟩ d_Ke_lock_50 (iv_block I1 (by first | assumption | decide | exact k_lt (by assumption)) (by first | assumption | decide | exact k_lt (by assumption))) (fun I4 => ?_)
      refine k_iconst C d_Ke_lock_53 (v := 0) (by decide) ?_
      exact k_ireturn C (E.to (by first | rfl | (simp only [g_n4, g_lockT, h2, h3, ↓reduceIte, Nat.reduceAdd]; done) | (simp only [g_n4, g_lockT, h2, h3, ↓reduceIte, Nat.reduceAdd]; rfl) | contradiction | (simp [g_n4, g_lockT, h2, h3, ↓reduceIte, Nat.reduceAdd]; done) | (simp [g_n4, g_lockT, h2, h3, ↓reduceIte, Nat.reduceAdd]; rfl)) (by first | rfl | (simp only [g_n4, g_lockT, h2, h3, ↓reduceIte, Nat.reduceAdd]; done) | (simp only [g_n4, g_lockT, h2, h3, ↓reduceIte, Nat.reduceAdd]; rfl) | contradiction | (simp [g_n4, g_lockT, h2, h3, ↓reduceIte, Nat.reduceAdd]; done) | (simp [g_n4, g_lockT, h2, h3, ↓reduceIte, Nat.reduceAdd]; rfl))) d_Ke_lock_54
    · refine k_aload_n C d_Ke_lock_23 rfl ?_
      refine k_getr C d_Ke_lock_24 fg_Ke_37 (by first | assumption | decide | exact k_lt (by assumption)) rfl ?_
      refine k_iload_n C d_Ke_lock_27 rfl ?_
      refine k_aaload C d_Ke_lock_28 ar_14 (by first | assumption | decide | exact k_lt (by assumption)) (r_out4 h2) rfl rfl ?_
      refine k_aload_n C d_Ke_lock_29 rfl ?_
      refine k_get C d_Ke_lock_30 fg_Ke_273 (by first | assumption | decide | exact k_lt (by assumption)) rfl ?_
      refine k_put C d_Ke_lock_33 fp_Ke_132 (k_lt (r_out4 h2)) rfl I1 (Or.inr (r_num I1 hg)) (fun I5 => ?_)
      refine k_goto C d_Ke_lock_36 (tgt := 53) (by decide) ?_
      refine k_iconst C d_Ke_lock_53 (v := 0) (by decide) ?_
      exact k_ireturn C (E.to (by first | rfl | (simp only [g_n4, g_lockT, h2, h3, ↓reduceIte, Nat.reduceAdd]; done) | (simp only [g_n4, g_lockT, h2, h3, ↓reduceIte, Nat.reduceAdd]; rfl) | contradiction | (simp [g_n4, g_lockT, h2, h3, ↓reduceIte, Nat.reduceAdd]; done) | (simp [g_n4, g_lockT, h2, h3, ↓reduceIte, Nat.reduceAdd]; rfl)) (by first | rfl | (simp only [g_n4, g_lockT, h2, h3, ↓reduceIte, Nat.reduceAdd]; done) | (simp only [g_n4, g_lockT, h2, h3, ↓reduceIte, Nat.reduceAdd]; rfl) | contradiction | (simp [g_n4, g_lockT, h2, h3, ↓reduceIte, Nat.reduceAdd]; done) | (simp [g_n4, g_lockT, h2, h3, ↓reduceIte, Nat.reduceAdd]; rfl))) d_Ke_lock_54
  · refine k_iconst C d_Ke_lock_8 (v := 4) (by decide) ?_
    exact k_ireturn C (E.to (by first | rfl | (simp only [g_n4, g_lockT, h2, ↓reduceIte, Nat.reduceAdd]; done) | (simp only [g_n4, g_lockT, h2, ↓reduceIte, Nat.reduceAdd]; rfl) | contradiction | (simp [g_n4, g_lockT, h2, ↓reduceIte, Nat.reduceAdd]; done) | (simp [g_n4, g_lockT, h2, ↓reduceIte, Nat.reduceAdd]; rfl)) (by first | rfl | (simp only [g_n4, g_lockT, h2, ↓reduceIte, Nat.reduceAdd]; done) | (simp only [g_n4, g_lockT, h2, ↓reduceIte, Nat.reduceAdd]; rfl) | contradiction | (simp [g_n4, g_lockT, h2, ↓reduceIte, Nat.reduceAdd]; done) | (simp [g_n4, g_lockT, h2, ↓reduceIte, Nat.reduceAdd]; rfl))) d_Ke_lock_9
set_option maxHeartbeats 4000000 in
set_option maxRecDepth 100000 in
theorem c_Ke_unlock (l : Launch) (G : kG) (K : kM) (g : Nat) (n : Int32) (I0 : g_Inv K) (hg : g < 6) : k_Met l gS kT y_Ke_unlock b_Ke_unlock 3 (some .int) (k_rm 3) G [.ref (G.2.2 0 0), .ref (G.2.2 7 g), .int n] K (some (.int (g_unlX K g n))) (g_unlT K g n) := by
  refine k_intro (by decide +kernel) rfl (Nat.le_of_ble_eq_true rfl) ?_
  intro X C E
  refine k_iload_n C d_Ke_unlock_0 rfl ?_
  refine k_iconst C d_Ke_unlock_1 (v := 4) (by decide) ?_
  refine k_callSi C kg_all (c_Ke_isOutside l G _ _ _ I0) cs_Ke_179 cv_Ke_isOutside rfl rfl (Nat.le_of_ble_eq_true rfl) ⟨rfl, rfl⟩ ⟨by decide, by decide⟩ ⟨Nat.zero_le _, Nat.zero_le _⟩ d_Ke_unlock_2 I0 (fun I1 => ?_)
  refine k_if_eq C d_Ke_unlock_5 (tgt := 10) (by decide) (fun h2 => ?_) (fun h2 => ?_)
  · refine k_aload_n C d_Ke_unlock_10 rfl ?_
    refine k_getr C d_Ke_unlock_11 fg_Ke_37 (by first | assumption | decide | exact k_lt (by assumption)) rfl ?_
    refine k_iload_n C d_Ke_unlock_14 rfl ?_
    refine k_aaload C d_Ke_unlock_15 ar_14 (by first | assumption | decide | exact k_lt (by assumption)) (r_out4 h2) rfl rfl ?_
    refine k_get C d_Ke_unlock_16 fg_Ke_132 (k_lt (r_out4 h2)) rfl ?_
    refine k_aload_n C d_Ke_unlock_19 rfl ?_
    refine k_get C d_Ke_unlock_20 fg_Ke_273 (by first | assumption | decide | exact k_lt (by assumption)) rfl ?_
    refine k_icmp_eq C d_Ke_unlock_23 (tgt := 28) (by decide) (fun h3 => ?_) (fun h3 => ?_)
    · refine k_aload_n C d_Ke_unlock_28 rfl ?_
      refine k_aload_n C d_Ke_unlock_29 rfl ?_
      refine k_getr C d_Ke_unlock_30 fg_Ke_37 (by first | assumption | decide | exact k_lt (by assumption)) rfl ?_
      refine k_iload_n C d_Ke_unlock_33 rfl ?_
      refine k_aaload C d_Ke_unlock_34 ar_14 (by first | assumption | decide | exact k_lt (by assumption)) (r_out4 h2) rfl rfl ?_
      refine k_callVv C kg_all (c_Ke_passOn l G _ _ I1 (k_lt (r_out4 h2))) cs_Ke_290 cv_Ke_passOn ob_0 (by first | assumption | decide | exact k_lt (by assumption)) rfl rfl (Nat.le_of_ble_eq_true rfl) ⟨rfl, rfl⟩ ⟨by decide, by decide⟩ ⟨Nat.zero_le _, Nat.zero_le _⟩ d_Ke_unlock_35 (iv_pass I1) (fun I4 => ?_)
      refine k_iconst C d_Ke_unlock_38 (v := 0) (by decide) ?_
      exact k_ireturn C (E.to (by first | rfl | (simp only [g_unlX, g_unlT, h2, h3, ↓reduceIte, Nat.reduceAdd]; done) | (simp only [g_unlX, g_unlT, h2, h3, ↓reduceIte, Nat.reduceAdd]; rfl) | contradiction | (simp [g_unlX, g_unlT, h2, h3, ↓reduceIte, Nat.reduceAdd]; done) | (simp [g_unlX, g_unlT, h2, h3, ↓reduceIte, Nat.reduceAdd]; rfl)) (by first | rfl | (simp only [g_unlX, g_unlT, h2, h3, ↓reduceIte, Nat.reduceAdd]; done) | (simp only [g_unlX, g_unlT, h2, h3, ↓reduceIte, Nat.reduceAdd]; rfl) | contradiction | (simp [g_unlX, g_unlT, h2, h3, ↓reduceIte, Nat.reduceAdd]; done) | (simp [g_unlX, g_unlT, h2, h3, ↓reduceIte, Nat.reduceAdd]; rfl))) d_Ke_unlock_39
    · refine k_iconst C d_Ke_unlock_26 (v := 5) (by decide) ?_
      exact k_ireturn C (E.to (by first | rfl | (simp only [g_unlX, g_unlT, h2, h3, ↓reduceIte, Nat.reduceAdd]; done) | (simp only [g_unlX, g_unlT, h2, h3, ↓reduceIte, Nat.reduceAdd]; rfl) | contradiction | (simp [g_unlX, g_unlT, h2, h3, ↓reduceIte, Nat.reduceAdd]; done) | (simp [g_unlX, g_unlT, h2, h3, ↓reduceIte, Nat.reduceAdd]; rfl)) (by first | rfl | (simp only [g_unlX, g_unlT, h2, h3, ↓reduceIte, Nat.reduceAdd]; done) | (simp only [g_unlX, g_unlT, h2, h3, ↓reduceIte, Nat.reduceAdd]; rfl) | contradiction | (simp [g_unlX, g_unlT, h2, h3, ↓reduceIte, Nat.reduceAdd]; done) | (simp [g_unlX, g_unlT, h2, h3, ↓reduceIte, Nat.reduceAdd]; rfl))) d_Ke_unlock_27
  · refine k_iconst C d_Ke_unlock_8 (v := 4) (by decide) ?_
    exact k_ireturn C (E.to (by first | rfl | (simp only [g_unlX, g_unlT, h2, ↓reduceIte, Nat.reduceAdd]; done) | (simp only [g_unlX, g_unlT, h2, ↓reduceIte, Nat.reduceAdd]; rfl) | contradiction | (simp [g_unlX, g_unlT, h2, ↓reduceIte, Nat.reduceAdd]; done) | (simp [g_unlX, g_unlT, h2, ↓reduceIte, Nat.reduceAdd]; rfl)) (by first | rfl | (simp only [g_unlX, g_unlT, h2, ↓reduceIte, Nat.reduceAdd]; done) | (simp only [g_unlX, g_unlT, h2, ↓reduceIte, Nat.reduceAdd]; rfl) | contradiction | (simp [g_unlX, g_unlT, h2, ↓reduceIte, Nat.reduceAdd]; done) | (simp [g_unlX, g_unlT, h2, ↓reduceIte, Nat.reduceAdd]; rfl))) d_Ke_unlock_9
set_option maxHeartbeats 4000000 in
set_option maxRecDepth 100000 in
theorem c_Ke_send (l : Launch) (G : kG) (K : kM) (g : Nat) (a n : Int32) (I0 : g_Inv K) (hg : g < 6) (ha : vp_in a 4) : k_Met l gS kT y_Ke_send b_Ke_send 6 (some .int) (k_rm 2) G [.ref (G.2.2 0 0), .ref (G.2.2 7 g), .int a, .int n] K (some (.int (g_n4 n))) (g_sendT K g a n) := by
  refine k_intro (by decide +kernel) rfl (Nat.le_of_ble_eq_true rfl) ?_
  intro X C E
  refine k_iload_n C d_Ke_send_0 rfl ?_
  refine k_iconst C d_Ke_send_1 (v := 4) (by decide) ?_
  refine k_callSi C kg_all (c_Ke_isOutside l G _ _ _ I0) cs_Ke_179 cv_Ke_isOutside rfl rfl (Nat.le_of_ble_eq_true rfl) ⟨rfl, rfl⟩ ⟨by decide, by decide⟩ ⟨Nat.zero_le _, Nat.zero_le _⟩ d_Ke_send_2 I0 (fun I1 => ?_)
  refine k_if_eq C d_Ke_send_5 (tgt := 10) (by decide) (fun h2 => ?_) (fun h2 => ?_)
  · refine k_aload_n C d_Ke_send_10 rfl ?_
    refine k_getr C d_Ke_send_11 fg_Ke_43 (by first | assumption | decide | exact k_lt (by assumption)) rfl ?_
    refine k_iload_n C d_Ke_send_14 rfl ?_
    refine k_aaload C d_Ke_send_15 ar_16 (by first | assumption | decide | exact k_lt (by assumption)) (r_out4 h2) rfl rfl ?_
    refine k_astore C d_Ke_send_16 (by decide) ?_
    refine k_aload C d_Ke_send_18 rfl ?_
    refine k_callVi C kg_all (c_Ch_isFull l G _ _ I1 (k_lt (r_out4 h2))) cs_Ke_276 cv_Ch_isFull ob_17 (k_lt (r_out4 h2)) rfl rfl (Nat.le_of_ble_eq_true rfl) ⟨rfl, rfl⟩ ⟨by decide, by decide⟩ ⟨Nat.zero_le _, Nat.zero_le _⟩ d_Ke_send_20 I1 (fun I3 => ?_)
    refine k_if_eq C d_Ke_send_23 (tgt := 38) (by decide) (fun h4 => ?_) (fun h4 => ?_)
    · refine k_aload C d_Ke_send_38 rfl ?_
      refine k_getr C d_Ke_send_40 fg_Ke_148 (k_lt (r_out4 h2)) rfl ?_
      refine k_callVi C kg_all (c_Ro_takeFirst l G _ _ I3 (by have := k_lt (r_out4 h2); omega)) cs_Ke_211 cv_Ro_takeFirst ob_12 (by have := k_lt (r_out4 h2); omega) rfl rfl (Nat.le_of_ble_eq_true rfl) ⟨rfl, rfl⟩ ⟨by decide, by decide⟩ ⟨Nat.zero_le _, Nat.zero_le _⟩ d_Ke_send_43 (iv_rowT I3) (fun I5 => ?_)
      refine k_istore C d_Ke_send_46 (by decide) ?_
      refine k_iload C d_Ke_send_48 rfl ?_
      refine k_iconst C d_Ke_send_50 (v := (-1)) (by decide) ?_
      refine k_icmp_ne C d_Ke_send_51 (tgt := 68) (by decide) (fun h6 => ?_) (fun h6 => ?_)
      · refine k_aload_n C d_Ke_send_68 rfl ?_
        refine k_getr C d_Ke_send_69 fg_Ke_25 (by first | assumption | decide | exact k_lt (by assumption)) rfl ?_
        refine k_iload C d_Ke_send_72 rfl ?_
        refine k_aaload C d_Ke_send_74 ar_6 (by first | assumption | decide | exact k_lt (by assumption)) (r_rowX1 I0 h6) rfl rfl ?_
        refine k_getr C d_Ke_send_75 fg_Ke_94 (k_lt (r_rowX1 I0 h6)) rfl ?_
        refine k_aload_n C d_Ke_send_78 rfl ?_
        refine k_getr C d_Ke_send_79 fg_Ke_25 (by first | assumption | decide | exact k_lt (by assumption)) rfl ?_
        refine k_iload C d_Ke_send_82 rfl ?_
        refine k_aaload C d_Ke_send_84 ar_6 (by first | assumption | decide | exact k_lt (by assumption)) (r_rowX1 I0 h6) rfl rfl ?_
        refine k_get C d_Ke_send_85 fg_Ke_286 (k_lt (r_rowX1 I0 h6)) rfl ?_
        refine k_aload_n C d_Ke_send_88 rfl ?_
        refine k_getr C d_Ke_send_89 fg_Ke_94 (by first | assumption | decide | exact k_lt (by assumption)) rfl ?_
        refine k_iload_n C d_Ke_send_92 rfl ?_
        refine k_iaload C d_Ke_send_93 ar_8 (by first | assumption | decide | exact k_lt (by assumption)) (by assumption) rfl ?_
        refine k_iastore C d_Ke_send_94 ar_8 (k_lt (r_rowX1 I0 h6)) (I5 7 _ 12) rfl I5 (trivial) (fun I7 => ?_)
        refine k_aload_n C d_Ke_send_95 rfl ?_
        refine k_aload_n C d_Ke_send_96 rfl ?_
        refine k_getr C d_Ke_send_97 fg_Ke_25 (by first | assumption | decide | exact k_lt (by assumption)) rfl ?_
        refine k_iload C d_Ke_send_100 rfl ?_
        refine k_aaload C d_Ke_send_102 ar_6 (by first | assumption | decide | exact k_lt (by assumption)) (r_rowX1 I0 h6) rfl rfl ?_
        refine k_callVv C kg_all (c_Ke_makeReady l G _ _ I7 (k_lt (r_rowX1 I0 h6))) cs_Ke_57 cv_Ke_makeReady ob_0 (by first | assumption | decide | exact k_lt (by assumption)) rfl rfl (Nat.le_of_ble_eq_true rfl) ⟨rfl, rfl⟩ ⟨by decide, by decide⟩ ⟨Nat.zero_le _, Nat.zero_le _⟩ d_Ke_send_103 (iv_ready I7 (k_lt (r_rowX1 I0 h6))) (fun I8 => ?_)
        refine k_iconst C d_Ke_send_106 (v := 0) (by decide) ?_
        exact k_ireturn C (E.to (by first | rfl | (simp only [g_n4, g_sendT, g_wake, h2, h4, h6, ↓reduceIte, Nat.reduceAdd]; done) | (simp only [g_n4, g_sendT, g_wake, h2, h4, h6, ↓reduceIte, Nat.reduceAdd]; rfl) | contradiction | (simp [g_n4, g_sendT, g_wake, h2, h4, h6, ↓reduceIte, Nat.reduceAdd]; done) | (simp [g_n4, g_sendT, g_wake, h2, h4, h6, ↓reduceIte, Nat.reduceAdd]; rfl)) (by first | rfl | (simp only [g_n4, g_sendT, g_wake, h2, h4, h6, ↓reduceIte, Nat.reduceAdd]; done) | (simp only [g_n4, g_sendT, g_wake, h2, h4, h6, ↓reduceIte, Nat.reduceAdd]; rfl) | contradiction | (simp [g_n4, g_sendT, g_wake, h2, h4, h6, ↓reduceIte, Nat.reduceAdd]; done) | (simp [g_n4, g_sendT, g_wake, h2, h4, h6, ↓reduceIte, Nat.reduceAdd]; rfl))) d_Ke_send_107
      · refine k_aload C d_Ke_send_54 rfl ?_
        refine k_aload_n C d_Ke_send_56 rfl ?_
        refine k_getr C d_Ke_send_57 fg_Ke_94 (by first | assumption | decide | exact k_lt (by assumption)) rfl ?_
        refine k_iload_n C d_Ke_send_60 rfl ?_
        refine k_iaload C d_Ke_send_61 ar_8 (by first | assumption | decide | exact k_lt (by assumption)) (by assumption) rfl ?_
        refine k_callVv C kg_all (c_Ch_put l G _ _ _ I5 (k_lt (r_out4 h2))) cs_Ke_283 cv_Ch_put ob_17 (k_lt (r_out4 h2)) rfl rfl (Nat.le_of_ble_eq_true rfl) ⟨rfl, rfl⟩ ⟨by decide, by decide⟩ ⟨Nat.zero_le _, Nat.zero_le _⟩ d_Ke_send_62 (iv_put I5) (fun I9 => ?_)
        refine k_goto C d_Ke_send_65 (tgt := 106) (by decide) ?_
        refine k_iconst C d_Ke_send_106 (v := 0) (by decide) ?_
        exact k_ireturn C (E.to (by first | rfl | (simp only [g_n4, g_sendT, g_wake, h2, h4, h6, ↓reduceIte, Nat.reduceAdd]; done) | (simp only [g_n4, g_sendT, g_wake, h2, h4, h6, ↓reduceIte, Nat.reduceAdd]; rfl) | contradiction | (simp [g_n4, g_sendT, g_wake, h2, h4, h6, ↓reduceIte, Nat.reduceAdd]; done) | (simp [g_n4, g_sendT, g_wake, h2, h4, h6, ↓reduceIte, Nat.reduceAdd]; rfl)) (by first | rfl | (simp only [g_n4, g_sendT, g_wake, h2, h4, h6, ↓reduceIte, Nat.reduceAdd]; done) | (simp only [g_n4, g_sendT, g_wake, h2, h4, h6, ↓reduceIte, Nat.reduceAdd]; rfl) | contradiction | (simp [g_n4, g_sendT, g_wake, h2, h4, h6, ↓reduceIte, Nat.reduceAdd]; done) | (simp [g_n4, g_sendT, g_wake, h2, h4, h6, ↓reduceIte, Nat.reduceAdd]; rfl))) d_Ke_send_107
    · refine k_aload_n C d_Ke_send_26 rfl ?_
      refine k_iload_n C d_Ke_send_27 rfl ?_
      refine k_aload C d_Ke_send_28 rfl ?_
      refine k_getr C d_Ke_send_30 fg_Ke_145 (k_lt (r_out4 h2)) rfl ?_
      refine k_callSv C kg_all (c_Ke_block l G _ _ _ _ I3 hg ha (by have := k_lt (r_out4 h2); omega)) cs_Ke_279 cv_Ke_block rfl rfl (Nat.le_of_ble_eq_true rfl) ⟨rfl, rfl⟩ ⟨by decide, by decide⟩ ⟨Nat.zero_le _, Nat.zero_le _⟩ d_Ke_send_33 (iv_block I3 (by first | assumption | decide | exact k_lt (by assumption)) (by first | assumption | decide | exact k_lt (by assumption))) (fun I10 => ?_)
      refine k_iconst C d_Ke_send_36 (v := 0) (by decide) ?_
      exact k_ireturn C (E.to (by first | rfl | (simp only [g_n4, g_sendT, g_wake, h2, h4, ↓reduceIte, Nat.reduceAdd]; done) | (simp only [g_n4, g_sendT, g_wake, h2, h4, ↓reduceIte, Nat.reduceAdd]; rfl) | contradiction | (simp [g_n4, g_sendT, g_wake, h2, h4, ↓reduceIte, Nat.reduceAdd]; done) | (simp [g_n4, g_sendT, g_wake, h2, h4, ↓reduceIte, Nat.reduceAdd]; rfl)) (by first | rfl | (simp only [g_n4, g_sendT, g_wake, h2, h4, ↓reduceIte, Nat.reduceAdd]; done) | (simp only [g_n4, g_sendT, g_wake, h2, h4, ↓reduceIte, Nat.reduceAdd]; rfl) | contradiction | (simp [g_n4, g_sendT, g_wake, h2, h4, ↓reduceIte, Nat.reduceAdd]; done) | (simp [g_n4, g_sendT, g_wake, h2, h4, ↓reduceIte, Nat.reduceAdd]; rfl))) d_Ke_send_37
  · refine k_iconst C d_Ke_send_8 (v := 4) (by decide) ?_
    exact k_ireturn C (E.to (by first | rfl | (simp only [g_n4, g_sendT, g_wake, h2, ↓reduceIte, Nat.reduceAdd]; done) | (simp only [g_n4, g_sendT, g_wake, h2, ↓reduceIte, Nat.reduceAdd]; rfl) | contradiction | (simp [g_n4, g_sendT, g_wake, h2, ↓reduceIte, Nat.reduceAdd]; done) | (simp [g_n4, g_sendT, g_wake, h2, ↓reduceIte, Nat.reduceAdd]; rfl)) (by first | rfl | (simp only [g_n4, g_sendT, g_wake, h2, ↓reduceIte, Nat.reduceAdd]; done) | (simp only [g_n4, g_sendT, g_wake, h2, ↓reduceIte, Nat.reduceAdd]; rfl) | contradiction | (simp [g_n4, g_sendT, g_wake, h2, ↓reduceIte, Nat.reduceAdd]; done) | (simp [g_n4, g_sendT, g_wake, h2, ↓reduceIte, Nat.reduceAdd]; rfl))) d_Ke_send_9
