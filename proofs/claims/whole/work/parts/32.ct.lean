set_option maxHeartbeats 4000000 in
set_option maxRecDepth 100000 in
theorem c_Ke_requireBelow (l : Launch) (G : kG) (K : kM) (v b : Int32) (I0 : g_Inv K) (hv : g_out v b = 0) : k_Met l gS kT y_Ke_requireBelow b_Ke_requireBelow 2 none (k_rm 1) G [.int v, .int b] K none (K) := by
  refine k_intro (by decide +kernel) rfl (Nat.le_of_ble_eq_true rfl) ?_
  intro X C E
  refine k_iload_n C d_Ke_requireBelow_0 rfl ?_
  refine k_iload_n C d_Ke_requireBelow_1 rfl ?_
  refine k_callSi C kg_all (c_Ke_isOutside l G _ _ _ I0) cs_Ke_179 cv_Ke_isOutside rfl rfl (Nat.le_of_ble_eq_true rfl) ⟨rfl, rfl⟩ ⟨by decide, by decide⟩ ⟨Nat.zero_le _, Nat.zero_le _⟩ d_Ke_requireBelow_2 I0 (fun I1 => ?_)
  refine k_if_eq C d_Ke_requireBelow_5 (tgt := 18) (by decide) (fun h2 => ?_) (fun h2 => absurd hv h2)
  exact k_return C (E.to rfl (by first | rfl | (simp only [g_out, ↓reduceIte, Nat.reduceAdd]; done) | (simp only [g_out, ↓reduceIte, Nat.reduceAdd]; rfl) | contradiction | (simp [g_out, ↓reduceIte, Nat.reduceAdd]; done) | (simp [g_out, ↓reduceIte, Nat.reduceAdd]; rfl))) d_Ke_requireBelow_18
set_option maxHeartbeats 4000000 in
set_option maxRecDepth 100000 in
theorem t_below (l : Launch) (hfl : l.flags = flags0) (G : kG) (h0 : Nat) (K : kM) (v b : Int32) (I0 : g_Inv K) (hv : ¬ g_out v b = 0) : k_MetT l gS kT y_Ke_requireBelow b_Ke_requireBelow 2 none (k_rt 6) G h0 [.int v, .int b] K x_IA (K) := by
  refine k_introT (by decide +kernel) rfl (Nat.le_of_ble_eq_true rfl) ?_
  intro X C E
  refine k_iload_n C d_Ke_requireBelow_0 rfl ?_
  refine k_iload_n C d_Ke_requireBelow_1 rfl ?_
  refine k_callSi C kg_all (c_Ke_isOutside l G _ _ _ I0) cs_Ke_179 cv_Ke_isOutside rfl rfl (Nat.le_of_ble_eq_true rfl) ⟨rfl, rfl⟩ ⟨by decide, by decide⟩ ⟨Nat.zero_le _, Nat.zero_le _⟩ d_Ke_requireBelow_2 I0 (fun I1 => ?_)
  refine k_if_eq C d_Ke_requireBelow_5 (tgt := 18) (by decide) (fun h2 => absurd h2 hv) (fun h2 => ?_)
  exact k_thIA C E hfl d_Ke_requireBelow_8 d_Ke_requireBelow_11 d_Ke_requireBelow_12 d_Ke_requireBelow_14 d_Ke_requireBelow_17 ⟨by decide, by decide, by decide, by decide⟩
set_option maxHeartbeats 4000000 in
set_option maxRecDepth 100000 in
theorem c_Ke_requirePresent (l : Launch) (G : kG) (K : kM) (g : Int32) (I0 : g_Inv K) (hg : vp_in g 6) (hp : ¬ K 7 g.toNatClampNeg 3 = -1) : k_Met l gS kT y_Ke_requirePresent b_Ke_requirePresent 2 none (k_rm 0) G [.ref (G.2.2 0 0), .int g] K none (K) := by
  refine k_intro (by decide +kernel) rfl (Nat.le_of_ble_eq_true rfl) ?_
  intro X C E
  refine k_aload_n C d_Ke_requirePresent_0 rfl ?_
  refine k_getr C d_Ke_requirePresent_1 fg_Ke_25 (by first | assumption | decide | exact k_lt (by assumption)) rfl ?_
  refine k_iload_n C d_Ke_requirePresent_4 rfl ?_
  refine k_aaload C d_Ke_requirePresent_5 ar_6 (by first | assumption | decide | exact k_lt (by assumption)) hg rfl rfl ?_
  refine k_get C d_Ke_requirePresent_6 fg_Ke_98 (k_lt hg) rfl ?_
  refine k_iconst C d_Ke_requirePresent_9 (v := (-1)) (by decide) ?_
  refine k_icmp_ne C d_Ke_requirePresent_10 (tgt := 23) (by decide) (fun h1 => ?_) (fun h1 => absurd h1 hp)
  exact k_return C (E.to rfl (by first | rfl | (simp only [g_out, ↓reduceIte, Nat.reduceAdd]; done) | (simp only [g_out, ↓reduceIte, Nat.reduceAdd]; rfl) | contradiction | (simp [g_out, ↓reduceIte, Nat.reduceAdd]; done) | (simp [g_out, ↓reduceIte, Nat.reduceAdd]; rfl))) d_Ke_requirePresent_23
set_option maxHeartbeats 4000000 in
set_option maxRecDepth 100000 in
theorem t_present (l : Launch) (hfl : l.flags = flags0) (G : kG) (h0 : Nat) (K : kM) (g : Int32) (I0 : g_Inv K) (hg : vp_in g 6) (hp : K 7 g.toNatClampNeg 3 = -1) : k_MetT l gS kT y_Ke_requirePresent b_Ke_requirePresent 2 none (k_rt 6) G h0 [.ref (G.2.2 0 0), .int g] K x_NS (K) := by
  refine k_introT (by decide +kernel) rfl (Nat.le_of_ble_eq_true rfl) ?_
  intro X C E
  refine k_aload_n C d_Ke_requirePresent_0 rfl ?_
  refine k_getr C d_Ke_requirePresent_1 fg_Ke_25 (by first | assumption | decide | exact k_lt (by assumption)) rfl ?_
  refine k_iload_n C d_Ke_requirePresent_4 rfl ?_
  refine k_aaload C d_Ke_requirePresent_5 ar_6 (by first | assumption | decide | exact k_lt (by assumption)) hg rfl rfl ?_
  refine k_get C d_Ke_requirePresent_6 fg_Ke_98 (k_lt hg) rfl ?_
  refine k_iconst C d_Ke_requirePresent_9 (v := (-1)) (by decide) ?_
  refine k_icmp_ne C d_Ke_requirePresent_10 (tgt := 23) (by decide) (fun h1 => absurd hp h1) (fun h1 => ?_)
  exact k_thNS C E hfl d_Ke_requirePresent_13 d_Ke_requirePresent_16 d_Ke_requirePresent_17 d_Ke_requirePresent_19 d_Ke_requirePresent_22 ⟨by decide, by decide, by decide, by decide⟩
set_option maxHeartbeats 4000000 in
set_option maxRecDepth 100000 in
theorem b_nb {X : kX} {G : kG} {l : Launch} {K : kM} (C : k_C X kT b_Ke_requireNoneBlocked y_Ke_requireNoneBlocked.cls gS G 2 l (k_rm 0)) (I0 : g_Inv K) : ∀ c i : Nat, c + i = 6 → g_nb K c i = 0 → k_E X none none K 0 0 → k_W X 0 0 2 [(1, .int (nI i)), (0, .ref (G.2.2 0 0))] [] K
  | 0, i, hc, hz, E => by
    have e : i = 6 := by omega
    subst e
    refine k_iload_n C d_Ke_requireNoneBlocked_2 rfl ?_
    refine k_bipush C d_Ke_requireNoneBlocked_3 (v := 6) (by decide) ?_
    refine k_icmp_ge C d_Ke_requireNoneBlocked_5 (tgt := 37) (by decide) (fun h1 => ?_) (fun h1 => absurd (by decide : (6 : Int32) ≤ nI 6) h1)
    exact k_return C (E.to rfl (by first | rfl | (simp only [g_nb, ↓reduceIte, Nat.reduceAdd]; done) | (simp only [g_nb, ↓reduceIte, Nat.reduceAdd]; rfl) | contradiction | (simp [g_nb, ↓reduceIte, Nat.reduceAdd]; done) | (simp [g_nb, ↓reduceIte, Nat.reduceAdd]; rfl))) d_Ke_requireNoneBlocked_37
  | c + 1, i, hc, hz, E => by
    have hi : i < 6 := by omega
    refine k_iload_n C d_Ke_requireNoneBlocked_2 rfl ?_
    refine k_bipush C d_Ke_requireNoneBlocked_3 (v := 6) (by decide) ?_
    refine k_icmp_ge C d_Ke_requireNoneBlocked_5 (tgt := 37) (by decide) (fun h1 => absurd h1 (nI_ge hi (by decide))) (fun h1 => ?_)
    refine k_aload_n C d_Ke_requireNoneBlocked_8 rfl ?_
    refine k_getr C d_Ke_requireNoneBlocked_9 fg_Ke_25 (by first | assumption | decide | exact k_lt (by assumption)) rfl ?_
    refine k_iload_n C d_Ke_requireNoneBlocked_12 rfl ?_
    refine k_aaload C d_Ke_requireNoneBlocked_13 ar_6 (by first | assumption | decide | exact k_lt (by assumption)) (vp_in_nI hi (by decide)) (j := i) (nI_clamp (by omega)) rfl ?_
    refine k_get C d_Ke_requireNoneBlocked_14 fg_Ke_98 (by first | assumption | decide | exact k_lt (by assumption)) rfl ?_
    refine k_iconst C d_Ke_requireNoneBlocked_17 (v := 2) (by decide) ?_
    refine k_icmp_ne C d_Ke_requireNoneBlocked_18 (tgt := 31) (by decide) (fun h2 => ?_) (fun h2 => absurd (by simp [g_nb, h2] at hz) (fun q : False => q))
    refine k_iinc C d_Ke_requireNoneBlocked_31 rfl (v := nI (i + 1)) (nI_1 i) (by decide) ?_
    refine k_goto C d_Ke_requireNoneBlocked_34 (tgt := 2) (by decide) ?_
    exact k_loc [(1, .int (nI (i + 1))), (0, .ref (G.2.2 0 0))] ⟨rfl, rfl, trivial⟩ (b_nb C I0 c (i + 1) (by omega) (by simp only [g_nb, h2, ↓reduceIte] at hz; exact hz) E)
set_option maxHeartbeats 4000000 in
set_option maxRecDepth 100000 in
theorem c_Ke_requireNoneBlocked (l : Launch) (G : kG) (K : kM)  (I0 : g_Inv K) (hz : g_nb K 6 0 = 0) : k_Met l gS kT y_Ke_requireNoneBlocked b_Ke_requireNoneBlocked 2 none (k_rm 0) G [.ref (G.2.2 0 0)] K none (K) := by
  refine k_intro (by decide +kernel) rfl (Nat.le_of_ble_eq_true rfl) ?_
  intro X C E
  refine k_iconst C d_Ke_requireNoneBlocked_0 (v := 0) (by decide) ?_
  refine k_istore_n C d_Ke_requireNoneBlocked_1 (by decide) ?_
  exact k_loc [(1, .int (nI 0)), (0, .ref (G.2.2 0 0))] ⟨rfl, rfl, trivial⟩ (b_nb C I0 6 0 rfl hz E)
set_option maxHeartbeats 4000000 in
set_option maxRecDepth 100000 in
theorem b_nbT {X : kX} {G : kG} {l : Launch} {K : kM} {h0 : Nat} (C : k_C X kT b_Ke_requireNoneBlocked y_Ke_requireNoneBlocked.cls gS G 2 l (k_rt 6)) (hfl : l.flags = flags0) (I0 : g_Inv K) : ∀ c i : Nat, c + i = 6 → ¬ g_nb K c i = 0 → k_Et X h0 x_IS K → k_W X 0 0 2 [(1, .int (nI i)), (0, .ref (G.2.2 0 0))] [] K
  | 0, i, hc, hz, E => absurd rfl hz
  | c + 1, i, hc, hz, E => by
    have hi : i < 6 := by omega
    refine k_iload_n C d_Ke_requireNoneBlocked_2 rfl ?_
    refine k_bipush C d_Ke_requireNoneBlocked_3 (v := 6) (by decide) ?_
    refine k_icmp_ge C d_Ke_requireNoneBlocked_5 (tgt := 37) (by decide) (fun h1 => absurd h1 (nI_ge hi (by decide))) (fun h1 => ?_)
    refine k_aload_n C d_Ke_requireNoneBlocked_8 rfl ?_
    refine k_getr C d_Ke_requireNoneBlocked_9 fg_Ke_25 (by first | assumption | decide | exact k_lt (by assumption)) rfl ?_
    refine k_iload_n C d_Ke_requireNoneBlocked_12 rfl ?_
    refine k_aaload C d_Ke_requireNoneBlocked_13 ar_6 (by first | assumption | decide | exact k_lt (by assumption)) (vp_in_nI hi (by decide)) (j := i) (nI_clamp (by omega)) rfl ?_
    refine k_get C d_Ke_requireNoneBlocked_14 fg_Ke_98 (by first | assumption | decide | exact k_lt (by assumption)) rfl ?_
    refine k_iconst C d_Ke_requireNoneBlocked_17 (v := 2) (by decide) ?_
    refine k_icmp_ne C d_Ke_requireNoneBlocked_18 (tgt := 31) (by decide) (fun h2 => ?_) (fun h2 => ?_)
    · refine k_iinc C d_Ke_requireNoneBlocked_31 rfl (v := nI (i + 1)) (nI_1 i) (by decide) ?_
      refine k_goto C d_Ke_requireNoneBlocked_34 (tgt := 2) (by decide) ?_
      exact k_loc [(1, .int (nI (i + 1))), (0, .ref (G.2.2 0 0))] ⟨rfl, rfl, trivial⟩ (b_nbT C hfl I0 c (i + 1) (by omega) (by simp only [g_nb, h2, ↓reduceIte] at hz; exact hz) E)
    · exact k_thIS C E hfl d_Ke_requireNoneBlocked_21 d_Ke_requireNoneBlocked_24 d_Ke_requireNoneBlocked_25 d_Ke_requireNoneBlocked_27 d_Ke_requireNoneBlocked_30 ⟨by decide, by decide, by decide, by decide⟩
set_option maxHeartbeats 4000000 in
set_option maxRecDepth 100000 in
theorem t_stuck (l : Launch) (hfl : l.flags = flags0) (G : kG) (h0 : Nat) (K : kM)  (I0 : g_Inv K) (hz : ¬ g_nb K 6 0 = 0) : k_MetT l gS kT y_Ke_requireNoneBlocked b_Ke_requireNoneBlocked 2 none (k_rt 6) G h0 [.ref (G.2.2 0 0)] K x_IS (K) := by
  refine k_introT (by decide +kernel) rfl (Nat.le_of_ble_eq_true rfl) ?_
  intro X C E
  refine k_iconst C d_Ke_requireNoneBlocked_0 (v := 0) (by decide) ?_
  refine k_istore_n C d_Ke_requireNoneBlocked_1 (by decide) ?_
  exact k_loc [(1, .int (nI 0)), (0, .ref (G.2.2 0 0))] ⟨rfl, rfl, trivial⟩ (b_nbT C hfl I0 6 0 rfl hz E)
set_option maxHeartbeats 4000000 in
set_option maxRecDepth 100000 in
theorem c_Ke_code (l : Launch) (G : kG) (K : kM) (i o a b n : Int32) (I0 : g_Inv K) (b0 : g_out i 32 = 0) (b1 : g_out o 22 = 0) (b2 : g_out a 4 = 0) (b3 : g_out b 4 = 0) : k_Met l gS kT y_Ke_code b_Ke_code 6 none (k_rm 2) G [.ref (G.2.2 0 0), .int i, .int o, .int a, .int b, .int n] K none (g_write K i o a b n) := by
  refine k_intro (by decide +kernel) rfl (Nat.le_of_ble_eq_true rfl) ?_
  intro X C E
  refine k_iload_n C d_Ke_code_0 rfl ?_
  refine k_bipush C d_Ke_code_1 (v := 32) (by decide) ?_
  refine k_callSv C kg_all (c_Ke_requireBelow l G _ _ _ I0 b0) cs_Ke_61 cv_Ke_requireBelow rfl rfl (Nat.le_of_ble_eq_true rfl) ⟨rfl, rfl⟩ ⟨by decide, by decide⟩ ⟨Nat.zero_le _, Nat.zero_le _⟩ d_Ke_code_3 I0 (fun I1 => ?_)
  refine k_iload_n C d_Ke_code_6 rfl ?_
  refine k_bipush C d_Ke_code_7 (v := 22) (by decide) ?_
  refine k_callSv C kg_all (c_Ke_requireBelow l G _ _ _ I1 b1) cs_Ke_61 cv_Ke_requireBelow rfl rfl (Nat.le_of_ble_eq_true rfl) ⟨rfl, rfl⟩ ⟨by decide, by decide⟩ ⟨Nat.zero_le _, Nat.zero_le _⟩ d_Ke_code_9 I1 (fun I2 => ?_)
  refine k_iload_n C d_Ke_code_12 rfl ?_
  refine k_iconst C d_Ke_code_13 (v := 4) (by decide) ?_
  refine k_callSv C kg_all (c_Ke_requireBelow l G _ _ _ I2 b2) cs_Ke_61 cv_Ke_requireBelow rfl rfl (Nat.le_of_ble_eq_true rfl) ⟨rfl, rfl⟩ ⟨by decide, by decide⟩ ⟨Nat.zero_le _, Nat.zero_le _⟩ d_Ke_code_14 I2 (fun I3 => ?_)
  refine k_iload C d_Ke_code_17 rfl ?_
  refine k_iconst C d_Ke_code_19 (v := 4) (by decide) ?_
  refine k_callSv C kg_all (c_Ke_requireBelow l G _ _ _ I3 b3) cs_Ke_61 cv_Ke_requireBelow rfl rfl (Nat.le_of_ble_eq_true rfl) ⟨rfl, rfl⟩ ⟨by decide, by decide⟩ ⟨Nat.zero_le _, Nat.zero_le _⟩ d_Ke_code_20 I3 (fun I4 => ?_)
  refine k_aload_n C d_Ke_code_23 rfl ?_
  refine k_getr C d_Ke_code_24 fg_Ke_12 (by first | assumption | decide | exact k_lt (by assumption)) rfl ?_
  refine k_iload_n C d_Ke_code_27 rfl ?_
  refine k_iload_n C d_Ke_code_28 rfl ?_
  refine k_iload_n C d_Ke_code_29 rfl ?_
  refine k_iload C d_Ke_code_30 rfl ?_
  refine k_iload C d_Ke_code_32 rfl ?_
  refine k_callVv C kg_all (c_Pg_write l G _ _ _ _ _ _ I4 (r_out (n := 32) (by decide) b0) (r_out (n := 22) (by decide) b1) (r_out (n := 4) (by decide) b2) (r_out (n := 4) (by decide) b3)) cs_Ke_65 cv_Pg_write ob_1 (by first | assumption | decide | exact k_lt (by assumption)) rfl rfl (Nat.le_of_ble_eq_true rfl) ⟨rfl, rfl⟩ ⟨by decide, by decide⟩ ⟨Nat.zero_le _, Nat.zero_le _⟩ d_Ke_code_34 (iv_write I4 (r_out (n := 32) (by decide) b0) (r_out (n := 22) (by decide) b1) (r_out (n := 4) (by decide) b2) (r_out (n := 4) (by decide) b3)) (fun I5 => ?_)
  exact k_return C (E.to rfl (by first | (simp only [g_write, ↓reduceIte]; done) | (simp only [g_write, ↓reduceIte]; rfl) | contradiction | rfl)) d_Ke_code_37
set_option maxHeartbeats 4000000 in
set_option maxRecDepth 100000 in
theorem t_code_0 (l : Launch) (hfl : l.flags = flags0) (G : kG) (h0 : Nat) (K : kM) (i o a b n : Int32) (I0 : g_Inv K)  (hv : ¬ g_out i 32 = 0) : k_MetT l gS kT y_Ke_code b_Ke_code 6 none (k_rt 7) G h0 [.ref (G.2.2 0 0), .int i, .int o, .int a, .int b, .int n] K x_IA (K) := by
  refine k_introT (by decide +kernel) rfl (Nat.le_of_ble_eq_true rfl) ?_
  intro X C E
  refine k_iload_n C d_Ke_code_0 rfl ?_
  refine k_bipush C d_Ke_code_1 (v := 32) (by decide) ?_
  exact k_callST C E kg_all (t_below l hfl G h0 _ _ _ I0 hv) cs_Ke_61 cv_Ke_requireBelow rfl rfl (Nat.le_of_ble_eq_true rfl) ⟨rfl, rfl⟩ ⟨by decide, by decide⟩ ⟨by decide, by decide⟩ d_Ke_code_3
set_option maxHeartbeats 4000000 in
set_option maxRecDepth 100000 in
theorem t_code_1 (l : Launch) (hfl : l.flags = flags0) (G : kG) (h0 : Nat) (K : kM) (i o a b n : Int32) (I0 : g_Inv K) (b0 : g_out i 32 = 0) (hv : ¬ g_out o 22 = 0) : k_MetT l gS kT y_Ke_code b_Ke_code 6 none (k_rt 7) G h0 [.ref (G.2.2 0 0), .int i, .int o, .int a, .int b, .int n] K x_IA (K) := by
  refine k_introT (by decide +kernel) rfl (Nat.le_of_ble_eq_true rfl) ?_
  intro X C E
  refine k_iload_n C d_Ke_code_0 rfl ?_
  refine k_bipush C d_Ke_code_1 (v := 32) (by decide) ?_
  refine k_callSv C kg_all (c_Ke_requireBelow l G _ _ _ I0 b0) cs_Ke_61 cv_Ke_requireBelow rfl rfl (Nat.le_of_ble_eq_true rfl) ⟨rfl, rfl⟩ ⟨by decide, by decide⟩ ⟨Nat.zero_le _, Nat.zero_le _⟩ d_Ke_code_3 I0 (fun I1 => ?_)
  refine k_iload_n C d_Ke_code_6 rfl ?_
  refine k_bipush C d_Ke_code_7 (v := 22) (by decide) ?_
  exact k_callST C E kg_all (t_below l hfl G h0 _ _ _ I1 hv) cs_Ke_61 cv_Ke_requireBelow rfl rfl (Nat.le_of_ble_eq_true rfl) ⟨rfl, rfl⟩ ⟨by decide, by decide⟩ ⟨by decide, by decide⟩ d_Ke_code_9
set_option maxHeartbeats 4000000 in
set_option maxRecDepth 100000 in
theorem t_code_2 (l : Launch) (hfl : l.flags = flags0) (G : kG) (h0 : Nat) (K : kM) (i o a b n : Int32) (I0 : g_Inv K) (b0 : g_out i 32 = 0) (b1 : g_out o 22 = 0) (hv : ¬ g_out a 4 = 0) : k_MetT l gS kT y_Ke_code b_Ke_code 6 none (k_rt 7) G h0 [.ref (G.2.2 0 0), .int i, .int o, .int a, .int b, .int n] K x_IA (K) := by
  refine k_introT (by decide +kernel) rfl (Nat.le_of_ble_eq_true rfl) ?_
  intro X C E
  refine k_iload_n C d_Ke_code_0 rfl ?_
  refine k_bipush C d_Ke_code_1 (v := 32) (by decide) ?_
  refine k_callSv C kg_all (c_Ke_requireBelow l G _ _ _ I0 b0) cs_Ke_61 cv_Ke_requireBelow rfl rfl (Nat.le_of_ble_eq_true rfl) ⟨rfl, rfl⟩ ⟨by decide, by decide⟩ ⟨Nat.zero_le _, Nat.zero_le _⟩ d_Ke_code_3 I0 (fun I1 => ?_)
  refine k_iload_n C d_Ke_code_6 rfl ?_
  refine k_bipush C d_Ke_code_7 (v := 22) (by decide) ?_
  refine k_callSv C kg_all (c_Ke_requireBelow l G _ _ _ I1 b1) cs_Ke_61 cv_Ke_requireBelow rfl rfl (Nat.le_of_ble_eq_true rfl) ⟨rfl, rfl⟩ ⟨by decide, by decide⟩ ⟨Nat.zero_le _, Nat.zero_le _⟩ d_Ke_code_9 I1 (fun I2 => ?_)
  refine k_iload_n C d_Ke_code_12 rfl ?_
  refine k_iconst C d_Ke_code_13 (v := 4) (by decide) ?_
  exact k_callST C E kg_all (t_below l hfl G h0 _ _ _ I2 hv) cs_Ke_61 cv_Ke_requireBelow rfl rfl (Nat.le_of_ble_eq_true rfl) ⟨rfl, rfl⟩ ⟨by decide, by decide⟩ ⟨by decide, by decide⟩ d_Ke_code_14
set_option maxHeartbeats 4000000 in
set_option maxRecDepth 100000 in
theorem t_code_3 (l : Launch) (hfl : l.flags = flags0) (G : kG) (h0 : Nat) (K : kM) (i o a b n : Int32) (I0 : g_Inv K) (b0 : g_out i 32 = 0) (b1 : g_out o 22 = 0) (b2 : g_out a 4 = 0) (hv : ¬ g_out b 4 = 0) : k_MetT l gS kT y_Ke_code b_Ke_code 6 none (k_rt 7) G h0 [.ref (G.2.2 0 0), .int i, .int o, .int a, .int b, .int n] K x_IA (K) := by
  refine k_introT (by decide +kernel) rfl (Nat.le_of_ble_eq_true rfl) ?_
  intro X C E
  refine k_iload_n C d_Ke_code_0 rfl ?_
  refine k_bipush C d_Ke_code_1 (v := 32) (by decide) ?_
  refine k_callSv C kg_all (c_Ke_requireBelow l G _ _ _ I0 b0) cs_Ke_61 cv_Ke_requireBelow rfl rfl (Nat.le_of_ble_eq_true rfl) ⟨rfl, rfl⟩ ⟨by decide, by decide⟩ ⟨Nat.zero_le _, Nat.zero_le _⟩ d_Ke_code_3 I0 (fun I1 => ?_)
  refine k_iload_n C d_Ke_code_6 rfl ?_
  refine k_bipush C d_Ke_code_7 (v := 22) (by decide) ?_
  refine k_callSv C kg_all (c_Ke_requireBelow l G _ _ _ I1 b1) cs_Ke_61 cv_Ke_requireBelow rfl rfl (Nat.le_of_ble_eq_true rfl) ⟨rfl, rfl⟩ ⟨by decide, by decide⟩ ⟨Nat.zero_le _, Nat.zero_le _⟩ d_Ke_code_9 I1 (fun I2 => ?_)
  refine k_iload_n C d_Ke_code_12 rfl ?_
  refine k_iconst C d_Ke_code_13 (v := 4) (by decide) ?_
  refine k_callSv C kg_all (c_Ke_requireBelow l G _ _ _ I2 b2) cs_Ke_61 cv_Ke_requireBelow rfl rfl (Nat.le_of_ble_eq_true rfl) ⟨rfl, rfl⟩ ⟨by decide, by decide⟩ ⟨Nat.zero_le _, Nat.zero_le _⟩ d_Ke_code_14 I2 (fun I3 => ?_)
  refine k_iload C d_Ke_code_17 rfl ?_
  refine k_iconst C d_Ke_code_19 (v := 4) (by decide) ?_
  exact k_callST C E kg_all (t_below l hfl G h0 _ _ _ I3 hv) cs_Ke_61 cv_Ke_requireBelow rfl rfl (Nat.le_of_ble_eq_true rfl) ⟨rfl, rfl⟩ ⟨by decide, by decide⟩ ⟨by decide, by decide⟩ d_Ke_code_20
set_option maxHeartbeats 4000000 in
set_option maxRecDepth 100000 in
theorem c_Ke_register (l : Launch) (G : kG) (K : kM) (g r : Int32) (I0 : g_Inv K) (b0 : g_out g 6 = 0) (b1 : g_out r 4 = 0) (hp : ¬ K 7 g.toNatClampNeg 3 = -1) : k_Met l gS kT y_Ke_register b_Ke_register 3 (some .int) (k_rm 2) G [.ref (G.2.2 0 0), .int g, .int r] K (some (.int (K 8 g.toNatClampNeg r.toNatClampNeg))) (K) := by
  refine k_intro (by decide +kernel) rfl (Nat.le_of_ble_eq_true rfl) ?_
  intro X C E
  refine k_iload_n C d_Ke_register_0 rfl ?_
  refine k_bipush C d_Ke_register_1 (v := 6) (by decide) ?_
  refine k_callSv C kg_all (c_Ke_requireBelow l G _ _ _ I0 b0) cs_Ke_61 cv_Ke_requireBelow rfl rfl (Nat.le_of_ble_eq_true rfl) ⟨rfl, rfl⟩ ⟨by decide, by decide⟩ ⟨Nat.zero_le _, Nat.zero_le _⟩ d_Ke_register_3 I0 (fun I1 => ?_)
  refine k_iload_n C d_Ke_register_6 rfl ?_
  refine k_iconst C d_Ke_register_7 (v := 4) (by decide) ?_
  refine k_callSv C kg_all (c_Ke_requireBelow l G _ _ _ I1 b1) cs_Ke_61 cv_Ke_requireBelow rfl rfl (Nat.le_of_ble_eq_true rfl) ⟨rfl, rfl⟩ ⟨by decide, by decide⟩ ⟨Nat.zero_le _, Nat.zero_le _⟩ d_Ke_register_8 I1 (fun I2 => ?_)
  refine k_aload_n C d_Ke_register_11 rfl ?_
  refine k_iload_n C d_Ke_register_12 rfl ?_
  refine k_callVv C kg_all (c_Ke_requirePresent l G _ _ I2 (r_out (n := 6) (by decide) b0) hp) cs_Ke_91 cv_Ke_requirePresent ob_0 (by first | assumption | decide | exact k_lt (by assumption)) rfl rfl (Nat.le_of_ble_eq_true rfl) ⟨rfl, rfl⟩ ⟨by decide, by decide⟩ ⟨Nat.zero_le _, Nat.zero_le _⟩ d_Ke_register_13 I2 (fun I3 => ?_)
  refine k_aload_n C d_Ke_register_16 rfl ?_
  refine k_getr C d_Ke_register_17 fg_Ke_25 (by first | assumption | decide | exact k_lt (by assumption)) rfl ?_
  refine k_iload_n C d_Ke_register_20 rfl ?_
  refine k_aaload C d_Ke_register_21 ar_6 (by first | assumption | decide | exact k_lt (by assumption)) (r_out (n := 6) (by decide) b0) rfl rfl ?_
  refine k_getr C d_Ke_register_22 fg_Ke_94 (k_lt (r_out (n := 6) (by decide) b0)) rfl ?_
  refine k_iload_n C d_Ke_register_25 rfl ?_
  refine k_iaload C d_Ke_register_26 ar_8 (k_lt (r_out (n := 6) (by decide) b0)) (r_out (n := 4) (by decide) b1) rfl ?_
  exact k_ireturn C (E.to (by first | (simp only [g_out, ↓reduceIte]; done) | (simp only [g_out, ↓reduceIte]; rfl) | contradiction | rfl) (by first | (simp only [g_out, ↓reduceIte]; done) | (simp only [g_out, ↓reduceIte]; rfl) | contradiction | rfl)) d_Ke_register_27
set_option maxHeartbeats 4000000 in
set_option maxRecDepth 100000 in
theorem t_register_0 (l : Launch) (hfl : l.flags = flags0) (G : kG) (h0 : Nat) (K : kM) (g r : Int32) (I0 : g_Inv K)  (hv : ¬ g_out g 6 = 0) : k_MetT l gS kT y_Ke_register b_Ke_register 3 (some .int) (k_rt 7) G h0 [.ref (G.2.2 0 0), .int g, .int r] K x_IA (K) := by
  refine k_introT (by decide +kernel) rfl (Nat.le_of_ble_eq_true rfl) ?_
  intro X C E
  refine k_iload_n C d_Ke_register_0 rfl ?_
  refine k_bipush C d_Ke_register_1 (v := 6) (by decide) ?_
  exact k_callST C E kg_all (t_below l hfl G h0 _ _ _ I0 hv) cs_Ke_61 cv_Ke_requireBelow rfl rfl (Nat.le_of_ble_eq_true rfl) ⟨rfl, rfl⟩ ⟨by decide, by decide⟩ ⟨by decide, by decide⟩ d_Ke_register_3
set_option maxHeartbeats 4000000 in
set_option maxRecDepth 100000 in
theorem t_register_1 (l : Launch) (hfl : l.flags = flags0) (G : kG) (h0 : Nat) (K : kM) (g r : Int32) (I0 : g_Inv K) (b0 : g_out g 6 = 0) (hv : ¬ g_out r 4 = 0) : k_MetT l gS kT y_Ke_register b_Ke_register 3 (some .int) (k_rt 7) G h0 [.ref (G.2.2 0 0), .int g, .int r] K x_IA (K) := by
  refine k_introT (by decide +kernel) rfl (Nat.le_of_ble_eq_true rfl) ?_
  intro X C E
  refine k_iload_n C d_Ke_register_0 rfl ?_
  refine k_bipush C d_Ke_register_1 (v := 6) (by decide) ?_
  refine k_callSv C kg_all (c_Ke_requireBelow l G _ _ _ I0 b0) cs_Ke_61 cv_Ke_requireBelow rfl rfl (Nat.le_of_ble_eq_true rfl) ⟨rfl, rfl⟩ ⟨by decide, by decide⟩ ⟨Nat.zero_le _, Nat.zero_le _⟩ d_Ke_register_3 I0 (fun I1 => ?_)
  refine k_iload_n C d_Ke_register_6 rfl ?_
  refine k_iconst C d_Ke_register_7 (v := 4) (by decide) ?_
  exact k_callST C E kg_all (t_below l hfl G h0 _ _ _ I1 hv) cs_Ke_61 cv_Ke_requireBelow rfl rfl (Nat.le_of_ble_eq_true rfl) ⟨rfl, rfl⟩ ⟨by decide, by decide⟩ ⟨by decide, by decide⟩ d_Ke_register_8
set_option maxHeartbeats 4000000 in
set_option maxRecDepth 100000 in
theorem t_register_p (l : Launch) (hfl : l.flags = flags0) (G : kG) (h0 : Nat) (K : kM) (g r : Int32) (I0 : g_Inv K) (b0 : g_out g 6 = 0) (b1 : g_out r 4 = 0) (hp : K 7 g.toNatClampNeg 3 = -1) : k_MetT l gS kT y_Ke_register b_Ke_register 3 (some .int) (k_rt 7) G h0 [.ref (G.2.2 0 0), .int g, .int r] K x_NS (K) := by
  refine k_introT (by decide +kernel) rfl (Nat.le_of_ble_eq_true rfl) ?_
  intro X C E
  refine k_iload_n C d_Ke_register_0 rfl ?_
  refine k_bipush C d_Ke_register_1 (v := 6) (by decide) ?_
  refine k_callSv C kg_all (c_Ke_requireBelow l G _ _ _ I0 b0) cs_Ke_61 cv_Ke_requireBelow rfl rfl (Nat.le_of_ble_eq_true rfl) ⟨rfl, rfl⟩ ⟨by decide, by decide⟩ ⟨Nat.zero_le _, Nat.zero_le _⟩ d_Ke_register_3 I0 (fun I1 => ?_)
  refine k_iload_n C d_Ke_register_6 rfl ?_
  refine k_iconst C d_Ke_register_7 (v := 4) (by decide) ?_
  refine k_callSv C kg_all (c_Ke_requireBelow l G _ _ _ I1 b1) cs_Ke_61 cv_Ke_requireBelow rfl rfl (Nat.le_of_ble_eq_true rfl) ⟨rfl, rfl⟩ ⟨by decide, by decide⟩ ⟨Nat.zero_le _, Nat.zero_le _⟩ d_Ke_register_8 I1 (fun I2 => ?_)
  refine k_aload_n C d_Ke_register_11 rfl ?_
  refine k_iload_n C d_Ke_register_12 rfl ?_
  exact k_callVT C E kg_all (t_present l hfl G h0 _ _ I2 (r_out (n := 6) (by decide) b0) hp) cs_Ke_91 cv_Ke_requirePresent ob_0 (by first | assumption | decide | exact k_lt (by assumption)) rfl rfl (Nat.le_of_ble_eq_true rfl) ⟨rfl, rfl⟩ ⟨by decide, by decide⟩ ⟨by decide, by decide⟩ d_Ke_register_13
set_option maxHeartbeats 4000000 in
set_option maxRecDepth 100000 in
theorem c_Ke_page (l : Launch) (G : kG) (K : kM) (g r : Int32) (I0 : g_Inv K) (b0 : g_out g 6 = 0) (b1 : g_out r 4 = 0) (hp : ¬ K 7 g.toNatClampNeg 3 = -1) : k_Met l gS kT y_Ke_page b_Ke_page 3 (some .int) (k_rm 2) G [.ref (G.2.2 0 0), .int g, .int r] K (some (.int (K 9 g.toNatClampNeg r.toNatClampNeg))) (K) := by
  refine k_intro (by decide +kernel) rfl (Nat.le_of_ble_eq_true rfl) ?_
  intro X C E
  refine k_iload_n C d_Ke_page_0 rfl ?_
  refine k_bipush C d_Ke_page_1 (v := 6) (by decide) ?_
  refine k_callSv C kg_all (c_Ke_requireBelow l G _ _ _ I0 b0) cs_Ke_61 cv_Ke_requireBelow rfl rfl (Nat.le_of_ble_eq_true rfl) ⟨rfl, rfl⟩ ⟨by decide, by decide⟩ ⟨Nat.zero_le _, Nat.zero_le _⟩ d_Ke_page_3 I0 (fun I1 => ?_)
  refine k_iload_n C d_Ke_page_6 rfl ?_
  refine k_iconst C d_Ke_page_7 (v := 4) (by decide) ?_
  refine k_callSv C kg_all (c_Ke_requireBelow l G _ _ _ I1 b1) cs_Ke_61 cv_Ke_requireBelow rfl rfl (Nat.le_of_ble_eq_true rfl) ⟨rfl, rfl⟩ ⟨by decide, by decide⟩ ⟨Nat.zero_le _, Nat.zero_le _⟩ d_Ke_page_8 I1 (fun I2 => ?_)
  refine k_aload_n C d_Ke_page_11 rfl ?_
  refine k_iload_n C d_Ke_page_12 rfl ?_
  refine k_callVv C kg_all (c_Ke_requirePresent l G _ _ I2 (r_out (n := 6) (by decide) b0) hp) cs_Ke_91 cv_Ke_requirePresent ob_0 (by first | assumption | decide | exact k_lt (by assumption)) rfl rfl (Nat.le_of_ble_eq_true rfl) ⟨rfl, rfl⟩ ⟨by decide, by decide⟩ ⟨Nat.zero_le _, Nat.zero_le _⟩ d_Ke_page_13 I2 (fun I3 => ?_)
  refine k_aload_n C d_Ke_page_16 rfl ?_
  refine k_getr C d_Ke_page_17 fg_Ke_25 (by first | assumption | decide | exact k_lt (by assumption)) rfl ?_
  refine k_iload_n C d_Ke_page_20 rfl ?_
  refine k_aaload C d_Ke_page_21 ar_6 (by first | assumption | decide | exact k_lt (by assumption)) (r_out (n := 6) (by decide) b0) rfl rfl ?_
  refine k_getr C d_Ke_page_22 fg_Ke_125 (k_lt (r_out (n := 6) (by decide) b0)) rfl ?_
  refine k_iload_n C d_Ke_page_25 rfl ?_
  refine k_iaload C d_Ke_page_26 ar_9 (k_lt (r_out (n := 6) (by decide) b0)) (r_out (n := 4) (by decide) b1) rfl ?_
  exact k_ireturn C (E.to (by first | (simp only [g_out, ↓reduceIte]; done) | (simp only [g_out, ↓reduceIte]; rfl) | contradiction | rfl) (by first | (simp only [g_out, ↓reduceIte]; done) | (simp only [g_out, ↓reduceIte]; rfl) | contradiction | rfl)) d_Ke_page_27
set_option maxHeartbeats 4000000 in
set_option maxRecDepth 100000 in
theorem t_page_0 (l : Launch) (hfl : l.flags = flags0) (G : kG) (h0 : Nat) (K : kM) (g r : Int32) (I0 : g_Inv K)  (hv : ¬ g_out g 6 = 0) : k_MetT l gS kT y_Ke_page b_Ke_page 3 (some .int) (k_rt 7) G h0 [.ref (G.2.2 0 0), .int g, .int r] K x_IA (K) := by
  refine k_introT (by decide +kernel) rfl (Nat.le_of_ble_eq_true rfl) ?_
  intro X C E
  refine k_iload_n C d_Ke_page_0 rfl ?_
  refine k_bipush C d_Ke_page_1 (v := 6) (by decide) ?_
  exact k_callST C E kg_all (t_below l hfl G h0 _ _ _ I0 hv) cs_Ke_61 cv_Ke_requireBelow rfl rfl (Nat.le_of_ble_eq_true rfl) ⟨rfl, rfl⟩ ⟨by decide, by decide⟩ ⟨by decide, by decide⟩ d_Ke_page_3
set_option maxHeartbeats 4000000 in
set_option maxRecDepth 100000 in
theorem t_page_1 (l : Launch) (hfl : l.flags = flags0) (G : kG) (h0 : Nat) (K : kM) (g r : Int32) (I0 : g_Inv K) (b0 : g_out g 6 = 0) (hv : ¬ g_out r 4 = 0) : k_MetT l gS kT y_Ke_page b_Ke_page 3 (some .int) (k_rt 7) G h0 [.ref (G.2.2 0 0), .int g, .int r] K x_IA (K) := by
  refine k_introT (by decide +kernel) rfl (Nat.le_of_ble_eq_true rfl) ?_
  intro X C E
  refine k_iload_n C d_Ke_page_0 rfl ?_
  refine k_bipush C d_Ke_page_1 (v := 6) (by decide) ?_
  refine k_callSv C kg_all (c_Ke_requireBelow l G _ _ _ I0 b0) cs_Ke_61 cv_Ke_requireBelow rfl rfl (Nat.le_of_ble_eq_true rfl) ⟨rfl, rfl⟩ ⟨by decide, by decide⟩ ⟨Nat.zero_le _, Nat.zero_le _⟩ d_Ke_page_3 I0 (fun I1 => ?_)
  refine k_iload_n C d_Ke_page_6 rfl ?_
  refine k_iconst C d_Ke_page_7 (v := 4) (by decide) ?_
  exact k_callST C E kg_all (t_below l hfl G h0 _ _ _ I1 hv) cs_Ke_61 cv_Ke_requireBelow rfl rfl (Nat.le_of_ble_eq_true rfl) ⟨rfl, rfl⟩ ⟨by decide, by decide⟩ ⟨by decide, by decide⟩ d_Ke_page_8
set_option maxHeartbeats 4000000 in
set_option maxRecDepth 100000 in
theorem t_page_p (l : Launch) (hfl : l.flags = flags0) (G : kG) (h0 : Nat) (K : kM) (g r : Int32) (I0 : g_Inv K) (b0 : g_out g 6 = 0) (b1 : g_out r 4 = 0) (hp : K 7 g.toNatClampNeg 3 = -1) : k_MetT l gS kT y_Ke_page b_Ke_page 3 (some .int) (k_rt 7) G h0 [.ref (G.2.2 0 0), .int g, .int r] K x_NS (K) := by
  refine k_introT (by decide +kernel) rfl (Nat.le_of_ble_eq_true rfl) ?_
  intro X C E
  refine k_iload_n C d_Ke_page_0 rfl ?_
  refine k_bipush C d_Ke_page_1 (v := 6) (by decide) ?_
  refine k_callSv C kg_all (c_Ke_requireBelow l G _ _ _ I0 b0) cs_Ke_61 cv_Ke_requireBelow rfl rfl (Nat.le_of_ble_eq_true rfl) ⟨rfl, rfl⟩ ⟨by decide, by decide⟩ ⟨Nat.zero_le _, Nat.zero_le _⟩ d_Ke_page_3 I0 (fun I1 => ?_)
  refine k_iload_n C d_Ke_page_6 rfl ?_
  refine k_iconst C d_Ke_page_7 (v := 4) (by decide) ?_
  refine k_callSv C kg_all (c_Ke_requireBelow l G _ _ _ I1 b1) cs_Ke_61 cv_Ke_requireBelow rfl rfl (Nat.le_of_ble_eq_true rfl) ⟨rfl, rfl⟩ ⟨by decide, by decide⟩ ⟨Nat.zero_le _, Nat.zero_le _⟩ d_Ke_page_8 I1 (fun I2 => ?_)
  refine k_aload_n C d_Ke_page_11 rfl ?_
  refine k_iload_n C d_Ke_page_12 rfl ?_
  exact k_callVT C E kg_all (t_present l hfl G h0 _ _ I2 (r_out (n := 6) (by decide) b0) hp) cs_Ke_91 cv_Ke_requirePresent ob_0 (by first | assumption | decide | exact k_lt (by assumption)) rfl rfl (Nat.le_of_ble_eq_true rfl) ⟨rfl, rfl⟩ ⟨by decide, by decide⟩ ⟨by decide, by decide⟩ d_Ke_page_13
set_option maxHeartbeats 4000000 in
set_option maxRecDepth 100000 in
theorem c_Ke_told (l : Launch) (G : kG) (K : kM) (g w : Int32) (I0 : g_Inv K) (b0 : g_out g 6 = 0) (b1 : g_out w 9 = 0) (hp : ¬ K 7 g.toNatClampNeg 3 = -1) : k_Met l gS kT y_Ke_told b_Ke_told 4 (some .int) (k_rm 2) G [.ref (G.2.2 0 0), .int g, .int w] K (some (.int (g_telX K g.toNatClampNeg w))) (K) := by
  refine k_intro (by decide +kernel) rfl (Nat.le_of_ble_eq_true rfl) ?_
  intro X C E
  refine k_iload_n C d_Ke_told_0 rfl ?_
  refine k_bipush C d_Ke_told_1 (v := 6) (by decide) ?_
  refine k_callSv C kg_all (c_Ke_requireBelow l G _ _ _ I0 b0) cs_Ke_61 cv_Ke_requireBelow rfl rfl (Nat.le_of_ble_eq_true rfl) ⟨rfl, rfl⟩ ⟨by decide, by decide⟩ ⟨Nat.zero_le _, Nat.zero_le _⟩ d_Ke_told_3 I0 (fun I1 => ?_)
  refine k_iload_n C d_Ke_told_6 rfl ?_
  refine k_bipush C d_Ke_told_7 (v := 9) (by decide) ?_
  refine k_callSv C kg_all (c_Ke_requireBelow l G _ _ _ I1 b1) cs_Ke_61 cv_Ke_requireBelow rfl rfl (Nat.le_of_ble_eq_true rfl) ⟨rfl, rfl⟩ ⟨by decide, by decide⟩ ⟨Nat.zero_le _, Nat.zero_le _⟩ d_Ke_told_9 I1 (fun I2 => ?_)
  refine k_aload_n C d_Ke_told_12 rfl ?_
  refine k_iload_n C d_Ke_told_13 rfl ?_
  refine k_callVv C kg_all (c_Ke_requirePresent l G _ _ I2 (r_out (n := 6) (by decide) b0) hp) cs_Ke_91 cv_Ke_requirePresent ob_0 (by first | assumption | decide | exact k_lt (by assumption)) rfl rfl (Nat.le_of_ble_eq_true rfl) ⟨rfl, rfl⟩ ⟨by decide, by decide⟩ ⟨Nat.zero_le _, Nat.zero_le _⟩ d_Ke_told_14 I2 (fun I3 => ?_)
  refine k_aload_n C d_Ke_told_17 rfl ?_
  refine k_getr C d_Ke_told_18 fg_Ke_25 (by first | assumption | decide | exact k_lt (by assumption)) rfl ?_
  refine k_iload_n C d_Ke_told_21 rfl ?_
  refine k_aaload C d_Ke_told_22 ar_6 (by first | assumption | decide | exact k_lt (by assumption)) (r_out (n := 6) (by decide) b0) rfl rfl ?_
  refine k_astore_n C d_Ke_told_23 (by decide) ?_
  refine k_iload_n C d_Ke_told_24 rfl ?_
  rcases r_c9 (r_out (n := 9) (by decide) b1) with rfl | rfl | rfl | rfl | rfl | rfl | rfl | rfl | rfl
  · refine k_tabIn C d_Ke_told_25 (by decide) (by decide) (off := 47) (by decide) (tgt := 72) (by decide) ?_
    refine k_aload_n C d_Ke_told_72 rfl ?_
    refine k_get C d_Ke_told_73 fg_Ke_98 (k_lt (r_out (n := 6) (by decide) b0)) rfl ?_
    exact k_ireturn C (E.to (by first | (simp only [g_telX, ↓reduceIte]; done) | (simp only [g_telX, ↓reduceIte]; rfl) | contradiction | rfl) (by first | (simp only [g_telX, ↓reduceIte]; done) | (simp only [g_telX, ↓reduceIte]; rfl) | contradiction | rfl)) d_Ke_told_76
  · refine k_tabIn C d_Ke_told_25 (by decide) (by decide) (off := 52) (by decide) (tgt := 77) (by decide) ?_
    refine k_aload_n C d_Ke_told_77 rfl ?_
    refine k_get C d_Ke_told_78 fg_Ke_101 (k_lt (r_out (n := 6) (by decide) b0)) rfl ?_
    exact k_ireturn C (E.to (by first | (simp only [g_telX, ↓reduceIte]; done) | (simp only [g_telX, ↓reduceIte]; rfl) | contradiction | rfl) (by first | (simp only [g_telX, ↓reduceIte]; done) | (simp only [g_telX, ↓reduceIte]; rfl) | contradiction | rfl)) d_Ke_told_81
  · refine k_tabIn C d_Ke_told_25 (by decide) (by decide) (off := 57) (by decide) (tgt := 82) (by decide) ?_
    refine k_aload_n C d_Ke_told_82 rfl ?_
    refine k_get C d_Ke_told_83 fg_Ke_104 (k_lt (r_out (n := 6) (by decide) b0)) rfl ?_
    exact k_ireturn C (E.to (by first | (simp only [g_telX, ↓reduceIte]; done) | (simp only [g_telX, ↓reduceIte]; rfl) | contradiction | rfl) (by first | (simp only [g_telX, ↓reduceIte]; done) | (simp only [g_telX, ↓reduceIte]; rfl) | contradiction | rfl)) d_Ke_told_86
  · refine k_tabIn C d_Ke_told_25 (by decide) (by decide) (off := 62) (by decide) (tgt := 87) (by decide) ?_
    refine k_aload_n C d_Ke_told_87 rfl ?_
    refine k_get C d_Ke_told_88 fg_Ke_107 (k_lt (r_out (n := 6) (by decide) b0)) rfl ?_
    exact k_ireturn C (E.to (by first | (simp only [g_telX, ↓reduceIte]; done) | (simp only [g_telX, ↓reduceIte]; rfl) | contradiction | rfl) (by first | (simp only [g_telX, ↓reduceIte]; done) | (simp only [g_telX, ↓reduceIte]; rfl) | contradiction | rfl)) d_Ke_told_91
  · refine k_tabIn C d_Ke_told_25 (by decide) (by decide) (off := 67) (by decide) (tgt := 92) (by decide) ?_
    refine k_aload_n C d_Ke_told_92 rfl ?_
    refine k_get C d_Ke_told_93 fg_Ke_110 (k_lt (r_out (n := 6) (by decide) b0)) rfl ?_
    exact k_ireturn C (E.to (by first | (simp only [g_telX, ↓reduceIte]; done) | (simp only [g_telX, ↓reduceIte]; rfl) | contradiction | rfl) (by first | (simp only [g_telX, ↓reduceIte]; done) | (simp only [g_telX, ↓reduceIte]; rfl) | contradiction | rfl)) d_Ke_told_96
  · refine k_tabIn C d_Ke_told_25 (by decide) (by decide) (off := 72) (by decide) (tgt := 97) (by decide) ?_
    refine k_aload_n C d_Ke_told_97 rfl ?_
    refine k_get C d_Ke_told_98 fg_Ke_113 (k_lt (r_out (n := 6) (by decide) b0)) rfl ?_
    exact k_ireturn C (E.to (by first | (simp only [g_telX, ↓reduceIte]; done) | (simp only [g_telX, ↓reduceIte]; rfl) | contradiction | rfl) (by first | (simp only [g_telX, ↓reduceIte]; done) | (simp only [g_telX, ↓reduceIte]; rfl) | contradiction | rfl)) d_Ke_told_101
  · refine k_tabIn C d_Ke_told_25 (by decide) (by decide) (off := 77) (by decide) (tgt := 102) (by decide) ?_
    refine k_aload_n C d_Ke_told_102 rfl ?_
    refine k_get C d_Ke_told_103 fg_Ke_116 (k_lt (r_out (n := 6) (by decide) b0)) rfl ?_
    exact k_ireturn C (E.to (by first | (simp only [g_telX, ↓reduceIte]; done) | (simp only [g_telX, ↓reduceIte]; rfl) | contradiction | rfl) (by first | (simp only [g_telX, ↓reduceIte]; done) | (simp only [g_telX, ↓reduceIte]; rfl) | contradiction | rfl)) d_Ke_told_106
  · refine k_tabIn C d_Ke_told_25 (by decide) (by decide) (off := 82) (by decide) (tgt := 107) (by decide) ?_
    refine k_aload_n C d_Ke_told_107 rfl ?_
    refine k_get C d_Ke_told_108 fg_Ke_119 (k_lt (r_out (n := 6) (by decide) b0)) rfl ?_
    exact k_ireturn C (E.to (by first | (simp only [g_telX, ↓reduceIte]; done) | (simp only [g_telX, ↓reduceIte]; rfl) | contradiction | rfl) (by first | (simp only [g_telX, ↓reduceIte]; done) | (simp only [g_telX, ↓reduceIte]; rfl) | contradiction | rfl)) d_Ke_told_111
  · refine k_tabOut C d_Ke_told_25 (by decide) (tgt := 112) (by decide) ?_
    refine k_aload_n C d_Ke_told_112 rfl ?_
    refine k_get C d_Ke_told_113 fg_Ke_122 (k_lt (r_out (n := 6) (by decide) b0)) rfl ?_
    exact k_ireturn C (E.to (by first | (simp only [g_telX, ↓reduceIte]; done) | (simp only [g_telX, ↓reduceIte]; rfl) | contradiction | rfl) (by first | (simp only [g_telX, ↓reduceIte]; done) | (simp only [g_telX, ↓reduceIte]; rfl) | contradiction | rfl)) d_Ke_told_116
set_option maxHeartbeats 4000000 in
set_option maxRecDepth 100000 in
theorem t_told_0 (l : Launch) (hfl : l.flags = flags0) (G : kG) (h0 : Nat) (K : kM) (g w : Int32) (I0 : g_Inv K)  (hv : ¬ g_out g 6 = 0) : k_MetT l gS kT y_Ke_told b_Ke_told 4 (some .int) (k_rt 7) G h0 [.ref (G.2.2 0 0), .int g, .int w] K x_IA (K) := by
  refine k_introT (by decide +kernel) rfl (Nat.le_of_ble_eq_true rfl) ?_
  intro X C E
  refine k_iload_n C d_Ke_told_0 rfl ?_
  refine k_bipush C d_Ke_told_1 (v := 6) (by decide) ?_
  exact k_callST C E kg_all (t_below l hfl G h0 _ _ _ I0 hv) cs_Ke_61 cv_Ke_requireBelow rfl rfl (Nat.le_of_ble_eq_true rfl) ⟨rfl, rfl⟩ ⟨by decide, by decide⟩ ⟨by decide, by decide⟩ d_Ke_told_3
set_option maxHeartbeats 4000000 in
set_option maxRecDepth 100000 in
theorem t_told_1 (l : Launch) (hfl : l.flags = flags0) (G : kG) (h0 : Nat) (K : kM) (g w : Int32) (I0 : g_Inv K) (b0 : g_out g 6 = 0) (hv : ¬ g_out w 9 = 0) : k_MetT l gS kT y_Ke_told b_Ke_told 4 (some .int) (k_rt 7) G h0 [.ref (G.2.2 0 0), .int g, .int w] K x_IA (K) := by
  refine k_introT (by decide +kernel) rfl (Nat.le_of_ble_eq_true rfl) ?_
  intro X C E
  refine k_iload_n C d_Ke_told_0 rfl ?_
  refine k_bipush C d_Ke_told_1 (v := 6) (by decide) ?_
  refine k_callSv C kg_all (c_Ke_requireBelow l G _ _ _ I0 b0) cs_Ke_61 cv_Ke_requireBelow rfl rfl (Nat.le_of_ble_eq_true rfl) ⟨rfl, rfl⟩ ⟨by decide, by decide⟩ ⟨Nat.zero_le _, Nat.zero_le _⟩ d_Ke_told_3 I0 (fun I1 => ?_)
  refine k_iload_n C d_Ke_told_6 rfl ?_
  refine k_bipush C d_Ke_told_7 (v := 9) (by decide) ?_
  exact k_callST C E kg_all (t_below l hfl G h0 _ _ _ I1 hv) cs_Ke_61 cv_Ke_requireBelow rfl rfl (Nat.le_of_ble_eq_true rfl) ⟨rfl, rfl⟩ ⟨by decide, by decide⟩ ⟨by decide, by decide⟩ d_Ke_told_9
set_option maxHeartbeats 4000000 in
set_option maxRecDepth 100000 in
theorem t_told_p (l : Launch) (hfl : l.flags = flags0) (G : kG) (h0 : Nat) (K : kM) (g w : Int32) (I0 : g_Inv K) (b0 : g_out g 6 = 0) (b1 : g_out w 9 = 0) (hp : K 7 g.toNatClampNeg 3 = -1) : k_MetT l gS kT y_Ke_told b_Ke_told 4 (some .int) (k_rt 7) G h0 [.ref (G.2.2 0 0), .int g, .int w] K x_NS (K) := by
  refine k_introT (by decide +kernel) rfl (Nat.le_of_ble_eq_true rfl) ?_
  intro X C E
  refine k_iload_n C d_Ke_told_0 rfl ?_
  refine k_bipush C d_Ke_told_1 (v := 6) (by decide) ?_
  refine k_callSv C kg_all (c_Ke_requireBelow l G _ _ _ I0 b0) cs_Ke_61 cv_Ke_requireBelow rfl rfl (Nat.le_of_ble_eq_true rfl) ⟨rfl, rfl⟩ ⟨by decide, by decide⟩ ⟨Nat.zero_le _, Nat.zero_le _⟩ d_Ke_told_3 I0 (fun I1 => ?_)
  refine k_iload_n C d_Ke_told_6 rfl ?_
  refine k_bipush C d_Ke_told_7 (v := 9) (by decide) ?_
  refine k_callSv C kg_all (c_Ke_requireBelow l G _ _ _ I1 b1) cs_Ke_61 cv_Ke_requireBelow rfl rfl (Nat.le_of_ble_eq_true rfl) ⟨rfl, rfl⟩ ⟨by decide, by decide⟩ ⟨Nat.zero_le _, Nat.zero_le _⟩ d_Ke_told_9 I1 (fun I2 => ?_)
  refine k_aload_n C d_Ke_told_12 rfl ?_
  refine k_iload_n C d_Ke_told_13 rfl ?_
  exact k_callVT C E kg_all (t_present l hfl G h0 _ _ I2 (r_out (n := 6) (by decide) b0) hp) cs_Ke_91 cv_Ke_requirePresent ob_0 (by first | assumption | decide | exact k_lt (by assumption)) rfl rfl (Nat.le_of_ble_eq_true rfl) ⟨rfl, rfl⟩ ⟨by decide, by decide⟩ ⟨by decide, by decide⟩ d_Ke_told_14
set_option maxHeartbeats 4000000 in
set_option maxRecDepth 100000 in
theorem c_Ke_memory (l : Launch) (G : kG) (K : kM) (f i : Int32) (I0 : g_Inv K) (b0 : g_out f 12 = 0) (b1 : g_out i 8 = 0) : k_Met l gS kT y_Ke_memory b_Ke_memory 3 (some .int) (k_rm 2) G [.ref (G.2.2 0 0), .int f, .int i] K (some (.int (g_read K f i))) (K) := by
  refine k_intro (by decide +kernel) rfl (Nat.le_of_ble_eq_true rfl) ?_
  intro X C E
  refine k_iload_n C d_Ke_memory_0 rfl ?_
  refine k_bipush C d_Ke_memory_1 (v := 12) (by decide) ?_
  refine k_callSv C kg_all (c_Ke_requireBelow l G _ _ _ I0 b0) cs_Ke_61 cv_Ke_requireBelow rfl rfl (Nat.le_of_ble_eq_true rfl) ⟨rfl, rfl⟩ ⟨by decide, by decide⟩ ⟨Nat.zero_le _, Nat.zero_le _⟩ d_Ke_memory_3 I0 (fun I1 => ?_)
  refine k_iload_n C d_Ke_memory_6 rfl ?_
  refine k_bipush C d_Ke_memory_7 (v := 8) (by decide) ?_
  refine k_callSv C kg_all (c_Ke_requireBelow l G _ _ _ I1 b1) cs_Ke_61 cv_Ke_requireBelow rfl rfl (Nat.le_of_ble_eq_true rfl) ⟨rfl, rfl⟩ ⟨by decide, by decide⟩ ⟨Nat.zero_le _, Nat.zero_le _⟩ d_Ke_memory_9 I1 (fun I2 => ?_)
  refine k_aload_n C d_Ke_memory_12 rfl ?_
  refine k_getr C d_Ke_memory_13 fg_Ke_19 (by first | assumption | decide | exact k_lt (by assumption)) rfl ?_
  refine k_iload_n C d_Ke_memory_16 rfl ?_
  refine k_iload_n C d_Ke_memory_17 rfl ?_
  refine k_callVi C kg_all (c_Fr_read l G _ _ _ I2 (r_out (n := 12) (by decide) b0) (r_out (n := 8) (by decide) b1)) cs_Ke_128 cv_Fr_read ob_3 (by first | assumption | decide | exact k_lt (by assumption)) rfl rfl (Nat.le_of_ble_eq_true rfl) ⟨rfl, rfl⟩ ⟨by decide, by decide⟩ ⟨Nat.zero_le _, Nat.zero_le _⟩ d_Ke_memory_18 I2 (fun I3 => ?_)
  exact k_ireturn C (E.to (by first | (simp only [g_read, ↓reduceIte]; done) | (simp only [g_read, ↓reduceIte]; rfl) | contradiction | rfl) (by first | (simp only [g_read, ↓reduceIte]; done) | (simp only [g_read, ↓reduceIte]; rfl) | contradiction | rfl)) d_Ke_memory_21
set_option maxHeartbeats 4000000 in
set_option maxRecDepth 100000 in
theorem t_memory_0 (l : Launch) (hfl : l.flags = flags0) (G : kG) (h0 : Nat) (K : kM) (f i : Int32) (I0 : g_Inv K)  (hv : ¬ g_out f 12 = 0) : k_MetT l gS kT y_Ke_memory b_Ke_memory 3 (some .int) (k_rt 7) G h0 [.ref (G.2.2 0 0), .int f, .int i] K x_IA (K) := by
  refine k_introT (by decide +kernel) rfl (Nat.le_of_ble_eq_true rfl) ?_
  intro X C E
  refine k_iload_n C d_Ke_memory_0 rfl ?_
  refine k_bipush C d_Ke_memory_1 (v := 12) (by decide) ?_
  exact k_callST C E kg_all (t_below l hfl G h0 _ _ _ I0 hv) cs_Ke_61 cv_Ke_requireBelow rfl rfl (Nat.le_of_ble_eq_true rfl) ⟨rfl, rfl⟩ ⟨by decide, by decide⟩ ⟨by decide, by decide⟩ d_Ke_memory_3
set_option maxHeartbeats 4000000 in
set_option maxRecDepth 100000 in
theorem t_memory_1 (l : Launch) (hfl : l.flags = flags0) (G : kG) (h0 : Nat) (K : kM) (f i : Int32) (I0 : g_Inv K) (b0 : g_out f 12 = 0) (hv : ¬ g_out i 8 = 0) : k_MetT l gS kT y_Ke_memory b_Ke_memory 3 (some .int) (k_rt 7) G h0 [.ref (G.2.2 0 0), .int f, .int i] K x_IA (K) := by
  refine k_introT (by decide +kernel) rfl (Nat.le_of_ble_eq_true rfl) ?_
  intro X C E
  refine k_iload_n C d_Ke_memory_0 rfl ?_
  refine k_bipush C d_Ke_memory_1 (v := 12) (by decide) ?_
  refine k_callSv C kg_all (c_Ke_requireBelow l G _ _ _ I0 b0) cs_Ke_61 cv_Ke_requireBelow rfl rfl (Nat.le_of_ble_eq_true rfl) ⟨rfl, rfl⟩ ⟨by decide, by decide⟩ ⟨Nat.zero_le _, Nat.zero_le _⟩ d_Ke_memory_3 I0 (fun I1 => ?_)
  refine k_iload_n C d_Ke_memory_6 rfl ?_
  refine k_bipush C d_Ke_memory_7 (v := 8) (by decide) ?_
  exact k_callST C E kg_all (t_below l hfl G h0 _ _ _ I1 hv) cs_Ke_61 cv_Ke_requireBelow rfl rfl (Nat.le_of_ble_eq_true rfl) ⟨rfl, rfl⟩ ⟨by decide, by decide⟩ ⟨by decide, by decide⟩ d_Ke_memory_9
set_option maxHeartbeats 4000000 in
set_option maxRecDepth 100000 in
theorem c_Ke_object (l : Launch) (G : kG) (K : kM) (k w : Int32) (I0 : g_Inv K) (b0 : g_out k 4 = 0) (b1 : g_out w 5 = 0) : k_Met l gS kT y_Ke_object b_Ke_object 3 (some .int) (k_rm 2) G [.ref (G.2.2 0 0), .int k, .int w] K (some (.int (g_objX K k.toNatClampNeg w))) (K) := by
  refine k_intro (by decide +kernel) rfl (Nat.le_of_ble_eq_true rfl) ?_
  intro X C E
  refine k_iload_n C d_Ke_object_0 rfl ?_
  refine k_iconst C d_Ke_object_1 (v := 4) (by decide) ?_
  refine k_callSv C kg_all (c_Ke_requireBelow l G _ _ _ I0 b0) cs_Ke_61 cv_Ke_requireBelow rfl rfl (Nat.le_of_ble_eq_true rfl) ⟨rfl, rfl⟩ ⟨by decide, by decide⟩ ⟨Nat.zero_le _, Nat.zero_le _⟩ d_Ke_object_2 I0 (fun I1 => ?_)
  refine k_iload_n C d_Ke_object_5 rfl ?_
  refine k_iconst C d_Ke_object_6 (v := 5) (by decide) ?_
  refine k_callSv C kg_all (c_Ke_requireBelow l G _ _ _ I1 b1) cs_Ke_61 cv_Ke_requireBelow rfl rfl (Nat.le_of_ble_eq_true rfl) ⟨rfl, rfl⟩ ⟨by decide, by decide⟩ ⟨Nat.zero_le _, Nat.zero_le _⟩ d_Ke_object_7 I1 (fun I2 => ?_)
  refine k_iload_n C d_Ke_object_10 rfl ?_
  rcases r_c5 (r_out (n := 5) (by decide) b1) with rfl | rfl | rfl | rfl | rfl
  · refine k_tabIn C d_Ke_object_11 (by decide) (by decide) (off := 29) (by decide) (tgt := 40) (by decide) ?_
    refine k_aload_n C d_Ke_object_40 rfl ?_
    refine k_getr C d_Ke_object_41 fg_Ke_37 (by first | assumption | decide | exact k_lt (by assumption)) rfl ?_
    refine k_iload_n C d_Ke_object_44 rfl ?_
    refine k_aaload C d_Ke_object_45 ar_14 (by first | assumption | decide | exact k_lt (by assumption)) (r_out (n := 4) (by decide) b0) rfl rfl ?_
    refine k_get C d_Ke_object_46 fg_Ke_132 (k_lt (r_out (n := 4) (by decide) b0)) rfl ?_
    exact k_ireturn C (E.to (by first | (simp only [g_objX, ↓reduceIte]; done) | (simp only [g_objX, ↓reduceIte]; rfl) | contradiction | rfl) (by first | (simp only [g_objX, ↓reduceIte]; done) | (simp only [g_objX, ↓reduceIte]; rfl) | contradiction | rfl)) d_Ke_object_49
  · refine k_tabIn C d_Ke_object_11 (by decide) (by decide) (off := 39) (by decide) (tgt := 50) (by decide) ?_
    refine k_aload_n C d_Ke_object_50 rfl ?_
    refine k_getr C d_Ke_object_51 fg_Ke_37 (by first | assumption | decide | exact k_lt (by assumption)) rfl ?_
    refine k_iload_n C d_Ke_object_54 rfl ?_
    refine k_aaload C d_Ke_object_55 ar_14 (by first | assumption | decide | exact k_lt (by assumption)) (r_out (n := 4) (by decide) b0) rfl rfl ?_
    refine k_getr C d_Ke_object_56 fg_Ke_135 (k_lt (r_out (n := 4) (by decide) b0)) rfl ?_
    refine k_get C d_Ke_object_59 fg_Ke_139 (by have := k_lt (r_out (n := 4) (by decide) b0); omega) rfl ?_
    exact k_ireturn C (E.to (by first | (simp only [g_objX, ↓reduceIte]; done) | (simp only [g_objX, ↓reduceIte]; rfl) | contradiction | rfl) (by first | (simp only [g_objX, ↓reduceIte]; done) | (simp only [g_objX, ↓reduceIte]; rfl) | contradiction | rfl)) d_Ke_object_62
  · refine k_tabIn C d_Ke_object_11 (by decide) (by decide) (off := 52) (by decide) (tgt := 63) (by decide) ?_
    refine k_aload_n C d_Ke_object_63 rfl ?_
    refine k_getr C d_Ke_object_64 fg_Ke_43 (by first | assumption | decide | exact k_lt (by assumption)) rfl ?_
    refine k_iload_n C d_Ke_object_67 rfl ?_
    refine k_aaload C d_Ke_object_68 ar_16 (by first | assumption | decide | exact k_lt (by assumption)) (r_out (n := 4) (by decide) b0) rfl rfl ?_
    refine k_get C d_Ke_object_69 fg_Ke_144 (k_lt (r_out (n := 4) (by decide) b0)) rfl ?_
    exact k_ireturn C (E.to (by first | (simp only [g_objX, ↓reduceIte]; done) | (simp only [g_objX, ↓reduceIte]; rfl) | contradiction | rfl) (by first | (simp only [g_objX, ↓reduceIte]; done) | (simp only [g_objX, ↓reduceIte]; rfl) | contradiction | rfl)) d_Ke_object_72
  · refine k_tabIn C d_Ke_object_11 (by decide) (by decide) (off := 62) (by decide) (tgt := 73) (by decide) ?_
    refine k_aload_n C d_Ke_object_73 rfl ?_
    refine k_getr C d_Ke_object_74 fg_Ke_43 (by first | assumption | decide | exact k_lt (by assumption)) rfl ?_
    refine k_iload_n C d_Ke_object_77 rfl ?_
    refine k_aaload C d_Ke_object_78 ar_16 (by first | assumption | decide | exact k_lt (by assumption)) (r_out (n := 4) (by decide) b0) rfl rfl ?_
    refine k_getr C d_Ke_object_79 fg_Ke_145 (k_lt (r_out (n := 4) (by decide) b0)) rfl ?_
    refine k_get C d_Ke_object_82 fg_Ke_139 (by have := k_lt (r_out (n := 4) (by decide) b0); omega) rfl ?_
    exact k_ireturn C (E.to (by first | (simp only [g_objX, ↓reduceIte]; done) | (simp only [g_objX, ↓reduceIte]; rfl) | contradiction | rfl) (by first | (simp only [g_objX, ↓reduceIte]; done) | (simp only [g_objX, ↓reduceIte]; rfl) | contradiction | rfl)) d_Ke_object_85
  · refine k_tabOut C d_Ke_object_11 (by decide) (tgt := 86) (by decide) ?_
    refine k_aload_n C d_Ke_object_86 rfl ?_
    refine k_getr C d_Ke_object_87 fg_Ke_43 (by first | assumption | decide | exact k_lt (by assumption)) rfl ?_
    refine k_iload_n C d_Ke_object_90 rfl ?_
    refine k_aaload C d_Ke_object_91 ar_16 (by first | assumption | decide | exact k_lt (by assumption)) (r_out (n := 4) (by decide) b0) rfl rfl ?_
    refine k_getr C d_Ke_object_92 fg_Ke_148 (k_lt (r_out (n := 4) (by decide) b0)) rfl ?_
    refine k_get C d_Ke_object_95 fg_Ke_139 (by have := k_lt (r_out (n := 4) (by decide) b0); omega) rfl ?_
    exact k_ireturn C (E.to (by first | (simp only [g_objX, ↓reduceIte]; done) | (simp only [g_objX, ↓reduceIte]; rfl) | contradiction | rfl) (by first | (simp only [g_objX, ↓reduceIte]; done) | (simp only [g_objX, ↓reduceIte]; rfl) | contradiction | rfl)) d_Ke_object_98
set_option maxHeartbeats 4000000 in
set_option maxRecDepth 100000 in
theorem t_object_0 (l : Launch) (hfl : l.flags = flags0) (G : kG) (h0 : Nat) (K : kM) (k w : Int32) (I0 : g_Inv K)  (hv : ¬ g_out k 4 = 0) : k_MetT l gS kT y_Ke_object b_Ke_object 3 (some .int) (k_rt 7) G h0 [.ref (G.2.2 0 0), .int k, .int w] K x_IA (K) := by
  refine k_introT (by decide +kernel) rfl (Nat.le_of_ble_eq_true rfl) ?_
  intro X C E
  refine k_iload_n C d_Ke_object_0 rfl ?_
  refine k_iconst C d_Ke_object_1 (v := 4) (by decide) ?_
  exact k_callST C E kg_all (t_below l hfl G h0 _ _ _ I0 hv) cs_Ke_61 cv_Ke_requireBelow rfl rfl (Nat.le_of_ble_eq_true rfl) ⟨rfl, rfl⟩ ⟨by decide, by decide⟩ ⟨by decide, by decide⟩ d_Ke_object_2
set_option maxHeartbeats 4000000 in
set_option maxRecDepth 100000 in
theorem t_object_1 (l : Launch) (hfl : l.flags = flags0) (G : kG) (h0 : Nat) (K : kM) (k w : Int32) (I0 : g_Inv K) (b0 : g_out k 4 = 0) (hv : ¬ g_out w 5 = 0) : k_MetT l gS kT y_Ke_object b_Ke_object 3 (some .int) (k_rt 7) G h0 [.ref (G.2.2 0 0), .int k, .int w] K x_IA (K) := by
  refine k_introT (by decide +kernel) rfl (Nat.le_of_ble_eq_true rfl) ?_
  intro X C E
  refine k_iload_n C d_Ke_object_0 rfl ?_
  refine k_iconst C d_Ke_object_1 (v := 4) (by decide) ?_
  refine k_callSv C kg_all (c_Ke_requireBelow l G _ _ _ I0 b0) cs_Ke_61 cv_Ke_requireBelow rfl rfl (Nat.le_of_ble_eq_true rfl) ⟨rfl, rfl⟩ ⟨by decide, by decide⟩ ⟨Nat.zero_le _, Nat.zero_le _⟩ d_Ke_object_2 I0 (fun I1 => ?_)
  refine k_iload_n C d_Ke_object_5 rfl ?_
  refine k_iconst C d_Ke_object_6 (v := 5) (by decide) ?_
  exact k_callST C E kg_all (t_below l hfl G h0 _ _ _ I1 hv) cs_Ke_61 cv_Ke_requireBelow rfl rfl (Nat.le_of_ble_eq_true rfl) ⟨rfl, rfl⟩ ⟨by decide, by decide⟩ ⟨by decide, by decide⟩ d_Ke_object_7
set_option maxHeartbeats 4000000 in
set_option maxRecDepth 100000 in
theorem c_Ke_written (l : Launch) (G : kG) (K : kM) (i w : Int32) (I0 : g_Inv K) (b0 : g_out i 32 = 0) (b1 : g_out w 4 = 0) : k_Met l gS kT y_Ke_written b_Ke_written 3 (some .int) (k_rm 2) G [.ref (G.2.2 0 0), .int i, .int w] K (some (.int (g_part K i w))) (K) := by
  refine k_intro (by decide +kernel) rfl (Nat.le_of_ble_eq_true rfl) ?_
  intro X C E
  refine k_iload_n C d_Ke_written_0 rfl ?_
  refine k_bipush C d_Ke_written_1 (v := 32) (by decide) ?_
  refine k_callSv C kg_all (c_Ke_requireBelow l G _ _ _ I0 b0) cs_Ke_61 cv_Ke_requireBelow rfl rfl (Nat.le_of_ble_eq_true rfl) ⟨rfl, rfl⟩ ⟨by decide, by decide⟩ ⟨Nat.zero_le _, Nat.zero_le _⟩ d_Ke_written_3 I0 (fun I1 => ?_)
  refine k_iload_n C d_Ke_written_6 rfl ?_
  refine k_iconst C d_Ke_written_7 (v := 4) (by decide) ?_
  refine k_callSv C kg_all (c_Ke_requireBelow l G _ _ _ I1 b1) cs_Ke_61 cv_Ke_requireBelow rfl rfl (Nat.le_of_ble_eq_true rfl) ⟨rfl, rfl⟩ ⟨by decide, by decide⟩ ⟨Nat.zero_le _, Nat.zero_le _⟩ d_Ke_written_8 I1 (fun I2 => ?_)
  refine k_aload_n C d_Ke_written_11 rfl ?_
  refine k_getr C d_Ke_written_12 fg_Ke_12 (by first | assumption | decide | exact k_lt (by assumption)) rfl ?_
  refine k_iload_n C d_Ke_written_15 rfl ?_
  refine k_iload_n C d_Ke_written_16 rfl ?_
  refine k_callVi C kg_all (c_Pg_part l G _ _ _ I2 (r_out (n := 32) (by decide) b0) (r_out (n := 4) (by decide) b1)) cs_Ke_151 cv_Pg_part ob_1 (by first | assumption | decide | exact k_lt (by assumption)) rfl rfl (Nat.le_of_ble_eq_true rfl) ⟨rfl, rfl⟩ ⟨by decide, by decide⟩ ⟨Nat.zero_le _, Nat.zero_le _⟩ d_Ke_written_17 I2 (fun I3 => ?_)
  exact k_ireturn C (E.to (by first | (simp only [g_part, ↓reduceIte]; done) | (simp only [g_part, ↓reduceIte]; rfl) | contradiction | rfl) (by first | (simp only [g_part, ↓reduceIte]; done) | (simp only [g_part, ↓reduceIte]; rfl) | contradiction | rfl)) d_Ke_written_20
set_option maxHeartbeats 4000000 in
set_option maxRecDepth 100000 in
theorem t_written_0 (l : Launch) (hfl : l.flags = flags0) (G : kG) (h0 : Nat) (K : kM) (i w : Int32) (I0 : g_Inv K)  (hv : ¬ g_out i 32 = 0) : k_MetT l gS kT y_Ke_written b_Ke_written 3 (some .int) (k_rt 7) G h0 [.ref (G.2.2 0 0), .int i, .int w] K x_IA (K) := by
  refine k_introT (by decide +kernel) rfl (Nat.le_of_ble_eq_true rfl) ?_
  intro X C E
  refine k_iload_n C d_Ke_written_0 rfl ?_
  refine k_bipush C d_Ke_written_1 (v := 32) (by decide) ?_
  exact k_callST C E kg_all (t_below l hfl G h0 _ _ _ I0 hv) cs_Ke_61 cv_Ke_requireBelow rfl rfl (Nat.le_of_ble_eq_true rfl) ⟨rfl, rfl⟩ ⟨by decide, by decide⟩ ⟨by decide, by decide⟩ d_Ke_written_3
set_option maxHeartbeats 4000000 in
set_option maxRecDepth 100000 in
theorem t_written_1 (l : Launch) (hfl : l.flags = flags0) (G : kG) (h0 : Nat) (K : kM) (i w : Int32) (I0 : g_Inv K) (b0 : g_out i 32 = 0) (hv : ¬ g_out w 4 = 0) : k_MetT l gS kT y_Ke_written b_Ke_written 3 (some .int) (k_rt 7) G h0 [.ref (G.2.2 0 0), .int i, .int w] K x_IA (K) := by
  refine k_introT (by decide +kernel) rfl (Nat.le_of_ble_eq_true rfl) ?_
  intro X C E
  refine k_iload_n C d_Ke_written_0 rfl ?_
  refine k_bipush C d_Ke_written_1 (v := 32) (by decide) ?_
  refine k_callSv C kg_all (c_Ke_requireBelow l G _ _ _ I0 b0) cs_Ke_61 cv_Ke_requireBelow rfl rfl (Nat.le_of_ble_eq_true rfl) ⟨rfl, rfl⟩ ⟨by decide, by decide⟩ ⟨Nat.zero_le _, Nat.zero_le _⟩ d_Ke_written_3 I0 (fun I1 => ?_)
  refine k_iload_n C d_Ke_written_6 rfl ?_
  refine k_iconst C d_Ke_written_7 (v := 4) (by decide) ?_
  exact k_callST C E kg_all (t_below l hfl G h0 _ _ _ I1 hv) cs_Ke_61 cv_Ke_requireBelow rfl rfl (Nat.le_of_ble_eq_true rfl) ⟨rfl, rfl⟩ ⟨by decide, by decide⟩ ⟨by decide, by decide⟩ d_Ke_written_8
theorem g_rn0 {K : kM} {c : Nat} (h1 : ¬ g_empty K 0 = 0) (h2 : ¬ g_empty K 1 = 0) (hz : g_rnS K (c + 1) = 0) : g_nb K 6 0 = 0 := by
  unfold g_rnS at hz
  rw [if_neg h1, if_neg h2] at hz
  by_cases h : g_nb K 6 0 = 0
  · exact h
  · rw [if_neg h] at hz
    exact absurd hz (by decide)
theorem g_rn2 {K : kM} {c : Nat} (h1 : ¬ g_empty K 0 = 0) (h2 : ¬ g_empty K 1 = 0) (hz : ¬ g_rnS K (c + 1) = 0) : ¬ g_nb K 6 0 = 0 := by
  unfold g_rnS at hz
  rw [if_neg h1, if_neg h2] at hz
  by_cases h : g_nb K 6 0 = 0
  · rw [if_pos h] at hz
    exact absurd rfl hz
  · exact h
set_option maxHeartbeats 4000000 in
set_option maxRecDepth 100000 in
theorem b_rn {X : kX} {G : kG} {l : Launch} (C : k_C X kT b_Ke_run y_Ke_run.cls gS G 3 l (k_rm 7)) (N : Nat) (hN : N ≤ 300) : ∀ (c k : Nat) {K : kM}, c + k = N → g_Inv K → g_rnS K c = 0 → k_E X (some .int) (some (.int (g_rnX K c k))) (g_rnT K c) 0 0 → k_W X 0 0 24 [(2, .int (nI k)), (0, .ref (G.2.2 0 0)), (1, .int (nI N))] [] K
  | 0, k, K, hc, I0, hz, E => by
    have e : k = N := by omega
    subst e
    refine k_iload_n C d_Ke_run_24 rfl ?_
    refine k_iload_n C d_Ke_run_25 rfl ?_
    refine k_icmp_ge C d_Ke_run_26 (tgt := 95) (by decide) (fun h1 => ?_) (fun h1 => absurd (Int32.le_refl _) h1)
    refine k_iload_n C d_Ke_run_95 rfl ?_
    exact k_ireturn C (E.to (by first | (simp only [g_rnX, g_rnT, ↓reduceIte]; done) | (simp only [g_rnX, g_rnT, ↓reduceIte]; rfl) | contradiction | rfl) (by first | (simp only [g_rnX, g_rnT, ↓reduceIte]; done) | (simp only [g_rnX, g_rnT, ↓reduceIte]; rfl) | contradiction | rfl)) d_Ke_run_96
  | c + 1, k, K, hc, I0, hz, E => by
    refine k_iload_n C d_Ke_run_24 rfl ?_
    refine k_iload_n C d_Ke_run_25 rfl ?_
    refine k_icmp_ge C d_Ke_run_26 (tgt := 95) (by decide) (fun h1 => absurd h1 (nI_ge (by omega) (by omega))) (fun h1 => ?_)
    refine k_aload_n C d_Ke_run_29 rfl ?_
    refine k_getr C d_Ke_run_30 fg_Ke_31 (by first | assumption | decide | exact k_lt (by assumption)) rfl ?_
    refine k_iconst C d_Ke_run_33 (v := 0) (by decide) ?_
    refine k_aaload C d_Ke_run_34 ar_10 (by first | assumption | decide | exact k_lt (by assumption)) (k_in (by decide)) (j := 0) (by decide) rfl ?_
    refine k_callVi C kg_all (c_Pr_isEmpty l G _ _ I0 (by decide)) cs_Ke_76 cv_Pr_isEmpty ob_11 (by decide) rfl rfl (Nat.le_of_ble_eq_true rfl) ⟨rfl, rfl⟩ ⟨by decide, by decide⟩ ⟨Nat.zero_le _, Nat.zero_le _⟩ d_Ke_run_35 I0 (fun I2 => ?_)
    refine k_if_eq C d_Ke_run_38 (tgt := 59) (by decide) (fun h3 => ?_) (fun h3 => ?_)
    · refine k_aload_n C d_Ke_run_59 rfl ?_
      refine k_dup C d_Ke_run_60 rfl ?_
      refine k_get C d_Ke_run_61 fg_Ke_83 (by first | assumption | decide | exact k_lt (by assumption)) rfl ?_
      refine k_iconst C d_Ke_run_64 (v := 1) (by decide) ?_
      refine k_iadd C d_Ke_run_65 ?_
      refine k_put C d_Ke_run_66 fp_Ke_83 (by first | assumption | decide | exact k_lt (by assumption)) rfl I2 (trivial) (fun I4 => ?_)
      refine k_aload_n C d_Ke_run_69 rfl ?_
      refine k_aload_n C d_Ke_run_70 rfl ?_
      refine k_getr C d_Ke_run_71 fg_Ke_31 (by first | assumption | decide | exact k_lt (by assumption)) rfl ?_
      refine k_iconst C d_Ke_run_74 (v := 0) (by decide) ?_
      refine k_aaload C d_Ke_run_75 ar_10 (by first | assumption | decide | exact k_lt (by assumption)) (k_in (by decide)) (j := 0) (by decide) rfl ?_
      refine k_callVv C kg_all (c_Ke_takeTurn l G _ _ I4 (by decide)) cs_Ke_87 cv_Ke_takeTurn ob_0 (by first | assumption | decide | exact k_lt (by assumption)) rfl rfl (Nat.le_of_ble_eq_true rfl) ⟨rfl, rfl⟩ ⟨by decide, by decide⟩ ⟨Nat.zero_le _, Nat.zero_le _⟩ d_Ke_run_76 (iv_turn I4) (fun I5 => ?_)
      refine k_aload_n C d_Ke_run_79 rfl ?_
      refine k_aload_n C d_Ke_run_80 rfl ?_
      refine k_getr C d_Ke_run_81 fg_Ke_31 (by first | assumption | decide | exact k_lt (by assumption)) rfl ?_
      refine k_iconst C d_Ke_run_84 (v := 1) (by decide) ?_
      refine k_aaload C d_Ke_run_85 ar_10 (by first | assumption | decide | exact k_lt (by assumption)) (k_in (by decide)) (j := 1) (by decide) rfl ?_
      refine k_callVv C kg_all (c_Ke_takeTurn l G _ _ I5 (by decide)) cs_Ke_87 cv_Ke_takeTurn ob_0 (by first | assumption | decide | exact k_lt (by assumption)) rfl rfl (Nat.le_of_ble_eq_true rfl) ⟨rfl, rfl⟩ ⟨by decide, by decide⟩ ⟨Nat.zero_le _, Nat.zero_le _⟩ d_Ke_run_86 (iv_turn I5) (fun I6 => ?_)
      refine k_iinc C d_Ke_run_89 rfl (v := nI (k + 1)) (nI_1 k) (by decide) ?_
      refine k_goto C d_Ke_run_92 (tgt := 24) (by decide) ?_
      exact k_loc [(2, .int (nI (k + 1))), (0, .ref (G.2.2 0 0)), (1, .int (nI N))] ⟨rfl, rfl, rfl, trivial⟩ (b_rn C N hN c (k + 1) (K := g_tick K) (by omega) (iv_tick I0) (by simp only [g_rnS, h3, ↓reduceIte] at hz; exact hz) (E.to (by simp only [g_rnX, h3, ↓reduceIte]) (by simp only [g_rnT, h3, ↓reduceIte])))
    · refine k_aload_n C d_Ke_run_41 rfl ?_
      refine k_getr C d_Ke_run_42 fg_Ke_31 (by first | assumption | decide | exact k_lt (by assumption)) rfl ?_
      refine k_iconst C d_Ke_run_45 (v := 1) (by decide) ?_
      refine k_aaload C d_Ke_run_46 ar_10 (by first | assumption | decide | exact k_lt (by assumption)) (k_in (by decide)) (j := 1) (by decide) rfl ?_
      refine k_callVi C kg_all (c_Pr_isEmpty l G _ _ I2 (by decide)) cs_Ke_76 cv_Pr_isEmpty ob_11 (by decide) rfl rfl (Nat.le_of_ble_eq_true rfl) ⟨rfl, rfl⟩ ⟨by decide, by decide⟩ ⟨Nat.zero_le _, Nat.zero_le _⟩ d_Ke_run_47 I2 (fun I7 => ?_)
      refine k_if_eq C d_Ke_run_50 (tgt := 59) (by decide) (fun h8 => ?_) (fun h8 => ?_)
      · refine k_aload_n C d_Ke_run_59 rfl ?_
        refine k_dup C d_Ke_run_60 rfl ?_
        refine k_get C d_Ke_run_61 fg_Ke_83 (by first | assumption | decide | exact k_lt (by assumption)) rfl ?_
        refine k_iconst C d_Ke_run_64 (v := 1) (by decide) ?_
        refine k_iadd C d_Ke_run_65 ?_
        refine k_put C d_Ke_run_66 fp_Ke_83 (by first | assumption | decide | exact k_lt (by assumption)) rfl I7 (trivial) (fun I9 => ?_)
        refine k_aload_n C d_Ke_run_69 rfl ?_
        refine k_aload_n C d_Ke_run_70 rfl ?_
        refine k_getr C d_Ke_run_71 fg_Ke_31 (by first | assumption | decide | exact k_lt (by assumption)) rfl ?_
        refine k_iconst C d_Ke_run_74 (v := 0) (by decide) ?_
        refine k_aaload C d_Ke_run_75 ar_10 (by first | assumption | decide | exact k_lt (by assumption)) (k_in (by decide)) (j := 0) (by decide) rfl ?_
        refine k_callVv C kg_all (c_Ke_takeTurn l G _ _ I9 (by decide)) cs_Ke_87 cv_Ke_takeTurn ob_0 (by first | assumption | decide | exact k_lt (by assumption)) rfl rfl (Nat.le_of_ble_eq_true rfl) ⟨rfl, rfl⟩ ⟨by decide, by decide⟩ ⟨Nat.zero_le _, Nat.zero_le _⟩ d_Ke_run_76 (iv_turn I9) (fun I10 => ?_)
        refine k_aload_n C d_Ke_run_79 rfl ?_
        refine k_aload_n C d_Ke_run_80 rfl ?_
        refine k_getr C d_Ke_run_81 fg_Ke_31 (by first | assumption | decide | exact k_lt (by assumption)) rfl ?_
        refine k_iconst C d_Ke_run_84 (v := 1) (by decide) ?_
        refine k_aaload C d_Ke_run_85 ar_10 (by first | assumption | decide | exact k_lt (by assumption)) (k_in (by decide)) (j := 1) (by decide) rfl ?_
        refine k_callVv C kg_all (c_Ke_takeTurn l G _ _ I10 (by decide)) cs_Ke_87 cv_Ke_takeTurn ob_0 (by first | assumption | decide | exact k_lt (by assumption)) rfl rfl (Nat.le_of_ble_eq_true rfl) ⟨rfl, rfl⟩ ⟨by decide, by decide⟩ ⟨Nat.zero_le _, Nat.zero_le _⟩ d_Ke_run_86 (iv_turn I10) (fun I11 => ?_)
        refine k_iinc C d_Ke_run_89 rfl (v := nI (k + 1)) (nI_1 k) (by decide) ?_
        refine k_goto C d_Ke_run_92 (tgt := 24) (by decide) ?_
        exact k_loc [(2, .int (nI (k + 1))), (0, .ref (G.2.2 0 0)), (1, .int (nI N))] ⟨rfl, rfl, rfl, trivial⟩ (b_rn C N hN c (k + 1) (K := g_tick K) (by omega) (iv_tick I0) (by simp only [g_rnS, h3, h8, ↓reduceIte] at hz; exact hz) (E.to (by simp only [g_rnX, h3, h8, ↓reduceIte]) (by simp only [g_rnT, h3, h8, ↓reduceIte])))
      · refine k_aload_n C d_Ke_run_53 rfl ?_
        refine k_callVv C kg_all (c_Ke_requireNoneBlocked l G _ I7 (g_rn0 h3 h8 hz)) cs_Ke_80 cv_Ke_requireNoneBlocked ob_0 (by first | assumption | decide | exact k_lt (by assumption)) rfl rfl (Nat.le_of_ble_eq_true rfl) ⟨rfl, rfl⟩ ⟨by decide, by decide⟩ ⟨Nat.zero_le _, Nat.zero_le _⟩ d_Ke_run_54 I7 (fun I12 => ?_)
        refine k_iload_n C d_Ke_run_57 rfl ?_
        exact k_ireturn C (E.to (by first | (simp only [g_rnX, g_rnT, h3, h8, ↓reduceIte]; done) | (simp only [g_rnX, g_rnT, h3, h8, ↓reduceIte]; rfl) | contradiction | rfl) (by first | (simp only [g_rnX, g_rnT, h3, h8, ↓reduceIte]; done) | (simp only [g_rnX, g_rnT, h3, h8, ↓reduceIte]; rfl) | contradiction | rfl)) d_Ke_run_58
set_option maxHeartbeats 4000000 in
set_option maxRecDepth 100000 in
theorem b_rnT {X : kX} {G : kG} {l : Launch} {h0 : Nat} (C : k_C X kT b_Ke_run y_Ke_run.cls gS G 3 l (k_rt 7)) (hfl : l.flags = flags0) (N : Nat) (hN : N ≤ 300) : ∀ (c k : Nat) {K : kM}, c + k = N → g_Inv K → ¬ g_rnS K c = 0 → k_Et X h0 x_IS (g_rnT K c) → k_W X 0 0 24 [(2, .int (nI k)), (0, .ref (G.2.2 0 0)), (1, .int (nI N))] [] K
  | 0, k, K, hc, I0, hz, E => absurd rfl hz
  | c + 1, k, K, hc, I0, hz, E => by
    refine k_iload_n C d_Ke_run_24 rfl ?_
    refine k_iload_n C d_Ke_run_25 rfl ?_
    refine k_icmp_ge C d_Ke_run_26 (tgt := 95) (by decide) (fun h1 => absurd h1 (nI_ge (by omega) (by omega))) (fun h1 => ?_)
    refine k_aload_n C d_Ke_run_29 rfl ?_
    refine k_getr C d_Ke_run_30 fg_Ke_31 (by first | assumption | decide | exact k_lt (by assumption)) rfl ?_
    refine k_iconst C d_Ke_run_33 (v := 0) (by decide) ?_
    refine k_aaload C d_Ke_run_34 ar_10 (by first | assumption | decide | exact k_lt (by assumption)) (k_in (by decide)) (j := 0) (by decide) rfl ?_
    refine k_callVi C kg_all (c_Pr_isEmpty l G _ _ I0 (by decide)) cs_Ke_76 cv_Pr_isEmpty ob_11 (by decide) rfl rfl (Nat.le_of_ble_eq_true rfl) ⟨rfl, rfl⟩ ⟨by decide, by decide⟩ ⟨Nat.zero_le _, Nat.zero_le _⟩ d_Ke_run_35 I0 (fun I2 => ?_)
    refine k_if_eq C d_Ke_run_38 (tgt := 59) (by decide) (fun h3 => ?_) (fun h3 => ?_)
    · refine k_aload_n C d_Ke_run_59 rfl ?_
      refine k_dup C d_Ke_run_60 rfl ?_
      refine k_get C d_Ke_run_61 fg_Ke_83 (by first | assumption | decide | exact k_lt (by assumption)) rfl ?_
      refine k_iconst C d_Ke_run_64 (v := 1) (by decide) ?_
      refine k_iadd C d_Ke_run_65 ?_
      refine k_put C d_Ke_run_66 fp_Ke_83 (by first | assumption | decide | exact k_lt (by assumption)) rfl I2 (trivial) (fun I4 => ?_)
      refine k_aload_n C d_Ke_run_69 rfl ?_
      refine k_aload_n C d_Ke_run_70 rfl ?_
      refine k_getr C d_Ke_run_71 fg_Ke_31 (by first | assumption | decide | exact k_lt (by assumption)) rfl ?_
      refine k_iconst C d_Ke_run_74 (v := 0) (by decide) ?_
      refine k_aaload C d_Ke_run_75 ar_10 (by first | assumption | decide | exact k_lt (by assumption)) (k_in (by decide)) (j := 0) (by decide) rfl ?_
      refine k_callVv C kg_all (c_Ke_takeTurn l G _ _ I4 (by decide)) cs_Ke_87 cv_Ke_takeTurn ob_0 (by first | assumption | decide | exact k_lt (by assumption)) rfl rfl (Nat.le_of_ble_eq_true rfl) ⟨rfl, rfl⟩ ⟨by decide, by decide⟩ ⟨Nat.zero_le _, Nat.zero_le _⟩ d_Ke_run_76 (iv_turn I4) (fun I5 => ?_)
      refine k_aload_n C d_Ke_run_79 rfl ?_
      refine k_aload_n C d_Ke_run_80 rfl ?_
      refine k_getr C d_Ke_run_81 fg_Ke_31 (by first | assumption | decide | exact k_lt (by assumption)) rfl ?_
      refine k_iconst C d_Ke_run_84 (v := 1) (by decide) ?_
      refine k_aaload C d_Ke_run_85 ar_10 (by first | assumption | decide | exact k_lt (by assumption)) (k_in (by decide)) (j := 1) (by decide) rfl ?_
      refine k_callVv C kg_all (c_Ke_takeTurn l G _ _ I5 (by decide)) cs_Ke_87 cv_Ke_takeTurn ob_0 (by first | assumption | decide | exact k_lt (by assumption)) rfl rfl (Nat.le_of_ble_eq_true rfl) ⟨rfl, rfl⟩ ⟨by decide, by decide⟩ ⟨Nat.zero_le _, Nat.zero_le _⟩ d_Ke_run_86 (iv_turn I5) (fun I6 => ?_)
      refine k_iinc C d_Ke_run_89 rfl (v := nI (k + 1)) (nI_1 k) (by decide) ?_
      refine k_goto C d_Ke_run_92 (tgt := 24) (by decide) ?_
      exact k_loc [(2, .int (nI (k + 1))), (0, .ref (G.2.2 0 0)), (1, .int (nI N))] ⟨rfl, rfl, rfl, trivial⟩ (b_rnT C hfl N hN c (k + 1) (K := g_tick K) (by omega) (iv_tick I0) (by simp only [g_rnS, h3, ↓reduceIte] at hz; exact hz) (by simp only [g_rnT, h3, ↓reduceIte] at E; exact E))
    · refine k_aload_n C d_Ke_run_41 rfl ?_
      refine k_getr C d_Ke_run_42 fg_Ke_31 (by first | assumption | decide | exact k_lt (by assumption)) rfl ?_
      refine k_iconst C d_Ke_run_45 (v := 1) (by decide) ?_
      refine k_aaload C d_Ke_run_46 ar_10 (by first | assumption | decide | exact k_lt (by assumption)) (k_in (by decide)) (j := 1) (by decide) rfl ?_
      refine k_callVi C kg_all (c_Pr_isEmpty l G _ _ I2 (by decide)) cs_Ke_76 cv_Pr_isEmpty ob_11 (by decide) rfl rfl (Nat.le_of_ble_eq_true rfl) ⟨rfl, rfl⟩ ⟨by decide, by decide⟩ ⟨Nat.zero_le _, Nat.zero_le _⟩ d_Ke_run_47 I2 (fun I7 => ?_)
      refine k_if_eq C d_Ke_run_50 (tgt := 59) (by decide) (fun h8 => ?_) (fun h8 => ?_)
      · refine k_aload_n C d_Ke_run_59 rfl ?_
        refine k_dup C d_Ke_run_60 rfl ?_
        refine k_get C d_Ke_run_61 fg_Ke_83 (by first | assumption | decide | exact k_lt (by assumption)) rfl ?_
        refine k_iconst C d_Ke_run_64 (v := 1) (by decide) ?_
        refine k_iadd C d_Ke_run_65 ?_
        refine k_put C d_Ke_run_66 fp_Ke_83 (by first | assumption | decide | exact k_lt (by assumption)) rfl I7 (trivial) (fun I9 => ?_)
        refine k_aload_n C d_Ke_run_69 rfl ?_
        refine k_aload_n C d_Ke_run_70 rfl ?_
        refine k_getr C d_Ke_run_71 fg_Ke_31 (by first | assumption | decide | exact k_lt (by assumption)) rfl ?_
        refine k_iconst C d_Ke_run_74 (v := 0) (by decide) ?_
        refine k_aaload C d_Ke_run_75 ar_10 (by first | assumption | decide | exact k_lt (by assumption)) (k_in (by decide)) (j := 0) (by decide) rfl ?_
        refine k_callVv C kg_all (c_Ke_takeTurn l G _ _ I9 (by decide)) cs_Ke_87 cv_Ke_takeTurn ob_0 (by first | assumption | decide | exact k_lt (by assumption)) rfl rfl (Nat.le_of_ble_eq_true rfl) ⟨rfl, rfl⟩ ⟨by decide, by decide⟩ ⟨Nat.zero_le _, Nat.zero_le _⟩ d_Ke_run_76 (iv_turn I9) (fun I10 => ?_)
        refine k_aload_n C d_Ke_run_79 rfl ?_
        refine k_aload_n C d_Ke_run_80 rfl ?_
        refine k_getr C d_Ke_run_81 fg_Ke_31 (by first | assumption | decide | exact k_lt (by assumption)) rfl ?_
        refine k_iconst C d_Ke_run_84 (v := 1) (by decide) ?_
        refine k_aaload C d_Ke_run_85 ar_10 (by first | assumption | decide | exact k_lt (by assumption)) (k_in (by decide)) (j := 1) (by decide) rfl ?_
        refine k_callVv C kg_all (c_Ke_takeTurn l G _ _ I10 (by decide)) cs_Ke_87 cv_Ke_takeTurn ob_0 (by first | assumption | decide | exact k_lt (by assumption)) rfl rfl (Nat.le_of_ble_eq_true rfl) ⟨rfl, rfl⟩ ⟨by decide, by decide⟩ ⟨Nat.zero_le _, Nat.zero_le _⟩ d_Ke_run_86 (iv_turn I10) (fun I11 => ?_)
        refine k_iinc C d_Ke_run_89 rfl (v := nI (k + 1)) (nI_1 k) (by decide) ?_
        refine k_goto C d_Ke_run_92 (tgt := 24) (by decide) ?_
        exact k_loc [(2, .int (nI (k + 1))), (0, .ref (G.2.2 0 0)), (1, .int (nI N))] ⟨rfl, rfl, rfl, trivial⟩ (b_rnT C hfl N hN c (k + 1) (K := g_tick K) (by omega) (iv_tick I0) (by simp only [g_rnS, h3, h8, ↓reduceIte] at hz; exact hz) (by simp only [g_rnT, h3, h8, ↓reduceIte] at E; exact E))
      · have E : k_Et X h0 x_IS K := by
          unfold g_rnT at E
          rw [if_neg h3, if_neg h8] at E
          exact E
        refine k_aload_n C d_Ke_run_53 rfl ?_
        exact k_callVT C E kg_all (t_stuck l hfl G h0 _ I7 (g_rn2 h3 h8 hz)) cs_Ke_80 cv_Ke_requireNoneBlocked ob_0 (by first | assumption | decide | exact k_lt (by assumption)) rfl rfl (Nat.le_of_ble_eq_true rfl) ⟨rfl, rfl⟩ ⟨by decide, by decide⟩ ⟨by decide, by decide⟩ d_Ke_run_54
set_option maxHeartbeats 4000000 in
set_option maxRecDepth 100000 in
theorem c_Ke_run (l : Launch) (G : kG) (K : kM) (N : Nat) (I0 : g_Inv K) (hN0 : 1 ≤ N) (hN : N ≤ 300) (hz : g_rnS K N = 0) : k_Met l gS kT y_Ke_run b_Ke_run 3 (some .int) (k_rm 7) G [.ref (G.2.2 0 0), .int (nI N)] K (some (.int (g_rnX K N 0))) (g_rnT K N) := by
  refine k_intro (by decide +kernel) rfl (Nat.le_of_ble_eq_true rfl) ?_
  intro X C E
  refine k_iload_n C d_Ke_run_0 rfl ?_
  refine k_iconst C d_Ke_run_1 (v := 1) (by decide) ?_
  refine k_icmp_lt C d_Ke_run_2 (tgt := 12) (by decide) (fun h1 => absurd h1 (nI_nlt hN0 (by omega))) (fun h1 => ?_)
  refine k_iload_n C d_Ke_run_5 rfl ?_
  refine k_sipush C d_Ke_run_6 (v := 300) (by decide) ?_
  refine k_icmp_le C d_Ke_run_9 (tgt := 22) (by decide) (fun h2 => ?_) (fun h2 => absurd (nI_le hN (by decide)) h2)
  refine k_iconst C d_Ke_run_22 (v := 0) (by decide) ?_
  refine k_istore_n C d_Ke_run_23 (by decide) ?_
  exact k_loc [(2, .int (nI 0)), (0, .ref (G.2.2 0 0)), (1, .int (nI N))] ⟨rfl, rfl, rfl, trivial⟩ (b_rn C N hN N 0 rfl I0 hz E)
set_option maxHeartbeats 4000000 in
set_option maxRecDepth 100000 in
theorem t_run_s (l : Launch) (hfl : l.flags = flags0) (G : kG) (h0 : Nat) (K : kM) (N : Nat) (I0 : g_Inv K) (hN0 : 1 ≤ N) (hN : N ≤ 300) (hz : ¬ g_rnS K N = 0) : k_MetT l gS kT y_Ke_run b_Ke_run 3 (some .int) (k_rt 7) G h0 [.ref (G.2.2 0 0), .int (nI N)] K x_IS (g_rnT K N) := by
  refine k_introT (by decide +kernel) rfl (Nat.le_of_ble_eq_true rfl) ?_
  intro X C E
  refine k_iload_n C d_Ke_run_0 rfl ?_
  refine k_iconst C d_Ke_run_1 (v := 1) (by decide) ?_
  refine k_icmp_lt C d_Ke_run_2 (tgt := 12) (by decide) (fun h1 => absurd h1 (nI_nlt hN0 (by omega))) (fun h1 => ?_)
  refine k_iload_n C d_Ke_run_5 rfl ?_
  refine k_sipush C d_Ke_run_6 (v := 300) (by decide) ?_
  refine k_icmp_le C d_Ke_run_9 (tgt := 22) (by decide) (fun h2 => ?_) (fun h2 => absurd (nI_le hN (by decide)) h2)
  refine k_iconst C d_Ke_run_22 (v := 0) (by decide) ?_
  refine k_istore_n C d_Ke_run_23 (by decide) ?_
  exact k_loc [(2, .int (nI 0)), (0, .ref (G.2.2 0 0)), (1, .int (nI N))] ⟨rfl, rfl, rfl, trivial⟩ (b_rnT C hfl N hN N 0 rfl I0 hz E)
set_option maxHeartbeats 4000000 in
set_option maxRecDepth 100000 in
theorem t_run_0 (l : Launch) (hfl : l.flags = flags0) (G : kG) (h0 : Nat) (K : kM) (n : Int32) (I0 : g_Inv K) (hn : ¬ n < 1 → ¬ n ≤ 300) : k_MetT l gS kT y_Ke_run b_Ke_run 3 (some .int) (k_rt 7) G h0 [.ref (G.2.2 0 0), .int n] K x_IA (K) := by
  refine k_introT (by decide +kernel) rfl (Nat.le_of_ble_eq_true rfl) ?_
  intro X C E
  refine k_iload_n C d_Ke_run_0 rfl ?_
  refine k_iconst C d_Ke_run_1 (v := 1) (by decide) ?_
  refine k_icmp_lt C d_Ke_run_2 (tgt := 12) (by decide) (fun h1 => ?_) (fun h1 => ?_)
  · exact k_thIA C E hfl d_Ke_run_12 d_Ke_run_15 d_Ke_run_16 d_Ke_run_18 d_Ke_run_21 ⟨by decide, by decide, by decide, by decide⟩
  · refine k_iload_n C d_Ke_run_5 rfl ?_
    refine k_sipush C d_Ke_run_6 (v := 300) (by decide) ?_
    refine k_icmp_le C d_Ke_run_9 (tgt := 22) (by decide) (fun h2 => ?_) (fun h2 => ?_)
    · exact absurd (hn h1) (fun q => q ‹_›)
    · exact k_thIA C E hfl d_Ke_run_12 d_Ke_run_15 d_Ke_run_16 d_Ke_run_18 d_Ke_run_21 ⟨by decide, by decide, by decide, by decide⟩
