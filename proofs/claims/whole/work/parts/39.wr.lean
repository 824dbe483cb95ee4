/-! ===== THE LAW (2): the eight wrappers ===== -/
set_option maxHeartbeats 4000000 in
theorem w_code_r (l : Launch) (hfl : l.flags = flags0) (G : kG) (cL : ClassId) (o h0 : Nat) (ok : w_ok G o h0) (K : kM) (f : Nat → Int64) (I0 : g_Inv K) (i op a b n : Int32) (b0 : g_out i 32 = 0) (b1 : g_out op 22 = 0) (b2 : g_out a 4 = 0) (b3 : g_out b 4 = 0) : w_Met l y_La_code b_La_code 7 [(0, 11, 14, 13)] G cL o h0 [.ref (G.2.2 0 0), .int i, .int op, .int a, .int b, .int n] K f 0 (g_write K i op a b n) (f) := by
  refine w_intro (by decide +kernel) rfl (Nat.le_of_ble_eq_true rfl) ?_
  intro X C Wc E
  refine q_aload_n C d_La_code_0 rfl ?_
  refine q_iload_n C d_La_code_1 rfl ?_
  refine q_iload_n C d_La_code_2 rfl ?_
  refine q_iload_n C d_La_code_3 rfl ?_
  refine q_iload C d_La_code_4 rfl ?_
  refine q_iload C d_La_code_6 rfl ?_
  refine w_callV C Wc ok (c_Ke_code l G _ _ _ _ _ _ I0 b0 b1 b2 b3) cs_La_7 cv_Ke_code ob_0 (by decide) rfl rfl (Nat.le_of_ble_eq_true rfl) ⟨rfl, rfl⟩ ⟨by decide, by decide⟩ ⟨Nat.zero_le _, Nat.zero_le _⟩ d_La_code_8 ?_
  refine q_goto C d_La_code_11 (tgt := 18) (by decide) ?_
  refine q_iconst C d_La_code_18 (v := 0) (by decide) ?_
  refine q_wide (m1 := 1) (m2 := 6) (by decide) (by decide) ?_
  exact w_ireturn C Wc E d_La_code_19
set_option maxHeartbeats 4000000 in
theorem w_code_0 (l : Launch) (hfl : l.flags = flags0) (G : kG) (cL : ClassId) (o h0 : Nat) (ok : w_ok G o h0) (K : kM) (f : Nat → Int64) (I0 : g_Inv K) (i op a b n : Int32)  (hv : ¬ g_out i 32 = 0) : w_Met l y_La_code b_La_code 7 [(0, 11, 14, 13)] G cL o h0 [.ref (G.2.2 0 0), .int i, .int op, .int a, .int b, .int n] K f 1 (K) (f) := by
  refine w_intro (by decide +kernel) rfl (Nat.le_of_ble_eq_true rfl) ?_
  intro X C Wc E
  refine q_aload_n C d_La_code_0 rfl ?_
  refine q_iload_n C d_La_code_1 rfl ?_
  refine q_iload_n C d_La_code_2 rfl ?_
  refine q_iload_n C d_La_code_3 rfl ?_
  refine q_iload C d_La_code_4 rfl ?_
  refine q_iload C d_La_code_6 rfl ?_
  refine w_callT C Wc ok (t_code_0 l hfl G h0 _ _ _ _ _ _ I0  hv) cs_La_7 cv_Ke_code ob_0 (by decide) rfl rfl (Nat.le_of_ble_eq_true rfl) ⟨rfl, rfl⟩ ⟨by decide, by decide⟩ ⟨by decide, by decide⟩ d_La_code_8 (hpre := []) (hpost := []) (from0 := 0) (to0 := 11) (tgt := 14) (ct := 13) rfl ⟨by decide, by decide⟩ (by decide) (kt2 24 rfl rfl) (List.mem_of_getElem? (i := 3) rfl) (fun _ h => absurd h List.not_mem_nil) (fun x => ?_)
  refine q_astore C d_La_code_14 (by decide) ?_
  refine q_iconst C d_La_code_16 (v := 1) (by decide) ?_
  exact w_ireturn C Wc E d_La_code_17
set_option maxHeartbeats 4000000 in
theorem w_code_1 (l : Launch) (hfl : l.flags = flags0) (G : kG) (cL : ClassId) (o h0 : Nat) (ok : w_ok G o h0) (K : kM) (f : Nat → Int64) (I0 : g_Inv K) (i op a b n : Int32) (b0 : g_out i 32 = 0) (hv : ¬ g_out op 22 = 0) : w_Met l y_La_code b_La_code 7 [(0, 11, 14, 13)] G cL o h0 [.ref (G.2.2 0 0), .int i, .int op, .int a, .int b, .int n] K f 1 (K) (f) := by
  refine w_intro (by decide +kernel) rfl (Nat.le_of_ble_eq_true rfl) ?_
  intro X C Wc E
  refine q_aload_n C d_La_code_0 rfl ?_
  refine q_iload_n C d_La_code_1 rfl ?_
  refine q_iload_n C d_La_code_2 rfl ?_
  refine q_iload_n C d_La_code_3 rfl ?_
  refine q_iload C d_La_code_4 rfl ?_
  refine q_iload C d_La_code_6 rfl ?_
  refine w_callT C Wc ok (t_code_1 l hfl G h0 _ _ _ _ _ _ I0 b0 hv) cs_La_7 cv_Ke_code ob_0 (by decide) rfl rfl (Nat.le_of_ble_eq_true rfl) ⟨rfl, rfl⟩ ⟨by decide, by decide⟩ ⟨by decide, by decide⟩ d_La_code_8 (hpre := []) (hpost := []) (from0 := 0) (to0 := 11) (tgt := 14) (ct := 13) rfl ⟨by decide, by decide⟩ (by decide) (kt2 24 rfl rfl) (List.mem_of_getElem? (i := 3) rfl) (fun _ h => absurd h List.not_mem_nil) (fun x => ?_)
  refine q_astore C d_La_code_14 (by decide) ?_
  refine q_iconst C d_La_code_16 (v := 1) (by decide) ?_
  exact w_ireturn C Wc E d_La_code_17
set_option maxHeartbeats 4000000 in
theorem w_code_2 (l : Launch) (hfl : l.flags = flags0) (G : kG) (cL : ClassId) (o h0 : Nat) (ok : w_ok G o h0) (K : kM) (f : Nat → Int64) (I0 : g_Inv K) (i op a b n : Int32) (b0 : g_out i 32 = 0) (b1 : g_out op 22 = 0) (hv : ¬ g_out a 4 = 0) : w_Met l y_La_code b_La_code 7 [(0, 11, 14, 13)] G cL o h0 [.ref (G.2.2 0 0), .int i, .int op, .int a, .int b, .int n] K f 1 (K) (f) := by
  refine w_intro (by decide +kernel) rfl (Nat.le_of_ble_eq_true rfl) ?_
  intro X C Wc E
  refine q_aload_n C d_La_code_0 rfl ?_
  refine q_iload_n C d_La_code_1 rfl ?_
  refine q_iload_n C d_La_code_2 rfl ?_
  refine q_iload_n C d_La_code_3 rfl ?_
  refine q_iload C d_La_code_4 rfl ?_
  refine q_iload C d_La_code_6 rfl ?_
  refine w_callT C Wc ok (t_code_2 l hfl G h0 _ _ _ _ _ _ I0 b0 b1 hv) cs_La_7 cv_Ke_code ob_0 (by decide) rfl rfl (Nat.le_of_ble_eq_true rfl) ⟨rfl, rfl⟩ ⟨by decide, by decide⟩ ⟨by decide, by decide⟩ d_La_code_8 (hpre := []) (hpost := []) (from0 := 0) (to0 := 11) (tgt := 14) (ct := 13) rfl ⟨by decide, by decide⟩ (by decide) (kt2 24 rfl rfl) (List.mem_of_getElem? (i := 3) rfl) (fun _ h => absurd h List.not_mem_nil) (fun x => ?_)
  refine q_astore C d_La_code_14 (by decide) ?_
  refine q_iconst C d_La_code_16 (v := 1) (by decide) ?_
  exact w_ireturn C Wc E d_La_code_17
set_option maxHeartbeats 4000000 in
theorem w_code_3 (l : Launch) (hfl : l.flags = flags0) (G : kG) (cL : ClassId) (o h0 : Nat) (ok : w_ok G o h0) (K : kM) (f : Nat → Int64) (I0 : g_Inv K) (i op a b n : Int32) (b0 : g_out i 32 = 0) (b1 : g_out op 22 = 0) (b2 : g_out a 4 = 0) (hv : ¬ g_out b 4 = 0) : w_Met l y_La_code b_La_code 7 [(0, 11, 14, 13)] G cL o h0 [.ref (G.2.2 0 0), .int i, .int op, .int a, .int b, .int n] K f 1 (K) (f) := by
  refine w_intro (by decide +kernel) rfl (Nat.le_of_ble_eq_true rfl) ?_
  intro X C Wc E
  refine q_aload_n C d_La_code_0 rfl ?_
  refine q_iload_n C d_La_code_1 rfl ?_
  refine q_iload_n C d_La_code_2 rfl ?_
  refine q_iload_n C d_La_code_3 rfl ?_
  refine q_iload C d_La_code_4 rfl ?_
  refine q_iload C d_La_code_6 rfl ?_
  refine w_callT C Wc ok (t_code_3 l hfl G h0 _ _ _ _ _ _ I0 b0 b1 b2 hv) cs_La_7 cv_Ke_code ob_0 (by decide) rfl rfl (Nat.le_of_ble_eq_true rfl) ⟨rfl, rfl⟩ ⟨by decide, by decide⟩ ⟨by decide, by decide⟩ d_La_code_8 (hpre := []) (hpost := []) (from0 := 0) (to0 := 11) (tgt := 14) (ct := 13) rfl ⟨by decide, by decide⟩ (by decide) (kt2 24 rfl rfl) (List.mem_of_getElem? (i := 3) rfl) (fun _ h => absurd h List.not_mem_nil) (fun x => ?_)
  refine q_astore C d_La_code_14 (by decide) ?_
  refine q_iconst C d_La_code_16 (v := 1) (by decide) ?_
  exact w_ireturn C Wc E d_La_code_17
def g_cdS (i op a b : Int32) : Int32 := if g_out i 32 = 0 then (if g_out op 22 = 0 then (if g_out a 4 = 0 then (if g_out b 4 = 0 then 0 else 1) else 1) else 1) else 1
def g_cdT (K : kM) (i op a b n : Int32) : kM := if g_cdS i op a b = 0 then g_write K i op a b n else K
theorem w_code (l : Launch) (hfl : l.flags = flags0) (G : kG) (cL : ClassId) (o h0 : Nat) (ok : w_ok G o h0) (K : kM) (f : Nat → Int64) (I0 : g_Inv K) (i op a b n : Int32) : w_Met l y_La_code b_La_code 7 [(0, 11, 14, 13)] G cL o h0 [.ref (G.2.2 0 0), .int i, .int op, .int a, .int b, .int n] K f (g_cdS i op a b) (g_cdT K i op a b n) f := by
  unfold g_cdT g_cdS
  by_cases b0 : g_out i 32 = 0
  · by_cases b1 : g_out op 22 = 0
    · by_cases b2 : g_out a 4 = 0
      · by_cases b3 : g_out b 4 = 0
        · simp only [b0, b1, b2, b3, ↓reduceIte]
          exact w_code_r l hfl G cL o h0 ok K f I0 i op a b n b0 b1 b2 b3
        · simp only [b0, b1, b2, b3, ↓reduceIte, show ¬ (1 : Int32) = 0 by decide]
          exact w_code_3 l hfl G cL o h0 ok K f I0 i op a b n b0 b1 b2 b3
      · simp only [b0, b1, b2, ↓reduceIte, show ¬ (1 : Int32) = 0 by decide]
        exact w_code_2 l hfl G cL o h0 ok K f I0 i op a b n b0 b1 b2
    · simp only [b0, b1, ↓reduceIte, show ¬ (1 : Int32) = 0 by decide]
      exact w_code_1 l hfl G cL o h0 ok K f I0 i op a b n b0 b1
  · simp only [b0, ↓reduceIte, show ¬ (1 : Int32) = 0 by decide]
    exact w_code_0 l hfl G cL o h0 ok K f I0 i op a b n b0
def g_s2 (a m b n : Int32) : Int32 := if g_out a m = 0 then (if g_out b n = 0 then 0 else 1) else 1
def g_s3 (K : kM) (g b n : Int32) : Int32 := if g_out g 6 = 0 then (if g_out b n = 0 then (if K 7 g.toNatClampNeg 3 = -1 then 2 else 0) else 1) else 1
def w_f (f : Nat → Int64) (st v : Int32) : Nat → Int64 := if st = 0 then vp_updL f 0 v.toInt64 else f
set_option maxHeartbeats 4000000 in
theorem w_register_r (l : Launch) (hfl : l.flags = flags0) (G : kG) (cL : ClassId) (o h0 : Nat) (ok : w_ok G o h0) (K : kM) (f : Nat → Int64) (I0 : g_Inv K) (g r : Int32) (b0 : g_out g 6 = 0) (b1 : g_out r 4 = 0) (hp : ¬ K 7 g.toNatClampNeg 3 = -1) : w_Met l y_La_register b_La_register 5 [(0, 10, 13, 13), (0, 10, 17, 25)] G cL o h0 [.ref (G.2.2 0 0), .int g, .int r, .ref o] K f 0 (K) (vp_updL f 0 (K 8 g.toNatClampNeg r.toNatClampNeg).toInt64) := by
  refine w_intro (by decide +kernel) rfl (Nat.le_of_ble_eq_true rfl) ?_
  intro X C Wc E
  refine q_aload_n C d_La_register_0 rfl ?_
  refine q_iconst C d_La_register_1 (v := 0) (by decide) ?_
  refine q_aload_n C d_La_register_2 rfl ?_
  refine q_iload_n C d_La_register_3 rfl ?_
  refine q_iload_n C d_La_register_4 rfl ?_
  refine w_callV C Wc ok (c_Ke_register l G _ _ _ I0 b0 b1 hp) cs_La_21 cv_Ke_register ob_0 (by decide) rfl rfl (Nat.le_of_ble_eq_true rfl) ⟨rfl, rfl⟩ ⟨by decide, by decide⟩ ⟨Nat.zero_le _, Nat.zero_le _⟩ d_La_register_5 ?_
  refine q_i2l C d_La_register_8 ?_
  refine w_last C Wc ok d_La_register_9 ?_
  refine q_goto C d_La_register_10 (tgt := 21) (by decide) ?_
  refine q_iconst C d_La_register_21 (v := 0) (by decide) ?_
  refine q_wide (m1 := 1) (m2 := 6) (by decide) (by decide) ?_
  exact w_ireturn C Wc E d_La_register_22
set_option maxHeartbeats 4000000 in
theorem w_register_0 (l : Launch) (hfl : l.flags = flags0) (G : kG) (cL : ClassId) (o h0 : Nat) (ok : w_ok G o h0) (K : kM) (f : Nat → Int64) (I0 : g_Inv K) (g r : Int32) (hv : ¬ g_out g 6 = 0) : w_Met l y_La_register b_La_register 5 [(0, 10, 13, 13), (0, 10, 17, 25)] G cL o h0 [.ref (G.2.2 0 0), .int g, .int r, .ref o] K f 1 (K) (f) := by
  refine w_intro (by decide +kernel) rfl (Nat.le_of_ble_eq_true rfl) ?_
  intro X C Wc E
  refine q_aload_n C d_La_register_0 rfl ?_
  refine q_iconst C d_La_register_1 (v := 0) (by decide) ?_
  refine q_aload_n C d_La_register_2 rfl ?_
  refine q_iload_n C d_La_register_3 rfl ?_
  refine q_iload_n C d_La_register_4 rfl ?_
  refine w_callT C Wc ok (t_register_0 l hfl G h0 _ _ _ I0 hv) cs_La_21 cv_Ke_register ob_0 (by decide) rfl rfl (Nat.le_of_ble_eq_true rfl) ⟨rfl, rfl⟩ ⟨by decide, by decide⟩ ⟨by decide, by decide⟩ d_La_register_5 (hpre := []) (hpost := [(0, 10, 17, 25)]) (from0 := 0) (to0 := 10) (tgt := 13) (ct := 13) rfl ⟨by decide, by decide⟩ (by decide) (kt2 24 rfl rfl) (List.mem_of_getElem? (i := 3) rfl) (fun _ h => absurd h List.not_mem_nil) (fun x => ?_)
  refine q_astore C d_La_register_13 (by decide) ?_
  refine q_iconst C d_La_register_15 (v := 1) (by decide) ?_
  exact w_ireturn C Wc E d_La_register_16
set_option maxHeartbeats 4000000 in
theorem w_register_1 (l : Launch) (hfl : l.flags = flags0) (G : kG) (cL : ClassId) (o h0 : Nat) (ok : w_ok G o h0) (K : kM) (f : Nat → Int64) (I0 : g_Inv K) (g r : Int32) (b0 : g_out g 6 = 0) (hv : ¬ g_out r 4 = 0) : w_Met l y_La_register b_La_register 5 [(0, 10, 13, 13), (0, 10, 17, 25)] G cL o h0 [.ref (G.2.2 0 0), .int g, .int r, .ref o] K f 1 (K) (f) := by
  refine w_intro (by decide +kernel) rfl (Nat.le_of_ble_eq_true rfl) ?_
  intro X C Wc E
  refine q_aload_n C d_La_register_0 rfl ?_
  refine q_iconst C d_La_register_1 (v := 0) (by decide) ?_
  refine q_aload_n C d_La_register_2 rfl ?_
  refine q_iload_n C d_La_register_3 rfl ?_
  refine q_iload_n C d_La_register_4 rfl ?_
  refine w_callT C Wc ok (t_register_1 l hfl G h0 _ _ _ I0 b0 hv) cs_La_21 cv_Ke_register ob_0 (by decide) rfl rfl (Nat.le_of_ble_eq_true rfl) ⟨rfl, rfl⟩ ⟨by decide, by decide⟩ ⟨by decide, by decide⟩ d_La_register_5 (hpre := []) (hpost := [(0, 10, 17, 25)]) (from0 := 0) (to0 := 10) (tgt := 13) (ct := 13) rfl ⟨by decide, by decide⟩ (by decide) (kt2 24 rfl rfl) (List.mem_of_getElem? (i := 3) rfl) (fun _ h => absurd h List.not_mem_nil) (fun x => ?_)
  refine q_astore C d_La_register_13 (by decide) ?_
  refine q_iconst C d_La_register_15 (v := 1) (by decide) ?_
  exact w_ireturn C Wc E d_La_register_16
set_option maxHeartbeats 4000000 in
theorem w_register_p (l : Launch) (hfl : l.flags = flags0) (G : kG) (cL : ClassId) (o h0 : Nat) (ok : w_ok G o h0) (K : kM) (f : Nat → Int64) (I0 : g_Inv K) (g r : Int32) (b0 : g_out g 6 = 0) (b1 : g_out r 4 = 0) (hp : K 7 g.toNatClampNeg 3 = -1) : w_Met l y_La_register b_La_register 5 [(0, 10, 13, 13), (0, 10, 17, 25)] G cL o h0 [.ref (G.2.2 0 0), .int g, .int r, .ref o] K f 2 (K) (f) := by
  refine w_intro (by decide +kernel) rfl (Nat.le_of_ble_eq_true rfl) ?_
  intro X C Wc E
  refine q_aload_n C d_La_register_0 rfl ?_
  refine q_iconst C d_La_register_1 (v := 0) (by decide) ?_
  refine q_aload_n C d_La_register_2 rfl ?_
  refine q_iload_n C d_La_register_3 rfl ?_
  refine q_iload_n C d_La_register_4 rfl ?_
  refine w_callT C Wc ok (t_register_p l hfl G h0 _ _ _ I0 b0 b1 hp) cs_La_21 cv_Ke_register ob_0 (by decide) rfl rfl (Nat.le_of_ble_eq_true rfl) ⟨rfl, rfl⟩ ⟨by decide, by decide⟩ ⟨by decide, by decide⟩ d_La_register_5 (hpre := [(0, 10, 13, 13)]) (hpost := []) (from0 := 0) (to0 := 10) (tgt := 17) (ct := 25) rfl ⟨by decide, by decide⟩ (by decide) (kt3 34 rfl rfl) (List.mem_of_getElem? (i := 5) rfl) (List.forall_mem_cons.mpr ⟨⟨by decide, x_IA, (kt2 24 rfl rfl), fun U h => h.2.2.2.2.2.2.1⟩, fun _ h => absurd h List.not_mem_nil⟩) (fun x => ?_)
  refine q_astore C d_La_register_17 (by decide) ?_
  refine q_iconst C d_La_register_19 (v := 2) (by decide) ?_
  exact w_ireturn C Wc E d_La_register_20
theorem w_register (l : Launch) (hfl : l.flags = flags0) (G : kG) (cL : ClassId) (o h0 : Nat) (ok : w_ok G o h0) (K : kM) (f : Nat → Int64) (I0 : g_Inv K) (g r : Int32) : w_Met l y_La_register b_La_register 5 [(0, 10, 13, 13), (0, 10, 17, 25)] G cL o h0 [.ref (G.2.2 0 0), .int g, .int r, .ref o] K f (g_s3 K g r 4) K (w_f f (g_s3 K g r 4) (K 8 g.toNatClampNeg r.toNatClampNeg)) := by
  by_cases b0 : g_out g 6 = 0
  · by_cases b1 : g_out r 4 = 0
    · by_cases hp : K 7 g.toNatClampNeg 3 = -1
      · simp only [w_f, g_s3, b0, b1, hp, ↓reduceIte, show ¬ (1 : Int32) = 0 by decide, show ¬ (2 : Int32) = 0 by decide]
        exact w_register_p l hfl G cL o h0 ok K f I0 g r b0 b1 hp
      · simp only [w_f, g_s3, b0, b1, hp, ↓reduceIte, show ¬ (1 : Int32) = 0 by decide, show ¬ (2 : Int32) = 0 by decide]
        exact w_register_r l hfl G cL o h0 ok K f I0 g r b0 b1 hp
    · simp only [w_f, g_s3, b0, b1, ↓reduceIte, show ¬ (1 : Int32) = 0 by decide, show ¬ (2 : Int32) = 0 by decide]
      exact w_register_1 l hfl G cL o h0 ok K f I0 g r b0 b1
  · simp only [w_f, g_s3, b0, ↓reduceIte, show ¬ (1 : Int32) = 0 by decide, show ¬ (2 : Int32) = 0 by decide]
    exact w_register_0 l hfl G cL o h0 ok K f I0 g r b0
set_option maxHeartbeats 4000000 in
theorem w_told_r (l : Launch) (hfl : l.flags = flags0) (G : kG) (cL : ClassId) (o h0 : Nat) (ok : w_ok G o h0) (K : kM) (f : Nat → Int64) (I0 : g_Inv K) (g w : Int32) (b0 : g_out g 6 = 0) (b1 : g_out w 9 = 0) (hp : ¬ K 7 g.toNatClampNeg 3 = -1) : w_Met l y_La_told b_La_told 5 [(0, 10, 13, 13), (0, 10, 17, 25)] G cL o h0 [.ref (G.2.2 0 0), .int g, .int w, .ref o] K f 0 (K) (vp_updL f 0 (g_telX K g.toNatClampNeg w).toInt64) := by
  refine w_intro (by decide +kernel) rfl (Nat.le_of_ble_eq_true rfl) ?_
  intro X C Wc E
  refine q_aload_n C d_La_told_0 rfl ?_
  refine q_iconst C d_La_told_1 (v := 0) (by decide) ?_
  refine q_aload_n C d_La_told_2 rfl ?_
  refine q_iload_n C d_La_told_3 rfl ?_
  refine q_iload_n C d_La_told_4 rfl ?_
  refine w_callV C Wc ok (c_Ke_told l G _ _ _ I0 b0 b1 hp) cs_La_27 cv_Ke_told ob_0 (by decide) rfl rfl (Nat.le_of_ble_eq_true rfl) ⟨rfl, rfl⟩ ⟨by decide, by decide⟩ ⟨Nat.zero_le _, Nat.zero_le _⟩ d_La_told_5 ?_
  refine q_i2l C d_La_told_8 ?_
  refine w_last C Wc ok d_La_told_9 ?_
  refine q_goto C d_La_told_10 (tgt := 21) (by decide) ?_
  refine q_iconst C d_La_told_21 (v := 0) (by decide) ?_
  refine q_wide (m1 := 1) (m2 := 6) (by decide) (by decide) ?_
  exact w_ireturn C Wc E d_La_told_22
set_option maxHeartbeats 4000000 in
theorem w_told_0 (l : Launch) (hfl : l.flags = flags0) (G : kG) (cL : ClassId) (o h0 : Nat) (ok : w_ok G o h0) (K : kM) (f : Nat → Int64) (I0 : g_Inv K) (g w : Int32) (hv : ¬ g_out g 6 = 0) : w_Met l y_La_told b_La_told 5 [(0, 10, 13, 13), (0, 10, 17, 25)] G cL o h0 [.ref (G.2.2 0 0), .int g, .int w, .ref o] K f 1 (K) (f) := by
  refine w_intro (by decide +kernel) rfl (Nat.le_of_ble_eq_true rfl) ?_
  intro X C Wc E
  refine q_aload_n C d_La_told_0 rfl ?_
  refine q_iconst C d_La_told_1 (v := 0) (by decide) ?_
  refine q_aload_n C d_La_told_2 rfl ?_
  refine q_iload_n C d_La_told_3 rfl ?_
  refine q_iload_n C d_La_told_4 rfl ?_
  refine w_callT C Wc ok (t_told_0 l hfl G h0 _ _ _ I0 hv) cs_La_27 cv_Ke_told ob_0 (by decide) rfl rfl (Nat.le_of_ble_eq_true rfl) ⟨rfl, rfl⟩ ⟨by decide, by decide⟩ ⟨by decide, by decide⟩ d_La_told_5 (hpre := []) (hpost := [(0, 10, 17, 25)]) (from0 := 0) (to0 := 10) (tgt := 13) (ct := 13) rfl ⟨by decide, by decide⟩ (by decide) (kt2 24 rfl rfl) (List.mem_of_getElem? (i := 3) rfl) (fun _ h => absurd h List.not_mem_nil) (fun x => ?_)
  refine q_astore C d_La_told_13 (by decide) ?_
  refine q_iconst C d_La_told_15 (v := 1) (by decide) ?_
  exact w_ireturn C Wc E d_La_told_16
set_option maxHeartbeats 4000000 in
theorem w_told_1 (l : Launch) (hfl : l.flags = flags0) (G : kG) (cL : ClassId) (o h0 : Nat) (ok : w_ok G o h0) (K : kM) (f : Nat → Int64) (I0 : g_Inv K) (g w : Int32) (b0 : g_out g 6 = 0) (hv : ¬ g_out w 9 = 0) : w_Met l y_La_told b_La_told 5 [(0, 10, 13, 13), (0, 10, 17, 25)] G cL o h0 [.ref (G.2.2 0 0), .int g, .int w, .ref o] K f 1 (K) (f) := by
  refine w_intro (by decide +kernel) rfl (Nat.le_of_ble_eq_true rfl) ?_
  intro X C Wc E
  refine q_aload_n C d_La_told_0 rfl ?_
  refine q_iconst C d_La_told_1 (v := 0) (by decide) ?_
  refine q_aload_n C d_La_told_2 rfl ?_
  refine q_iload_n C d_La_told_3 rfl ?_
  refine q_iload_n C d_La_told_4 rfl ?_
  refine w_callT C Wc ok (t_told_1 l hfl G h0 _ _ _ I0 b0 hv) cs_La_27 cv_Ke_told ob_0 (by decide) rfl rfl (Nat.le_of_ble_eq_true rfl) ⟨rfl, rfl⟩ ⟨by decide, by decide⟩ ⟨by decide, by decide⟩ d_La_told_5 (hpre := []) (hpost := [(0, 10, 17, 25)]) (from0 := 0) (to0 := 10) (tgt := 13) (ct := 13) rfl ⟨by decide, by decide⟩ (by decide) (kt2 24 rfl rfl) (List.mem_of_getElem? (i := 3) rfl) (fun _ h => absurd h List.not_mem_nil) (fun x => ?_)
  refine q_astore C d_La_told_13 (by decide) ?_
  refine q_iconst C d_La_told_15 (v := 1) (by decide) ?_
  exact w_ireturn C Wc E d_La_told_16
set_option maxHeartbeats 4000000 in
theorem w_told_p (l : Launch) (hfl : l.flags = flags0) (G : kG) (cL : ClassId) (o h0 : Nat) (ok : w_ok G o h0) (K : kM) (f : Nat → Int64) (I0 : g_Inv K) (g w : Int32) (b0 : g_out g 6 = 0) (b1 : g_out w 9 = 0) (hp : K 7 g.toNatClampNeg 3 = -1) : w_Met l y_La_told b_La_told 5 [(0, 10, 13, 13), (0, 10, 17, 25)] G cL o h0 [.ref (G.2.2 0 0), .int g, .int w, .ref o] K f 2 (K) (f) := by
  refine w_intro (by decide +kernel) rfl (Nat.le_of_ble_eq_true rfl) ?_
  intro X C Wc E
  refine q_aload_n C d_La_told_0 rfl ?_
  refine q_iconst C d_La_told_1 (v := 0) (by decide) ?_
  refine q_aload_n C d_La_told_2 rfl ?_
  refine q_iload_n C d_La_told_3 rfl ?_
  refine q_iload_n C d_La_told_4 rfl ?_
  refine w_callT C Wc ok (t_told_p l hfl G h0 _ _ _ I0 b0 b1 hp) cs_La_27 cv_Ke_told ob_0 (by decide) rfl rfl (Nat.le_of_ble_eq_true rfl) ⟨rfl, rfl⟩ ⟨by decide, by decide⟩ ⟨by decide, by decide⟩ d_La_told_5 (hpre := [(0, 10, 13, 13)]) (hpost := []) (from0 := 0) (to0 := 10) (tgt := 17) (ct := 25) rfl ⟨by decide, by decide⟩ (by decide) (kt3 34 rfl rfl) (List.mem_of_getElem? (i := 5) rfl) (List.forall_mem_cons.mpr ⟨⟨by decide, x_IA, (kt2 24 rfl rfl), fun U h => h.2.2.2.2.2.2.1⟩, fun _ h => absurd h List.not_mem_nil⟩) (fun x => ?_)
  refine q_astore C d_La_told_17 (by decide) ?_
  refine q_iconst C d_La_told_19 (v := 2) (by decide) ?_
  exact w_ireturn C Wc E d_La_told_20
theorem w_told (l : Launch) (hfl : l.flags = flags0) (G : kG) (cL : ClassId) (o h0 : Nat) (ok : w_ok G o h0) (K : kM) (f : Nat → Int64) (I0 : g_Inv K) (g w : Int32) : w_Met l y_La_told b_La_told 5 [(0, 10, 13, 13), (0, 10, 17, 25)] G cL o h0 [.ref (G.2.2 0 0), .int g, .int w, .ref o] K f (g_s3 K g w 9) K (w_f f (g_s3 K g w 9) (g_telX K g.toNatClampNeg w)) := by
  by_cases b0 : g_out g 6 = 0
  · by_cases b1 : g_out w 9 = 0
    · by_cases hp : K 7 g.toNatClampNeg 3 = -1
      · simp only [w_f, g_s3, b0, b1, hp, ↓reduceIte, show ¬ (1 : Int32) = 0 by decide, show ¬ (2 : Int32) = 0 by decide]
        exact w_told_p l hfl G cL o h0 ok K f I0 g w b0 b1 hp
      · simp only [w_f, g_s3, b0, b1, hp, ↓reduceIte, show ¬ (1 : Int32) = 0 by decide, show ¬ (2 : Int32) = 0 by decide]
        exact w_told_r l hfl G cL o h0 ok K f I0 g w b0 b1 hp
    · simp only [w_f, g_s3, b0, b1, ↓reduceIte, show ¬ (1 : Int32) = 0 by decide, show ¬ (2 : Int32) = 0 by decide]
      exact w_told_1 l hfl G cL o h0 ok K f I0 g w b0 b1
  · simp only [w_f, g_s3, b0, ↓reduceIte, show ¬ (1 : Int32) = 0 by decide, show ¬ (2 : Int32) = 0 by decide]
    exact w_told_0 l hfl G cL o h0 ok K f I0 g w b0
set_option maxHeartbeats 4000000 in
theorem w_page_r (l : Launch) (hfl : l.flags = flags0) (G : kG) (cL : ClassId) (o h0 : Nat) (ok : w_ok G o h0) (K : kM) (f : Nat → Int64) (I0 : g_Inv K) (g r : Int32) (b0 : g_out g 6 = 0) (b1 : g_out r 4 = 0) (hp : ¬ K 7 g.toNatClampNeg 3 = -1) : w_Met l y_La_page b_La_page 5 [(0, 10, 13, 13), (0, 10, 17, 25)] G cL o h0 [.ref (G.2.2 0 0), .int g, .int r, .ref o] K f 0 (K) (vp_updL f 0 (K 9 g.toNatClampNeg r.toNatClampNeg).toInt64) := by
  refine w_intro (by decide +kernel) rfl (Nat.le_of_ble_eq_true rfl) ?_
  intro X C Wc E
  refine q_aload_n C d_La_page_0 rfl ?_
  refine q_iconst C d_La_page_1 (v := 0) (by decide) ?_
  refine q_aload_n C d_La_page_2 rfl ?_
  refine q_iload_n C d_La_page_3 rfl ?_
  refine q_iload_n C d_La_page_4 rfl ?_
  refine w_callV C Wc ok (c_Ke_page l G _ _ _ I0 b0 b1 hp) cs_La_30 cv_Ke_page ob_0 (by decide) rfl rfl (Nat.le_of_ble_eq_true rfl) ⟨rfl, rfl⟩ ⟨by decide, by decide⟩ ⟨Nat.zero_le _, Nat.zero_le _⟩ d_La_page_5 ?_
  refine q_i2l C d_La_page_8 ?_
  refine w_last C Wc ok d_La_page_9 ?_
  refine q_goto C d_La_page_10 (tgt := 21) (by decide) ?_
  refine q_iconst C d_La_page_21 (v := 0) (by decide) ?_
  refine q_wide (m1 := 1) (m2 := 6) (by decide) (by decide) ?_
  exact w_ireturn C Wc E d_La_page_22
set_option maxHeartbeats 4000000 in
theorem w_page_0 (l : Launch) (hfl : l.flags = flags0) (G : kG) (cL : ClassId) (o h0 : Nat) (ok : w_ok G o h0) (K : kM) (f : Nat → Int64) (I0 : g_Inv K) (g r : Int32) (hv : ¬ g_out g 6 = 0) : w_Met l y_La_page b_La_page 5 [(0, 10, 13, 13), (0, 10, 17, 25)] G cL o h0 [.ref (G.2.2 0 0), .int g, .int r, .ref o] K f 1 (K) (f) := by
  refine w_intro (by decide +kernel) rfl (Nat.le_of_ble_eq_true rfl) ?_
  intro X C Wc E
  refine q_aload_n C d_La_page_0 rfl ?_
  refine q_iconst C d_La_page_1 (v := 0) (by decide) ?_
  refine q_aload_n C d_La_page_2 rfl ?_
  refine q_iload_n C d_La_page_3 rfl ?_
  refine q_iload_n C d_La_page_4 rfl ?_
  refine w_callT C Wc ok (t_page_0 l hfl G h0 _ _ _ I0 hv) cs_La_30 cv_Ke_page ob_0 (by decide) rfl rfl (Nat.le_of_ble_eq_true rfl) ⟨rfl, rfl⟩ ⟨by decide, by decide⟩ ⟨by decide, by decide⟩ d_La_page_5 (hpre := []) (hpost := [(0, 10, 17, 25)]) (from0 := 0) (to0 := 10) (tgt := 13) (ct := 13) rfl ⟨by decide, by decide⟩ (by decide) (kt2 24 rfl rfl) (List.mem_of_getElem? (i := 3) rfl) (fun _ h => absurd h List.not_mem_nil) (fun x => ?_)
  refine q_astore C d_La_page_13 (by decide) ?_
  refine q_iconst C d_La_page_15 (v := 1) (by decide) ?_
  exact w_ireturn C Wc E d_La_page_16
set_option maxHeartbeats 4000000 in
theorem w_page_1 (l : Launch) (hfl : l.flags = flags0) (G : kG) (cL : ClassId) (o h0 : Nat) (ok : w_ok G o h0) (K : kM) (f : Nat → Int64) (I0 : g_Inv K) (g r : Int32) (b0 : g_out g 6 = 0) (hv : ¬ g_out r 4 = 0) : w_Met l y_La_page b_La_page 5 [(0, 10, 13, 13), (0, 10, 17, 25)] G cL o h0 [.ref (G.2.2 0 0), .int g, .int r, .ref o] K f 1 (K) (f) := by
  refine w_intro (by decide +kernel) rfl (Nat.le_of_ble_eq_true rfl) ?_
  intro X C Wc E
  refine q_aload_n C d_La_page_0 rfl ?_
  refine q_iconst C d_La_page_1 (v := 0) (by decide) ?_
  refine q_aload_n C d_La_page_2 rfl ?_
  refine q_iload_n C d_La_page_3 rfl ?_
  refine q_iload_n C d_La_page_4 rfl ?_
  refine w_callT C Wc ok (t_page_1 l hfl G h0 _ _ _ I0 b0 hv) cs_La_30 cv_Ke_page ob_0 (by decide) rfl rfl (Nat.le_of_ble_eq_true rfl) ⟨rfl, rfl⟩ ⟨by decide, by decide⟩ ⟨by decide, by decide⟩ d_La_page_5 (hpre := []) (hpost := [(0, 10, 17, 25)]) (from0 := 0) (to0 := 10) (tgt := 13) (ct := 13) rfl ⟨by decide, by decide⟩ (by decide) (kt2 24 rfl rfl) (List.mem_of_getElem? (i := 3) rfl) (fun _ h => absurd h List.not_mem_nil) (fun x => ?_)
  refine q_astore C d_La_page_13 (by decide) ?_
  refine q_iconst C d_La_page_15 (v := 1) (by decide) ?_
  exact w_ireturn C Wc E d_La_page_16
set_option maxHeartbeats 4000000 in
theorem w_page_p (l : Launch) (hfl : l.flags = flags0) (G : kG) (cL : ClassId) (o h0 : Nat) (ok : w_ok G o h0) (K : kM) (f : Nat → Int64) (I0 : g_Inv K) (g r : Int32) (b0 : g_out g 6 = 0) (b1 : g_out r 4 = 0) (hp : K 7 g.toNatClampNeg 3 = -1) : w_Met l y_La_page b_La_page 5 [(0, 10, 13, 13), (0, 10, 17, 25)] G cL o h0 [.ref (G.2.2 0 0), .int g, .int r, .ref o] K f 2 (K) (f) := by
  refine w_intro (by decide +kernel) rfl (Nat.le_of_ble_eq_true rfl) ?_
  intro X C Wc E
  refine q_aload_n C d_La_page_0 rfl ?_
  refine q_iconst C d_La_page_1 (v := 0) (by decide) ?_
  refine q_aload_n C d_La_page_2 rfl ?_
  refine q_iload_n C d_La_page_3 rfl ?_
  refine q_iload_n C d_La_page_4 rfl ?_
  refine w_callT C Wc ok (t_page_p l hfl G h0 _ _ _ I0 b0 b1 hp) cs_La_30 cv_Ke_page ob_0 (by decide) rfl rfl (Nat.le_of_ble_eq_true rfl) ⟨rfl, rfl⟩ ⟨by decide, by decide⟩ ⟨by decide, by decide⟩ d_La_page_5 (hpre := [(0, 10, 13, 13)]) (hpost := []) (from0 := 0) (to0 := 10) (tgt := 17) (ct := 25) rfl ⟨by decide, by decide⟩ (by decide) (kt3 34 rfl rfl) (List.mem_of_getElem? (i := 5) rfl) (List.forall_mem_cons.mpr ⟨⟨by decide, x_IA, (kt2 24 rfl rfl), fun U h => h.2.2.2.2.2.2.1⟩, fun _ h => absurd h List.not_mem_nil⟩) (fun x => ?_)
  refine q_astore C d_La_page_17 (by decide) ?_
  refine q_iconst C d_La_page_19 (v := 2) (by decide) ?_
  exact w_ireturn C Wc E d_La_page_20
theorem w_page (l : Launch) (hfl : l.flags = flags0) (G : kG) (cL : ClassId) (o h0 : Nat) (ok : w_ok G o h0) (K : kM) (f : Nat → Int64) (I0 : g_Inv K) (g r : Int32) : w_Met l y_La_page b_La_page 5 [(0, 10, 13, 13), (0, 10, 17, 25)] G cL o h0 [.ref (G.2.2 0 0), .int g, .int r, .ref o] K f (g_s3 K g r 4) K (w_f f (g_s3 K g r 4) (K 9 g.toNatClampNeg r.toNatClampNeg)) := by
  by_cases b0 : g_out g 6 = 0
  · by_cases b1 : g_out r 4 = 0
    · by_cases hp : K 7 g.toNatClampNeg 3 = -1
      · simp only [w_f, g_s3, b0, b1, hp, ↓reduceIte, show ¬ (1 : Int32) = 0 by decide, show ¬ (2 : Int32) = 0 by decide]
        exact w_page_p l hfl G cL o h0 ok K f I0 g r b0 b1 hp
      · simp only [w_f, g_s3, b0, b1, hp, ↓reduceIte, show ¬ (1 : Int32) = 0 by decide, show ¬ (2 : Int32) = 0 by decide]
        exact w_page_r l hfl G cL o h0 ok K f I0 g r b0 b1 hp
    · simp only [w_f, g_s3, b0, b1, ↓reduceIte, show ¬ (1 : Int32) = 0 by decide, show ¬ (2 : Int32) = 0 by decide]
      exact w_page_1 l hfl G cL o h0 ok K f I0 g r b0 b1
  · simp only [w_f, g_s3, b0, ↓reduceIte, show ¬ (1 : Int32) = 0 by decide, show ¬ (2 : Int32) = 0 by decide]
    exact w_page_0 l hfl G cL o h0 ok K f I0 g r b0
set_option maxHeartbeats 4000000 in
theorem w_memory_r (l : Launch) (hfl : l.flags = flags0) (G : kG) (cL : ClassId) (o h0 : Nat) (ok : w_ok G o h0) (K : kM) (f : Nat → Int64) (I0 : g_Inv K) (f0 i : Int32) (b0 : g_out f0 12 = 0) (b1 : g_out i 8 = 0) : w_Met l y_La_memory b_La_memory 5 [(0, 10, 13, 13)] G cL o h0 [.ref (G.2.2 0 0), .int f0, .int i, .ref o] K f 0 (K) (vp_updL f 0 (g_read K f0 i).toInt64) := by
  refine w_intro (by decide +kernel) rfl (Nat.le_of_ble_eq_true rfl) ?_
  intro X C Wc E
  refine q_aload_n C d_La_memory_0 rfl ?_
  refine q_iconst C d_La_memory_1 (v := 0) (by decide) ?_
  refine q_aload_n C d_La_memory_2 rfl ?_
  refine q_iload_n C d_La_memory_3 rfl ?_
  refine q_iload_n C d_La_memory_4 rfl ?_
  refine w_callV C Wc ok (c_Ke_memory l G _ _ _ I0 b0 b1) cs_La_33 cv_Ke_memory ob_0 (by decide) rfl rfl (Nat.le_of_ble_eq_true rfl) ⟨rfl, rfl⟩ ⟨by decide, by decide⟩ ⟨Nat.zero_le _, Nat.zero_le _⟩ d_La_memory_5 ?_
  refine q_i2l C d_La_memory_8 ?_
  refine w_last C Wc ok d_La_memory_9 ?_
  refine q_goto C d_La_memory_10 (tgt := 17) (by decide) ?_
  refine q_iconst C d_La_memory_17 (v := 0) (by decide) ?_
  refine q_wide (m1 := 1) (m2 := 6) (by decide) (by decide) ?_
  exact w_ireturn C Wc E d_La_memory_18
set_option maxHeartbeats 4000000 in
theorem w_memory_0 (l : Launch) (hfl : l.flags = flags0) (G : kG) (cL : ClassId) (o h0 : Nat) (ok : w_ok G o h0) (K : kM) (f : Nat → Int64) (I0 : g_Inv K) (f0 i : Int32) (hv : ¬ g_out f0 12 = 0) : w_Met l y_La_memory b_La_memory 5 [(0, 10, 13, 13)] G cL o h0 [.ref (G.2.2 0 0), .int f0, .int i, .ref o] K f 1 (K) (f) := by
  refine w_intro (by decide +kernel) rfl (Nat.le_of_ble_eq_true rfl) ?_
  intro X C Wc E
  refine q_aload_n C d_La_memory_0 rfl ?_
  refine q_iconst C d_La_memory_1 (v := 0) (by decide) ?_
  refine q_aload_n C d_La_memory_2 rfl ?_
  refine q_iload_n C d_La_memory_3 rfl ?_
  refine q_iload_n C d_La_memory_4 rfl ?_
  refine w_callT C Wc ok (t_memory_0 l hfl G h0 _ _ _ I0 hv) cs_La_33 cv_Ke_memory ob_0 (by decide) rfl rfl (Nat.le_of_ble_eq_true rfl) ⟨rfl, rfl⟩ ⟨by decide, by decide⟩ ⟨by decide, by decide⟩ d_La_memory_5 (hpre := []) (hpost := []) (from0 := 0) (to0 := 10) (tgt := 13) (ct := 13) rfl ⟨by decide, by decide⟩ (by decide) (kt2 24 rfl rfl) (List.mem_of_getElem? (i := 3) rfl) (fun _ h => absurd h List.not_mem_nil) (fun x => ?_)
  refine q_astore C d_La_memory_13 (by decide) ?_
  refine q_iconst C d_La_memory_15 (v := 1) (by decide) ?_
  exact w_ireturn C Wc E d_La_memory_16
set_option maxHeartbeats 4000000 in
theorem w_memory_1 (l : Launch) (hfl : l.flags = flags0) (G : kG) (cL : ClassId) (o h0 : Nat) (ok : w_ok G o h0) (K : kM) (f : Nat → Int64) (I0 : g_Inv K) (f0 i : Int32) (b0 : g_out f0 12 = 0) (hv : ¬ g_out i 8 = 0) : w_Met l y_La_memory b_La_memory 5 [(0, 10, 13, 13)] G cL o h0 [.ref (G.2.2 0 0), .int f0, .int i, .ref o] K f 1 (K) (f) := by
  refine w_intro (by decide +kernel) rfl (Nat.le_of_ble_eq_true rfl) ?_
  intro X C Wc E
  refine q_aload_n C d_La_memory_0 rfl ?_
  refine q_iconst C d_La_memory_1 (v := 0) (by decide) ?_
  refine q_aload_n C d_La_memory_2 rfl ?_
  refine q_iload_n C d_La_memory_3 rfl ?_
  refine q_iload_n C d_La_memory_4 rfl ?_
  refine w_callT C Wc ok (t_memory_1 l hfl G h0 _ _ _ I0 b0 hv) cs_La_33 cv_Ke_memory ob_0 (by decide) rfl rfl (Nat.le_of_ble_eq_true rfl) ⟨rfl, rfl⟩ ⟨by decide, by decide⟩ ⟨by decide, by decide⟩ d_La_memory_5 (hpre := []) (hpost := []) (from0 := 0) (to0 := 10) (tgt := 13) (ct := 13) rfl ⟨by decide, by decide⟩ (by decide) (kt2 24 rfl rfl) (List.mem_of_getElem? (i := 3) rfl) (fun _ h => absurd h List.not_mem_nil) (fun x => ?_)
  refine q_astore C d_La_memory_13 (by decide) ?_
  refine q_iconst C d_La_memory_15 (v := 1) (by decide) ?_
  exact w_ireturn C Wc E d_La_memory_16
theorem w_memory (l : Launch) (hfl : l.flags = flags0) (G : kG) (cL : ClassId) (o h0 : Nat) (ok : w_ok G o h0) (K : kM) (f : Nat → Int64) (I0 : g_Inv K) (f0 i : Int32) : w_Met l y_La_memory b_La_memory 5 [(0, 10, 13, 13)] G cL o h0 [.ref (G.2.2 0 0), .int f0, .int i, .ref o] K f (g_s2 f0 12 i 8) K (w_f f (g_s2 f0 12 i 8) (g_read K f0 i)) := by
  by_cases b0 : g_out f0 12 = 0
  · by_cases b1 : g_out i 8 = 0
    · simp only [w_f, g_s2, b0, b1, ↓reduceIte, show ¬ (1 : Int32) = 0 by decide, show ¬ (2 : Int32) = 0 by decide]
      exact w_memory_r l hfl G cL o h0 ok K f I0 f0 i b0 b1
    · simp only [w_f, g_s2, b0, b1, ↓reduceIte, show ¬ (1 : Int32) = 0 by decide, show ¬ (2 : Int32) = 0 by decide]
      exact w_memory_1 l hfl G cL o h0 ok K f I0 f0 i b0 b1
  · simp only [w_f, g_s2, b0, ↓reduceIte, show ¬ (1 : Int32) = 0 by decide, show ¬ (2 : Int32) = 0 by decide]
    exact w_memory_0 l hfl G cL o h0 ok K f I0 f0 i b0
set_option maxHeartbeats 4000000 in
theorem w_object_r (l : Launch) (hfl : l.flags = flags0) (G : kG) (cL : ClassId) (o h0 : Nat) (ok : w_ok G o h0) (K : kM) (f : Nat → Int64) (I0 : g_Inv K) (k w : Int32) (b0 : g_out k 4 = 0) (b1 : g_out w 5 = 0) : w_Met l y_La_object b_La_object 5 [(0, 10, 13, 13)] G cL o h0 [.ref (G.2.2 0 0), .int k, .int w, .ref o] K f 0 (K) (vp_updL f 0 (g_objX K k.toNatClampNeg w).toInt64) := by
  refine w_intro (by decide +kernel) rfl (Nat.le_of_ble_eq_true rfl) ?_
  intro X C Wc E
  refine q_aload_n C d_La_object_0 rfl ?_
  refine q_iconst C d_La_object_1 (v := 0) (by decide) ?_
  refine q_aload_n C d_La_object_2 rfl ?_
  refine q_iload_n C d_La_object_3 rfl ?_
  refine q_iload_n C d_La_object_4 rfl ?_
  refine w_callV C Wc ok (c_Ke_object l G _ _ _ I0 b0 b1) cs_La_36 cv_Ke_object ob_0 (by decide) rfl rfl (Nat.le_of_ble_eq_true rfl) ⟨rfl, rfl⟩ ⟨by decide, by decide⟩ ⟨Nat.zero_le _, Nat.zero_le _⟩ d_La_object_5 ?_
  refine q_i2l C d_La_object_8 ?_
  refine w_last C Wc ok d_La_object_9 ?_
  refine q_goto C d_La_object_10 (tgt := 17) (by decide) ?_
  refine q_iconst C d_La_object_17 (v := 0) (by decide) ?_
  refine q_wide (m1 := 1) (m2 := 6) (by decide) (by decide) ?_
  exact w_ireturn C Wc E d_La_object_18
set_option maxHeartbeats 4000000 in
theorem w_object_0 (l : Launch) (hfl : l.flags = flags0) (G : kG) (cL : ClassId) (o h0 : Nat) (ok : w_ok G o h0) (K : kM) (f : Nat → Int64) (I0 : g_Inv K) (k w : Int32) (hv : ¬ g_out k 4 = 0) : w_Met l y_La_object b_La_object 5 [(0, 10, 13, 13)] G cL o h0 [.ref (G.2.2 0 0), .int k, .int w, .ref o] K f 1 (K) (f) := by
  refine w_intro (by decide +kernel) rfl (Nat.le_of_ble_eq_true rfl) ?_
  intro X C Wc E
  refine q_aload_n C d_La_object_0 rfl ?_
  refine q_iconst C d_La_object_1 (v := 0) (by decide) ?_
  refine q_aload_n C d_La_object_2 rfl ?_
  refine q_iload_n C d_La_object_3 rfl ?_
  refine q_iload_n C d_La_object_4 rfl ?_
  refine w_callT C Wc ok (t_object_0 l hfl G h0 _ _ _ I0 hv) cs_La_36 cv_Ke_object ob_0 (by decide) rfl rfl (Nat.le_of_ble_eq_true rfl) ⟨rfl, rfl⟩ ⟨by decide, by decide⟩ ⟨by decide, by decide⟩ d_La_object_5 (hpre := []) (hpost := []) (from0 := 0) (to0 := 10) (tgt := 13) (ct := 13) rfl ⟨by decide, by decide⟩ (by decide) (kt2 24 rfl rfl) (List.mem_of_getElem? (i := 3) rfl) (fun _ h => absurd h List.not_mem_nil) (fun x => ?_)
  refine q_astore C d_La_object_13 (by decide) ?_
  refine q_iconst C d_La_object_15 (v := 1) (by decide) ?_
  exact w_ireturn C Wc E d_La_object_16
set_option maxHeartbeats 4000000 in
theorem w_object_1 (l : Launch) (hfl : l.flags = flags0) (G : kG) (cL : ClassId) (o h0 : Nat) (ok : w_ok G o h0) (K : kM) (f : Nat → Int64) (I0 : g_Inv K) (k w : Int32) (b0 : g_out k 4 = 0) (hv : ¬ g_out w 5 = 0) : w_Met l y_La_object b_La_object 5 [(0, 10, 13, 13)] G cL o h0 [.ref (G.2.2 0 0), .int k, .int w, .ref o] K f 1 (K) (f) := by
  refine w_intro (by decide +kernel) rfl (Nat.le_of_ble_eq_true rfl) ?_
  intro X C Wc E
  refine q_aload_n C d_La_object_0 rfl ?_
  refine q_iconst C d_La_object_1 (v := 0) (by decide) ?_
  refine q_aload_n C d_La_object_2 rfl ?_
  refine q_iload_n C d_La_object_3 rfl ?_
  refine q_iload_n C d_La_object_4 rfl ?_
  refine w_callT C Wc ok (t_object_1 l hfl G h0 _ _ _ I0 b0 hv) cs_La_36 cv_Ke_object ob_0 (by decide) rfl rfl (Nat.le_of_ble_eq_true rfl) ⟨rfl, rfl⟩ ⟨by decide, by decide⟩ ⟨by decide, by decide⟩ d_La_object_5 (hpre := []) (hpost := []) (from0 := 0) (to0 := 10) (tgt := 13) (ct := 13) rfl ⟨by decide, by decide⟩ (by decide) (kt2 24 rfl rfl) (List.mem_of_getElem? (i := 3) rfl) (fun _ h => absurd h List.not_mem_nil) (fun x => ?_)
  refine q_astore C d_La_object_13 (by decide) ?_
  refine q_iconst C d_La_object_15 (v := 1) (by decide) ?_
  exact w_ireturn C Wc E d_La_object_16
theorem w_object (l : Launch) (hfl : l.flags = flags0) (G : kG) (cL : ClassId) (o h0 : Nat) (ok : w_ok G o h0) (K : kM) (f : Nat → Int64) (I0 : g_Inv K) (k w : Int32) : w_Met l y_La_object b_La_object 5 [(0, 10, 13, 13)] G cL o h0 [.ref (G.2.2 0 0), .int k, .int w, .ref o] K f (g_s2 k 4 w 5) K (w_f f (g_s2 k 4 w 5) (g_objX K k.toNatClampNeg w)) := by
  by_cases b0 : g_out k 4 = 0
  · by_cases b1 : g_out w 5 = 0
    · simp only [w_f, g_s2, b0, b1, ↓reduceIte, show ¬ (1 : Int32) = 0 by decide, show ¬ (2 : Int32) = 0 by decide]
      exact w_object_r l hfl G cL o h0 ok K f I0 k w b0 b1
    · simp only [w_f, g_s2, b0, b1, ↓reduceIte, show ¬ (1 : Int32) = 0 by decide, show ¬ (2 : Int32) = 0 by decide]
      exact w_object_1 l hfl G cL o h0 ok K f I0 k w b0 b1
  · simp only [w_f, g_s2, b0, ↓reduceIte, show ¬ (1 : Int32) = 0 by decide, show ¬ (2 : Int32) = 0 by decide]
    exact w_object_0 l hfl G cL o h0 ok K f I0 k w b0
set_option maxHeartbeats 4000000 in
theorem w_written_r (l : Launch) (hfl : l.flags = flags0) (G : kG) (cL : ClassId) (o h0 : Nat) (ok : w_ok G o h0) (K : kM) (f : Nat → Int64) (I0 : g_Inv K) (i w : Int32) (b0 : g_out i 32 = 0) (b1 : g_out w 4 = 0) : w_Met l y_La_written b_La_written 5 [(0, 10, 13, 13)] G cL o h0 [.ref (G.2.2 0 0), .int i, .int w, .ref o] K f 0 (K) (vp_updL f 0 (g_part K i w).toInt64) := by
  refine w_intro (by decide +kernel) rfl (Nat.le_of_ble_eq_true rfl) ?_
  intro X C Wc E
  refine q_aload_n C d_La_written_0 rfl ?_
  refine q_iconst C d_La_written_1 (v := 0) (by decide) ?_
  refine q_aload_n C d_La_written_2 rfl ?_
  refine q_iload_n C d_La_written_3 rfl ?_
  refine q_iload_n C d_La_written_4 rfl ?_
  refine w_callV C Wc ok (c_Ke_written l G _ _ _ I0 b0 b1) cs_La_39 cv_Ke_written ob_0 (by decide) rfl rfl (Nat.le_of_ble_eq_true rfl) ⟨rfl, rfl⟩ ⟨by decide, by decide⟩ ⟨Nat.zero_le _, Nat.zero_le _⟩ d_La_written_5 ?_
  refine q_i2l C d_La_written_8 ?_
  refine w_last C Wc ok d_La_written_9 ?_
  refine q_goto C d_La_written_10 (tgt := 17) (by decide) ?_
  refine q_iconst C d_La_written_17 (v := 0) (by decide) ?_
  refine q_wide (m1 := 1) (m2 := 6) (by decide) (by decide) ?_
  exact w_ireturn C Wc E d_La_written_18
set_option maxHeartbeats 4000000 in
theorem w_written_0 (l : Launch) (hfl : l.flags = flags0) (G : kG) (cL : ClassId) (o h0 : Nat) (ok : w_ok G o h0) (K : kM) (f : Nat → Int64) (I0 : g_Inv K) (i w : Int32) (hv : ¬ g_out i 32 = 0) : w_Met l y_La_written b_La_written 5 [(0, 10, 13, 13)] G cL o h0 [.ref (G.2.2 0 0), .int i, .int w, .ref o] K f 1 (K) (f) := by
  refine w_intro (by decide +kernel) rfl (Nat.le_of_ble_eq_true rfl) ?_
  intro X C Wc E
  refine q_aload_n C d_La_written_0 rfl ?_
  refine q_iconst C d_La_written_1 (v := 0) (by decide) ?_
  refine q_aload_n C d_La_written_2 rfl ?_
  refine q_iload_n C d_La_written_3 rfl ?_
  refine q_iload_n C d_La_written_4 rfl ?_
  refine w_callT C Wc ok (t_written_0 l hfl G h0 _ _ _ I0 hv) cs_La_39 cv_Ke_written ob_0 (by decide) rfl rfl (Nat.le_of_ble_eq_true rfl) ⟨rfl, rfl⟩ ⟨by decide, by decide⟩ ⟨by decide, by decide⟩ d_La_written_5 (hpre := []) (hpost := []) (from0 := 0) (to0 := 10) (tgt := 13) (ct := 13) rfl ⟨by decide, by decide⟩ (by decide) (kt2 24 rfl rfl) (List.mem_of_getElem? (i := 3) rfl) (fun _ h => absurd h List.not_mem_nil) (fun x => ?_)
  refine q_astore C d_La_written_13 (by decide) ?_
  refine q_iconst C d_La_written_15 (v := 1) (by decide) ?_
  exact w_ireturn C Wc E d_La_written_16
set_option maxHeartbeats 4000000 in
theorem w_written_1 (l : Launch) (hfl : l.flags = flags0) (G : kG) (cL : ClassId) (o h0 : Nat) (ok : w_ok G o h0) (K : kM) (f : Nat → Int64) (I0 : g_Inv K) (i w : Int32) (b0 : g_out i 32 = 0) (hv : ¬ g_out w 4 = 0) : w_Met l y_La_written b_La_written 5 [(0, 10, 13, 13)] G cL o h0 [.ref (G.2.2 0 0), .int i, .int w, .ref o] K f 1 (K) (f) := by
  refine w_intro (by decide +kernel) rfl (Nat.le_of_ble_eq_true rfl) ?_
  intro X C Wc E
  refine q_aload_n C d_La_written_0 rfl ?_
  refine q_iconst C d_La_written_1 (v := 0) (by decide) ?_
  refine q_aload_n C d_La_written_2 rfl ?_
  refine q_iload_n C d_La_written_3 rfl ?_
  refine q_iload_n C d_La_written_4 rfl ?_
  refine w_callT C Wc ok (t_written_1 l hfl G h0 _ _ _ I0 b0 hv) cs_La_39 cv_Ke_written ob_0 (by decide) rfl rfl (Nat.le_of_ble_eq_true rfl) ⟨rfl, rfl⟩ ⟨by decide, by decide⟩ ⟨by decide, by decide⟩ d_La_written_5 (hpre := []) (hpost := []) (from0 := 0) (to0 := 10) (tgt := 13) (ct := 13) rfl ⟨by decide, by decide⟩ (by decide) (kt2 24 rfl rfl) (List.mem_of_getElem? (i := 3) rfl) (fun _ h => absurd h List.not_mem_nil) (fun x => ?_)
  refine q_astore C d_La_written_13 (by decide) ?_
  refine q_iconst C d_La_written_15 (v := 1) (by decide) ?_
  exact w_ireturn C Wc E d_La_written_16
theorem w_written (l : Launch) (hfl : l.flags = flags0) (G : kG) (cL : ClassId) (o h0 : Nat) (ok : w_ok G o h0) (K : kM) (f : Nat → Int64) (I0 : g_Inv K) (i w : Int32) : w_Met l y_La_written b_La_written 5 [(0, 10, 13, 13)] G cL o h0 [.ref (G.2.2 0 0), .int i, .int w, .ref o] K f (g_s2 i 32 w 4) K (w_f f (g_s2 i 32 w 4) (g_part K i w)) := by
  by_cases b0 : g_out i 32 = 0
  · by_cases b1 : g_out w 4 = 0
    · simp only [w_f, g_s2, b0, b1, ↓reduceIte, show ¬ (1 : Int32) = 0 by decide, show ¬ (2 : Int32) = 0 by decide]
      exact w_written_r l hfl G cL o h0 ok K f I0 i w b0 b1
    · simp only [w_f, g_s2, b0, b1, ↓reduceIte, show ¬ (1 : Int32) = 0 by decide, show ¬ (2 : Int32) = 0 by decide]
      exact w_written_1 l hfl G cL o h0 ok K f I0 i w b0 b1
  · simp only [w_f, g_s2, b0, ↓reduceIte, show ¬ (1 : Int32) = 0 by decide, show ¬ (2 : Int32) = 0 by decide]
    exact w_written_0 l hfl G cL o h0 ok K f I0 i w b0
set_option maxHeartbeats 4000000 in
theorem w_run_r (l : Launch) (hfl : l.flags = flags0) (G : kG) (cL : ClassId) (o h0 : Nat) (ok : w_ok G o h0) (K : kM) (f : Nat → Int64) (I0 : g_Inv K) (N : Nat) (hN0 : 1 ≤ N) (hN : N ≤ 300) (hz : g_rnS K N = 0) : w_Met l y_La_run b_La_run 4 [(0, 9, 12, 13), (0, 9, 15, 19)] G cL o h0 [.ref (G.2.2 0 0), .int (nI N), .ref o] K f 0 (g_rnT K N) (vp_updL f 0 (g_rnX K N 0).toInt64) := by
  refine w_intro (by decide +kernel) rfl (Nat.le_of_ble_eq_true rfl) ?_
  intro X C Wc E
  refine q_aload_n C d_La_run_0 rfl ?_
  refine q_iconst C d_La_run_1 (v := 0) (by decide) ?_
  refine q_aload_n C d_La_run_2 rfl ?_
  refine q_iload_n C d_La_run_3 rfl ?_
  refine w_callV C Wc ok (c_Ke_run l G _ _ I0 hN0 hN hz) cs_La_15 cv_Ke_run ob_0 (by decide) rfl rfl (Nat.le_of_ble_eq_true rfl) ⟨rfl, rfl⟩ ⟨by decide, by decide⟩ ⟨Nat.zero_le _, Nat.zero_le _⟩ d_La_run_4 ?_
  refine q_i2l C d_La_run_7 ?_
  refine w_last C Wc ok d_La_run_8 ?_
  refine q_goto C d_La_run_9 (tgt := 18) (by decide) ?_
  refine q_iconst C d_La_run_18 (v := 0) (by decide) ?_
  refine q_wide (m1 := 1) (m2 := 6) (by decide) (by decide) ?_
  exact w_ireturn C Wc E d_La_run_19
set_option maxHeartbeats 4000000 in
theorem w_run_s (l : Launch) (hfl : l.flags = flags0) (G : kG) (cL : ClassId) (o h0 : Nat) (ok : w_ok G o h0) (K : kM) (f : Nat → Int64) (I0 : g_Inv K) (N : Nat) (hN0 : 1 ≤ N) (hN : N ≤ 300) (hz : ¬ g_rnS K N = 0) : w_Met l y_La_run b_La_run 4 [(0, 9, 12, 13), (0, 9, 15, 19)] G cL o h0 [.ref (G.2.2 0 0), .int (nI N), .ref o] K f 2 (g_rnT K N) (f) := by
  refine w_intro (by decide +kernel) rfl (Nat.le_of_ble_eq_true rfl) ?_
  intro X C Wc E
  refine q_aload_n C d_La_run_0 rfl ?_
  refine q_iconst C d_La_run_1 (v := 0) (by decide) ?_
  refine q_aload_n C d_La_run_2 rfl ?_
  refine q_iload_n C d_La_run_3 rfl ?_
  refine w_callT C Wc ok (t_run_s l hfl G h0 _ _ I0 hN0 hN hz) cs_La_15 cv_Ke_run ob_0 (by decide) rfl rfl (Nat.le_of_ble_eq_true rfl) ⟨rfl, rfl⟩ ⟨by decide, by decide⟩ ⟨by decide, by decide⟩ d_La_run_4 (hpre := [(0, 9, 12, 13)]) (hpost := []) (from0 := 0) (to0 := 9) (tgt := 15) (ct := 19) rfl ⟨by decide, by decide⟩ (by decide) (kt2 110 rfl rfl) (List.mem_of_getElem? (i := 4) rfl) (List.forall_mem_cons.mpr ⟨⟨by decide, x_IA, (kt2 24 rfl rfl), fun U h => h.2.2.2.2.2.1⟩, fun _ h => absurd h List.not_mem_nil⟩) (fun x => ?_)
  refine q_astore_n C d_La_run_15 (by decide) ?_
  refine q_iconst C d_La_run_16 (v := 2) (by decide) ?_
  exact w_ireturn C Wc E d_La_run_17
set_option maxHeartbeats 4000000 in
theorem w_run_0 (l : Launch) (hfl : l.flags = flags0) (G : kG) (cL : ClassId) (o h0 : Nat) (ok : w_ok G o h0) (K : kM) (f : Nat → Int64) (I0 : g_Inv K) (n : Int32) (hn : ¬ n < 1 → ¬ n ≤ 300) : w_Met l y_La_run b_La_run 4 [(0, 9, 12, 13), (0, 9, 15, 19)] G cL o h0 [.ref (G.2.2 0 0), .int n, .ref o] K f 1 (K) (f) := by
  refine w_intro (by decide +kernel) rfl (Nat.le_of_ble_eq_true rfl) ?_
  intro X C Wc E
  refine q_aload_n C d_La_run_0 rfl ?_
  refine q_iconst C d_La_run_1 (v := 0) (by decide) ?_
  refine q_aload_n C d_La_run_2 rfl ?_
  refine q_iload_n C d_La_run_3 rfl ?_
  refine w_callT C Wc ok (t_run_0 l hfl G h0 _ _ I0 hn) cs_La_15 cv_Ke_run ob_0 (by decide) rfl rfl (Nat.le_of_ble_eq_true rfl) ⟨rfl, rfl⟩ ⟨by decide, by decide⟩ ⟨by decide, by decide⟩ d_La_run_4 (hpre := []) (hpost := [(0, 9, 15, 19)]) (from0 := 0) (to0 := 9) (tgt := 12) (ct := 13) rfl ⟨by decide, by decide⟩ (by decide) (kt2 24 rfl rfl) (List.mem_of_getElem? (i := 3) rfl) (fun _ h => absurd h List.not_mem_nil) (fun x => ?_)
  refine q_astore_n C d_La_run_12 (by decide) ?_
  refine q_iconst C d_La_run_13 (v := 1) (by decide) ?_
  exact w_ireturn C Wc E d_La_run_14
def g_ruS (K : kM) (n : Int32) : Int32 := if n < 1 then 1 else if n ≤ 300 then (if g_rnS K n.toNatClampNeg = 0 then 0 else 2) else 1
def g_ruT (K : kM) (n : Int32) : kM := if n < 1 then K else if n ≤ 300 then g_rnT K n.toNatClampNeg else K
theorem w_run (l : Launch) (hfl : l.flags = flags0) (G : kG) (cL : ClassId) (o h0 : Nat) (ok : w_ok G o h0) (K : kM) (f : Nat → Int64) (I0 : g_Inv K) (n : Int32) : w_Met l y_La_run b_La_run 4 [(0, 9, 12, 13), (0, 9, 15, 19)] G cL o h0 [.ref (G.2.2 0 0), .int n, .ref o] K f (g_ruS K n) (g_ruT K n) (w_f f (g_ruS K n) (g_rnX K n.toNatClampNeg 0)) := by
  have z1 : ¬ (1 : Int32) = 0 := by decide
  have z2 : ¬ (2 : Int32) = 0 := by decide
  by_cases h1 : n < 1
  · simp only [w_f, g_ruS, g_ruT, h1, ↓reduceIte, z1]
    exact w_run_0 l hfl G cL o h0 ok K f I0 n (fun q => absurd h1 q)
  · by_cases h2 : n ≤ 300
    · have h3 := h1
      have h4 := h2
      obtain ⟨N, hN, rfl⟩ := m_300 h1 h2
      have e := nI_clamp (n := N) (by omega)
      have hN0 : 1 ≤ N := Nat.pos_of_ne_zero (fun q => h1 (by rw [q]; decide))
      by_cases hz : g_rnS K N = 0
      · simp only [w_f, g_ruS, g_ruT, h3, h4, e, hz, ↓reduceIte]
        exact w_run_r l hfl G cL o h0 ok K f I0 N hN0 hN hz
      · simp only [w_f, g_ruS, g_ruT, h3, h4, e, hz, ↓reduceIte, z2]
        exact w_run_s l hfl G cL o h0 ok K f I0 N hN0 hN hz
    · simp only [w_f, g_ruS, g_ruT, h1, h2, ↓reduceIte, z1]
      exact w_run_0 l hfl G cL o h0 ok K f I0 n (fun _ => h2)
