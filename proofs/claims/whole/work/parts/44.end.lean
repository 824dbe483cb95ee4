/-! ===== THE LAW (6): from its entry to its end ===== -/
theorem q_pure {X : kX} {n1 n2 pc : Nat} {lv : List (Nat × Value)} {st : List Value} {Φ : Heap → Prop} {Pp : Prop} (h : ∀ H, Φ H → Pp) (k : Pp → q_W X n1 n2 pc lv st Φ) : q_W X n1 n2 pc lv st Φ := by
  obtain ⟨p, l, e, R, s, m, args, below, meth, cd, Q, S', G', A, nL'⟩ := X
  exact fun H locs ls hH hS hl => k (h H hH) H locs ls hH hS hl
theorem l_gI (D : va_G) (cA : Nat → ClassId) {a z : Nat} (haz : a < z) : k_I gS (D, cA, g_ph a z) := k_I_of haz g_tb (fun f c k i hf hi => by
  rcases g_cells (D, cA, g_ph a z) a z f c k i hf hi with ⟨h1, h2, h3, -⟩ | ⟨j, e, h1, h2, -⟩
  · exact Or.inl ⟨h1, h2, h3⟩
  · exact Or.inr ⟨j, h1, h2⟩)
theorem l_mI (D : va_G) (cA : Nat → ClassId) {a z : Nat} (haz : a < z) : k_I mS (D, cA, m_ph a z) := k_I_of haz m_tb (fun f c k i hf hi => by
  rcases m_cells (D, cA, m_ph a z) a z f c k i hf hi with ⟨h1, h2, h3, -⟩ | ⟨j, e, h1, h2, -⟩
  · exact Or.inl ⟨h1, h2, h3⟩
  · exact Or.inr ⟨j, h1, h2⟩)
theorem l_gge (D : va_G) (cA : Nat → ClassId) {a : Nat} {f c i : Nat} {k : kF} (hf : gS.2.2[f]? = some (c, k)) (hi : i < c) : a ≤ g_ph a (a + 1) f i := by
  rcases g_cells (D, cA, g_ph a (a + 1)) a (a + 1) f c k i hf hi with ⟨h1, -⟩ | ⟨j, e, h1, -⟩ <;> omega
theorem l_mge (D : va_G) (cA : Nat → ClassId) {a : Nat} {f c i : Nat} {k : kF} (hf : mS.2.2[f]? = some (c, k)) (hi : i < c) : a ≤ m_ph a (a + 1) f i := by
  rcases m_cells (D, cA, m_ph a (a + 1)) a (a + 1) f c k i hf hi with ⟨h1, -⟩ | ⟨j, e, h1, -⟩ <;> omega
theorem iv_gK1 : g_Inv g_K1 := iv_ready (iv_begin iv_K0) (by decide)
theorem iv_mKi : m_Inv m_Ki := k_Inv.up (k_Inv.up (k_Inv.up (k_Inv.up (k_Inv.up (k_Inv.up (k_Inv.up (k_Inv.up (k_Inv.up (k_Inv.up (k_Inv.up (k_Inv.up iv_mK0 trivial) trivial) trivial) trivial) trivial) trivial) (Or.inl rfl)) (Or.inl rfl)) (Or.inl rfl)) (Or.inl rfl)) (Or.inl rfl)) (Or.inl rfl)
theorem iv_mK1 : m_Inv m_K1 := iv_mbegin iv_mKi (by decide +kernel) (by decide) (vp_in_nI (n := 0) (by decide) (by decide))
def l_S (X : kX) (h0 : Nat) (D1 : va_G) (cA1 : Nat → ClassId) (D2 : va_G) (cA2 : Nat → ClassId) (cL : ClassId) : Prop := match X with
  | (_, _, _, _, s, _, _, _, _, _, _, _, _, A, _) => h0 = s.heap.size ∧ A = (fun q => h0 ≤ q) ∧ (∀ φ : Nat → Nat → Nat, k_T gS (D1, cA1, φ) s) ∧ (∀ φ : Nat → Nat → Nat, k_T mS (D2, cA2, φ) s) ∧ n_Nt s ∧ k_Th h0 s ∧ ArrOfT s cL .long ∧ va_RA s cL .long
theorem l_Lc {X : kX} {h0 : Nat} {D1 D2 : va_G} {cA1 cA2 : Nat → ClassId} {cL : ClassId} (h : l_S X h0 D1 cA1 D2 cA2 cL) (φ1 φ2 : Nat → Nat → Nat) : l_C X (D1, cA1, φ1) (D2, cA2, φ2) cL h0 := by
  obtain ⟨p, l, e, R, s, m, args, below, meth, cd, Q, S', G', A, nL'⟩ := X
  obtain ⟨h1, h2, h3, h4, h5, h6, h7, h8⟩ := h
  refine ⟨h1, h2, h3 φ1, h4 φ2, h6, ⟨fun c q hq => by simp at hq, fun k q hk => ?_⟩⟩
  match k, hk with
  | 0, hk => cases hk; exact ⟨h7, h8⟩
  | n + 1, hk => simp at hk
set_option maxHeartbeats 4000000 in
theorem l_pro {X : kX} {G0 : kG} {l : Launch} {h0 b L : Nat} {xs : Nat → Int32} {D1 D2 : va_G} {cA1 cA2 : Nat → ClassId} {cL : ClassId} (hfl : l.flags = flags0) (C : k_C X kT code R_law eS G0 7 l room_1) (hS : l_S X h0 D1 cA1 D2 cA2 cL) (hX : l_X X b L xs) (hE : l_Ed X h0) (hL : L ≤ 3072) : q_W X 0 0 0 [(0, .ref b)] [] (fun H => True ∧ H.size = h0) := by
  refine l_make C (h0 := h0) (S := gS) (S0 := gS0) (G := (D1, cA1, fun _ _ => 0)) (ph := g_ph) (K1 := g_K1) (Φ := fun _ => True) ?_ d_La_law_0 d_La_law_3 d_La_law_4 rfl in_Ke tk_Ke ⟨(kt1 19 rfl rfl), (kt1 20 rfl rfl), (kt1 1 rfl rfl)⟩ dv_Ke (fun a z h => c_Ke_init l _ a z h) cs_La_42 (kt1 22 rfl rfl) rfl ⟨rfl, rfl⟩ ⟨by decide, by decide⟩ ⟨by decide, by decide⟩ (fun _ _ _ _ _ => trivial) ?_
  · obtain ⟨p, l, e, R, s, m, args, below, meth, cd, Q, S', G', A, nL'⟩ := X
    exact ⟨hS.1, hS.2.1, hS.2.2.1 _, hS.2.2.2.2.1⟩
  refine q_astore_n C d_La_law_7 (by decide) ?_
  refine q_size (fun z1 => ?_)
  refine q_pure (Pp := ∀ (f c : Nat) (k : kF) (i : Nat), gS.2.2[f]? = some (c, k) → i < c → g_ph h0 (h0 + 1) f i < z1) (fun H hH f c k i hf hi => by rw [← hH.2]; exact k_world_lt hH.1.2 hf hi) (fun g1 => ?_)
  refine l_make C (h0 := h0) (S := mS) (S0 := mS0) (G := (D2, cA2, fun _ _ => 0)) (ph := m_ph) (K1 := m_K1) (Φ := fun H => True ∧ k_H gS (D1, cA1, g_ph h0 (h0 + 1)) g_K1 H) ?_ d_La_law_8 d_La_law_11 d_La_law_12 rfl in_Mo tk_Mo ⟨(kt3 94 rfl rfl), (kt3 95 rfl rfl), (kt1 11 rfl rfl)⟩ dv_Mo (fun a z h => c_Mo_init l _ a z h) cs_La_45 (kt3 97 rfl rfl) rfl ⟨rfl, rfl⟩ ⟨by decide, by decide⟩ ⟨by decide, by decide⟩ (fun H H1 h hz hq => ⟨trivial, h.2.kept (fun f c k i hf hi => hq _ (by rw [← hz]; exact k_world_lt h.2 hf hi))⟩) ?_
  · obtain ⟨p, l, e, R, s, m, args, below, meth, cd, Q, S', G', A, nL'⟩ := X
    exact ⟨hS.1, hS.2.1, hS.2.2.2.1 _, hS.2.2.2.2.1⟩
  refine q_astore_n C d_La_law_15 (by decide) ?_
  refine q_iconst C d_La_law_16 (v := 1) (by decide) ?_
  refine q_size (fun z2 => ?_)
  refine q_pure (Pp := ∀ (f c : Nat) (k : kF) (i : Nat), mS.2.2[f]? = some (c, k) → i < c → m_ph z1 (z1 + 1) f i < z2) (fun H hH f c k i hf hi => by rw [← hH.2]; exact k_world_lt hH.1.2 hf hi) (fun g2 => ?_)
  refine l_newl C (h0 := h0) (cL := cL) (Φ := fun H => (True ∧ k_H gS (D1, cA1, g_ph h0 (h0 + 1)) g_K1 H) ∧ k_H mS (D2, cA2, m_ph z1 (z1 + 1)) m_K1 H) ?_ d_La_law_17 (kt4 88 rfl rfl) ⟨by decide, by decide⟩ (fun H H1 h hz hq => ⟨⟨trivial, h.1.2.kept (fun f c k i hf hi => hq _ (by rw [← hz]; exact k_world_lt h.1.2 hf hi))⟩, h.2.kept (fun f c k i hf hi => hq _ (by rw [← hz]; exact k_world_lt h.2 hf hi))⟩) ?_
  · obtain ⟨p, l, e, R, s, m, args, below, meth, cd, Q, S', G', A, nL'⟩ := X
    exact ⟨hS.1, hS.2.1, hS.2.2.2.2.2.2.2⟩
  refine q_astore_n C d_La_law_19 (by decide) ?_
  refine q_iconst C d_La_law_20 (v := 0) (by decide) ?_
  refine q_istore C d_La_law_21 (by decide) ?_
  have m0 : m_ph z1 (z1 + 1) 0 0 = z1 := rfl
  have g0 : g_ph h0 (h0 + 1) 0 0 = h0 := rfl
  have lt0 : h0 < z1 := by rw [← g0]; exact g1 0 1 _ 0 rfl (by decide)
  have lt1 : z1 < z2 := by rw [← m0]; exact g2 0 1 _ 0 rfl (by decide)
  have ok : l_ok (D1, cA1, g_ph h0 (h0 + 1)) (D2, cA2, m_ph z1 (z1 + 1)) z2 h0 := by
    refine ⟨⟨l_gI D1 cA1 (by omega), fun f c k i hf hi => l_gge D1 cA1 hf hi, by omega, fun f c k i hf hi => ?_⟩, l_mI D2 cA2 (by omega), fun f c k i hf hi => ?_, fun f c k i f' c' k' i' hf hi hf' hi' => ?_⟩
    · have := g1 f c k i hf hi
      show g_ph h0 (h0 + 1) f i ≠ z2
      omega
    · have h1 := l_mge D2 cA2 (a := z1) hf hi
      have h2 := g2 f c k i hf hi
      show h0 ≤ m_ph z1 (z1 + 1) f i ∧ m_ph z1 (z1 + 1) f i ≠ z2
      omega
    · have h1 := l_mge D2 cA2 (a := z1) hf' hi'
      have h2 := g1 f c k i hf hi
      show g_ph h0 (h0 + 1) f i ≠ m_ph z1 (z1 + 1) f' i'
      omega
  refine q_mono (Ψ := l_F (D1, cA1, g_ph h0 (h0 + 1)) (D2, cA2, m_ph z1 (z1 + 1)) cL z2 g_K1 m_K1 (fun _ => 0)) (fun H hH => ⟨hH.1.1.2, hH.1.2, hH.2⟩) ?_
  refine q_loc [(4, .int (nI 0)), (3, .ref z2), (2, .ref z1), (1, .ref h0), (0, .ref b)] ⟨rfl, rfl, rfl, rfl, rfl, trivial⟩ ?_
  exact l_loop hfl C (l_Lc hS _ _) ok hX hE hL 512 (s_K1R iv_gK1 iv_mK1) (by omega) (by omega) ⟨by omega, by omega⟩
theorem whole_start {p : Program} {e : Env} {s : State} {m : MethodId} {below : List Frame} {meth : Method} {c : Code} (l : Launch) (hfl : l.flags = flags0) {b L : Nat} {xs : Nat → Int32} (hL : L ≤ 3072) (C0 : lw_At p s m meth c b L xs) : W p l e room_1 s m #[Value.ref b] below meth c s.heap [] 0 0 (lw_Z below #[Value.ref b] s) (entryFrame m ([Value.ref b] : List Value).toArray 7) := by
  obtain ⟨hx, hb, hr, hml, hown, hts, hX, hbl, hlk, hg⟩ := C0
  have htk : ∀ w ∈ kT, w.before #[Value.ref b] s = true := fun w h => hts w (kT_of h)
  have hN := l_Nt hts
  have hTh := l_Th hts hg
  obtain ⟨D1, cA1, hK1⟩ := l_knG htk hN
  obtain ⟨D2, cA2, hK2⟩ := l_knM htk
  obtain ⟨cL, hcL⟩ := l_arrJ (htk _ (kt4 88 rfl rfl))
  have hl := lv_entry [Value.ref b] (n := 7) (Nat.le_of_ble_eq_true rfl)
  rw [lg_entry_eq]
  have hq := l_pro (X := (p, l, e, room_1, s, m, #[Value.ref b], below, meth, c, lw_Z below #[Value.ref b] s, eS, ((fun _ => 0, fun _ _ => 0), fun _ => 0, fun _ _ => 0), (fun q => s.heap.size ≤ q), 7)) (b := b) (L := L) (xs := xs) (h0 := s.heap.size) (D1 := D1) (D2 := D2) (cA1 := cA1) (cA2 := cA2) (cL := cL) hfl
    ⟨rfl, rfl, rfl, rfl, rfl, hx, hb, hml, hown, htk, ⟨fun c q h => by simp [eS] at h, fun k q h => by simp [k_ty, eS] at h⟩, fun f c k i f' c' k' i' h => by simp [eS] at h, fun q h => h, fun f c k i h => by simp [eS] at h⟩
    ⟨rfl, rfl, hK1, hK2, hN, hTh, hcL.1, hcL.2⟩ ⟨hX, hbl, fun h => by omega⟩ ⟨⟨b, rfl, rfl⟩, hr, hlk, rfl, rfl⟩ hL
  exact hq s.heap [] _ ⟨trivial, rfl⟩ va_S.rf (k_has.of hl (fun q hq => by
    have : q = (0, Value.ref b) := by simpa [lv_args] using hq
    rw [this]
    rfl))
