/-! ===== THE TWO SIDE BY SIDE (15): an instruction ===== -/
theorem s_addr {x : Nat} {K M : kM} (E : s_E x K M) (J : m_Inv M) {g : Nat} {ad : Int32} (hg : g < 6) : (g_addr K g ad = 0 ∧ 0 ≤ m_wh M g ad ∧ K 9 g (ad / 8).toNatClampNeg * 8 + k_rem ad 8 = m_wh M g ad ∧ vp_in (m_wh M g ad) 96) ∨ (¬ g_addr K g ad = 0 ∧ ¬ 0 ≤ m_wh M g ad ∧ g_addr K g ad = - m_wh M g ad) := by
  unfold g_addr
  rw [s_on32]
  by_cases z : m_no ad 31 = 0
  · have hv : vp_in ad 32 := r_no (n := 31) (by decide) z
    have hd := k_lt (r_div8 hv)
    have ep := E.pg g hg _ hd
    have ps := s_pos (s_v (by decide) (J 16 0 (g * 4 + (ad / 8).toNatClampNeg)))
    rw [if_pos z, ep]
    by_cases y : M 16 0 (g * 4 + (ad / 8).toNatClampNeg) = -1
    · have e : m_wh M g ad = -3 := by
        unfold m_wh
        rw [if_pos z, if_neg (fun q => ps.mp q y)]
      rw [if_pos y, e]
      exact Or.inr ⟨by decide, by decide, by decide⟩
    · have e : m_wh M g ad = M 16 0 (g * 4 + (ad / 8).toNatClampNeg) * 8 + k_rem ad 8 := by
        unfold m_wh
        rw [if_pos z, if_pos (ps.mpr y)]
      have h0 : 0 ≤ m_wh M g ad := by
        have hv2 : vp_in (m_wh M g ad) 96 := by
          rw [e]
          exact r_mem (m_neg12 (J 16 0 _) (ps.mpr y)) (r_rem8 hv)
        have := vp_in_iff.mp hv2
        rw [Int32.le_iff_toInt_le]
        have e0 : (0 : Int32).toInt = 0 := by decide
        omega
      rw [if_neg y]
      exact Or.inl ⟨rfl, h0, e.symm, m_whv J h0⟩
  · have e : m_wh M g ad = -2 := by
      unfold m_wh
      rw [if_neg z]
    rw [if_neg z, e]
    exact Or.inr ⟨by decide, by decide, by decide⟩
theorem s_jp {M : kM} {g a b : Nat} {op : Int32} (h9 : op ≠ 9) (h10 : op ≠ 10) : m_jp M g op a b = 0 := by
  unfold m_jp
  rw [if_neg h9, if_neg h10]
def s_P (p g : Nat) (K M K' M' : kM) (X X' j n : Int32) : Prop := s_R p g 6 K' M' ∧ X = X' ∧ (X' ≠ 0 → M' = M) ∧ K' 7 g 4 = (if j = 0 then K 7 g 4 else g_fm n 32) ∧ (j ≠ 0 → M' = M ∧ X' = 0)
theorem s_P0 {p g : Nat} {K M K' M' : kM} {X X' j n : Int32} (R : s_R p g 6 K' M') (hX : X = X') (hM : X' ≠ 0 → M' = M) (h4 : K' 7 g 4 = K 7 g 4) (hj : j = 0) : s_P p g K M K' M' X X' j n :=
  ⟨R, hX, hM, by rw [if_pos hj]; exact h4, fun z => absurd hj z⟩
theorem s_n4 {n : Int32} : g_n4 n = if m_no n 3 = 0 then 0 else 4 := by
  unfold g_n4
  rw [s_on4]
theorem s_p1 {p g : Nat} {K M : kM} (R : s_R p g 6 K M) {pl n : Int32} {a b : Nat} (hg : g < 6) (hp : p < 2) (hh : M 24 0 p = nI g) (h1 : M 5 0 g = 1) (ha : a < 4) (hb : b < 4) (e1 : g_part K pl 1 = nI a) (e2 : g_part K pl 2 = nI b) (e3 : g_part K pl 3 = n) : s_P p g K M (g_perT K g 1 pl) (m_pfT M g 1 a b n) (g_perX K g 1 pl) (m_pfX M g 1 b n) (m_jp M g 1 a b) n := by
  have ea := R.E.re g hg a ha
  have eb := R.E.re g hg b hb
  have n2 : M 5 0 g ≠ 2 := by rw [h1]; decide
  rw [gpT_1, gpX_1, mpT_1, mpX_1, gcT_1, gcX_1, e1, e3, s_nC (n := a) (by omega)]
  exact s_P0 (R.reg hg ha n2) rfl (fun z => absurd rfl z) (ku_f (by decide)) (s_jp (by decide) (by decide))
theorem s_p2 {p g : Nat} {K M : kM} (R : s_R p g 6 K M) {pl n : Int32} {a b : Nat} (hg : g < 6) (hp : p < 2) (hh : M 24 0 p = nI g) (h1 : M 5 0 g = 1) (ha : a < 4) (hb : b < 4) (e1 : g_part K pl 1 = nI a) (e2 : g_part K pl 2 = nI b) (e3 : g_part K pl 3 = n) : s_P p g K M (g_perT K g 2 pl) (m_pfT M g 2 a b n) (g_perX K g 2 pl) (m_pfX M g 2 b n) (m_jp M g 2 a b) n := by
  have ea := R.E.re g hg a ha
  have eb := R.E.re g hg b hb
  have n2 : M 5 0 g ≠ 2 := by rw [h1]; decide
  rw [gpT_2, gpX_2, mpT_2, mpX_2, gcT_2, gcX_2, e1, e2, e3, s_nC (n := a) (by omega), s_nC (n := b) (by omega), eb]
  exact s_P0 (R.reg hg ha n2) rfl (fun z => absurd rfl z) (ku_f (by decide)) (s_jp (by decide) (by decide))
theorem s_p3 {p g : Nat} {K M : kM} (R : s_R p g 6 K M) {pl n : Int32} {a b : Nat} (hg : g < 6) (hp : p < 2) (hh : M 24 0 p = nI g) (h1 : M 5 0 g = 1) (ha : a < 4) (hb : b < 4) (e1 : g_part K pl 1 = nI a) (e2 : g_part K pl 2 = nI b) (e3 : g_part K pl 3 = n) : s_P p g K M (g_perT K g 3 pl) (m_pfT M g 3 a b n) (g_perX K g 3 pl) (m_pfX M g 3 b n) (m_jp M g 3 a b) n := by
  have ea := R.E.re g hg a ha
  have eb := R.E.re g hg b hb
  have n2 : M 5 0 g ≠ 2 := by rw [h1]; decide
  rw [gpT_3, gpX_3, mpT_3, mpX_3, gcT_3, gcX_3, e1, e2, s_nC (n := a) (by omega), s_nC (n := b) (by omega), ea, eb]
  exact s_P0 (R.reg hg ha n2) rfl (fun z => absurd rfl z) (ku_f (by decide)) (s_jp (by decide) (by decide))
theorem s_p4 {p g : Nat} {K M : kM} (R : s_R p g 6 K M) {pl n : Int32} {a b : Nat} (hg : g < 6) (hp : p < 2) (hh : M 24 0 p = nI g) (h1 : M 5 0 g = 1) (ha : a < 4) (hb : b < 4) (e1 : g_part K pl 1 = nI a) (e2 : g_part K pl 2 = nI b) (e3 : g_part K pl 3 = n) : s_P p g K M (g_perT K g 4 pl) (m_pfT M g 4 a b n) (g_perX K g 4 pl) (m_pfX M g 4 b n) (m_jp M g 4 a b) n := by
  have ea := R.E.re g hg a ha
  have eb := R.E.re g hg b hb
  have n2 : M 5 0 g ≠ 2 := by rw [h1]; decide
  rw [gpT_4, gpX_4, mpT_4, mpX_4, gcT_4, gcX_4, e1, e2, s_nC (n := a) (by omega), s_nC (n := b) (by omega), ea, eb]
  exact s_P0 (R.reg hg ha n2) rfl (fun z => absurd rfl z) (ku_f (by decide)) (s_jp (by decide) (by decide))
theorem s_p5 {p g : Nat} {K M : kM} (R : s_R p g 6 K M) {pl n : Int32} {a b : Nat} (hg : g < 6) (hp : p < 2) (hh : M 24 0 p = nI g) (h1 : M 5 0 g = 1) (ha : a < 4) (hb : b < 4) (e1 : g_part K pl 1 = nI a) (e2 : g_part K pl 2 = nI b) (e3 : g_part K pl 3 = n) : s_P p g K M (g_perT K g 5 pl) (m_pfT M g 5 a b n) (g_perX K g 5 pl) (m_pfX M g 5 b n) (m_jp M g 5 a b) n := by
  have ea := R.E.re g hg a ha
  have eb := R.E.re g hg b hb
  have n2 : M 5 0 g ≠ 2 := by rw [h1]; decide
  rw [gpT_5, gpX_5, mpT_5, mpX_5, gcT_5, gcX_5, e1, e2, s_nC (n := a) (by omega), s_nC (n := b) (by omega), ea, eb]
  exact s_P0 (R.reg hg ha n2) rfl (fun z => absurd rfl z) (ku_f (by decide)) (s_jp (by decide) (by decide))
theorem s_p6 {p g : Nat} {K M : kM} (R : s_R p g 6 K M) {pl n : Int32} {a b : Nat} (hg : g < 6) (hp : p < 2) (hh : M 24 0 p = nI g) (h1 : M 5 0 g = 1) (ha : a < 4) (hb : b < 4) (e1 : g_part K pl 1 = nI a) (e2 : g_part K pl 2 = nI b) (e3 : g_part K pl 3 = n) : s_P p g K M (g_perT K g 6 pl) (m_pfT M g 6 a b n) (g_perX K g 6 pl) (m_pfX M g 6 b n) (m_jp M g 6 a b) n := by
  have ea := R.E.re g hg a ha
  have eb := R.E.re g hg b hb
  have n2 : M 5 0 g ≠ 2 := by rw [h1]; decide
  rw [gpT_6, gpX_6, mpT_6, mpX_6, gcT_6, gcX_6, e1, e2, s_nC (n := a) (by omega), s_nC (n := b) (by omega), ea, eb]
  by_cases z : M 15 0 (g * 4 + b) = 0
  · rw [if_pos z, if_pos z, if_pos z]
    exact s_P0 R rfl (fun _ => rfl) rfl (s_jp (by decide) (by decide))
  · rw [if_neg z, if_neg z, if_neg z]
    exact s_P0 (R.reg hg ha n2) rfl (fun z => absurd rfl z) (ku_f (by decide)) (s_jp (by decide) (by decide))
theorem s_p7 {p g : Nat} {K M : kM} (R : s_R p g 6 K M) {pl n : Int32} {a b : Nat} (hg : g < 6) (hp : p < 2) (hh : M 24 0 p = nI g) (h1 : M 5 0 g = 1) (ha : a < 4) (hb : b < 4) (e1 : g_part K pl 1 = nI a) (e2 : g_part K pl 2 = nI b) (e3 : g_part K pl 3 = n) : s_P p g K M (g_perT K g 7 pl) (m_pfT M g 7 a b n) (g_perX K g 7 pl) (m_pfX M g 7 b n) (m_jp M g 7 a b) n := by
  have ea := R.E.re g hg a ha
  have eb := R.E.re g hg b hb
  have n2 : M 5 0 g ≠ 2 := by rw [h1]; decide
  rw [gpT_7, gpX_7, mpT_7, mpX_7, e1, e2, e3, s_nC (n := b) (by omega), eb]
  unfold g_ldT g_read
  rcases s_addr R.E R.J (g := g) (ad := M 15 0 (g * 4 + b) + n) hg with ⟨q1, q2, q3, q4⟩ | ⟨q1, q2, q3⟩
  · rw [if_pos q1, if_pos q2, q3, s_nC (n := a) (by omega), R.E.me _ (k_lt q4)]
    exact s_P0 (R.reg hg ha n2) (by rw [q1, if_pos q2]) (fun z => absurd (if_pos q2) z) (ku_f (by decide)) (s_jp (by decide) (by decide))
  · rw [if_neg q1, if_neg q2]
    exact s_P0 R (by rw [q3, if_neg q2]) (fun _ => rfl) rfl (s_jp (by decide) (by decide))
theorem s_p8 {p g : Nat} {K M : kM} (R : s_R p g 6 K M) {pl n : Int32} {a b : Nat} (hg : g < 6) (hp : p < 2) (hh : M 24 0 p = nI g) (h1 : M 5 0 g = 1) (ha : a < 4) (hb : b < 4) (e1 : g_part K pl 1 = nI a) (e2 : g_part K pl 2 = nI b) (e3 : g_part K pl 3 = n) : s_P p g K M (g_perT K g 8 pl) (m_pfT M g 8 a b n) (g_perX K g 8 pl) (m_pfX M g 8 b n) (m_jp M g 8 a b) n := by
  have ea := R.E.re g hg a ha
  have eb := R.E.re g hg b hb
  have n2 : M 5 0 g ≠ 2 := by rw [h1]; decide
  rw [gpT_8, gpX_8, mpT_8, mpX_8, e1, e2, e3, s_nC (n := b) (by omega), eb]
  unfold g_stT g_store
  rcases s_addr R.E R.J (g := g) (ad := M 15 0 (g * 4 + b) + n) hg with ⟨q1, q2, q3, q4⟩ | ⟨q1, q2, q3⟩
  · rw [if_pos q1, if_pos q2, q3, s_nC (n := a) (by omega), ea]
    exact s_P0 R.mem (by rw [q1, if_pos q2]) (fun z => absurd (if_pos q2) z) (ku_f (by decide)) (s_jp (by decide) (by decide))
  · rw [if_neg q1, if_neg q2]
    exact s_P0 R (by rw [q3, if_neg q2]) (fun _ => rfl) rfl (s_jp (by decide) (by decide))
theorem s_p9 {p g : Nat} {K M : kM} (R : s_R p g 6 K M) {pl n : Int32} {a b : Nat} (hg : g < 6) (hp : p < 2) (hh : M 24 0 p = nI g) (h1 : M 5 0 g = 1) (ha : a < 4) (hb : b < 4) (e1 : g_part K pl 1 = nI a) (e2 : g_part K pl 2 = nI b) (e3 : g_part K pl 3 = n) : s_P p g K M (g_perT K g 9 pl) (m_pfT M g 9 a b n) (g_perX K g 9 pl) (m_pfX M g 9 b n) (m_jp M g 9 a b) n := by
  have ea := R.E.re g hg a ha
  have eb := R.E.re g hg b hb
  have n2 : M 5 0 g ≠ 2 := by rw [h1]; decide
  rw [gpT_9, gpX_9, mpT_9, mpX_9, gcT_9, gcX_9, e1, e2, e3, s_nC (n := a) (by omega), s_nC (n := b) (by omega), ea, eb]
  unfold m_jp
  rw [if_pos rfl]
  by_cases z : M 15 0 (g * 4 + a) < M 15 0 (g * 4 + b)
  · rw [if_pos z, if_neg (Int32.not_le.mpr z)]
    refine ⟨R.pl (r_fm n), rfl, fun z => absurd rfl z, ?_, fun _ => ⟨rfl, rfl⟩⟩
    rw [if_neg (by decide)]
    exact ku_eq
  · rw [if_neg z, if_pos (Int32.not_lt.mp z)]
    exact ⟨R, rfl, fun z => absurd rfl z, by rw [if_pos rfl], fun z => absurd rfl z⟩
theorem s_p10 {p g : Nat} {K M : kM} (R : s_R p g 6 K M) {pl n : Int32} {a b : Nat} (hg : g < 6) (hp : p < 2) (hh : M 24 0 p = nI g) (h1 : M 5 0 g = 1) (ha : a < 4) (hb : b < 4) (e1 : g_part K pl 1 = nI a) (e2 : g_part K pl 2 = nI b) (e3 : g_part K pl 3 = n) : s_P p g K M (g_perT K g 10 pl) (m_pfT M g 10 a b n) (g_perX K g 10 pl) (m_pfX M g 10 b n) (m_jp M g 10 a b) n := by
  have ea := R.E.re g hg a ha
  have eb := R.E.re g hg b hb
  have n2 : M 5 0 g ≠ 2 := by rw [h1]; decide
  rw [gpT_10, gpX_10, mpT_10, mpX_10, gcT_10, gcX_10, e1, e3, s_nC (n := a) (by omega), ea]
  have ej : m_jp M g 10 a b = if M 15 0 (g * 4 + a) = 0 then 1 else 0 := by
    unfold m_jp
    rw [if_neg (show ¬ (10 : Int32) = 9 by decide), if_pos rfl]
  rw [ej]
  by_cases z : M 15 0 (g * 4 + a) = 0
  · rw [if_pos z, if_pos z]
    refine ⟨R.pl (r_fm n), rfl, fun z => absurd rfl z, ?_, fun _ => ⟨rfl, rfl⟩⟩
    rw [if_neg (by decide)]
    exact ku_eq
  · rw [if_neg z, if_neg z]
    exact ⟨R, rfl, fun z => absurd rfl z, by rw [if_pos rfl], fun z => absurd rfl z⟩
theorem s_p11 {p g : Nat} {K M : kM} (R : s_R p g 6 K M) {pl n : Int32} {a b : Nat} (hg : g < 6) (hp : p < 2) (hh : M 24 0 p = nI g) (h1 : M 5 0 g = 1) (ha : a < 4) (hb : b < 4) (e1 : g_part K pl 1 = nI a) (e2 : g_part K pl 2 = nI b) (e3 : g_part K pl 3 = n) : s_P p g K M (g_perT K g 11 pl) (m_pfT M g 11 a b n) (g_perX K g 11 pl) (m_pfX M g 11 b n) (m_jp M g 11 a b) n := by
  have ea := R.E.re g hg a ha
  have eb := R.E.re g hg b hb
  have n2 : M 5 0 g ≠ 2 := by rw [h1]; decide
  rw [gpT_11, gpX_11, mpT_11, mpX_11, gcT_11, gcX_11, e3]
  by_cases z : 0 ≤ n
  · rw [if_pos z, if_pos z, s_rem32 z]
    exact s_P0 (R.hdl hg (Or.inr (m_31 n))) rfl (fun z => absurd rfl z) (ku_j (by decide)) (s_jp (by decide) (by decide))
  · rw [if_neg z, if_neg z]
    exact s_P0 (R.hdl hg (Or.inl rfl)) rfl (fun z => absurd rfl z) (ku_j (by decide)) (s_jp (by decide) (by decide))
theorem s_p12 {p g : Nat} {K M : kM} (R : s_R p g 6 K M) {pl n : Int32} {a b : Nat} (hg : g < 6) (hp : p < 2) (hh : M 24 0 p = nI g) (h1 : M 5 0 g = 1) (ha : a < 4) (hb : b < 4) (e1 : g_part K pl 1 = nI a) (e2 : g_part K pl 2 = nI b) (e3 : g_part K pl 3 = n) : s_P p g K M (g_perT K g 12 pl) (m_pfT M g 12 a b n) (g_perX K g 12 pl) (m_pfX M g 12 b n) (m_jp M g 12 a b) n := by
  have ea := R.E.re g hg a ha
  have eb := R.E.re g hg b hb
  have n2 : M 5 0 g ≠ 2 := by rw [h1]; decide
  rw [gpT_12, gpX_12, mpT_12, mpX_12, gcT_12, gcX_12]
  exact s_P0 R rfl (fun z => absurd rfl z) rfl (s_jp (by decide) (by decide))
theorem s_p13 {p g : Nat} {K M : kM} (R : s_R p g 6 K M) {pl n : Int32} {a b : Nat} (hg : g < 6) (hp : p < 2) (hh : M 24 0 p = nI g) (h1 : M 5 0 g = 1) (ha : a < 4) (hb : b < 4) (e1 : g_part K pl 1 = nI a) (e2 : g_part K pl 2 = nI b) (e3 : g_part K pl 3 = n) : s_P p g K M (g_perT K g 13 pl) (m_pfT M g 13 a b n) (g_perX K g 13 pl) (m_pfX M g 13 b n) (m_jp M g 13 a b) n := by
  have ea := R.E.re g hg a ha
  have eb := R.E.re g hg b hb
  have n2 : M 5 0 g ≠ 2 := by rw [h1]; decide
  rw [gpT_13, gpX_13, mpT_13, mpX_13, e1, e3, s_n4]
  by_cases z : m_no n 3 = 0
  · rw [if_pos z, if_pos z]
    obtain ⟨q, hq, rfl⟩ := r_nat (r_no (n := 3) (by decide) z) (by decide)
    rw [s_nC (n := q) (by omega)]
    exact s_P0 (R.map hg ha hq h1) rfl (fun z => absurd rfl z) s_4map (s_jp (by decide) (by decide))
  · rw [if_neg z, if_neg z]
    refine s_P0 ?_ rfl (fun _ => rfl) s_4map (s_jp (by decide) (by decide))
    unfold g_mapT
    rw [s_on4, if_neg z]
    exact R
theorem s_p14 {p g : Nat} {K M : kM} (R : s_R p g 6 K M) {pl n : Int32} {a b : Nat} (hg : g < 6) (hp : p < 2) (hh : M 24 0 p = nI g) (h1 : M 5 0 g = 1) (ha : a < 4) (hb : b < 4) (e1 : g_part K pl 1 = nI a) (e2 : g_part K pl 2 = nI b) (e3 : g_part K pl 3 = n) : s_P p g K M (g_perT K g 14 pl) (m_pfT M g 14 a b n) (g_perX K g 14 pl) (m_pfX M g 14 b n) (m_jp M g 14 a b) n := by
  have ea := R.E.re g hg a ha
  have eb := R.E.re g hg b hb
  have n2 : M 5 0 g ≠ 2 := by rw [h1]; decide
  rw [gpT_14, gpX_14, mpT_14, mpX_14, e1, e3, s_n4]
  unfold g_unT
  rw [s_on4]
  by_cases z : m_no n 3 = 0
  · rw [if_pos z, if_pos z, if_pos z]
    obtain ⟨q, hq, rfl⟩ := r_nat (r_no (n := 3) (by decide) z) (by decide)
    rw [s_nC (n := q) (by omega), s_nC (n := a) (by omega)]
    have ps := s_pos (s_v (by decide) (R.J 16 0 (g * 4 + q)))
    have ex : (if g_dropX K g (nI q) = 0 then (0 : Int32) else 1) = if 0 ≤ M 16 0 (g * 4 + q) then 1 else 0 := by
      unfold g_dropX
      rw [s_nC (n := q) (by omega), R.E.pg g hg q hq]
      by_cases y : M 16 0 (g * 4 + q) = -1
      · rw [if_pos y, if_pos rfl, if_neg (fun w => ps.mp w y)]
      · rw [if_neg y, if_neg (by decide), if_pos (ps.mpr y)]
    rw [ex]
    refine s_P0 ((R.unm hg hq (by rw [h1]; decide)).reg hg ha ?_) rfl (fun z => absurd rfl z) ?_ (s_jp (by decide) (by decide))
    · rw [s_umf (by decide) (by decide) (by decide)]
      exact n2
    · rw [ku_f (by decide), s_4dr]
  · rw [if_neg z, if_neg z, if_neg z]
    exact s_P0 R rfl (fun _ => rfl) rfl (s_jp (by decide) (by decide))
theorem s_p15 {p g : Nat} {K M : kM} (R : s_R p g 6 K M) {pl n : Int32} {a b : Nat} (hg : g < 6) (hp : p < 2) (hh : M 24 0 p = nI g) (h1 : M 5 0 g = 1) (ha : a < 4) (hb : b < 4) (e1 : g_part K pl 1 = nI a) (e2 : g_part K pl 2 = nI b) (e3 : g_part K pl 3 = n) : s_P p g K M (g_perT K g 15 pl) (m_pfT M g 15 a b n) (g_perX K g 15 pl) (m_pfX M g 15 b n) (m_jp M g 15 a b) n := by
  have ea := R.E.re g hg a ha
  have eb := R.E.re g hg b hb
  have n2 : M 5 0 g ≠ 2 := by rw [h1]; decide
  rw [gpT_15, gpX_15, mpT_15, mpX_15, e1, e2, e3, s_nC (n := a) (by omega), s_nC (n := b) (by omega), ea, eb]
  refine s_P0 (R.spawn hg ha h1) rfl (fun z => absurd rfl z) ?_ (s_jp (by decide) (by decide))
  rw [ku_f (by decide)]
  unfold g_spT
  split
  · rfl
  · split
    · exact s_4sp (by rw [R.E.st g hg]; exact h1) 6 0
    · rfl
theorem s_p16 {p g : Nat} {K M : kM} (R : s_R p g 6 K M) {pl n : Int32} {a b : Nat} (hg : g < 6) (hp : p < 2) (hh : M 24 0 p = nI g) (h1 : M 5 0 g = 1) (ha : a < 4) (hb : b < 4) (e1 : g_part K pl 1 = nI a) (e2 : g_part K pl 2 = nI b) (e3 : g_part K pl 3 = n) : s_P p g K M (g_perT K g 16 pl) (m_pfT M g 16 a b n) (g_perX K g 16 pl) (m_pfX M g 16 b n) (m_jp M g 16 a b) n := by
  have ea := R.E.re g hg a ha
  have eb := R.E.re g hg b hb
  have n2 : M 5 0 g ≠ 2 := by rw [h1]; decide
  rw [gpT_16, gpX_16, mpT_16, mpX_16, e1, e3, s_n4]
  by_cases z : m_no n 3 = 0
  · rw [if_pos z, if_pos z, if_pos z]
    obtain ⟨q, hq, rfl⟩ := r_nat (r_no (n := 3) (by decide) z) (by decide)
    rw [s_nC (n := q) (by omega)]
    have eT : m_shT M g 16 a q = m_snd M g q (M 15 0 (g * 4 + a)) := by
      unfold m_shT
      rw [if_pos rfl]
    have eX : m_shX M g 16 q = 0 := by
      unfold m_shX
      rw [if_pos rfl]
    rw [eT, eX]
    exact s_P0 (R.send hg hp hh h1 ha hq _ rfl) rfl (fun z => absurd rfl z) s_4sn (s_jp (by decide) (by decide))
  · rw [if_neg z, if_neg z, if_neg z]
    refine s_P0 ?_ rfl (fun _ => rfl) s_4sn (s_jp (by decide) (by decide))
    unfold g_sendT
    rw [s_on4, if_neg z]
    exact R
theorem s_p17 {p g : Nat} {K M : kM} (R : s_R p g 6 K M) {pl n : Int32} {a b : Nat} (hg : g < 6) (hp : p < 2) (hh : M 24 0 p = nI g) (h1 : M 5 0 g = 1) (ha : a < 4) (hb : b < 4) (e1 : g_part K pl 1 = nI a) (e2 : g_part K pl 2 = nI b) (e3 : g_part K pl 3 = n) : s_P p g K M (g_perT K g 17 pl) (m_pfT M g 17 a b n) (g_perX K g 17 pl) (m_pfX M g 17 b n) (m_jp M g 17 a b) n := by
  have ea := R.E.re g hg a ha
  have eb := R.E.re g hg b hb
  have n2 : M 5 0 g ≠ 2 := by rw [h1]; decide
  rw [gpT_17, gpX_17, mpT_17, mpX_17, e1, e3, s_n4]
  by_cases z : m_no n 3 = 0
  · rw [if_pos z, if_pos z, if_pos z]
    obtain ⟨q, hq, rfl⟩ := r_nat (r_no (n := 3) (by decide) z) (by decide)
    rw [s_nC (n := q) (by omega)]
    have eT : m_shT M g 17 a q = m_rcv M g q a := by
      unfold m_shT
      rw [if_neg (by decide), if_pos rfl]
    have eX : m_shX M g 17 q = 0 := by
      unfold m_shX
      rw [if_neg (by decide), if_pos rfl]
    rw [eT, eX]
    exact s_P0 (R.recv hg hp hh h1 ha hq _ rfl) rfl (fun z => absurd rfl z) s_4rc (s_jp (by decide) (by decide))
  · rw [if_neg z, if_neg z, if_neg z]
    refine s_P0 ?_ rfl (fun _ => rfl) s_4rc (s_jp (by decide) (by decide))
    unfold g_recvT
    rw [s_on4, if_neg z]
    exact R
theorem s_p18 {p g : Nat} {K M : kM} (R : s_R p g 6 K M) {pl n : Int32} {a b : Nat} (hg : g < 6) (hp : p < 2) (hh : M 24 0 p = nI g) (h1 : M 5 0 g = 1) (ha : a < 4) (hb : b < 4) (e1 : g_part K pl 1 = nI a) (e2 : g_part K pl 2 = nI b) (e3 : g_part K pl 3 = n) : s_P p g K M (g_perT K g 18 pl) (m_pfT M g 18 a b n) (g_perX K g 18 pl) (m_pfX M g 18 b n) (m_jp M g 18 a b) n := by
  have ea := R.E.re g hg a ha
  have eb := R.E.re g hg b hb
  have n2 : M 5 0 g ≠ 2 := by rw [h1]; decide
  rw [gpT_18, gpX_18, mpT_18, mpX_18, e1, e3, s_n4]
  unfold g_lockT
  rw [s_on4]
  by_cases z : m_no n 3 = 0
  · rw [if_pos z, if_pos z, if_pos z, if_pos z]
    obtain ⟨q, hq, rfl⟩ := r_nat (r_no (n := 3) (by decide) z) (by decide)
    rw [s_nC (n := q) (by omega)]
    have eT : m_shT M g 18 a q = if 0 ≤ M 23 0 q then m_blk M g (10 + q) else k_up M 23 0 q (nI g) := by
      unfold m_shT
      rw [if_neg (by decide), if_neg (by decide), if_neg (by decide)]
    have eX : m_shX M g 18 q = 0 := by
      unfold m_shX
      rw [if_neg (by decide), if_neg (by decide), if_neg (by decide)]
    rw [eT, eX]
    refine s_P0 (R.lock hg hp hh h1 ha hq) rfl (fun z => absurd rfl z) ?_ (s_jp (by decide) (by decide))
    split
    · exact ku_f (by decide)
    · exact s_4bl
  · rw [if_neg z, if_neg z, if_neg z, if_neg z]
    exact s_P0 R rfl (fun _ => rfl) rfl (s_jp (by decide) (by decide))
theorem s_p19 {p g : Nat} {K M : kM} (R : s_R p g 6 K M) {pl n : Int32} {a b : Nat} (hg : g < 6) (hp : p < 2) (hh : M 24 0 p = nI g) (h1 : M 5 0 g = 1) (ha : a < 4) (hb : b < 4) (e1 : g_part K pl 1 = nI a) (e2 : g_part K pl 2 = nI b) (e3 : g_part K pl 3 = n) : s_P p g K M (g_perT K g 19 pl) (m_pfT M g 19 a b n) (g_perX K g 19 pl) (m_pfX M g 19 b n) (m_jp M g 19 a b) n := by
  have ea := R.E.re g hg a ha
  have eb := R.E.re g hg b hb
  have n2 : M 5 0 g ≠ 2 := by rw [h1]; decide
  rw [gpT_19, gpX_19, mpT_19, mpX_19, e3]
  unfold g_unlT g_unlX
  rw [s_on4]
  by_cases z : m_no n 3 = 0
  · rw [if_pos z, if_pos z, if_pos z, if_pos z]
    obtain ⟨q, hq, rfl⟩ := r_nat (r_no (n := 3) (by decide) z) (by decide)
    rw [s_nC (n := q) (by omega), R.E.lo q hq, show K 7 g 0 = nI g from R.I 7 g 0]
    have eT : m_shT M g 19 a q = if M 23 0 q = nI g then m_unl M q else M := by
      unfold m_shT
      rw [if_neg (by decide), if_neg (by decide), if_pos rfl]
    have eX : m_shX M g 19 q = if M 23 0 q = nI g then 0 else 5 := by
      unfold m_shX
      rw [if_neg (by decide), if_neg (by decide), if_pos rfl]
    rw [eT, eX]
    by_cases y : M 23 0 q = nI g
    · rw [if_pos y, if_pos y, if_pos y]
      exact s_P0 (R.pass hq) rfl (fun z => absurd rfl z) s_4pa (s_jp (by decide) (by decide))
    · rw [if_neg y, if_neg y, if_neg y]
      exact s_P0 R rfl (fun _ => rfl) rfl (s_jp (by decide) (by decide))
  · rw [if_neg z, if_neg z, if_neg z, if_neg z]
    exact s_P0 R rfl (fun _ => rfl) rfl (s_jp (by decide) (by decide))
theorem s_p21 {p g : Nat} {K M : kM} (R : s_R p g 6 K M) {pl n : Int32} {a b : Nat} (hg : g < 6) (hp : p < 2) (hh : M 24 0 p = nI g) (h1 : M 5 0 g = 1) (ha : a < 4) (hb : b < 4) (e1 : g_part K pl 1 = nI a) (e2 : g_part K pl 2 = nI b) (e3 : g_part K pl 3 = n) : s_P p g K M (g_perT K g 21 pl) (m_pfT M g 21 a b n) (g_perX K g 21 pl) (m_pfX M g 21 b n) (m_jp M g 21 a b) n := by
  have ea := R.E.re g hg a ha
  have eb := R.E.re g hg b hb
  have n2 : M 5 0 g ≠ 2 := by rw [h1]; decide
  rw [gpT_21, gpX_21, mpT_21, mpX_21, e1, e2]
  exact s_P0 (R.reap hg ha hb h1) rfl (fun z => absurd rfl z) (s_4rp 6 0) (s_jp (by decide) (by decide))
theorem s_R.perf {p g : Nat} {K M : kM} (R : s_R p g 6 K M) {op pl n : Int32} {a b : Nat} (hg : g < 6) (hp : p < 2) (hh : M 24 0 p = nI g) (h1 : M 5 0 g = 1) (ha : a < 4) (hb : b < 4) (e1 : g_part K pl 1 = nI a) (e2 : g_part K pl 2 = nI b) (e3 : g_part K pl 3 = n) (ho : vp_in op 22) (n0 : op ≠ 0) (n20 : op ≠ 20) : s_P p g K M (g_perT K g op pl) (m_pfT M g op a b n) (g_perX K g op pl) (m_pfX M g op b n) (m_jp M g op a b) n := by
  rcases r_c22 ho with rfl | rfl | rfl | rfl | rfl | rfl | rfl | rfl | rfl | rfl | rfl | rfl | rfl | rfl | rfl | rfl | rfl | rfl | rfl | rfl | rfl | rfl
  · exact absurd rfl n0
  · exact s_p1 R hg hp hh h1 ha hb e1 e2 e3
  · exact s_p2 R hg hp hh h1 ha hb e1 e2 e3
  · exact s_p3 R hg hp hh h1 ha hb e1 e2 e3
  · exact s_p4 R hg hp hh h1 ha hb e1 e2 e3
  · exact s_p5 R hg hp hh h1 ha hb e1 e2 e3
  · exact s_p6 R hg hp hh h1 ha hb e1 e2 e3
  · exact s_p7 R hg hp hh h1 ha hb e1 e2 e3
  · exact s_p8 R hg hp hh h1 ha hb e1 e2 e3
  · exact s_p9 R hg hp hh h1 ha hb e1 e2 e3
  · exact s_p10 R hg hp hh h1 ha hb e1 e2 e3
  · exact s_p11 R hg hp hh h1 ha hb e1 e2 e3
  · exact s_p12 R hg hp hh h1 ha hb e1 e2 e3
  · exact s_p13 R hg hp hh h1 ha hb e1 e2 e3
  · exact s_p14 R hg hp hh h1 ha hb e1 e2 e3
  · exact s_p15 R hg hp hh h1 ha hb e1 e2 e3
  · exact s_p16 R hg hp hh h1 ha hb e1 e2 e3
  · exact s_p17 R hg hp hh h1 ha hb e1 e2 e3
  · exact s_p18 R hg hp hh h1 ha hb e1 e2 e3
  · exact s_p19 R hg hp hh h1 ha hb e1 e2 e3
  · exact absurd rfl n20
  · exact s_p21 R hg hp hh h1 ha hb e1 e2 e3
