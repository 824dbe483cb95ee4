/-! ===== THE TWO SIDE BY SIDE (17): a run; the start; questions ===== -/
def s_m (M : kM) (w : Int32) : Nat → Nat
  | 0 => 0
  | n + 1 => if M 5 0 n = w then s_m M w n + 1 else s_m M w n
theorem s_mny {M : kM} {w : Int32} : ∀ n, m_mny M w n = nI (s_m M w n)
  | 0 => rfl
  | n + 1 => by
    unfold m_mny s_m
    rw [s_mny n]
    split
    · rw [nI_1]
    · rfl
theorem s_mle {M : kM} {w : Int32} : ∀ n, s_m M w n ≤ n
  | 0 => Nat.le_refl 0
  | n + 1 => by
    unfold s_m
    have := s_mle (M := M) (w := w) n
    split <;> omega
theorem s_m0 {M : kM} {w : Int32} : ∀ n, s_m M w n = 0 ↔ ∀ g, g < n → M 5 0 g ≠ w
  | 0 => ⟨fun _ g h => absurd h (Nat.not_lt_zero g), fun _ => rfl⟩
  | n + 1 => by
    have ih := s_m0 (M := M) (w := w) n
    unfold s_m
    by_cases z : M 5 0 n = w
    · rw [if_pos z]
      exact ⟨fun h => by omega, fun h => absurd z (h n (Nat.lt_succ_self n))⟩
    · rw [if_neg z, ih]
      refine ⟨fun h g hg => ?_, fun h g hg => h g (by omega)⟩
      by_cases y : g = n
      · rw [y]; exact z
      · exact h g (by omega)
theorem s_act {M : kM} : m_act M = 0 ↔ ∀ g, g < 6 → M 5 0 g ≠ 0 ∧ M 5 0 g ≠ 1 := by
  have a := s_mle (M := M) (w := 0) 6
  have b := s_mle (M := M) (w := 1) 6
  unfold m_act
  have key : (nI (s_m M 0 6 + s_m M 1 6) = 0) ↔ (s_m M 0 6 + s_m M 1 6 = 0) := nI_eq (b := 0) (by omega) (by decide)
  rw [s_mny, s_mny, nI_add, key]
  refine ⟨fun h g hg => ⟨(s_m0 6).mp (by omega) g hg, (s_m0 6).mp (by omega) g hg⟩, fun h => ?_⟩
  have x := (s_m0 (M := M) (w := 0) 6).mpr (fun g hg => (h g hg).1)
  have y := (s_m0 (M := M) (w := 1) 6).mpr (fun g hg => (h g hg).2)
  omega
theorem s_all {M : kM} : m_all M ≤ 0 ↔ ∀ g, g < 6 → M 5 0 g ≠ 0 ∧ M 5 0 g ≠ 1 ∧ M 5 0 g ≠ 2 := by
  have a := s_mle (M := M) (w := 0) 6
  have b := s_mle (M := M) (w := 1) 6
  have c := s_mle (M := M) (w := 2) 6
  unfold m_all
  have key : (nI (s_m M 0 6 + s_m M 1 6 + s_m M 2 6) ≤ 0) ↔ (s_m M 0 6 + s_m M 1 6 + s_m M 2 6 ≤ 0) := nI_leI (b := 0) (by omega) (by decide)
  rw [s_mny, s_mny, s_mny, nI_add, nI_add, key]
  refine ⟨fun h g hg => ⟨(s_m0 6).mp (by omega) g hg, (s_m0 6).mp (by omega) g hg, (s_m0 6).mp (by omega) g hg⟩, fun h => ?_⟩
  have x := (s_m0 (M := M) (w := 0) 6).mpr (fun g hg => (h g hg).1)
  have y := (s_m0 (M := M) (w := 1) 6).mpr (fun g hg => (h g hg).2.1)
  have z := (s_m0 (M := M) (w := 2) 6).mpr (fun g hg => (h g hg).2.2)
  omega
theorem s_R.emp {K M : kM} (R : s_R 2 6 6 K M) : (g_empty K 0 ≠ 0 ∧ g_empty K 1 ≠ 0) ↔ ∀ g, g < 6 → M 5 0 g ≠ 0 ∧ M 5 0 g ≠ 1 := by
  have ge : ∀ p, p < 2 → (g_empty K p ≠ 0 ↔ M 24 0 p = -1 ∧ s_rM M p = []) := fun p hp => by
    unfold g_empty
    rw [R.E.ha p hp]
    by_cases z : M 24 0 p = -1
    · rw [if_pos z]
      by_cases y : K 12 p 2 = 0
      · rw [if_pos y]
        exact ⟨fun _ => ⟨z, (s_emp R.J).mpr ((R.E.z R.J (by omega)).mp y)⟩, fun _ => by decide⟩
      · rw [if_neg y]
        exact ⟨fun w => absurd rfl w, fun w => absurd ((R.E.z R.J (by omega)).mpr ((s_emp R.J).mp w.2)) y⟩
    · rw [if_neg z]
      exact ⟨fun w => absurd rfl w, fun w => absurd w.1 z⟩
  rw [ge 0 (by omega), ge 1 (by omega)]
  refine ⟨fun ⟨⟨a, b⟩, c, d⟩ g hg => ⟨fun z => ?_, fun z => ?_⟩, fun h => ?_⟩
  · have cr := R.A.cr g hg
    rw [if_pos z] at cr
    unfold s_cR s_c at cr
    rw [b, d, List.count_nil] at cr
    omega
  · obtain ⟨q, hq, e⟩ := R.A.h2 g hg z
    have : q = 0 ∨ q = 1 := by omega
    rcases this with rfl | rfl
    · exact s_n1 hg (a.symm.trans e)
    · exact s_n1 hg (c.symm.trans e)
  · have hnd : ∀ p, p < 2 → M 24 0 p = -1 := fun p hp => by
      rcases R.J 24 0 p with y | y
      · exact y
      · obtain ⟨g, hg, eg⟩ := r_nat y (by decide)
        exact absurd (R.A.h1 p hp (by omega) g hg eg) (h g hg).2
    have hrow : ∀ p, p < 2 → s_rM M p = [] := fun p hp => by
      refine Decidable.byContradiction fun z => ?_
      have nz : ¬ M 20 0 p ≤ 0 := fun y => z ((s_emp R.J).mpr y)
      obtain ⟨w, hw, _, e0, _⟩ := R.A.next R.J hp (hnd p hp) nz
      exact (h w hw).1 e0
    exact ⟨⟨hnd 0 (by omega), hrow 0 (by omega)⟩, hnd 1 (by omega), hrow 1 (by omega)⟩
theorem s_nb {x : Nat} {K M : kM} (E : s_E x K M) : ∀ c i, c + i = 6 → (g_nb K c i = 0 ↔ ∀ g, i ≤ g → g < 6 → M 5 0 g ≠ 2)
  | 0, i, h => ⟨fun _ g h1 h2 => by omega, fun _ => rfl⟩
  | c + 1, i, h => by
    have ih := s_nb E c (i + 1) (by omega)
    unfold g_nb
    rw [E.st i (by omega)]
    by_cases z : M 5 0 i = 2
    · rw [if_pos z]
      exact ⟨fun y => absurd y (by decide), fun y => absurd z (y i (Nat.le_refl i) (by omega))⟩
    · rw [if_neg z, ih]
      refine ⟨fun y g h1 h2 => ?_, fun y g h1 h2 => y g (by omega) h2⟩
      by_cases w : g = i
      · rw [w]; exact z
      · exact y g (by omega) h2
theorem s_R.run : ∀ (c k : Nat) {K M : kM}, s_R 2 6 6 K M → M 0 0 32 = 0 → s_R 2 6 6 (g_rnT K c) (m_rnT M c) ∧ m_rnT M c 0 0 32 = (if g_rnS K c = 0 then 0 else 2) ∧ (g_rnS K c = 0 → g_rnX K c k = m_rnX M c k)
  | 0, k, K, M, R, h => ⟨R, by unfold g_rnS; rw [if_pos rfl]; exact h, fun _ => rfl⟩
  | c + 1, k, K, M, R, h => by
    have em := R.emp
    unfold g_rnT m_rnT g_rnS g_rnX m_rnX
    by_cases z : ∀ g, g < 6 → M 5 0 g ≠ 0 ∧ M 5 0 g ≠ 1
    · obtain ⟨z0, z1⟩ := em.mpr z
      rw [if_neg z0, if_neg z1, if_neg z0, if_neg z1, if_neg z0, if_neg z1]
      have nb := s_nb R.E 6 0 rfl
      by_cases y : g_nb K 6 0 = 0
      · have al : m_all M ≤ 0 := s_all.mpr (fun g hg => ⟨(z g hg).1, (z g hg).2, nb.mp y g (Nat.zero_le g) hg⟩)
        rw [if_pos al, if_pos y, if_pos rfl, if_pos al]
        exact ⟨R, h, fun _ => rfl⟩
      · have al : ¬ m_all M ≤ 0 := fun w => y (nb.mpr (fun g _ hg => (s_all.mp w g hg).2.2))
        rw [if_neg al, if_pos (s_act.mpr z), if_neg y, if_neg (by decide)]
        exact ⟨R.thr, ku_eq, fun w => absurd w (by decide)⟩
    · have na : ¬ m_act M = 0 := fun w => z (s_act.mp w)
      have nl : ¬ m_all M ≤ 0 := fun w => z (fun g hg => ⟨(s_all.mp w g hg).1, (s_all.mp w g hg).2.1⟩)
      rw [if_neg nl, if_neg na, if_neg nl, if_neg na]
      obtain ⟨t1, t2, t3⟩ := R.tick
      obtain ⟨r1, r2, r3⟩ := s_R.run c (k + 1) t1 (t3.trans h)
      by_cases z0 : g_empty K 0 = 0
      · rw [if_pos z0, if_pos z0, if_pos z0]
        exact ⟨r1, r2, r3⟩
      · have z1 : g_empty K 1 = 0 := Decidable.byContradiction fun w => z (em.mp ⟨z0, w⟩)
        rw [if_neg z0, if_neg z0, if_neg z0, if_pos z1, if_pos z1, if_pos z1]
        exact ⟨r1, r2, r3⟩
def s_J (M : kM) : Prop := M 0 0 32 = 0 ∧ ∃ K, s_R 2 6 6 K M
theorem s_J.step {M : kM} (h : s_J M) : m_Inv M ∧ M 0 0 32 = 0 ∧ m_okT M ∧ s_J (m_tick M) := by
  obtain ⟨h0, K, R⟩ := h
  obtain ⟨a, b, c⟩ := R.tick
  exact ⟨R.J, h0, b, c.trans h0, _, a⟩
/-! what the law asks: one question a line -/
theorem s_R.qrun {K M : kM} (R : s_R 2 6 6 K M) (n : Int32) : s_R 2 6 6 (g_ruT K n) (m_runT M n) ∧ m_runT M n 0 0 32 = g_ruS K n ∧ (g_ruS K n = 0 → g_rnX K n.toNatClampNeg 0 = m_runX M n) := by
  unfold g_ruT g_ruS m_runT m_runX
  by_cases z : n < 1
  · rw [if_pos z, if_pos z, if_pos z, if_pos z]
    exact ⟨R.thr, ku_eq, fun w => absurd w (by decide)⟩
  · rw [if_neg z, if_neg z, if_neg z, if_neg z]
    by_cases y : n ≤ 300
    · rw [if_pos y, if_pos y, if_pos y, if_pos y]
      obtain ⟨a, b, c⟩ := s_R.run n.toNatClampNeg 0 (R.thr (v := 0)) ku_eq
      refine ⟨a, b, fun w => c ?_⟩
      by_cases v : g_rnS K n.toNatClampNeg = 0
      · exact v
      · rw [if_neg v] at w
        exact absurd w (by decide)
    · rw [if_neg y, if_neg y, if_neg y, if_neg y]
      exact ⟨R.thr, ku_eq, fun w => absurd w (by decide)⟩
theorem s_on6 {v : Int32} : g_out v 6 = m_no v 5 := s_on (k := 5) (by omega)
theorem s_on9 {v : Int32} : g_out v 9 = m_no v 8 := s_on (k := 8) (by omega)
theorem s_on12 {v : Int32} : g_out v 12 = m_no v 11 := s_on (k := 11) (by omega)
theorem s_on8 {v : Int32} : g_out v 8 = m_no v 7 := s_on (k := 7) (by omega)
theorem s_on5 {v : Int32} : g_out v 5 = m_no v 4 := s_on (k := 4) (by omega)
theorem s_on22 {v : Int32} : g_out v 22 = m_no v 21 := s_on (k := 21) (by omega)
theorem s_m01 {v m : Int32} : m_no v m = 0 ∨ m_no v m = 1 := by
  unfold m_no
  split
  · exact Or.inr rfl
  · split
    · exact Or.inl rfl
    · exact Or.inr rfl
/-- a guest's question: the same refusal -/
theorem s_R.gs {K M : kM} (R : s_R 2 6 6 K M) (g b n m : Int32) (e : g_out b n = m_no b m) : m_gs M g (m_no b m) = g_s3 K g b n ∧ (g_s3 K g b n = 0 → ∃ a, a < 6 ∧ g = nI a ∧ m_no b m = 0 ∧ m_gX M g (m_no b m) = 1) := by
  unfold m_gX m_gs g_s3
  rw [s_on6, e]
  by_cases z : m_no g 5 = 0
  · rw [if_pos z, if_pos z]
    obtain ⟨a, ha, rfl⟩ := r_nat (r_no (n := 5) (by decide) z) (by decide)
    rw [s_nC (by omega), R.E.st a ha]
    by_cases y : m_no b m = 0
    · rw [if_pos y, if_pos y]
      have sn := s_neg R.A ha
      by_cases w : M 5 0 a = -1
      · rw [if_pos w, if_neg (Int32.not_le.mpr (sn.mpr w))]
        exact ⟨rfl, fun q => absurd q (by decide)⟩
      · rw [if_neg w, if_pos (Int32.not_lt.mp (fun q => w (sn.mp q)))]
        exact ⟨rfl, fun _ => ⟨a, ha, rfl, y, by rw [if_pos rfl]⟩⟩
    · rw [if_neg y, if_neg y]
      exact ⟨rfl, fun q => absurd q (by decide)⟩
  · rw [if_neg z, if_neg z]
    exact ⟨rfl, fun q => absurd q (by decide)⟩
theorem s_no2 {a b n k m l : Int32} (e1 : g_out a n = m_no a m) (e2 : g_out b k = m_no b l) : g_s2 a n b k = m_no2 a m b l := by
  unfold g_s2 m_no2
  rw [e1, e2]
