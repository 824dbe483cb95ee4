/-! ===== THE TWO SIDE BY SIDE (7): quotas, parents ===== -/
theorem s_ia {a b : Int32} (h1 : -1000000 ≤ a.toInt) (h2 : a.toInt ≤ 1000000) (h3 : -1000000 ≤ b.toInt) (h4 : b.toInt ≤ 1000000) : (a + b).toInt = a.toInt + b.toInt := by
  rw [Int32.toInt_add]
  apply Int.bmod_eq_of_le <;> omega
theorem s_is {a b : Int32} (h1 : -1000000 ≤ a.toInt) (h2 : a.toInt ≤ 1000000) (h3 : -1000000 ≤ b.toInt) (h4 : b.toInt ≤ 1000000) : (a - b).toInt = a.toInt - b.toInt := by
  rw [Int32.toInt_sub]
  apply Int.bmod_eq_of_le <;> omega
def s_t (M : kM) (g c : Nat) : Int32 := if M 5 0 c = -1 then 0 else if M 11 0 c = nI g then M 8 0 c else 0
def s_sum (M : kM) (g : Nat) : Nat → Int32
  | 0 => 0
  | n + 1 => s_sum M g n + s_t M g n
theorem s_sumc {M M' : kM} {g : Nat} (h : ∀ c, c < 6 → s_t M' g c = s_t M g c) : ∀ n, n ≤ 6 → s_sum M' g n = s_sum M g n
  | 0, _ => rfl
  | n + 1, hn => by
    unfold s_sum
    rw [s_sumc h n (by omega), h n (by omega)]
theorem s_sum1 {M M' : kM} {g c : Nat} {d : Int32} (h : ∀ k, k < 6 → k ≠ c → s_t M' g k = s_t M g k) (hd : s_t M' g c = s_t M g c + d) : ∀ n, n ≤ 6 → s_sum M' g n = if c < n then s_sum M g n + d else s_sum M g n
  | 0, _ => by rw [if_neg (by omega)]; rfl
  | n + 1, hn => by
    have ih := s_sum1 h hd n (by omega)
    unfold s_sum
    rw [ih]
    by_cases z : n = c
    · rw [z, if_neg (by omega), if_pos (by omega), hd, Int32.add_assoc]
    · rw [h n (by omega) z]
      by_cases y : c < n
      · rw [if_pos y, if_pos (by omega), Int32.add_assoc, Int32.add_comm d, Int32.add_assoc]
      · rw [if_neg y, if_neg (by omega)]
theorem s_sum0 {M : kM} {g : Nat} (h : ∀ c, c < 6 → s_t M g c = 0) : ∀ n, n ≤ 6 → s_sum M g n = 0
  | 0, _ => rfl
  | n + 1, hn => by
    unfold s_sum
    rw [s_sum0 h n (by omega), h n (by omega)]
    rfl
theorem s_sumb {M : kM} {g : Nat} (h : ∀ c, c < 6 → 0 ≤ (s_t M g c).toInt ∧ (s_t M g c).toInt ≤ 12) : ∀ n : Nat, n ≤ 6 → 0 ≤ (s_sum M g n).toInt ∧ (s_sum M g n).toInt ≤ 12 * (n : Int)
  | 0, _ => by
    have : (0 : Int32).toInt = 0 := by decide
    unfold s_sum
    omega
  | n + 1, hn => by
    have ih := s_sumb h n (by omega)
    have ht := h n (by omega)
    unfold s_sum
    rw [s_ia (by omega) (by omega) (by omega) (by omega)]
    omega
def s_C (rk : Nat → Nat) (x : Nat) (M : kM) : Prop := (∀ g, g < 6 → M 5 0 g ≠ -1 → M 11 0 g = -1 ∨ ∃ q, q < 6 ∧ M 11 0 g = nI q ∧ rk q < rk g ∧ M 5 0 q ≠ -1 ∧ (M 5 0 q ≠ 3 ∨ q = x)) ∧
  (∀ g, g < 6 → M 5 0 g ≠ -1 → M 10 0 g = s_sum M g 6) ∧
  (∀ g, g < 6 → M 5 0 g ≠ -1 → 0 ≤ (M 9 0 g).toInt ∧ 0 ≤ (M 10 0 g).toInt ∧ (M 9 0 g).toInt + (M 10 0 g).toInt ≤ (M 8 0 g).toInt ∧ (M 8 0 g).toInt ≤ 12)
theorem s_C.tb {rk : Nat → Nat} {x : Nat} {M : kM} (C : s_C rk x M) (g : Nat) : ∀ c, c < 6 → 0 ≤ (s_t M g c).toInt ∧ (s_t M g c).toInt ≤ 12 := by
  intro c hc
  have e : (0 : Int32).toInt = 0 := by decide
  unfold s_t
  split
  · omega
  · rename_i h
    have := C.2.2 c hc h
    split
    · omega
    · omega
theorem s_C.congr {rk : Nat → Nat} {x : Nat} {M M' : kM} (C : s_C rk x M) (e5 : ∀ g, M' 5 0 g = M 5 0 g) (e8 : ∀ g, M' 8 0 g = M 8 0 g) (e9 : ∀ g, M' 9 0 g = M 9 0 g) (e10 : ∀ g, M' 10 0 g = M 10 0 g) (e11 : ∀ g, M' 11 0 g = M 11 0 g) : s_C rk x M' := by
  have es : ∀ g, s_sum M' g 6 = s_sum M g 6 := fun g => s_sumc (fun c _ => by unfold s_t; rw [e5, e11, e8]) 6 (Nat.le_refl 6)
  unfold s_C
  simp only [e5, e8, e9, e10, e11, es]
  exact C
theorem s_C.up {rk : Nat → Nat} {x : Nat} {M : kM} (C : s_C rk x M) {f i j : Nat} {v : Int32} (h5 : f ≠ 5) (h8 : f ≠ 8) (h9 : f ≠ 9) (h10 : f ≠ 10) (h11 : f ≠ 11) : s_C rk x (k_up M f i j v) :=
  C.congr (fun _ => ku_f h5.symm) (fun _ => ku_f h8.symm) (fun _ => ku_f h9.symm) (fun _ => ku_f h10.symm) (fun _ => ku_f h11.symm)
theorem s_C.us {rk : Nat → Nat} {x : Nat} {M : kM} (C : s_C rk x M) {g : Nat} {u : Int32} (h1 : 0 ≤ u.toInt) (h2 : u.toInt + (M 10 0 g).toInt ≤ (M 8 0 g).toInt) : s_C rk x (k_up M 9 0 g u) := by
  have e5 : ∀ a, k_up M 9 0 g u 5 0 a = M 5 0 a := fun a => ku_f (by decide)
  have e8 : ∀ a, k_up M 9 0 g u 8 0 a = M 8 0 a := fun a => ku_f (by decide)
  have e10 : ∀ a, k_up M 9 0 g u 10 0 a = M 10 0 a := fun a => ku_f (by decide)
  have e11 : ∀ a, k_up M 9 0 g u 11 0 a = M 11 0 a := fun a => ku_f (by decide)
  have es : ∀ a, s_sum (k_up M 9 0 g u) a 6 = s_sum M a 6 := fun a => s_sumc (fun c _ => by unfold s_t; rw [e5, e11, e8]) 6 (Nat.le_refl 6)
  refine ⟨?_, ?_, fun a ha h => ?_⟩
  · simp only [e5, e11]
    exact C.1
  · simp only [e5, e10, es]
    exact C.2.1
  · rw [e5] at h
    rw [e8, e10]
    by_cases z : a = g
    · rw [z, ku_eq]
      have := C.2.2 a ha h
      rw [z] at this
      omega
    · rw [ku_j z]
      exact C.2.2 a ha h
/-- a change of state that leaves who is there and who lives, or ends the guest x -/
theorem s_C.st {rk : Nat → Nat} {x : Nat} {M : kM} (C : s_C rk x M) {g : Nat} {v : Int32} (h : M 5 0 g ≠ -1) (hv : v ≠ -1) (h3 : v ≠ 3 ∨ g = x) : s_C rk x (k_up M 5 0 g v) := by
  have e5 : ∀ a, k_up M 5 0 g v 5 0 a = if a = g then v else M 5 0 a := fun a => by
    by_cases z : a = g
    · rw [z, ku_eq, if_pos rfl]
    · rw [ku_j z, if_neg z]
  have en : ∀ a, k_up M 5 0 g v 5 0 a ≠ -1 ↔ M 5 0 a ≠ -1 := fun a => by
    rw [e5]
    by_cases z : a = g
    · rw [if_pos z, z]
      exact ⟨fun _ => h, fun _ => hv⟩
    · rw [if_neg z]
  have e8 : ∀ a, k_up M 5 0 g v 8 0 a = M 8 0 a := fun a => ku_f (by decide)
  have e9 : ∀ a, k_up M 5 0 g v 9 0 a = M 9 0 a := fun a => ku_f (by decide)
  have e10 : ∀ a, k_up M 5 0 g v 10 0 a = M 10 0 a := fun a => ku_f (by decide)
  have e11 : ∀ a, k_up M 5 0 g v 11 0 a = M 11 0 a := fun a => ku_f (by decide)
  have et : ∀ a c, s_t (k_up M 5 0 g v) a c = s_t M a c := fun a c => by
    unfold s_t
    rw [e11, e8]
    by_cases z : M 5 0 c = -1
    · rw [if_pos z, if_pos (Decidable.byContradiction fun y => (en c).mp y z)]
    · rw [if_neg z, if_neg ((en c).mpr z)]
  have es : ∀ a, s_sum (k_up M 5 0 g v) a 6 = s_sum M a 6 := fun a => s_sumc (fun c _ => et a c) 6 (Nat.le_refl 6)
  refine ⟨fun a ha h0 => ?_, fun a ha h0 => ?_, fun a ha h0 => ?_⟩
  · rw [e11]
    rcases C.1 a ha ((en a).mp h0) with z | ⟨q, q1, q2, q3, q4, q5⟩
    · exact Or.inl z
    · refine Or.inr ⟨q, q1, q2, q3, (en q).mpr q4, ?_⟩
      rw [e5]
      by_cases z : q = g
      · rw [if_pos z, z]
        exact h3
      · rw [if_neg z]
        exact q5
  · rw [e10, es]
    exact C.2.1 a ha ((en a).mp h0)
  · rw [e8, e9, e10]
    exact C.2.2 a ha ((en a).mp h0)
theorem s_C.wk {rk : Nat → Nat} {M : kM} (C : s_C rk 6 M) (x : Nat) : s_C rk x M := ⟨fun g hg h => by
    rcases C.1 g hg h with z | ⟨q, q1, q2, q3, q4, q5⟩
    · exact Or.inl z
    · exact Or.inr ⟨q, q1, q2, q3, q4, Or.inl (Or.resolve_right q5 (by omega))⟩, C.2.1, C.2.2⟩
theorem s_C.nself {rk : Nat → Nat} {x : Nat} {M : kM} (C : s_C rk x M) {g : Nat} (hg : g < 6) (h : M 5 0 g ≠ -1) : M 11 0 g ≠ nI g := by
  intro z
  rcases C.1 g hg h with y | ⟨q, q1, q2, q3, q4, q5⟩
  · rw [y] at z
    exact s_n1 hg z
  · rw [q2] at z
    have := (nI_eq (by omega) (by omega)).mp z
    rw [this] at q3
    omega
/-- the children go to the parent -/
theorem s_C.hand {rk : Nat → Nat} {M M' : kM} {g : Nat} (C : s_C rk g M) (hg : g < 6) (h3 : M 5 0 g = 3) (e5 : ∀ a, M' 5 0 a = M 5 0 a) (e9 : ∀ a, M' 9 0 a = M 9 0 a) (h9 : M 9 0 g = 0)
    (e11 : ∀ c, c < 6 → M' 11 0 c = if M 5 0 c ≠ -1 ∧ M 11 0 c = nI g then M 11 0 g else M 11 0 c) (e8 : ∀ c, M' 8 0 c = if c = g then M 8 0 g - s_sum M g 6 else M 8 0 c) (e10 : ∀ c, M' 10 0 c = if c = g then 0 else M 10 0 c) : s_C rk 6 M' := by
  have hp : M 5 0 g ≠ -1 := by rw [h3]; decide
  have ns := C.nself hg hp
  have z0 : (0 : Int32).toInt = 0 := by decide
  have G := C.2.1 g hg hp
  have B := C.2.2 g hg hp
  have tself : s_t M g g = 0 := by
    unfold s_t
    rw [if_neg hp, if_neg ns]
  have PA : ∀ c, c < 6 → M 5 0 c ≠ -1 → M' 11 0 c = -1 ∨ ∃ q, q < 6 ∧ M' 11 0 c = nI q ∧ rk q < rk c ∧ M 5 0 q ≠ -1 ∧ M 5 0 q ≠ 3 := by
    intro c hc h
    rw [e11 c hc]
    have pg := C.1 g hg hp
    by_cases y : M 11 0 c = nI g
    · rw [if_pos ⟨h, y⟩]
      have lt : rk g < rk c := by
        rcases C.1 c hc h with z | ⟨q, q1, q2, q3, q4, q5⟩
        · rw [z] at y
          exact absurd y (s_n1 hg)
        · rw [q2] at y
          have := (nI_eq (by omega) (by omega)).mp y
          rw [← this]
          exact q3
      rcases pg with z | ⟨q, q1, q2, q3, q4, q5⟩
      · exact Or.inl z
      · have q6 : M 5 0 q ≠ 3 := Or.resolve_right q5 (fun w => by rw [w] at q3; omega)
        exact Or.inr ⟨q, q1, q2, by omega, q4, q6⟩
    · rw [if_neg (fun w => y w.2)]
      rcases C.1 c hc h with z | ⟨q, q1, q2, q3, q4, q5⟩
      · exact Or.inl z
      · refine Or.inr ⟨q, q1, q2, q3, q4, Or.resolve_right q5 ?_⟩
        intro w
        rw [w] at q2
        exact y q2
  have PN : ∀ c, c < 6 → M 5 0 c ≠ -1 → M' 11 0 c ≠ nI g := fun c hc h z => by
    rcases PA c hc h with y | ⟨q, q1, q2, q3, q4, q5⟩
    · rw [y] at z
      exact s_n1 hg z
    · rw [q2] at z
      have := (nI_eq (by omega) (by omega)).mp z
      rw [this, h3] at q5
      exact q5 rfl
  have sg : s_sum M' g 6 = 0 := s_sum0 (fun c hc => by
    unfold s_t
    rw [e5]
    by_cases y : M 5 0 c = -1
    · rw [if_pos y]
    · rw [if_neg y, if_neg (PN c hc y)]) 6 (Nat.le_refl 6)
  obtain ⟨S, hS⟩ : ∃ S, S = s_sum M g 6 := ⟨_, rfl⟩
  rw [← hS] at e8 G
  -- the terms of another guest
  have tt : ∀ h, h < 6 → h ≠ g → ∀ c, c < 6 → c ≠ g → s_t M' h c = s_t M h c + (if M 11 0 g = nI h then s_t M g c else 0) := by
    intro h hh hn c hc hcg
    unfold s_t
    rw [e5, e8, if_neg hcg]
    by_cases y : M 5 0 c = -1
    · rw [if_pos y, if_pos y, if_pos y]
      split <;> rfl
    · rw [if_neg y, if_neg y, if_neg y]
      by_cases w : M 11 0 c = nI g
      · have ep : M' 11 0 c = M 11 0 g := by rw [e11 c hc, if_pos ⟨y, w⟩]
        rw [ep, if_pos w, w, if_neg (s_ne hg hh (Ne.symm hn))]
        by_cases v : M 11 0 g = nI h
        · rw [if_pos v]
          simp
        · rw [if_neg v]
          simp
      · have ep : M' 11 0 c = M 11 0 c := by rw [e11 c hc, if_neg (fun v => w v.2)]
        rw [ep, if_neg w]
        simp
  have tg : ∀ h, h < 6 → h ≠ g → s_t M' h g = s_t M h g - (if M 11 0 g = nI h then S else 0) := by
    intro h hh hn
    unfold s_t
    have ep : M' 11 0 g = M 11 0 g := by rw [e11 g hg, if_neg (fun v => ns v.2)]
    rw [e5, e8, if_pos rfl, if_neg hp, if_neg hp, ep]
    by_cases v : M 11 0 g = nI h
    · rw [if_pos v, if_pos v, if_pos v]
    · rw [if_neg v, if_neg v, if_neg v]
      rfl
  have sh : ∀ h, h < 6 → h ≠ g → ∀ n, n ≤ 6 → s_sum M' h n = s_sum M h n + (if M 11 0 g = nI h then s_sum M g n - (if g < n then S else 0) else 0) := by
    intro h hh hn n
    induction n with
    | zero =>
      intro _
      unfold s_sum
      rw [if_neg (Nat.not_lt_zero g)]
      split <;> rfl
    | succ n ih =>
      intro hn6
      have i1 := ih (by omega)
      unfold s_sum
      rw [i1]
      by_cases y : n = g
      · rw [y, tg h hh hn, tself, if_neg (Nat.lt_irrefl g), if_pos (Nat.lt_succ_self g)]
        by_cases w : M 11 0 g = nI h
        · rw [if_pos w, if_pos w, if_pos w]
          grind
        · rw [if_neg w, if_neg w, if_neg w]
          grind
      · rw [tt h hh hn n (by omega) y]
        by_cases w : M 11 0 g = nI h
        · rw [if_pos w, if_pos w, if_pos w]
          by_cases v : g < n
          · rw [if_pos v, if_pos (by omega)]
            grind
          · rw [if_neg v, if_neg (by omega)]
            grind
        · rw [if_neg w, if_neg w, if_neg w]
          grind
  have q0 : 0 ≤ (M 8 0 g - S).toInt ∧ (M 8 0 g - S).toInt ≤ 12 := by
    rw [← G, s_is (by omega) (by omega) (by omega) (by omega)]
    omega
  refine ⟨fun c hc h => ?_, fun c hc h => ?_, fun c hc h => ?_⟩
  · rw [e5] at h
    rcases PA c hc h with y | ⟨q, q1, q2, q3, q4, q5⟩
    · exact Or.inl y
    · exact Or.inr ⟨q, q1, q2, q3, by rw [e5]; exact q4, Or.inl (by rw [e5]; exact q5)⟩
  · rw [e5] at h
    rw [e10]
    by_cases y : c = g
    · rw [if_pos y, y, sg]
    · rw [if_neg y, sh c hc y 6 (Nat.le_refl 6), if_pos (show g < 6 from hg), C.2.1 c hc h, hS]
      split <;> simp
  · rw [e5] at h
    rw [e8, e9, e10]
    by_cases y : c = g
    · rw [if_pos y, if_pos y, y, h9]
      omega
    · rw [if_neg y, if_neg y]
      exact C.2.2 c hc h
/-- a child is born -/
theorem s_C.spawn {rk : Nat → Nat} {M M' : kM} {g i : Nat} {q : Int32} (C : s_C rk 6 M) (hg : g < 6) (hi : i < 6) (h1 : M 5 0 g ≠ -1) (h3 : M 5 0 g ≠ 3) (hn : M 5 0 i = -1) (q1 : 0 ≤ q.toInt) (q2 : q.toInt + (M 9 0 g).toInt + (M 10 0 g).toInt ≤ (M 8 0 g).toInt)
    (e5 : ∀ a, M' 5 0 a = if a = i then 0 else M 5 0 a) (e8 : ∀ a, M' 8 0 a = if a = i then q else M 8 0 a) (e9 : ∀ a, M' 9 0 a = if a = i then 0 else M 9 0 a) (e10 : ∀ a, M' 10 0 a = if a = i then 0 else if a = g then M 10 0 g + q else M 10 0 a) (e11 : ∀ a, M' 11 0 a = if a = i then nI g else M 11 0 a) :
    s_C (fun a => if a = i then rk 0 + rk 1 + rk 2 + rk 3 + rk 4 + rk 5 + 1 else rk a) 6 M' := by
  have hgi : g ≠ i := fun z => h1 (by rw [z]; exact hn)
  have z0 : (0 : Int32).toInt = 0 := by decide
  have ni : ∀ c, c < 6 → M 5 0 c ≠ -1 → M 11 0 c ≠ nI i := fun c hc h z => by
    rcases C.1 c hc h with y | ⟨r, r1, r2, r3, r4, r5⟩
    · rw [y] at z
      exact s_n1 hi z
    · rw [r2] at z
      have := (nI_eq (by omega) (by omega)).mp z
      rw [this] at r4
      exact r4 hn
  have si : s_sum M' i 6 = 0 := s_sum0 (fun c hc => by
    unfold s_t
    rw [e5, e11]
    by_cases y : c = i
    · rw [if_pos y, if_pos y, if_neg (by decide), if_neg (s_ne hg hi hgi)]
    · rw [if_neg y, if_neg y]
      by_cases w : M 5 0 c = -1
      · rw [if_pos w]
      · rw [if_neg w, if_neg (ni c hc w)]) 6 (Nat.le_refl 6)
  have so : ∀ h, h < 6 → h ≠ i → s_sum M' h 6 = if h = g then s_sum M g 6 + q else s_sum M h 6 := fun h hh hni => by
    have := s_sum1 (M := M) (M' := M') (g := h) (c := i) (d := if h = g then q else 0) (fun k _ hk => by
      unfold s_t
      rw [e5, e11, e8, if_neg hk, if_neg hk, if_neg hk]) (by
      unfold s_t
      rw [e5, e11, e8, if_pos rfl, if_pos rfl, if_pos rfl, if_neg (by decide), if_pos hn]
      by_cases y : h = g
      · rw [if_pos y, y, if_pos rfl]
        simp
      · rw [if_neg y, if_neg (s_ne hg hh (Ne.symm y))]
        rfl) 6 (Nat.le_refl 6)
    rw [this, if_pos hi]
    by_cases y : h = g
    · rw [if_pos y, if_pos y, y]
    · rw [if_neg y, if_neg y]
      simp
  have B := C.2.2 g hg h1
  refine ⟨fun c hc h => ?_, fun c hc h => ?_, fun c hc h => ?_⟩
  · rw [e5] at h
    rw [e11]
    by_cases y : c = i
    · rw [if_pos y]
      refine Or.inr ⟨g, hg, rfl, ?_, by rw [e5, if_neg hgi]; exact h1, Or.inl (by rw [e5, if_neg hgi]; exact h3)⟩
      show (if g = i then _ else rk g) < (if c = i then _ else rk c)
      rw [if_neg hgi, if_pos y]
      rcases s_c6 hg with rfl | rfl | rfl | rfl | rfl | rfl <;> omega
    · rw [if_neg y] at h
      rw [if_neg y]
      rcases C.1 c hc h with w | ⟨r, r1, r2, r3, r4, r5⟩
      · exact Or.inl w
      · have hri : r ≠ i := fun z => r4 (by rw [z]; exact hn)
        refine Or.inr ⟨r, r1, r2, ?_, by rw [e5, if_neg hri]; exact r4, ?_⟩
        · show (if r = i then _ else rk r) < (if c = i then _ else rk c)
          rw [if_neg hri, if_neg y]
          exact r3
        · rw [e5, if_neg hri]
          exact r5
  · rw [e5] at h
    rw [e10]
    by_cases y : c = i
    · rw [if_pos y, y, si]
    · rw [if_neg y] at h
      rw [if_neg y, so c hc y]
      by_cases w : c = g
      · rw [if_pos w, if_pos w, C.2.1 g hg h1]
      · rw [if_neg w, if_neg w]
        exact C.2.1 c hc h
  · rw [e5] at h
    rw [e8, e9, e10]
    by_cases y : c = i
    · rw [if_pos y, if_pos y, if_pos y]
      omega
    · rw [if_neg y] at h
      rw [if_neg y, if_neg y, if_neg y]
      by_cases w : c = g
      · rw [if_pos w, w, s_ia (by omega) (by omega) (by omega) (by omega)]
        omega
      · rw [if_neg w]
        exact C.2.2 c hc h
/-- a child that ended is taken away -/
theorem s_C.reap {rk : Nat → Nat} {M M' : kM} {g c : Nat} (C : s_C rk 6 M) (hg : g < 6) (hc : c < 6) (h1 : M 5 0 g ≠ -1) (h3 : M 5 0 c = 3) (hpa : M 11 0 c = nI g)
    (e5 : ∀ a, M' 5 0 a = if a = c then -1 else M 5 0 a) (e8 : ∀ a, M' 8 0 a = M 8 0 a) (e9 : ∀ a, M' 9 0 a = M 9 0 a) (e10 : ∀ a, M' 10 0 a = if a = g then M 10 0 g - M 8 0 c else M 10 0 a) (e11 : ∀ a, M' 11 0 a = M 11 0 a) : s_C rk 6 M' := by
  have z0 : (0 : Int32).toInt = 0 := by decide
  have hc1 : M 5 0 c ≠ -1 := by rw [h3]; decide
  have so : ∀ h, h < 6 → s_sum M' h 6 = if h = g then s_sum M g 6 - M 8 0 c else s_sum M h 6 := fun h hh => by
    have := s_sum1 (M := M) (M' := M') (g := h) (c := c) (d := if h = g then - M 8 0 c else 0) (fun k _ hk => by
      unfold s_t
      rw [e5, e11, e8, if_neg hk]) (by
      unfold s_t
      rw [e5, e11, e8, if_pos rfl, if_pos rfl, if_neg hc1, hpa]
      by_cases y : h = g
      · rw [y, if_pos rfl, if_pos rfl]
        grind
      · rw [if_neg (s_ne hg hh (Ne.symm y)), if_neg y]
        rfl) 6 (Nat.le_refl 6)
    rw [this, if_pos hc]
    by_cases y : h = g
    · rw [if_pos y, if_pos y, y]
      grind
    · rw [if_neg y, if_neg y]
      simp
  have Bg := C.2.2 g hg h1
  have Bc := C.2.2 c hc hc1
  have nn : ∀ a, a < 6 → M' 5 0 a ≠ -1 → a ≠ c ∧ M 5 0 a ≠ -1 := fun a ha h => by
    rw [e5] at h
    by_cases y : a = c
    · rw [if_pos y] at h
      exact absurd rfl h
    · rw [if_neg y] at h
      exact ⟨y, h⟩
  have C1 : ∀ a, a < 6 → M' 5 0 a ≠ -1 → M' 10 0 a = s_sum M' a 6 := fun a ha h => by
    rw [e10, so a ha]
    by_cases y : a = g
    · rw [if_pos y, if_pos y, C.2.1 g hg h1]
    · rw [if_neg y, if_neg y]
      exact C.2.1 a ha (nn a ha h).2
  have tb : 0 ≤ (s_sum M' g 6).toInt := (s_sumb (M := M') (g := g) (fun k hk => by
    have e : s_t M' g k = s_t M g k ∨ s_t M' g k = 0 := by
      unfold s_t
      rw [e5, e11, e8]
      by_cases y : k = c
      · rw [if_pos y, if_pos rfl]
        exact Or.inr rfl
      · rw [if_neg y]
        exact Or.inl rfl
    have := C.tb g k hk
    rcases e with e | e
    · rw [e]; exact this
    · rw [e]; omega) 6 (Nat.le_refl 6)).1
  refine ⟨fun a ha h => ?_, C1, fun a ha h => ?_⟩
  · rw [e11]
    rcases C.1 a ha (nn a ha h).2 with w | ⟨r, r1, r2, r3, r4, r5⟩
    · exact Or.inl w
    · have r6 : M 5 0 r ≠ 3 := Or.resolve_right r5 (by omega)
      have hrc : r ≠ c := fun z => r6 (by rw [z]; exact h3)
      exact Or.inr ⟨r, r1, r2, r3, by rw [e5, if_neg hrc]; exact r4, Or.inl (by rw [e5, if_neg hrc]; exact r6)⟩
  · have c1 := C1 a ha h
    rw [e8, e9]
    by_cases y : a = g
    · rw [y] at c1 ⊢
      have e : (M' 10 0 g).toInt = (M 10 0 g).toInt - (M 8 0 c).toInt := by
        rw [e10, if_pos rfl, s_is (by omega) (by omega) (by omega) (by omega)]
      rw [← c1] at tb
      omega
    · rw [e10, if_neg y]
      exact C.2.2 a ha (nn a ha h).2
