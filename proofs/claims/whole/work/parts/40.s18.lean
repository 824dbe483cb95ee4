/-! ===== THE TWO SIDE BY SIDE (18): the start ===== -/
theorem s_K1E : s_E 6 g_K1 m_K1 := by
  refine ⟨?_, ?_, ?_, ?_, ?_, ?_, ?_, ?_, ?_, ?_, ?_, ?_, ?_, ?_, ?_, ?_, ?_, ?_, ?_, ?_, ?_, ?_, ?_, ?_, ?_, ?_⟩ <;> decide +kernel
theorem s_K1A : s_A 2 m_K1 := by
  unfold s_A
  decide +kernel
theorem s_K10 : ∀ g, g < 6 → m_K1 5 0 g = -1 ∨ g = 0 := by decide +kernel
theorem s_K1p : ∀ j, j < 4 → m_K1 16 0 (0 * 4 + j) = -1 := by decide +kernel
theorem s_K1B : s_B m_K1 := by
  refine ⟨fun g hg h j hj hp => ?_, fun g hg h j hj hp => ?_, fun g hg h => ?_⟩
  · rw [Or.resolve_left (s_K10 g hg) h] at hp
    exact absurd (s_K1p j hj) hp
  · rw [Or.resolve_left (s_K10 g hg) h] at hp
    exact absurd (s_K1p j hj) hp
  · rw [Or.resolve_left (s_K10 g hg) h]
    decide +kernel
theorem s_K1C : s_C (fun _ => 0) 6 m_K1 := by
  refine ⟨fun g hg h => ?_, fun g hg h => ?_, fun g hg h => ?_⟩
  · rw [Or.resolve_left (s_K10 g hg) h]
    exact Or.inl (by decide +kernel)
  · rw [Or.resolve_left (s_K10 g hg) h]
    decide +kernel
  · rw [Or.resolve_left (s_K10 g hg) h]
    decide +kernel
theorem s_K1D : s_D g_K1 m_K1 := by
  unfold s_D
  decide +kernel
theorem s_K1R (I : g_Inv g_K1) (J : m_Inv m_K1) : s_R 2 6 6 g_K1 m_K1 := ⟨I, J, s_K1E, s_K1A, s_K1B, ⟨_, s_K1C⟩, s_K1D⟩
