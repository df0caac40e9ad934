theorem pr_1 : ∀ k, k < 4 → ((nI k &&& 1 = 0) ↔ ¬ k % 2 = 1) := by decide +kernel
theorem pr_2 : ∀ k, k < 4 → ((nI k &&& 2 = 0) ↔ ¬ k / 2 = 1) := by decide +kernel
theorem mF_n (v : VS) (i j : Nat) : ∀ k, k ≤ 4 → (mF v i j k = -4 ↔ mN v i j k = 0)
  | 0, _ => ⟨fun _ => rfl, fun _ => rfl⟩
  | k + 1, hk => by
    have ih := mF_n v i j k (by omega)
    rw [mF, mN]
    by_cases h : mR v i j k = true
    · by_cases h0 : mN v i j k = 0
      · have := ne4 k (by omega)
        simp [h, h0, this]
      · have : ¬ mF v i j k = -4 := fun q => h0 (ih.mp q)
        simp [h, h0, this]
    · simp [h, ih]
