theorem pr_1 : ∀ k, k < 4 → ((nI k &&& 1 = 0) ↔ ¬ k % 2 = 1) := by decide +kernel
theorem pr_2 : ∀ k, k < 4 → ((nI k &&& 2 = 0) ↔ ¬ k / 2 = 1) := by decide +kernel
