theorem cost_n : ∀ b, b < 4 → ∀ c, c < 4 → wCost (nI b) (nI c) = nI (kCost (4 * b + c)) := by decide +kernel
theorem kCost_lt {k : Nat} (h : k < 16) : kCost k < 16 := by unfold kCost; omega
theorem ch_yes {v : VS} {p S b c : Nat} (hb : b < 4) (hc : c < 4) (hl : chL (ch v p S (4 * b + c)) = -4 ∨ ¬ chL (ch v p S (4 * b + c)) ≤ nI (kCost (4 * b + c))) (hg : nI (wGuests v p (nI b) (nI c)) &&& nI S = nI S) : ch v p S (4 * b + c + 1) = some (4 * b + c) := by
  have e1 : (4 * b + c) / 4 = b := by omega
  have e2 : (4 * b + c) % 4 = c := by omega
  have hk := kCost_lt (show 4 * b + c < 16 by omega)
  rw [ch, e1, e2, if_pos]
  rw [show cov (wGuests v p (nI b) (nI c)) S = true from decide_eq_true hg, Bool.true_and]
  cases q : ch v p S (4 * b + c) with
  | none =>
    have : ∀ k, k < 16 → ¬ (999 : Int32) ≤ nI k := by decide +kernel
    simp [chM, this _ hk]
  | some j =>
    have hj := kCost_lt (show j < 16 by have := ch_lt v p S _ _ q; omega)
    rw [q] at hl
    rcases hl with h | h
    · exact absurd h (ne4 _ (by omega))
    · have h : ¬ nI (kCost j) ≤ nI (kCost (4 * b + c)) := h
      show (!decide (nI (kCost j) ≤ nI (kCost (4 * b + c)))) = true
      rw [decide_eq_false h]; rfl
theorem ch_no {v : VS} {p S b c : Nat} (hb : b < 4) (hc : c < 4) (h : (¬ chL (ch v p S (4 * b + c)) = -4 ∧ chL (ch v p S (4 * b + c)) ≤ nI (kCost (4 * b + c))) ∨ ¬ nI (wGuests v p (nI b) (nI c)) &&& nI S = nI S) : ch v p S (4 * b + c + 1) = ch v p S (4 * b + c) := by
  have e1 : (4 * b + c) / 4 = b := by omega
  have e2 : (4 * b + c) % 4 = c := by omega
  rw [ch, e1, e2, if_neg]
  rcases h with ⟨h1, h2⟩ | h
  · cases q : ch v p S (4 * b + c) with
    | none => rw [q] at h1; exact absurd rfl h1
    | some j =>
      rw [q] at h2
      have : chM (some j) ≤ nI (kCost (4 * b + c)) := h2
      simp [this]
  · simp [cov, h]
