/-! the village's numbers -/
theorem gs_or {G i : Nat} (h : G < 2 ^ i) (hi : i < 31) : nI G ||| ((1 : Int32) <<< (nI i &&& 31)) = nI (G + 2 ^ i) := by
  rw [bit_in i hi, or_nI]
  congr 1
  have := Nat.two_pow_add_eq_or_of_lt h 1
  rw [Nat.mul_one] at this
  rw [Nat.or_comm, ← this, Nat.add_comm]
theorem wGs_lt (v : VS) (p : Nat) (b c : Int32) : ∀ i, wGs v p b c i < 2 ^ i
  | 0 => Nat.one_pos
  | i + 1 => by
    have h := wGs_lt v p b c i
    rw [wGs, Nat.pow_succ]
    split <;> omega
def wKeep (v w : VS) : Prop := vK w = vK v ∧ vA w = vA v ∧ vN w = vN v ∧ vG w = vG v ∧ vX w = vX v ∧ vH w = vH v ∧ vY w = vY v ∧ vZ w = vZ v
theorem wKeep_meet (v : VS) (p i : Nat) (cm : Bool) : wKeep v (wMeet v p i cm) := by cases cm <;> exact ⟨rfl, rfl, rfl, rfl, rfl, rfl, rfl, rfl⟩
theorem wKeep.trans {u v w : VS} (h : wKeep u v) (k : wKeep v w) : wKeep u w := ⟨k.1.trans h.1, k.2.1.trans h.2.1, k.2.2.1.trans h.2.2.1, k.2.2.2.1.trans h.2.2.2.1, k.2.2.2.2.1.trans h.2.2.2.2.1, k.2.2.2.2.2.1.trans h.2.2.2.2.2.1, k.2.2.2.2.2.2.1.trans h.2.2.2.2.2.2.1, k.2.2.2.2.2.2.2.trans h.2.2.2.2.2.2.2⟩
theorem wKeep_meets (v : VS) (p G : Nat) : ∀ i, wKeep v (wMeets v p G i)
  | 0 => ⟨rfl, rfl, rfl, rfl, rfl, rfl, rfl, rfl⟩
  | i + 1 => by
    rw [wMeets]
    split
    · exact (wKeep_meets v p G i).trans (wKeep_meet _ _ _ _)
    · exact wKeep_meets v p G i
theorem wKeep.VI {v w : VS} (h : wKeep v w) (hv : VI v) : VI w := ⟨by rw [h.2.2.1]; exact hv.1, by rw [h.2.2.2.2.1]; exact hv.2.1, by rw [h.2.2.2.2.2.1]; exact hv.2.2⟩
theorem gk_gt : ∀ k, k ≤ 10 → (5 < nI k - 4 ↔ 9 < k) := by decide +kernel
theorem gk_inc : ∀ k, k ≤ 10 → nI k - 4 + 1 = nI (k + 1) - 4 := by decide +kernel
theorem gk_sub0 : ∀ t, t < 10 → ∀ u, u < 11 → (nI (t + u) - 4) - (nI t - 4) = nI u := by decide +kernel
theorem gk_sub (t u : Nat) (h : t < 10) (h2 : u < 11) : (nI (t + u) - 4) - (nI t - 4) = nI u := gk_sub0 t h u h2
