def ck (a s : Nat) : Nat → Nat
  | 0 => 1
  | k + 1 => ck a s k * (a - s + (k + 1)) / (k + 1)
theorem ck_le : ∀ a, a < 7 → ∀ s, s < 7 → ∀ k, k < 7 → ck a s k ≤ 10000 := by decide +kernel
def wys (g x : Nat) (n : Nat) : Nat → Nat
  | 0 => 0
  | i + 1 => wys g x n i + ck g (n + i) (n + i) * x ^ (n + i) * (10 - x) ^ (g - (n + i))
def eu : Nat → Nat → Nat → Nat
  | 0, a, _ => a
  | f + 1, a, b => if b = 0 then a else eu f b (a % b)
theorem rain_eq : ∀ g, g < 7 → ∀ n, n < 7 → ∀ x, x < 11 → (wys g x n (g + 1 - n) = rU g n x (2 ^ g) ∧ 10 ^ g = rA g x (2 ^ g) ∧ eu 64 (rU g n x (2 ^ g)) (10 ^ g) = Nat.gcd (rU g n x (2 ^ g)) (10 ^ g)) := by decide +kernel
theorem mx1 {d : Nat} (h : 0 < d) (h2 : d < 2147483648) : mx 1 (nI d) = nI d := by
  unfold mx
  split
  · rfl
  · rename_i q
    have e : d = 1 := Nat.le_antisymm (Nat.not_lt.mp (fun z => q ((nI_ltI (a := 1) (by decide) h2).mpr z))) h
    rw [e]
    rfl
