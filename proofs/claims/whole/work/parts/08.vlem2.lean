theorem wGuests_lt (v : VS) (p : Nat) (b c : Int32) (h : vN v ≤ 6) : wGuests v p b c < 64 := by
  have h1 := wGs_lt v p b c (vN v)
  have h2 : 2 ^ vN v ≤ 2 ^ 6 := Nat.pow_le_pow_right (by decide) h
  unfold wGuests
  omega
def wKeepD (v w : VS) : Prop := vK w = vK v ∧ vA w = vA v ∧ vN w = vN v ∧ vG w = vG v ∧ vX w = vX v ∧ vH w = vH v ∧ vY w = vY v ∧ vZ w = vZ v ∧ vT w = vT v
theorem wKeepD_bq0 (v : VS) (p h : Nat) : ∀ i, wKeepD v (wBq v p h i) ∧ vC (wBq v p h i) = vC v
  | 0 => ⟨⟨rfl, rfl, rfl, rfl, rfl, rfl, rfl, rfl, rfl⟩, rfl⟩
  | i + 1 => by
    rw [wBq]
    split
    · exact wKeepD_bq0 v p h i
    · exact wKeepD_bq0 v p h i
theorem wBq_N (v : VS) (p h i : Nat) : vN (wBq v p h i) = vN v := (wKeepD_bq0 v p h i).1.2.2.1
theorem wKeepD_bq (v : VS) (p h : Nat) : wKeepD v (wBequeath v p h) := (wKeepD_bq0 (wRecv v h (vC v p)) p h (vN v)).1
theorem wKeepD_clr (v : VS) (p : Nat) : ∀ i, wKeepD v (wClr v p i) ∧ vC (wClr v p i) = vC v
  | 0 => ⟨⟨rfl, rfl, rfl, rfl, rfl, rfl, rfl, rfl, rfl⟩, rfl⟩
  | i + 1 => wKeepD_clr v p i
theorem wClr_N (v : VS) (p i : Nat) : vN (wClr v p i) = vN v := (wKeepD_clr v p i).1.2.2.1
theorem wHr_in (v : VS) (p : Nat) : ∀ i, (wHr v p i).2 = -4 ∨ ∃ h, h < i ∧ h ≠ p ∧ (wHr v p i).2 = nI h
  | 0 => Or.inl rfl
  | i + 1 => by
    rw [wHr]
    split
    · rename_i h
      simp only [Bool.and_eq_true, Bool.not_eq_true', decide_eq_false_iff_not] at h
      exact Or.inr ⟨i, Nat.lt_succ_self i, h.1, rfl⟩
    · rcases wHr_in v p i with h | ⟨h, h1, h2, h3⟩
      · exact Or.inl h
      · exact Or.inr ⟨h, Nat.lt_succ_of_lt h1, h2, h3⟩
theorem wHeir_t (v : VS) (p : Nat) (hn : vN v ≤ 6) (h : ¬ wHeir v p < 0) : ∃ h, h < vN v ∧ wHeir v p = nI h := by
  rcases wHr_in v p (vN v) with h1 | ⟨k, h1, h2, h3⟩
  · exact absurd (by rw [wHeir, h1]; decide) h
  · exact ⟨k, h1, h3⟩
def wZ0 : Nat → Int32 := fun _ => 0
def vE : VS := (wZ0, wZ0, wZ0, wZ0, wZ0, 0, 50, 0, 0, 0, 0)
def zf (f : Nat → Int32) (i : Nat) : Nat → Int32 := fun j => if j < i then 0 else f j
theorem zf_0 (f : Nat → Int32) : zf f 0 = f := by funext j; simp [zf]
theorem zf_upd (f : Nat → Int32) (i : Nat) : upd (zf f i) i 0 = zf f (i + 1) := by
  funext j
  by_cases h : j = i
  · subst h; simp [upd, zf]
  · by_cases h2 : j < i
    · have : j < i + 1 := by omega
      simp [upd, zf, h, h2, this]
    · have : ¬ j < i + 1 := by omega
      simp [upd, zf, h, h2, this]
theorem zf_all (f : Nat → Int32) (i j : Nat) (h : j < i) : zf f i j = wZ0 j := by simp [zf, h, wZ0]
def wAl (f h : Nat → Int32) : Nat → Bool
  | 0 => true
  | i + 1 => wAl f h i && decide (f i = h i)
theorem wAl_iff (f h : Nat → Int32) : ∀ i, wAl f h i = true ↔ ∀ j, j < i → f j = h j
  | 0 => by simp [wAl]
  | i + 1 => by
    rw [wAl, Bool.and_eq_true, wAl_iff f h i, decide_eq_true_eq]
    constructor
    · intro q j hj
      rcases Nat.lt_or_ge j i with c | c
      · exact q.1 j c
      · rw [show j = i by omega]; exact q.2
    · intro q
      exact ⟨fun j hj => q j (by omega), q i (by omega)⟩
theorem wAl_no {f h : Nat → Int32} {i N : Nat} (hi : i < N) (hne : ¬ f i = h i) : wAl f h N = false := by
  cases e : wAl f h N with
  | false => rfl
  | true => exact absurd ((wAl_iff f h N).mp e i hi) hne
def wLike (v w : VS) : Bool := decide (vN v = vN w) && (decide (vG v = vG w) && (decide (vX v = vX w) && (decide (vH v = vH w) && (decide (vY v = vY w) && (decide (vZ v = vZ w) && (wAl (vK v) (vK w) 6 && (wAl (vA v) (vA w) 6 && (wAl (vC v) (vC w) 6 && (wAl (vT v) (vT w) 36 && wAl (vD v) (vD w) 36)))))))))
def wArr (g : kw_G) (p N : Nat) (f : Nat → Int32) : va_W := [(p, .inl (g.2 0, N, .inl f))]
