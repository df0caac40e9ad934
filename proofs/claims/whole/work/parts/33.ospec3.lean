def eS (b c : Int32) : VS → List Nat → Nat
  | _, [] => 0
  | v, p :: l => stC v p b c + eS b c (stV v p b c) l
def eV (b c : Int32) (v : VS) (ro : Nat → Nat) : Nat → VS
  | 0 => v
  | i + 1 => stV (eV b c v ro i) (ro i) b c
def eC (b c : Int32) (v : VS) (ro : Nat → Nat) : Nat → Nat
  | 0 => 0
  | i + 1 => eC b c v ro i + stC (eV b c v ro i) (ro i) b c
theorem eC_le (b c : Int32) (v : VS) (ro : Nat → Nat) : ∀ i, eC b c v ro i ≤ 6 * i
  | 0 => Nat.le_refl 0
  | i + 1 => by
    have := eC_le b c v ro i
    have := stC_le (eV b c v ro i) (ro i) b c
    rw [eC]
    omega
/-- from the front as from the back -/
theorem eV_sh (b c : Int32) (v : VS) (ro : Nat → Nat) : ∀ i, eV b c v ro (i + 1) = eV b c (stV v (ro 0) b c) (fun q => ro (q + 1)) i
  | 0 => rfl
  | i + 1 => by rw [eV, eV_sh b c v ro i]; rfl
theorem eC_sh (b c : Int32) (v : VS) (ro : Nat → Nat) : ∀ i, eC b c v ro (i + 1) = stC v (ro 0) b c + eC b c (stV v (ro 0) b c) (fun q => ro (q + 1)) i
  | 0 => by show 0 + stC v (ro 0) b c = stC v (ro 0) b c + 0; omega
  | i + 1 => by rw [eC, eC_sh b c v ro i, eC, eV_sh]; omega
theorem eC_eS (b c : Int32) : ∀ (l : List Nat) (v : VS) (ro : Nat → Nat), AG ro l → eC b c v ro l.length = eS b c v l
  | [], _, _, _ => rfl
  | p :: l, v, ro, h => by
    have h0 : p = ro 0 := h 0 (by simp)
    have h1 : AG (fun q => ro (q + 1)) l := fun q hq => by
      have := h (q + 1) (by simp; exact hq)
      simpa using this
    rw [List.length_cons, eC_sh, eS, ← h0, eC_eS b c l _ _ h1]
def fS (b c : Int32) (v : VS) (l : List Nat) (q : Nat × List Nat) : Nat × List Nat := if eS b c v l < q.1 then q else (eS b c v l + 1, l)
def foldB (b c : Int32) (v : VS) (ls : List (List Nat)) (q : Nat × List Nat) : Nat × List Nat := ls.foldl (fun q l => fS b c v l q) q
def ordB (v : VS) (b c : Int32) : Nat × List Nat := foldB b c v (lexS 6 (sDue v (vN v))) (0, [])
def oOrder (v : VS) (b c k : Int32) : Int32 := if (fare b c && inr k 0 6) = true then (if k = 0 then nI (ordB v b c).1 - 1 else if nI (wBits (sDue v (vN v))) < k then -4 else nI ((ordB v b c).2.getD (P k - 1) 0)) else -1
/-! the due ones in a row -/
def dL (v : VS) : Nat → List Nat
  | 0 => []
  | i + 1 => if wDue v i = true then dL v i ++ [i] else dL v i
theorem dL_lt (v : VS) : ∀ i, (dL v i).length ≤ i ∧ ∀ q ∈ dL v i, q < i
  | 0 => ⟨Nat.le_refl 0, fun q hq => by cases hq⟩
  | i + 1 => by
    obtain ⟨h1, h2⟩ := dL_lt v i
    rw [dL]
    split
    · refine ⟨by rw [List.length_append, List.length_singleton]; omega, fun q hq => ?_⟩
      rcases List.mem_append.mp hq with h | h
      · have := h2 q h; omega
      · rw [List.mem_singleton.mp h]; omega
    · exact ⟨by omega, fun q hq => by have := h2 q hq; omega⟩
theorem sDue_tb (v : VS) (j : Nat) : ∀ i, (sDue v i).testBit j = (decide (j < i) && wDue v j)
  | 0 => by simp [sDue]
  | i + 1 => by
    have h := sDue_tb v j i
    have hl := sDue_lt v i
    rw [sDue]
    split
    · rename_i hd
      have e := Nat.two_pow_add_eq_or_of_lt hl 1
      rw [Nat.mul_one] at e
      rw [Nat.add_comm, e, Nat.testBit_or, h, Nat.testBit_two_pow]
      by_cases c : i = j
      · subst c; simp [hd]
      · have : (j < i + 1) ↔ (j < i) := by omega
        simp [c, this]
    · rename_i hd
      rw [Nat.add_zero, h]
      by_cases c : i = j
      · subst c; simp at hd; simp [hd]
      · have : (j < i + 1) ↔ (j < i) := by omega
        simp [this]
theorem dL_filter (v : VS) : ∀ i, dL v i = (List.range i).filter (fun p => wDue v p)
  | 0 => rfl
  | i + 1 => by
    rw [dL, List.range_succ, List.filter_append, dL_filter v i]
    by_cases h : wDue v i = true <;> simp [h]
theorem dL_set (v : VS) (h6 : vN v ≤ 6) : dL v (vN v) = setL (sDue v (vN v)) := by
  rw [dL_filter, setL]
  have e : List.range 6 = List.range (vN v) ++ (List.range (6 - vN v)).map (fun q => vN v + q) := by
    rw [← List.range_add]
    congr 1
    omega
  rw [e, List.filter_append]
  have h2 : ((List.range (6 - vN v)).map (fun q => vN v + q)).filter (fun p => (sDue v (vN v)).testBit p) = [] := by
    rw [List.filter_eq_nil_iff]
    intro q hq
    obtain ⟨r, -, rfl⟩ := List.mem_map.mp hq
    show ¬ (sDue v (vN v)).testBit (vN v + r) = true
    rw [sDue_tb, decide_eq_false (show ¬ vN v + r < vN v by omega), Bool.false_and]
    exact Bool.false_ne_true
  rw [h2, List.append_nil]
  apply List.filter_congr
  intro p hp
  have := List.mem_range.mp hp
  rw [sDue_tb]
  simp [this]
theorem chain_s {s : Nat} (h : s < 64) : chain (lexS 6 s) = true ∧ (lexS 6 s).head? = some (setL s) ∧ (setL s).length = wBits s := by
  have := chain_all s h
  simp only [Bool.and_eq_true, decide_eq_true_eq] at this
  exact this
/-! what comes next in a row -/
def NXT (ro ro' : Nat → Nat) (m : Nat) (r : Bool) : Prop :=
  (r = false ∧ ro' = ro ∧ ∀ i, i + 1 < m → ro (i + 1) < ro i) ∨
  (r = true ∧ ∃ k j, k + 1 < m ∧ ro k ≤ ro (k + 1) ∧ (∀ i, k < i → i + 1 < m → ro (i + 1) < ro i) ∧ j < m ∧ ¬ ro j < ro k ∧ (∀ i, j < i → i < m → ro i < ro k) ∧ ∀ q, q < m → ro' q = rsl ro m k j q)
theorem nxt_chk {ro ro' : Nat → Nat} {l l' : List Nat} {r : Bool} (ha : AG ro l) (h6 : l.length ≤ 6) (hc : chk l l' = true) (hn : NXT ro ro' l.length r) : r = true ∧ AG ro' l' ∧ l'.length = l.length := by
  simp only [chk, isK, isJ, Bool.and_eq_true, decide_eq_true_eq, List.any_eq_true, List.all_eq_true, List.mem_range, Bool.or_eq_true, Bool.not_eq_true', Bool.and_eq_false_iff, decide_eq_false_iff_not] at hc
  obtain ⟨hl, k, -, ⟨k1, k2, k3⟩, j, -, ⟨j1, j2, j3⟩, hq⟩ := hc
  have K2 : ro k ≤ ro (k + 1) := by rw [← ha k (by omega), ← ha (k + 1) k1]; exact k2
  have K3 : ∀ i, k < i → i + 1 < l.length → ro (i + 1) < ro i := fun i h1 h2 => by
    rw [← ha i (by omega), ← ha (i + 1) h2]
    rcases k3 i (by omega) with (h | h) | h
    · exact absurd h1 h
    · exact absurd h2 h
    · exact h
  have J2 : ¬ ro j < ro k := by rw [← ha k (by omega), ← ha j j1]; exact j2
  have J3 : ∀ i, j < i → i < l.length → ro i < ro k := fun i h1 h2 => by
    rw [← ha k (by omega), ← ha i h2]
    rcases j3 i (by omega) with (h | h) | h
    · exact absurd h1 h
    · exact absurd h2 h
    · exact h
  rcases hn with ⟨-, -, hd⟩ | ⟨hr, k', j', p1, p2, p3, p4, p5, p6, p7⟩
  · have := hd k k1; omega
  · have ek : k' = k := by
      rcases Nat.lt_trichotomy k' k with h | h | h
      · have := p3 k h k1; omega
      · exact h
      · have := K3 k' h p1; omega
    subst ek
    have ej : j' = j := by
      rcases Nat.lt_trichotomy j' j with h | h | h
      · exact absurd (p6 j h j1) J2
      · exact h
      · exact absurd (J3 j' h p4) p5
    subst ej
    refine ⟨hr, fun q hq' => ?_, hl⟩
    rw [hl] at hq'
    rcases hq q (by omega) with h | h
    · exact absurd hq' h
    · rw [h, p7 q hq', rsl, rsl, swl, swl]
      by_cases c1 : q < k'
      · rw [if_pos c1, if_pos c1, ha q hq']
      · rw [if_neg c1, if_neg c1]
        by_cases c2 : q = k'
        · rw [if_pos c2, if_pos c2, ha j' j1]
        · rw [if_neg c2, if_neg c2]
          by_cases c3 : k' + l.length - q = k'
          · rw [if_pos c3, if_pos c3, ha j' j1]
          · rw [if_neg c3, if_neg c3]
            by_cases c4 : k' + l.length - q = j'
            · rw [if_pos c4, if_pos c4, ha k' (by omega)]
            · rw [if_neg c4, if_neg c4, ha _ (by omega)]
theorem nxt_lst {ro ro' : Nat → Nat} {l : List Nat} {r : Bool} (ha : AG ro l) (h6 : l.length ≤ 6) (hc : lstL l = true) (hn : NXT ro ro' l.length r) : r = false := by
  simp only [lstL, decide_eq_true_eq, List.all_eq_true, List.mem_range, Bool.or_eq_true, Bool.not_eq_true', decide_eq_false_iff_not] at hc
  rcases hn with ⟨h, -, -⟩ | ⟨-, k', j', p1, p2, -⟩
  · exact h
  · rcases hc k' (by omega) with h | h
    · exact absurd p1 h
    · rw [ha k' (by omega), ha (k' + 1) p1] at h
      omega
