theorem chain_len {m : Nat} : ∀ (ls : List (List Nat)), chain ls = true → (∀ l, ls.head? = some l → l.length = m) → ∀ l ∈ ls, l.length = m
  | [], _, _, l, hl => by cases hl
  | [l0], _, h, l, hl => by rw [List.mem_singleton.mp hl]; exact h l0 rfl
  | l0 :: l1 :: r, hc, h, l, hl => by
    have hc : (chk l0 l1 && chain (l1 :: r)) = true := hc
    rw [Bool.and_eq_true] at hc
    have h0 := h l0 rfl
    have h1 : l1.length = l0.length := by
      have := hc.1
      simp only [chk, Bool.and_eq_true, decide_eq_true_eq] at this
      exact this.1
    rcases List.mem_cons.mp hl with e | e
    · rw [e]; exact h0
    · exact chain_len (l1 :: r) hc.2 (fun l' hl' => by simp only [List.head?_cons, Option.some.injEq] at hl'; rw [← hl']; omega) l e
theorem fold_len (b c : Int32) (v : VS) {m : Nat} : ∀ (ls : List (List Nat)) (q : Nat × List Nat), (∀ l ∈ ls, l.length = m) → (q.2.length = m ∨ (q.1 = 0 ∧ ls ≠ [])) → (foldB b c v ls q).2.length = m
  | [], q, _, h => by
    rcases h with h | h
    · exact h
    · exact absurd rfl h.2
  | l :: ls, q, hl, h => by
    rw [fold_cons]
    refine fold_len b c v ls _ (fun l' hl' => hl l' (by simp [hl'])) (Or.inl ?_)
    unfold fS
    split
    · rename_i hlt
      rcases h with h | h
      · exact h
      · omega
    · exact hl l (by simp)
theorem ord_len (v : VS) (b c : Int32) (h6 : vN v ≤ 6) : (ordB v b c).2.length = (dL v (vN v)).length := by
  obtain ⟨h1, h2, h3⟩ := chain_s (sDue_64 v h6)
  refine fold_len b c v _ _ (chain_len _ h1 (fun l hl => ?_)) (Or.inr ⟨rfl, fun e => ?_⟩)
  · rw [h2] at hl
    simp only [Option.some.injEq] at hl
    rw [← hl, dL_set v h6]
  · rw [e] at h2; cases h2
theorem xo_ret {v : VS} {b c k : Int32} {M kj : Nat} {be : Nat → Nat} (h6 : vN v ≤ 6) (hf : fare b c = true) (hk : inr k 0 6 = true) (ek : k = nI kj) (hj : kj ≤ 6) (h1 : M = (ordB v b c).1) (h2 : AG be (ordB v b c).2) :
    oOrder v b c k = if kj = 0 then nI M - 1 else if wBits (sDue v (vN v)) < kj then -4 else nI (be (kj - 1)) := by
  rw [← due_len v h6]
  exact ord_ret h6 rfl hf hk ek hj ⟨by rw [h1], ord_len v b c h6, h2⟩
/-- the memo is for this village -/
theorem XO.is {oB : Nat → Nat} {oL oC : Int32} {oD oZ oM : Nat} {vs : Nat → VS} {v : VS} {b c : Int32} (h : XO oB oL oC oD oZ oM vs) (hv : GX v) (hf : (decide (oL = b) && (decide (oC = c) && wLike (vs 0) v)) = true) : oM = (ordB v b c).1 ∧ AG oB (ordB v b c).2 ∧ oZ = wBits (sDue v (vN v)) := by
  simp only [Bool.and_eq_true, decide_eq_true_eq] at hf
  obtain ⟨e1, e2, e3⟩ := hf
  obtain ⟨-, -, h3⟩ := h
  rcases h3 with h3 | ⟨g1, g2, g3, g4, g5⟩
  · exfalso
    simp only [wLike, Bool.and_eq_true, decide_eq_true_eq] at e3
    have := hv.2.2.2
    omega
  · have e := like_eq g1.2.2.1 hv.2.2.1 e3
    rw [e] at g2 g4 g5
    subst e1 e2
    exact ⟨g4, g5, by rw [g3, g2]⟩
theorem XO.new {oP oB : Nat → Nat} {b c : Int32} {vs : Nat → VS} {v : VS} (h : ∀ k, VI (vs k)) (hv : GX v) : XO (qB (ta b c 6 0 (sDue v (vN v)) 0 (oP, oB, 0, va_up vs 0 v))) b c (sDue v (vN v)) (wBits (sDue v (vN v))) (qM (ta b c 6 0 (sDue v (vN v)) 0 (oP, oB, 0, va_up vs 0 v))) (qV (ta b c 6 0 (sDue v (vN v)) 0 (oP, oB, 0, va_up vs 0 v))) ∧
    QI (oP, oB, 0, va_up vs 0 v) ∧ qM (ta b c 6 0 (sDue v (vN v)) 0 (oP, oB, 0, va_up vs 0 v)) = (ordB v b c).1 ∧ AG (qB (ta b c 6 0 (sDue v (vN v)) 0 (oP, oB, 0, va_up vs 0 v))) (ordB v b c).2 := by
  have hq : QI (oP, oB, 0, va_up vs 0 v) := by
    refine ⟨fun k => ?_, Nat.zero_le _, ?_⟩
    · show VI (va_up vs 0 v k)
      by_cases e : k = 0
      · subst e; rw [va_up_self]; exact hv.1
      · rw [va_up_ne _ _ e]; exact h k
    · show 1 ≤ vN (va_up vs 0 v 0)
      rw [va_up_self]; exact hv.2.2.2
  obtain ⟨h1, h2, h3⟩ := ta_ord (b := b) (c := c) hq hv.1 (show va_up vs 0 v 0 = v from va_up_self _ _ _) rfl hv.2.2.2
  have hqi := QI_ta b c 6 0 (sDue v (vN v)) 0 _ rfl (Nat.zero_le _) hq
  refine ⟨⟨hqi.1, hqi.2.1, Or.inr ?_⟩, hq, h1, h2⟩
  rw [h3]
  exact ⟨hv, rfl, rfl, h1, h2⟩
theorem gI_no {o : Option Nat} (h : gI o = -4) (hb : ∀ k, o = some k → k < 100) : o = none := by
  cases o with
  | none => rfl
  | some k => exact absurd h (ne4 k (by have := hb k rfl; omega))
theorem gI_yes {o : Option Nat} (h : ¬ gI o = -4) : ∃ k, o = some k := by
  cases o with
  | none => exact absurd rfl h
  | some k => exact ⟨k, rfl⟩
theorem GX.day {v : VS} (h : GX v) (d : Nat) : GX (wDay v d) := by
  unfold wDay
  refine GX.days ?_ 1
  have hm : d % vN v < vN v := Nat.mod_lt _ h.2.2.2
  have hm2 : d / 128 % vN v < vN v := Nat.mod_lt _ h.2.2.2
  have h6 := h.1.1
  unfold wDayP
  split
  · exact h.hold (by omega) _ _
  · split
    · exact h.give (by omega) (by omega)
    · exact h
theorem wDay_n (v : VS) (d : Nat) : vN (wDay v d) = vN v := by
  show vN (wDayP v d) = vN v
  unfold wDayP
  split
  · exact (wKA_hold v _ _ _).2.2.1
  · split <;> rfl
theorem GX.yV {v : VS} (h : GX v) (z : Nat) : ∀ k, GX (yV v z k) ∧ vN (yV v z k) = vN v
  | 0 => ⟨h, rfl⟩
  | k + 1 => ⟨(GX.yV h z k).1.day _, (wDay_n _ _).trans (GX.yV h z k).2⟩
