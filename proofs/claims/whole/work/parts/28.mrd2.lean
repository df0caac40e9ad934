def K1 (tx : Nat → Nat) (le p : Nat) : Bool := fg tx le p && !(fg tx le (p + 1) && fg tx le (p + 2))
theorem nOk_K (tx : Nat → Nat) (le p : Nat) (lo hi : Int32) : nOk tx le p lo hi = (K1 tx le p && inr (nI (nV tx le p)) lo hi) := by rw [nOk, K1, Bool.and_assoc]
theorem inr_nI {x a b : Nat} (hx : x < 2147483648) (ha : a < 2147483648) (hb : b < 2147483648) : inr (nI x) (nI a) (nI b) = (decide (a ≤ x) && decide (x ≤ b)) := by
  have h1 : nI x < nI a ↔ x < a := by
    constructor
    · intro h; exact Nat.not_le.mp (fun q => nI_nlt q hx h)
    · intro h; exact nI_lt h ha
  have h2 : nI b < nI x ↔ b < x := by
    constructor
    · intro h; exact Nat.not_le.mp (fun q => nI_nlt q hb h)
    · intro h; exact nI_lt h hx
  simp only [inr, h1, h2]
  by_cases c1 : x < a <;> by_cases c2 : b < x <;> simp [c1, c2] <;> omega
theorem inr_pin (x : Int32) {m : Nat} (hm : m < 1073741824) : inr x 0 (nI m - 1) = pin x m := by
  have h0 : (0 : Int64) = (0 : Int32).toInt64 := by decide
  have := lin_pin (x := x) hm
  rw [h0, lin_c rfl rfl] at this
  exact this
section M2
variable {tx : Nat → Nat} {le : Nat}
theorem syn3 {t : TS} (h : Agr tx le t) (ht : ∀ k, k < le → tx k < 128) (hlt : tP t < le) :
    (tOk (tNx t) 0 44 && (tOk (i1 t) 1 44 && tOk (i2 t) 2 59)) = (K1 tx le (tP t + 1) && (isC tx le (q1 tx le (tP t)) 44 && (K1 tx le (q1 tx le (tP t) + 1) && (isC tx le (q2 tx le (tP t)) 44 && (K1 tx le (q2 tx le (tP t) + 1) && isC tx le (q3 tx le (tP t)) 59))))) ∧
    ((tOk (tNx t) 0 44 && (tOk (i1 t) 1 44 && tOk (i2 t) 2 59)) = true → tP (i3 t) = q3 tx le (tP t) + 1 ∧ tM (i3 t) 0 = m0 tx le (tP t) ∧ tM (i3 t) 1 = m1 tx le (tP t) ∧ tM (i3 t) 2 = m2 tx le (tP t) ∧ Agr tx le (i3 t)) := by
  have hn := ag_nx h hlt
  have ha1 : Agr tx le (tNx t) := h.same ⟨(tNx_same t).1, (tNx_same t).2.1⟩
  obtain ⟨e1, f1⟩ := ag_num ha1 ht 0 (c := 44) (Or.inl rfl)
  rw [hn] at e1 f1
  have e1' : tOk (tNx t) 0 44 = (K1 tx le (tP t + 1) && isC tx le (q1 tx le (tP t)) 44) := by rw [e1, K1, q1, Bool.and_assoc]; rfl
  by_cases s1 : tOk (tNx t) 0 44 = true
  · obtain ⟨g1, g2, g3⟩ := f1 s1
    have g1' : tP (i1 t) = q1 tx le (tP t) + 1 := g1
    obtain ⟨e2, f2⟩ := ag_num g3 ht 1 (c := 44) (Or.inl rfl)
    rw [g1] at e2 f2
    have e2' : tOk (i1 t) 1 44 = (K1 tx le (q1 tx le (tP t) + 1) && isC tx le (q2 tx le (tP t)) 44) := by
      show tOk (tSt (tNx t) 0) 1 44 = _
      rw [e2, K1, q2, Bool.and_assoc]; rfl
    by_cases s2 : tOk (i1 t) 1 44 = true
    · obtain ⟨k1, k2, k3⟩ := f2 s2
      obtain ⟨e3, f3⟩ := ag_num k3 ht 2 (c := 59) (Or.inr rfl)
      rw [k1] at e3 f3
      have e3' : tOk (i2 t) 2 59 = (K1 tx le (q2 tx le (tP t) + 1) && isC tx le (q3 tx le (tP t)) 59) := by
        show tOk (tSt (tSt (tNx t) 0) 1) 2 59 = _
        rw [e3, K1, q3, Bool.and_assoc]; rfl
      constructor
      · rw [e1', e2', e3']
        simp only [Bool.and_assoc]
      · intro q
        rw [s1, s2, Bool.true_and, Bool.true_and] at q
        obtain ⟨l1, l2, l3⟩ := f3 q
        refine ⟨l1, ?_, ?_, ?_, l3⟩
        · show tM (tSt (tSt (tSt (tNx t) 0) 1) 2) 0 = _
          rw [l2, va_up_ne _ _ (by decide), k2, va_up_ne _ _ (by decide), g2, va_up_self]; rfl
        · show tM (tSt (tSt (tSt (tNx t) 0) 1) 2) 1 = _
          rw [l2, va_up_ne _ _ (by decide), k2, va_up_self]; rfl
        · show tM (tSt (tSt (tSt (tNx t) 0) 1) 2) 2 = _
          rw [l2, va_up_self]; rfl
    · have s2f : tOk (i1 t) 1 44 = false := by simpa using s2
      constructor
      · rw [e1', ← Bool.and_assoc (K1 tx le (q1 tx le (tP t) + 1)), ← e2', s2f]
        simp
      · intro q; rw [s2f] at q; simp at q
  · have s1f : tOk (tNx t) 0 44 = false := by simpa using s1
    constructor
    · rw [← Bool.and_assoc (K1 tx le (tP t + 1)), ← e1', s1f]
      simp
    · intro q; rw [s1f] at q; simp at q
theorem K1_lt {p : Nat} (ht : ∀ k, k < le → tx k < 128) (h : K1 tx le p = true) : nV tx le p < 100 := by
  simp only [K1, Bool.and_eq_true] at h
  exact nV_lt ht h.1
set_option maxHeartbeats 4000000 in
theorem item_eq {t : TS} {u : VS} (h : Agr tx le t) (ht : ∀ k, k < le → tx k < 128) (hlt : tP t < le) (hu : VI u) :
    iOk t u = (mOk tx le (tP t) (vN u) (tx (tP t)) && isC tx le (mE tx le (tP t) (tx (tP t))) 59) ∧
    (iOk t u = true → tP (iT t) = mE tx le (tP t) (tx (tP t)) + 1 ∧ iV t u = mVv tx le (tP t) (tx (tP t)) u ∧ Agr tx le (iT t)) := by
  have h6 := hu.1
  have hc : tCh t = tx (tP t) := by rw [tCh, h.1, if_pos hlt, h.2 _ hlt]
  have hn := ag_nx h hlt
  have ha1 : Agr tx le (tNx t) := h.same ⟨(tNx_same t).1, (tNx_same t).2.1⟩
  by_cases c103 : tx (tP t) = 103
  · obtain ⟨e1, f1⟩ := ag_num ha1 ht 0 (c := 59) (Or.inr rfl)
    rw [hn] at e1 f1
    have hs : iSyn t = tOk (tNx t) 0 59 := by rw [iSyn, hc, if_pos c103]
    have hT : iT t = i1 t := by rw [iT, hc, if_pos c103]
    have hmE : mE tx le (tP t) (tx (tP t)) = q1 tx le (tP t) := by rw [mE, if_pos c103]
    have hmO : mOk tx le (tP t) (vN u) (tx (tP t)) = nOk tx le (tP t + 1) 1 99 := by rw [mOk, c103]; rfl
    have e1' : tOk (tNx t) 0 59 = (K1 tx le (tP t + 1) && isC tx le (q1 tx le (tP t)) 59) := by rw [e1, K1, q1, Bool.and_assoc]; rfl
    rw [hmE, hmO, iOk, hs, hT, hc]
    by_cases s1 : tOk (tNx t) 0 59 = true
    · obtain ⟨g1, g2, g3⟩ := f1 s1
      have hm : tM (i1 t) 0 = m0 tx le (tP t) := by
        show tM (tSt (tNx t) 0) 0 = _
        rw [g2, va_up_self]; rfl
      have s1' := s1
      rw [e1', Bool.and_eq_true] at s1'
      have hlt1 : m0 tx le (tP t) < 100 := K1_lt ht s1'.1
      have hok : tlOk (tM (i1 t)) u (tx (tP t)) = decide (1 ≤ m0 tx le (tP t)) := by rw [tlOk, if_pos c103, hm]
      have hin : inr (nI (nV tx le (tP t + 1))) 1 99 = decide (1 ≤ m0 tx le (tP t)) := by
        have := inr_nI (x := m0 tx le (tP t)) (a := 1) (b := 99) (by omega) (by decide) (by decide)
        refine this.trans ?_
        rw [show decide (m0 tx le (tP t) ≤ 99) = true from decide_eq_true (by omega), Bool.and_true]
      constructor
      · rw [s1, hok, nOk_K, hin, s1'.1, s1'.2, Bool.true_and, Bool.and_true]
      · intro q
        rw [s1, Bool.true_and] at q
        refine ⟨g1, ?_, g3⟩
        rw [iV, hs, if_pos s1, hT, hc, tlV, if_pos q, if_pos c103, hm, mVv, c103]
        rfl
    · have s1f : tOk (tNx t) 0 59 = false := by simpa using s1
      constructor
      · rw [s1f, Bool.false_and, nOk_K, Bool.and_right_comm, ← e1', s1f, Bool.false_and]
      · intro q; rw [s1f] at q; simp at q
  · obtain ⟨e3, f3⟩ := syn3 h ht hlt
    have hs : iSyn t = (tOk (tNx t) 0 44 && (tOk (i1 t) 1 44 && tOk (i2 t) 2 59)) := by rw [iSyn, hc, if_neg c103]
    have hT : iT t = i3 t := by rw [iT, hc, if_neg c103]
    have hmE : mE tx le (tP t) (tx (tP t)) = q3 tx le (tP t) := by rw [mE, if_neg c103]
    have hsy : ∀ l0 h0 l1 h1 l2 h2 : Int32, (sy3 tx le (tP t) l0 h0 l1 h1 l2 h2 && isC tx le (q3 tx le (tP t)) 59) = (iSyn t && (inr (nI (m0 tx le (tP t))) l0 h0 && (inr (nI (m1 tx le (tP t))) l1 h1 && inr (nI (m2 tx le (tP t))) l2 h2))) := by
      intro l0 h0 l1 h1 l2 h2
      rw [hs, e3, sy3, nOk_K, nOk_K, nOk_K]
      show _ = _
      unfold m0 m1 m2
      generalize K1 tx le (tP t + 1) = a1
      generalize K1 tx le (q1 tx le (tP t) + 1) = a2
      generalize K1 tx le (q2 tx le (tP t) + 1) = a3
      generalize isC tx le (q1 tx le (tP t)) 44 = b1
      generalize isC tx le (q2 tx le (tP t)) 44 = b2
      generalize isC tx le (q3 tx le (tP t)) 59 = b3
      generalize inr (nI (nV tx le (tP t + 1))) l0 h0 = d1
      generalize inr (nI (nV tx le (q1 tx le (tP t) + 1))) l1 h1 = d2
      generalize inr (nI (nV tx le (q2 tx le (tP t) + 1))) l2 h2 = d3
      revert a1 a2 a3 b1 b2 b3 d1 d2 d3
      decide
    rw [hmE, iOk, hT, hc]
    cases s : iSyn t with
    | false =>
      constructor
      · rw [Bool.false_and]
        have hz : ∀ l0 h0 l1 h1 l2 h2 : Int32, (sy3 tx le (tP t) l0 h0 l1 h1 l2 h2 && isC tx le (q3 tx le (tP t)) 59) = false := fun l0 h0 l1 h1 l2 h2 => by rw [hsy, s, Bool.false_and]
        unfold mOk
        split
        · rw [Bool.and_assoc, hz, Bool.and_false]
        · split
          · rw [Bool.and_right_comm, hz, Bool.false_and]
          · split
            · rw [Bool.and_right_comm, hz, Bool.false_and]
            · first | rw [Bool.false_and] | rw [if_neg c103, Bool.false_and]
      · intro q; simp at q
    | true =>
      rw [Bool.true_and]
      have s' := s
      rw [hs] at s'
      obtain ⟨g1, g2, g3, g4, g5⟩ := f3 s'
      rw [e3] at s'
      simp only [Bool.and_eq_true] at s'
      obtain ⟨k1, -, k2, -, k3, k4⟩ := s'
      have hm0 : m0 tx le (tP t) < 100 := K1_lt ht k1
      have hm1 : m1 tx le (tP t) < 100 := K1_lt ht k2
      have hm2 : m2 tx le (tP t) < 100 := K1_lt ht k3
      have hi : ∀ x b, x < 100 → b < 100 → inr (nI x) 0 (nI b) = decide (x ≤ b) := fun x b hx hb => by
        have := inr_nI (x := x) (a := 0) (b := b) (by omega) (by decide) (by omega)
        refine this.trans ?_
        rw [show decide (0 ≤ x) = true from decide_eq_true (Nat.zero_le _), Bool.true_and]
      have hp : ∀ x, x < 100 → inr (nI x) 0 (nI (vN u) - 1) = decide (x < vN u) := fun x hx => by rw [inr_pin _ (by omega), pin_nI (by omega) (by omega)]
      have hV : tlOk (tM (i3 t)) u (tx (tP t)) = true → iV t u = mVv tx le (tP t) (tx (tP t)) u := by
        intro q
        rw [iV, s, if_pos rfl, hT, hc, tlV, if_pos q, if_neg c103, g2, g3, g4, mVv]
        by_cases c112 : tx (tP t) = 112
        · rw [if_neg (by omega), if_pos c112, if_pos c112]
        · rw [if_neg c112, if_neg c112]
          by_cases c111 : tx (tP t) = 111
          · rw [if_pos c111, if_neg (by omega), if_pos c111]
          · rw [if_neg c111]
            by_cases c116 : tx (tP t) = 116
            · rw [if_pos c116]
            · exfalso
              rw [tlOk, if_neg c103, if_neg c111, if_neg c112, if_neg c116] at q
              cases q
      refine ⟨?_, fun q => ⟨g1, hV q, g5⟩⟩
      rw [tlOk, g2, g3, g4, if_neg c103]
      unfold mOk
      by_cases c112 : tx (tP t) = 112
      · rw [if_neg (by omega), if_pos c112, if_pos c112, Bool.and_assoc, hsy, s, Bool.true_and]
        have a1 := hi (m0 tx le (tP t)) 4 hm0 (by decide)
        have a2 := hi (m1 tx le (tP t)) 99 hm1 (by decide)
        have a3 := hi (m2 tx le (tP t)) 60 hm2 (by decide)
        rw [show inr (nI (m0 tx le (tP t))) 0 4 = _ from a1, show inr (nI (m1 tx le (tP t))) 0 99 = _ from a2, show inr (nI (m2 tx le (tP t))) 0 60 = _ from a3, tpOk]
        rw [show decide (m1 tx le (tP t) ≤ 99) = true from decide_eq_true (by omega), Bool.true_and]
        by_cases e : vN u = 6
        · rw [decide_eq_false (show ¬ vN u < 6 by omega), decide_eq_true e]; rfl
        · rw [decide_eq_true (show vN u < 6 by omega), decide_eq_false e]; rfl
      · rw [if_neg c112, if_neg c112]
        by_cases c111 : tx (tP t) = 111
        · rw [if_pos c111, if_neg (by omega), if_pos c111, Bool.and_right_comm, hsy, s, Bool.true_and, tdOk, two_nI (by omega) (by omega) (by omega), hp _ hm0, hp _ hm1]
          have a3 := hi (m2 tx le (tP t)) 60 hm2 (by decide)
          rw [show inr (nI (m2 tx le (tP t))) 0 60 = _ from a3]
          generalize decide (m0 tx le (tP t) < vN u) = b1
          generalize decide (m1 tx le (tP t) < vN u) = b2
          generalize decide (m2 tx le (tP t) ≤ 60) = b3
          generalize decide (m0 tx le (tP t) = m1 tx le (tP t)) = b4
          revert b1 b2 b3 b4
          decide
        · rw [if_neg c111]
          by_cases c116 : tx (tP t) = 116
          · rw [if_pos c116, if_pos c116, Bool.and_right_comm, hsy, s, Bool.true_and, ttOk, two_nI (by omega) (by omega) (by omega), hp _ hm0, hp _ hm1]
            have a3 := hi (m2 tx le (tP t)) 9 hm2 (by decide)
            rw [show inr (nI (m2 tx le (tP t))) 0 9 = _ from a3]
            generalize decide (m0 tx le (tP t) < vN u) = b1
            generalize decide (m1 tx le (tP t) < vN u) = b2
            generalize decide (m2 tx le (tP t) ≤ 9) = b3
            generalize decide (m0 tx le (tP t) = m1 tx le (tP t)) = b4
            revert b1 b2 b3 b4
            decide
          · rw [if_neg c116, if_neg c116, if_neg c111, if_neg c103, Bool.false_and]
theorem rd_mrd (ht : ∀ k, k < le → tx k < 128) : ∀ (f : Nat) (t : TS) (u : VS), Agr tx le t → VI u → rd f t u = mrd tx le f (tP t) u
  | 0, _, _, _, _ => rfl
  | f + 1, t, u, h, hu => by
    rw [rd, mrd, h.1]
    by_cases hp : tP t < le
    · rw [if_pos hp, if_pos hp]
      obtain ⟨e1, e2⟩ := item_eq h ht hp hu
      rw [← e1]
      by_cases q : iOk t u = true
      · rw [if_pos q, if_pos q]
        obtain ⟨g1, g2, g3⟩ := e2 q
        rw [rd_mrd ht f (iT t) (iV t u) g3 (VI_iV hu), g1, g2]
      · rw [if_neg q, if_neg q]
    · rw [if_neg hp, if_neg hp]
theorem mrd_ag {tf : Nat → Nat} {tn : Nat} (h : le = tn) (hk : ∀ k, k < tn → tx k = tf k) (ht : ∀ k, k < tn → tf k < 128) (f : Nat) (u : VS) (hu : VI u) : mrd tx le f 0 u = mrd tf tn f 0 u := by
  subst h
  have h1 : ∀ k, k < le → tx k < 128 := fun k hk' => by rw [hk k hk']; exact ht k hk'
  exact (rd_mrd h1 f (tx, fun _ => 0, le, 0) u ⟨rfl, fun _ _ => rfl⟩ hu).symm.trans (rd_mrd ht f (tx, fun _ => 0, le, 0) u ⟨rfl, hk⟩ hu)
end M2
