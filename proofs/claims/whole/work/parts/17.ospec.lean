/-! the search of orders: path, best, bells, cake, due, size, most + 1 -/
def wO (g : kw_G) (a : Nat → Nat) (ad : Nat → Nat → Nat) (o : (Nat → Nat) × (Nat → Nat) × Int32 × Int32 × Nat × Nat × Nat) : va_W :=
  [(a 0, .inr (0, [.ref (a 1), .ref (a 2), .ref (a 3), .int o.2.2.1, .int o.2.2.2.1, .int (nI o.2.2.2.2.1), .int (nI o.2.2.2.2.2.1), .int (nI o.2.2.2.2.2.2 - 1)])), (a 1, .inl (g.2 4, 7, .inr (.inr (.inr (.inr (fun i => some (ad i 0))))))),
   (a 2, .inl (g.2 0, 6, .inl (fun k => nI (o.1 k)))), (a 3, .inl (g.2 0, 6, .inl (fun k => nI (o.2.1 k))))]
def sDue (v : VS) : Nat → Nat
  | 0 => 0
  | i + 1 => sDue v i + (if wDue v i = true then 2 ^ i else 0)
theorem sDue_lt (v : VS) : ∀ i, sDue v i < 2 ^ i
  | 0 => Nat.one_pos
  | i + 1 => by
    have h := sDue_lt v i
    rw [sDue, Nat.pow_succ]
    split <;> omega
theorem sDue_64 (v : VS) (h : vN v ≤ 6) : sDue v (vN v) < 64 := by
  have h1 := sDue_lt v (vN v)
  have h2 : 2 ^ vN v ≤ 2 ^ 6 := Nat.pow_le_pow_right (by decide) h
  omega
theorem om_gt {m k : Nat} (hm : m < 1073741824) (hk : k < 1073741824) : nI m - 1 < nI k ↔ m ≤ k := by
  have h := pk_sub_toInt (a := m) (b := 1) (by omega) (by omega)
  have e : (nI m - 1 : Int32).toInt = (m : Int) - 1 := h
  rw [Int32.lt_iff_toInt_lt, e, nI_toInt (by omega)]
  omega
theorem om_1 (k : Nat) : nI (k + 1) - 1 = nI k := nI_pred k
def stV (v : VS) (p : Nat) (b c : Int32) : VS := if wCan v p b c = true then wHold v p b c else v
def stC (v : VS) (p : Nat) (b c : Int32) : Nat := if wCan v p b c = true then wBits (wGuests v p b c) else 0
abbrev OQ : Type := (Nat → Nat) × (Nat → Nat) × Nat × (Nat → VS)
def qP (q : OQ) : Nat → Nat := q.1
def qB (q : OQ) : Nat → Nat := q.2.1
def qM (q : OQ) : Nat := q.2.2.1
def qV (q : OQ) : Nat → VS := q.2.2.2
def oNote (came : Nat) (q : OQ) : OQ := if came < qM q then q else (qP q, qP q, came + 1, qV q)
def oStep (d p : Nat) (b c : Int32) (q : OQ) : OQ := (va_up (qP q) d p, qB q, qM q, va_up (qV q) (d + 1) (stV (qV q d) p b c))
def tl (F : OQ → Nat → OQ) (q : OQ) : Nat → OQ
  | 0 => q
  | i + 1 => F (tl F q i) i
def ta (b c : Int32) : Nat → Nat → Nat → Nat → OQ → OQ
  | 0, _, _, came, q => oNote came q
  | f + 1, d, left, came, q => if left = 0 then oNote came q else if came + wBits left * (vN (qV q 0) - 1) < qM q then q else
      tl (fun q p => if left.testBit p = true then ta b c f (d + 1) (left - 2 ^ p) (came + stC (qV q d) p b c) (oStep d p b c q) else q) q 6
def tlF (b c : Int32) (f d left came : Nat) : OQ → Nat → OQ := fun q p => if left.testBit p = true then ta b c f (d + 1) (left - 2 ^ p) (came + stC (qV q d) p b c) (oStep d p b c q) else q
theorem ta_succ (b c : Int32) (f d left came : Nat) (q : OQ) : ta b c (f + 1) d left came q = if left = 0 then oNote came q else if came + wBits left * (vN (qV q 0) - 1) < qM q then q else tl (tlF b c f d left came) q 6 := rfl
theorem wBits_le (s : Nat) : wBits s ≤ 6 := by unfold wBits; omega
theorem stC_le (v : VS) (p : Nat) (b c : Int32) : stC v p b c ≤ 6 := by
  unfold stC
  split
  · exact wBits_le _
  · omega
theorem VI_hold {v : VS} {p : Nat} {b c : Int32} (hv : VI v) (hp : p < 6) : VI (wHold v p b c) := by
  have hk := wKeep_meets (sC v (upd (vC v) p (vC v p - wCost b c))) p (wGuests v p b c) (vN v)
  have hvi := hk.VI (show VI (sC v (upd (vC v) p (vC v p - wCost b c))) from hv)
  have h1 : vN (wHold v p b c) = vN (wMeets (sC v (upd (vC v) p (vC v p - wCost b c))) p (wGuests v p b c) (vN v)) := rfl
  have h2 : vX (wHold v p b c) = vX (wMeets (sC v (upd (vC v) p (vC v p - wCost b c))) p (wGuests v p b c) (vN v)) := rfl
  have h3 : vH (wHold v p b c) = vH (wMeets (sC v (upd (vC v) p (vC v p - wCost b c))) p (wGuests v p b c) (vN v)) ||| 2 ^ p := rfl
  refine ⟨by rw [h1]; exact hvi.1, by rw [h2]; exact hvi.2.1, ?_⟩
  rw [h3]
  exact Nat.or_lt_two_pow (n := 6) hvi.2.2 (Nat.pow_lt_pow_right (by decide) hp)
theorem VI_st {v : VS} {p : Nat} {b c : Int32} (hv : VI v) (hp : p < 6) : VI (stV v p b c) := by
  unfold stV
  split
  · exact VI_hold hv hp
  · exact hv
theorem stV_N (v : VS) (p : Nat) (b c : Int32) : vN (stV v p b c) = vN v := by
  unfold stV
  split
  · exact (wKeep_meets (sC v (upd (vC v) p (vC v p - wCost b c))) p (wGuests v p b c) (vN v)).2.2.1
  · rfl
/-- what holds of the search's numbers -/
def QI (q : OQ) : Prop := (∀ k, VI (qV q k)) ∧ qM q ≤ 100 ∧ 1 ≤ vN (qV q 0)
theorem QI_note {came : Nat} {q : OQ} (h : QI q) (hc : came ≤ 36) : QI (oNote came q) := by
  unfold oNote
  split
  · exact h
  · exact ⟨h.1, by show came + 1 ≤ 100; omega, h.2.2⟩
theorem QI_step {d p : Nat} {b c : Int32} {q : OQ} (h : QI q) (hp : p < 6) : QI (oStep d p b c q) := by
  refine ⟨fun k => ?_, h.2.1, ?_⟩
  · show VI (va_up (qV q) (d + 1) (stV (qV q d) p b c) k)
    by_cases e : k = d + 1
    · subst e; rw [va_up_self]; exact VI_st (h.1 d) hp
    · rw [va_up_ne _ _ e]; exact h.1 k
  · show 1 ≤ vN (va_up (qV q) (d + 1) (stV (qV q d) p b c) 0)
    rw [va_up_ne _ _ (by omega)]
    exact h.2.2
theorem QI_tl {F : OQ → Nat → OQ} (hF : ∀ q p, p < 6 → QI q → QI (F q p)) {q : OQ} (h : QI q) : ∀ i, i ≤ 6 → QI (tl F q i)
  | 0, _ => h
  | i + 1, hi => hF _ i (by omega) (QI_tl hF h i (by omega))
theorem QI_ta (b c : Int32) : ∀ (f d left came : Nat) (q : OQ), d + f = 6 → came ≤ 6 * d → QI q → QI (ta b c f d left came q)
  | 0, d, left, came, q, hd, hc, h => QI_note h (by omega)
  | f + 1, d, left, came, q, hd, hc, h => by
    rw [ta_succ]
    split
    · exact QI_note h (by omega)
    · split
      · exact h
      · refine QI_tl (fun q p hp hq => ?_) h 6 (Nat.le_refl 6)
        unfold tlF
        split
        · have := stC_le (qV q d) p b c
          exact QI_ta b c f (d + 1) _ _ _ (by omega) (by omega) (QI_step hq hp)
        · exact hq
theorem clr_bit : ∀ s, s < 64 → ∀ p, p < 6 → s.testBit p = true → (nI s &&& (((1 : Int32) <<< (nI p &&& 31)) ^^^ (-1 : Int32))) = nI (s - 2 ^ p) := by decide +kernel
theorem oNote_w (g : kw_G) (a : Nat → Nat) (ad : Nat → Nat → Nat) (bl ck : Int32) (du si cm : Nat) (q : OQ) (w : va_W) : (w = wO g a ad (if cm < qM q then (qP q, qB q, bl, ck, du, si, qM q) else (qP q, qP q, bl, ck, du, si, cm + 1))) = (w = wO g a ad (qP (oNote cm q), qB (oNote cm q), bl, ck, du, si, qM (oNote cm q))) := by
  unfold oNote
  split <;> rfl
theorem oNote_V (cm : Nat) (q : OQ) : qV (oNote cm q) = qV q := by
  unfold oNote
  split <;> rfl
theorem tlF_QI (b c : Int32) (f d left came : Nat) (hd : d + (f + 1) = 6) (hc : came ≤ 6 * d) : ∀ (q : OQ) (p : Nat), p < 6 → QI q → QI (tlF b c f d left came q p) := by
  intro q p hp hq
  unfold tlF
  split
  · have := stC_le (qV q d) p b c
    exact QI_ta b c f (d + 1) _ _ _ (by omega) (by omega) (QI_step hq hp)
  · exact hq
