/-! the text: letters, numbers, length, place -/
abbrev TS : Type := (Nat → Nat) × (Nat → Nat) × Nat × Nat
def tL (t : TS) : Nat → Nat := t.1
def tM (t : TS) : Nat → Nat := t.2.1
def tN (t : TS) : Nat := t.2.2.1
def tP (t : TS) : Nat := t.2.2.2
def sL (t : TS) (f : Nat → Nat) : TS := (f, t.2)
def sM (t : TS) (f : Nat → Nat) : TS := (t.1, f, t.2.2)
def sTn (t : TS) (k : Nat) : TS := (t.1, t.2.1, k, t.2.2.2)
def sTp (t : TS) (k : Nat) : TS := (t.1, t.2.1, t.2.2.1, k)
def wT (g : kw_G) (a : Nat → Nat) (t : TS) : va_W :=
  [(a 0, .inr (3, [.ref (a 1), .ref (a 2), .int (nI (tN t)), .int (nI (tP t))])), (a 1, .inl (g.2 1, 200, .inl (fun k => nI (tL t k)))), (a 2, .inl (g.2 0, 3, .inl (fun k => nI (tM t k))))]
theorem nI_char : ∀ k, k < 128 → vp_nar .char (nI k) = nI k := by decide +kernel
theorem upd_nI (f : Nat → Nat) (j c : Nat) : upd (fun k => nI (f k)) j (nI c) = fun k => nI (va_up f j c k) := by
  funext k
  by_cases h : k = j
  · subst h; simp [upd, va_up]
  · simp [upd, va_up, h]
theorem wT_putL (g : kw_G) (a : Nat → Nat) (t : TS) (j c : Nat) (hc : c < 128) : (wT g a t).set 1 (a 1, .inl (g.2 1, 200, .inl (upd (fun k => nI (tL t k)) j (vp_nar .char (nI c))))) = wT g a (sL t (va_up (tL t) j c)) := by
  rw [nI_char c hc, upd_nI]; rfl
theorem wT_putM (g : kw_G) (a : Nat → Nat) (t : TS) (j c : Nat) : (wT g a t).set 2 (a 2, .inl (g.2 0, 3, .inl (upd (fun k => nI (tM t k)) j (nI c)))) = wT g a (sM t (va_up (tM t) j c)) := by
  rw [upd_nI]; rfl
/-- letters and numbers as they can be -/
def TSI (t : TS) : Prop := tN t ≤ 200 ∧ (∀ j, j < tN t → tL t j < 128) ∧ ∀ k, k < 3 → tM t k < 100
def tFig (t : TS) : Bool := decide (tP t < tN t) && (decide (48 ≤ tL t (tP t)) && decide (tL t (tP t) ≤ 57))
def tCh (t : TS) : Nat := if tP t < tN t then tL t (tP t) else 32
def tNx (t : TS) : TS := if tP t < tN t then sTp t (tP t + 1) else t
def tNum (t : TS) : Nat := if tFig (tNx t) = true then 10 * (tCh t - 48) + (tCh (tNx t) - 48) else tCh t - 48
def tNx2 (t : TS) : TS := if tFig (tNx t) = true then tNx (tNx t) else tNx t
def tRd (t : TS) (k : Nat) : TS := if tFig t = true then sM (tNx2 t) (va_up (tM (tNx2 t)) k (tNum t)) else t
theorem tCh_fig {t : TS} (h : tFig t = true) : 48 ≤ tCh t ∧ tCh t ≤ 57 := by
  simp only [tFig, Bool.and_eq_true, decide_eq_true_eq] at h
  simp only [tCh, h.1, if_true]
  exact h.2
theorem tNx_same (t : TS) : tL (tNx t) = tL t ∧ tN (tNx t) = tN t ∧ tM (tNx t) = tM t := by
  unfold tNx
  split <;> exact ⟨rfl, rfl, rfl⟩
theorem tNx_le {t : TS} (h : tP t ≤ tN t) : tP (tNx t) ≤ tN t := by
  unfold tNx
  split
  · show tP t + 1 ≤ tN t
    omega
  · exact h
theorem TSI_nx {t : TS} (h : TSI t) : TSI (tNx t) := by
  obtain ⟨e1, e2, e3⟩ := tNx_same t
  refine ⟨by rw [e2]; exact h.1, ?_, ?_⟩
  · rw [e1, e2]; exact h.2.1
  · rw [e3]; exact h.2.2
theorem tNum_lt {t : TS} (h : tFig t = true) : tNum t < 100 := by
  have h1 := tCh_fig h
  unfold tNum
  split
  · rename_i h2
    have h3 := tCh_fig h2
    omega
  · omega
theorem tNx2_same (t : TS) : tL (tNx2 t) = tL t ∧ tN (tNx2 t) = tN t ∧ tM (tNx2 t) = tM t := by
  obtain ⟨a1, a2, a3⟩ := tNx_same t
  obtain ⟨b1, b2, b3⟩ := tNx_same (tNx t)
  unfold tNx2
  split
  · exact ⟨b1.trans a1, b2.trans a2, b3.trans a3⟩
  · exact ⟨a1, a2, a3⟩
theorem tRd_same (t : TS) (k : Nat) : tL (tRd t k) = tL t ∧ tN (tRd t k) = tN t := by
  obtain ⟨a1, a2, a3⟩ := tNx2_same t
  unfold tRd
  split
  · exact ⟨a1, a2⟩
  · exact ⟨rfl, rfl⟩
theorem TSI_rd {t : TS} (h : TSI t) (k : Nat) : TSI (tRd t k) := by
  obtain ⟨a1, a2⟩ := tRd_same t k
  refine ⟨by rw [a2]; exact h.1, ?_, ?_⟩
  · rw [a1, a2]; exact h.2.1
  · intro j hj
    unfold tRd
    split
    · rename_i hf
      show va_up (tM (tNx2 t)) k (tNum t) j < 100
      by_cases q : j = k
      · subst q; rw [va_up_self]; exact tNum_lt hf
      · rw [va_up_ne _ _ q, (tNx2_same t).2.2]; exact h.2.2 j hj
    · exact h.2.2 j hj
theorem TSI_p {t : TS} (h : TSI t) (k : Nat) : TSI (sTp t k) := h
theorem tCh_lt {t : TS} (h : TSI t) : tCh t < 128 := by
  unfold tCh
  split
  · rename_i q; exact h.2.1 _ q
  · decide
/-! an item -/
def tlOk (m : Nat → Nat) (v : VS) (c : Nat) : Bool := if c = 103 then decide (1 ≤ m 0) else if c = 111 then tdOk v (m 0) (m 1) (m 2) else if c = 112 then tpOk v (m 0) (m 2) else if c = 116 then ttOk v (m 0) (m 1) (m 2) else false
def tlV (m : Nat → Nat) (v : VS) (c : Nat) : VS := if tlOk m v c = true then (if c = 103 then sG v (nI (m 0)) else if c = 111 then tdV v (m 0) (m 1) (m 2) else if c = 112 then tpV v (m 0) (m 1) (m 2) else ttV v (m 0) (m 1) (m 2)) else v
def tOk (t : TS) (k c : Nat) : Bool := tFig t && decide (tCh (tRd t k) = c)
def tSt (t : TS) (k : Nat) : TS := tNx (tRd t k)
def i1 (t : TS) : TS := tSt (tNx t) 0
def i2 (t : TS) : TS := tSt (i1 t) 1
def i3 (t : TS) : TS := tSt (i2 t) 2
def iSyn (t : TS) : Bool := if tCh t = 103 then tOk (tNx t) 0 59 else tOk (tNx t) 0 44 && (tOk (i1 t) 1 44 && tOk (i2 t) 2 59)
def iT (t : TS) : TS := if tCh t = 103 then i1 t else i3 t
def iOk (t : TS) (v : VS) : Bool := iSyn t && tlOk (tM (iT t)) v (tCh t)
def iV (t : TS) (v : VS) : VS := if iSyn t = true then tlV (tM (iT t)) v (tCh t) else v
def rd : Nat → TS → VS → Int32 × VS
  | 0, _, v => (-4, v)
  | f + 1, t, v => if tP t < tN t then (if iOk t v = true then rd f (iT t) (iV t v) else (nI (tP t), v)) else (-4, v)
theorem TSI_st {t : TS} (h : TSI t) (k : Nat) : TSI (tSt t k) := TSI_nx (TSI_rd h k)
theorem tSt_same (t : TS) (k : Nat) : tL (tSt t k) = tL t ∧ tN (tSt t k) = tN t := ⟨(tNx_same _).1.trans (tRd_same t k).1, (tNx_same _).2.1.trans (tRd_same t k).2⟩
theorem iT_same (t : TS) : tL (iT t) = tL t ∧ tN (iT t) = tN t := by
  have a := tNx_same t
  have b := tSt_same (tNx t) 0
  have c := tSt_same (i1 t) 1
  have d := tSt_same (i2 t) 2
  have e1 : tL (i1 t) = tL t ∧ tN (i1 t) = tN t := ⟨b.1.trans a.1, b.2.trans a.2.1⟩
  have e2 : tL (i2 t) = tL t ∧ tN (i2 t) = tN t := ⟨c.1.trans e1.1, c.2.trans e1.2⟩
  have e3 : tL (i3 t) = tL t ∧ tN (i3 t) = tN t := ⟨d.1.trans e2.1, d.2.trans e2.2⟩
  unfold iT
  split
  · exact e1
  · exact e3
theorem TSI_iT {t : TS} (h : TSI t) : TSI (iT t) := by
  unfold iT
  split
  · exact TSI_st (TSI_nx h) 0
  · exact TSI_st (TSI_st (TSI_st (TSI_nx h) 0) 1) 2
theorem VI_tl {m : Nat → Nat} {v : VS} {c : Nat} (hv : VI v) : VI (tlV m v c) := by
  unfold tlV
  split
  · rename_i h
    split
    · exact hv
    · split
      · exact hv
      · split
        · rename_i h1 h2 h3
          subst h3
          have : tlOk m v 112 = tpOk v (m 0) (m 2) := rfl
          rw [this] at h
          simp only [tpOk, Bool.and_eq_true, decide_eq_true_eq] at h
          exact ⟨h.1, hv.2.1, hv.2.2⟩
        · exact hv
  · exact hv
theorem VI_iV {t : TS} {v : VS} (hv : VI v) : VI (iV t v) := by
  unfold iV
  split
  · exact VI_tl hv
  · exact hv
theorem VI_vE : VI vE := ⟨by decide, by decide, by decide⟩
theorem VI_rd : ∀ (f : Nat) (t : TS) (v : VS), VI v → VI (rd f t v).2
  | 0, _, v, h => h
  | f + 1, t, v, h => by
    rw [rd]
    split
    · split
      · exact VI_rd f _ _ (VI_iV h)
      · exact h
    · exact h
theorem nI_charN0 : ∀ k, k < 128 → narrow .char (.int (nI k)) = .int (nI k) := by decide +kernel
theorem nI_charN {k : Nat} (h : k < 128) : narrow .char (.int (nI k)) = .int (nI k) := nI_charN0 k h
theorem tNx_hp {t : TS} (h : tP t ≤ tN t) : tP (tNx t) ≤ tN (tNx t) := by rw [(tNx_same t).2.1]; exact tNx_le h
theorem tRd_hp {t : TS} (h : tP t ≤ tN t) (k : Nat) : tP (tRd t k) ≤ tN (tRd t k) := by
  unfold tRd
  split
  · show tP (tNx2 t) ≤ tN (tNx2 t)
    unfold tNx2
    split
    · exact tNx_hp (tNx_hp h)
    · exact tNx_hp h
  · exact h
theorem same_nx {t u : TS} (h : tL u = tL t ∧ tN u = tN t) : tL (tNx u) = tL t ∧ tN (tNx u) = tN t := ⟨(tNx_same u).1.trans h.1, (tNx_same u).2.1.trans h.2⟩
theorem same_rd {t u : TS} (h : tL u = tL t ∧ tN u = tN t) (k : Nat) : tL (tRd u k) = tL t ∧ tN (tRd u k) = tN t := ⟨(tRd_same u k).1.trans h.1, (tRd_same u k).2.trans h.2⟩
theorem iT_hp {t : TS} (h : tP t ≤ tN t) : tP (iT t) ≤ tN (iT t) := by
  have h1 := tNx_hp h
  have h2 : tP (i1 t) ≤ tN (i1 t) := tNx_hp (tRd_hp h1 0)
  unfold iT
  split
  · exact h2
  · exact tNx_hp (tRd_hp (tNx_hp (tRd_hp h2 1)) 2)
theorem iV_no {t : TS} {v : VS} (h : iOk t v = false) : iV t v = v := by
  unfold iV
  split
  · rename_i q
    rw [iOk, q, Bool.true_and] at h
    rw [tlV, if_neg (by rw [h]; decide)]
  · rfl
