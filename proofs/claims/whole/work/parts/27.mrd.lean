/-! reading, place by place -/
def rCh (tx : Nat → Nat) (le p : Nat) : Int32 := if p < le then nI (tx p) else -1
def fg (tx : Nat → Nat) (le p : Nat) : Bool := inr (rCh tx le p) 48 57
def nD (tx : Nat → Nat) (le p : Nat) : Nat := if fg tx le p = true then (if fg tx le (p + 1) = true then (if fg tx le (p + 2) = true then 3 else 2) else 1) else 0
def nV (tx : Nat → Nat) (le p : Nat) : Nat := if fg tx le (p + 1) = true then 10 * (tx p - 48) + tx (p + 1) - 48 else tx p - 48
def nOk (tx : Nat → Nat) (le p : Nat) (lo hi : Int32) : Bool := fg tx le p && (!(fg tx le (p + 1) && fg tx le (p + 2)) && inr (nI (nV tx le p)) lo hi)
def isC (tx : Nat → Nat) (le p : Nat) (c : Int32) : Bool := decide (rCh tx le p = c)
def nE (tx : Nat → Nat) (le p : Nat) : Nat := p + nD tx le p
def moP (tx : Nat → Nat) (le : Nat) (w : Bool) (p : Nat) : Nat := if (w || !isC tx le p 44) = true then p + 1 else nE tx le (p + 1)
def moW (tx : Nat → Nat) (le : Nat) (w : Bool) (p : Nat) (lo hi : Int32) : Bool := w || (!isC tx le p 44 || !nOk tx le (p + 1) lo hi)
def q1 (tx : Nat → Nat) (le p : Nat) : Nat := nE tx le (p + 1)
def q2 (tx : Nat → Nat) (le p : Nat) : Nat := nE tx le (q1 tx le p + 1)
def q3 (tx : Nat → Nat) (le p : Nat) : Nat := nE tx le (q2 tx le p + 1)
def m0 (tx : Nat → Nat) (le p : Nat) : Nat := nV tx le (p + 1)
def m1 (tx : Nat → Nat) (le p : Nat) : Nat := nV tx le (q1 tx le p + 1)
def m2 (tx : Nat → Nat) (le p : Nat) : Nat := nV tx le (q2 tx le p + 1)
/-- three numbers with commas between them -/
def sy3 (tx : Nat → Nat) (le p : Nat) (l0 h0 l1 h1 l2 h2 : Int32) : Bool := nOk tx le (p + 1) l0 h0 && (isC tx le (q1 tx le p) 44 && (nOk tx le (q1 tx le p + 1) l1 h1 && (isC tx le (q2 tx le p) 44 && nOk tx le (q2 tx le p + 1) l2 h2)))
def mOk (tx : Nat → Nat) (le p n : Nat) (c : Nat) : Bool :=
  if c = 112 then !decide (n = 6) && sy3 tx le p 0 4 0 99 0 60
  else if c = 116 then sy3 tx le p 0 (nI n - 1) 0 (nI n - 1) 0 9 && !decide (m0 tx le p = m1 tx le p)
  else if c = 111 then sy3 tx le p 0 (nI n - 1) 0 (nI n - 1) 0 60 && !decide (m0 tx le p = m1 tx le p)
  else if c = 103 then nOk tx le (p + 1) 1 99 else false
def mVv (tx : Nat → Nat) (le p : Nat) (c : Nat) (u : VS) : VS :=
  if c = 112 then tpV u (m0 tx le p) (m1 tx le p) (m2 tx le p) else if c = 116 then ttV u (m0 tx le p) (m1 tx le p) (m2 tx le p) else if c = 111 then tdV u (m0 tx le p) (m1 tx le p) (m2 tx le p) else sG u (nI (m0 tx le p))
def mE (tx : Nat → Nat) (le p c : Nat) : Nat := if c = 103 then q1 tx le p else q3 tx le p
def mrd (tx : Nat → Nat) (le : Nat) : Nat → Nat → VS → Int32 × VS
  | 0, _, u => (-4, u)
  | f + 1, p, u => if p < le then (if (mOk tx le p (vN u) (tx p) && isC tx le (mE tx le p (tx p)) 59) = true then mrd tx le f (mE tx le p (tx p) + 1) (mVv tx le p (tx p) u) else (nI p, u)) else (-4, u)
section MR
variable {tx : Nat → Nat} {le : Nat}
theorem fg_t {p : Nat} (ht : ∀ k, k < le → tx k < 128) (h : fg tx le p = true) : p < le ∧ 48 ≤ tx p ∧ tx p ≤ 57 := by
  obtain ⟨k, k1, k2, k3, k4⟩ := inr_n (a := 48) (b := 57) (by decide) (by decide) h
  unfold rCh at k3
  split at k3
  · rename_i hp
    have := ht p hp
    have e := (nI_eq (by omega) (by omega)).mp k3
    exact ⟨hp, by omega, by omega⟩
  · exfalso
    have : k ≤ 57 → (-1 : Int32) ≠ nI k := by
      intro hk
      have : ∀ k, k < 58 → (-1 : Int32) ≠ nI k := by decide +kernel
      exact this k (by omega)
    exact this k2 k3
theorem fg_i {p : Nat} (ht : ∀ k, k < le → tx k < 128) (h1 : p < le) (h2 : 48 ≤ tx p) (h3 : tx p ≤ 57) : fg tx le p = true := by
  unfold fg rCh
  rw [if_pos h1]
  have : ∀ k, k < 58 → 48 ≤ k → inr (nI k) 48 57 = true := by decide +kernel
  exact this _ (by omega) h2
theorem isC_t {p : Nat} {c : Nat} (ht : ∀ k, k < le → tx k < 128) (hc : c < 128) (h : isC tx le p (nI c) = true) : p < le ∧ tx p = c := by
  have h := of_decide_eq_true h
  unfold rCh at h
  split at h
  · rename_i hp
    have := ht p hp
    exact ⟨hp, (nI_eq (by omega) (by omega)).mp h⟩
  · exfalso
    have : ∀ k, k < 128 → (-1 : Int32) ≠ nI k := by decide +kernel
    exact this c hc h
theorem isC_i {p c : Nat} (h1 : p < le) (h2 : tx p = c) : isC tx le p (nI c) = true := by
  unfold isC rCh
  rw [if_pos h1, h2]
  exact decide_eq_true rfl
theorem nD_le (p : Nat) : nD tx le p ≤ 3 := by
  unfold nD
  repeat' split
  all_goals omega
theorem nV_lt {p : Nat} (ht : ∀ k, k < le → tx k < 128) (h : fg tx le p = true) : nV tx le p < 100 := by
  have h1 := fg_t ht h
  unfold nV
  split
  · rename_i h2
    have h3 := fg_t ht h2
    omega
  · omega
/-- a text that has these letters -/
def Agr (tx : Nat → Nat) (le : Nat) (t : TS) : Prop := tN t = le ∧ ∀ k, k < le → tL t k = tx k
theorem Agr.same {t u : TS} (h : Agr tx le t) (hs : tL u = tL t ∧ tN u = tN t) : Agr tx le u := ⟨by rw [hs.2]; exact h.1, by rw [hs.1]; exact h.2⟩
theorem ag_fig {t : TS} (h : Agr tx le t) (ht : ∀ k, k < le → tx k < 128) : tFig t = fg tx le (tP t) := by
  cases e : fg tx le (tP t) with
  | true =>
    obtain ⟨h1, h2, h3⟩ := fg_t ht e
    have h4 := h.2 _ h1
    simp [tFig, h.1, h1, h4, h2, h3]
  | false =>
    cases e2 : tFig t with
    | false => rfl
    | true =>
      simp only [tFig, Bool.and_eq_true, decide_eq_true_eq] at e2
      obtain ⟨h1, h2, h3⟩ := e2
      rw [h.1] at h1
      rw [h.2 _ h1] at h2 h3
      rw [fg_i ht h1 h2 h3] at e
      cases e
theorem ag_ch {t : TS} (h : Agr tx le t) (ht : ∀ k, k < le → tx k < 128) {c : Nat} (hc : c < 128) (hc2 : c ≠ 32) : decide (tCh t = c) = isC tx le (tP t) (nI c) := by
  cases e : isC tx le (tP t) (nI c) with
  | true =>
    obtain ⟨h1, h2⟩ := isC_t ht hc e
    rw [tCh, h.1, if_pos h1, h.2 _ h1, h2]
    exact decide_eq_true rfl
  | false =>
    refine decide_eq_false (fun q => ?_)
    unfold tCh at q
    rw [h.1] at q
    split at q
    · rename_i h1
      rw [h.2 _ h1] at q
      rw [isC_i h1 q] at e
      cases e
    · exact hc2 q.symm
theorem ag_nx {t : TS} (h : Agr tx le t) (hp : tP t < le) : tP (tNx t) = tP t + 1 := by
  rw [tNx, if_pos (by rw [h.1]; exact hp)]; rfl
/-- reading a number and one letter that is no figure -/
theorem ag_num {t : TS} (h : Agr tx le t) (ht : ∀ k, k < le → tx k < 128) (k : Nat) {c : Nat} (hc : c = 44 ∨ c = 59) :
    tOk t k c = (fg tx le (tP t) && (!(fg tx le (tP t + 1) && fg tx le (tP t + 2)) && isC tx le (nE tx le (tP t)) (nI c))) ∧
    (tOk t k c = true → tP (tSt t k) = nE tx le (tP t) + 1 ∧ tM (tSt t k) = va_up (tM t) k (nV tx le (tP t)) ∧ Agr tx le (tSt t k)) := by
  have hf := ag_fig h ht
  have hag : Agr tx le (tSt t k) := h.same (tSt_same t k)
  cases e : fg tx le (tP t) with
  | false =>
    rw [e] at hf
    constructor
    · simp [tOk, hf]
    · intro q; simp [tOk, hf] at q
  | true =>
    rw [e] at hf
    obtain ⟨h1, h2, h3⟩ := fg_t ht e
    have hn1 := ag_nx h h1
    have ha1 : Agr tx le (tNx t) := h.same ⟨(tNx_same t).1, (tNx_same t).2.1⟩
    have hf1 := ag_fig ha1 ht
    rw [hn1] at hf1
    have hct : tCh t = tx (tP t) := by rw [tCh, h.1, if_pos h1, h.2 _ h1]
    cases e1 : fg tx le (tP t + 1) with
    | false =>
      rw [e1] at hf1
      have hr : tRd t k = sM (tNx t) (va_up (tM (tNx t)) k (tCh t - 48)) := by rw [tRd, if_pos hf, tNx2, if_neg (by simp [hf1]), tNum, if_neg (by simp [hf1])]
      have hpr : tP (tRd t k) = tP t + 1 := by rw [hr]; exact hn1
      have har : Agr tx le (tRd t k) := h.same (tRd_same t k)
      have hD : nE tx le (tP t) = tP t + 1 := by simp [nE, nD, e, e1]
      have ho : tOk t k c = isC tx le (tP t + 1) (nI c) := by
        rw [tOk, hf, Bool.true_and, ag_ch har ht (by rcases hc with c | c <;> omega) (by rcases hc with c | c <;> omega), hpr]
      constructor
      · rw [ho, hD]; simp
      · intro q
        rw [ho] at q
        have hq := isC_t ht (by rcases hc with c | c <;> omega) q
        refine ⟨?_, ?_, hag⟩
        · show tP (tNx (tRd t k)) = _
          rw [ag_nx har (by rw [hpr]; exact hq.1), hpr, hD]
        · show tM (tNx (tRd t k)) = _
          rw [(tNx_same _).2.2, hr]
          show va_up (tM (tNx t)) k (tCh t - 48) = _
          rw [(tNx_same t).2.2, hct, nV, if_neg (by simp [e1])]
    | true =>
      rw [e1] at hf1
      obtain ⟨h4, h5, h6⟩ := fg_t ht e1
      have hn2 : tP (tNx (tNx t)) = tP t + 2 := by rw [ag_nx ha1 (by rw [hn1]; exact h4), hn1]
      have hct1 : tCh (tNx t) = tx (tP t + 1) := by rw [tCh, ha1.1, hn1, if_pos h4, ha1.2 _ h4]
      have hr : tRd t k = sM (tNx (tNx t)) (va_up (tM (tNx (tNx t))) k (10 * (tCh t - 48) + (tCh (tNx t) - 48))) := by rw [tRd, if_pos hf, tNx2, if_pos hf1, tNum, if_pos hf1]
      have hpr : tP (tRd t k) = tP t + 2 := by rw [hr]; exact hn2
      have har : Agr tx le (tRd t k) := h.same (tRd_same t k)
      have ho : tOk t k c = isC tx le (tP t + 2) (nI c) := by
        rw [tOk, hf, Bool.true_and, ag_ch har ht (by rcases hc with c | c <;> omega) (by rcases hc with c | c <;> omega), hpr]
      cases e2 : fg tx le (tP t + 2) with
      | false =>
        have hD : nE tx le (tP t) = tP t + 2 := by simp [nE, nD, e, e1, e2]
        constructor
        · rw [ho, hD]; simp
        · intro q
          rw [ho] at q
          have hq := isC_t ht (by rcases hc with c | c <;> omega) q
          refine ⟨?_, ?_, hag⟩
          · show tP (tNx (tRd t k)) = _
            rw [ag_nx har (by rw [hpr]; exact hq.1), hpr, hD]
          · show tM (tNx (tRd t k)) = _
            rw [(tNx_same _).2.2, hr]
            show va_up (tM (tNx (tNx t))) k _ = _
            rw [(tNx_same _).2.2, (tNx_same t).2.2, hct, hct1, nV, if_pos e1]
            congr 1
            omega
      | true =>
        obtain ⟨h7, h8, h9⟩ := fg_t ht e2
        have hno : isC tx le (tP t + 2) (nI c) = false := by
          cases q : isC tx le (tP t + 2) (nI c) with
          | false => rfl
          | true =>
            have := isC_t ht (by rcases hc with c | c <;> omega) q
            rcases hc with c | c <;> omega
        constructor
        · rw [ho, hno]; simp
        · intro q
          rw [ho, hno] at q
          cases q
end MR
