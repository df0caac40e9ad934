theorem i2c_n : ∀ k, k < 128 → ((nI k).toUInt32 % 65536).toInt32 = nI k := by decide +kernel
theorem XT_wr {t : TS} {tf : Nat → Nat} {tn c : Nat} (h : XT t tf tn) (h2 : tn < 200) (hc : c < 128) : XT (sTn (sL t (va_up (tL t) (tN t) c)) (tN t + 1)) (va_up tf tn c) (tn + 1) := by
  obtain ⟨⟨h3, h4, h5⟩, h6, h7⟩ := h
  subst h6
  refine ⟨⟨by show tN t + 1 ≤ 200; omega, fun j hj => ?_, h5⟩, rfl, fun k hk => ?_⟩
  · have hj : j < tN t + 1 := hj
    show va_up (tL t) (tN t) c j < 128
    by_cases e : j = tN t
    · rw [e, va_up_self]; exact hc
    · rw [va_up_ne _ _ e]; exact h4 j (by omega)
  · show va_up (tL t) (tN t) c k = va_up tf (tN t) c k
    by_cases e : k = tN t
    · rw [e, va_up_self, va_up_self]
    · rw [va_up_ne _ _ e, va_up_ne _ _ e]; exact h7 k (by omega)
theorem NZ_vE : NZ vE := ⟨fun _ _ => ⟨rfl, rfl, rfl⟩, fun _ _ => ⟨rfl, rfl⟩⟩
theorem NZ_mV {tx : Nat → Nat} {le p c : Nat} {u : VS} (ht : ∀ k, k < le → tx k < 128) (h : mOk tx le p (vN u) c = true) (hu : VI u) (hz : NZ u) : NZ (mVv tx le p c u) := by
  have h6 := hu.1
  unfold mVv
  split
  · rename_i e
    subst e
    have h : (!decide (vN u = 6) && sy3 tx le p 0 4 0 99 0 60) = true := h
    simp only [Bool.and_eq_true, Bool.not_eq_true', decide_eq_false_iff_not] at h
    have hn := h.1
    exact ⟨fun k hk => ⟨(upd_ne (vK u) _ (by omega)).trans (hz.1 k hk).1, (upd_ne (vA u) _ (by omega)).trans (hz.1 k hk).2.1, (upd_ne (vC u) _ (by omega)).trans (hz.1 k hk).2.2⟩, hz.2⟩
  · split
    · rename_i e1 e
      subst e
      have h : (sy3 tx le p 0 (nI (vN u) - 1) 0 (nI (vN u) - 1) 0 9 && !decide (m0 tx le p = m1 tx le p)) = true := h
      simp only [Bool.and_eq_true, sy3] at h
      have a : m0 tx le p < vN u := nOk_lt ht h6 h.1.1
      have b : m1 tx le p < vN u := nOk_lt ht h6 h.1.2.2.1
      exact ⟨hz.1, fun k hk => ⟨(upd_ne (vT u) _ (by omega)).trans (hz.2 k hk).1, (hz.2 k hk).2⟩⟩
    · split
      · rename_i e1 e2 e
        subst e
        have h : (sy3 tx le p 0 (nI (vN u) - 1) 0 (nI (vN u) - 1) 0 60 && !decide (m0 tx le p = m1 tx le p)) = true := h
        simp only [Bool.and_eq_true, sy3] at h
        have a : m0 tx le p < vN u := nOk_lt ht h6 h.1.1
        have b : m1 tx le p < vN u := nOk_lt ht h6 h.1.2.2.1
        exact hz.debt (k0 := m0 tx le p * 6 + m1 tx le p) (by omega) _
      · exact hz
theorem NZ_mrd {tx : Nat → Nat} {le : Nat} (ht : ∀ k, k < le → tx k < 128) : ∀ (f p : Nat) (u : VS), VI u → NZ u → NZ (mrd tx le f p u).2
  | 0, _, _, _, k => k
  | f + 1, p, u, h, k => by
    rw [mrd]
    split
    · split
      · rename_i q
        rw [Bool.and_eq_true] at q
        exact NZ_mrd ht f _ _ (VI_mV ht q.1 h) (NZ_mV ht q.1 h k)
      · exact k
    · exact k
