/-! reading by the reference: steps -/
section M3
variable {tx : Nat → Nat} {le : Nat}
theorem moP_le (w : Bool) (p : Nat) : moP tx le w p ≤ p + 4 := by
  unfold moP nE
  have := nD_le (tx := tx) (le := le) (p + 1)
  split <;> omega
theorem nE_le (p : Nat) : nE tx le p ≤ p + 3 := by
  unfold nE
  have := nD_le (tx := tx) (le := le) p
  omega
theorem w3_eq (p : Nat) (l0 h0 l1 h1 l2 h2 : Int32) : moW tx le (moW tx le (!nOk tx le (p + 1) l0 h0) (q1 tx le p) l1 h1) (moP tx le (!nOk tx le (p + 1) l0 h0) (q1 tx le p)) l2 h2 = !sy3 tx le p l0 h0 l1 h1 l2 h2 := by
  unfold sy3
  cases e1 : nOk tx le (p + 1) l0 h0 with
  | false => simp [moW]
  | true =>
    cases e2 : isC tx le (q1 tx le p) 44 with
    | false => simp [moW, e2]
    | true =>
      have e3 : moP tx le (!true) (q1 tx le p) = q2 tx le p := by simp [moP, e2, q2]
      rw [e3]
      cases e4 : nOk tx le (q1 tx le p + 1) l1 h1 with
      | false => simp [moW, e2, e4]
      | true =>
        have e5 : moW tx le (!true) (q1 tx le p) l1 h1 = false := by simp [moW, e2, e4]
        rw [e5, moW]
        cases isC tx le (q2 tx le p) 44 <;> cases nOk tx le (q2 tx le p + 1) l2 h2 <;> rfl
/-- three numbers read without a fault -/
theorem w3_ok {p : Nat} {l0 h0 l1 h1 l2 h2 : Int32} (h : sy3 tx le p l0 h0 l1 h1 l2 h2 = true) : nOk tx le (p + 1) l0 h0 = true ∧ moW tx le (!nOk tx le (p + 1) l0 h0) (q1 tx le p) l1 h1 = false ∧ moP tx le (!nOk tx le (p + 1) l0 h0) (q1 tx le p) = q2 tx le p ∧
    moP tx le (moW tx le (!nOk tx le (p + 1) l0 h0) (q1 tx le p) l1 h1) (q2 tx le p) = q3 tx le p ∧ nOk tx le (q1 tx le p + 1) l1 h1 = true ∧ nOk tx le (q2 tx le p + 1) l2 h2 = true := by
  simp only [sy3, Bool.and_eq_true] at h
  obtain ⟨a1, a2, a3, a4, a5⟩ := h
  have e1 : moW tx le (!nOk tx le (p + 1) l0 h0) (q1 tx le p) l1 h1 = false := by simp [moW, a1, a2, a3]
  exact ⟨a1, e1, by simp [moP, a1, a2, q2], by rw [e1]; simp [moP, a4, q3], a3, a5⟩
theorem nOk_lt {p n : Nat} (ht : ∀ k, k < le → tx k < 128) (hn : n ≤ 6) (h : nOk tx le p 0 (nI n - 1) = true) : nV tx le p < n := by
  rw [nOk_K, Bool.and_eq_true] at h
  have h1 := K1_lt ht h.1
  have h2 := h.2
  rw [inr_pin _ (by omega), pin_nI (by omega) (by omega)] at h2
  exact of_decide_eq_true h2
theorem nOk_100 {p : Nat} {l h_ : Int32} (ht : ∀ k, k < le → tx k < 128) (h : nOk tx le p l h_ = true) : nV tx le p < 100 := by
  rw [nOk_K, Bool.and_eq_true] at h
  exact K1_lt ht h.1
theorem nOk_t9 {p : Nat} (ht : ∀ k, k < le → tx k < 128) (h : nOk tx le p 0 9 = true) : nV tx le p ≤ 9 := by
  have h1 := nOk_100 ht h
  rw [nOk_K, Bool.and_eq_true] at h
  have h2 := (inr_nI (x := nV tx le p) (a := 0) (b := 9) (by omega) (by decide) (by decide)).symm.trans h.2
  simp only [Bool.and_eq_true, decide_eq_true_eq] at h2
  exact h2.2
theorem mrd_end {f p : Nat} {u : VS} (h : le ≤ p) : mrd tx le f p u = (-4, u) := by
  cases f with
  | zero => rfl
  | succ f => rw [mrd, if_neg (by omega)]
theorem mE_gt (p c : Nat) : p < mE tx le p c := by
  unfold mE q3 q2 q1 nE
  split <;> omega
theorem VI_mV {p c : Nat} {u : VS} (ht : ∀ k, k < le → tx k < 128) (h : mOk tx le p (vN u) c = true) (hu : VI u) : VI (mVv tx le p c u) := by
  unfold mVv
  have h6 := hu.1
  split
  · rename_i e
    subst e
    have h : (!decide (vN u = 6) && sy3 tx le p 0 4 0 99 0 60) = true := h
    simp only [Bool.and_eq_true, Bool.not_eq_true', decide_eq_false_iff_not] at h
    exact ⟨by show vN u + 1 ≤ 6; omega, hu.2.1, hu.2.2⟩
  · split
    · exact hu
    · split <;> exact hu
theorem TI_mV {p c : Nat} {u : VS} (ht : ∀ k, k < le → tx k < 128) (h : mOk tx le p (vN u) c = true) (hu : TI u) : TI (mVv tx le p c u) := by
  unfold mVv
  split
  · exact hu
  · split
    · rename_i e1 e
      subst e
      have h : (sy3 tx le p 0 (nI (vN u) - 1) 0 (nI (vN u) - 1) 0 9 && !decide (m0 tx le p = m1 tx le p)) = true := h
      simp only [Bool.and_eq_true, sy3] at h
      have h9 : m2 tx le p ≤ 9 := nOk_t9 ht h.1.2.2.2.2
      intro k hk
      show ∃ t, t ≤ 9 ∧ upd (vT u) (m0 tx le p * 6 + m1 tx le p) (nI (m2 tx le p) - 4) k = nI t - 4
      by_cases q : k = m0 tx le p * 6 + m1 tx le p
      · rw [upd_eq _ _ q]; exact ⟨_, h9, rfl⟩
      · rw [upd_ne _ _ q]; exact hu k hk
    · split <;> exact hu
theorem I_mrd (ht : ∀ k, k < le → tx k < 128) : ∀ (f p : Nat) (u : VS), VI u → TI u → VI (mrd tx le f p u).2 ∧ TI (mrd tx le f p u).2
  | 0, _, _, h, k => ⟨h, k⟩
  | f + 1, p, u, h, k => by
    rw [mrd]
    split
    · split
      · rename_i q
        rw [Bool.and_eq_true] at q
        exact I_mrd ht f _ _ (VI_mV ht q.1 h) (TI_mV ht q.1 k)
      · exact ⟨h, k⟩
    · exact ⟨h, k⟩
end M3
theorem TI_vE : TI vE := fun _ _ => ⟨4, by decide, (by decide : (0 : Int32) = nI 4 - 4)⟩
theorem ne4 : ∀ k, k < 200 → nI k ≠ -4 := by decide +kernel
def oFault (tf : Nat → Nat) (tn : Nat) : Int32 := (mrd tf tn 200 0 vE).1
def layOk (tf : Nat → Nat) (tn : Nat) : Bool := decide ((mrd tf tn 200 0 vE).1 = -4) && !decide (vN (mrd tf tn 200 0 vE).2 = 0)
def layV (tf : Nat → Nat) (tn : Nat) (v : VS) : VS := if layOk tf tn = true then (mrd tf tn 200 0 vE).2 else v
def layL (tf : Nat → Nat) (tn : Nat) (us : List VS) : List VS := if layOk tf tn = true then [] else us
def layS (tf : Nat → Nat) (tn : Nat) (s : SS) : SS := if layOk tf tn = true then sSz s 0 else s
def layR (tf : Nat → Nat) (tn : Nat) : Int32 := if layOk tf tn = true then nI (vN (mrd tf tn 200 0 vE).2) else -2
theorem RT_wr {tx tf : Nat → Nat} {le c : Nat} (h : RT tx le tf le) (h2 : le < 200) (hc : c < 128) : RT (va_up tx le c) (le + 1) (va_up tf le c) (le + 1) := by
  refine ⟨rfl, by omega, fun k hk => ?_⟩
  by_cases e : k = le
  · subst e; rw [va_up_self, va_up_self]; exact ⟨rfl, hc⟩
  · rw [va_up_ne _ _ e, va_up_ne _ _ e]; exact h.2.2 k (by omega)
/-- a person told -/
theorem tp_EN {sl : Nat → Int32} {u : VS} {a b m : Nat} (h : EN sl 902 u) (h6 : vN u < 6) : EN (upd sl (902 + vN u) (nI m)) 902 (tpV u a b m) := h.sc (p := vN u) h6 rfl
theorem tp_KE {np : Nat} {ns na : Nat → Int32} {nf : Int32} {u : VS} {a b m : Nat} (h : KE np ns na nf u) : KE (np + 1) (upd ns np (nI a)) (upd na np (nI b)) nf (tpV u a b m) := by
  obtain ⟨h1, h2, h3⟩ := h
  subst h1
  refine ⟨rfl, h2, fun p hp => ?_⟩
  show upd ns (vN u) (nI a) p = upd (vK u) (vN u) (nI a) p ∧ upd na (vN u) (nI b) p = upd (vA u) (vN u) (nI b) p
  by_cases e : p = vN u
  · rw [upd_eq _ _ e, upd_eq _ _ e, upd_eq _ _ e, upd_eq _ _ e]; exact ⟨rfl, rfl⟩
  · rw [upd_ne _ _ e, upd_ne _ _ e, upd_ne _ _ e, upd_ne _ _ e]
    have hp : p < vN u + 1 := hp
    exact h3 p (by omega)
theorem z_EN {z : Nat → Int32} (h : ∀ k, k < 82 → z (902 + k) = 0) : EN z 902 vE :=
  ⟨fun p hp => h p (by omega), h 6 (by omega), h 7 (by omega), h 8 (by omega), h 9 (by omega), fun k hk => by rw [Nat.add_assoc]; exact h (10 + k) (by omega), fun k hk => by rw [Nat.add_assoc]; exact h (46 + k) (by omega)⟩
