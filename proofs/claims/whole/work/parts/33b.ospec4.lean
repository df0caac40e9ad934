theorem n2_lt : ∀ t, t ≤ 10 → (nI t - 2 < 0 ↔ t < 2) := by decide +kernel
theorem n2_2 : ∀ u, u ≤ 10 → nI (u + 2) - 2 = nI u := by decide +kernel
theorem n2_d : ∀ u, u ≤ 10 → nI u + (-1 : Int32) = nI (u + 1) - 2 := by decide +kernel
theorem dec_n0 : ∀ e, e ≤ 10 → nI (e + 1) + (-1 : Int32) = nI e := by decide +kernel
theorem dec_n {e : Nat} (h : 1 ≤ e) (h2 : e ≤ 10) : nI e + (-1 : Int32) = nI (e - 1) := by
  have := dec_n0 (e - 1) (by omega)
  rwa [show e - 1 + 1 = e by omega] at this
theorem sw_up (ro : Nat → Nat) (u j q : Nat) (h : u ≠ j) : va_up (va_up ro u (ro j)) j (ro u) q = swl ro u j q := by
  unfold swl
  by_cases c1 : q = j
  · subst c1; rw [va_up_self, if_neg (by omega), if_pos rfl]
  · rw [va_up_ne _ _ c1]
    by_cases c2 : q = u
    · subst c2; rw [va_up_self, if_pos rfl]
    · rw [va_up_ne _ _ c2, if_neg c2, if_neg c1]
def RVS (W y : Nat → Nat) (u m s e : Nat) : Prop := ∀ q, q < m → y q = if (u < q ∧ q < s) ∨ e < q then W (u + m - q) else W q
theorem rev_step {W y : Nat → Nat} {u m s e : Nat} (hy : RVS W y u m s e) (h1 : s + e = u + m) (h2 : u + 1 ≤ s) (h3 : e < m) (h4 : s < e) : RVS W (va_up (va_up y s (y e)) e (y s)) u m (s + 1) (e - 1) := by
  intro q hq
  by_cases c1 : q = e
  · subst c1
    rw [va_up_self, hy s (by omega), if_neg (by omega), if_pos (by omega), show u + m - q = s by omega]
  · rw [va_up_ne _ _ c1]
    by_cases c2 : q = s
    · subst c2
      rw [va_up_self, hy e h3, if_neg (by omega), if_pos (by omega), show u + m - q = e by omega]
    · rw [va_up_ne _ _ c2, hy q hq]
      by_cases c3 : (u < q ∧ q < s) ∨ e < q
      · rw [if_pos c3, if_pos (by omega)]
      · rw [if_neg c3, if_neg (by omega)]
theorem nxt_fin {ro y : Nat → Nat} {u j m s e : Nat} (hy : RVS (swl ro u j) y u m s e) (h1 : s + e = u + m) (h2 : u + 1 ≤ s) (h3 : e < m) (h4 : s ≤ e + 1) (h5 : e ≤ s) (hj : u < j) : ∀ q, q < m → y q = rsl ro m u j q := by
  intro q hq
  rw [hy q hq, rsl]
  by_cases c1 : q < u
  · rw [if_pos c1, if_neg (by omega), swl, if_neg (by omega), if_neg (by omega)]
  · rw [if_neg c1]
    by_cases c2 : q = u
    · subst c2
      rw [if_pos rfl, if_neg (by omega), swl, if_pos rfl]
    · rw [if_neg c2]
      by_cases c3 : (u < q ∧ q < s) ∨ e < q
      · rw [if_pos c3]
      · rw [if_neg c3, show u + m - q = q by omega]
theorem nxt_bd {ro ro' : Nat → Nat} {m n : Nat} {r : Bool} (h : NXT ro ro' m r) (hb : ∀ q, q < m → ro q < n) : ∀ q, q < m → ro' q < n := by
  rcases h with ⟨-, e, -⟩ | ⟨-, k, j, p1, -, -, p4, -, -, p7⟩
  · rw [e]; exact hb
  · intro q hq
    rw [p7 q hq, rsl]
    split
    · exact hb q hq
    · split
      · exact hb j p4
      · rw [swl]
        split
        · exact hb j p4
        · split
          · exact hb k (by omega)
          · exact hb _ (by omega)
theorem ord_step {rest : List (List Nat)} {l : List Nat} {r : List (List Nat)} {ro1 ro2 : Nat → Nat} {m : Nat} {gb : Bool} (e : rest = l :: r) (hc : chain rest = true) (ha : AG ro1 l) (hl : l.length = m) (h6 : m ≤ 6) (hn : NXT ro1 ro2 m gb) :
    gb = !r.isEmpty ∧ (r ≠ [] → chain r = true ∧ ∃ l' r', r = l' :: r' ∧ AG ro2 l' ∧ l'.length = m) := by
  subst e hl
  cases r with
  | nil => exact ⟨nxt_lst ha h6 hc hn, fun h => absurd rfl h⟩
  | cons l' r' =>
    have hc : (chk l l' && chain (l' :: r')) = true := hc
    rw [Bool.and_eq_true] at hc
    obtain ⟨h1, h2, h3⟩ := nxt_chk ha h6 hc.1 hn
    exact ⟨h1, fun _ => ⟨hc.2, l', r', rfl, h2, h3⟩⟩
theorem GV.st {pe : Nat} {so ag : Nat → Int32} {fr : Int32} {v : VS} (h : GV pe so ag fr v) {p : Nat} (hp : p < 6) (b c : Int32) : GV pe so ag fr (stV v p b c) := by
  unfold stV
  split
  · exact h.hold hp b c
  · exact h
theorem GV.eV {pe : Nat} {so ag : Nat → Int32} {fr : Int32} {v : VS} (h : GV pe so ag fr v) (b c : Int32) {ro : Nat → Nat} {m : Nat} (hr : ∀ q, q < m → ro q < 6) : ∀ i, i ≤ m → GV pe so ag fr (eV b c v ro i)
  | 0, _ => h
  | i + 1, hi => (GV.eV h b c hr i (by omega)).st (hr i (by omega)) b c
theorem due_len (v : VS) (h6 : vN v ≤ 6) : (dL v (vN v)).length = wBits (sDue v (vN v)) := by
  rw [dL_set v h6]
  exact (chain_s (sDue_64 v h6)).2.2
theorem due_head (v : VS) (h6 : vN v ≤ 6) : ∃ r, lexS 6 (sDue v (vN v)) = dL v (vN v) :: r := by
  have := (chain_s (sDue_64 v h6)).2.1
  rw [dL_set v h6]
  cases e : lexS 6 (sDue v (vN v)) with
  | nil => rw [e] at this; cases this
  | cons l r =>
    rw [e] at this
    simp only [List.head?_cons, Option.some.injEq] at this
    exact ⟨r, by rw [this]⟩
theorem AG.bd {ro : Nat → Nat} {l : List Nat} {n : Nat} (h : AG ro l) (hb : ∀ q ∈ l, q < n) : ∀ q, q < l.length → ro q < n := by
  intro q hq
  rw [← h q hq]
  have : l.getD q 0 = l[q] := by simp [List.getD_eq_getElem?_getD, List.getElem?_eq_getElem hq]
  rw [this]
  exact hb _ (List.getElem_mem hq)
theorem fold_cons (b c : Int32) (v : VS) (l : List Nat) (r : List (List Nat)) (q : Nat × List Nat) : foldB b c v (l :: r) q = foldB b c v r (fS b c v l q) := rfl
theorem eS_36 (b c : Int32) {v : VS} {ro : Nat → Nat} {l : List Nat} {m : Nat} (h : AG ro l) (hl : l.length = m) : eC b c v ro m = eS b c v l := by rw [← hl]; exact eC_eS b c l v ro h
