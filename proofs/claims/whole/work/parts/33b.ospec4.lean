theorem n2_lt : ∀ t, t ≤ 10 → (nI t - 2 < 0 ↔ t < 2) := by decide +kernel
theorem n2_2 : ∀ u, u ≤ 10 → nI (u + 2) - 2 = nI u := by decide +kernel
theorem n2_d : ∀ u, u ≤ 10 → nI u + (-1 : Int32) = nI (u + 1) - 2 := by decide +kernel
theorem dec_n0 : ∀ e, e ≤ 10 → nI (e + 1) + (-1 : Int32) = nI e := by decide +kernel
theorem dec_n {e : Nat} (h : 1 ≤ e) (h2 : e ≤ 10) : nI e + (-1 : Int32) = nI (e - 1) := by
  have := dec_n0 (e - 1) (by omega)
  rwa [show e - 1 + 1 = e by omega] at this
theorem sw_up (ro : Nat → Nat) (u j q : Nat) (h : u ≠ j) : va_up (va_up ro u (ro j)) j (ro u) q = swl ro u j q := by
  unfold swl
  by_cases c1 : q = j
  · subst c1; rw [va_up_self, if_neg (by omega), if_pos rfl]
  · rw [va_up_ne _ _ c1]
    by_cases c2 : q = u
    · subst c2; rw [va_up_self, if_pos rfl]
    · rw [va_up_ne _ _ c2, if_neg c2, if_neg c1]
def RVS (W y : Nat → Nat) (u m s e : Nat) : Prop := ∀ q, q < m → y q = if (u < q ∧ q < s) ∨ e < q then W (u + m - q) else W q
theorem rev_step {W y : Nat → Nat} {u m s e : Nat} (hy : RVS W y u m s e) (h1 : s + e = u + m) (h2 : u + 1 ≤ s) (h3 : e < m) (h4 : s < e) : RVS W (va_up (va_up y s (y e)) e (y s)) u m (s + 1) (e - 1) := by
  intro q hq
  by_cases c1 : q = e
  · subst c1
    rw [va_up_self, hy s (by omega), if_neg (by omega), if_pos (by omega), show u + m - q = s by omega]
  · rw [va_up_ne _ _ c1]
    by_cases c2 : q = s
    · subst c2
      rw [va_up_self, hy e h3, if_neg (by omega), if_pos (by omega), show u + m - q = e by omega]
    · rw [va_up_ne _ _ c2, hy q hq]
      by_cases c3 : (u < q ∧ q < s) ∨ e < q
      · rw [if_pos c3, if_pos (by omega)]
      · rw [if_neg c3, if_neg (by omega)]
theorem nxt_fin {ro y : Nat → Nat} {u j m s e : Nat} (hy : RVS (swl ro u j) y u m s e) (h1 : s + e = u + m) (h2 : u + 1 ≤ s) (h3 : e < m) (h4 : s ≤ e + 1) (h5 : e ≤ s) (hj : u < j) : ∀ q, q < m → y q = rsl ro m u j q := by
  intro q hq
  rw [hy q hq, rsl]
  by_cases c1 : q < u
  · rw [if_pos c1, if_neg (by omega), swl, if_neg (by omega), if_neg (by omega)]
  · rw [if_neg c1]
    by_cases c2 : q = u
    · subst c2
      rw [if_pos rfl, if_neg (by omega), swl, if_pos rfl]
    · rw [if_neg c2]
      by_cases c3 : (u < q ∧ q < s) ∨ e < q
      · rw [if_pos c3]
      · rw [if_neg c3, show u + m - q = q by omega]
theorem nxt_bd {ro ro' : Nat → Nat} {m n : Nat} {r : Bool} (h : NXT ro ro' m r) (hb : ∀ q, q < m → ro q < n) : ∀ q, q < m → ro' q < n := by
  rcases h with ⟨-, e, -⟩ | ⟨-, k, j, p1, -, -, p4, -, -, p7⟩
  · rw [e]; exact hb
  · intro q hq
    rw [p7 q hq, rsl]
    split
    · exact hb q hq
    · split
      · exact hb j p4
      · rw [swl]
        split
        · exact hb j p4
        · split
          · exact hb k (by omega)
          · exact hb _ (by omega)
theorem ord_step {rest : List (List Nat)} {l : List Nat} {r : List (List Nat)} {ro1 ro2 : Nat → Nat} {m : Nat} {gb : Bool} (e : rest = l :: r) (hc : chain rest = true) (ha : AG ro1 l) (hl : l.length = m) (h6 : m ≤ 6) (hn : NXT ro1 ro2 m gb) :
    gb = !r.isEmpty ∧ (r ≠ [] → chain r = true ∧ ∃ l' r', r = l' :: r' ∧ AG ro2 l' ∧ l'.length = m) := by
  subst e hl
  cases r with
  | nil => exact ⟨nxt_lst ha h6 hc hn, fun h => absurd rfl h⟩
  | cons l' r' =>
    have hc : (chk l l' && chain (l' :: r')) = true := hc
    rw [Bool.and_eq_true] at hc
    obtain ⟨h1, h2, h3⟩ := nxt_chk ha h6 hc.1 hn
    exact ⟨h1, fun _ => ⟨hc.2, l', r', rfl, h2, h3⟩⟩
theorem GV.st {pe : Nat} {so ag : Nat → Int32} {fr : Int32} {v : VS} (h : GV pe so ag fr v) {p : Nat} (hp : p < 6) (b c : Int32) : GV pe so ag fr (stV v p b c) := by
  unfold stV
  split
  · exact h.hold hp b c
  · exact h
theorem GV.eV {pe : Nat} {so ag : Nat → Int32} {fr : Int32} {v : VS} (h : GV pe so ag fr v) (b c : Int32) {ro : Nat → Nat} {m : Nat} (hr : ∀ q, q < m → ro q < 6) : ∀ i, i ≤ m → GV pe so ag fr (eV b c v ro i)
  | 0, _ => h
  | i + 1, hi => (GV.eV h b c hr i (by omega)).st (hr i (by omega)) b c
theorem due_len (v : VS) (h6 : vN v ≤ 6) : (dL v (vN v)).length = wBits (sDue v (vN v)) := by
  rw [dL_set v h6]
  exact (chain_s (sDue_64 v h6)).2.2
theorem due_head (v : VS) (h6 : vN v ≤ 6) : ∃ r, lexS 6 (sDue v (vN v)) = dL v (vN v) :: r := by
  have := (chain_s (sDue_64 v h6)).2.1
  rw [dL_set v h6]
  cases e : lexS 6 (sDue v (vN v)) with
  | nil => rw [e] at this; cases this
  | cons l r =>
    rw [e] at this
    simp only [List.head?_cons, Option.some.injEq] at this
    exact ⟨r, by rw [this]⟩
theorem AG.bd {ro : Nat → Nat} {l : List Nat} {n : Nat} (h : AG ro l) (hb : ∀ q ∈ l, q < n) : ∀ q, q < l.length → ro q < n := by
  intro q hq
  rw [← h q hq]
  have : l.getD q 0 = l[q] := by simp [List.getD_eq_getElem?_getD, List.getElem?_eq_getElem hq]
  rw [this]
  exact hb _ (List.getElem_mem hq)
theorem fold_cons (b c : Int32) (v : VS) (l : List Nat) (r : List (List Nat)) (q : Nat × List Nat) : foldB b c v (l :: r) q = foldB b c v r (fS b c v l q) := rfl
theorem eS_36 (b c : Int32) {v : VS} {ro : Nat → Nat} {l : List Nat} {m : Nat} (h : AG ro l) (hl : l.length = m) : eC b c v ro m = eS b c v l := by rw [← hl]; exact eC_eS b c l v ro h
/-- where the reference's search stands -/
def OST (b c : Int32) (v : VS) (rest : List (List Nat)) (q1 : Nat) (qb : List Nat) (ro1 bs1 : Nat → Nat) (gs : Bool) (m : Nat) : Prop :=
  gs = !rest.isEmpty ∧ (rest ≠ [] → chain rest = true ∧ ∃ l r, rest = l :: r ∧ AG ro1 l ∧ l.length = m) ∧ foldB b c v rest (q1, qb) = ordB v b c ∧ q1 ≤ 100 ∧ AG bs1 qb ∧ (q1 = 0 ∨ qb.length = m) ∧ (gs = false → 0 < q1) ∧ (∀ q, q < m → ro1 q < vN v)
theorem OST.init {b c : Int32} {v : VS} (h6 : vN v ≤ 6) {ro bs : Nat → Nat} (h : AG ro (dL v (vN v))) : OST b c v (lexS 6 (sDue v (vN v))) 0 [] ro bs true (dL v (vN v)).length := by
  obtain ⟨r, hr⟩ := due_head v h6
  refine ⟨by rw [hr]; rfl, fun _ => ⟨(chain_s (sDue_64 v h6)).1, _, r, hr, h, rfl⟩, rfl, by omega, AG.nil _, Or.inl rfl, (fun h => by cases h), ?_⟩
  exact h.bd (dL_lt v (vN v)).2
theorem OST.step {b c : Int32} {v : VS} {rest : List (List Nat)} {q1 m : Nat} {qb : List Nat} {ro1 bs1 ro2 : Nat → Nat} {gb : Bool} (h : OST b c v rest q1 qb ro1 bs1 true m) (hm : m ≤ 6) (hn : NXT ro1 ro2 m gb) :
    ∃ l r, rest = l :: r ∧ (∀ bs2 : Nat → Nat, (eC b c v ro1 m < q1 → OST b c v r q1 qb ro2 bs1 gb m) ∧ (q1 ≤ eC b c v ro1 m → (∀ q, q < m → bs2 q = ro1 q) → OST b c v r (eC b c v ro1 m + 1) l ro2 bs2 gb m)) := by
  obtain ⟨h1, h2, h3, h4, h5, h6, h7, h8⟩ := h
  have hne : rest ≠ [] := by
    intro e
    rw [e] at h1
    cases h1
  obtain ⟨hc, l, r, e, ha, hl⟩ := h2 hne
  obtain ⟨s1, s2⟩ := ord_step e hc ha hl hm hn
  refine ⟨l, r, e, fun bs2 => ⟨fun hlt => ?_, fun hge hb => ?_⟩⟩
  · refine ⟨s1, s2, ?_, h4, h5, h6, fun _ => by omega, nxt_bd hn h8⟩
    rw [← h3, e, fold_cons, fS, ← eS_36 b c ha hl, if_pos hlt]
  · have := eC_le b c v ro1 m
    refine ⟨s1, s2, ?_, by omega, fun q hq => ?_, Or.inr hl, fun _ => by omega, nxt_bd hn h8⟩
    · rw [← h3, e, fold_cons, fS, ← eS_36 b c ha hl, if_neg (by omega)]
    · rw [hb q (by omega)]; exact ha q hq
theorem OST.fin {b c : Int32} {v : VS} {rest : List (List Nat)} {q1 m : Nat} {qb : List Nat} {ro1 bs1 : Nat → Nat} (h : OST b c v rest q1 qb ro1 bs1 false m) : ordB v b c = (q1, qb) ∧ qb.length = m ∧ AG bs1 qb := by
  obtain ⟨h1, h2, h3, h4, h5, h6, h7, h8⟩ := h
  have he : rest = [] := by
    cases rest with
    | nil => rfl
    | cons l r => cases h1
  subst he
  have := h7 rfl
  exact ⟨h3.symm, by omega, h5⟩
theorem ord_ret {v : VS} {b c k : Int32} {q1 m kj : Nat} {qb : List Nat} {bs1 : Nat → Nat} (h6 : vN v ≤ 6) (hm : (dL v (vN v)).length = m) (hf : fare b c = true) (hk : inr k 0 6 = true) (ek : k = nI kj) (hj : kj ≤ 6) (h : ordB v b c = (q1, qb) ∧ qb.length = m ∧ AG bs1 qb) :
    oOrder v b c k = if kj = 0 then nI q1 - 1 else if m < kj then -4 else nI (bs1 (kj - 1)) := by
  obtain ⟨h1, h2, h3⟩ := h
  have hd := due_len v h6
  rw [hm] at hd
  have hmw : m ≤ 6 := by rw [hd]; exact wBits_le _
  rw [oOrder, hf, hk, if_pos (by decide : (true && true) = true), h1, ← hd]
  by_cases c0 : kj = 0
  · rw [if_pos (by rw [ek, c0]; rfl), if_pos c0]
  · rw [if_neg (by rw [ek]; exact mt (nI_eq (by omega) (by omega) (b := 0)).mp c0), if_neg c0]
    by_cases c1 : m < kj
    · rw [if_pos c1, if_pos (by rw [ek]; exact nI_lt c1 (by omega))]
    · rw [if_neg c1, if_neg (by rw [ek]; exact nI_nlt (by omega) (by omega)), P_n ek (by omega)]
      show nI (qb.getD (kj - 1) 0) = _
      rw [h3 (kj - 1) (by omega)]
