/-! the search by depth gives the same -/
theorem wB_add : ∀ i, i < 6 → ∀ G, G < 64 → G < 2 ^ i → wBits (G + 2 ^ i) = wBits G + 1 := by decide +kernel
theorem wGs_bits (v : VS) (p : Nat) (b c : Int32) : ∀ i, i ≤ 6 → wBits (wGs v p b c i) + (if p < i then 1 else 0) ≤ i
  | 0, _ => by rw [if_neg (by omega)]; show wBits 0 + 0 ≤ 0; decide
  | i + 1, hi => by
    have ih := wGs_bits v p b c i (by omega)
    have hl := wGs_lt v p b c i
    have h64 : 2 ^ i ≤ 2 ^ 6 := Nat.pow_le_pow_right (by decide) (by omega)
    rw [wGs]
    by_cases hc : wCm v i p b c = true
    · have hne : i ≠ p := by
        intro e
        subst e
        simp [wCm] at hc
      rw [if_pos hc, wB_add i (by omega) _ (by omega) hl]
      by_cases q : p < i
      · rw [if_pos q] at ih; rw [if_pos (by omega)]; omega
      · rw [if_neg q] at ih; rw [if_neg (by omega)]; omega
    · rw [if_neg hc, Nat.add_zero]
      by_cases q : p < i
      · rw [if_pos q] at ih; rw [if_pos (by omega)]; omega
      · rw [if_neg q] at ih
        split <;> omega
theorem stC_n {v : VS} {p : Nat} {b c : Int32} (h6 : vN v ≤ 6) (hp : p < vN v) : stC v p b c ≤ vN v - 1 := by
  unfold stC
  split
  · have := wGs_bits v p b c (vN v) h6
    rw [if_pos hp] at this
    unfold wGuests
    omega
  · omega
theorem sub_bit : ∀ s, s < 64 → ∀ p, p < 6 → s.testBit p = true → wBits s = wBits (s - 2 ^ p) + 1 ∧ ∀ j, j < 6 → (s - 2 ^ p).testBit j = true → s.testBit j = true := by decide +kernel
theorem eS_le (b c : Int32) (n : Nat) : ∀ (f s : Nat) (v : VS) (l : List Nat), s < 64 → VI v → vN v = n → (∀ j, j < 6 → s.testBit j = true → j < n) → l ∈ lexS f s → eS b c v l ≤ wBits s * (n - 1)
  | 0, s, v, l, _, _, _, _, hl => by
    have : l = [] := by simpa [lexS] using hl
    subst this
    exact Nat.zero_le _
  | f + 1, s, v, l, hs, hv, hn, hb, hl => by
    rw [lexS] at hl
    split at hl
    · have : l = [] := by simpa using hl
      subst this
      exact Nat.zero_le _
    · obtain ⟨p, hp, hl⟩ := List.mem_flatMap.mp hl
      have hp := List.mem_range.mp hp
      split at hl
      · rename_i ht
        obtain ⟨l', hl', rfl⟩ := List.mem_map.mp hl
        obtain ⟨h1, h2⟩ := sub_bit s hs p hp ht
        have hpn := hb p hp ht
        have ih := eS_le b c n f (s - 2 ^ p) (stV v p b c) l' (Nat.lt_of_le_of_lt (Nat.sub_le _ _) hs) (VI_st hv hp) (by rw [stV_N]; exact hn) (fun j hj ht' => hb j hj (h2 j hj ht')) hl'
        have h3 := stC_n (v := v) (p := p) (b := b) (c := c) hv.1 (by omega)
        rw [eS, h1, Nat.succ_mul]
        omega
      · cases hl
def GG (b c : Int32) (V : VS) (came : Nat) (pre : List Nat) (x : Nat × List Nat) (l : List Nat) : Nat × List Nat := if came + eS b c V l < x.1 then x else (came + eS b c V l + 1, pre ++ l)
theorem GG_no (b c : Int32) (V : VS) (came : Nat) (pre : List Nat) : ∀ (ls : List (List Nat)) (x : Nat × List Nat), (∀ l ∈ ls, came + eS b c V l < x.1) → ls.foldl (GG b c V came pre) x = x
  | [], _, _ => rfl
  | l :: ls, x, h => by
    rw [List.foldl_cons, GG, if_pos (h l (by simp))]
    exact GG_no b c V came pre ls x (fun l' hl' => h l' (by simp [hl']))
theorem AG.snoc2 {ro : Nat → Nat} {l : List Nat} {d : Nat} (h : AG ro l) (hd : l.length = d) (x : Nat) : AG (va_up ro d x) (l ++ [x]) := by
  subst hd; exact h.snoc x
theorem GG_map (b c : Int32) (V : VS) (came : Nat) (pre : List Nat) (p : Nat) : ∀ (ls : List (List Nat)) (x : Nat × List Nat), (ls.map (fun l => p :: l)).foldl (GG b c V came pre) x = ls.foldl (GG b c (stV V p b c) (came + stC V p b c) (pre ++ [p])) x
  | [], _ => rfl
  | l :: ls, x => by
    rw [List.map_cons, List.foldl_cons, List.foldl_cons, GG_map b c V came pre p ls]
    congr 1
    simp only [GG, eS, List.append_assoc, List.singleton_append, Nat.add_assoc]
/-- what a part of the search leaves -/
def TR (q r : OQ) (x : Nat × List Nat) (d : Nat) : Prop := qM r = x.1 ∧ AG (qB r) x.2 ∧ (∀ j, j ≤ d → qV r j = qV q j) ∧ ∀ i, i < d → qP r i = qP q i
theorem note_TR {b c : Int32} {V : VS} {came d : Nat} {q : OQ} {B pre : List Nat} (hp : AG (qP q) pre) (hB : AG (qB q) B) : TR q (oNote came q) ([[]].foldl (GG b c V came pre) (qM q, B)) d := by
  show TR q (oNote came q) (GG b c V came pre (qM q, B) []) d
  unfold oNote GG
  simp only [eS, Nat.add_zero, List.append_nil]
  split
  · exact ⟨rfl, hB, fun _ _ => rfl, fun _ _ => rfl⟩
  · exact ⟨rfl, hp, fun _ _ => rfl, fun _ _ => rfl⟩
theorem ta_fold (b c : Int32) (n : Nat) : ∀ (f d left came : Nat) (q : OQ) (B pre : List Nat), d + f = 6 → left < 64 → came ≤ 6 * d → QI q → pre.length = d → AG (qP q) pre → AG (qB q) B → vN (qV q 0) = n → vN (qV q d) = n → (∀ j, j < 6 → left.testBit j = true → j < n) →
    TR q (ta b c f d left came q) ((lexS f left).foldl (GG b c (qV q d) came pre) (qM q, B)) d
  | 0, d, left, came, q, B, pre, hd, hl, hc, hq, hpl, hp, hB, hn0, hnd, hb => note_TR hp hB
  | f + 1, d, left, came, q, B, pre, hd, hl, hc, hq, hpl, hp, hB, hn0, hnd, hb => by
    rw [ta_succ, lexS]
    by_cases c0 : left = 0
    · rw [if_pos c0, if_pos c0]; exact note_TR hp hB
    · rw [if_neg c0, if_neg c0]
      by_cases c1 : came + wBits left * (vN (qV q 0) - 1) < qM q
      · rw [if_pos c1, GG_no]
        · exact ⟨rfl, hB, fun _ _ => rfl, fun _ _ => rfl⟩
        · intro l hlm
          have := eS_le b c n (f + 1) left (qV q d) l hl (hq.1 d) hnd hb (by rw [lexS, if_neg c0]; exact hlm)
          rw [hn0] at c1
          show came + eS b c (qV q d) l < qM q
          omega
      · rw [if_neg c1]
        have key : ∀ i, i ≤ 6 → ∃ B', TR q (tl (tlF b c f d left came) q i) (((List.range i).flatMap (fun p => if left.testBit p = true then (lexS f (left - 2 ^ p)).map (fun l => p :: l) else [])).foldl (GG b c (qV q d) came pre) (qM q, B)) d ∧ QI (tl (tlF b c f d left came) q i) ∧ B' = (((List.range i).flatMap (fun p => if left.testBit p = true then (lexS f (left - 2 ^ p)).map (fun l => p :: l) else [])).foldl (GG b c (qV q d) came pre) (qM q, B)) := by
          intro i hi
          refine ⟨_, ?_, QI_tl (tlF_QI b c f d left came hd hc) hq i hi, rfl⟩
          induction i with
          | zero => exact ⟨rfl, hB, fun _ _ => rfl, fun _ _ => rfl⟩
          | succ i ih =>
            obtain ⟨t1, t2, t3, t4⟩ := ih (by omega)
            have hqi : QI (tl (tlF b c f d left came) q i) := QI_tl (tlF_QI b c f d left came hd hc) hq i (by omega)
            rw [List.range_succ, List.flatMap_append, List.foldl_append]
            rw [tl]
            generalize ((List.range i).flatMap (fun p => if left.testBit p = true then (lexS f (left - 2 ^ p)).map (fun l => p :: l) else [])).foldl (GG b c (qV q d) came pre) (qM q, B) = x at t1 t2 ⊢
            generalize tl (tlF b c f d left came) q i = u at t1 t2 t3 t4 hqi ⊢
            simp only [List.flatMap_cons, List.flatMap_nil, List.append_nil]
            unfold tlF
            by_cases ht : left.testBit i = true
            · rw [if_pos ht, if_pos ht, GG_map]
              have hud : qV u d = qV q d := t3 d (Nat.le_refl d)
              have hs := stC_le (qV u d) i b c
              have hup : AG (qP u) pre := fun k hk => (hp k hk).trans (t4 k (by omega)).symm
              have r := ta_fold b c n f (d + 1) (left - 2 ^ i) (came + stC (qV u d) i b c) (oStep d i b c u) x.2 (pre ++ [i]) (by omega) (Nat.lt_of_le_of_lt (Nat.sub_le _ _) hl) (by omega) (QI_step hqi (by omega)) (by rw [List.length_append, List.length_singleton, hpl])
                (hup.snoc2 hpl i) t2 (by show vN (va_up (qV u) (d + 1) (stV (qV u d) i b c) 0) = n; rw [va_up_ne _ _ (by omega), t3 0 (by omega)]; exact hn0)
                (by show vN (va_up (qV u) (d + 1) (stV (qV u d) i b c) (d + 1)) = n; rw [va_up_self, stV_N, hud]; exact hnd) (fun j hj h => hb j hj ((sub_bit left hl i (by omega) ht).2 j hj h))
              have e1 : qV (oStep d i b c u) (d + 1) = stV (qV q d) i b c := by show va_up (qV u) (d + 1) (stV (qV u d) i b c) (d + 1) = _; rw [va_up_self, hud]
              have e2 : qM (oStep d i b c u) = x.1 := t1
              rw [e1, e2] at r
              rw [hud] at r ⊢
              obtain ⟨r1, r2, r3, r4⟩ := r
              refine ⟨r1, r2, fun j hj => ?_, fun k hk => ?_⟩
              · rw [r3 j (by omega)]
                show va_up (qV u) (d + 1) (stV (qV u d) i b c) j = _
                rw [va_up_ne _ _ (by omega)]; exact t3 j hj
              · rw [r4 k (by omega)]
                show va_up (qP u) d i k = _
                rw [va_up_ne _ _ (by omega)]; exact t4 k hk
            · rw [if_neg ht, if_neg ht]
              exact ⟨t1, t2, t3, t4⟩
        obtain ⟨-, h1, -⟩ := key 6 (Nat.le_refl 6)
        exact h1
/-- the search from its start -/
theorem ta_ord {b c : Int32} {v : VS} {q : OQ} (hq : QI q) (hv : VI v) (h0 : qV q 0 = v) (hm : qM q = 0) (hn : 0 < vN v) : qM (ta b c 6 0 (sDue v (vN v)) 0 q) = (ordB v b c).1 ∧ AG (qB (ta b c 6 0 (sDue v (vN v)) 0 q)) (ordB v b c).2 ∧ qV (ta b c 6 0 (sDue v (vN v)) 0 q) 0 = v := by
  have h := ta_fold b c (vN v) 6 0 (sDue v (vN v)) 0 q [] [] rfl (sDue_64 v hv.1) (Nat.zero_le _) hq rfl (AG.nil _) (AG.nil _) (by rw [h0]) (by rw [h0]) (fun j hj ht => by
    rw [sDue_tb, Bool.and_eq_true] at ht
    exact of_decide_eq_true ht.1)
  rw [h0, hm] at h
  have e : ∀ (ls : List (List Nat)) (x : Nat × List Nat), ls.foldl (GG b c v 0 []) x = foldB b c v ls x := by
    intro ls
    induction ls with
    | nil => intro x; rfl
    | cons l ls ih =>
      intro x
      rw [List.foldl_cons, fold_cons, ih]
      congr 1
      simp only [GG, fS, Nat.zero_add, List.nil_append]
  rw [e] at h
  exact ⟨h.1, h.2.1, (h.2.2.1 0 (Nat.le_refl 0)).trans h0⟩
