/-! the reference's cells -/
def wR (g : kw_G) (a : Nat → Nat) (pe : Nat) (so ag : Nat → Int32) (fr : Int32) (np : Nat) (ns na : Nat → Int32) (nf : Int32) (sl : Nat → Int32) (ac ke le : Nat) (tx : Nat → Nat) (ap bg : Nat) (wr : Bool) (se : Nat) (wh wo : Nat → Nat) (bl ck : Nat → Int32) (sw : Nat → Bool) (ma : Nat) (ro bs : Nat → Nat) : va_W :=
  [(a 0, .inr (6, [.int (nI pe), .ref (a 1), .ref (a 2), .int fr, .int (nI np), .ref (a 3), .ref (a 4), .int nf, .ref (a 5), .int (nI ac), .int (nI ke), .int (nI le), .ref (a 6), .int (nI ap), .int (nI bg), .int (zI wr), .int (nI se), .ref (a 7), .ref (a 8), .ref (a 9), .ref (a 10), .ref (a 11), .int (nI ma), .ref (a 12), .ref (a 13)])),
   (a 1, .inl (g.2 0, 6, .inl so)), (a 2, .inl (g.2 0, 6, .inl ag)), (a 3, .inl (g.2 0, 6, .inl ns)), (a 4, .inl (g.2 0, 6, .inl na)), (a 5, .inl (g.2 0, 984, .inl sl)), (a 6, .inl (g.2 2, 200, .inl (fun k => nI (tx k)))),
   (a 7, .inl (g.2 0, 6, .inl (fun k => nI (wh k)))), (a 8, .inl (g.2 0, 6, .inl (fun k => nI (wo k)))), (a 9, .inl (g.2 0, 6, .inl bl)), (a 10, .inl (g.2 0, 6, .inl ck)), (a 11, .inl (g.2 3, 6, .inl (fun k => zI (sw k)))), (a 12, .inl (g.2 0, 6, .inl (fun k => nI (ro k)))), (a 13, .inl (g.2 0, 6, .inl (fun k => nI (bs k))))]
/-- a village in a window of the slots -/
def EN (sl : Nat → Int32) (o : Nat) (v : VS) : Prop := (∀ p, p < 6 → sl (o + p) = vC v p) ∧ sl (o + 6) = nI (vX v) ∧ sl (o + 7) = nI (vH v) ∧ sl (o + 8) = vY v ∧ sl (o + 9) = vZ v ∧ (∀ k, k < 36 → sl (o + 10 + k) = vT v k) ∧ (∀ k, k < 36 → sl (o + 46 + k) = vD v k)
def FR (sl sl' : Nat → Int32) (o : Nat) : Prop := ∀ k, k < o ∨ o + 82 ≤ k → sl' k = sl k
def KE (pe : Nat) (so ag : Nat → Int32) (fr : Int32) (v : VS) : Prop := pe = vN v ∧ fr = vG v ∧ ∀ p, p < vN v → so p = vK v p ∧ ag p = vA v p
theorem FR.rf {sl : Nat → Int32} {o : Nat} : FR sl sl o := fun _ _ => rfl
theorem FR.tr {s1 s2 s3 : Nat → Int32} {o : Nat} (h : FR s1 s2 o) (k : FR s2 s3 o) : FR s1 s3 o := fun i hi => (k i hi).trans (h i hi)
theorem upd_eq (f : Nat → Int32) {i j : Nat} (x : Int32) (h : j = i) : upd f i x j = x := by subst h; simp [upd]
theorem upd_ne (f : Nat → Int32) {i j : Nat} (x : Int32) (h : j ≠ i) : upd f i x j = f j := by simp [upd, h]
theorem FR.up {s1 s2 : Nat → Int32} {o i : Nat} {x : Int32} (h : FR s1 s2 o) (h1 : o ≤ i) (h2 : i < o + 82) : FR s1 (upd s2 i x) o := fun k hk => by
  rw [upd_ne _ _ (by omega)]; exact h k hk
theorem EN.fr {s1 s2 : Nat → Int32} {o o' : Nat} {v : VS} (h : EN s1 o' v) (k : FR s1 s2 o) (hd : o' + 82 ≤ o ∨ o + 82 ≤ o') : EN s2 o' v := by
  refine ⟨fun p hp => ?_, ?_, ?_, ?_, ?_, fun p hp => ?_, fun p hp => ?_⟩
  · rw [k _ (by omega)]; exact h.1 p hp
  · rw [k _ (by omega)]; exact h.2.1
  · rw [k _ (by omega)]; exact h.2.2.1
  · rw [k _ (by omega)]; exact h.2.2.2.1
  · rw [k _ (by omega)]; exact h.2.2.2.2.1
  · rw [k _ (by omega)]; exact h.2.2.2.2.2.1 p hp
  · rw [k _ (by omega)]; exact h.2.2.2.2.2.2 p hp
section EN
variable {sl : Nat → Int32} {o : Nat} {v : VS}
theorem EN.c (h : EN sl o v) {p i : Nat} (hp : p < 6) (hi : i = o + p) : sl i = vC v p := by rw [hi]; exact h.1 p hp
theorem EN.x (h : EN sl o v) {i : Nat} (hi : i = o + 6) : sl i = nI (vX v) := by rw [hi]; exact h.2.1
theorem EN.h (h : EN sl o v) {i : Nat} (hi : i = o + 7) : sl i = nI (vH v) := by rw [hi]; exact h.2.2.1
theorem EN.y (h : EN sl o v) {i : Nat} (hi : i = o + 8) : sl i = vY v := by rw [hi]; exact h.2.2.2.1
theorem EN.z (h : EN sl o v) {i : Nat} (hi : i = o + 9) : sl i = vZ v := by rw [hi]; exact h.2.2.2.2.1
theorem EN.t (h : EN sl o v) {p q i : Nat} (hp : p < 6) (hq : q < 6) (hi : i = o + 10 + (p * 6 + q)) : sl i = vT v (p * 6 + q) := by rw [hi]; exact h.2.2.2.2.2.1 _ (by omega)
theorem EN.d (h : EN sl o v) {p q i : Nat} (hp : p < 6) (hq : q < 6) (hi : i = o + 46 + (p * 6 + q)) : sl i = vD v (p * 6 + q) := by rw [hi]; exact h.2.2.2.2.2.2 _ (by omega)
theorem EN.d1 (h : EN sl o v) {k i : Nat} (hk : k < 36) (hi : i = o + 46 + k) : sl i = vD v k := by rw [hi]; exact h.2.2.2.2.2.2 _ hk
theorem EN.sc (h : EN sl o v) {p i : Nat} {x : Int32} (hp : p < 6) (hi : i = o + p) : EN (upd sl i x) o (sC v (upd (vC v) p x)) := by
  subst hi
  refine ⟨fun q hq => ?_, ?_, ?_, ?_, ?_, fun k hk => ?_, fun k hk => ?_⟩
  · by_cases e : q = p
    · subst e; rw [upd_eq _ _ rfl]; exact (upd_eq (vC v) x rfl).symm
    · rw [upd_ne _ _ (by omega)]; exact (h.1 q hq).trans (upd_ne (vC v) x e).symm
  · rw [upd_ne _ _ (by omega)]; exact h.2.1
  · rw [upd_ne _ _ (by omega)]; exact h.2.2.1
  · rw [upd_ne _ _ (by omega)]; exact h.2.2.2.1
  · rw [upd_ne _ _ (by omega)]; exact h.2.2.2.2.1
  · rw [upd_ne _ _ (by omega)]; exact h.2.2.2.2.2.1 k hk
  · rw [upd_ne _ _ (by omega)]; exact h.2.2.2.2.2.2 k hk
theorem EN.st (h : EN sl o v) {p q i : Nat} {x : Int32} (hp : p < 6) (hq : q < 6) (hi : i = o + 10 + (p * 6 + q)) : EN (upd sl i x) o (sT v (upd (vT v) (p * 6 + q) x)) := by
  subst hi
  refine ⟨fun r hr => ?_, ?_, ?_, ?_, ?_, fun k hk => ?_, fun k hk => ?_⟩
  · rw [upd_ne _ _ (by omega)]; exact h.1 r hr
  · rw [upd_ne _ _ (by omega)]; exact h.2.1
  · rw [upd_ne _ _ (by omega)]; exact h.2.2.1
  · rw [upd_ne _ _ (by omega)]; exact h.2.2.2.1
  · rw [upd_ne _ _ (by omega)]; exact h.2.2.2.2.1
  · by_cases e : k = p * 6 + q
    · subst e; rw [upd_eq _ _ rfl]; exact (upd_eq (vT v) x rfl).symm
    · rw [upd_ne _ _ (by omega)]; exact (h.2.2.2.2.2.1 k hk).trans (upd_ne (vT v) x e).symm
  · rw [upd_ne _ _ (by omega)]; exact h.2.2.2.2.2.2 k hk
theorem EN.sd (h : EN sl o v) {p q i : Nat} {x : Int32} (hp : p < 6) (hq : q < 6) (hi : i = o + 46 + (p * 6 + q)) : EN (upd sl i x) o (sD v (upd (vD v) (p * 6 + q) x)) := by
  subst hi
  refine ⟨fun r hr => ?_, ?_, ?_, ?_, ?_, fun k hk => ?_, fun k hk => ?_⟩
  · rw [upd_ne _ _ (by omega)]; exact h.1 r hr
  · rw [upd_ne _ _ (by omega)]; exact h.2.1
  · rw [upd_ne _ _ (by omega)]; exact h.2.2.1
  · rw [upd_ne _ _ (by omega)]; exact h.2.2.2.1
  · rw [upd_ne _ _ (by omega)]; exact h.2.2.2.2.1
  · rw [upd_ne _ _ (by omega)]; exact h.2.2.2.2.2.1 k hk
  · by_cases e : k = p * 6 + q
    · subst e; rw [upd_eq _ _ rfl]; exact (upd_eq (vD v) x rfl).symm
    · rw [upd_ne _ _ (by omega)]; exact (h.2.2.2.2.2.2 k hk).trans (upd_ne (vD v) x e).symm
theorem EN.sx (h : EN sl o v) {i k : Nat} (hi : i = o + 6) : EN (upd sl i (nI k)) o (sX v k) := by
  subst hi
  refine ⟨fun r hr => ?_, upd_eq _ _ rfl, ?_, ?_, ?_, fun k hk => ?_, fun k hk => ?_⟩
  · rw [upd_ne _ _ (by omega)]; exact h.1 r hr
  · rw [upd_ne _ _ (by omega)]; exact h.2.2.1
  · rw [upd_ne _ _ (by omega)]; exact h.2.2.2.1
  · rw [upd_ne _ _ (by omega)]; exact h.2.2.2.2.1
  · rw [upd_ne _ _ (by omega)]; exact h.2.2.2.2.2.1 k hk
  · rw [upd_ne _ _ (by omega)]; exact h.2.2.2.2.2.2 k hk
theorem EN.sh (h : EN sl o v) {i k : Nat} (hi : i = o + 7) : EN (upd sl i (nI k)) o (sH v k) := by
  subst hi
  refine ⟨fun r hr => ?_, ?_, upd_eq _ _ rfl, ?_, ?_, fun k hk => ?_, fun k hk => ?_⟩
  · rw [upd_ne _ _ (by omega)]; exact h.1 r hr
  · rw [upd_ne _ _ (by omega)]; exact h.2.1
  · rw [upd_ne _ _ (by omega)]; exact h.2.2.2.1
  · rw [upd_ne _ _ (by omega)]; exact h.2.2.2.2.1
  · rw [upd_ne _ _ (by omega)]; exact h.2.2.2.2.2.1 k hk
  · rw [upd_ne _ _ (by omega)]; exact h.2.2.2.2.2.2 k hk
theorem EN.sy (h : EN sl o v) {i : Nat} {x : Int32} (hi : i = o + 8) : EN (upd sl i x) o (sY v x) := by
  subst hi
  refine ⟨fun r hr => ?_, ?_, ?_, upd_eq _ _ rfl, ?_, fun k hk => ?_, fun k hk => ?_⟩
  · rw [upd_ne _ _ (by omega)]; exact h.1 r hr
  · rw [upd_ne _ _ (by omega)]; exact h.2.1
  · rw [upd_ne _ _ (by omega)]; exact h.2.2.1
  · rw [upd_ne _ _ (by omega)]; exact h.2.2.2.2.1
  · rw [upd_ne _ _ (by omega)]; exact h.2.2.2.2.2.1 k hk
  · rw [upd_ne _ _ (by omega)]; exact h.2.2.2.2.2.2 k hk
theorem EN.sz (h : EN sl o v) {i : Nat} {x : Int32} (hi : i = o + 9) : EN (upd sl i x) o (sZ v x) := by
  subst hi
  refine ⟨fun r hr => ?_, ?_, ?_, ?_, upd_eq _ _ rfl, fun k hk => ?_, fun k hk => ?_⟩
  · rw [upd_ne _ _ (by omega)]; exact h.1 r hr
  · rw [upd_ne _ _ (by omega)]; exact h.2.1
  · rw [upd_ne _ _ (by omega)]; exact h.2.2.1
  · rw [upd_ne _ _ (by omega)]; exact h.2.2.2.1
  · rw [upd_ne _ _ (by omega)]; exact h.2.2.2.2.2.1 k hk
  · rw [upd_ne _ _ (by omega)]; exact h.2.2.2.2.2.2 k hk
end EN
/-! comparisons of longs -/
def lin (x lo hi : Int64) : Bool := !decide (lg_cmp x lo < 0) && !decide (0 < lg_cmp x hi)
theorem wd_lt (a b : Int32) : a.toInt64 < b.toInt64 ↔ a < b := by
  rw [Int64.lt_iff_toInt_lt, Int32.lt_iff_toInt_lt, Int32.toInt_toInt64, Int32.toInt_toInt64]
theorem lin_c {x lo hi : Int32} {L H : Int64} (hL : L = lo.toInt64) (hH : H = hi.toInt64) : lin x.toInt64 L H = inr x lo hi := by
  subst hL hH
  simp only [lin, inr, lg_cmp_lt, lg_cmp_gt, wd_lt]
theorem lin_pin {x : Int32} {m : Nat} (hm : m < 1073741824) : lin x.toInt64 0 (nI m - 1).toInt64 = pin x m := by
  have h0 : (0 : Int64) = (0 : Int32).toInt64 := by decide
  rw [h0, lin_c rfl rfl, inr, pin]
  congr 2
  have e : (nI m - 1 : Int32).toInt = (m : Int) - 1 := pk_sub_toInt (a := m) (b := 1) (by omega) (by omega)
  have : (nI m - 1 < x) ↔ (nI m ≤ x) := by
    rw [Int32.lt_iff_toInt_lt, Int32.le_iff_toInt_le, e, nI_toInt (by omega)]
    omega
  simp only [this]
/-! the reference's likes -/
def wLk (v : VS) (i : Nat) (kind tie : Int32) (p : Nat) (b c : Int32) : Bool := if kind = 1 then decide (tie < 0) || !decide (tie + b < 4) else if kind = 2 then decide (0 < c) || !decide (tie + b < 2) else if kind = 3 then decide (vZ v = 0) && !decide (tie + b < 2) else if kind = 4 then decide (vD v (i * 6 + p) = 0) && !decide (tie + b < 1) else !decide (tie + b < 2)
theorem wCome_lk (v : VS) (i : Nat) (kind tie : Int32) (p : Nat) (b c : Int32) : wCome v i kind tie p b c = (wLives v i && wLk v i kind tie p b c) := rfl
theorem mn_sm (a b : Int32) : (if a < b then a else b) = mn a b := by
  unfold mn
  by_cases h : a < b
  · rw [if_pos h, if_neg (fun q => Int32.lt_irrefl (Int32.lt_trans h q))]
  · rw [if_neg h]
    by_cases h2 : b < a
    · rw [if_pos h2]
    · rw [if_neg h2]
      exact Int32.le_antisymm (Int32.not_lt.mp h) (Int32.not_lt.mp h2)
theorem mnmx (x : Int32) : mn 5 (mx (-4) x) = mx (-4) (mn 5 x) := by
  unfold mn mx
  by_cases h1 : (-4 : Int32) < x
  · rw [if_pos h1]
    by_cases h2 : x < 5
    · rw [if_pos h2, if_pos h1]
    · rw [if_neg h2]; decide
  · rw [if_neg h1]
    have h3 : x < 5 := by
      have := Int32.not_lt.mp h1
      rw [Int32.le_iff_toInt_le] at this
      rw [Int32.lt_iff_toInt_lt]
      have e1 : (-4 : Int32).toInt = -4 := rfl
      have e2 : (5 : Int32).toInt = 5 := rfl
      omega
    rw [if_pos h3, if_neg h1]
    decide
theorem nI_byte0 : ∀ k, k < 128 → vp_nar .byte (nI k) = nI k := by decide +kernel
theorem nI_byte (k : Nat) (h : k < 128) : vp_nar .byte (nI k) = nI k := nI_byte0 k h
