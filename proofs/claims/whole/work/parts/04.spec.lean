/-! The village as numbers: kinds, ages told, coins, ties, debts; persons, trial age, dead, had, days, trials of the day. -/
def kw_rm (k c s : Nat) : Room := { frames := k, cells := c, slots := s, locals := 40 * k }
abbrev VS : Type := (Nat → Int32) × (Nat → Int32) × (Nat → Int32) × (Nat → Int32) × (Nat → Int32) × Nat × Int32 × Nat × Nat × Int32 × Int32
def vK (v : VS) : Nat → Int32 := v.1
def vA (v : VS) : Nat → Int32 := v.2.1
def vC (v : VS) : Nat → Int32 := v.2.2.1
def vT (v : VS) : Nat → Int32 := v.2.2.2.1
def vD (v : VS) : Nat → Int32 := v.2.2.2.2.1
def vN (v : VS) : Nat := v.2.2.2.2.2.1
def vG (v : VS) : Int32 := v.2.2.2.2.2.2.1
def vX (v : VS) : Nat := v.2.2.2.2.2.2.2.1
def vH (v : VS) : Nat := v.2.2.2.2.2.2.2.2.1
def vY (v : VS) : Int32 := v.2.2.2.2.2.2.2.2.2.1
def vZ (v : VS) : Int32 := v.2.2.2.2.2.2.2.2.2.2
def sK (v : VS) (f : Nat → Int32) : VS := (f, v.2)
def sA (v : VS) (f : Nat → Int32) : VS := (v.1, f, v.2.2)
def sC (v : VS) (f : Nat → Int32) : VS := (v.1, v.2.1, f, v.2.2.2)
def sT (v : VS) (f : Nat → Int32) : VS := (v.1, v.2.1, v.2.2.1, f, v.2.2.2.2)
def sD (v : VS) (f : Nat → Int32) : VS := (v.1, v.2.1, v.2.2.1, v.2.2.2.1, f, v.2.2.2.2.2)
def sN (v : VS) (k : Nat) : VS := (v.1, v.2.1, v.2.2.1, v.2.2.2.1, v.2.2.2.2.1, k, v.2.2.2.2.2.2)
def sG (v : VS) (k : Int32) : VS := (v.1, v.2.1, v.2.2.1, v.2.2.2.1, v.2.2.2.2.1, v.2.2.2.2.2.1, k, v.2.2.2.2.2.2.2)
def sX (v : VS) (k : Nat) : VS := (v.1, v.2.1, v.2.2.1, v.2.2.2.1, v.2.2.2.2.1, v.2.2.2.2.2.1, v.2.2.2.2.2.2.1, k, v.2.2.2.2.2.2.2.2)
def sH (v : VS) (k : Nat) : VS := (v.1, v.2.1, v.2.2.1, v.2.2.2.1, v.2.2.2.2.1, v.2.2.2.2.2.1, v.2.2.2.2.2.2.1, v.2.2.2.2.2.2.2.1, k, v.2.2.2.2.2.2.2.2.2)
def sY (v : VS) (k : Int32) : VS := (v.1, v.2.1, v.2.2.1, v.2.2.2.1, v.2.2.2.2.1, v.2.2.2.2.2.1, v.2.2.2.2.2.2.1, v.2.2.2.2.2.2.2.1, v.2.2.2.2.2.2.2.2.1, k, v.2.2.2.2.2.2.2.2.2.2)
def sZ (v : VS) (k : Int32) : VS := (v.1, v.2.1, v.2.2.1, v.2.2.2.1, v.2.2.2.2.1, v.2.2.2.2.2.1, v.2.2.2.2.2.2.1, v.2.2.2.2.2.2.2.1, v.2.2.2.2.2.2.2.2.1, v.2.2.2.2.2.2.2.2.2.1, k)
/-- a village's six cells -/
def wV (g : kw_G) (a : Nat → Nat) (v : VS) : va_W :=
  [(a 0, .inr (4, [.ref (a 1), .ref (a 2), .ref (a 3), .ref (a 4), .ref (a 5), .int (nI (vN v)), .int (vG v), .int (nI (vX v)), .int (nI (vH v)), .int (vY v), .int (vZ v)])),
   (a 1, .inl (g.2 0, 6, .inl (vK v))), (a 2, .inl (g.2 0, 6, .inl (vA v))), (a 3, .inl (g.2 0, 6, .inl (vC v))), (a 4, .inl (g.2 0, 36, .inl (vT v))), (a 5, .inl (g.2 0, 36, .inl (vD v)))]
/-- what always holds of a village -/
def VI (v : VS) : Prop := vN v ≤ 6 ∧ vX v < 64 ∧ vH v < 64
def TI (v : VS) : Prop := ∀ k, k < 36 → ∃ t, t ≤ 9 ∧ vT v k = nI t - 4
/-! numbers -/
def mx (a b : Int32) : Int32 := if a < b then b else a
def mn (a b : Int32) : Int32 := if b < a then b else a
/-- a number that is told: 0 to n - 1 -/
def pin (p : Int32) (n : Nat) : Bool := !decide (p < 0) && !decide (nI n ≤ p)
def two (i j : Int32) (n : Nat) : Bool := pin i n && (pin j n && !decide (i = j))
def inr (v lo hi : Int32) : Bool := !decide (v < lo) && !decide (hi < v)
def fare (b c : Int32) : Bool := inr b 0 3 && inr c 0 3
/-! telling -/
def tpOk (v : VS) (k m : Nat) : Bool := decide (vN v < 6) && (decide (k ≤ 4) && decide (m ≤ 60))
def tpV (v : VS) (k a m : Nat) : VS := sN (sC (sA (sK v (upd (vK v) (vN v) (nI k))) (upd (vA v) (vN v) (nI a))) (upd (vC v) (vN v) (nI m))) (vN v + 1)
def ttOk (v : VS) (i j t : Nat) : Bool := two (nI i) (nI j) (vN v) && decide (t ≤ 9)
def ttV (v : VS) (i j t : Nat) : VS := sT v (upd (vT v) (i * 6 + j) (nI t - 4))
def tdOk (v : VS) (i j t : Nat) : Bool := two (nI i) (nI j) (vN v) && decide (t ≤ 60)
def tdV (v : VS) (i j t : Nat) : VS := sD v (upd (vD v) (i * 6 + j) (nI t))
/-! the rules -/
def wLives (v : VS) (i : Nat) : Bool := !(vX v).testBit i
def wCome (v : VS) (i : Nat) (kind tie : Int32) (p : Nat) (b c : Int32) : Bool :=
  wLives v i && (if kind = 1 then decide (tie < 0) || !decide (tie + b < 4) else if kind = 2 then decide (0 < c) || !decide (tie + b < 2) else if kind = 3 then decide (vZ v = 0) && !decide (tie + b < 2) else if kind = 4 then decide (vD v (i * 6 + p) = 0) && !decide (tie + b < 1) else !decide (tie + b < 2))
def wCm (v : VS) (i p : Nat) (b c : Int32) : Bool := !decide (i = p) && wCome v i (vK v i) (vT v (i * 6 + p)) p b c
def wGs (v : VS) (p : Nat) (b c : Int32) : Nat → Nat
  | 0 => 0
  | i + 1 => wGs v p b c i + (if wCm v i p b c then 2 ^ i else 0)
def wGuests (v : VS) (p : Nat) (b c : Int32) : Nat := wGs v p b c (vN v)
def wAge (v : VS) (p : Nat) : Int32 := vA v p + vY v / 30
def wDue (v : VS) (p : Nat) : Bool := wLives v p && (!(vH v).testBit p && !decide (wAge v p < vG v))
def wCost (b c : Int32) : Int32 := 2 * b + 3 * c
def wCan (v : VS) (p : Nat) (b c : Int32) : Bool := wDue v p && !decide (vC v p < wCost b c)
def wTie (v : VS) (i j : Nat) (d : Int32) : VS := sT v (upd (vT v) (i * 6 + j) (mx (-4) (mn 5 (vT v (i * 6 + j) + d))))
def wRecv (v : VS) (p : Nat) (s : Int32) : VS := sC v (upd (vC v) p (mn 999 (vC v p + s)))
def wPaid (v : VS) (i : Nat) (s : Int32) : Int32 := mn s (vC v i)
def wPay0 (v : VS) (i j : Nat) (q : Int32) : VS := sD (sC v (upd (vC v) i (vC v i - q))) (upd (vD v) (i * 6 + j) (vD v (i * 6 + j) - q))
def wPay (v : VS) (i j : Nat) (s : Int32) : VS := wRecv (wPay0 v i j (wPaid v i s)) j (wPaid v i s)
def wMeet (v : VS) (p i : Nat) (came : Bool) : VS :=
  if came then wPay (wTie v p i (if vK v i = 1 then -1 else 1)) i p (vD v (i * 6 + p) / 2) else wTie v p i (-1)
def wMeets (v : VS) (p G : Nat) : Nat → VS
  | 0 => v
  | i + 1 => if !decide (i = p) && wLives (wMeets v p G i) i then wMeet (wMeets v p G i) p i (G.testBit i) else wMeets v p G i
def wHold (v : VS) (p : Nat) (b c : Int32) : VS :=
  (fun m => sZ (sH m (vH m ||| 2 ^ p)) (vZ m + 1)) (wMeets (sC v (upd (vC v) p (vC v p - wCost b c))) p (wGuests v p b c) (vN v))
def wCanGive (v : VS) (i j : Nat) : Bool := wLives v i && (wLives v j && (!decide (vC v i < 2) && !decide (5 ≤ vT v (j * 6 + i))))
def wGive (v : VS) (i j : Nat) : VS := wTie (sC v (upd (vC v) i (vC v i - 2))) j i 1
def wHr (v : VS) (p : Nat) : Nat → Int32 × Int32
  | 0 => (-5, -4)
  | i + 1 => if !decide (i = p) && (wLives v i && !decide (vT v (p * 6 + i) ≤ (wHr v p i).1)) then (vT v (p * 6 + i), nI i) else wHr v p i
def wHeir (v : VS) (p : Nat) : Int32 := (wHr v p (vN v)).2
def wBq (v : VS) (p h : Nat) : Nat → VS
  | 0 => v
  | i + 1 => if i = h then wBq v p h i else sD (wBq v p h i) (upd (vD (wBq v p h i)) (i * 6 + h) (vD (wBq v p h i) (i * 6 + h) + vD (wBq v p h i) (i * 6 + p)))
def wBequeath (v : VS) (p h : Nat) : VS := wBq (wRecv v h (vC v p)) p h (vN v)
def wClr (v : VS) (p : Nat) : Nat → VS
  | 0 => v
  | i + 1 => sD (wClr v p i) (upd (upd (vD (wClr v p i)) (i * 6 + p) 0) (p * 6 + i) 0)
def wBury0 (v : VS) (p : Nat) : VS := wClr (sC (sX v (vX v ||| 2 ^ p)) (upd (vC v) p 0)) p (vN v)
def wBury (v : VS) (p : Nat) : VS := if 0 ≤ wHeir v p then wBury0 (wBequeath v p (wHeir v p).toNatClampNeg) p else wBury0 v p
def wDays (v : VS) (k : Int32) : VS := sZ (sY v (vY v + k)) 0
def wSum (f : Nat → Int32) : Nat → Int32
  | 0 => 0
  | i + 1 => wSum f i + f i
/-- bits of a set below 64 -/
def wBits (s : Nat) : Nat := s % 2 + s / 2 % 2 + s / 4 % 2 + s / 8 % 2 + s / 16 % 2 + s / 32 % 2
def wDayP (v : VS) (d : Nat) : VS := if wCan v (d % vN v) (nI (d / 8 % 4)) (nI (d / 32 % 4)) then wHold v (d % vN v) (nI (d / 8 % 4)) (nI (d / 32 % 4)) else if !decide (d % vN v = d / 128 % vN v) && wCanGive v (d % vN v) (d / 128 % vN v) then wGive v (d % vN v) (d / 128 % vN v) else v
def wDay (v : VS) (d : Nat) : VS := wDays (wDayP v d) 1
def wDayC (v : VS) (d : Nat) : Nat := if wCan v (d % vN v) (nI (d / 8 % 4)) (nI (d / 32 % 4)) then wBits (wGuests v (d % vN v) (nI (d / 8 % 4)) (nI (d / 32 % 4))) else 0
def wGain (v : VS) (p o : Nat) : Int32 := 3 * vT v (o * 6 + p) + vC v p
def wGf (v : VS) (i p : Nat) (b c : Int32) (t : Nat) : Nat → Nat → Int32
  | 0, _ => -4
  | f + 1, k => if wCome v i (vK v i) (nI (t + k) - 4) p b c then nI k else wGf v i p b c t f (k + 1)
section KT
variable {x : kw_X} {l : Launch} {g : kw_G} {own : String} {cc : ByteArray} {nL : Nat} {R : Room} {n k pc : Nat} {lv : List (Nat × Value)} {st : List Value} {ws : va_W}
theorem kb_tabIn (X : kX l g own cc nL R x) {dflt lo hi : Int} {offs : Array Int} {len : Nat} {a : Int32} {off : Int} {tgt : Nat} (j : Nat) (d : decode cc pc = .ok (.tableswitch dflt lo hi offs, len)) (h : a.toInt = lo + j) (hh : lo + j ≤ hi) (ho : offs[j]? = some off) (ht : (pc : Int) + off = (tgt : Int)) (K : kW x n k tgt lv st ws) : kW x n k pc lv (.int a :: st) ws := by
  obtain ⟨p, l', e, R', s, m, args, below, meth, c, g', A, H0, nL', Q⟩ := x
  obtain ⟨rfl, rfl, rfl, rfl, hx, hb, hml, ho', hts, hE, hA, hk⟩ := X
  exact fun H locs ls hP hD hS hl => lv_tableIn hx hb d (by omega) (by omega) (by rw [show (a.toInt - lo).toNat = j by omega]; exact ho) ht (K H locs ls hP hD hS hl)
theorem kb_tabOut (X : kX l g own cc nL R x) {dflt lo hi : Int} {offs : Array Int} {len : Nat} {a : Int32} {tgt : Nat} (d : decode cc pc = .ok (.tableswitch dflt lo hi offs, len)) (h : a.toInt < lo ∨ hi < a.toInt) (ht : (pc : Int) + dflt = (tgt : Int)) (K : kW x n k tgt lv st ws) : kW x n k pc lv (.int a :: st) ws := by
  obtain ⟨p, l', e, R', s, m, args, below, meth, c, g', A, H0, nL', Q⟩ := x
  obtain ⟨rfl, rfl, rfl, rfl, hx, hb, hml, ho', hts, hE, hA, hk⟩ := X
  exact fun H locs ls hP hD hS hl => lv_tableOut hx hb d h ht (K H locs ls hP hD hS hl)
theorem kb_look (X : kX l g own cc nL R x) {dflt : Int} {ps : Array (Int × Int)} {len : Nat} {a : Int32} {off : Int} {tgt : Nat} (d : decode cc pc = .ok (.lookupswitch dflt ps, len)) (hp : (ps.toList.zip (ps.toList.drop 1)).all (fun (a, next) => a.1 < next.1) = true) (h : Op.lookupswitch.offset ps.toList dflt a.toInt = off) (ht : (pc : Int) + off = (tgt : Int)) (K : kW x n k tgt lv st ws) : kW x n k pc lv (.int a :: st) ws := by
  obtain ⟨p, l', e, R', s, m, args, below, meth, c, g', A, H0, nL', Q⟩ := x
  obtain ⟨rfl, rfl, rfl, rfl, hx, hb, hml, ho', hts, hE, hA, hk⟩ := X
  exact fun H locs ls hP hD hS hl => lv_lookup hx hb d hp h ht (K H locs ls hP hD hS hl)
end KT
theorem pin_t {p : Int32} {m : Nat} (hm : m < 2147483648) (h : pin p m = true) : ∃ j, j < m ∧ p = nI j := by
  simp only [pin, Bool.and_eq_true, Bool.not_eq_true', decide_eq_false_iff_not] at h
  obtain ⟨j, hj, rfl⟩ := nI_of h.1
  exact ⟨j, Nat.not_le.mp (fun q => h.2 (nI_le q hj)), rfl⟩
theorem pin_nI {j m : Nat} (hj : j < 2147483648) (hm : m < 2147483648) : pin (nI j) m = decide (j < m) := by
  by_cases h : j < m
  · have h1 : ¬ nI m ≤ nI j := nI_ge h hm
    have h2 : ¬ nI j < 0 := nI_pos hj
    simp [pin, h, h1, h2]
  · have h1 : nI m ≤ nI j := nI_le (Nat.not_lt.mp h) hj
    simp [pin, h, h1]
theorem two_nI {i j m : Nat} (hi : i < 2147483648) (hj : j < 2147483648) (hm : m < 2147483648) : two (nI i) (nI j) m = (decide (i < m) && (decide (j < m) && !decide (i = j))) := by
  rw [two, pin_nI hi hm, pin_nI hj hm]
  by_cases h : i = j
  · simp [h]
  · have := mt (nI_eq hi hj).mp h
    simp [h, this]
theorem two_t {i j : Nat} {m : Nat} (hi : i < 2147483648) (hj : j < 2147483648) (hm : m < 2147483648) (h : two (nI i) (nI j) m = true) : i < m ∧ j < m ∧ i ≠ j := by
  rw [two_nI hi hj hm] at h
  simpa using h
theorem tb_shr (s p : Nat) (hs : s < 2147483648) (hp : p < 31) : (nI s >>> (nI p &&& 31)) &&& 1 = zI (s.testBit p) := by
  have h1 : nI p &&& 31 = nI p := by
    have := pk_andN (n := p) (by omega) (m := 31) 5 rfl
    rw [this, Nat.mod_eq_of_lt (by omega)]
  rw [h1, pk_shrN hs (nI p) p (by
    have : ∀ q, q < 31 → ((nI q).toBitVec.smod 32).toNat = q := by decide +kernel
    exact this p hp)]
  rw [pk_andN (n := s / 2 ^ p) (by have := Nat.div_le_self s (2 ^ p); omega) (m := 1) 1 rfl]
  rw [Nat.testBit_eq_decide_div_mod_eq]
  have h2 : s / 2 ^ p % 2 < 2 := Nat.mod_lt _ (by decide)
  by_cases h : s / 2 ^ p % 2 = 1
  · rw [show s / 2 ^ p % 2 ^ 1 = 1 from h]; rfl
  · rw [show s / 2 ^ p % 2 ^ 1 = 0 by omega]; rfl
theorem bit_in : ∀ i, i < 31 → (1 : Int32) <<< (nI i &&& 31) = nI (2 ^ i) := by decide +kernel
theorem or_nI (a b : Nat) : nI a ||| nI b = nI (a ||| b) := by
  apply Int32.toBitVec_inj.mp
  simp [nI, BitVec.ofNat_or]
