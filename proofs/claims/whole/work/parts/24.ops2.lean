/-! more calls as functions -/
def oSeeR (v : VS) (i p b c : Int32) (s : SS) : Int32 := if (two i p (vN v) && fare b c) = true then (if sSize s = 6 then -3 else nI (sSize s + 1)) else -1
def oSeeS (v : VS) (i p b c : Int32) (m : Bool) (s : SS) : SS := if (two i p (vN v) && fare b c) = true then (if sSize s = 6 then s else sAdd s (P i) (P p) b c m) else s
def oFelt (v : VS) (i p : Int32) (s : SS) : Int32 := if two i p (vN v) = true then nI (sTb s v (P i) (P p) 10) else -1
def oKinds (v : VS) (i : Int32) (s : SS) : Int32 := if pin i (vN v) = true then nI (sKb s v (P i) 5) else -1
def oCount (v : VS) (us ks : List VS) (tn : Nat) (s : SS) (m : Int32) : Int32 := if m = 0 then nI (vN v) else if m = 1 then nI (vN v) - nI (wBits (vX v)) else if m = 2 then nI (wBits (vH v)) else if m = 3 then vY v else if m = 4 then vZ v else if m = 5 then wSum (vC v) (vN v) else if m = 6 then wSum (vD v) 36 else if m = 7 then nI (sSize s) else if m = 8 then nI us.length else if m = 9 then nI ks.length else if m = 10 then nI tn else -1
def isS (v : VS) (p : Nat) (st : Int32) : Bool := inr st 1 (nI (2 ^ vN v) - 1) && !(P st).testBit p
theorem set_j {x : Int32} {m : Nat} (hm : m ≤ 6) (h : inr x 1 (nI (2 ^ m) - 1) = true) : ∃ k, 1 ≤ k ∧ k < 2 ^ m ∧ k < 64 ∧ x = nI k ∧ P x = k := by
  have h2 : 2 ^ m ≤ 2 ^ 6 := Nat.pow_le_pow_right (by decide) hm
  have h1 : 0 < 2 ^ m := Nat.two_pow_pos m
  obtain ⟨q, hq⟩ : ∃ q, 2 ^ m = q + 1 := ⟨2 ^ m - 1, by omega⟩
  rw [hq, om_1] at h
  obtain ⟨k, k1, k2, k3, k4⟩ := inr_n (a := 1) (by decide) (by omega) h
  exact ⟨k, k1, by omega, by omega, k3, k4⟩
theorem isS_j {v : VS} {p : Nat} {st : Int32} (h6 : vN v ≤ 6) (h : isS v p st = true) : ∃ k, k < 64 ∧ st = nI k ∧ P st = k := by
  simp only [isS, Bool.and_eq_true] at h
  obtain ⟨k, k1, k2, k3, k4, k5⟩ := set_j h6 h.1
  exact ⟨k, k3, k4, k5⟩
theorem inr01 {m : Int32} (h : inr m 0 1 = true) : m = 0 ∨ m = 1 := by
  obtain ⟨k, h1, h2, h3, h4⟩ := inr_n (a := 0) (b := 1) (by decide) (by decide) h
  rcases (show k = 0 ∨ k = 1 by omega) with e | e
  · exact Or.inl (by rw [h3, e]; rfl)
  · exact Or.inr (by rw [h3, e]; rfl)
/-- the cheapest fare: its code, 4 times the bells and the cakes -/
def kCost (k : Nat) : Nat := 2 * (k / 4) + 3 * (k % 4)
def cov (G S : Nat) : Bool := decide (nI G &&& nI S = nI S)
def chM : Option Nat → Int32
  | none => 999
  | some k => nI (kCost k)
def chL : Option Nat → Int32
  | none => -4
  | some k => nI (kCost k)
def chF : Option Nat → Int32
  | none => -4
  | some k => nI (10 * (k / 4) + k % 4)
def ch (v : VS) (p S : Nat) : Nat → Option Nat
  | 0 => none
  | k + 1 => if (cov (wGuests v p (nI (k / 4)) (nI (k % 4))) S && !decide (chM (ch v p S k) ≤ nI (kCost k))) = true then some k else ch v p S k
theorem ch_lt (v : VS) (p S : Nat) : ∀ k j, ch v p S k = some j → j < k
  | 0, j, h => by cases h
  | k + 1, j, h => by
    rw [ch] at h
    split at h
    · cases h; omega
    · have := ch_lt v p S k j h; omega
def oCheap (v : VS) (p st m : Int32) : Int32 := if (pin p (vN v) && (isS v (P p) st && inr m 0 1)) = true then (if wLives v (P p) = true then (if m = 0 then chL (ch v (P p) (P st) 16) else chF (ch v (P p) (P st) 16)) else -2) else -1
theorem cov_r0 : ∀ G, G < 64 → ∀ S, S < 64 → ((nI S &&& (nI G ^^^ (-1 : Int32)) = 0) ↔ (nI G &&& nI S = nI S)) := by decide +kernel
theorem cov_r {G S : Nat} (hG : G < 64) (hS : S < 64) : cov G S = decide (nI S &&& (nI G ^^^ (-1 : Int32)) = 0) := by
  unfold cov
  simp only [cov_r0 G hG S hS]
theorem ch_ret {o : Option Nat} {m : Int32} (hm : inr m 0 1 = true) (ho : ∀ j, o = some j → j < 16) : (if m = 0 then chL o else chF o) = if chF o < 0 ∨ m = 1 then chF o else chM o := by
  rcases inr01 hm with e | e
  · subst e
    rw [if_pos rfl]
    cases o with
    | none => rw [if_pos (Or.inl (by decide))]; rfl
    | some k =>
      have hk := ho k rfl
      have q : ¬ chF (some k) < 0 := nI_pos (by omega)
      rw [if_neg (by rintro (h | h); exact q h; exact absurd h (by decide))]; rfl
  · subst e
    rw [if_neg (by decide), if_pos (Or.inr rfl)]
/-! gifts until all of a set come -/
def tieN (v : VS) (k : Nat) : Nat := (vT v k + 4).toNatClampNeg
def gF (v : VS) (i p : Nat) (b c : Int32) : Nat → Nat → Option Nat
  | 0, _ => none
  | f + 1, k => if wCome v i (vK v i) (nI (tieN v (i * 6 + p) + k) - 4) p b c then some k else gF v i p b c f (k + 1)
theorem tieN_e {v : VS} (h : TI v) {k : Nat} (hk : k < 36) : tieN v k ≤ 9 ∧ vT v k = nI (tieN v k) - 4 := by
  obtain ⟨t, ht, e⟩ := h k hk
  have : tieN v k = t := by
    unfold tieN
    rw [e, gk_4 t (by omega)]
    exact nI_clamp (by omega)
  rw [this]
  exact ⟨ht, e⟩
def gI : Option Nat → Int32
  | none => -4
  | some k => nI k
def gO (v : VS) (p S : Nat) (b c : Int32) : Nat → Option Nat
  | 0 => some 0
  | i + 1 => match gO v p S b c i with
    | none => none
    | some m => if S.testBit i = true then (match gF v i p b c (10 - tieN v (i * 6 + p)) 0 with | none => none | some n => some (m + n)) else some m
def oGifts (v : VS) (p st b c : Int32) : Int32 := if (pin p (vN v) && (isS v (P p) st && fare b c)) = true then (if wLives v (P p) = true then gI (gO v (P p) (P st) b c (vN v)) else -2) else -1
theorem gF_le (v : VS) (i p : Nat) (b c : Int32) : ∀ f k j, gF v i p b c f k = some j → k ≤ j ∧ j < k + f
  | 0, _, _, h => by cases h
  | f + 1, k, j, h => by
    rw [gF] at h
    split at h
    · cases h; omega
    · have := gF_le v i p b c f (k + 1) j h; omega
theorem gO_le (v : VS) (p S : Nat) (b c : Int32) : ∀ i m, gO v p S b c i = some m → m ≤ 10 * i
  | 0, m, h => by cases h; omega
  | i + 1, m, h => by
    rw [gO] at h
    split at h
    · cases h
    · rename_i m' e
      have h1 := gO_le v p S b c i m' e
      split at h
      · split at h
        · cases h
        · rename_i n e2
          have := gF_le v i p b c _ _ _ e2
          cases h; omega
      · cases h; omega
theorem gO_none (v : VS) (p S : Nat) (b c : Int32) {i : Nat} (h : gO v p S b c i = none) : ∀ j, i ≤ j → gO v p S b c j = none := by
  intro j hj
  induction j with
  | zero => rw [← h, show i = 0 by omega]
  | succ j ih =>
    by_cases e : i = j + 1
    · rw [← e]; exact h
    · rw [gO, ih (by omega)]
theorem gF_wGf (v : VS) (i p : Nat) (b c : Int32) {t : Nat} (ht : tieN v (i * 6 + p) = t) : ∀ f k, wGf v i p b c t f k = gI (gF v i p b c f k)
  | 0, _ => rfl
  | f + 1, k => by
    rw [wGf, gF, ht]
    split
    · rfl
    · exact gF_wGf v i p b c ht f (k + 1)
theorem gF_dead (v : VS) (i p : Nat) (b c : Int32) (h : wLives v i = false) : ∀ f k, gF v i p b c f k = none
  | 0, _ => rfl
  | f + 1, k => by
    rw [gF, wCome, h, Bool.false_and, if_neg (by decide)]
    exact gF_dead v i p b c h f (k + 1)
/-! two who go to each other's -/
def mW (v : VS) (i j k : Nat) : VS := wMeet (wMeet v i j (decide (k % 2 = 1))) j i (decide (k / 2 = 1))
def mg (v : VS) (i j k : Nat) (f : Bool) : Int32 := if f = true then wGain (mW v i j k) i j else wGain (mW v i j k) j i
def mR (v : VS) (i j k : Nat) : Bool := !decide (mg v i j k true < mg v i j (k ^^^ 2) true) && !decide (mg v i j k false < mg v i j (k ^^^ 1) false)
def mN (v : VS) (i j : Nat) : Nat → Nat
  | 0 => 0
  | k + 1 => mN v i j k + (if mR v i j k = true then 1 else 0)
def mF (v : VS) (i j : Nat) : Nat → Int32
  | 0 => -4
  | k + 1 => if (mR v i j k && decide (mN v i j k = 0)) = true then nI k else mF v i j k
theorem mN_le (v : VS) (i j : Nat) : ∀ k, mN v i j k ≤ k
  | 0 => Nat.le_refl 0
  | k + 1 => by
    have := mN_le v i j k
    rw [mN]
    split <;> omega
def oMut (v : VS) (i j m : Int32) : Int32 := if (two i j (vN v) && inr m 0 1) = true then (if (wLives v (P i) && wLives v (P j)) = true then (if m = 0 then nI (mN v (P i) (P j) 4) else mF v (P i) (P j) 4) else -2) else -1
theorem xor_nI : ∀ k, k < 4 → ∀ m, m < 4 → nI k ^^^ nI m = nI (k ^^^ m) := by decide +kernel
theorem xor_lt : ∀ k, k < 4 → k ^^^ 2 < 4 ∧ k ^^^ 1 < 4 := by decide +kernel
/-! a year by draws -/
def dr (z k : Nat) : Nat := (7919 * z + 6151 * k + 1) * (7919 * z + 6151 * k + 1) % 65521
theorem dr_lt (z k : Nat) : dr z k < 65521 := Nat.mod_lt _ (by decide)
def yV (v : VS) (z : Nat) : Nat → VS
  | 0 => v
  | k + 1 => wDay (yV v z k) (dr z k)
def yC (v : VS) (z : Nat) : Nat → Nat
  | 0 => 0
  | k + 1 => yC v z k + wDayC (yV v z k) (dr z k)
def oYear (v : VS) (z n m : Int32) : Int32 := if (inr z 0 9999 && (inr n 1 60 && inr m 0 1)) = true then (if m = 0 then nI (yC v (P z) (P n)) else wSum (vC (yV v (P z) (P n))) (vN v)) else -1
theorem wDayC_le (v : VS) (d : Nat) : wDayC v d ≤ 6 := by
  unfold wDayC
  split
  · exact wBits_le _
  · omega
theorem yC_le (v : VS) (z : Nat) : ∀ k, yC v z k ≤ 6 * k
  | 0 => Nat.le_refl 0
  | k + 1 => by
    have := yC_le v z k
    have := wDayC_le (yV v z k) (dr z k)
    rw [yC]
    omega
theorem GV.day {pe : Nat} {so ag : Nat → Int32} {fr : Int32} {v : VS} (h : GV pe so ag fr v) (d : Nat) : GV pe so ag fr (wDay v d) := by
  unfold wDay
  refine GV.days ?_ 1
  have hm : d % vN v < vN v := Nat.mod_lt _ h.2.2.2
  have h6 := h.2.1.1
  unfold wDayP
  split
  · exact h.hold (by omega) _ _
  · split
    · exact h.give _ _
    · exact h
theorem wDay_N {pe : Nat} {so ag : Nat → Int32} {fr : Int32} {v : VS} (h : GV pe so ag fr v) : pe = vN v := h.1.1
theorem GV.yV {pe : Nat} {so ag : Nat → Int32} {fr : Int32} {v : VS} (h : GV pe so ag fr v) (z : Nat) : ∀ k, GV pe so ag fr (yV v z k)
  | 0 => h
  | k + 1 => (GV.yV h z k).day _
theorem l_of (k : Nat) (h : k < 2147483648) : (nI k).toInt64 = Int64.ofNat k := by
  apply Int64.toInt_inj.mp
  rw [Int32.toInt_toInt64, nI_toInt h, Int64.toInt_ofNat_of_lt (by omega)]
theorem dr_x (z k : Nat) (hz : z ≤ 9999) (hk : k < 60) : (7919 : Int64) * (nI z).toInt64 + (6151 : Int64) * (nI k).toInt64 + (1 : Int64) = Int64.ofNat (7919 * z + 6151 * k + 1) := by
  rw [l_of z (by omega), l_of k (by omega), Int64.ofNat_add, Int64.ofNat_add, Int64.ofNat_mul, Int64.ofNat_mul]
  rfl
theorem sq_le {m : Nat} (h : m < 3000000000) : m * m < 9223372036854775808 := by
  have := Nat.mul_le_mul (Nat.le_of_lt_succ h) (Nat.le_of_lt_succ h)
  omega
theorem dr_m (m : Nat) (h : m < 3000000000) : (Int64.ofNat m * Int64.ofNat m - Int64.ofNat m * Int64.ofNat m / (65521 : Int64) * (65521 : Int64)).toInt32 = nI (m * m % 65521) := by
  have hs := sq_le h
  have e1 : Int64.ofNat m * Int64.ofNat m = Int64.ofNat (m * m) := (Int64.ofNat_mul m m).symm
  have e2 : Int64.ofNat (m * m) / (65521 : Int64) = Int64.ofNat (m * m / 65521) := by
    apply Int64.toInt_inj.mp
    have hd : m * m / 65521 < 9223372036854775808 := Nat.lt_of_le_of_lt (Nat.div_le_self _ _) hs
    rw [Int64.toInt_div, Int64.toInt_ofNat_of_lt hs, Int64.toInt_ofNat_of_lt hd]
    have h3 : (65521 : Int64).toInt = 65521 := rfl
    rw [h3, Int.tdiv_eq_ediv_of_nonneg (by omega)]
    have : ((m * m : Nat) : Int) / 65521 = ((m * m / 65521 : Nat) : Int) := (Int.natCast_ediv (m * m) 65521).symm
    rw [this]
    rw [Int.bmod_eq_of_le (by omega) (by omega)]
  have hm : m * m = 65521 * (m * m / 65521) + m * m % 65521 := (Nat.div_add_mod _ _).symm
  rw [e1, e2]
  apply Int32.toInt_inj.mp
  have hr : m * m % 65521 < 65521 := Nat.mod_lt _ (by decide)
  rw [nI_toInt (by omega)]
  have e3 : Int64.ofNat (m * m) - Int64.ofNat (m * m / 65521) * (65521 : Int64) = Int64.ofNat (m * m % 65521) := by
    have e4 : (65521 : Int64) = Int64.ofNat 65521 := rfl
    rw [e4, ← Int64.ofNat_mul]
    conv => lhs; lhs; rw [hm]
    rw [Int64.ofNat_add, Nat.mul_comm 65521 (m * m / 65521)]
    rw [Int64.add_comm, Int64.add_sub_cancel]
  rw [e3, Int64.toInt_toInt32, Int64.toInt_ofNat_of_lt (by omega)]
  exact Int.bmod_eq_of_le (by omega) (by omega)
/-! rain -/
def wg (x set : Nat) : Nat → Nat
  | 0 => 1
  | k + 1 => wg x set k * (if set.testBit k = true then x else 10 - x)
def rA (wd x : Nat) : Nat → Nat
  | 0 => 0
  | s + 1 => rA wd x s + wg x s wd
def rU (wd n x : Nat) : Nat → Nat
  | 0 => 0
  | s + 1 => rU wd n x s + (if n ≤ wBits s then wg x s wd else 0)
def oRain (v : VS) (p b c n x m : Int32) : Int32 := if (pin p (vN v) && (fare b c && (inr n 0 6 && (inr x 0 10 && inr m 0 1)))) = true then (if wLives v (P p) = true then
    (fun wd => (fun u a => if m = 0 then nI (u / Nat.gcd u a) else nI (a / Nat.gcd u a)) (rU wd (P n) (P x) (2 ^ wd)) (rA wd (P x) (2 ^ wd))) (wBits (wGuests v (P p) b c)) else -2) else -1
theorem wg_le (x set : Nat) (hx : x ≤ 10) : ∀ k, wg x set k ≤ 10 ^ k
  | 0 => Nat.le_refl 1
  | k + 1 => by
    rw [wg, Nat.pow_succ]
    refine Nat.mul_le_mul (wg_le x set hx k) ?_
    split <;> omega
theorem rA_le (wd x : Nat) (hx : x ≤ 10) : ∀ s, rA wd x s ≤ s * 10 ^ wd
  | 0 => by rw [rA]; omega
  | s + 1 => by
    have h1 := rA_le wd x hx s
    have h2 := wg_le x s hx wd
    rw [rA, Nat.succ_mul]
    omega
theorem rU_le (wd n x : Nat) : ∀ s, rU wd n x s ≤ rA wd x s
  | 0 => Nat.le_refl 0
  | s + 1 => by
    have h1 := rU_le wd n x s
    rw [rU, rA]
    split <;> omega
theorem rA_10 : ∀ wd, wd ≤ 6 → ∀ x, x ≤ 10 → rA wd x (2 ^ wd) = 10 ^ wd := by decide +kernel
theorem RS_add {pe se : Nat} {wh wo : Nat → Nat} {bl ck : Nat → Int32} {sw : Nat → Bool} (h : RS pe se wh wo bl ck sw (wh, wo, bl, ck, sw, se)) (h6 : se < 6) {i j : Nat} (hi : i < pe) (hj : j < pe) (b c : Int32) (m : Bool) :
    RS pe (se + 1) (va_up wh se i) (va_up wo se j) (upd bl se b) (upd ck se c) (va_up sw se m) (sAdd (wh, wo, bl, ck, sw, se) i j b c m) := by
  refine ⟨rfl, by omega, fun k hk => ?_⟩
  by_cases e : k = se
  · subst e; rw [va_up_self, va_up_self]; exact ⟨hi, hj⟩
  · rw [va_up_ne _ _ e, va_up_ne _ _ e]; exact h.2.2 k (by omega)
theorem gk_add0 : ∀ t, t < 11 → ∀ k, k < 11 → (nI t - 4) + nI k = nI (t + k) - 4 := by decide +kernel
theorem gk_add {t k : Nat} (h : t ≤ 10) (h2 : k ≤ 10) : (nI t - 4) + nI k = nI (t + k) - 4 := gk_add0 t (by omega) k (by omega)
theorem gO_out {v : VS} {p S : Nat} {b c : Int32} {i m : Nat} (h : gO v p S b c i = some m) (hb : S.testBit i = false) : gO v p S b c (i + 1) = some m := by rw [gO, h]; simp [hb]
theorem gO_in {v : VS} {p S : Nat} {b c : Int32} {i m n : Nat} (h : gO v p S b c i = some m) (hb : S.testBit i = true) (hg : gF v i p b c (10 - tieN v (i * 6 + p)) 0 = some n) : gO v p S b c (i + 1) = some (m + n) := by rw [gO, h]; simp [hb, hg]
theorem gO_no {v : VS} {p S : Nat} {b c : Int32} {i m : Nat} (h : gO v p S b c i = some m) (hb : S.testBit i = true) (hg : gF v i p b c (10 - tieN v (i * 6 + p)) 0 = none) : gO v p S b c (i + 1) = none := by rw [gO, h]; simp [hb, hg]
theorem gO_end {v : VS} {p S : Nat} {b c : Int32} {i : Nat} (h6 : vN v ≤ 6) (hi : i ≤ vN v) (h : gI (gO v p S b c i) < 0) : gO v p S b c (vN v) = gO v p S b c i := by
  cases q : gO v p S b c i with
  | none => exact gO_none v p S b c q _ hi
  | some m =>
    rw [q] at h
    have := gO_le v p S b c i m q
    exact absurd h (nI_pos (by omega))
theorem KE.meet {pe : Nat} {so ag : Nat → Int32} {fr : Int32} {v : VS} (h : KE pe so ag fr v) (p i : Nat) (cm : Bool) : KE pe so ag fr (wMeet v p i cm) := by
  have k := wKeep_meet v p i cm
  exact h.of k.1 k.2.1 k.2.2.1 k.2.2.2.1
theorem VI_meet {v : VS} (h : VI v) (p i : Nat) (cm : Bool) : VI (wMeet v p i cm) := (wKeep_meet v p i cm).VI h
theorem lt_meet {v : VS} {q p i : Nat} {cm : Bool} (h : q < vN v) : q < vN (wMeet v p i cm) := by rw [(wKeep_meet v p i cm).2.2.1]; exact h
theorem gcd_st {u w : Nat} : Nat.gcd w (u % w) = Nat.gcd u w := by rw [Nat.gcd_comm u w, Nat.gcd_rec w u, Nat.gcd_comm]
theorem p2_le {wd : Nat} (h : wd ≤ 6) : 2 ^ wd ≤ 64 := Nat.pow_le_pow_right (n := 2) (by decide) h
theorem rA_lt {wd x s : Nat} (hw : wd ≤ 6) (hx : x ≤ 10) (hs : s ≤ 64) : rA wd x s ≤ 64000000 := by
  have h1 := rA_le wd x hx s
  have h2 : 10 ^ wd ≤ 10 ^ 6 := Nat.pow_le_pow_right (by decide) hw
  have h3 := Nat.mul_le_mul hs h2
  omega
