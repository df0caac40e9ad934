/-! the calls as functions -/
def P (x : Int32) : Nat := x.toNatClampNeg
theorem P_n {x : Int32} {k : Nat} (h : x = nI k) (hk : k < 2147483648) : P x = k := by rw [h]; exact nI_clamp hk
theorem pin_j {p : Int32} {m : Nat} (hm : m ≤ 6) (h : pin p m = true) : ∃ j, j < m ∧ p = nI j ∧ P p = j := by
  obtain ⟨j, h1, h2⟩ := pin_t (by omega) h
  exact ⟨j, h1, h2, P_n h2 (by omega)⟩
theorem two_j {p q : Int32} {m : Nat} (hm : m ≤ 6) (h : two p q m = true) : ∃ i j, i < m ∧ j < m ∧ i ≠ j ∧ p = nI i ∧ q = nI j ∧ P p = i ∧ P q = j := by
  have h0 := h
  simp only [two, Bool.and_eq_true] at h
  obtain ⟨i, h1, h2, h3⟩ := pin_j hm h.1
  obtain ⟨j, h4, h5, h6⟩ := pin_j hm h.2.1
  subst h2 h5
  obtain ⟨k1, k2, k3⟩ := two_t (by omega) (by omega) (by omega) h0
  exact ⟨i, j, h1, h4, k3, rfl, rfl, h3, h6⟩
def pv (v : VS) : Option VS → VS
  | none => v
  | some w => w
def pu (v : VS) (us : List VS) : Option VS → List VS
  | none => us
  | some _ => (v :: us).take 8
def oTrial (v : VS) (p b c : Int32) : Int32 × Option VS := if (pin p (vN v) && fare b c) = true then (if wCan v (P p) b c = true then (nI (wGuests v (P p) b c), some (wHold v (P p) b c)) else (-2, none)) else (-1, none)
def oGift (v : VS) (i j : Int32) : Int32 × Option VS := if two i j (vN v) = true then (if wCanGive v (P i) (P j) = true then (vT (wGive v (P i) (P j)) (P j * 6 + P i) + 4, some (wGive v (P i) (P j))) else (-2, none)) else (-1, none)
def oPay (v : VS) (i j : Int32) : Int32 × Option VS := if two i j (vN v) = true then (if vD v (P i * 6 + P j) = 0 ∨ vC v (P i) = 0 then (-2, none) else (wPaid v (P i) (vD v (P i * 6 + P j)), some (wPay v (P i) (P j) (vD v (P i * 6 + P j))))) else (-1, none)
def oDie (v : VS) (p : Int32) : Int32 × Option VS := if pin p (vN v) = true then (if wLives v (P p) = true then (wHeir v (P p), some (wBury v (P p))) else (-2, none)) else (-1, none)
def oPass (v : VS) (n : Int32) : Int32 × Option VS := if inr n 1 30 = true then (vY v + n, some (wDays v n)) else (-1, none)
def uR : List VS → Int32
  | [] => -2
  | _ :: t => nI t.length
def uV (v : VS) : List VS → VS
  | [] => v
  | u :: _ => u
def kR (ks : List VS) : Int32 := if ks.length = 2 then -3 else nI (ks.length + 1)
def kK (v : VS) (ks : List VS) : List VS := if ks.length = 2 then ks else v :: ks
def bU (us : List VS) : List VS → List VS
  | [] => us
  | _ :: _ => []
def oCome (v : VS) (p b c w : Int32) : Int32 := if (pin p (vN v) && (fare b c && inr w 0 1)) = true then (if wLives v (P p) = true then (if w = 0 then nI (wBits (wGuests v (P p) b c)) else nI (wGuests v (P p) b c)) else -2) else -1
def oPerson (v : VS) (p w : Int32) : Int32 := if (pin p (vN v) && inr w 0 5) = true then (if w = 0 then vK v (P p) else if w = 1 then wAge v (P p) else if w = 2 then vC v (P p) else if w = 3 then zI ((vX v).testBit (P p)) else if w = 4 then zI ((vH v).testBit (P p)) else if wLives v (P p) = true then wHeir v (P p) else -4) else -1
def oTieOf (v : VS) (i j : Int32) : Int32 := if two i j (vN v) = true then vT v (P i * 6 + P j) + 4 else -1
def oOwes (v : VS) (i j : Int32) : Int32 := if two i j (vN v) = true then vD v (P i * 6 + P j) else -1
def oWr (x : Int32) (tn : Nat) : Int32 := if inr x 32 126 = true then (if 200 ≤ tn then -3 else nI (tn + 1)) else -1
def oWrN (x : Int32) (tn : Nat) : Nat := if inr x 32 126 = true then (if 200 ≤ tn then tn else tn + 1) else tn
def oWrT (x : Int32) (tn : Nat) (tf : Nat → Nat) : Nat → Nat := if inr x 32 126 = true then (if 200 ≤ tn then tf else va_up tf tn (P x)) else tf
theorem inr_n {x : Int32} {a b : Nat} (ha : a < 2147483648) (hb : b < 2147483648) (h : inr x (nI a) (nI b) = true) : ∃ k, a ≤ k ∧ k ≤ b ∧ x = nI k ∧ P x = k := by
  simp only [inr, Bool.and_eq_true, Bool.not_eq_true', decide_eq_false_iff_not] at h
  have h1 : nI a ≤ x := Int32.not_lt.mp h.1
  have h2 : x ≤ nI b := Int32.not_lt.mp h.2
  have h0 : ¬ x < 0 := by
    intro q
    rw [Int32.lt_iff_toInt_lt] at q
    rw [Int32.le_iff_toInt_le, nI_toInt ha] at h1
    have : (0 : Int32).toInt = 0 := rfl
    omega
  obtain ⟨k, hk, e⟩ := nI_of h0
  subst e
  rw [Int32.le_iff_toInt_le, nI_toInt ha, nI_toInt hk] at h1
  rw [Int32.le_iff_toInt_le, nI_toInt hb, nI_toInt hk] at h2
  exact ⟨k, by omega, by omega, rfl, nI_clamp hk⟩
theorem i2b_n : ∀ k, k < 128 → (nI k).toInt8.toInt32 = nI k := by decide +kernel
/-! the ring of villages that can be undone -/
def SH (sl z : Nat → Int32) (i : Nat) : Prop := (∀ j, 82 ≤ j → j < i → z j = sl (j + 82)) ∧ ∀ j, j < 82 ∨ i ≤ j → z j = sl j
theorem SH.rf {sl : Nat → Int32} : SH sl sl 82 := ⟨fun j h1 h2 => by omega, fun _ _ => rfl⟩
theorem SH.up {sl z : Nat → Int32} {i : Nat} (h : SH sl z i) (hi : 82 ≤ i) : SH sl (upd z i (z (i + 82))) (i + 1) := by
  refine ⟨fun j h1 h2 => ?_, fun j hj => ?_⟩
  · by_cases e : j = i
    · subst e; rw [upd_eq _ _ rfl]; exact h.2 _ (by omega)
    · rw [upd_ne _ _ e]; exact h.1 j h1 (by omega)
  · rw [upd_ne _ _ (by omega)]; exact h.2 j (by omega)
section KN
variable {g : kw_G} {a : Nat → Nat} {pe : Nat} {so ag : Nat → Int32} {fr : Int32} {np : Nat} {ns na : Nat → Int32} {nf : Int32} {sl : Nat → Int32} {ac ke le : Nat} {tx : Nat → Nat} {ap bg : Nat} {wr : Bool} {se : Nat} {wh wo : Nat → Nat} {bl ck : Nat → Int32} {sw : Nat → Bool} {ma : Nat} {ro bs : Nat → Nat} {v : VS} {us ks : List VS} {tf : Nat → Nat} {tn : Nat} {s : SS}
theorem EN.win {sl' : Nat → Int32} {o o' : Nat} {u : VS} (h : EN sl o u) (hf : ∀ k, k < 82 → sl' (o' + k) = sl (o + k)) : EN sl' o' u :=
  ⟨fun p hp => (hf p (by omega)).trans (h.1 p hp), (hf 6 (by omega)).trans h.2.1, (hf 7 (by omega)).trans h.2.2.1, (hf 8 (by omega)).trans h.2.2.2.1, (hf 9 (by omega)).trans h.2.2.2.2.1,
   fun k hk => by rw [Nat.add_assoc, hf (10 + k) (by omega), ← Nat.add_assoc]; exact h.2.2.2.2.2.1 k hk, fun k hk => by rw [Nat.add_assoc, hf (46 + k) (by omega), ← Nat.add_assoc]; exact h.2.2.2.2.2.2 k hk⟩
theorem known_more {sl' : Nat → Int32} (h : RI pe so ag fr sl ac ke le tx se wh wo bl ck sw v us ks tf tn s) (h8 : ac ≠ 8) (c : CPY sl sl' 0 ((ac + 1) * 82)) : RI pe so ag fr sl' (ac + 1) ke le tx se wh wo bl ck sw v ((v :: us).take 8) ks tf tn s := by
  obtain ⟨hE, hG, hU, hK, hR⟩ := h
  have hl := hU.1
  have hm := hU.2.1
  have ht : (v :: us).take 8 = v :: us := List.take_of_length_le (by rw [List.length_cons]; omega)
  rw [ht]
  refine ⟨hE.fr c.2 (by omega), hG, ⟨by rw [List.length_cons]; omega, by omega, fun i u hu => ?_⟩, RK_fr hK (fun k h1 h2 => c.2 k (by omega)), hR⟩
  cases i with
  | zero =>
    simp only [List.getElem?_cons_zero, Option.some.injEq] at hu
    subst hu
    exact ⟨hE.cp c, hG⟩
  | succ i =>
    simp only [List.getElem?_cons_succ] at hu
    obtain ⟨h1, h2⟩ := hU.2.2 i u hu
    have hi : i < us.length := (List.getElem?_eq_some_iff.mp hu).1
    rw [show ac + 1 - (i + 1) = ac - i by omega]
    exact ⟨h1.fr c.2 (by omega), h2⟩
theorem known_full {z sl' : Nat → Int32} (h : RI pe so ag fr sl ac ke le tx se wh wo bl ck sw v us ks tf tn s) (h8 : ac = 8) (hs : SH sl z 656) (c : CPY z sl' 0 ((7 + 1) * 82)) : RI pe so ag fr sl' (7 + 1) ke le tx se wh wo bl ck sw v ((v :: us).take 8) ks tf tn s := by
  obtain ⟨hE, hG, hU, hK, hR⟩ := h
  have hl := hU.1
  have hm := hU.2.1
  have hEz : EN z 0 v := hE.win (fun k hk => hs.2 _ (by omega))
  refine ⟨hEz.fr c.2 (by omega), hG, ⟨by rw [List.length_take, List.length_cons]; omega, by omega, fun i u hu => ?_⟩, RK_fr hK (fun k h1 h2 => (c.2 k (by omega)).trans (hs.2 k (by omega))), hR⟩
  rw [List.getElem?_take] at hu
  split at hu
  · cases i with
    | zero =>
      simp only [List.getElem?_cons_zero, Option.some.injEq] at hu
      subst hu
      exact ⟨hEz.cp c, hG⟩
    | succ i =>
      simp only [List.getElem?_cons_succ] at hu
      obtain ⟨h1, h2⟩ := hU.2.2 i u hu
      refine ⟨EN.fr (h1.win (fun k hk => ?_)) c.2 (by omega), h2⟩
      rw [hs.1 _ (by omega) (by omega)]
      congr 1
      omega
  · cases hu
theorem undo_ok {sl' : Nat → Int32} {u : VS} (h : RI pe so ag fr sl ac ke le tx se wh wo bl ck sw v (u :: us) ks tf tn s) (c : CPY sl sl' (ac * 82) 0) : RI pe so ag fr sl' (ac - 1) ke le tx se wh wo bl ck sw u us ks tf tn s := by
  obtain ⟨hE, hG, hU, hK, hR⟩ := h
  have hl := hU.1
  rw [List.length_cons] at hl
  have hm := hU.2.1
  obtain ⟨h1, h2⟩ := hU.2.2 0 u rfl
  refine ⟨h1.cp c, h2, ⟨by omega, by omega, fun i w hw => ?_⟩, RK_fr hK (fun k h1 h2 => c.2 k (by omega)), hR.1, ?_⟩
  · obtain ⟨h3, h4⟩ := hU.2.2 (i + 1) w hw
    have hi : i < us.length := (List.getElem?_eq_some_iff.mp hw).1
    rw [show ac - 1 - i = ac - (i + 1) by omega]
    exact ⟨h3.fr c.2 (by omega), h4⟩
  · exact hR.2
theorem keep_ok {sl' : Nat → Int32} (h : RI pe so ag fr sl ac ke le tx se wh wo bl ck sw v us ks tf tn s) (h2 : ke ≠ 2) (c : CPY sl sl' 0 ((9 + ke) * 82)) : RI pe so ag fr sl' ac (ke + 1) le tx se wh wo bl ck sw v us (kK v ks) tf tn s := by
  obtain ⟨hE, hG, hU, hK, hR⟩ := h
  have hl := hK.1
  have hm := hK.2.1
  rw [kK, if_neg (by omega)]
  refine ⟨hE.fr c.2 (by omega), hG, RU_fr hU (fun k h1 h2 => c.2 k (by omega)), ⟨by rw [List.length_cons]; omega, by omega, fun i u hu => ?_⟩, hR⟩
  cases i with
  | zero =>
    simp only [List.getElem?_cons_zero, Option.some.injEq] at hu
    subst hu
    rw [show 8 + (ke + 1) - 0 = 9 + ke by omega]
    exact ⟨hE.cp c, hG⟩
  | succ i =>
    simp only [List.getElem?_cons_succ] at hu
    obtain ⟨h1, h2⟩ := hK.2.2 i u hu
    have hi : i < ks.length := (List.getElem?_eq_some_iff.mp hu).1
    rw [show 8 + (ke + 1) - (i + 1) = 8 + ke - i by omega]
    exact ⟨h1.fr c.2 (by omega), h2⟩
theorem back_ok {sl' : Nat → Int32} {u : VS} (h : RI pe so ag fr sl ac ke le tx se wh wo bl ck sw v us (u :: ks) tf tn s) (c : CPY sl sl' ((9 + (ke - 1)) * 82) 0) : RI pe so ag fr sl' 0 (ke - 1) le tx se wh wo bl ck sw u [] ks tf tn s := by
  obtain ⟨hE, hG, hU, hK, hR⟩ := h
  have hl := hK.1
  rw [List.length_cons] at hl
  have hm := hK.2.1
  obtain ⟨h1, h2⟩ := hK.2.2 0 u rfl
  rw [show 8 + ke - 0 = 9 + (ke - 1) by omega] at h1
  refine ⟨h1.cp c, h2, ⟨rfl, by omega, fun i w hw => by cases hw⟩, ⟨by omega, by omega, fun i w hw => ?_⟩, hR⟩
  obtain ⟨h3, h4⟩ := hK.2.2 (i + 1) w hw
  have hi : i < ks.length := (List.getElem?_eq_some_iff.mp hw).1
  rw [show 8 + (ke - 1) - i = 8 + ke - (i + 1) by omega]
  exact ⟨h3.fr c.2 (by omega), h4⟩
end KN
/-! the dead one's debts -/
def dCl (D : Nat → Int32) (p h i a b : Nat) : Int32 := if (b = p ∧ a < i) ∨ (a = p ∧ b < i) then 0 else if b = h ∧ a < i ∧ a ≠ h ∧ a ≠ p then D (a * 6 + h) + D (a * 6 + p) else D (a * 6 + b)
def DC (D E : Nat → Int32) (p h i : Nat) : Prop := ∀ a b, a < 6 → b < 6 → E (a * 6 + b) = dCl D p h i a b
theorem DC.z {D : Nat → Int32} {p h : Nat} : DC D D p h 0 := fun a b _ _ => by
  rw [dCl, if_neg (by omega), if_neg (by omega)]
theorem DC.s {D E : Nat → Int32} {p h i : Nat} (hd : DC D E p h i) (hi : i < 6) (hp : p < 6) : DC D (upd (upd (if i ≠ h ∧ i ≠ p ∧ h < 6 then upd E (i * 6 + h) (E (i * 6 + h) + E (i * 6 + p)) else E) (i * 6 + p) 0) (p * 6 + i) 0) p h (i + 1) := by
  intro a b ha hb
  by_cases e1 : a = p ∧ b = i
  · rw [upd_eq _ _ (by omega), dCl, if_pos (by omega)]
  · rw [upd_ne _ _ (by omega)]
    by_cases e2 : a = i ∧ b = p
    · rw [upd_eq _ _ (by omega), dCl, if_pos (by omega)]
    · rw [upd_ne _ _ (by omega)]
      split
      · rename_i hh
        by_cases e3 : a = i ∧ b = h
        · rw [upd_eq _ _ (by omega), hd i h hi (by omega), hd i p hi hp, dCl, dCl, dCl]
          obtain ⟨e31, e32⟩ := e3
          subst e31 e32
          rw [if_neg (by omega), if_neg (by omega), if_neg (by omega), if_neg (by omega), if_neg (by omega), if_pos (by omega)]
        · rw [upd_ne _ _ (by omega), hd a b ha hb, dCl, dCl]
          by_cases c1 : b = p ∧ a < i ∨ a = p ∧ b < i
          · rw [if_pos c1, if_pos (by omega)]
          · have c1' : ¬(b = p ∧ a < i + 1 ∨ a = p ∧ b < i + 1) := by omega
            rw [if_neg c1, if_neg c1']
            by_cases c2 : b = h ∧ a < i ∧ a ≠ h ∧ a ≠ p
            · rw [if_pos c2, if_pos (by omega)]
            · rw [if_neg c2, if_neg (by omega)]
      · rename_i hh
        rw [hd a b ha hb, dCl, dCl]
        by_cases c1 : b = p ∧ a < i ∨ a = p ∧ b < i
        · rw [if_pos c1, if_pos (by omega)]
        · have c1' : ¬(b = p ∧ a < i + 1 ∨ a = p ∧ b < i + 1) := by omega
          rw [if_neg c1, if_neg c1']
          by_cases c2 : b = h ∧ a < i ∧ a ≠ h ∧ a ≠ p
          · rw [if_pos c2, if_pos (by omega)]
          · rw [if_neg c2, if_neg (by omega)]
theorem wBq_D (v : VS) {p h : Nat} (hp : p < 6) (hh : h < 6) (hph : h ≠ p) : ∀ i, i ≤ 6 → ∀ a b, a < 6 → b < 6 → vD (wBq v p h i) (a * 6 + b) = if b = h ∧ a < i ∧ a ≠ h then vD v (a * 6 + h) + vD v (a * 6 + p) else vD v (a * 6 + b)
  | 0, _, a, b, _, _ => by rw [if_neg (by omega)]; rfl
  | i + 1, hi, a, b, ha, hb => by
    rw [wBq]
    have ih := wBq_D v hp hh hph i (by omega)
    split
    · rename_i e
      rw [ih a b ha hb]
      by_cases c : b = h ∧ a < i ∧ a ≠ h
      · rw [if_pos c, if_pos (by omega)]
      · rw [if_neg c, if_neg (by omega)]
    · rename_i e
      show upd (vD (wBq v p h i)) (i * 6 + h) (vD (wBq v p h i) (i * 6 + h) + vD (wBq v p h i) (i * 6 + p)) (a * 6 + b) = _
      by_cases e3 : a = i ∧ b = h
      · obtain ⟨e31, e32⟩ := e3
        subst e31 e32
        rw [upd_eq _ _ rfl, ih _ _ ha hb, ih _ _ ha hp, if_neg (by omega), if_neg (by omega), if_pos (by omega)]
      · rw [upd_ne _ _ (by omega), ih a b ha hb]
        by_cases c : b = h ∧ a < i ∧ a ≠ h
        · rw [if_pos c, if_pos (by omega)]
        · rw [if_neg c, if_neg (by omega)]
theorem wClr_D (v : VS) {p : Nat} (hp : p < 6) : ∀ i, i ≤ 6 → ∀ a b, a < 6 → b < 6 → vD (wClr v p i) (a * 6 + b) = if (b = p ∧ a < i) ∨ (a = p ∧ b < i) then 0 else vD v (a * 6 + b)
  | 0, _, a, b, _, _ => by rw [if_neg (by omega)]; rfl
  | i + 1, hi, a, b, ha, hb => by
    have ih := wClr_D v hp i (by omega)
    show upd (upd (vD (wClr v p i)) (i * 6 + p) 0) (p * 6 + i) 0 (a * 6 + b) = _
    by_cases e1 : a = p ∧ b = i
    · rw [upd_eq _ _ (by omega), if_pos (by omega)]
    · rw [upd_ne _ _ (by omega)]
      by_cases e2 : a = i ∧ b = p
      · rw [upd_eq _ _ (by omega), if_pos (by omega)]
      · rw [upd_ne _ _ (by omega), ih a b ha hb]
        by_cases c : (b = p ∧ a < i) ∨ (a = p ∧ b < i)
        · rw [if_pos c, if_pos (by omega)]
        · rw [if_neg c, if_neg (by omega)]
/-- what the reference does to a village when one dies: the same -/
theorem die_EN {z : Nat → Int32} {v : VS} {p h : Nat} {E : Nat → Int32} {C : Nat → Int32} (hp : p < vN v) (h6 : vN v ≤ 6) (hE : EN z 0 (sD (sC (sX v (vX v ||| 2 ^ p)) C) E)) (hd : DC (vD v) E p h (vN v))
    (hh : (wHeir v p = -4 ∧ 6 ≤ h ∧ C = upd (vC v) p 0) ∨ (wHeir v p = nI h ∧ h < vN v ∧ h ≠ p ∧ C = upd (upd (vC v) h (mn 999 (vC v h + vC v p))) p 0)) : EN z 0 (wBury v p) := by
  obtain ⟨e1, e2, e3, e4, e5, e6, e7⟩ := hE
  obtain ⟨b1, b2, b3, b4, b5, b6, b7, b8, b9⟩ := wBury_keep v p
  have hC : vC (wBury v p) = C := by
    rcases hh with ⟨k1, k2, k3⟩ | ⟨k1, k2, k3, k4⟩
    · rw [wBury, k1, if_neg (by decide), k3]
      exact (wKeepD_clr _ _ _).2
    · rw [wBury, k1, if_pos (nI_pos' (by omega)), nI_clamp (by omega), k4]
      refine (wKeepD_clr _ _ _).2.trans ?_
      show upd (vC (wBequeath v p h)) p 0 = _
      rw [show vC (wBequeath v p h) = vC (wRecv v h (vC v p)) from (wKeepD_bq0 _ _ _ _).2]
      rfl
  have hD : ∀ a b, a < 6 → b < 6 → vD (wBury v p) (a * 6 + b) = E (a * 6 + b) := by
    intro a b ha hb
    rw [hd a b ha hb]
    rcases hh with ⟨k1, k2, k3⟩ | ⟨k1, k2, k3, k4⟩
    · rw [wBury, k1, if_neg (by decide), wBury0, wClr_D _ (by omega) _ h6 a b ha hb, dCl]
      by_cases c : (b = p ∧ a < vN v) ∨ (a = p ∧ b < vN v)
      · rw [if_pos c, if_pos c]
      · rw [if_neg c, if_neg c, if_neg (by omega)]; rfl
    · have hN : vN (wBequeath v p h) = vN v := (wKeepD_bq v p h).2.2.1
      rw [wBury, k1, if_pos (nI_pos' (by omega)), nI_clamp (by omega), wBury0, hN, wClr_D _ (by omega) _ h6 a b ha hb, dCl]
      by_cases c : (b = p ∧ a < vN v) ∨ (a = p ∧ b < vN v)
      · rw [if_pos c, if_pos c]
      · rw [if_neg c, if_neg c]
        show vD (wBq (wRecv v h (vC v p)) p h (vN v)) (a * 6 + b) = _
        rw [wBq_D _ (by omega) (by omega) k3 _ h6 a b ha hb]
        by_cases c2 : b = h ∧ a < vN v ∧ a ≠ h
        · rw [if_pos c2, if_pos (by omega)]; rfl
        · rw [if_neg c2, if_neg (by omega)]; rfl
  refine ⟨fun q hq => (e1 q hq).trans (by rw [hC]; rfl), e2.trans (by rw [b5]; rfl), e3.trans (by rw [b6]; rfl), e4.trans (by rw [b8]; rfl), e5.trans (by rw [b9]; rfl), fun k hk => (e6 k hk).trans (by rw [b7]; rfl), fun k hk => ?_⟩
  have := hD (k / 6) (k % 6) (by omega) (Nat.mod_lt _ (by decide))
  rw [show k / 6 * 6 + k % 6 = k by omega] at this
  exact (e7 k hk).trans this.symm
