/-! the reference's state as a whole -/
def GV (pe : Nat) (so ag : Nat → Int32) (fr : Int32) (v : VS) : Prop := KE pe so ag fr v ∧ VI v ∧ TI v ∧ 0 < vN v
def RU (pe : Nat) (so ag : Nat → Int32) (fr : Int32) (sl : Nat → Int32) (ac : Nat) (us : List VS) : Prop := us.length = ac ∧ ac ≤ 8 ∧ ∀ i u, us[i]? = some u → EN sl ((ac - i) * 82) u ∧ GV pe so ag fr u
def RK (pe : Nat) (so ag : Nat → Int32) (fr : Int32) (sl : Nat → Int32) (ke : Nat) (ks : List VS) : Prop := ks.length = ke ∧ ke ≤ 2 ∧ ∀ i u, ks[i]? = some u → EN sl ((8 + ke - i) * 82) u ∧ GV pe so ag fr u
def RT (tx : Nat → Nat) (le : Nat) (tf : Nat → Nat) (tn : Nat) : Prop := le = tn ∧ tn ≤ 200 ∧ ∀ k, k < tn → tx k = tf k ∧ tf k < 128
def RS (pe se : Nat) (wh wo : Nat → Nat) (bl ck : Nat → Int32) (sw : Nat → Bool) (s : SS) : Prop := s = (wh, wo, bl, ck, sw, se) ∧ se ≤ 6 ∧ ∀ k, k < se → wh k < pe ∧ wo k < pe
def RI (pe : Nat) (so ag : Nat → Int32) (fr : Int32) (sl : Nat → Int32) (ac ke le : Nat) (tx : Nat → Nat) (se : Nat) (wh wo : Nat → Nat) (bl ck : Nat → Int32) (sw : Nat → Bool) (v : VS) (us ks : List VS) (tf : Nat → Nat) (tn : Nat) (s : SS) : Prop :=
  EN sl 0 v ∧ GV pe so ag fr v ∧ RU pe so ag fr sl ac us ∧ RK pe so ag fr sl ke ks ∧ RT tx le tf tn ∧ RS pe se wh wo bl ck sw s
def RWp (g : kw_G) (a : Nat → Nat) (v : VS) (us ks : List VS) (tf : Nat → Nat) (tn : Nat) (s : SS) (w : va_W) : Prop :=
  ∃ pe so ag fr np ns na nf sl ac ke le tx ap bg wr se wh wo bl ck sw ma ro bs, RI pe so ag fr sl ac ke le tx se wh wo bl ck sw v us ks tf tn s ∧ w = wR g a pe so ag fr np ns na nf sl ac ke le tx ap bg wr se wh wo bl ck sw ma ro bs
section RW
variable {g : kw_G} {a : Nat → Nat} {pe : Nat} {so ag : Nat → Int32} {fr : Int32} {np : Nat} {ns na : Nat → Int32} {nf : Int32} {sl : Nat → Int32} {ac ke le : Nat} {tx : Nat → Nat} {ap bg : Nat} {wr : Bool} {se : Nat} {wh wo : Nat → Nat} {bl ck : Nat → Int32} {sw : Nat → Bool} {ma : Nat} {ro bs : Nat → Nat} {v : VS} {us ks : List VS} {tf : Nat → Nat} {tn : Nat} {s : SS}
theorem RWp.of (h : RI pe so ag fr sl ac ke le tx se wh wo bl ck sw v us ks tf tn s) : RWp g a v us ks tf tn s (wR g a pe so ag fr np ns na nf sl ac ke le tx ap bg wr se wh wo bl ck sw ma ro bs) :=
  ⟨pe, so, ag, fr, np, ns, na, nf, sl, ac, ke, le, tx, ap, bg, wr, se, wh, wo, bl, ck, sw, ma, ro, bs, h, rfl⟩
theorem RU_fr {sl' : Nat → Int32} (h : RU pe so ag fr sl ac us) (hf : ∀ k, 82 ≤ k → k < 738 → sl' k = sl k) : RU pe so ag fr sl' ac us := by
  refine ⟨h.1, h.2.1, fun i u hu => ?_⟩
  obtain ⟨h1, h2⟩ := h.2.2 i u hu
  have hi : i < us.length := (List.getElem?_eq_some_iff.mp hu).1
  have hl := h.1
  have h8 := h.2.1
  have hx : 82 ≤ (ac - i) * 82 ∧ (ac - i) * 82 + 82 ≤ 738 := by omega
  refine ⟨?_, h2⟩
  obtain ⟨e1, e2, e3, e4, e5, e6, e7⟩ := h1
  exact ⟨fun p hp => (hf _ (by omega) (by omega)).trans (e1 p hp), (hf _ (by omega) (by omega)).trans e2, (hf _ (by omega) (by omega)).trans e3, (hf _ (by omega) (by omega)).trans e4, (hf _ (by omega) (by omega)).trans e5, fun p hp => (hf _ (by omega) (by omega)).trans (e6 p hp), fun p hp => (hf _ (by omega) (by omega)).trans (e7 p hp)⟩
theorem RK_fr {sl' : Nat → Int32} (h : RK pe so ag fr sl ke ks) (hf : ∀ k, 738 ≤ k → k < 902 → sl' k = sl k) : RK pe so ag fr sl' ke ks := by
  refine ⟨h.1, h.2.1, fun i u hu => ?_⟩
  obtain ⟨h1, h2⟩ := h.2.2 i u hu
  have hi : i < ks.length := (List.getElem?_eq_some_iff.mp hu).1
  have hl := h.1
  have h8 := h.2.1
  have hx : 738 ≤ (8 + ke - i) * 82 ∧ (8 + ke - i) * 82 + 82 ≤ 902 := by omega
  refine ⟨?_, h2⟩
  obtain ⟨e1, e2, e3, e4, e5, e6, e7⟩ := h1
  exact ⟨fun p hp => (hf _ (by omega) (by omega)).trans (e1 p hp), (hf _ (by omega) (by omega)).trans e2, (hf _ (by omega) (by omega)).trans e3, (hf _ (by omega) (by omega)).trans e4, (hf _ (by omega) (by omega)).trans e5, fun p hp => (hf _ (by omega) (by omega)).trans (e6 p hp), fun p hp => (hf _ (by omega) (by omega)).trans (e7 p hp)⟩
/-- the village of now has changed, the rest stands -/
theorem RI.win {sl' : Nat → Int32} {v' : VS} (h : RI pe so ag fr sl ac ke le tx se wh wo bl ck sw v us ks tf tn s) (hE : EN sl' 0 v') (hF : FR sl sl' 0) (hg : GV pe so ag fr v') : RI pe so ag fr sl' ac ke le tx se wh wo bl ck sw v' us ks tf tn s :=
  ⟨hE, hg, RU_fr h.2.2.1 (fun k h1 h2 => hF k (by omega)), RK_fr h.2.2.2.1 (fun k h1 h2 => hF k (by omega)), h.2.2.2.2.1, h.2.2.2.2.2⟩
/-- a trial elsewhere leaves all as it is -/
theorem RI.try {sl' : Nat → Int32} (h : RI pe so ag fr sl ac ke le tx se wh wo bl ck sw v us ks tf tn s) (hF : FR sl sl' 902) : RI pe so ag fr sl' ac ke le tx se wh wo bl ck sw v us ks tf tn s :=
  ⟨h.1.fr hF (by omega), h.2.1, RU_fr h.2.2.1 (fun k h1 h2 => hF k (by omega)), RK_fr h.2.2.2.1 (fun k h1 h2 => hF k (by omega)), h.2.2.2.2.1, h.2.2.2.2.2⟩
theorem GV.of {w : VS} (h : GV pe so ag fr v) (hK : vK w = vK v) (hA : vA w = vA v) (hN : vN w = vN v) (hG : vG w = vG v) (hV : VI w) (hT : TI w) : GV pe so ag fr w :=
  ⟨⟨by rw [hN]; exact h.1.1, by rw [hG]; exact h.1.2.1, by rw [hN, hK, hA]; exact h.1.2.2⟩, hV, hT, by rw [hN]; exact h.2.2.2⟩
end RW
/-- a copy of a window -/
def CPY (sl sl' : Nat → Int32) (b t : Nat) : Prop := (∀ k, k < 82 → sl' (t + k) = sl (b + k)) ∧ FR sl sl' t
theorem EN.cp {sl sl' : Nat → Int32} {b t : Nat} {v : VS} (h : EN sl b v) (c : CPY sl sl' b t) : EN sl' t v :=
  ⟨fun p hp => (c.1 p (by omega)).trans (h.1 p hp), (c.1 6 (by omega)).trans h.2.1, (c.1 7 (by omega)).trans h.2.2.1, (c.1 8 (by omega)).trans h.2.2.2.1, (c.1 9 (by omega)).trans h.2.2.2.2.1,
   fun k hk => by rw [Nat.add_assoc, c.1 (10 + k) (by omega), ← Nat.add_assoc]; exact h.2.2.2.2.2.1 k hk, fun k hk => by rw [Nat.add_assoc, c.1 (46 + k) (by omega), ← Nat.add_assoc]; exact h.2.2.2.2.2.2 k hk⟩
theorem cp_up {sl z : Nat → Int32} {b t i : Nat} (h : ∀ k, k < i → z (t + k) = sl (b + k)) (hz : z (b + i) = sl (b + i)) : ∀ k, k < i + 1 → upd z (t + i) (z (b + i)) (t + k) = sl (b + k) := by
  intro k hk
  by_cases e : k = i
  · subst e; rw [upd_eq _ _ rfl]; exact hz
  · rw [upd_ne _ _ (by omega)]; exact h k (by omega)
/-! ties stay where they are -/
theorem clamp_t (x : Int32) : ∃ t, t ≤ 9 ∧ mx (-4) (mn 5 x) = nI t - 4 := by
  unfold mx
  split
  · rename_i h
    unfold mn at h ⊢
    split
    · rename_i h5
      rw [if_pos h5] at h
      rw [Int32.lt_iff_toInt_lt] at h h5
      have e1 : (-4 : Int32).toInt = -4 := rfl
      have e2 : (5 : Int32).toInt = 5 := rfl
      rw [e1] at h
      rw [e2] at h5
      have key : ∀ k : Int, x.toInt = k → x = Int32.ofInt k := fun k hk => by rw [← hk, Int32.ofInt_toInt]
      have h8 : x.toInt = -3 ∨ x.toInt = -2 ∨ x.toInt = -1 ∨ x.toInt = 0 ∨ x.toInt = 1 ∨ x.toInt = 2 ∨ x.toInt = 3 ∨ x.toInt = 4 := by omega
      rcases h8 with h | h | h | h | h | h | h | h <;> rw [key _ h]
      · exact ⟨1, by decide, by decide⟩
      · exact ⟨2, by decide, by decide⟩
      · exact ⟨3, by decide, by decide⟩
      · exact ⟨4, by decide, by decide⟩
      · exact ⟨5, by decide, by decide⟩
      · exact ⟨6, by decide, by decide⟩
      · exact ⟨7, by decide, by decide⟩
      · exact ⟨8, by decide, by decide⟩
    · exact ⟨9, by decide, by decide⟩
  · exact ⟨0, by decide, by decide⟩
theorem TI_tie {v : VS} (h : TI v) (i j : Nat) (d : Int32) : TI (wTie v i j d) := by
  intro k hk
  show ∃ t, t ≤ 9 ∧ upd (vT v) (i * 6 + j) (mx (-4) (mn 5 (vT v (i * 6 + j) + d))) k = nI t - 4
  by_cases e : k = i * 6 + j
  · rw [upd_eq _ _ e]; exact clamp_t _
  · rw [upd_ne _ _ e]; exact h k hk
theorem TI_meet {v : VS} (h : TI v) (p i : Nat) (cm : Bool) : TI (wMeet v p i cm) := by
  cases cm
  · exact TI_tie h p i (-1)
  · exact TI_tie h p i (if vK v i = 1 then -1 else 1)
theorem TI_meets {v : VS} (h : TI v) (p G : Nat) : ∀ i, TI (wMeets v p G i)
  | 0 => h
  | i + 1 => by
    rw [wMeets]
    split
    · exact TI_meet (TI_meets h p G i) _ _ _
    · exact TI_meets h p G i
theorem TI_hold {v : VS} (h : TI v) (p : Nat) (b c : Int32) : TI (wHold v p b c) :=
  TI_meets (show TI (sC v (upd (vC v) p (vC v p - wCost b c))) from h) p (wGuests v p b c) (vN v)
theorem TI_give {v : VS} (h : TI v) (i j : Nat) : TI (wGive v i j) := TI_tie (show TI (sC v (upd (vC v) i (vC v i - 2))) from h) j i 1
theorem wKA_hold (v : VS) (p : Nat) (b c : Int32) : vK (wHold v p b c) = vK v ∧ vA (wHold v p b c) = vA v ∧ vN (wHold v p b c) = vN v ∧ vG (wHold v p b c) = vG v := by
  have h := wKeep_meets (sC v (upd (vC v) p (vC v p - wCost b c))) p (wGuests v p b c) (vN v)
  exact ⟨h.1, h.2.1, h.2.2.1, h.2.2.2.1⟩
theorem wBury_keep (v : VS) (p : Nat) : vK (wBury v p) = vK v ∧ vA (wBury v p) = vA v ∧ vN (wBury v p) = vN v ∧ vG (wBury v p) = vG v ∧ vX (wBury v p) = vX v ||| 2 ^ p ∧ vH (wBury v p) = vH v ∧ vT (wBury v p) = vT v ∧ vY (wBury v p) = vY v ∧ vZ (wBury v p) = vZ v := by
  have key : ∀ u : VS, vK (wBury0 u p) = vK u ∧ vA (wBury0 u p) = vA u ∧ vN (wBury0 u p) = vN u ∧ vG (wBury0 u p) = vG u ∧ vX (wBury0 u p) = vX u ||| 2 ^ p ∧ vH (wBury0 u p) = vH u ∧ vT (wBury0 u p) = vT u ∧ vY (wBury0 u p) = vY u ∧ vZ (wBury0 u p) = vZ u := fun u => by
    have h := (wKeepD_clr (sC (sX u (vX u ||| 2 ^ p)) (upd (vC u) p 0)) p (vN u)).1
    exact ⟨h.1, h.2.1, h.2.2.1, h.2.2.2.1, h.2.2.2.2.1, h.2.2.2.2.2.1, h.2.2.2.2.2.2.2.2, h.2.2.2.2.2.2.1, h.2.2.2.2.2.2.2.1⟩
  unfold wBury
  split
  · obtain ⟨a1, a2, a3, a4, a5, a6, a7, a8, a9⟩ := key (wBequeath v p (wHeir v p).toNatClampNeg)
    obtain ⟨b1, b2, b3, b4, b5, b6, b7, b8, b9⟩ := wKeepD_bq v p (wHeir v p).toNatClampNeg
    exact ⟨a1.trans b1, a2.trans b2, a3.trans b3, a4.trans b4, by rw [a5, b5], a6.trans b6, a7.trans b9, a8.trans b7, a9.trans b8⟩
  · exact key v
section GVs
variable {pe : Nat} {so ag : Nat → Int32} {fr : Int32} {v : VS}
theorem GV.hold (h : GV pe so ag fr v) {p : Nat} (hp : p < 6) (b c : Int32) : GV pe so ag fr (wHold v p b c) :=
  h.of (wKA_hold v p b c).1 (wKA_hold v p b c).2.1 (wKA_hold v p b c).2.2.1 (wKA_hold v p b c).2.2.2 (VI_hold h.2.1 hp) (TI_hold h.2.2.1 p b c)
theorem GV.give (h : GV pe so ag fr v) (i j : Nat) : GV pe so ag fr (wGive v i j) := h.of rfl rfl rfl rfl h.2.1 (TI_give h.2.2.1 i j)
theorem GV.pay (h : GV pe so ag fr v) (i j : Nat) (d : Int32) : GV pe so ag fr (wPay v i j d) := h.of rfl rfl rfl rfl h.2.1 h.2.2.1
theorem GV.days (h : GV pe so ag fr v) (d : Int32) : GV pe so ag fr (wDays v d) := h.of rfl rfl rfl rfl h.2.1 h.2.2.1
theorem GV.bury (h : GV pe so ag fr v) {p : Nat} (hp : p < 6) : GV pe so ag fr (wBury v p) := by
  obtain ⟨a1, a2, a3, a4, a5, a6, a7, a8, a9⟩ := wBury_keep v p
  refine h.of a1 a2 a3 a4 ⟨by rw [a3]; exact h.2.1.1, ?_, by rw [a6]; exact h.2.1.2.2⟩ (by unfold TI; rw [a7]; exact h.2.2.1)
  rw [a5]
  exact Nat.or_lt_two_pow (n := 6) h.2.1.2.1 (Nat.pow_lt_pow_right (by decide) hp)
theorem GV.meet (h : GV pe so ag fr v) (p i : Nat) (cm : Bool) : GV pe so ag fr (wMeet v p i cm) := by
  have k := wKeep_meet v p i cm
  exact h.of k.1 k.2.1 k.2.2.1 k.2.2.2.1 (k.VI h.2.1) (TI_meet h.2.2.1 p i cm)
end GVs
theorem KE.of {pe : Nat} {so ag : Nat → Int32} {fr : Int32} {v w : VS} (h : KE pe so ag fr v) (hK : vK w = vK v) (hA : vA w = vA v) (hN : vN w = vN v) (hG : vG w = vG v) : KE pe so ag fr w := ⟨by rw [hN]; exact h.1, by rw [hG]; exact h.2.1, by rw [hN, hK, hA]; exact h.2.2⟩
/-! the heir, counted so or so -/
theorem wHr_c {v : VS} (hT : TI v) {p : Nat} (hp : p < 6) (hn : vN v ≤ 6) : ∀ i, i ≤ vN v → (wHr v p i).2 = -4 ∧ (wHr v p i).1 = -5 ∨ ∃ h, h < i ∧ h ≠ p ∧ (wHr v p i).2 = nI h ∧ (wHr v p i).1 = vT v (p * 6 + h)
  | 0, _ => Or.inl ⟨rfl, rfl⟩
  | i + 1, hi => by
    rw [wHr]
    split
    · rename_i h
      simp only [Bool.and_eq_true, Bool.not_eq_true', decide_eq_false_iff_not] at h
      exact Or.inr ⟨i, Nat.lt_succ_self i, h.1, rfl, rfl⟩
    · rcases wHr_c hT hp hn i (by omega) with h | ⟨h, h1, h2, h3⟩
      · exact Or.inl h
      · exact Or.inr ⟨h, Nat.lt_succ_of_lt h1, h2, h3⟩
theorem TI_gt {v : VS} (hT : TI v) {k : Nat} (hk : k < 36) : ¬ vT v k ≤ -5 := by
  obtain ⟨t, ht, e⟩ := hT k hk
  rw [e]
  have : ∀ t, t ≤ 9 → ¬ nI t - 4 ≤ -5 := by decide +kernel
  exact this t ht
