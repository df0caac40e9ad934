/-! the class's own state as a whole -/
def NZ (v : VS) : Prop := (∀ k, 6 ≤ k → vK v k = 0 ∧ vA v k = 0 ∧ vC v k = 0) ∧ ∀ k, 36 ≤ k → vT v k = 0 ∧ vD v k = 0
def GX (v : VS) : Prop := VI v ∧ TI v ∧ NZ v ∧ 0 < vN v
theorem like_eq {v w : VS} (hv : NZ v) (hw : NZ w) (h : wLike v w = true) : v = w := by
  simp only [wLike, Bool.and_eq_true, decide_eq_true_eq] at h
  obtain ⟨h1, h2, h3, h4, h5, h6, h7, h8, h9, h10, h11⟩ := h
  have fe : ∀ (f g : Nat → Int32) (m : Nat), wAl f g m = true → (∀ k, m ≤ k → f k = g k) → f = g := by
    intro f g m ha hb
    funext k
    by_cases c : k < m
    · exact (wAl_iff f g m).mp ha k c
    · exact hb k (by omega)
  have e1 := fe _ _ 6 h7 (fun k hk => (hv.1 k hk).1.trans (hw.1 k hk).1.symm)
  have e2 := fe _ _ 6 h8 (fun k hk => (hv.1 k hk).2.1.trans (hw.1 k hk).2.1.symm)
  have e3 := fe _ _ 6 h9 (fun k hk => (hv.1 k hk).2.2.trans (hw.1 k hk).2.2.symm)
  have e4 := fe _ _ 36 h10 (fun k hk => (hv.2 k hk).1.trans (hw.2 k hk).1.symm)
  have e5 := fe _ _ 36 h11 (fun k hk => (hv.2 k hk).2.trans (hw.2 k hk).2.symm)
  obtain ⟨a1, a2, a3, a4, a5, a6, a7, a8, a9, a10, a11⟩ := v
  obtain ⟨b1, b2, b3, b4, b5, b6, b7, b8, b9, b10, b11⟩ := w
  simp only [vK, vA, vC, vT, vD, vN, vG, vX, vH, vY, vZ] at h1 h2 h3 h4 h5 h6 e1 e2 e3 e4 e5
  subst h1 h2 h3 h4 h5 h6 e1 e2 e3 e4 e5
  rfl
theorem NZ.tie {v : VS} (h : NZ v) {i j : Nat} (hi : i < 6) (hj : j < 6) (d : Int32) : NZ (wTie v i j d) :=
  ⟨h.1, fun k hk => ⟨(upd_ne (vT v) _ (by omega)).trans (h.2 k hk).1, (h.2 k hk).2⟩⟩
theorem NZ.coin {v : VS} (h : NZ v) {p : Nat} (hp : p < 6) (x : Int32) : NZ (sC v (upd (vC v) p x)) :=
  ⟨fun k hk => ⟨(h.1 k hk).1, (h.1 k hk).2.1, (upd_ne (vC v) _ (by omega)).trans (h.1 k hk).2.2⟩, h.2⟩
theorem NZ.debt {v : VS} (h : NZ v) {k0 : Nat} (hk0 : k0 < 36) (x : Int32) : NZ (sD v (upd (vD v) k0 x)) :=
  ⟨h.1, fun k hk => ⟨(h.2 k hk).1, (upd_ne (vD v) _ (by omega)).trans (h.2 k hk).2⟩⟩
theorem NZ.pay {v : VS} (h : NZ v) {i j : Nat} (hi : i < 6) (hj : j < 6) (d : Int32) : NZ (wPay v i j d) := by
  have h1 : NZ (wPay0 v i j (wPaid v i d)) := (h.coin hi _).debt (k0 := i * 6 + j) (by omega) _
  exact h1.coin hj _
theorem NZ.meet {v : VS} (h : NZ v) {p i : Nat} (hp : p < 6) (hi : i < 6) (cm : Bool) : NZ (wMeet v p i cm) := by
  cases cm
  · exact h.tie hp hi _
  · exact (h.tie hp hi _).pay hi hp _
theorem NZ.meets {v : VS} (h : NZ v) {p : Nat} (hp : p < 6) (G : Nat) : ∀ i, i ≤ 6 → NZ (wMeets v p G i)
  | 0, _ => h
  | i + 1, hi => by
    rw [wMeets]
    split
    · exact (NZ.meets h hp G i (by omega)).meet hp (by omega) _
    · exact NZ.meets h hp G i (by omega)
theorem NZ.hold {v : VS} (h : NZ v) (h6 : vN v ≤ 6) {p : Nat} (hp : p < 6) (b c : Int32) : NZ (wHold v p b c) :=
  NZ.meets (h.coin hp (vC v p - wCost b c)) hp (wGuests v p b c) (vN v) h6
theorem NZ.give {v : VS} (h : NZ v) {i j : Nat} (hi : i < 6) (hj : j < 6) : NZ (wGive v i j) := (h.coin hi (vC v i - 2)).tie hj hi 1
theorem NZ.bq {v : VS} (h : NZ v) {p q : Nat} (hq : q < 6) : ∀ i, i ≤ 6 → NZ (wBq v p q i)
  | 0, _ => h
  | i + 1, hi => by
    rw [wBq]
    split
    · exact NZ.bq h hq i (by omega)
    · exact (NZ.bq h hq i (by omega)).debt (k0 := i * 6 + q) (by omega) _
theorem NZ.clr {v : VS} (h : NZ v) {p : Nat} (hp : p < 6) : ∀ i, i ≤ 6 → NZ (wClr v p i)
  | 0, _ => h
  | i + 1, hi => ((NZ.clr h hp i (by omega)).debt (k0 := i * 6 + p) (by omega) 0).debt (k0 := p * 6 + i) (by omega) 0
theorem NZ.bury {v : VS} (h : NZ v) (h6 : vN v ≤ 6) {p : Nat} (hp : p < 6) : NZ (wBury v p) := by
  have key : ∀ u : VS, NZ u → vN u ≤ 6 → NZ (wBury0 u p) := fun u hu hn => NZ.clr (v := sC (sX u (vX u ||| 2 ^ p)) (upd (vC u) p 0)) (NZ.coin (v := sX u (vX u ||| 2 ^ p)) hu hp 0) hp (vN u) hn
  unfold wBury
  split
  · rename_i hh
    rcases wHr_in v p (vN v) with e | ⟨k, k1, k2, k3⟩
    · exact absurd (show (0 : Int32) ≤ -4 by rw [← e]; exact hh) (by decide)
    · have e : (wHeir v p).toNatClampNeg = k := by rw [wHeir, k3]; exact nI_clamp (by omega)
      rw [e]
      exact key _ (NZ.bq (h.coin (p := k) (by omega) _) (by omega) (vN v) h6) (by rw [(wKeepD_bq v p k).2.2.1]; exact h6)
  · exact key v h h6
theorem GX.hold {v : VS} (h : GX v) {p : Nat} (hp : p < 6) (b c : Int32) : GX (wHold v p b c) := ⟨VI_hold h.1 hp, TI_hold h.2.1 p b c, h.2.2.1.hold h.1.1 hp b c, by rw [(wKA_hold v p b c).2.2.1]; exact h.2.2.2⟩
theorem GX.give {v : VS} (h : GX v) {i j : Nat} (hi : i < 6) (hj : j < 6) : GX (wGive v i j) := ⟨h.1, TI_give h.2.1 i j, h.2.2.1.give hi hj, h.2.2.2⟩
theorem GX.pay {v : VS} (h : GX v) {i j : Nat} (hi : i < 6) (hj : j < 6) (d : Int32) : GX (wPay v i j d) := ⟨h.1, h.2.1, h.2.2.1.pay hi hj d, h.2.2.2⟩
theorem GX.days {v : VS} (h : GX v) (d : Int32) : GX (wDays v d) := ⟨h.1, h.2.1, h.2.2.1, h.2.2.2⟩
theorem GX.bury {v : VS} (h : GX v) {p : Nat} (hp : p < 6) : GX (wBury v p) := by
  obtain ⟨a1, a2, a3, a4, a5, a6, a7, a8, a9⟩ := wBury_keep v p
  refine ⟨⟨by rw [a3]; exact h.1.1, ?_, by rw [a6]; exact h.1.2.2⟩, by unfold TI; rw [a7]; exact h.2.1, h.2.2.1.bury h.1.1 hp, by rw [a3]; exact h.2.2.2⟩
  rw [a5]
  exact Nat.or_lt_two_pow (n := 6) h.1.2.1 (Nat.pow_lt_pow_right (by decide) hp)
def wX (g : kw_G) (m : Nat) (at_ an ar au ak as_ ao : Nat → Nat) : va_W := [(m, .inr (5, [.ref (at_ 0), .ref (an 0), .ref (ar 0), .ref (au 0), .ref (ak 0), .ref (as_ 0), .ref (ao 0)]))]
def XU (us : List VS) (m sz tp : Nat) (vs : Nat → VS) : Prop := us.length = sz ∧ sz ≤ m ∧ tp < m ∧ ∀ i u, us[i]? = some u → vs ((tp + m - 1 - i) % m) = u ∧ GX u
def XT (t : TS) (tf : Nat → Nat) (tn : Nat) : Prop := TSI t ∧ tN t = tn ∧ ∀ k, k < tn → tL t k = tf k
def XO (oB : Nat → Nat) (oL oC : Int32) (oD oZ oM : Nat) (vs : Nat → VS) : Prop :=
  (∀ k, VI (vs k)) ∧ oM ≤ 100 ∧ (vN (vs 0) = 0 ∨ GX (vs 0) ∧ oD = sDue (vs 0) (vN (vs 0)) ∧ oZ = wBits oD ∧ oM = (ordB (vs 0) oL oC).1 ∧ AG oB (ordB (vs 0) oL oC).2)
def XI (t : TS) (sz tp : Nat) (uvs : Nat → VS) (kz kp : Nat) (kvs : Nat → VS) (oB : Nat → Nat) (oL oC : Int32) (oD oZ oM : Nat) (ovs : Nat → VS) (v : VS) (us ks : List VS) (tf : Nat → Nat) (tn : Nat) (s : SS) : Prop :=
  GX v ∧ XU us 8 sz tp uvs ∧ XU ks 2 kz kp kvs ∧ XT t tf tn ∧ SSI s ∧ XO oB oL oC oD oZ oM ovs
