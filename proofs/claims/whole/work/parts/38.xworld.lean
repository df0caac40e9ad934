def XW (g : kw_G) (m : Nat) (at_ an ar au : Nat → Nat) (adu : Nat → Nat → Nat) (ak : Nat → Nat) (adk : Nat → Nat → Nat) (as_ ao : Nat → Nat) (ado : Nat → Nat → Nat) (t : TS) (v u : VS) (sz tp : Nat) (uvs : Nat → VS) (kz kp : Nat) (kvs : Nat → VS) (s : SS) (oP oB : Nat → Nat) (oL oC : Int32) (oD oZ oM : Nat) (ovs : Nat → VS) : va_W :=
  List.flatten [wX g m at_ an ar au ak as_ ao, wT g at_ t, wV g an v, wV g ar u, wPh g au adu 8 sz tp, wVs g adu uvs (List.range 8), wPh g ak adk 2 kz kp, wVs g adk kvs (List.range 2), wS g as_ s, wO g ao ado (oP, oB, oL, oC, oD, oZ, oM), wVs g ado ovs (List.range 7)]
def XWp (g : kw_G) (m : Nat) (at_ an ar au : Nat → Nat) (adu : Nat → Nat → Nat) (ak : Nat → Nat) (adk : Nat → Nat → Nat) (as_ ao : Nat → Nat) (ado : Nat → Nat → Nat) (v : VS) (us ks : List VS) (tf : Nat → Nat) (tn : Nat) (s : SS) (w : va_W) : Prop :=
  ∃ t u sz tp uvs kz kp kvs oP oB oL oC oD oZ oM ovs, XI t sz tp uvs kz kp kvs oB oL oC oD oZ oM ovs v us ks tf tn s ∧ w = XW g m at_ an ar au adu ak adk as_ ao ado t v u sz tp uvs kz kp kvs s oP oB oL oC oD oZ oM ovs
section XS
variable {g : kw_G} {m : Nat} {at_ an ar au : Nat → Nat} {adu : Nat → Nat → Nat} {ak : Nat → Nat} {adk : Nat → Nat → Nat} {as_ ao : Nat → Nat} {ado : Nat → Nat → Nat} {t : TS} {v u : VS} {sz tp : Nat} {uvs : Nat → VS} {kz kp : Nat} {kvs : Nat → VS} {s : SS} {oP oB : Nat → Nat} {oL oC : Int32} {oD oZ oM : Nat} {ovs : Nat → VS} {us ks : List VS} {tf : Nat → Nat} {tn : Nat}
theorem XWp.of (h : XI t sz tp uvs kz kp kvs oB oL oC oD oZ oM ovs v us ks tf tn s) : XWp g m at_ an ar au adu ak adk as_ ao ado v us ks tf tn s (List.flatten [wX g m at_ an ar au ak as_ ao, wT g at_ t, wV g an v, wV g ar u, wPh g au adu 8 sz tp, wVs g adu uvs (List.range 8), wPh g ak adk 2 kz kp, wVs g adk kvs (List.range 2), wS g as_ s, wO g ao ado (oP, oB, oL, oC, oD, oZ, oM), wVs g ado ovs (List.range 7)]) :=
  ⟨t, u, sz, tp, uvs, kz, kp, kvs, oP, oB, oL, oC, oD, oZ, oM, ovs, h, rfl⟩
theorem XU.put {v : VS} (h : XU us m sz tp uvs) (hm : 0 < m) (hv : GX v) : XU ((v :: us).take m) m (min m (sz + 1)) ((tp + 1) % m) (va_up uvs tp v) := by
  obtain ⟨h1, h2, h3, h4⟩ := h
  refine ⟨by rw [List.length_take, List.length_cons, h1], Nat.min_le_left _ _, Nat.mod_lt _ hm, fun i u hu => ?_⟩
  rw [List.getElem?_take] at hu
  split at hu
  · rename_i hi
    have e : ∀ i, i < m → ((tp + 1) % m + m - 1 - i) % m = (tp + m - i) % m := by
      intro i hi
      by_cases c : tp + 1 = m
      · rw [c, Nat.mod_self, show tp + m - i = (0 + m - 1 - i) + m by omega, Nat.add_mod_right]
      · rw [Nat.mod_eq_of_lt (show tp + 1 < m by omega)]
        congr 1
        omega
    rw [e i hi]
    cases i with
    | zero =>
      simp only [List.getElem?_cons_zero, Option.some.injEq] at hu
      subst hu
      rw [Nat.sub_zero, Nat.add_mod_right, Nat.mod_eq_of_lt h3, va_up_self]
      exact ⟨rfl, hv⟩
    | succ i =>
      simp only [List.getElem?_cons_succ] at hu
      obtain ⟨g1, g2⟩ := h4 i u hu
      have hne : (tp + m - (i + 1)) % m ≠ tp := by
        by_cases c : i + 1 ≤ tp
        · rw [show tp + m - (i + 1) = (tp - (i + 1)) + m by omega, Nat.add_mod_right, Nat.mod_eq_of_lt (by omega)]; omega
        · rw [Nat.mod_eq_of_lt (by omega)]; omega
      rw [va_up_ne _ _ hne, show tp + m - (i + 1) = tp + m - 1 - i by omega]
      exact ⟨g1, g2⟩
  · cases hu
theorem XU.take {u : VS} (h : XU (u :: us) m sz tp uvs) (hm : 0 < m) : XU us m (sz - 1) ((tp + m - 1) % m) uvs ∧ uvs ((tp + m - 1) % m) = u ∧ GX u ∧ 0 < sz := by
  obtain ⟨h1, h2, h3, h4⟩ := h
  rw [List.length_cons] at h1
  obtain ⟨g1, g2⟩ := h4 0 u rfl
  refine ⟨⟨by omega, by omega, Nat.mod_lt _ hm, fun i w hw => ?_⟩, g1, g2, by omega⟩
  have hi : i < us.length := (List.getElem?_eq_some_iff.mp hw).1
  obtain ⟨k1, k2⟩ := h4 (i + 1) w hw
  refine ⟨?_, k2⟩
  rw [← k1]
  congr 1
  by_cases c : tp = 0
  · subst c
    rw [Nat.mod_eq_of_lt (show 0 + m - 1 < m by omega), show 0 + m - 1 + m - 1 - i = (0 + m - 1 - (i + 1)) + m by omega, Nat.add_mod_right]
  · rw [show tp + m - 1 = (tp - 1) + m by omega, Nat.add_mod_right, Nat.mod_eq_of_lt (show tp - 1 < m by omega)]
    congr 1
    omega
theorem XU.nil (h : XU us m sz tp uvs) : XU [] m 0 tp uvs := ⟨rfl, Nat.zero_le _, h.2.2.1, fun i u hu => by cases hu⟩
end XS
theorem SSI_add {s : SS} (h : SSI s) (h6 : sSize s < 6) {i j : Nat} (hi : i < 6) (hj : j < 6) (b c : Int32) (m : Bool) : SSI (sAdd s i j b c m) := by
  refine ⟨by show sSize s + 1 ≤ 6; omega, fun k hk => ?_⟩
  have hk : k < sSize s + 1 := hk
  show va_up (sWho s) (sSize s) i k < 6 ∧ va_up (sWhose s) (sSize s) j k < 6
  by_cases e : k = sSize s
  · subst e; rw [va_up_self, va_up_self]; exact ⟨hi, hj⟩
  · rw [va_up_ne _ _ e, va_up_ne _ _ e]; exact h.2 k (by omega)
