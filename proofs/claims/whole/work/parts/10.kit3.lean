/-- a cell of a block is a cell of the world of blocks -/
theorem fl_ex {L : List va_W} {i q : Nat} {B : va_W} {c : Nat × va_E} (hB : L[i]? = some B) (he : B[q]? = some c) : ∃ p, L.flatten[p]? = some c ∧ ∀ c', L.flatten.set p c' = (L.set i (B.set q c')).flatten := by
  induction L generalizing i with
  | nil => simp at hB
  | cons A L ih =>
    have hq := (List.getElem?_eq_some_iff.mp he).1
    cases i with
    | zero =>
      rw [List.getElem?_cons_zero] at hB
      cases hB
      refine ⟨q, ?_, fun c' => ?_⟩
      · rw [List.flatten_cons, List.getElem?_append_left hq]; exact he
      · rw [List.flatten_cons, List.set_append_left _ _ hq]; rfl
    | succ i =>
      rw [List.getElem?_cons_succ] at hB
      obtain ⟨p, h1, h2⟩ := ih hB
      refine ⟨A.length + p, ?_, fun c' => ?_⟩
      · rw [List.flatten_cons, List.getElem?_append_right (Nat.le_add_right _ _), Nat.add_sub_cancel_left]; exact h1
      · rw [List.flatten_cons, List.set_append_right _ _ (Nat.le_add_right _ _), Nat.add_sub_cancel_left, h2]; rfl
section KF
variable {x : kw_X} {l : Launch} {g : kw_G} {own : String} {cc : ByteArray} {nL : Nat} {R : Room} {n k pc : Nat} {lv lv' : List (Nat × Value)} {st : List Value} {L L' : List va_W} {B B' : va_W}
theorem kf_get (X : kX l g own cc nL R x) {C : String} {T : u_T} {N ci ix : Nat} {a : Nat} {fs : List Value} {v : Value} (hin : ∀ w ∈ u_ws C T N, w ∈ kw_T) (hc : vwCl[ci]? = some (C, T, N)) (j : Nat) (i q : Nat) (hB : L[i]? = some B) (he : B[q]? = some (a, .inr (ci, fs))) (hj : j < N) (hl' : Cond.fieldLink own ix C (T j).2.1 (T j).2.2.1 ∈ kw_T) (hC : (T j).1 = C) (hv : fs[j]? = some v) (d : decode cc pc = .ok (.getfield ix, 3)) (K : kW x n k (pc + 3) lv (v :: st) L.flatten) : kW x n k pc lv (.ref a :: st) L.flatten := by
  obtain ⟨p_, h1_, h2_⟩ := fl_ex hB he
  exact kb_get X hin hc p_ j h1_ hj hl' hC hv d K
theorem kf_put (X : kX l g own cc nL R x) {C : String} {T : u_T} {N ci ix : Nat} {a : Nat} {fs : List Value} {v : Value} {ty : FieldType} (hin : ∀ w ∈ u_ws C T N, w ∈ kw_T) (ty0 : Nat → FieldType) (hty : ∀ k, k < N → parseFieldDescriptor (T k).2.2.1 = some (ty0 k)) (hnm : ∀ a, a < N → ∀ b, b < N → a ≠ b → (T a).2.1 ≠ (T b).2.1) (hc : vwCl[ci]? = some (C, T, N)) (j : Nat) (i q : Nat) (hB : L[i]? = some B) (he : B[q]? = some (a, .inr (ci, fs))) (hj : j < N) (hl' : Cond.fieldLink own ix C (T j).2.1 (T j).2.2.1 ∈ kw_T) (hC : (T j).1 = C) (hfin : (T j).2.2.2 = false) (hd : parseFieldDescriptor (T j).2.2.1 = some ty) (hn : narrow ty v = v) (hf : fits ty v = true) (hlen : j < fs.length) (d : decode cc pc = .ok (.putfield ix, 3)) (hB' : B.set q (a, .inr (ci, fs.set j v)) = B') (hL : L.set i B' = L') (K : kW x n k (pc + 3) lv st L'.flatten) : kW x n k pc lv (v :: .ref a :: st) L.flatten := by
  obtain ⟨p_, h1_, h2_⟩ := fl_ex hB he
  exact kb_put X hin ty0 hty hnm hc p_ j h1_ hj hl' hC hfin hd hn hf hlen d ((h2_ _).trans (by rw [hB', hL])) K
theorem kf_iald (X : kX l g own cc nL R x) {a N j : Nat} {f : Nat → Int32} (i q : Nat) (hB : L[i]? = some B) (he : B[q]? = some (a, .inl (g.2 0, N, .inl f))) (hi : j < N) (hN : N < 2147483648) (d : decode cc pc = .ok (.iaload, 1)) (K : kW x n k (pc + 1) lv (.int (f j) :: st) L.flatten) : kW x n k pc lv (.int (nI j) :: .ref a :: st) L.flatten := by
  obtain ⟨p_, h1_, h2_⟩ := fl_ex hB he
  exact kb_iald X p_ h1_ hi hN d K
theorem kf_iast (X : kX l g own cc nL R x) {a N j : Nat} {f : Nat → Int32} {v : Int32} (i q : Nat) (hB : L[i]? = some B) (he : B[q]? = some (a, .inl (g.2 0, N, .inl f))) (hi : j < N) (hN : N < 2147483648) (d : decode cc pc = .ok (.iastore, 1)) (hB' : B.set q (a, .inl (g.2 0, N, .inl (upd f j (v)))) = B') (hL : L.set i B' = L') (K : kW x n k (pc + 1) lv st L'.flatten) : kW x n k pc lv (.int v :: .int (nI j) :: .ref a :: st) L.flatten := by
  obtain ⟨p_, h1_, h2_⟩ := fl_ex hB he
  exact kb_iast X p_ h1_ hi hN d ((h2_ _).trans (by rw [hB', hL])) K
theorem kf_cald (X : kX l g own cc nL R x) {a N j : Nat} {f : Nat → Int32} (i q : Nat) (hB : L[i]? = some B) (he : B[q]? = some (a, .inl (g.2 1, N, .inl f))) (hi : j < N) (hN : N < 2147483648) (d : decode cc pc = .ok (.caload, 1)) (K : kW x n k (pc + 1) lv (.int (f j) :: st) L.flatten) : kW x n k pc lv (.int (nI j) :: .ref a :: st) L.flatten := by
  obtain ⟨p_, h1_, h2_⟩ := fl_ex hB he
  exact kb_cald X p_ h1_ hi hN d K
theorem kf_cast (X : kX l g own cc nL R x) {a N j : Nat} {f : Nat → Int32} {v : Int32} (i q : Nat) (hB : L[i]? = some B) (he : B[q]? = some (a, .inl (g.2 1, N, .inl f))) (hi : j < N) (hN : N < 2147483648) (d : decode cc pc = .ok (.castore, 1)) (hB' : B.set q (a, .inl (g.2 1, N, .inl (upd f j (vp_nar .char v)))) = B') (hL : L.set i B' = L') (K : kW x n k (pc + 1) lv st L'.flatten) : kW x n k pc lv (.int v :: .int (nI j) :: .ref a :: st) L.flatten := by
  obtain ⟨p_, h1_, h2_⟩ := fl_ex hB he
  exact kb_cast X p_ h1_ hi hN d ((h2_ _).trans (by rw [hB', hL])) K
theorem kf_bald (X : kX l g own cc nL R x) {a N j : Nat} {f : Nat → Int32} (i q : Nat) (hB : L[i]? = some B) (he : B[q]? = some (a, .inl (g.2 2, N, .inl f))) (hi : j < N) (hN : N < 2147483648) (d : decode cc pc = .ok (.baload, 1)) (K : kW x n k (pc + 1) lv (.int (f j) :: st) L.flatten) : kW x n k pc lv (.int (nI j) :: .ref a :: st) L.flatten := by
  obtain ⟨p_, h1_, h2_⟩ := fl_ex hB he
  exact kb_bald X p_ h1_ hi hN d K
theorem kf_bast (X : kX l g own cc nL R x) {a N j : Nat} {f : Nat → Int32} {v : Int32} (i q : Nat) (hB : L[i]? = some B) (he : B[q]? = some (a, .inl (g.2 2, N, .inl f))) (hi : j < N) (hN : N < 2147483648) (d : decode cc pc = .ok (.bastore, 1)) (hB' : B.set q (a, .inl (g.2 2, N, .inl (upd f j (vp_nar .byte v)))) = B') (hL : L.set i B' = L') (K : kW x n k (pc + 1) lv st L'.flatten) : kW x n k pc lv (.int v :: .int (nI j) :: .ref a :: st) L.flatten := by
  obtain ⟨p_, h1_, h2_⟩ := fl_ex hB he
  exact kb_bast X p_ h1_ hi hN d ((h2_ _).trans (by rw [hB', hL])) K
theorem kf_zald (X : kX l g own cc nL R x) {a N j : Nat} {f : Nat → Int32} (i q : Nat) (hB : L[i]? = some B) (he : B[q]? = some (a, .inl (g.2 3, N, .inl f))) (hi : j < N) (hN : N < 2147483648) (d : decode cc pc = .ok (.baload, 1)) (K : kW x n k (pc + 1) lv (.int (f j) :: st) L.flatten) : kW x n k pc lv (.int (nI j) :: .ref a :: st) L.flatten := by
  obtain ⟨p_, h1_, h2_⟩ := fl_ex hB he
  exact kb_zald X p_ h1_ hi hN d K
theorem kf_zast (X : kX l g own cc nL R x) {a N j : Nat} {f : Nat → Int32} {v : Int32} (i q : Nat) (hB : L[i]? = some B) (he : B[q]? = some (a, .inl (g.2 3, N, .inl f))) (hi : j < N) (hN : N < 2147483648) (d : decode cc pc = .ok (.bastore, 1)) (hB' : B.set q (a, .inl (g.2 3, N, .inl (upd f j (vp_nar .boolean v)))) = B') (hL : L.set i B' = L') (K : kW x n k (pc + 1) lv st L'.flatten) : kW x n k pc lv (.int v :: .int (nI j) :: .ref a :: st) L.flatten := by
  obtain ⟨p_, h1_, h2_⟩ := fl_ex hB he
  exact kb_zast X p_ h1_ hi hN d ((h2_ _).trans (by rw [hB', hL])) K
theorem kf_qald (X : kX l g own cc nL R x) {a N j : Nat} {f : Nat → Option Nat} {b : Nat} (i q : Nat) (hB : L[i]? = some B) (he : B[q]? = some (a, .inl (g.2 4, N, .inr (.inr (.inr (.inr f)))))) (hi : j < N) (hN : N < 2147483648) (hf : f j = some b) (d : decode cc pc = .ok (.aaload, 1)) (K : kW x n k (pc + 1) lv (.ref b :: st) L.flatten) : kW x n k pc lv (.int (nI j) :: .ref a :: st) L.flatten := by
  obtain ⟨p_, h1_, h2_⟩ := fl_ex hB he
  exact kb_qald X p_ h1_ hi hN hf d K
theorem kf_alen (X : kX l g own cc nL R x) {a : Nat} {ar : vp_A} {cA : ClassId} {ty : FieldType} {v : Int32} (t : Nat) (i q : Nat) (hB : L[i]? = some B) (he : B[q]? = some (a, .inl (cA, ar))) (ht : (kw_ty g)[t]? = some (cA, ty)) (hv : Int32.ofNat ar.1 = v) (d : decode cc pc = .ok (.arraylength, 1)) (K : kW x n k (pc + 1) lv (.int v :: st) L.flatten) : kW x n k pc lv (.ref a :: st) L.flatten := by
  obtain ⟨p_, h1_, h2_⟩ := fl_ex hB he
  exact kb_alen X p_ t h1_ ht hv d K
end KF
section KN
variable {x : kw_X} {l : Launch} {g : kw_G} {own : String} {cc : ByteArray} {nL : Nat} {R : Room} {n k pc : Nat} {lv lv' : List (Nat × Value)} {st : List Value} {ws ws' : va_W}
theorem kn_if_eq (X : kX l g own cc nL R x) {a : Nat} {z : Int} {tgt : Nat} (ha : a < 2147483648) (d : decode cc pc = .ok (.ifCond .eq z, 3)) (ht : (pc : Int) + z = (tgt : Int)) (kt : a = 0 → kW x n k tgt lv st ws) (kf : ¬ a = 0 → kW x n k (pc + 3) lv st ws) : kW x n k pc lv (.int (nI a) :: st) ws := kb_if_eq X d ht (fun q => kt ((nI_eq ha (by decide)).mp q)) (fun q => kf (fun e => q ((nI_eq ha (by decide)).mpr e)))
theorem kn_if_ne (X : kX l g own cc nL R x) {a : Nat} {z : Int} {tgt : Nat} (ha : a < 2147483648) (d : decode cc pc = .ok (.ifCond .ne z, 3)) (ht : (pc : Int) + z = (tgt : Int)) (kt : ¬ a = 0 → kW x n k tgt lv st ws) (kf : a = 0 → kW x n k (pc + 3) lv st ws) : kW x n k pc lv (.int (nI a) :: st) ws := kb_if_ne X d ht (fun q => kt (fun e => q ((nI_eq ha (by decide)).mpr e))) (fun q => kf ((nI_eq ha (by decide)).mp q))
theorem kn_if_gt (X : kX l g own cc nL R x) {a : Nat} {z : Int} {tgt : Nat} (ha : a < 2147483648) (d : decode cc pc = .ok (.ifCond .gt z, 3)) (ht : (pc : Int) + z = (tgt : Int)) (kt : 0 < a → kW x n k tgt lv st ws) (kf : a = 0 → kW x n k (pc + 3) lv st ws) : kW x n k pc lv (.int (nI a) :: st) ws := kb_if_gt X d ht (fun q => kt ((nI_ltI (by decide) ha).mp q)) (fun q => kf (Nat.eq_zero_of_not_pos (fun e => q ((nI_ltI (by decide) ha).mpr e))))
theorem kn_if_le (X : kX l g own cc nL R x) {a : Nat} {z : Int} {tgt : Nat} (ha : a < 2147483648) (d : decode cc pc = .ok (.ifCond .le z, 3)) (ht : (pc : Int) + z = (tgt : Int)) (kt : a = 0 → kW x n k tgt lv st ws) (kf : 0 < a → kW x n k (pc + 3) lv st ws) : kW x n k pc lv (.int (nI a) :: st) ws := kb_if_le X d ht (fun q => kt (Nat.le_zero.mp ((nI_leI ha (by decide)).mp q))) (fun q => kf (Nat.pos_of_ne_zero (fun e => q ((nI_leI ha (by decide)).mpr (Nat.le_of_eq e)))))
end KN
