section KD
variable {x : kw_X} {l : Launch} {g : kw_G} {own : String} {cc : ByteArray} {nL : Nat} {R : Room} {n k pc : Nat} {lv lv' : List (Nat × Value)} {st : List Value} {ws ws' : va_W}
theorem kw_arr {a N : Nat} {cA : ClassId} {f f' : Nat → Int32} (q : Nat) (hq : ws[q]? = some (a, .inl (cA, N, .inl f))) (hf : ∀ j, j < N → f j = f' j) (hw : ws.set q (a, .inl (cA, N, .inl f')) = ws') (K : kW x n k pc lv st ws') : kW x n k pc lv st ws := by
  subst hw
  obtain ⟨p, l', e, R', s, m, args, below, meth, c, g', A, H0, nL', Q⟩ := x
  refine fun H locs ls hP hD hS hl => K H locs ls (hP.set hD hq ?_ (fun _ _ => rfl)) (hD.set hq) hS hl
  have h := hP q _ hq
  have e : vp_cell cA (N, .inl f) = vp_cell cA (N, .inl f') := by
    rw [vp_cell_i, vp_cell_i]
    unfold arrV
    congr 2
    funext j
    exact congrArg Value.int (hf j.val j.isLt)
  show H[a]? = some (vp_cell cA (N, .inl f'))
  rw [← e]
  exact h
theorem kb_acpyF (X : kX l g own cc nL R x) {ix : Nat} {a b N : Nat} {f h : Nat → Int32} (q0 q1 : Nat) (h0 : ws[q0]? = some (a, .inl (g.2 0, N, .inl f))) (h1 : ws[q1]? = some (b, .inl (g.2 0, N, .inl h))) (hl' : Cond.methodLink own ix arraycopyName ∈ kw_T) (hN : N < 2147483648) (hini : Cond.initialized "java/lang/System" ∈ kw_T) (hfr : 1 ≤ R.frames) (hlo : (st.map fun v => v.category).sum + (nativeFrameWords "java/lang/System" "arraycopy" 5 + 11) ≤ R.locals) (d : decode cc pc = .ok (.invokestatic ix, 3)) (hw : ws.set q1 (b, .inl (g.2 0, N, .inl f)) = ws') (K : kW x n k (pc + 3) lv st ws') : kW x n k pc lv (.int (nI N) :: .int 0 :: .ref b :: .int 0 :: .ref a :: st) ws := by
  refine kb_acpy (s0 := 0) (d0 := 0) (m0 := N) X q0 q1 h0 h1 hl' (by omega) (by omega) hN hN hini hfr hlo d rfl ?_
  have hlt := (List.getElem?_eq_some_iff.mp h1).1
  refine kw_arr (f' := f) q1 (by rw [List.getElem?_set_self hlt]) (fun j hj => by rw [pk_cpy_in (Nat.zero_le _) (by omega)]; simp) (by rw [List.set_set]; exact hw) K
theorem kb_new_int (X : kX l g own cc nL R x) {N : Nat} (hN : N < 1000000) (hc : n + 1 ≤ R.cells) (hs : k + N ≤ R.slots) (d : decode cc pc = .ok (.newarray .int, 2)) (K : ∀ q, kW x (n + 1) (k + N) (pc + 2) lv (.ref q :: st) (ws ++ [(q, .inl (g.2 0, N, .inl (fun _ => 0)))])) : kW x n k pc lv (.int (nI N) :: st) ws := by
  obtain ⟨p, l', e, R', s, m, args, below, meth, c, g', A, H0, nL', Q⟩ := x
  obtain ⟨rfl, rfl, rfl, rfl, hx, hb, hml, ho, hts, hE, hA, hk⟩ := X
  refine fun H locs ls hP hD hS hl => va_newa (atype := .int) hx hb (hts _ ka_int) rfl hE.1 hP hD hS hA (a0 := (N, .inl (fun _ => 0))) (fun cA => rfl) (nI_pos (by omega)) (nI_clamp (by omega)) ?_ hc hs d (fun q cA H1 hK1 hP1 hD1 hS1 => ?_)
  · show N * _ ≤ 536870912
    exact Nat.le_trans (Nat.mul_le_mul_left N (show componentBytes _ ≤ 8 by decide)) (by omega)
  · have e1 : s.vm.findClass ("[" ++ (FieldType.int).toString) = some (g'.2 0) := (hE.1.2 0 _ rfl).2
    have e2 : s.vm.findClass ("[" ++ (FieldType.int).toString) = some cA := (hK1.2 5 _ rfl).2
    have e3 : cA = g'.2 0 := Option.some.inj (e2.symm.trans e1)
    rw [e3] at hP1 hD1
    exact K q H1 locs ls hP1 hD1 hS1 hl
theorem kb_new_char (X : kX l g own cc nL R x) {N : Nat} (hN : N < 1000000) (hc : n + 1 ≤ R.cells) (hs : k + N ≤ R.slots) (d : decode cc pc = .ok (.newarray .char, 2)) (K : ∀ q, kW x (n + 1) (k + N) (pc + 2) lv (.ref q :: st) (ws ++ [(q, .inl (g.2 1, N, .inl (fun _ => 0)))])) : kW x n k pc lv (.int (nI N) :: st) ws := by
  obtain ⟨p, l', e, R', s, m, args, below, meth, c, g', A, H0, nL', Q⟩ := x
  obtain ⟨rfl, rfl, rfl, rfl, hx, hb, hml, ho, hts, hE, hA, hk⟩ := X
  refine fun H locs ls hP hD hS hl => va_newa (atype := .char) hx hb (hts _ ka_char) rfl hE.1 hP hD hS hA (a0 := (N, .inl (fun _ => 0))) (fun cA => rfl) (nI_pos (by omega)) (nI_clamp (by omega)) ?_ hc hs d (fun q cA H1 hK1 hP1 hD1 hS1 => ?_)
  · show N * _ ≤ 536870912
    exact Nat.le_trans (Nat.mul_le_mul_left N (show componentBytes _ ≤ 8 by decide)) (by omega)
  · have e1 : s.vm.findClass ("[" ++ (FieldType.char).toString) = some (g'.2 1) := (hE.1.2 1 _ rfl).2
    have e2 : s.vm.findClass ("[" ++ (FieldType.char).toString) = some cA := (hK1.2 5 _ rfl).2
    have e3 : cA = g'.2 1 := Option.some.inj (e2.symm.trans e1)
    rw [e3] at hP1 hD1
    exact K q H1 locs ls hP1 hD1 hS1 hl
theorem kb_new_byte (X : kX l g own cc nL R x) {N : Nat} (hN : N < 1000000) (hc : n + 1 ≤ R.cells) (hs : k + N ≤ R.slots) (d : decode cc pc = .ok (.newarray .byte, 2)) (K : ∀ q, kW x (n + 1) (k + N) (pc + 2) lv (.ref q :: st) (ws ++ [(q, .inl (g.2 2, N, .inl (fun _ => 0)))])) : kW x n k pc lv (.int (nI N) :: st) ws := by
  obtain ⟨p, l', e, R', s, m, args, below, meth, c, g', A, H0, nL', Q⟩ := x
  obtain ⟨rfl, rfl, rfl, rfl, hx, hb, hml, ho, hts, hE, hA, hk⟩ := X
  refine fun H locs ls hP hD hS hl => va_newa (atype := .byte) hx hb (hts _ ka_byte) rfl hE.1 hP hD hS hA (a0 := (N, .inl (fun _ => 0))) (fun cA => rfl) (nI_pos (by omega)) (nI_clamp (by omega)) ?_ hc hs d (fun q cA H1 hK1 hP1 hD1 hS1 => ?_)
  · show N * _ ≤ 536870912
    exact Nat.le_trans (Nat.mul_le_mul_left N (show componentBytes _ ≤ 8 by decide)) (by omega)
  · have e1 : s.vm.findClass ("[" ++ (FieldType.byte).toString) = some (g'.2 2) := (hE.1.2 2 _ rfl).2
    have e2 : s.vm.findClass ("[" ++ (FieldType.byte).toString) = some cA := (hK1.2 5 _ rfl).2
    have e3 : cA = g'.2 2 := Option.some.inj (e2.symm.trans e1)
    rw [e3] at hP1 hD1
    exact K q H1 locs ls hP1 hD1 hS1 hl
theorem kb_new_boolean (X : kX l g own cc nL R x) {N : Nat} (hN : N < 1000000) (hc : n + 1 ≤ R.cells) (hs : k + N ≤ R.slots) (d : decode cc pc = .ok (.newarray .boolean, 2)) (K : ∀ q, kW x (n + 1) (k + N) (pc + 2) lv (.ref q :: st) (ws ++ [(q, .inl (g.2 3, N, .inl (fun _ => 0)))])) : kW x n k pc lv (.int (nI N) :: st) ws := by
  obtain ⟨p, l', e, R', s, m, args, below, meth, c, g', A, H0, nL', Q⟩ := x
  obtain ⟨rfl, rfl, rfl, rfl, hx, hb, hml, ho, hts, hE, hA, hk⟩ := X
  refine fun H locs ls hP hD hS hl => va_newa (atype := .boolean) hx hb (hts _ ka_boolean) rfl hE.1 hP hD hS hA (a0 := (N, .inl (fun _ => 0))) (fun cA => rfl) (nI_pos (by omega)) (nI_clamp (by omega)) ?_ hc hs d (fun q cA H1 hK1 hP1 hD1 hS1 => ?_)
  · show N * _ ≤ 536870912
    exact Nat.le_trans (Nat.mul_le_mul_left N (show componentBytes _ ≤ 8 by decide)) (by omega)
  · have e1 : s.vm.findClass ("[" ++ (FieldType.boolean).toString) = some (g'.2 3) := (hE.1.2 3 _ rfl).2
    have e2 : s.vm.findClass ("[" ++ (FieldType.boolean).toString) = some cA := (hK1.2 5 _ rfl).2
    have e3 : cA = g'.2 3 := Option.some.inj (e2.symm.trans e1)
    rw [e3] at hP1 hD1
    exact K q H1 locs ls hP1 hD1 hS1 hl
theorem kb_newq (X : kX l g own cc nL R x) {ix N : Nat} (hN : N < 1000000) (hl' : Cond.classLink own ix RX4 ∈ kw_T) (hc : n + 1 ≤ R.cells) (hs : k + N ≤ R.slots) (d : decode cc pc = .ok (.anewarray ix, 3)) (K : ∀ q, kW x (n + 1) (k + N) (pc + 3) lv (.ref q :: st) (ws ++ [(q, .inl (g.2 4, N, .inr (.inr (.inr (.inr (fun _ => none))))))])) : kW x n k pc lv (.int (nI N) :: st) ws := by
  obtain ⟨p, l', e, R', s, m, args, below, meth, c, g', A, H0, nL', Q⟩ := x
  obtain ⟨rfl, rfl, rfl, rfl, hx, hb, hml, ho, hts, hE, hA, hk⟩ := X
  refine fun H locs ls hP hD hS hl => va_newq hx hb ho (hts _ hl') hE.2.2 hE.1 hP hD hS hA (nI_pos (by omega)) (nI_clamp (by omega)) (by omega) hc hs d (fun q cA H1 hK1 hP1 hD1 hS1 => ?_)
  obtain ⟨k1, c1, h1, h2, h3, h4⟩ := (hE.1.2 4 _ rfl).2
  obtain ⟨k2, c2, f1, f2, f3, f4⟩ := (hK1.2 5 _ rfl).2
  have e3 : cA = g'.2 4 := Option.some.inj (f4.symm.trans h4)
  rw [e3] at hP1 hD1
  exact K q H1 locs ls hP1 hD1 hS1 hl
theorem kb_new (X : kX l g own cc nL R x) {C : String} {T : u_T} {N ci ix : Nat} {fs : List Value} (hin : ∀ w ∈ u_ws C T N, w ∈ kw_T) (ty : Nat → FieldType) (hty : ∀ k, k < N → parseFieldDescriptor (T k).2.2.1 = some (ty k)) (hl' : Cond.classLink own ix C ∈ kw_T) (hi : Cond.instantiable C N ∈ kw_T) (hini : Cond.initialized C ∈ kw_T) (hc : vwCl[ci]? = some (C, T, N)) (hfs : ∀ j, j < N → defaultValue (ty j) = vp_V fs j) (hcc : n + 1 ≤ R.cells) (hss : k + N ≤ R.slots) (d : decode cc pc = .ok (.new ix, 3)) (K : ∀ q, kW x (n + 1) (k + N) (pc + 3) lv (.ref q :: st) (ws ++ [(q, .inr (ci, fs))])) : kW x n k pc lv st ws := by
  obtain ⟨p, l', e, R', s, m, args, below, meth, c, g', A, H0, nL', Q⟩ := x
  obtain ⟨rfl, rfl, rfl, rfl, hx, hb, hml, ho, hts, hE, hA, hk⟩ := X
  exact fun H locs ls hP hD hS hl => va_new hx hb hts hin ty hty ho (hts _ hl') (hts _ hi) (hts _ hini) hE.1 hP hD hS hA hc hfs hcc hss d (fun q H1 hP1 hD1 hS1 => K q H1 locs ls hP1 hD1 hS1 hl)
theorem kb_obj (X : kX l g own cc nL R x) {ix : Nat} {a : Nat} (hl' : Cond.methodLink own ix Lib.objectInit ∈ kw_T) (hfr : 1 ≤ R.frames) (hlo : (st.map fun v => v.category).sum + 12 ≤ R.locals) (d : decode cc pc = .ok (.invokespecial ix, 3)) (K : kW x n k (pc + 3) lv st ws) : kW x n k pc lv (.ref a :: st) ws := by
  obtain ⟨p, l', e, R', s, m, args, below, meth, c, g', A, H0, nL', Q⟩ := x
  obtain ⟨rfl, rfl, rfl, rfl, hx, hb, hml, ho, hts, hE, hA, hk⟩ := X
  exact fun H locs ls hP hD hS hl => W.objInit hx hb ho (hts _ hl') (hts _ mi_obj) (hts _ mc_obj) rfl (hl.1.trans hml.symm) rfl d hfr (by show 2 * 0 + _ + 12 ≤ _; omega) (K H locs ls hP hD hS hl)
end KD
