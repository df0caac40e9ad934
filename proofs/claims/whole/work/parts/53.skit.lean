/-! the first text: a String constant, and the methods that read it -/
def txS : String := "p0,52,20;p1,50,9;p2,60,3;p3,49,30;p4,55,14;t1,0,2;t2,0,5;t3,0,8;t4,0,6;t0,1,7;t3,1,3;t0,2,6;t1,2,9;t4,3,8;o4,0,10;o2,0,3;o3,4,8;"
def tx0L : List Nat := [112, 48, 44, 53, 50, 44, 50, 48, 59, 112, 49, 44, 53, 48, 44, 57, 59, 112, 50, 44, 54, 48, 44, 51, 59, 112, 51, 44, 52, 57, 44, 51, 48, 59, 112, 52, 44, 53, 53, 44, 49, 52, 59, 116, 49, 44, 48, 44, 50, 59, 116, 50, 44, 48, 44, 53, 59, 116, 51, 44, 48, 44, 56, 59, 116, 52, 44, 48, 44, 54, 59, 116, 48, 44, 49, 44, 55, 59, 116, 51, 44, 49, 44, 51, 59, 116, 48, 44, 50, 44, 54, 59, 116, 49, 44, 50, 44, 57, 59, 116, 52, 44, 51, 44, 56, 59, 111, 52, 44, 48, 44, 49, 48, 59, 111, 50, 44, 48, 44, 51, 59, 111, 51, 44, 52, 44, 56, 59]
def tx0 (k : Nat) : Nat := tx0L.getD k 0
theorem tx0_lt : ∀ k, k < 128 → tx0 k < 128 := by decide +kernel
def kStr (q t : Nat) (A : Nat → Prop) (U : State) (H : Heap) : Prop :=
  vk_R RX5 52 txS q U ∧ va_O RJ0 q A U H ∧ va_OF "java/lang/String" "coder" "B" (.int 0) q A U H ∧ va_OF "java/lang/String" "value" "[B" (.ref t) q A U H ∧ va_T .byte t 128 (fun j => .int (nI (tx0 j))) A U H ∧ va_Z "java/lang/String" "COMPACT_STRINGS" "Z" (.int 1) A U H ∧ va_Zq "jdk/internal/util/Preconditions" "SIOOBE_FORMATTER" "Ljava/util/function/BiFunction;" A U H
theorem kStr.mv {q t : Nat} {A B : Nat → Prop} {s U : State} {H H1 : Heap} (hW : s.WarmedH U.vm) (hq : ∀ a : Nat, a < H.size → ¬ A a → H1[a]? = H[a]?) (hAB : ∀ q, B q → A q) (h : kStr q t A s H) : kStr q t B U H1 := by
  obtain ⟨h1, h2, h3, h4, h5, h6, h7⟩ := h
  exact ⟨h1.warm hW, (va_O.moved hW.alike (h2.kept hq)).narrow hAB, (va_OF.moved hW.alike (h3.kept hq)).narrow hAB, (va_OF.moved hW.alike (h4.kept hq)).narrow hAB, (va_T.moved hW.alike (h5.kept hq)).narrow hAB, (va_Z.moved hW.alike (h6.kept hq)).narrow hAB, (va_Zq.moved hW.alike (h7.kept hq)).narrow hAB⟩
theorem kStr.calling {q t : Nat} {A : Nat → Prop} {U : State} {H : Heap} {gf : JFrame} {mk : MethodId} {a : Array Value} (h : kStr q t A U H) : kStr q t A (U.calling gf mk a) H := by
  obtain ⟨h1, h2, h3, h4, h5, h6, h7⟩ := h
  exact ⟨vk_R.same (u := U) rfl h1, va_O.moved (u := U) (U := U.calling gf mk a) (Vm.Alike.refl U.vm) h2, va_OF.moved (u := U) (U := U.calling gf mk a) (Vm.Alike.refl U.vm) h3, va_OF.moved (u := U) (U := U.calling gf mk a) (Vm.Alike.refl U.vm) h4, va_T.moved (u := U) (U := U.calling gf mk a) (Vm.Alike.refl U.vm) h5, va_Z.moved (u := U) (U := U.calling gf mk a) (Vm.Alike.refl U.vm) h6, va_Zq.moved (u := U) (U := U.calling gf mk a) (Vm.Alike.refl U.vm) h7⟩
/-- contracts of methods that read the constant -/
def kPreS (q t : Nat) (g : kw_G) (av : List Value) (ws : va_W) (sz : Nat) : Array Value → State → Prop := va_Pc av (fun U => U.heap.size = sz ∧ va_P g.1 vwCl ws U.heap ∧ kw_E g U ∧ va_D (fun _ => True) ws ∧ kStr q t (va_A ws sz) U U.heap)
def kMiS (q t : Nat) (l : Launch) (g : kw_G) (y : MethodName) (cc : ByteArray) (nL : Nat) (ty : FieldType) (R : Room) (mc ms : Nat) (av : List Value) (ws : va_W) (P : Int32 → va_W → Prop) : Prop :=
  ∀ sz, Met l y (.code y cc nL (some ty) :: kw_T) R (kPreS q t g av ws sz) (va_Qi (S := va_W) P (fun w t => va_P g.1 vwCl w t.heap ∧ va_D (va_A ws sz) w) (va_A ws sz)) mc ms (va_A ws sz)
def kMvS (q t : Nat) (l : Launch) (g : kw_G) (y : MethodName) (cc : ByteArray) (nL : Nat) (R : Room) (mc ms : Nat) (av : List Value) (ws : va_W) (P : va_W → Prop) : Prop :=
  ∀ sz, Met l y (.code y cc nL none :: kw_T) R (kPreS q t g av ws sz) (va_Qv (S := va_W) P (fun w t => va_P g.1 vwCl w t.heap ∧ va_D (va_A ws sz) w) (va_A ws sz)) mc ms (va_A ws sz)
theorem kPreS_blind (q t : Nat) (g : kw_G) (av : List Value) (ws : va_W) (sz : Nat) : FrameBlind (kPreS q t g av ws sz) := by
  intro a U gf mk h
  obtain ⟨rfl, h1, h2, h3, h4, h5⟩ := h
  exact ⟨rfl, h1, h2, h3.calling, h4, h5.calling⟩
def kSx (q t : Nat) (x : kw_X) : Prop := match x with
  | (_, _, _, _, s, _, _, _, _, _, _, A, H0, _, _) => H0 = s.heap ∧ kStr q t A s s.heap
theorem kMiS_of {q t : Nat} {l : Launch} {g : kw_G} {y : MethodName} {cc : ByteArray} {nL : Nat} {ty : FieldType} {R : Room} {mc ms : Nat} {av : List Value} {ws : va_W} {P : Int32 → va_W → Prop}
    (hy : plainFor y = true) (hlen : (lg_sl av).length ≤ nL) (body : ∀ x, kX l g y.cls cc nL R x → kZi ty P mc ms x → kSx q t x → kW x 0 0 0 (lv_args 0 av) [] ws) : kMiS q t l g y cc nL ty R mc ms av ws P := by
  intro sz
  refine va_MetF (cc := cc) (maxL := nL) (ret := (some ty)) hy rfl ?_
  intro p e s m args below meth c s₁ B hml hv
  obtain ⟨rfl, hsz, hP, hE, hD0, hSt⟩ := hv
  have hts := atoms_spec (ws := .code y cc nL (some ty) :: kw_T) B.pre
  have hown : s.vm.findClass y.cls = some m.cls := findClass_of_methodNamed B.named
  subst hsz
  have hD := hD0.self (sz := s.heap.size)
  have hl := lv_entry av (n := nL) hlen
  have key := body (p, l, e, (headSpec (.code y cc nL (some ty) :: kw_T) R).room, s, m, av.toArray, below, meth, c, g, va_A ws s.heap.size, s.heap, nL, _)
    ⟨rfl, rfl, rfl, rfl, B.exec, B.bytes, hml, hown, fun w hw => hts w (List.mem_cons_of_mem _ hw), hE, fun q h => Or.inr h, B.notSynchronized⟩ ⟨B.returns, rfl, rfl⟩ ⟨rfl, hSt⟩
  rw [lg_entry_eq]
  exact key s.heap [] _ hP hD va_S.rf hl
theorem kMvS_of {q t : Nat} {l : Launch} {g : kw_G} {y : MethodName} {cc : ByteArray} {nL : Nat} {R : Room} {mc ms : Nat} {av : List Value} {ws : va_W} {P : va_W → Prop}
    (hy : plainFor y = true) (hlen : (lg_sl av).length ≤ nL) (body : ∀ x, kX l g y.cls cc nL R x → kZv P mc ms x → kSx q t x → kW x 0 0 0 (lv_args 0 av) [] ws) : kMvS q t l g y cc nL R mc ms av ws P := by
  intro sz
  refine va_MetF (cc := cc) (maxL := nL) (ret := none) hy rfl ?_
  intro p e s m args below meth c s₁ B hml hv
  obtain ⟨rfl, hsz, hP, hE, hD0, hSt⟩ := hv
  have hts := atoms_spec (ws := .code y cc nL none :: kw_T) B.pre
  have hown : s.vm.findClass y.cls = some m.cls := findClass_of_methodNamed B.named
  subst hsz
  have hD := hD0.self (sz := s.heap.size)
  have hl := lv_entry av (n := nL) hlen
  have key := body (p, l, e, (headSpec (.code y cc nL none :: kw_T) R).room, s, m, av.toArray, below, meth, c, g, va_A ws s.heap.size, s.heap, nL, _)
    ⟨rfl, rfl, rfl, rfl, B.exec, B.bytes, hml, hown, fun w hw => hts w (List.mem_cons_of_mem _ hw), hE, fun q h => Or.inr h, B.notSynchronized⟩ ⟨B.returns, rfl, rfl⟩ ⟨rfl, hSt⟩
  rw [lg_entry_eq]
  exact key s.heap [] _ hP hD va_S.rf hl
theorem kMvS_ofI {q t : Nat} {l : Launch} {g : kw_G} {y : MethodName} {cc : ByteArray} {nL : Nat} {R : Room} {mc ms : Nat} {av : List Value} {ws : va_W} {P : va_W → Prop}
    (hy : plainFor y = true) (hn : y.name = "<init>") (hlen : (lg_sl av).length ≤ nL) (body : ∀ x, kX l g y.cls cc nL R x → kZv P mc ms x → kSx q t x → kInit x → kW x 0 0 0 (lv_args 0 av) [] ws) : kMvS q t l g y cc nL R mc ms av ws P := by
  intro sz
  refine va_MetF (cc := cc) (maxL := nL) (ret := none) hy rfl ?_
  intro p e s m args below meth c s₁ B hml hv
  obtain ⟨rfl, hsz, hP, hE, hD0, hSt⟩ := hv
  have hts := atoms_spec (ws := .code y cc nL none :: kw_T) B.pre
  have hown : s.vm.findClass y.cls = some m.cls := findClass_of_methodNamed B.named
  have hin : meth.name = "<init>" := ((name_of_methodNamed B.named B.method).1).trans hn
  subst hsz
  have hD := hD0.self (sz := s.heap.size)
  have hl := lv_entry av (n := nL) hlen
  have key := body (p, l, e, (headSpec (.code y cc nL none :: kw_T) R).room, s, m, av.toArray, below, meth, c, g, va_A ws s.heap.size, s.heap, nL, _)
    ⟨rfl, rfl, rfl, rfl, B.exec, B.bytes, hml, hown, fun w hw => hts w (List.mem_cons_of_mem _ hw), hE, fun q h => Or.inr h, B.notSynchronized⟩ ⟨B.returns, rfl, rfl⟩ ⟨rfl, hSt⟩ hin
  rw [lg_entry_eq]
  exact key s.heap [] _ hP hD va_S.rf hl
section KS
variable {q t : Nat} {x : kw_X} {l : Launch} {g : kw_G} {own : String} {cc : ByteArray} {nL : Nat} {R : Room} {n k pc : Nat} {lv lv' : List (Nat × Value)} {st : List Value} {ws ws' : va_W}
theorem ks_gsC (X : kX l g own cc nL R x) (S : kSx q t x) {ix : Nat} (hl' : Cond.fieldLink own ix "java/lang/String" "COMPACT_STRINGS" "Z" ∈ kw_T) (d : decode cc pc = .ok (.getstatic ix, 3)) (K : kW x n k (pc + 3) lv (.int 1 :: st) ws) : kW x n k pc lv st ws := by
  obtain ⟨p, l', e, R', s, m, args, below, meth, c, g', A, H0, nL', Q⟩ := x
  obtain ⟨rfl, rfl, rfl, rfl, hx, hb, hml, ho, hts, hE, hA, hk⟩ := X
  obtain ⟨rfl, h1, h2, h3, h4, h5, h6, h7⟩ := S
  exact fun H locs ls hP hD hS hl => va_gets hx hb h6 hS ho (hts _ hl') (fun _ y => y) d (K H locs ls hP hD hS hl)
theorem ks_gsF (X : kX l g own cc nL R x) (S : kSx q t x) {ix : Nat} (hl' : Cond.fieldLink own ix "jdk/internal/util/Preconditions" "SIOOBE_FORMATTER" "Ljava/util/function/BiFunction;" ∈ kw_T) (d : decode cc pc = .ok (.getstatic ix, 3)) (K : ∀ v : Value, v.category = 1 → (v = .null ∨ ∃ z, v = .ref z) → kW x n k (pc + 3) lv (v :: st) ws) : kW x n k pc lv st ws := by
  obtain ⟨p, l', e, R', s, m, args, below, meth, c, g', A, H0, nL', Q⟩ := x
  obtain ⟨rfl, rfl, rfl, rfl, hx, hb, hml, ho, hts, hE, hA, hk⟩ := X
  obtain ⟨rfl, h1, h2, h3, h4, h5, h6, h7⟩ := S
  refine fun H locs ls hP hD hS hl => ?_
  rcases h7 with h7 | ⟨z, h7⟩
  · exact va_gets hx hb h7 hS ho (hts _ hl') (fun _ y => y) d (K _ rfl (Or.inl rfl) H locs ls hP hD hS hl)
  · exact va_gets hx hb h7 hS ho (hts _ hl') (fun _ y => y) d (K _ rfl (Or.inr ⟨z, rfl⟩) H locs ls hP hD hS hl)
theorem ks_getC (X : kX l g own cc nL R x) (S : kSx q t x) {ix : Nat} (hl' : Cond.fieldLink own ix "java/lang/String" "coder" "B" ∈ kw_T) (d : decode cc pc = .ok (.getfield ix, 3)) (K : kW x n k (pc + 3) lv (.int 0 :: st) ws) : kW x n k pc lv (.ref q :: st) ws := by
  obtain ⟨p, l', e, R', s, m, args, below, meth, c, g', A, H0, nL', Q⟩ := x
  obtain ⟨rfl, rfl, rfl, rfl, hx, hb, hml, ho, hts, hE, hA, hk⟩ := X
  obtain ⟨rfl, h1, h2, h3, h4, h5, h6, h7⟩ := S
  exact fun H locs ls hP hD hS hl => vk_getf hx hb h3 hS ho (hts _ hl') (fun _ y => y) d (K H locs ls hP hD hS hl)
theorem ks_getV (X : kX l g own cc nL R x) (S : kSx q t x) {ix : Nat} (hl' : Cond.fieldLink own ix "java/lang/String" "value" "[B" ∈ kw_T) (d : decode cc pc = .ok (.getfield ix, 3)) (K : kW x n k (pc + 3) lv (.ref t :: st) ws) : kW x n k pc lv (.ref q :: st) ws := by
  obtain ⟨p, l', e, R', s, m, args, below, meth, c, g', A, H0, nL', Q⟩ := x
  obtain ⟨rfl, rfl, rfl, rfl, hx, hb, hml, ho, hts, hE, hA, hk⟩ := X
  obtain ⟨rfl, h1, h2, h3, h4, h5, h6, h7⟩ := S
  exact fun H locs ls hP hD hS hl => vk_getf hx hb h4 hS ho (hts _ hl') (fun _ y => y) d (K H locs ls hP hD hS hl)
theorem ks_alen (X : kX l g own cc nL R x) (S : kSx q t x) (d : decode cc pc = .ok (.arraylength, 1)) (K : kW x n k (pc + 1) lv (.int 128 :: st) ws) : kW x n k pc lv (.ref t :: st) ws := by
  obtain ⟨p, l', e, R', s, m, args, below, meth, c, g', A, H0, nL', Q⟩ := x
  obtain ⟨rfl, rfl, rfl, rfl, hx, hb, hml, ho, hts, hE, hA, hk⟩ := X
  obtain ⟨rfl, h1, h2, h3, h4, h5, h6, h7⟩ := S
  exact fun H locs ls hP hD hS hl => va_tlen hx hb h5 hS rfl d (K H locs ls hP hD hS hl)
theorem ks_ld (X : kX l g own cc nL R x) (S : kSx q t x) {i : Nat} (hi : i < 128) (d : decode cc pc = .ok (.baload, 1)) (K : kW x n k (pc + 1) lv (.int (nI (tx0 i)) :: st) ws) : kW x n k pc lv (.int (nI i) :: .ref t :: st) ws := by
  obtain ⟨p, l', e, R', s, m, args, below, meth, c, g', A, H0, nL', Q⟩ := x
  obtain ⟨rfl, rfl, rfl, rfl, hx, hb, hml, ho, hts, hE, hA, hk⟩ := X
  obtain ⟨rfl, h1, h2, h3, h4, h5, h6, h7⟩ := S
  exact fun H locs ls hP hD hS hl => va_tb hx hb h5 hS (kw_ix hi (by decide)) (by rw [kw_cl hi (by decide)]) d (K H locs ls hP hD hS hl)
theorem ks_ldc (X : kX l g own cc nL R x) (S : kSx q t x) (hown : own = RX5) (d : decode cc pc = .ok (.ldc 52, 2)) (K : kW x n k (pc + 2) lv (.ref q :: st) ws) : kW x n k pc lv st ws := by
  obtain ⟨p, l', e, R', s, m, args, below, meth, c, g', A, H0, nL', Q⟩ := x
  obtain ⟨rfl, rfl, rfl, rfl, hx, hb, hml, ho, hts, hE, hA, hk⟩ := X
  obtain ⟨rfl, h1, h2, h3, h4, h5, h6, h7⟩ := S
  subst hown
  exact fun H locs ls hP hD hS hl => va_ldcS hx hb ho h1 d (K H locs ls hP hD hS hl)
end KS
section KSC
variable {sq sr : Nat} {y : MethodName} {cc' : ByteArray} {nL' ix ar mc ms na : Nat} {R' : Room} {As rest : List Value} {b : Nat} {wc wr : va_W} {ty : FieldType} {fs : List Value} {ci : Nat} {rC : vw_C} {x : kw_X} {l : Launch} {g : kw_G} {own : String} {cc : ByteArray} {nL : Nat} {R : Room} {n k pc : Nat} {lv lv' : List (Nat × Value)} {st : List Value} {ws ws' : va_W}
theorem ks_Vi (X : kX l g own cc nL R x) (S : kSx sq sr x) {P : Int32 → va_W → Prop} (hM : kMiS sq sr l g y cc' nL' ty R' mc ms (.ref sq :: As) wc P) (d : decode cc pc = .ok (.invokevirtual ix, 3)) (hst : st = As.reverse ++ .ref sq :: rest) (hw : ws.Perm (wc ++ wr)) (hcode : Cond.code y cc' nL' (some ty) ∈ kw_T) (hlink : Cond.methodLink own ix y ∈ kw_T) (hin : Cond.instanceMethod y ∈ kw_T) (hsel : Cond.selects y.cls y y ∈ kw_T) (hini : Cond.initialized y.cls ∈ kw_T) (hrC : RJ0 = y.cls) (hd : y.cls ≠ "java/lang/invoke/MethodHandle" ∧ y.cls ≠ "java/lang/invoke/VarHandle" ∧ (parseMethodDescriptor y.desc).map (fun d => d.parameters.length) = some na) (hna : As.length = na) (hR : R'.frames + 1 ≤ R.frames ∧ 8 + (nL' + 11) + R'.locals ≤ R.locals) (hc' : R'.cells = mc ∧ R'.slots = ms) (hcs : n + mc ≤ R.cells ∧ k + ms ≤ R.slots) (hrest : (rest.map fun v => v.category).sum ≤ 8) (K : ∀ r w, P r w → kW x (n + mc) (k + ms) (pc + 3) lv (.int r :: rest) (w ++ wr)) : kW x n k pc lv st ws := by
  obtain ⟨p, l', e, R', s, m, args, below, meth, c, g', A, H0, nL', Q⟩ := x
  obtain ⟨rfl, rfl, rfl, rfl, hx, hb, hml, ho, hts, hE, hA, hk⟩ := X
  obtain ⟨rfl, hSt⟩ := S
  subst hst
  refine fun H locs ls hP hD hS hl => ?_
  have hP := kw_P hw hP
  have hD := kw_D hw hD
  have hF := kc_free (D := g'.1) (cl := vwCl) hD hS hA
  refine va_calli (va_runV (C := y.cls) (As := As) (rest := rest) (cells := n) (slots := k) ⟨hx, hb, hml, ho, hts⟩ (hM H.size) (cwV na hts (kc_app (own' := own) (by intro w hw; simp only [List.mem_cons, List.not_mem_nil, or_false] at hw; rcases hw with rfl | rfl | rfl | rfl <;> assumption) (kc_T hcode)) rfl hc'.1 hc'.2 ⟨rfl, hd⟩ hR) ⟨kPreS_blind sq sr g' (.ref sq :: As) wc H.size, by obtain ⟨cell, h1, h2, h3, -⟩ := hSt.2.1.kept hS.2.1; exact ⟨cell, h1, h2, by rw [← hrC]; exact h3⟩, fun U hU hW => ⟨rfl, by rw [hU], by rw [hU]; exact kc_P hP, hE.warm hW, (kc_D hD).weaken (fun _ _ _ _ => trivial), by rw [hU]; exact hSt.mv hW hS.2.1 hF⟩⟩ rfl hna hl.1 rfl (lv_room hrest) d hcs) hS (fun q _ h => hF q h) hF ?_
  intro r w t H1 locs1 ht hvm hp hB hz hkk hS1
  obtain ⟨hP1, hD1⟩ := hB
  rw [ht] at hP1
  obtain ⟨hP2, hD2⟩ := kc_join hP hD hF hkk hP1 hD1
  exact K r w hp H1 locs1 ls hP2 hD2 hS1 hl
theorem ks_Si (X : kX l g own cc nL R x) (S : kSx sq sr x) {P : Int32 → va_W → Prop} (hM : kMiS sq sr l g y cc' nL' ty R' mc ms As wc P) (d : decode cc pc = .ok (.invokestatic ix, 3)) (hst : st = As.reverse ++ rest) (hw : ws.Perm (wc ++ wr)) (hcode : Cond.code y cc' nL' (some ty) ∈ kw_T) (hlink : Cond.methodLink own ix y ∈ kw_T) (hin : Cond.static y ∈ kw_T) (hini : Cond.initialized y.cls ∈ kw_T) (hd : y.cls ≠ "java/lang/invoke/MethodHandle" ∧ y.cls ≠ "java/lang/invoke/VarHandle" ∧ (parseMethodDescriptor y.desc).map (fun d => d.parameters.length) = some na) (hna : As.length = na) (hR : R'.frames + 1 ≤ R.frames ∧ 8 + (nL' + 11) + R'.locals ≤ R.locals) (hc' : R'.cells = mc ∧ R'.slots = ms) (hcs : n + mc ≤ R.cells ∧ k + ms ≤ R.slots) (hrest : (rest.map fun v => v.category).sum ≤ 8) (K : ∀ r w, P r w → kW x (n + mc) (k + ms) (pc + 3) lv (.int r :: rest) (w ++ wr)) : kW x n k pc lv st ws := by
  obtain ⟨p, l', e, R', s, m, args, below, meth, c, g', A, H0, nL', Q⟩ := x
  obtain ⟨rfl, rfl, rfl, rfl, hx, hb, hml, ho, hts, hE, hA, hk⟩ := X
  obtain ⟨rfl, hSt⟩ := S
  subst hst
  refine fun H locs ls hP hD hS hl => ?_
  have hP := kw_P hw hP
  have hD := kw_D hw hD
  have hF := kc_free (D := g'.1) (cl := vwCl) hD hS hA
  refine va_calli (va_runS (As := As) (rest := rest) (cells := n) (slots := k) ⟨hx, hb, hml, ho, hts⟩ (hM H.size) (va_cwS na hts (kc_app (own' := own) (by intro w hw; simp only [List.mem_cons, List.not_mem_nil, or_false] at hw; rcases hw with rfl | rfl | rfl <;> assumption) (kc_T hcode)) rfl hc'.1 hc'.2 hd hR) ⟨kPreS_blind sq sr g' As wc H.size, fun U hU hW => ⟨rfl, by rw [hU], by rw [hU]; exact kc_P hP, hE.warm hW, (kc_D hD).weaken (fun _ _ _ _ => trivial), by rw [hU]; exact hSt.mv hW hS.2.1 hF⟩⟩ rfl hna hl.1 rfl (lv_room hrest) d hcs) hS (fun q _ h => hF q h) hF ?_
  intro r w t H1 locs1 ht hvm hp hB hz hkk hS1
  obtain ⟨hP1, hD1⟩ := hB
  rw [ht] at hP1
  obtain ⟨hP2, hD2⟩ := kc_join hP hD hF hkk hP1 hD1
  exact K r w hp H1 locs1 ls hP2 hD2 hS1 hl
theorem ks_Sv (X : kX l g own cc nL R x) (S : kSx sq sr x) {P : va_W → Prop} (hM : kMvS sq sr l g y cc' nL' R' mc ms As wc P) (d : decode cc pc = .ok (.invokestatic ix, 3)) (hst : st = As.reverse ++ rest) (hw : ws.Perm (wc ++ wr)) (hcode : Cond.code y cc' nL' none ∈ kw_T) (hlink : Cond.methodLink own ix y ∈ kw_T) (hin : Cond.static y ∈ kw_T) (hini : Cond.initialized y.cls ∈ kw_T) (hd : y.cls ≠ "java/lang/invoke/MethodHandle" ∧ y.cls ≠ "java/lang/invoke/VarHandle" ∧ (parseMethodDescriptor y.desc).map (fun d => d.parameters.length) = some na) (hna : As.length = na) (hR : R'.frames + 1 ≤ R.frames ∧ 8 + (nL' + 11) + R'.locals ≤ R.locals) (hc' : R'.cells = mc ∧ R'.slots = ms) (hcs : n + mc ≤ R.cells ∧ k + ms ≤ R.slots) (hrest : (rest.map fun v => v.category).sum ≤ 8) (K : ∀ w, P w → kW x (n + mc) (k + ms) (pc + 3) lv rest (w ++ wr)) : kW x n k pc lv st ws := by
  obtain ⟨p, l', e, R', s, m, args, below, meth, c, g', A, H0, nL', Q⟩ := x
  obtain ⟨rfl, rfl, rfl, rfl, hx, hb, hml, ho, hts, hE, hA, hk⟩ := X
  obtain ⟨rfl, hSt⟩ := S
  subst hst
  refine fun H locs ls hP hD hS hl => ?_
  have hP := kw_P hw hP
  have hD := kw_D hw hD
  have hF := kc_free (D := g'.1) (cl := vwCl) hD hS hA
  refine va_callv (va_runS (As := As) (rest := rest) (cells := n) (slots := k) ⟨hx, hb, hml, ho, hts⟩ (hM H.size) (va_cwS na hts (kc_app (own' := own) (by intro w hw; simp only [List.mem_cons, List.not_mem_nil, or_false] at hw; rcases hw with rfl | rfl | rfl <;> assumption) (kc_T hcode)) rfl hc'.1 hc'.2 hd hR) ⟨kPreS_blind sq sr g' As wc H.size, fun U hU hW => ⟨rfl, by rw [hU], by rw [hU]; exact kc_P hP, hE.warm hW, (kc_D hD).weaken (fun _ _ _ _ => trivial), by rw [hU]; exact hSt.mv hW hS.2.1 hF⟩⟩ rfl hna hl.1 rfl (lv_room hrest) d hcs) hS (fun q _ h => hF q h) hF ?_
  intro w t H1 locs1 ht hvm hp hB hz hkk hS1
  obtain ⟨hP1, hD1⟩ := hB
  rw [ht] at hP1
  obtain ⟨hP2, hD2⟩ := kc_join hP hD hF hkk hP1 hD1
  exact K w hp H1 locs1 ls hP2 hD2 hS1 hl
theorem ks_Iv (X : kX l g own cc nL R x) (S : kSx sq sr x) {P : va_W → Prop} (hM : kMvS sq sr l g y cc' nL' R' mc ms (.ref b :: As) wc P) (d : decode cc pc = .ok (.invokespecial ix, 3)) (hst : st = As.reverse ++ .ref b :: rest) (hw : ws.Perm (wc ++ wr)) (hcode : Cond.code y cc' nL' none ∈ kw_T) (hlink : Cond.methodLink own ix y ∈ kw_T) (hin : Cond.instanceMethod y ∈ kw_T) (hini : Cond.initialized y.cls ∈ kw_T) (hnm : y.name = "<init>") (hd : y.cls ≠ "java/lang/invoke/MethodHandle" ∧ y.cls ≠ "java/lang/invoke/VarHandle" ∧ (parseMethodDescriptor y.desc).map (fun d => d.parameters.length) = some na) (hna : As.length = na) (hR : R'.frames + 1 ≤ R.frames ∧ 8 + (nL' + 11) + R'.locals ≤ R.locals) (hc' : R'.cells = mc ∧ R'.slots = ms) (hcs : n + mc ≤ R.cells ∧ k + ms ≤ R.slots) (hrest : (rest.map fun v => v.category).sum ≤ 8) (K : ∀ w, P w → kW x (n + mc) (k + ms) (pc + 3) lv rest (w ++ wr)) : kW x n k pc lv st ws := by
  obtain ⟨p, l', e, R', s, m, args, below, meth, c, g', A, H0, nL', Q⟩ := x
  obtain ⟨rfl, rfl, rfl, rfl, hx, hb, hml, ho, hts, hE, hA, hk⟩ := X
  obtain ⟨rfl, hSt⟩ := S
  subst hst
  refine fun H locs ls hP hD hS hl => ?_
  have hP := kw_P hw hP
  have hD := kw_D hw hD
  have hF := kc_free (D := g'.1) (cl := vwCl) hD hS hA
  refine va_callv (va_runI (As := As) (rest := rest) (cells := n) (slots := k) ⟨hx, hb, hml, ho, hts⟩ (hM H.size) (cwI na hts (kc_T hcode) rfl hc'.1 hc'.2 (hts _ hini) (hts _ hlink) (hts _ hin) hnm hd hR) ⟨kPreS_blind sq sr g' (.ref b :: As) wc H.size, fun U hU hW => ⟨rfl, by rw [hU], by rw [hU]; exact kc_P hP, hE.warm hW, (kc_D hD).weaken (fun _ _ _ _ => trivial), by rw [hU]; exact hSt.mv hW hS.2.1 hF⟩⟩ rfl hna hl.1 rfl (lv_room hrest) d hcs) hS (fun q _ h => hF q h) hF ?_
  intro w t H1 locs1 ht hvm hp hB hz hkk hS1
  obtain ⟨hP1, hD1⟩ := hB
  rw [ht] at hP1
  obtain ⟨hP2, hD2⟩ := kc_join hP hD hF hkk hP1 hD1
  exact K w hp H1 locs1 ls hP2 hD2 hS1 hl
end KSC
