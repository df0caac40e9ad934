/-! A judgement over lists alone: the frame's place, its locals, its stack, the world's cells; heap, locations and slots are bound away. -/
abbrev kw_G : Type := va_G × (Nat → ClassId)
def kw_ty (g : kw_G) : List (ClassId × FieldType) := [(g.2 0, .int), (g.2 1, .char), (g.2 2, .byte), (g.2 3, .boolean), (g.2 4, .object RX4)]
def kw_nest : List Cond := [.methodLinkNest RX5 9 yX3_init RX5, .methodLinkNest RX5 18 yX4_init RX5, .methodLinkNest RX1 28 yX4_init RX5, .methodLinkNest RX5 40 yX2_init RX5, .methodLinkNest RX0 40 yX4_init RX5, .methodLinkNest RX4 68 yX5_contains RX5, .methodLinkNest RX4 94 yX5_costOf RX5, .methodLinkNest RX4 52 yX5_areAlike RX5, .methodLinkNest RX5 200 yX0_tryAll RX5, .methodLinkNest RX0 66 yX5_contains RX5]
def kw_nestM (w : Cond) : Prop := ∃ a i y h, w = .methodLinkNest a i y h
theorem kw_nest_ok : ∀ w ∈ kw_nest, kw_nestM w := by
  intro w hw
  simp only [kw_nest, List.mem_cons, List.not_mem_nil, or_false] at hw
  rcases hw with rfl | rfl | rfl | rfl | rfl | rfl | rfl | rfl | rfl | rfl <;> exact ⟨_, _, _, _, rfl⟩
def kw_E (g : kw_G) (U : State) : Prop := va_K g.1 vwCl (kw_ty g) U ∧ (∀ w ∈ kw_nest, va_Nw w U) ∧ va_AO RX4 U
theorem kw_E.warm {g : kw_G} {s U : State} (hW : s.WarmedH U.vm) (h : kw_E g s) : kw_E g U := by
  refine ⟨va_K.moved hW.alike h.1, fun w hw => ?_, va_AO.moved hW.alike h.2.2⟩
  obtain ⟨a, i, y, t, rfl⟩ := kw_nest_ok w hw
  exact va_Nw.warmM hW (h.2.1 _ hw)
theorem kw_E.calling {g : kw_G} {U : State} {gf : JFrame} {mk : MethodId} {a : Array Value} (h : kw_E g U) : kw_E g (U.calling gf mk a) := by
  refine ⟨va_K.moved (u := U) (U := U.calling gf mk a) (Vm.Alike.refl U.vm) h.1, fun w hw => ?_, va_AO.moved (u := U) (U := U.calling gf mk a) (Vm.Alike.refl U.vm) h.2.2⟩
  obtain ⟨a, i, y, t, rfl⟩ := kw_nest_ok w hw
  exact va_Nw.same rfl (u := U) (U := U.calling gf mk _) rfl (h.2.1 _ hw)
/-- what stays the same in a method's body -/
abbrev kw_X : Type := Program × Launch × Env × Room × State × MethodId × Array Value × List Frame × Method × Code × kw_G × (Nat → Prop) × Heap × Nat × (State → Prop)
def kW (x : kw_X) (n k : Nat) (pc : Nat) (lv : List (Nat × Value)) (st : List Value) (ws : va_W) : Prop := match x with
  | (p, l, e, R, s, m, args, below, meth, c, g, A, H0, nL, Q) => ∀ (H : Heap) (locs : List Loc) (ls : Array Slot), va_P g.1 vwCl ws H → va_D A ws → va_S A H0 H locs → lv_has ls nL lv → W p l e R s m args below meth c H locs n k Q (F0 m pc ls st)
def kX (l : Launch) (g : kw_G) (own : String) (cc : ByteArray) (nL : Nat) (R : Room) (x : kw_X) : Prop := match x with
  | (p, l', _, R', s, m, args, _, meth, c, g', A, H0, nL', _) => l' = l ∧ R' = R ∧ g' = g ∧ nL' = nL ∧ p.tables.exec = Jvm.exec ∧ c.code = cc ∧ c.maxLocals = nL ∧ s.vm.findClass own = some m.cls ∧ (∀ w ∈ kw_T, w.before args s = true) ∧ kw_E g s ∧ (∀ q, H0.size ≤ q → A q) ∧ meth.locks = false
/-- the ends: an int (boolean, char ..), nothing -/
def kZi (ty : FieldType) (P : Int32 → va_W → Prop) (mc ms : Nat) (x : kw_X) : Prop := match x with
  | (_, _, _, _, s, _, args, below, meth, _, g, A, H0, _, Q) => meth.sig.returnType = some ty ∧ H0 = s.heap ∧ Q = MQ below (va_Qi (S := va_W) P (fun w t => va_P g.1 vwCl w t.heap ∧ va_D A w) A) args s mc ms A
def kZv (P : va_W → Prop) (mc ms : Nat) (x : kw_X) : Prop := match x with
  | (_, _, _, _, s, _, args, below, meth, _, g, A, H0, _, Q) => meth.sig.returnType = none ∧ H0 = s.heap ∧ Q = MQ below (va_Qv (S := va_W) P (fun w t => va_P g.1 vwCl w t.heap ∧ va_D A w) A) args s mc ms A
/-- a method's contract: its arguments, the world that it is given, what holds of the answer and of the world behind it -/
def kPre (g : kw_G) (av : List Value) (ws : va_W) (sz : Nat) : Array Value → State → Prop := va_Pc av (fun U => U.heap.size = sz ∧ va_P g.1 vwCl ws U.heap ∧ kw_E g U ∧ va_D (fun _ => True) ws)
def kMi (l : Launch) (g : kw_G) (y : MethodName) (cc : ByteArray) (nL : Nat) (ty : FieldType) (R : Room) (mc ms : Nat) (av : List Value) (ws : va_W) (P : Int32 → va_W → Prop) : Prop :=
  ∀ sz, Met l y (.code y cc nL (some ty) :: kw_T) R (kPre g av ws sz) (va_Qi (S := va_W) P (fun w t => va_P g.1 vwCl w t.heap ∧ va_D (va_A ws sz) w) (va_A ws sz)) mc ms (va_A ws sz)
def kMv (l : Launch) (g : kw_G) (y : MethodName) (cc : ByteArray) (nL : Nat) (R : Room) (mc ms : Nat) (av : List Value) (ws : va_W) (P : va_W → Prop) : Prop :=
  ∀ sz, Met l y (.code y cc nL none :: kw_T) R (kPre g av ws sz) (va_Qv (S := va_W) P (fun w t => va_P g.1 vwCl w t.heap ∧ va_D (va_A ws sz) w) (va_A ws sz)) mc ms (va_A ws sz)
theorem kPre_blind (g : kw_G) (av : List Value) (ws : va_W) (sz : Nat) : FrameBlind (kPre g av ws sz) := by
  intro a U gf mk h
  obtain ⟨rfl, h1, h2, h3, h4⟩ := h
  exact ⟨rfl, h1, h2, h3.calling, h4⟩
theorem kMi_of {l : Launch} {g : kw_G} {y : MethodName} {cc : ByteArray} {nL : Nat} {ty : FieldType} {R : Room} {mc ms : Nat} {av : List Value} {ws : va_W} {P : Int32 → va_W → Prop}
    (hy : plainFor y = true) (hlen : (lg_sl av).length ≤ nL) (body : ∀ x, kX l g y.cls cc nL R x → kZi ty P mc ms x → kW x 0 0 0 (lv_args 0 av) [] ws) : kMi l g y cc nL ty R mc ms av ws P := by
  intro sz
  refine va_MetF (cc := cc) (maxL := nL) (ret := some ty) hy rfl ?_
  intro p e s m args below meth c s₁ B hml hv
  obtain ⟨rfl, hsz, hP, hE, hD0⟩ := hv
  have hts := atoms_spec (ws := .code y cc nL (some ty) :: kw_T) B.pre
  have hown : s.vm.findClass y.cls = some m.cls := findClass_of_methodNamed B.named
  subst hsz
  have hD := hD0.self (sz := s.heap.size)
  have hl := lv_entry av (n := nL) hlen
  have key := body (p, l, e, (headSpec (.code y cc nL (some ty) :: kw_T) R).room, s, m, av.toArray, below, meth, c, g, va_A ws s.heap.size, s.heap, nL, _)
    ⟨rfl, rfl, rfl, rfl, B.exec, B.bytes, hml, hown, fun w hw => hts w (List.mem_cons_of_mem _ hw), hE, fun q h => Or.inr h, B.notSynchronized⟩ ⟨B.returns, rfl, rfl⟩
  rw [lg_entry_eq]
  exact key s.heap [] _ hP hD va_S.rf hl
theorem kMv_of {l : Launch} {g : kw_G} {y : MethodName} {cc : ByteArray} {nL : Nat} {R : Room} {mc ms : Nat} {av : List Value} {ws : va_W} {P : va_W → Prop}
    (hy : plainFor y = true) (hlen : (lg_sl av).length ≤ nL) (body : ∀ x, kX l g y.cls cc nL R x → kZv P mc ms x → kW x 0 0 0 (lv_args 0 av) [] ws) : kMv l g y cc nL R mc ms av ws P := by
  intro sz
  refine va_MetF (cc := cc) (maxL := nL) (ret := none) hy rfl ?_
  intro p e s m args below meth c s₁ B hml hv
  obtain ⟨rfl, hsz, hP, hE, hD0⟩ := hv
  have hts := atoms_spec (ws := .code y cc nL none :: kw_T) B.pre
  have hown : s.vm.findClass y.cls = some m.cls := findClass_of_methodNamed B.named
  subst hsz
  have hD := hD0.self (sz := s.heap.size)
  have hl := lv_entry av (n := nL) hlen
  have key := body (p, l, e, (headSpec (.code y cc nL none :: kw_T) R).room, s, m, av.toArray, below, meth, c, g, va_A ws s.heap.size, s.heap, nL, _)
    ⟨rfl, rfl, rfl, rfl, B.exec, B.bytes, hml, hown, fun w hw => hts w (List.mem_cons_of_mem _ hw), hE, fun q h => Or.inr h, B.notSynchronized⟩ ⟨B.returns, rfl, rfl⟩
  rw [lg_entry_eq]
  exact key s.heap [] _ hP hD va_S.rf hl
/-- names in kMi_of: the constructor's name is at hand -/
def kInit (x : kw_X) : Prop := match x with
  | (_, _, _, _, _, _, _, _, meth, _) => meth.name = "<init>"
theorem kMv_ofI {l : Launch} {g : kw_G} {y : MethodName} {cc : ByteArray} {nL : Nat} {R : Room} {mc ms : Nat} {av : List Value} {ws : va_W} {P : va_W → Prop}
    (hy : plainFor y = true) (hn : y.name = "<init>") (hlen : (lg_sl av).length ≤ nL) (body : ∀ x, kX l g y.cls cc nL R x → kZv P mc ms x → kInit x → kW x 0 0 0 (lv_args 0 av) [] ws) : kMv l g y cc nL R mc ms av ws P := by
  intro sz
  refine va_MetF (cc := cc) (maxL := nL) (ret := none) hy rfl ?_
  intro p e s m args below meth c s₁ B hml hv
  obtain ⟨rfl, hsz, hP, hE, hD0⟩ := hv
  have hts := atoms_spec (ws := .code y cc nL none :: kw_T) B.pre
  have hown : s.vm.findClass y.cls = some m.cls := findClass_of_methodNamed B.named
  have hin : meth.name = "<init>" := ((name_of_methodNamed B.named B.method).1).trans hn
  subst hsz
  have hD := hD0.self (sz := s.heap.size)
  have hl := lv_entry av (n := nL) hlen
  have key := body (p, l, e, (headSpec (.code y cc nL none :: kw_T) R).room, s, m, av.toArray, below, meth, c, g, va_A ws s.heap.size, s.heap, nL, _)
    ⟨rfl, rfl, rfl, rfl, B.exec, B.bytes, hml, hown, fun w hw => hts w (List.mem_cons_of_mem _ hw), hE, fun q h => Or.inr h, B.notSynchronized⟩ ⟨B.returns, rfl, rfl⟩ hin
  rw [lg_entry_eq]
  exact key s.heap [] _ hP hD va_S.rf hl
section KB
variable {x : kw_X} {l : Launch} {g : kw_G} {own : String} {cc : ByteArray} {nL : Nat} {R : Room} {n k pc : Nat} {lv lv' : List (Nat × Value)} {st : List Value} {ws ws' : va_W}
theorem kb_iadd (X : kX l g own cc nL R x) {a b : Int32} (d : decode cc pc = .ok (.iadd, 1)) (K : kW x n k (pc + 1) lv (.int (a + b) :: st) ws) : kW x n k pc lv (.int b :: .int a :: st) ws := by
  obtain ⟨p, l', e, R', s, m, args, below, meth, c, g', A, H0, nL', Q⟩ := x
  obtain ⟨rfl, rfl, rfl, rfl, hx, hb, hml, ho, hts, hE, hA, hk⟩ := X
  exact fun H locs ls hP hD hS hl => lv_iadd hx hb d (K H locs ls hP hD hS hl)
theorem kb_isub (X : kX l g own cc nL R x) {a b : Int32} (d : decode cc pc = .ok (.isub, 1)) (K : kW x n k (pc + 1) lv (.int (a - b) :: st) ws) : kW x n k pc lv (.int b :: .int a :: st) ws := by
  obtain ⟨p, l', e, R', s, m, args, below, meth, c, g', A, H0, nL', Q⟩ := x
  obtain ⟨rfl, rfl, rfl, rfl, hx, hb, hml, ho, hts, hE, hA, hk⟩ := X
  exact fun H locs ls hP hD hS hl => lv_isub hx hb d (K H locs ls hP hD hS hl)
theorem kb_imul (X : kX l g own cc nL R x) {a b : Int32} (d : decode cc pc = .ok (.imul, 1)) (K : kW x n k (pc + 1) lv (.int (a * b) :: st) ws) : kW x n k pc lv (.int b :: .int a :: st) ws := by
  obtain ⟨p, l', e, R', s, m, args, below, meth, c, g', A, H0, nL', Q⟩ := x
  obtain ⟨rfl, rfl, rfl, rfl, hx, hb, hml, ho, hts, hE, hA, hk⟩ := X
  exact fun H locs ls hP hD hS hl => lv_imul hx hb d (K H locs ls hP hD hS hl)
theorem kb_iand (X : kX l g own cc nL R x) {a b : Int32} (d : decode cc pc = .ok (.iand, 1)) (K : kW x n k (pc + 1) lv (.int (a &&& b) :: st) ws) : kW x n k pc lv (.int b :: .int a :: st) ws := by
  obtain ⟨p, l', e, R', s, m, args, below, meth, c, g', A, H0, nL', Q⟩ := x
  obtain ⟨rfl, rfl, rfl, rfl, hx, hb, hml, ho, hts, hE, hA, hk⟩ := X
  exact fun H locs ls hP hD hS hl => lv_iand hx hb d (K H locs ls hP hD hS hl)
theorem kb_ior (X : kX l g own cc nL R x) {a b : Int32} (d : decode cc pc = .ok (.ior, 1)) (K : kW x n k (pc + 1) lv (.int (a ||| b) :: st) ws) : kW x n k pc lv (.int b :: .int a :: st) ws := by
  obtain ⟨p, l', e, R', s, m, args, below, meth, c, g', A, H0, nL', Q⟩ := x
  obtain ⟨rfl, rfl, rfl, rfl, hx, hb, hml, ho, hts, hE, hA, hk⟩ := X
  exact fun H locs ls hP hD hS hl => lv_ior hx hb d (K H locs ls hP hD hS hl)
theorem kb_ixor (X : kX l g own cc nL R x) {a b : Int32} (d : decode cc pc = .ok (.ixor, 1)) (K : kW x n k (pc + 1) lv (.int (a ^^^ b) :: st) ws) : kW x n k pc lv (.int b :: .int a :: st) ws := by
  obtain ⟨p, l', e, R', s, m, args, below, meth, c, g', A, H0, nL', Q⟩ := x
  obtain ⟨rfl, rfl, rfl, rfl, hx, hb, hml, ho, hts, hE, hA, hk⟩ := X
  exact fun H locs ls hP hD hS hl => lv_ixor hx hb d (K H locs ls hP hD hS hl)
theorem kb_ishl (X : kX l g own cc nL R x) {a b : Int32} (d : decode cc pc = .ok (.ishl, 1)) (K : kW x n k (pc + 1) lv (.int (a <<< (b &&& 31)) :: st) ws) : kW x n k pc lv (.int b :: .int a :: st) ws := by
  obtain ⟨p, l', e, R', s, m, args, below, meth, c, g', A, H0, nL', Q⟩ := x
  obtain ⟨rfl, rfl, rfl, rfl, hx, hb, hml, ho, hts, hE, hA, hk⟩ := X
  exact fun H locs ls hP hD hS hl => lv_ishl hx hb d (K H locs ls hP hD hS hl)
theorem kb_ishr (X : kX l g own cc nL R x) {a b : Int32} (d : decode cc pc = .ok (.ishr, 1)) (K : kW x n k (pc + 1) lv (.int (a >>> (b &&& 31)) :: st) ws) : kW x n k pc lv (.int b :: .int a :: st) ws := by
  obtain ⟨p, l', e, R', s, m, args, below, meth, c, g', A, H0, nL', Q⟩ := x
  obtain ⟨rfl, rfl, rfl, rfl, hx, hb, hml, ho, hts, hE, hA, hk⟩ := X
  exact fun H locs ls hP hD hS hl => lv_ishr hx hb d (K H locs ls hP hD hS hl)
theorem kb_idiv (X : kX l g own cc nL R x) {a b : Int32} (d : decode cc pc = .ok (.idiv, 1)) (hne : ¬ b = 0) (K : kW x n k (pc + 1) lv (.int (a / b) :: st) ws) : kW x n k pc lv (.int b :: .int a :: st) ws := by
  obtain ⟨p, l', e, R', s, m, args, below, meth, c, g', A, H0, nL', Q⟩ := x
  obtain ⟨rfl, rfl, rfl, rfl, hx, hb, hml, ho, hts, hE, hA, hk⟩ := X
  exact fun H locs ls hP hD hS hl => lv_idiv hx hb d hne (K H locs ls hP hD hS hl)
theorem kb_irem (X : kX l g own cc nL R x) {a b : Int32} (d : decode cc pc = .ok (.irem, 1)) (hne : ¬ b = 0) (K : kW x n k (pc + 1) lv (.int (a - a / b * b) :: st) ws) : kW x n k pc lv (.int b :: .int a :: st) ws := by
  obtain ⟨p, l', e, R', s, m, args, below, meth, c, g', A, H0, nL', Q⟩ := x
  obtain ⟨rfl, rfl, rfl, rfl, hx, hb, hml, ho, hts, hE, hA, hk⟩ := X
  exact fun H locs ls hP hD hS hl => lv_irem hx hb d hne (K H locs ls hP hD hS hl)
theorem kb_ladd (X : kX l g own cc nL R x) {a b : Int64} (d : decode cc pc = .ok (.ladd, 1)) (K : kW x n k (pc + 1) lv (.long (a + b) :: st) ws) : kW x n k pc lv (.long b :: .long a :: st) ws := by
  obtain ⟨p, l', e, R', s, m, args, below, meth, c, g', A, H0, nL', Q⟩ := x
  obtain ⟨rfl, rfl, rfl, rfl, hx, hb, hml, ho, hts, hE, hA, hk⟩ := X
  exact fun H locs ls hP hD hS hl => lv_ladd hx hb d (K H locs ls hP hD hS hl)
theorem kb_lmul (X : kX l g own cc nL R x) {a b : Int64} (d : decode cc pc = .ok (.lmul, 1)) (K : kW x n k (pc + 1) lv (.long (a * b) :: st) ws) : kW x n k pc lv (.long b :: .long a :: st) ws := by
  obtain ⟨p, l', e, R', s, m, args, below, meth, c, g', A, H0, nL', Q⟩ := x
  obtain ⟨rfl, rfl, rfl, rfl, hx, hb, hml, ho, hts, hE, hA, hk⟩ := X
  exact fun H locs ls hP hD hS hl => lv_lmul hx hb d (K H locs ls hP hD hS hl)
theorem kb_lrem (X : kX l g own cc nL R x) {a b : Int64} (d : decode cc pc = .ok (.lrem, 1)) (hne : ¬ b = 0) (K : kW x n k (pc + 1) lv (.long (a - a / b * b) :: st) ws) : kW x n k pc lv (.long b :: .long a :: st) ws := by
  obtain ⟨p, l', e, R', s, m, args, below, meth, c, g', A, H0, nL', Q⟩ := x
  obtain ⟨rfl, rfl, rfl, rfl, hx, hb, hml, ho, hts, hE, hA, hk⟩ := X
  exact fun H locs ls hP hD hS hl => lv_lrem hx hb d hne (K H locs ls hP hD hS hl)
theorem kb_lcmp (X : kX l g own cc nL R x) {a b : Int64} (d : decode cc pc = .ok (.lcmp, 1)) (K : kW x n k (pc + 1) lv (.int (lg_cmp a b) :: st) ws) : kW x n k pc lv (.long b :: .long a :: st) ws := by
  obtain ⟨p, l', e, R', s, m, args, below, meth, c, g', A, H0, nL', Q⟩ := x
  obtain ⟨rfl, rfl, rfl, rfl, hx, hb, hml, ho, hts, hE, hA, hk⟩ := X
  exact fun H locs ls hP hD hS hl => W.lcmp hx hb d (K H locs ls hP hD hS hl)
theorem kb_iushr (X : kX l g own cc nL R x) {a b v : Int32} (d : decode cc pc = .ok (.iushr, 1)) (hv : (a.toUInt32 >>> (b.toUInt32 &&& Int32.toUInt32 31)).toInt32 = v) (K : kW x n k (pc + 1) lv (.int v :: st) ws) : kW x n k pc lv (.int b :: .int a :: st) ws := by
  obtain ⟨p, l', e, R', s, m, args, below, meth, c, g', A, H0, nL', Q⟩ := x
  obtain ⟨rfl, rfl, rfl, rfl, hx, hb, hml, ho, hts, hE, hA, hk⟩ := X
  exact fun H locs ls hP hD hS hl => lv_iushr hx hb d hv (K H locs ls hP hD hS hl)
theorem kb_i2l (X : kX l g own cc nL R x) {a : Int32} {v : Int64} (d : decode cc pc = .ok (.i2l, 1)) (hv : a.toInt64 = v) (K : kW x n k (pc + 1) lv (.long v :: st) ws) : kW x n k pc lv (.int a :: st) ws := by
  obtain ⟨p, l', e, R', s, m, args, below, meth, c, g', A, H0, nL', Q⟩ := x
  obtain ⟨rfl, rfl, rfl, rfl, hx, hb, hml, ho, hts, hE, hA, hk⟩ := X
  exact fun H locs ls hP hD hS hl => lv_i2l hx hb d hv (K H locs ls hP hD hS hl)
theorem kb_l2i (X : kX l g own cc nL R x) {a : Int64} {v : Int32} (d : decode cc pc = .ok (.l2i, 1)) (hv : a.toInt32 = v) (K : kW x n k (pc + 1) lv (.int v :: st) ws) : kW x n k pc lv (.long a :: st) ws := by
  obtain ⟨p, l', e, R', s, m, args, below, meth, c, g', A, H0, nL', Q⟩ := x
  obtain ⟨rfl, rfl, rfl, rfl, hx, hb, hml, ho, hts, hE, hA, hk⟩ := X
  exact fun H locs ls hP hD hS hl => lv_l2i hx hb d hv (K H locs ls hP hD hS hl)
theorem kb_i2b (X : kX l g own cc nL R x) {a v : Int32} (d : decode cc pc = .ok (.i2b, 1)) (hv : a.toInt8.toInt32 = v) (K : kW x n k (pc + 1) lv (.int v :: st) ws) : kW x n k pc lv (.int a :: st) ws := by
  obtain ⟨p, l', e, R', s, m, args, below, meth, c, g', A, H0, nL', Q⟩ := x
  obtain ⟨rfl, rfl, rfl, rfl, hx, hb, hml, ho, hts, hE, hA, hk⟩ := X
  exact fun H locs ls hP hD hS hl => lv_i2b hx hb d hv (K H locs ls hP hD hS hl)
theorem kb_i2c (X : kX l g own cc nL R x) {a v : Int32} (d : decode cc pc = .ok (.i2c, 1)) (hv : (a.toUInt32 % 65536).toInt32 = v) (K : kW x n k (pc + 1) lv (.int v :: st) ws) : kW x n k pc lv (.int a :: st) ws := by
  obtain ⟨p, l', e, R', s, m, args, below, meth, c, g', A, H0, nL', Q⟩ := x
  obtain ⟨rfl, rfl, rfl, rfl, hx, hb, hml, ho, hts, hE, hA, hk⟩ := X
  exact fun H locs ls hP hD hS hl => lv_i2c hx hb d hv (K H locs ls hP hD hS hl)
theorem kb_dup (X : kX l g own cc nL R x) {a : Value} (d : decode cc pc = .ok (.dup, 1)) (ha : a.category = 1) (K : kW x n k (pc + 1) lv (a :: a :: st) ws) : kW x n k pc lv (a :: st) ws := by
  obtain ⟨p, l', e, R', s, m, args, below, meth, c, g', A, H0, nL', Q⟩ := x
  obtain ⟨rfl, rfl, rfl, rfl, hx, hb, hml, ho, hts, hE, hA, hk⟩ := X
  exact fun H locs ls hP hD hS hl => lv_dup hx hb d ha (K H locs ls hP hD hS hl)
theorem kb_pop (X : kX l g own cc nL R x) {a : Value} (d : decode cc pc = .ok (.pop, 1)) (ha : a.category = 1) (K : kW x n k (pc + 1) lv st ws) : kW x n k pc lv (a :: st) ws := by
  obtain ⟨p, l', e, R', s, m, args, below, meth, c, g', A, H0, nL', Q⟩ := x
  obtain ⟨rfl, rfl, rfl, rfl, hx, hb, hml, ho, hts, hE, hA, hk⟩ := X
  exact fun H locs ls hP hD hS hl => lv_pop hx hb d ha (K H locs ls hP hD hS hl)
theorem kb_dup2 (X : kX l g own cc nL R x) {a b : Value} (d : decode cc pc = .ok (.dup2, 1)) (ha : a.category = 1) (hb' : b.category = 1) (K : kW x n k (pc + 1) lv (a :: b :: a :: b :: st) ws) : kW x n k pc lv (a :: b :: st) ws := by
  obtain ⟨p, l', e, R', s, m, args, below, meth, c, g', A, H0, nL', Q⟩ := x
  obtain ⟨rfl, rfl, rfl, rfl, hx, hb, hml, ho, hts, hE, hA, hk⟩ := X
  exact fun H locs ls hP hD hS hl => lv_dup2_11 hx hb d ha hb' (K H locs ls hP hD hS hl)
theorem kb_iconst (X : kX l g own cc nL R x) {z : Int} {v : Int32} (d : decode cc pc = .ok (.iconst z, 1)) (hv : Int32.ofInt z = v) (K : kW x n k (pc + 1) lv (.int v :: st) ws) : kW x n k pc lv st ws := by
  obtain ⟨p, l', e, R', s, m, args, below, meth, c, g', A, H0, nL', Q⟩ := x
  obtain ⟨rfl, rfl, rfl, rfl, hx, hb, hml, ho, hts, hE, hA, hk⟩ := X
  exact fun H locs ls hP hD hS hl => lv_iconst hx hb d hv (K H locs ls hP hD hS hl)
theorem kb_bipush (X : kX l g own cc nL R x) {z : Int} {v : Int32} (d : decode cc pc = .ok (.bipush z, 2)) (hv : (Int8.ofInt z).toInt32 = v) (K : kW x n k (pc + 2) lv (.int v :: st) ws) : kW x n k pc lv st ws := by
  obtain ⟨p, l', e, R', s, m, args, below, meth, c, g', A, H0, nL', Q⟩ := x
  obtain ⟨rfl, rfl, rfl, rfl, hx, hb, hml, ho, hts, hE, hA, hk⟩ := X
  exact fun H locs ls hP hD hS hl => lv_bipush hx hb d hv (K H locs ls hP hD hS hl)
theorem kb_sipush (X : kX l g own cc nL R x) {z : Int} {v : Int32} (d : decode cc pc = .ok (.sipush z, 3)) (hv : (Int16.ofInt z).toInt32 = v) (K : kW x n k (pc + 3) lv (.int v :: st) ws) : kW x n k pc lv st ws := by
  obtain ⟨p, l', e, R', s, m, args, below, meth, c, g', A, H0, nL', Q⟩ := x
  obtain ⟨rfl, rfl, rfl, rfl, hx, hb, hml, ho, hts, hE, hA, hk⟩ := X
  exact fun H locs ls hP hD hS hl => lv_sipush hx hb d hv (K H locs ls hP hD hS hl)
theorem kb_lconst (X : kX l g own cc nL R x) {z : Fin 2} {v : Int64} (d : decode cc pc = .ok (.lconst z, 1)) (hv : Int64.ofNat (z : Nat) = v) (K : kW x n k (pc + 1) lv (.long v :: st) ws) : kW x n k pc lv st ws := by
  obtain ⟨p, l', e, R', s, m, args, below, meth, c, g', A, H0, nL', Q⟩ := x
  obtain ⟨rfl, rfl, rfl, rfl, hx, hb, hml, ho, hts, hE, hA, hk⟩ := X
  exact fun H locs ls hP hD hS hl => lv_lconst hx hb d hv (K H locs ls hP hD hS hl)
theorem kb_iload_n (X : kX l g own cc nL R x) {j : Fin 4} {i : Nat} {v : Int32} (q : Nat) (d : decode cc pc = .ok (.iload_n j, 1)) (hi : (j : Nat) = i) (hq : lv[q]? = some (i, .int v)) (K : kW x n k (pc + 1) lv (.int v :: st) ws) : kW x n k pc lv st ws := by
  obtain ⟨p, l', e, R', s, m, args, below, meth, c, g', A, H0, nL', Q⟩ := x
  obtain ⟨rfl, rfl, rfl, rfl, hx, hb, hml, ho, hts, hE, hA, hk⟩ := X
  exact fun H locs ls hP hD hS hl => lv_iload_n hx hb d hi (lv_at hl q hq) (K H locs ls hP hD hS hl)
theorem kb_iload (X : kX l g own cc nL R x) {i : Nat} {v : Int32} (q : Nat) (d : decode cc pc = .ok (.iload i, 2)) (hq : lv[q]? = some (i, .int v)) (K : kW x n k (pc + 2) lv (.int v :: st) ws) : kW x n k pc lv st ws := by
  obtain ⟨p, l', e, R', s, m, args, below, meth, c, g', A, H0, nL', Q⟩ := x
  obtain ⟨rfl, rfl, rfl, rfl, hx, hb, hml, ho, hts, hE, hA, hk⟩ := X
  exact fun H locs ls hP hD hS hl => lv_iload hx hb d (lv_at hl q hq) (K H locs ls hP hD hS hl)
theorem kb_istore_n (X : kX l g own cc nL R x) {j : Fin 4} {i : Nat} {v : Int32} (ps : List Nat) (d : decode cc pc = .ok (.istore_n j, 1)) (hi : (j : Nat) = i) (hn : i < nL) (hp : lv_pick ((i, Value.int v) :: lv.filter (fun q => !(q.1 == i) && !(q.1 + 1 == i && q.2.category == 2))) ps = lv') (K : kW x n k (pc + 1) lv' st ws) : kW x n k pc lv (.int v :: st) ws := by
  obtain ⟨p, l', e, R', s, m, args, below, meth, c, g', A, H0, nL', Q⟩ := x
  obtain ⟨rfl, rfl, rfl, rfl, hx, hb, hml, ho, hts, hE, hA, hk⟩ := X
  exact fun H locs ls hP hD hS hl => lv_istore_n hx hb d hi hl hn rfl (fun ls' hl' => K H locs ls' hP hD hS (lv_sub hl' ps hp))
theorem kb_istore (X : kX l g own cc nL R x) {i : Nat} {v : Int32} (ps : List Nat) (d : decode cc pc = .ok (.istore i, 2)) (hn : i < nL) (hp : lv_pick ((i, Value.int v) :: lv.filter (fun q => !(q.1 == i) && !(q.1 + 1 == i && q.2.category == 2))) ps = lv') (K : kW x n k (pc + 2) lv' st ws) : kW x n k pc lv (.int v :: st) ws := by
  obtain ⟨p, l', e, R', s, m, args, below, meth, c, g', A, H0, nL', Q⟩ := x
  obtain ⟨rfl, rfl, rfl, rfl, hx, hb, hml, ho, hts, hE, hA, hk⟩ := X
  exact fun H locs ls hP hD hS hl => lv_istore hx hb d hl hn rfl (fun ls' hl' => K H locs ls' hP hD hS (lv_sub hl' ps hp))
theorem kb_aload_n (X : kX l g own cc nL R x) {j : Fin 4} {i : Nat} {v : Nat} (q : Nat) (d : decode cc pc = .ok (.aload_n j, 1)) (hi : (j : Nat) = i) (hq : lv[q]? = some (i, .ref v)) (K : kW x n k (pc + 1) lv (.ref v :: st) ws) : kW x n k pc lv st ws := by
  obtain ⟨p, l', e, R', s, m, args, below, meth, c, g', A, H0, nL', Q⟩ := x
  obtain ⟨rfl, rfl, rfl, rfl, hx, hb, hml, ho, hts, hE, hA, hk⟩ := X
  exact fun H locs ls hP hD hS hl => lv_aload_n hx hb d hi (lv_at hl q hq) (K H locs ls hP hD hS hl)
theorem kb_aload (X : kX l g own cc nL R x) {i : Nat} {v : Nat} (q : Nat) (d : decode cc pc = .ok (.aload i, 2)) (hq : lv[q]? = some (i, .ref v)) (K : kW x n k (pc + 2) lv (.ref v :: st) ws) : kW x n k pc lv st ws := by
  obtain ⟨p, l', e, R', s, m, args, below, meth, c, g', A, H0, nL', Q⟩ := x
  obtain ⟨rfl, rfl, rfl, rfl, hx, hb, hml, ho, hts, hE, hA, hk⟩ := X
  exact fun H locs ls hP hD hS hl => lv_aload hx hb d (lv_at hl q hq) (K H locs ls hP hD hS hl)
theorem kb_astore_n (X : kX l g own cc nL R x) {j : Fin 4} {i : Nat} {v : Nat} (ps : List Nat) (d : decode cc pc = .ok (.astore_n j, 1)) (hi : (j : Nat) = i) (hn : i < nL) (hp : lv_pick ((i, Value.ref v) :: lv.filter (fun q => !(q.1 == i) && !(q.1 + 1 == i && q.2.category == 2))) ps = lv') (K : kW x n k (pc + 1) lv' st ws) : kW x n k pc lv (.ref v :: st) ws := by
  obtain ⟨p, l', e, R', s, m, args, below, meth, c, g', A, H0, nL', Q⟩ := x
  obtain ⟨rfl, rfl, rfl, rfl, hx, hb, hml, ho, hts, hE, hA, hk⟩ := X
  exact fun H locs ls hP hD hS hl => lv_astore_n hx hb d hi hl hn rfl (fun ls' hl' => K H locs ls' hP hD hS (lv_sub hl' ps hp))
theorem kb_astore (X : kX l g own cc nL R x) {i : Nat} {v : Nat} (ps : List Nat) (d : decode cc pc = .ok (.astore i, 2)) (hn : i < nL) (hp : lv_pick ((i, Value.ref v) :: lv.filter (fun q => !(q.1 == i) && !(q.1 + 1 == i && q.2.category == 2))) ps = lv') (K : kW x n k (pc + 2) lv' st ws) : kW x n k pc lv (.ref v :: st) ws := by
  obtain ⟨p, l', e, R', s, m, args, below, meth, c, g', A, H0, nL', Q⟩ := x
  obtain ⟨rfl, rfl, rfl, rfl, hx, hb, hml, ho, hts, hE, hA, hk⟩ := X
  exact fun H locs ls hP hD hS hl => lv_astore hx hb d hl hn rfl (fun ls' hl' => K H locs ls' hP hD hS (lv_sub hl' ps hp))
theorem kb_lload_n (X : kX l g own cc nL R x) {j : Fin 4} {i : Nat} {v : Int64} (q : Nat) (d : decode cc pc = .ok (.lload_n j, 1)) (hi : (j : Nat) = i) (hq : lv[q]? = some (i, .long v)) (K : kW x n k (pc + 1) lv (.long v :: st) ws) : kW x n k pc lv st ws := by
  obtain ⟨p, l', e, R', s, m, args, below, meth, c, g', A, H0, nL', Q⟩ := x
  obtain ⟨rfl, rfl, rfl, rfl, hx, hb, hml, ho, hts, hE, hA, hk⟩ := X
  exact fun H locs ls hP hD hS hl => lv_lload_n hx hb d hi (lv_at hl q hq) (K H locs ls hP hD hS hl)
theorem kb_lload (X : kX l g own cc nL R x) {i : Nat} {v : Int64} (q : Nat) (d : decode cc pc = .ok (.lload i, 2)) (hq : lv[q]? = some (i, .long v)) (K : kW x n k (pc + 2) lv (.long v :: st) ws) : kW x n k pc lv st ws := by
  obtain ⟨p, l', e, R', s, m, args, below, meth, c, g', A, H0, nL', Q⟩ := x
  obtain ⟨rfl, rfl, rfl, rfl, hx, hb, hml, ho, hts, hE, hA, hk⟩ := X
  exact fun H locs ls hP hD hS hl => lv_lload hx hb d (lv_at hl q hq) (K H locs ls hP hD hS hl)
theorem kb_lstore_n (X : kX l g own cc nL R x) {j : Fin 4} {i : Nat} {v : Int64} (ps : List Nat) (d : decode cc pc = .ok (.lstore_n j, 1)) (hi : (j : Nat) = i) (hn : i + 1 < nL) (hp : lv_pick ((i, Value.long v) :: lv.filter (fun q => !(q.1 == i) && (!(q.1 == i + 1) && !(q.1 + 1 == i && q.2.category == 2)))) ps = lv') (K : kW x n k (pc + 1) lv' st ws) : kW x n k pc lv (.long v :: st) ws := by
  obtain ⟨p, l', e, R', s, m, args, below, meth, c, g', A, H0, nL', Q⟩ := x
  obtain ⟨rfl, rfl, rfl, rfl, hx, hb, hml, ho, hts, hE, hA, hk⟩ := X
  exact fun H locs ls hP hD hS hl => lv_lstore_n hx hb d hi hl hn rfl (fun ls' hl' => K H locs ls' hP hD hS (lv_sub hl' ps hp))
theorem kb_lstore (X : kX l g own cc nL R x) {i : Nat} {v : Int64} (ps : List Nat) (d : decode cc pc = .ok (.lstore i, 2)) (hn : i + 1 < nL) (hp : lv_pick ((i, Value.long v) :: lv.filter (fun q => !(q.1 == i) && (!(q.1 == i + 1) && !(q.1 + 1 == i && q.2.category == 2)))) ps = lv') (K : kW x n k (pc + 2) lv' st ws) : kW x n k pc lv (.long v :: st) ws := by
  obtain ⟨p, l', e, R', s, m, args, below, meth, c, g', A, H0, nL', Q⟩ := x
  obtain ⟨rfl, rfl, rfl, rfl, hx, hb, hml, ho, hts, hE, hA, hk⟩ := X
  exact fun H locs ls hP hD hS hl => lv_lstore hx hb d hl hn rfl (fun ls' hl' => K H locs ls' hP hD hS (lv_sub hl' ps hp))
theorem kb_iinc (X : kX l g own cc nL R x) {i : Nat} {z : Int} {v v' : Int32} (q : Nat) (ps : List Nat) (d : decode cc pc = .ok (.iinc i z, 3)) (hq : lv[q]? = some (i, .int v)) (hv : v + Int32.ofInt z = v') (hn : i < nL) (hp : lv_pick ((i, Value.int v') :: lv.filter (fun q => !(q.1 == i) && !(q.1 + 1 == i && q.2.category == 2))) ps = lv') (K : kW x n k (pc + 3) lv' st ws) : kW x n k pc lv st ws := by
  obtain ⟨p, l', e, R', s, m, args, below, meth, c, g', A, H0, nL', Q⟩ := x
  obtain ⟨rfl, rfl, rfl, rfl, hx, hb, hml, ho, hts, hE, hA, hk⟩ := X
  exact fun H locs ls hP hD hS hl => lv_iinc hx hb d hl hq hv hn rfl (fun ls' hl' => K H locs ls' hP hD hS (lv_sub hl' ps hp))
theorem kb_goto (X : kX l g own cc nL R x)  {z : Int} {tgt : Nat} (d : decode cc pc = .ok (.goto z, 3)) (ht : (pc : Int) + z = (tgt : Int)) (K : kW x n k tgt lv st ws) : kW x n k pc lv st ws := by
  obtain ⟨p, l', e, R', s, m, args, below, meth, c, g', A, H0, nL', Q⟩ := x
  obtain ⟨rfl, rfl, rfl, rfl, hx, hb, hml, ho, hts, hE, hA, hk⟩ := X
  exact fun H locs ls hP hD hS hl => lv_goto hx hb d ht (K H locs ls hP hD hS hl)
theorem kb_icmp_eq (X : kX l g own cc nL R x) {a b : Int32} {z : Int} {tgt : Nat} (d : decode cc pc = .ok (.if_icmp .eq z, 3)) (ht : (pc : Int) + z = (tgt : Int)) (kt : a = b → kW x n k tgt lv st ws) (kf : ¬ a = b → kW x n k (pc + 3) lv st ws) : kW x n k pc lv (.int b :: .int a :: st) ws := by
  obtain ⟨p, l', e, R', s, m, args, below, meth, c, g', A, H0, nL', Q⟩ := x
  obtain ⟨rfl, rfl, rfl, rfl, hx, hb, hml, ho, hts, hE, hA, hk⟩ := X
  exact fun H locs ls hP hD hS hl => lv_icmp_eq hx hb d ht (fun q => kt q H locs ls hP hD hS hl) (fun q => kf q H locs ls hP hD hS hl)
theorem kb_if_eq (X : kX l g own cc nL R x) {a : Int32} {z : Int} {tgt : Nat} (d : decode cc pc = .ok (.ifCond .eq z, 3)) (ht : (pc : Int) + z = (tgt : Int)) (kt : a = 0 → kW x n k tgt lv st ws) (kf : ¬ a = 0 → kW x n k (pc + 3) lv st ws) : kW x n k pc lv (.int a :: st) ws := by
  obtain ⟨p, l', e, R', s, m, args, below, meth, c, g', A, H0, nL', Q⟩ := x
  obtain ⟨rfl, rfl, rfl, rfl, hx, hb, hml, ho, hts, hE, hA, hk⟩ := X
  exact fun H locs ls hP hD hS hl => lv_if_eq hx hb d ht (fun q => kt q H locs ls hP hD hS hl) (fun q => kf q H locs ls hP hD hS hl)
theorem kn_icmp_eq (X : kX l g own cc nL R x) {a b : Nat} {z : Int} {tgt : Nat} (ha : a < 2147483648) (hb' : b < 2147483648) (d : decode cc pc = .ok (.if_icmp .eq z, 3)) (ht : (pc : Int) + z = (tgt : Int)) (kt : a = b → kW x n k tgt lv st ws) (kf : ¬ a = b → kW x n k (pc + 3) lv st ws) : kW x n k pc lv (.int (nI b) :: .int (nI a) :: st) ws := kb_icmp_eq X d ht (fun q => kt ((nI_eq ha hb').mp q)) (fun q => kf (fun z => q ((nI_eq ha hb').mpr z)))
theorem kb_icmp_ne (X : kX l g own cc nL R x) {a b : Int32} {z : Int} {tgt : Nat} (d : decode cc pc = .ok (.if_icmp .ne z, 3)) (ht : (pc : Int) + z = (tgt : Int)) (kt : ¬ a = b → kW x n k tgt lv st ws) (kf : a = b → kW x n k (pc + 3) lv st ws) : kW x n k pc lv (.int b :: .int a :: st) ws := by
  obtain ⟨p, l', e, R', s, m, args, below, meth, c, g', A, H0, nL', Q⟩ := x
  obtain ⟨rfl, rfl, rfl, rfl, hx, hb, hml, ho, hts, hE, hA, hk⟩ := X
  exact fun H locs ls hP hD hS hl => lv_icmp_ne hx hb d ht (fun q => kt q H locs ls hP hD hS hl) (fun q => kf q H locs ls hP hD hS hl)
theorem kb_if_ne (X : kX l g own cc nL R x) {a : Int32} {z : Int} {tgt : Nat} (d : decode cc pc = .ok (.ifCond .ne z, 3)) (ht : (pc : Int) + z = (tgt : Int)) (kt : ¬ a = 0 → kW x n k tgt lv st ws) (kf : a = 0 → kW x n k (pc + 3) lv st ws) : kW x n k pc lv (.int a :: st) ws := by
  obtain ⟨p, l', e, R', s, m, args, below, meth, c, g', A, H0, nL', Q⟩ := x
  obtain ⟨rfl, rfl, rfl, rfl, hx, hb, hml, ho, hts, hE, hA, hk⟩ := X
  exact fun H locs ls hP hD hS hl => lv_if_ne hx hb d ht (fun q => kt q H locs ls hP hD hS hl) (fun q => kf q H locs ls hP hD hS hl)
theorem kn_icmp_ne (X : kX l g own cc nL R x) {a b : Nat} {z : Int} {tgt : Nat} (ha : a < 2147483648) (hb' : b < 2147483648) (d : decode cc pc = .ok (.if_icmp .ne z, 3)) (ht : (pc : Int) + z = (tgt : Int)) (kt : ¬ a = b → kW x n k tgt lv st ws) (kf : a = b → kW x n k (pc + 3) lv st ws) : kW x n k pc lv (.int (nI b) :: .int (nI a) :: st) ws := kb_icmp_ne X d ht (fun q => kt (fun z => q ((nI_eq ha hb').mpr z))) (fun q => kf ((nI_eq ha hb').mp q))
theorem kb_icmp_lt (X : kX l g own cc nL R x) {a b : Int32} {z : Int} {tgt : Nat} (d : decode cc pc = .ok (.if_icmp .lt z, 3)) (ht : (pc : Int) + z = (tgt : Int)) (kt : a < b → kW x n k tgt lv st ws) (kf : ¬ a < b → kW x n k (pc + 3) lv st ws) : kW x n k pc lv (.int b :: .int a :: st) ws := by
  obtain ⟨p, l', e, R', s, m, args, below, meth, c, g', A, H0, nL', Q⟩ := x
  obtain ⟨rfl, rfl, rfl, rfl, hx, hb, hml, ho, hts, hE, hA, hk⟩ := X
  exact fun H locs ls hP hD hS hl => lv_icmp_lt hx hb d ht (fun q => kt q H locs ls hP hD hS hl) (fun q => kf q H locs ls hP hD hS hl)
theorem kb_if_lt (X : kX l g own cc nL R x) {a : Int32} {z : Int} {tgt : Nat} (d : decode cc pc = .ok (.ifCond .lt z, 3)) (ht : (pc : Int) + z = (tgt : Int)) (kt : a < 0 → kW x n k tgt lv st ws) (kf : ¬ a < 0 → kW x n k (pc + 3) lv st ws) : kW x n k pc lv (.int a :: st) ws := by
  obtain ⟨p, l', e, R', s, m, args, below, meth, c, g', A, H0, nL', Q⟩ := x
  obtain ⟨rfl, rfl, rfl, rfl, hx, hb, hml, ho, hts, hE, hA, hk⟩ := X
  exact fun H locs ls hP hD hS hl => lv_if_lt hx hb d ht (fun q => kt q H locs ls hP hD hS hl) (fun q => kf q H locs ls hP hD hS hl)
theorem kn_icmp_lt (X : kX l g own cc nL R x) {a b : Nat} {z : Int} {tgt : Nat} (ha : a < 2147483648) (hb' : b < 2147483648) (d : decode cc pc = .ok (.if_icmp .lt z, 3)) (ht : (pc : Int) + z = (tgt : Int)) (kt : a < b → kW x n k tgt lv st ws) (kf : b ≤ a → kW x n k (pc + 3) lv st ws) : kW x n k pc lv (.int (nI b) :: .int (nI a) :: st) ws := kb_icmp_lt X d ht (fun q => kt ((nI_ltI ha hb').mp q)) (fun q => kf (Nat.not_lt.mp (fun z => q ((nI_ltI ha hb').mpr z))))
theorem kb_icmp_ge (X : kX l g own cc nL R x) {a b : Int32} {z : Int} {tgt : Nat} (d : decode cc pc = .ok (.if_icmp .ge z, 3)) (ht : (pc : Int) + z = (tgt : Int)) (kt : b ≤ a → kW x n k tgt lv st ws) (kf : ¬ b ≤ a → kW x n k (pc + 3) lv st ws) : kW x n k pc lv (.int b :: .int a :: st) ws := by
  obtain ⟨p, l', e, R', s, m, args, below, meth, c, g', A, H0, nL', Q⟩ := x
  obtain ⟨rfl, rfl, rfl, rfl, hx, hb, hml, ho, hts, hE, hA, hk⟩ := X
  exact fun H locs ls hP hD hS hl => lv_icmp_ge hx hb d ht (fun q => kt q H locs ls hP hD hS hl) (fun q => kf q H locs ls hP hD hS hl)
theorem kb_if_ge (X : kX l g own cc nL R x) {a : Int32} {z : Int} {tgt : Nat} (d : decode cc pc = .ok (.ifCond .ge z, 3)) (ht : (pc : Int) + z = (tgt : Int)) (kt : 0 ≤ a → kW x n k tgt lv st ws) (kf : ¬ 0 ≤ a → kW x n k (pc + 3) lv st ws) : kW x n k pc lv (.int a :: st) ws := by
  obtain ⟨p, l', e, R', s, m, args, below, meth, c, g', A, H0, nL', Q⟩ := x
  obtain ⟨rfl, rfl, rfl, rfl, hx, hb, hml, ho, hts, hE, hA, hk⟩ := X
  exact fun H locs ls hP hD hS hl => lv_if_ge hx hb d ht (fun q => kt q H locs ls hP hD hS hl) (fun q => kf q H locs ls hP hD hS hl)
theorem kn_icmp_ge (X : kX l g own cc nL R x) {a b : Nat} {z : Int} {tgt : Nat} (ha : a < 2147483648) (hb' : b < 2147483648) (d : decode cc pc = .ok (.if_icmp .ge z, 3)) (ht : (pc : Int) + z = (tgt : Int)) (kt : b ≤ a → kW x n k tgt lv st ws) (kf : a < b → kW x n k (pc + 3) lv st ws) : kW x n k pc lv (.int (nI b) :: .int (nI a) :: st) ws := kb_icmp_ge X d ht (fun q => kt ((nI_leI hb' ha).mp q)) (fun q => kf (Nat.not_le.mp (fun z => q ((nI_leI hb' ha).mpr z))))
theorem kb_icmp_gt (X : kX l g own cc nL R x) {a b : Int32} {z : Int} {tgt : Nat} (d : decode cc pc = .ok (.if_icmp .gt z, 3)) (ht : (pc : Int) + z = (tgt : Int)) (kt : b < a → kW x n k tgt lv st ws) (kf : ¬ b < a → kW x n k (pc + 3) lv st ws) : kW x n k pc lv (.int b :: .int a :: st) ws := by
  obtain ⟨p, l', e, R', s, m, args, below, meth, c, g', A, H0, nL', Q⟩ := x
  obtain ⟨rfl, rfl, rfl, rfl, hx, hb, hml, ho, hts, hE, hA, hk⟩ := X
  exact fun H locs ls hP hD hS hl => lv_icmp_gt hx hb d ht (fun q => kt q H locs ls hP hD hS hl) (fun q => kf q H locs ls hP hD hS hl)
theorem kb_if_gt (X : kX l g own cc nL R x) {a : Int32} {z : Int} {tgt : Nat} (d : decode cc pc = .ok (.ifCond .gt z, 3)) (ht : (pc : Int) + z = (tgt : Int)) (kt : 0 < a → kW x n k tgt lv st ws) (kf : ¬ 0 < a → kW x n k (pc + 3) lv st ws) : kW x n k pc lv (.int a :: st) ws := by
  obtain ⟨p, l', e, R', s, m, args, below, meth, c, g', A, H0, nL', Q⟩ := x
  obtain ⟨rfl, rfl, rfl, rfl, hx, hb, hml, ho, hts, hE, hA, hk⟩ := X
  exact fun H locs ls hP hD hS hl => lv_if_gt hx hb d ht (fun q => kt q H locs ls hP hD hS hl) (fun q => kf q H locs ls hP hD hS hl)
theorem kn_icmp_gt (X : kX l g own cc nL R x) {a b : Nat} {z : Int} {tgt : Nat} (ha : a < 2147483648) (hb' : b < 2147483648) (d : decode cc pc = .ok (.if_icmp .gt z, 3)) (ht : (pc : Int) + z = (tgt : Int)) (kt : b < a → kW x n k tgt lv st ws) (kf : a ≤ b → kW x n k (pc + 3) lv st ws) : kW x n k pc lv (.int (nI b) :: .int (nI a) :: st) ws := kb_icmp_gt X d ht (fun q => kt ((nI_ltI hb' ha).mp q)) (fun q => kf (Nat.not_lt.mp (fun z => q ((nI_ltI hb' ha).mpr z))))
theorem kb_icmp_le (X : kX l g own cc nL R x) {a b : Int32} {z : Int} {tgt : Nat} (d : decode cc pc = .ok (.if_icmp .le z, 3)) (ht : (pc : Int) + z = (tgt : Int)) (kt : a ≤ b → kW x n k tgt lv st ws) (kf : ¬ a ≤ b → kW x n k (pc + 3) lv st ws) : kW x n k pc lv (.int b :: .int a :: st) ws := by
  obtain ⟨p, l', e, R', s, m, args, below, meth, c, g', A, H0, nL', Q⟩ := x
  obtain ⟨rfl, rfl, rfl, rfl, hx, hb, hml, ho, hts, hE, hA, hk⟩ := X
  exact fun H locs ls hP hD hS hl => lv_icmp_le hx hb d ht (fun q => kt q H locs ls hP hD hS hl) (fun q => kf q H locs ls hP hD hS hl)
theorem kb_if_le (X : kX l g own cc nL R x) {a : Int32} {z : Int} {tgt : Nat} (d : decode cc pc = .ok (.ifCond .le z, 3)) (ht : (pc : Int) + z = (tgt : Int)) (kt : a ≤ 0 → kW x n k tgt lv st ws) (kf : ¬ a ≤ 0 → kW x n k (pc + 3) lv st ws) : kW x n k pc lv (.int a :: st) ws := by
  obtain ⟨p, l', e, R', s, m, args, below, meth, c, g', A, H0, nL', Q⟩ := x
  obtain ⟨rfl, rfl, rfl, rfl, hx, hb, hml, ho, hts, hE, hA, hk⟩ := X
  exact fun H locs ls hP hD hS hl => lv_if_le hx hb d ht (fun q => kt q H locs ls hP hD hS hl) (fun q => kf q H locs ls hP hD hS hl)
theorem kn_icmp_le (X : kX l g own cc nL R x) {a b : Nat} {z : Int} {tgt : Nat} (ha : a < 2147483648) (hb' : b < 2147483648) (d : decode cc pc = .ok (.if_icmp .le z, 3)) (ht : (pc : Int) + z = (tgt : Int)) (kt : a ≤ b → kW x n k tgt lv st ws) (kf : b < a → kW x n k (pc + 3) lv st ws) : kW x n k pc lv (.int (nI b) :: .int (nI a) :: st) ws := kb_icmp_le X d ht (fun q => kt ((nI_leI ha hb').mp q)) (fun q => kf (Nat.not_le.mp (fun z => q ((nI_leI ha hb').mpr z))))
def zI (b : Bool) : Int32 := if b then 1 else 0
theorem zI_eq {b : Bool} : zI b = 0 ↔ b = false := by cases b <;> decide
theorem zI_t : zI true = 1 := rfl
theorem zI_f : zI false = 0 := rfl
theorem zI_p {c : Prop} [Decidable c] (h : c) : zI (decide c) = 1 := by rw [decide_eq_true h]; rfl
theorem zI_n {c : Prop} [Decidable c] (h : ¬ c) : zI (decide c) = 0 := by rw [decide_eq_false h]; rfl
theorem zI_nar (b : Bool) : narrow .boolean (.int (zI b)) = .int (zI b) := by cases b <;> rfl
theorem zI_vp (b : Bool) : vp_nar .boolean (zI b) = zI b := by cases b <;> rfl
theorem zI_fit (b : Bool) : fits .boolean (.int (zI b)) = true := by cases b <;> rfl
theorem kz_if_eq (X : kX l g own cc nL R x) {b : Bool} {z : Int} {tgt : Nat} (d : decode cc pc = .ok (.ifCond .eq z, 3)) (ht : (pc : Int) + z = (tgt : Int)) (kt : b = false → kW x n k tgt lv st ws) (kf : b = true → kW x n k (pc + 3) lv st ws) : kW x n k pc lv (.int (zI b) :: st) ws := kb_if_eq X d ht (fun q => kt (zI_eq.mp q)) (fun q => kf (by cases b <;> first | rfl | exact absurd rfl q))
theorem kz_if_ne (X : kX l g own cc nL R x) {b : Bool} {z : Int} {tgt : Nat} (d : decode cc pc = .ok (.ifCond .ne z, 3)) (ht : (pc : Int) + z = (tgt : Int)) (kt : b = true → kW x n k tgt lv st ws) (kf : b = false → kW x n k (pc + 3) lv st ws) : kW x n k pc lv (.int (zI b) :: st) ws := kb_if_ne X d ht (fun q => kt (by cases b <;> first | rfl | exact absurd rfl q)) (fun q => kf (zI_eq.mp q))
theorem kz_icmp_ne1 (X : kX l g own cc nL R x) {b : Bool} {z : Int} {tgt : Nat} (d : decode cc pc = .ok (.if_icmp .ne z, 3)) (ht : (pc : Int) + z = (tgt : Int)) (kt : b = false → kW x n k tgt lv st ws) (kf : b = true → kW x n k (pc + 3) lv st ws) : kW x n k pc lv (.int 1 :: .int (zI b) :: st) ws := kb_icmp_ne X d ht (fun q => kt (by cases b <;> first | rfl | exact absurd rfl q)) (fun q => kf (by cases b <;> first | rfl | exact absurd q (by decide)))
theorem kz_icmp_eq1 (X : kX l g own cc nL R x) {b : Bool} {z : Int} {tgt : Nat} (d : decode cc pc = .ok (.if_icmp .eq z, 3)) (ht : (pc : Int) + z = (tgt : Int)) (kt : b = true → kW x n k tgt lv st ws) (kf : b = false → kW x n k (pc + 3) lv st ws) : kW x n k pc lv (.int 1 :: .int (zI b) :: st) ws := kb_icmp_eq X d ht (fun q => kt (by cases b <;> first | rfl | exact absurd q (by decide))) (fun q => kf (by cases b <;> first | rfl | exact absurd rfl q))
theorem kn_iadd (X : kX l g own cc nL R x) (a b : Nat) (d : decode cc pc = .ok (.iadd, 1)) (K : kW x n k (pc + 1) lv (.int (nI (a + b)) :: st) ws) : kW x n k pc lv (.int (nI b) :: .int (nI a) :: st) ws := kb_iadd X d (by rw [nI_add]; exact K)
theorem kn_imul (X : kX l g own cc nL R x) (a b : Nat) (d : decode cc pc = .ok (.imul, 1)) (K : kW x n k (pc + 1) lv (.int (nI (a * b)) :: st) ws) : kW x n k pc lv (.int (nI b) :: .int (nI a) :: st) ws := kb_imul X d (by rw [pk_mul]; exact K)
theorem kn_isub (X : kX l g own cc nL R x) (a b : Nat) (h : b ≤ a) (d : decode cc pc = .ok (.isub, 1)) (K : kW x n k (pc + 1) lv (.int (nI (a - b)) :: st) ws) : kW x n k pc lv (.int (nI b) :: .int (nI a) :: st) ws := kb_isub X d (by rw [pk_sub h]; exact K)
theorem kn_idiv (X : kX l g own cc nL R x) (a b : Nat) (h0 : 0 < b) (ha : a < 2147483648) (hb' : b < 2147483648) (d : decode cc pc = .ok (.idiv, 1)) (K : kW x n k (pc + 1) lv (.int (nI (a / b)) :: st) ws) : kW x n k pc lv (.int (nI b) :: .int (nI a) :: st) ws := kb_idiv X d (nI_ne0 h0 hb') (by rw [pk_div ha h0 hb']; exact K)
theorem kn_irem (X : kX l g own cc nL R x) (a b : Nat) (h0 : 0 < b) (ha : a < 2147483648) (hb' : b < 2147483648) (d : decode cc pc = .ok (.irem, 1)) (K : kW x n k (pc + 1) lv (.int (nI (a % b)) :: st) ws) : kW x n k pc lv (.int (nI b) :: .int (nI a) :: st) ws := kb_irem X d (nI_ne0 h0 hb') (by rw [pk_rem ha h0 hb']; exact K)
theorem kw_top {a b : Value} (h : a = b) (K : kW x n k pc lv (b :: st) ws) : kW x n k pc lv (a :: st) ws := by rw [h]; exact K
theorem kw_top2 {a b z : Value} (h : a = b) (K : kW x n k pc lv (z :: b :: st) ws) : kW x n k pc lv (z :: a :: st) ws := by rw [h]; exact K
theorem kw_ws (h : ws = ws') (K : kW x n k pc lv st ws') : kW x n k pc lv st ws := by rw [h]; exact K
theorem kw_lv (h : lv = lv') (K : kW x n k pc lv' st ws) : kW x n k pc lv st ws := by rw [h]; exact K
theorem kw_to {st' : List Value} (K : kW x n k pc lv' st' ws') (h1 : lv = lv') (h2 : st = st') (h3 : ws = ws') : kW x n k pc lv st ws := by rw [h1, h2, h3]; exact K
theorem kw_lvs (ps : List Nat) (hp : lv_pick lv ps = lv') (K : kW x n k pc lv' st ws) : kW x n k pc lv st ws := by
  obtain ⟨p, l', e, R', s, m, args, below, meth, c, g', A, H0, nL', Q⟩ := x
  exact fun H locs ls hP hD hS hl => K H locs ls hP hD hS (lv_sub hl ps hp)
theorem kw_wide {n' k' : Nat} (h1 : n ≤ n') (h2 : k ≤ k') (K : kW x n' k' pc lv st ws) : kW x n k pc lv st ws := by
  obtain ⟨p, l', e, R', s, m, args, below, meth, c, g', A, H0, nL', Q⟩ := x
  exact fun H locs ls hP hD hS hl => W.widen h1 h2 (K H locs ls hP hD hS hl)
theorem kw_P {D : va_G} {cl : List vw_C} {H : Heap} (h : ws.Perm ws') (hP : va_P D cl ws H) : va_P D cl ws' H := by
  intro i q hq
  obtain ⟨j, hj⟩ := List.getElem?_of_mem (h.mem_iff.mpr (List.mem_of_getElem? hq))
  exact hP j q hj
theorem kw_nd {A : Nat → Prop} : va_D A ws ↔ (ws.map (·.1)).Pairwise (· ≠ ·) ∧ ∀ q ∈ ws, A q.1 := by
  constructor
  · intro h
    refine ⟨?_, fun q hq => ?_⟩
    · rw [List.pairwise_iff_getElem]
      intro i j hi hj hij he
      simp only [List.length_map] at hi hj
      simp only [List.getElem_map] at he
      have := h.1 i j ws[i] ws[j] (List.getElem?_eq_getElem hi) (List.getElem?_eq_getElem hj) he
      omega
    · obtain ⟨i, hi⟩ := List.getElem?_of_mem hq
      exact h.2 i q hi
  · intro h
    refine ⟨fun i j p q hp hq he => ?_, fun i q hq => h.2 q (List.mem_of_getElem? hq)⟩
    obtain ⟨hi, hpe⟩ := List.getElem?_eq_some_iff.mp hp
    obtain ⟨hj, hqe⟩ := List.getElem?_eq_some_iff.mp hq
    have hw := List.pairwise_iff_getElem.mp h.1
    rcases Nat.lt_trichotomy i j with c | c | c
    · have := hw i j (by simpa using hi) (by simpa using hj) c
      simp only [List.getElem_map, hpe, hqe] at this
      exact absurd he this
    · exact c
    · have := hw j i (by simpa using hj) (by simpa using hi) c
      simp only [List.getElem_map, hpe, hqe] at this
      exact absurd he.symm this
theorem kw_D {A : Nat → Prop} (h : ws.Perm ws') (hD : va_D A ws) : va_D A ws' := by
  rw [kw_nd] at hD ⊢
  exact ⟨((h.map (·.1)).pairwise_iff (fun q => Ne.symm q)).mp hD.1, fun q hq => hD.2 q (h.mem_iff.mpr hq)⟩
theorem kw_perm (h : ws.Perm ws') (K : kW x n k pc lv st ws') : kW x n k pc lv st ws := by
  obtain ⟨p, l', e, R', s, m, args, below, meth, c, g', A, H0, nL', Q⟩ := x
  exact fun H locs ls hP hD hS hl => K H locs ls (kw_P h hP) (kw_D h hD) hS hl
/-- a block of a world ahead of the others -/
theorem kw_pk (L : List va_W) (i : Nat) (h : i < L.length) : L.flatten.Perm (L[i] ++ (L.eraseIdx i).flatten) := by
  induction L generalizing i with
  | nil => simp at h
  | cons a L ih =>
    cases i with
    | zero => exact List.Perm.refl _
    | succ i =>
      have h' : i < L.length := by simpa using h
      simp only [List.flatten_cons, List.getElem_cons_succ, List.eraseIdx_cons_succ]
      refine (List.Perm.append_left a (ih i h')).trans ?_
      rw [← List.append_assoc, ← List.append_assoc]
      exact List.Perm.append_right _ List.perm_append_comm
theorem kw_pk2 (L : List va_W) (i j : Nat) (h : i < L.length) (h' : j < (L.eraseIdx i).length) : L.flatten.Perm ((L[i] ++ (L.eraseIdx i)[j]) ++ ((L.eraseIdx i).eraseIdx j).flatten) := by
  refine (kw_pk L i h).trans ?_
  rw [List.append_assoc]
  exact List.Perm.append_left _ (kw_pk _ j h')
theorem kw_pall (w : va_W) : w.Perm (w ++ []) := by rw [List.append_nil]
theorem kb_get (X : kX l g own cc nL R x) {C : String} {T : u_T} {N ci ix : Nat} {a : Nat} {fs : List Value} {v : Value} (hin : ∀ w ∈ u_ws C T N, w ∈ kw_T) (hc : vwCl[ci]? = some (C, T, N)) (q j : Nat) (he : ws[q]? = some (a, .inr (ci, fs))) (hj : j < N) (hl' : Cond.fieldLink own ix C (T j).2.1 (T j).2.2.1 ∈ kw_T) (hC : (T j).1 = C) (hv : fs[j]? = some v) (d : decode cc pc = .ok (.getfield ix, 3)) (K : kW x n k (pc + 3) lv (v :: st) ws) : kW x n k pc lv (.ref a :: st) ws := by
  obtain ⟨p, l', e, R', s, m, args, below, meth, c, g', A, H0, nL', Q⟩ := x
  obtain ⟨rfl, rfl, rfl, rfl, hx, hb, hml, ho, hts, hE, hA, hk⟩ := X
  exact fun H locs ls hP hD hS hl => va_get hx hb hts hin ho hE.1 hP q he hc j hj (hts _ hl') (fun y hy => by rw [hC] at hy; exact hy) hv d (K H locs ls hP hD hS hl)
theorem kb_put (X : kX l g own cc nL R x) {C : String} {T : u_T} {N ci ix : Nat} {a : Nat} {fs : List Value} {v : Value} {ty : FieldType} (hin : ∀ w ∈ u_ws C T N, w ∈ kw_T) (ty0 : Nat → FieldType) (hty : ∀ k, k < N → parseFieldDescriptor (T k).2.2.1 = some (ty0 k)) (hnm : ∀ a, a < N → ∀ b, b < N → a ≠ b → (T a).2.1 ≠ (T b).2.1) (hc : vwCl[ci]? = some (C, T, N)) (q j : Nat) (he : ws[q]? = some (a, .inr (ci, fs))) (hj : j < N) (hl' : Cond.fieldLink own ix C (T j).2.1 (T j).2.2.1 ∈ kw_T) (hC : (T j).1 = C) (hfin : (T j).2.2.2 = false) (hd : parseFieldDescriptor (T j).2.2.1 = some ty) (hn : narrow ty v = v) (hf : fits ty v = true) (hlen : j < fs.length) (d : decode cc pc = .ok (.putfield ix, 3)) (hw : ws.set q (a, .inr (ci, fs.set j v)) = ws') (K : kW x n k (pc + 3) lv st ws') : kW x n k pc lv (v :: .ref a :: st) ws := by
  obtain ⟨p, l', e, R', s, m, args, below, meth, c, g', A, H0, nL', Q⟩ := x
  obtain ⟨rfl, rfl, rfl, rfl, hx, hb, hml, ho, hts, hE, hA, hk⟩ := X
  subst hw
  exact fun H locs ls hP hD hS hl => va_put hx hb hts hin ty0 hty hnm ho hE.1 hP hD hS q he hc j hj (hts _ hl') (fun y hy => by rw [hC] at hy; exact hy) hfin hd hn hf hlen d (fun H1 locs1 hP1 hD1 hS1 => K H1 locs1 ls hP1 hD1 hS1 hl)
theorem kb_putF (X : kX l g own cc nL R x) (hI : kInit x) {C : String} {T : u_T} {N ci ix : Nat} {a : Nat} {fs : List Value} {v : Value} {ty : FieldType} (hin : ∀ w ∈ u_ws C T N, w ∈ kw_T) (ty0 : Nat → FieldType) (hty : ∀ k, k < N → parseFieldDescriptor (T k).2.2.1 = some (ty0 k)) (hnm : ∀ a, a < N → ∀ b, b < N → a ≠ b → (T a).2.1 ≠ (T b).2.1) (hc : vwCl[ci]? = some (C, T, N)) (q j : Nat) (he : ws[q]? = some (a, .inr (ci, fs))) (hj : j < N) (hl' : Cond.fieldLink own ix C (T j).2.1 (T j).2.2.1 ∈ kw_T) (hC : (T j).1 = C) (hfin : (T j).2.2.2 = true) (hown : (T j).1 = own) (hd : parseFieldDescriptor (T j).2.2.1 = some ty) (hn : narrow ty v = v) (hf : fits ty v = true) (hlen : j < fs.length) (d : decode cc pc = .ok (.putfield ix, 3)) (hw : ws.set q (a, .inr (ci, fs.set j v)) = ws') (K : kW x n k (pc + 3) lv st ws') : kW x n k pc lv (v :: .ref a :: st) ws := by
  obtain ⟨p, l', e, R', s, m, args, below, meth, c, g', A, H0, nL', Q⟩ := x
  obtain ⟨rfl, rfl, rfl, rfl, hx, hb, hml, ho, hts, hE, hA, hk⟩ := X
  subst hw
  exact fun H locs ls hP hD hS hl => va_putF hx hb hts hin ty0 hty hnm ho hE.1 hP hD hS q he hc j hj (hts _ hl') (fun y hy => by rw [hC] at hy; exact hy) hfin hI hown hd hn hf hlen d (fun H1 locs1 hP1 hD1 hS1 => K H1 locs1 ls hP1 hD1 hS1 hl)
theorem kw_ix {i N : Nat} (h : i < N) (hN : N < 2147483648) : vp_in (nI i) N := vp_in_nI h hN
theorem kw_cl {i N : Nat} (h : i < N) (hN : N < 2147483648) : (nI i).toNatClampNeg = i := nI_clamp (Nat.lt_trans h hN)
theorem kb_iald (X : kX l g own cc nL R x) {a N i : Nat} {f : Nat → Int32} (q : Nat) (ha : ws[q]? = some (a, .inl (g.2 0, N, .inl f))) (hi : i < N) (hN : N < 2147483648) (d : decode cc pc = .ok (.iaload, 1)) (K : kW x n k (pc + 1) lv (.int (f i) :: st) ws) : kW x n k pc lv (.int (nI i) :: .ref a :: st) ws := by
  obtain ⟨p, l', e, R', s, m, args, below, meth, c, g', A, H0, nL', Q⟩ := x
  obtain ⟨rfl, rfl, rfl, rfl, hx, hb, hml, ho, hts, hE, hA, hk⟩ := X
  exact fun H locs ls hP hD hS hl => va_iald hx hb hE.1 hP q 0 ha rfl (kw_ix hi hN) d (by rw [kw_cl hi hN]; exact K H locs ls hP hD hS hl)
theorem kb_iast (X : kX l g own cc nL R x) {a N i : Nat} {f : Nat → Int32} {v : Int32} (q : Nat) (ha : ws[q]? = some (a, .inl (g.2 0, N, .inl f))) (hi : i < N) (hN : N < 2147483648) (d : decode cc pc = .ok (.iastore, 1)) (hw : ws.set q (a, .inl (g.2 0, N, .inl (upd f i (v)))) = ws') (K : kW x n k (pc + 1) lv st ws') : kW x n k pc lv (.int v :: .int (nI i) :: .ref a :: st) ws := by
  obtain ⟨p, l', e, R', s, m, args, below, meth, c, g', A, H0, nL', Q⟩ := x
  obtain ⟨rfl, rfl, rfl, rfl, hx, hb, hml, ho, hts, hE, hA, hk⟩ := X
  subst hw
  refine fun H locs ls hP hD hS hl => va_iast hx hb hE.1 hP hD hS q 0 ha rfl (kw_ix hi hN) d (fun H1 locs1 hP1 hD1 hS1 => ?_)
  rw [kw_cl hi hN] at hP1 hD1
  exact K H1 locs1 ls hP1 hD1 hS1 hl
theorem kb_cald (X : kX l g own cc nL R x) {a N i : Nat} {f : Nat → Int32} (q : Nat) (ha : ws[q]? = some (a, .inl (g.2 1, N, .inl f))) (hi : i < N) (hN : N < 2147483648) (d : decode cc pc = .ok (.caload, 1)) (K : kW x n k (pc + 1) lv (.int (f i) :: st) ws) : kW x n k pc lv (.int (nI i) :: .ref a :: st) ws := by
  obtain ⟨p, l', e, R', s, m, args, below, meth, c, g', A, H0, nL', Q⟩ := x
  obtain ⟨rfl, rfl, rfl, rfl, hx, hb, hml, ho, hts, hE, hA, hk⟩ := X
  exact fun H locs ls hP hD hS hl => va_cald hx hb hE.1 hP q 1 ha rfl (kw_ix hi hN) d (by rw [kw_cl hi hN]; exact K H locs ls hP hD hS hl)
theorem kb_cast (X : kX l g own cc nL R x) {a N i : Nat} {f : Nat → Int32} {v : Int32} (q : Nat) (ha : ws[q]? = some (a, .inl (g.2 1, N, .inl f))) (hi : i < N) (hN : N < 2147483648) (d : decode cc pc = .ok (.castore, 1)) (hw : ws.set q (a, .inl (g.2 1, N, .inl (upd f i (vp_nar .char v)))) = ws') (K : kW x n k (pc + 1) lv st ws') : kW x n k pc lv (.int v :: .int (nI i) :: .ref a :: st) ws := by
  obtain ⟨p, l', e, R', s, m, args, below, meth, c, g', A, H0, nL', Q⟩ := x
  obtain ⟨rfl, rfl, rfl, rfl, hx, hb, hml, ho, hts, hE, hA, hk⟩ := X
  subst hw
  refine fun H locs ls hP hD hS hl => va_cast hx hb hE.1 hP hD hS q 1 ha rfl (kw_ix hi hN) d (fun H1 locs1 hP1 hD1 hS1 => ?_)
  rw [kw_cl hi hN] at hP1 hD1
  exact K H1 locs1 ls hP1 hD1 hS1 hl
theorem kb_bald (X : kX l g own cc nL R x) {a N i : Nat} {f : Nat → Int32} (q : Nat) (ha : ws[q]? = some (a, .inl (g.2 2, N, .inl f))) (hi : i < N) (hN : N < 2147483648) (d : decode cc pc = .ok (.baload, 1)) (K : kW x n k (pc + 1) lv (.int (f i) :: st) ws) : kW x n k pc lv (.int (nI i) :: .ref a :: st) ws := by
  obtain ⟨p, l', e, R', s, m, args, below, meth, c, g', A, H0, nL', Q⟩ := x
  obtain ⟨rfl, rfl, rfl, rfl, hx, hb, hml, ho, hts, hE, hA, hk⟩ := X
  exact fun H locs ls hP hD hS hl => va_bald hx hb hE.1 hP q 2 ha rfl (kw_ix hi hN) d (by rw [kw_cl hi hN]; exact K H locs ls hP hD hS hl)
theorem kb_bast (X : kX l g own cc nL R x) {a N i : Nat} {f : Nat → Int32} {v : Int32} (q : Nat) (ha : ws[q]? = some (a, .inl (g.2 2, N, .inl f))) (hi : i < N) (hN : N < 2147483648) (d : decode cc pc = .ok (.bastore, 1)) (hw : ws.set q (a, .inl (g.2 2, N, .inl (upd f i (vp_nar .byte v)))) = ws') (K : kW x n k (pc + 1) lv st ws') : kW x n k pc lv (.int v :: .int (nI i) :: .ref a :: st) ws := by
  obtain ⟨p, l', e, R', s, m, args, below, meth, c, g', A, H0, nL', Q⟩ := x
  obtain ⟨rfl, rfl, rfl, rfl, hx, hb, hml, ho, hts, hE, hA, hk⟩ := X
  subst hw
  refine fun H locs ls hP hD hS hl => va_bast hx hb hE.1 hP hD hS q 2 ha rfl (kw_ix hi hN) d (fun H1 locs1 hP1 hD1 hS1 => ?_)
  rw [kw_cl hi hN] at hP1 hD1
  exact K H1 locs1 ls hP1 hD1 hS1 hl
theorem kb_zald (X : kX l g own cc nL R x) {a N i : Nat} {f : Nat → Int32} (q : Nat) (ha : ws[q]? = some (a, .inl (g.2 3, N, .inl f))) (hi : i < N) (hN : N < 2147483648) (d : decode cc pc = .ok (.baload, 1)) (K : kW x n k (pc + 1) lv (.int (f i) :: st) ws) : kW x n k pc lv (.int (nI i) :: .ref a :: st) ws := by
  obtain ⟨p, l', e, R', s, m, args, below, meth, c, g', A, H0, nL', Q⟩ := x
  obtain ⟨rfl, rfl, rfl, rfl, hx, hb, hml, ho, hts, hE, hA, hk⟩ := X
  exact fun H locs ls hP hD hS hl => va_zald hx hb hE.1 hP q 3 ha rfl (kw_ix hi hN) d (by rw [kw_cl hi hN]; exact K H locs ls hP hD hS hl)
theorem kb_zast (X : kX l g own cc nL R x) {a N i : Nat} {f : Nat → Int32} {v : Int32} (q : Nat) (ha : ws[q]? = some (a, .inl (g.2 3, N, .inl f))) (hi : i < N) (hN : N < 2147483648) (d : decode cc pc = .ok (.bastore, 1)) (hw : ws.set q (a, .inl (g.2 3, N, .inl (upd f i (vp_nar .boolean v)))) = ws') (K : kW x n k (pc + 1) lv st ws') : kW x n k pc lv (.int v :: .int (nI i) :: .ref a :: st) ws := by
  obtain ⟨p, l', e, R', s, m, args, below, meth, c, g', A, H0, nL', Q⟩ := x
  obtain ⟨rfl, rfl, rfl, rfl, hx, hb, hml, ho, hts, hE, hA, hk⟩ := X
  subst hw
  refine fun H locs ls hP hD hS hl => va_zast hx hb hE.1 hP hD hS q 3 ha rfl (kw_ix hi hN) d (fun H1 locs1 hP1 hD1 hS1 => ?_)
  rw [kw_cl hi hN] at hP1 hD1
  exact K H1 locs1 ls hP1 hD1 hS1 hl
theorem kb_qald (X : kX l g own cc nL R x) {a N i : Nat} {f : Nat → Option Nat} {b : Nat} (q : Nat) (ha : ws[q]? = some (a, .inl (g.2 4, N, .inr (.inr (.inr (.inr f)))))) (hi : i < N) (hN : N < 2147483648) (hf : f i = some b) (d : decode cc pc = .ok (.aaload, 1)) (K : kW x n k (pc + 1) lv (.ref b :: st) ws) : kW x n k pc lv (.int (nI i) :: .ref a :: st) ws := by
  obtain ⟨p, l', e, R', s, m, args, below, meth, c, g', A, H0, nL', Q⟩ := x
  obtain ⟨rfl, rfl, rfl, rfl, hx, hb, hml, ho, hts, hE, hA, hk⟩ := X
  exact fun H locs ls hP hD hS hl => va_aldq hx hb hE.1 hP q 4 ha rfl (kw_ix hi hN) d (by rw [kw_cl hi hN, hf]; exact K H locs ls hP hD hS hl)
theorem kb_qast (X : kX l g own cc nL R x) {a N i v ci : Nat} {vs : List Value} {f : Nat → Option Nat} (q qv : Nat) (ha : ws[q]? = some (a, .inl (g.2 4, N, .inr (.inr (.inr (.inr f)))))) (hv : ws[qv]? = some (v, .inr (4, vs))) (hi : i < N) (hN : N < 2147483648) (d : decode cc pc = .ok (.aastore, 1)) (hw : ws.set q (a, .inl (g.2 4, N, .inr (.inr (.inr (.inr (va_up f i (some v))))))) = ws') (K : kW x n k (pc + 1) lv st ws') : kW x n k pc lv (.ref v :: .int (nI i) :: .ref a :: st) ws := by
  obtain ⟨p, l', e, R', s, m, args, below, meth, c, g', A, H0, nL', Q⟩ := x
  obtain ⟨rfl, rfl, rfl, rfl, hx, hb, hml, ho, hts, hE, hA, hk⟩ := X
  subst hw
  refine fun H locs ls hP hD hS hl => va_astq (r := (RX4, TX4, 11)) hx hb hE.1 hP hD hS q 4 qv 4 ha rfl hv rfl (kw_ix hi hN) d (fun H1 locs1 hP1 hD1 hS1 => ?_)
  rw [kw_cl hi hN] at hP1 hD1
  exact K H1 locs1 ls hP1 hD1 hS1 hl
theorem kb_alen (X : kX l g own cc nL R x) {a : Nat} {ar : vp_A} {cA : ClassId} {ty : FieldType} {v : Int32} (q t : Nat) (ha : ws[q]? = some (a, .inl (cA, ar))) (ht : (kw_ty g)[t]? = some (cA, ty)) (hv : Int32.ofNat ar.1 = v) (d : decode cc pc = .ok (.arraylength, 1)) (K : kW x n k (pc + 1) lv (.int v :: st) ws) : kW x n k pc lv (.ref a :: st) ws := by
  obtain ⟨p, l', e, R', s, m, args, below, meth, c, g', A, H0, nL', Q⟩ := x
  obtain ⟨rfl, rfl, rfl, rfl, hx, hb, hml, ho, hts, hE, hA, hk⟩ := X
  exact fun H locs ls hP hD hS hl => va_alen hx hb hE.1 hP q t ha ht hv d (K H locs ls hP hD hS hl)
theorem kb_ldc2 (X : kX l g own cc nL R x) {ix : Nat} {v : Int64} (hc : Cond.constantLong own ix v ∈ kw_T) (d : decode cc pc = .ok (.ldc2_w ix, 3)) (K : kW x n k (pc + 3) lv (.long v :: st) ws) : kW x n k pc lv st ws := by
  obtain ⟨p, l', e, R', s, m, args, below, meth, c, g', A, H0, nL', Q⟩ := x
  obtain ⟨rfl, rfl, rfl, rfl, hx, hb, hml, ho, hts, hE, hA, hk⟩ := X
  exact fun H locs ls hP hD hS hl => lv_ldc2 hx hb ho (hts _ hc) d (K H locs ls hP hD hS hl)
theorem kb_ldcw (X : kX l g own cc nL R x) {ix : Nat} {v : Int32} (hc : Cond.constant own ix v ∈ kw_T) (d : decode cc pc = .ok (.ldc_w ix, 3)) (K : kW x n k (pc + 3) lv (.int v :: st) ws) : kW x n k pc lv st ws := by
  obtain ⟨p, l', e, R', s, m, args, below, meth, c, g', A, H0, nL', Q⟩ := x
  obtain ⟨rfl, rfl, rfl, rfl, hx, hb, hml, ho, hts, hE, hA, hk⟩ := X
  exact fun H locs ls hP hD hS hl => lv_ldcw hx hb ho (hts _ hc) d (K H locs ls hP hD hS hl)
theorem kb_acpy (X : kX l g own cc nL R x) {ix : Nat} {a b N0 N1 s0 d0 m0 : Nat} {f h : Nat → Int32} (q0 q1 : Nat) (h0 : ws[q0]? = some (a, .inl (g.2 0, N0, .inl f))) (h1 : ws[q1]? = some (b, .inl (g.2 0, N1, .inl h))) (hl' : Cond.methodLink own ix arraycopyName ∈ kw_T) (hs : s0 + m0 ≤ N0) (hd : d0 + m0 ≤ N1) (hN0 : N0 < 2147483648) (hN1 : N1 < 2147483648) (hini : Cond.initialized "java/lang/System" ∈ kw_T) (hfr : 1 ≤ R.frames) (hlo : (st.map fun v => v.category).sum + (nativeFrameWords "java/lang/System" "arraycopy" 5 + 11) ≤ R.locals) (d : decode cc pc = .ok (.invokestatic ix, 3)) (hw : ws.set q1 (b, .inl (g.2 0, N1, .inl (va_cpy f h s0 d0 m0))) = ws') (K : kW x n k (pc + 3) lv st ws') : kW x n k pc lv (.int (nI m0) :: .int (nI d0) :: .ref b :: .int (nI s0) :: .ref a :: st) ws := by
  obtain ⟨p, l', e, R', s, m, args, below, meth, c, g', A, H0, nL', Q⟩ := x
  obtain ⟨rfl, rfl, rfl, rfl, hx, hb, hml, ho, hts, hE, hA, hk⟩ := X
  subst hw
  have e0 : (nI s0).toNatClampNeg = s0 := nI_clamp (by omega)
  have e1 : (nI d0).toNatClampNeg = d0 := nI_clamp (by omega)
  have e2 : (nI m0).toNatClampNeg = m0 := nI_clamp (by omega)
  refine fun H locs ls hP hD hS hl => va_copyi hx hb (hml.trans hl.1.symm) ho (hts _ hl') (hts _ mn_acp) (hts _ ms_acp) (hts _ hini) hE.1 hP hD hS q0 q1 0 0 h0 h1 rfl rfl rfl (nI_pos (by omega)) (nI_pos (by omega)) (nI_pos (by omega)) (by rw [e0, e2]; exact hs) (by rw [e1, e2]; exact hd) (fun _ _ => rfl) hfr hlo d (fun H1 locs1 hP1 hD1 hS1 => ?_)
  rw [e0, e1, e2] at hP1 hD1
  exact K H1 locs1 ls hP1 hD1 hS1 hl
theorem ke_i (X : kX l g own cc nL R x) {v : Int32} {P : Int32 → va_W → Prop} (Z : kZi .int P n k x) (d : decode cc pc = .ok (.ireturn, 1)) (h : P v ws) : kW x n k pc lv [.int v] ws := by
  obtain ⟨p, l', e, R', s, m, args, below, meth, c, g', A, H0, nL', Q⟩ := x
  obtain ⟨rfl, rfl, rfl, rfl, hx, hb, hml, ho, hts, hE, hA, hk⟩ := X
  obtain ⟨hr, rfl, rfl⟩ := Z
  exact fun H locs ls hP hD hS hl => W.iret hx hb hr (fun t ht hW => ⟨⟨v, ws, rfl, h, by rw [ht]; exact hP, hD⟩, hS.F ht⟩) hS.2.2 d hk
theorem ke_z (X : kX l g own cc nL R x) {v : Int32} {ty : FieldType} {P : Int32 → va_W → Prop} (Z : kZi ty P n k x) (hn : narrow ty (.int v) = .int v) (d : decode cc pc = .ok (.ireturn, 1)) (h : P v ws) : kW x n k pc lv [.int v] ws := by
  obtain ⟨p, l', e, R', s, m, args, below, meth, c, g', A, H0, nL', Q⟩ := x
  obtain ⟨rfl, rfl, rfl, rfl, hx, hb, hml, ho, hts, hE, hA, hk⟩ := X
  obtain ⟨hr, rfl, rfl⟩ := Z
  exact fun H locs ls hP hD hS hl => W.zret hx hb hr hn (fun t ht hW => ⟨⟨v, ws, rfl, h, by rw [ht]; exact hP, hD⟩, hS.F ht⟩) hS.2.2 d hk
theorem ke_v (X : kX l g own cc nL R x) {P : va_W → Prop} (Z : kZv P n k x) (d : decode cc pc = .ok (.return_, 1)) (h : P ws) : kW x n k pc lv [] ws := by
  obtain ⟨p, l', e, R', s, m, args, below, meth, c, g', A, H0, nL', Q⟩ := x
  obtain ⟨rfl, rfl, rfl, rfl, hx, hb, hml, ho, hts, hE, hA, hk⟩ := X
  obtain ⟨hr, rfl, rfl⟩ := Z
  exact fun H locs ls hP hD hS hl => W.vret hx hb hr (fun t ht hW => ⟨⟨ws, rfl, h, by rw [ht]; exact hP, hD⟩, hS.F ht⟩) hS.2.2 d hk
end KB
/-- behind a call: the callee's world beside the rest -/
theorem kc_free {A : Nat → Prop} {D : va_G} {cl : List vw_C} {H0 H : Heap} {locs : List Loc} {wc wr : va_W} (hD : va_D A (wc ++ wr)) (hS : va_S A H0 H locs) (hA : ∀ q, H0.size ≤ q → A q) : ∀ q, va_A wc H.size q → A q := by
  intro q h
  rcases h with ⟨k, e, h⟩ | h
  · exact hD.2 k (q, e) (by rw [List.getElem?_append_left (List.getElem?_eq_some_iff.mp h).1]; exact h)
  · exact hA q (Nat.le_trans hS.1 h)
theorem kc_join {A : Nat → Prop} {D : va_G} {cl : List vw_C} {H H1 : Heap} {wc wr w : va_W} (hP : va_P D cl (wc ++ wr) H) (hD : va_D A (wc ++ wr)) (hF : ∀ q, va_A wc H.size q → A q) (hk : ∀ q : Nat, q < H.size → ¬ va_A wc H.size q → H1[q]? = H[q]?) (hP1 : va_P D cl w H1) (hD1 : va_D (va_A wc H.size) w) : va_P D cl (w ++ wr) H1 ∧ va_D A (w ++ wr) := by
  have hr : ∀ (k : Nat) (q : Nat × va_E), wr[k]? = some q → (wc ++ wr)[wc.length + k]? = some q := fun k q hq => by
    rw [List.getElem?_append_right (Nat.le_add_right _ _), Nat.add_sub_cancel_left]; exact hq
  have apart : ∀ (k : Nat) (q : Nat × va_E), wr[k]? = some q → q.1 < H.size ∧ ¬ va_A wc H.size q.1 := by
    intro k q hq
    have hl := (hP _ q (hr k q hq)).lt
    refine ⟨hl, fun h => ?_⟩
    rcases h with ⟨k2, e, h⟩ | h
    · have hk2 := (List.getElem?_eq_some_iff.mp h).1
      have hij := hD.1 (wc.length + k) k2 q (q.1, e) (hr k q hq) (by rw [List.getElem?_append_left hk2]; exact h) rfl
      omega
    · omega
  refine ⟨va_P.app hP1 (fun k q hq => ?_), va_D.app (hD1.weaken (fun k q _ h => hF q.1 h)) ⟨fun i j p q hp hq he => ?_, fun k q hq => hD.2 _ q (hr k q hq)⟩ (fun i j p q hp hq he => ?_)⟩
  · obtain ⟨g1, g2⟩ := apart k q hq
    exact (hP _ q (hr k q hq)).kept (hk q.1 g1 g2)
  · have := hD.1 _ _ p q (hr i p hp) (hr j q hq) he
    omega
  · exact (apart j q hq).2 (by rw [← he]; exact hD1.2 i p hp)
section KC
variable {y : MethodName} {cc' : ByteArray} {nL' ix ar mc ms na : Nat} {R' : Room} {As rest : List Value} {b : Nat} {wc wr : va_W} {ty : FieldType} {fs : List Value} {ci : Nat} {rC : vw_C} {x : kw_X} {l : Launch} {g : kw_G} {own : String} {cc : ByteArray} {nL : Nat} {R : Room} {n k pc : Nat} {lv lv' : List (Nat × Value)} {st : List Value} {ws ws' : va_W}
theorem kc_P {D : va_G} {cl : List vw_C} {H : Heap} (h : va_P D cl (wc ++ wr) H) : va_P D cl wc H := fun k q hq => h k q (by rw [List.getElem?_append_left (List.getElem?_eq_some_iff.mp hq).1]; exact hq)
theorem kc_D {A : Nat → Prop} (h : va_D A (wc ++ wr)) : va_D A wc := ⟨fun i j p q hp hq he => h.1 i j p q (by rw [List.getElem?_append_left (List.getElem?_eq_some_iff.mp hp).1]; exact hp) (by rw [List.getElem?_append_left (List.getElem?_eq_some_iff.mp hq).1]; exact hq) he, fun k q hq => h.2 k q (by rw [List.getElem?_append_left (List.getElem?_eq_some_iff.mp hq).1]; exact hq)⟩
theorem kc_T {y : MethodName} {cc' : ByteArray} {nL' : Nat} {rt : Option FieldType} (hc : Cond.code y cc' nL' rt ∈ kw_T) : GoodIn kw_T (.code y cc' nL' rt :: kw_T) := fun w hw => by
  rcases List.mem_cons.mp hw with rfl | h
  · exact kw_T_good _ hc
  · exact kw_T_good _ h
theorem kc_app {own' : String} {L : List Cond} (h : ∀ w ∈ L, w ∈ kw_T) {ws : List Cond} (hg : GoodIn kw_T ws) : GoodIn kw_T (L ++ ws) := fun w hw => (List.mem_append.mp hw).elim (fun q => kw_T_good _ (h w q)) (hg w)
theorem kc_Vi (X : kX l g own cc nL R x) {P : Int32 → va_W → Prop} (hM : kMi l g y cc' nL' ty R' mc ms (.ref b :: As) wc P) (d : decode cc pc = .ok (.invokevirtual ix, 3)) (hst : st = As.reverse ++ .ref b :: rest) (hw : ws.Perm (wc ++ wr)) (hcode : Cond.code y cc' nL' (some ty) ∈ kw_T) (hlink : Cond.methodLink own ix y ∈ kw_T) (hin : Cond.instanceMethod y ∈ kw_T) (hsel : Cond.selects y.cls y y ∈ kw_T) (hini : Cond.initialized y.cls ∈ kw_T) (q : Nat) (hq : wc[q]? = some (b, .inr (ci, fs))) (hci : vwCl[ci]? = some rC) (hrC : rC.1 = y.cls) (hd : y.cls ≠ "java/lang/invoke/MethodHandle" ∧ y.cls ≠ "java/lang/invoke/VarHandle" ∧ (parseMethodDescriptor y.desc).map (fun d => d.parameters.length) = some na) (hna : As.length = na) (hR : R'.frames + 1 ≤ R.frames ∧ 8 + (nL' + 11) + R'.locals ≤ R.locals) (hc' : R'.cells = mc ∧ R'.slots = ms) (hcs : n + mc ≤ R.cells ∧ k + ms ≤ R.slots) (hrest : (rest.map fun v => v.category).sum ≤ 8) (K : ∀ r w, P r w → kW x (n + mc) (k + ms) (pc + 3) lv (.int r :: rest) (w ++ wr)) : kW x n k pc lv st ws := by
  obtain ⟨p, l', e, R', s, m, args, below, meth, c, g', A, H0, nL', Q⟩ := x
  obtain ⟨rfl, rfl, rfl, rfl, hx, hb, hml, ho, hts, hE, hA, hk⟩ := X
  subst hst
  refine fun H locs ls hP hD hS hl => ?_
  have hP := kw_P hw hP
  have hD := kw_D hw hD
  have hF := kc_free (D := g'.1) (cl := vwCl) hD hS hA
  refine va_calli (va_runV (C := y.cls) (As := As) (rest := rest) (cells := n) (slots := k) ⟨hx, hb, hml, ho, hts⟩ (hM H.size) (cwV na hts (kc_app (own' := own) (by intro w hw; simp only [List.mem_cons, List.not_mem_nil, or_false] at hw; rcases hw with rfl | rfl | rfl | rfl <;> assumption) (kc_T hcode)) rfl hc'.1 hc'.2 ⟨rfl, hd⟩ hR) ⟨kPre_blind g' (.ref b :: As) wc H.size, by obtain ⟨cell, h1, h2, h3⟩ := va_recv hE.1 (kc_P hP) hci hq; exact ⟨cell, h1, h2, by rw [← hrC]; exact h3⟩, fun U hU hW => ⟨rfl, by rw [hU], by rw [hU]; exact kc_P hP, hE.warm hW, (kc_D hD).weaken (fun _ _ _ _ => trivial)⟩⟩ rfl hna hl.1 rfl (lv_room hrest) d hcs) hS (fun q _ h => hF q h) hF ?_
  intro r w t H1 locs1 ht hvm hp hB hz hkk hS1
  obtain ⟨hP1, hD1⟩ := hB
  rw [ht] at hP1
  obtain ⟨hP2, hD2⟩ := kc_join hP hD hF hkk hP1 hD1
  exact K r w hp H1 locs1 ls hP2 hD2 hS1 hl
theorem kc_Vv (X : kX l g own cc nL R x) {P : va_W → Prop} (hM : kMv l g y cc' nL' R' mc ms (.ref b :: As) wc P) (d : decode cc pc = .ok (.invokevirtual ix, 3)) (hst : st = As.reverse ++ .ref b :: rest) (hw : ws.Perm (wc ++ wr)) (hcode : Cond.code y cc' nL' none ∈ kw_T) (hlink : Cond.methodLink own ix y ∈ kw_T) (hin : Cond.instanceMethod y ∈ kw_T) (hsel : Cond.selects y.cls y y ∈ kw_T) (hini : Cond.initialized y.cls ∈ kw_T) (q : Nat) (hq : wc[q]? = some (b, .inr (ci, fs))) (hci : vwCl[ci]? = some rC) (hrC : rC.1 = y.cls) (hd : y.cls ≠ "java/lang/invoke/MethodHandle" ∧ y.cls ≠ "java/lang/invoke/VarHandle" ∧ (parseMethodDescriptor y.desc).map (fun d => d.parameters.length) = some na) (hna : As.length = na) (hR : R'.frames + 1 ≤ R.frames ∧ 8 + (nL' + 11) + R'.locals ≤ R.locals) (hc' : R'.cells = mc ∧ R'.slots = ms) (hcs : n + mc ≤ R.cells ∧ k + ms ≤ R.slots) (hrest : (rest.map fun v => v.category).sum ≤ 8) (K : ∀ w, P w → kW x (n + mc) (k + ms) (pc + 3) lv rest (w ++ wr)) : kW x n k pc lv st ws := by
  obtain ⟨p, l', e, R', s, m, args, below, meth, c, g', A, H0, nL', Q⟩ := x
  obtain ⟨rfl, rfl, rfl, rfl, hx, hb, hml, ho, hts, hE, hA, hk⟩ := X
  subst hst
  refine fun H locs ls hP hD hS hl => ?_
  have hP := kw_P hw hP
  have hD := kw_D hw hD
  have hF := kc_free (D := g'.1) (cl := vwCl) hD hS hA
  refine va_callv (va_runV (C := y.cls) (As := As) (rest := rest) (cells := n) (slots := k) ⟨hx, hb, hml, ho, hts⟩ (hM H.size) (cwV na hts (kc_app (own' := own) (by intro w hw; simp only [List.mem_cons, List.not_mem_nil, or_false] at hw; rcases hw with rfl | rfl | rfl | rfl <;> assumption) (kc_T hcode)) rfl hc'.1 hc'.2 ⟨rfl, hd⟩ hR) ⟨kPre_blind g' (.ref b :: As) wc H.size, by obtain ⟨cell, h1, h2, h3⟩ := va_recv hE.1 (kc_P hP) hci hq; exact ⟨cell, h1, h2, by rw [← hrC]; exact h3⟩, fun U hU hW => ⟨rfl, by rw [hU], by rw [hU]; exact kc_P hP, hE.warm hW, (kc_D hD).weaken (fun _ _ _ _ => trivial)⟩⟩ rfl hna hl.1 rfl (lv_room hrest) d hcs) hS (fun q _ h => hF q h) hF ?_
  intro w t H1 locs1 ht hvm hp hB hz hkk hS1
  obtain ⟨hP1, hD1⟩ := hB
  rw [ht] at hP1
  obtain ⟨hP2, hD2⟩ := kc_join hP hD hF hkk hP1 hD1
  exact K w hp H1 locs1 ls hP2 hD2 hS1 hl
theorem kc_Si (X : kX l g own cc nL R x) {P : Int32 → va_W → Prop} (hM : kMi l g y cc' nL' ty R' mc ms As wc P) (d : decode cc pc = .ok (.invokestatic ix, 3)) (hst : st = As.reverse ++ rest) (hw : ws.Perm (wc ++ wr)) (hcode : Cond.code y cc' nL' (some ty) ∈ kw_T) (hlink : Cond.methodLink own ix y ∈ kw_T) (hin : Cond.static y ∈ kw_T) (hini : Cond.initialized y.cls ∈ kw_T) (hd : y.cls ≠ "java/lang/invoke/MethodHandle" ∧ y.cls ≠ "java/lang/invoke/VarHandle" ∧ (parseMethodDescriptor y.desc).map (fun d => d.parameters.length) = some na) (hna : As.length = na) (hR : R'.frames + 1 ≤ R.frames ∧ 8 + (nL' + 11) + R'.locals ≤ R.locals) (hc' : R'.cells = mc ∧ R'.slots = ms) (hcs : n + mc ≤ R.cells ∧ k + ms ≤ R.slots) (hrest : (rest.map fun v => v.category).sum ≤ 8) (K : ∀ r w, P r w → kW x (n + mc) (k + ms) (pc + 3) lv (.int r :: rest) (w ++ wr)) : kW x n k pc lv st ws := by
  obtain ⟨p, l', e, R', s, m, args, below, meth, c, g', A, H0, nL', Q⟩ := x
  obtain ⟨rfl, rfl, rfl, rfl, hx, hb, hml, ho, hts, hE, hA, hk⟩ := X
  subst hst
  refine fun H locs ls hP hD hS hl => ?_
  have hP := kw_P hw hP
  have hD := kw_D hw hD
  have hF := kc_free (D := g'.1) (cl := vwCl) hD hS hA
  refine va_calli (va_runS (As := As) (rest := rest) (cells := n) (slots := k) ⟨hx, hb, hml, ho, hts⟩ (hM H.size) (va_cwS na hts (kc_app (own' := own) (by intro w hw; simp only [List.mem_cons, List.not_mem_nil, or_false] at hw; rcases hw with rfl | rfl | rfl <;> assumption) (kc_T hcode)) rfl hc'.1 hc'.2 hd hR) ⟨kPre_blind g' As wc H.size, fun U hU hW => ⟨rfl, by rw [hU], by rw [hU]; exact kc_P hP, hE.warm hW, (kc_D hD).weaken (fun _ _ _ _ => trivial)⟩⟩ rfl hna hl.1 rfl (lv_room hrest) d hcs) hS (fun q _ h => hF q h) hF ?_
  intro r w t H1 locs1 ht hvm hp hB hz hkk hS1
  obtain ⟨hP1, hD1⟩ := hB
  rw [ht] at hP1
  obtain ⟨hP2, hD2⟩ := kc_join hP hD hF hkk hP1 hD1
  exact K r w hp H1 locs1 ls hP2 hD2 hS1 hl
theorem kc_Sv (X : kX l g own cc nL R x) {P : va_W → Prop} (hM : kMv l g y cc' nL' R' mc ms As wc P) (d : decode cc pc = .ok (.invokestatic ix, 3)) (hst : st = As.reverse ++ rest) (hw : ws.Perm (wc ++ wr)) (hcode : Cond.code y cc' nL' none ∈ kw_T) (hlink : Cond.methodLink own ix y ∈ kw_T) (hin : Cond.static y ∈ kw_T) (hini : Cond.initialized y.cls ∈ kw_T) (hd : y.cls ≠ "java/lang/invoke/MethodHandle" ∧ y.cls ≠ "java/lang/invoke/VarHandle" ∧ (parseMethodDescriptor y.desc).map (fun d => d.parameters.length) = some na) (hna : As.length = na) (hR : R'.frames + 1 ≤ R.frames ∧ 8 + (nL' + 11) + R'.locals ≤ R.locals) (hc' : R'.cells = mc ∧ R'.slots = ms) (hcs : n + mc ≤ R.cells ∧ k + ms ≤ R.slots) (hrest : (rest.map fun v => v.category).sum ≤ 8) (K : ∀ w, P w → kW x (n + mc) (k + ms) (pc + 3) lv rest (w ++ wr)) : kW x n k pc lv st ws := by
  obtain ⟨p, l', e, R', s, m, args, below, meth, c, g', A, H0, nL', Q⟩ := x
  obtain ⟨rfl, rfl, rfl, rfl, hx, hb, hml, ho, hts, hE, hA, hk⟩ := X
  subst hst
  refine fun H locs ls hP hD hS hl => ?_
  have hP := kw_P hw hP
  have hD := kw_D hw hD
  have hF := kc_free (D := g'.1) (cl := vwCl) hD hS hA
  refine va_callv (va_runS (As := As) (rest := rest) (cells := n) (slots := k) ⟨hx, hb, hml, ho, hts⟩ (hM H.size) (va_cwS na hts (kc_app (own' := own) (by intro w hw; simp only [List.mem_cons, List.not_mem_nil, or_false] at hw; rcases hw with rfl | rfl | rfl <;> assumption) (kc_T hcode)) rfl hc'.1 hc'.2 hd hR) ⟨kPre_blind g' As wc H.size, fun U hU hW => ⟨rfl, by rw [hU], by rw [hU]; exact kc_P hP, hE.warm hW, (kc_D hD).weaken (fun _ _ _ _ => trivial)⟩⟩ rfl hna hl.1 rfl (lv_room hrest) d hcs) hS (fun q _ h => hF q h) hF ?_
  intro w t H1 locs1 ht hvm hp hB hz hkk hS1
  obtain ⟨hP1, hD1⟩ := hB
  rw [ht] at hP1
  obtain ⟨hP2, hD2⟩ := kc_join hP hD hF hkk hP1 hD1
  exact K w hp H1 locs1 ls hP2 hD2 hS1 hl
theorem kc_SNi (X : kX l g own cc nL R x) {P : Int32 → va_W → Prop} (hM : kMi l g y cc' nL' ty R' mc ms As wc P) (d : decode cc pc = .ok (.invokestatic ix, 3)) (hst : st = As.reverse ++ rest) (hw : ws.Perm (wc ++ wr)) (hcode : Cond.code y cc' nL' (some ty) ∈ kw_T) (hlink : Cond.methodLinkNest own ix y RX5 ∈ kw_nest) (hin : Cond.static y ∈ kw_T) (hini : Cond.initialized y.cls ∈ kw_T) (hd : y.cls ≠ "java/lang/invoke/MethodHandle" ∧ y.cls ≠ "java/lang/invoke/VarHandle" ∧ (parseMethodDescriptor y.desc).map (fun d => d.parameters.length) = some na) (hna : As.length = na) (hR : R'.frames + 1 ≤ R.frames ∧ 8 + (nL' + 11) + R'.locals ≤ R.locals) (hc' : R'.cells = mc ∧ R'.slots = ms) (hcs : n + mc ≤ R.cells ∧ k + ms ≤ R.slots) (hrest : (rest.map fun v => v.category).sum ≤ 8) (K : ∀ r w, P r w → kW x (n + mc) (k + ms) (pc + 3) lv (.int r :: rest) (w ++ wr)) : kW x n k pc lv st ws := by
  obtain ⟨p, l', e, R', s, m, args, below, meth, c, g', A, H0, nL', Q⟩ := x
  obtain ⟨rfl, rfl, rfl, rfl, hx, hb, hml, ho, hts, hE, hA, hk⟩ := X
  subst hst
  refine fun H locs ls hP hD hS hl => ?_
  have hP := kw_P hw hP
  have hD := kw_D hw hD
  have hF := kc_free (D := g'.1) (cl := vwCl) hD hS hA
  refine va_calli (va_runSN (As := As) (rest := rest) (cells := n) (slots := k) ⟨hx, hb, hml, ho, hts⟩ (hM H.size) (⟨va_cnB (host := RX5) na hts (kc_T hcode) rfl hc'.1 hc'.2 (hE.2.1 _ hlink) (hts _ hini) hd hR, hts _ hin, trivial⟩) ⟨kPre_blind g' As wc H.size, fun U hU hW => ⟨rfl, by rw [hU], by rw [hU]; exact kc_P hP, hE.warm hW, (kc_D hD).weaken (fun _ _ _ _ => trivial)⟩⟩ rfl hna hl.1 rfl (lv_room hrest) d hcs) hS (fun q _ h => hF q h) hF ?_
  intro r w t H1 locs1 ht hvm hp hB hz hkk hS1
  obtain ⟨hP1, hD1⟩ := hB
  rw [ht] at hP1
  obtain ⟨hP2, hD2⟩ := kc_join hP hD hF hkk hP1 hD1
  exact K r w hp H1 locs1 ls hP2 hD2 hS1 hl
theorem kc_SNv (X : kX l g own cc nL R x) {P : va_W → Prop} (hM : kMv l g y cc' nL' R' mc ms As wc P) (d : decode cc pc = .ok (.invokestatic ix, 3)) (hst : st = As.reverse ++ rest) (hw : ws.Perm (wc ++ wr)) (hcode : Cond.code y cc' nL' none ∈ kw_T) (hlink : Cond.methodLinkNest own ix y RX5 ∈ kw_nest) (hin : Cond.static y ∈ kw_T) (hini : Cond.initialized y.cls ∈ kw_T) (hd : y.cls ≠ "java/lang/invoke/MethodHandle" ∧ y.cls ≠ "java/lang/invoke/VarHandle" ∧ (parseMethodDescriptor y.desc).map (fun d => d.parameters.length) = some na) (hna : As.length = na) (hR : R'.frames + 1 ≤ R.frames ∧ 8 + (nL' + 11) + R'.locals ≤ R.locals) (hc' : R'.cells = mc ∧ R'.slots = ms) (hcs : n + mc ≤ R.cells ∧ k + ms ≤ R.slots) (hrest : (rest.map fun v => v.category).sum ≤ 8) (K : ∀ w, P w → kW x (n + mc) (k + ms) (pc + 3) lv rest (w ++ wr)) : kW x n k pc lv st ws := by
  obtain ⟨p, l', e, R', s, m, args, below, meth, c, g', A, H0, nL', Q⟩ := x
  obtain ⟨rfl, rfl, rfl, rfl, hx, hb, hml, ho, hts, hE, hA, hk⟩ := X
  subst hst
  refine fun H locs ls hP hD hS hl => ?_
  have hP := kw_P hw hP
  have hD := kw_D hw hD
  have hF := kc_free (D := g'.1) (cl := vwCl) hD hS hA
  refine va_callv (va_runSN (As := As) (rest := rest) (cells := n) (slots := k) ⟨hx, hb, hml, ho, hts⟩ (hM H.size) (⟨va_cnB (host := RX5) na hts (kc_T hcode) rfl hc'.1 hc'.2 (hE.2.1 _ hlink) (hts _ hini) hd hR, hts _ hin, trivial⟩) ⟨kPre_blind g' As wc H.size, fun U hU hW => ⟨rfl, by rw [hU], by rw [hU]; exact kc_P hP, hE.warm hW, (kc_D hD).weaken (fun _ _ _ _ => trivial)⟩⟩ rfl hna hl.1 rfl (lv_room hrest) d hcs) hS (fun q _ h => hF q h) hF ?_
  intro w t H1 locs1 ht hvm hp hB hz hkk hS1
  obtain ⟨hP1, hD1⟩ := hB
  rw [ht] at hP1
  obtain ⟨hP2, hD2⟩ := kc_join hP hD hF hkk hP1 hD1
  exact K w hp H1 locs1 ls hP2 hD2 hS1 hl
theorem kc_Iv (X : kX l g own cc nL R x) {P : va_W → Prop} (hM : kMv l g y cc' nL' R' mc ms (.ref b :: As) wc P) (d : decode cc pc = .ok (.invokespecial ix, 3)) (hst : st = As.reverse ++ .ref b :: rest) (hw : ws.Perm (wc ++ wr)) (hcode : Cond.code y cc' nL' none ∈ kw_T) (hlink : Cond.methodLink own ix y ∈ kw_T) (hin : Cond.instanceMethod y ∈ kw_T) (hini : Cond.initialized y.cls ∈ kw_T) (hnm : y.name = "<init>") (hd : y.cls ≠ "java/lang/invoke/MethodHandle" ∧ y.cls ≠ "java/lang/invoke/VarHandle" ∧ (parseMethodDescriptor y.desc).map (fun d => d.parameters.length) = some na) (hna : As.length = na) (hR : R'.frames + 1 ≤ R.frames ∧ 8 + (nL' + 11) + R'.locals ≤ R.locals) (hc' : R'.cells = mc ∧ R'.slots = ms) (hcs : n + mc ≤ R.cells ∧ k + ms ≤ R.slots) (hrest : (rest.map fun v => v.category).sum ≤ 8) (K : ∀ w, P w → kW x (n + mc) (k + ms) (pc + 3) lv rest (w ++ wr)) : kW x n k pc lv st ws := by
  obtain ⟨p, l', e, R', s, m, args, below, meth, c, g', A, H0, nL', Q⟩ := x
  obtain ⟨rfl, rfl, rfl, rfl, hx, hb, hml, ho, hts, hE, hA, hk⟩ := X
  subst hst
  refine fun H locs ls hP hD hS hl => ?_
  have hP := kw_P hw hP
  have hD := kw_D hw hD
  have hF := kc_free (D := g'.1) (cl := vwCl) hD hS hA
  refine va_callv (va_runI (As := As) (rest := rest) (cells := n) (slots := k) ⟨hx, hb, hml, ho, hts⟩ (hM H.size) (cwI na hts (kc_T hcode) rfl hc'.1 hc'.2 (hts _ hini) (hts _ hlink) (hts _ hin) hnm hd hR) ⟨kPre_blind g' (.ref b :: As) wc H.size, fun U hU hW => ⟨rfl, by rw [hU], by rw [hU]; exact kc_P hP, hE.warm hW, (kc_D hD).weaken (fun _ _ _ _ => trivial)⟩⟩ rfl hna hl.1 rfl (lv_room hrest) d hcs) hS (fun q _ h => hF q h) hF ?_
  intro w t H1 locs1 ht hvm hp hB hz hkk hS1
  obtain ⟨hP1, hD1⟩ := hB
  rw [ht] at hP1
  obtain ⟨hP2, hD2⟩ := kc_join hP hD hF hkk hP1 hD1
  exact K w hp H1 locs1 ls hP2 hD2 hS1 hl
theorem kc_INv (X : kX l g own cc nL R x) {P : va_W → Prop} (hM : kMv l g y cc' nL' R' mc ms (.ref b :: As) wc P) (d : decode cc pc = .ok (.invokespecial ix, 3)) (hst : st = As.reverse ++ .ref b :: rest) (hw : ws.Perm (wc ++ wr)) (hcode : Cond.code y cc' nL' none ∈ kw_T) (hlink : Cond.methodLinkNest own ix y RX5 ∈ kw_nest) (hin : Cond.instanceMethod y ∈ kw_T) (hini : Cond.initialized y.cls ∈ kw_T) (hnm : y.name = "<init>") (hd : y.cls ≠ "java/lang/invoke/MethodHandle" ∧ y.cls ≠ "java/lang/invoke/VarHandle" ∧ (parseMethodDescriptor y.desc).map (fun d => d.parameters.length) = some na) (hna : As.length = na) (hR : R'.frames + 1 ≤ R.frames ∧ 8 + (nL' + 11) + R'.locals ≤ R.locals) (hc' : R'.cells = mc ∧ R'.slots = ms) (hcs : n + mc ≤ R.cells ∧ k + ms ≤ R.slots) (hrest : (rest.map fun v => v.category).sum ≤ 8) (K : ∀ w, P w → kW x (n + mc) (k + ms) (pc + 3) lv rest (w ++ wr)) : kW x n k pc lv st ws := by
  obtain ⟨p, l', e, R', s, m, args, below, meth, c, g', A, H0, nL', Q⟩ := x
  obtain ⟨rfl, rfl, rfl, rfl, hx, hb, hml, ho, hts, hE, hA, hk⟩ := X
  subst hst
  refine fun H locs ls hP hD hS hl => ?_
  have hP := kw_P hw hP
  have hD := kw_D hw hD
  have hF := kc_free (D := g'.1) (cl := vwCl) hD hS hA
  refine va_callv (va_runIN (As := As) (rest := rest) (cells := n) (slots := k) ⟨hx, hb, hml, ho, hts⟩ (hM H.size) (⟨va_cnB (host := RX5) na hts (kc_T hcode) rfl hc'.1 hc'.2 (hE.2.1 _ hlink) (hts _ hini) hd hR, hnm, hts _ hin⟩) ⟨kPre_blind g' (.ref b :: As) wc H.size, fun U hU hW => ⟨rfl, by rw [hU], by rw [hU]; exact kc_P hP, hE.warm hW, (kc_D hD).weaken (fun _ _ _ _ => trivial)⟩⟩ rfl hna hl.1 rfl (lv_room hrest) d hcs) hS (fun q _ h => hF q h) hF ?_
  intro w t H1 locs1 ht hvm hp hB hz hkk hS1
  obtain ⟨hP1, hD1⟩ := hB
  rw [ht] at hP1
  obtain ⟨hP2, hD2⟩ := kc_join hP hD hF hkk hP1 hD1
  exact K w hp H1 locs1 ls hP2 hD2 hS1 hl
end KC
