def R_law : String := "TrialFuneralsLaw"
def lw_P (b : Addr) (xs : List Int32) (args : Array Value) (s : State) : Prop := args = #[.ref b] ∧ s.IntsAt b xs ∧ xs.length ≤ 3584 ∧ (Jvm.Cond.and given_1 narrow_1).before args s = true
def lw_Q (_ : Array Value) (s : State) (o : Outcome) (t : State) : Prop := o = .returned (some (.int 1)) ∧ Framed s o t [] 600000 7302249
def lw_Z (below : List Frame) (a : Array Value) (s : State) : State → Prop := fun t => ∃ o, t.status = .running ∧ Ended t below o ∧ lw_Q a s o t
/-- the law's own end, with 1 on the stack, nothing written that was there before, its room as the claim has it -/
theorem lw_ret {p : Program} {l : Launch} {e : Env} {s : State} {m : MethodId} {below : List Frame} {meth : Method} {c : Code} {b : Nat} (hx : p.tables.exec = Jvm.exec) (hb : c.code = code) (hr : meth.sig.returnType = ret) (hlocks : meth.locks = false) {pc : Nat} {H : Heap} {ls : Array Slot} (hdg : decode code pc = .ok (.ireturn, 1)) : W p l e room_1 s m #[Value.ref b] below meth c H [] 600000 7302249 (lw_Z below #[Value.ref b] s) (F0 m pc ls [.int 1]) := by
  intro T hT X
  obtain ⟨fs, hret, hrun, hended, hW, hframe⟩ := X.leave (v := some (.int 1)) (hlocks := hlocks) (fun h => by rw [hr] at h; cases h)
  have hmeth' : T.vm.method? m = some meth := X.method'
  refine ⟨T.setFrames fs, ?_, .returned (some (.int 1)), hrun, hended, rfl, ⟨_, rfl⟩, hW, hframe⟩
  jvm_step X.here [X.here.top, hx, hb, hdg, hmeth', hr, ret, narrow_b1]
  (try refine ⟨rfl, ?_⟩); (try refine ⟨rfl, ?_⟩)
  first | (intro acts; rw [hret _ acts rfl rfl rfl]) | rw [hret _ _ rfl rfl rfl]
  exact Steps.refl _
/-- what holds at the law's entry: the machine, the code, the tables' words (any of lw_tbl by 'hts w (by decide +kernel)'), the script of L ints xs at the cell b, what the Statement gives of the start (any of its parts by flat_of_before) -/
def lw_At (p : Program) (s : State) (m : MethodId) (meth : Method) (c : Code) (b L : Nat) (xs : Nat → Int32) : Prop :=
  p.tables.exec = Jvm.exec ∧ c.code = code ∧ meth.sig.returnType = ret ∧ c.maxLocals = 4 ∧ s.vm.findClass R_law = some m.cls ∧ (∀ w ∈ lw_tbl, w.before #[Value.ref b] s = true) ∧ va_X b L xs s s.heap ∧ b < s.heap.size ∧ meth.locks = false ∧ (Jvm.Cond.and given_1 narrow_1).before #[Value.ref b] s = true
theorem lk_in {w : Cond} (i : Nat) (h : lw_tbl[i]? = some w) : w ∈ lw_tbl := List.mem_of_getElem? h
theorem kw_nest_in : ∀ w ∈ kw_nest, w ∈ lw_tbl := by
  intro w hw
  simp only [kw_nest, List.mem_cons, List.not_mem_nil, or_false] at hw
  rcases hw with rfl | rfl | rfl | rfl | rfl | rfl | rfl | rfl | rfl | rfl
  · exact lk_in 63 (by decide +kernel)
  · exact lk_in 85 (by decide +kernel)
  · exact lk_in 143 (by decide +kernel)
  · exact lk_in 157 (by decide +kernel)
  · exact lk_in 189 (by decide +kernel)
  · exact lk_in 403 (by decide +kernel)
  · exact lk_in 450 (by decide +kernel)
  · exact lk_in 579 (by decide +kernel)
  · exact lk_in 589 (by decide +kernel)
  · exact lk_in 597 (by decide +kernel)
theorem lk_int {args : Array Value} {s : State} (h : (Cond.arrayClass .int).before args s = true) : ∃ cA, ArrOfT s cA .int ∧ va_RA s cA .int := by
  obtain ⟨cA, kA, comp, h1, h2, h3⟩ := Cond.arrayClass_spec h
  exact ⟨cA, fun n z => ⟨fun k h => (by cases h), kA, h2, comp, h3⟩, h1⟩
theorem lk_char {args : Array Value} {s : State} (h : (Cond.arrayClass .char).before args s = true) : ∃ cA, ArrOfT s cA .char ∧ va_RA s cA .char := by
  obtain ⟨cA, kA, comp, h1, h2, h3⟩ := Cond.arrayClass_spec h
  exact ⟨cA, fun n z => ⟨fun k h => (by cases h), kA, h2, comp, h3⟩, h1⟩
theorem lk_byte {args : Array Value} {s : State} (h : (Cond.arrayClass .byte).before args s = true) : ∃ cA, ArrOfT s cA .byte ∧ va_RA s cA .byte := by
  obtain ⟨cA, kA, comp, h1, h2, h3⟩ := Cond.arrayClass_spec h
  exact ⟨cA, fun n z => ⟨fun k h => (by cases h), kA, h2, comp, h3⟩, h1⟩
theorem lk_boolean {args : Array Value} {s : State} (h : (Cond.arrayClass .boolean).before args s = true) : ∃ cA, ArrOfT s cA .boolean ∧ va_RA s cA .boolean := by
  obtain ⟨cA, kA, comp, h1, h2, h3⟩ := Cond.arrayClass_spec h
  exact ⟨cA, fun n z => ⟨fun k h => (by cases h), kA, h2, comp, h3⟩, h1⟩
theorem lk_obj {args : Array Value} {s : State} {C : String} (h : (Cond.arrayOver (.object C)).before args s = true) : ∃ cA, ArrOfT s cA (.object C) ∧ va_RA s cA (.object C) := by
  obtain ⟨comp, cA, kA, h1, -, h3, h4, h5⟩ := Cond.arrayOver_spec h
  exact ⟨cA, fun n z => ⟨fun k h => (by cases h), kA, h3, comp, h4⟩, ⟨kA, comp, h3, h4, h1, h5⟩⟩
theorem kw_E_of {args : Array Value} {s : State} (hts : ∀ w ∈ lw_tbl, w.before args s = true) : ∃ g : kw_G, kw_E g s := by
  have ht : ∀ w ∈ kw_T, w.before args s = true := fun w hw => hts w (List.mem_filter.mp hw).1
  obtain ⟨c0, d0, h0⟩ := u_known (C := RX0) (T := TX0) (N := 8) (n := 8) ht kw_iX0 (ht _ ki_X0)
  obtain ⟨c1, d1, h1⟩ := u_known (C := RX1) (T := TX1) (N := 3) (n := 3) ht kw_iX1 (ht _ ki_X1)
  obtain ⟨c2, d2, h2⟩ := u_known (C := RX2) (T := TX2) (N := 6) (n := 6) ht kw_iX2 (ht _ ki_X2)
  obtain ⟨c3, d3, h3⟩ := u_known (C := RX3) (T := TX3) (N := 4) (n := 4) ht kw_iX3 (ht _ ki_X3)
  obtain ⟨c4, d4, h4⟩ := u_known (C := RX4) (T := TX4) (N := 11) (n := 11) ht kw_iX4 (ht _ ki_X4)
  obtain ⟨c5, d5, h5⟩ := u_known (C := RX5) (T := TX5) (N := 7) (n := 7) ht kw_iX5 (ht _ ki_X5)
  obtain ⟨c6, d6, h6⟩ := u_known (C := RX6) (T := TX6) (N := 25) (n := 25) ht kw_iX6 (ht _ ki_X6)
  have hao := hts _ (lk_in (w := Cond.arrayOver (.object RX4)) 142 (by decide +kernel))
  obtain ⟨e0, f0⟩ := lk_int (ht _ ka_int)
  obtain ⟨e1, f1⟩ := lk_char (ht _ ka_char)
  obtain ⟨e2, f2⟩ := lk_byte (ht _ ka_byte)
  obtain ⟨e3, f3⟩ := lk_boolean (ht _ ka_boolean)
  obtain ⟨e4, f4⟩ := lk_obj hao
  refine ⟨((fun k => match k with | 0 => c0 | 1 => c1 | 2 => c2 | 3 => c3 | 4 => c4 | 5 => c5 | _ => c6, fun k => match k with | 0 => d0 | 1 => d1 | 2 => d2 | 3 => d3 | 4 => d4 | 5 => d5 | _ => d6), fun k => match k with | 0 => e0 | 1 => e1 | 2 => e2 | 3 => e3 | _ => e4), ⟨fun k q hq => ?_, fun k q hq => ?_⟩, fun w hw => ?_, va_AO.of hao⟩
  · match k, hq with
    | 0, hq => cases hq; exact h0
    | 1, hq => cases hq; exact h1
    | 2, hq => cases hq; exact h2
    | 3, hq => cases hq; exact h3
    | 4, hq => cases hq; exact h4
    | 5, hq => cases hq; exact h5
    | 6, hq => cases hq; exact h6
    | k + 7, hq => simp [vwCl] at hq
  · match k, hq with
    | 0, hq => cases hq; exact f0
    | 1, hq => cases hq; exact f1
    | 2, hq => cases hq; exact f2
    | 3, hq => cases hq; exact f3
    | 4, hq => cases hq; exact f4
    | k + 5, hq => simp [kw_ty] at hq
  · obtain ⟨a, i, y, h, rfl⟩ := kw_nest_ok w hw
    exact va_Nw.of rfl (hts _ (kw_nest_in _ hw))
def tmS : Term := Term.string "TrialFunerals" 52
def bt0 : List Int32 := tx0L.map nI
theorem bt0_at (j : Nat) : bt0.getD j 0 = nI (tx0 j) := by
  unfold bt0 tx0
  rw [List.getD_eq_getElem?_getD, List.getD_eq_getElem?_getD, List.getElem?_map]
  cases tx0L[j]? <;> rfl
def nar : List Cond := flatC (Jvm.Cond.and given_1 narrow_1)
theorem nar_el : ∀ j, j < 128 → Cond.eq (.elem (.field tmS "java/lang/String" "value" "[B") (.int (Int32.ofNat j))) (.int (bt0.getD j 0)) ∈ nar := by decide +kernel
theorem kStr_of {args : Array Value} {s : State} (hts : ∀ w ∈ lw_tbl, w.before args s = true) (hgv : (Jvm.Cond.and given_1 narrow_1).before args s = true) : ∃ q t : Nat, kStr q t (fun q => s.heap.size ≤ q) s s.heap := by
  have ht : ∀ w ∈ kw_T, w.before args s = true := fun w hw => hts w (List.mem_filter.mp hw).1
  have hs : ∀ w ∈ nar, w.before args s = true := flat_of_before _ hgv
  have hA : ∀ a : Nat, a < s.heap.size → ¬ (fun q : Nat => s.heap.size ≤ q) a := fun a h => Nat.not_le.mpr h
  obtain ⟨adK, adV, hS, hE⟩ := vk_Sof (args := args) (s := s) (N := 1) (tm := fun _ => tmS) (len := [128]) (byt := [bt0]) (A := fun q => s.heap.size ≤ q)
    (fun i hi => by rw [show i = 0 by omega]; decide) (fun i hi => hs _ (by decide +kernel)) (fun i hi => hs _ (by decide +kernel)) (fun i hi => hs _ (by decide +kernel))
    (fun i hi => by rw [show i = 0 by omega]; exact hs _ (by decide +kernel)) (fun i hi j hj => by
      have e : i = 0 := by omega
      subst e
      exact hs _ (nar_el j hj)) (fun i j hi hj hne => absurd (show i = j by omega) hne) hA
  obtain ⟨h1, h2, h3, h4⟩ := hS.1 0 (by decide)
  have e : (fun j => Value.int (([bt0].getD 0 []).getD j 0)) = fun j => .int (nI (tx0 j)) := funext fun j => congrArg Value.int (bt0_at j)
  rw [e] at h4
  exact ⟨adK 0, adV 0, vk_R.of (hts _ (lk_in 219 (by decide +kernel))) (hE 0 (by decide)), h1, h2, h3, h4,
    va_Zof (hts _ (lk_in 229 (by decide +kernel))) (ht _ kn_J0) (va_eqt (hs _ (by decide +kernel))) hA, va_Zqof (hts _ (lk_in 245 (by decide +kernel))) (ht _ kn_J3) (hs _ (by decide +kernel)) hA⟩
/-! the law's own rows: the script, the end -/
def kScr (b L : Nat) (xs : Nat → Int32) (x : kw_X) : Prop := match x with
  | (_, _, _, _, s, _, _, _, _, _, _, A, H0, _, _) => va_X b L xs s H0 ∧ b < H0.size ∧ ¬ A b
def kLaw (b : Nat) (x : kw_X) : Prop := match x with
  | (_, _, _, R, s, _, args, below, meth, _, _, A, H0, _, Q) => R = room_1 ∧ args = #[Value.ref b] ∧ meth.sig.returnType = ret ∧ meth.locks = false ∧ H0 = s.heap ∧ A = (fun q => s.heap.size ≤ q) ∧ Q = lw_Z below #[Value.ref b] s
section KL
variable {x : kw_X} {l : Launch} {g : kw_G} {own : String} {cc : ByteArray} {nL : Nat} {R : Room} {n k pc : Nat} {lv lv' : List (Nat × Value)} {st : List Value} {ws ws' : va_W} {b L : Nat} {xs : Nat → Int32}
theorem kl_len (X : kX l g own cc nL R x) (Sc : kScr b L xs x) (d : decode cc pc = .ok (.arraylength, 1)) (K : kW x n k (pc + 1) lv (.int (nI L) :: st) ws) : kW x n k pc lv (.ref b :: st) ws := by
  obtain ⟨p, l', e, R', s, m, args, below, meth, c, g', A, H0, nL', Q⟩ := x
  obtain ⟨rfl, rfl, rfl, rfl, hx, hb, hml, ho, hts, hE, hA, hk⟩ := X
  obtain ⟨h1, h2, h3⟩ := Sc
  exact fun H locs ls hP hD hS hl => va_slen hx hb h1 h2 h3 hS d (K H locs ls hP hD hS hl)
theorem kl_ld (X : kX l g own cc nL R x) (Sc : kScr b L xs x) {i : Nat} (hi : i < L) (hL : L < 2147483648) (d : decode cc pc = .ok (.iaload, 1)) (K : kW x n k (pc + 1) lv (.int (xs i) :: st) ws) : kW x n k pc lv (.int (nI i) :: .ref b :: st) ws := by
  obtain ⟨p, l', e, R', s, m, args, below, meth, c, g', A, H0, nL', Q⟩ := x
  obtain ⟨rfl, rfl, rfl, rfl, hx, hb, hml, ho, hts, hE, hA, hk⟩ := X
  obtain ⟨h1, h2, h3⟩ := Sc
  exact fun H locs ls hP hD hS hl => va_sld hx hb h1 h2 h3 hS (kw_ix hi hL) d (by rw [kw_cl hi hL]; exact K H locs ls hP hD hS hl)
theorem kl_ret (X : kX l g own code nL R x) (Z : kLaw b x) (hn : n ≤ 600000) (hk' : k ≤ 7302249) (d : decode code pc = .ok (.ireturn, 1)) : kW x n k pc lv [.int 1] ws := by
  obtain ⟨p, l', e, R', s, m, args, below, meth, c, g', A, H0, nL', Q⟩ := x
  obtain ⟨rfl, rfl, rfl, rfl, hx, hb, hml, ho, hts, hE, hA, hk⟩ := X
  obtain ⟨rfl, rfl, hr, hlk, rfl, rfl, rfl⟩ := Z
  exact fun H locs ls hP hD hS hl => va_forget (fun q hq => hS.2.2 q hq) (W.widen hn hk' (lw_ret hx hb hr hlk d))
end KL
theorem and31 (v : Int32) : ∃ j, j < 32 ∧ v &&& 31 = nI j := by
  refine ⟨(v &&& 31).toBitVec.toNat, ?_, ?_⟩
  · have h : (v &&& 31).toBitVec.toNat = v.toBitVec.toNat &&& 31 := by
      rw [Int32.toBitVec_and, BitVec.toNat_and]
      rfl
    rw [h]
    exact Nat.lt_succ_of_le Nat.and_le_right
  · apply Int32.toBitVec_inj.mp
    simp [nI]
theorem gt_out {i L : Nat} (hi : i ≤ 4000) (hL : L ≤ 4000) (h : ¬ nI L - 7 < nI i) : i + 7 ≤ L := by
  have e : (nI L - 7 : Int32).toInt = (L : Int) - 7 := pk_sub_toInt (a := L) (b := 7) (by omega) (by omega)
  rw [Int32.lt_iff_toInt_lt, e, nI_toInt (by omega)] at h
  omega
