set_option maxHeartbeats 4000000 in
set_option maxRecDepth 100000 in
theorem law_loop {x : kw_X} {l : Launch} {g : kw_G} {b L : Nat} {xs : Nat → Int32} {m : Nat} {at_ an ar au : Nat → Nat} {adu : Nat → Nat → Nat} {ak : Nat → Nat} {adk : Nat → Nat → Nat} {as_ ao : Nat → Nat} {ado : Nat → Nat → Nat} {a : Nat → Nat} (X : kX l g RL code 4 room_1 x) (Sc : kScr b L xs x) (Z : kLaw b x) (hL : L ≤ 3584) :
    ∀ (K_ i : Nat) (v : VS) (us ks : List VS) (tf : Nat → Nat) (tn : Nat) (s : SS) (w5 w6 : va_W), L ≤ i + K_ → i ≤ L → XWp g m at_ an ar au adu ak adk as_ ao ado v us ks tf tn s w5 → RWp g a v us ks tf tn s w6 → kW x 146 3487 18 [(0, .ref b), (1, .ref m), (2, .ref (a 0)), (3, .int (nI i))] [] (w5 ++ w6) := by
  intro K_
  induction K_ with
  | zero =>
    intro i v us ks tf tn s w5 w6 hK hi h5 h6
    refine kb_iload_n X 3 dL_law_18 rfl rfl ?_
    refine kb_aload_n X 0 dL_law_19 rfl rfl ?_
    refine kl_len X Sc dL_law_20 ?_
    refine kb_bipush (v := (7 : Int32)) X dL_law_21 (by decide) ?_
    refine kb_isub X dL_law_23 ?_
    refine kb_icmp_gt (tgt := 1041) X dL_law_24 (by decide) (fun c_ => ?_) (fun c_ => ?_)
    · refine kb_iconst (v := (1 : Int32)) X dL_law_1041 (by decide) ?_
      exact kl_ret X Z (Nat.le_of_ble_eq_true rfl) (Nat.le_of_ble_eq_true rfl) dL_law_1042
    · exact absurd (gt_out (by omega) (by omega) c_) (by omega)
  | succ K_ ih =>
    intro i v us ks tf tn s w5 w6 hK hi h5 h6
    refine kb_iload_n X 3 dL_law_18 rfl rfl ?_
    refine kb_aload_n X 0 dL_law_19 rfl rfl ?_
    refine kl_len X Sc dL_law_20 ?_
    refine kb_bipush (v := (7 : Int32)) X dL_law_21 (by decide) ?_
    refine kb_isub X dL_law_23 ?_
    refine kb_icmp_gt (tgt := 1041) X dL_law_24 (by decide) (fun c_ => ?_) (fun c_ => ?_)
    · refine kb_iconst (v := (1 : Int32)) X dL_law_1041 (by decide) ?_
      exact kl_ret X Z (Nat.le_of_ble_eq_true rfl) (Nat.le_of_ble_eq_true rfl) dL_law_1042
    · have h7 := gt_out (by omega) (by omega) c_
      have C : LCg x g b i m at_ an ar au adu ak adk as_ ao ado a := by
        intro v us ks tf tn s w5 w6 h5 h6
        refine kb_iinc X 3 [1, 2, 3, 0] (v' := nI (i + 7)) dL_law_1035 rfl (nI_add i 7) (by decide) (lv' := [(0, .ref b), (1, .ref m), (2, .ref (a 0)), (3, .int (nI (i + 7)))]) rfl ?_
        refine kb_goto (tgt := 18) X dL_law_1038 (by decide) ?_
        exact ih (i + 7) v us ks tf tn s w5 w6 (by omega) h7 h5 h6
      refine kb_aload_n X 0 dL_law_27 rfl rfl ?_
      refine kb_iload_n X 3 dL_law_28 rfl rfl ?_
      refine kl_ld X Sc (i := i) (by omega) (by omega) dL_law_29 ?_
      refine kb_bipush (v := (31 : Int32)) X dL_law_30 (by decide) ?_
      refine kb_iand X dL_law_32 ?_
      obtain ⟨j, hj, ej⟩ := and31 (xs i)
      refine kw_top (b := .int (nI j)) (by rw [ej]) ?_
      by_cases c0 : j = 0
      · subst c0
        refine kb_tabIn (tgt := 156) X 0 dL_law_33 (by decide) (by decide) rfl (by decide) ?_
        exact lc_write X Sc hL h7 h5 h6 C
      by_cases c1 : j = 1
      · subst c1
        refine kb_tabIn (tgt := 179) X 1 dL_law_33 (by decide) (by decide) rfl (by decide) ?_
        exact lc_wipe X Sc hL h7 h5 h6 C
      by_cases c2 : j = 2
      · subst c2
        refine kb_tabIn (tgt := 192) X 2 dL_law_33 (by decide) (by decide) rfl (by decide) ?_
        exact lc_fault X Sc hL h7 h5 h6 C
      by_cases c3 : j = 3
      · subst c3
        refine kb_tabIn (tgt := 205) X 3 dL_law_33 (by decide) (by decide) rfl (by decide) ?_
        exact lc_lay X Sc hL h7 h5 h6 C
      by_cases c4 : j = 4
      · subst c4
        refine kb_tabIn (tgt := 218) X 4 dL_law_33 (by decide) (by decide) rfl (by decide) ?_
        exact lc_person X Sc hL h7 h5 h6 C
      by_cases c5 : j = 5
      · subst c5
        refine kb_tabIn (tgt := 251) X 5 dL_law_33 (by decide) (by decide) rfl (by decide) ?_
        exact lc_tie X Sc hL h7 h5 h6 C
      by_cases c6 : j = 6
      · subst c6
        refine kb_tabIn (tgt := 284) X 6 dL_law_33 (by decide) (by decide) rfl (by decide) ?_
        exact lc_owes X Sc hL h7 h5 h6 C
      by_cases c7 : j = 7
      · subst c7
        refine kb_tabIn (tgt := 317) X 7 dL_law_33 (by decide) (by decide) rfl (by decide) ?_
        exact lc_trial X Sc hL h7 h5 h6 C
      by_cases c8 : j = 8
      · subst c8
        refine kb_tabIn (tgt := 360) X 8 dL_law_33 (by decide) (by decide) rfl (by decide) ?_
        exact lc_gift X Sc hL h7 h5 h6 C
      by_cases c9 : j = 9
      · subst c9
        refine kb_tabIn (tgt := 393) X 9 dL_law_33 (by decide) (by decide) rfl (by decide) ?_
        exact lc_pay X Sc hL h7 h5 h6 C
      by_cases c10 : j = 10
      · subst c10
        refine kb_tabIn (tgt := 426) X 10 dL_law_33 (by decide) (by decide) rfl (by decide) ?_
        exact lc_die X Sc hL h7 h5 h6 C
      by_cases c11 : j = 11
      · subst c11
        refine kb_tabIn (tgt := 449) X 11 dL_law_33 (by decide) (by decide) rfl (by decide) ?_
        exact lc_pass X Sc hL h7 h5 h6 C
      by_cases c12 : j = 12
      · subst c12
        refine kb_tabIn (tgt := 472) X 12 dL_law_33 (by decide) (by decide) rfl (by decide) ?_
        exact lc_undo X Sc hL h7 h5 h6 C
      by_cases c13 : j = 13
      · subst c13
        refine kb_tabIn (tgt := 485) X 13 dL_law_33 (by decide) (by decide) rfl (by decide) ?_
        exact lc_come X Sc hL h7 h5 h6 C
      by_cases c14 : j = 14
      · subst c14
        refine kb_tabIn (tgt := 538) X 14 dL_law_33 (by decide) (by decide) rfl (by decide) ?_
        exact lc_cheapest X Sc hL h7 h5 h6 C
      by_cases c15 : j = 15
      · subst c15
        refine kb_tabIn (tgt := 581) X 15 dL_law_33 (by decide) (by decide) rfl (by decide) ?_
        exact lc_gifts X Sc hL h7 h5 h6 C
      by_cases c16 : j = 16
      · subst c16
        refine kb_tabIn (tgt := 634) X 16 dL_law_33 (by decide) (by decide) rfl (by decide) ?_
        exact lc_order X Sc hL h7 h5 h6 C
      by_cases c17 : j = 17
      · subst c17
        refine kb_tabIn (tgt := 677) X 17 dL_law_33 (by decide) (by decide) rfl (by decide) ?_
        exact lc_mutual X Sc hL h7 h5 h6 C
      by_cases c18 : j = 18
      · subst c18
        refine kb_tabIn (tgt := 720) X 18 dL_law_33 (by decide) (by decide) rfl (by decide) ?_
        exact lc_see X Sc hL h7 h5 h6 C
      by_cases c19 : j = 19
      · subst c19
        refine kb_tabIn (tgt := 799) X 19 dL_law_33 (by decide) (by decide) rfl (by decide) ?_
        exact lc_forget X Sc hL h7 h5 h6 C
      by_cases c20 : j = 20
      · subst c20
        refine kb_tabIn (tgt := 812) X 20 dL_law_33 (by decide) (by decide) rfl (by decide) ?_
        exact lc_felt X Sc hL h7 h5 h6 C
      by_cases c21 : j = 21
      · subst c21
        refine kb_tabIn (tgt := 845) X 21 dL_law_33 (by decide) (by decide) rfl (by decide) ?_
        exact lc_kinds X Sc hL h7 h5 h6 C
      by_cases c22 : j = 22
      · subst c22
        refine kb_tabIn (tgt := 868) X 22 dL_law_33 (by decide) (by decide) rfl (by decide) ?_
        exact lc_rain X Sc hL h7 h5 h6 C
      by_cases c23 : j = 23
      · subst c23
        refine kb_tabIn (tgt := 943) X 23 dL_law_33 (by decide) (by decide) rfl (by decide) ?_
        exact lc_year X Sc hL h7 h5 h6 C
      by_cases c24 : j = 24
      · subst c24
        refine kb_tabIn (tgt := 986) X 24 dL_law_33 (by decide) (by decide) rfl (by decide) ?_
        exact lc_keep X Sc hL h7 h5 h6 C
      by_cases c25 : j = 25
      · subst c25
        refine kb_tabIn (tgt := 999) X 25 dL_law_33 (by decide) (by decide) rfl (by decide) ?_
        exact lc_back X Sc hL h7 h5 h6 C
      by_cases c26 : j = 26
      · subst c26
        refine kb_tabIn (tgt := 1012) X 26 dL_law_33 (by decide) (by decide) rfl (by decide) ?_
        exact lc_count X Sc hL h7 h5 h6 C
      refine kb_tabOut (tgt := 1035) X dL_law_33 (Or.inr (by rw [nI_toInt (by omega)]; omega)) (by decide) ?_
      exact C _ _ _ _ _ _ _ _ h5 h6
set_option maxHeartbeats 4000000 in
set_option maxRecDepth 100000 in
theorem law_start {x : kw_X} {l : Launch} {g : kw_G} {b L sq sr : Nat} {xs : Nat → Int32} (X : kX l g RL code 4 room_1 x) (S : kSx sq sr x) (Sc : kScr b L xs x) (Z : kLaw b x) (hL : L ≤ 3584) : kW x 0 0 0 [(0, .ref b)] [] [] := by
  refine kb_new (C := RX5) (T := TX5) (N := 7) (ci := 5) (fs := fsX5) X kw_iX5 tyX5 tyX5_ok kc_L_7 ki_X5 kn_X5 rfl df_X5 (Nat.le_of_ble_eq_true rfl) (Nat.le_of_ble_eq_true rfl) dL_law_0 (fun q => ?_)
  show kW x 1 7 3 [(0, .ref b)] [.ref q] [(q, .inr (5, fsX5))]
  refine kb_dup X dL_law_3 rfl ?_
  refine ks_Iv X S (As := []) (rest := [.ref q]) (wc := [(q, .inr (5, fsX5))]) (wr := []) (ct_X5_init sq sr l g q) dL_law_4 rfl (List.Perm.refl _) mc_X5_init kl_L_9 mi_X5_init kn_X5 rfl (na := 0) (by decide +kernel) rfl ⟨Nat.le_of_ble_eq_true rfl, Nat.le_of_ble_eq_true rfl⟩ ⟨rfl, rfl⟩ ⟨Nat.le_of_ble_eq_true rfl, Nat.le_of_ble_eq_true rfl⟩ (Nat.le_of_ble_eq_true rfl) (fun w5 hp_ => ?_)
  obtain ⟨at_, an, ar, au, adu, ak, adk, as_, ao, ado, h5⟩ := hp_
  refine kw_ws (List.append_nil _) ?_
  show kW x 132 2212 7 [(0, .ref b)] [.ref q] w5
  refine kb_astore_n X [1, 0] dL_law_7 rfl (by decide) (lv' := [(0, .ref b), (1, .ref q)]) rfl ?_
  refine kb_new (C := RX6) (T := TX6) (N := 25) (ci := 6) (fs := fsX6) X kw_iX6 tyX6 tyX6_ok kc_L_10 ki_X6 kn_X6 rfl df_X6 (Nat.le_of_ble_eq_true rfl) (Nat.le_of_ble_eq_true rfl) dL_law_8 (fun q6 => ?_)
  show kW x 133 2237 11 [(0, .ref b), (1, .ref q)] [.ref q6] (w5 ++ [(q6, .inr (6, fsX6))])
  refine kb_dup X dL_law_11 rfl ?_
  refine kc_Iv X (As := []) (rest := [.ref q6]) (wc := [(q6, .inr (6, fsX6))]) (wr := w5) (ct_X6_init l g q6) dL_law_12 rfl List.perm_append_comm mc_X6_init kl_L_12 mi_X6_init kn_X6 rfl (na := 0) (by decide +kernel) rfl ⟨Nat.le_of_ble_eq_true rfl, Nat.le_of_ble_eq_true rfl⟩ ⟨rfl, rfl⟩ ⟨Nat.le_of_ble_eq_true rfl, Nat.le_of_ble_eq_true rfl⟩ (Nat.le_of_ble_eq_true rfl) (fun w6 hp_ => ?_)
  obtain ⟨a, ha, h6⟩ := hp_
  subst ha
  refine kw_perm (ws' := w5 ++ w6) List.perm_append_comm ?_
  show kW x 146 3487 15 [(0, .ref b), (1, .ref q)] [.ref (a 0)] (w5 ++ w6)
  refine kb_astore_n X [1, 2, 0] dL_law_15 rfl (by decide) (lv' := [(0, .ref b), (1, .ref q), (2, .ref (a 0))]) rfl ?_
  refine kb_iconst (v := (0 : Int32)) X dL_law_16 (by decide) ?_
  refine kb_istore_n X [1, 2, 3, 0] dL_law_17 rfl (by decide) (lv' := [(0, .ref b), (1, .ref q), (2, .ref (a 0)), (3, .int (nI 0))]) rfl ?_
  exact law_loop X Sc Z hL L 0 _ _ _ _ _ _ w5 w6 (by omega) (Nat.zero_le L) h5 h6
set_option maxHeartbeats 4000000 in
set_option maxRecDepth 100000 in
theorem whole_start {p : Program} {e : Env} {s : State} {m : MethodId} {below : List Frame} {meth : Method} {c : Code} (l : Launch) (hflags : l.flags = flags0) {b L : Nat} {xs : Nat → Int32} (hL : L ≤ 3584) (C0 : lw_At p s m meth c b L xs) : W p l e room_1 s m #[Value.ref b] below meth c s.heap [] 0 0 (lw_Z below #[Value.ref b] s) (entryFrame m ([Value.ref b] : List Value).toArray 4) := by
  obtain ⟨hx, hb, hr, hml, hown, hts, hX, hbl, hlocks, hgv⟩ := id C0
  obtain ⟨g, hg⟩ := kw_E_of hts
  obtain ⟨sq, sr, hStr⟩ := kStr_of hts hgv
  have key := law_start (x := (p, l, e, room_1, s, m, #[Value.ref b], below, meth, c, g, (fun q => s.heap.size ≤ q), s.heap, 4, lw_Z below #[Value.ref b] s)) (l := l) (g := g) (b := b) (L := L) (sq := sq) (sr := sr) (xs := xs)
    ⟨rfl, rfl, rfl, rfl, hx, hb, hml, hown, fun w hw => hts w (List.mem_filter.mp hw).1, hg, fun q h => h, hlocks⟩ ⟨rfl, hStr⟩ ⟨hX, hbl, Nat.not_le.mpr hbl⟩ ⟨rfl, rfl, hr, hlocks, rfl, rfl, rfl⟩ hL
  have hl := lv_entry ([.ref b]) (n := 4) (Nat.le_of_ble_eq_true rfl)
  rw [lg_entry_eq]
  exact key s.heap [] _ (fun k q h => by simp at h) ⟨fun i j p q h => by simp at h, fun k q h => by simp at h⟩ va_S.rf hl
set_option maxHeartbeats 4000000 in
theorem lw_walk (l : Launch) (hflags : l.flags = flags0) (b : Addr) (xs : List Int32) : MetFree l x (headSpec (Jvm.Cond.code x code maxLocals ret :: tables_1) room_1) (lw_P b xs) (fun _ _ _ _ _ => True) lw_Q := by
  refine MetFree.of_bodyS (code := code) (maxLocals := maxLocals) (ret := ret) (by decide) ?_ ?_
  · intro args s m h hn
    obtain ⟨meth, c, h1, h2, h3, h4, h5, h6, -, -⟩ := Cond.code_spec hn (atoms_spec (ws := Jvm.Cond.code x code maxLocals ret :: tables_1) h _ List.mem_cons_self)
    exact ⟨meth, c, h1, h2, h3, h4, h5, h6⟩
  · intro p e s m args below meth c s₁ B hml0 hP _
    obtain ⟨rfl, hx, hbd, hgv⟩ := hP
    obtain ⟨scr, harrAt, hlist, hof, hsmall⟩ := hx
    obtain ⟨hcb, hkn, -, -⟩ := State.arrayAt?_spec harrAt
    have hown : s.vm.findClass R_law = some m.cls := findClass_of_methodNamed B.named
    have hts0 : ∀ c ∈ (Jvm.Cond.code x code maxLocals ret :: tables_1), c.before #[Value.ref b] s = true := atoms_spec (ws := Jvm.Cond.code x code maxLocals ret :: tables_1) B.pre
    have hts : ∀ w ∈ lw_tbl, w.before #[Value.ref b] s = true := k2_hts_sels lw_privs (fun w hw => hts0 w (List.mem_cons_of_mem _ hw)) lw_privs_ok
    have hml : c.maxLocals = 4 := B.maxLocals_eq (hts0 _ List.mem_cons_self)
    have X₀ : Stand p l e room_1 s m #[Value.ref b] below meth c s₁ [] 0 0 := Stand.of_body B
    have hh0 : s₁.heap = s.heap := by rw [B.state]; rfl
    have hsz : scr.slots.size = xs.length := by rw [← Array.length_toList, hlist, List.length_map]
    have hval : ∀ j : Nat, j < xs.length → scr.slots[j]? = some (.int (xs.getD j 0)) := fun j hj => by
      rw [← Array.getElem?_toList, hlist]
      simp [hj]
    have hbl : b < s.heap.size := (Array.getElem?_eq_some_iff.mp hcb).1
    have hX : va_X b xs.length (fun j => xs.getD j 0) s s.heap := ⟨scr, hcb, hof, hkn, hsz, hval⟩
    have K : W p l e room_1 s m #[Value.ref b] below meth c s₁.heap [] 0 0 (lw_Z below #[Value.ref b] s) (entryFrame m ([Value.ref b] : List Value).toArray 4) := by
      rw [hh0]
      exact whole_start l hflags hbd ⟨B.exec, B.bytes, B.returns, hml, hown, hts, hX, hbl, B.notSynchronized, hgv⟩
    obtain ⟨t, a1, o, b1, b2, b3⟩ := K s₁ rfl X₀
    exact ⟨t, o, a1, b1, b2, b3⟩
theorem lw_pre_spec {args : Array Value} {s : State} (h : (Jvm.Cond.and given_1 narrow_1).before args s = true) (hr : rest_1_c.before args s = true) : ∃ (b : Addr) (xs : List Int32), lw_P b xs args s := by
  have hs := flat_of_before _ h
  have hq := flat_of_before _ hr
  have hc : (Cond.count 1).before args s = true := hs _ (by decide +kernel)
  have harr : (Cond.arrayOf (.arg 0) .int).before args s = true := hs _ (by decide +kernel)
  have hle : (Cond.le (.length (.arg 0)) (.int 3584)).before args s = true := hs _ (by decide +kernel)
  have hlen : (Cond.isInt (.length (.arg 0))).before args s = true := hq _ (by decide +kernel)
  have hall : (Cond.all (.arg 0) (.isInt (.elem (.arg 0) (.index 0)))).before args s = true := hq _ (by decide +kernel)
  obtain ⟨b, xs, hb, hx⟩ := State.ints_of_pre rfl harr hlen hall
  have hsm : xs.length < 2 ^ 31 := hx.choose_spec.2.2.2
  have hev : (Term.length (.arg 0)).eval args s none [] s = some (.int xs.length.toInt32) := hx.length_eval hb
  have hv := Cond.le_ints hev (show (Term.int 3584).eval args s none [] s = some (.int 3584) from rfl)
  have hd : xs.length.toInt32 ≤ 3584 := by
    simpa [Cond.before, Cond.holds, hv] using hle
  have hN : xs.length ≤ 3584 := (Int32.ofNat_le_ofNat hsm (by decide)).mp (show Int32.ofNat xs.length ≤ Int32.ofNat 3584 from hd)
  exact ⟨b, xs, Cond.one_arg hc (show args[0]? = some (.ref b) from hb), hx, hN, h⟩
theorem lw_comes (l : Launch) (hflags : l.flags = flags0) : Comes l x (Jvm.Cond.code x code maxLocals ret :: tables_1) room_1 (fun tb e args s => Calls_1 tb e args s ∧ rest_1 tb e args s ∧ Pre_1 tb e args s)
    (fun _ _ args s o t => lw_Q args s o t) := by
  intro p e ha hc hk s m args below hf hfit hheap happ hpre
  obtain ⟨b, xs, hP⟩ := lw_pre_spec hpre.2.2 hpre.2.1
  obtain ⟨k, o, h1, h2, h3, hQ⟩ := lw_walk l hflags b xs p e ha hc hk s m args below hf ((Spec.applies_iff_loose hf).mp happ).1 hP trivial
  exact ⟨k, o, h1, h2, h3, hQ⟩
theorem lw_frame {s t : State} {o : Outcome} {args : Array Value} (h : Framed s o t [] 600000 7302249) :
    Framed s o t (fieldLocs frame_1_writes args s ++ arrayLocs frame_1_arrays args s ++ staticLocs frame_1_statics s) 600000 7302249 := h
theorem lw_limb (L : Cond) (hL : ∀ (args : Array Value) (s t : State), L.after args s (.returned (some (.int 1))) t = true) :
    ArmFor flags0 classFile x code maxLocals ret World_1 tables_1 room_1 Calls_1 rest_1 Pre_1
      (fun tb e a s o t => postC L tb e a s o t ∧ Framed s o t (fieldLocs frame_1_writes a s ++ arrayLocs frame_1_arrays a s ++ staticLocs frame_1_statics s) 600000 7302249) := by
  intro l hflags _ _ p e ha hc hk s m args below hf hfit hheap happ hpre
  obtain ⟨k, o, h1, h2, h3, rfl, hF⟩ := lw_comes l hflags p e ha hc hk s m args below hf hfit hheap happ hpre
  exact ⟨k, _, h1, h2, h3, hL args s _, lw_frame hF⟩
theorem i_vc : Claimed_1_1 ∧ Claimed_1_2 := ⟨lw_limb limb_1_1 (fun args s t => by simp [limb_1_1, Cond.after, Cond.holds, Cond.value]), lw_limb limb_1_2 (fun args s t => Cond.after_iff.mpr (by
  first | (rw [show limb_1_2 = Cond.eq .result (.int 1) from rfl, Cond.eq_ints (x := 1) (y := 1) rfl rfl]; simp; done) | (simp [limb_1_2, Cond.value, Term.eval]; done)))⟩

