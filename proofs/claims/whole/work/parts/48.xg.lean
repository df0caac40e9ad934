set_option maxHeartbeats 4000000 in
set_option maxRecDepth 100000 in
theorem ct_X5_cheapest (l : Launch) (g : kw_G) (m : Nat) (at_ an ar au : Nat → Nat) (adu : Nat → Nat → Nat) (ak : Nat → Nat) (adk : Nat → Nat → Nat) (as_ ao : Nat → Nat) (ado : Nat → Nat → Nat) (t : TS) (v u : VS) (sz tp : Nat) (uvs : Nat → VS) (kz kp : Nat) (kvs : Nat → VS) (s : SS) (oP oB : Nat → Nat) (oL oC : Int32) (oD oZ oM : Nat) (ovs : Nat → VS) (us ks : List VS) (tf : Nat → Nat) (tn : Nat) (hI : XI t sz tp uvs kz kp kvs oB oL oC oD oZ oM ovs v us ks tf tn s) (p st mm : Int32) : kMi l g yX5_cheapest cX5_cheapest 10 .int (kw_rm 5 0 0) 0 0 [.ref (m), .int (p), .int (st), .int (mm)] (List.flatten [wX g m at_ an ar au ak as_ ao, wT g at_ t, wV g an v, wV g ar u, wPh g au adu 8 sz tp, wVs g adu uvs (List.range 8), wPh g ak adk 2 kz kp, wVs g adk kvs (List.range 2), wS g as_ s, wO g ao ado (oP, oB, oL, oC, oD, oZ, oM), wVs g ado ovs (List.range 7)]) (fun r w => r = oCheap v p st mm ∧ XWp g m at_ an ar au adu ak adk as_ ao ado v us ks tf tn s w) := by
  refine kMi_of (by decide +kernel) (Nat.le_of_ble_eq_true rfl) (fun x (X : kX l g RX5 cX5_cheapest 10 (kw_rm 5 0 0) x) (Z : kZi .int _ 0 0 x) => ?_)
  show kW x 0 0 0 [(0, .ref (m)), (1, .int (p)), (2, .int (st)), (3, .int (mm))] [] (List.flatten [wX g m at_ an ar au ak as_ ao, wT g at_ t, wV g an v, wV g ar u, wPh g au adu 8 sz tp, wVs g adu uvs (List.range 8), wPh g ak adk 2 kz kp, wVs g adk kvs (List.range 2), wS g as_ s, wO g ao ado (oP, oB, oL, oC, oD, oZ, oM), wVs g ado ovs (List.range 7)])
  obtain ⟨hG, hU, hKp, hT_, hs, hO⟩ := id hI
  have hv := hG.1
  have hT := hG.2.1
  have hN0 := hG.2.2.2
  have h6 := hv.1
  have hx64 := hv.2.1
  have hh64 := hv.2.2
  obtain ⟨ht, etn, htx⟩ := id hT_
  have hs1 := hs.1
  have hus := hU.1
  have hsz := hU.2.1
  have htp := hU.2.2.1
  have hks := hKp.1
  have hkz := hKp.2.1
  have hkp := hKp.2.2.1
  refine kb_aload_n X 0 dX5_cheapest_0 rfl rfl ?_
  refine kb_iload_n X 1 dX5_cheapest_1 rfl rfl ?_
  refine kb_iload_n X 2 dX5_cheapest_2 rfl rfl ?_
  refine kc_Vi X (As := [.int (p), .int (st)]) (rest := []) (wr := List.flatten [wT g at_ t, wV g ar u, wPh g au adu 8 sz tp, wVs g adu uvs (List.range 8), wPh g ak adk 2 kz kp, wVs g adk kvs (List.range 2), wS g as_ s, wO g ao ado (oP, oB, oL, oC, oD, oZ, oM), wVs g ado ovs (List.range 7)]) (ct_X5_isSetOfOthers l g m at_ an ar au adu ak adk as_ ao ado v p st hv) dX5_cheapest_3 rfl (kw_pk2 [wX g m at_ an ar au ak as_ ao, wT g at_ t, wV g an v, wV g ar u, wPh g au adu 8 sz tp, wVs g adu uvs (List.range 8), wPh g ak adk 2 kz kp, wVs g adk kvs (List.range 2), wS g as_ s, wO g ao ado (oP, oB, oL, oC, oD, oZ, oM), wVs g ado ovs (List.range 7)] 0 1 (Nat.le_of_ble_eq_true rfl) (Nat.le_of_ble_eq_true rfl)) mc_X5_isSetOfOthers kl_X5_176 mi_X5_isSetOfOthers mv_X5_isSetOfOthers kn_X5 0 rfl rfl rfl (na := 2) (by decide +kernel) rfl ⟨Nat.le_of_ble_eq_true rfl, Nat.le_of_ble_eq_true rfl⟩ ⟨rfl, rfl⟩ ⟨Nat.le_of_ble_eq_true rfl, Nat.le_of_ble_eq_true rfl⟩ (Nat.le_of_ble_eq_true rfl) (fun r_ w_ hp_ => ?_)
  obtain ⟨rfl, rfl⟩ := hp_
  refine kw_perm (ws' := List.flatten [wX g m at_ an ar au ak as_ ao, wT g at_ t, wV g an v, wV g ar u, wPh g au adu 8 sz tp, wVs g adu uvs (List.range 8), wPh g ak adk 2 kz kp, wVs g adk kvs (List.range 2), wS g as_ s, wO g ao ado (oP, oB, oL, oC, oD, oZ, oM), wVs g ado ovs (List.range 7)]) (kw_pk2 [wX g m at_ an ar au ak as_ ao, wT g at_ t, wV g an v, wV g ar u, wPh g au adu 8 sz tp, wVs g adu uvs (List.range 8), wPh g ak adk 2 kz kp, wVs g adk kvs (List.range 2), wS g as_ s, wO g ao ado (oP, oB, oL, oC, oD, oZ, oM), wVs g ado ovs (List.range 7)] 0 1 (Nat.le_of_ble_eq_true rfl) (Nat.le_of_ble_eq_true rfl)).symm ?_
  refine kz_if_eq (b := (pin p (vN v) && isS v (P p) st)) (tgt := 18) X dX5_cheapest_6 (by decide) (fun c1_ => ?_) (fun c1_ => ?_)
  · skip
    refine kb_iconst (v := (-1 : Int32)) X dX5_cheapest_18 (by decide) ?_
    refine ke_i X Z dX5_cheapest_19 ?_
    exact ⟨by rw [oCheap, ← Bool.and_assoc, c1_, Bool.false_and]; rfl, XWp.of hI⟩
  · skip
    have cc0_ := c1_
    rw [Bool.and_eq_true] at cc0_
    obtain ⟨cp_, cs_⟩ := cc0_
    obtain ⟨pj, hpj, epj, ePp⟩ := pin_j h6 cp_
    rw [ePp] at cs_
    obtain ⟨sj, hs3, esj, ePs⟩ := isS_j h6 cs_
    refine kb_iload_n X 3 dX5_cheapest_9 rfl rfl ?_
    refine kb_iconst (v := (0 : Int32)) X dX5_cheapest_10 (by decide) ?_
    refine kb_iconst (v := (1 : Int32)) X dX5_cheapest_11 (by decide) ?_
    refine kc_Si X (As := [.int (mm), .int 0, .int 1]) (rest := []) (wr := (List.flatten [wX g m at_ an ar au ak as_ ao, wT g at_ t, wV g an v, wV g ar u, wPh g au adu 8 sz tp, wVs g adu uvs (List.range 8), wPh g ak adk 2 kz kp, wVs g adk kvs (List.range 2), wS g as_ s, wO g ao ado (oP, oB, oL, oC, oD, oZ, oM), wVs g ado ovs (List.range 7)])) (ct_X5_within l g mm (0 : Int32) (1 : Int32) ) dX5_cheapest_12 rfl (List.Perm.refl _) mc_X5_within kl_X5_75 ms_X5_within kn_X5 (na := 3) (by decide +kernel) rfl ⟨Nat.le_of_ble_eq_true rfl, Nat.le_of_ble_eq_true rfl⟩ ⟨rfl, rfl⟩ ⟨Nat.le_of_ble_eq_true rfl, Nat.le_of_ble_eq_true rfl⟩ (Nat.le_of_ble_eq_true rfl) (fun r_ w_ hp_ => ?_)
    obtain ⟨rfl, rfl⟩ := hp_
    refine kw_ws (List.nil_append _) ?_
    refine kz_if_ne (b := inr mm (0 : Int32) (1 : Int32)) (tgt := 20) X dX5_cheapest_15 (by decide) (fun c2_ => ?_) (fun c2_ => ?_)
    · skip
      refine kw_lv (lv' := [(0, .ref (m)), (1, .int (nI (pj))), (2, .int (st)), (3, .int (mm))]) (by rw [epj]) ?_
      refine kw_lv (lv' := [(0, .ref (m)), (1, .int (nI (pj))), (2, .int (nI (sj))), (3, .int (mm))]) (by rw [esj]) ?_
      refine kb_aload_n X 0 dX5_cheapest_20 rfl rfl ?_
      refine kf_get (v := .ref (an 0)) (C := RX5) (T := TX5) (N := 7) (ci := 5) X kw_iX5 rfl 1 0 0 rfl rfl (by decide) kf_X5_19 rfl rfl dX5_cheapest_21 ?_
      refine kb_iload_n X 1 dX5_cheapest_24 rfl rfl ?_
      refine kc_Vi X (As := [.int (nI (pj))]) (rest := []) (wr := List.flatten [wX g m at_ an ar au ak as_ ao, wT g at_ t, wV g ar u, wPh g au adu 8 sz tp, wVs g adu uvs (List.range 8), wPh g ak adk 2 kz kp, wVs g adk kvs (List.range 2), wS g as_ s, wO g ao ado (oP, oB, oL, oC, oD, oZ, oM), wVs g ado ovs (List.range 7)]) (ct_X4_lives l g an v hv pj (by omega)) dX5_cheapest_25 rfl (kw_pk [wX g m at_ an ar au ak as_ ao, wT g at_ t, wV g an v, wV g ar u, wPh g au adu 8 sz tp, wVs g adu uvs (List.range 8), wPh g ak adk 2 kz kp, wVs g adk kvs (List.range 2), wS g as_ s, wO g ao ado (oP, oB, oL, oC, oD, oZ, oM), wVs g ado ovs (List.range 7)] 2 (Nat.le_of_ble_eq_true rfl)) mc_X4_lives kl_X5_112 mi_X4_lives mv_X4_lives kn_X4 0 rfl rfl rfl (na := 1) (by decide +kernel) rfl ⟨Nat.le_of_ble_eq_true rfl, Nat.le_of_ble_eq_true rfl⟩ ⟨rfl, rfl⟩ ⟨Nat.le_of_ble_eq_true rfl, Nat.le_of_ble_eq_true rfl⟩ (Nat.le_of_ble_eq_true rfl) (fun r_ w_ hp_ => ?_)
      obtain ⟨rfl, rfl⟩ := hp_
      refine kw_perm (ws' := List.flatten [wX g m at_ an ar au ak as_ ao, wT g at_ t, wV g an v, wV g ar u, wPh g au adu 8 sz tp, wVs g adu uvs (List.range 8), wPh g ak adk 2 kz kp, wVs g adk kvs (List.range 2), wS g as_ s, wO g ao ado (oP, oB, oL, oC, oD, oZ, oM), wVs g ado ovs (List.range 7)]) (kw_pk [wX g m at_ an ar au ak as_ ao, wT g at_ t, wV g an v, wV g ar u, wPh g au adu 8 sz tp, wVs g adu uvs (List.range 8), wPh g ak adk 2 kz kp, wVs g adk kvs (List.range 2), wS g as_ s, wO g ao ado (oP, oB, oL, oC, oD, oZ, oM), wVs g ado ovs (List.range 7)] 2 (Nat.le_of_ble_eq_true rfl)).symm ?_
      refine kz_if_ne (b := wLives v pj) (tgt := 34) X dX5_cheapest_28 (by decide) (fun c3_ => ?_) (fun c3_ => ?_)
      · skip
        refine kb_bipush (v := (-4 : Int32)) X dX5_cheapest_34 (by decide) ?_
        refine kb_istore X [1, 2, 3, 4, 0] dX5_cheapest_36 (by decide) (lv' := [(0, .ref (m)), (1, .int (nI (pj))), (2, .int (nI (sj))), (3, .int (mm)), (4, .int (-4))]) rfl ?_
        refine kb_bipush (v := (-4 : Int32)) X dX5_cheapest_38 (by decide) ?_
        refine kb_istore X [1, 2, 3, 4, 5, 0] dX5_cheapest_40 (by decide) (lv' := [(0, .ref (m)), (1, .int (nI (pj))), (2, .int (nI (sj))), (3, .int (mm)), (4, .int (-4)), (5, .int (-4))]) rfl ?_
        refine kb_iconst (v := (0 : Int32)) X dX5_cheapest_42 (by decide) ?_
        refine kb_istore X [1, 2, 3, 4, 5, 6, 0] dX5_cheapest_43 (by decide) (lv' := [(0, .ref (m)), (1, .int (nI (pj))), (2, .int (nI (sj))), (3, .int (mm)), (4, .int (-4)), (5, .int (-4)), (6, .int 0)]) rfl ?_
        have L45 : ∀ (K_ b_ : Nat), b_ + K_ = 4 → kW x 0 0 45 [(0, .ref (m)), (1, .int (nI (pj))), (2, .int (nI (sj))), (3, .int (mm)), (4, .int (chL (ch v pj sj (4 * b_)))), (5, .int (chF (ch v pj sj (4 * b_)))), (6, .int (nI (b_)))] [] (List.flatten [wX g m at_ an ar au ak as_ ao, wT g at_ t, wV g an v, wV g ar u, wPh g au adu 8 sz tp, wVs g adu uvs (List.range 8), wPh g ak adk 2 kz kp, wVs g adk kvs (List.range 2), wS g as_ s, wO g ao ado (oP, oB, oL, oC, oD, oZ, oM), wVs g ado ovs (List.range 7)]) := by
          intro K_
          induction K_ with
          | zero =>
            intro b_ hb_
            refine kb_iload X 6 dX5_cheapest_45 rfl ?_
            refine kb_iconst (v := (3 : Int32)) X dX5_cheapest_47 (by decide) ?_
            refine kn_icmp_gt (a := b_) (b := 3) (tgt := 139) X (by omega) (by omega) dX5_cheapest_48 (by decide) (fun c4_ => ?_) (fun c4_ => ?_)
            · skip
              refine kb_iload_n X 3 dX5_cheapest_139 rfl rfl ?_
              refine kb_if_ne (tgt := 148) X dX5_cheapest_140 (by decide) (fun c5_ => ?_) (fun c5_ => ?_)
              · skip
                refine kb_iload X 5 dX5_cheapest_148 rfl ?_
                refine ke_i X Z dX5_cheapest_150 ?_
                have e4_ : b_ = 4 := by omega
                subst e4_
                exact ⟨by simp [oCheap, cp_, ePp, cs_, ePs, c2_, c3_, c4_, c5_, (by decide : inr 0 0 1 = true), (by decide : inr 1 0 1 = true)], XWp.of hI⟩
              · skip
                refine kb_iload X 4 dX5_cheapest_143 rfl ?_
                refine kb_goto (tgt := 150) X dX5_cheapest_145 (by decide) ?_
                refine ke_i X Z dX5_cheapest_150 ?_
                have e4_ : b_ = 4 := by omega
                subst e4_
                exact ⟨by simp [oCheap, cp_, ePp, cs_, ePs, c2_, c3_, c4_, c5_, (by decide : inr 0 0 1 = true), (by decide : inr 1 0 1 = true)], XWp.of hI⟩
            · skip
              have hb4_ : b_ < 4 := by omega
              omega
          | succ K_ ih =>
            intro b_ hb_
            refine kb_iload X 6 dX5_cheapest_45 rfl ?_
            refine kb_iconst (v := (3 : Int32)) X dX5_cheapest_47 (by decide) ?_
            refine kn_icmp_gt (a := b_) (b := 3) (tgt := 139) X (by omega) (by omega) dX5_cheapest_48 (by decide) (fun c6_ => ?_) (fun c6_ => ?_)
            · skip
              omega
            · skip
              have hb4_ : b_ < 4 := by omega
              refine kb_iconst (v := (0 : Int32)) X dX5_cheapest_51 (by decide) ?_
              refine kb_istore X [1, 2, 3, 4, 5, 6, 7, 0] dX5_cheapest_52 (by decide) (lv' := [(0, .ref (m)), (1, .int (nI (pj))), (2, .int (nI (sj))), (3, .int (mm)), (4, .int (chL (ch v pj sj (4 * b_)))), (5, .int (chF (ch v pj sj (4 * b_)))), (6, .int (nI (b_))), (7, .int 0)]) rfl ?_
              have L54 : ∀ (K_ c_ : Nat), c_ + K_ = 4 → kW x 0 0 54 [(0, .ref (m)), (1, .int (nI (pj))), (2, .int (nI (sj))), (3, .int (mm)), (4, .int (chL (ch v pj sj (4 * b_ + c_)))), (5, .int (chF (ch v pj sj (4 * b_ + c_)))), (6, .int (nI (b_))), (7, .int (nI (c_)))] [] (List.flatten [wX g m at_ an ar au ak as_ ao, wT g at_ t, wV g an v, wV g ar u, wPh g au adu 8 sz tp, wVs g adu uvs (List.range 8), wPh g ak adk 2 kz kp, wVs g adk kvs (List.range 2), wS g as_ s, wO g ao ado (oP, oB, oL, oC, oD, oZ, oM), wVs g ado ovs (List.range 7)]) := by
                intro K_
                induction K_ with
                | zero =>
                  intro c_ hc_
                  have hG_ := wGuests_lt v pj (nI b_) (nI c_) h6
                  refine kb_iload X 7 dX5_cheapest_54 rfl ?_
                  refine kb_iconst (v := (3 : Int32)) X dX5_cheapest_56 (by decide) ?_
                  refine kn_icmp_gt (a := c_) (b := 3) (tgt := 133) X (by omega) (by omega) dX5_cheapest_57 (by decide) (fun c7_ => ?_) (fun c7_ => ?_)
                  · skip
                    refine kw_lvs [0, 1, 2, 3, 4, 5, 6] (lv' := [(0, .ref (m)), (1, .int (nI (pj))), (2, .int (nI (sj))), (3, .int (mm)), (4, .int (chL (ch v pj sj (4 * b_ + c_)))), (5, .int (chF (ch v pj sj (4 * b_ + c_)))), (6, .int (nI (b_)))]) rfl ?_
                    refine kw_lv (lv' := [(0, .ref (m)), (1, .int (nI (pj))), (2, .int (nI (sj))), (3, .int (mm)), (4, .int (chL (ch v pj sj (4 * (b_ + 1))))), (5, .int (chF (ch v pj sj (4 * (b_ + 1))))), (6, .int (nI (b_)))]) (by rw [show 4 * (b_ + 1) = 4 * b_ + c_ by omega]) ?_
                    refine kb_iinc X 6 [1, 2, 3, 4, 5, 6, 0] (v' := nI (b_ + 1)) dX5_cheapest_133 rfl (nI_add _ _) (by decide) (lv' := [(0, .ref (m)), (1, .int (nI (pj))), (2, .int (nI (sj))), (3, .int (mm)), (4, .int (chL (ch v pj sj (4 * (b_ + 1))))), (5, .int (chF (ch v pj sj (4 * (b_ + 1))))), (6, .int (nI (b_ + 1)))]) rfl ?_
                    refine kb_goto (tgt := 45) X dX5_cheapest_136 (by decide) ?_
                    exact kw_to (ih (b_ + 1) (by omega)) rfl rfl rfl
                  · skip
                    have hc4_ : c_ < 4 := by omega
                    omega
                | succ K_ ih2 =>
                  intro c_ hc_
                  have hG_ := wGuests_lt v pj (nI b_) (nI c_) h6
                  refine kb_iload X 7 dX5_cheapest_54 rfl ?_
                  refine kb_iconst (v := (3 : Int32)) X dX5_cheapest_56 (by decide) ?_
                  refine kn_icmp_gt (a := c_) (b := 3) (tgt := 133) X (by omega) (by omega) dX5_cheapest_57 (by decide) (fun c8_ => ?_) (fun c8_ => ?_)
                  · skip
                    omega
                  · skip
                    have hc4_ : c_ < 4 := by omega
                    refine kb_iload X 6 dX5_cheapest_60 rfl ?_
                    refine kb_iload X 7 dX5_cheapest_62 rfl ?_
                    refine kc_Si X (As := [.int (nI (b_)), .int (nI (c_))]) (rest := []) (wr := (List.flatten [wX g m at_ an ar au ak as_ ao, wT g at_ t, wV g an v, wV g ar u, wPh g au adu 8 sz tp, wVs g adu uvs (List.range 8), wPh g ak adk 2 kz kp, wVs g adk kvs (List.range 2), wS g as_ s, wO g ao ado (oP, oB, oL, oC, oD, oZ, oM), wVs g ado ovs (List.range 7)])) (ct_X5_costOf l g (nI (b_)) (nI (c_)) ) dX5_cheapest_64 rfl (List.Perm.refl _) mc_X5_costOf kl_X5_179 ms_X5_costOf kn_X5 (na := 2) (by decide +kernel) rfl ⟨Nat.le_of_ble_eq_true rfl, Nat.le_of_ble_eq_true rfl⟩ ⟨rfl, rfl⟩ ⟨Nat.le_of_ble_eq_true rfl, Nat.le_of_ble_eq_true rfl⟩ (Nat.le_of_ble_eq_true rfl) (fun r_ w_ hp_ => ?_)
                    obtain ⟨rfl, rfl⟩ := hp_
                    refine kw_ws (List.nil_append _) ?_
                    refine kw_top (b := .int (nI (kCost (4 * b_ + c_)))) (by rw [cost_n b_ hb4_ c_ hc4_]) ?_
                    refine kb_istore X [1, 2, 3, 4, 5, 6, 7, 8, 0] dX5_cheapest_67 (by decide) (lv' := [(0, .ref (m)), (1, .int (nI (pj))), (2, .int (nI (sj))), (3, .int (mm)), (4, .int (chL (ch v pj sj (4 * b_ + c_)))), (5, .int (chF (ch v pj sj (4 * b_ + c_)))), (6, .int (nI (b_))), (7, .int (nI (c_))), (8, .int (nI (kCost (4 * b_ + c_))))]) rfl ?_
                    refine kb_iload X 4 dX5_cheapest_69 rfl ?_
                    refine kb_bipush (v := (-4 : Int32)) X dX5_cheapest_71 (by decide) ?_
                    refine kb_icmp_eq (tgt := 83) X dX5_cheapest_73 (by decide) (fun c9_ => ?_) (fun c9_ => ?_)
                    · skip
                      have hl_ : chL (ch v pj sj (4 * b_ + c_)) = -4 ∨ ¬ chL (ch v pj sj (4 * b_ + c_)) ≤ nI (kCost (4 * b_ + c_)) := Or.inl c9_
                      refine kb_iconst (v := (1 : Int32)) X dX5_cheapest_83 (by decide) ?_
                      refine kb_goto (tgt := 88) X dX5_cheapest_84 (by decide) ?_
                      refine kb_istore X [1, 2, 3, 4, 5, 6, 7, 8, 9, 0] dX5_cheapest_88 (by decide) (lv' := [(0, .ref (m)), (1, .int (nI (pj))), (2, .int (nI (sj))), (3, .int (mm)), (4, .int (chL (ch v pj sj (4 * b_ + c_)))), (5, .int (chF (ch v pj sj (4 * b_ + c_)))), (6, .int (nI (b_))), (7, .int (nI (c_))), (8, .int (nI (kCost (4 * b_ + c_)))), (9, .int 1)]) rfl ?_
                      refine kb_iload X 9 dX5_cheapest_90 rfl ?_
                      refine kb_if_eq (tgt := 127) X dX5_cheapest_92 (by decide) (fun q_ => absurd q_ (by decide)) (fun _ => ?_)
                      refine kb_aload_n X 0 dX5_cheapest_95 rfl rfl ?_
                      refine kf_get (v := .ref (an 0)) (C := RX5) (T := TX5) (N := 7) (ci := 5) X kw_iX5 rfl 1 0 0 rfl rfl (by decide) kf_X5_19 rfl rfl dX5_cheapest_96 ?_
                      refine kb_iload_n X 1 dX5_cheapest_99 rfl rfl ?_
                      refine kb_iload X 6 dX5_cheapest_100 rfl ?_
                      refine kb_iload X 7 dX5_cheapest_102 rfl ?_
                      refine kc_Vi X (As := [.int (nI (pj)), .int (nI (b_)), .int (nI (c_))]) (rest := []) (wr := List.flatten [wX g m at_ an ar au ak as_ ao, wT g at_ t, wV g ar u, wPh g au adu 8 sz tp, wVs g adu uvs (List.range 8), wPh g ak adk 2 kz kp, wVs g adk kvs (List.range 2), wS g as_ s, wO g ao ado (oP, oB, oL, oC, oD, oZ, oM), wVs g ado ovs (List.range 7)]) (ct_X4_guestsOf l g an v hv pj (nI (b_)) (nI (c_)) (by omega)) dX5_cheapest_104 rfl (kw_pk [wX g m at_ an ar au ak as_ ao, wT g at_ t, wV g an v, wV g ar u, wPh g au adu 8 sz tp, wVs g adu uvs (List.range 8), wPh g ak adk 2 kz kp, wVs g adk kvs (List.range 2), wS g as_ s, wO g ao ado (oP, oB, oL, oC, oD, oZ, oM), wVs g ado ovs (List.range 7)] 2 (Nat.le_of_ble_eq_true rfl)) mc_X4_guestsOf kl_X5_168 mi_X4_guestsOf mv_X4_guestsOf kn_X4 0 rfl rfl rfl (na := 3) (by decide +kernel) rfl ⟨Nat.le_of_ble_eq_true rfl, Nat.le_of_ble_eq_true rfl⟩ ⟨rfl, rfl⟩ ⟨Nat.le_of_ble_eq_true rfl, Nat.le_of_ble_eq_true rfl⟩ (Nat.le_of_ble_eq_true rfl) (fun r_ w_ hp_ => ?_)
                      obtain ⟨rfl, rfl⟩ := hp_
                      refine kw_perm (ws' := List.flatten [wX g m at_ an ar au ak as_ ao, wT g at_ t, wV g an v, wV g ar u, wPh g au adu 8 sz tp, wVs g adu uvs (List.range 8), wPh g ak adk 2 kz kp, wVs g adk kvs (List.range 2), wS g as_ s, wO g ao ado (oP, oB, oL, oC, oD, oZ, oM), wVs g ado ovs (List.range 7)]) (kw_pk [wX g m at_ an ar au ak as_ ao, wT g at_ t, wV g an v, wV g ar u, wPh g au adu 8 sz tp, wVs g adu uvs (List.range 8), wPh g ak adk 2 kz kp, wVs g adk kvs (List.range 2), wS g as_ s, wO g ao ado (oP, oB, oL, oC, oD, oZ, oM), wVs g ado ovs (List.range 7)] 2 (Nat.le_of_ble_eq_true rfl)).symm ?_
                      refine kb_iload_n X 2 dX5_cheapest_107 rfl rfl ?_
                      refine kb_iand X dX5_cheapest_108 ?_
                      refine kb_iload_n X 2 dX5_cheapest_109 rfl rfl ?_
                      refine kb_icmp_ne (tgt := 127) X dX5_cheapest_110 (by decide) (fun c11_ => ?_) (fun c11_ => ?_)
                      · skip
                        have hg_ := c11_
                        refine kw_lvs [0, 1, 2, 3, 4, 5, 6, 7] (lv' := [(0, .ref (m)), (1, .int (nI (pj))), (2, .int (nI (sj))), (3, .int (mm)), (4, .int (chL (ch v pj sj (4 * b_ + c_)))), (5, .int (chF (ch v pj sj (4 * b_ + c_)))), (6, .int (nI (b_))), (7, .int (nI (c_)))]) rfl ?_
                        refine kb_iinc X 7 [1, 2, 3, 4, 5, 6, 7, 0] (v' := nI (c_ + 1)) dX5_cheapest_127 rfl (nI_add _ _) (by decide) (lv' := [(0, .ref (m)), (1, .int (nI (pj))), (2, .int (nI (sj))), (3, .int (mm)), (4, .int (chL (ch v pj sj (4 * b_ + c_)))), (5, .int (chF (ch v pj sj (4 * b_ + c_)))), (6, .int (nI (b_))), (7, .int (nI (c_ + 1)))]) rfl ?_
                        refine kb_goto (tgt := 54) X dX5_cheapest_130 (by decide) ?_
                        exact kw_to (ih2 (c_ + 1) (by omega)) (by rw [show 4 * b_ + (c_ + 1) = 4 * b_ + c_ + 1 from rfl, ch_no hb4_ hc4_ (Or.inr hg_)]) rfl rfl
                      · skip
                        have hg_ := c11_
                        refine kb_iload X 8 dX5_cheapest_113 rfl ?_
                        refine kb_istore X [1, 2, 3, 4, 0, 5, 6, 7, 8, 9] dX5_cheapest_115 (by decide) (lv' := [(0, .ref (m)), (1, .int (nI (pj))), (2, .int (nI (sj))), (3, .int (mm)), (4, .int (nI (kCost (4 * b_ + c_)))), (5, .int (chF (ch v pj sj (4 * b_ + c_)))), (6, .int (nI (b_))), (7, .int (nI (c_))), (8, .int (nI (kCost (4 * b_ + c_)))), (9, .int 1)]) rfl ?_
                        refine kb_bipush (v := (10 : Int32)) X dX5_cheapest_117 (by decide) ?_
                        refine kb_iload X 6 dX5_cheapest_119 rfl ?_
                        refine kn_imul X 10 b_ dX5_cheapest_121 ?_
                        refine kb_iload X 7 dX5_cheapest_122 rfl ?_
                        refine kn_iadd X (10 * b_) c_ dX5_cheapest_124 ?_
                        refine kb_istore X [1, 2, 3, 4, 5, 0, 6, 7, 8, 9] dX5_cheapest_125 (by decide) (lv' := [(0, .ref (m)), (1, .int (nI (pj))), (2, .int (nI (sj))), (3, .int (mm)), (4, .int (nI (kCost (4 * b_ + c_)))), (5, .int (nI ((10 * b_) + c_))), (6, .int (nI (b_))), (7, .int (nI (c_))), (8, .int (nI (kCost (4 * b_ + c_)))), (9, .int 1)]) rfl ?_
                        refine kw_lvs [0, 1, 2, 3, 4, 5, 6, 7] (lv' := [(0, .ref (m)), (1, .int (nI (pj))), (2, .int (nI (sj))), (3, .int (mm)), (4, .int (nI (kCost (4 * b_ + c_)))), (5, .int (nI ((10 * b_) + c_))), (6, .int (nI (b_))), (7, .int (nI (c_)))]) rfl ?_
                        refine kb_iinc X 7 [1, 2, 3, 4, 5, 6, 7, 0] (v' := nI (c_ + 1)) dX5_cheapest_127 rfl (nI_add _ _) (by decide) (lv' := [(0, .ref (m)), (1, .int (nI (pj))), (2, .int (nI (sj))), (3, .int (mm)), (4, .int (nI (kCost (4 * b_ + c_)))), (5, .int (nI ((10 * b_) + c_))), (6, .int (nI (b_))), (7, .int (nI (c_ + 1)))]) rfl ?_
                        refine kb_goto (tgt := 54) X dX5_cheapest_130 (by decide) ?_
                        exact kw_to (ih2 (c_ + 1) (by omega)) (by rw [show 4 * b_ + (c_ + 1) = 4 * b_ + c_ + 1 from rfl, ch_yes hb4_ hc4_ hl_ hg_]; simp only [chL, chF]; rw [show (4 * b_ + c_) / 4 = b_ by omega, show (4 * b_ + c_) % 4 = c_ by omega]) rfl rfl
                    · skip
                      have hl1_ := c9_
                      refine kb_iload X 8 dX5_cheapest_76 rfl ?_
                      refine kb_iload X 4 dX5_cheapest_78 rfl ?_
                      refine kb_icmp_ge (tgt := 87) X dX5_cheapest_80 (by decide) (fun c12_ => ?_) (fun c12_ => ?_)
                      · skip
                        have hl_ := c12_
                        refine kb_iconst (v := (0 : Int32)) X dX5_cheapest_87 (by decide) ?_
                        refine kb_istore X [1, 2, 3, 4, 5, 6, 7, 8, 9, 0] dX5_cheapest_88 (by decide) (lv' := [(0, .ref (m)), (1, .int (nI (pj))), (2, .int (nI (sj))), (3, .int (mm)), (4, .int (chL (ch v pj sj (4 * b_ + c_)))), (5, .int (chF (ch v pj sj (4 * b_ + c_)))), (6, .int (nI (b_))), (7, .int (nI (c_))), (8, .int (nI (kCost (4 * b_ + c_)))), (9, .int 0)]) rfl ?_
                        refine kb_iload X 9 dX5_cheapest_90 rfl ?_
                        refine kb_if_eq (tgt := 127) X dX5_cheapest_92 (by decide) (fun _ => ?_) (fun q_ => absurd q_ (by decide))
                        refine kw_lvs [0, 1, 2, 3, 4, 5, 6, 7] (lv' := [(0, .ref (m)), (1, .int (nI (pj))), (2, .int (nI (sj))), (3, .int (mm)), (4, .int (chL (ch v pj sj (4 * b_ + c_)))), (5, .int (chF (ch v pj sj (4 * b_ + c_)))), (6, .int (nI (b_))), (7, .int (nI (c_)))]) rfl ?_
                        refine kb_iinc X 7 [1, 2, 3, 4, 5, 6, 7, 0] (v' := nI (c_ + 1)) dX5_cheapest_127 rfl (nI_add _ _) (by decide) (lv' := [(0, .ref (m)), (1, .int (nI (pj))), (2, .int (nI (sj))), (3, .int (mm)), (4, .int (chL (ch v pj sj (4 * b_ + c_)))), (5, .int (chF (ch v pj sj (4 * b_ + c_)))), (6, .int (nI (b_))), (7, .int (nI (c_ + 1)))]) rfl ?_
                        refine kb_goto (tgt := 54) X dX5_cheapest_130 (by decide) ?_
                        exact kw_to (ih2 (c_ + 1) (by omega)) (by rw [show 4 * b_ + (c_ + 1) = 4 * b_ + c_ + 1 from rfl, ch_no hb4_ hc4_ (Or.inl ⟨hl1_, hl_⟩)]) rfl rfl
                      · skip
                        have hl_ : chL (ch v pj sj (4 * b_ + c_)) = -4 ∨ ¬ chL (ch v pj sj (4 * b_ + c_)) ≤ nI (kCost (4 * b_ + c_)) := Or.inr c12_
                        refine kb_iconst (v := (1 : Int32)) X dX5_cheapest_83 (by decide) ?_
                        refine kb_goto (tgt := 88) X dX5_cheapest_84 (by decide) ?_
                        refine kb_istore X [1, 2, 3, 4, 5, 6, 7, 8, 9, 0] dX5_cheapest_88 (by decide) (lv' := [(0, .ref (m)), (1, .int (nI (pj))), (2, .int (nI (sj))), (3, .int (mm)), (4, .int (chL (ch v pj sj (4 * b_ + c_)))), (5, .int (chF (ch v pj sj (4 * b_ + c_)))), (6, .int (nI (b_))), (7, .int (nI (c_))), (8, .int (nI (kCost (4 * b_ + c_)))), (9, .int 1)]) rfl ?_
                        refine kb_iload X 9 dX5_cheapest_90 rfl ?_
                        refine kb_if_eq (tgt := 127) X dX5_cheapest_92 (by decide) (fun q_ => absurd q_ (by decide)) (fun _ => ?_)
                        refine kb_aload_n X 0 dX5_cheapest_95 rfl rfl ?_
                        refine kf_get (v := .ref (an 0)) (C := RX5) (T := TX5) (N := 7) (ci := 5) X kw_iX5 rfl 1 0 0 rfl rfl (by decide) kf_X5_19 rfl rfl dX5_cheapest_96 ?_
                        refine kb_iload_n X 1 dX5_cheapest_99 rfl rfl ?_
                        refine kb_iload X 6 dX5_cheapest_100 rfl ?_
                        refine kb_iload X 7 dX5_cheapest_102 rfl ?_
                        refine kc_Vi X (As := [.int (nI (pj)), .int (nI (b_)), .int (nI (c_))]) (rest := []) (wr := List.flatten [wX g m at_ an ar au ak as_ ao, wT g at_ t, wV g ar u, wPh g au adu 8 sz tp, wVs g adu uvs (List.range 8), wPh g ak adk 2 kz kp, wVs g adk kvs (List.range 2), wS g as_ s, wO g ao ado (oP, oB, oL, oC, oD, oZ, oM), wVs g ado ovs (List.range 7)]) (ct_X4_guestsOf l g an v hv pj (nI (b_)) (nI (c_)) (by omega)) dX5_cheapest_104 rfl (kw_pk [wX g m at_ an ar au ak as_ ao, wT g at_ t, wV g an v, wV g ar u, wPh g au adu 8 sz tp, wVs g adu uvs (List.range 8), wPh g ak adk 2 kz kp, wVs g adk kvs (List.range 2), wS g as_ s, wO g ao ado (oP, oB, oL, oC, oD, oZ, oM), wVs g ado ovs (List.range 7)] 2 (Nat.le_of_ble_eq_true rfl)) mc_X4_guestsOf kl_X5_168 mi_X4_guestsOf mv_X4_guestsOf kn_X4 0 rfl rfl rfl (na := 3) (by decide +kernel) rfl ⟨Nat.le_of_ble_eq_true rfl, Nat.le_of_ble_eq_true rfl⟩ ⟨rfl, rfl⟩ ⟨Nat.le_of_ble_eq_true rfl, Nat.le_of_ble_eq_true rfl⟩ (Nat.le_of_ble_eq_true rfl) (fun r_ w_ hp_ => ?_)
                        obtain ⟨rfl, rfl⟩ := hp_
                        refine kw_perm (ws' := List.flatten [wX g m at_ an ar au ak as_ ao, wT g at_ t, wV g an v, wV g ar u, wPh g au adu 8 sz tp, wVs g adu uvs (List.range 8), wPh g ak adk 2 kz kp, wVs g adk kvs (List.range 2), wS g as_ s, wO g ao ado (oP, oB, oL, oC, oD, oZ, oM), wVs g ado ovs (List.range 7)]) (kw_pk [wX g m at_ an ar au ak as_ ao, wT g at_ t, wV g an v, wV g ar u, wPh g au adu 8 sz tp, wVs g adu uvs (List.range 8), wPh g ak adk 2 kz kp, wVs g adk kvs (List.range 2), wS g as_ s, wO g ao ado (oP, oB, oL, oC, oD, oZ, oM), wVs g ado ovs (List.range 7)] 2 (Nat.le_of_ble_eq_true rfl)).symm ?_
                        refine kb_iload_n X 2 dX5_cheapest_107 rfl rfl ?_
                        refine kb_iand X dX5_cheapest_108 ?_
                        refine kb_iload_n X 2 dX5_cheapest_109 rfl rfl ?_
                        refine kb_icmp_ne (tgt := 127) X dX5_cheapest_110 (by decide) (fun c15_ => ?_) (fun c15_ => ?_)
                        · skip
                          have hg_ := c15_
                          refine kw_lvs [0, 1, 2, 3, 4, 5, 6, 7] (lv' := [(0, .ref (m)), (1, .int (nI (pj))), (2, .int (nI (sj))), (3, .int (mm)), (4, .int (chL (ch v pj sj (4 * b_ + c_)))), (5, .int (chF (ch v pj sj (4 * b_ + c_)))), (6, .int (nI (b_))), (7, .int (nI (c_)))]) rfl ?_
                          refine kb_iinc X 7 [1, 2, 3, 4, 5, 6, 7, 0] (v' := nI (c_ + 1)) dX5_cheapest_127 rfl (nI_add _ _) (by decide) (lv' := [(0, .ref (m)), (1, .int (nI (pj))), (2, .int (nI (sj))), (3, .int (mm)), (4, .int (chL (ch v pj sj (4 * b_ + c_)))), (5, .int (chF (ch v pj sj (4 * b_ + c_)))), (6, .int (nI (b_))), (7, .int (nI (c_ + 1)))]) rfl ?_
                          refine kb_goto (tgt := 54) X dX5_cheapest_130 (by decide) ?_
                          exact kw_to (ih2 (c_ + 1) (by omega)) (by rw [show 4 * b_ + (c_ + 1) = 4 * b_ + c_ + 1 from rfl, ch_no hb4_ hc4_ (Or.inr hg_)]) rfl rfl
                        · skip
                          have hg_ := c15_
                          refine kb_iload X 8 dX5_cheapest_113 rfl ?_
                          refine kb_istore X [1, 2, 3, 4, 0, 5, 6, 7, 8, 9] dX5_cheapest_115 (by decide) (lv' := [(0, .ref (m)), (1, .int (nI (pj))), (2, .int (nI (sj))), (3, .int (mm)), (4, .int (nI (kCost (4 * b_ + c_)))), (5, .int (chF (ch v pj sj (4 * b_ + c_)))), (6, .int (nI (b_))), (7, .int (nI (c_))), (8, .int (nI (kCost (4 * b_ + c_)))), (9, .int 1)]) rfl ?_
                          refine kb_bipush (v := (10 : Int32)) X dX5_cheapest_117 (by decide) ?_
                          refine kb_iload X 6 dX5_cheapest_119 rfl ?_
                          refine kn_imul X 10 b_ dX5_cheapest_121 ?_
                          refine kb_iload X 7 dX5_cheapest_122 rfl ?_
                          refine kn_iadd X (10 * b_) c_ dX5_cheapest_124 ?_
                          refine kb_istore X [1, 2, 3, 4, 5, 0, 6, 7, 8, 9] dX5_cheapest_125 (by decide) (lv' := [(0, .ref (m)), (1, .int (nI (pj))), (2, .int (nI (sj))), (3, .int (mm)), (4, .int (nI (kCost (4 * b_ + c_)))), (5, .int (nI ((10 * b_) + c_))), (6, .int (nI (b_))), (7, .int (nI (c_))), (8, .int (nI (kCost (4 * b_ + c_)))), (9, .int 1)]) rfl ?_
                          refine kw_lvs [0, 1, 2, 3, 4, 5, 6, 7] (lv' := [(0, .ref (m)), (1, .int (nI (pj))), (2, .int (nI (sj))), (3, .int (mm)), (4, .int (nI (kCost (4 * b_ + c_)))), (5, .int (nI ((10 * b_) + c_))), (6, .int (nI (b_))), (7, .int (nI (c_)))]) rfl ?_
                          refine kb_iinc X 7 [1, 2, 3, 4, 5, 6, 7, 0] (v' := nI (c_ + 1)) dX5_cheapest_127 rfl (nI_add _ _) (by decide) (lv' := [(0, .ref (m)), (1, .int (nI (pj))), (2, .int (nI (sj))), (3, .int (mm)), (4, .int (nI (kCost (4 * b_ + c_)))), (5, .int (nI ((10 * b_) + c_))), (6, .int (nI (b_))), (7, .int (nI (c_ + 1)))]) rfl ?_
                          refine kb_goto (tgt := 54) X dX5_cheapest_130 (by decide) ?_
                          exact kw_to (ih2 (c_ + 1) (by omega)) (by rw [show 4 * b_ + (c_ + 1) = 4 * b_ + c_ + 1 from rfl, ch_yes hb4_ hc4_ hl_ hg_]; simp only [chL, chF]; rw [show (4 * b_ + c_) / 4 = b_ by omega, show (4 * b_ + c_) % 4 = c_ by omega]) rfl rfl
              exact kw_to (L54 4 0 rfl) rfl rfl rfl
        exact kw_to (L45 4 0 rfl) rfl rfl rfl
      · skip
        refine kb_bipush (v := (-2 : Int32)) X dX5_cheapest_31 (by decide) ?_
        refine ke_i X Z dX5_cheapest_33 ?_
        exact ⟨by simp [oCheap, c1_, cp_, ePp, cs_, ePs, c2_, c3_], XWp.of hI⟩
    · skip
      refine kb_iconst (v := (-1 : Int32)) X dX5_cheapest_18 (by decide) ?_
      refine ke_i X Z dX5_cheapest_19 ?_
      exact ⟨by simp [oCheap, c1_, cp_, ePp, cs_, ePs, c2_], XWp.of hI⟩

