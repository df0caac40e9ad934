set_option maxHeartbeats 4000000 in
set_option maxRecDepth 100000 in
theorem ct_X5_isSetOfOthers (l : Launch) (g : kw_G) (m : Nat) (at_ an ar au : Nat → Nat) (adu : Nat → Nat → Nat) (ak : Nat → Nat) (adk : Nat → Nat → Nat) (as_ ao : Nat → Nat) (ado : Nat → Nat → Nat) (v : VS) (p st : Int32) (hv : VI v) : kMi l g yX5_isSetOfOthers cX5_isSetOfOthers 3 .boolean (kw_rm 2 0 0) 0 0 [.ref (m), .int (p), .int (st)] (List.flatten [wX g m at_ an ar au ak as_ ao, wV g an v]) (fun r w => r = zI (pin p (vN v) && isS v (P p) st) ∧ w = List.flatten [wX g m at_ an ar au ak as_ ao, wV g an v]) := by
  refine kMi_of (by decide +kernel) (Nat.le_of_ble_eq_true rfl) (fun x (X : kX l g RX5 cX5_isSetOfOthers 3 (kw_rm 2 0 0) x) (Z : kZi .boolean _ 0 0 x) => ?_)
  show kW x 0 0 0 [(0, .ref (m)), (1, .int (p)), (2, .int (st))] [] (List.flatten [wX g m at_ an ar au ak as_ ao, wV g an v])
  have h6 := hv.1
  refine kb_aload_n X 0 dX5_isSetOfOthers_0 rfl rfl ?_
  refine kf_get (v := .ref (an 0)) (C := RX5) (T := TX5) (N := 7) (ci := 5) X kw_iX5 rfl 1 0 0 rfl rfl (by decide) kf_X5_19 rfl rfl dX5_isSetOfOthers_1 ?_
  refine kb_iload_n X 1 dX5_isSetOfOthers_4 rfl rfl ?_
  refine kc_Vi X (As := [.int (p)]) (rest := []) (wr := List.flatten [wX g m at_ an ar au ak as_ ao]) (ct_X4_has l g an v p ) dX5_isSetOfOthers_5 rfl (kw_pk [wX g m at_ an ar au ak as_ ao, wV g an v] 1 (Nat.le_of_ble_eq_true rfl)) mc_X4_has kl_X5_97 mi_X4_has mv_X4_has kn_X4 0 rfl rfl rfl (na := 1) (by decide +kernel) rfl ⟨Nat.le_of_ble_eq_true rfl, Nat.le_of_ble_eq_true rfl⟩ ⟨rfl, rfl⟩ ⟨Nat.le_of_ble_eq_true rfl, Nat.le_of_ble_eq_true rfl⟩ (Nat.le_of_ble_eq_true rfl) (fun r_ w_ hp_ => ?_)
  obtain ⟨rfl, rfl⟩ := hp_
  refine kw_perm (ws' := List.flatten [wX g m at_ an ar au ak as_ ao, wV g an v]) (kw_pk [wX g m at_ an ar au ak as_ ao, wV g an v] 1 (Nat.le_of_ble_eq_true rfl)).symm ?_
  refine kz_if_eq (b := pin p (vN v)) (tgt := 42) X dX5_isSetOfOthers_8 (by decide) (fun c1_ => ?_) (fun c1_ => ?_)
  · skip
    refine kb_iconst (v := (0 : Int32)) X dX5_isSetOfOthers_42 (by decide) ?_
    refine ke_z X Z rfl dX5_isSetOfOthers_43 ?_
    exact ⟨by simp [isS, zI, c1_], rfl⟩
  · skip
    obtain ⟨pj, hpj, epj, ePp⟩ := pin_j h6 c1_
    refine kw_lv (lv' := [(0, .ref (m)), (1, .int (nI (pj))), (2, .int (st))]) (by rw [epj]) ?_
    refine kb_iload_n X 2 dX5_isSetOfOthers_11 rfl rfl ?_
    refine kb_iconst (v := (1 : Int32)) X dX5_isSetOfOthers_12 (by decide) ?_
    refine kb_iconst (v := (1 : Int32)) X dX5_isSetOfOthers_13 (by decide) ?_
    refine kb_aload_n X 0 dX5_isSetOfOthers_14 rfl rfl ?_
    refine kf_get (v := .ref (an 0)) (C := RX5) (T := TX5) (N := 7) (ci := 5) X kw_iX5 rfl 1 0 0 rfl rfl (by decide) kf_X5_19 rfl rfl dX5_isSetOfOthers_15 ?_
    refine kf_get (v := .int (nI (vN v))) (C := RX4) (T := TX4) (N := 11) (ci := 4) X kw_iX4 rfl 5 1 0 rfl rfl (by decide) kf_X5_86 rfl rfl dX5_isSetOfOthers_18 ?_
    refine kb_ishl X dX5_isSetOfOthers_21 ?_
    refine kw_top (b := .int (nI (2 ^ vN v))) (by rw [bit_in _ (by omega)]) ?_
    refine kb_iconst (v := (1 : Int32)) X dX5_isSetOfOthers_22 (by decide) ?_
    refine kb_isub X dX5_isSetOfOthers_23 ?_
    refine kc_Si X (As := [.int (st), .int 1, .int ((nI (2 ^ vN v)) - (1 : Int32))]) (rest := []) (wr := (List.flatten [wX g m at_ an ar au ak as_ ao, wV g an v])) (ct_X5_within l g st (1 : Int32) ((nI (2 ^ vN v)) - (1 : Int32)) ) dX5_isSetOfOthers_24 rfl (List.Perm.refl _) mc_X5_within kl_X5_75 ms_X5_within kn_X5 (na := 3) (by decide +kernel) rfl ⟨Nat.le_of_ble_eq_true rfl, Nat.le_of_ble_eq_true rfl⟩ ⟨rfl, rfl⟩ ⟨Nat.le_of_ble_eq_true rfl, Nat.le_of_ble_eq_true rfl⟩ (Nat.le_of_ble_eq_true rfl) (fun r_ w_ hp_ => ?_)
    obtain ⟨rfl, rfl⟩ := hp_
    refine kw_ws (List.nil_append _) ?_
    refine kz_if_eq (b := inr st (1 : Int32) ((nI (2 ^ vN v)) - (1 : Int32))) (tgt := 42) X dX5_isSetOfOthers_27 (by decide) (fun c2_ => ?_) (fun c2_ => ?_)
    · skip
      refine kb_iconst (v := (0 : Int32)) X dX5_isSetOfOthers_42 (by decide) ?_
      refine ke_z X Z rfl dX5_isSetOfOthers_43 ?_
      exact ⟨by simp [isS, zI, c1_, ePp, c2_], rfl⟩
    · skip
      obtain ⟨sj, hs1, hs2, hs3, esj, ePs⟩ := set_j h6 c2_
      refine kw_lv (lv' := [(0, .ref (m)), (1, .int (nI (pj))), (2, .int (nI (sj)))]) (by rw [esj]) ?_
      refine kb_iload_n X 2 dX5_isSetOfOthers_30 rfl rfl ?_
      refine kb_iload_n X 1 dX5_isSetOfOthers_31 rfl rfl ?_
      refine kc_Si X (As := [.int (nI (sj)), .int (nI (pj))]) (rest := []) (wr := (List.flatten [wX g m at_ an ar au ak as_ ao, wV g an v])) (ct_X5_contains l g sj pj (by omega) (by omega)) dX5_isSetOfOthers_32 rfl (List.Perm.refl _) mc_X5_contains kl_X5_182 ms_X5_contains kn_X5 (na := 2) (by decide +kernel) rfl ⟨Nat.le_of_ble_eq_true rfl, Nat.le_of_ble_eq_true rfl⟩ ⟨rfl, rfl⟩ ⟨Nat.le_of_ble_eq_true rfl, Nat.le_of_ble_eq_true rfl⟩ (Nat.le_of_ble_eq_true rfl) (fun r_ w_ hp_ => ?_)
      obtain ⟨rfl, rfl⟩ := hp_
      refine kw_ws (List.nil_append _) ?_
      refine kz_if_ne (b := Nat.testBit sj pj) (tgt := 42) X dX5_isSetOfOthers_35 (by decide) (fun c3_ => ?_) (fun c3_ => ?_)
      · skip
        refine kb_iconst (v := (0 : Int32)) X dX5_isSetOfOthers_42 (by decide) ?_
        refine ke_z X Z rfl dX5_isSetOfOthers_43 ?_
        exact ⟨by simp [isS, zI, c1_, ePp, c2_, ePs, c3_], rfl⟩
      · skip
        refine kb_iconst (v := (1 : Int32)) X dX5_isSetOfOthers_38 (by decide) ?_
        refine kb_goto (tgt := 43) X dX5_isSetOfOthers_39 (by decide) ?_
        refine ke_z X Z rfl dX5_isSetOfOthers_43 ?_
        exact ⟨by simp [isS, zI, c1_, ePp, c2_, ePs, c3_], rfl⟩

set_option maxHeartbeats 4000000 in
set_option maxRecDepth 100000 in
theorem ct_X5_gifts (l : Launch) (g : kw_G) (m : Nat) (at_ an ar au : Nat → Nat) (adu : Nat → Nat → Nat) (ak : Nat → Nat) (adk : Nat → Nat → Nat) (as_ ao : Nat → Nat) (ado : Nat → Nat → Nat) (t : TS) (v u : VS) (sz tp : Nat) (uvs : Nat → VS) (kz kp : Nat) (kvs : Nat → VS) (s : SS) (oP oB : Nat → Nat) (oL oC : Int32) (oD oZ oM : Nat) (ovs : Nat → VS) (us ks : List VS) (tf : Nat → Nat) (tn : Nat) (hI : XI t sz tp uvs kz kp kvs oB oL oC oD oZ oM ovs v us ks tf tn s) (p st b c : Int32) : kMi l g yX5_gifts cX5_gifts 8 .int (kw_rm 5 0 0) 0 0 [.ref (m), .int (p), .int (st), .int (b), .int (c)] (List.flatten [wX g m at_ an ar au ak as_ ao, wT g at_ t, wV g an v, wV g ar u, wPh g au adu 8 sz tp, wVs g adu uvs (List.range 8), wPh g ak adk 2 kz kp, wVs g adk kvs (List.range 2), wS g as_ s, wO g ao ado (oP, oB, oL, oC, oD, oZ, oM), wVs g ado ovs (List.range 7)]) (fun r w => r = oGifts v p st b c ∧ XWp g m at_ an ar au adu ak adk as_ ao ado v us ks tf tn s w) := by
  refine kMi_of (by decide +kernel) (Nat.le_of_ble_eq_true rfl) (fun x (X : kX l g RX5 cX5_gifts 8 (kw_rm 5 0 0) x) (Z : kZi .int _ 0 0 x) => ?_)
  show kW x 0 0 0 [(0, .ref (m)), (1, .int (p)), (2, .int (st)), (3, .int (b)), (4, .int (c))] [] (List.flatten [wX g m at_ an ar au ak as_ ao, wT g at_ t, wV g an v, wV g ar u, wPh g au adu 8 sz tp, wVs g adu uvs (List.range 8), wPh g ak adk 2 kz kp, wVs g adk kvs (List.range 2), wS g as_ s, wO g ao ado (oP, oB, oL, oC, oD, oZ, oM), wVs g ado ovs (List.range 7)])
  obtain ⟨hG, hU, hKp, hT_, hs, hO⟩ := id hI
  have hv := hG.1
  have hT := hG.2.1
  have hN0 := hG.2.2.2
  have h6 := hv.1
  have hx64 := hv.2.1
  have hh64 := hv.2.2
  obtain ⟨ht, etn, htx⟩ := id hT_
  have hs1 := hs.1
  have hus := hU.1
  have hsz := hU.2.1
  have htp := hU.2.2.1
  have hks := hKp.1
  have hkz := hKp.2.1
  have hkp := hKp.2.2.1
  refine kb_aload_n X 0 dX5_gifts_0 rfl rfl ?_
  refine kb_iload_n X 1 dX5_gifts_1 rfl rfl ?_
  refine kb_iload_n X 2 dX5_gifts_2 rfl rfl ?_
  refine kc_Vi X (As := [.int (p), .int (st)]) (rest := []) (wr := List.flatten [wT g at_ t, wV g ar u, wPh g au adu 8 sz tp, wVs g adu uvs (List.range 8), wPh g ak adk 2 kz kp, wVs g adk kvs (List.range 2), wS g as_ s, wO g ao ado (oP, oB, oL, oC, oD, oZ, oM), wVs g ado ovs (List.range 7)]) (ct_X5_isSetOfOthers l g m at_ an ar au adu ak adk as_ ao ado v p st hv) dX5_gifts_3 rfl (kw_pk2 [wX g m at_ an ar au ak as_ ao, wT g at_ t, wV g an v, wV g ar u, wPh g au adu 8 sz tp, wVs g adu uvs (List.range 8), wPh g ak adk 2 kz kp, wVs g adk kvs (List.range 2), wS g as_ s, wO g ao ado (oP, oB, oL, oC, oD, oZ, oM), wVs g ado ovs (List.range 7)] 0 1 (Nat.le_of_ble_eq_true rfl) (Nat.le_of_ble_eq_true rfl)) mc_X5_isSetOfOthers kl_X5_176 mi_X5_isSetOfOthers mv_X5_isSetOfOthers kn_X5 0 rfl rfl rfl (na := 2) (by decide +kernel) rfl ⟨Nat.le_of_ble_eq_true rfl, Nat.le_of_ble_eq_true rfl⟩ ⟨rfl, rfl⟩ ⟨Nat.le_of_ble_eq_true rfl, Nat.le_of_ble_eq_true rfl⟩ (Nat.le_of_ble_eq_true rfl) (fun r_ w_ hp_ => ?_)
  obtain ⟨rfl, rfl⟩ := hp_
  refine kw_perm (ws' := List.flatten [wX g m at_ an ar au ak as_ ao, wT g at_ t, wV g an v, wV g ar u, wPh g au adu 8 sz tp, wVs g adu uvs (List.range 8), wPh g ak adk 2 kz kp, wVs g adk kvs (List.range 2), wS g as_ s, wO g ao ado (oP, oB, oL, oC, oD, oZ, oM), wVs g ado ovs (List.range 7)]) (kw_pk2 [wX g m at_ an ar au ak as_ ao, wT g at_ t, wV g an v, wV g ar u, wPh g au adu 8 sz tp, wVs g adu uvs (List.range 8), wPh g ak adk 2 kz kp, wVs g adk kvs (List.range 2), wS g as_ s, wO g ao ado (oP, oB, oL, oC, oD, oZ, oM), wVs g ado ovs (List.range 7)] 0 1 (Nat.le_of_ble_eq_true rfl) (Nat.le_of_ble_eq_true rfl)).symm ?_
  refine kz_if_eq (b := (pin p (vN v) && isS v (P p) st)) (tgt := 18) X dX5_gifts_6 (by decide) (fun c1_ => ?_) (fun c1_ => ?_)
  · skip
    refine kb_iconst (v := (-1 : Int32)) X dX5_gifts_18 (by decide) ?_
    refine ke_i X Z dX5_gifts_19 ?_
    exact ⟨by rw [oGifts, ← Bool.and_assoc, c1_, Bool.false_and]; rfl, XWp.of hI⟩
  · skip
    have cc0_ := c1_
    rw [Bool.and_eq_true] at cc0_
    obtain ⟨cp_, cs_⟩ := cc0_
    obtain ⟨pj, hpj, epj, ePp⟩ := pin_j h6 cp_
    rw [ePp] at cs_
    obtain ⟨sj, hs3, esj, ePs⟩ := isS_j h6 cs_
    refine kb_iload_n X 3 dX5_gifts_9 rfl rfl ?_
    refine kb_iload X 4 dX5_gifts_10 rfl ?_
    refine kc_Si X (As := [.int (b), .int (c)]) (rest := []) (wr := (List.flatten [wX g m at_ an ar au ak as_ ao, wT g at_ t, wV g an v, wV g ar u, wPh g au adu 8 sz tp, wVs g adu uvs (List.range 8), wPh g ak adk 2 kz kp, wVs g adk kvs (List.range 2), wS g as_ s, wO g ao ado (oP, oB, oL, oC, oD, oZ, oM), wVs g ado ovs (List.range 7)])) (ct_X5_isFare l g b c ) dX5_gifts_12 rfl (List.Perm.refl _) mc_X5_isFare kl_X5_132 ms_X5_isFare kn_X5 (na := 2) (by decide +kernel) rfl ⟨Nat.le_of_ble_eq_true rfl, Nat.le_of_ble_eq_true rfl⟩ ⟨rfl, rfl⟩ ⟨Nat.le_of_ble_eq_true rfl, Nat.le_of_ble_eq_true rfl⟩ (Nat.le_of_ble_eq_true rfl) (fun r_ w_ hp_ => ?_)
    obtain ⟨rfl, rfl⟩ := hp_
    refine kw_ws (List.nil_append _) ?_
    refine kz_if_ne (b := fare b c) (tgt := 20) X dX5_gifts_15 (by decide) (fun c2_ => ?_) (fun c2_ => ?_)
    · skip
      refine kw_lv (lv' := [(0, .ref (m)), (1, .int (nI (pj))), (2, .int (st)), (3, .int (b)), (4, .int (c))]) (by rw [epj]) ?_
      refine kw_lv (lv' := [(0, .ref (m)), (1, .int (nI (pj))), (2, .int (nI (sj))), (3, .int (b)), (4, .int (c))]) (by rw [esj]) ?_
      refine kb_aload_n X 0 dX5_gifts_20 rfl rfl ?_
      refine kf_get (v := .ref (an 0)) (C := RX5) (T := TX5) (N := 7) (ci := 5) X kw_iX5 rfl 1 0 0 rfl rfl (by decide) kf_X5_19 rfl rfl dX5_gifts_21 ?_
      refine kb_iload_n X 1 dX5_gifts_24 rfl rfl ?_
      refine kc_Vi X (As := [.int (nI (pj))]) (rest := []) (wr := List.flatten [wX g m at_ an ar au ak as_ ao, wT g at_ t, wV g ar u, wPh g au adu 8 sz tp, wVs g adu uvs (List.range 8), wPh g ak adk 2 kz kp, wVs g adk kvs (List.range 2), wS g as_ s, wO g ao ado (oP, oB, oL, oC, oD, oZ, oM), wVs g ado ovs (List.range 7)]) (ct_X4_lives l g an v hv pj (by omega)) dX5_gifts_25 rfl (kw_pk [wX g m at_ an ar au ak as_ ao, wT g at_ t, wV g an v, wV g ar u, wPh g au adu 8 sz tp, wVs g adu uvs (List.range 8), wPh g ak adk 2 kz kp, wVs g adk kvs (List.range 2), wS g as_ s, wO g ao ado (oP, oB, oL, oC, oD, oZ, oM), wVs g ado ovs (List.range 7)] 2 (Nat.le_of_ble_eq_true rfl)) mc_X4_lives kl_X5_112 mi_X4_lives mv_X4_lives kn_X4 0 rfl rfl rfl (na := 1) (by decide +kernel) rfl ⟨Nat.le_of_ble_eq_true rfl, Nat.le_of_ble_eq_true rfl⟩ ⟨rfl, rfl⟩ ⟨Nat.le_of_ble_eq_true rfl, Nat.le_of_ble_eq_true rfl⟩ (Nat.le_of_ble_eq_true rfl) (fun r_ w_ hp_ => ?_)
      obtain ⟨rfl, rfl⟩ := hp_
      refine kw_perm (ws' := List.flatten [wX g m at_ an ar au ak as_ ao, wT g at_ t, wV g an v, wV g ar u, wPh g au adu 8 sz tp, wVs g adu uvs (List.range 8), wPh g ak adk 2 kz kp, wVs g adk kvs (List.range 2), wS g as_ s, wO g ao ado (oP, oB, oL, oC, oD, oZ, oM), wVs g ado ovs (List.range 7)]) (kw_pk [wX g m at_ an ar au ak as_ ao, wT g at_ t, wV g an v, wV g ar u, wPh g au adu 8 sz tp, wVs g adu uvs (List.range 8), wPh g ak adk 2 kz kp, wVs g adk kvs (List.range 2), wS g as_ s, wO g ao ado (oP, oB, oL, oC, oD, oZ, oM), wVs g ado ovs (List.range 7)] 2 (Nat.le_of_ble_eq_true rfl)).symm ?_
      refine kz_if_ne (b := wLives v pj) (tgt := 34) X dX5_gifts_28 (by decide) (fun c3_ => ?_) (fun c3_ => ?_)
      · skip
        refine kb_iconst (v := (0 : Int32)) X dX5_gifts_34 (by decide) ?_
        refine kb_istore X [1, 2, 3, 4, 5, 0] dX5_gifts_35 (by decide) (lv' := [(0, .ref (m)), (1, .int (nI (pj))), (2, .int (nI (sj))), (3, .int (b)), (4, .int (c)), (5, .int 0)]) rfl ?_
        refine kb_iconst (v := (0 : Int32)) X dX5_gifts_37 (by decide) ?_
        refine kb_istore X [1, 2, 3, 4, 5, 6, 0] dX5_gifts_38 (by decide) (lv' := [(0, .ref (m)), (1, .int (nI (pj))), (2, .int (nI (sj))), (3, .int (b)), (4, .int (c)), (5, .int 0), (6, .int 0)]) rfl ?_
        have L40 : ∀ (K_ i m1 : Nat), i + K_ = vN v ∧ gO v pj sj b c i = some m1 → kW x 0 0 40 [(0, .ref (m)), (1, .int (nI (pj))), (2, .int (nI (sj))), (3, .int (b)), (4, .int (c)), (5, .int (nI (m1))), (6, .int (nI (i)))] [] (List.flatten [wX g m at_ an ar au ak as_ ao, wT g at_ t, wV g an v, wV g ar u, wPh g au adu 8 sz tp, wVs g adu uvs (List.range 8), wPh g ak adk 2 kz kp, wVs g adk kvs (List.range 2), wS g as_ s, wO g ao ado (oP, oB, oL, oC, oD, oZ, oM), wVs g ado ovs (List.range 7)]) := by
          intro K_
          induction K_ with
          | zero =>
            intro i m1 hh
            obtain ⟨hi, hm_⟩ := id hh
            refine kb_iload X 6 dX5_gifts_40 rfl ?_
            refine kb_aload_n X 0 dX5_gifts_42 rfl rfl ?_
            refine kf_get (v := .ref (an 0)) (C := RX5) (T := TX5) (N := 7) (ci := 5) X kw_iX5 rfl 1 0 0 rfl rfl (by decide) kf_X5_19 rfl rfl dX5_gifts_43 ?_
            refine kf_get (v := .int (nI (vN v))) (C := RX4) (T := TX4) (N := 11) (ci := 4) X kw_iX4 rfl 5 2 0 rfl rfl (by decide) kf_X5_86 rfl rfl dX5_gifts_46 ?_
            refine kn_icmp_ge (a := i) (b := vN v) (tgt := 99) X (by omega) (by omega) dX5_gifts_49 (by decide) (fun c4_ => ?_) (fun c4_ => ?_)
            · skip
              refine kb_iload X 5 dX5_gifts_99 rfl ?_
              refine ke_i X Z dX5_gifts_101 ?_
              exact ⟨by rw [oGifts, ePp, ePs, if_pos (by simp [cp_, ePp, cs_, ePs, c2_, c3_]), if_pos (by simp [cp_, ePp, cs_, ePs, c2_, c3_]), show vN v = i by omega, hm_] <;> rfl, XWp.of hI⟩
            · skip
              omega
          | succ K_ ih =>
            intro i m1 hh
            obtain ⟨hi, hm_⟩ := id hh
            refine kb_iload X 6 dX5_gifts_40 rfl ?_
            refine kb_aload_n X 0 dX5_gifts_42 rfl rfl ?_
            refine kf_get (v := .ref (an 0)) (C := RX5) (T := TX5) (N := 7) (ci := 5) X kw_iX5 rfl 1 0 0 rfl rfl (by decide) kf_X5_19 rfl rfl dX5_gifts_43 ?_
            refine kf_get (v := .int (nI (vN v))) (C := RX4) (T := TX4) (N := 11) (ci := 4) X kw_iX4 rfl 5 2 0 rfl rfl (by decide) kf_X5_86 rfl rfl dX5_gifts_46 ?_
            refine kn_icmp_ge (a := i) (b := vN v) (tgt := 99) X (by omega) (by omega) dX5_gifts_49 (by decide) (fun c5_ => ?_) (fun c5_ => ?_)
            · skip
              omega
            · skip
              refine kb_iload_n X 2 dX5_gifts_52 rfl rfl ?_
              refine kb_iload X 6 dX5_gifts_53 rfl ?_
              refine kc_Si X (As := [.int (nI (sj)), .int (nI (i))]) (rest := []) (wr := (List.flatten [wX g m at_ an ar au ak as_ ao, wT g at_ t, wV g an v, wV g ar u, wPh g au adu 8 sz tp, wVs g adu uvs (List.range 8), wPh g ak adk 2 kz kp, wVs g adk kvs (List.range 2), wS g as_ s, wO g ao ado (oP, oB, oL, oC, oD, oZ, oM), wVs g ado ovs (List.range 7)])) (ct_X5_contains l g sj i (by omega) (by omega)) dX5_gifts_55 rfl (List.Perm.refl _) mc_X5_contains kl_X5_182 ms_X5_contains kn_X5 (na := 2) (by decide +kernel) rfl ⟨Nat.le_of_ble_eq_true rfl, Nat.le_of_ble_eq_true rfl⟩ ⟨rfl, rfl⟩ ⟨Nat.le_of_ble_eq_true rfl, Nat.le_of_ble_eq_true rfl⟩ (Nat.le_of_ble_eq_true rfl) (fun r_ w_ hp_ => ?_)
              obtain ⟨rfl, rfl⟩ := hp_
              refine kw_ws (List.nil_append _) ?_
              refine kz_if_eq (b := Nat.testBit sj i) (tgt := 93) X dX5_gifts_58 (by decide) (fun c6_ => ?_) (fun c6_ => ?_)
              · skip
                have cb_ := c6_
                refine kb_iinc X 6 [1, 2, 3, 4, 5, 6, 0] (v' := nI (i + 1)) dX5_gifts_93 rfl (nI_add _ _) (by decide) (lv' := [(0, .ref (m)), (1, .int (nI (pj))), (2, .int (nI (sj))), (3, .int (b)), (4, .int (c)), (5, .int (nI (m1))), (6, .int (nI (i + 1)))]) rfl ?_
                refine kb_goto (tgt := 40) X dX5_gifts_96 (by decide) ?_
                exact kw_to (ih (i + 1) m1 ⟨by omega, gO_out hm_ cb_⟩) rfl rfl rfl
              · skip
                have cb_ := c6_
                refine kb_aload_n X 0 dX5_gifts_61 rfl rfl ?_
                refine kf_get (v := .ref (an 0)) (C := RX5) (T := TX5) (N := 7) (ci := 5) X kw_iX5 rfl 1 0 0 rfl rfl (by decide) kf_X5_19 rfl rfl dX5_gifts_62 ?_
                refine kb_iload X 6 dX5_gifts_65 rfl ?_
                refine kb_iload_n X 1 dX5_gifts_67 rfl rfl ?_
                refine kb_iload_n X 3 dX5_gifts_68 rfl rfl ?_
                refine kb_iload X 4 dX5_gifts_69 rfl ?_
                refine kc_Vi X (As := [.int (nI (i)), .int (nI (pj)), .int (b), .int (c)]) (rest := []) (wr := List.flatten [wX g m at_ an ar au ak as_ ao, wT g at_ t, wV g ar u, wPh g au adu 8 sz tp, wVs g adu uvs (List.range 8), wPh g ak adk 2 kz kp, wVs g adk kvs (List.range 2), wS g as_ s, wO g ao ado (oP, oB, oL, oC, oD, oZ, oM), wVs g ado ovs (List.range 7)]) (ct_X4_giftsUntilComing l g an v hv i pj b c (by omega) (by omega) (tieN v (i * 6 + pj)) (tieN_e hT (by omega)).1 (tieN_e hT (by omega)).2) dX5_gifts_71 rfl (kw_pk [wX g m at_ an ar au ak as_ ao, wT g at_ t, wV g an v, wV g ar u, wPh g au adu 8 sz tp, wVs g adu uvs (List.range 8), wPh g ak adk 2 kz kp, wVs g adk kvs (List.range 2), wS g as_ s, wO g ao ado (oP, oB, oL, oC, oD, oZ, oM), wVs g ado ovs (List.range 7)] 2 (Nat.le_of_ble_eq_true rfl)) mc_X4_giftsUntilComing kl_X5_185 mi_X4_giftsUntilComing mv_X4_giftsUntilComing kn_X4 0 rfl rfl rfl (na := 4) (by decide +kernel) rfl ⟨Nat.le_of_ble_eq_true rfl, Nat.le_of_ble_eq_true rfl⟩ ⟨rfl, rfl⟩ ⟨Nat.le_of_ble_eq_true rfl, Nat.le_of_ble_eq_true rfl⟩ (Nat.le_of_ble_eq_true rfl) (fun r_ w_ hp_ => ?_)
                obtain ⟨rfl, rfl⟩ := hp_
                refine kw_perm (ws' := List.flatten [wX g m at_ an ar au ak as_ ao, wT g at_ t, wV g an v, wV g ar u, wPh g au adu 8 sz tp, wVs g adu uvs (List.range 8), wPh g ak adk 2 kz kp, wVs g adk kvs (List.range 2), wS g as_ s, wO g ao ado (oP, oB, oL, oC, oD, oZ, oM), wVs g ado ovs (List.range 7)]) (kw_pk [wX g m at_ an ar au ak as_ ao, wT g at_ t, wV g an v, wV g ar u, wPh g au adu 8 sz tp, wVs g adu uvs (List.range 8), wPh g ak adk 2 kz kp, wVs g adk kvs (List.range 2), wS g as_ s, wO g ao ado (oP, oB, oL, oC, oD, oZ, oM), wVs g ado ovs (List.range 7)] 2 (Nat.le_of_ble_eq_true rfl)).symm ?_
                refine kw_top (b := .int (gI (gF v i pj b c (10 - (tieN v (i * 6 + pj))) 0))) (by rw [gF_wGf v i pj b c rfl]) ?_
                refine kb_istore X [1, 2, 3, 4, 5, 6, 7, 0] dX5_gifts_74 (by decide) (lv' := [(0, .ref (m)), (1, .int (nI (pj))), (2, .int (nI (sj))), (3, .int (b)), (4, .int (c)), (5, .int (nI (m1))), (6, .int (nI (i))), (7, .int (gI (gF v i pj b c (10 - (tieN v (i * 6 + pj))) 0)))]) rfl ?_
                refine kb_iload X 7 dX5_gifts_76 rfl ?_
                refine kb_bipush (v := (-4 : Int32)) X dX5_gifts_78 (by decide) ?_
                refine kb_icmp_ne (tgt := 86) X dX5_gifts_80 (by decide) (fun c7_ => ?_) (fun c7_ => ?_)
                · skip
                  obtain ⟨k_, hk_⟩ := gI_yes c7_
                  refine kw_lv (lv' := [(0, .ref (m)), (1, .int (nI (pj))), (2, .int (nI (sj))), (3, .int (b)), (4, .int (c)), (5, .int (nI (m1))), (6, .int (nI (i))), (7, .int (nI (k_)))]) (by rw [hk_] <;> rfl) ?_
                  refine kb_iload X 5 dX5_gifts_86 rfl ?_
                  refine kb_iload X 7 dX5_gifts_88 rfl ?_
                  refine kn_iadd X m1 k_ dX5_gifts_90 ?_
                  refine kb_istore X [1, 2, 3, 4, 5, 0, 6, 7] dX5_gifts_91 (by decide) (lv' := [(0, .ref (m)), (1, .int (nI (pj))), (2, .int (nI (sj))), (3, .int (b)), (4, .int (c)), (5, .int (nI (m1 + k_))), (6, .int (nI (i))), (7, .int (nI (k_)))]) rfl ?_
                  refine kw_lvs [0, 1, 2, 3, 4, 5, 6] (lv' := [(0, .ref (m)), (1, .int (nI (pj))), (2, .int (nI (sj))), (3, .int (b)), (4, .int (c)), (5, .int (nI (m1 + k_))), (6, .int (nI (i)))]) rfl ?_
                  refine kb_iinc X 6 [1, 2, 3, 4, 5, 6, 0] (v' := nI (i + 1)) dX5_gifts_93 rfl (nI_add _ _) (by decide) (lv' := [(0, .ref (m)), (1, .int (nI (pj))), (2, .int (nI (sj))), (3, .int (b)), (4, .int (c)), (5, .int (nI (m1 + k_))), (6, .int (nI (i + 1)))]) rfl ?_
                  refine kb_goto (tgt := 40) X dX5_gifts_96 (by decide) ?_
                  exact kw_to (ih (i + 1) (m1 + k_) ⟨by omega, gO_in hm_ cb_ hk_⟩) rfl rfl rfl
                · skip
                  refine kb_bipush (v := (-4 : Int32)) X dX5_gifts_83 (by decide) ?_
                  refine ke_i X Z dX5_gifts_85 ?_
                  have hn_ := gO_no hm_ cb_ (gI_no c7_ (fun k hk => by have := gF_le v i pj b c _ _ _ hk; omega))
                  exact ⟨by rw [oGifts, ePp, ePs, if_pos (by simp [cp_, ePp, cs_, ePs, c2_, c3_]), if_pos (by simp [cp_, ePp, cs_, ePs, c2_, c3_]), gO_none v pj sj b c hn_ _ (by omega)] <;> rfl, XWp.of hI⟩
        exact kw_to (L40 (vN v) 0 0 ⟨by omega, rfl⟩) rfl rfl rfl
      · skip
        refine kb_bipush (v := (-2 : Int32)) X dX5_gifts_31 (by decide) ?_
        refine ke_i X Z dX5_gifts_33 ?_
        exact ⟨by simp [oGifts, c1_, cp_, ePp, cs_, ePs, c2_, c3_], XWp.of hI⟩
    · skip
      refine kb_iconst (v := (-1 : Int32)) X dX5_gifts_18 (by decide) ?_
      refine ke_i X Z dX5_gifts_19 ?_
      exact ⟨by simp [oGifts, c1_, cp_, ePp, cs_, ePs, c2_], XWp.of hI⟩

