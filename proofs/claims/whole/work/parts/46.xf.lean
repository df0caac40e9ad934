set_option maxHeartbeats 4000000 in
set_option maxRecDepth 100000 in
theorem ct_X5_drawOf (l : Launch) (g : kw_G) (zj k : Nat) (hz : zj ≤ 9999) (hk : k < 60) : kMi l g yX5_drawOf cX5_drawOf 4 .int (kw_rm 1 0 0) 0 0 [.int (nI (zj)), .int (nI (k))] ([]) (fun r w => r = nI (dr zj k) ∧ w = []) := by
  refine kMi_of (by decide +kernel) (Nat.le_of_ble_eq_true rfl) (fun x (X : kX l g RX5 cX5_drawOf 4 (kw_rm 1 0 0) x) (Z : kZi .int _ 0 0 x) => ?_)
  show kW x 0 0 0 [(0, .int (nI (zj))), (1, .int (nI (k)))] [] []
  refine kb_ldc2 X kk_X5_281 dX5_drawOf_0 ?_
  refine kb_iload_n X 0 dX5_drawOf_3 rfl rfl ?_
  refine kb_i2l (v := (nI (zj)).toInt64) X dX5_drawOf_4 rfl ?_
  refine kb_lmul X dX5_drawOf_5 ?_
  refine kb_ldc2 X kk_X5_283 dX5_drawOf_6 ?_
  refine kb_iload_n X 1 dX5_drawOf_9 rfl rfl ?_
  refine kb_i2l (v := (nI (k)).toInt64) X dX5_drawOf_10 rfl ?_
  refine kb_lmul X dX5_drawOf_11 ?_
  refine kb_ladd X dX5_drawOf_12 ?_
  refine kb_lconst (v := 1) X dX5_drawOf_13 (by decide) ?_
  refine kb_ladd X dX5_drawOf_14 ?_
  refine kw_top (b := .long (Int64.ofNat (7919 * zj + 6151 * k + 1))) (by rw [dr_x zj k (by omega) (by omega)]) ?_
  refine kb_lstore_n X [1, 2, 0] dX5_drawOf_15 rfl (by decide) (lv' := [(0, .int (nI (zj))), (1, .int (nI (k))), (2, .long (Int64.ofNat (7919 * zj + 6151 * k + 1)))]) rfl ?_
  refine kb_lload_n X 2 dX5_drawOf_16 rfl rfl ?_
  refine kb_lload_n X 2 dX5_drawOf_17 rfl rfl ?_
  refine kb_lmul X dX5_drawOf_18 ?_
  refine kb_ldc2 X kk_X5_285 dX5_drawOf_19 ?_
  refine kb_lrem X dX5_drawOf_22 (by decide) ?_
  refine kb_l2i (v := (((Int64.ofNat (7919 * zj + 6151 * k + 1)) * (Int64.ofNat (7919 * zj + 6151 * k + 1))) - ((Int64.ofNat (7919 * zj + 6151 * k + 1)) * (Int64.ofNat (7919 * zj + 6151 * k + 1))) / (65521 : Int64) * (65521 : Int64)).toInt32) X dX5_drawOf_23 rfl ?_
  refine kw_top (b := .int (nI (dr zj k))) (by rw [dr_m _ (by omega)]; rfl) ?_
  refine ke_i X Z dX5_drawOf_24 ?_
  exact ⟨rfl, rfl⟩

set_option maxHeartbeats 4000000 in
set_option maxRecDepth 100000 in
theorem ct_X5_year (l : Launch) (g : kw_G) (m : Nat) (at_ an ar au : Nat → Nat) (adu : Nat → Nat → Nat) (ak : Nat → Nat) (adk : Nat → Nat → Nat) (as_ ao : Nat → Nat) (ado : Nat → Nat → Nat) (t : TS) (v u : VS) (sz tp : Nat) (uvs : Nat → VS) (kz kp : Nat) (kvs : Nat → VS) (s : SS) (oP oB : Nat → Nat) (oL oC : Int32) (oD oZ oM : Nat) (ovs : Nat → VS) (us ks : List VS) (tf : Nat → Nat) (tn : Nat) (hI : XI t sz tp uvs kz kp kvs oB oL oC oD oZ oM ovs v us ks tf tn s) (z_ n mm : Int32) : kMi l g yX5_year cX5_year 6 .int (kw_rm 7 0 0) 0 0 [.ref (m), .int (z_), .int (n), .int (mm)] (List.flatten [wX g m at_ an ar au ak as_ ao, wT g at_ t, wV g an v, wV g ar u, wPh g au adu 8 sz tp, wVs g adu uvs (List.range 8), wPh g ak adk 2 kz kp, wVs g adk kvs (List.range 2), wS g as_ s, wO g ao ado (oP, oB, oL, oC, oD, oZ, oM), wVs g ado ovs (List.range 7)]) (fun r w => r = oYear v z_ n mm ∧ XWp g m at_ an ar au adu ak adk as_ ao ado v us ks tf tn s w) := by
  refine kMi_of (by decide +kernel) (Nat.le_of_ble_eq_true rfl) (fun x (X : kX l g RX5 cX5_year 6 (kw_rm 7 0 0) x) (Z : kZi .int _ 0 0 x) => ?_)
  show kW x 0 0 0 [(0, .ref (m)), (1, .int (z_)), (2, .int (n)), (3, .int (mm))] [] (List.flatten [wX g m at_ an ar au ak as_ ao, wT g at_ t, wV g an v, wV g ar u, wPh g au adu 8 sz tp, wVs g adu uvs (List.range 8), wPh g ak adk 2 kz kp, wVs g adk kvs (List.range 2), wS g as_ s, wO g ao ado (oP, oB, oL, oC, oD, oZ, oM), wVs g ado ovs (List.range 7)])
  obtain ⟨hG, hU, hKp, hT_, hs, hO⟩ := id hI
  have hv := hG.1
  have hT := hG.2.1
  have hN0 := hG.2.2.2
  have h6 := hv.1
  have hx64 := hv.2.1
  have hh64 := hv.2.2
  obtain ⟨ht, etn, htx⟩ := id hT_
  have hs1 := hs.1
  have hus := hU.1
  have hsz := hU.2.1
  have htp := hU.2.2.1
  have hks := hKp.1
  have hkz := hKp.2.1
  have hkp := hKp.2.2.1
  refine kb_iload_n X 1 dX5_year_0 rfl rfl ?_
  refine kb_iconst (v := (0 : Int32)) X dX5_year_1 (by decide) ?_
  refine kb_sipush (v := (9999 : Int32)) X dX5_year_2 (by decide) ?_
  refine kc_Si X (As := [.int (z_), .int 0, .int 9999]) (rest := []) (wr := (List.flatten [wX g m at_ an ar au ak as_ ao, wT g at_ t, wV g an v, wV g ar u, wPh g au adu 8 sz tp, wVs g adu uvs (List.range 8), wPh g ak adk 2 kz kp, wVs g adk kvs (List.range 2), wS g as_ s, wO g ao ado (oP, oB, oL, oC, oD, oZ, oM), wVs g ado ovs (List.range 7)])) (ct_X5_within l g z_ (0 : Int32) (9999 : Int32) ) dX5_year_5 rfl (List.Perm.refl _) mc_X5_within kl_X5_75 ms_X5_within kn_X5 (na := 3) (by decide +kernel) rfl ⟨Nat.le_of_ble_eq_true rfl, Nat.le_of_ble_eq_true rfl⟩ ⟨rfl, rfl⟩ ⟨Nat.le_of_ble_eq_true rfl, Nat.le_of_ble_eq_true rfl⟩ (Nat.le_of_ble_eq_true rfl) (fun r_ w_ hp_ => ?_)
  obtain ⟨rfl, rfl⟩ := hp_
  refine kw_ws (List.nil_append _) ?_
  refine kz_if_eq (b := inr z_ (0 : Int32) (9999 : Int32)) (tgt := 30) X dX5_year_8 (by decide) (fun c1_ => ?_) (fun c1_ => ?_)
  · skip
    refine kb_iconst (v := (-1 : Int32)) X dX5_year_30 (by decide) ?_
    refine ke_i X Z dX5_year_31 ?_
    exact ⟨by simp [oYear, c1_], XWp.of hI⟩
  · skip
    obtain ⟨zj, hz1, hz2, ez, ePz⟩ := inr_n (a := 0) (b := 9999) (by decide) (by decide) c1_
    refine kb_iload_n X 2 dX5_year_11 rfl rfl ?_
    refine kb_iconst (v := (1 : Int32)) X dX5_year_12 (by decide) ?_
    refine kb_bipush (v := (60 : Int32)) X dX5_year_13 (by decide) ?_
    refine kc_Si X (As := [.int (n), .int 1, .int 60]) (rest := []) (wr := (List.flatten [wX g m at_ an ar au ak as_ ao, wT g at_ t, wV g an v, wV g ar u, wPh g au adu 8 sz tp, wVs g adu uvs (List.range 8), wPh g ak adk 2 kz kp, wVs g adk kvs (List.range 2), wS g as_ s, wO g ao ado (oP, oB, oL, oC, oD, oZ, oM), wVs g ado ovs (List.range 7)])) (ct_X5_within l g n (1 : Int32) (60 : Int32) ) dX5_year_15 rfl (List.Perm.refl _) mc_X5_within kl_X5_75 ms_X5_within kn_X5 (na := 3) (by decide +kernel) rfl ⟨Nat.le_of_ble_eq_true rfl, Nat.le_of_ble_eq_true rfl⟩ ⟨rfl, rfl⟩ ⟨Nat.le_of_ble_eq_true rfl, Nat.le_of_ble_eq_true rfl⟩ (Nat.le_of_ble_eq_true rfl) (fun r_ w_ hp_ => ?_)
    obtain ⟨rfl, rfl⟩ := hp_
    refine kw_ws (List.nil_append _) ?_
    refine kz_if_eq (b := inr n (1 : Int32) (60 : Int32)) (tgt := 30) X dX5_year_18 (by decide) (fun c2_ => ?_) (fun c2_ => ?_)
    · skip
      refine kb_iconst (v := (-1 : Int32)) X dX5_year_30 (by decide) ?_
      refine ke_i X Z dX5_year_31 ?_
      exact ⟨by simp [oYear, c1_, c2_], XWp.of hI⟩
    · skip
      obtain ⟨nj, hn1, hn2, en, ePn⟩ := inr_n (a := 1) (b := 60) (by decide) (by decide) c2_
      refine kb_iload_n X 3 dX5_year_21 rfl rfl ?_
      refine kb_iconst (v := (0 : Int32)) X dX5_year_22 (by decide) ?_
      refine kb_iconst (v := (1 : Int32)) X dX5_year_23 (by decide) ?_
      refine kc_Si X (As := [.int (mm), .int 0, .int 1]) (rest := []) (wr := (List.flatten [wX g m at_ an ar au ak as_ ao, wT g at_ t, wV g an v, wV g ar u, wPh g au adu 8 sz tp, wVs g adu uvs (List.range 8), wPh g ak adk 2 kz kp, wVs g adk kvs (List.range 2), wS g as_ s, wO g ao ado (oP, oB, oL, oC, oD, oZ, oM), wVs g ado ovs (List.range 7)])) (ct_X5_within l g mm (0 : Int32) (1 : Int32) ) dX5_year_24 rfl (List.Perm.refl _) mc_X5_within kl_X5_75 ms_X5_within kn_X5 (na := 3) (by decide +kernel) rfl ⟨Nat.le_of_ble_eq_true rfl, Nat.le_of_ble_eq_true rfl⟩ ⟨rfl, rfl⟩ ⟨Nat.le_of_ble_eq_true rfl, Nat.le_of_ble_eq_true rfl⟩ (Nat.le_of_ble_eq_true rfl) (fun r_ w_ hp_ => ?_)
      obtain ⟨rfl, rfl⟩ := hp_
      refine kw_ws (List.nil_append _) ?_
      refine kz_if_ne (b := inr mm (0 : Int32) (1 : Int32)) (tgt := 32) X dX5_year_27 (by decide) (fun c3_ => ?_) (fun c3_ => ?_)
      · skip
        refine kw_lv (lv' := [(0, .ref (m)), (1, .int (nI (zj))), (2, .int (n)), (3, .int (mm))]) (by rw [ez]) ?_
        refine kw_lv (lv' := [(0, .ref (m)), (1, .int (nI (zj))), (2, .int (nI (nj))), (3, .int (mm))]) (by rw [en]) ?_
        refine kb_aload_n X 0 dX5_year_32 rfl rfl ?_
        refine kf_get (v := .ref (ar 0)) (C := RX5) (T := TX5) (N := 7) (ci := 5) X kw_iX5 rfl 2 0 0 rfl rfl (by decide) kf_X5_23 rfl rfl dX5_year_33 ?_
        refine kb_aload_n X 0 dX5_year_36 rfl rfl ?_
        refine kf_get (v := .ref (an 0)) (C := RX5) (T := TX5) (N := 7) (ci := 5) X kw_iX5 rfl 1 0 0 rfl rfl (by decide) kf_X5_19 rfl rfl dX5_year_37 ?_
        refine kc_Vv X (As := [.ref (an 0)]) (rest := []) (wr := List.flatten [wX g m at_ an ar au ak as_ ao, wT g at_ t, wPh g au adu 8 sz tp, wVs g adu uvs (List.range 8), wPh g ak adk 2 kz kp, wVs g adk kvs (List.range 2), wS g as_ s, wO g ao ado (oP, oB, oL, oC, oD, oZ, oM), wVs g ado ovs (List.range 7)]) (ct_X4_copyFrom l g ar an u v ) dX5_year_40 rfl (kw_pk2 [wX g m at_ an ar au ak as_ ao, wT g at_ t, wV g an v, wV g ar u, wPh g au adu 8 sz tp, wVs g adu uvs (List.range 8), wPh g ak adk 2 kz kp, wVs g adk kvs (List.range 2), wS g as_ s, wO g ao ado (oP, oB, oL, oC, oD, oZ, oM), wVs g ado ovs (List.range 7)] 3 2 (Nat.le_of_ble_eq_true rfl) (Nat.le_of_ble_eq_true rfl)) mc_X4_copyFrom kl_X5_89 mi_X4_copyFrom mv_X4_copyFrom kn_X4 0 rfl rfl rfl (na := 1) (by decide +kernel) rfl ⟨Nat.le_of_ble_eq_true rfl, Nat.le_of_ble_eq_true rfl⟩ ⟨rfl, rfl⟩ ⟨Nat.le_of_ble_eq_true rfl, Nat.le_of_ble_eq_true rfl⟩ (Nat.le_of_ble_eq_true rfl) (fun w_ hp_ => ?_)
        obtain rfl := hp_
        refine kw_perm (ws' := List.flatten [wX g m at_ an ar au ak as_ ao, wT g at_ t, wV g an v, wV g ar v, wPh g au adu 8 sz tp, wVs g adu uvs (List.range 8), wPh g ak adk 2 kz kp, wVs g adk kvs (List.range 2), wS g as_ s, wO g ao ado (oP, oB, oL, oC, oD, oZ, oM), wVs g ado ovs (List.range 7)]) (kw_pk2 [wX g m at_ an ar au ak as_ ao, wT g at_ t, wV g an v, wV g ar v, wPh g au adu 8 sz tp, wVs g adu uvs (List.range 8), wPh g ak adk 2 kz kp, wVs g adk kvs (List.range 2), wS g as_ s, wO g ao ado (oP, oB, oL, oC, oD, oZ, oM), wVs g ado ovs (List.range 7)] 3 2 (Nat.le_of_ble_eq_true rfl) (Nat.le_of_ble_eq_true rfl)).symm ?_
        refine kb_iconst (v := (0 : Int32)) X dX5_year_43 (by decide) ?_
        refine kb_istore X [1, 2, 3, 4, 0] dX5_year_44 (by decide) (lv' := [(0, .ref (m)), (1, .int (nI (zj))), (2, .int (nI (nj))), (3, .int (mm)), (4, .int 0)]) rfl ?_
        refine kb_iconst (v := (0 : Int32)) X dX5_year_46 (by decide) ?_
        refine kb_istore X [1, 2, 3, 4, 5, 0] dX5_year_47 (by decide) (lv' := [(0, .ref (m)), (1, .int (nI (zj))), (2, .int (nI (nj))), (3, .int (mm)), (4, .int 0), (5, .int 0)]) rfl ?_
        have L49 : ∀ (K_ k : Nat), k + K_ = nj → kW x 0 0 49 [(0, .ref (m)), (1, .int (nI (zj))), (2, .int (nI (nj))), (3, .int (mm)), (4, .int (nI (yC v zj k))), (5, .int (nI (k)))] [] (List.flatten [wX g m at_ an ar au ak as_ ao, wT g at_ t, wV g an v, wV g ar (yV v zj k), wPh g au adu 8 sz tp, wVs g adu uvs (List.range 8), wPh g ak adk 2 kz kp, wVs g adk kvs (List.range 2), wS g as_ s, wO g ao ado (oP, oB, oL, oC, oD, oZ, oM), wVs g ado ovs (List.range 7)]) := by
          intro K_
          induction K_ with
          | zero =>
            intro k hk_
            obtain ⟨hgk, hN⟩ := hG.yV zj k
            have hdr := dr_lt zj k
            have h1k : 1 ≤ vN (yV v zj k) := hgk.2.2.2
            refine kb_iload X 5 dX5_year_49 rfl ?_
            refine kb_iload_n X 2 dX5_year_51 rfl rfl ?_
            refine kn_icmp_ge (a := k) (b := nj) (tgt := 79) X (by omega) (by omega) dX5_year_52 (by decide) (fun c4_ => ?_) (fun c4_ => ?_)
            · skip
              refine kb_iload_n X 3 dX5_year_79 rfl rfl ?_
              refine kb_if_ne (tgt := 88) X dX5_year_80 (by decide) (fun c5_ => ?_) (fun c5_ => ?_)
              · skip
                refine kb_aload_n X 0 dX5_year_88 rfl rfl ?_
                refine kf_get (v := .ref (ar 0)) (C := RX5) (T := TX5) (N := 7) (ci := 5) X kw_iX5 rfl 2 0 0 rfl rfl (by decide) kf_X5_23 rfl rfl dX5_year_89 ?_
                refine kc_Vi X (As := []) (rest := []) (wr := List.flatten [wX g m at_ an ar au ak as_ ao, wT g at_ t, wV g an v, wPh g au adu 8 sz tp, wVs g adu uvs (List.range 8), wPh g ak adk 2 kz kp, wVs g adk kvs (List.range 2), wS g as_ s, wO g ao ado (oP, oB, oL, oC, oD, oZ, oM), wVs g ado ovs (List.range 7)]) (ct_X4_coinsOfAll l g ar (yV v zj k) hgk.1  ) dX5_year_92 rfl (kw_pk [wX g m at_ an ar au ak as_ ao, wT g at_ t, wV g an v, wV g ar (yV v zj k), wPh g au adu 8 sz tp, wVs g adu uvs (List.range 8), wPh g ak adk 2 kz kp, wVs g adk kvs (List.range 2), wS g as_ s, wO g ao ado (oP, oB, oL, oC, oD, oZ, oM), wVs g ado ovs (List.range 7)] 3 (Nat.le_of_ble_eq_true rfl)) mc_X4_coinsOfAll kl_X5_241 mi_X4_coinsOfAll mv_X4_coinsOfAll kn_X4 0 rfl rfl rfl (na := 0) (by decide +kernel) rfl ⟨Nat.le_of_ble_eq_true rfl, Nat.le_of_ble_eq_true rfl⟩ ⟨rfl, rfl⟩ ⟨Nat.le_of_ble_eq_true rfl, Nat.le_of_ble_eq_true rfl⟩ (Nat.le_of_ble_eq_true rfl) (fun r_ w_ hp_ => ?_)
                obtain ⟨rfl, rfl⟩ := hp_
                refine kw_perm (ws' := List.flatten [wX g m at_ an ar au ak as_ ao, wT g at_ t, wV g an v, wV g ar (yV v zj k), wPh g au adu 8 sz tp, wVs g adu uvs (List.range 8), wPh g ak adk 2 kz kp, wVs g adk kvs (List.range 2), wS g as_ s, wO g ao ado (oP, oB, oL, oC, oD, oZ, oM), wVs g ado ovs (List.range 7)]) (kw_pk [wX g m at_ an ar au ak as_ ao, wT g at_ t, wV g an v, wV g ar (yV v zj k), wPh g au adu 8 sz tp, wVs g adu uvs (List.range 8), wPh g ak adk 2 kz kp, wVs g adk kvs (List.range 2), wS g as_ s, wO g ao ado (oP, oB, oL, oC, oD, oZ, oM), wVs g ado ovs (List.range 7)] 3 (Nat.le_of_ble_eq_true rfl)).symm ?_
                refine ke_i X Z dX5_year_95 ?_
                have e_ : k = nj := by omega
                subst e_
                exact ⟨by simp [oYear, hN, c1_, c2_, c3_, ePz, ePn, c4_, c5_, (by decide : inr 0 0 1 = true), (by decide : inr 1 0 1 = true)], XWp.of hI⟩
              · skip
                refine kb_iload X 4 dX5_year_83 rfl ?_
                refine kb_goto (tgt := 95) X dX5_year_85 (by decide) ?_
                refine ke_i X Z dX5_year_95 ?_
                have e_ : k = nj := by omega
                subst e_
                exact ⟨by simp [oYear, hN, c1_, c2_, c3_, ePz, ePn, c4_, c5_, (by decide : inr 0 0 1 = true), (by decide : inr 1 0 1 = true)], XWp.of hI⟩
            · skip
              omega
          | succ K_ ih =>
            intro k hk_
            obtain ⟨hgk, hN⟩ := hG.yV zj k
            have hdr := dr_lt zj k
            have h1k : 1 ≤ vN (yV v zj k) := hgk.2.2.2
            refine kb_iload X 5 dX5_year_49 rfl ?_
            refine kb_iload_n X 2 dX5_year_51 rfl rfl ?_
            refine kn_icmp_ge (a := k) (b := nj) (tgt := 79) X (by omega) (by omega) dX5_year_52 (by decide) (fun c6_ => ?_) (fun c6_ => ?_)
            · skip
              omega
            · skip
              refine kb_iload X 4 dX5_year_55 rfl ?_
              refine kb_aload_n X 0 dX5_year_57 rfl rfl ?_
              refine kf_get (v := .ref (ar 0)) (C := RX5) (T := TX5) (N := 7) (ci := 5) X kw_iX5 rfl 2 0 0 rfl rfl (by decide) kf_X5_23 rfl rfl dX5_year_58 ?_
              refine kb_iload_n X 1 dX5_year_61 rfl rfl ?_
              refine kb_iload X 5 dX5_year_62 rfl ?_
              refine kc_Si X (As := [.int (nI (zj)), .int (nI (k))]) (rest := [.ref (ar 0), .int (nI (yC v zj k))]) (wr := (List.flatten [wX g m at_ an ar au ak as_ ao, wT g at_ t, wV g an v, wV g ar (yV v zj k), wPh g au adu 8 sz tp, wVs g adu uvs (List.range 8), wPh g ak adk 2 kz kp, wVs g adk kvs (List.range 2), wS g as_ s, wO g ao ado (oP, oB, oL, oC, oD, oZ, oM), wVs g ado ovs (List.range 7)])) (ct_X5_drawOf l g zj k (by omega) (by omega)) dX5_year_64 rfl (List.Perm.refl _) mc_X5_drawOf kl_X5_235 ms_X5_drawOf kn_X5 (na := 2) (by decide +kernel) rfl ⟨Nat.le_of_ble_eq_true rfl, Nat.le_of_ble_eq_true rfl⟩ ⟨rfl, rfl⟩ ⟨Nat.le_of_ble_eq_true rfl, Nat.le_of_ble_eq_true rfl⟩ (Nat.le_of_ble_eq_true rfl) (fun r_ w_ hp_ => ?_)
              obtain ⟨rfl, rfl⟩ := hp_
              refine kw_ws (List.nil_append _) ?_
              refine kc_Vi X (As := [.int (nI (dr zj k))]) (rest := [.int (nI (yC v zj k))]) (wr := List.flatten [wX g m at_ an ar au ak as_ ao, wT g at_ t, wV g an v, wPh g au adu 8 sz tp, wVs g adu uvs (List.range 8), wPh g ak adk 2 kz kp, wVs g adk kvs (List.range 2), wS g as_ s, wO g ao ado (oP, oB, oL, oC, oD, oZ, oM), wVs g ado ovs (List.range 7)]) (ct_X4_liveOneDay l g ar (yV v zj k) hgk.1 (dr zj k) (by omega)) dX5_year_67 rfl (kw_pk [wX g m at_ an ar au ak as_ ao, wT g at_ t, wV g an v, wV g ar (yV v zj k), wPh g au adu 8 sz tp, wVs g adu uvs (List.range 8), wPh g ak adk 2 kz kp, wVs g adk kvs (List.range 2), wS g as_ s, wO g ao ado (oP, oB, oL, oC, oD, oZ, oM), wVs g ado ovs (List.range 7)] 3 (Nat.le_of_ble_eq_true rfl)) mc_X4_liveOneDay kl_X5_238 mi_X4_liveOneDay mv_X4_liveOneDay kn_X4 0 rfl rfl rfl (na := 1) (by decide +kernel) rfl ⟨Nat.le_of_ble_eq_true rfl, Nat.le_of_ble_eq_true rfl⟩ ⟨rfl, rfl⟩ ⟨Nat.le_of_ble_eq_true rfl, Nat.le_of_ble_eq_true rfl⟩ (Nat.le_of_ble_eq_true rfl) (fun r_ w_ hp_ => ?_)
              obtain ⟨rfl, rfl⟩ := hp_
              refine kw_perm (ws' := List.flatten [wX g m at_ an ar au ak as_ ao, wT g at_ t, wV g an v, wV g ar (if 1 ≤ vN (yV v zj k) then wDay (yV v zj k) (dr zj k) else (yV v zj k)), wPh g au adu 8 sz tp, wVs g adu uvs (List.range 8), wPh g ak adk 2 kz kp, wVs g adk kvs (List.range 2), wS g as_ s, wO g ao ado (oP, oB, oL, oC, oD, oZ, oM), wVs g ado ovs (List.range 7)]) (kw_pk [wX g m at_ an ar au ak as_ ao, wT g at_ t, wV g an v, wV g ar (if 1 ≤ vN (yV v zj k) then wDay (yV v zj k) (dr zj k) else (yV v zj k)), wPh g au adu 8 sz tp, wVs g adu uvs (List.range 8), wPh g ak adk 2 kz kp, wVs g adk kvs (List.range 2), wS g as_ s, wO g ao ado (oP, oB, oL, oC, oD, oZ, oM), wVs g ado ovs (List.range 7)] 3 (Nat.le_of_ble_eq_true rfl)).symm ?_
              refine kn_iadd X (yC v zj k) (if 1 ≤ vN (yV v zj k) then wDayC (yV v zj k) (dr zj k) else 0) dX5_year_70 ?_
              refine kb_istore X [1, 2, 3, 4, 0, 5] dX5_year_71 (by decide) (lv' := [(0, .ref (m)), (1, .int (nI (zj))), (2, .int (nI (nj))), (3, .int (mm)), (4, .int (nI ((yC v zj k) + (if 1 ≤ vN (yV v zj k) then wDayC (yV v zj k) (dr zj k) else 0)))), (5, .int (nI (k)))]) rfl ?_
              refine kb_iinc X 5 [1, 2, 3, 4, 5, 0] (v' := nI (k + 1)) dX5_year_73 rfl (nI_add _ _) (by decide) (lv' := [(0, .ref (m)), (1, .int (nI (zj))), (2, .int (nI (nj))), (3, .int (mm)), (4, .int (nI ((yC v zj k) + (if 1 ≤ vN (yV v zj k) then wDayC (yV v zj k) (dr zj k) else 0)))), (5, .int (nI (k + 1)))]) rfl ?_
              refine kb_goto (tgt := 49) X dX5_year_76 (by decide) ?_
              exact kw_to (ih (k + 1) (by omega)) (by rw [yC, if_pos h1k] <;> rfl) rfl (by rw [show yV v zj (k + 1) = wDay (yV v zj k) (dr zj k) from rfl, if_pos h1k])
        exact kw_to (L49 nj 0 (by omega)) rfl rfl rfl
      · skip
        refine kb_iconst (v := (-1 : Int32)) X dX5_year_30 (by decide) ?_
        refine ke_i X Z dX5_year_31 ?_
        exact ⟨by simp [oYear, c1_, c2_, c3_], XWp.of hI⟩

