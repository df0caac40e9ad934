set_option maxHeartbeats 4000000 in
set_option maxRecDepth 100000 in
theorem ct_X5_within (l : Launch) (g : kw_G) (p q r_ : Int32) : kMi l g yX5_within cX5_within 3 .boolean (kw_rm 1 0 0) 0 0 [.int (p), .int (q), .int (r_)] ([]) (fun r w => r = zI (inr p q r_) ∧ w = []) := by
  refine kMi_of (by decide +kernel) (Nat.le_of_ble_eq_true rfl) (fun x (X : kX l g RX5 cX5_within 3 (kw_rm 1 0 0) x) (Z : kZi .boolean _ 0 0 x) => ?_)
  show kW x 0 0 0 [(0, .int (p)), (1, .int (q)), (2, .int (r_))] [] []
  refine kb_iload_n X 0 dX5_within_0 rfl rfl ?_
  refine kb_iload_n X 1 dX5_within_1 rfl rfl ?_
  refine kb_icmp_lt (tgt := 14) X dX5_within_2 (by decide) (fun c1_ => ?_) (fun c1_ => ?_)
  · skip
    refine kb_iconst (v := (0 : Int32)) X dX5_within_14 (by decide) ?_
    refine ke_z X Z rfl dX5_within_15 ?_
    exact ⟨(by first | rfl | (simp [zI, inr, c1_]; done) | (simp [zI, inr, c1_] <;> omega) | (simp_all [zI, inr, c1_]; done)), (by first | rfl | (simp [zI, inr, c1_]; done) | (simp [zI, inr, c1_] <;> omega) | (simp_all [zI, inr, c1_]; done))⟩
  · skip
    refine kb_iload_n X 0 dX5_within_5 rfl rfl ?_
    refine kb_iload_n X 2 dX5_within_6 rfl rfl ?_
    refine kb_icmp_gt (tgt := 14) X dX5_within_7 (by decide) (fun c2_ => ?_) (fun c2_ => ?_)
    · skip
      refine kb_iconst (v := (0 : Int32)) X dX5_within_14 (by decide) ?_
      refine ke_z X Z rfl dX5_within_15 ?_
      exact ⟨(by first | rfl | (simp [zI, inr, c1_, c2_]; done) | (simp [zI, inr, c1_, c2_] <;> omega) | (simp_all [zI, inr, c1_, c2_]; done)), (by first | rfl | (simp [zI, inr, c1_, c2_]; done) | (simp [zI, inr, c1_, c2_] <;> omega) | (simp_all [zI, inr, c1_, c2_]; done))⟩
    · skip
      refine kb_iconst (v := (1 : Int32)) X dX5_within_10 (by decide) ?_
      refine kb_goto (tgt := 15) X dX5_within_11 (by decide) ?_
      refine ke_z X Z rfl dX5_within_15 ?_
      exact ⟨(by first | rfl | (simp [zI, inr, c1_, c2_]; done) | (simp [zI, inr, c1_, c2_] <;> omega) | (simp_all [zI, inr, c1_, c2_]; done)), (by first | rfl | (simp [zI, inr, c1_, c2_]; done) | (simp [zI, inr, c1_, c2_] <;> omega) | (simp_all [zI, inr, c1_, c2_]; done))⟩

set_option maxHeartbeats 4000000 in
set_option maxRecDepth 100000 in
theorem ct_X5_isFare (l : Launch) (g : kw_G) (b c : Int32) : kMi l g yX5_isFare cX5_isFare 2 .boolean (kw_rm 2 0 0) 0 0 [.int (b), .int (c)] ([]) (fun r w => r = zI (fare b c) ∧ w = []) := by
  refine kMi_of (by decide +kernel) (Nat.le_of_ble_eq_true rfl) (fun x (X : kX l g RX5 cX5_isFare 2 (kw_rm 2 0 0) x) (Z : kZi .boolean _ 0 0 x) => ?_)
  show kW x 0 0 0 [(0, .int (b)), (1, .int (c))] [] []
  refine kb_iload_n X 0 dX5_isFare_0 rfl rfl ?_
  refine kb_iconst (v := (0 : Int32)) X dX5_isFare_1 (by decide) ?_
  refine kb_iconst (v := (3 : Int32)) X dX5_isFare_2 (by decide) ?_
  refine kc_Si X (As := [.int (b), .int 0, .int 3]) (rest := []) (wr := ([])) (ct_X5_within l g b (0 : Int32) (3 : Int32) ) dX5_isFare_3 rfl (List.Perm.refl _) mc_X5_within kl_X5_75 ms_X5_within kn_X5 (na := 3) (by decide +kernel) rfl ⟨Nat.le_of_ble_eq_true rfl, Nat.le_of_ble_eq_true rfl⟩ ⟨rfl, rfl⟩ ⟨Nat.le_of_ble_eq_true rfl, Nat.le_of_ble_eq_true rfl⟩ (Nat.le_of_ble_eq_true rfl) (fun r_ w_ hp_ => ?_)
  obtain ⟨rfl, rfl⟩ := hp_
  refine kw_ws (List.nil_append _) ?_
  refine kz_if_eq (b := inr b (0 : Int32) (3 : Int32)) (tgt := 22) X dX5_isFare_6 (by decide) (fun c1_ => ?_) (fun c1_ => ?_)
  · skip
    refine kb_iconst (v := (0 : Int32)) X dX5_isFare_22 (by decide) ?_
    refine ke_z X Z rfl dX5_isFare_23 ?_
    exact ⟨(by first | rfl | (simp [zI, fare, c1_]; done) | (simp [zI, fare, c1_] <;> omega) | (simp_all [zI, fare, c1_]; done)), (by first | rfl | (simp [zI, fare, c1_]; done) | (simp [zI, fare, c1_] <;> omega) | (simp_all [zI, fare, c1_]; done))⟩
  · skip
    refine kb_iload_n X 1 dX5_isFare_9 rfl rfl ?_
    refine kb_iconst (v := (0 : Int32)) X dX5_isFare_10 (by decide) ?_
    refine kb_iconst (v := (3 : Int32)) X dX5_isFare_11 (by decide) ?_
    refine kc_Si X (As := [.int (c), .int 0, .int 3]) (rest := []) (wr := ([])) (ct_X5_within l g c (0 : Int32) (3 : Int32) ) dX5_isFare_12 rfl (List.Perm.refl _) mc_X5_within kl_X5_75 ms_X5_within kn_X5 (na := 3) (by decide +kernel) rfl ⟨Nat.le_of_ble_eq_true rfl, Nat.le_of_ble_eq_true rfl⟩ ⟨rfl, rfl⟩ ⟨Nat.le_of_ble_eq_true rfl, Nat.le_of_ble_eq_true rfl⟩ (Nat.le_of_ble_eq_true rfl) (fun r_ w_ hp_ => ?_)
    obtain ⟨rfl, rfl⟩ := hp_
    refine kw_ws (List.nil_append _) ?_
    refine kz_if_eq (b := inr c (0 : Int32) (3 : Int32)) (tgt := 22) X dX5_isFare_15 (by decide) (fun c2_ => ?_) (fun c2_ => ?_)
    · skip
      refine kb_iconst (v := (0 : Int32)) X dX5_isFare_22 (by decide) ?_
      refine ke_z X Z rfl dX5_isFare_23 ?_
      exact ⟨(by first | rfl | (simp [zI, fare, c1_, c2_]; done) | (simp [zI, fare, c1_, c2_] <;> omega) | (simp_all [zI, fare, c1_, c2_]; done)), (by first | rfl | (simp [zI, fare, c1_, c2_]; done) | (simp [zI, fare, c1_, c2_] <;> omega) | (simp_all [zI, fare, c1_, c2_]; done))⟩
    · skip
      refine kb_iconst (v := (1 : Int32)) X dX5_isFare_18 (by decide) ?_
      refine kb_goto (tgt := 23) X dX5_isFare_19 (by decide) ?_
      refine ke_z X Z rfl dX5_isFare_23 ?_
      exact ⟨(by first | rfl | (simp [zI, fare, c1_, c2_]; done) | (simp [zI, fare, c1_, c2_] <;> omega) | (simp_all [zI, fare, c1_, c2_]; done)), (by first | rfl | (simp [zI, fare, c1_, c2_]; done) | (simp [zI, fare, c1_, c2_] <;> omega) | (simp_all [zI, fare, c1_, c2_]; done))⟩

set_option maxHeartbeats 4000000 in
set_option maxRecDepth 100000 in
theorem ct_X5_wipe (l : Launch) (g : kw_G) (m : Nat) (at_ an ar au : Nat → Nat) (adu : Nat → Nat → Nat) (ak : Nat → Nat) (adk : Nat → Nat → Nat) (as_ ao : Nat → Nat) (ado : Nat → Nat → Nat) (t : TS) (v u : VS) (sz tp : Nat) (uvs : Nat → VS) (kz kp : Nat) (kvs : Nat → VS) (s : SS) (oP oB : Nat → Nat) (oL oC : Int32) (oD oZ oM : Nat) (ovs : Nat → VS) (us ks : List VS) (tf : Nat → Nat) (tn : Nat) (hI : XI t sz tp uvs kz kp kvs oB oL oC oD oZ oM ovs v us ks tf tn s) : kMi l g yX5_wipe cX5_wipe 2 .int (kw_rm 2 0 0) 0 0 [.ref (m)] (List.flatten [wX g m at_ an ar au ak as_ ao, wT g at_ t, wV g an v, wV g ar u, wPh g au adu 8 sz tp, wVs g adu uvs (List.range 8), wPh g ak adk 2 kz kp, wVs g adk kvs (List.range 2), wS g as_ s, wO g ao ado (oP, oB, oL, oC, oD, oZ, oM), wVs g ado ovs (List.range 7)]) (fun r w => r = nI tn ∧ XWp g m at_ an ar au adu ak adk as_ ao ado v us ks tf 0 s w) := by
  refine kMi_of (by decide +kernel) (Nat.le_of_ble_eq_true rfl) (fun x (X : kX l g RX5 cX5_wipe 2 (kw_rm 2 0 0) x) (Z : kZi .int _ 0 0 x) => ?_)
  show kW x 0 0 0 [(0, .ref (m))] [] (List.flatten [wX g m at_ an ar au ak as_ ao, wT g at_ t, wV g an v, wV g ar u, wPh g au adu 8 sz tp, wVs g adu uvs (List.range 8), wPh g ak adk 2 kz kp, wVs g adk kvs (List.range 2), wS g as_ s, wO g ao ado (oP, oB, oL, oC, oD, oZ, oM), wVs g ado ovs (List.range 7)])
  obtain ⟨hG, hU, hKp, hT_, hs, hO⟩ := id hI
  have hv := hG.1
  have hT := hG.2.1
  have hN0 := hG.2.2.2
  have h6 := hv.1
  have hx64 := hv.2.1
  have hh64 := hv.2.2
  obtain ⟨ht, etn, htx⟩ := id hT_
  have hs1 := hs.1
  have hus := hU.1
  have hsz := hU.2.1
  have htp := hU.2.2.1
  have hks := hKp.1
  have hkz := hKp.2.1
  have hkp := hKp.2.2.1
  refine kb_aload_n X 0 dX5_wipe_0 rfl rfl ?_
  refine kf_get (v := .ref (at_ 0)) (C := RX5) (T := TX5) (N := 7) (ci := 5) X kw_iX5 rfl 0 0 0 rfl rfl (by decide) kf_X5_10 rfl rfl dX5_wipe_1 ?_
  refine kf_get (v := .int (nI (tN t))) (C := RX3) (T := TX3) (N := 4) (ci := 3) X kw_iX3 rfl 2 1 0 rfl rfl (by decide) kf_X5_83 rfl rfl dX5_wipe_4 ?_
  refine kb_istore_n X [1, 0] dX5_wipe_7 rfl (by decide) (lv' := [(0, .ref (m)), (1, .int (nI (tN t)))]) rfl ?_
  refine kb_aload_n X 0 dX5_wipe_8 rfl rfl ?_
  refine kf_get (v := .ref (at_ 0)) (C := RX5) (T := TX5) (N := 7) (ci := 5) X kw_iX5 rfl 0 0 0 rfl rfl (by decide) kf_X5_10 rfl rfl dX5_wipe_9 ?_
  refine kc_Vv X (As := []) (rest := []) (wr := List.flatten [wX g m at_ an ar au ak as_ ao, wV g an v, wV g ar u, wPh g au adu 8 sz tp, wVs g adu uvs (List.range 8), wPh g ak adk 2 kz kp, wVs g adk kvs (List.range 2), wS g as_ s, wO g ao ado (oP, oB, oL, oC, oD, oZ, oM), wVs g ado ovs (List.range 7)]) (ct_X3_clear l g at_ t  ) dX5_wipe_12 rfl (kw_pk [wX g m at_ an ar au ak as_ ao, wT g at_ t, wV g an v, wV g ar u, wPh g au adu 8 sz tp, wVs g adu uvs (List.range 8), wPh g ak adk 2 kz kp, wVs g adk kvs (List.range 2), wS g as_ s, wO g ao ado (oP, oB, oL, oC, oD, oZ, oM), wVs g ado ovs (List.range 7)] 1 (Nat.le_of_ble_eq_true rfl)) mc_X3_clear kl_X5_72 mi_X3_clear mv_X3_clear kn_X3 0 rfl rfl rfl (na := 0) (by decide +kernel) rfl ⟨Nat.le_of_ble_eq_true rfl, Nat.le_of_ble_eq_true rfl⟩ ⟨rfl, rfl⟩ ⟨Nat.le_of_ble_eq_true rfl, Nat.le_of_ble_eq_true rfl⟩ (Nat.le_of_ble_eq_true rfl) (fun w_ hp_ => ?_)
  obtain rfl := hp_
  refine kw_perm (ws' := List.flatten [wX g m at_ an ar au ak as_ ao, wT g at_ (sTn t 0), wV g an v, wV g ar u, wPh g au adu 8 sz tp, wVs g adu uvs (List.range 8), wPh g ak adk 2 kz kp, wVs g adk kvs (List.range 2), wS g as_ s, wO g ao ado (oP, oB, oL, oC, oD, oZ, oM), wVs g ado ovs (List.range 7)]) (kw_pk [wX g m at_ an ar au ak as_ ao, wT g at_ (sTn t 0), wV g an v, wV g ar u, wPh g au adu 8 sz tp, wVs g adu uvs (List.range 8), wPh g ak adk 2 kz kp, wVs g adk kvs (List.range 2), wS g as_ s, wO g ao ado (oP, oB, oL, oC, oD, oZ, oM), wVs g ado ovs (List.range 7)] 1 (Nat.le_of_ble_eq_true rfl)).symm ?_
  refine kb_iload_n X 1 dX5_wipe_15 rfl rfl ?_
  refine ke_i X Z dX5_wipe_16 ?_
  exact ⟨by rw [etn], XWp.of ⟨hG, hU, hKp, ⟨⟨Nat.zero_le _, fun j hj => absurd hj (Nat.not_lt_zero _), ht.2.2⟩, rfl, fun k hk => absurd hk (Nat.not_lt_zero _)⟩, hs, hO⟩⟩

set_option maxHeartbeats 4000000 in
set_option maxRecDepth 100000 in
theorem ct_X5_tie (l : Launch) (g : kw_G) (m : Nat) (at_ an ar au : Nat → Nat) (adu : Nat → Nat → Nat) (ak : Nat → Nat) (adk : Nat → Nat → Nat) (as_ ao : Nat → Nat) (ado : Nat → Nat → Nat) (t : TS) (v u : VS) (sz tp : Nat) (uvs : Nat → VS) (kz kp : Nat) (kvs : Nat → VS) (s : SS) (oP oB : Nat → Nat) (oL oC : Int32) (oD oZ oM : Nat) (ovs : Nat → VS) (us ks : List VS) (tf : Nat → Nat) (tn : Nat) (hI : XI t sz tp uvs kz kp kvs oB oL oC oD oZ oM ovs v us ks tf tn s) (i j : Int32) : kMi l g yX5_tie cX5_tie 3 .int (kw_rm 3 0 0) 0 0 [.ref (m), .int (i), .int (j)] (List.flatten [wX g m at_ an ar au ak as_ ao, wT g at_ t, wV g an v, wV g ar u, wPh g au adu 8 sz tp, wVs g adu uvs (List.range 8), wPh g ak adk 2 kz kp, wVs g adk kvs (List.range 2), wS g as_ s, wO g ao ado (oP, oB, oL, oC, oD, oZ, oM), wVs g ado ovs (List.range 7)]) (fun r w => r = oTieOf v i j ∧ XWp g m at_ an ar au adu ak adk as_ ao ado v us ks tf tn s w) := by
  refine kMi_of (by decide +kernel) (Nat.le_of_ble_eq_true rfl) (fun x (X : kX l g RX5 cX5_tie 3 (kw_rm 3 0 0) x) (Z : kZi .int _ 0 0 x) => ?_)
  show kW x 0 0 0 [(0, .ref (m)), (1, .int (i)), (2, .int (j))] [] (List.flatten [wX g m at_ an ar au ak as_ ao, wT g at_ t, wV g an v, wV g ar u, wPh g au adu 8 sz tp, wVs g adu uvs (List.range 8), wPh g ak adk 2 kz kp, wVs g adk kvs (List.range 2), wS g as_ s, wO g ao ado (oP, oB, oL, oC, oD, oZ, oM), wVs g ado ovs (List.range 7)])
  obtain ⟨hG, hU, hKp, hT_, hs, hO⟩ := id hI
  have hv := hG.1
  have hT := hG.2.1
  have hN0 := hG.2.2.2
  have h6 := hv.1
  have hx64 := hv.2.1
  have hh64 := hv.2.2
  obtain ⟨ht, etn, htx⟩ := id hT_
  have hs1 := hs.1
  have hus := hU.1
  have hsz := hU.2.1
  have htp := hU.2.2.1
  have hks := hKp.1
  have hkz := hKp.2.1
  have hkp := hKp.2.2.1
  refine kb_aload_n X 0 dX5_tie_0 rfl rfl ?_
  refine kf_get (v := .ref (an 0)) (C := RX5) (T := TX5) (N := 7) (ci := 5) X kw_iX5 rfl 1 0 0 rfl rfl (by decide) kf_X5_19 rfl rfl dX5_tie_1 ?_
  refine kb_iload_n X 1 dX5_tie_4 rfl rfl ?_
  refine kb_iload_n X 2 dX5_tie_5 rfl rfl ?_
  refine kc_Vi X (As := [.int (i), .int (j)]) (rest := []) (wr := List.flatten [wX g m at_ an ar au ak as_ ao, wT g at_ t, wV g ar u, wPh g au adu 8 sz tp, wVs g adu uvs (List.range 8), wPh g ak adk 2 kz kp, wVs g adk kvs (List.range 2), wS g as_ s, wO g ao ado (oP, oB, oL, oC, oD, oZ, oM), wVs g ado ovs (List.range 7)]) (ct_X4_hasTwo l g an v i j ) dX5_tie_6 rfl (kw_pk [wX g m at_ an ar au ak as_ ao, wT g at_ t, wV g an v, wV g ar u, wPh g au adu 8 sz tp, wVs g adu uvs (List.range 8), wPh g ak adk 2 kz kp, wVs g adk kvs (List.range 2), wS g as_ s, wO g ao ado (oP, oB, oL, oC, oD, oZ, oM), wVs g ado ovs (List.range 7)] 2 (Nat.le_of_ble_eq_true rfl)) mc_X4_hasTwo kl_X5_121 mi_X4_hasTwo mv_X4_hasTwo kn_X4 0 rfl rfl rfl (na := 2) (by decide +kernel) rfl ⟨Nat.le_of_ble_eq_true rfl, Nat.le_of_ble_eq_true rfl⟩ ⟨rfl, rfl⟩ ⟨Nat.le_of_ble_eq_true rfl, Nat.le_of_ble_eq_true rfl⟩ (Nat.le_of_ble_eq_true rfl) (fun r_ w_ hp_ => ?_)
  obtain ⟨rfl, rfl⟩ := hp_
  refine kw_perm (ws' := List.flatten [wX g m at_ an ar au ak as_ ao, wT g at_ t, wV g an v, wV g ar u, wPh g au adu 8 sz tp, wVs g adu uvs (List.range 8), wPh g ak adk 2 kz kp, wVs g adk kvs (List.range 2), wS g as_ s, wO g ao ado (oP, oB, oL, oC, oD, oZ, oM), wVs g ado ovs (List.range 7)]) (kw_pk [wX g m at_ an ar au ak as_ ao, wT g at_ t, wV g an v, wV g ar u, wPh g au adu 8 sz tp, wVs g adu uvs (List.range 8), wPh g ak adk 2 kz kp, wVs g adk kvs (List.range 2), wS g as_ s, wO g ao ado (oP, oB, oL, oC, oD, oZ, oM), wVs g ado ovs (List.range 7)] 2 (Nat.le_of_ble_eq_true rfl)).symm ?_
  refine kz_if_ne (b := two i j (vN v)) (tgt := 14) X dX5_tie_9 (by decide) (fun c1_ => ?_) (fun c1_ => ?_)
  · skip
    obtain ⟨ij, jj, hij, hjj, hne, eij, ejj, ePi, ePj⟩ := two_j h6 c1_
    refine kw_lv (lv' := [(0, .ref (m)), (1, .int (nI (ij))), (2, .int (j))]) (by rw [eij]) ?_
    refine kw_lv (lv' := [(0, .ref (m)), (1, .int (nI (ij))), (2, .int (nI (jj)))]) (by rw [ejj]) ?_
    refine kb_aload_n X 0 dX5_tie_14 rfl rfl ?_
    refine kf_get (v := .ref (an 0)) (C := RX5) (T := TX5) (N := 7) (ci := 5) X kw_iX5 rfl 1 0 0 rfl rfl (by decide) kf_X5_19 rfl rfl dX5_tie_15 ?_
    refine kb_iload_n X 1 dX5_tie_18 rfl rfl ?_
    refine kb_iload_n X 2 dX5_tie_19 rfl rfl ?_
    refine kc_Vi X (As := [.int (nI (ij)), .int (nI (jj))]) (rest := []) (wr := List.flatten [wX g m at_ an ar au ak as_ ao, wT g at_ t, wV g ar u, wPh g au adu 8 sz tp, wVs g adu uvs (List.range 8), wPh g ak adk 2 kz kp, wVs g adk kvs (List.range 2), wS g as_ s, wO g ao ado (oP, oB, oL, oC, oD, oZ, oM), wVs g ado ovs (List.range 7)]) (ct_X4_tieOf l g an v ij jj (by omega) (by omega)) dX5_tie_20 rfl (kw_pk [wX g m at_ an ar au ak as_ ao, wT g at_ t, wV g an v, wV g ar u, wPh g au adu 8 sz tp, wVs g adu uvs (List.range 8), wPh g ak adk 2 kz kp, wVs g adk kvs (List.range 2), wS g as_ s, wO g ao ado (oP, oB, oL, oC, oD, oZ, oM), wVs g ado ovs (List.range 7)] 2 (Nat.le_of_ble_eq_true rfl)) mc_X4_tieOf kl_X5_125 mi_X4_tieOf mv_X4_tieOf kn_X4 0 rfl rfl rfl (na := 2) (by decide +kernel) rfl ⟨Nat.le_of_ble_eq_true rfl, Nat.le_of_ble_eq_true rfl⟩ ⟨rfl, rfl⟩ ⟨Nat.le_of_ble_eq_true rfl, Nat.le_of_ble_eq_true rfl⟩ (Nat.le_of_ble_eq_true rfl) (fun r_ w_ hp_ => ?_)
    obtain ⟨rfl, rfl⟩ := hp_
    refine kw_perm (ws' := List.flatten [wX g m at_ an ar au ak as_ ao, wT g at_ t, wV g an v, wV g ar u, wPh g au adu 8 sz tp, wVs g adu uvs (List.range 8), wPh g ak adk 2 kz kp, wVs g adk kvs (List.range 2), wS g as_ s, wO g ao ado (oP, oB, oL, oC, oD, oZ, oM), wVs g ado ovs (List.range 7)]) (kw_pk [wX g m at_ an ar au ak as_ ao, wT g at_ t, wV g an v, wV g ar u, wPh g au adu 8 sz tp, wVs g adu uvs (List.range 8), wPh g ak adk 2 kz kp, wVs g adk kvs (List.range 2), wS g as_ s, wO g ao ado (oP, oB, oL, oC, oD, oZ, oM), wVs g ado ovs (List.range 7)] 2 (Nat.le_of_ble_eq_true rfl)).symm ?_
    refine kb_iconst (v := (4 : Int32)) X dX5_tie_23 (by decide) ?_
    refine kb_iadd X dX5_tie_24 ?_
    refine ke_i X Z dX5_tie_25 ?_
    exact ⟨by simp [oTieOf, c1_, ePi, ePj], XWp.of hI⟩
  · skip
    refine kb_iconst (v := (-1 : Int32)) X dX5_tie_12 (by decide) ?_
    refine ke_i X Z dX5_tie_13 ?_
    exact ⟨by simp [oTieOf, c1_], XWp.of hI⟩

set_option maxHeartbeats 4000000 in
set_option maxRecDepth 100000 in
theorem ct_X5_owes (l : Launch) (g : kw_G) (m : Nat) (at_ an ar au : Nat → Nat) (adu : Nat → Nat → Nat) (ak : Nat → Nat) (adk : Nat → Nat → Nat) (as_ ao : Nat → Nat) (ado : Nat → Nat → Nat) (t : TS) (v u : VS) (sz tp : Nat) (uvs : Nat → VS) (kz kp : Nat) (kvs : Nat → VS) (s : SS) (oP oB : Nat → Nat) (oL oC : Int32) (oD oZ oM : Nat) (ovs : Nat → VS) (us ks : List VS) (tf : Nat → Nat) (tn : Nat) (hI : XI t sz tp uvs kz kp kvs oB oL oC oD oZ oM ovs v us ks tf tn s) (i j : Int32) : kMi l g yX5_owes cX5_owes 3 .int (kw_rm 3 0 0) 0 0 [.ref (m), .int (i), .int (j)] (List.flatten [wX g m at_ an ar au ak as_ ao, wT g at_ t, wV g an v, wV g ar u, wPh g au adu 8 sz tp, wVs g adu uvs (List.range 8), wPh g ak adk 2 kz kp, wVs g adk kvs (List.range 2), wS g as_ s, wO g ao ado (oP, oB, oL, oC, oD, oZ, oM), wVs g ado ovs (List.range 7)]) (fun r w => r = oOwes v i j ∧ XWp g m at_ an ar au adu ak adk as_ ao ado v us ks tf tn s w) := by
  refine kMi_of (by decide +kernel) (Nat.le_of_ble_eq_true rfl) (fun x (X : kX l g RX5 cX5_owes 3 (kw_rm 3 0 0) x) (Z : kZi .int _ 0 0 x) => ?_)
  show kW x 0 0 0 [(0, .ref (m)), (1, .int (i)), (2, .int (j))] [] (List.flatten [wX g m at_ an ar au ak as_ ao, wT g at_ t, wV g an v, wV g ar u, wPh g au adu 8 sz tp, wVs g adu uvs (List.range 8), wPh g ak adk 2 kz kp, wVs g adk kvs (List.range 2), wS g as_ s, wO g ao ado (oP, oB, oL, oC, oD, oZ, oM), wVs g ado ovs (List.range 7)])
  obtain ⟨hG, hU, hKp, hT_, hs, hO⟩ := id hI
  have hv := hG.1
  have hT := hG.2.1
  have hN0 := hG.2.2.2
  have h6 := hv.1
  have hx64 := hv.2.1
  have hh64 := hv.2.2
  obtain ⟨ht, etn, htx⟩ := id hT_
  have hs1 := hs.1
  have hus := hU.1
  have hsz := hU.2.1
  have htp := hU.2.2.1
  have hks := hKp.1
  have hkz := hKp.2.1
  have hkp := hKp.2.2.1
  refine kb_aload_n X 0 dX5_owes_0 rfl rfl ?_
  refine kf_get (v := .ref (an 0)) (C := RX5) (T := TX5) (N := 7) (ci := 5) X kw_iX5 rfl 1 0 0 rfl rfl (by decide) kf_X5_19 rfl rfl dX5_owes_1 ?_
  refine kb_iload_n X 1 dX5_owes_4 rfl rfl ?_
  refine kb_iload_n X 2 dX5_owes_5 rfl rfl ?_
  refine kc_Vi X (As := [.int (i), .int (j)]) (rest := []) (wr := List.flatten [wX g m at_ an ar au ak as_ ao, wT g at_ t, wV g ar u, wPh g au adu 8 sz tp, wVs g adu uvs (List.range 8), wPh g ak adk 2 kz kp, wVs g adk kvs (List.range 2), wS g as_ s, wO g ao ado (oP, oB, oL, oC, oD, oZ, oM), wVs g ado ovs (List.range 7)]) (ct_X4_hasTwo l g an v i j ) dX5_owes_6 rfl (kw_pk [wX g m at_ an ar au ak as_ ao, wT g at_ t, wV g an v, wV g ar u, wPh g au adu 8 sz tp, wVs g adu uvs (List.range 8), wPh g ak adk 2 kz kp, wVs g adk kvs (List.range 2), wS g as_ s, wO g ao ado (oP, oB, oL, oC, oD, oZ, oM), wVs g ado ovs (List.range 7)] 2 (Nat.le_of_ble_eq_true rfl)) mc_X4_hasTwo kl_X5_121 mi_X4_hasTwo mv_X4_hasTwo kn_X4 0 rfl rfl rfl (na := 2) (by decide +kernel) rfl ⟨Nat.le_of_ble_eq_true rfl, Nat.le_of_ble_eq_true rfl⟩ ⟨rfl, rfl⟩ ⟨Nat.le_of_ble_eq_true rfl, Nat.le_of_ble_eq_true rfl⟩ (Nat.le_of_ble_eq_true rfl) (fun r_ w_ hp_ => ?_)
  obtain ⟨rfl, rfl⟩ := hp_
  refine kw_perm (ws' := List.flatten [wX g m at_ an ar au ak as_ ao, wT g at_ t, wV g an v, wV g ar u, wPh g au adu 8 sz tp, wVs g adu uvs (List.range 8), wPh g ak adk 2 kz kp, wVs g adk kvs (List.range 2), wS g as_ s, wO g ao ado (oP, oB, oL, oC, oD, oZ, oM), wVs g ado ovs (List.range 7)]) (kw_pk [wX g m at_ an ar au ak as_ ao, wT g at_ t, wV g an v, wV g ar u, wPh g au adu 8 sz tp, wVs g adu uvs (List.range 8), wPh g ak adk 2 kz kp, wVs g adk kvs (List.range 2), wS g as_ s, wO g ao ado (oP, oB, oL, oC, oD, oZ, oM), wVs g ado ovs (List.range 7)] 2 (Nat.le_of_ble_eq_true rfl)).symm ?_
  refine kz_if_ne (b := two i j (vN v)) (tgt := 14) X dX5_owes_9 (by decide) (fun c1_ => ?_) (fun c1_ => ?_)
  · skip
    obtain ⟨ij, jj, hij, hjj, hne, eij, ejj, ePi, ePj⟩ := two_j h6 c1_
    refine kw_lv (lv' := [(0, .ref (m)), (1, .int (nI (ij))), (2, .int (j))]) (by rw [eij]) ?_
    refine kw_lv (lv' := [(0, .ref (m)), (1, .int (nI (ij))), (2, .int (nI (jj)))]) (by rw [ejj]) ?_
    refine kb_aload_n X 0 dX5_owes_14 rfl rfl ?_
    refine kf_get (v := .ref (an 0)) (C := RX5) (T := TX5) (N := 7) (ci := 5) X kw_iX5 rfl 1 0 0 rfl rfl (by decide) kf_X5_19 rfl rfl dX5_owes_15 ?_
    refine kb_iload_n X 1 dX5_owes_18 rfl rfl ?_
    refine kb_iload_n X 2 dX5_owes_19 rfl rfl ?_
    refine kc_Vi X (As := [.int (nI (ij)), .int (nI (jj))]) (rest := []) (wr := List.flatten [wX g m at_ an ar au ak as_ ao, wT g at_ t, wV g ar u, wPh g au adu 8 sz tp, wVs g adu uvs (List.range 8), wPh g ak adk 2 kz kp, wVs g adk kvs (List.range 2), wS g as_ s, wO g ao ado (oP, oB, oL, oC, oD, oZ, oM), wVs g ado ovs (List.range 7)]) (ct_X4_debtOf l g an v ij jj (by omega) (by omega)) dX5_owes_20 rfl (kw_pk [wX g m at_ an ar au ak as_ ao, wT g at_ t, wV g an v, wV g ar u, wPh g au adu 8 sz tp, wVs g adu uvs (List.range 8), wPh g ak adk 2 kz kp, wVs g adk kvs (List.range 2), wS g as_ s, wO g ao ado (oP, oB, oL, oC, oD, oZ, oM), wVs g ado ovs (List.range 7)] 2 (Nat.le_of_ble_eq_true rfl)) mc_X4_debtOf kl_X5_129 mi_X4_debtOf mv_X4_debtOf kn_X4 0 rfl rfl rfl (na := 2) (by decide +kernel) rfl ⟨Nat.le_of_ble_eq_true rfl, Nat.le_of_ble_eq_true rfl⟩ ⟨rfl, rfl⟩ ⟨Nat.le_of_ble_eq_true rfl, Nat.le_of_ble_eq_true rfl⟩ (Nat.le_of_ble_eq_true rfl) (fun r_ w_ hp_ => ?_)
    obtain ⟨rfl, rfl⟩ := hp_
    refine kw_perm (ws' := List.flatten [wX g m at_ an ar au ak as_ ao, wT g at_ t, wV g an v, wV g ar u, wPh g au adu 8 sz tp, wVs g adu uvs (List.range 8), wPh g ak adk 2 kz kp, wVs g adk kvs (List.range 2), wS g as_ s, wO g ao ado (oP, oB, oL, oC, oD, oZ, oM), wVs g ado ovs (List.range 7)]) (kw_pk [wX g m at_ an ar au ak as_ ao, wT g at_ t, wV g an v, wV g ar u, wPh g au adu 8 sz tp, wVs g adu uvs (List.range 8), wPh g ak adk 2 kz kp, wVs g adk kvs (List.range 2), wS g as_ s, wO g ao ado (oP, oB, oL, oC, oD, oZ, oM), wVs g ado ovs (List.range 7)] 2 (Nat.le_of_ble_eq_true rfl)).symm ?_
    refine ke_i X Z dX5_owes_23 ?_
    exact ⟨by simp [oOwes, c1_, ePi, ePj], XWp.of hI⟩
  · skip
    refine kb_iconst (v := (-1 : Int32)) X dX5_owes_12 (by decide) ?_
    refine ke_i X Z dX5_owes_13 ?_
    exact ⟨by simp [oOwes, c1_], XWp.of hI⟩

set_option maxHeartbeats 4000000 in
set_option maxRecDepth 100000 in
theorem ct_X5_trial (l : Launch) (g : kw_G) (m : Nat) (at_ an ar au : Nat → Nat) (adu : Nat → Nat → Nat) (ak : Nat → Nat) (adk : Nat → Nat → Nat) (as_ ao : Nat → Nat) (ado : Nat → Nat → Nat) (t : TS) (v u : VS) (sz tp : Nat) (uvs : Nat → VS) (kz kp : Nat) (kvs : Nat → VS) (s : SS) (oP oB : Nat → Nat) (oL oC : Int32) (oD oZ oM : Nat) (ovs : Nat → VS) (us ks : List VS) (tf : Nat → Nat) (tn : Nat) (hI : XI t sz tp uvs kz kp kvs oB oL oC oD oZ oM ovs v us ks tf tn s) (p b c : Int32) : kMi l g yX5_trial cX5_trial 4 .int (kw_rm 6 0 0) 0 0 [.ref (m), .int (p), .int (b), .int (c)] (List.flatten [wX g m at_ an ar au ak as_ ao, wT g at_ t, wV g an v, wV g ar u, wPh g au adu 8 sz tp, wVs g adu uvs (List.range 8), wPh g ak adk 2 kz kp, wVs g adk kvs (List.range 2), wS g as_ s, wO g ao ado (oP, oB, oL, oC, oD, oZ, oM), wVs g ado ovs (List.range 7)]) (fun r w => r = (oTrial v p b c).1 ∧ XWp g m at_ an ar au adu ak adk as_ ao ado (pv v (oTrial v p b c).2) (pu v us (oTrial v p b c).2) ks tf tn s w) := by
  refine kMi_of (by decide +kernel) (Nat.le_of_ble_eq_true rfl) (fun x (X : kX l g RX5 cX5_trial 4 (kw_rm 6 0 0) x) (Z : kZi .int _ 0 0 x) => ?_)
  show kW x 0 0 0 [(0, .ref (m)), (1, .int (p)), (2, .int (b)), (3, .int (c))] [] (List.flatten [wX g m at_ an ar au ak as_ ao, wT g at_ t, wV g an v, wV g ar u, wPh g au adu 8 sz tp, wVs g adu uvs (List.range 8), wPh g ak adk 2 kz kp, wVs g adk kvs (List.range 2), wS g as_ s, wO g ao ado (oP, oB, oL, oC, oD, oZ, oM), wVs g ado ovs (List.range 7)])
  obtain ⟨hG, hU, hKp, hT_, hs, hO⟩ := id hI
  have hv := hG.1
  have hT := hG.2.1
  have hN0 := hG.2.2.2
  have h6 := hv.1
  have hx64 := hv.2.1
  have hh64 := hv.2.2
  obtain ⟨ht, etn, htx⟩ := id hT_
  have hs1 := hs.1
  have hus := hU.1
  have hsz := hU.2.1
  have htp := hU.2.2.1
  have hks := hKp.1
  have hkz := hKp.2.1
  have hkp := hKp.2.2.1
  refine kb_aload_n X 0 dX5_trial_0 rfl rfl ?_
  refine kf_get (v := .ref (an 0)) (C := RX5) (T := TX5) (N := 7) (ci := 5) X kw_iX5 rfl 1 0 0 rfl rfl (by decide) kf_X5_19 rfl rfl dX5_trial_1 ?_
  refine kb_iload_n X 1 dX5_trial_4 rfl rfl ?_
  refine kc_Vi X (As := [.int (p)]) (rest := []) (wr := List.flatten [wX g m at_ an ar au ak as_ ao, wT g at_ t, wV g ar u, wPh g au adu 8 sz tp, wVs g adu uvs (List.range 8), wPh g ak adk 2 kz kp, wVs g adk kvs (List.range 2), wS g as_ s, wO g ao ado (oP, oB, oL, oC, oD, oZ, oM), wVs g ado ovs (List.range 7)]) (ct_X4_has l g an v p ) dX5_trial_5 rfl (kw_pk [wX g m at_ an ar au ak as_ ao, wT g at_ t, wV g an v, wV g ar u, wPh g au adu 8 sz tp, wVs g adu uvs (List.range 8), wPh g ak adk 2 kz kp, wVs g adk kvs (List.range 2), wS g as_ s, wO g ao ado (oP, oB, oL, oC, oD, oZ, oM), wVs g ado ovs (List.range 7)] 2 (Nat.le_of_ble_eq_true rfl)) mc_X4_has kl_X5_97 mi_X4_has mv_X4_has kn_X4 0 rfl rfl rfl (na := 1) (by decide +kernel) rfl ⟨Nat.le_of_ble_eq_true rfl, Nat.le_of_ble_eq_true rfl⟩ ⟨rfl, rfl⟩ ⟨Nat.le_of_ble_eq_true rfl, Nat.le_of_ble_eq_true rfl⟩ (Nat.le_of_ble_eq_true rfl) (fun r_ w_ hp_ => ?_)
  obtain ⟨rfl, rfl⟩ := hp_
  refine kw_perm (ws' := List.flatten [wX g m at_ an ar au ak as_ ao, wT g at_ t, wV g an v, wV g ar u, wPh g au adu 8 sz tp, wVs g adu uvs (List.range 8), wPh g ak adk 2 kz kp, wVs g adk kvs (List.range 2), wS g as_ s, wO g ao ado (oP, oB, oL, oC, oD, oZ, oM), wVs g ado ovs (List.range 7)]) (kw_pk [wX g m at_ an ar au ak as_ ao, wT g at_ t, wV g an v, wV g ar u, wPh g au adu 8 sz tp, wVs g adu uvs (List.range 8), wPh g ak adk 2 kz kp, wVs g adk kvs (List.range 2), wS g as_ s, wO g ao ado (oP, oB, oL, oC, oD, oZ, oM), wVs g ado ovs (List.range 7)] 2 (Nat.le_of_ble_eq_true rfl)).symm ?_
  refine kz_if_eq (b := pin p (vN v)) (tgt := 19) X dX5_trial_8 (by decide) (fun c1_ => ?_) (fun c1_ => ?_)
  · skip
    refine kb_iconst (v := (-1 : Int32)) X dX5_trial_19 (by decide) ?_
    refine ke_i X Z dX5_trial_20 ?_
    have e_ : oTrial v p b c = (-1, none) := by simp [oTrial, c1_]
    rw [e_]
    exact ⟨rfl, XWp.of hI⟩
  · skip
    obtain ⟨pj, hpj, epj, ePp⟩ := pin_j h6 c1_
    refine kb_iload_n X 2 dX5_trial_11 rfl rfl ?_
    refine kb_iload_n X 3 dX5_trial_12 rfl rfl ?_
    refine kc_Si X (As := [.int (b), .int (c)]) (rest := []) (wr := (List.flatten [wX g m at_ an ar au ak as_ ao, wT g at_ t, wV g an v, wV g ar u, wPh g au adu 8 sz tp, wVs g adu uvs (List.range 8), wPh g ak adk 2 kz kp, wVs g adk kvs (List.range 2), wS g as_ s, wO g ao ado (oP, oB, oL, oC, oD, oZ, oM), wVs g ado ovs (List.range 7)])) (ct_X5_isFare l g b c ) dX5_trial_13 rfl (List.Perm.refl _) mc_X5_isFare kl_X5_132 ms_X5_isFare kn_X5 (na := 2) (by decide +kernel) rfl ⟨Nat.le_of_ble_eq_true rfl, Nat.le_of_ble_eq_true rfl⟩ ⟨rfl, rfl⟩ ⟨Nat.le_of_ble_eq_true rfl, Nat.le_of_ble_eq_true rfl⟩ (Nat.le_of_ble_eq_true rfl) (fun r_ w_ hp_ => ?_)
    obtain ⟨rfl, rfl⟩ := hp_
    refine kw_ws (List.nil_append _) ?_
    refine kz_if_ne (b := fare b c) (tgt := 21) X dX5_trial_16 (by decide) (fun c2_ => ?_) (fun c2_ => ?_)
    · skip
      refine kw_lv (lv' := [(0, .ref (m)), (1, .int (nI (pj))), (2, .int (b)), (3, .int (c))]) (by rw [epj]) ?_
      refine kb_aload_n X 0 dX5_trial_21 rfl rfl ?_
      refine kf_get (v := .ref (an 0)) (C := RX5) (T := TX5) (N := 7) (ci := 5) X kw_iX5 rfl 1 0 0 rfl rfl (by decide) kf_X5_19 rfl rfl dX5_trial_22 ?_
      refine kb_iload_n X 1 dX5_trial_25 rfl rfl ?_
      refine kb_iload_n X 2 dX5_trial_26 rfl rfl ?_
      refine kb_iload_n X 3 dX5_trial_27 rfl rfl ?_
      refine kc_Vi X (As := [.int (nI (pj)), .int (b), .int (c)]) (rest := []) (wr := List.flatten [wX g m at_ an ar au ak as_ ao, wT g at_ t, wV g ar u, wPh g au adu 8 sz tp, wVs g adu uvs (List.range 8), wPh g ak adk 2 kz kp, wVs g adk kvs (List.range 2), wS g as_ s, wO g ao ado (oP, oB, oL, oC, oD, oZ, oM), wVs g ado ovs (List.range 7)]) (ct_X4_canHoldTrial l g an v hv pj b c (by omega)) dX5_trial_28 rfl (kw_pk [wX g m at_ an ar au ak as_ ao, wT g at_ t, wV g an v, wV g ar u, wPh g au adu 8 sz tp, wVs g adu uvs (List.range 8), wPh g ak adk 2 kz kp, wVs g adk kvs (List.range 2), wS g as_ s, wO g ao ado (oP, oB, oL, oC, oD, oZ, oM), wVs g ado ovs (List.range 7)] 2 (Nat.le_of_ble_eq_true rfl)) mc_X4_canHoldTrial kl_X5_135 mi_X4_canHoldTrial mv_X4_canHoldTrial kn_X4 0 rfl rfl rfl (na := 3) (by decide +kernel) rfl ⟨Nat.le_of_ble_eq_true rfl, Nat.le_of_ble_eq_true rfl⟩ ⟨rfl, rfl⟩ ⟨Nat.le_of_ble_eq_true rfl, Nat.le_of_ble_eq_true rfl⟩ (Nat.le_of_ble_eq_true rfl) (fun r_ w_ hp_ => ?_)
      obtain ⟨rfl, rfl⟩ := hp_
      refine kw_perm (ws' := List.flatten [wX g m at_ an ar au ak as_ ao, wT g at_ t, wV g an v, wV g ar u, wPh g au adu 8 sz tp, wVs g adu uvs (List.range 8), wPh g ak adk 2 kz kp, wVs g adk kvs (List.range 2), wS g as_ s, wO g ao ado (oP, oB, oL, oC, oD, oZ, oM), wVs g ado ovs (List.range 7)]) (kw_pk [wX g m at_ an ar au ak as_ ao, wT g at_ t, wV g an v, wV g ar u, wPh g au adu 8 sz tp, wVs g adu uvs (List.range 8), wPh g ak adk 2 kz kp, wVs g adk kvs (List.range 2), wS g as_ s, wO g ao ado (oP, oB, oL, oC, oD, oZ, oM), wVs g ado ovs (List.range 7)] 2 (Nat.le_of_ble_eq_true rfl)).symm ?_
      refine kz_if_ne (b := wCan v pj b c) (tgt := 37) X dX5_trial_31 (by decide) (fun c3_ => ?_) (fun c3_ => ?_)
      · skip
        refine kb_aload_n X 0 dX5_trial_37 rfl rfl ?_
        refine kf_get (v := .ref (au 0)) (C := RX5) (T := TX5) (N := 7) (ci := 5) X kw_iX5 rfl 3 0 0 rfl rfl (by decide) kf_X5_31 rfl rfl dX5_trial_38 ?_
        refine kb_aload_n X 0 dX5_trial_41 rfl rfl ?_
        refine kf_get (v := .ref (an 0)) (C := RX5) (T := TX5) (N := 7) (ci := 5) X kw_iX5 rfl 1 0 0 rfl rfl (by decide) kf_X5_19 rfl rfl dX5_trial_42 ?_
        refine kc_Vv X (As := [.ref (an 0)]) (rest := []) (wr := List.flatten [wX g m at_ an ar au ak as_ ao, wT g at_ t, wV g ar u, wPh g ak adk 2 kz kp, wVs g adk kvs (List.range 2), wS g as_ s, wO g ao ado (oP, oB, oL, oC, oD, oZ, oM), wVs g ado ovs (List.range 7)]) (ct_X1_put l g au adu 8 sz tp uvs an v (by omega) (by omega) (by omega) (by omega)) dX5_trial_45 rfl (kw_pk3 [wX g m at_ an ar au ak as_ ao, wT g at_ t, wV g an v, wV g ar u, wPh g au adu 8 sz tp, wVs g adu uvs (List.range 8), wPh g ak adk 2 kz kp, wVs g adk kvs (List.range 2), wS g as_ s, wO g ao ado (oP, oB, oL, oC, oD, oZ, oM), wVs g ado ovs (List.range 7)] 4 4 2 (Nat.le_of_ble_eq_true rfl) (Nat.le_of_ble_eq_true rfl) (Nat.le_of_ble_eq_true rfl)) mc_X1_put kl_X5_138 mi_X1_put mv_X1_put kn_X1 0 rfl rfl rfl (na := 1) (by decide +kernel) rfl ⟨Nat.le_of_ble_eq_true rfl, Nat.le_of_ble_eq_true rfl⟩ ⟨rfl, rfl⟩ ⟨Nat.le_of_ble_eq_true rfl, Nat.le_of_ble_eq_true rfl⟩ (Nat.le_of_ble_eq_true rfl) (fun w_ hp_ => ?_)
        obtain rfl := hp_
        refine kw_perm (ws' := List.flatten [wX g m at_ an ar au ak as_ ao, wT g at_ t, wV g an v, wV g ar u, wPh g au adu 8 (min 8 (sz + 1)) ((tp + 1) % 8), wVs g adu (va_up uvs tp v) (List.range 8), wPh g ak adk 2 kz kp, wVs g adk kvs (List.range 2), wS g as_ s, wO g ao ado (oP, oB, oL, oC, oD, oZ, oM), wVs g ado ovs (List.range 7)]) (kw_pk3 [wX g m at_ an ar au ak as_ ao, wT g at_ t, wV g an v, wV g ar u, wPh g au adu 8 (min 8 (sz + 1)) ((tp + 1) % 8), wVs g adu (va_up uvs tp v) (List.range 8), wPh g ak adk 2 kz kp, wVs g adk kvs (List.range 2), wS g as_ s, wO g ao ado (oP, oB, oL, oC, oD, oZ, oM), wVs g ado ovs (List.range 7)] 4 4 2 (Nat.le_of_ble_eq_true rfl) (Nat.le_of_ble_eq_true rfl) (Nat.le_of_ble_eq_true rfl)).symm ?_
        refine kb_aload_n X 0 dX5_trial_48 rfl rfl ?_
        refine kf_get (v := .ref (an 0)) (C := RX5) (T := TX5) (N := 7) (ci := 5) X kw_iX5 rfl 1 0 0 rfl rfl (by decide) kf_X5_19 rfl rfl dX5_trial_49 ?_
        refine kb_iload_n X 1 dX5_trial_52 rfl rfl ?_
        refine kb_iload_n X 2 dX5_trial_53 rfl rfl ?_
        refine kb_iload_n X 3 dX5_trial_54 rfl rfl ?_
        refine kc_Vi X (As := [.int (nI (pj)), .int (b), .int (c)]) (rest := []) (wr := List.flatten [wX g m at_ an ar au ak as_ ao, wT g at_ t, wV g ar u, wPh g au adu 8 (min 8 (sz + 1)) ((tp + 1) % 8), wVs g adu (va_up uvs tp v) (List.range 8), wPh g ak adk 2 kz kp, wVs g adk kvs (List.range 2), wS g as_ s, wO g ao ado (oP, oB, oL, oC, oD, oZ, oM), wVs g ado ovs (List.range 7)]) (ct_X4_holdTrial l g an v hv pj b c (by omega)) dX5_trial_55 rfl (kw_pk [wX g m at_ an ar au ak as_ ao, wT g at_ t, wV g an v, wV g ar u, wPh g au adu 8 (min 8 (sz + 1)) ((tp + 1) % 8), wVs g adu (va_up uvs tp v) (List.range 8), wPh g ak adk 2 kz kp, wVs g adk kvs (List.range 2), wS g as_ s, wO g ao ado (oP, oB, oL, oC, oD, oZ, oM), wVs g ado ovs (List.range 7)] 2 (Nat.le_of_ble_eq_true rfl)) mc_X4_holdTrial kl_X5_141 mi_X4_holdTrial mv_X4_holdTrial kn_X4 0 rfl rfl rfl (na := 3) (by decide +kernel) rfl ⟨Nat.le_of_ble_eq_true rfl, Nat.le_of_ble_eq_true rfl⟩ ⟨rfl, rfl⟩ ⟨Nat.le_of_ble_eq_true rfl, Nat.le_of_ble_eq_true rfl⟩ (Nat.le_of_ble_eq_true rfl) (fun r_ w_ hp_ => ?_)
        obtain ⟨rfl, rfl⟩ := hp_
        refine kw_perm (ws' := List.flatten [wX g m at_ an ar au ak as_ ao, wT g at_ t, wV g an (wHold v pj b c), wV g ar u, wPh g au adu 8 (min 8 (sz + 1)) ((tp + 1) % 8), wVs g adu (va_up uvs tp v) (List.range 8), wPh g ak adk 2 kz kp, wVs g adk kvs (List.range 2), wS g as_ s, wO g ao ado (oP, oB, oL, oC, oD, oZ, oM), wVs g ado ovs (List.range 7)]) (kw_pk [wX g m at_ an ar au ak as_ ao, wT g at_ t, wV g an (wHold v pj b c), wV g ar u, wPh g au adu 8 (min 8 (sz + 1)) ((tp + 1) % 8), wVs g adu (va_up uvs tp v) (List.range 8), wPh g ak adk 2 kz kp, wVs g adk kvs (List.range 2), wS g as_ s, wO g ao ado (oP, oB, oL, oC, oD, oZ, oM), wVs g ado ovs (List.range 7)] 2 (Nat.le_of_ble_eq_true rfl)).symm ?_
        refine ke_i X Z dX5_trial_58 ?_
        have e_ : oTrial v p b c = (nI (wGuests v pj b c), some (wHold v pj b c)) := by simp [oTrial, c1_, c2_, ePp, c3_]
        rw [e_]
        exact ⟨rfl, XWp.of ⟨hG.hold (by omega) b c, hU.put (by decide) hG, hKp, hT_, hs, hO⟩⟩
      · skip
        refine kb_bipush (v := (-2 : Int32)) X dX5_trial_34 (by decide) ?_
        refine ke_i X Z dX5_trial_36 ?_
        have e_ : oTrial v p b c = (-2, none) := by simp [oTrial, c1_, c2_, ePp, c3_]
        rw [e_]
        exact ⟨rfl, XWp.of hI⟩
    · skip
      refine kb_iconst (v := (-1 : Int32)) X dX5_trial_19 (by decide) ?_
      refine ke_i X Z dX5_trial_20 ?_
      have e_ : oTrial v p b c = (-1, none) := by simp [oTrial, c1_, c2_]
      rw [e_]
      exact ⟨rfl, XWp.of hI⟩

set_option maxHeartbeats 4000000 in
set_option maxRecDepth 100000 in
theorem ct_X5_gift (l : Launch) (g : kw_G) (m : Nat) (at_ an ar au : Nat → Nat) (adu : Nat → Nat → Nat) (ak : Nat → Nat) (adk : Nat → Nat → Nat) (as_ ao : Nat → Nat) (ado : Nat → Nat → Nat) (t : TS) (v u : VS) (sz tp : Nat) (uvs : Nat → VS) (kz kp : Nat) (kvs : Nat → VS) (s : SS) (oP oB : Nat → Nat) (oL oC : Int32) (oD oZ oM : Nat) (ovs : Nat → VS) (us ks : List VS) (tf : Nat → Nat) (tn : Nat) (hI : XI t sz tp uvs kz kp kvs oB oL oC oD oZ oM ovs v us ks tf tn s) (i j : Int32) : kMi l g yX5_gift cX5_gift 3 .int (kw_rm 5 0 0) 0 0 [.ref (m), .int (i), .int (j)] (List.flatten [wX g m at_ an ar au ak as_ ao, wT g at_ t, wV g an v, wV g ar u, wPh g au adu 8 sz tp, wVs g adu uvs (List.range 8), wPh g ak adk 2 kz kp, wVs g adk kvs (List.range 2), wS g as_ s, wO g ao ado (oP, oB, oL, oC, oD, oZ, oM), wVs g ado ovs (List.range 7)]) (fun r w => r = (oGift v i j).1 ∧ XWp g m at_ an ar au adu ak adk as_ ao ado (pv v (oGift v i j).2) (pu v us (oGift v i j).2) ks tf tn s w) := by
  refine kMi_of (by decide +kernel) (Nat.le_of_ble_eq_true rfl) (fun x (X : kX l g RX5 cX5_gift 3 (kw_rm 5 0 0) x) (Z : kZi .int _ 0 0 x) => ?_)
  show kW x 0 0 0 [(0, .ref (m)), (1, .int (i)), (2, .int (j))] [] (List.flatten [wX g m at_ an ar au ak as_ ao, wT g at_ t, wV g an v, wV g ar u, wPh g au adu 8 sz tp, wVs g adu uvs (List.range 8), wPh g ak adk 2 kz kp, wVs g adk kvs (List.range 2), wS g as_ s, wO g ao ado (oP, oB, oL, oC, oD, oZ, oM), wVs g ado ovs (List.range 7)])
  obtain ⟨hG, hU, hKp, hT_, hs, hO⟩ := id hI
  have hv := hG.1
  have hT := hG.2.1
  have hN0 := hG.2.2.2
  have h6 := hv.1
  have hx64 := hv.2.1
  have hh64 := hv.2.2
  obtain ⟨ht, etn, htx⟩ := id hT_
  have hs1 := hs.1
  have hus := hU.1
  have hsz := hU.2.1
  have htp := hU.2.2.1
  have hks := hKp.1
  have hkz := hKp.2.1
  have hkp := hKp.2.2.1
  refine kb_aload_n X 0 dX5_gift_0 rfl rfl ?_
  refine kf_get (v := .ref (an 0)) (C := RX5) (T := TX5) (N := 7) (ci := 5) X kw_iX5 rfl 1 0 0 rfl rfl (by decide) kf_X5_19 rfl rfl dX5_gift_1 ?_
  refine kb_iload_n X 1 dX5_gift_4 rfl rfl ?_
  refine kb_iload_n X 2 dX5_gift_5 rfl rfl ?_
  refine kc_Vi X (As := [.int (i), .int (j)]) (rest := []) (wr := List.flatten [wX g m at_ an ar au ak as_ ao, wT g at_ t, wV g ar u, wPh g au adu 8 sz tp, wVs g adu uvs (List.range 8), wPh g ak adk 2 kz kp, wVs g adk kvs (List.range 2), wS g as_ s, wO g ao ado (oP, oB, oL, oC, oD, oZ, oM), wVs g ado ovs (List.range 7)]) (ct_X4_hasTwo l g an v i j ) dX5_gift_6 rfl (kw_pk [wX g m at_ an ar au ak as_ ao, wT g at_ t, wV g an v, wV g ar u, wPh g au adu 8 sz tp, wVs g adu uvs (List.range 8), wPh g ak adk 2 kz kp, wVs g adk kvs (List.range 2), wS g as_ s, wO g ao ado (oP, oB, oL, oC, oD, oZ, oM), wVs g ado ovs (List.range 7)] 2 (Nat.le_of_ble_eq_true rfl)) mc_X4_hasTwo kl_X5_121 mi_X4_hasTwo mv_X4_hasTwo kn_X4 0 rfl rfl rfl (na := 2) (by decide +kernel) rfl ⟨Nat.le_of_ble_eq_true rfl, Nat.le_of_ble_eq_true rfl⟩ ⟨rfl, rfl⟩ ⟨Nat.le_of_ble_eq_true rfl, Nat.le_of_ble_eq_true rfl⟩ (Nat.le_of_ble_eq_true rfl) (fun r_ w_ hp_ => ?_)
  obtain ⟨rfl, rfl⟩ := hp_
  refine kw_perm (ws' := List.flatten [wX g m at_ an ar au ak as_ ao, wT g at_ t, wV g an v, wV g ar u, wPh g au adu 8 sz tp, wVs g adu uvs (List.range 8), wPh g ak adk 2 kz kp, wVs g adk kvs (List.range 2), wS g as_ s, wO g ao ado (oP, oB, oL, oC, oD, oZ, oM), wVs g ado ovs (List.range 7)]) (kw_pk [wX g m at_ an ar au ak as_ ao, wT g at_ t, wV g an v, wV g ar u, wPh g au adu 8 sz tp, wVs g adu uvs (List.range 8), wPh g ak adk 2 kz kp, wVs g adk kvs (List.range 2), wS g as_ s, wO g ao ado (oP, oB, oL, oC, oD, oZ, oM), wVs g ado ovs (List.range 7)] 2 (Nat.le_of_ble_eq_true rfl)).symm ?_
  refine kz_if_ne (b := two i j (vN v)) (tgt := 14) X dX5_gift_9 (by decide) (fun c1_ => ?_) (fun c1_ => ?_)
  · skip
    obtain ⟨ij, jj, hij, hjj, hne, eij, ejj, ePi, ePj⟩ := two_j h6 c1_
    refine kw_lv (lv' := [(0, .ref (m)), (1, .int (nI (ij))), (2, .int (j))]) (by rw [eij]) ?_
    refine kw_lv (lv' := [(0, .ref (m)), (1, .int (nI (ij))), (2, .int (nI (jj)))]) (by rw [ejj]) ?_
    refine kb_aload_n X 0 dX5_gift_14 rfl rfl ?_
    refine kf_get (v := .ref (an 0)) (C := RX5) (T := TX5) (N := 7) (ci := 5) X kw_iX5 rfl 1 0 0 rfl rfl (by decide) kf_X5_19 rfl rfl dX5_gift_15 ?_
    refine kb_iload_n X 1 dX5_gift_18 rfl rfl ?_
    refine kb_iload_n X 2 dX5_gift_19 rfl rfl ?_
    refine kc_Vi X (As := [.int (nI (ij)), .int (nI (jj))]) (rest := []) (wr := List.flatten [wX g m at_ an ar au ak as_ ao, wT g at_ t, wV g ar u, wPh g au adu 8 sz tp, wVs g adu uvs (List.range 8), wPh g ak adk 2 kz kp, wVs g adk kvs (List.range 2), wS g as_ s, wO g ao ado (oP, oB, oL, oC, oD, oZ, oM), wVs g ado ovs (List.range 7)]) (ct_X4_canGive l g an v hv ij jj (by omega) (by omega)) dX5_gift_20 rfl (kw_pk [wX g m at_ an ar au ak as_ ao, wT g at_ t, wV g an v, wV g ar u, wPh g au adu 8 sz tp, wVs g adu uvs (List.range 8), wPh g ak adk 2 kz kp, wVs g adk kvs (List.range 2), wS g as_ s, wO g ao ado (oP, oB, oL, oC, oD, oZ, oM), wVs g ado ovs (List.range 7)] 2 (Nat.le_of_ble_eq_true rfl)) mc_X4_canGive kl_X5_145 mi_X4_canGive mv_X4_canGive kn_X4 0 rfl rfl rfl (na := 2) (by decide +kernel) rfl ⟨Nat.le_of_ble_eq_true rfl, Nat.le_of_ble_eq_true rfl⟩ ⟨rfl, rfl⟩ ⟨Nat.le_of_ble_eq_true rfl, Nat.le_of_ble_eq_true rfl⟩ (Nat.le_of_ble_eq_true rfl) (fun r_ w_ hp_ => ?_)
    obtain ⟨rfl, rfl⟩ := hp_
    refine kw_perm (ws' := List.flatten [wX g m at_ an ar au ak as_ ao, wT g at_ t, wV g an v, wV g ar u, wPh g au adu 8 sz tp, wVs g adu uvs (List.range 8), wPh g ak adk 2 kz kp, wVs g adk kvs (List.range 2), wS g as_ s, wO g ao ado (oP, oB, oL, oC, oD, oZ, oM), wVs g ado ovs (List.range 7)]) (kw_pk [wX g m at_ an ar au ak as_ ao, wT g at_ t, wV g an v, wV g ar u, wPh g au adu 8 sz tp, wVs g adu uvs (List.range 8), wPh g ak adk 2 kz kp, wVs g adk kvs (List.range 2), wS g as_ s, wO g ao ado (oP, oB, oL, oC, oD, oZ, oM), wVs g ado ovs (List.range 7)] 2 (Nat.le_of_ble_eq_true rfl)).symm ?_
    refine kz_if_ne (b := wCanGive v ij jj) (tgt := 29) X dX5_gift_23 (by decide) (fun c2_ => ?_) (fun c2_ => ?_)
    · skip
      refine kb_aload_n X 0 dX5_gift_29 rfl rfl ?_
      refine kf_get (v := .ref (au 0)) (C := RX5) (T := TX5) (N := 7) (ci := 5) X kw_iX5 rfl 3 0 0 rfl rfl (by decide) kf_X5_31 rfl rfl dX5_gift_30 ?_
      refine kb_aload_n X 0 dX5_gift_33 rfl rfl ?_
      refine kf_get (v := .ref (an 0)) (C := RX5) (T := TX5) (N := 7) (ci := 5) X kw_iX5 rfl 1 0 0 rfl rfl (by decide) kf_X5_19 rfl rfl dX5_gift_34 ?_
      refine kc_Vv X (As := [.ref (an 0)]) (rest := []) (wr := List.flatten [wX g m at_ an ar au ak as_ ao, wT g at_ t, wV g ar u, wPh g ak adk 2 kz kp, wVs g adk kvs (List.range 2), wS g as_ s, wO g ao ado (oP, oB, oL, oC, oD, oZ, oM), wVs g ado ovs (List.range 7)]) (ct_X1_put l g au adu 8 sz tp uvs an v (by omega) (by omega) (by omega) (by omega)) dX5_gift_37 rfl (kw_pk3 [wX g m at_ an ar au ak as_ ao, wT g at_ t, wV g an v, wV g ar u, wPh g au adu 8 sz tp, wVs g adu uvs (List.range 8), wPh g ak adk 2 kz kp, wVs g adk kvs (List.range 2), wS g as_ s, wO g ao ado (oP, oB, oL, oC, oD, oZ, oM), wVs g ado ovs (List.range 7)] 4 4 2 (Nat.le_of_ble_eq_true rfl) (Nat.le_of_ble_eq_true rfl) (Nat.le_of_ble_eq_true rfl)) mc_X1_put kl_X5_138 mi_X1_put mv_X1_put kn_X1 0 rfl rfl rfl (na := 1) (by decide +kernel) rfl ⟨Nat.le_of_ble_eq_true rfl, Nat.le_of_ble_eq_true rfl⟩ ⟨rfl, rfl⟩ ⟨Nat.le_of_ble_eq_true rfl, Nat.le_of_ble_eq_true rfl⟩ (Nat.le_of_ble_eq_true rfl) (fun w_ hp_ => ?_)
      obtain rfl := hp_
      refine kw_perm (ws' := List.flatten [wX g m at_ an ar au ak as_ ao, wT g at_ t, wV g an v, wV g ar u, wPh g au adu 8 (min 8 (sz + 1)) ((tp + 1) % 8), wVs g adu (va_up uvs tp v) (List.range 8), wPh g ak adk 2 kz kp, wVs g adk kvs (List.range 2), wS g as_ s, wO g ao ado (oP, oB, oL, oC, oD, oZ, oM), wVs g ado ovs (List.range 7)]) (kw_pk3 [wX g m at_ an ar au ak as_ ao, wT g at_ t, wV g an v, wV g ar u, wPh g au adu 8 (min 8 (sz + 1)) ((tp + 1) % 8), wVs g adu (va_up uvs tp v) (List.range 8), wPh g ak adk 2 kz kp, wVs g adk kvs (List.range 2), wS g as_ s, wO g ao ado (oP, oB, oL, oC, oD, oZ, oM), wVs g ado ovs (List.range 7)] 4 4 2 (Nat.le_of_ble_eq_true rfl) (Nat.le_of_ble_eq_true rfl) (Nat.le_of_ble_eq_true rfl)).symm ?_
      refine kb_aload_n X 0 dX5_gift_40 rfl rfl ?_
      refine kf_get (v := .ref (an 0)) (C := RX5) (T := TX5) (N := 7) (ci := 5) X kw_iX5 rfl 1 0 0 rfl rfl (by decide) kf_X5_19 rfl rfl dX5_gift_41 ?_
      refine kb_iload_n X 1 dX5_gift_44 rfl rfl ?_
      refine kb_iload_n X 2 dX5_gift_45 rfl rfl ?_
      refine kc_Vv X (As := [.int (nI (ij)), .int (nI (jj))]) (rest := []) (wr := List.flatten [wX g m at_ an ar au ak as_ ao, wT g at_ t, wV g ar u, wPh g au adu 8 (min 8 (sz + 1)) ((tp + 1) % 8), wVs g adu (va_up uvs tp v) (List.range 8), wPh g ak adk 2 kz kp, wVs g adk kvs (List.range 2), wS g as_ s, wO g ao ado (oP, oB, oL, oC, oD, oZ, oM), wVs g ado ovs (List.range 7)]) (ct_X4_give l g an v ij jj (by omega) (by omega)) dX5_gift_46 rfl (kw_pk [wX g m at_ an ar au ak as_ ao, wT g at_ t, wV g an v, wV g ar u, wPh g au adu 8 (min 8 (sz + 1)) ((tp + 1) % 8), wVs g adu (va_up uvs tp v) (List.range 8), wPh g ak adk 2 kz kp, wVs g adk kvs (List.range 2), wS g as_ s, wO g ao ado (oP, oB, oL, oC, oD, oZ, oM), wVs g ado ovs (List.range 7)] 2 (Nat.le_of_ble_eq_true rfl)) mc_X4_give kl_X5_148 mi_X4_give mv_X4_give kn_X4 0 rfl rfl rfl (na := 2) (by decide +kernel) rfl ⟨Nat.le_of_ble_eq_true rfl, Nat.le_of_ble_eq_true rfl⟩ ⟨rfl, rfl⟩ ⟨Nat.le_of_ble_eq_true rfl, Nat.le_of_ble_eq_true rfl⟩ (Nat.le_of_ble_eq_true rfl) (fun w_ hp_ => ?_)
      obtain rfl := hp_
      refine kw_perm (ws' := List.flatten [wX g m at_ an ar au ak as_ ao, wT g at_ t, wV g an (wGive v ij jj), wV g ar u, wPh g au adu 8 (min 8 (sz + 1)) ((tp + 1) % 8), wVs g adu (va_up uvs tp v) (List.range 8), wPh g ak adk 2 kz kp, wVs g adk kvs (List.range 2), wS g as_ s, wO g ao ado (oP, oB, oL, oC, oD, oZ, oM), wVs g ado ovs (List.range 7)]) (kw_pk [wX g m at_ an ar au ak as_ ao, wT g at_ t, wV g an (wGive v ij jj), wV g ar u, wPh g au adu 8 (min 8 (sz + 1)) ((tp + 1) % 8), wVs g adu (va_up uvs tp v) (List.range 8), wPh g ak adk 2 kz kp, wVs g adk kvs (List.range 2), wS g as_ s, wO g ao ado (oP, oB, oL, oC, oD, oZ, oM), wVs g ado ovs (List.range 7)] 2 (Nat.le_of_ble_eq_true rfl)).symm ?_
      refine kb_aload_n X 0 dX5_gift_49 rfl rfl ?_
      refine kf_get (v := .ref (an 0)) (C := RX5) (T := TX5) (N := 7) (ci := 5) X kw_iX5 rfl 1 0 0 rfl rfl (by decide) kf_X5_19 rfl rfl dX5_gift_50 ?_
      refine kb_iload_n X 2 dX5_gift_53 rfl rfl ?_
      refine kb_iload_n X 1 dX5_gift_54 rfl rfl ?_
      refine kc_Vi X (As := [.int (nI (jj)), .int (nI (ij))]) (rest := []) (wr := List.flatten [wX g m at_ an ar au ak as_ ao, wT g at_ t, wV g ar u, wPh g au adu 8 (min 8 (sz + 1)) ((tp + 1) % 8), wVs g adu (va_up uvs tp v) (List.range 8), wPh g ak adk 2 kz kp, wVs g adk kvs (List.range 2), wS g as_ s, wO g ao ado (oP, oB, oL, oC, oD, oZ, oM), wVs g ado ovs (List.range 7)]) (ct_X4_tieOf l g an (wGive v ij jj) jj ij (by omega) (by omega)) dX5_gift_55 rfl (kw_pk [wX g m at_ an ar au ak as_ ao, wT g at_ t, wV g an (wGive v ij jj), wV g ar u, wPh g au adu 8 (min 8 (sz + 1)) ((tp + 1) % 8), wVs g adu (va_up uvs tp v) (List.range 8), wPh g ak adk 2 kz kp, wVs g adk kvs (List.range 2), wS g as_ s, wO g ao ado (oP, oB, oL, oC, oD, oZ, oM), wVs g ado ovs (List.range 7)] 2 (Nat.le_of_ble_eq_true rfl)) mc_X4_tieOf kl_X5_125 mi_X4_tieOf mv_X4_tieOf kn_X4 0 rfl rfl rfl (na := 2) (by decide +kernel) rfl ⟨Nat.le_of_ble_eq_true rfl, Nat.le_of_ble_eq_true rfl⟩ ⟨rfl, rfl⟩ ⟨Nat.le_of_ble_eq_true rfl, Nat.le_of_ble_eq_true rfl⟩ (Nat.le_of_ble_eq_true rfl) (fun r_ w_ hp_ => ?_)
      obtain ⟨rfl, rfl⟩ := hp_
      refine kw_perm (ws' := List.flatten [wX g m at_ an ar au ak as_ ao, wT g at_ t, wV g an (wGive v ij jj), wV g ar u, wPh g au adu 8 (min 8 (sz + 1)) ((tp + 1) % 8), wVs g adu (va_up uvs tp v) (List.range 8), wPh g ak adk 2 kz kp, wVs g adk kvs (List.range 2), wS g as_ s, wO g ao ado (oP, oB, oL, oC, oD, oZ, oM), wVs g ado ovs (List.range 7)]) (kw_pk [wX g m at_ an ar au ak as_ ao, wT g at_ t, wV g an (wGive v ij jj), wV g ar u, wPh g au adu 8 (min 8 (sz + 1)) ((tp + 1) % 8), wVs g adu (va_up uvs tp v) (List.range 8), wPh g ak adk 2 kz kp, wVs g adk kvs (List.range 2), wS g as_ s, wO g ao ado (oP, oB, oL, oC, oD, oZ, oM), wVs g ado ovs (List.range 7)] 2 (Nat.le_of_ble_eq_true rfl)).symm ?_
      refine kb_iconst (v := (4 : Int32)) X dX5_gift_58 (by decide) ?_
      refine kb_iadd X dX5_gift_59 ?_
      refine ke_i X Z dX5_gift_60 ?_
      have e_ : oGift v i j = (vT (wGive v ij jj) (jj * 6 + ij) + 4, some (wGive v ij jj)) := by simp [oGift, c1_, ePi, ePj, c2_]
      rw [e_]
      exact ⟨rfl, XWp.of ⟨hG.give (by omega) (by omega), hU.put (by decide) hG, hKp, hT_, hs, hO⟩⟩
    · skip
      refine kb_bipush (v := (-2 : Int32)) X dX5_gift_26 (by decide) ?_
      refine ke_i X Z dX5_gift_28 ?_
      have e_ : oGift v i j = (-2, none) := by simp [oGift, c1_, ePi, ePj, c2_]
      rw [e_]
      exact ⟨rfl, XWp.of hI⟩
  · skip
    refine kb_iconst (v := (-1 : Int32)) X dX5_gift_12 (by decide) ?_
    refine ke_i X Z dX5_gift_13 ?_
    have e_ : oGift v i j = (-1, none) := by simp [oGift, c1_]
    rw [e_]
    exact ⟨rfl, XWp.of hI⟩

set_option maxHeartbeats 4000000 in
set_option maxRecDepth 100000 in
theorem ct_X5_pay (l : Launch) (g : kw_G) (m : Nat) (at_ an ar au : Nat → Nat) (adu : Nat → Nat → Nat) (ak : Nat → Nat) (adk : Nat → Nat → Nat) (as_ ao : Nat → Nat) (ado : Nat → Nat → Nat) (t : TS) (v u : VS) (sz tp : Nat) (uvs : Nat → VS) (kz kp : Nat) (kvs : Nat → VS) (s : SS) (oP oB : Nat → Nat) (oL oC : Int32) (oD oZ oM : Nat) (ovs : Nat → VS) (us ks : List VS) (tf : Nat → Nat) (tn : Nat) (hI : XI t sz tp uvs kz kp kvs oB oL oC oD oZ oM ovs v us ks tf tn s) (i j : Int32) : kMi l g yX5_pay cX5_pay 4 .int (kw_rm 4 0 0) 0 0 [.ref (m), .int (i), .int (j)] (List.flatten [wX g m at_ an ar au ak as_ ao, wT g at_ t, wV g an v, wV g ar u, wPh g au adu 8 sz tp, wVs g adu uvs (List.range 8), wPh g ak adk 2 kz kp, wVs g adk kvs (List.range 2), wS g as_ s, wO g ao ado (oP, oB, oL, oC, oD, oZ, oM), wVs g ado ovs (List.range 7)]) (fun r w => r = (oPay v i j).1 ∧ XWp g m at_ an ar au adu ak adk as_ ao ado (pv v (oPay v i j).2) (pu v us (oPay v i j).2) ks tf tn s w) := by
  refine kMi_of (by decide +kernel) (Nat.le_of_ble_eq_true rfl) (fun x (X : kX l g RX5 cX5_pay 4 (kw_rm 4 0 0) x) (Z : kZi .int _ 0 0 x) => ?_)
  show kW x 0 0 0 [(0, .ref (m)), (1, .int (i)), (2, .int (j))] [] (List.flatten [wX g m at_ an ar au ak as_ ao, wT g at_ t, wV g an v, wV g ar u, wPh g au adu 8 sz tp, wVs g adu uvs (List.range 8), wPh g ak adk 2 kz kp, wVs g adk kvs (List.range 2), wS g as_ s, wO g ao ado (oP, oB, oL, oC, oD, oZ, oM), wVs g ado ovs (List.range 7)])
  obtain ⟨hG, hU, hKp, hT_, hs, hO⟩ := id hI
  have hv := hG.1
  have hT := hG.2.1
  have hN0 := hG.2.2.2
  have h6 := hv.1
  have hx64 := hv.2.1
  have hh64 := hv.2.2
  obtain ⟨ht, etn, htx⟩ := id hT_
  have hs1 := hs.1
  have hus := hU.1
  have hsz := hU.2.1
  have htp := hU.2.2.1
  have hks := hKp.1
  have hkz := hKp.2.1
  have hkp := hKp.2.2.1
  refine kb_aload_n X 0 dX5_pay_0 rfl rfl ?_
  refine kf_get (v := .ref (an 0)) (C := RX5) (T := TX5) (N := 7) (ci := 5) X kw_iX5 rfl 1 0 0 rfl rfl (by decide) kf_X5_19 rfl rfl dX5_pay_1 ?_
  refine kb_iload_n X 1 dX5_pay_4 rfl rfl ?_
  refine kb_iload_n X 2 dX5_pay_5 rfl rfl ?_
  refine kc_Vi X (As := [.int (i), .int (j)]) (rest := []) (wr := List.flatten [wX g m at_ an ar au ak as_ ao, wT g at_ t, wV g ar u, wPh g au adu 8 sz tp, wVs g adu uvs (List.range 8), wPh g ak adk 2 kz kp, wVs g adk kvs (List.range 2), wS g as_ s, wO g ao ado (oP, oB, oL, oC, oD, oZ, oM), wVs g ado ovs (List.range 7)]) (ct_X4_hasTwo l g an v i j ) dX5_pay_6 rfl (kw_pk [wX g m at_ an ar au ak as_ ao, wT g at_ t, wV g an v, wV g ar u, wPh g au adu 8 sz tp, wVs g adu uvs (List.range 8), wPh g ak adk 2 kz kp, wVs g adk kvs (List.range 2), wS g as_ s, wO g ao ado (oP, oB, oL, oC, oD, oZ, oM), wVs g ado ovs (List.range 7)] 2 (Nat.le_of_ble_eq_true rfl)) mc_X4_hasTwo kl_X5_121 mi_X4_hasTwo mv_X4_hasTwo kn_X4 0 rfl rfl rfl (na := 2) (by decide +kernel) rfl ⟨Nat.le_of_ble_eq_true rfl, Nat.le_of_ble_eq_true rfl⟩ ⟨rfl, rfl⟩ ⟨Nat.le_of_ble_eq_true rfl, Nat.le_of_ble_eq_true rfl⟩ (Nat.le_of_ble_eq_true rfl) (fun r_ w_ hp_ => ?_)
  obtain ⟨rfl, rfl⟩ := hp_
  refine kw_perm (ws' := List.flatten [wX g m at_ an ar au ak as_ ao, wT g at_ t, wV g an v, wV g ar u, wPh g au adu 8 sz tp, wVs g adu uvs (List.range 8), wPh g ak adk 2 kz kp, wVs g adk kvs (List.range 2), wS g as_ s, wO g ao ado (oP, oB, oL, oC, oD, oZ, oM), wVs g ado ovs (List.range 7)]) (kw_pk [wX g m at_ an ar au ak as_ ao, wT g at_ t, wV g an v, wV g ar u, wPh g au adu 8 sz tp, wVs g adu uvs (List.range 8), wPh g ak adk 2 kz kp, wVs g adk kvs (List.range 2), wS g as_ s, wO g ao ado (oP, oB, oL, oC, oD, oZ, oM), wVs g ado ovs (List.range 7)] 2 (Nat.le_of_ble_eq_true rfl)).symm ?_
  refine kz_if_ne (b := two i j (vN v)) (tgt := 14) X dX5_pay_9 (by decide) (fun c1_ => ?_) (fun c1_ => ?_)
  · skip
    obtain ⟨ij, jj, hij, hjj, hne, eij, ejj, ePi, ePj⟩ := two_j h6 c1_
    refine kw_lv (lv' := [(0, .ref (m)), (1, .int (nI (ij))), (2, .int (j))]) (by rw [eij]) ?_
    refine kw_lv (lv' := [(0, .ref (m)), (1, .int (nI (ij))), (2, .int (nI (jj)))]) (by rw [ejj]) ?_
    refine kb_aload_n X 0 dX5_pay_14 rfl rfl ?_
    refine kf_get (v := .ref (an 0)) (C := RX5) (T := TX5) (N := 7) (ci := 5) X kw_iX5 rfl 1 0 0 rfl rfl (by decide) kf_X5_19 rfl rfl dX5_pay_15 ?_
    refine kb_iload_n X 1 dX5_pay_18 rfl rfl ?_
    refine kb_iload_n X 2 dX5_pay_19 rfl rfl ?_
    refine kc_Vi X (As := [.int (nI (ij)), .int (nI (jj))]) (rest := []) (wr := List.flatten [wX g m at_ an ar au ak as_ ao, wT g at_ t, wV g ar u, wPh g au adu 8 sz tp, wVs g adu uvs (List.range 8), wPh g ak adk 2 kz kp, wVs g adk kvs (List.range 2), wS g as_ s, wO g ao ado (oP, oB, oL, oC, oD, oZ, oM), wVs g ado ovs (List.range 7)]) (ct_X4_debtOf l g an v ij jj (by omega) (by omega)) dX5_pay_20 rfl (kw_pk [wX g m at_ an ar au ak as_ ao, wT g at_ t, wV g an v, wV g ar u, wPh g au adu 8 sz tp, wVs g adu uvs (List.range 8), wPh g ak adk 2 kz kp, wVs g adk kvs (List.range 2), wS g as_ s, wO g ao ado (oP, oB, oL, oC, oD, oZ, oM), wVs g ado ovs (List.range 7)] 2 (Nat.le_of_ble_eq_true rfl)) mc_X4_debtOf kl_X5_129 mi_X4_debtOf mv_X4_debtOf kn_X4 0 rfl rfl rfl (na := 2) (by decide +kernel) rfl ⟨Nat.le_of_ble_eq_true rfl, Nat.le_of_ble_eq_true rfl⟩ ⟨rfl, rfl⟩ ⟨Nat.le_of_ble_eq_true rfl, Nat.le_of_ble_eq_true rfl⟩ (Nat.le_of_ble_eq_true rfl) (fun r_ w_ hp_ => ?_)
    obtain ⟨rfl, rfl⟩ := hp_
    refine kw_perm (ws' := List.flatten [wX g m at_ an ar au ak as_ ao, wT g at_ t, wV g an v, wV g ar u, wPh g au adu 8 sz tp, wVs g adu uvs (List.range 8), wPh g ak adk 2 kz kp, wVs g adk kvs (List.range 2), wS g as_ s, wO g ao ado (oP, oB, oL, oC, oD, oZ, oM), wVs g ado ovs (List.range 7)]) (kw_pk [wX g m at_ an ar au ak as_ ao, wT g at_ t, wV g an v, wV g ar u, wPh g au adu 8 sz tp, wVs g adu uvs (List.range 8), wPh g ak adk 2 kz kp, wVs g adk kvs (List.range 2), wS g as_ s, wO g ao ado (oP, oB, oL, oC, oD, oZ, oM), wVs g ado ovs (List.range 7)] 2 (Nat.le_of_ble_eq_true rfl)).symm ?_
    refine kb_istore_n X [1, 2, 3, 0] dX5_pay_23 rfl (by decide) (lv' := [(0, .ref (m)), (1, .int (nI (ij))), (2, .int (nI (jj))), (3, .int (vD v (ij * 6 + jj)))]) rfl ?_
    refine kb_iload_n X 3 dX5_pay_24 rfl rfl ?_
    refine kb_if_eq (tgt := 40) X dX5_pay_25 (by decide) (fun c2_ => ?_) (fun c2_ => ?_)
    · skip
      refine kb_bipush (v := (-2 : Int32)) X dX5_pay_40 (by decide) ?_
      refine ke_i X Z dX5_pay_42 ?_
      have e_ : oPay v i j = (-2, none) := by simp [oPay, c1_, ePi, ePj, c2_]
      rw [e_]
      exact ⟨rfl, XWp.of hI⟩
    · skip
      refine kb_aload_n X 0 dX5_pay_28 rfl rfl ?_
      refine kf_get (v := .ref (an 0)) (C := RX5) (T := TX5) (N := 7) (ci := 5) X kw_iX5 rfl 1 0 0 rfl rfl (by decide) kf_X5_19 rfl rfl dX5_pay_29 ?_
      refine kf_get (v := .ref (an 3)) (C := RX4) (T := TX4) (N := 11) (ci := 4) X kw_iX4 rfl 2 2 0 rfl rfl (by decide) kf_X5_109 rfl rfl dX5_pay_32 ?_
      refine kb_iload_n X 1 dX5_pay_35 rfl rfl ?_
      refine kf_iald (j := ij) X 2 3 rfl rfl (by omega) (by decide) dX5_pay_36 ?_
      refine kb_if_ne (tgt := 43) X dX5_pay_37 (by decide) (fun c3_ => ?_) (fun c3_ => ?_)
      · skip
        refine kb_aload_n X 0 dX5_pay_43 rfl rfl ?_
        refine kf_get (v := .ref (au 0)) (C := RX5) (T := TX5) (N := 7) (ci := 5) X kw_iX5 rfl 3 0 0 rfl rfl (by decide) kf_X5_31 rfl rfl dX5_pay_44 ?_
        refine kb_aload_n X 0 dX5_pay_47 rfl rfl ?_
        refine kf_get (v := .ref (an 0)) (C := RX5) (T := TX5) (N := 7) (ci := 5) X kw_iX5 rfl 1 0 0 rfl rfl (by decide) kf_X5_19 rfl rfl dX5_pay_48 ?_
        refine kc_Vv X (As := [.ref (an 0)]) (rest := []) (wr := List.flatten [wX g m at_ an ar au ak as_ ao, wT g at_ t, wV g ar u, wPh g ak adk 2 kz kp, wVs g adk kvs (List.range 2), wS g as_ s, wO g ao ado (oP, oB, oL, oC, oD, oZ, oM), wVs g ado ovs (List.range 7)]) (ct_X1_put l g au adu 8 sz tp uvs an v (by omega) (by omega) (by omega) (by omega)) dX5_pay_51 rfl (kw_pk3 [wX g m at_ an ar au ak as_ ao, wT g at_ t, wV g an v, wV g ar u, wPh g au adu 8 sz tp, wVs g adu uvs (List.range 8), wPh g ak adk 2 kz kp, wVs g adk kvs (List.range 2), wS g as_ s, wO g ao ado (oP, oB, oL, oC, oD, oZ, oM), wVs g ado ovs (List.range 7)] 4 4 2 (Nat.le_of_ble_eq_true rfl) (Nat.le_of_ble_eq_true rfl) (Nat.le_of_ble_eq_true rfl)) mc_X1_put kl_X5_138 mi_X1_put mv_X1_put kn_X1 0 rfl rfl rfl (na := 1) (by decide +kernel) rfl ⟨Nat.le_of_ble_eq_true rfl, Nat.le_of_ble_eq_true rfl⟩ ⟨rfl, rfl⟩ ⟨Nat.le_of_ble_eq_true rfl, Nat.le_of_ble_eq_true rfl⟩ (Nat.le_of_ble_eq_true rfl) (fun w_ hp_ => ?_)
        obtain rfl := hp_
        refine kw_perm (ws' := List.flatten [wX g m at_ an ar au ak as_ ao, wT g at_ t, wV g an v, wV g ar u, wPh g au adu 8 (min 8 (sz + 1)) ((tp + 1) % 8), wVs g adu (va_up uvs tp v) (List.range 8), wPh g ak adk 2 kz kp, wVs g adk kvs (List.range 2), wS g as_ s, wO g ao ado (oP, oB, oL, oC, oD, oZ, oM), wVs g ado ovs (List.range 7)]) (kw_pk3 [wX g m at_ an ar au ak as_ ao, wT g at_ t, wV g an v, wV g ar u, wPh g au adu 8 (min 8 (sz + 1)) ((tp + 1) % 8), wVs g adu (va_up uvs tp v) (List.range 8), wPh g ak adk 2 kz kp, wVs g adk kvs (List.range 2), wS g as_ s, wO g ao ado (oP, oB, oL, oC, oD, oZ, oM), wVs g ado ovs (List.range 7)] 4 4 2 (Nat.le_of_ble_eq_true rfl) (Nat.le_of_ble_eq_true rfl) (Nat.le_of_ble_eq_true rfl)).symm ?_
        refine kb_aload_n X 0 dX5_pay_54 rfl rfl ?_
        refine kf_get (v := .ref (an 0)) (C := RX5) (T := TX5) (N := 7) (ci := 5) X kw_iX5 rfl 1 0 0 rfl rfl (by decide) kf_X5_19 rfl rfl dX5_pay_55 ?_
        refine kb_iload_n X 1 dX5_pay_58 rfl rfl ?_
        refine kb_iload_n X 2 dX5_pay_59 rfl rfl ?_
        refine kb_iload_n X 3 dX5_pay_60 rfl rfl ?_
        refine kc_Vi X (As := [.int (nI (ij)), .int (nI (jj)), .int (vD v (ij * 6 + jj))]) (rest := []) (wr := List.flatten [wX g m at_ an ar au ak as_ ao, wT g at_ t, wV g ar u, wPh g au adu 8 (min 8 (sz + 1)) ((tp + 1) % 8), wVs g adu (va_up uvs tp v) (List.range 8), wPh g ak adk 2 kz kp, wVs g adk kvs (List.range 2), wS g as_ s, wO g ao ado (oP, oB, oL, oC, oD, oZ, oM), wVs g ado ovs (List.range 7)]) (ct_X4_payOff l g an v ij jj (vD v (ij * 6 + jj)) (by omega) (by omega)) dX5_pay_61 rfl (kw_pk [wX g m at_ an ar au ak as_ ao, wT g at_ t, wV g an v, wV g ar u, wPh g au adu 8 (min 8 (sz + 1)) ((tp + 1) % 8), wVs g adu (va_up uvs tp v) (List.range 8), wPh g ak adk 2 kz kp, wVs g adk kvs (List.range 2), wS g as_ s, wO g ao ado (oP, oB, oL, oC, oD, oZ, oM), wVs g ado ovs (List.range 7)] 2 (Nat.le_of_ble_eq_true rfl)) mc_X4_payOff kl_X5_152 mi_X4_payOff mv_X4_payOff kn_X4 0 rfl rfl rfl (na := 3) (by decide +kernel) rfl ⟨Nat.le_of_ble_eq_true rfl, Nat.le_of_ble_eq_true rfl⟩ ⟨rfl, rfl⟩ ⟨Nat.le_of_ble_eq_true rfl, Nat.le_of_ble_eq_true rfl⟩ (Nat.le_of_ble_eq_true rfl) (fun r_ w_ hp_ => ?_)
        obtain ⟨rfl, rfl⟩ := hp_
        refine kw_perm (ws' := List.flatten [wX g m at_ an ar au ak as_ ao, wT g at_ t, wV g an (wPay v ij jj (vD v (ij * 6 + jj))), wV g ar u, wPh g au adu 8 (min 8 (sz + 1)) ((tp + 1) % 8), wVs g adu (va_up uvs tp v) (List.range 8), wPh g ak adk 2 kz kp, wVs g adk kvs (List.range 2), wS g as_ s, wO g ao ado (oP, oB, oL, oC, oD, oZ, oM), wVs g ado ovs (List.range 7)]) (kw_pk [wX g m at_ an ar au ak as_ ao, wT g at_ t, wV g an (wPay v ij jj (vD v (ij * 6 + jj))), wV g ar u, wPh g au adu 8 (min 8 (sz + 1)) ((tp + 1) % 8), wVs g adu (va_up uvs tp v) (List.range 8), wPh g ak adk 2 kz kp, wVs g adk kvs (List.range 2), wS g as_ s, wO g ao ado (oP, oB, oL, oC, oD, oZ, oM), wVs g ado ovs (List.range 7)] 2 (Nat.le_of_ble_eq_true rfl)).symm ?_
        refine ke_i X Z dX5_pay_64 ?_
        have e_ : oPay v i j = (wPaid v ij (vD v (ij * 6 + jj)), some (wPay v ij jj (vD v (ij * 6 + jj)))) := by simp [oPay, c1_, ePi, ePj, c2_, c3_]
        rw [e_]
        exact ⟨rfl, XWp.of ⟨hG.pay (by omega) (by omega) _, hU.put (by decide) hG, hKp, hT_, hs, hO⟩⟩
      · skip
        refine kb_bipush (v := (-2 : Int32)) X dX5_pay_40 (by decide) ?_
        refine ke_i X Z dX5_pay_42 ?_
        have e_ : oPay v i j = (-2, none) := by simp [oPay, c1_, ePi, ePj, c2_, c3_]
        rw [e_]
        exact ⟨rfl, XWp.of hI⟩
  · skip
    refine kb_iconst (v := (-1 : Int32)) X dX5_pay_12 (by decide) ?_
    refine ke_i X Z dX5_pay_13 ?_
    have e_ : oPay v i j = (-1, none) := by simp [oPay, c1_]
    rw [e_]
    exact ⟨rfl, XWp.of hI⟩

set_option maxHeartbeats 4000000 in
set_option maxRecDepth 100000 in
theorem ct_X5_die (l : Launch) (g : kw_G) (m : Nat) (at_ an ar au : Nat → Nat) (adu : Nat → Nat → Nat) (ak : Nat → Nat) (adk : Nat → Nat → Nat) (as_ ao : Nat → Nat) (ado : Nat → Nat → Nat) (t : TS) (v u : VS) (sz tp : Nat) (uvs : Nat → VS) (kz kp : Nat) (kvs : Nat → VS) (s : SS) (oP oB : Nat → Nat) (oL oC : Int32) (oD oZ oM : Nat) (ovs : Nat → VS) (us ks : List VS) (tf : Nat → Nat) (tn : Nat) (hI : XI t sz tp uvs kz kp kvs oB oL oC oD oZ oM ovs v us ks tf tn s) (p : Int32) : kMi l g yX5_die cX5_die 2 .int (kw_rm 5 0 0) 0 0 [.ref (m), .int (p)] (List.flatten [wX g m at_ an ar au ak as_ ao, wT g at_ t, wV g an v, wV g ar u, wPh g au adu 8 sz tp, wVs g adu uvs (List.range 8), wPh g ak adk 2 kz kp, wVs g adk kvs (List.range 2), wS g as_ s, wO g ao ado (oP, oB, oL, oC, oD, oZ, oM), wVs g ado ovs (List.range 7)]) (fun r w => r = (oDie v p).1 ∧ XWp g m at_ an ar au adu ak adk as_ ao ado (pv v (oDie v p).2) (pu v us (oDie v p).2) ks tf tn s w) := by
  refine kMi_of (by decide +kernel) (Nat.le_of_ble_eq_true rfl) (fun x (X : kX l g RX5 cX5_die 2 (kw_rm 5 0 0) x) (Z : kZi .int _ 0 0 x) => ?_)
  show kW x 0 0 0 [(0, .ref (m)), (1, .int (p))] [] (List.flatten [wX g m at_ an ar au ak as_ ao, wT g at_ t, wV g an v, wV g ar u, wPh g au adu 8 sz tp, wVs g adu uvs (List.range 8), wPh g ak adk 2 kz kp, wVs g adk kvs (List.range 2), wS g as_ s, wO g ao ado (oP, oB, oL, oC, oD, oZ, oM), wVs g ado ovs (List.range 7)])
  obtain ⟨hG, hU, hKp, hT_, hs, hO⟩ := id hI
  have hv := hG.1
  have hT := hG.2.1
  have hN0 := hG.2.2.2
  have h6 := hv.1
  have hx64 := hv.2.1
  have hh64 := hv.2.2
  obtain ⟨ht, etn, htx⟩ := id hT_
  have hs1 := hs.1
  have hus := hU.1
  have hsz := hU.2.1
  have htp := hU.2.2.1
  have hks := hKp.1
  have hkz := hKp.2.1
  have hkp := hKp.2.2.1
  refine kb_aload_n X 0 dX5_die_0 rfl rfl ?_
  refine kf_get (v := .ref (an 0)) (C := RX5) (T := TX5) (N := 7) (ci := 5) X kw_iX5 rfl 1 0 0 rfl rfl (by decide) kf_X5_19 rfl rfl dX5_die_1 ?_
  refine kb_iload_n X 1 dX5_die_4 rfl rfl ?_
  refine kc_Vi X (As := [.int (p)]) (rest := []) (wr := List.flatten [wX g m at_ an ar au ak as_ ao, wT g at_ t, wV g ar u, wPh g au adu 8 sz tp, wVs g adu uvs (List.range 8), wPh g ak adk 2 kz kp, wVs g adk kvs (List.range 2), wS g as_ s, wO g ao ado (oP, oB, oL, oC, oD, oZ, oM), wVs g ado ovs (List.range 7)]) (ct_X4_has l g an v p ) dX5_die_5 rfl (kw_pk [wX g m at_ an ar au ak as_ ao, wT g at_ t, wV g an v, wV g ar u, wPh g au adu 8 sz tp, wVs g adu uvs (List.range 8), wPh g ak adk 2 kz kp, wVs g adk kvs (List.range 2), wS g as_ s, wO g ao ado (oP, oB, oL, oC, oD, oZ, oM), wVs g ado ovs (List.range 7)] 2 (Nat.le_of_ble_eq_true rfl)) mc_X4_has kl_X5_97 mi_X4_has mv_X4_has kn_X4 0 rfl rfl rfl (na := 1) (by decide +kernel) rfl ⟨Nat.le_of_ble_eq_true rfl, Nat.le_of_ble_eq_true rfl⟩ ⟨rfl, rfl⟩ ⟨Nat.le_of_ble_eq_true rfl, Nat.le_of_ble_eq_true rfl⟩ (Nat.le_of_ble_eq_true rfl) (fun r_ w_ hp_ => ?_)
  obtain ⟨rfl, rfl⟩ := hp_
  refine kw_perm (ws' := List.flatten [wX g m at_ an ar au ak as_ ao, wT g at_ t, wV g an v, wV g ar u, wPh g au adu 8 sz tp, wVs g adu uvs (List.range 8), wPh g ak adk 2 kz kp, wVs g adk kvs (List.range 2), wS g as_ s, wO g ao ado (oP, oB, oL, oC, oD, oZ, oM), wVs g ado ovs (List.range 7)]) (kw_pk [wX g m at_ an ar au ak as_ ao, wT g at_ t, wV g an v, wV g ar u, wPh g au adu 8 sz tp, wVs g adu uvs (List.range 8), wPh g ak adk 2 kz kp, wVs g adk kvs (List.range 2), wS g as_ s, wO g ao ado (oP, oB, oL, oC, oD, oZ, oM), wVs g ado ovs (List.range 7)] 2 (Nat.le_of_ble_eq_true rfl)).symm ?_
  refine kz_if_ne (b := pin p (vN v)) (tgt := 13) X dX5_die_8 (by decide) (fun c1_ => ?_) (fun c1_ => ?_)
  · skip
    obtain ⟨pj, hpj, epj, ePp⟩ := pin_j h6 c1_
    refine kw_lv (lv' := [(0, .ref (m)), (1, .int (nI (pj)))]) (by rw [epj]) ?_
    refine kb_aload_n X 0 dX5_die_13 rfl rfl ?_
    refine kf_get (v := .ref (an 0)) (C := RX5) (T := TX5) (N := 7) (ci := 5) X kw_iX5 rfl 1 0 0 rfl rfl (by decide) kf_X5_19 rfl rfl dX5_die_14 ?_
    refine kb_iload_n X 1 dX5_die_17 rfl rfl ?_
    refine kc_Vi X (As := [.int (nI (pj))]) (rest := []) (wr := List.flatten [wX g m at_ an ar au ak as_ ao, wT g at_ t, wV g ar u, wPh g au adu 8 sz tp, wVs g adu uvs (List.range 8), wPh g ak adk 2 kz kp, wVs g adk kvs (List.range 2), wS g as_ s, wO g ao ado (oP, oB, oL, oC, oD, oZ, oM), wVs g ado ovs (List.range 7)]) (ct_X4_lives l g an v hv pj (by omega)) dX5_die_18 rfl (kw_pk [wX g m at_ an ar au ak as_ ao, wT g at_ t, wV g an v, wV g ar u, wPh g au adu 8 sz tp, wVs g adu uvs (List.range 8), wPh g ak adk 2 kz kp, wVs g adk kvs (List.range 2), wS g as_ s, wO g ao ado (oP, oB, oL, oC, oD, oZ, oM), wVs g ado ovs (List.range 7)] 2 (Nat.le_of_ble_eq_true rfl)) mc_X4_lives kl_X5_112 mi_X4_lives mv_X4_lives kn_X4 0 rfl rfl rfl (na := 1) (by decide +kernel) rfl ⟨Nat.le_of_ble_eq_true rfl, Nat.le_of_ble_eq_true rfl⟩ ⟨rfl, rfl⟩ ⟨Nat.le_of_ble_eq_true rfl, Nat.le_of_ble_eq_true rfl⟩ (Nat.le_of_ble_eq_true rfl) (fun r_ w_ hp_ => ?_)
    obtain ⟨rfl, rfl⟩ := hp_
    refine kw_perm (ws' := List.flatten [wX g m at_ an ar au ak as_ ao, wT g at_ t, wV g an v, wV g ar u, wPh g au adu 8 sz tp, wVs g adu uvs (List.range 8), wPh g ak adk 2 kz kp, wVs g adk kvs (List.range 2), wS g as_ s, wO g ao ado (oP, oB, oL, oC, oD, oZ, oM), wVs g ado ovs (List.range 7)]) (kw_pk [wX g m at_ an ar au ak as_ ao, wT g at_ t, wV g an v, wV g ar u, wPh g au adu 8 sz tp, wVs g adu uvs (List.range 8), wPh g ak adk 2 kz kp, wVs g adk kvs (List.range 2), wS g as_ s, wO g ao ado (oP, oB, oL, oC, oD, oZ, oM), wVs g ado ovs (List.range 7)] 2 (Nat.le_of_ble_eq_true rfl)).symm ?_
    refine kz_if_ne (b := wLives v pj) (tgt := 27) X dX5_die_21 (by decide) (fun c2_ => ?_) (fun c2_ => ?_)
    · skip
      refine kb_aload_n X 0 dX5_die_27 rfl rfl ?_
      refine kf_get (v := .ref (au 0)) (C := RX5) (T := TX5) (N := 7) (ci := 5) X kw_iX5 rfl 3 0 0 rfl rfl (by decide) kf_X5_31 rfl rfl dX5_die_28 ?_
      refine kb_aload_n X 0 dX5_die_31 rfl rfl ?_
      refine kf_get (v := .ref (an 0)) (C := RX5) (T := TX5) (N := 7) (ci := 5) X kw_iX5 rfl 1 0 0 rfl rfl (by decide) kf_X5_19 rfl rfl dX5_die_32 ?_
      refine kc_Vv X (As := [.ref (an 0)]) (rest := []) (wr := List.flatten [wX g m at_ an ar au ak as_ ao, wT g at_ t, wV g ar u, wPh g ak adk 2 kz kp, wVs g adk kvs (List.range 2), wS g as_ s, wO g ao ado (oP, oB, oL, oC, oD, oZ, oM), wVs g ado ovs (List.range 7)]) (ct_X1_put l g au adu 8 sz tp uvs an v (by omega) (by omega) (by omega) (by omega)) dX5_die_35 rfl (kw_pk3 [wX g m at_ an ar au ak as_ ao, wT g at_ t, wV g an v, wV g ar u, wPh g au adu 8 sz tp, wVs g adu uvs (List.range 8), wPh g ak adk 2 kz kp, wVs g adk kvs (List.range 2), wS g as_ s, wO g ao ado (oP, oB, oL, oC, oD, oZ, oM), wVs g ado ovs (List.range 7)] 4 4 2 (Nat.le_of_ble_eq_true rfl) (Nat.le_of_ble_eq_true rfl) (Nat.le_of_ble_eq_true rfl)) mc_X1_put kl_X5_138 mi_X1_put mv_X1_put kn_X1 0 rfl rfl rfl (na := 1) (by decide +kernel) rfl ⟨Nat.le_of_ble_eq_true rfl, Nat.le_of_ble_eq_true rfl⟩ ⟨rfl, rfl⟩ ⟨Nat.le_of_ble_eq_true rfl, Nat.le_of_ble_eq_true rfl⟩ (Nat.le_of_ble_eq_true rfl) (fun w_ hp_ => ?_)
      obtain rfl := hp_
      refine kw_perm (ws' := List.flatten [wX g m at_ an ar au ak as_ ao, wT g at_ t, wV g an v, wV g ar u, wPh g au adu 8 (min 8 (sz + 1)) ((tp + 1) % 8), wVs g adu (va_up uvs tp v) (List.range 8), wPh g ak adk 2 kz kp, wVs g adk kvs (List.range 2), wS g as_ s, wO g ao ado (oP, oB, oL, oC, oD, oZ, oM), wVs g ado ovs (List.range 7)]) (kw_pk3 [wX g m at_ an ar au ak as_ ao, wT g at_ t, wV g an v, wV g ar u, wPh g au adu 8 (min 8 (sz + 1)) ((tp + 1) % 8), wVs g adu (va_up uvs tp v) (List.range 8), wPh g ak adk 2 kz kp, wVs g adk kvs (List.range 2), wS g as_ s, wO g ao ado (oP, oB, oL, oC, oD, oZ, oM), wVs g ado ovs (List.range 7)] 4 4 2 (Nat.le_of_ble_eq_true rfl) (Nat.le_of_ble_eq_true rfl) (Nat.le_of_ble_eq_true rfl)).symm ?_
      refine kb_aload_n X 0 dX5_die_38 rfl rfl ?_
      refine kf_get (v := .ref (an 0)) (C := RX5) (T := TX5) (N := 7) (ci := 5) X kw_iX5 rfl 1 0 0 rfl rfl (by decide) kf_X5_19 rfl rfl dX5_die_39 ?_
      refine kb_iload_n X 1 dX5_die_42 rfl rfl ?_
      refine kc_Vi X (As := [.int (nI (pj))]) (rest := []) (wr := List.flatten [wX g m at_ an ar au ak as_ ao, wT g at_ t, wV g ar u, wPh g au adu 8 (min 8 (sz + 1)) ((tp + 1) % 8), wVs g adu (va_up uvs tp v) (List.range 8), wPh g ak adk 2 kz kp, wVs g adk kvs (List.range 2), wS g as_ s, wO g ao ado (oP, oB, oL, oC, oD, oZ, oM), wVs g ado ovs (List.range 7)]) (ct_X4_bury l g an v hv pj (by omega)) dX5_die_43 rfl (kw_pk [wX g m at_ an ar au ak as_ ao, wT g at_ t, wV g an v, wV g ar u, wPh g au adu 8 (min 8 (sz + 1)) ((tp + 1) % 8), wVs g adu (va_up uvs tp v) (List.range 8), wPh g ak adk 2 kz kp, wVs g adk kvs (List.range 2), wS g as_ s, wO g ao ado (oP, oB, oL, oC, oD, oZ, oM), wVs g ado ovs (List.range 7)] 2 (Nat.le_of_ble_eq_true rfl)) mc_X4_bury kl_X5_155 mi_X4_bury mv_X4_bury kn_X4 0 rfl rfl rfl (na := 1) (by decide +kernel) rfl ⟨Nat.le_of_ble_eq_true rfl, Nat.le_of_ble_eq_true rfl⟩ ⟨rfl, rfl⟩ ⟨Nat.le_of_ble_eq_true rfl, Nat.le_of_ble_eq_true rfl⟩ (Nat.le_of_ble_eq_true rfl) (fun r_ w_ hp_ => ?_)
      obtain ⟨rfl, rfl⟩ := hp_
      refine kw_perm (ws' := List.flatten [wX g m at_ an ar au ak as_ ao, wT g at_ t, wV g an (wBury v pj), wV g ar u, wPh g au adu 8 (min 8 (sz + 1)) ((tp + 1) % 8), wVs g adu (va_up uvs tp v) (List.range 8), wPh g ak adk 2 kz kp, wVs g adk kvs (List.range 2), wS g as_ s, wO g ao ado (oP, oB, oL, oC, oD, oZ, oM), wVs g ado ovs (List.range 7)]) (kw_pk [wX g m at_ an ar au ak as_ ao, wT g at_ t, wV g an (wBury v pj), wV g ar u, wPh g au adu 8 (min 8 (sz + 1)) ((tp + 1) % 8), wVs g adu (va_up uvs tp v) (List.range 8), wPh g ak adk 2 kz kp, wVs g adk kvs (List.range 2), wS g as_ s, wO g ao ado (oP, oB, oL, oC, oD, oZ, oM), wVs g ado ovs (List.range 7)] 2 (Nat.le_of_ble_eq_true rfl)).symm ?_
      refine ke_i X Z dX5_die_46 ?_
      have e_ : oDie v p = (wHeir v pj, some (wBury v pj)) := by simp [oDie, c1_, ePp, c2_]
      rw [e_]
      exact ⟨rfl, XWp.of ⟨hG.bury (by omega), hU.put (by decide) hG, hKp, hT_, hs, hO⟩⟩
    · skip
      refine kb_bipush (v := (-2 : Int32)) X dX5_die_24 (by decide) ?_
      refine ke_i X Z dX5_die_26 ?_
      have e_ : oDie v p = (-2, none) := by simp [oDie, c1_, ePp, c2_]
      rw [e_]
      exact ⟨rfl, XWp.of hI⟩
  · skip
    refine kb_iconst (v := (-1 : Int32)) X dX5_die_11 (by decide) ?_
    refine ke_i X Z dX5_die_12 ?_
    have e_ : oDie v p = (-1, none) := by simp [oDie, c1_]
    rw [e_]
    exact ⟨rfl, XWp.of hI⟩

set_option maxHeartbeats 4000000 in
set_option maxRecDepth 100000 in
theorem ct_X5_pass (l : Launch) (g : kw_G) (m : Nat) (at_ an ar au : Nat → Nat) (adu : Nat → Nat → Nat) (ak : Nat → Nat) (adk : Nat → Nat → Nat) (as_ ao : Nat → Nat) (ado : Nat → Nat → Nat) (t : TS) (v u : VS) (sz tp : Nat) (uvs : Nat → VS) (kz kp : Nat) (kvs : Nat → VS) (s : SS) (oP oB : Nat → Nat) (oL oC : Int32) (oD oZ oM : Nat) (ovs : Nat → VS) (us ks : List VS) (tf : Nat → Nat) (tn : Nat) (hI : XI t sz tp uvs kz kp kvs oB oL oC oD oZ oM ovs v us ks tf tn s) (p : Int32) : kMi l g yX5_pass cX5_pass 2 .int (kw_rm 3 0 0) 0 0 [.ref (m), .int (p)] (List.flatten [wX g m at_ an ar au ak as_ ao, wT g at_ t, wV g an v, wV g ar u, wPh g au adu 8 sz tp, wVs g adu uvs (List.range 8), wPh g ak adk 2 kz kp, wVs g adk kvs (List.range 2), wS g as_ s, wO g ao ado (oP, oB, oL, oC, oD, oZ, oM), wVs g ado ovs (List.range 7)]) (fun r w => r = (oPass v p).1 ∧ XWp g m at_ an ar au adu ak adk as_ ao ado (pv v (oPass v p).2) (pu v us (oPass v p).2) ks tf tn s w) := by
  refine kMi_of (by decide +kernel) (Nat.le_of_ble_eq_true rfl) (fun x (X : kX l g RX5 cX5_pass 2 (kw_rm 3 0 0) x) (Z : kZi .int _ 0 0 x) => ?_)
  show kW x 0 0 0 [(0, .ref (m)), (1, .int (p))] [] (List.flatten [wX g m at_ an ar au ak as_ ao, wT g at_ t, wV g an v, wV g ar u, wPh g au adu 8 sz tp, wVs g adu uvs (List.range 8), wPh g ak adk 2 kz kp, wVs g adk kvs (List.range 2), wS g as_ s, wO g ao ado (oP, oB, oL, oC, oD, oZ, oM), wVs g ado ovs (List.range 7)])
  obtain ⟨hG, hU, hKp, hT_, hs, hO⟩ := id hI
  have hv := hG.1
  have hT := hG.2.1
  have hN0 := hG.2.2.2
  have h6 := hv.1
  have hx64 := hv.2.1
  have hh64 := hv.2.2
  obtain ⟨ht, etn, htx⟩ := id hT_
  have hs1 := hs.1
  have hus := hU.1
  have hsz := hU.2.1
  have htp := hU.2.2.1
  have hks := hKp.1
  have hkz := hKp.2.1
  have hkp := hKp.2.2.1
  refine kb_iload_n X 1 dX5_pass_0 rfl rfl ?_
  refine kb_iconst (v := (1 : Int32)) X dX5_pass_1 (by decide) ?_
  refine kb_bipush (v := (30 : Int32)) X dX5_pass_2 (by decide) ?_
  refine kc_Si X (As := [.int (p), .int 1, .int 30]) (rest := []) (wr := (List.flatten [wX g m at_ an ar au ak as_ ao, wT g at_ t, wV g an v, wV g ar u, wPh g au adu 8 sz tp, wVs g adu uvs (List.range 8), wPh g ak adk 2 kz kp, wVs g adk kvs (List.range 2), wS g as_ s, wO g ao ado (oP, oB, oL, oC, oD, oZ, oM), wVs g ado ovs (List.range 7)])) (ct_X5_within l g p (1 : Int32) (30 : Int32) ) dX5_pass_4 rfl (List.Perm.refl _) mc_X5_within kl_X5_75 ms_X5_within kn_X5 (na := 3) (by decide +kernel) rfl ⟨Nat.le_of_ble_eq_true rfl, Nat.le_of_ble_eq_true rfl⟩ ⟨rfl, rfl⟩ ⟨Nat.le_of_ble_eq_true rfl, Nat.le_of_ble_eq_true rfl⟩ (Nat.le_of_ble_eq_true rfl) (fun r_ w_ hp_ => ?_)
  obtain ⟨rfl, rfl⟩ := hp_
  refine kw_ws (List.nil_append _) ?_
  refine kz_if_ne (b := inr p (1 : Int32) (30 : Int32)) (tgt := 12) X dX5_pass_7 (by decide) (fun c1_ => ?_) (fun c1_ => ?_)
  · skip
    refine kb_aload_n X 0 dX5_pass_12 rfl rfl ?_
    refine kf_get (v := .ref (au 0)) (C := RX5) (T := TX5) (N := 7) (ci := 5) X kw_iX5 rfl 3 0 0 rfl rfl (by decide) kf_X5_31 rfl rfl dX5_pass_13 ?_
    refine kb_aload_n X 0 dX5_pass_16 rfl rfl ?_
    refine kf_get (v := .ref (an 0)) (C := RX5) (T := TX5) (N := 7) (ci := 5) X kw_iX5 rfl 1 0 0 rfl rfl (by decide) kf_X5_19 rfl rfl dX5_pass_17 ?_
    refine kc_Vv X (As := [.ref (an 0)]) (rest := []) (wr := List.flatten [wX g m at_ an ar au ak as_ ao, wT g at_ t, wV g ar u, wPh g ak adk 2 kz kp, wVs g adk kvs (List.range 2), wS g as_ s, wO g ao ado (oP, oB, oL, oC, oD, oZ, oM), wVs g ado ovs (List.range 7)]) (ct_X1_put l g au adu 8 sz tp uvs an v (by omega) (by omega) (by omega) (by omega)) dX5_pass_20 rfl (kw_pk3 [wX g m at_ an ar au ak as_ ao, wT g at_ t, wV g an v, wV g ar u, wPh g au adu 8 sz tp, wVs g adu uvs (List.range 8), wPh g ak adk 2 kz kp, wVs g adk kvs (List.range 2), wS g as_ s, wO g ao ado (oP, oB, oL, oC, oD, oZ, oM), wVs g ado ovs (List.range 7)] 4 4 2 (Nat.le_of_ble_eq_true rfl) (Nat.le_of_ble_eq_true rfl) (Nat.le_of_ble_eq_true rfl)) mc_X1_put kl_X5_138 mi_X1_put mv_X1_put kn_X1 0 rfl rfl rfl (na := 1) (by decide +kernel) rfl ⟨Nat.le_of_ble_eq_true rfl, Nat.le_of_ble_eq_true rfl⟩ ⟨rfl, rfl⟩ ⟨Nat.le_of_ble_eq_true rfl, Nat.le_of_ble_eq_true rfl⟩ (Nat.le_of_ble_eq_true rfl) (fun w_ hp_ => ?_)
    obtain rfl := hp_
    refine kw_perm (ws' := List.flatten [wX g m at_ an ar au ak as_ ao, wT g at_ t, wV g an v, wV g ar u, wPh g au adu 8 (min 8 (sz + 1)) ((tp + 1) % 8), wVs g adu (va_up uvs tp v) (List.range 8), wPh g ak adk 2 kz kp, wVs g adk kvs (List.range 2), wS g as_ s, wO g ao ado (oP, oB, oL, oC, oD, oZ, oM), wVs g ado ovs (List.range 7)]) (kw_pk3 [wX g m at_ an ar au ak as_ ao, wT g at_ t, wV g an v, wV g ar u, wPh g au adu 8 (min 8 (sz + 1)) ((tp + 1) % 8), wVs g adu (va_up uvs tp v) (List.range 8), wPh g ak adk 2 kz kp, wVs g adk kvs (List.range 2), wS g as_ s, wO g ao ado (oP, oB, oL, oC, oD, oZ, oM), wVs g ado ovs (List.range 7)] 4 4 2 (Nat.le_of_ble_eq_true rfl) (Nat.le_of_ble_eq_true rfl) (Nat.le_of_ble_eq_true rfl)).symm ?_
    refine kb_aload_n X 0 dX5_pass_23 rfl rfl ?_
    refine kf_get (v := .ref (an 0)) (C := RX5) (T := TX5) (N := 7) (ci := 5) X kw_iX5 rfl 1 0 0 rfl rfl (by decide) kf_X5_19 rfl rfl dX5_pass_24 ?_
    refine kb_iload_n X 1 dX5_pass_27 rfl rfl ?_
    refine kc_Vv X (As := [.int (p)]) (rest := []) (wr := List.flatten [wX g m at_ an ar au ak as_ ao, wT g at_ t, wV g ar u, wPh g au adu 8 (min 8 (sz + 1)) ((tp + 1) % 8), wVs g adu (va_up uvs tp v) (List.range 8), wPh g ak adk 2 kz kp, wVs g adk kvs (List.range 2), wS g as_ s, wO g ao ado (oP, oB, oL, oC, oD, oZ, oM), wVs g ado ovs (List.range 7)]) (ct_X4_letDaysGoBy l g an v p ) dX5_pass_28 rfl (kw_pk [wX g m at_ an ar au ak as_ ao, wT g at_ t, wV g an v, wV g ar u, wPh g au adu 8 (min 8 (sz + 1)) ((tp + 1) % 8), wVs g adu (va_up uvs tp v) (List.range 8), wPh g ak adk 2 kz kp, wVs g adk kvs (List.range 2), wS g as_ s, wO g ao ado (oP, oB, oL, oC, oD, oZ, oM), wVs g ado ovs (List.range 7)] 2 (Nat.le_of_ble_eq_true rfl)) mc_X4_letDaysGoBy kl_X5_158 mi_X4_letDaysGoBy mv_X4_letDaysGoBy kn_X4 0 rfl rfl rfl (na := 1) (by decide +kernel) rfl ⟨Nat.le_of_ble_eq_true rfl, Nat.le_of_ble_eq_true rfl⟩ ⟨rfl, rfl⟩ ⟨Nat.le_of_ble_eq_true rfl, Nat.le_of_ble_eq_true rfl⟩ (Nat.le_of_ble_eq_true rfl) (fun w_ hp_ => ?_)
    obtain rfl := hp_
    refine kw_perm (ws' := List.flatten [wX g m at_ an ar au ak as_ ao, wT g at_ t, wV g an (wDays v p), wV g ar u, wPh g au adu 8 (min 8 (sz + 1)) ((tp + 1) % 8), wVs g adu (va_up uvs tp v) (List.range 8), wPh g ak adk 2 kz kp, wVs g adk kvs (List.range 2), wS g as_ s, wO g ao ado (oP, oB, oL, oC, oD, oZ, oM), wVs g ado ovs (List.range 7)]) (kw_pk [wX g m at_ an ar au ak as_ ao, wT g at_ t, wV g an (wDays v p), wV g ar u, wPh g au adu 8 (min 8 (sz + 1)) ((tp + 1) % 8), wVs g adu (va_up uvs tp v) (List.range 8), wPh g ak adk 2 kz kp, wVs g adk kvs (List.range 2), wS g as_ s, wO g ao ado (oP, oB, oL, oC, oD, oZ, oM), wVs g ado ovs (List.range 7)] 2 (Nat.le_of_ble_eq_true rfl)).symm ?_
    refine kb_aload_n X 0 dX5_pass_31 rfl rfl ?_
    refine kf_get (v := .ref (an 0)) (C := RX5) (T := TX5) (N := 7) (ci := 5) X kw_iX5 rfl 1 0 0 rfl rfl (by decide) kf_X5_19 rfl rfl dX5_pass_32 ?_
    refine kf_get (v := .int (vY (wDays v p))) (C := RX4) (T := TX4) (N := 11) (ci := 4) X kw_iX4 rfl 9 2 0 rfl rfl (by decide) kf_X5_161 rfl rfl dX5_pass_35 ?_
    refine ke_i X Z dX5_pass_38 ?_
    have e_ : oPass v p = (vY v + p, some (wDays v p)) := by simp [oPass, c1_]
    rw [e_]
    exact ⟨rfl, XWp.of ⟨hG.days p, hU.put (by decide) hG, hKp, hT_, hs, hO⟩⟩
  · skip
    refine kb_iconst (v := (-1 : Int32)) X dX5_pass_10 (by decide) ?_
    refine ke_i X Z dX5_pass_11 ?_
    have e_ : oPass v p = (-1, none) := by simp [oPass, c1_]
    rw [e_]
    exact ⟨rfl, XWp.of hI⟩

set_option maxHeartbeats 4000000 in
set_option maxRecDepth 100000 in
theorem ct_X5_come (l : Launch) (g : kw_G) (m : Nat) (at_ an ar au : Nat → Nat) (adu : Nat → Nat → Nat) (ak : Nat → Nat) (adk : Nat → Nat → Nat) (as_ ao : Nat → Nat) (ado : Nat → Nat → Nat) (t : TS) (v u : VS) (sz tp : Nat) (uvs : Nat → VS) (kz kp : Nat) (kvs : Nat → VS) (s : SS) (oP oB : Nat → Nat) (oL oC : Int32) (oD oZ oM : Nat) (ovs : Nat → VS) (us ks : List VS) (tf : Nat → Nat) (tn : Nat) (hI : XI t sz tp uvs kz kp kvs oB oL oC oD oZ oM ovs v us ks tf tn s) (p b c wt : Int32) : kMi l g yX5_come cX5_come 6 .int (kw_rm 5 0 0) 0 0 [.ref (m), .int (p), .int (b), .int (c), .int (wt)] (List.flatten [wX g m at_ an ar au ak as_ ao, wT g at_ t, wV g an v, wV g ar u, wPh g au adu 8 sz tp, wVs g adu uvs (List.range 8), wPh g ak adk 2 kz kp, wVs g adk kvs (List.range 2), wS g as_ s, wO g ao ado (oP, oB, oL, oC, oD, oZ, oM), wVs g ado ovs (List.range 7)]) (fun r w => r = oCome v p b c wt ∧ XWp g m at_ an ar au adu ak adk as_ ao ado v us ks tf tn s w) := by
  refine kMi_of (by decide +kernel) (Nat.le_of_ble_eq_true rfl) (fun x (X : kX l g RX5 cX5_come 6 (kw_rm 5 0 0) x) (Z : kZi .int _ 0 0 x) => ?_)
  show kW x 0 0 0 [(0, .ref (m)), (1, .int (p)), (2, .int (b)), (3, .int (c)), (4, .int (wt))] [] (List.flatten [wX g m at_ an ar au ak as_ ao, wT g at_ t, wV g an v, wV g ar u, wPh g au adu 8 sz tp, wVs g adu uvs (List.range 8), wPh g ak adk 2 kz kp, wVs g adk kvs (List.range 2), wS g as_ s, wO g ao ado (oP, oB, oL, oC, oD, oZ, oM), wVs g ado ovs (List.range 7)])
  obtain ⟨hG, hU, hKp, hT_, hs, hO⟩ := id hI
  have hv := hG.1
  have hT := hG.2.1
  have hN0 := hG.2.2.2
  have h6 := hv.1
  have hx64 := hv.2.1
  have hh64 := hv.2.2
  obtain ⟨ht, etn, htx⟩ := id hT_
  have hs1 := hs.1
  have hus := hU.1
  have hsz := hU.2.1
  have htp := hU.2.2.1
  have hks := hKp.1
  have hkz := hKp.2.1
  have hkp := hKp.2.2.1
  refine kb_aload_n X 0 dX5_come_0 rfl rfl ?_
  refine kf_get (v := .ref (an 0)) (C := RX5) (T := TX5) (N := 7) (ci := 5) X kw_iX5 rfl 1 0 0 rfl rfl (by decide) kf_X5_19 rfl rfl dX5_come_1 ?_
  refine kb_iload_n X 1 dX5_come_4 rfl rfl ?_
  refine kc_Vi X (As := [.int (p)]) (rest := []) (wr := List.flatten [wX g m at_ an ar au ak as_ ao, wT g at_ t, wV g ar u, wPh g au adu 8 sz tp, wVs g adu uvs (List.range 8), wPh g ak adk 2 kz kp, wVs g adk kvs (List.range 2), wS g as_ s, wO g ao ado (oP, oB, oL, oC, oD, oZ, oM), wVs g ado ovs (List.range 7)]) (ct_X4_has l g an v p ) dX5_come_5 rfl (kw_pk [wX g m at_ an ar au ak as_ ao, wT g at_ t, wV g an v, wV g ar u, wPh g au adu 8 sz tp, wVs g adu uvs (List.range 8), wPh g ak adk 2 kz kp, wVs g adk kvs (List.range 2), wS g as_ s, wO g ao ado (oP, oB, oL, oC, oD, oZ, oM), wVs g ado ovs (List.range 7)] 2 (Nat.le_of_ble_eq_true rfl)) mc_X4_has kl_X5_97 mi_X4_has mv_X4_has kn_X4 0 rfl rfl rfl (na := 1) (by decide +kernel) rfl ⟨Nat.le_of_ble_eq_true rfl, Nat.le_of_ble_eq_true rfl⟩ ⟨rfl, rfl⟩ ⟨Nat.le_of_ble_eq_true rfl, Nat.le_of_ble_eq_true rfl⟩ (Nat.le_of_ble_eq_true rfl) (fun r_ w_ hp_ => ?_)
  obtain ⟨rfl, rfl⟩ := hp_
  refine kw_perm (ws' := List.flatten [wX g m at_ an ar au ak as_ ao, wT g at_ t, wV g an v, wV g ar u, wPh g au adu 8 sz tp, wVs g adu uvs (List.range 8), wPh g ak adk 2 kz kp, wVs g adk kvs (List.range 2), wS g as_ s, wO g ao ado (oP, oB, oL, oC, oD, oZ, oM), wVs g ado ovs (List.range 7)]) (kw_pk [wX g m at_ an ar au ak as_ ao, wT g at_ t, wV g an v, wV g ar u, wPh g au adu 8 sz tp, wVs g adu uvs (List.range 8), wPh g ak adk 2 kz kp, wVs g adk kvs (List.range 2), wS g as_ s, wO g ao ado (oP, oB, oL, oC, oD, oZ, oM), wVs g ado ovs (List.range 7)] 2 (Nat.le_of_ble_eq_true rfl)).symm ?_
  refine kz_if_eq (b := pin p (vN v)) (tgt := 29) X dX5_come_8 (by decide) (fun c1_ => ?_) (fun c1_ => ?_)
  · skip
    refine kb_iconst (v := (-1 : Int32)) X dX5_come_29 (by decide) ?_
    refine ke_i X Z dX5_come_30 ?_
    exact ⟨by simp [oCome, c1_, (by decide : inr 0 0 1 = true), (by decide : inr 1 0 1 = true)], XWp.of hI⟩
  · skip
    obtain ⟨pj, hpj, epj, ePp⟩ := pin_j h6 c1_
    refine kb_iload_n X 2 dX5_come_11 rfl rfl ?_
    refine kb_iload_n X 3 dX5_come_12 rfl rfl ?_
    refine kc_Si X (As := [.int (b), .int (c)]) (rest := []) (wr := (List.flatten [wX g m at_ an ar au ak as_ ao, wT g at_ t, wV g an v, wV g ar u, wPh g au adu 8 sz tp, wVs g adu uvs (List.range 8), wPh g ak adk 2 kz kp, wVs g adk kvs (List.range 2), wS g as_ s, wO g ao ado (oP, oB, oL, oC, oD, oZ, oM), wVs g ado ovs (List.range 7)])) (ct_X5_isFare l g b c ) dX5_come_13 rfl (List.Perm.refl _) mc_X5_isFare kl_X5_132 ms_X5_isFare kn_X5 (na := 2) (by decide +kernel) rfl ⟨Nat.le_of_ble_eq_true rfl, Nat.le_of_ble_eq_true rfl⟩ ⟨rfl, rfl⟩ ⟨Nat.le_of_ble_eq_true rfl, Nat.le_of_ble_eq_true rfl⟩ (Nat.le_of_ble_eq_true rfl) (fun r_ w_ hp_ => ?_)
    obtain ⟨rfl, rfl⟩ := hp_
    refine kw_ws (List.nil_append _) ?_
    refine kz_if_eq (b := fare b c) (tgt := 29) X dX5_come_16 (by decide) (fun c2_ => ?_) (fun c2_ => ?_)
    · skip
      refine kb_iconst (v := (-1 : Int32)) X dX5_come_29 (by decide) ?_
      refine ke_i X Z dX5_come_30 ?_
      exact ⟨by simp [oCome, c1_, c2_, (by decide : inr 0 0 1 = true), (by decide : inr 1 0 1 = true)], XWp.of hI⟩
    · skip
      refine kb_iload X 4 dX5_come_19 rfl ?_
      refine kb_iconst (v := (0 : Int32)) X dX5_come_21 (by decide) ?_
      refine kb_iconst (v := (1 : Int32)) X dX5_come_22 (by decide) ?_
      refine kc_Si X (As := [.int (wt), .int 0, .int 1]) (rest := []) (wr := (List.flatten [wX g m at_ an ar au ak as_ ao, wT g at_ t, wV g an v, wV g ar u, wPh g au adu 8 sz tp, wVs g adu uvs (List.range 8), wPh g ak adk 2 kz kp, wVs g adk kvs (List.range 2), wS g as_ s, wO g ao ado (oP, oB, oL, oC, oD, oZ, oM), wVs g ado ovs (List.range 7)])) (ct_X5_within l g wt (0 : Int32) (1 : Int32) ) dX5_come_23 rfl (List.Perm.refl _) mc_X5_within kl_X5_75 ms_X5_within kn_X5 (na := 3) (by decide +kernel) rfl ⟨Nat.le_of_ble_eq_true rfl, Nat.le_of_ble_eq_true rfl⟩ ⟨rfl, rfl⟩ ⟨Nat.le_of_ble_eq_true rfl, Nat.le_of_ble_eq_true rfl⟩ (Nat.le_of_ble_eq_true rfl) (fun r_ w_ hp_ => ?_)
      obtain ⟨rfl, rfl⟩ := hp_
      refine kw_ws (List.nil_append _) ?_
      refine kz_if_ne (b := inr wt (0 : Int32) (1 : Int32)) (tgt := 31) X dX5_come_26 (by decide) (fun c3_ => ?_) (fun c3_ => ?_)
      · skip
        refine kw_lv (lv' := [(0, .ref (m)), (1, .int (nI (pj))), (2, .int (b)), (3, .int (c)), (4, .int (wt))]) (by rw [epj]) ?_
        refine kb_aload_n X 0 dX5_come_31 rfl rfl ?_
        refine kf_get (v := .ref (an 0)) (C := RX5) (T := TX5) (N := 7) (ci := 5) X kw_iX5 rfl 1 0 0 rfl rfl (by decide) kf_X5_19 rfl rfl dX5_come_32 ?_
        refine kb_iload_n X 1 dX5_come_35 rfl rfl ?_
        refine kc_Vi X (As := [.int (nI (pj))]) (rest := []) (wr := List.flatten [wX g m at_ an ar au ak as_ ao, wT g at_ t, wV g ar u, wPh g au adu 8 sz tp, wVs g adu uvs (List.range 8), wPh g ak adk 2 kz kp, wVs g adk kvs (List.range 2), wS g as_ s, wO g ao ado (oP, oB, oL, oC, oD, oZ, oM), wVs g ado ovs (List.range 7)]) (ct_X4_lives l g an v hv pj (by omega)) dX5_come_36 rfl (kw_pk [wX g m at_ an ar au ak as_ ao, wT g at_ t, wV g an v, wV g ar u, wPh g au adu 8 sz tp, wVs g adu uvs (List.range 8), wPh g ak adk 2 kz kp, wVs g adk kvs (List.range 2), wS g as_ s, wO g ao ado (oP, oB, oL, oC, oD, oZ, oM), wVs g ado ovs (List.range 7)] 2 (Nat.le_of_ble_eq_true rfl)) mc_X4_lives kl_X5_112 mi_X4_lives mv_X4_lives kn_X4 0 rfl rfl rfl (na := 1) (by decide +kernel) rfl ⟨Nat.le_of_ble_eq_true rfl, Nat.le_of_ble_eq_true rfl⟩ ⟨rfl, rfl⟩ ⟨Nat.le_of_ble_eq_true rfl, Nat.le_of_ble_eq_true rfl⟩ (Nat.le_of_ble_eq_true rfl) (fun r_ w_ hp_ => ?_)
        obtain ⟨rfl, rfl⟩ := hp_
        refine kw_perm (ws' := List.flatten [wX g m at_ an ar au ak as_ ao, wT g at_ t, wV g an v, wV g ar u, wPh g au adu 8 sz tp, wVs g adu uvs (List.range 8), wPh g ak adk 2 kz kp, wVs g adk kvs (List.range 2), wS g as_ s, wO g ao ado (oP, oB, oL, oC, oD, oZ, oM), wVs g ado ovs (List.range 7)]) (kw_pk [wX g m at_ an ar au ak as_ ao, wT g at_ t, wV g an v, wV g ar u, wPh g au adu 8 sz tp, wVs g adu uvs (List.range 8), wPh g ak adk 2 kz kp, wVs g adk kvs (List.range 2), wS g as_ s, wO g ao ado (oP, oB, oL, oC, oD, oZ, oM), wVs g ado ovs (List.range 7)] 2 (Nat.le_of_ble_eq_true rfl)).symm ?_
        refine kz_if_ne (b := wLives v pj) (tgt := 45) X dX5_come_39 (by decide) (fun c4_ => ?_) (fun c4_ => ?_)
        · skip
          refine kb_aload_n X 0 dX5_come_45 rfl rfl ?_
          refine kf_get (v := .ref (an 0)) (C := RX5) (T := TX5) (N := 7) (ci := 5) X kw_iX5 rfl 1 0 0 rfl rfl (by decide) kf_X5_19 rfl rfl dX5_come_46 ?_
          refine kb_iload_n X 1 dX5_come_49 rfl rfl ?_
          refine kb_iload_n X 2 dX5_come_50 rfl rfl ?_
          refine kb_iload_n X 3 dX5_come_51 rfl rfl ?_
          refine kc_Vi X (As := [.int (nI (pj)), .int (b), .int (c)]) (rest := []) (wr := List.flatten [wX g m at_ an ar au ak as_ ao, wT g at_ t, wV g ar u, wPh g au adu 8 sz tp, wVs g adu uvs (List.range 8), wPh g ak adk 2 kz kp, wVs g adk kvs (List.range 2), wS g as_ s, wO g ao ado (oP, oB, oL, oC, oD, oZ, oM), wVs g ado ovs (List.range 7)]) (ct_X4_guestsOf l g an v hv pj b c (by omega)) dX5_come_52 rfl (kw_pk [wX g m at_ an ar au ak as_ ao, wT g at_ t, wV g an v, wV g ar u, wPh g au adu 8 sz tp, wVs g adu uvs (List.range 8), wPh g ak adk 2 kz kp, wVs g adk kvs (List.range 2), wS g as_ s, wO g ao ado (oP, oB, oL, oC, oD, oZ, oM), wVs g ado ovs (List.range 7)] 2 (Nat.le_of_ble_eq_true rfl)) mc_X4_guestsOf kl_X5_168 mi_X4_guestsOf mv_X4_guestsOf kn_X4 0 rfl rfl rfl (na := 3) (by decide +kernel) rfl ⟨Nat.le_of_ble_eq_true rfl, Nat.le_of_ble_eq_true rfl⟩ ⟨rfl, rfl⟩ ⟨Nat.le_of_ble_eq_true rfl, Nat.le_of_ble_eq_true rfl⟩ (Nat.le_of_ble_eq_true rfl) (fun r_ w_ hp_ => ?_)
          obtain ⟨rfl, rfl⟩ := hp_
          refine kw_perm (ws' := List.flatten [wX g m at_ an ar au ak as_ ao, wT g at_ t, wV g an v, wV g ar u, wPh g au adu 8 sz tp, wVs g adu uvs (List.range 8), wPh g ak adk 2 kz kp, wVs g adk kvs (List.range 2), wS g as_ s, wO g ao ado (oP, oB, oL, oC, oD, oZ, oM), wVs g ado ovs (List.range 7)]) (kw_pk [wX g m at_ an ar au ak as_ ao, wT g at_ t, wV g an v, wV g ar u, wPh g au adu 8 sz tp, wVs g adu uvs (List.range 8), wPh g ak adk 2 kz kp, wVs g adk kvs (List.range 2), wS g as_ s, wO g ao ado (oP, oB, oL, oC, oD, oZ, oM), wVs g ado ovs (List.range 7)] 2 (Nat.le_of_ble_eq_true rfl)).symm ?_
          refine kb_istore X [1, 2, 3, 4, 5, 0] dX5_come_55 (by decide) (lv' := [(0, .ref (m)), (1, .int (nI (pj))), (2, .int (b)), (3, .int (c)), (4, .int (wt)), (5, .int (nI (wGuests v pj b c)))]) rfl ?_
          refine kb_iload X 4 dX5_come_57 rfl ?_
          refine kb_if_ne (tgt := 70) X dX5_come_59 (by decide) (fun c5_ => ?_) (fun c5_ => ?_)
          · skip
            refine kb_iload X 5 dX5_come_70 rfl ?_
            refine ke_i X Z dX5_come_72 ?_
            exact ⟨by simp [oCome, c1_, c2_, c3_, ePp, c4_, c5_, (by decide : inr 0 0 1 = true), (by decide : inr 1 0 1 = true)], XWp.of hI⟩
          · skip
            refine kb_iload X 5 dX5_come_62 rfl ?_
            refine kc_Si X (As := [.int (nI (wGuests v pj b c))]) (rest := []) (wr := (List.flatten [wX g m at_ an ar au ak as_ ao, wT g at_ t, wV g an v, wV g ar u, wPh g au adu 8 sz tp, wVs g adu uvs (List.range 8), wPh g ak adk 2 kz kp, wVs g adk kvs (List.range 2), wS g as_ s, wO g ao ado (oP, oB, oL, oC, oD, oZ, oM), wVs g ado ovs (List.range 7)])) (ct_J6_bitCount_0f7a4 l g (wGuests v pj b c) (wGuests_lt v pj b c h6)) dX5_come_64 rfl (List.Perm.refl _) mc_J6_bitCount_0f7a4 kl_X5_171 ms_J6_bitCount_0f7a4 kn_J6 (na := 1) (by decide +kernel) rfl ⟨Nat.le_of_ble_eq_true rfl, Nat.le_of_ble_eq_true rfl⟩ ⟨rfl, rfl⟩ ⟨Nat.le_of_ble_eq_true rfl, Nat.le_of_ble_eq_true rfl⟩ (Nat.le_of_ble_eq_true rfl) (fun r_ w_ hp_ => ?_)
            obtain ⟨rfl, rfl⟩ := hp_
            refine kw_ws (List.nil_append _) ?_
            refine kb_goto (tgt := 72) X dX5_come_67 (by decide) ?_
            refine ke_i X Z dX5_come_72 ?_
            exact ⟨by simp [oCome, c1_, c2_, c3_, ePp, c4_, c5_, (by decide : inr 0 0 1 = true), (by decide : inr 1 0 1 = true)], XWp.of hI⟩
        · skip
          refine kb_bipush (v := (-2 : Int32)) X dX5_come_42 (by decide) ?_
          refine ke_i X Z dX5_come_44 ?_
          exact ⟨by simp [oCome, c1_, c2_, c3_, ePp, c4_, (by decide : inr 0 0 1 = true), (by decide : inr 1 0 1 = true)], XWp.of hI⟩
      · skip
        refine kb_iconst (v := (-1 : Int32)) X dX5_come_29 (by decide) ?_
        refine ke_i X Z dX5_come_30 ?_
        exact ⟨by simp [oCome, c1_, c2_, c3_, (by decide : inr 0 0 1 = true), (by decide : inr 1 0 1 = true)], XWp.of hI⟩

