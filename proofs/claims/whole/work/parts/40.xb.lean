set_option maxHeartbeats 4000000 in
set_option maxRecDepth 100000 in
theorem ct_X5_undo (l : Launch) (g : kw_G) (m : Nat) (at_ an ar au : Nat → Nat) (adu : Nat → Nat → Nat) (ak : Nat → Nat) (adk : Nat → Nat → Nat) (as_ ao : Nat → Nat) (ado : Nat → Nat → Nat) (t : TS) (v u : VS) (sz tp : Nat) (uvs : Nat → VS) (kz kp : Nat) (kvs : Nat → VS) (s : SS) (oP oB : Nat → Nat) (oL oC : Int32) (oD oZ oM : Nat) (ovs : Nat → VS) (us ks : List VS) (tf : Nat → Nat) (tn : Nat) (hI : XI t sz tp uvs kz kp kvs oB oL oC oD oZ oM ovs v us ks tf tn s) : kMi l g yX5_undo cX5_undo 1 .int (kw_rm 3 0 0) 0 0 [.ref (m)] (List.flatten [wX g m at_ an ar au ak as_ ao, wT g at_ t, wV g an v, wV g ar u, wPh g au adu 8 sz tp, wVs g adu uvs (List.range 8), wPh g ak adk 2 kz kp, wVs g adk kvs (List.range 2), wS g as_ s, wO g ao ado (oP, oB, oL, oC, oD, oZ, oM), wVs g ado ovs (List.range 7)]) (fun r w => r = uR us ∧ XWp g m at_ an ar au adu ak adk as_ ao ado (uV v us) us.tail ks tf tn s w) := by
  refine kMi_of (by decide +kernel) (Nat.le_of_ble_eq_true rfl) (fun x (X : kX l g RX5 cX5_undo 1 (kw_rm 3 0 0) x) (Z : kZi .int _ 0 0 x) => ?_)
  show kW x 0 0 0 [(0, .ref (m))] [] (List.flatten [wX g m at_ an ar au ak as_ ao, wT g at_ t, wV g an v, wV g ar u, wPh g au adu 8 sz tp, wVs g adu uvs (List.range 8), wPh g ak adk 2 kz kp, wVs g adk kvs (List.range 2), wS g as_ s, wO g ao ado (oP, oB, oL, oC, oD, oZ, oM), wVs g ado ovs (List.range 7)])
  obtain ⟨hG, hU, hKp, hT_, hs, hO⟩ := id hI
  have hv := hG.1
  have hT := hG.2.1
  have hN0 := hG.2.2.2
  have h6 := hv.1
  have hx64 := hv.2.1
  have hh64 := hv.2.2
  obtain ⟨ht, etn, htx⟩ := id hT_
  have hs1 := hs.1
  have hus := hU.1
  have hsz := hU.2.1
  have htp := hU.2.2.1
  have hks := hKp.1
  have hkz := hKp.2.1
  have hkp := hKp.2.2.1
  refine kb_aload_n X 0 dX5_undo_0 rfl rfl ?_
  refine kf_get (v := .ref (au 0)) (C := RX5) (T := TX5) (N := 7) (ci := 5) X kw_iX5 rfl 3 0 0 rfl rfl (by decide) kf_X5_31 rfl rfl dX5_undo_1 ?_
  refine kf_get (v := .int (nI (sz))) (C := RX1) (T := TX1) (N := 3) (ci := 1) X kw_iX1 rfl 1 4 0 rfl rfl (by decide) kf_X5_164 rfl rfl dX5_undo_4 ?_
  refine kn_if_ne (a := sz) (tgt := 13) X (by omega) dX5_undo_7 (by decide) (fun c1_ => ?_) (fun c1_ => ?_)
  · skip
    refine kb_aload_n X 0 dX5_undo_13 rfl rfl ?_
    refine kf_get (v := .ref (au 0)) (C := RX5) (T := TX5) (N := 7) (ci := 5) X kw_iX5 rfl 3 0 0 rfl rfl (by decide) kf_X5_31 rfl rfl dX5_undo_14 ?_
    refine kb_aload_n X 0 dX5_undo_17 rfl rfl ?_
    refine kf_get (v := .ref (an 0)) (C := RX5) (T := TX5) (N := 7) (ci := 5) X kw_iX5 rfl 1 0 0 rfl rfl (by decide) kf_X5_19 rfl rfl dX5_undo_18 ?_
    refine kc_Vv X (As := [.ref (an 0)]) (rest := []) (wr := List.flatten [wX g m at_ an ar au ak as_ ao, wT g at_ t, wV g ar u, wPh g ak adk 2 kz kp, wVs g adk kvs (List.range 2), wS g as_ s, wO g ao ado (oP, oB, oL, oC, oD, oZ, oM), wVs g ado ovs (List.range 7)]) (ct_X1_takeInto l g au adu 8 sz tp uvs an v (by omega) (by omega) (by omega) (by omega) (by omega)) dX5_undo_21 rfl (kw_pk3 [wX g m at_ an ar au ak as_ ao, wT g at_ t, wV g an v, wV g ar u, wPh g au adu 8 sz tp, wVs g adu uvs (List.range 8), wPh g ak adk 2 kz kp, wVs g adk kvs (List.range 2), wS g as_ s, wO g ao ado (oP, oB, oL, oC, oD, oZ, oM), wVs g ado ovs (List.range 7)] 4 4 2 (Nat.le_of_ble_eq_true rfl) (Nat.le_of_ble_eq_true rfl) (Nat.le_of_ble_eq_true rfl)) mc_X1_takeInto kl_X5_165 mi_X1_takeInto mv_X1_takeInto kn_X1 0 rfl rfl rfl (na := 1) (by decide +kernel) rfl ⟨Nat.le_of_ble_eq_true rfl, Nat.le_of_ble_eq_true rfl⟩ ⟨rfl, rfl⟩ ⟨Nat.le_of_ble_eq_true rfl, Nat.le_of_ble_eq_true rfl⟩ (Nat.le_of_ble_eq_true rfl) (fun w_ hp_ => ?_)
    obtain rfl := hp_
    refine kw_perm (ws' := List.flatten [wX g m at_ an ar au ak as_ ao, wT g at_ t, wV g an (uvs ((tp + 8 - 1) % 8)), wV g ar u, wPh g au adu 8 (sz - 1) ((tp + 8 - 1) % 8), wVs g adu uvs (List.range 8), wPh g ak adk 2 kz kp, wVs g adk kvs (List.range 2), wS g as_ s, wO g ao ado (oP, oB, oL, oC, oD, oZ, oM), wVs g ado ovs (List.range 7)]) (kw_pk3 [wX g m at_ an ar au ak as_ ao, wT g at_ t, wV g an (uvs ((tp + 8 - 1) % 8)), wV g ar u, wPh g au adu 8 (sz - 1) ((tp + 8 - 1) % 8), wVs g adu uvs (List.range 8), wPh g ak adk 2 kz kp, wVs g adk kvs (List.range 2), wS g as_ s, wO g ao ado (oP, oB, oL, oC, oD, oZ, oM), wVs g ado ovs (List.range 7)] 4 4 2 (Nat.le_of_ble_eq_true rfl) (Nat.le_of_ble_eq_true rfl) (Nat.le_of_ble_eq_true rfl)).symm ?_
    refine kb_aload_n X 0 dX5_undo_24 rfl rfl ?_
    refine kf_get (v := .ref (au 0)) (C := RX5) (T := TX5) (N := 7) (ci := 5) X kw_iX5 rfl 3 0 0 rfl rfl (by decide) kf_X5_31 rfl rfl dX5_undo_25 ?_
    refine kf_get (v := .int (nI (sz - 1))) (C := RX1) (T := TX1) (N := 3) (ci := 1) X kw_iX1 rfl 1 4 0 rfl rfl (by decide) kf_X5_164 rfl rfl dX5_undo_28 ?_
    refine ke_i X Z dX5_undo_31 ?_
    cases us with
    | nil => exact absurd hus (by rw [List.length_nil]; omega)
    | cons u_ t_ =>
      obtain ⟨k1_, k2_, k3_, k4_⟩ := hU.take (by decide)
      rw [k2_]
      exact ⟨by rw [List.length_cons] at hus; rw [uR, show sz - 1 = t_.length by omega], XWp.of ⟨k3_, k1_, hKp, hT_, hs, hO⟩⟩
  · skip
    refine kb_bipush (v := (-2 : Int32)) X dX5_undo_10 (by decide) ?_
    refine ke_i X Z dX5_undo_12 ?_
    have e_ : us = [] := List.length_eq_zero_iff.mp (by omega)
    subst e_
    exact ⟨rfl, XWp.of hI⟩

set_option maxHeartbeats 4000000 in
set_option maxRecDepth 100000 in
theorem ct_X5_keep (l : Launch) (g : kw_G) (m : Nat) (at_ an ar au : Nat → Nat) (adu : Nat → Nat → Nat) (ak : Nat → Nat) (adk : Nat → Nat → Nat) (as_ ao : Nat → Nat) (ado : Nat → Nat → Nat) (t : TS) (v u : VS) (sz tp : Nat) (uvs : Nat → VS) (kz kp : Nat) (kvs : Nat → VS) (s : SS) (oP oB : Nat → Nat) (oL oC : Int32) (oD oZ oM : Nat) (ovs : Nat → VS) (us ks : List VS) (tf : Nat → Nat) (tn : Nat) (hI : XI t sz tp uvs kz kp kvs oB oL oC oD oZ oM ovs v us ks tf tn s) : kMi l g yX5_keep cX5_keep 1 .int (kw_rm 3 0 0) 0 0 [.ref (m)] (List.flatten [wX g m at_ an ar au ak as_ ao, wT g at_ t, wV g an v, wV g ar u, wPh g au adu 8 sz tp, wVs g adu uvs (List.range 8), wPh g ak adk 2 kz kp, wVs g adk kvs (List.range 2), wS g as_ s, wO g ao ado (oP, oB, oL, oC, oD, oZ, oM), wVs g ado ovs (List.range 7)]) (fun r w => r = kR ks ∧ XWp g m at_ an ar au adu ak adk as_ ao ado v us (kK v ks) tf tn s w) := by
  refine kMi_of (by decide +kernel) (Nat.le_of_ble_eq_true rfl) (fun x (X : kX l g RX5 cX5_keep 1 (kw_rm 3 0 0) x) (Z : kZi .int _ 0 0 x) => ?_)
  show kW x 0 0 0 [(0, .ref (m))] [] (List.flatten [wX g m at_ an ar au ak as_ ao, wT g at_ t, wV g an v, wV g ar u, wPh g au adu 8 sz tp, wVs g adu uvs (List.range 8), wPh g ak adk 2 kz kp, wVs g adk kvs (List.range 2), wS g as_ s, wO g ao ado (oP, oB, oL, oC, oD, oZ, oM), wVs g ado ovs (List.range 7)])
  obtain ⟨hG, hU, hKp, hT_, hs, hO⟩ := id hI
  have hv := hG.1
  have hT := hG.2.1
  have hN0 := hG.2.2.2
  have h6 := hv.1
  have hx64 := hv.2.1
  have hh64 := hv.2.2
  obtain ⟨ht, etn, htx⟩ := id hT_
  have hs1 := hs.1
  have hus := hU.1
  have hsz := hU.2.1
  have htp := hU.2.2.1
  have hks := hKp.1
  have hkz := hKp.2.1
  have hkp := hKp.2.2.1
  refine kb_aload_n X 0 dX5_keep_0 rfl rfl ?_
  refine kf_get (v := .ref (ak 0)) (C := RX5) (T := TX5) (N := 7) (ci := 5) X kw_iX5 rfl 4 0 0 rfl rfl (by decide) kf_X5_35 rfl rfl dX5_keep_1 ?_
  refine kf_get (v := .int (nI (kz))) (C := RX1) (T := TX1) (N := 3) (ci := 1) X kw_iX1 rfl 1 6 0 rfl rfl (by decide) kf_X5_164 rfl rfl dX5_keep_4 ?_
  refine kb_iconst (v := (2 : Int32)) X dX5_keep_7 (by decide) ?_
  refine kn_icmp_lt (a := kz) (b := 2) (tgt := 14) X (by omega) (by omega) dX5_keep_8 (by decide) (fun c1_ => ?_) (fun c1_ => ?_)
  · skip
    refine kb_aload_n X 0 dX5_keep_14 rfl rfl ?_
    refine kf_get (v := .ref (ak 0)) (C := RX5) (T := TX5) (N := 7) (ci := 5) X kw_iX5 rfl 4 0 0 rfl rfl (by decide) kf_X5_35 rfl rfl dX5_keep_15 ?_
    refine kb_aload_n X 0 dX5_keep_18 rfl rfl ?_
    refine kf_get (v := .ref (an 0)) (C := RX5) (T := TX5) (N := 7) (ci := 5) X kw_iX5 rfl 1 0 0 rfl rfl (by decide) kf_X5_19 rfl rfl dX5_keep_19 ?_
    refine kc_Vv X (As := [.ref (an 0)]) (rest := []) (wr := List.flatten [wX g m at_ an ar au ak as_ ao, wT g at_ t, wV g ar u, wPh g au adu 8 sz tp, wVs g adu uvs (List.range 8), wS g as_ s, wO g ao ado (oP, oB, oL, oC, oD, oZ, oM), wVs g ado ovs (List.range 7)]) (ct_X1_put l g ak adk 2 kz kp kvs an v (by omega) (by omega) (by omega) (by omega)) dX5_keep_22 rfl (kw_pk3 [wX g m at_ an ar au ak as_ ao, wT g at_ t, wV g an v, wV g ar u, wPh g au adu 8 sz tp, wVs g adu uvs (List.range 8), wPh g ak adk 2 kz kp, wVs g adk kvs (List.range 2), wS g as_ s, wO g ao ado (oP, oB, oL, oC, oD, oZ, oM), wVs g ado ovs (List.range 7)] 6 6 2 (Nat.le_of_ble_eq_true rfl) (Nat.le_of_ble_eq_true rfl) (Nat.le_of_ble_eq_true rfl)) mc_X1_put kl_X5_138 mi_X1_put mv_X1_put kn_X1 0 rfl rfl rfl (na := 1) (by decide +kernel) rfl ⟨Nat.le_of_ble_eq_true rfl, Nat.le_of_ble_eq_true rfl⟩ ⟨rfl, rfl⟩ ⟨Nat.le_of_ble_eq_true rfl, Nat.le_of_ble_eq_true rfl⟩ (Nat.le_of_ble_eq_true rfl) (fun w_ hp_ => ?_)
    obtain rfl := hp_
    refine kw_perm (ws' := List.flatten [wX g m at_ an ar au ak as_ ao, wT g at_ t, wV g an v, wV g ar u, wPh g au adu 8 sz tp, wVs g adu uvs (List.range 8), wPh g ak adk 2 (min 2 (kz + 1)) ((kp + 1) % 2), wVs g adk (va_up kvs kp v) (List.range 2), wS g as_ s, wO g ao ado (oP, oB, oL, oC, oD, oZ, oM), wVs g ado ovs (List.range 7)]) (kw_pk3 [wX g m at_ an ar au ak as_ ao, wT g at_ t, wV g an v, wV g ar u, wPh g au adu 8 sz tp, wVs g adu uvs (List.range 8), wPh g ak adk 2 (min 2 (kz + 1)) ((kp + 1) % 2), wVs g adk (va_up kvs kp v) (List.range 2), wS g as_ s, wO g ao ado (oP, oB, oL, oC, oD, oZ, oM), wVs g ado ovs (List.range 7)] 6 6 2 (Nat.le_of_ble_eq_true rfl) (Nat.le_of_ble_eq_true rfl) (Nat.le_of_ble_eq_true rfl)).symm ?_
    refine kb_aload_n X 0 dX5_keep_25 rfl rfl ?_
    refine kf_get (v := .ref (ak 0)) (C := RX5) (T := TX5) (N := 7) (ci := 5) X kw_iX5 rfl 4 0 0 rfl rfl (by decide) kf_X5_35 rfl rfl dX5_keep_26 ?_
    refine kf_get (v := .int (nI (min 2 (kz + 1)))) (C := RX1) (T := TX1) (N := 3) (ci := 1) X kw_iX1 rfl 1 6 0 rfl rfl (by decide) kf_X5_164 rfl rfl dX5_keep_29 ?_
    refine ke_i X Z dX5_keep_32 ?_
    have q_ := hKp.put (by decide) hG
    rw [List.take_of_length_le (by rw [List.length_cons]; omega)] at q_
    exact ⟨by rw [kR, if_neg (by omega), hks, Nat.min_eq_right (by omega)], by rw [kK, if_neg (by omega)]; exact XWp.of ⟨hG, hU, q_, hT_, hs, hO⟩⟩
  · skip
    refine kb_bipush (v := (-3 : Int32)) X dX5_keep_11 (by decide) ?_
    refine ke_i X Z dX5_keep_13 ?_
    exact ⟨by rw [kR, if_pos (by omega)] <;> rfl, by rw [kK, if_pos (by omega)]; exact XWp.of hI⟩

set_option maxHeartbeats 4000000 in
set_option maxRecDepth 100000 in
theorem ct_X5_back (l : Launch) (g : kw_G) (m : Nat) (at_ an ar au : Nat → Nat) (adu : Nat → Nat → Nat) (ak : Nat → Nat) (adk : Nat → Nat → Nat) (as_ ao : Nat → Nat) (ado : Nat → Nat → Nat) (t : TS) (v u : VS) (sz tp : Nat) (uvs : Nat → VS) (kz kp : Nat) (kvs : Nat → VS) (s : SS) (oP oB : Nat → Nat) (oL oC : Int32) (oD oZ oM : Nat) (ovs : Nat → VS) (us ks : List VS) (tf : Nat → Nat) (tn : Nat) (hI : XI t sz tp uvs kz kp kvs oB oL oC oD oZ oM ovs v us ks tf tn s) : kMi l g yX5_back cX5_back 1 .int (kw_rm 3 0 0) 0 0 [.ref (m)] (List.flatten [wX g m at_ an ar au ak as_ ao, wT g at_ t, wV g an v, wV g ar u, wPh g au adu 8 sz tp, wVs g adu uvs (List.range 8), wPh g ak adk 2 kz kp, wVs g adk kvs (List.range 2), wS g as_ s, wO g ao ado (oP, oB, oL, oC, oD, oZ, oM), wVs g ado ovs (List.range 7)]) (fun r w => r = uR ks ∧ XWp g m at_ an ar au adu ak adk as_ ao ado (uV v ks) (bU us ks) ks.tail tf tn s w) := by
  refine kMi_of (by decide +kernel) (Nat.le_of_ble_eq_true rfl) (fun x (X : kX l g RX5 cX5_back 1 (kw_rm 3 0 0) x) (Z : kZi .int _ 0 0 x) => ?_)
  show kW x 0 0 0 [(0, .ref (m))] [] (List.flatten [wX g m at_ an ar au ak as_ ao, wT g at_ t, wV g an v, wV g ar u, wPh g au adu 8 sz tp, wVs g adu uvs (List.range 8), wPh g ak adk 2 kz kp, wVs g adk kvs (List.range 2), wS g as_ s, wO g ao ado (oP, oB, oL, oC, oD, oZ, oM), wVs g ado ovs (List.range 7)])
  obtain ⟨hG, hU, hKp, hT_, hs, hO⟩ := id hI
  have hv := hG.1
  have hT := hG.2.1
  have hN0 := hG.2.2.2
  have h6 := hv.1
  have hx64 := hv.2.1
  have hh64 := hv.2.2
  obtain ⟨ht, etn, htx⟩ := id hT_
  have hs1 := hs.1
  have hus := hU.1
  have hsz := hU.2.1
  have htp := hU.2.2.1
  have hks := hKp.1
  have hkz := hKp.2.1
  have hkp := hKp.2.2.1
  refine kb_aload_n X 0 dX5_back_0 rfl rfl ?_
  refine kf_get (v := .ref (ak 0)) (C := RX5) (T := TX5) (N := 7) (ci := 5) X kw_iX5 rfl 4 0 0 rfl rfl (by decide) kf_X5_35 rfl rfl dX5_back_1 ?_
  refine kf_get (v := .int (nI (kz))) (C := RX1) (T := TX1) (N := 3) (ci := 1) X kw_iX1 rfl 1 6 0 rfl rfl (by decide) kf_X5_164 rfl rfl dX5_back_4 ?_
  refine kn_if_ne (a := kz) (tgt := 13) X (by omega) dX5_back_7 (by decide) (fun c1_ => ?_) (fun c1_ => ?_)
  · skip
    refine kb_aload_n X 0 dX5_back_13 rfl rfl ?_
    refine kf_get (v := .ref (ak 0)) (C := RX5) (T := TX5) (N := 7) (ci := 5) X kw_iX5 rfl 4 0 0 rfl rfl (by decide) kf_X5_35 rfl rfl dX5_back_14 ?_
    refine kb_aload_n X 0 dX5_back_17 rfl rfl ?_
    refine kf_get (v := .ref (an 0)) (C := RX5) (T := TX5) (N := 7) (ci := 5) X kw_iX5 rfl 1 0 0 rfl rfl (by decide) kf_X5_19 rfl rfl dX5_back_18 ?_
    refine kc_Vv X (As := [.ref (an 0)]) (rest := []) (wr := List.flatten [wX g m at_ an ar au ak as_ ao, wT g at_ t, wV g ar u, wPh g au adu 8 sz tp, wVs g adu uvs (List.range 8), wS g as_ s, wO g ao ado (oP, oB, oL, oC, oD, oZ, oM), wVs g ado ovs (List.range 7)]) (ct_X1_takeInto l g ak adk 2 kz kp kvs an v (by omega) (by omega) (by omega) (by omega) (by omega)) dX5_back_21 rfl (kw_pk3 [wX g m at_ an ar au ak as_ ao, wT g at_ t, wV g an v, wV g ar u, wPh g au adu 8 sz tp, wVs g adu uvs (List.range 8), wPh g ak adk 2 kz kp, wVs g adk kvs (List.range 2), wS g as_ s, wO g ao ado (oP, oB, oL, oC, oD, oZ, oM), wVs g ado ovs (List.range 7)] 6 6 2 (Nat.le_of_ble_eq_true rfl) (Nat.le_of_ble_eq_true rfl) (Nat.le_of_ble_eq_true rfl)) mc_X1_takeInto kl_X5_165 mi_X1_takeInto mv_X1_takeInto kn_X1 0 rfl rfl rfl (na := 1) (by decide +kernel) rfl ⟨Nat.le_of_ble_eq_true rfl, Nat.le_of_ble_eq_true rfl⟩ ⟨rfl, rfl⟩ ⟨Nat.le_of_ble_eq_true rfl, Nat.le_of_ble_eq_true rfl⟩ (Nat.le_of_ble_eq_true rfl) (fun w_ hp_ => ?_)
    obtain rfl := hp_
    refine kw_perm (ws' := List.flatten [wX g m at_ an ar au ak as_ ao, wT g at_ t, wV g an (kvs ((kp + 2 - 1) % 2)), wV g ar u, wPh g au adu 8 sz tp, wVs g adu uvs (List.range 8), wPh g ak adk 2 (kz - 1) ((kp + 2 - 1) % 2), wVs g adk kvs (List.range 2), wS g as_ s, wO g ao ado (oP, oB, oL, oC, oD, oZ, oM), wVs g ado ovs (List.range 7)]) (kw_pk3 [wX g m at_ an ar au ak as_ ao, wT g at_ t, wV g an (kvs ((kp + 2 - 1) % 2)), wV g ar u, wPh g au adu 8 sz tp, wVs g adu uvs (List.range 8), wPh g ak adk 2 (kz - 1) ((kp + 2 - 1) % 2), wVs g adk kvs (List.range 2), wS g as_ s, wO g ao ado (oP, oB, oL, oC, oD, oZ, oM), wVs g ado ovs (List.range 7)] 6 6 2 (Nat.le_of_ble_eq_true rfl) (Nat.le_of_ble_eq_true rfl) (Nat.le_of_ble_eq_true rfl)).symm ?_
    refine kb_aload_n X 0 dX5_back_24 rfl rfl ?_
    refine kf_get (v := .ref (au 0)) (C := RX5) (T := TX5) (N := 7) (ci := 5) X kw_iX5 rfl 3 0 0 rfl rfl (by decide) kf_X5_31 rfl rfl dX5_back_25 ?_
    refine kc_Vv X (As := []) (rest := []) (wr := List.flatten [wX g m at_ an ar au ak as_ ao, wT g at_ t, wV g an (kvs ((kp + 2 - 1) % 2)), wV g ar u, wVs g adu uvs (List.range 8), wPh g ak adk 2 (kz - 1) ((kp + 2 - 1) % 2), wVs g adk kvs (List.range 2), wS g as_ s, wO g ao ado (oP, oB, oL, oC, oD, oZ, oM), wVs g ado ovs (List.range 7)]) (ct_X1_clear l g au adu 8 sz tp) dX5_back_28 rfl (kw_pk [wX g m at_ an ar au ak as_ ao, wT g at_ t, wV g an (kvs ((kp + 2 - 1) % 2)), wV g ar u, wPh g au adu 8 sz tp, wVs g adu uvs (List.range 8), wPh g ak adk 2 (kz - 1) ((kp + 2 - 1) % 2), wVs g adk kvs (List.range 2), wS g as_ s, wO g ao ado (oP, oB, oL, oC, oD, oZ, oM), wVs g ado ovs (List.range 7)] 4 (Nat.le_of_ble_eq_true rfl)) mc_X1_clear kl_X5_93 mi_X1_clear mv_X1_clear kn_X1 0 rfl rfl rfl (na := 0) (by decide +kernel) rfl ⟨Nat.le_of_ble_eq_true rfl, Nat.le_of_ble_eq_true rfl⟩ ⟨rfl, rfl⟩ ⟨Nat.le_of_ble_eq_true rfl, Nat.le_of_ble_eq_true rfl⟩ (Nat.le_of_ble_eq_true rfl) (fun w_ hp_ => ?_)
    obtain rfl := hp_
    refine kw_perm (ws' := List.flatten [wX g m at_ an ar au ak as_ ao, wT g at_ t, wV g an (kvs ((kp + 2 - 1) % 2)), wV g ar u, wPh g au adu 8 0 tp, wVs g adu uvs (List.range 8), wPh g ak adk 2 (kz - 1) ((kp + 2 - 1) % 2), wVs g adk kvs (List.range 2), wS g as_ s, wO g ao ado (oP, oB, oL, oC, oD, oZ, oM), wVs g ado ovs (List.range 7)]) (kw_pk [wX g m at_ an ar au ak as_ ao, wT g at_ t, wV g an (kvs ((kp + 2 - 1) % 2)), wV g ar u, wPh g au adu 8 0 tp, wVs g adu uvs (List.range 8), wPh g ak adk 2 (kz - 1) ((kp + 2 - 1) % 2), wVs g adk kvs (List.range 2), wS g as_ s, wO g ao ado (oP, oB, oL, oC, oD, oZ, oM), wVs g ado ovs (List.range 7)] 4 (Nat.le_of_ble_eq_true rfl)).symm ?_
    refine kb_aload_n X 0 dX5_back_31 rfl rfl ?_
    refine kf_get (v := .ref (ak 0)) (C := RX5) (T := TX5) (N := 7) (ci := 5) X kw_iX5 rfl 4 0 0 rfl rfl (by decide) kf_X5_35 rfl rfl dX5_back_32 ?_
    refine kf_get (v := .int (nI (kz - 1))) (C := RX1) (T := TX1) (N := 3) (ci := 1) X kw_iX1 rfl 1 6 0 rfl rfl (by decide) kf_X5_164 rfl rfl dX5_back_35 ?_
    refine ke_i X Z dX5_back_38 ?_
    cases ks with
    | nil => exact absurd hks (by rw [List.length_nil]; omega)
    | cons u_ t_ =>
      obtain ⟨k1_, k2_, k3_, k4_⟩ := hKp.take (by decide)
      rw [k2_]
      exact ⟨by rw [List.length_cons] at hks; rw [uR, show kz - 1 = t_.length by omega], XWp.of ⟨k3_, hU.nil, k1_, hT_, hs, hO⟩⟩
  · skip
    refine kb_bipush (v := (-2 : Int32)) X dX5_back_10 (by decide) ?_
    refine ke_i X Z dX5_back_12 ?_
    have e_ : ks = [] := List.length_eq_zero_iff.mp (by omega)
    subst e_
    exact ⟨rfl, XWp.of hI⟩

set_option maxHeartbeats 4000000 in
set_option maxRecDepth 100000 in
theorem ct_X5_see (l : Launch) (g : kw_G) (m : Nat) (at_ an ar au : Nat → Nat) (adu : Nat → Nat → Nat) (ak : Nat → Nat) (adk : Nat → Nat → Nat) (as_ ao : Nat → Nat) (ado : Nat → Nat → Nat) (t : TS) (v u : VS) (sz tp : Nat) (uvs : Nat → VS) (kz kp : Nat) (kvs : Nat → VS) (s : SS) (oP oB : Nat → Nat) (oL oC : Int32) (oD oZ oM : Nat) (ovs : Nat → VS) (us ks : List VS) (tf : Nat → Nat) (tn : Nat) (hI : XI t sz tp uvs kz kp kvs oB oL oC oD oZ oM ovs v us ks tf tn s) (i p b c : Int32) (mb : Bool) : kMi l g yX5_see cX5_see 6 .int (kw_rm 3 0 0) 0 0 [.ref (m), .int (i), .int (p), .int (b), .int (c), .int (zI (mb))] (List.flatten [wX g m at_ an ar au ak as_ ao, wT g at_ t, wV g an v, wV g ar u, wPh g au adu 8 sz tp, wVs g adu uvs (List.range 8), wPh g ak adk 2 kz kp, wVs g adk kvs (List.range 2), wS g as_ s, wO g ao ado (oP, oB, oL, oC, oD, oZ, oM), wVs g ado ovs (List.range 7)]) (fun r w => r = oSeeR v i p b c s ∧ XWp g m at_ an ar au adu ak adk as_ ao ado v us ks tf tn (oSeeS v i p b c mb s) w) := by
  refine kMi_of (by decide +kernel) (Nat.le_of_ble_eq_true rfl) (fun x (X : kX l g RX5 cX5_see 6 (kw_rm 3 0 0) x) (Z : kZi .int _ 0 0 x) => ?_)
  show kW x 0 0 0 [(0, .ref (m)), (1, .int (i)), (2, .int (p)), (3, .int (b)), (4, .int (c)), (5, .int (zI (mb)))] [] (List.flatten [wX g m at_ an ar au ak as_ ao, wT g at_ t, wV g an v, wV g ar u, wPh g au adu 8 sz tp, wVs g adu uvs (List.range 8), wPh g ak adk 2 kz kp, wVs g adk kvs (List.range 2), wS g as_ s, wO g ao ado (oP, oB, oL, oC, oD, oZ, oM), wVs g ado ovs (List.range 7)])
  obtain ⟨hG, hU, hKp, hT_, hs, hO⟩ := id hI
  have hv := hG.1
  have hT := hG.2.1
  have hN0 := hG.2.2.2
  have h6 := hv.1
  have hx64 := hv.2.1
  have hh64 := hv.2.2
  obtain ⟨ht, etn, htx⟩ := id hT_
  have hs1 := hs.1
  have hus := hU.1
  have hsz := hU.2.1
  have htp := hU.2.2.1
  have hks := hKp.1
  have hkz := hKp.2.1
  have hkp := hKp.2.2.1
  refine kb_aload_n X 0 dX5_see_0 rfl rfl ?_
  refine kf_get (v := .ref (an 0)) (C := RX5) (T := TX5) (N := 7) (ci := 5) X kw_iX5 rfl 1 0 0 rfl rfl (by decide) kf_X5_19 rfl rfl dX5_see_1 ?_
  refine kb_iload_n X 1 dX5_see_4 rfl rfl ?_
  refine kb_iload_n X 2 dX5_see_5 rfl rfl ?_
  refine kc_Vi X (As := [.int (i), .int (p)]) (rest := []) (wr := List.flatten [wX g m at_ an ar au ak as_ ao, wT g at_ t, wV g ar u, wPh g au adu 8 sz tp, wVs g adu uvs (List.range 8), wPh g ak adk 2 kz kp, wVs g adk kvs (List.range 2), wS g as_ s, wO g ao ado (oP, oB, oL, oC, oD, oZ, oM), wVs g ado ovs (List.range 7)]) (ct_X4_hasTwo l g an v i p ) dX5_see_6 rfl (kw_pk [wX g m at_ an ar au ak as_ ao, wT g at_ t, wV g an v, wV g ar u, wPh g au adu 8 sz tp, wVs g adu uvs (List.range 8), wPh g ak adk 2 kz kp, wVs g adk kvs (List.range 2), wS g as_ s, wO g ao ado (oP, oB, oL, oC, oD, oZ, oM), wVs g ado ovs (List.range 7)] 2 (Nat.le_of_ble_eq_true rfl)) mc_X4_hasTwo kl_X5_121 mi_X4_hasTwo mv_X4_hasTwo kn_X4 0 rfl rfl rfl (na := 2) (by decide +kernel) rfl ⟨Nat.le_of_ble_eq_true rfl, Nat.le_of_ble_eq_true rfl⟩ ⟨rfl, rfl⟩ ⟨Nat.le_of_ble_eq_true rfl, Nat.le_of_ble_eq_true rfl⟩ (Nat.le_of_ble_eq_true rfl) (fun r_ w_ hp_ => ?_)
  obtain ⟨rfl, rfl⟩ := hp_
  refine kw_perm (ws' := List.flatten [wX g m at_ an ar au ak as_ ao, wT g at_ t, wV g an v, wV g ar u, wPh g au adu 8 sz tp, wVs g adu uvs (List.range 8), wPh g ak adk 2 kz kp, wVs g adk kvs (List.range 2), wS g as_ s, wO g ao ado (oP, oB, oL, oC, oD, oZ, oM), wVs g ado ovs (List.range 7)]) (kw_pk [wX g m at_ an ar au ak as_ ao, wT g at_ t, wV g an v, wV g ar u, wPh g au adu 8 sz tp, wVs g adu uvs (List.range 8), wPh g ak adk 2 kz kp, wVs g adk kvs (List.range 2), wS g as_ s, wO g ao ado (oP, oB, oL, oC, oD, oZ, oM), wVs g ado ovs (List.range 7)] 2 (Nat.le_of_ble_eq_true rfl)).symm ?_
  refine kz_if_eq (b := two i p (vN v)) (tgt := 21) X dX5_see_9 (by decide) (fun c1_ => ?_) (fun c1_ => ?_)
  · skip
    refine kb_iconst (v := (-1 : Int32)) X dX5_see_21 (by decide) ?_
    refine ke_i X Z dX5_see_22 ?_
    have e_ : oSeeS v i p b c mb s = s := by simp [oSeeS, c1_]
    rw [e_]
    exact ⟨by simp [oSeeR, c1_], XWp.of hI⟩
  · skip
    obtain ⟨ij, jj, hij, hjj, hne, eij, ejj, ePi, ePj⟩ := two_j h6 c1_
    refine kb_iload_n X 3 dX5_see_12 rfl rfl ?_
    refine kb_iload X 4 dX5_see_13 rfl ?_
    refine kc_Si X (As := [.int (b), .int (c)]) (rest := []) (wr := (List.flatten [wX g m at_ an ar au ak as_ ao, wT g at_ t, wV g an v, wV g ar u, wPh g au adu 8 sz tp, wVs g adu uvs (List.range 8), wPh g ak adk 2 kz kp, wVs g adk kvs (List.range 2), wS g as_ s, wO g ao ado (oP, oB, oL, oC, oD, oZ, oM), wVs g ado ovs (List.range 7)])) (ct_X5_isFare l g b c ) dX5_see_15 rfl (List.Perm.refl _) mc_X5_isFare kl_X5_132 ms_X5_isFare kn_X5 (na := 2) (by decide +kernel) rfl ⟨Nat.le_of_ble_eq_true rfl, Nat.le_of_ble_eq_true rfl⟩ ⟨rfl, rfl⟩ ⟨Nat.le_of_ble_eq_true rfl, Nat.le_of_ble_eq_true rfl⟩ (Nat.le_of_ble_eq_true rfl) (fun r_ w_ hp_ => ?_)
    obtain ⟨rfl, rfl⟩ := hp_
    refine kw_ws (List.nil_append _) ?_
    refine kz_if_ne (b := fare b c) (tgt := 23) X dX5_see_18 (by decide) (fun c2_ => ?_) (fun c2_ => ?_)
    · skip
      refine kw_lv (lv' := [(0, .ref (m)), (1, .int (nI (ij))), (2, .int (p)), (3, .int (b)), (4, .int (c)), (5, .int (zI (mb)))]) (by rw [eij]) ?_
      refine kw_lv (lv' := [(0, .ref (m)), (1, .int (nI (ij))), (2, .int (nI (jj))), (3, .int (b)), (4, .int (c)), (5, .int (zI (mb)))]) (by rw [ejj]) ?_
      refine kb_aload_n X 0 dX5_see_23 rfl rfl ?_
      refine kf_get (v := .ref (as_ 0)) (C := RX5) (T := TX5) (N := 7) (ci := 5) X kw_iX5 rfl 5 0 0 rfl rfl (by decide) kf_X5_41 rfl rfl dX5_see_24 ?_
      refine kf_get (v := .int (nI (sSize s))) (C := RX2) (T := TX2) (N := 6) (ci := 2) X kw_iX2 rfl 5 8 0 rfl rfl (by decide) kf_X5_94 rfl rfl dX5_see_27 ?_
      refine kb_bipush (v := (6 : Int32)) X dX5_see_30 (by decide) ?_
      refine kn_icmp_lt (a := sSize s) (b := 6) (tgt := 38) X (by omega) (by omega) dX5_see_32 (by decide) (fun c3_ => ?_) (fun c3_ => ?_)
      · skip
        refine kb_aload_n X 0 dX5_see_38 rfl rfl ?_
        refine kf_get (v := .ref (as_ 0)) (C := RX5) (T := TX5) (N := 7) (ci := 5) X kw_iX5 rfl 5 0 0 rfl rfl (by decide) kf_X5_41 rfl rfl dX5_see_39 ?_
        refine kb_iload_n X 1 dX5_see_42 rfl rfl ?_
        refine kb_iload_n X 2 dX5_see_43 rfl rfl ?_
        refine kb_iload_n X 3 dX5_see_44 rfl rfl ?_
        refine kb_iload X 4 dX5_see_45 rfl ?_
        refine kb_iload X 5 dX5_see_47 rfl ?_
        refine kc_Vv X (As := [.int (nI (ij)), .int (nI (jj)), .int (b), .int (c), .int (zI (mb))]) (rest := []) (wr := List.flatten [wX g m at_ an ar au ak as_ ao, wT g at_ t, wV g an v, wV g ar u, wPh g au adu 8 sz tp, wVs g adu uvs (List.range 8), wPh g ak adk 2 kz kp, wVs g adk kvs (List.range 2), wO g ao ado (oP, oB, oL, oC, oD, oZ, oM), wVs g ado ovs (List.range 7)]) (ct_X2_add l g as_ s ij jj b c mb (by omega)) dX5_see_49 rfl (kw_pk [wX g m at_ an ar au ak as_ ao, wT g at_ t, wV g an v, wV g ar u, wPh g au adu 8 sz tp, wVs g adu uvs (List.range 8), wPh g ak adk 2 kz kp, wVs g adk kvs (List.range 2), wS g as_ s, wO g ao ado (oP, oB, oL, oC, oD, oZ, oM), wVs g ado ovs (List.range 7)] 8 (Nat.le_of_ble_eq_true rfl)) mc_X2_add kl_X5_214 mi_X2_add mv_X2_add kn_X2 0 rfl rfl rfl (na := 5) (by decide +kernel) rfl ⟨Nat.le_of_ble_eq_true rfl, Nat.le_of_ble_eq_true rfl⟩ ⟨rfl, rfl⟩ ⟨Nat.le_of_ble_eq_true rfl, Nat.le_of_ble_eq_true rfl⟩ (Nat.le_of_ble_eq_true rfl) (fun w_ hp_ => ?_)
        obtain rfl := hp_
        refine kw_perm (ws' := List.flatten [wX g m at_ an ar au ak as_ ao, wT g at_ t, wV g an v, wV g ar u, wPh g au adu 8 sz tp, wVs g adu uvs (List.range 8), wPh g ak adk 2 kz kp, wVs g adk kvs (List.range 2), wS g as_ (sAdd s ij jj b c mb), wO g ao ado (oP, oB, oL, oC, oD, oZ, oM), wVs g ado ovs (List.range 7)]) (kw_pk [wX g m at_ an ar au ak as_ ao, wT g at_ t, wV g an v, wV g ar u, wPh g au adu 8 sz tp, wVs g adu uvs (List.range 8), wPh g ak adk 2 kz kp, wVs g adk kvs (List.range 2), wS g as_ (sAdd s ij jj b c mb), wO g ao ado (oP, oB, oL, oC, oD, oZ, oM), wVs g ado ovs (List.range 7)] 8 (Nat.le_of_ble_eq_true rfl)).symm ?_
        refine kb_aload_n X 0 dX5_see_52 rfl rfl ?_
        refine kf_get (v := .ref (as_ 0)) (C := RX5) (T := TX5) (N := 7) (ci := 5) X kw_iX5 rfl 5 0 0 rfl rfl (by decide) kf_X5_41 rfl rfl dX5_see_53 ?_
        refine kf_get (v := .int (nI (sSize (sAdd s ij jj b c mb)))) (C := RX2) (T := TX2) (N := 6) (ci := 2) X kw_iX2 rfl 5 8 0 rfl rfl (by decide) kf_X5_94 rfl rfl dX5_see_56 ?_
        refine ke_i X Z dX5_see_59 ?_
        have e6_ : ¬ sSize s = 6 := by omega
        have e_ : oSeeS v i p b c mb s = sAdd s ij jj b c mb := by simp [oSeeS, e6_, c1_, c2_, ePi, ePj]
        rw [e_]
        exact ⟨by simp [oSeeR, e6_, c1_, c2_, ePi, ePj] <;> rfl, XWp.of ⟨hG, hU, hKp, hT_, SSI_add hs (by omega) (by omega) (by omega) b c mb, hO⟩⟩
      · skip
        refine kb_bipush (v := (-3 : Int32)) X dX5_see_35 (by decide) ?_
        refine ke_i X Z dX5_see_37 ?_
        have e6_ : sSize s = 6 := by omega
        have e_ : oSeeS v i p b c mb s = s := by simp [oSeeS, e6_, c1_, c2_, ePi, ePj]
        rw [e_]
        exact ⟨by simp [oSeeR, e6_, c1_, c2_, ePi, ePj], XWp.of hI⟩
    · skip
      refine kb_iconst (v := (-1 : Int32)) X dX5_see_21 (by decide) ?_
      refine ke_i X Z dX5_see_22 ?_
      have e_ : oSeeS v i p b c mb s = s := by simp [oSeeS, c1_, c2_]
      rw [e_]
      exact ⟨by simp [oSeeR, c1_, c2_], XWp.of hI⟩

set_option maxHeartbeats 4000000 in
set_option maxRecDepth 100000 in
theorem ct_X5_forget (l : Launch) (g : kw_G) (m : Nat) (at_ an ar au : Nat → Nat) (adu : Nat → Nat → Nat) (ak : Nat → Nat) (adk : Nat → Nat → Nat) (as_ ao : Nat → Nat) (ado : Nat → Nat → Nat) (t : TS) (v u : VS) (sz tp : Nat) (uvs : Nat → VS) (kz kp : Nat) (kvs : Nat → VS) (s : SS) (oP oB : Nat → Nat) (oL oC : Int32) (oD oZ oM : Nat) (ovs : Nat → VS) (us ks : List VS) (tf : Nat → Nat) (tn : Nat) (hI : XI t sz tp uvs kz kp kvs oB oL oC oD oZ oM ovs v us ks tf tn s) : kMi l g yX5_forget cX5_forget 2 .int (kw_rm 1 0 0) 0 0 [.ref (m)] (List.flatten [wX g m at_ an ar au ak as_ ao, wT g at_ t, wV g an v, wV g ar u, wPh g au adu 8 sz tp, wVs g adu uvs (List.range 8), wPh g ak adk 2 kz kp, wVs g adk kvs (List.range 2), wS g as_ s, wO g ao ado (oP, oB, oL, oC, oD, oZ, oM), wVs g ado ovs (List.range 7)]) (fun r w => r = nI (sSize s) ∧ XWp g m at_ an ar au adu ak adk as_ ao ado v us ks tf tn (sSz s 0) w) := by
  refine kMi_of (by decide +kernel) (Nat.le_of_ble_eq_true rfl) (fun x (X : kX l g RX5 cX5_forget 2 (kw_rm 1 0 0) x) (Z : kZi .int _ 0 0 x) => ?_)
  show kW x 0 0 0 [(0, .ref (m))] [] (List.flatten [wX g m at_ an ar au ak as_ ao, wT g at_ t, wV g an v, wV g ar u, wPh g au adu 8 sz tp, wVs g adu uvs (List.range 8), wPh g ak adk 2 kz kp, wVs g adk kvs (List.range 2), wS g as_ s, wO g ao ado (oP, oB, oL, oC, oD, oZ, oM), wVs g ado ovs (List.range 7)])
  obtain ⟨hG, hU, hKp, hT_, hs, hO⟩ := id hI
  have hv := hG.1
  have hT := hG.2.1
  have hN0 := hG.2.2.2
  have h6 := hv.1
  have hx64 := hv.2.1
  have hh64 := hv.2.2
  obtain ⟨ht, etn, htx⟩ := id hT_
  have hs1 := hs.1
  have hus := hU.1
  have hsz := hU.2.1
  have htp := hU.2.2.1
  have hks := hKp.1
  have hkz := hKp.2.1
  have hkp := hKp.2.2.1
  refine kb_aload_n X 0 dX5_forget_0 rfl rfl ?_
  refine kf_get (v := .ref (as_ 0)) (C := RX5) (T := TX5) (N := 7) (ci := 5) X kw_iX5 rfl 5 0 0 rfl rfl (by decide) kf_X5_41 rfl rfl dX5_forget_1 ?_
  refine kf_get (v := .int (nI (sSize s))) (C := RX2) (T := TX2) (N := 6) (ci := 2) X kw_iX2 rfl 5 8 0 rfl rfl (by decide) kf_X5_94 rfl rfl dX5_forget_4 ?_
  refine kb_istore_n X [1, 0] dX5_forget_7 rfl (by decide) (lv' := [(0, .ref (m)), (1, .int (nI (sSize s)))]) rfl ?_
  refine kb_aload_n X 0 dX5_forget_8 rfl rfl ?_
  refine kf_get (v := .ref (as_ 0)) (C := RX5) (T := TX5) (N := 7) (ci := 5) X kw_iX5 rfl 5 0 0 rfl rfl (by decide) kf_X5_41 rfl rfl dX5_forget_9 ?_
  refine kb_iconst (v := (0 : Int32)) X dX5_forget_12 (by decide) ?_
  refine kf_put (C := RX2) (T := TX2) (N := 6) (ci := 2) (ty := .int) (B' := wS g as_ (sSz s 0)) (L' := [wX g m at_ an ar au ak as_ ao, wT g at_ t, wV g an v, wV g ar u, wPh g au adu 8 sz tp, wVs g adu uvs (List.range 8), wPh g ak adk 2 kz kp, wVs g adk kvs (List.range 2), wS g as_ (sSz s 0), wO g ao ado (oP, oB, oL, oC, oD, oZ, oM), wVs g ado ovs (List.range 7)]) X kw_iX2 tyX2 tyX2_ok nmX2 rfl 5 8 0 rfl rfl (by decide) kf_X5_94 rfl rfl (by decide +kernel) rfl rfl (Nat.le_of_ble_eq_true rfl) dX5_forget_13 rfl rfl ?_
  refine kb_iload_n X 1 dX5_forget_16 rfl rfl ?_
  refine ke_i X Z dX5_forget_17 ?_
  exact ⟨rfl, XWp.of ⟨hG, hU, hKp, hT_, ⟨Nat.zero_le _, fun k hk => absurd hk (Nat.not_lt_zero _)⟩, hO⟩⟩

set_option maxHeartbeats 4000000 in
set_option maxRecDepth 100000 in
theorem ct_X5_felt (l : Launch) (g : kw_G) (m : Nat) (at_ an ar au : Nat → Nat) (adu : Nat → Nat → Nat) (ak : Nat → Nat) (adk : Nat → Nat → Nat) (as_ ao : Nat → Nat) (ado : Nat → Nat → Nat) (t : TS) (v u : VS) (sz tp : Nat) (uvs : Nat → VS) (kz kp : Nat) (kvs : Nat → VS) (s : SS) (oP oB : Nat → Nat) (oL oC : Int32) (oD oZ oM : Nat) (ovs : Nat → VS) (us ks : List VS) (tf : Nat → Nat) (tn : Nat) (hI : XI t sz tp uvs kz kp kvs oB oL oC oD oZ oM ovs v us ks tf tn s) (i p : Int32) : kMi l g yX5_felt cX5_felt 3 .int (kw_rm 7 0 0) 0 0 [.ref (m), .int (i), .int (p)] (List.flatten [wX g m at_ an ar au ak as_ ao, wT g at_ t, wV g an v, wV g ar u, wPh g au adu 8 sz tp, wVs g adu uvs (List.range 8), wPh g ak adk 2 kz kp, wVs g adk kvs (List.range 2), wS g as_ s, wO g ao ado (oP, oB, oL, oC, oD, oZ, oM), wVs g ado ovs (List.range 7)]) (fun r w => r = oFelt v i p s ∧ XWp g m at_ an ar au adu ak adk as_ ao ado v us ks tf tn s w) := by
  refine kMi_of (by decide +kernel) (Nat.le_of_ble_eq_true rfl) (fun x (X : kX l g RX5 cX5_felt 3 (kw_rm 7 0 0) x) (Z : kZi .int _ 0 0 x) => ?_)
  show kW x 0 0 0 [(0, .ref (m)), (1, .int (i)), (2, .int (p))] [] (List.flatten [wX g m at_ an ar au ak as_ ao, wT g at_ t, wV g an v, wV g ar u, wPh g au adu 8 sz tp, wVs g adu uvs (List.range 8), wPh g ak adk 2 kz kp, wVs g adk kvs (List.range 2), wS g as_ s, wO g ao ado (oP, oB, oL, oC, oD, oZ, oM), wVs g ado ovs (List.range 7)])
  obtain ⟨hG, hU, hKp, hT_, hs, hO⟩ := id hI
  have hv := hG.1
  have hT := hG.2.1
  have hN0 := hG.2.2.2
  have h6 := hv.1
  have hx64 := hv.2.1
  have hh64 := hv.2.2
  obtain ⟨ht, etn, htx⟩ := id hT_
  have hs1 := hs.1
  have hus := hU.1
  have hsz := hU.2.1
  have htp := hU.2.2.1
  have hks := hKp.1
  have hkz := hKp.2.1
  have hkp := hKp.2.2.1
  refine kb_aload_n X 0 dX5_felt_0 rfl rfl ?_
  refine kf_get (v := .ref (an 0)) (C := RX5) (T := TX5) (N := 7) (ci := 5) X kw_iX5 rfl 1 0 0 rfl rfl (by decide) kf_X5_19 rfl rfl dX5_felt_1 ?_
  refine kb_iload_n X 1 dX5_felt_4 rfl rfl ?_
  refine kb_iload_n X 2 dX5_felt_5 rfl rfl ?_
  refine kc_Vi X (As := [.int (i), .int (p)]) (rest := []) (wr := List.flatten [wX g m at_ an ar au ak as_ ao, wT g at_ t, wV g ar u, wPh g au adu 8 sz tp, wVs g adu uvs (List.range 8), wPh g ak adk 2 kz kp, wVs g adk kvs (List.range 2), wS g as_ s, wO g ao ado (oP, oB, oL, oC, oD, oZ, oM), wVs g ado ovs (List.range 7)]) (ct_X4_hasTwo l g an v i p ) dX5_felt_6 rfl (kw_pk [wX g m at_ an ar au ak as_ ao, wT g at_ t, wV g an v, wV g ar u, wPh g au adu 8 sz tp, wVs g adu uvs (List.range 8), wPh g ak adk 2 kz kp, wVs g adk kvs (List.range 2), wS g as_ s, wO g ao ado (oP, oB, oL, oC, oD, oZ, oM), wVs g ado ovs (List.range 7)] 2 (Nat.le_of_ble_eq_true rfl)) mc_X4_hasTwo kl_X5_121 mi_X4_hasTwo mv_X4_hasTwo kn_X4 0 rfl rfl rfl (na := 2) (by decide +kernel) rfl ⟨Nat.le_of_ble_eq_true rfl, Nat.le_of_ble_eq_true rfl⟩ ⟨rfl, rfl⟩ ⟨Nat.le_of_ble_eq_true rfl, Nat.le_of_ble_eq_true rfl⟩ (Nat.le_of_ble_eq_true rfl) (fun r_ w_ hp_ => ?_)
  obtain ⟨rfl, rfl⟩ := hp_
  refine kw_perm (ws' := List.flatten [wX g m at_ an ar au ak as_ ao, wT g at_ t, wV g an v, wV g ar u, wPh g au adu 8 sz tp, wVs g adu uvs (List.range 8), wPh g ak adk 2 kz kp, wVs g adk kvs (List.range 2), wS g as_ s, wO g ao ado (oP, oB, oL, oC, oD, oZ, oM), wVs g ado ovs (List.range 7)]) (kw_pk [wX g m at_ an ar au ak as_ ao, wT g at_ t, wV g an v, wV g ar u, wPh g au adu 8 sz tp, wVs g adu uvs (List.range 8), wPh g ak adk 2 kz kp, wVs g adk kvs (List.range 2), wS g as_ s, wO g ao ado (oP, oB, oL, oC, oD, oZ, oM), wVs g ado ovs (List.range 7)] 2 (Nat.le_of_ble_eq_true rfl)).symm ?_
  refine kz_if_ne (b := two i p (vN v)) (tgt := 14) X dX5_felt_9 (by decide) (fun c1_ => ?_) (fun c1_ => ?_)
  · skip
    obtain ⟨ij, jj, hij, hjj, hne, eij, ejj, ePi, ePj⟩ := two_j h6 c1_
    refine kw_lv (lv' := [(0, .ref (m)), (1, .int (nI (ij))), (2, .int (p))]) (by rw [eij]) ?_
    refine kw_lv (lv' := [(0, .ref (m)), (1, .int (nI (ij))), (2, .int (nI (jj)))]) (by rw [ejj]) ?_
    refine kb_aload_n X 0 dX5_felt_14 rfl rfl ?_
    refine kf_get (v := .ref (as_ 0)) (C := RX5) (T := TX5) (N := 7) (ci := 5) X kw_iX5 rfl 5 0 0 rfl rfl (by decide) kf_X5_41 rfl rfl dX5_felt_15 ?_
    refine kb_aload_n X 0 dX5_felt_18 rfl rfl ?_
    refine kf_get (v := .ref (an 0)) (C := RX5) (T := TX5) (N := 7) (ci := 5) X kw_iX5 rfl 1 0 0 rfl rfl (by decide) kf_X5_19 rfl rfl dX5_felt_19 ?_
    refine kb_iload_n X 1 dX5_felt_22 rfl rfl ?_
    refine kb_iload_n X 2 dX5_felt_23 rfl rfl ?_
    refine kc_Vi X (As := [.ref (an 0), .int (nI (ij)), .int (nI (jj))]) (rest := []) (wr := List.flatten [wX g m at_ an ar au ak as_ ao, wT g at_ t, wV g ar u, wPh g au adu 8 sz tp, wVs g adu uvs (List.range 8), wPh g ak adk 2 kz kp, wVs g adk kvs (List.range 2), wO g ao ado (oP, oB, oL, oC, oD, oZ, oM), wVs g ado ovs (List.range 7)]) (ct_X2_tiesThatFit l g as_ an s v hs hv ij jj (by omega) (by omega)) dX5_felt_24 rfl (kw_pk2 [wX g m at_ an ar au ak as_ ao, wT g at_ t, wV g an v, wV g ar u, wPh g au adu 8 sz tp, wVs g adu uvs (List.range 8), wPh g ak adk 2 kz kp, wVs g adk kvs (List.range 2), wS g as_ s, wO g ao ado (oP, oB, oL, oC, oD, oZ, oM), wVs g ado ovs (List.range 7)] 8 2 (Nat.le_of_ble_eq_true rfl) (Nat.le_of_ble_eq_true rfl)) mc_X2_tiesThatFit kl_X5_218 mi_X2_tiesThatFit mv_X2_tiesThatFit kn_X2 0 rfl rfl rfl (na := 3) (by decide +kernel) rfl ⟨Nat.le_of_ble_eq_true rfl, Nat.le_of_ble_eq_true rfl⟩ ⟨rfl, rfl⟩ ⟨Nat.le_of_ble_eq_true rfl, Nat.le_of_ble_eq_true rfl⟩ (Nat.le_of_ble_eq_true rfl) (fun r_ w_ hp_ => ?_)
    obtain ⟨rfl, rfl⟩ := hp_
    refine kw_perm (ws' := List.flatten [wX g m at_ an ar au ak as_ ao, wT g at_ t, wV g an v, wV g ar u, wPh g au adu 8 sz tp, wVs g adu uvs (List.range 8), wPh g ak adk 2 kz kp, wVs g adk kvs (List.range 2), wS g as_ s, wO g ao ado (oP, oB, oL, oC, oD, oZ, oM), wVs g ado ovs (List.range 7)]) (kw_pk2 [wX g m at_ an ar au ak as_ ao, wT g at_ t, wV g an v, wV g ar u, wPh g au adu 8 sz tp, wVs g adu uvs (List.range 8), wPh g ak adk 2 kz kp, wVs g adk kvs (List.range 2), wS g as_ s, wO g ao ado (oP, oB, oL, oC, oD, oZ, oM), wVs g ado ovs (List.range 7)] 8 2 (Nat.le_of_ble_eq_true rfl) (Nat.le_of_ble_eq_true rfl)).symm ?_
    refine ke_i X Z dX5_felt_27 ?_
    exact ⟨by simp [oFelt, c1_, ePi, ePj], XWp.of hI⟩
  · skip
    refine kb_iconst (v := (-1 : Int32)) X dX5_felt_12 (by decide) ?_
    refine ke_i X Z dX5_felt_13 ?_
    exact ⟨by simp [oFelt, c1_], XWp.of hI⟩

set_option maxHeartbeats 4000000 in
set_option maxRecDepth 100000 in
theorem ct_X5_kinds (l : Launch) (g : kw_G) (m : Nat) (at_ an ar au : Nat → Nat) (adu : Nat → Nat → Nat) (ak : Nat → Nat) (adk : Nat → Nat → Nat) (as_ ao : Nat → Nat) (ado : Nat → Nat → Nat) (t : TS) (v u : VS) (sz tp : Nat) (uvs : Nat → VS) (kz kp : Nat) (kvs : Nat → VS) (s : SS) (oP oB : Nat → Nat) (oL oC : Int32) (oD oZ oM : Nat) (ovs : Nat → VS) (us ks : List VS) (tf : Nat → Nat) (tn : Nat) (hI : XI t sz tp uvs kz kp kvs oB oL oC oD oZ oM ovs v us ks tf tn s) (i : Int32) : kMi l g yX5_kinds cX5_kinds 2 .int (kw_rm 7 0 0) 0 0 [.ref (m), .int (i)] (List.flatten [wX g m at_ an ar au ak as_ ao, wT g at_ t, wV g an v, wV g ar u, wPh g au adu 8 sz tp, wVs g adu uvs (List.range 8), wPh g ak adk 2 kz kp, wVs g adk kvs (List.range 2), wS g as_ s, wO g ao ado (oP, oB, oL, oC, oD, oZ, oM), wVs g ado ovs (List.range 7)]) (fun r w => r = oKinds v i s ∧ XWp g m at_ an ar au adu ak adk as_ ao ado v us ks tf tn s w) := by
  refine kMi_of (by decide +kernel) (Nat.le_of_ble_eq_true rfl) (fun x (X : kX l g RX5 cX5_kinds 2 (kw_rm 7 0 0) x) (Z : kZi .int _ 0 0 x) => ?_)
  show kW x 0 0 0 [(0, .ref (m)), (1, .int (i))] [] (List.flatten [wX g m at_ an ar au ak as_ ao, wT g at_ t, wV g an v, wV g ar u, wPh g au adu 8 sz tp, wVs g adu uvs (List.range 8), wPh g ak adk 2 kz kp, wVs g adk kvs (List.range 2), wS g as_ s, wO g ao ado (oP, oB, oL, oC, oD, oZ, oM), wVs g ado ovs (List.range 7)])
  obtain ⟨hG, hU, hKp, hT_, hs, hO⟩ := id hI
  have hv := hG.1
  have hT := hG.2.1
  have hN0 := hG.2.2.2
  have h6 := hv.1
  have hx64 := hv.2.1
  have hh64 := hv.2.2
  obtain ⟨ht, etn, htx⟩ := id hT_
  have hs1 := hs.1
  have hus := hU.1
  have hsz := hU.2.1
  have htp := hU.2.2.1
  have hks := hKp.1
  have hkz := hKp.2.1
  have hkp := hKp.2.2.1
  refine kb_aload_n X 0 dX5_kinds_0 rfl rfl ?_
  refine kf_get (v := .ref (an 0)) (C := RX5) (T := TX5) (N := 7) (ci := 5) X kw_iX5 rfl 1 0 0 rfl rfl (by decide) kf_X5_19 rfl rfl dX5_kinds_1 ?_
  refine kb_iload_n X 1 dX5_kinds_4 rfl rfl ?_
  refine kc_Vi X (As := [.int (i)]) (rest := []) (wr := List.flatten [wX g m at_ an ar au ak as_ ao, wT g at_ t, wV g ar u, wPh g au adu 8 sz tp, wVs g adu uvs (List.range 8), wPh g ak adk 2 kz kp, wVs g adk kvs (List.range 2), wS g as_ s, wO g ao ado (oP, oB, oL, oC, oD, oZ, oM), wVs g ado ovs (List.range 7)]) (ct_X4_has l g an v i ) dX5_kinds_5 rfl (kw_pk [wX g m at_ an ar au ak as_ ao, wT g at_ t, wV g an v, wV g ar u, wPh g au adu 8 sz tp, wVs g adu uvs (List.range 8), wPh g ak adk 2 kz kp, wVs g adk kvs (List.range 2), wS g as_ s, wO g ao ado (oP, oB, oL, oC, oD, oZ, oM), wVs g ado ovs (List.range 7)] 2 (Nat.le_of_ble_eq_true rfl)) mc_X4_has kl_X5_97 mi_X4_has mv_X4_has kn_X4 0 rfl rfl rfl (na := 1) (by decide +kernel) rfl ⟨Nat.le_of_ble_eq_true rfl, Nat.le_of_ble_eq_true rfl⟩ ⟨rfl, rfl⟩ ⟨Nat.le_of_ble_eq_true rfl, Nat.le_of_ble_eq_true rfl⟩ (Nat.le_of_ble_eq_true rfl) (fun r_ w_ hp_ => ?_)
  obtain ⟨rfl, rfl⟩ := hp_
  refine kw_perm (ws' := List.flatten [wX g m at_ an ar au ak as_ ao, wT g at_ t, wV g an v, wV g ar u, wPh g au adu 8 sz tp, wVs g adu uvs (List.range 8), wPh g ak adk 2 kz kp, wVs g adk kvs (List.range 2), wS g as_ s, wO g ao ado (oP, oB, oL, oC, oD, oZ, oM), wVs g ado ovs (List.range 7)]) (kw_pk [wX g m at_ an ar au ak as_ ao, wT g at_ t, wV g an v, wV g ar u, wPh g au adu 8 sz tp, wVs g adu uvs (List.range 8), wPh g ak adk 2 kz kp, wVs g adk kvs (List.range 2), wS g as_ s, wO g ao ado (oP, oB, oL, oC, oD, oZ, oM), wVs g ado ovs (List.range 7)] 2 (Nat.le_of_ble_eq_true rfl)).symm ?_
  refine kz_if_ne (b := pin i (vN v)) (tgt := 13) X dX5_kinds_8 (by decide) (fun c1_ => ?_) (fun c1_ => ?_)
  · skip
    obtain ⟨ij, hij, eij, ePi⟩ := pin_j h6 c1_
    refine kw_lv (lv' := [(0, .ref (m)), (1, .int (nI (ij)))]) (by rw [eij]) ?_
    refine kb_aload_n X 0 dX5_kinds_13 rfl rfl ?_
    refine kf_get (v := .ref (as_ 0)) (C := RX5) (T := TX5) (N := 7) (ci := 5) X kw_iX5 rfl 5 0 0 rfl rfl (by decide) kf_X5_41 rfl rfl dX5_kinds_14 ?_
    refine kb_aload_n X 0 dX5_kinds_17 rfl rfl ?_
    refine kf_get (v := .ref (an 0)) (C := RX5) (T := TX5) (N := 7) (ci := 5) X kw_iX5 rfl 1 0 0 rfl rfl (by decide) kf_X5_19 rfl rfl dX5_kinds_18 ?_
    refine kb_iload_n X 1 dX5_kinds_21 rfl rfl ?_
    refine kc_Vi X (As := [.ref (an 0), .int (nI (ij))]) (rest := []) (wr := List.flatten [wX g m at_ an ar au ak as_ ao, wT g at_ t, wV g ar u, wPh g au adu 8 sz tp, wVs g adu uvs (List.range 8), wPh g ak adk 2 kz kp, wVs g adk kvs (List.range 2), wO g ao ado (oP, oB, oL, oC, oD, oZ, oM), wVs g ado ovs (List.range 7)]) (ct_X2_kindsThatFit l g as_ an s v hs hv ij (by omega)) dX5_kinds_22 rfl (kw_pk2 [wX g m at_ an ar au ak as_ ao, wT g at_ t, wV g an v, wV g ar u, wPh g au adu 8 sz tp, wVs g adu uvs (List.range 8), wPh g ak adk 2 kz kp, wVs g adk kvs (List.range 2), wS g as_ s, wO g ao ado (oP, oB, oL, oC, oD, oZ, oM), wVs g ado ovs (List.range 7)] 8 2 (Nat.le_of_ble_eq_true rfl) (Nat.le_of_ble_eq_true rfl)) mc_X2_kindsThatFit kl_X5_222 mi_X2_kindsThatFit mv_X2_kindsThatFit kn_X2 0 rfl rfl rfl (na := 2) (by decide +kernel) rfl ⟨Nat.le_of_ble_eq_true rfl, Nat.le_of_ble_eq_true rfl⟩ ⟨rfl, rfl⟩ ⟨Nat.le_of_ble_eq_true rfl, Nat.le_of_ble_eq_true rfl⟩ (Nat.le_of_ble_eq_true rfl) (fun r_ w_ hp_ => ?_)
    obtain ⟨rfl, rfl⟩ := hp_
    refine kw_perm (ws' := List.flatten [wX g m at_ an ar au ak as_ ao, wT g at_ t, wV g an v, wV g ar u, wPh g au adu 8 sz tp, wVs g adu uvs (List.range 8), wPh g ak adk 2 kz kp, wVs g adk kvs (List.range 2), wS g as_ s, wO g ao ado (oP, oB, oL, oC, oD, oZ, oM), wVs g ado ovs (List.range 7)]) (kw_pk2 [wX g m at_ an ar au ak as_ ao, wT g at_ t, wV g an v, wV g ar u, wPh g au adu 8 sz tp, wVs g adu uvs (List.range 8), wPh g ak adk 2 kz kp, wVs g adk kvs (List.range 2), wS g as_ s, wO g ao ado (oP, oB, oL, oC, oD, oZ, oM), wVs g ado ovs (List.range 7)] 8 2 (Nat.le_of_ble_eq_true rfl) (Nat.le_of_ble_eq_true rfl)).symm ?_
    refine ke_i X Z dX5_kinds_25 ?_
    exact ⟨by simp [oKinds, c1_, ePi], XWp.of hI⟩
  · skip
    refine kb_iconst (v := (-1 : Int32)) X dX5_kinds_11 (by decide) ?_
    refine ke_i X Z dX5_kinds_12 ?_
    exact ⟨by simp [oKinds, c1_], XWp.of hI⟩

set_option maxHeartbeats 4000000 in
set_option maxRecDepth 100000 in
theorem ct_X5_person (l : Launch) (g : kw_G) (m : Nat) (at_ an ar au : Nat → Nat) (adu : Nat → Nat → Nat) (ak : Nat → Nat) (adk : Nat → Nat → Nat) (as_ ao : Nat → Nat) (ado : Nat → Nat → Nat) (t : TS) (v u : VS) (sz tp : Nat) (uvs : Nat → VS) (kz kp : Nat) (kvs : Nat → VS) (s : SS) (oP oB : Nat → Nat) (oL oC : Int32) (oD oZ oM : Nat) (ovs : Nat → VS) (us ks : List VS) (tf : Nat → Nat) (tn : Nat) (hI : XI t sz tp uvs kz kp kvs oB oL oC oD oZ oM ovs v us ks tf tn s) (p wt : Int32) : kMi l g yX5_person cX5_person 3 .int (kw_rm 4 0 0) 0 0 [.ref (m), .int (p), .int (wt)] (List.flatten [wX g m at_ an ar au ak as_ ao, wT g at_ t, wV g an v, wV g ar u, wPh g au adu 8 sz tp, wVs g adu uvs (List.range 8), wPh g ak adk 2 kz kp, wVs g adk kvs (List.range 2), wS g as_ s, wO g ao ado (oP, oB, oL, oC, oD, oZ, oM), wVs g ado ovs (List.range 7)]) (fun r w => r = oPerson v p wt ∧ XWp g m at_ an ar au adu ak adk as_ ao ado v us ks tf tn s w) := by
  refine kMi_of (by decide +kernel) (Nat.le_of_ble_eq_true rfl) (fun x (X : kX l g RX5 cX5_person 3 (kw_rm 4 0 0) x) (Z : kZi .int _ 0 0 x) => ?_)
  show kW x 0 0 0 [(0, .ref (m)), (1, .int (p)), (2, .int (wt))] [] (List.flatten [wX g m at_ an ar au ak as_ ao, wT g at_ t, wV g an v, wV g ar u, wPh g au adu 8 sz tp, wVs g adu uvs (List.range 8), wPh g ak adk 2 kz kp, wVs g adk kvs (List.range 2), wS g as_ s, wO g ao ado (oP, oB, oL, oC, oD, oZ, oM), wVs g ado ovs (List.range 7)])
  obtain ⟨hG, hU, hKp, hT_, hs, hO⟩ := id hI
  have hv := hG.1
  have hT := hG.2.1
  have hN0 := hG.2.2.2
  have h6 := hv.1
  have hx64 := hv.2.1
  have hh64 := hv.2.2
  obtain ⟨ht, etn, htx⟩ := id hT_
  have hs1 := hs.1
  have hus := hU.1
  have hsz := hU.2.1
  have htp := hU.2.2.1
  have hks := hKp.1
  have hkz := hKp.2.1
  have hkp := hKp.2.2.1
  refine kb_aload_n X 0 dX5_person_0 rfl rfl ?_
  refine kf_get (v := .ref (an 0)) (C := RX5) (T := TX5) (N := 7) (ci := 5) X kw_iX5 rfl 1 0 0 rfl rfl (by decide) kf_X5_19 rfl rfl dX5_person_1 ?_
  refine kb_iload_n X 1 dX5_person_4 rfl rfl ?_
  refine kc_Vi X (As := [.int (p)]) (rest := []) (wr := List.flatten [wX g m at_ an ar au ak as_ ao, wT g at_ t, wV g ar u, wPh g au adu 8 sz tp, wVs g adu uvs (List.range 8), wPh g ak adk 2 kz kp, wVs g adk kvs (List.range 2), wS g as_ s, wO g ao ado (oP, oB, oL, oC, oD, oZ, oM), wVs g ado ovs (List.range 7)]) (ct_X4_has l g an v p ) dX5_person_5 rfl (kw_pk [wX g m at_ an ar au ak as_ ao, wT g at_ t, wV g an v, wV g ar u, wPh g au adu 8 sz tp, wVs g adu uvs (List.range 8), wPh g ak adk 2 kz kp, wVs g adk kvs (List.range 2), wS g as_ s, wO g ao ado (oP, oB, oL, oC, oD, oZ, oM), wVs g ado ovs (List.range 7)] 2 (Nat.le_of_ble_eq_true rfl)) mc_X4_has kl_X5_97 mi_X4_has mv_X4_has kn_X4 0 rfl rfl rfl (na := 1) (by decide +kernel) rfl ⟨Nat.le_of_ble_eq_true rfl, Nat.le_of_ble_eq_true rfl⟩ ⟨rfl, rfl⟩ ⟨Nat.le_of_ble_eq_true rfl, Nat.le_of_ble_eq_true rfl⟩ (Nat.le_of_ble_eq_true rfl) (fun r_ w_ hp_ => ?_)
  obtain ⟨rfl, rfl⟩ := hp_
  refine kw_perm (ws' := List.flatten [wX g m at_ an ar au ak as_ ao, wT g at_ t, wV g an v, wV g ar u, wPh g au adu 8 sz tp, wVs g adu uvs (List.range 8), wPh g ak adk 2 kz kp, wVs g adk kvs (List.range 2), wS g as_ s, wO g ao ado (oP, oB, oL, oC, oD, oZ, oM), wVs g ado ovs (List.range 7)]) (kw_pk [wX g m at_ an ar au ak as_ ao, wT g at_ t, wV g an v, wV g ar u, wPh g au adu 8 sz tp, wVs g adu uvs (List.range 8), wPh g ak adk 2 kz kp, wVs g adk kvs (List.range 2), wS g as_ s, wO g ao ado (oP, oB, oL, oC, oD, oZ, oM), wVs g ado ovs (List.range 7)] 2 (Nat.le_of_ble_eq_true rfl)).symm ?_
  refine kz_if_eq (b := pin p (vN v)) (tgt := 20) X dX5_person_8 (by decide) (fun c1_ => ?_) (fun c1_ => ?_)
  · skip
    refine kb_iconst (v := (-1 : Int32)) X dX5_person_20 (by decide) ?_
    refine ke_i X Z dX5_person_21 ?_
    exact ⟨by simp [oPerson, c1_, (by decide : inr 0 0 5 = true), (by decide : inr 1 0 5 = true), (by decide : inr 2 0 5 = true), (by decide : inr 3 0 5 = true), (by decide : inr 4 0 5 = true), zI_t, zI_f], XWp.of hI⟩
  · skip
    obtain ⟨pj, hpj, epj, ePp⟩ := pin_j h6 c1_
    refine kb_iload_n X 2 dX5_person_11 rfl rfl ?_
    refine kb_iconst (v := (0 : Int32)) X dX5_person_12 (by decide) ?_
    refine kb_iconst (v := (5 : Int32)) X dX5_person_13 (by decide) ?_
    refine kc_Si X (As := [.int (wt), .int 0, .int 5]) (rest := []) (wr := (List.flatten [wX g m at_ an ar au ak as_ ao, wT g at_ t, wV g an v, wV g ar u, wPh g au adu 8 sz tp, wVs g adu uvs (List.range 8), wPh g ak adk 2 kz kp, wVs g adk kvs (List.range 2), wS g as_ s, wO g ao ado (oP, oB, oL, oC, oD, oZ, oM), wVs g ado ovs (List.range 7)])) (ct_X5_within l g wt (0 : Int32) (5 : Int32) ) dX5_person_14 rfl (List.Perm.refl _) mc_X5_within kl_X5_75 ms_X5_within kn_X5 (na := 3) (by decide +kernel) rfl ⟨Nat.le_of_ble_eq_true rfl, Nat.le_of_ble_eq_true rfl⟩ ⟨rfl, rfl⟩ ⟨Nat.le_of_ble_eq_true rfl, Nat.le_of_ble_eq_true rfl⟩ (Nat.le_of_ble_eq_true rfl) (fun r_ w_ hp_ => ?_)
    obtain ⟨rfl, rfl⟩ := hp_
    refine kw_ws (List.nil_append _) ?_
    refine kz_if_ne (b := inr wt (0 : Int32) (5 : Int32)) (tgt := 22) X dX5_person_17 (by decide) (fun c2_ => ?_) (fun c2_ => ?_)
    · skip
      refine kw_lv (lv' := [(0, .ref (m)), (1, .int (nI (pj))), (2, .int (wt))]) (by rw [epj]) ?_
      refine kb_iload_n X 2 dX5_person_22 rfl rfl ?_
      by_cases c3_ : wt = (0 : Int32)
      · refine kb_tabIn (tgt := 56) X 0 dX5_person_23 (by rw [c3_]; rfl) (by decide) rfl (by decide) ?_
        refine kb_aload_n X 0 dX5_person_56 rfl rfl ?_
        refine kf_get (v := .ref (an 0)) (C := RX5) (T := TX5) (N := 7) (ci := 5) X kw_iX5 rfl 1 0 0 rfl rfl (by decide) kf_X5_19 rfl rfl dX5_person_57 ?_
        refine kf_get (v := .ref (an 1)) (C := RX4) (T := TX4) (N := 11) (ci := 4) X kw_iX4 rfl 0 2 0 rfl rfl (by decide) kf_X5_101 rfl rfl dX5_person_60 ?_
        refine kb_iload_n X 1 dX5_person_63 rfl rfl ?_
        refine kf_iald (j := pj) X 2 1 rfl rfl (by omega) (by decide) dX5_person_64 ?_
        refine ke_i X Z dX5_person_65 ?_
        exact ⟨by simp [oPerson, c1_, c2_, ePp, c3_, (by decide : inr 0 0 5 = true), (by decide : inr 1 0 5 = true), (by decide : inr 2 0 5 = true), (by decide : inr 3 0 5 = true), (by decide : inr 4 0 5 = true), zI_t, zI_f], XWp.of hI⟩
      · skip
        by_cases c4_ : wt = (1 : Int32)
        · refine kb_tabIn (tgt := 66) X 1 dX5_person_23 (by rw [c4_]; rfl) (by decide) rfl (by decide) ?_
          refine kb_aload_n X 0 dX5_person_66 rfl rfl ?_
          refine kf_get (v := .ref (an 0)) (C := RX5) (T := TX5) (N := 7) (ci := 5) X kw_iX5 rfl 1 0 0 rfl rfl (by decide) kf_X5_19 rfl rfl dX5_person_67 ?_
          refine kb_iload_n X 1 dX5_person_70 rfl rfl ?_
          refine kc_Vi X (As := [.int (nI (pj))]) (rest := []) (wr := List.flatten [wX g m at_ an ar au ak as_ ao, wT g at_ t, wV g ar u, wPh g au adu 8 sz tp, wVs g adu uvs (List.range 8), wPh g ak adk 2 kz kp, wVs g adk kvs (List.range 2), wS g as_ s, wO g ao ado (oP, oB, oL, oC, oD, oZ, oM), wVs g ado ovs (List.range 7)]) (ct_X4_ageOf l g an v pj (by omega)) dX5_person_71 rfl (kw_pk [wX g m at_ an ar au ak as_ ao, wT g at_ t, wV g an v, wV g ar u, wPh g au adu 8 sz tp, wVs g adu uvs (List.range 8), wPh g ak adk 2 kz kp, wVs g adk kvs (List.range 2), wS g as_ s, wO g ao ado (oP, oB, oL, oC, oD, oZ, oM), wVs g ado ovs (List.range 7)] 2 (Nat.le_of_ble_eq_true rfl)) mc_X4_ageOf kl_X5_105 mi_X4_ageOf mv_X4_ageOf kn_X4 0 rfl rfl rfl (na := 1) (by decide +kernel) rfl ⟨Nat.le_of_ble_eq_true rfl, Nat.le_of_ble_eq_true rfl⟩ ⟨rfl, rfl⟩ ⟨Nat.le_of_ble_eq_true rfl, Nat.le_of_ble_eq_true rfl⟩ (Nat.le_of_ble_eq_true rfl) (fun r_ w_ hp_ => ?_)
          obtain ⟨rfl, rfl⟩ := hp_
          refine kw_perm (ws' := List.flatten [wX g m at_ an ar au ak as_ ao, wT g at_ t, wV g an v, wV g ar u, wPh g au adu 8 sz tp, wVs g adu uvs (List.range 8), wPh g ak adk 2 kz kp, wVs g adk kvs (List.range 2), wS g as_ s, wO g ao ado (oP, oB, oL, oC, oD, oZ, oM), wVs g ado ovs (List.range 7)]) (kw_pk [wX g m at_ an ar au ak as_ ao, wT g at_ t, wV g an v, wV g ar u, wPh g au adu 8 sz tp, wVs g adu uvs (List.range 8), wPh g ak adk 2 kz kp, wVs g adk kvs (List.range 2), wS g as_ s, wO g ao ado (oP, oB, oL, oC, oD, oZ, oM), wVs g ado ovs (List.range 7)] 2 (Nat.le_of_ble_eq_true rfl)).symm ?_
          refine ke_i X Z dX5_person_74 ?_
          exact ⟨by simp [oPerson, c1_, c2_, ePp, c3_, c4_, (by decide : inr 0 0 5 = true), (by decide : inr 1 0 5 = true), (by decide : inr 2 0 5 = true), (by decide : inr 3 0 5 = true), (by decide : inr 4 0 5 = true), zI_t, zI_f], XWp.of hI⟩
        · skip
          by_cases c5_ : wt = (2 : Int32)
          · refine kb_tabIn (tgt := 75) X 2 dX5_person_23 (by rw [c5_]; rfl) (by decide) rfl (by decide) ?_
            refine kb_aload_n X 0 dX5_person_75 rfl rfl ?_
            refine kf_get (v := .ref (an 0)) (C := RX5) (T := TX5) (N := 7) (ci := 5) X kw_iX5 rfl 1 0 0 rfl rfl (by decide) kf_X5_19 rfl rfl dX5_person_76 ?_
            refine kf_get (v := .ref (an 3)) (C := RX4) (T := TX4) (N := 11) (ci := 4) X kw_iX4 rfl 2 2 0 rfl rfl (by decide) kf_X5_109 rfl rfl dX5_person_79 ?_
            refine kb_iload_n X 1 dX5_person_82 rfl rfl ?_
            refine kf_iald (j := pj) X 2 3 rfl rfl (by omega) (by decide) dX5_person_83 ?_
            refine ke_i X Z dX5_person_84 ?_
            exact ⟨by simp [oPerson, c1_, c2_, ePp, c3_, c4_, c5_, (by decide : inr 0 0 5 = true), (by decide : inr 1 0 5 = true), (by decide : inr 2 0 5 = true), (by decide : inr 3 0 5 = true), (by decide : inr 4 0 5 = true), zI_t, zI_f], XWp.of hI⟩
          · skip
            by_cases c6_ : wt = (3 : Int32)
            · refine kb_tabIn (tgt := 85) X 3 dX5_person_23 (by rw [c6_]; rfl) (by decide) rfl (by decide) ?_
              refine kb_aload_n X 0 dX5_person_85 rfl rfl ?_
              refine kf_get (v := .ref (an 0)) (C := RX5) (T := TX5) (N := 7) (ci := 5) X kw_iX5 rfl 1 0 0 rfl rfl (by decide) kf_X5_19 rfl rfl dX5_person_86 ?_
              refine kb_iload_n X 1 dX5_person_89 rfl rfl ?_
              refine kc_Vi X (As := [.int (nI (pj))]) (rest := []) (wr := List.flatten [wX g m at_ an ar au ak as_ ao, wT g at_ t, wV g ar u, wPh g au adu 8 sz tp, wVs g adu uvs (List.range 8), wPh g ak adk 2 kz kp, wVs g adk kvs (List.range 2), wS g as_ s, wO g ao ado (oP, oB, oL, oC, oD, oZ, oM), wVs g ado ovs (List.range 7)]) (ct_X4_lives l g an v hv pj (by omega)) dX5_person_90 rfl (kw_pk [wX g m at_ an ar au ak as_ ao, wT g at_ t, wV g an v, wV g ar u, wPh g au adu 8 sz tp, wVs g adu uvs (List.range 8), wPh g ak adk 2 kz kp, wVs g adk kvs (List.range 2), wS g as_ s, wO g ao ado (oP, oB, oL, oC, oD, oZ, oM), wVs g ado ovs (List.range 7)] 2 (Nat.le_of_ble_eq_true rfl)) mc_X4_lives kl_X5_112 mi_X4_lives mv_X4_lives kn_X4 0 rfl rfl rfl (na := 1) (by decide +kernel) rfl ⟨Nat.le_of_ble_eq_true rfl, Nat.le_of_ble_eq_true rfl⟩ ⟨rfl, rfl⟩ ⟨Nat.le_of_ble_eq_true rfl, Nat.le_of_ble_eq_true rfl⟩ (Nat.le_of_ble_eq_true rfl) (fun r_ w_ hp_ => ?_)
              obtain ⟨rfl, rfl⟩ := hp_
              refine kw_perm (ws' := List.flatten [wX g m at_ an ar au ak as_ ao, wT g at_ t, wV g an v, wV g ar u, wPh g au adu 8 sz tp, wVs g adu uvs (List.range 8), wPh g ak adk 2 kz kp, wVs g adk kvs (List.range 2), wS g as_ s, wO g ao ado (oP, oB, oL, oC, oD, oZ, oM), wVs g ado ovs (List.range 7)]) (kw_pk [wX g m at_ an ar au ak as_ ao, wT g at_ t, wV g an v, wV g ar u, wPh g au adu 8 sz tp, wVs g adu uvs (List.range 8), wPh g ak adk 2 kz kp, wVs g adk kvs (List.range 2), wS g as_ s, wO g ao ado (oP, oB, oL, oC, oD, oZ, oM), wVs g ado ovs (List.range 7)] 2 (Nat.le_of_ble_eq_true rfl)).symm ?_
              refine kz_if_eq (b := wLives v pj) (tgt := 100) X dX5_person_93 (by decide) (fun c7_ => ?_) (fun c7_ => ?_)
              · skip
                have hx_ : (vX v).testBit pj = true := by simpa [wLives] using c7_
                refine kb_iconst (v := (1 : Int32)) X dX5_person_100 (by decide) ?_
                refine ke_i X Z dX5_person_101 ?_
                exact ⟨by simp [oPerson, c1_, c2_, ePp, c3_, c4_, c5_, c6_, c7_, hx_, (by decide : inr 0 0 5 = true), (by decide : inr 1 0 5 = true), (by decide : inr 2 0 5 = true), (by decide : inr 3 0 5 = true), (by decide : inr 4 0 5 = true), zI_t, zI_f], XWp.of hI⟩
              · skip
                have hx_ : (vX v).testBit pj = false := by simpa [wLives] using c7_
                refine kb_iconst (v := (0 : Int32)) X dX5_person_96 (by decide) ?_
                refine kb_goto (tgt := 101) X dX5_person_97 (by decide) ?_
                refine ke_i X Z dX5_person_101 ?_
                exact ⟨by simp [oPerson, c1_, c2_, ePp, c3_, c4_, c5_, c6_, c7_, hx_, (by decide : inr 0 0 5 = true), (by decide : inr 1 0 5 = true), (by decide : inr 2 0 5 = true), (by decide : inr 3 0 5 = true), (by decide : inr 4 0 5 = true), zI_t, zI_f], XWp.of hI⟩
            · skip
              by_cases c8_ : wt = (4 : Int32)
              · refine kb_tabIn (tgt := 102) X 4 dX5_person_23 (by rw [c8_]; rfl) (by decide) rfl (by decide) ?_
                refine kb_aload_n X 0 dX5_person_102 rfl rfl ?_
                refine kf_get (v := .ref (an 0)) (C := RX5) (T := TX5) (N := 7) (ci := 5) X kw_iX5 rfl 1 0 0 rfl rfl (by decide) kf_X5_19 rfl rfl dX5_person_103 ?_
                refine kb_iload_n X 1 dX5_person_106 rfl rfl ?_
                refine kc_Vi X (As := [.int (nI (pj))]) (rest := []) (wr := List.flatten [wX g m at_ an ar au ak as_ ao, wT g at_ t, wV g ar u, wPh g au adu 8 sz tp, wVs g adu uvs (List.range 8), wPh g ak adk 2 kz kp, wVs g adk kvs (List.range 2), wS g as_ s, wO g ao ado (oP, oB, oL, oC, oD, oZ, oM), wVs g ado ovs (List.range 7)]) (ct_X4_hadTrial l g an v hv pj (by omega)) dX5_person_107 rfl (kw_pk [wX g m at_ an ar au ak as_ ao, wT g at_ t, wV g an v, wV g ar u, wPh g au adu 8 sz tp, wVs g adu uvs (List.range 8), wPh g ak adk 2 kz kp, wVs g adk kvs (List.range 2), wS g as_ s, wO g ao ado (oP, oB, oL, oC, oD, oZ, oM), wVs g ado ovs (List.range 7)] 2 (Nat.le_of_ble_eq_true rfl)) mc_X4_hadTrial kl_X5_115 mi_X4_hadTrial mv_X4_hadTrial kn_X4 0 rfl rfl rfl (na := 1) (by decide +kernel) rfl ⟨Nat.le_of_ble_eq_true rfl, Nat.le_of_ble_eq_true rfl⟩ ⟨rfl, rfl⟩ ⟨Nat.le_of_ble_eq_true rfl, Nat.le_of_ble_eq_true rfl⟩ (Nat.le_of_ble_eq_true rfl) (fun r_ w_ hp_ => ?_)
                obtain ⟨rfl, rfl⟩ := hp_
                refine kw_perm (ws' := List.flatten [wX g m at_ an ar au ak as_ ao, wT g at_ t, wV g an v, wV g ar u, wPh g au adu 8 sz tp, wVs g adu uvs (List.range 8), wPh g ak adk 2 kz kp, wVs g adk kvs (List.range 2), wS g as_ s, wO g ao ado (oP, oB, oL, oC, oD, oZ, oM), wVs g ado ovs (List.range 7)]) (kw_pk [wX g m at_ an ar au ak as_ ao, wT g at_ t, wV g an v, wV g ar u, wPh g au adu 8 sz tp, wVs g adu uvs (List.range 8), wPh g ak adk 2 kz kp, wVs g adk kvs (List.range 2), wS g as_ s, wO g ao ado (oP, oB, oL, oC, oD, oZ, oM), wVs g ado ovs (List.range 7)] 2 (Nat.le_of_ble_eq_true rfl)).symm ?_
                refine kz_if_eq (b := Nat.testBit (vH v) pj) (tgt := 117) X dX5_person_110 (by decide) (fun c9_ => ?_) (fun c9_ => ?_)
                · skip
                  refine kb_iconst (v := (0 : Int32)) X dX5_person_117 (by decide) ?_
                  refine ke_i X Z dX5_person_118 ?_
                  exact ⟨by simp [oPerson, c1_, c2_, ePp, c3_, c4_, c5_, c6_, c8_, c9_, (by decide : inr 0 0 5 = true), (by decide : inr 1 0 5 = true), (by decide : inr 2 0 5 = true), (by decide : inr 3 0 5 = true), (by decide : inr 4 0 5 = true), zI_t, zI_f], XWp.of hI⟩
                · skip
                  refine kb_iconst (v := (1 : Int32)) X dX5_person_113 (by decide) ?_
                  refine kb_goto (tgt := 118) X dX5_person_114 (by decide) ?_
                  refine ke_i X Z dX5_person_118 ?_
                  exact ⟨by simp [oPerson, c1_, c2_, ePp, c3_, c4_, c5_, c6_, c8_, c9_, (by decide : inr 0 0 5 = true), (by decide : inr 1 0 5 = true), (by decide : inr 2 0 5 = true), (by decide : inr 3 0 5 = true), (by decide : inr 4 0 5 = true), zI_t, zI_f], XWp.of hI⟩
              · skip
                have tc3_ := lv_neT (a := 0) c3_ rfl
                have tc4_ := lv_neT (a := 1) c4_ rfl
                have tc5_ := lv_neT (a := 2) c5_ rfl
                have tc6_ := lv_neT (a := 3) c6_ rfl
                have tc8_ := lv_neT (a := 4) c8_ rfl
                refine kb_tabOut (tgt := 119) X dX5_person_23 (by omega) (by decide) ?_
                refine kb_aload_n X 0 dX5_person_119 rfl rfl ?_
                refine kf_get (v := .ref (an 0)) (C := RX5) (T := TX5) (N := 7) (ci := 5) X kw_iX5 rfl 1 0 0 rfl rfl (by decide) kf_X5_19 rfl rfl dX5_person_120 ?_
                refine kb_iload_n X 1 dX5_person_123 rfl rfl ?_
                refine kc_Vi X (As := [.int (nI (pj))]) (rest := []) (wr := List.flatten [wX g m at_ an ar au ak as_ ao, wT g at_ t, wV g ar u, wPh g au adu 8 sz tp, wVs g adu uvs (List.range 8), wPh g ak adk 2 kz kp, wVs g adk kvs (List.range 2), wS g as_ s, wO g ao ado (oP, oB, oL, oC, oD, oZ, oM), wVs g ado ovs (List.range 7)]) (ct_X4_lives l g an v hv pj (by omega)) dX5_person_124 rfl (kw_pk [wX g m at_ an ar au ak as_ ao, wT g at_ t, wV g an v, wV g ar u, wPh g au adu 8 sz tp, wVs g adu uvs (List.range 8), wPh g ak adk 2 kz kp, wVs g adk kvs (List.range 2), wS g as_ s, wO g ao ado (oP, oB, oL, oC, oD, oZ, oM), wVs g ado ovs (List.range 7)] 2 (Nat.le_of_ble_eq_true rfl)) mc_X4_lives kl_X5_112 mi_X4_lives mv_X4_lives kn_X4 0 rfl rfl rfl (na := 1) (by decide +kernel) rfl ⟨Nat.le_of_ble_eq_true rfl, Nat.le_of_ble_eq_true rfl⟩ ⟨rfl, rfl⟩ ⟨Nat.le_of_ble_eq_true rfl, Nat.le_of_ble_eq_true rfl⟩ (Nat.le_of_ble_eq_true rfl) (fun r_ w_ hp_ => ?_)
                obtain ⟨rfl, rfl⟩ := hp_
                refine kw_perm (ws' := List.flatten [wX g m at_ an ar au ak as_ ao, wT g at_ t, wV g an v, wV g ar u, wPh g au adu 8 sz tp, wVs g adu uvs (List.range 8), wPh g ak adk 2 kz kp, wVs g adk kvs (List.range 2), wS g as_ s, wO g ao ado (oP, oB, oL, oC, oD, oZ, oM), wVs g ado ovs (List.range 7)]) (kw_pk [wX g m at_ an ar au ak as_ ao, wT g at_ t, wV g an v, wV g ar u, wPh g au adu 8 sz tp, wVs g adu uvs (List.range 8), wPh g ak adk 2 kz kp, wVs g adk kvs (List.range 2), wS g as_ s, wO g ao ado (oP, oB, oL, oC, oD, oZ, oM), wVs g ado ovs (List.range 7)] 2 (Nat.le_of_ble_eq_true rfl)).symm ?_
                refine kz_if_eq (b := wLives v pj) (tgt := 141) X dX5_person_127 (by decide) (fun c10_ => ?_) (fun c10_ => ?_)
                · skip
                  refine kb_bipush (v := (-4 : Int32)) X dX5_person_141 (by decide) ?_
                  refine ke_i X Z dX5_person_143 ?_
                  exact ⟨by simp [oPerson, c1_, c2_, ePp, c3_, c4_, c5_, c6_, c8_, c10_, (by decide : inr 0 0 5 = true), (by decide : inr 1 0 5 = true), (by decide : inr 2 0 5 = true), (by decide : inr 3 0 5 = true), (by decide : inr 4 0 5 = true), zI_t, zI_f], XWp.of hI⟩
                · skip
                  refine kb_aload_n X 0 dX5_person_130 rfl rfl ?_
                  refine kf_get (v := .ref (an 0)) (C := RX5) (T := TX5) (N := 7) (ci := 5) X kw_iX5 rfl 1 0 0 rfl rfl (by decide) kf_X5_19 rfl rfl dX5_person_131 ?_
                  refine kb_iload_n X 1 dX5_person_134 rfl rfl ?_
                  refine kc_Vi X (As := [.int (nI (pj))]) (rest := []) (wr := List.flatten [wX g m at_ an ar au ak as_ ao, wT g at_ t, wV g ar u, wPh g au adu 8 sz tp, wVs g adu uvs (List.range 8), wPh g ak adk 2 kz kp, wVs g adk kvs (List.range 2), wS g as_ s, wO g ao ado (oP, oB, oL, oC, oD, oZ, oM), wVs g ado ovs (List.range 7)]) (ct_X4_heirOf l g an v hv pj (by omega)) dX5_person_135 rfl (kw_pk [wX g m at_ an ar au ak as_ ao, wT g at_ t, wV g an v, wV g ar u, wPh g au adu 8 sz tp, wVs g adu uvs (List.range 8), wPh g ak adk 2 kz kp, wVs g adk kvs (List.range 2), wS g as_ s, wO g ao ado (oP, oB, oL, oC, oD, oZ, oM), wVs g ado ovs (List.range 7)] 2 (Nat.le_of_ble_eq_true rfl)) mc_X4_heirOf kl_X5_118 mi_X4_heirOf mv_X4_heirOf kn_X4 0 rfl rfl rfl (na := 1) (by decide +kernel) rfl ⟨Nat.le_of_ble_eq_true rfl, Nat.le_of_ble_eq_true rfl⟩ ⟨rfl, rfl⟩ ⟨Nat.le_of_ble_eq_true rfl, Nat.le_of_ble_eq_true rfl⟩ (Nat.le_of_ble_eq_true rfl) (fun r_ w_ hp_ => ?_)
                  obtain ⟨rfl, rfl⟩ := hp_
                  refine kw_perm (ws' := List.flatten [wX g m at_ an ar au ak as_ ao, wT g at_ t, wV g an v, wV g ar u, wPh g au adu 8 sz tp, wVs g adu uvs (List.range 8), wPh g ak adk 2 kz kp, wVs g adk kvs (List.range 2), wS g as_ s, wO g ao ado (oP, oB, oL, oC, oD, oZ, oM), wVs g ado ovs (List.range 7)]) (kw_pk [wX g m at_ an ar au ak as_ ao, wT g at_ t, wV g an v, wV g ar u, wPh g au adu 8 sz tp, wVs g adu uvs (List.range 8), wPh g ak adk 2 kz kp, wVs g adk kvs (List.range 2), wS g as_ s, wO g ao ado (oP, oB, oL, oC, oD, oZ, oM), wVs g ado ovs (List.range 7)] 2 (Nat.le_of_ble_eq_true rfl)).symm ?_
                  refine kb_goto (tgt := 143) X dX5_person_138 (by decide) ?_
                  refine ke_i X Z dX5_person_143 ?_
                  exact ⟨by simp [oPerson, c1_, c2_, ePp, c3_, c4_, c5_, c6_, c8_, c10_, (by decide : inr 0 0 5 = true), (by decide : inr 1 0 5 = true), (by decide : inr 2 0 5 = true), (by decide : inr 3 0 5 = true), (by decide : inr 4 0 5 = true), zI_t, zI_f], XWp.of hI⟩
    · skip
      refine kb_iconst (v := (-1 : Int32)) X dX5_person_20 (by decide) ?_
      refine ke_i X Z dX5_person_21 ?_
      exact ⟨by simp [oPerson, c1_, c2_, (by decide : inr 0 0 5 = true), (by decide : inr 1 0 5 = true), (by decide : inr 2 0 5 = true), (by decide : inr 3 0 5 = true), (by decide : inr 4 0 5 = true), zI_t, zI_f], XWp.of hI⟩

set_option maxHeartbeats 4000000 in
set_option maxRecDepth 100000 in
theorem ct_X5_count (l : Launch) (g : kw_G) (m : Nat) (at_ an ar au : Nat → Nat) (adu : Nat → Nat → Nat) (ak : Nat → Nat) (adk : Nat → Nat → Nat) (as_ ao : Nat → Nat) (ado : Nat → Nat → Nat) (t : TS) (v u : VS) (sz tp : Nat) (uvs : Nat → VS) (kz kp : Nat) (kvs : Nat → VS) (s : SS) (oP oB : Nat → Nat) (oL oC : Int32) (oD oZ oM : Nat) (ovs : Nat → VS) (us ks : List VS) (tf : Nat → Nat) (tn : Nat) (hI : XI t sz tp uvs kz kp kvs oB oL oC oD oZ oM ovs v us ks tf tn s) (mt : Int32) : kMi l g yX5_count cX5_count 2 .int (kw_rm 2 0 0) 0 0 [.ref (m), .int (mt)] (List.flatten [wX g m at_ an ar au ak as_ ao, wT g at_ t, wV g an v, wV g ar u, wPh g au adu 8 sz tp, wVs g adu uvs (List.range 8), wPh g ak adk 2 kz kp, wVs g adk kvs (List.range 2), wS g as_ s, wO g ao ado (oP, oB, oL, oC, oD, oZ, oM), wVs g ado ovs (List.range 7)]) (fun r w => r = oCount v us ks tn s mt ∧ XWp g m at_ an ar au adu ak adk as_ ao ado v us ks tf tn s w) := by
  refine kMi_of (by decide +kernel) (Nat.le_of_ble_eq_true rfl) (fun x (X : kX l g RX5 cX5_count 2 (kw_rm 2 0 0) x) (Z : kZi .int _ 0 0 x) => ?_)
  show kW x 0 0 0 [(0, .ref (m)), (1, .int (mt))] [] (List.flatten [wX g m at_ an ar au ak as_ ao, wT g at_ t, wV g an v, wV g ar u, wPh g au adu 8 sz tp, wVs g adu uvs (List.range 8), wPh g ak adk 2 kz kp, wVs g adk kvs (List.range 2), wS g as_ s, wO g ao ado (oP, oB, oL, oC, oD, oZ, oM), wVs g ado ovs (List.range 7)])
  obtain ⟨hG, hU, hKp, hT_, hs, hO⟩ := id hI
  have hv := hG.1
  have hT := hG.2.1
  have hN0 := hG.2.2.2
  have h6 := hv.1
  have hx64 := hv.2.1
  have hh64 := hv.2.2
  obtain ⟨ht, etn, htx⟩ := id hT_
  have hs1 := hs.1
  have hus := hU.1
  have hsz := hU.2.1
  have htp := hU.2.2.1
  have hks := hKp.1
  have hkz := hKp.2.1
  have hkp := hKp.2.2.1
  refine kb_iload_n X 1 dX5_count_0 rfl rfl ?_
  by_cases c1_ : mt = (0 : Int32)
  · refine kb_tabIn (tgt := 60) X 0 dX5_count_1 (by rw [c1_]; rfl) (by decide) rfl (by decide) ?_
    refine kb_aload_n X 0 dX5_count_60 rfl rfl ?_
    refine kf_get (v := .ref (an 0)) (C := RX5) (T := TX5) (N := 7) (ci := 5) X kw_iX5 rfl 1 0 0 rfl rfl (by decide) kf_X5_19 rfl rfl dX5_count_61 ?_
    refine kf_get (v := .int (nI (vN v))) (C := RX4) (T := TX4) (N := 11) (ci := 4) X kw_iX4 rfl 5 2 0 rfl rfl (by decide) kf_X5_86 rfl rfl dX5_count_64 ?_
    refine ke_i X Z dX5_count_67 ?_
    exact ⟨by simp [oCount, hus, hks, etn, c1_], XWp.of hI⟩
  · skip
    by_cases c2_ : mt = (1 : Int32)
    · refine kb_tabIn (tgt := 68) X 1 dX5_count_1 (by rw [c2_]; rfl) (by decide) rfl (by decide) ?_
      refine kb_aload_n X 0 dX5_count_68 rfl rfl ?_
      refine kf_get (v := .ref (an 0)) (C := RX5) (T := TX5) (N := 7) (ci := 5) X kw_iX5 rfl 1 0 0 rfl rfl (by decide) kf_X5_19 rfl rfl dX5_count_69 ?_
      refine kf_get (v := .int (nI (vN v))) (C := RX4) (T := TX4) (N := 11) (ci := 4) X kw_iX4 rfl 5 2 0 rfl rfl (by decide) kf_X5_86 rfl rfl dX5_count_72 ?_
      refine kb_aload_n X 0 dX5_count_75 rfl rfl ?_
      refine kf_get (v := .ref (an 0)) (C := RX5) (T := TX5) (N := 7) (ci := 5) X kw_iX5 rfl 1 0 0 rfl rfl (by decide) kf_X5_19 rfl rfl dX5_count_76 ?_
      refine kf_get (v := .int (nI (vX v))) (C := RX4) (T := TX4) (N := 11) (ci := 4) X kw_iX4 rfl 7 2 0 rfl rfl (by decide) kf_X5_244 rfl rfl dX5_count_79 ?_
      refine kc_Si X (As := [.int (nI (vX v))]) (rest := [.int (nI (vN v))]) (wr := (List.flatten [wX g m at_ an ar au ak as_ ao, wT g at_ t, wV g an v, wV g ar u, wPh g au adu 8 sz tp, wVs g adu uvs (List.range 8), wPh g ak adk 2 kz kp, wVs g adk kvs (List.range 2), wS g as_ s, wO g ao ado (oP, oB, oL, oC, oD, oZ, oM), wVs g ado ovs (List.range 7)])) (ct_J6_bitCount_0f7a4 l g (vX v) (by omega)) dX5_count_82 rfl (List.Perm.refl _) mc_J6_bitCount_0f7a4 kl_X5_171 ms_J6_bitCount_0f7a4 kn_J6 (na := 1) (by decide +kernel) rfl ⟨Nat.le_of_ble_eq_true rfl, Nat.le_of_ble_eq_true rfl⟩ ⟨rfl, rfl⟩ ⟨Nat.le_of_ble_eq_true rfl, Nat.le_of_ble_eq_true rfl⟩ (Nat.le_of_ble_eq_true rfl) (fun r_ w_ hp_ => ?_)
      obtain ⟨rfl, rfl⟩ := hp_
      refine kw_ws (List.nil_append _) ?_
      refine kb_isub X dX5_count_85 ?_
      refine ke_i X Z dX5_count_86 ?_
      exact ⟨by simp [oCount, hus, hks, etn, c1_, c2_], XWp.of hI⟩
    · skip
      by_cases c3_ : mt = (2 : Int32)
      · refine kb_tabIn (tgt := 87) X 2 dX5_count_1 (by rw [c3_]; rfl) (by decide) rfl (by decide) ?_
        refine kb_aload_n X 0 dX5_count_87 rfl rfl ?_
        refine kf_get (v := .ref (an 0)) (C := RX5) (T := TX5) (N := 7) (ci := 5) X kw_iX5 rfl 1 0 0 rfl rfl (by decide) kf_X5_19 rfl rfl dX5_count_88 ?_
        refine kf_get (v := .int (nI (vH v))) (C := RX4) (T := TX4) (N := 11) (ci := 4) X kw_iX4 rfl 8 2 0 rfl rfl (by decide) kf_X5_247 rfl rfl dX5_count_91 ?_
        refine kc_Si X (As := [.int (nI (vH v))]) (rest := []) (wr := (List.flatten [wX g m at_ an ar au ak as_ ao, wT g at_ t, wV g an v, wV g ar u, wPh g au adu 8 sz tp, wVs g adu uvs (List.range 8), wPh g ak adk 2 kz kp, wVs g adk kvs (List.range 2), wS g as_ s, wO g ao ado (oP, oB, oL, oC, oD, oZ, oM), wVs g ado ovs (List.range 7)])) (ct_J6_bitCount_0f7a4 l g (vH v) (by omega)) dX5_count_94 rfl (List.Perm.refl _) mc_J6_bitCount_0f7a4 kl_X5_171 ms_J6_bitCount_0f7a4 kn_J6 (na := 1) (by decide +kernel) rfl ⟨Nat.le_of_ble_eq_true rfl, Nat.le_of_ble_eq_true rfl⟩ ⟨rfl, rfl⟩ ⟨Nat.le_of_ble_eq_true rfl, Nat.le_of_ble_eq_true rfl⟩ (Nat.le_of_ble_eq_true rfl) (fun r_ w_ hp_ => ?_)
        obtain ⟨rfl, rfl⟩ := hp_
        refine kw_ws (List.nil_append _) ?_
        refine ke_i X Z dX5_count_97 ?_
        exact ⟨by simp [oCount, hus, hks, etn, c1_, c2_, c3_], XWp.of hI⟩
      · skip
        by_cases c4_ : mt = (3 : Int32)
        · refine kb_tabIn (tgt := 98) X 3 dX5_count_1 (by rw [c4_]; rfl) (by decide) rfl (by decide) ?_
          refine kb_aload_n X 0 dX5_count_98 rfl rfl ?_
          refine kf_get (v := .ref (an 0)) (C := RX5) (T := TX5) (N := 7) (ci := 5) X kw_iX5 rfl 1 0 0 rfl rfl (by decide) kf_X5_19 rfl rfl dX5_count_99 ?_
          refine kf_get (v := .int (vY v)) (C := RX4) (T := TX4) (N := 11) (ci := 4) X kw_iX4 rfl 9 2 0 rfl rfl (by decide) kf_X5_161 rfl rfl dX5_count_102 ?_
          refine ke_i X Z dX5_count_105 ?_
          exact ⟨by simp [oCount, hus, hks, etn, c1_, c2_, c3_, c4_], XWp.of hI⟩
        · skip
          by_cases c5_ : mt = (4 : Int32)
          · refine kb_tabIn (tgt := 106) X 4 dX5_count_1 (by rw [c5_]; rfl) (by decide) rfl (by decide) ?_
            refine kb_aload_n X 0 dX5_count_106 rfl rfl ?_
            refine kf_get (v := .ref (an 0)) (C := RX5) (T := TX5) (N := 7) (ci := 5) X kw_iX5 rfl 1 0 0 rfl rfl (by decide) kf_X5_19 rfl rfl dX5_count_107 ?_
            refine kf_get (v := .int (vZ v)) (C := RX4) (T := TX4) (N := 11) (ci := 4) X kw_iX4 rfl 10 2 0 rfl rfl (by decide) kf_X5_250 rfl rfl dX5_count_110 ?_
            refine ke_i X Z dX5_count_113 ?_
            exact ⟨by simp [oCount, hus, hks, etn, c1_, c2_, c3_, c4_, c5_], XWp.of hI⟩
          · skip
            by_cases c6_ : mt = (5 : Int32)
            · refine kb_tabIn (tgt := 114) X 5 dX5_count_1 (by rw [c6_]; rfl) (by decide) rfl (by decide) ?_
              refine kb_aload_n X 0 dX5_count_114 rfl rfl ?_
              refine kf_get (v := .ref (an 0)) (C := RX5) (T := TX5) (N := 7) (ci := 5) X kw_iX5 rfl 1 0 0 rfl rfl (by decide) kf_X5_19 rfl rfl dX5_count_115 ?_
              refine kc_Vi X (As := []) (rest := []) (wr := List.flatten [wX g m at_ an ar au ak as_ ao, wT g at_ t, wV g ar u, wPh g au adu 8 sz tp, wVs g adu uvs (List.range 8), wPh g ak adk 2 kz kp, wVs g adk kvs (List.range 2), wS g as_ s, wO g ao ado (oP, oB, oL, oC, oD, oZ, oM), wVs g ado ovs (List.range 7)]) (ct_X4_coinsOfAll l g an v hv  ) dX5_count_118 rfl (kw_pk [wX g m at_ an ar au ak as_ ao, wT g at_ t, wV g an v, wV g ar u, wPh g au adu 8 sz tp, wVs g adu uvs (List.range 8), wPh g ak adk 2 kz kp, wVs g adk kvs (List.range 2), wS g as_ s, wO g ao ado (oP, oB, oL, oC, oD, oZ, oM), wVs g ado ovs (List.range 7)] 2 (Nat.le_of_ble_eq_true rfl)) mc_X4_coinsOfAll kl_X5_241 mi_X4_coinsOfAll mv_X4_coinsOfAll kn_X4 0 rfl rfl rfl (na := 0) (by decide +kernel) rfl ⟨Nat.le_of_ble_eq_true rfl, Nat.le_of_ble_eq_true rfl⟩ ⟨rfl, rfl⟩ ⟨Nat.le_of_ble_eq_true rfl, Nat.le_of_ble_eq_true rfl⟩ (Nat.le_of_ble_eq_true rfl) (fun r_ w_ hp_ => ?_)
              obtain ⟨rfl, rfl⟩ := hp_
              refine kw_perm (ws' := List.flatten [wX g m at_ an ar au ak as_ ao, wT g at_ t, wV g an v, wV g ar u, wPh g au adu 8 sz tp, wVs g adu uvs (List.range 8), wPh g ak adk 2 kz kp, wVs g adk kvs (List.range 2), wS g as_ s, wO g ao ado (oP, oB, oL, oC, oD, oZ, oM), wVs g ado ovs (List.range 7)]) (kw_pk [wX g m at_ an ar au ak as_ ao, wT g at_ t, wV g an v, wV g ar u, wPh g au adu 8 sz tp, wVs g adu uvs (List.range 8), wPh g ak adk 2 kz kp, wVs g adk kvs (List.range 2), wS g as_ s, wO g ao ado (oP, oB, oL, oC, oD, oZ, oM), wVs g ado ovs (List.range 7)] 2 (Nat.le_of_ble_eq_true rfl)).symm ?_
              refine ke_i X Z dX5_count_121 ?_
              exact ⟨by simp [oCount, hus, hks, etn, c1_, c2_, c3_, c4_, c5_, c6_], XWp.of hI⟩
            · skip
              by_cases c7_ : mt = (6 : Int32)
              · refine kb_tabIn (tgt := 122) X 6 dX5_count_1 (by rw [c7_]; rfl) (by decide) rfl (by decide) ?_
                refine kb_aload_n X 0 dX5_count_122 rfl rfl ?_
                refine kf_get (v := .ref (an 0)) (C := RX5) (T := TX5) (N := 7) (ci := 5) X kw_iX5 rfl 1 0 0 rfl rfl (by decide) kf_X5_19 rfl rfl dX5_count_123 ?_
                refine kc_Vi X (As := []) (rest := []) (wr := List.flatten [wX g m at_ an ar au ak as_ ao, wT g at_ t, wV g ar u, wPh g au adu 8 sz tp, wVs g adu uvs (List.range 8), wPh g ak adk 2 kz kp, wVs g adk kvs (List.range 2), wS g as_ s, wO g ao ado (oP, oB, oL, oC, oD, oZ, oM), wVs g ado ovs (List.range 7)]) (ct_X4_debtsOfAll l g an v  ) dX5_count_126 rfl (kw_pk [wX g m at_ an ar au ak as_ ao, wT g at_ t, wV g an v, wV g ar u, wPh g au adu 8 sz tp, wVs g adu uvs (List.range 8), wPh g ak adk 2 kz kp, wVs g adk kvs (List.range 2), wS g as_ s, wO g ao ado (oP, oB, oL, oC, oD, oZ, oM), wVs g ado ovs (List.range 7)] 2 (Nat.le_of_ble_eq_true rfl)) mc_X4_debtsOfAll kl_X5_253 mi_X4_debtsOfAll mv_X4_debtsOfAll kn_X4 0 rfl rfl rfl (na := 0) (by decide +kernel) rfl ⟨Nat.le_of_ble_eq_true rfl, Nat.le_of_ble_eq_true rfl⟩ ⟨rfl, rfl⟩ ⟨Nat.le_of_ble_eq_true rfl, Nat.le_of_ble_eq_true rfl⟩ (Nat.le_of_ble_eq_true rfl) (fun r_ w_ hp_ => ?_)
                obtain ⟨rfl, rfl⟩ := hp_
                refine kw_perm (ws' := List.flatten [wX g m at_ an ar au ak as_ ao, wT g at_ t, wV g an v, wV g ar u, wPh g au adu 8 sz tp, wVs g adu uvs (List.range 8), wPh g ak adk 2 kz kp, wVs g adk kvs (List.range 2), wS g as_ s, wO g ao ado (oP, oB, oL, oC, oD, oZ, oM), wVs g ado ovs (List.range 7)]) (kw_pk [wX g m at_ an ar au ak as_ ao, wT g at_ t, wV g an v, wV g ar u, wPh g au adu 8 sz tp, wVs g adu uvs (List.range 8), wPh g ak adk 2 kz kp, wVs g adk kvs (List.range 2), wS g as_ s, wO g ao ado (oP, oB, oL, oC, oD, oZ, oM), wVs g ado ovs (List.range 7)] 2 (Nat.le_of_ble_eq_true rfl)).symm ?_
                refine ke_i X Z dX5_count_129 ?_
                exact ⟨by simp [oCount, hus, hks, etn, c1_, c2_, c3_, c4_, c5_, c6_, c7_], XWp.of hI⟩
              · skip
                by_cases c8_ : mt = (7 : Int32)
                · refine kb_tabIn (tgt := 130) X 7 dX5_count_1 (by rw [c8_]; rfl) (by decide) rfl (by decide) ?_
                  refine kb_aload_n X 0 dX5_count_130 rfl rfl ?_
                  refine kf_get (v := .ref (as_ 0)) (C := RX5) (T := TX5) (N := 7) (ci := 5) X kw_iX5 rfl 5 0 0 rfl rfl (by decide) kf_X5_41 rfl rfl dX5_count_131 ?_
                  refine kf_get (v := .int (nI (sSize s))) (C := RX2) (T := TX2) (N := 6) (ci := 2) X kw_iX2 rfl 5 8 0 rfl rfl (by decide) kf_X5_94 rfl rfl dX5_count_134 ?_
                  refine ke_i X Z dX5_count_137 ?_
                  exact ⟨by simp [oCount, hus, hks, etn, c1_, c2_, c3_, c4_, c5_, c6_, c7_, c8_], XWp.of hI⟩
                · skip
                  by_cases c9_ : mt = (8 : Int32)
                  · refine kb_tabIn (tgt := 138) X 8 dX5_count_1 (by rw [c9_]; rfl) (by decide) rfl (by decide) ?_
                    refine kb_aload_n X 0 dX5_count_138 rfl rfl ?_
                    refine kf_get (v := .ref (au 0)) (C := RX5) (T := TX5) (N := 7) (ci := 5) X kw_iX5 rfl 3 0 0 rfl rfl (by decide) kf_X5_31 rfl rfl dX5_count_139 ?_
                    refine kf_get (v := .int (nI (sz))) (C := RX1) (T := TX1) (N := 3) (ci := 1) X kw_iX1 rfl 1 4 0 rfl rfl (by decide) kf_X5_164 rfl rfl dX5_count_142 ?_
                    refine ke_i X Z dX5_count_145 ?_
                    exact ⟨by simp [oCount, hus, hks, etn, c1_, c2_, c3_, c4_, c5_, c6_, c7_, c8_, c9_], XWp.of hI⟩
                  · skip
                    by_cases c10_ : mt = (9 : Int32)
                    · refine kb_tabIn (tgt := 146) X 9 dX5_count_1 (by rw [c10_]; rfl) (by decide) rfl (by decide) ?_
                      refine kb_aload_n X 0 dX5_count_146 rfl rfl ?_
                      refine kf_get (v := .ref (ak 0)) (C := RX5) (T := TX5) (N := 7) (ci := 5) X kw_iX5 rfl 4 0 0 rfl rfl (by decide) kf_X5_35 rfl rfl dX5_count_147 ?_
                      refine kf_get (v := .int (nI (kz))) (C := RX1) (T := TX1) (N := 3) (ci := 1) X kw_iX1 rfl 1 6 0 rfl rfl (by decide) kf_X5_164 rfl rfl dX5_count_150 ?_
                      refine ke_i X Z dX5_count_153 ?_
                      exact ⟨by simp [oCount, hus, hks, etn, c1_, c2_, c3_, c4_, c5_, c6_, c7_, c8_, c9_, c10_], XWp.of hI⟩
                    · skip
                      by_cases c11_ : mt = (10 : Int32)
                      · refine kb_tabIn (tgt := 154) X 10 dX5_count_1 (by rw [c11_]; rfl) (by decide) rfl (by decide) ?_
                        refine kb_aload_n X 0 dX5_count_154 rfl rfl ?_
                        refine kf_get (v := .ref (at_ 0)) (C := RX5) (T := TX5) (N := 7) (ci := 5) X kw_iX5 rfl 0 0 0 rfl rfl (by decide) kf_X5_10 rfl rfl dX5_count_155 ?_
                        refine kf_get (v := .int (nI (tN t))) (C := RX3) (T := TX3) (N := 4) (ci := 3) X kw_iX3 rfl 2 1 0 rfl rfl (by decide) kf_X5_83 rfl rfl dX5_count_158 ?_
                        refine ke_i X Z dX5_count_161 ?_
                        exact ⟨by simp [oCount, hus, hks, etn, c1_, c2_, c3_, c4_, c5_, c6_, c7_, c8_, c9_, c10_, c11_], XWp.of hI⟩
                      · skip
                        have tc1_ := lv_neT (a := 0) c1_ rfl
                        have tc2_ := lv_neT (a := 1) c2_ rfl
                        have tc3_ := lv_neT (a := 2) c3_ rfl
                        have tc4_ := lv_neT (a := 3) c4_ rfl
                        have tc5_ := lv_neT (a := 4) c5_ rfl
                        have tc6_ := lv_neT (a := 5) c6_ rfl
                        have tc7_ := lv_neT (a := 6) c7_ rfl
                        have tc8_ := lv_neT (a := 7) c8_ rfl
                        have tc9_ := lv_neT (a := 8) c9_ rfl
                        have tc10_ := lv_neT (a := 9) c10_ rfl
                        have tc11_ := lv_neT (a := 10) c11_ rfl
                        refine kb_tabOut (tgt := 162) X dX5_count_1 (by omega) (by decide) ?_
                        refine kb_iconst (v := (-1 : Int32)) X dX5_count_162 (by decide) ?_
                        refine ke_i X Z dX5_count_163 ?_
                        exact ⟨by simp [oCount, hus, hks, etn, c1_, c2_, c3_, c4_, c5_, c6_, c7_, c8_, c9_, c10_, c11_], XWp.of hI⟩

