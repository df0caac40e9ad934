set_option maxHeartbeats 4000000 in
set_option maxRecDepth 100000 in
theorem ct_X5_write (l : Launch) (g : kw_G) (m : Nat) (at_ an ar au : Nat → Nat) (adu : Nat → Nat → Nat) (ak : Nat → Nat) (adk : Nat → Nat → Nat) (as_ ao : Nat → Nat) (ado : Nat → Nat → Nat) (t : TS) (v u : VS) (sz tp : Nat) (uvs : Nat → VS) (kz kp : Nat) (kvs : Nat → VS) (s : SS) (oP oB : Nat → Nat) (oL oC : Int32) (oD oZ oM : Nat) (ovs : Nat → VS) (us ks : List VS) (tf : Nat → Nat) (tn : Nat) (hI : XI t sz tp uvs kz kp kvs oB oL oC oD oZ oM ovs v us ks tf tn s) (x_ : Int32) : kMi l g yX5_write cX5_write 2 .int (kw_rm 3 0 0) 0 0 [.ref (m), .int (x_)] (List.flatten [wX g m at_ an ar au ak as_ ao, wT g at_ t, wV g an v, wV g ar u, wPh g au adu 8 sz tp, wVs g adu uvs (List.range 8), wPh g ak adk 2 kz kp, wVs g adk kvs (List.range 2), wS g as_ s, wO g ao ado (oP, oB, oL, oC, oD, oZ, oM), wVs g ado ovs (List.range 7)]) (fun r w => r = oWr x_ tn ∧ XWp g m at_ an ar au adu ak adk as_ ao ado v us ks (oWrT x_ tn tf) (oWrN x_ tn) s w) := by
  refine kMi_of (by decide +kernel) (Nat.le_of_ble_eq_true rfl) (fun x (X : kX l g RX5 cX5_write 2 (kw_rm 3 0 0) x) (Z : kZi .int _ 0 0 x) => ?_)
  show kW x 0 0 0 [(0, .ref (m)), (1, .int (x_))] [] (List.flatten [wX g m at_ an ar au ak as_ ao, wT g at_ t, wV g an v, wV g ar u, wPh g au adu 8 sz tp, wVs g adu uvs (List.range 8), wPh g ak adk 2 kz kp, wVs g adk kvs (List.range 2), wS g as_ s, wO g ao ado (oP, oB, oL, oC, oD, oZ, oM), wVs g ado ovs (List.range 7)])
  obtain ⟨hG, hU, hKp, hT_, hs, hO⟩ := id hI
  have hv := hG.1
  have hT := hG.2.1
  have hN0 := hG.2.2.2
  have h6 := hv.1
  have hx64 := hv.2.1
  have hh64 := hv.2.2
  obtain ⟨ht, etn, htx⟩ := id hT_
  have hs1 := hs.1
  have hus := hU.1
  have hsz := hU.2.1
  have htp := hU.2.2.1
  have hks := hKp.1
  have hkz := hKp.2.1
  have hkp := hKp.2.2.1
  refine kb_iload_n X 1 dX5_write_0 rfl rfl ?_
  refine kb_bipush (v := (32 : Int32)) X dX5_write_1 (by decide) ?_
  refine kb_bipush (v := (126 : Int32)) X dX5_write_3 (by decide) ?_
  refine kc_Si X (As := [.int (x_), .int 32, .int 126]) (rest := []) (wr := (List.flatten [wX g m at_ an ar au ak as_ ao, wT g at_ t, wV g an v, wV g ar u, wPh g au adu 8 sz tp, wVs g adu uvs (List.range 8), wPh g ak adk 2 kz kp, wVs g adk kvs (List.range 2), wS g as_ s, wO g ao ado (oP, oB, oL, oC, oD, oZ, oM), wVs g ado ovs (List.range 7)])) (ct_X5_within l g x_ (32 : Int32) (126 : Int32) ) dX5_write_5 rfl (List.Perm.refl _) mc_X5_within kl_X5_75 ms_X5_within kn_X5 (na := 3) (by decide +kernel) rfl ⟨Nat.le_of_ble_eq_true rfl, Nat.le_of_ble_eq_true rfl⟩ ⟨rfl, rfl⟩ ⟨Nat.le_of_ble_eq_true rfl, Nat.le_of_ble_eq_true rfl⟩ (Nat.le_of_ble_eq_true rfl) (fun r_ w_ hp_ => ?_)
  obtain ⟨rfl, rfl⟩ := hp_
  refine kw_ws (List.nil_append _) ?_
  refine kz_if_ne (b := inr x_ (32 : Int32) (126 : Int32)) (tgt := 13) X dX5_write_8 (by decide) (fun c1_ => ?_) (fun c1_ => ?_)
  · skip
    obtain ⟨kj, hk1, hk2, ek, ePk⟩ := inr_n (a := 32) (b := 126) (by decide) (by decide) c1_
    refine kw_lv (lv' := [(0, .ref (m)), (1, .int (nI (kj)))]) (by rw [ek]) ?_
    refine kb_aload_n X 0 dX5_write_13 rfl rfl ?_
    refine kf_get (v := .ref (at_ 0)) (C := RX5) (T := TX5) (N := 7) (ci := 5) X kw_iX5 rfl 0 0 0 rfl rfl (by decide) kf_X5_10 rfl rfl dX5_write_14 ?_
    refine kc_Vi X (As := []) (rest := []) (wr := List.flatten [wX g m at_ an ar au ak as_ ao, wV g an v, wV g ar u, wPh g au adu 8 sz tp, wVs g adu uvs (List.range 8), wPh g ak adk 2 kz kp, wVs g adk kvs (List.range 2), wS g as_ s, wO g ao ado (oP, oB, oL, oC, oD, oZ, oM), wVs g ado ovs (List.range 7)]) (ct_X3_isFull l g at_ t ht  ) dX5_write_17 rfl (kw_pk [wX g m at_ an ar au ak as_ ao, wT g at_ t, wV g an v, wV g ar u, wPh g au adu 8 sz tp, wVs g adu uvs (List.range 8), wPh g ak adk 2 kz kp, wVs g adk kvs (List.range 2), wS g as_ s, wO g ao ado (oP, oB, oL, oC, oD, oZ, oM), wVs g ado ovs (List.range 7)] 1 (Nat.le_of_ble_eq_true rfl)) mc_X3_isFull kl_X5_79 mi_X3_isFull mv_X3_isFull kn_X3 0 rfl rfl rfl (na := 0) (by decide +kernel) rfl ⟨Nat.le_of_ble_eq_true rfl, Nat.le_of_ble_eq_true rfl⟩ ⟨rfl, rfl⟩ ⟨Nat.le_of_ble_eq_true rfl, Nat.le_of_ble_eq_true rfl⟩ (Nat.le_of_ble_eq_true rfl) (fun r_ w_ hp_ => ?_)
    obtain ⟨rfl, rfl⟩ := hp_
    refine kw_perm (ws' := List.flatten [wX g m at_ an ar au ak as_ ao, wT g at_ t, wV g an v, wV g ar u, wPh g au adu 8 sz tp, wVs g adu uvs (List.range 8), wPh g ak adk 2 kz kp, wVs g adk kvs (List.range 2), wS g as_ s, wO g ao ado (oP, oB, oL, oC, oD, oZ, oM), wVs g ado ovs (List.range 7)]) (kw_pk [wX g m at_ an ar au ak as_ ao, wT g at_ t, wV g an v, wV g ar u, wPh g au adu 8 sz tp, wVs g adu uvs (List.range 8), wPh g ak adk 2 kz kp, wVs g adk kvs (List.range 2), wS g as_ s, wO g ao ado (oP, oB, oL, oC, oD, oZ, oM), wVs g ado ovs (List.range 7)] 1 (Nat.le_of_ble_eq_true rfl)).symm ?_
    refine kz_if_eq (b := decide (200 ≤ tN t)) (tgt := 26) X dX5_write_20 (by decide) (fun c2_ => ?_) (fun c2_ => ?_)
    · skip
      have hl_ : ¬ 200 ≤ tN t := of_decide_eq_false c2_
      refine kb_aload_n X 0 dX5_write_26 rfl rfl ?_
      refine kf_get (v := .ref (at_ 0)) (C := RX5) (T := TX5) (N := 7) (ci := 5) X kw_iX5 rfl 0 0 0 rfl rfl (by decide) kf_X5_10 rfl rfl dX5_write_27 ?_
      refine kb_iload_n X 1 dX5_write_30 rfl rfl ?_
      refine kb_i2c (v := ((nI (kj)).toUInt32 % 65536).toInt32) X dX5_write_31 rfl ?_
      refine kw_top (b := .int (nI (kj))) (by rw [i2c_n kj (by omega)]) ?_
      refine kc_Vv X (As := [.int (nI (kj))]) (rest := []) (wr := List.flatten [wX g m at_ an ar au ak as_ ao, wV g an v, wV g ar u, wPh g au adu 8 sz tp, wVs g adu uvs (List.range 8), wPh g ak adk 2 kz kp, wVs g adk kvs (List.range 2), wS g as_ s, wO g ao ado (oP, oB, oL, oC, oD, oZ, oM), wVs g ado ovs (List.range 7)]) (ct_X3_append l g at_ t ht kj (by omega)) dX5_write_32 rfl (kw_pk [wX g m at_ an ar au ak as_ ao, wT g at_ t, wV g an v, wV g ar u, wPh g au adu 8 sz tp, wVs g adu uvs (List.range 8), wPh g ak adk 2 kz kp, wVs g adk kvs (List.range 2), wS g as_ s, wO g ao ado (oP, oB, oL, oC, oD, oZ, oM), wVs g ado ovs (List.range 7)] 1 (Nat.le_of_ble_eq_true rfl)) mc_X3_append kl_X5_64 mi_X3_append mv_X3_append kn_X3 0 rfl rfl rfl (na := 1) (by decide +kernel) rfl ⟨Nat.le_of_ble_eq_true rfl, Nat.le_of_ble_eq_true rfl⟩ ⟨rfl, rfl⟩ ⟨Nat.le_of_ble_eq_true rfl, Nat.le_of_ble_eq_true rfl⟩ (Nat.le_of_ble_eq_true rfl) (fun w_ hp_ => ?_)
      obtain rfl := hp_
      refine kw_perm (ws' := List.flatten [wX g m at_ an ar au ak as_ ao, wT g at_ (if 200 ≤ tN t then t else sTn (sL t (va_up (tL t) (tN t) kj)) (tN t + 1)), wV g an v, wV g ar u, wPh g au adu 8 sz tp, wVs g adu uvs (List.range 8), wPh g ak adk 2 kz kp, wVs g adk kvs (List.range 2), wS g as_ s, wO g ao ado (oP, oB, oL, oC, oD, oZ, oM), wVs g ado ovs (List.range 7)]) (kw_pk [wX g m at_ an ar au ak as_ ao, wT g at_ (if 200 ≤ tN t then t else sTn (sL t (va_up (tL t) (tN t) kj)) (tN t + 1)), wV g an v, wV g ar u, wPh g au adu 8 sz tp, wVs g adu uvs (List.range 8), wPh g ak adk 2 kz kp, wVs g adk kvs (List.range 2), wS g as_ s, wO g ao ado (oP, oB, oL, oC, oD, oZ, oM), wVs g ado ovs (List.range 7)] 1 (Nat.le_of_ble_eq_true rfl)).symm ?_
      refine kw_ws (ws' := List.flatten [wX g m at_ an ar au ak as_ ao, wT g at_ (sTn (sL t (va_up (tL t) (tN t) kj)) (tN t + 1)), wV g an v, wV g ar u, wPh g au adu 8 sz tp, wVs g adu uvs (List.range 8), wPh g ak adk 2 kz kp, wVs g adk kvs (List.range 2), wS g as_ s, wO g ao ado (oP, oB, oL, oC, oD, oZ, oM), wVs g ado ovs (List.range 7)]) (by rw [if_neg hl_]) ?_
      refine kb_aload_n X 0 dX5_write_35 rfl rfl ?_
      refine kf_get (v := .ref (at_ 0)) (C := RX5) (T := TX5) (N := 7) (ci := 5) X kw_iX5 rfl 0 0 0 rfl rfl (by decide) kf_X5_10 rfl rfl dX5_write_36 ?_
      refine kf_get (v := .int (nI ((tN t + 1)))) (C := RX3) (T := TX3) (N := 4) (ci := 3) X kw_iX3 rfl 2 1 0 rfl rfl (by decide) kf_X5_83 rfl rfl dX5_write_39 ?_
      refine ke_i X Z dX5_write_42 ?_
      have hl2_ : ¬ 200 ≤ tn := by omega
      have e1_ : oWrT x_ tn tf = va_up tf tn kj := by simp [oWrT, c1_, hl2_, ePk]
      have e2_ : oWrN x_ tn = tn + 1 := by simp [oWrN, c1_, hl2_]
      rw [e1_, e2_]
      exact ⟨by simp [oWr, c1_, hl2_, etn], XWp.of ⟨hG, hU, hKp, XT_wr hT_ (by omega) (by omega), hs, hO⟩⟩
    · skip
      have hl_ : 200 ≤ tN t := of_decide_eq_true c2_
      refine kb_bipush (v := (-3 : Int32)) X dX5_write_23 (by decide) ?_
      refine ke_i X Z dX5_write_25 ?_
      have hl2_ : 200 ≤ tn := by omega
      have e1_ : oWrT x_ tn tf = tf := by simp [oWrT, c1_, hl2_]
      have e2_ : oWrN x_ tn = tn := by simp [oWrN, c1_, hl2_]
      rw [e1_, e2_]
      exact ⟨by simp [oWr, c1_, hl2_], XWp.of hI⟩
  · skip
    refine kb_iconst (v := (-1 : Int32)) X dX5_write_11 (by decide) ?_
    refine ke_i X Z dX5_write_12 ?_
    have e1_ : oWrT x_ tn tf = tf := by simp [oWrT, c1_]
    have e2_ : oWrN x_ tn = tn := by simp [oWrN, c1_]
    rw [e1_, e2_]
    exact ⟨by simp [oWr, c1_], XWp.of hI⟩

set_option maxHeartbeats 4000000 in
set_option maxRecDepth 100000 in
theorem ct_X5_fault (l : Launch) (g : kw_G) (m : Nat) (at_ an ar au : Nat → Nat) (adu : Nat → Nat → Nat) (ak : Nat → Nat) (adk : Nat → Nat → Nat) (as_ ao : Nat → Nat) (ado : Nat → Nat → Nat) (t : TS) (v u : VS) (sz tp : Nat) (uvs : Nat → VS) (kz kp : Nat) (kvs : Nat → VS) (s : SS) (oP oB : Nat → Nat) (oL oC : Int32) (oD oZ oM : Nat) (ovs : Nat → VS) (us ks : List VS) (tf : Nat → Nat) (tn : Nat) (hI : XI t sz tp uvs kz kp kvs oB oL oC oD oZ oM ovs v us ks tf tn s) : kMi l g yX5_fault cX5_fault 1 .int (kw_rm 7 0 0) 0 0 [.ref (m)] (List.flatten [wX g m at_ an ar au ak as_ ao, wT g at_ t, wV g an v, wV g ar u, wPh g au adu 8 sz tp, wVs g adu uvs (List.range 8), wPh g ak adk 2 kz kp, wVs g adk kvs (List.range 2), wS g as_ s, wO g ao ado (oP, oB, oL, oC, oD, oZ, oM), wVs g ado ovs (List.range 7)]) (fun r w => r = oFault tf tn ∧ XWp g m at_ an ar au adu ak adk as_ ao ado v us ks tf tn s w) := by
  refine kMi_of (by decide +kernel) (Nat.le_of_ble_eq_true rfl) (fun x (X : kX l g RX5 cX5_fault 1 (kw_rm 7 0 0) x) (Z : kZi .int _ 0 0 x) => ?_)
  show kW x 0 0 0 [(0, .ref (m))] [] (List.flatten [wX g m at_ an ar au ak as_ ao, wT g at_ t, wV g an v, wV g ar u, wPh g au adu 8 sz tp, wVs g adu uvs (List.range 8), wPh g ak adk 2 kz kp, wVs g adk kvs (List.range 2), wS g as_ s, wO g ao ado (oP, oB, oL, oC, oD, oZ, oM), wVs g ado ovs (List.range 7)])
  obtain ⟨hG, hU, hKp, hT_, hs, hO⟩ := id hI
  have hv := hG.1
  have hT := hG.2.1
  have hN0 := hG.2.2.2
  have h6 := hv.1
  have hx64 := hv.2.1
  have hh64 := hv.2.2
  obtain ⟨ht, etn, htx⟩ := id hT_
  have hs1 := hs.1
  have hus := hU.1
  have hsz := hU.2.1
  have htp := hU.2.2.1
  have hks := hKp.1
  have hkz := hKp.2.1
  have hkp := hKp.2.2.1
  have htf : ∀ k, k < tn → tf k < 128 := fun k hk => by rw [← htx k hk]; exact ht.2.1 k (by omega)
  have hmr : rd 200 (sTp t 0) vE = mrd tf tn 200 0 vE := rd_mrd htf 200 (sTp t 0) vE ⟨etn, htx⟩ VI_vE
  refine kb_aload_n X 0 dX5_fault_0 rfl rfl ?_
  refine kf_get (v := .ref (at_ 0)) (C := RX5) (T := TX5) (N := 7) (ci := 5) X kw_iX5 rfl 0 0 0 rfl rfl (by decide) kf_X5_10 rfl rfl dX5_fault_1 ?_
  refine kb_aload_n X 0 dX5_fault_4 rfl rfl ?_
  refine kf_get (v := .ref (ar 0)) (C := RX5) (T := TX5) (N := 7) (ci := 5) X kw_iX5 rfl 2 0 0 rfl rfl (by decide) kf_X5_23 rfl rfl dX5_fault_5 ?_
  refine kc_Vi X (As := [.ref (ar 0)]) (rest := []) (wr := List.flatten [wX g m at_ an ar au ak as_ ao, wV g an v, wPh g au adu 8 sz tp, wVs g adu uvs (List.range 8), wPh g ak adk 2 kz kp, wVs g adk kvs (List.range 2), wS g as_ s, wO g ao ado (oP, oB, oL, oC, oD, oZ, oM), wVs g ado ovs (List.range 7)]) (ct_X3_readInto l g at_ ar t u ht) dX5_fault_8 rfl (kw_pk2 [wX g m at_ an ar au ak as_ ao, wT g at_ t, wV g an v, wV g ar u, wPh g au adu 8 sz tp, wVs g adu uvs (List.range 8), wPh g ak adk 2 kz kp, wVs g adk kvs (List.range 2), wS g as_ s, wO g ao ado (oP, oB, oL, oC, oD, oZ, oM), wVs g ado ovs (List.range 7)] 1 2 (Nat.le_of_ble_eq_true rfl) (Nat.le_of_ble_eq_true rfl)) mc_X3_readInto kl_X5_68 mi_X3_readInto mv_X3_readInto kn_X3 0 rfl rfl rfl (na := 1) (by decide +kernel) rfl ⟨Nat.le_of_ble_eq_true rfl, Nat.le_of_ble_eq_true rfl⟩ ⟨rfl, rfl⟩ ⟨Nat.le_of_ble_eq_true rfl, Nat.le_of_ble_eq_true rfl⟩ (Nat.le_of_ble_eq_true rfl) (fun r_ w_ hp_ => ?_)
  obtain ⟨rfl, t1_, ⟨hL_, hN_, hT_⟩, rfl⟩ := hp_
  refine kw_perm (ws' := List.flatten [wX g m at_ an ar au ak as_ ao, wT g at_ t1_, wV g an v, wV g ar ((rd 200 (sTp t 0) vE).2), wPh g au adu 8 sz tp, wVs g adu uvs (List.range 8), wPh g ak adk 2 kz kp, wVs g adk kvs (List.range 2), wS g as_ s, wO g ao ado (oP, oB, oL, oC, oD, oZ, oM), wVs g ado ovs (List.range 7)]) (kw_pk2 [wX g m at_ an ar au ak as_ ao, wT g at_ t1_, wV g an v, wV g ar ((rd 200 (sTp t 0) vE).2), wPh g au adu 8 sz tp, wVs g adu uvs (List.range 8), wPh g ak adk 2 kz kp, wVs g adk kvs (List.range 2), wS g as_ s, wO g ao ado (oP, oB, oL, oC, oD, oZ, oM), wVs g ado ovs (List.range 7)] 1 2 (Nat.le_of_ble_eq_true rfl) (Nat.le_of_ble_eq_true rfl)).symm ?_
  refine ke_i X Z dX5_fault_11 ?_
  exact ⟨by rw [oFault, ← hmr], XWp.of ⟨hG, hU, hKp, ⟨hT_, hN_.trans etn, fun k hk => by rw [hL_]; exact htx k hk⟩, hs, hO⟩⟩

set_option maxHeartbeats 4000000 in
set_option maxRecDepth 100000 in
theorem ct_X5_lay (l : Launch) (g : kw_G) (m : Nat) (at_ an ar au : Nat → Nat) (adu : Nat → Nat → Nat) (ak : Nat → Nat) (adk : Nat → Nat → Nat) (as_ ao : Nat → Nat) (ado : Nat → Nat → Nat) (t : TS) (v u : VS) (sz tp : Nat) (uvs : Nat → VS) (kz kp : Nat) (kvs : Nat → VS) (s : SS) (oP oB : Nat → Nat) (oL oC : Int32) (oD oZ oM : Nat) (ovs : Nat → VS) (us ks : List VS) (tf : Nat → Nat) (tn : Nat) (hI : XI t sz tp uvs kz kp kvs oB oL oC oD oZ oM ovs v us ks tf tn s) : kMi l g yX5_lay cX5_lay 1 .int (kw_rm 7 0 0) 0 0 [.ref (m)] (List.flatten [wX g m at_ an ar au ak as_ ao, wT g at_ t, wV g an v, wV g ar u, wPh g au adu 8 sz tp, wVs g adu uvs (List.range 8), wPh g ak adk 2 kz kp, wVs g adk kvs (List.range 2), wS g as_ s, wO g ao ado (oP, oB, oL, oC, oD, oZ, oM), wVs g ado ovs (List.range 7)]) (fun r w => r = layR tf tn ∧ XWp g m at_ an ar au adu ak adk as_ ao ado (layV tf tn v) (layL tf tn us) (layL tf tn ks) tf tn (layS tf tn s) w) := by
  refine kMi_of (by decide +kernel) (Nat.le_of_ble_eq_true rfl) (fun x (X : kX l g RX5 cX5_lay 1 (kw_rm 7 0 0) x) (Z : kZi .int _ 0 0 x) => ?_)
  show kW x 0 0 0 [(0, .ref (m))] [] (List.flatten [wX g m at_ an ar au ak as_ ao, wT g at_ t, wV g an v, wV g ar u, wPh g au adu 8 sz tp, wVs g adu uvs (List.range 8), wPh g ak adk 2 kz kp, wVs g adk kvs (List.range 2), wS g as_ s, wO g ao ado (oP, oB, oL, oC, oD, oZ, oM), wVs g ado ovs (List.range 7)])
  obtain ⟨hG, hU, hKp, hT_, hs, hO⟩ := id hI
  have hv := hG.1
  have hT := hG.2.1
  have hN0 := hG.2.2.2
  have h6 := hv.1
  have hx64 := hv.2.1
  have hh64 := hv.2.2
  obtain ⟨ht, etn, htx⟩ := id hT_
  have hs1 := hs.1
  have hus := hU.1
  have hsz := hU.2.1
  have htp := hU.2.2.1
  have hks := hKp.1
  have hkz := hKp.2.1
  have hkp := hKp.2.2.1
  have htf : ∀ k, k < tn → tf k < 128 := fun k hk => by rw [← htx k hk]; exact ht.2.1 k (by omega)
  have hmr : rd 200 (sTp t 0) vE = mrd tf tn 200 0 vE := rd_mrd htf 200 (sTp t 0) vE ⟨etn, htx⟩ VI_vE
  refine kb_aload_n X 0 dX5_lay_0 rfl rfl ?_
  refine kf_get (v := .ref (at_ 0)) (C := RX5) (T := TX5) (N := 7) (ci := 5) X kw_iX5 rfl 0 0 0 rfl rfl (by decide) kf_X5_10 rfl rfl dX5_lay_1 ?_
  refine kb_aload_n X 0 dX5_lay_4 rfl rfl ?_
  refine kf_get (v := .ref (ar 0)) (C := RX5) (T := TX5) (N := 7) (ci := 5) X kw_iX5 rfl 2 0 0 rfl rfl (by decide) kf_X5_23 rfl rfl dX5_lay_5 ?_
  refine kc_Vi X (As := [.ref (ar 0)]) (rest := []) (wr := List.flatten [wX g m at_ an ar au ak as_ ao, wV g an v, wPh g au adu 8 sz tp, wVs g adu uvs (List.range 8), wPh g ak adk 2 kz kp, wVs g adk kvs (List.range 2), wS g as_ s, wO g ao ado (oP, oB, oL, oC, oD, oZ, oM), wVs g ado ovs (List.range 7)]) (ct_X3_readInto l g at_ ar t u ht) dX5_lay_8 rfl (kw_pk2 [wX g m at_ an ar au ak as_ ao, wT g at_ t, wV g an v, wV g ar u, wPh g au adu 8 sz tp, wVs g adu uvs (List.range 8), wPh g ak adk 2 kz kp, wVs g adk kvs (List.range 2), wS g as_ s, wO g ao ado (oP, oB, oL, oC, oD, oZ, oM), wVs g ado ovs (List.range 7)] 1 2 (Nat.le_of_ble_eq_true rfl) (Nat.le_of_ble_eq_true rfl)) mc_X3_readInto kl_X5_68 mi_X3_readInto mv_X3_readInto kn_X3 0 rfl rfl rfl (na := 1) (by decide +kernel) rfl ⟨Nat.le_of_ble_eq_true rfl, Nat.le_of_ble_eq_true rfl⟩ ⟨rfl, rfl⟩ ⟨Nat.le_of_ble_eq_true rfl, Nat.le_of_ble_eq_true rfl⟩ (Nat.le_of_ble_eq_true rfl) (fun r_ w_ hp_ => ?_)
  obtain ⟨rfl, t1_, ⟨hL_, hN_, hT_⟩, rfl⟩ := hp_
  refine kw_perm (ws' := List.flatten [wX g m at_ an ar au ak as_ ao, wT g at_ t1_, wV g an v, wV g ar ((rd 200 (sTp t 0) vE).2), wPh g au adu 8 sz tp, wVs g adu uvs (List.range 8), wPh g ak adk 2 kz kp, wVs g adk kvs (List.range 2), wS g as_ s, wO g ao ado (oP, oB, oL, oC, oD, oZ, oM), wVs g ado ovs (List.range 7)]) (kw_pk2 [wX g m at_ an ar au ak as_ ao, wT g at_ t1_, wV g an v, wV g ar ((rd 200 (sTp t 0) vE).2), wPh g au adu 8 sz tp, wVs g adu uvs (List.range 8), wPh g ak adk 2 kz kp, wVs g adk kvs (List.range 2), wS g as_ s, wO g ao ado (oP, oB, oL, oC, oD, oZ, oM), wVs g ado ovs (List.range 7)] 1 2 (Nat.le_of_ble_eq_true rfl) (Nat.le_of_ble_eq_true rfl)).symm ?_
  refine kb_bipush (v := (-4 : Int32)) X dX5_lay_11 (by decide) ?_
  refine kb_icmp_ne (tgt := 27) X dX5_lay_13 (by decide) (fun c2_ => ?_) (fun c2_ => ?_)
  · skip
    refine kb_bipush (v := (-2 : Int32)) X dX5_lay_27 (by decide) ?_
    refine ke_i X Z dX5_lay_29 ?_
    have e_ : layOk tf tn = false := by rw [layOk, ← hmr, decide_eq_false c2_, Bool.false_and]
    rw [layR, layV, layL, layL, layS, e_]
    exact ⟨rfl, XWp.of ⟨hG, hU, hKp, ⟨hT_, hN_.trans etn, fun k hk => by rw [hL_]; exact htx k hk⟩, hs, hO⟩⟩
  · skip
    have hvr_ := VI_rd 200 (sTp t 0) vE VI_vE
    have hvr6_ := hvr_.1
    refine kb_aload_n X 0 dX5_lay_16 rfl rfl ?_
    refine kf_get (v := .ref (ar 0)) (C := RX5) (T := TX5) (N := 7) (ci := 5) X kw_iX5 rfl 2 0 0 rfl rfl (by decide) kf_X5_23 rfl rfl dX5_lay_17 ?_
    refine kf_get (v := .int (nI (vN ((rd 200 (sTp t 0) vE).2)))) (C := RX4) (T := TX4) (N := 11) (ci := 4) X kw_iX4 rfl 5 3 0 rfl rfl (by decide) kf_X5_86 rfl rfl dX5_lay_20 ?_
    refine kb_iconst (v := (1 : Int32)) X dX5_lay_23 (by decide) ?_
    refine kn_icmp_ge (a := vN ((rd 200 (sTp t 0) vE).2)) (b := 1) (tgt := 30) X (by omega) (by omega) dX5_lay_24 (by decide) (fun c3_ => ?_) (fun c3_ => ?_)
    · skip
      refine kb_aload_n X 0 dX5_lay_30 rfl rfl ?_
      refine kf_get (v := .ref (an 0)) (C := RX5) (T := TX5) (N := 7) (ci := 5) X kw_iX5 rfl 1 0 0 rfl rfl (by decide) kf_X5_19 rfl rfl dX5_lay_31 ?_
      refine kb_aload_n X 0 dX5_lay_34 rfl rfl ?_
      refine kf_get (v := .ref (ar 0)) (C := RX5) (T := TX5) (N := 7) (ci := 5) X kw_iX5 rfl 2 0 0 rfl rfl (by decide) kf_X5_23 rfl rfl dX5_lay_35 ?_
      refine kc_Vv X (As := [.ref (ar 0)]) (rest := []) (wr := List.flatten [wX g m at_ an ar au ak as_ ao, wT g at_ t1_, wPh g au adu 8 sz tp, wVs g adu uvs (List.range 8), wPh g ak adk 2 kz kp, wVs g adk kvs (List.range 2), wS g as_ s, wO g ao ado (oP, oB, oL, oC, oD, oZ, oM), wVs g ado ovs (List.range 7)]) (ct_X4_copyFrom l g an ar v ((rd 200 (sTp t 0) vE).2) ) dX5_lay_38 rfl (kw_pk2 [wX g m at_ an ar au ak as_ ao, wT g at_ t1_, wV g an v, wV g ar ((rd 200 (sTp t 0) vE).2), wPh g au adu 8 sz tp, wVs g adu uvs (List.range 8), wPh g ak adk 2 kz kp, wVs g adk kvs (List.range 2), wS g as_ s, wO g ao ado (oP, oB, oL, oC, oD, oZ, oM), wVs g ado ovs (List.range 7)] 2 2 (Nat.le_of_ble_eq_true rfl) (Nat.le_of_ble_eq_true rfl)) mc_X4_copyFrom kl_X5_89 mi_X4_copyFrom mv_X4_copyFrom kn_X4 0 rfl rfl rfl (na := 1) (by decide +kernel) rfl ⟨Nat.le_of_ble_eq_true rfl, Nat.le_of_ble_eq_true rfl⟩ ⟨rfl, rfl⟩ ⟨Nat.le_of_ble_eq_true rfl, Nat.le_of_ble_eq_true rfl⟩ (Nat.le_of_ble_eq_true rfl) (fun w_ hp_ => ?_)
      obtain rfl := hp_
      refine kw_perm (ws' := List.flatten [wX g m at_ an ar au ak as_ ao, wT g at_ t1_, wV g an ((rd 200 (sTp t 0) vE).2), wV g ar ((rd 200 (sTp t 0) vE).2), wPh g au adu 8 sz tp, wVs g adu uvs (List.range 8), wPh g ak adk 2 kz kp, wVs g adk kvs (List.range 2), wS g as_ s, wO g ao ado (oP, oB, oL, oC, oD, oZ, oM), wVs g ado ovs (List.range 7)]) (kw_pk2 [wX g m at_ an ar au ak as_ ao, wT g at_ t1_, wV g an ((rd 200 (sTp t 0) vE).2), wV g ar ((rd 200 (sTp t 0) vE).2), wPh g au adu 8 sz tp, wVs g adu uvs (List.range 8), wPh g ak adk 2 kz kp, wVs g adk kvs (List.range 2), wS g as_ s, wO g ao ado (oP, oB, oL, oC, oD, oZ, oM), wVs g ado ovs (List.range 7)] 2 2 (Nat.le_of_ble_eq_true rfl) (Nat.le_of_ble_eq_true rfl)).symm ?_
      refine kb_aload_n X 0 dX5_lay_41 rfl rfl ?_
      refine kf_get (v := .ref (au 0)) (C := RX5) (T := TX5) (N := 7) (ci := 5) X kw_iX5 rfl 3 0 0 rfl rfl (by decide) kf_X5_31 rfl rfl dX5_lay_42 ?_
      refine kc_Vv X (As := []) (rest := []) (wr := List.flatten [wX g m at_ an ar au ak as_ ao, wT g at_ t1_, wV g an ((rd 200 (sTp t 0) vE).2), wV g ar ((rd 200 (sTp t 0) vE).2), wVs g adu uvs (List.range 8), wPh g ak adk 2 kz kp, wVs g adk kvs (List.range 2), wS g as_ s, wO g ao ado (oP, oB, oL, oC, oD, oZ, oM), wVs g ado ovs (List.range 7)]) (ct_X1_clear l g au adu 8 sz tp) dX5_lay_45 rfl (kw_pk [wX g m at_ an ar au ak as_ ao, wT g at_ t1_, wV g an ((rd 200 (sTp t 0) vE).2), wV g ar ((rd 200 (sTp t 0) vE).2), wPh g au adu 8 sz tp, wVs g adu uvs (List.range 8), wPh g ak adk 2 kz kp, wVs g adk kvs (List.range 2), wS g as_ s, wO g ao ado (oP, oB, oL, oC, oD, oZ, oM), wVs g ado ovs (List.range 7)] 4 (Nat.le_of_ble_eq_true rfl)) mc_X1_clear kl_X5_93 mi_X1_clear mv_X1_clear kn_X1 0 rfl rfl rfl (na := 0) (by decide +kernel) rfl ⟨Nat.le_of_ble_eq_true rfl, Nat.le_of_ble_eq_true rfl⟩ ⟨rfl, rfl⟩ ⟨Nat.le_of_ble_eq_true rfl, Nat.le_of_ble_eq_true rfl⟩ (Nat.le_of_ble_eq_true rfl) (fun w_ hp_ => ?_)
      obtain rfl := hp_
      refine kw_perm (ws' := List.flatten [wX g m at_ an ar au ak as_ ao, wT g at_ t1_, wV g an ((rd 200 (sTp t 0) vE).2), wV g ar ((rd 200 (sTp t 0) vE).2), wPh g au adu 8 0 tp, wVs g adu uvs (List.range 8), wPh g ak adk 2 kz kp, wVs g adk kvs (List.range 2), wS g as_ s, wO g ao ado (oP, oB, oL, oC, oD, oZ, oM), wVs g ado ovs (List.range 7)]) (kw_pk [wX g m at_ an ar au ak as_ ao, wT g at_ t1_, wV g an ((rd 200 (sTp t 0) vE).2), wV g ar ((rd 200 (sTp t 0) vE).2), wPh g au adu 8 0 tp, wVs g adu uvs (List.range 8), wPh g ak adk 2 kz kp, wVs g adk kvs (List.range 2), wS g as_ s, wO g ao ado (oP, oB, oL, oC, oD, oZ, oM), wVs g ado ovs (List.range 7)] 4 (Nat.le_of_ble_eq_true rfl)).symm ?_
      refine kb_aload_n X 0 dX5_lay_48 rfl rfl ?_
      refine kf_get (v := .ref (ak 0)) (C := RX5) (T := TX5) (N := 7) (ci := 5) X kw_iX5 rfl 4 0 0 rfl rfl (by decide) kf_X5_35 rfl rfl dX5_lay_49 ?_
      refine kc_Vv X (As := []) (rest := []) (wr := List.flatten [wX g m at_ an ar au ak as_ ao, wT g at_ t1_, wV g an ((rd 200 (sTp t 0) vE).2), wV g ar ((rd 200 (sTp t 0) vE).2), wPh g au adu 8 0 tp, wVs g adu uvs (List.range 8), wVs g adk kvs (List.range 2), wS g as_ s, wO g ao ado (oP, oB, oL, oC, oD, oZ, oM), wVs g ado ovs (List.range 7)]) (ct_X1_clear l g ak adk 2 kz kp) dX5_lay_52 rfl (kw_pk [wX g m at_ an ar au ak as_ ao, wT g at_ t1_, wV g an ((rd 200 (sTp t 0) vE).2), wV g ar ((rd 200 (sTp t 0) vE).2), wPh g au adu 8 0 tp, wVs g adu uvs (List.range 8), wPh g ak adk 2 kz kp, wVs g adk kvs (List.range 2), wS g as_ s, wO g ao ado (oP, oB, oL, oC, oD, oZ, oM), wVs g ado ovs (List.range 7)] 6 (Nat.le_of_ble_eq_true rfl)) mc_X1_clear kl_X5_93 mi_X1_clear mv_X1_clear kn_X1 0 rfl rfl rfl (na := 0) (by decide +kernel) rfl ⟨Nat.le_of_ble_eq_true rfl, Nat.le_of_ble_eq_true rfl⟩ ⟨rfl, rfl⟩ ⟨Nat.le_of_ble_eq_true rfl, Nat.le_of_ble_eq_true rfl⟩ (Nat.le_of_ble_eq_true rfl) (fun w_ hp_ => ?_)
      obtain rfl := hp_
      refine kw_perm (ws' := List.flatten [wX g m at_ an ar au ak as_ ao, wT g at_ t1_, wV g an ((rd 200 (sTp t 0) vE).2), wV g ar ((rd 200 (sTp t 0) vE).2), wPh g au adu 8 0 tp, wVs g adu uvs (List.range 8), wPh g ak adk 2 0 kp, wVs g adk kvs (List.range 2), wS g as_ s, wO g ao ado (oP, oB, oL, oC, oD, oZ, oM), wVs g ado ovs (List.range 7)]) (kw_pk [wX g m at_ an ar au ak as_ ao, wT g at_ t1_, wV g an ((rd 200 (sTp t 0) vE).2), wV g ar ((rd 200 (sTp t 0) vE).2), wPh g au adu 8 0 tp, wVs g adu uvs (List.range 8), wPh g ak adk 2 0 kp, wVs g adk kvs (List.range 2), wS g as_ s, wO g ao ado (oP, oB, oL, oC, oD, oZ, oM), wVs g ado ovs (List.range 7)] 6 (Nat.le_of_ble_eq_true rfl)).symm ?_
      refine kb_aload_n X 0 dX5_lay_55 rfl rfl ?_
      refine kf_get (v := .ref (as_ 0)) (C := RX5) (T := TX5) (N := 7) (ci := 5) X kw_iX5 rfl 5 0 0 rfl rfl (by decide) kf_X5_41 rfl rfl dX5_lay_56 ?_
      refine kb_iconst (v := (0 : Int32)) X dX5_lay_59 (by decide) ?_
      refine kf_put (C := RX2) (T := TX2) (N := 6) (ci := 2) (ty := .int) (B' := wS g as_ (sSz s 0)) (L' := [wX g m at_ an ar au ak as_ ao, wT g at_ t1_, wV g an ((rd 200 (sTp t 0) vE).2), wV g ar ((rd 200 (sTp t 0) vE).2), wPh g au adu 8 0 tp, wVs g adu uvs (List.range 8), wPh g ak adk 2 0 kp, wVs g adk kvs (List.range 2), wS g as_ (sSz s 0), wO g ao ado (oP, oB, oL, oC, oD, oZ, oM), wVs g ado ovs (List.range 7)]) X kw_iX2 tyX2 tyX2_ok nmX2 rfl 5 8 0 rfl rfl (by decide) kf_X5_94 rfl rfl (by decide +kernel) rfl rfl (Nat.le_of_ble_eq_true rfl) dX5_lay_60 rfl rfl ?_
      refine kb_aload_n X 0 dX5_lay_63 rfl rfl ?_
      refine kf_get (v := .ref (an 0)) (C := RX5) (T := TX5) (N := 7) (ci := 5) X kw_iX5 rfl 1 0 0 rfl rfl (by decide) kf_X5_19 rfl rfl dX5_lay_64 ?_
      refine kf_get (v := .int (nI (vN ((rd 200 (sTp t 0) vE).2)))) (C := RX4) (T := TX4) (N := 11) (ci := 4) X kw_iX4 rfl 5 2 0 rfl rfl (by decide) kf_X5_86 rfl rfl dX5_lay_67 ?_
      refine ke_i X Z dX5_lay_70 ?_
      have e_ : layOk tf tn = true := by rw [layOk, ← hmr, c2_, decide_eq_false (show ¬ vN (rd 200 (sTp t 0) vE).2 = 0 by omega)]; rfl
      have hI1_ := I_mrd htf 200 0 vE VI_vE TI_vE
      have hI2_ := NZ_mrd htf 200 0 vE VI_vE NZ_vE
      rw [← hmr] at hI1_ hI2_
      rw [layR, layV, layL, layL, layS, e_, if_pos rfl, if_pos rfl, if_pos rfl, if_pos rfl, if_pos rfl, ← hmr]
      exact ⟨rfl, XWp.of ⟨⟨hI1_.1, hI1_.2, hI2_, by omega⟩, hU.nil, hKp.nil, ⟨hT_, hN_.trans etn, fun k hk => by rw [hL_]; exact htx k hk⟩, ⟨Nat.zero_le _, fun k hk => absurd hk (Nat.not_lt_zero _)⟩, hO⟩⟩
    · skip
      refine kb_bipush (v := (-2 : Int32)) X dX5_lay_27 (by decide) ?_
      refine ke_i X Z dX5_lay_29 ?_
      have e_ : layOk tf tn = false := by rw [layOk, ← hmr, decide_eq_true (show vN (rd 200 (sTp t 0) vE).2 = 0 by omega)]; simp
      rw [layR, layV, layL, layL, layS, e_]
      exact ⟨rfl, XWp.of ⟨hG, hU, hKp, ⟨hT_, hN_.trans etn, fun k hk => by rw [hL_]; exact htx k hk⟩, hs, hO⟩⟩

