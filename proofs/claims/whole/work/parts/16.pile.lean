set_option maxHeartbeats 4000000 in
set_option maxRecDepth 100000 in
theorem ct_X1_put (l : Launch) (g : kw_G) (a : Nat → Nat) (ad : Nat → Nat → Nat) (m sz tp : Nat) (vs : Nat → VS) (b : Nat → Nat) (v : VS) (hm : 0 < m) (hm2 : m < 100) (ht : tp < m) (hs : sz ≤ m) : kMv l g yX1_put cX1_put 2 (kw_rm 2 0 0) 0 0 [.ref (a 0), .ref (b 0)] (List.flatten [wPh g a ad m sz tp, wVs g ad vs (List.range m), wV g b v]) (fun w => w = List.flatten [wPh g a ad m (min m (sz + 1)) ((tp + 1) % m), wVs g ad (va_up vs tp v) (List.range m), wV g b v]) := by
  refine kMv_of (by decide +kernel) (Nat.le_of_ble_eq_true rfl) (fun x (X : kX l g RX1 cX1_put 2 (kw_rm 2 0 0) x) (Z : kZv _ 0 0 x) => ?_)
  show kW x 0 0 0 [(0, .ref (a 0)), (1, .ref (b 0))] [] (List.flatten [wPh g a ad m sz tp, wVs g ad vs (List.range m), wV g b v])
  refine kb_aload_n X 0 dX1_put_0 rfl rfl ?_
  refine kf_get (v := .ref (a 1)) (C := RX1) (T := TX1) (N := 3) (ci := 1) X kw_iX1 rfl 0 0 0 rfl rfl (by decide) kf_X1_24 rfl rfl dX1_put_1 ?_
  refine kb_aload_n X 0 dX1_put_4 rfl rfl ?_
  refine kf_get (v := .int (nI (tp))) (C := RX1) (T := TX1) (N := 3) (ci := 1) X kw_iX1 rfl 2 0 0 rfl rfl (by decide) kf_X1_13 rfl rfl dX1_put_5 ?_
  refine kf_qald (j := tp) X 0 1 rfl rfl ht (by omega) rfl dX1_put_8 ?_
  refine kb_aload_n X 1 dX1_put_9 rfl rfl ?_
  refine kw_perm (ws' := List.flatten [wPh g a ad m sz tp, wV g (ad tp) (vs tp), wVs g ad vs (List.erase (List.range m) tp), wV g b v]) (fl_open [wPh g a ad m sz tp] [wV g b v] (wVs_open g ad vs (mem_rg ht))) ?_
  refine kc_Vv X (As := [.ref (b 0)]) (rest := []) (wr := List.flatten [wPh g a ad m sz tp, wVs g ad vs (List.erase (List.range m) tp)]) (ct_X4_copyFrom l g (ad tp) b (vs tp) v ) dX1_put_10 rfl (kw_pk2 [wPh g a ad m sz tp, wV g (ad tp) (vs tp), wVs g ad vs (List.erase (List.range m) tp), wV g b v] 1 2 (Nat.le_of_ble_eq_true rfl) (Nat.le_of_ble_eq_true rfl)) mc_X4_copyFrom kl_X1_29 mi_X4_copyFrom mv_X4_copyFrom kn_X4 0 rfl rfl rfl (na := 1) (by decide +kernel) rfl ⟨Nat.le_of_ble_eq_true rfl, Nat.le_of_ble_eq_true rfl⟩ ⟨rfl, rfl⟩ ⟨Nat.le_of_ble_eq_true rfl, Nat.le_of_ble_eq_true rfl⟩ (Nat.le_of_ble_eq_true rfl) (fun w_ hp_ => ?_)
  obtain rfl := hp_
  refine kw_perm (ws' := List.flatten [wPh g a ad m sz tp, wV g (ad tp) v, wVs g ad vs (List.erase (List.range m) tp), wV g b v]) (kw_pk2 [wPh g a ad m sz tp, wV g (ad tp) v, wVs g ad vs (List.erase (List.range m) tp), wV g b v] 1 2 (Nat.le_of_ble_eq_true rfl) (Nat.le_of_ble_eq_true rfl)).symm ?_
  refine kw_perm (ws' := List.flatten [wPh g a ad m sz tp, wVs g ad (va_up vs tp v) (List.range m), wV g b v]) (fl_close [wPh g a ad m sz tp] [wV g b v] (wVs_close g ad vs v (nd_rg m) (mem_rg ht))) ?_
  refine kb_aload_n X 0 dX1_put_13 rfl rfl ?_
  refine kb_aload_n X 0 dX1_put_14 rfl rfl ?_
  refine kf_get (v := .int (nI (tp))) (C := RX1) (T := TX1) (N := 3) (ci := 1) X kw_iX1 rfl 2 0 0 rfl rfl (by decide) kf_X1_13 rfl rfl dX1_put_15 ?_
  refine kb_iconst (v := (1 : Int32)) X dX1_put_18 (by decide) ?_
  refine kn_iadd X tp 1 dX1_put_19 ?_
  refine kb_aload_n X 0 dX1_put_20 rfl rfl ?_
  refine kf_get (v := .ref (a 1)) (C := RX1) (T := TX1) (N := 3) (ci := 1) X kw_iX1 rfl 0 0 0 rfl rfl (by decide) kf_X1_24 rfl rfl dX1_put_21 ?_
  refine kf_alen (v := nI m) X 4 0 1 rfl rfl rfl rfl dX1_put_24 ?_
  refine kn_irem X (tp + 1) m (by omega) (by omega) (by omega) dX1_put_25 ?_
  refine kf_put (C := RX1) (T := TX1) (N := 3) (ci := 1) (ty := .int) (B' := wPh g a ad m sz ((tp + 1) % m)) (L' := [wPh g a ad m sz ((tp + 1) % m), wVs g ad (va_up vs tp v) (List.range m), wV g b v]) X kw_iX1 tyX1 tyX1_ok nmX1 rfl 2 0 0 rfl rfl (by decide) kf_X1_13 rfl rfl (by decide +kernel) rfl rfl (Nat.le_of_ble_eq_true rfl) dX1_put_26 rfl rfl ?_
  refine kb_aload_n X 0 dX1_put_29 rfl rfl ?_
  refine kb_aload_n X 0 dX1_put_30 rfl rfl ?_
  refine kf_get (v := .ref (a 1)) (C := RX1) (T := TX1) (N := 3) (ci := 1) X kw_iX1 rfl 0 0 0 rfl rfl (by decide) kf_X1_24 rfl rfl dX1_put_31 ?_
  refine kf_alen (v := nI m) X 4 0 1 rfl rfl rfl rfl dX1_put_34 ?_
  refine kb_aload_n X 0 dX1_put_35 rfl rfl ?_
  refine kf_get (v := .int (nI (sz))) (C := RX1) (T := TX1) (N := 3) (ci := 1) X kw_iX1 rfl 1 0 0 rfl rfl (by decide) kf_X1_7 rfl rfl dX1_put_36 ?_
  refine kb_iconst (v := (1 : Int32)) X dX1_put_39 (by decide) ?_
  refine kn_iadd X sz 1 dX1_put_40 ?_
  refine kc_Si X (As := [.int (nI (m)), .int (nI (sz + 1))]) (rest := [.ref (a 0)]) (wr := (List.flatten [wPh g a ad m sz ((tp + 1) % m), wVs g ad (va_up vs tp v) (List.range m), wV g b v])) (ct_J9_min_7cf53 l g (nI (m)) (nI (sz + 1)) ) dX1_put_41 rfl (List.Perm.refl _) mc_J9_min_7cf53 kl_X1_33 ms_J9_min_7cf53 kn_J9 (na := 2) (by decide +kernel) rfl ⟨Nat.le_of_ble_eq_true rfl, Nat.le_of_ble_eq_true rfl⟩ ⟨rfl, rfl⟩ ⟨Nat.le_of_ble_eq_true rfl, Nat.le_of_ble_eq_true rfl⟩ (Nat.le_of_ble_eq_true rfl) (fun r_ w_ hp_ => ?_)
  obtain ⟨rfl, rfl⟩ := hp_
  refine kw_ws (List.nil_append _) ?_
  refine kw_top (b := .int (nI (min m (sz + 1)))) (by rw [mn_nI (by omega) (by omega)]) ?_
  refine kf_put (C := RX1) (T := TX1) (N := 3) (ci := 1) (ty := .int) (B' := wPh g a ad m (min m (sz + 1)) ((tp + 1) % m)) (L' := [wPh g a ad m (min m (sz + 1)) ((tp + 1) % m), wVs g ad (va_up vs tp v) (List.range m), wV g b v]) X kw_iX1 tyX1 tyX1_ok nmX1 rfl 1 0 0 rfl rfl (by decide) kf_X1_7 rfl rfl (by decide +kernel) rfl rfl (Nat.le_of_ble_eq_true rfl) dX1_put_44 rfl rfl ?_
  refine ke_v X Z dX1_put_47 ?_
  exact rfl

set_option maxHeartbeats 4000000 in
set_option maxRecDepth 100000 in
theorem ct_X1_takeInto (l : Launch) (g : kw_G) (a : Nat → Nat) (ad : Nat → Nat → Nat) (m sz tp : Nat) (vs : Nat → VS) (b : Nat → Nat) (v : VS) (hm : 0 < m) (hm2 : m < 100) (ht : tp < m) (hs : sz ≤ m) (hz : 0 < sz) : kMv l g yX1_takeInto cX1_takeInto 2 (kw_rm 2 0 0) 0 0 [.ref (a 0), .ref (b 0)] (List.flatten [wPh g a ad m sz tp, wVs g ad vs (List.range m), wV g b v]) (fun w => w = List.flatten [wPh g a ad m (sz - 1) ((tp + m - 1) % m), wVs g ad vs (List.range m), wV g b (vs ((tp + m - 1) % m))]) := by
  refine kMv_of (by decide +kernel) (Nat.le_of_ble_eq_true rfl) (fun x (X : kX l g RX1 cX1_takeInto 2 (kw_rm 2 0 0) x) (Z : kZv _ 0 0 x) => ?_)
  show kW x 0 0 0 [(0, .ref (a 0)), (1, .ref (b 0))] [] (List.flatten [wPh g a ad m sz tp, wVs g ad vs (List.range m), wV g b v])
  have hq_ : (tp + m - 1) % m < m := Nat.mod_lt _ hm
  refine kb_aload_n X 0 dX1_takeInto_0 rfl rfl ?_
  refine kf_get (v := .int (nI (sz))) (C := RX1) (T := TX1) (N := 3) (ci := 1) X kw_iX1 rfl 1 0 0 rfl rfl (by decide) kf_X1_7 rfl rfl dX1_takeInto_1 ?_
  refine kn_if_ne (a := sz) (tgt := 8) X (by omega) dX1_takeInto_4 (by decide) (fun c1_ => ?_) (fun c1_ => ?_)
  · skip
    refine kb_aload_n X 0 dX1_takeInto_8 rfl rfl ?_
    refine kb_aload_n X 0 dX1_takeInto_9 rfl rfl ?_
    refine kf_get (v := .int (nI (tp))) (C := RX1) (T := TX1) (N := 3) (ci := 1) X kw_iX1 rfl 2 0 0 rfl rfl (by decide) kf_X1_13 rfl rfl dX1_takeInto_10 ?_
    refine kb_aload_n X 0 dX1_takeInto_13 rfl rfl ?_
    refine kf_get (v := .ref (a 1)) (C := RX1) (T := TX1) (N := 3) (ci := 1) X kw_iX1 rfl 0 0 0 rfl rfl (by decide) kf_X1_24 rfl rfl dX1_takeInto_14 ?_
    refine kf_alen (v := nI m) X 4 0 1 rfl rfl rfl rfl dX1_takeInto_17 ?_
    refine kn_iadd X tp m dX1_takeInto_18 ?_
    refine kb_iconst (v := (1 : Int32)) X dX1_takeInto_19 (by decide) ?_
    refine kn_isub X (tp + m) 1 (by omega) dX1_takeInto_20 ?_
    refine kb_aload_n X 0 dX1_takeInto_21 rfl rfl ?_
    refine kf_get (v := .ref (a 1)) (C := RX1) (T := TX1) (N := 3) (ci := 1) X kw_iX1 rfl 0 0 0 rfl rfl (by decide) kf_X1_24 rfl rfl dX1_takeInto_22 ?_
    refine kf_alen (v := nI m) X 4 0 1 rfl rfl rfl rfl dX1_takeInto_25 ?_
    refine kn_irem X ((tp + m) - 1) m (by omega) (by omega) (by omega) dX1_takeInto_26 ?_
    refine kf_put (C := RX1) (T := TX1) (N := 3) (ci := 1) (ty := .int) (B' := wPh g a ad m sz (((tp + m) - 1) % m)) (L' := [wPh g a ad m sz (((tp + m) - 1) % m), wVs g ad vs (List.range m), wV g b v]) X kw_iX1 tyX1 tyX1_ok nmX1 rfl 2 0 0 rfl rfl (by decide) kf_X1_13 rfl rfl (by decide +kernel) rfl rfl (Nat.le_of_ble_eq_true rfl) dX1_takeInto_27 rfl rfl ?_
    refine kb_aload_n X 1 dX1_takeInto_30 rfl rfl ?_
    refine kb_aload_n X 0 dX1_takeInto_31 rfl rfl ?_
    refine kf_get (v := .ref (a 1)) (C := RX1) (T := TX1) (N := 3) (ci := 1) X kw_iX1 rfl 0 0 0 rfl rfl (by decide) kf_X1_24 rfl rfl dX1_takeInto_32 ?_
    refine kb_aload_n X 0 dX1_takeInto_35 rfl rfl ?_
    refine kf_get (v := .int (nI (((tp + m) - 1) % m))) (C := RX1) (T := TX1) (N := 3) (ci := 1) X kw_iX1 rfl 2 0 0 rfl rfl (by decide) kf_X1_13 rfl rfl dX1_takeInto_36 ?_
    refine kf_qald (j := ((tp + m) - 1) % m) X 0 1 rfl rfl hq_ (by omega) rfl dX1_takeInto_39 ?_
    refine kw_perm (ws' := List.flatten [wPh g a ad m sz (((tp + m) - 1) % m), wV g (ad ((tp + m - 1) % m)) (vs ((tp + m - 1) % m)), wVs g ad vs (List.erase (List.range m) ((tp + m - 1) % m)), wV g b v]) (fl_open [wPh g a ad m sz (((tp + m) - 1) % m)] [wV g b v] (wVs_open g ad vs (mem_rg hq_))) ?_
    refine kc_Vv X (As := [.ref (ad (((tp + m) - 1) % m) 0)]) (rest := []) (wr := List.flatten [wPh g a ad m sz (((tp + m) - 1) % m), wVs g ad vs (List.erase (List.range m) ((tp + m - 1) % m))]) (ct_X4_copyFrom l g b (ad ((tp + m - 1) % m)) v (vs ((tp + m - 1) % m)) ) dX1_takeInto_40 rfl (kw_pk2 [wPh g a ad m sz (((tp + m) - 1) % m), wV g (ad ((tp + m - 1) % m)) (vs ((tp + m - 1) % m)), wVs g ad vs (List.erase (List.range m) ((tp + m - 1) % m)), wV g b v] 3 1 (Nat.le_of_ble_eq_true rfl) (Nat.le_of_ble_eq_true rfl)) mc_X4_copyFrom kl_X1_29 mi_X4_copyFrom mv_X4_copyFrom kn_X4 0 rfl rfl rfl (na := 1) (by decide +kernel) rfl ⟨Nat.le_of_ble_eq_true rfl, Nat.le_of_ble_eq_true rfl⟩ ⟨rfl, rfl⟩ ⟨Nat.le_of_ble_eq_true rfl, Nat.le_of_ble_eq_true rfl⟩ (Nat.le_of_ble_eq_true rfl) (fun w_ hp_ => ?_)
    obtain rfl := hp_
    refine kw_perm (ws' := List.flatten [wPh g a ad m sz (((tp + m) - 1) % m), wV g (ad ((tp + m - 1) % m)) (vs ((tp + m - 1) % m)), wVs g ad vs (List.erase (List.range m) ((tp + m - 1) % m)), wV g b (vs ((tp + m - 1) % m))]) (kw_pk2 [wPh g a ad m sz (((tp + m) - 1) % m), wV g (ad ((tp + m - 1) % m)) (vs ((tp + m - 1) % m)), wVs g ad vs (List.erase (List.range m) ((tp + m - 1) % m)), wV g b (vs ((tp + m - 1) % m))] 3 1 (Nat.le_of_ble_eq_true rfl) (Nat.le_of_ble_eq_true rfl)).symm ?_
    refine kw_perm (ws' := List.flatten [wPh g a ad m sz (((tp + m) - 1) % m), wVs g ad (va_up vs ((tp + m - 1) % m) (vs ((tp + m - 1) % m))) (List.range m), wV g b (vs ((tp + m - 1) % m))]) (fl_close [wPh g a ad m sz (((tp + m) - 1) % m)] [wV g b (vs ((tp + m - 1) % m))] (wVs_close g ad vs (vs ((tp + m - 1) % m)) (nd_rg m) (mem_rg hq_))) ?_
    rw [va_up_same]
    refine kb_aload_n X 0 dX1_takeInto_43 rfl rfl ?_
    refine kb_dup X dX1_takeInto_44 rfl ?_
    refine kf_get (v := .int (nI (sz))) (C := RX1) (T := TX1) (N := 3) (ci := 1) X kw_iX1 rfl 1 0 0 rfl rfl (by decide) kf_X1_7 rfl rfl dX1_takeInto_45 ?_
    refine kb_iconst (v := (1 : Int32)) X dX1_takeInto_48 (by decide) ?_
    refine kn_isub X sz 1 (by omega) dX1_takeInto_49 ?_
    refine kf_put (C := RX1) (T := TX1) (N := 3) (ci := 1) (ty := .int) (B' := wPh g a ad m (sz - 1) (((tp + m) - 1) % m)) (L' := [wPh g a ad m (sz - 1) (((tp + m) - 1) % m), wVs g ad vs (List.range m), wV g b (vs ((tp + m - 1) % m))]) X kw_iX1 tyX1 tyX1_ok nmX1 rfl 1 0 0 rfl rfl (by decide) kf_X1_7 rfl rfl (by decide +kernel) rfl rfl (Nat.le_of_ble_eq_true rfl) dX1_takeInto_50 rfl rfl ?_
    refine ke_v X Z dX1_takeInto_53 ?_
    exact rfl
  · skip
    omega

set_option maxHeartbeats 4000000 in
set_option maxRecDepth 100000 in
theorem ct_X1_clear (l : Launch) (g : kw_G) (a : Nat → Nat) (ad : Nat → Nat → Nat) (m sz tp : Nat) : kMv l g yX1_clear cX1_clear 1 (kw_rm 1 0 0) 0 0 [.ref (a 0)] (wPh g a ad m sz tp) (fun w => w = wPh g a ad m 0 tp) := by
  refine kMv_of (by decide +kernel) (Nat.le_of_ble_eq_true rfl) (fun x (X : kX l g RX1 cX1_clear 1 (kw_rm 1 0 0) x) (Z : kZv _ 0 0 x) => ?_)
  show kW x 0 0 0 [(0, .ref (a 0))] [] (wPh g a ad m sz tp)
  refine kb_aload_n X 0 dX1_clear_0 rfl rfl ?_
  refine kb_iconst (v := (0 : Int32)) X dX1_clear_1 (by decide) ?_
  refine kb_put X (C := RX1) (T := TX1) (N := 3) (ci := 1) (ty := .int) kw_iX1 tyX1 tyX1_ok nmX1 rfl 0 1 rfl (by decide) kf_X1_7 rfl rfl (by decide +kernel) rfl rfl (Nat.le_of_ble_eq_true rfl) dX1_clear_2 (ws' := wPh g a ad m 0 tp) rfl ?_
  refine ke_v X Z dX1_clear_5 ?_
  exact rfl

set_option maxHeartbeats 4000000 in
set_option maxRecDepth 100000 in
theorem ct_X2_isSo (l : Launch) (g : kw_G) (a b : Nat → Nat) (s : SS) (v : VS) (hs : SSI s) (hv : VI v) (k : Nat) (kd tie : Int32) (hk : k < sSize s) : kMi l g yX2_isSo cX2_isSo 5 .boolean (kw_rm 4 0 0) 0 0 [.ref (a 0), .int (nI (k)), .ref (b 0), .int (kd), .int (tie)] (List.flatten [wS g a s, wV g b v]) (fun r w => r = zI (sIs s v k kd tie) ∧ w = List.flatten [wS g a s, wV g b v]) := by
  refine kMi_of (by decide +kernel) (Nat.le_of_ble_eq_true rfl) (fun x (X : kX l g RX2 cX2_isSo 5 (kw_rm 4 0 0) x) (Z : kZi .boolean _ 0 0 x) => ?_)
  show kW x 0 0 0 [(0, .ref (a 0)), (1, .int (nI (k))), (2, .ref (b 0)), (3, .int (kd)), (4, .int (tie))] [] (List.flatten [wS g a s, wV g b v])
  have hs1 := hs.1
  have hv1 := hv.1
  have hw := hs.2 k hk
  refine kb_aload_n X 0 dX2_isSo_0 rfl rfl ?_
  refine kf_get (v := .ref (a 5)) (C := RX2) (T := TX2) (N := 6) (ci := 2) X kw_iX2 rfl 4 0 0 rfl rfl (by decide) kf_X2_24 rfl rfl dX2_isSo_1 ?_
  refine kb_iload_n X 1 dX2_isSo_4 rfl rfl ?_
  refine kf_zald (j := k) X 0 5 rfl rfl (by omega) (by decide) dX2_isSo_5 ?_
  refine kb_aload_n X 2 dX2_isSo_6 rfl rfl ?_
  refine kb_aload_n X 0 dX2_isSo_7 rfl rfl ?_
  refine kf_get (v := .ref (a 1)) (C := RX2) (T := TX2) (N := 6) (ci := 2) X kw_iX2 rfl 0 0 0 rfl rfl (by decide) kf_X2_9 rfl rfl dX2_isSo_8 ?_
  refine kb_iload_n X 1 dX2_isSo_11 rfl rfl ?_
  refine kf_iald (j := k) X 0 1 rfl rfl (by omega) (by decide) dX2_isSo_12 ?_
  refine kb_iload_n X 3 dX2_isSo_13 rfl rfl ?_
  refine kb_iload X 4 dX2_isSo_14 rfl ?_
  refine kb_aload_n X 0 dX2_isSo_16 rfl rfl ?_
  refine kf_get (v := .ref (a 2)) (C := RX2) (T := TX2) (N := 6) (ci := 2) X kw_iX2 rfl 1 0 0 rfl rfl (by decide) kf_X2_15 rfl rfl dX2_isSo_17 ?_
  refine kb_iload_n X 1 dX2_isSo_20 rfl rfl ?_
  refine kf_iald (j := k) X 0 2 rfl rfl (by omega) (by decide) dX2_isSo_21 ?_
  refine kb_aload_n X 0 dX2_isSo_22 rfl rfl ?_
  refine kf_get (v := .ref (a 3)) (C := RX2) (T := TX2) (N := 6) (ci := 2) X kw_iX2 rfl 2 0 0 rfl rfl (by decide) kf_X2_18 rfl rfl dX2_isSo_23 ?_
  refine kb_iload_n X 1 dX2_isSo_26 rfl rfl ?_
  refine kf_iald (j := k) X 0 3 rfl rfl (by omega) (by decide) dX2_isSo_27 ?_
  refine kb_aload_n X 0 dX2_isSo_28 rfl rfl ?_
  refine kf_get (v := .ref (a 4)) (C := RX2) (T := TX2) (N := 6) (ci := 2) X kw_iX2 rfl 3 0 0 rfl rfl (by decide) kf_X2_21 rfl rfl dX2_isSo_29 ?_
  refine kb_iload_n X 1 dX2_isSo_32 rfl rfl ?_
  refine kf_iald (j := k) X 0 4 rfl rfl (by omega) (by decide) dX2_isSo_33 ?_
  refine kc_Vi X (As := [.int (nI (sWho s k)), .int (kd), .int (tie), .int (nI (sWhose s k)), .int (sBells s k), .int (sCakes s k)]) (rest := [.int (zI (sSo s k))]) (wr := List.flatten [wS g a s]) (ct_X4_wouldCome l g b v hv (sWho s k) kd tie (sWhose s k) (sBells s k) (sCakes s k) hw.1 hw.2) dX2_isSo_34 rfl (kw_pk [wS g a s, wV g b v] 1 (Nat.le_of_ble_eq_true rfl)) mc_X4_wouldCome kl_X2_53 mi_X4_wouldCome mv_X4_wouldCome kn_X4 0 rfl rfl rfl (na := 6) (by decide +kernel) rfl ⟨Nat.le_of_ble_eq_true rfl, Nat.le_of_ble_eq_true rfl⟩ ⟨rfl, rfl⟩ ⟨Nat.le_of_ble_eq_true rfl, Nat.le_of_ble_eq_true rfl⟩ (Nat.le_of_ble_eq_true rfl) (fun r_ w_ hp_ => ?_)
  obtain ⟨rfl, rfl⟩ := hp_
  refine kw_perm (ws' := List.flatten [wS g a s, wV g b v]) (kw_pk [wS g a s, wV g b v] 1 (Nat.le_of_ble_eq_true rfl)).symm ?_
  refine kz_icmp_ne (a := sSo s k) (b := wCome v (sWho s k) kd tie (sWhose s k) (sBells s k) (sCakes s k)) (tgt := 44) X dX2_isSo_37 (by decide) (fun c1_ => ?_) (fun c1_ => ?_)
  · skip
    refine kb_iconst (v := (0 : Int32)) X dX2_isSo_44 (by decide) ?_
    refine ke_z X Z rfl dX2_isSo_45 ?_
    exact ⟨(by first | rfl | (simp [zI, sIs, c1_]; done) | (simp [zI, sIs, c1_] <;> omega) | (simp_all [zI, sIs, c1_]; done)), (by first | rfl | (simp [zI, sIs, c1_]; done) | (simp [zI, sIs, c1_] <;> omega) | (simp_all [zI, sIs, c1_]; done))⟩
  · skip
    refine kb_iconst (v := (1 : Int32)) X dX2_isSo_40 (by decide) ?_
    refine kb_goto (tgt := 45) X dX2_isSo_41 (by decide) ?_
    refine ke_z X Z rfl dX2_isSo_45 ?_
    exact ⟨(by first | rfl | (simp [zI, sIs, c1_]; done) | (simp [zI, sIs, c1_] <;> omega) | (simp_all [zI, sIs, c1_]; done)), (by first | rfl | (simp [zI, sIs, c1_]; done) | (simp [zI, sIs, c1_] <;> omega) | (simp_all [zI, sIs, c1_]; done))⟩

set_option maxHeartbeats 4000000 in
set_option maxRecDepth 100000 in
theorem ct_X2_tieFits (l : Launch) (g : kw_G) (a b : Nat → Nat) (s : SS) (v : VS) (hs : SSI s) (hv : VI v) (p q : Nat) (tie : Int32) (hp : p < 6) (hq : q < 6) : kMi l g yX2_tieFits cX2_tieFits 7 .boolean (kw_rm 5 0 0) 0 0 [.ref (a 0), .ref (b 0), .int (nI (p)), .int (nI (q)), .int (tie)] (List.flatten [wS g a s, wV g b v]) (fun r w => r = zI (sTf s v p q tie (sSize s)) ∧ w = List.flatten [wS g a s, wV g b v]) := by
  refine kMi_of (by decide +kernel) (Nat.le_of_ble_eq_true rfl) (fun x (X : kX l g RX2 cX2_tieFits 7 (kw_rm 5 0 0) x) (Z : kZi .boolean _ 0 0 x) => ?_)
  show kW x 0 0 0 [(0, .ref (a 0)), (1, .ref (b 0)), (2, .int (nI (p))), (3, .int (nI (q))), (4, .int (tie))] [] (List.flatten [wS g a s, wV g b v])
  have hs1 := hs.1
  have hv1 := hv.1
  refine kb_iconst (v := (0 : Int32)) X dX2_tieFits_0 (by decide) ?_
  refine kb_istore X [1, 2, 3, 4, 5, 0] dX2_tieFits_1 (by decide) (lv' := [(0, .ref (a 0)), (1, .ref (b 0)), (2, .int (nI (p))), (3, .int (nI (q))), (4, .int (tie)), (5, .int 0)]) rfl ?_
  have L3 : ∀ (K_ i : Nat), i + K_ = sSize s ∧ sTf s v p q tie i = true → kW x 0 0 3 [(0, .ref (a 0)), (1, .ref (b 0)), (2, .int (nI (p))), (3, .int (nI (q))), (4, .int (tie)), (5, .int (nI (i)))] [] (List.flatten [wS g a s, wV g b v]) := by
    intro K_
    induction K_ with
    | zero =>
      intro i hh
      obtain ⟨hi, hr⟩ := id hh
      have hw : i < sSize s → sWho s i < 6 ∧ sWhose s i < 6 := hs.2 i
      refine kb_iload X 5 dX2_tieFits_3 rfl ?_
      refine kb_aload_n X 0 dX2_tieFits_5 rfl rfl ?_
      refine kf_get (v := .int (nI (sSize s))) (C := RX2) (T := TX2) (N := 6) (ci := 2) X kw_iX2 rfl 5 0 0 rfl rfl (by decide) kf_X2_28 rfl rfl dX2_tieFits_6 ?_
      refine kn_icmp_ge (a := i) (b := sSize s) (tgt := 72) X (by omega) (by omega) dX2_tieFits_9 (by decide) (fun c1_ => ?_) (fun c1_ => ?_)
      · skip
        refine kb_iconst (v := (1 : Int32)) X dX2_tieFits_72 (by decide) ?_
        refine ke_z X Z rfl dX2_tieFits_73 ?_
        exact ⟨by rw [show sSize s = i by omega, hr] <;> rfl, rfl⟩
      · skip
        have hw2 := hw c1_
        omega
    | succ K_ ih =>
      intro i hh
      obtain ⟨hi, hr⟩ := id hh
      have hw : i < sSize s → sWho s i < 6 ∧ sWhose s i < 6 := hs.2 i
      refine kb_iload X 5 dX2_tieFits_3 rfl ?_
      refine kb_aload_n X 0 dX2_tieFits_5 rfl rfl ?_
      refine kf_get (v := .int (nI (sSize s))) (C := RX2) (T := TX2) (N := 6) (ci := 2) X kw_iX2 rfl 5 0 0 rfl rfl (by decide) kf_X2_28 rfl rfl dX2_tieFits_6 ?_
      refine kn_icmp_ge (a := i) (b := sSize s) (tgt := 72) X (by omega) (by omega) dX2_tieFits_9 (by decide) (fun c2_ => ?_) (fun c2_ => ?_)
      · skip
        omega
      · skip
        have hw2 := hw c2_
        refine kb_aload_n X 0 dX2_tieFits_12 rfl rfl ?_
        refine kf_get (v := .ref (a 1)) (C := RX2) (T := TX2) (N := 6) (ci := 2) X kw_iX2 rfl 0 0 0 rfl rfl (by decide) kf_X2_9 rfl rfl dX2_tieFits_13 ?_
        refine kb_iload X 5 dX2_tieFits_16 rfl ?_
        refine kf_iald (j := i) X 0 1 rfl rfl (by omega) (by decide) dX2_tieFits_18 ?_
        refine kb_iload_n X 2 dX2_tieFits_19 rfl rfl ?_
        refine kn_icmp_ne (a := sWho s i) (b := p) (tgt := 38) X (by omega) (by omega) dX2_tieFits_20 (by decide) (fun c3_ => ?_) (fun c3_ => ?_)
        · skip
          refine kb_iconst (v := (0 : Int32)) X dX2_tieFits_38 (by decide) ?_
          refine kb_istore X [1, 2, 3, 4, 5, 6, 0] dX2_tieFits_39 (by decide) (lv' := [(0, .ref (a 0)), (1, .ref (b 0)), (2, .int (nI (p))), (3, .int (nI (q))), (4, .int (tie)), (5, .int (nI (i))), (6, .int 0)]) rfl ?_
          refine kb_iload X 6 dX2_tieFits_41 rfl ?_
          refine kb_if_eq (tgt := 66) X dX2_tieFits_43 (by decide) (fun _ => ?_) (fun q_ => absurd q_ (by decide))
          refine kw_lvs [0, 1, 2, 3, 4, 5] (lv' := [(0, .ref (a 0)), (1, .ref (b 0)), (2, .int (nI (p))), (3, .int (nI (q))), (4, .int (tie)), (5, .int (nI (i)))]) rfl ?_
          refine kb_iinc X 5 [1, 2, 3, 4, 5, 0] (v' := nI (i + 1)) dX2_tieFits_66 rfl (nI_add _ _) (by decide) (lv' := [(0, .ref (a 0)), (1, .ref (b 0)), (2, .int (nI (p))), (3, .int (nI (q))), (4, .int (tie)), (5, .int (nI (i + 1)))]) rfl ?_
          refine kb_goto (tgt := 3) X dX2_tieFits_69 (by decide) ?_
          exact kw_to (ih (i + 1) ⟨by omega, by simp [sTf, hr, c2_, c3_]⟩) rfl rfl rfl
        · skip
          refine kb_aload_n X 0 dX2_tieFits_23 rfl rfl ?_
          refine kf_get (v := .ref (a 2)) (C := RX2) (T := TX2) (N := 6) (ci := 2) X kw_iX2 rfl 1 0 0 rfl rfl (by decide) kf_X2_15 rfl rfl dX2_tieFits_24 ?_
          refine kb_iload X 5 dX2_tieFits_27 rfl ?_
          refine kf_iald (j := i) X 0 2 rfl rfl (by omega) (by decide) dX2_tieFits_29 ?_
          refine kb_iload_n X 3 dX2_tieFits_30 rfl rfl ?_
          refine kn_icmp_ne (a := sWhose s i) (b := q) (tgt := 38) X (by omega) (by omega) dX2_tieFits_31 (by decide) (fun c5_ => ?_) (fun c5_ => ?_)
          · skip
            refine kb_iconst (v := (0 : Int32)) X dX2_tieFits_38 (by decide) ?_
            refine kb_istore X [1, 2, 3, 4, 5, 6, 0] dX2_tieFits_39 (by decide) (lv' := [(0, .ref (a 0)), (1, .ref (b 0)), (2, .int (nI (p))), (3, .int (nI (q))), (4, .int (tie)), (5, .int (nI (i))), (6, .int 0)]) rfl ?_
            refine kb_iload X 6 dX2_tieFits_41 rfl ?_
            refine kb_if_eq (tgt := 66) X dX2_tieFits_43 (by decide) (fun _ => ?_) (fun q_ => absurd q_ (by decide))
            refine kw_lvs [0, 1, 2, 3, 4, 5] (lv' := [(0, .ref (a 0)), (1, .ref (b 0)), (2, .int (nI (p))), (3, .int (nI (q))), (4, .int (tie)), (5, .int (nI (i)))]) rfl ?_
            refine kb_iinc X 5 [1, 2, 3, 4, 5, 0] (v' := nI (i + 1)) dX2_tieFits_66 rfl (nI_add _ _) (by decide) (lv' := [(0, .ref (a 0)), (1, .ref (b 0)), (2, .int (nI (p))), (3, .int (nI (q))), (4, .int (tie)), (5, .int (nI (i + 1)))]) rfl ?_
            refine kb_goto (tgt := 3) X dX2_tieFits_69 (by decide) ?_
            exact kw_to (ih (i + 1) ⟨by omega, by simp [sTf, hr, c2_, c3_, c5_]⟩) rfl rfl rfl
          · skip
            refine kb_iconst (v := (1 : Int32)) X dX2_tieFits_34 (by decide) ?_
            refine kb_goto (tgt := 39) X dX2_tieFits_35 (by decide) ?_
            refine kb_istore X [1, 2, 3, 4, 5, 6, 0] dX2_tieFits_39 (by decide) (lv' := [(0, .ref (a 0)), (1, .ref (b 0)), (2, .int (nI (p))), (3, .int (nI (q))), (4, .int (tie)), (5, .int (nI (i))), (6, .int 1)]) rfl ?_
            refine kb_iload X 6 dX2_tieFits_41 rfl ?_
            refine kb_if_eq (tgt := 66) X dX2_tieFits_43 (by decide) (fun q_ => absurd q_ (by decide)) (fun _ => ?_)
            refine kb_aload_n X 0 dX2_tieFits_46 rfl rfl ?_
            refine kb_iload X 5 dX2_tieFits_47 rfl ?_
            refine kb_aload_n X 1 dX2_tieFits_49 rfl rfl ?_
            refine kb_aload_n X 1 dX2_tieFits_50 rfl rfl ?_
            refine kf_get (v := .ref (b 1)) (C := RX4) (T := TX4) (N := 11) (ci := 4) X kw_iX4 rfl 0 1 0 rfl rfl (by decide) kf_X2_40 rfl rfl dX2_tieFits_51 ?_
            refine kb_iload_n X 2 dX2_tieFits_54 rfl rfl ?_
            refine kf_iald (j := p) X 1 1 rfl rfl (by omega) (by decide) dX2_tieFits_55 ?_
            refine kb_iload X 4 dX2_tieFits_56 rfl ?_
            refine kc_Vi X (As := [.int (nI (i)), .ref (b 0), .int (vK v p), .int (tie)]) (rest := []) (wr := []) (ct_X2_isSo l g a b s v hs hv i (vK v p) tie (by omega)) dX2_tieFits_58 rfl (kw_pk2 [wS g a s, wV g b v] 0 0 (Nat.le_of_ble_eq_true rfl) (Nat.le_of_ble_eq_true rfl)) mc_X2_isSo kl_X2_45 mi_X2_isSo mv_X2_isSo kn_X2 0 rfl rfl rfl (na := 4) (by decide +kernel) rfl ⟨Nat.le_of_ble_eq_true rfl, Nat.le_of_ble_eq_true rfl⟩ ⟨rfl, rfl⟩ ⟨Nat.le_of_ble_eq_true rfl, Nat.le_of_ble_eq_true rfl⟩ (Nat.le_of_ble_eq_true rfl) (fun r_ w_ hp_ => ?_)
            obtain ⟨rfl, rfl⟩ := hp_
            refine kw_perm (ws' := List.flatten [wS g a s, wV g b v]) (kw_pk2 [wS g a s, wV g b v] 0 0 (Nat.le_of_ble_eq_true rfl) (Nat.le_of_ble_eq_true rfl)).symm ?_
            refine kz_if_ne (b := sIs s v i (vK v p) tie) (tgt := 66) X dX2_tieFits_61 (by decide) (fun c8_ => ?_) (fun c8_ => ?_)
            · skip
              refine kw_lvs [0, 1, 2, 3, 4, 5] (lv' := [(0, .ref (a 0)), (1, .ref (b 0)), (2, .int (nI (p))), (3, .int (nI (q))), (4, .int (tie)), (5, .int (nI (i)))]) rfl ?_
              refine kb_iinc X 5 [1, 2, 3, 4, 5, 0] (v' := nI (i + 1)) dX2_tieFits_66 rfl (nI_add _ _) (by decide) (lv' := [(0, .ref (a 0)), (1, .ref (b 0)), (2, .int (nI (p))), (3, .int (nI (q))), (4, .int (tie)), (5, .int (nI (i + 1)))]) rfl ?_
              refine kb_goto (tgt := 3) X dX2_tieFits_69 (by decide) ?_
              exact kw_to (ih (i + 1) ⟨by omega, by simp [sTf, hr, c2_, c3_, c5_, c8_]⟩) rfl rfl rfl
            · skip
              refine kb_iconst (v := (0 : Int32)) X dX2_tieFits_64 (by decide) ?_
              refine ke_z X Z rfl dX2_tieFits_65 ?_
              exact ⟨by rw [sTf_no (k := i) (by omega) c3_ c5_ c8_] <;> rfl, rfl⟩
  exact kw_to (L3 (sSize s) 0 ⟨by omega, rfl⟩) rfl rfl rfl

set_option maxHeartbeats 4000000 in
set_option maxRecDepth 100000 in
theorem ct_X2_kindFits (l : Launch) (g : kw_G) (a b : Nat → Nat) (s : SS) (v : VS) (hs : SSI s) (hv : VI v) (p : Nat) (kd : Int32) (hp : p < 6) : kMi l g yX2_kindFits cX2_kindFits 6 .boolean (kw_rm 5 0 0) 0 0 [.ref (a 0), .ref (b 0), .int (nI (p)), .int (kd)] (List.flatten [wS g a s, wV g b v]) (fun r w => r = zI (sKf s v p kd (sSize s)) ∧ w = List.flatten [wS g a s, wV g b v]) := by
  refine kMi_of (by decide +kernel) (Nat.le_of_ble_eq_true rfl) (fun x (X : kX l g RX2 cX2_kindFits 6 (kw_rm 5 0 0) x) (Z : kZi .boolean _ 0 0 x) => ?_)
  show kW x 0 0 0 [(0, .ref (a 0)), (1, .ref (b 0)), (2, .int (nI (p))), (3, .int (kd))] [] (List.flatten [wS g a s, wV g b v])
  have hs1 := hs.1
  have hv1 := hv.1
  refine kb_iconst (v := (0 : Int32)) X dX2_kindFits_0 (by decide) ?_
  refine kb_istore X [1, 2, 3, 4, 0] dX2_kindFits_1 (by decide) (lv' := [(0, .ref (a 0)), (1, .ref (b 0)), (2, .int (nI (p))), (3, .int (kd)), (4, .int 0)]) rfl ?_
  have L3 : ∀ (K_ i : Nat), i + K_ = sSize s ∧ sKf s v p kd i = true → kW x 0 0 3 [(0, .ref (a 0)), (1, .ref (b 0)), (2, .int (nI (p))), (3, .int (kd)), (4, .int (nI (i)))] [] (List.flatten [wS g a s, wV g b v]) := by
    intro K_
    induction K_ with
    | zero =>
      intro i hh
      obtain ⟨hi, hr⟩ := id hh
      have hw : i < sSize s → sWho s i < 6 ∧ sWhose s i < 6 := hs.2 i
      refine kb_iload X 4 dX2_kindFits_3 rfl ?_
      refine kb_aload_n X 0 dX2_kindFits_5 rfl rfl ?_
      refine kf_get (v := .int (nI (sSize s))) (C := RX2) (T := TX2) (N := 6) (ci := 2) X kw_iX2 rfl 5 0 0 rfl rfl (by decide) kf_X2_28 rfl rfl dX2_kindFits_6 ?_
      refine kn_icmp_ge (a := i) (b := sSize s) (tgt := 66) X (by omega) (by omega) dX2_kindFits_9 (by decide) (fun c1_ => ?_) (fun c1_ => ?_)
      · skip
        refine kb_iconst (v := (1 : Int32)) X dX2_kindFits_66 (by decide) ?_
        refine ke_z X Z rfl dX2_kindFits_67 ?_
        exact ⟨by rw [show sSize s = i by omega, hr] <;> rfl, rfl⟩
      · skip
        have hw2 := hw c1_
        omega
    | succ K_ ih =>
      intro i hh
      obtain ⟨hi, hr⟩ := id hh
      have hw : i < sSize s → sWho s i < 6 ∧ sWhose s i < 6 := hs.2 i
      refine kb_iload X 4 dX2_kindFits_3 rfl ?_
      refine kb_aload_n X 0 dX2_kindFits_5 rfl rfl ?_
      refine kf_get (v := .int (nI (sSize s))) (C := RX2) (T := TX2) (N := 6) (ci := 2) X kw_iX2 rfl 5 0 0 rfl rfl (by decide) kf_X2_28 rfl rfl dX2_kindFits_6 ?_
      refine kn_icmp_ge (a := i) (b := sSize s) (tgt := 66) X (by omega) (by omega) dX2_kindFits_9 (by decide) (fun c2_ => ?_) (fun c2_ => ?_)
      · skip
        omega
      · skip
        have hw2 := hw c2_
        refine kb_aload_n X 0 dX2_kindFits_12 rfl rfl ?_
        refine kf_get (v := .ref (a 1)) (C := RX2) (T := TX2) (N := 6) (ci := 2) X kw_iX2 rfl 0 0 0 rfl rfl (by decide) kf_X2_9 rfl rfl dX2_kindFits_13 ?_
        refine kb_iload X 4 dX2_kindFits_16 rfl ?_
        refine kf_iald (j := i) X 0 1 rfl rfl (by omega) (by decide) dX2_kindFits_18 ?_
        refine kb_iload_n X 2 dX2_kindFits_19 rfl rfl ?_
        refine kn_icmp_ne (a := sWho s i) (b := p) (tgt := 27) X (by omega) (by omega) dX2_kindFits_20 (by decide) (fun c3_ => ?_) (fun c3_ => ?_)
        · skip
          refine kb_iconst (v := (0 : Int32)) X dX2_kindFits_27 (by decide) ?_
          refine kb_istore X [1, 2, 3, 4, 5, 0] dX2_kindFits_28 (by decide) (lv' := [(0, .ref (a 0)), (1, .ref (b 0)), (2, .int (nI (p))), (3, .int (kd)), (4, .int (nI (i))), (5, .int 0)]) rfl ?_
          refine kb_iload X 5 dX2_kindFits_30 rfl ?_
          refine kb_if_eq (tgt := 60) X dX2_kindFits_32 (by decide) (fun _ => ?_) (fun q_ => absurd q_ (by decide))
          refine kw_lvs [0, 1, 2, 3, 4] (lv' := [(0, .ref (a 0)), (1, .ref (b 0)), (2, .int (nI (p))), (3, .int (kd)), (4, .int (nI (i)))]) rfl ?_
          refine kb_iinc X 4 [1, 2, 3, 4, 0] (v' := nI (i + 1)) dX2_kindFits_60 rfl (nI_add _ _) (by decide) (lv' := [(0, .ref (a 0)), (1, .ref (b 0)), (2, .int (nI (p))), (3, .int (kd)), (4, .int (nI (i + 1)))]) rfl ?_
          refine kb_goto (tgt := 3) X dX2_kindFits_63 (by decide) ?_
          exact kw_to (ih (i + 1) ⟨by omega, by simp [sKf, hr, c2_, c3_]⟩) rfl rfl rfl
        · skip
          refine kb_iconst (v := (1 : Int32)) X dX2_kindFits_23 (by decide) ?_
          refine kb_goto (tgt := 28) X dX2_kindFits_24 (by decide) ?_
          refine kb_istore X [1, 2, 3, 4, 5, 0] dX2_kindFits_28 (by decide) (lv' := [(0, .ref (a 0)), (1, .ref (b 0)), (2, .int (nI (p))), (3, .int (kd)), (4, .int (nI (i))), (5, .int 1)]) rfl ?_
          refine kb_iload X 5 dX2_kindFits_30 rfl ?_
          refine kb_if_eq (tgt := 60) X dX2_kindFits_32 (by decide) (fun q_ => absurd q_ (by decide)) (fun _ => ?_)
          refine kb_aload_n X 0 dX2_kindFits_35 rfl rfl ?_
          refine kb_iload X 4 dX2_kindFits_36 rfl ?_
          refine kb_aload_n X 1 dX2_kindFits_38 rfl rfl ?_
          refine kb_iload_n X 3 dX2_kindFits_39 rfl rfl ?_
          refine kb_aload_n X 1 dX2_kindFits_40 rfl rfl ?_
          refine kb_iload_n X 2 dX2_kindFits_41 rfl rfl ?_
          refine kb_aload_n X 0 dX2_kindFits_42 rfl rfl ?_
          refine kf_get (v := .ref (a 2)) (C := RX2) (T := TX2) (N := 6) (ci := 2) X kw_iX2 rfl 1 0 0 rfl rfl (by decide) kf_X2_15 rfl rfl dX2_kindFits_43 ?_
          refine kb_iload X 4 dX2_kindFits_46 rfl ?_
          refine kf_iald (j := i) X 0 2 rfl rfl (by omega) (by decide) dX2_kindFits_48 ?_
          refine kc_Vi X (As := [.int (nI (p)), .int (nI (sWhose s i))]) (rest := [.int (kd), .ref (b 0), .int (nI (i)), .ref (a 0)]) (wr := List.flatten [wS g a s]) (ct_X4_tieOf l g b v p (sWhose s i) (by omega) (by omega)) dX2_kindFits_49 rfl (kw_pk [wS g a s, wV g b v] 1 (Nat.le_of_ble_eq_true rfl)) mc_X4_tieOf kl_X2_49 mi_X4_tieOf mv_X4_tieOf kn_X4 0 rfl rfl rfl (na := 2) (by decide +kernel) rfl ⟨Nat.le_of_ble_eq_true rfl, Nat.le_of_ble_eq_true rfl⟩ ⟨rfl, rfl⟩ ⟨Nat.le_of_ble_eq_true rfl, Nat.le_of_ble_eq_true rfl⟩ (Nat.le_of_ble_eq_true rfl) (fun r_ w_ hp_ => ?_)
          obtain ⟨rfl, rfl⟩ := hp_
          refine kw_perm (ws' := List.flatten [wS g a s, wV g b v]) (kw_pk [wS g a s, wV g b v] 1 (Nat.le_of_ble_eq_true rfl)).symm ?_
          refine kc_Vi X (As := [.int (nI (i)), .ref (b 0), .int (kd), .int (vT v (p * 6 + (sWhose s i)))]) (rest := []) (wr := []) (ct_X2_isSo l g a b s v hs hv i kd (vT v (p * 6 + (sWhose s i))) (by omega)) dX2_kindFits_52 rfl (kw_pk2 [wS g a s, wV g b v] 0 0 (Nat.le_of_ble_eq_true rfl) (Nat.le_of_ble_eq_true rfl)) mc_X2_isSo kl_X2_45 mi_X2_isSo mv_X2_isSo kn_X2 0 rfl rfl rfl (na := 4) (by decide +kernel) rfl ⟨Nat.le_of_ble_eq_true rfl, Nat.le_of_ble_eq_true rfl⟩ ⟨rfl, rfl⟩ ⟨Nat.le_of_ble_eq_true rfl, Nat.le_of_ble_eq_true rfl⟩ (Nat.le_of_ble_eq_true rfl) (fun r_ w_ hp_ => ?_)
          obtain ⟨rfl, rfl⟩ := hp_
          refine kw_perm (ws' := List.flatten [wS g a s, wV g b v]) (kw_pk2 [wS g a s, wV g b v] 0 0 (Nat.le_of_ble_eq_true rfl) (Nat.le_of_ble_eq_true rfl)).symm ?_
          refine kz_if_ne (b := sIs s v i kd (vT v (p * 6 + (sWhose s i)))) (tgt := 60) X dX2_kindFits_55 (by decide) (fun c6_ => ?_) (fun c6_ => ?_)
          · skip
            refine kw_lvs [0, 1, 2, 3, 4] (lv' := [(0, .ref (a 0)), (1, .ref (b 0)), (2, .int (nI (p))), (3, .int (kd)), (4, .int (nI (i)))]) rfl ?_
            refine kb_iinc X 4 [1, 2, 3, 4, 0] (v' := nI (i + 1)) dX2_kindFits_60 rfl (nI_add _ _) (by decide) (lv' := [(0, .ref (a 0)), (1, .ref (b 0)), (2, .int (nI (p))), (3, .int (kd)), (4, .int (nI (i + 1)))]) rfl ?_
            refine kb_goto (tgt := 3) X dX2_kindFits_63 (by decide) ?_
            exact kw_to (ih (i + 1) ⟨by omega, by simp [sKf, hr, c2_, c3_, c6_]⟩) rfl rfl rfl
          · skip
            refine kb_iconst (v := (0 : Int32)) X dX2_kindFits_58 (by decide) ?_
            refine ke_z X Z rfl dX2_kindFits_59 ?_
            exact ⟨by rw [sKf_no (k := i) (by omega) c3_ c6_] <;> rfl, rfl⟩
  exact kw_to (L3 (sSize s) 0 ⟨by omega, rfl⟩) rfl rfl rfl

set_option maxHeartbeats 4000000 in
set_option maxRecDepth 100000 in
theorem ct_X2_tiesThatFit (l : Launch) (g : kw_G) (a b : Nat → Nat) (s : SS) (v : VS) (hs : SSI s) (hv : VI v) (p q : Nat) (hp : p < 6) (hq : q < 6) : kMi l g yX2_tiesThatFit cX2_tiesThatFit 6 .int (kw_rm 6 0 0) 0 0 [.ref (a 0), .ref (b 0), .int (nI (p)), .int (nI (q))] (List.flatten [wS g a s, wV g b v]) (fun r w => r = nI (sTb s v p q 10) ∧ w = List.flatten [wS g a s, wV g b v]) := by
  refine kMi_of (by decide +kernel) (Nat.le_of_ble_eq_true rfl) (fun x (X : kX l g RX2 cX2_tiesThatFit 6 (kw_rm 6 0 0) x) (Z : kZi .int _ 0 0 x) => ?_)
  show kW x 0 0 0 [(0, .ref (a 0)), (1, .ref (b 0)), (2, .int (nI (p))), (3, .int (nI (q)))] [] (List.flatten [wS g a s, wV g b v])
  have hs1 := hs.1
  have hv1 := hv.1
  refine kb_iconst (v := (0 : Int32)) X dX2_tiesThatFit_0 (by decide) ?_
  refine kb_istore X [1, 2, 3, 4, 0] dX2_tiesThatFit_1 (by decide) (lv' := [(0, .ref (a 0)), (1, .ref (b 0)), (2, .int (nI (p))), (3, .int (nI (q))), (4, .int 0)]) rfl ?_
  refine kb_bipush (v := (-4 : Int32)) X dX2_tiesThatFit_3 (by decide) ?_
  refine kb_istore X [1, 2, 3, 4, 5, 0] dX2_tiesThatFit_5 (by decide) (lv' := [(0, .ref (a 0)), (1, .ref (b 0)), (2, .int (nI (p))), (3, .int (nI (q))), (4, .int 0), (5, .int (-4))]) rfl ?_
  have L7 : ∀ (K_ u : Nat), u + K_ = 10 → kW x 0 0 7 [(0, .ref (a 0)), (1, .ref (b 0)), (2, .int (nI (p))), (3, .int (nI (q))), (4, .int (nI (sTb s v p q u))), (5, .int (nI u - 4))] [] (List.flatten [wS g a s, wV g b v]) := by
    intro K_
    induction K_ with
    | zero =>
      intro u hu
      refine kb_iload X 5 dX2_tiesThatFit_7 rfl ?_
      refine kb_iconst (v := (5 : Int32)) X dX2_tiesThatFit_9 (by decide) ?_
      refine kb_icmp_gt (tgt := 42) X dX2_tiesThatFit_10 (by decide) (fun c1_ => ?_) (fun c1_ => ?_)
      · skip
        have d_ := (gk_gt u (by omega)).mp c1_
        refine kb_iload X 4 dX2_tiesThatFit_42 rfl ?_
        refine ke_i X Z dX2_tiesThatFit_44 ?_
        exact ⟨by rw [show u = 10 by omega], rfl⟩
      · skip
        have d_ := mt (gk_gt u (by omega)).mpr c1_
        omega
    | succ K_ ih =>
      intro u hu
      refine kb_iload X 5 dX2_tiesThatFit_7 rfl ?_
      refine kb_iconst (v := (5 : Int32)) X dX2_tiesThatFit_9 (by decide) ?_
      refine kb_icmp_gt (tgt := 42) X dX2_tiesThatFit_10 (by decide) (fun c2_ => ?_) (fun c2_ => ?_)
      · skip
        have d_ := (gk_gt u (by omega)).mp c2_
        omega
      · skip
        have d_ := mt (gk_gt u (by omega)).mpr c2_
        refine kb_aload_n X 0 dX2_tiesThatFit_13 rfl rfl ?_
        refine kb_aload_n X 1 dX2_tiesThatFit_14 rfl rfl ?_
        refine kb_iload_n X 2 dX2_tiesThatFit_15 rfl rfl ?_
        refine kb_iload_n X 3 dX2_tiesThatFit_16 rfl rfl ?_
        refine kb_iload X 5 dX2_tiesThatFit_17 rfl ?_
        refine kc_Vi X (As := [.ref (b 0), .int (nI (p)), .int (nI (q)), .int (nI u - 4)]) (rest := []) (wr := []) (ct_X2_tieFits l g a b s v hs hv p q (nI u - 4) (by omega) (by omega)) dX2_tiesThatFit_19 rfl (kw_pk2 [wS g a s, wV g b v] 0 0 (Nat.le_of_ble_eq_true rfl) (Nat.le_of_ble_eq_true rfl)) mc_X2_tieFits kl_X2_32 mi_X2_tieFits mv_X2_tieFits kn_X2 0 rfl rfl rfl (na := 4) (by decide +kernel) rfl ⟨Nat.le_of_ble_eq_true rfl, Nat.le_of_ble_eq_true rfl⟩ ⟨rfl, rfl⟩ ⟨Nat.le_of_ble_eq_true rfl, Nat.le_of_ble_eq_true rfl⟩ (Nat.le_of_ble_eq_true rfl) (fun r_ w_ hp_ => ?_)
        obtain ⟨rfl, rfl⟩ := hp_
        refine kw_perm (ws' := List.flatten [wS g a s, wV g b v]) (kw_pk2 [wS g a s, wV g b v] 0 0 (Nat.le_of_ble_eq_true rfl) (Nat.le_of_ble_eq_true rfl)).symm ?_
        refine kz_if_eq (b := sTf s v p q (nI u - 4) (sSize s)) (tgt := 36) X dX2_tiesThatFit_22 (by decide) (fun c3_ => ?_) (fun c3_ => ?_)
        · skip
          refine kb_iinc X 5 [1, 2, 3, 4, 5, 0] (v' := (nI u - 4) + (1 : Int32)) dX2_tiesThatFit_36 rfl rfl (by decide) (lv' := [(0, .ref (a 0)), (1, .ref (b 0)), (2, .int (nI (p))), (3, .int (nI (q))), (4, .int (nI (sTb s v p q u))), (5, .int ((nI u - 4) + (1 : Int32)))]) rfl ?_
          refine kw_lv (lv' := [(0, .ref (a 0)), (1, .ref (b 0)), (2, .int (nI (p))), (3, .int (nI (q))), (4, .int (nI (sTb s v p q u))), (5, .int (nI (u + 1) - 4))]) (by rw [gk_inc u (by omega)]) ?_
          refine kb_goto (tgt := 7) X dX2_tiesThatFit_39 (by decide) ?_
          exact kw_to (ih (u + 1) (by omega)) (by simp [sTb, c2_, c3_]) rfl rfl
        · skip
          refine kb_iload X 4 dX2_tiesThatFit_25 rfl ?_
          refine kb_iconst (v := (1 : Int32)) X dX2_tiesThatFit_27 (by decide) ?_
          refine kb_iload X 5 dX2_tiesThatFit_28 rfl ?_
          refine kb_iconst (v := (4 : Int32)) X dX2_tiesThatFit_30 (by decide) ?_
          refine kb_iadd X dX2_tiesThatFit_31 ?_
          refine kw_top (b := .int (nI (u))) (by rw [gk_4 u (by omega)]) ?_
          refine kb_ishl X dX2_tiesThatFit_32 ?_
          refine kb_ior X dX2_tiesThatFit_33 ?_
          refine kw_top (b := .int (nI (sTb s v p q u + 2 ^ u))) (by rw [gs_or (sTb_lt s v p q u) (by omega)]) ?_
          refine kb_istore X [1, 2, 3, 4, 0, 5] dX2_tiesThatFit_34 (by decide) (lv' := [(0, .ref (a 0)), (1, .ref (b 0)), (2, .int (nI (p))), (3, .int (nI (q))), (4, .int (nI (sTb s v p q u + 2 ^ u))), (5, .int (nI u - 4))]) rfl ?_
          refine kb_iinc X 5 [1, 2, 3, 4, 5, 0] (v' := (nI u - 4) + (1 : Int32)) dX2_tiesThatFit_36 rfl rfl (by decide) (lv' := [(0, .ref (a 0)), (1, .ref (b 0)), (2, .int (nI (p))), (3, .int (nI (q))), (4, .int (nI (sTb s v p q u + 2 ^ u))), (5, .int ((nI u - 4) + (1 : Int32)))]) rfl ?_
          refine kw_lv (lv' := [(0, .ref (a 0)), (1, .ref (b 0)), (2, .int (nI (p))), (3, .int (nI (q))), (4, .int (nI (sTb s v p q u + 2 ^ u))), (5, .int (nI (u + 1) - 4))]) (by rw [gk_inc u (by omega)]) ?_
          refine kb_goto (tgt := 7) X dX2_tiesThatFit_39 (by decide) ?_
          exact kw_to (ih (u + 1) (by omega)) (by simp [sTb, c2_, c3_]) rfl rfl
  exact kw_to (L7 10 0 rfl) rfl rfl rfl

set_option maxHeartbeats 4000000 in
set_option maxRecDepth 100000 in
theorem ct_X2_kindsThatFit (l : Launch) (g : kw_G) (a b : Nat → Nat) (s : SS) (v : VS) (hs : SSI s) (hv : VI v) (p : Nat) (hp : p < 6) : kMi l g yX2_kindsThatFit cX2_kindsThatFit 5 .int (kw_rm 6 0 0) 0 0 [.ref (a 0), .ref (b 0), .int (nI (p))] (List.flatten [wS g a s, wV g b v]) (fun r w => r = nI (sKb s v p 5) ∧ w = List.flatten [wS g a s, wV g b v]) := by
  refine kMi_of (by decide +kernel) (Nat.le_of_ble_eq_true rfl) (fun x (X : kX l g RX2 cX2_kindsThatFit 5 (kw_rm 6 0 0) x) (Z : kZi .int _ 0 0 x) => ?_)
  show kW x 0 0 0 [(0, .ref (a 0)), (1, .ref (b 0)), (2, .int (nI (p)))] [] (List.flatten [wS g a s, wV g b v])
  have hs1 := hs.1
  have hv1 := hv.1
  refine kb_iconst (v := (0 : Int32)) X dX2_kindsThatFit_0 (by decide) ?_
  refine kb_istore_n X [1, 2, 3, 0] dX2_kindsThatFit_1 rfl (by decide) (lv' := [(0, .ref (a 0)), (1, .ref (b 0)), (2, .int (nI (p))), (3, .int 0)]) rfl ?_
  refine kb_iconst (v := (0 : Int32)) X dX2_kindsThatFit_2 (by decide) ?_
  refine kb_istore X [1, 2, 3, 4, 0] dX2_kindsThatFit_3 (by decide) (lv' := [(0, .ref (a 0)), (1, .ref (b 0)), (2, .int (nI (p))), (3, .int 0), (4, .int 0)]) rfl ?_
  have L5 : ∀ (K_ u : Nat), u + K_ = 5 → kW x 0 0 5 [(0, .ref (a 0)), (1, .ref (b 0)), (2, .int (nI (p))), (3, .int (nI (sKb s v p u))), (4, .int (nI (u)))] [] (List.flatten [wS g a s, wV g b v]) := by
    intro K_
    induction K_ with
    | zero =>
      intro u hu
      refine kb_iload X 4 dX2_kindsThatFit_5 rfl ?_
      refine kb_iconst (v := (4 : Int32)) X dX2_kindsThatFit_7 (by decide) ?_
      refine kn_icmp_gt (a := u) (b := 4) (tgt := 35) X (by omega) (by omega) dX2_kindsThatFit_8 (by decide) (fun c1_ => ?_) (fun c1_ => ?_)
      · skip
        refine kb_iload_n X 3 dX2_kindsThatFit_35 rfl rfl ?_
        refine ke_i X Z dX2_kindsThatFit_36 ?_
        exact ⟨by rw [show u = 5 by omega], rfl⟩
      · skip
        omega
    | succ K_ ih =>
      intro u hu
      refine kb_iload X 4 dX2_kindsThatFit_5 rfl ?_
      refine kb_iconst (v := (4 : Int32)) X dX2_kindsThatFit_7 (by decide) ?_
      refine kn_icmp_gt (a := u) (b := 4) (tgt := 35) X (by omega) (by omega) dX2_kindsThatFit_8 (by decide) (fun c2_ => ?_) (fun c2_ => ?_)
      · skip
        omega
      · skip
        refine kb_aload_n X 0 dX2_kindsThatFit_11 rfl rfl ?_
        refine kb_aload_n X 1 dX2_kindsThatFit_12 rfl rfl ?_
        refine kb_iload_n X 2 dX2_kindsThatFit_13 rfl rfl ?_
        refine kb_iload X 4 dX2_kindsThatFit_14 rfl ?_
        refine kc_Vi X (As := [.ref (b 0), .int (nI (p)), .int (nI (u))]) (rest := []) (wr := []) (ct_X2_kindFits l g a b s v hs hv p (nI (u)) (by omega)) dX2_kindsThatFit_16 rfl (kw_pk2 [wS g a s, wV g b v] 0 0 (Nat.le_of_ble_eq_true rfl) (Nat.le_of_ble_eq_true rfl)) mc_X2_kindFits kl_X2_36 mi_X2_kindFits mv_X2_kindFits kn_X2 0 rfl rfl rfl (na := 3) (by decide +kernel) rfl ⟨Nat.le_of_ble_eq_true rfl, Nat.le_of_ble_eq_true rfl⟩ ⟨rfl, rfl⟩ ⟨Nat.le_of_ble_eq_true rfl, Nat.le_of_ble_eq_true rfl⟩ (Nat.le_of_ble_eq_true rfl) (fun r_ w_ hp_ => ?_)
        obtain ⟨rfl, rfl⟩ := hp_
        refine kw_perm (ws' := List.flatten [wS g a s, wV g b v]) (kw_pk2 [wS g a s, wV g b v] 0 0 (Nat.le_of_ble_eq_true rfl) (Nat.le_of_ble_eq_true rfl)).symm ?_
        refine kz_if_eq (b := sKf s v p (nI (u)) (sSize s)) (tgt := 29) X dX2_kindsThatFit_19 (by decide) (fun c3_ => ?_) (fun c3_ => ?_)
        · skip
          refine kb_iinc X 4 [1, 2, 3, 4, 0] (v' := nI (u + 1)) dX2_kindsThatFit_29 rfl (nI_add _ _) (by decide) (lv' := [(0, .ref (a 0)), (1, .ref (b 0)), (2, .int (nI (p))), (3, .int (nI (sKb s v p u))), (4, .int (nI (u + 1)))]) rfl ?_
          refine kb_goto (tgt := 5) X dX2_kindsThatFit_32 (by decide) ?_
          exact kw_to (ih (u + 1) (by omega)) (by simp [sKb, c2_, c3_]) rfl rfl
        · skip
          refine kb_iload_n X 3 dX2_kindsThatFit_22 rfl rfl ?_
          refine kb_iconst (v := (1 : Int32)) X dX2_kindsThatFit_23 (by decide) ?_
          refine kb_iload X 4 dX2_kindsThatFit_24 rfl ?_
          refine kb_ishl X dX2_kindsThatFit_26 ?_
          refine kb_ior X dX2_kindsThatFit_27 ?_
          refine kw_top (b := .int (nI (sKb s v p u + 2 ^ u))) (by rw [gs_or (sKb_lt s v p u) (by omega)]) ?_
          refine kb_istore_n X [1, 2, 3, 0, 4] dX2_kindsThatFit_28 rfl (by decide) (lv' := [(0, .ref (a 0)), (1, .ref (b 0)), (2, .int (nI (p))), (3, .int (nI (sKb s v p u + 2 ^ u))), (4, .int (nI (u)))]) rfl ?_
          refine kb_iinc X 4 [1, 2, 3, 4, 0] (v' := nI (u + 1)) dX2_kindsThatFit_29 rfl (nI_add _ _) (by decide) (lv' := [(0, .ref (a 0)), (1, .ref (b 0)), (2, .int (nI (p))), (3, .int (nI (sKb s v p u + 2 ^ u))), (4, .int (nI (u + 1)))]) rfl ?_
          refine kb_goto (tgt := 5) X dX2_kindsThatFit_32 (by decide) ?_
          exact kw_to (ih (u + 1) (by omega)) (by simp [sKb, c2_, c3_]) rfl rfl
  exact kw_to (L5 5 0 rfl) rfl rfl rfl

set_option maxHeartbeats 4000000 in
set_option maxRecDepth 100000 in
theorem ct_X2_add (l : Launch) (g : kw_G) (a : Nat → Nat) (s : SS) (p q : Nat) (b c : Int32) (w : Bool) (hs : sSize s < 6) : kMv l g yX2_add cX2_add 6 (kw_rm 1 0 0) 0 0 [.ref (a 0), .int (nI (p)), .int (nI (q)), .int (b), .int (c), .int (zI (w))] (wS g a (sWho s, sWhose s, sBells s, sCakes s, sSo s, sSize s)) (fun z => z = wS g a (sAdd s p q b c w)) := by
  refine kMv_of (by decide +kernel) (Nat.le_of_ble_eq_true rfl) (fun x (X : kX l g RX2 cX2_add 6 (kw_rm 1 0 0) x) (Z : kZv _ 0 0 x) => ?_)
  show kW x 0 0 0 [(0, .ref (a 0)), (1, .int (nI (p))), (2, .int (nI (q))), (3, .int (b)), (4, .int (c)), (5, .int (zI (w)))] [] (wS g a (sWho s, sWhose s, sBells s, sCakes s, sSo s, sSize s))
  refine kb_aload_n X 0 dX2_add_0 rfl rfl ?_
  refine kb_get (v := .int (nI (sSize s))) (C := RX2) (T := TX2) (N := 6) (ci := 2) X kw_iX2 rfl 0 5 rfl (by decide) kf_X2_28 rfl rfl dX2_add_1 ?_
  refine kb_bipush (v := (6 : Int32)) X dX2_add_4 (by decide) ?_
  refine kn_icmp_lt (a := sSize s) (b := 6) (tgt := 10) X (by omega) (by omega) dX2_add_6 (by decide) (fun c1_ => ?_) (fun c1_ => ?_)
  · skip
    refine kb_aload_n X 0 dX2_add_10 rfl rfl ?_
    refine kb_get (v := .ref (a 1)) (C := RX2) (T := TX2) (N := 6) (ci := 2) X kw_iX2 rfl 0 0 rfl (by decide) kf_X2_9 rfl rfl dX2_add_11 ?_
    refine kb_aload_n X 0 dX2_add_14 rfl rfl ?_
    refine kb_get (v := .int (nI (sSize s))) (C := RX2) (T := TX2) (N := 6) (ci := 2) X kw_iX2 rfl 0 5 rfl (by decide) kf_X2_28 rfl rfl dX2_add_15 ?_
    refine kb_iload_n X 1 dX2_add_18 rfl rfl ?_
    refine kb_iast (i := sSize s) X 1 rfl (by omega) (by decide) dX2_add_19 (ws' := wS g a (va_up (sWho s) (sSize s) p, sWhose s, sBells s, sCakes s, sSo s, sSize s)) (by first | rfl | (rw [upd_nI]; rfl)) ?_
    refine kb_aload_n X 0 dX2_add_20 rfl rfl ?_
    refine kb_get (v := .ref (a 2)) (C := RX2) (T := TX2) (N := 6) (ci := 2) X kw_iX2 rfl 0 1 rfl (by decide) kf_X2_15 rfl rfl dX2_add_21 ?_
    refine kb_aload_n X 0 dX2_add_24 rfl rfl ?_
    refine kb_get (v := .int (nI (sSize s))) (C := RX2) (T := TX2) (N := 6) (ci := 2) X kw_iX2 rfl 0 5 rfl (by decide) kf_X2_28 rfl rfl dX2_add_25 ?_
    refine kb_iload_n X 2 dX2_add_28 rfl rfl ?_
    refine kb_iast (i := sSize s) X 2 rfl (by omega) (by decide) dX2_add_29 (ws' := wS g a (va_up (sWho s) (sSize s) p, va_up (sWhose s) (sSize s) q, sBells s, sCakes s, sSo s, sSize s)) (by first | rfl | (rw [upd_nI]; rfl)) ?_
    refine kb_aload_n X 0 dX2_add_30 rfl rfl ?_
    refine kb_get (v := .ref (a 3)) (C := RX2) (T := TX2) (N := 6) (ci := 2) X kw_iX2 rfl 0 2 rfl (by decide) kf_X2_18 rfl rfl dX2_add_31 ?_
    refine kb_aload_n X 0 dX2_add_34 rfl rfl ?_
    refine kb_get (v := .int (nI (sSize s))) (C := RX2) (T := TX2) (N := 6) (ci := 2) X kw_iX2 rfl 0 5 rfl (by decide) kf_X2_28 rfl rfl dX2_add_35 ?_
    refine kb_iload_n X 3 dX2_add_38 rfl rfl ?_
    refine kb_iast (i := sSize s) X 3 rfl (by omega) (by decide) dX2_add_39 (ws' := wS g a (va_up (sWho s) (sSize s) p, va_up (sWhose s) (sSize s) q, upd (sBells s) (sSize s) b, sCakes s, sSo s, sSize s)) rfl ?_
    refine kb_aload_n X 0 dX2_add_40 rfl rfl ?_
    refine kb_get (v := .ref (a 4)) (C := RX2) (T := TX2) (N := 6) (ci := 2) X kw_iX2 rfl 0 3 rfl (by decide) kf_X2_21 rfl rfl dX2_add_41 ?_
    refine kb_aload_n X 0 dX2_add_44 rfl rfl ?_
    refine kb_get (v := .int (nI (sSize s))) (C := RX2) (T := TX2) (N := 6) (ci := 2) X kw_iX2 rfl 0 5 rfl (by decide) kf_X2_28 rfl rfl dX2_add_45 ?_
    refine kb_iload X 4 dX2_add_48 rfl ?_
    refine kb_iast (i := sSize s) X 4 rfl (by omega) (by decide) dX2_add_50 (ws' := wS g a (va_up (sWho s) (sSize s) p, va_up (sWhose s) (sSize s) q, upd (sBells s) (sSize s) b, upd (sCakes s) (sSize s) c, sSo s, sSize s)) rfl ?_
    refine kb_aload_n X 0 dX2_add_51 rfl rfl ?_
    refine kb_get (v := .ref (a 5)) (C := RX2) (T := TX2) (N := 6) (ci := 2) X kw_iX2 rfl 0 4 rfl (by decide) kf_X2_24 rfl rfl dX2_add_52 ?_
    refine kb_aload_n X 0 dX2_add_55 rfl rfl ?_
    refine kb_get (v := .int (nI (sSize s))) (C := RX2) (T := TX2) (N := 6) (ci := 2) X kw_iX2 rfl 0 5 rfl (by decide) kf_X2_28 rfl rfl dX2_add_56 ?_
    refine kb_iload X 5 dX2_add_59 rfl ?_
    refine kb_zast (i := sSize s) X 5 rfl (by omega) (by decide) dX2_add_61 (ws' := wS g a (va_up (sWho s) (sSize s) p, va_up (sWhose s) (sSize s) q, upd (sBells s) (sSize s) b, upd (sCakes s) (sSize s) c, va_up (sSo s) (sSize s) w, sSize s)) (by rw [zI_vp, upd_zI]; rfl) ?_
    refine kb_aload_n X 0 dX2_add_62 rfl rfl ?_
    refine kb_dup X dX2_add_63 rfl ?_
    refine kb_get (v := .int (nI (sSize s))) (C := RX2) (T := TX2) (N := 6) (ci := 2) X kw_iX2 rfl 0 5 rfl (by decide) kf_X2_28 rfl rfl dX2_add_64 ?_
    refine kb_iconst (v := (1 : Int32)) X dX2_add_67 (by decide) ?_
    refine kn_iadd X (sSize s) 1 dX2_add_68 ?_
    refine kb_put X (C := RX2) (T := TX2) (N := 6) (ci := 2) (ty := .int) kw_iX2 tyX2 tyX2_ok nmX2 rfl 0 5 rfl (by decide) kf_X2_28 rfl rfl (by decide +kernel) rfl rfl (Nat.le_of_ble_eq_true rfl) dX2_add_69 (ws' := wS g a (va_up (sWho s) (sSize s) p, va_up (sWhose s) (sSize s) q, upd (sBells s) (sSize s) b, upd (sCakes s) (sSize s) c, va_up (sSo s) (sSize s) w, (sSize s) + 1)) rfl ?_
    refine ke_v X Z dX2_add_72 ?_
    exact rfl
  · skip
    omega
