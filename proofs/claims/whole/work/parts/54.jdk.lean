theorem ch_255 : ∀ k, k < 128 → ((nI k &&& 255).toUInt32 % 65536).toInt32 = nI k := by decide +kernel
set_option maxHeartbeats 4000000 in
set_option maxRecDepth 100000 in
theorem ct_J0_coder (q t : Nat) (l : Launch) (g : kw_G) : kMiS q t l g yJ0_coder_7d493 cJ0_coder_7d493 1 .byte (kw_rm 1 0 0) 0 0 [.ref q] [] (fun r w => r = 0 ∧ w = []) := by
  refine kMiS_of (by decide +kernel) (Nat.le_of_ble_eq_true rfl) (fun x (X : kX l g RJ0 cJ0_coder_7d493 1 (kw_rm 1 0 0) x) (Z : kZi .byte _ 0 0 x) S => ?_)
  show kW x 0 0 0 [(0, .ref q)] [] []
  refine ks_gsC X S kf_J0_38 dJ0_coder_7d493_0 ?_
  refine kb_if_eq (tgt := 13) X dJ0_coder_7d493_3 (by decide) (fun q_ => absurd q_ (by decide)) (fun _ => ?_)
  refine kb_aload_n X 0 dJ0_coder_7d493_6 rfl rfl ?_
  refine ks_getC X S kf_J0_15 dJ0_coder_7d493_7 ?_
  refine kb_goto (tgt := 14) X dJ0_coder_7d493_10 (by decide) ?_
  refine ke_z X Z rfl dJ0_coder_7d493_14 ?_
  exact ⟨rfl, rfl⟩
set_option maxHeartbeats 4000000 in
set_option maxRecDepth 100000 in
theorem ct_J0_isLatin1 (q t : Nat) (l : Launch) (g : kw_G) : kMiS q t l g yJ0_isLatin1_aae02 cJ0_isLatin1_aae02 1 .boolean (kw_rm 1 0 0) 0 0 [.ref q] [] (fun r w => r = 1 ∧ w = []) := by
  refine kMiS_of (by decide +kernel) (Nat.le_of_ble_eq_true rfl) (fun x (X : kX l g RJ0 cJ0_isLatin1_aae02 1 (kw_rm 1 0 0) x) (Z : kZi .boolean _ 0 0 x) S => ?_)
  show kW x 0 0 0 [(0, .ref q)] [] []
  refine ks_gsC X S kf_J0_38 dJ0_isLatin1_aae02_0 ?_
  refine kb_if_eq (tgt := 17) X dJ0_isLatin1_aae02_3 (by decide) (fun q_ => absurd q_ (by decide)) (fun _ => ?_)
  refine kb_aload_n X 0 dJ0_isLatin1_aae02_6 rfl rfl ?_
  refine ks_getC X S kf_J0_15 dJ0_isLatin1_aae02_7 ?_
  refine kb_if_ne (tgt := 17) X dJ0_isLatin1_aae02_10 (by decide) (fun q_ => absurd rfl q_) (fun _ => ?_)
  refine kb_iconst (v := (1 : Int32)) X dJ0_isLatin1_aae02_13 (by decide) ?_
  refine kb_goto (tgt := 18) X dJ0_isLatin1_aae02_14 (by decide) ?_
  refine ke_z X Z rfl dJ0_isLatin1_aae02_18 ?_
  exact ⟨rfl, rfl⟩
set_option maxHeartbeats 4000000 in
set_option maxRecDepth 100000 in
theorem ct_J0_length (q t : Nat) (l : Launch) (g : kw_G) : kMiS q t l g yJ0_length_8abf5 cJ0_length_8abf5 1 .int (kw_rm 2 0 0) 0 0 [.ref q] [] (fun r w => r = 128 ∧ w = []) := by
  refine kMiS_of (by decide +kernel) (Nat.le_of_ble_eq_true rfl) (fun x (X : kX l g RJ0 cJ0_length_8abf5 1 (kw_rm 2 0 0) x) (Z : kZi .int _ 0 0 x) S => ?_)
  show kW x 0 0 0 [(0, .ref q)] [] []
  refine kb_aload_n X 0 dJ0_length_8abf5_0 rfl rfl ?_
  refine ks_getV X S kf_J0_9 dJ0_length_8abf5_1 ?_
  refine ks_alen X S dJ0_length_8abf5_4 ?_
  refine kb_aload_n X 0 dJ0_length_8abf5_5 rfl rfl ?_
  refine ks_Vi X S (As := []) (rest := [.int 128]) (wr := []) (ct_J0_coder q t l g) dJ0_length_8abf5_6 rfl (List.Perm.refl _) mc_J0_coder_7d493 kl_J0_335 mi_J0_coder_7d493 mv_J0_coder_7d493 kn_J0 rfl (na := 0) (by decide +kernel) rfl ⟨Nat.le_of_ble_eq_true rfl, Nat.le_of_ble_eq_true rfl⟩ ⟨rfl, rfl⟩ ⟨Nat.le_of_ble_eq_true rfl, Nat.le_of_ble_eq_true rfl⟩ (Nat.le_of_ble_eq_true rfl) (fun r_ w_ hp_ => ?_)
  obtain ⟨rfl, rfl⟩ := hp_
  refine kw_ws (ws' := []) rfl ?_
  refine kb_ishr X dJ0_length_8abf5_9 ?_
  refine kw_top (b := .int 128) (by decide) ?_
  refine ke_i X Z dJ0_length_8abf5_10 ?_
  exact ⟨rfl, rfl⟩
set_option maxHeartbeats 4000000 in
set_option maxRecDepth 100000 in
theorem ct_J3_checkIndex (l : Launch) (g : kw_G) (i m : Nat) (v : Value) (hi : i < m) (hm : m < 2147483648) (hv : v = .null ∨ ∃ z, v = .ref z) : kMi l g yJ3_checkIndex_8e157 cJ3_checkIndex_8e157 3 .int (kw_rm 1 0 0) 0 0 [.int (nI i), .int (nI m), v] [] (fun r w => r = nI i ∧ w = []) := by
  rcases hv with rfl | ⟨z, rfl⟩
  · refine kMi_of (by decide +kernel) (Nat.le_of_ble_eq_true rfl) (fun x (X : kX l g RJ3 cJ3_checkIndex_8e157 3 (kw_rm 1 0 0) x) (Z : kZi .int _ 0 0 x) => ?_)
    show kW x 0 0 0 [(0, .int (nI i)), (1, .int (nI m)), (2, .null)] [] []
    refine kb_iload_n X 0 dJ3_checkIndex_8e157_0 rfl rfl ?_
    refine kb_if_lt (tgt := 9) X dJ3_checkIndex_8e157_1 (by decide) (fun q_ => absurd q_ (nI_pos (by omega))) (fun _ => ?_)
    refine kb_iload_n X 0 dJ3_checkIndex_8e157_4 rfl rfl ?_
    refine kb_iload_n X 1 dJ3_checkIndex_8e157_5 rfl rfl ?_
    refine kn_icmp_lt (a := i) (b := m) (tgt := 16) X (by omega) (by omega) dJ3_checkIndex_8e157_6 (by decide) (fun _ => ?_) (fun c_ => absurd c_ (by omega))
    refine kb_iload_n X 0 dJ3_checkIndex_8e157_16 rfl rfl ?_
    refine ke_i X Z dJ3_checkIndex_8e157_17 ?_
    exact ⟨rfl, rfl⟩
  · refine kMi_of (by decide +kernel) (Nat.le_of_ble_eq_true rfl) (fun x (X : kX l g RJ3 cJ3_checkIndex_8e157 3 (kw_rm 1 0 0) x) (Z : kZi .int _ 0 0 x) => ?_)
    show kW x 0 0 0 [(0, .int (nI i)), (1, .int (nI m)), (2, .ref z)] [] []
    refine kb_iload_n X 0 dJ3_checkIndex_8e157_0 rfl rfl ?_
    refine kb_if_lt (tgt := 9) X dJ3_checkIndex_8e157_1 (by decide) (fun q_ => absurd q_ (nI_pos (by omega))) (fun _ => ?_)
    refine kb_iload_n X 0 dJ3_checkIndex_8e157_4 rfl rfl ?_
    refine kb_iload_n X 1 dJ3_checkIndex_8e157_5 rfl rfl ?_
    refine kn_icmp_lt (a := i) (b := m) (tgt := 16) X (by omega) (by omega) dJ3_checkIndex_8e157_6 (by decide) (fun _ => ?_) (fun c_ => absurd c_ (by omega))
    refine kb_iload_n X 0 dJ3_checkIndex_8e157_16 rfl rfl ?_
    refine ke_i X Z dJ3_checkIndex_8e157_17 ?_
    exact ⟨rfl, rfl⟩
set_option maxHeartbeats 4000000 in
set_option maxRecDepth 100000 in
theorem ct_J0_checkIndex (q t : Nat) (l : Launch) (g : kw_G) (i m : Nat) (hi : i < m) (hm : m < 2147483648) : kMvS q t l g yJ0_checkIndex_df160 cJ0_checkIndex_df160 2 (kw_rm 2 0 0) 0 0 [.int (nI i), .int (nI m)] [] (fun w => w = []) := by
  refine kMvS_of (by decide +kernel) (Nat.le_of_ble_eq_true rfl) (fun x (X : kX l g RJ0 cJ0_checkIndex_df160 2 (kw_rm 2 0 0) x) (Z : kZv _ 0 0 x) S => ?_)
  show kW x 0 0 0 [(0, .int (nI i)), (1, .int (nI m))] [] []
  refine kb_iload_n X 0 dJ0_checkIndex_df160_0 rfl rfl ?_
  refine kb_iload_n X 1 dJ0_checkIndex_df160_1 rfl rfl ?_
  refine ks_gsF X S kf_J0_1053 dJ0_checkIndex_df160_2 (fun v hc hv => ?_)
  refine kc_Si X (As := [.int (nI i), .int (nI m), v]) (rest := []) (wr := []) (ct_J3_checkIndex l g i m v hi hm hv) dJ0_checkIndex_df160_5 rfl (List.Perm.refl _) mc_J3_checkIndex_8e157 kl_J0_1059 ms_J3_checkIndex_8e157 kn_J3 (na := 3) (by decide +kernel) rfl ⟨Nat.le_of_ble_eq_true rfl, Nat.le_of_ble_eq_true rfl⟩ ⟨rfl, rfl⟩ ⟨Nat.le_of_ble_eq_true rfl, Nat.le_of_ble_eq_true rfl⟩ (Nat.le_of_ble_eq_true rfl) (fun r_ w_ hp_ => ?_)
  obtain ⟨rfl, rfl⟩ := hp_
  refine kw_ws (ws' := []) rfl ?_
  refine kb_pop X dJ0_checkIndex_df160_8 rfl ?_
  refine ke_v X Z dJ0_checkIndex_df160_9 ?_
  rfl
set_option maxHeartbeats 4000000 in
set_option maxRecDepth 100000 in
theorem ct_J1_charAt (q t : Nat) (l : Launch) (g : kw_G) (i : Nat) (hi : i < 128) : kMiS q t l g yJ1_charAt_3b067 cJ1_charAt_3b067 2 .char (kw_rm 3 0 0) 0 0 [.ref t, .int (nI i)] [] (fun r w => r = nI (tx0 i) ∧ w = []) := by
  refine kMiS_of (by decide +kernel) (Nat.le_of_ble_eq_true rfl) (fun x (X : kX l g RJ1 cJ1_charAt_3b067 2 (kw_rm 3 0 0) x) (Z : kZi .char _ 0 0 x) S => ?_)
  show kW x 0 0 0 [(0, .ref t), (1, .int (nI i))] [] []
  refine kb_iload_n X 1 dJ1_charAt_3b067_0 rfl rfl ?_
  refine kb_aload_n X 0 dJ1_charAt_3b067_1 rfl rfl ?_
  refine ks_alen X S dJ1_charAt_3b067_2 ?_
  refine kw_top (b := .int (nI 128)) rfl ?_
  refine ks_Sv X S (As := [.int (nI i), .int (nI 128)]) (rest := []) (wr := []) (ct_J0_checkIndex q t l g i 128 hi (by decide)) dJ1_charAt_3b067_3 rfl (List.Perm.refl _) mc_J0_checkIndex_df160 kl_J1_9 ms_J0_checkIndex_df160 kn_J0 (na := 2) (by decide +kernel) rfl ⟨Nat.le_of_ble_eq_true rfl, Nat.le_of_ble_eq_true rfl⟩ ⟨rfl, rfl⟩ ⟨Nat.le_of_ble_eq_true rfl, Nat.le_of_ble_eq_true rfl⟩ (Nat.le_of_ble_eq_true rfl) (fun w_ hp_ => ?_)
  obtain rfl := hp_
  refine kw_ws (ws' := []) rfl ?_
  refine kb_aload_n X 0 dJ1_charAt_3b067_6 rfl rfl ?_
  refine kb_iload_n X 1 dJ1_charAt_3b067_7 rfl rfl ?_
  refine ks_ld X S hi dJ1_charAt_3b067_8 ?_
  refine kb_sipush (v := (255 : Int32)) X dJ1_charAt_3b067_9 (by decide) ?_
  refine kb_iand X dJ1_charAt_3b067_12 ?_
  refine kb_i2c (v := nI (tx0 i)) X dJ1_charAt_3b067_13 (ch_255 _ (tx0_lt i hi)) ?_
  refine ke_z X Z (nI_charN (tx0_lt i hi)) dJ1_charAt_3b067_14 ?_
  exact ⟨rfl, rfl⟩
set_option maxHeartbeats 4000000 in
set_option maxRecDepth 100000 in
theorem ct_J0_charAt (q t : Nat) (l : Launch) (g : kw_G) (i : Nat) (hi : i < 128) : kMiS q t l g yJ0_charAt_5068e cJ0_charAt_5068e 2 .char (kw_rm 4 0 0) 0 0 [.ref q, .int (nI i)] [] (fun r w => r = nI (tx0 i) ∧ w = []) := by
  refine kMiS_of (by decide +kernel) (Nat.le_of_ble_eq_true rfl) (fun x (X : kX l g RJ0 cJ0_charAt_5068e 2 (kw_rm 4 0 0) x) (Z : kZi .char _ 0 0 x) S => ?_)
  show kW x 0 0 0 [(0, .ref q), (1, .int (nI i))] [] []
  refine kb_aload_n X 0 dJ0_charAt_5068e_0 rfl rfl ?_
  refine ks_Vi X S (As := []) (rest := []) (wr := []) (ct_J0_isLatin1 q t l g) dJ0_charAt_5068e_1 rfl (List.Perm.refl _) mc_J0_isLatin1_aae02 kl_J0_492 mi_J0_isLatin1_aae02 mv_J0_isLatin1_aae02 kn_J0 rfl (na := 0) (by decide +kernel) rfl ⟨Nat.le_of_ble_eq_true rfl, Nat.le_of_ble_eq_true rfl⟩ ⟨rfl, rfl⟩ ⟨Nat.le_of_ble_eq_true rfl, Nat.le_of_ble_eq_true rfl⟩ (Nat.le_of_ble_eq_true rfl) (fun r_ w_ hp_ => ?_)
  obtain ⟨rfl, rfl⟩ := hp_
  refine kw_ws (ws' := []) rfl ?_
  refine kb_if_eq (tgt := 16) X dJ0_charAt_5068e_4 (by decide) (fun q_ => absurd q_ (by decide)) (fun _ => ?_)
  refine kb_aload_n X 0 dJ0_charAt_5068e_7 rfl rfl ?_
  refine ks_getV X S kf_J0_9 dJ0_charAt_5068e_8 ?_
  refine kb_iload_n X 1 dJ0_charAt_5068e_11 rfl rfl ?_
  refine ks_Si X S (As := [.ref t, .int (nI i)]) (rest := []) (wr := []) (ct_J1_charAt q t l g i hi) dJ0_charAt_5068e_12 rfl (List.Perm.refl _) mc_J1_charAt_3b067 kl_J0_495 ms_J1_charAt_3b067 kn_J1 (na := 2) (by decide +kernel) rfl ⟨Nat.le_of_ble_eq_true rfl, Nat.le_of_ble_eq_true rfl⟩ ⟨rfl, rfl⟩ ⟨Nat.le_of_ble_eq_true rfl, Nat.le_of_ble_eq_true rfl⟩ (Nat.le_of_ble_eq_true rfl) (fun r_ w_ hp_ => ?_)
  obtain ⟨rfl, rfl⟩ := hp_
  refine kw_ws (ws' := []) rfl ?_
  refine ke_z X Z (nI_charN (tx0_lt i hi)) dJ0_charAt_5068e_15 ?_
  exact ⟨rfl, rfl⟩
