set_option maxHeartbeats 4000000 in
set_option maxRecDepth 100000 in
theorem ct_X5_visitEachOther (l : Launch) (g : kw_G) (m : Nat) (at_ an ar au : Nat → Nat) (adu : Nat → Nat → Nat) (ak : Nat → Nat) (adk : Nat → Nat → Nat) (as_ ao : Nat → Nat) (ado : Nat → Nat → Nat) (v u : VS) (p q k : Nat) (hv : VI v) (hp : p < 6) (hq : q < 6) (hk : k < 4) : kMv l g yX5_visitEachOther cX5_visitEachOther 4 (kw_rm 5 0 0) 0 0 [.ref (m), .int (nI (p)), .int (nI (q)), .int (nI (k))] (List.flatten [wX g m at_ an ar au ak as_ ao, wV g an v, wV g ar u]) (fun w => w = List.flatten [wX g m at_ an ar au ak as_ ao, wV g an v, wV g ar (mW v p q k)]) := by
  refine kMv_of (by decide +kernel) (Nat.le_of_ble_eq_true rfl) (fun x (X : kX l g RX5 cX5_visitEachOther 4 (kw_rm 5 0 0) x) (Z : kZv _ 0 0 x) => ?_)
  show kW x 0 0 0 [(0, .ref (m)), (1, .int (nI (p))), (2, .int (nI (q))), (3, .int (nI (k)))] [] (List.flatten [wX g m at_ an ar au ak as_ ao, wV g an v, wV g ar u])
  have hb1_ := pr_1 k hk
  have hb2_ := pr_2 k hk
  refine kb_aload_n X 0 dX5_visitEachOther_0 rfl rfl ?_
  refine kf_get (v := .ref (ar 0)) (C := RX5) (T := TX5) (N := 7) (ci := 5) X kw_iX5 rfl 2 0 0 rfl rfl (by decide) kf_X5_23 rfl rfl dX5_visitEachOther_1 ?_
  refine kb_aload_n X 0 dX5_visitEachOther_4 rfl rfl ?_
  refine kf_get (v := .ref (an 0)) (C := RX5) (T := TX5) (N := 7) (ci := 5) X kw_iX5 rfl 1 0 0 rfl rfl (by decide) kf_X5_19 rfl rfl dX5_visitEachOther_5 ?_
  refine kc_Vv X (As := [.ref (an 0)]) (rest := []) (wr := List.flatten [wX g m at_ an ar au ak as_ ao]) (ct_X4_copyFrom l g ar an u v ) dX5_visitEachOther_8 rfl (kw_pk2 [wX g m at_ an ar au ak as_ ao, wV g an v, wV g ar u] 2 1 (Nat.le_of_ble_eq_true rfl) (Nat.le_of_ble_eq_true rfl)) mc_X4_copyFrom kl_X5_89 mi_X4_copyFrom mv_X4_copyFrom kn_X4 0 rfl rfl rfl (na := 1) (by decide +kernel) rfl ⟨Nat.le_of_ble_eq_true rfl, Nat.le_of_ble_eq_true rfl⟩ ⟨rfl, rfl⟩ ⟨Nat.le_of_ble_eq_true rfl, Nat.le_of_ble_eq_true rfl⟩ (Nat.le_of_ble_eq_true rfl) (fun w_ hp_ => ?_)
  obtain rfl := hp_
  refine kw_perm (ws' := List.flatten [wX g m at_ an ar au ak as_ ao, wV g an v, wV g ar v]) (kw_pk2 [wX g m at_ an ar au ak as_ ao, wV g an v, wV g ar v] 2 1 (Nat.le_of_ble_eq_true rfl) (Nat.le_of_ble_eq_true rfl)).symm ?_
  refine kb_aload_n X 0 dX5_visitEachOther_11 rfl rfl ?_
  refine kf_get (v := .ref (ar 0)) (C := RX5) (T := TX5) (N := 7) (ci := 5) X kw_iX5 rfl 2 0 0 rfl rfl (by decide) kf_X5_23 rfl rfl dX5_visitEachOther_12 ?_
  refine kb_iload_n X 1 dX5_visitEachOther_15 rfl rfl ?_
  refine kb_iload_n X 2 dX5_visitEachOther_16 rfl rfl ?_
  refine kb_iload_n X 3 dX5_visitEachOther_17 rfl rfl ?_
  refine kb_iconst (v := (1 : Int32)) X dX5_visitEachOther_18 (by decide) ?_
  refine kb_iand X dX5_visitEachOther_19 ?_
  refine kb_if_eq (tgt := 27) X dX5_visitEachOther_20 (by decide) (fun c1_ => ?_) (fun c1_ => ?_)
  · skip
    have e1_ : decide (k % 2 = 1) = false := decide_eq_false (hb1_.mp c1_)
    refine kb_iconst (v := (0 : Int32)) X dX5_visitEachOther_27 (by decide) ?_
    refine kc_Vv X (As := [.int (nI (p)), .int (nI (q)), .int 0]) (rest := []) (wr := List.flatten [wX g m at_ an ar au ak as_ ao, wV g an v]) (ct_X4_meet l g ar v p q false (by omega) (by omega)) dX5_visitEachOther_28 rfl (kw_pk [wX g m at_ an ar au ak as_ ao, wV g an v, wV g ar v] 2 (Nat.le_of_ble_eq_true rfl)) mc_X4_meet kl_X5_269 mi_X4_meet mv_X4_meet kn_X4 0 rfl rfl rfl (na := 3) (by decide +kernel) rfl ⟨Nat.le_of_ble_eq_true rfl, Nat.le_of_ble_eq_true rfl⟩ ⟨rfl, rfl⟩ ⟨Nat.le_of_ble_eq_true rfl, Nat.le_of_ble_eq_true rfl⟩ (Nat.le_of_ble_eq_true rfl) (fun w_ hp_ => ?_)
    obtain rfl := hp_
    refine kw_perm (ws' := List.flatten [wX g m at_ an ar au ak as_ ao, wV g an v, wV g ar (wMeet v p q false)]) (kw_pk [wX g m at_ an ar au ak as_ ao, wV g an v, wV g ar (wMeet v p q false)] 2 (Nat.le_of_ble_eq_true rfl)).symm ?_
    refine kb_aload_n X 0 dX5_visitEachOther_31 rfl rfl ?_
    refine kf_get (v := .ref (ar 0)) (C := RX5) (T := TX5) (N := 7) (ci := 5) X kw_iX5 rfl 2 0 0 rfl rfl (by decide) kf_X5_23 rfl rfl dX5_visitEachOther_32 ?_
    refine kb_iload_n X 2 dX5_visitEachOther_35 rfl rfl ?_
    refine kb_iload_n X 1 dX5_visitEachOther_36 rfl rfl ?_
    refine kb_iload_n X 3 dX5_visitEachOther_37 rfl rfl ?_
    refine kb_iconst (v := (2 : Int32)) X dX5_visitEachOther_38 (by decide) ?_
    refine kb_iand X dX5_visitEachOther_39 ?_
    refine kb_if_eq (tgt := 47) X dX5_visitEachOther_40 (by decide) (fun c2_ => ?_) (fun c2_ => ?_)
    · skip
      have e2_ : decide (k / 2 = 1) = false := decide_eq_false (hb2_.mp c2_)
      refine kb_iconst (v := (0 : Int32)) X dX5_visitEachOther_47 (by decide) ?_
      refine kc_Vv X (As := [.int (nI (q)), .int (nI (p)), .int 0]) (rest := []) (wr := List.flatten [wX g m at_ an ar au ak as_ ao, wV g an v]) (ct_X4_meet l g ar (wMeet v p q false) q p false (by omega) (by omega)) dX5_visitEachOther_48 rfl (kw_pk [wX g m at_ an ar au ak as_ ao, wV g an v, wV g ar (wMeet v p q false)] 2 (Nat.le_of_ble_eq_true rfl)) mc_X4_meet kl_X5_269 mi_X4_meet mv_X4_meet kn_X4 0 rfl rfl rfl (na := 3) (by decide +kernel) rfl ⟨Nat.le_of_ble_eq_true rfl, Nat.le_of_ble_eq_true rfl⟩ ⟨rfl, rfl⟩ ⟨Nat.le_of_ble_eq_true rfl, Nat.le_of_ble_eq_true rfl⟩ (Nat.le_of_ble_eq_true rfl) (fun w_ hp_ => ?_)
      obtain rfl := hp_
      refine kw_perm (ws' := List.flatten [wX g m at_ an ar au ak as_ ao, wV g an v, wV g ar (wMeet (wMeet v p q false) q p false)]) (kw_pk [wX g m at_ an ar au ak as_ ao, wV g an v, wV g ar (wMeet (wMeet v p q false) q p false)] 2 (Nat.le_of_ble_eq_true rfl)).symm ?_
      refine ke_v X Z dX5_visitEachOther_51 ?_
      exact (by rw [mW, e1_, e2_])
    · skip
      have e2_ : decide (k / 2 = 1) = true := decide_eq_true (Decidable.not_not.mp (mt hb2_.mpr c2_))
      refine kb_iconst (v := (1 : Int32)) X dX5_visitEachOther_43 (by decide) ?_
      refine kb_goto (tgt := 48) X dX5_visitEachOther_44 (by decide) ?_
      refine kc_Vv X (As := [.int (nI (q)), .int (nI (p)), .int 1]) (rest := []) (wr := List.flatten [wX g m at_ an ar au ak as_ ao, wV g an v]) (ct_X4_meet l g ar (wMeet v p q false) q p true (by omega) (by omega)) dX5_visitEachOther_48 rfl (kw_pk [wX g m at_ an ar au ak as_ ao, wV g an v, wV g ar (wMeet v p q false)] 2 (Nat.le_of_ble_eq_true rfl)) mc_X4_meet kl_X5_269 mi_X4_meet mv_X4_meet kn_X4 0 rfl rfl rfl (na := 3) (by decide +kernel) rfl ⟨Nat.le_of_ble_eq_true rfl, Nat.le_of_ble_eq_true rfl⟩ ⟨rfl, rfl⟩ ⟨Nat.le_of_ble_eq_true rfl, Nat.le_of_ble_eq_true rfl⟩ (Nat.le_of_ble_eq_true rfl) (fun w_ hp_ => ?_)
      obtain rfl := hp_
      refine kw_perm (ws' := List.flatten [wX g m at_ an ar au ak as_ ao, wV g an v, wV g ar (wMeet (wMeet v p q false) q p true)]) (kw_pk [wX g m at_ an ar au ak as_ ao, wV g an v, wV g ar (wMeet (wMeet v p q false) q p true)] 2 (Nat.le_of_ble_eq_true rfl)).symm ?_
      refine ke_v X Z dX5_visitEachOther_51 ?_
      exact (by rw [mW, e1_, e2_])
  · skip
    have e1_ : decide (k % 2 = 1) = true := decide_eq_true (Decidable.not_not.mp (mt hb1_.mpr c1_))
    refine kb_iconst (v := (1 : Int32)) X dX5_visitEachOther_23 (by decide) ?_
    refine kb_goto (tgt := 28) X dX5_visitEachOther_24 (by decide) ?_
    refine kc_Vv X (As := [.int (nI (p)), .int (nI (q)), .int 1]) (rest := []) (wr := List.flatten [wX g m at_ an ar au ak as_ ao, wV g an v]) (ct_X4_meet l g ar v p q true (by omega) (by omega)) dX5_visitEachOther_28 rfl (kw_pk [wX g m at_ an ar au ak as_ ao, wV g an v, wV g ar v] 2 (Nat.le_of_ble_eq_true rfl)) mc_X4_meet kl_X5_269 mi_X4_meet mv_X4_meet kn_X4 0 rfl rfl rfl (na := 3) (by decide +kernel) rfl ⟨Nat.le_of_ble_eq_true rfl, Nat.le_of_ble_eq_true rfl⟩ ⟨rfl, rfl⟩ ⟨Nat.le_of_ble_eq_true rfl, Nat.le_of_ble_eq_true rfl⟩ (Nat.le_of_ble_eq_true rfl) (fun w_ hp_ => ?_)
    obtain rfl := hp_
    refine kw_perm (ws' := List.flatten [wX g m at_ an ar au ak as_ ao, wV g an v, wV g ar (wMeet v p q true)]) (kw_pk [wX g m at_ an ar au ak as_ ao, wV g an v, wV g ar (wMeet v p q true)] 2 (Nat.le_of_ble_eq_true rfl)).symm ?_
    refine kb_aload_n X 0 dX5_visitEachOther_31 rfl rfl ?_
    refine kf_get (v := .ref (ar 0)) (C := RX5) (T := TX5) (N := 7) (ci := 5) X kw_iX5 rfl 2 0 0 rfl rfl (by decide) kf_X5_23 rfl rfl dX5_visitEachOther_32 ?_
    refine kb_iload_n X 2 dX5_visitEachOther_35 rfl rfl ?_
    refine kb_iload_n X 1 dX5_visitEachOther_36 rfl rfl ?_
    refine kb_iload_n X 3 dX5_visitEachOther_37 rfl rfl ?_
    refine kb_iconst (v := (2 : Int32)) X dX5_visitEachOther_38 (by decide) ?_
    refine kb_iand X dX5_visitEachOther_39 ?_
    refine kb_if_eq (tgt := 47) X dX5_visitEachOther_40 (by decide) (fun c3_ => ?_) (fun c3_ => ?_)
    · skip
      have e2_ : decide (k / 2 = 1) = false := decide_eq_false (hb2_.mp c3_)
      refine kb_iconst (v := (0 : Int32)) X dX5_visitEachOther_47 (by decide) ?_
      refine kc_Vv X (As := [.int (nI (q)), .int (nI (p)), .int 0]) (rest := []) (wr := List.flatten [wX g m at_ an ar au ak as_ ao, wV g an v]) (ct_X4_meet l g ar (wMeet v p q true) q p false (by omega) (by omega)) dX5_visitEachOther_48 rfl (kw_pk [wX g m at_ an ar au ak as_ ao, wV g an v, wV g ar (wMeet v p q true)] 2 (Nat.le_of_ble_eq_true rfl)) mc_X4_meet kl_X5_269 mi_X4_meet mv_X4_meet kn_X4 0 rfl rfl rfl (na := 3) (by decide +kernel) rfl ⟨Nat.le_of_ble_eq_true rfl, Nat.le_of_ble_eq_true rfl⟩ ⟨rfl, rfl⟩ ⟨Nat.le_of_ble_eq_true rfl, Nat.le_of_ble_eq_true rfl⟩ (Nat.le_of_ble_eq_true rfl) (fun w_ hp_ => ?_)
      obtain rfl := hp_
      refine kw_perm (ws' := List.flatten [wX g m at_ an ar au ak as_ ao, wV g an v, wV g ar (wMeet (wMeet v p q true) q p false)]) (kw_pk [wX g m at_ an ar au ak as_ ao, wV g an v, wV g ar (wMeet (wMeet v p q true) q p false)] 2 (Nat.le_of_ble_eq_true rfl)).symm ?_
      refine ke_v X Z dX5_visitEachOther_51 ?_
      exact (by rw [mW, e1_, e2_])
    · skip
      have e2_ : decide (k / 2 = 1) = true := decide_eq_true (Decidable.not_not.mp (mt hb2_.mpr c3_))
      refine kb_iconst (v := (1 : Int32)) X dX5_visitEachOther_43 (by decide) ?_
      refine kb_goto (tgt := 48) X dX5_visitEachOther_44 (by decide) ?_
      refine kc_Vv X (As := [.int (nI (q)), .int (nI (p)), .int 1]) (rest := []) (wr := List.flatten [wX g m at_ an ar au ak as_ ao, wV g an v]) (ct_X4_meet l g ar (wMeet v p q true) q p true (by omega) (by omega)) dX5_visitEachOther_48 rfl (kw_pk [wX g m at_ an ar au ak as_ ao, wV g an v, wV g ar (wMeet v p q true)] 2 (Nat.le_of_ble_eq_true rfl)) mc_X4_meet kl_X5_269 mi_X4_meet mv_X4_meet kn_X4 0 rfl rfl rfl (na := 3) (by decide +kernel) rfl ⟨Nat.le_of_ble_eq_true rfl, Nat.le_of_ble_eq_true rfl⟩ ⟨rfl, rfl⟩ ⟨Nat.le_of_ble_eq_true rfl, Nat.le_of_ble_eq_true rfl⟩ (Nat.le_of_ble_eq_true rfl) (fun w_ hp_ => ?_)
      obtain rfl := hp_
      refine kw_perm (ws' := List.flatten [wX g m at_ an ar au ak as_ ao, wV g an v, wV g ar (wMeet (wMeet v p q true) q p true)]) (kw_pk [wX g m at_ an ar au ak as_ ao, wV g an v, wV g ar (wMeet (wMeet v p q true) q p true)] 2 (Nat.le_of_ble_eq_true rfl)).symm ?_
      refine ke_v X Z dX5_visitEachOther_51 ?_
      exact (by rw [mW, e1_, e2_])

set_option maxHeartbeats 4000000 in
set_option maxRecDepth 100000 in
theorem ct_X5_gainOfFirst (l : Launch) (g : kw_G) (m : Nat) (at_ an ar au : Nat → Nat) (adu : Nat → Nat → Nat) (ak : Nat → Nat) (adk : Nat → Nat → Nat) (as_ ao : Nat → Nat) (ado : Nat → Nat → Nat) (v u : VS) (p q k : Nat) (hv : VI v) (hp : p < 6) (hq : q < 6) (hk : k < 4) : kMi l g yX5_gainOfFirst cX5_gainOfFirst 4 .int (kw_rm 6 0 0) 0 0 [.ref (m), .int (nI (p)), .int (nI (q)), .int (nI (k))] (List.flatten [wX g m at_ an ar au ak as_ ao, wV g an v, wV g ar u]) (fun r w => r = mg v p q k true ∧ w = List.flatten [wX g m at_ an ar au ak as_ ao, wV g an v, wV g ar (mW v p q k)]) := by
  refine kMi_of (by decide +kernel) (Nat.le_of_ble_eq_true rfl) (fun x (X : kX l g RX5 cX5_gainOfFirst 4 (kw_rm 6 0 0) x) (Z : kZi .int _ 0 0 x) => ?_)
  show kW x 0 0 0 [(0, .ref (m)), (1, .int (nI (p))), (2, .int (nI (q))), (3, .int (nI (k)))] [] (List.flatten [wX g m at_ an ar au ak as_ ao, wV g an v, wV g ar u])
  refine kb_aload_n X 0 dX5_gainOfFirst_0 rfl rfl ?_
  refine kb_iload_n X 1 dX5_gainOfFirst_1 rfl rfl ?_
  refine kb_iload_n X 2 dX5_gainOfFirst_2 rfl rfl ?_
  refine kb_iload_n X 3 dX5_gainOfFirst_3 rfl rfl ?_
  refine kc_Vv X (As := [.int (nI (p)), .int (nI (q)), .int (nI (k))]) (rest := []) (wr := []) (ct_X5_visitEachOther l g m at_ an ar au adu ak adk as_ ao ado v u p q k hv (by omega) (by omega) (by omega)) dX5_gainOfFirst_4 rfl (kw_pk3 [wX g m at_ an ar au ak as_ ao, wV g an v, wV g ar u] 0 0 0 (Nat.le_of_ble_eq_true rfl) (Nat.le_of_ble_eq_true rfl) (Nat.le_of_ble_eq_true rfl)) mc_X5_visitEachOther kl_X5_262 mi_X5_visitEachOther mv_X5_visitEachOther kn_X5 0 rfl rfl rfl (na := 3) (by decide +kernel) rfl ⟨Nat.le_of_ble_eq_true rfl, Nat.le_of_ble_eq_true rfl⟩ ⟨rfl, rfl⟩ ⟨Nat.le_of_ble_eq_true rfl, Nat.le_of_ble_eq_true rfl⟩ (Nat.le_of_ble_eq_true rfl) (fun w_ hp_ => ?_)
  obtain rfl := hp_
  refine kw_perm (ws' := List.flatten [wX g m at_ an ar au ak as_ ao, wV g an v, wV g ar (mW v p q k)]) (kw_pk3 [wX g m at_ an ar au ak as_ ao, wV g an v, wV g ar (mW v p q k)] 0 0 0 (Nat.le_of_ble_eq_true rfl) (Nat.le_of_ble_eq_true rfl) (Nat.le_of_ble_eq_true rfl)).symm ?_
  refine kb_aload_n X 0 dX5_gainOfFirst_7 rfl rfl ?_
  refine kf_get (v := .ref (ar 0)) (C := RX5) (T := TX5) (N := 7) (ci := 5) X kw_iX5 rfl 2 0 0 rfl rfl (by decide) kf_X5_23 rfl rfl dX5_gainOfFirst_8 ?_
  refine kb_iload_n X 1 dX5_gainOfFirst_11 rfl rfl ?_
  refine kb_iload_n X 2 dX5_gainOfFirst_12 rfl rfl ?_
  refine kc_Vi X (As := [.int (nI (p)), .int (nI (q))]) (rest := []) (wr := List.flatten [wX g m at_ an ar au ak as_ ao, wV g an v]) (ct_X4_gainOf l g ar (mW v p q k) p q (by omega) (by omega)) dX5_gainOfFirst_13 rfl (kw_pk [wX g m at_ an ar au ak as_ ao, wV g an v, wV g ar (mW v p q k)] 2 (Nat.le_of_ble_eq_true rfl)) mc_X4_gainOf kl_X5_266 mi_X4_gainOf mv_X4_gainOf kn_X4 0 rfl rfl rfl (na := 2) (by decide +kernel) rfl ⟨Nat.le_of_ble_eq_true rfl, Nat.le_of_ble_eq_true rfl⟩ ⟨rfl, rfl⟩ ⟨Nat.le_of_ble_eq_true rfl, Nat.le_of_ble_eq_true rfl⟩ (Nat.le_of_ble_eq_true rfl) (fun r_ w_ hp_ => ?_)
  obtain ⟨rfl, rfl⟩ := hp_
  refine kw_perm (ws' := List.flatten [wX g m at_ an ar au ak as_ ao, wV g an v, wV g ar (mW v p q k)]) (kw_pk [wX g m at_ an ar au ak as_ ao, wV g an v, wV g ar (mW v p q k)] 2 (Nat.le_of_ble_eq_true rfl)).symm ?_
  refine ke_i X Z dX5_gainOfFirst_16 ?_
  exact ⟨rfl, rfl⟩

set_option maxHeartbeats 4000000 in
set_option maxRecDepth 100000 in
theorem ct_X5_gainOfOther (l : Launch) (g : kw_G) (m : Nat) (at_ an ar au : Nat → Nat) (adu : Nat → Nat → Nat) (ak : Nat → Nat) (adk : Nat → Nat → Nat) (as_ ao : Nat → Nat) (ado : Nat → Nat → Nat) (v u : VS) (p q k : Nat) (hv : VI v) (hp : p < 6) (hq : q < 6) (hk : k < 4) : kMi l g yX5_gainOfOther cX5_gainOfOther 4 .int (kw_rm 6 0 0) 0 0 [.ref (m), .int (nI (p)), .int (nI (q)), .int (nI (k))] (List.flatten [wX g m at_ an ar au ak as_ ao, wV g an v, wV g ar u]) (fun r w => r = mg v p q k false ∧ w = List.flatten [wX g m at_ an ar au ak as_ ao, wV g an v, wV g ar (mW v p q k)]) := by
  refine kMi_of (by decide +kernel) (Nat.le_of_ble_eq_true rfl) (fun x (X : kX l g RX5 cX5_gainOfOther 4 (kw_rm 6 0 0) x) (Z : kZi .int _ 0 0 x) => ?_)
  show kW x 0 0 0 [(0, .ref (m)), (1, .int (nI (p))), (2, .int (nI (q))), (3, .int (nI (k)))] [] (List.flatten [wX g m at_ an ar au ak as_ ao, wV g an v, wV g ar u])
  refine kb_aload_n X 0 dX5_gainOfOther_0 rfl rfl ?_
  refine kb_iload_n X 1 dX5_gainOfOther_1 rfl rfl ?_
  refine kb_iload_n X 2 dX5_gainOfOther_2 rfl rfl ?_
  refine kb_iload_n X 3 dX5_gainOfOther_3 rfl rfl ?_
  refine kc_Vv X (As := [.int (nI (p)), .int (nI (q)), .int (nI (k))]) (rest := []) (wr := []) (ct_X5_visitEachOther l g m at_ an ar au adu ak adk as_ ao ado v u p q k hv (by omega) (by omega) (by omega)) dX5_gainOfOther_4 rfl (kw_pk3 [wX g m at_ an ar au ak as_ ao, wV g an v, wV g ar u] 0 0 0 (Nat.le_of_ble_eq_true rfl) (Nat.le_of_ble_eq_true rfl) (Nat.le_of_ble_eq_true rfl)) mc_X5_visitEachOther kl_X5_262 mi_X5_visitEachOther mv_X5_visitEachOther kn_X5 0 rfl rfl rfl (na := 3) (by decide +kernel) rfl ⟨Nat.le_of_ble_eq_true rfl, Nat.le_of_ble_eq_true rfl⟩ ⟨rfl, rfl⟩ ⟨Nat.le_of_ble_eq_true rfl, Nat.le_of_ble_eq_true rfl⟩ (Nat.le_of_ble_eq_true rfl) (fun w_ hp_ => ?_)
  obtain rfl := hp_
  refine kw_perm (ws' := List.flatten [wX g m at_ an ar au ak as_ ao, wV g an v, wV g ar (mW v p q k)]) (kw_pk3 [wX g m at_ an ar au ak as_ ao, wV g an v, wV g ar (mW v p q k)] 0 0 0 (Nat.le_of_ble_eq_true rfl) (Nat.le_of_ble_eq_true rfl) (Nat.le_of_ble_eq_true rfl)).symm ?_
  refine kb_aload_n X 0 dX5_gainOfOther_7 rfl rfl ?_
  refine kf_get (v := .ref (ar 0)) (C := RX5) (T := TX5) (N := 7) (ci := 5) X kw_iX5 rfl 2 0 0 rfl rfl (by decide) kf_X5_23 rfl rfl dX5_gainOfOther_8 ?_
  refine kb_iload_n X 2 dX5_gainOfOther_11 rfl rfl ?_
  refine kb_iload_n X 1 dX5_gainOfOther_12 rfl rfl ?_
  refine kc_Vi X (As := [.int (nI (q)), .int (nI (p))]) (rest := []) (wr := List.flatten [wX g m at_ an ar au ak as_ ao, wV g an v]) (ct_X4_gainOf l g ar (mW v p q k) q p (by omega) (by omega)) dX5_gainOfOther_13 rfl (kw_pk [wX g m at_ an ar au ak as_ ao, wV g an v, wV g ar (mW v p q k)] 2 (Nat.le_of_ble_eq_true rfl)) mc_X4_gainOf kl_X5_266 mi_X4_gainOf mv_X4_gainOf kn_X4 0 rfl rfl rfl (na := 2) (by decide +kernel) rfl ⟨Nat.le_of_ble_eq_true rfl, Nat.le_of_ble_eq_true rfl⟩ ⟨rfl, rfl⟩ ⟨Nat.le_of_ble_eq_true rfl, Nat.le_of_ble_eq_true rfl⟩ (Nat.le_of_ble_eq_true rfl) (fun r_ w_ hp_ => ?_)
  obtain ⟨rfl, rfl⟩ := hp_
  refine kw_perm (ws' := List.flatten [wX g m at_ an ar au ak as_ ao, wV g an v, wV g ar (mW v p q k)]) (kw_pk [wX g m at_ an ar au ak as_ ao, wV g an v, wV g ar (mW v p q k)] 2 (Nat.le_of_ble_eq_true rfl)).symm ?_
  refine ke_i X Z dX5_gainOfOther_16 ?_
  exact ⟨rfl, rfl⟩

set_option maxHeartbeats 4000000 in
set_option maxRecDepth 100000 in
theorem ct_X5_rests (l : Launch) (g : kw_G) (m : Nat) (at_ an ar au : Nat → Nat) (adu : Nat → Nat → Nat) (ak : Nat → Nat) (adk : Nat → Nat → Nat) (as_ ao : Nat → Nat) (ado : Nat → Nat → Nat) (v u : VS) (p q k : Nat) (hv : VI v) (hp : p < 6) (hq : q < 6) (hk : k < 4) : kMi l g yX5_rests cX5_rests 4 .boolean (kw_rm 7 0 0) 0 0 [.ref (m), .int (nI (p)), .int (nI (q)), .int (nI (k))] (List.flatten [wX g m at_ an ar au ak as_ ao, wV g an v, wV g ar u]) (fun r w => r = zI (mR v p q k) ∧ ∃ u', w = List.flatten [wX g m at_ an ar au ak as_ ao, wV g an v, wV g ar u']) := by
  refine kMi_of (by decide +kernel) (Nat.le_of_ble_eq_true rfl) (fun x (X : kX l g RX5 cX5_rests 4 (kw_rm 7 0 0) x) (Z : kZi .boolean _ 0 0 x) => ?_)
  show kW x 0 0 0 [(0, .ref (m)), (1, .int (nI (p))), (2, .int (nI (q))), (3, .int (nI (k)))] [] (List.flatten [wX g m at_ an ar au ak as_ ao, wV g an v, wV g ar u])
  have hx_ := xor_lt k hk
  refine kb_aload_n X 0 dX5_rests_0 rfl rfl ?_
  refine kb_iload_n X 1 dX5_rests_1 rfl rfl ?_
  refine kb_iload_n X 2 dX5_rests_2 rfl rfl ?_
  refine kb_iload_n X 3 dX5_rests_3 rfl rfl ?_
  refine kc_Vi X (As := [.int (nI (p)), .int (nI (q)), .int (nI (k))]) (rest := []) (wr := []) (ct_X5_gainOfFirst l g m at_ an ar au adu ak adk as_ ao ado v u p q k hv (by omega) (by omega) (by omega)) dX5_rests_4 rfl (kw_pk3 [wX g m at_ an ar au ak as_ ao, wV g an v, wV g ar u] 0 0 0 (Nat.le_of_ble_eq_true rfl) (Nat.le_of_ble_eq_true rfl) (Nat.le_of_ble_eq_true rfl)) mc_X5_gainOfFirst kl_X5_256 mi_X5_gainOfFirst mv_X5_gainOfFirst kn_X5 0 rfl rfl rfl (na := 3) (by decide +kernel) rfl ⟨Nat.le_of_ble_eq_true rfl, Nat.le_of_ble_eq_true rfl⟩ ⟨rfl, rfl⟩ ⟨Nat.le_of_ble_eq_true rfl, Nat.le_of_ble_eq_true rfl⟩ (Nat.le_of_ble_eq_true rfl) (fun r_ w_ hp_ => ?_)
  obtain ⟨rfl, rfl⟩ := hp_
  refine kw_perm (ws' := List.flatten [wX g m at_ an ar au ak as_ ao, wV g an v, wV g ar (mW v p q k)]) (kw_pk3 [wX g m at_ an ar au ak as_ ao, wV g an v, wV g ar (mW v p q k)] 0 0 0 (Nat.le_of_ble_eq_true rfl) (Nat.le_of_ble_eq_true rfl) (Nat.le_of_ble_eq_true rfl)).symm ?_
  refine kb_aload_n X 0 dX5_rests_7 rfl rfl ?_
  refine kb_iload_n X 1 dX5_rests_8 rfl rfl ?_
  refine kb_iload_n X 2 dX5_rests_9 rfl rfl ?_
  refine kb_iload_n X 3 dX5_rests_10 rfl rfl ?_
  refine kb_iconst (v := (2 : Int32)) X dX5_rests_11 (by decide) ?_
  refine kb_ixor X dX5_rests_12 ?_
  refine kw_top (b := .int (nI (k ^^^ 2))) (by rw [show (2 : Int32) = nI 2 from rfl, xor_nI k (by omega) 2 (by decide)]) ?_
  refine kc_Vi X (As := [.int (nI (p)), .int (nI (q)), .int (nI (k ^^^ 2))]) (rest := [.int (mg v p q k true)]) (wr := []) (ct_X5_gainOfFirst l g m at_ an ar au adu ak adk as_ ao ado v (mW v p q k) p q (k ^^^ 2) hv (by omega) (by omega) (by omega)) dX5_rests_13 rfl (kw_pk3 [wX g m at_ an ar au ak as_ ao, wV g an v, wV g ar (mW v p q k)] 0 0 0 (Nat.le_of_ble_eq_true rfl) (Nat.le_of_ble_eq_true rfl) (Nat.le_of_ble_eq_true rfl)) mc_X5_gainOfFirst kl_X5_256 mi_X5_gainOfFirst mv_X5_gainOfFirst kn_X5 0 rfl rfl rfl (na := 3) (by decide +kernel) rfl ⟨Nat.le_of_ble_eq_true rfl, Nat.le_of_ble_eq_true rfl⟩ ⟨rfl, rfl⟩ ⟨Nat.le_of_ble_eq_true rfl, Nat.le_of_ble_eq_true rfl⟩ (Nat.le_of_ble_eq_true rfl) (fun r_ w_ hp_ => ?_)
  obtain ⟨rfl, rfl⟩ := hp_
  refine kw_perm (ws' := List.flatten [wX g m at_ an ar au ak as_ ao, wV g an v, wV g ar (mW v p q (k ^^^ 2))]) (kw_pk3 [wX g m at_ an ar au ak as_ ao, wV g an v, wV g ar (mW v p q (k ^^^ 2))] 0 0 0 (Nat.le_of_ble_eq_true rfl) (Nat.le_of_ble_eq_true rfl) (Nat.le_of_ble_eq_true rfl)).symm ?_
  refine kb_icmp_lt (tgt := 42) X dX5_rests_16 (by decide) (fun c1_ => ?_) (fun c1_ => ?_)
  · skip
    refine kb_iconst (v := (0 : Int32)) X dX5_rests_42 (by decide) ?_
    refine ke_z X Z rfl dX5_rests_43 ?_
    exact ⟨by simp [mR, zI, c1_], _, rfl⟩
  · skip
    refine kb_aload_n X 0 dX5_rests_19 rfl rfl ?_
    refine kb_iload_n X 1 dX5_rests_20 rfl rfl ?_
    refine kb_iload_n X 2 dX5_rests_21 rfl rfl ?_
    refine kb_iload_n X 3 dX5_rests_22 rfl rfl ?_
    refine kc_Vi X (As := [.int (nI (p)), .int (nI (q)), .int (nI (k))]) (rest := []) (wr := []) (ct_X5_gainOfOther l g m at_ an ar au adu ak adk as_ ao ado v (mW v p q (k ^^^ 2)) p q k hv (by omega) (by omega) (by omega)) dX5_rests_23 rfl (kw_pk3 [wX g m at_ an ar au ak as_ ao, wV g an v, wV g ar (mW v p q (k ^^^ 2))] 0 0 0 (Nat.le_of_ble_eq_true rfl) (Nat.le_of_ble_eq_true rfl) (Nat.le_of_ble_eq_true rfl)) mc_X5_gainOfOther kl_X5_259 mi_X5_gainOfOther mv_X5_gainOfOther kn_X5 0 rfl rfl rfl (na := 3) (by decide +kernel) rfl ⟨Nat.le_of_ble_eq_true rfl, Nat.le_of_ble_eq_true rfl⟩ ⟨rfl, rfl⟩ ⟨Nat.le_of_ble_eq_true rfl, Nat.le_of_ble_eq_true rfl⟩ (Nat.le_of_ble_eq_true rfl) (fun r_ w_ hp_ => ?_)
    obtain ⟨rfl, rfl⟩ := hp_
    refine kw_perm (ws' := List.flatten [wX g m at_ an ar au ak as_ ao, wV g an v, wV g ar (mW v p q k)]) (kw_pk3 [wX g m at_ an ar au ak as_ ao, wV g an v, wV g ar (mW v p q k)] 0 0 0 (Nat.le_of_ble_eq_true rfl) (Nat.le_of_ble_eq_true rfl) (Nat.le_of_ble_eq_true rfl)).symm ?_
    refine kb_aload_n X 0 dX5_rests_26 rfl rfl ?_
    refine kb_iload_n X 1 dX5_rests_27 rfl rfl ?_
    refine kb_iload_n X 2 dX5_rests_28 rfl rfl ?_
    refine kb_iload_n X 3 dX5_rests_29 rfl rfl ?_
    refine kb_iconst (v := (1 : Int32)) X dX5_rests_30 (by decide) ?_
    refine kb_ixor X dX5_rests_31 ?_
    refine kw_top (b := .int (nI (k ^^^ 1))) (by rw [show (1 : Int32) = nI 1 from rfl, xor_nI k (by omega) 1 (by decide)]) ?_
    refine kc_Vi X (As := [.int (nI (p)), .int (nI (q)), .int (nI (k ^^^ 1))]) (rest := [.int (mg v p q k false)]) (wr := []) (ct_X5_gainOfOther l g m at_ an ar au adu ak adk as_ ao ado v (mW v p q k) p q (k ^^^ 1) hv (by omega) (by omega) (by omega)) dX5_rests_32 rfl (kw_pk3 [wX g m at_ an ar au ak as_ ao, wV g an v, wV g ar (mW v p q k)] 0 0 0 (Nat.le_of_ble_eq_true rfl) (Nat.le_of_ble_eq_true rfl) (Nat.le_of_ble_eq_true rfl)) mc_X5_gainOfOther kl_X5_259 mi_X5_gainOfOther mv_X5_gainOfOther kn_X5 0 rfl rfl rfl (na := 3) (by decide +kernel) rfl ⟨Nat.le_of_ble_eq_true rfl, Nat.le_of_ble_eq_true rfl⟩ ⟨rfl, rfl⟩ ⟨Nat.le_of_ble_eq_true rfl, Nat.le_of_ble_eq_true rfl⟩ (Nat.le_of_ble_eq_true rfl) (fun r_ w_ hp_ => ?_)
    obtain ⟨rfl, rfl⟩ := hp_
    refine kw_perm (ws' := List.flatten [wX g m at_ an ar au ak as_ ao, wV g an v, wV g ar (mW v p q (k ^^^ 1))]) (kw_pk3 [wX g m at_ an ar au ak as_ ao, wV g an v, wV g ar (mW v p q (k ^^^ 1))] 0 0 0 (Nat.le_of_ble_eq_true rfl) (Nat.le_of_ble_eq_true rfl) (Nat.le_of_ble_eq_true rfl)).symm ?_
    refine kb_icmp_lt (tgt := 42) X dX5_rests_35 (by decide) (fun c2_ => ?_) (fun c2_ => ?_)
    · skip
      refine kb_iconst (v := (0 : Int32)) X dX5_rests_42 (by decide) ?_
      refine ke_z X Z rfl dX5_rests_43 ?_
      exact ⟨by simp [mR, zI, c1_, c2_], _, rfl⟩
    · skip
      refine kb_iconst (v := (1 : Int32)) X dX5_rests_38 (by decide) ?_
      refine kb_goto (tgt := 43) X dX5_rests_39 (by decide) ?_
      refine ke_z X Z rfl dX5_rests_43 ?_
      exact ⟨by simp [mR, zI, c1_, c2_], _, rfl⟩

