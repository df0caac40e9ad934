set_option maxHeartbeats 4000000 in
set_option maxRecDepth 100000 in
theorem ct_X5_visitEachOther (l : Launch) (g : kw_G) (m : Nat) (at_ an ar au : Nat → Nat) (adu : Nat → Nat → Nat) (ak : Nat → Nat) (adk : Nat → Nat → Nat) (as_ ao : Nat → Nat) (ado : Nat → Nat → Nat) (v u : VS) (p q k : Nat) (hv : VI v) (hp : p < 6) (hq : q < 6) (hk : k < 4) : kMv l g yX5_visitEachOther cX5_visitEachOther 4 (kw_rm 5 0 0) 0 0 [.ref (m), .int (nI (p)), .int (nI (q)), .int (nI (k))] (List.flatten [wX g m at_ an ar au ak as_ ao, wV g an v, wV g ar u]) (fun w => w = List.flatten [wX g m at_ an ar au ak as_ ao, wV g an v, wV g ar (mW v p q k)]) := by
  refine kMv_of (by decide +kernel) (Nat.le_of_ble_eq_true rfl) (fun x (X : kX l g RX5 cX5_visitEachOther 4 (kw_rm 5 0 0) x) (Z : kZv _ 0 0 x) => ?_)
  show kW x 0 0 0 [(0, .ref (m)), (1, .int (nI (p))), (2, .int (nI (q))), (3, .int (nI (k)))] [] (List.flatten [wX g m at_ an ar au ak as_ ao, wV g an v, wV g ar u])
  have hb1_ := pr_1 k hk
  have hb2_ := pr_2 k hk
  refine kb_aload_n X 0 dX5_visitEachOther_0 rfl rfl ?_
  refine kf_get (v := .ref (ar 0)) (C := RX5) (T := TX5) (N := 7) (ci := 5) X kw_iX5 rfl 2 0 0 rfl rfl (by decide) kf_X5_23 rfl rfl dX5_visitEachOther_1 ?_
  refine kb_aload_n X 0 dX5_visitEachOther_4 rfl rfl ?_
  refine kf_get (v := .ref (an 0)) (C := RX5) (T := TX5) (N := 7) (ci := 5) X kw_iX5 rfl 1 0 0 rfl rfl (by decide) kf_X5_19 rfl rfl dX5_visitEachOther_5 ?_
  refine kc_Vv X (As := [.ref (an 0)]) (rest := []) (wr := List.flatten [wX g m at_ an ar au ak as_ ao]) (ct_X4_copyFrom l g ar an u v ) dX5_visitEachOther_8 rfl (kw_pk2 [wX g m at_ an ar au ak as_ ao, wV g an v, wV g ar u] 2 1 (Nat.le_of_ble_eq_true rfl) (Nat.le_of_ble_eq_true rfl)) mc_X4_copyFrom kl_X5_89 mi_X4_copyFrom mv_X4_copyFrom kn_X4 0 rfl rfl rfl (na := 1) (by decide +kernel) rfl ⟨Nat.le_of_ble_eq_true rfl, Nat.le_of_ble_eq_true rfl⟩ ⟨rfl, rfl⟩ ⟨Nat.le_of_ble_eq_true rfl, Nat.le_of_ble_eq_true rfl⟩ (Nat.le_of_ble_eq_true rfl) (fun w_ hp_ => ?_)
  obtain rfl := hp_
  refine kw_perm (ws' := List.flatten [wX g m at_ an ar au ak as_ ao, wV g an v, wV g ar v]) (kw_pk2 [wX g m at_ an ar au ak as_ ao, wV g an v, wV g ar v] 2 1 (Nat.le_of_ble_eq_true rfl) (Nat.le_of_ble_eq_true rfl)).symm ?_
  refine kb_aload_n X 0 dX5_visitEachOther_11 rfl rfl ?_
  refine kf_get (v := .ref (ar 0)) (C := RX5) (T := TX5) (N := 7) (ci := 5) X kw_iX5 rfl 2 0 0 rfl rfl (by decide) kf_X5_23 rfl rfl dX5_visitEachOther_12 ?_
  refine kb_iload_n X 1 dX5_visitEachOther_15 rfl rfl ?_
  refine kb_iload_n X 2 dX5_visitEachOther_16 rfl rfl ?_
  refine kb_iload_n X 3 dX5_visitEachOther_17 rfl rfl ?_
  refine kb_iconst (v := (1 : Int32)) X dX5_visitEachOther_18 (by decide) ?_
  refine kb_iand X dX5_visitEachOther_19 ?_
  refine kb_if_eq (tgt := 27) X dX5_visitEachOther_20 (by decide) (fun c1_ => ?_) (fun c1_ => ?_)
  · skip
    have e1_ : decide (k % 2 = 1) = false := decide_eq_false (hb1_.mp c1_)
    refine kb_iconst (v := (0 : Int32)) X dX5_visitEachOther_27 (by decide) ?_
    refine kc_Vv X (As := [.int (nI (p)), .int (nI (q)), .int 0]) (rest := []) (wr := List.flatten [wX g m at_ an ar au ak as_ ao, wV g an v]) (ct_X4_meet l g ar v p q false (by omega) (by omega)) dX5_visitEachOther_28 rfl (kw_pk [wX g m at_ an ar au ak as_ ao, wV g an v, wV g ar v] 2 (Nat.le_of_ble_eq_true rfl)) mc_X4_meet kl_X5_269 mi_X4_meet mv_X4_meet kn_X4 0 rfl rfl rfl (na := 3) (by decide +kernel) rfl ⟨Nat.le_of_ble_eq_true rfl, Nat.le_of_ble_eq_true rfl⟩ ⟨rfl, rfl⟩ ⟨Nat.le_of_ble_eq_true rfl, Nat.le_of_ble_eq_true rfl⟩ (Nat.le_of_ble_eq_true rfl) (fun w_ hp_ => ?_)
    obtain rfl := hp_
    refine kw_perm (ws' := List.flatten [wX g m at_ an ar au ak as_ ao, wV g an v, wV g ar (wMeet v p q false)]) (kw_pk [wX g m at_ an ar au ak as_ ao, wV g an v, wV g ar (wMeet v p q false)] 2 (Nat.le_of_ble_eq_true rfl)).symm ?_
    refine kb_aload_n X 0 dX5_visitEachOther_31 rfl rfl ?_
    refine kf_get (v := .ref (ar 0)) (C := RX5) (T := TX5) (N := 7) (ci := 5) X kw_iX5 rfl 2 0 0 rfl rfl (by decide) kf_X5_23 rfl rfl dX5_visitEachOther_32 ?_
    refine kb_iload_n X 2 dX5_visitEachOther_35 rfl rfl ?_
    refine kb_iload_n X 1 dX5_visitEachOther_36 rfl rfl ?_
    refine kb_iload_n X 3 dX5_visitEachOther_37 rfl rfl ?_
    refine kb_iconst (v := (2 : Int32)) X dX5_visitEachOther_38 (by decide) ?_
    refine kb_iand X dX5_visitEachOther_39 ?_
    refine kb_if_eq (tgt := 47) X dX5_visitEachOther_40 (by decide) (fun c2_ => ?_) (fun c2_ => ?_)
    · skip
      have e2_ : decide (k / 2 = 1) = false := decide_eq_false (hb2_.mp c2_)
      refine kb_iconst (v := (0 : Int32)) X dX5_visitEachOther_47 (by decide) ?_
      refine kc_Vv X (As := [.int (nI (q)), .int (nI (p)), .int 0]) (rest := []) (wr := List.flatten [wX g m at_ an ar au ak as_ ao, wV g an v]) (ct_X4_meet l g ar (wMeet v p q false) q p false (by omega) (by omega)) dX5_visitEachOther_48 rfl (kw_pk [wX g m at_ an ar au ak as_ ao, wV g an v, wV g ar (wMeet v p q false)] 2 (Nat.le_of_ble_eq_true rfl)) mc_X4_meet kl_X5_269 mi_X4_meet mv_X4_meet kn_X4 0 rfl rfl rfl (na := 3) (by decide +kernel) rfl ⟨Nat.le_of_ble_eq_true rfl, Nat.le_of_ble_eq_true rfl⟩ ⟨rfl, rfl⟩ ⟨Nat.le_of_ble_eq_true rfl, Nat.le_of_ble_eq_true rfl⟩ (Nat.le_of_ble_eq_true rfl) (fun w_ hp_ => ?_)
      obtain rfl := hp_
      refine kw_perm (ws' := List.flatten [wX g m at_ an ar au ak as_ ao, wV g an v, wV g ar (wMeet (wMeet v p q false) q p false)]) (kw_pk [wX g m at_ an ar au ak as_ ao, wV g an v, wV g ar (wMeet (wMeet v p q false) q p false)] 2 (Nat.le_of_ble_eq_true rfl)).symm ?_
      refine ke_v X Z dX5_visitEachOther_51 ?_
      exact (by rw [mW, e1_, e2_])
    · skip
      have e2_ : decide (k / 2 = 1) = true := decide_eq_true (Decidable.not_not.mp (mt hb2_.mpr c2_))
      refine kb_iconst (v := (1 : Int32)) X dX5_visitEachOther_43 (by decide) ?_
      refine kb_goto (tgt := 48) X dX5_visitEachOther_44 (by decide) ?_
      refine kc_Vv X (As := [.int (nI (q)), .int (nI (p)), .int 1]) (rest := []) (wr := List.flatten [wX g m at_ an ar au ak as_ ao, wV g an v]) (ct_X4_meet l g ar (wMeet v p q false) q p true (by omega) (by omega)) dX5_visitEachOther_48 rfl (kw_pk [wX g m at_ an ar au ak as_ ao, wV g an v, wV g ar (wMeet v p q false)] 2 (Nat.le_of_ble_eq_true rfl)) mc_X4_meet kl_X5_269 mi_X4_meet mv_X4_meet kn_X4 0 rfl rfl rfl (na := 3) (by decide +kernel) rfl ⟨Nat.le_of_ble_eq_true rfl, Nat.le_of_ble_eq_true rfl⟩ ⟨rfl, rfl⟩ ⟨Nat.le_of_ble_eq_true rfl, Nat.le_of_ble_eq_true rfl⟩ (Nat.le_of_ble_eq_true rfl) (fun w_ hp_ => ?_)
      obtain rfl := hp_
      refine kw_perm (ws' := List.flatten [wX g m at_ an ar au ak as_ ao, wV g an v, wV g ar (wMeet (wMeet v p q false) q p true)]) (kw_pk [wX g m at_ an ar au ak as_ ao, wV g an v, wV g ar (wMeet (wMeet v p q false) q p true)] 2 (Nat.le_of_ble_eq_true rfl)).symm ?_
      refine ke_v X Z dX5_visitEachOther_51 ?_
      exact (by rw [mW, e1_, e2_])
  · skip
    have e1_ : decide (k % 2 = 1) = true := decide_eq_true (Decidable.not_not.mp (mt hb1_.mpr c1_))
    refine kb_iconst (v := (1 : Int32)) X dX5_visitEachOther_23 (by decide) ?_
    refine kb_goto (tgt := 28) X dX5_visitEachOther_24 (by decide) ?_
    refine kc_Vv X (As := [.int (nI (p)), .int (nI (q)), .int 1]) (rest := []) (wr := List.flatten [wX g m at_ an ar au ak as_ ao, wV g an v]) (ct_X4_meet l g ar v p q true (by omega) (by omega)) dX5_visitEachOther_28 rfl (kw_pk [wX g m at_ an ar au ak as_ ao, wV g an v, wV g ar v] 2 (Nat.le_of_ble_eq_true rfl)) mc_X4_meet kl_X5_269 mi_X4_meet mv_X4_meet kn_X4 0 rfl rfl rfl (na := 3) (by decide +kernel) rfl ⟨Nat.le_of_ble_eq_true rfl, Nat.le_of_ble_eq_true rfl⟩ ⟨rfl, rfl⟩ ⟨Nat.le_of_ble_eq_true rfl, Nat.le_of_ble_eq_true rfl⟩ (Nat.le_of_ble_eq_true rfl) (fun w_ hp_ => ?_)
    obtain rfl := hp_
    refine kw_perm (ws' := List.flatten [wX g m at_ an ar au ak as_ ao, wV g an v, wV g ar (wMeet v p q true)]) (kw_pk [wX g m at_ an ar au ak as_ ao, wV g an v, wV g ar (wMeet v p q true)] 2 (Nat.le_of_ble_eq_true rfl)).symm ?_
    refine kb_aload_n X 0 dX5_visitEachOther_31 rfl rfl ?_
    refine kf_get (v := .ref (ar 0)) (C := RX5) (T := TX5) (N := 7) (ci := 5) X kw_iX5 rfl 2 0 0 rfl rfl (by decide) kf_X5_23 rfl rfl dX5_visitEachOther_32 ?_
    refine kb_iload_n X 2 dX5_visitEachOther_35 rfl rfl ?_
    refine kb_iload_n X 1 dX5_visitEachOther_36 rfl rfl ?_
    refine kb_iload_n X 3 dX5_visitEachOther_37 rfl rfl ?_
    refine kb_iconst (v := (2 : Int32)) X dX5_visitEachOther_38 (by decide) ?_
    refine kb_iand X dX5_visitEachOther_39 ?_
    refine kb_if_eq (tgt := 47) X dX5_visitEachOther_40 (by decide) (fun c3_ => ?_) (fun c3_ => ?_)
    · skip
      have e2_ : decide (k / 2 = 1) = false := decide_eq_false (hb2_.mp c3_)
      refine kb_iconst (v := (0 : Int32)) X dX5_visitEachOther_47 (by decide) ?_
      refine kc_Vv X (As := [.int (nI (q)), .int (nI (p)), .int 0]) (rest := []) (wr := List.flatten [wX g m at_ an ar au ak as_ ao, wV g an v]) (ct_X4_meet l g ar (wMeet v p q true) q p false (by omega) (by omega)) dX5_visitEachOther_48 rfl (kw_pk [wX g m at_ an ar au ak as_ ao, wV g an v, wV g ar (wMeet v p q true)] 2 (Nat.le_of_ble_eq_true rfl)) mc_X4_meet kl_X5_269 mi_X4_meet mv_X4_meet kn_X4 0 rfl rfl rfl (na := 3) (by decide +kernel) rfl ⟨Nat.le_of_ble_eq_true rfl, Nat.le_of_ble_eq_true rfl⟩ ⟨rfl, rfl⟩ ⟨Nat.le_of_ble_eq_true rfl, Nat.le_of_ble_eq_true rfl⟩ (Nat.le_of_ble_eq_true rfl) (fun w_ hp_ => ?_)
      obtain rfl := hp_
      refine kw_perm (ws' := List.flatten [wX g m at_ an ar au ak as_ ao, wV g an v, wV g ar (wMeet (wMeet v p q true) q p false)]) (kw_pk [wX g m at_ an ar au ak as_ ao, wV g an v, wV g ar (wMeet (wMeet v p q true) q p false)] 2 (Nat.le_of_ble_eq_true rfl)).symm ?_
      refine ke_v X Z dX5_visitEachOther_51 ?_
      exact (by rw [mW, e1_, e2_])
    · skip
      have e2_ : decide (k / 2 = 1) = true := decide_eq_true (Decidable.not_not.mp (mt hb2_.mpr c3_))
      refine kb_iconst (v := (1 : Int32)) X dX5_visitEachOther_43 (by decide) ?_
      refine kb_goto (tgt := 48) X dX5_visitEachOther_44 (by decide) ?_
      refine kc_Vv X (As := [.int (nI (q)), .int (nI (p)), .int 1]) (rest := []) (wr := List.flatten [wX g m at_ an ar au ak as_ ao, wV g an v]) (ct_X4_meet l g ar (wMeet v p q true) q p true (by omega) (by omega)) dX5_visitEachOther_48 rfl (kw_pk [wX g m at_ an ar au ak as_ ao, wV g an v, wV g ar (wMeet v p q true)] 2 (Nat.le_of_ble_eq_true rfl)) mc_X4_meet kl_X5_269 mi_X4_meet mv_X4_meet kn_X4 0 rfl rfl rfl (na := 3) (by decide +kernel) rfl ⟨Nat.le_of_ble_eq_true rfl, Nat.le_of_ble_eq_true rfl⟩ ⟨rfl, rfl⟩ ⟨Nat.le_of_ble_eq_true rfl, Nat.le_of_ble_eq_true rfl⟩ (Nat.le_of_ble_eq_true rfl) (fun w_ hp_ => ?_)
      obtain rfl := hp_
      refine kw_perm (ws' := List.flatten [wX g m at_ an ar au ak as_ ao, wV g an v, wV g ar (wMeet (wMeet v p q true) q p true)]) (kw_pk [wX g m at_ an ar au ak as_ ao, wV g an v, wV g ar (wMeet (wMeet v p q true) q p true)] 2 (Nat.le_of_ble_eq_true rfl)).symm ?_
      refine ke_v X Z dX5_visitEachOther_51 ?_
      exact (by rw [mW, e1_, e2_])

set_option maxHeartbeats 4000000 in
set_option maxRecDepth 100000 in
theorem ct_X5_gainOfFirst (l : Launch) (g : kw_G) (m : Nat) (at_ an ar au : Nat → Nat) (adu : Nat → Nat → Nat) (ak : Nat → Nat) (adk : Nat → Nat → Nat) (as_ ao : Nat → Nat) (ado : Nat → Nat → Nat) (v u : VS) (p q k : Nat) (hv : VI v) (hp : p < 6) (hq : q < 6) (hk : k < 4) : kMi l g yX5_gainOfFirst cX5_gainOfFirst 4 .int (kw_rm 6 0 0) 0 0 [.ref (m), .int (nI (p)), .int (nI (q)), .int (nI (k))] (List.flatten [wX g m at_ an ar au ak as_ ao, wV g an v, wV g ar u]) (fun r w => r = mg v p q k true ∧ w = List.flatten [wX g m at_ an ar au ak as_ ao, wV g an v, wV g ar (mW v p q k)]) := by
  refine kMi_of (by decide +kernel) (Nat.le_of_ble_eq_true rfl) (fun x (X : kX l g RX5 cX5_gainOfFirst 4 (kw_rm 6 0 0) x) (Z : kZi .int _ 0 0 x) => ?_)
  show kW x 0 0 0 [(0, .ref (m)), (1, .int (nI (p))), (2, .int (nI (q))), (3, .int (nI (k)))] [] (List.flatten [wX g m at_ an ar au ak as_ ao, wV g an v, wV g ar u])
  refine kb_aload_n X 0 dX5_gainOfFirst_0 rfl rfl ?_
  refine kb_iload_n X 1 dX5_gainOfFirst_1 rfl rfl ?_
  refine kb_iload_n X 2 dX5_gainOfFirst_2 rfl rfl ?_
  refine kb_iload_n X 3 dX5_gainOfFirst_3 rfl rfl ?_
  refine kc_Vv X (As := [.int (nI (p)), .int (nI (q)), .int (nI (k))]) (rest := []) (wr := []) (ct_X5_visitEachOther l g m at_ an ar au adu ak adk as_ ao ado v u p q k hv (by omega) (by omega) (by omega)) dX5_gainOfFirst_4 rfl (kw_pk3 [wX g m at_ an ar au ak as_ ao, wV g an v, wV g ar u] 0 0 0 (Nat.le_of_ble_eq_true rfl) (Nat.le_of_ble_eq_true rfl) (Nat.le_of_ble_eq_true rfl)) mc_X5_visitEachOther kl_X5_262 mi_X5_visitEachOther mv_X5_visitEachOther kn_X5 0 rfl rfl rfl (na := 3) (by decide +kernel) rfl ⟨Nat.le_of_ble_eq_true rfl, Nat.le_of_ble_eq_true rfl⟩ ⟨rfl, rfl⟩ ⟨Nat.le_of_ble_eq_true rfl, Nat.le_of_ble_eq_true rfl⟩ (Nat.le_of_ble_eq_true rfl) (fun w_ hp_ => ?_)
  obtain rfl := hp_
  refine kw_perm (ws' := List.flatten [wX g m at_ an ar au ak as_ ao, wV g an v, wV g ar (mW v p q k)]) (kw_pk3 [wX g m at_ an ar au ak as_ ao, wV g an v, wV g ar (mW v p q k)] 0 0 0 (Nat.le_of_ble_eq_true rfl) (Nat.le_of_ble_eq_true rfl) (Nat.le_of_ble_eq_true rfl)).symm ?_
  refine kb_aload_n X 0 dX5_gainOfFirst_7 rfl rfl ?_
  refine kf_get (v := .ref (ar 0)) (C := RX5) (T := TX5) (N := 7) (ci := 5) X kw_iX5 rfl 2 0 0 rfl rfl (by decide) kf_X5_23 rfl rfl dX5_gainOfFirst_8 ?_
  refine kb_iload_n X 1 dX5_gainOfFirst_11 rfl rfl ?_
  refine kb_iload_n X 2 dX5_gainOfFirst_12 rfl rfl ?_
  refine kc_Vi X (As := [.int (nI (p)), .int (nI (q))]) (rest := []) (wr := List.flatten [wX g m at_ an ar au ak as_ ao, wV g an v]) (ct_X4_gainOf l g ar (mW v p q k) p q (by omega) (by omega)) dX5_gainOfFirst_13 rfl (kw_pk [wX g m at_ an ar au ak as_ ao, wV g an v, wV g ar (mW v p q k)] 2 (Nat.le_of_ble_eq_true rfl)) mc_X4_gainOf kl_X5_266 mi_X4_gainOf mv_X4_gainOf kn_X4 0 rfl rfl rfl (na := 2) (by decide +kernel) rfl ⟨Nat.le_of_ble_eq_true rfl, Nat.le_of_ble_eq_true rfl⟩ ⟨rfl, rfl⟩ ⟨Nat.le_of_ble_eq_true rfl, Nat.le_of_ble_eq_true rfl⟩ (Nat.le_of_ble_eq_true rfl) (fun r_ w_ hp_ => ?_)
  obtain ⟨rfl, rfl⟩ := hp_
  refine kw_perm (ws' := List.flatten [wX g m at_ an ar au ak as_ ao, wV g an v, wV g ar (mW v p q k)]) (kw_pk [wX g m at_ an ar au ak as_ ao, wV g an v, wV g ar (mW v p q k)] 2 (Nat.le_of_ble_eq_true rfl)).symm ?_
  refine ke_i X Z dX5_gainOfFirst_16 ?_
  exact ⟨rfl, rfl⟩

set_option maxHeartbeats 4000000 in
set_option maxRecDepth 100000 in
theorem ct_X5_gainOfOther (l : Launch) (g : kw_G) (m : Nat) (at_ an ar au : Nat → Nat) (adu : Nat → Nat → Nat) (ak : Nat → Nat) (adk : Nat → Nat → Nat) (as_ ao : Nat → Nat) (ado : Nat → Nat → Nat) (v u : VS) (p q k : Nat) (hv : VI v) (hp : p < 6) (hq : q < 6) (hk : k < 4) : kMi l g yX5_gainOfOther cX5_gainOfOther 4 .int (kw_rm 6 0 0) 0 0 [.ref (m), .int (nI (p)), .int (nI (q)), .int (nI (k))] (List.flatten [wX g m at_ an ar au ak as_ ao, wV g an v, wV g ar u]) (fun r w => r = mg v p q k false ∧ w = List.flatten [wX g m at_ an ar au ak as_ ao, wV g an v, wV g ar (mW v p q k)]) := by
  refine kMi_of (by decide +kernel) (Nat.le_of_ble_eq_true rfl) (fun x (X : kX l g RX5 cX5_gainOfOther 4 (kw_rm 6 0 0) x) (Z : kZi .int _ 0 0 x) => ?_)
  show kW x 0 0 0 [(0, .ref (m)), (1, .int (nI (p))), (2, .int (nI (q))), (3, .int (nI (k)))] [] (List.flatten [wX g m at_ an ar au ak as_ ao, wV g an v, wV g ar u])
  refine kb_aload_n X 0 dX5_gainOfOther_0 rfl rfl ?_
  refine kb_iload_n X 1 dX5_gainOfOther_1 rfl rfl ?_
  refine kb_iload_n X 2 dX5_gainOfOther_2 rfl rfl ?_
  refine kb_iload_n X 3 dX5_gainOfOther_3 rfl rfl ?_
  refine kc_Vv X (As := [.int (nI (p)), .int (nI (q)), .int (nI (k))]) (rest := []) (wr := []) (ct_X5_visitEachOther l g m at_ an ar au adu ak adk as_ ao ado v u p q k hv (by omega) (by omega) (by omega)) dX5_gainOfOther_4 rfl (kw_pk3 [wX g m at_ an ar au ak as_ ao, wV g an v, wV g ar u] 0 0 0 (Nat.le_of_ble_eq_true rfl) (Nat.le_of_ble_eq_true rfl) (Nat.le_of_ble_eq_true rfl)) mc_X5_visitEachOther kl_X5_262 mi_X5_visitEachOther mv_X5_visitEachOther kn_X5 0 rfl rfl rfl (na := 3) (by decide +kernel) rfl ⟨Nat.le_of_ble_eq_true rfl, Nat.le_of_ble_eq_true rfl⟩ ⟨rfl, rfl⟩ ⟨Nat.le_of_ble_eq_true rfl, Nat.le_of_ble_eq_true rfl⟩ (Nat.le_of_ble_eq_true rfl) (fun w_ hp_ => ?_)
  obtain rfl := hp_
  refine kw_perm (ws' := List.flatten [wX g m at_ an ar au ak as_ ao, wV g an v, wV g ar (mW v p q k)]) (kw_pk3 [wX g m at_ an ar au ak as_ ao, wV g an v, wV g ar (mW v p q k)] 0 0 0 (Nat.le_of_ble_eq_true rfl) (Nat.le_of_ble_eq_true rfl) (Nat.le_of_ble_eq_true rfl)).symm ?_
  refine kb_aload_n X 0 dX5_gainOfOther_7 rfl rfl ?_
  refine kf_get (v := .ref (ar 0)) (C := RX5) (T := TX5) (N := 7) (ci := 5) X kw_iX5 rfl 2 0 0 rfl rfl (by decide) kf_X5_23 rfl rfl dX5_gainOfOther_8 ?_
  refine kb_iload_n X 2 dX5_gainOfOther_11 rfl rfl ?_
  refine kb_iload_n X 1 dX5_gainOfOther_12 rfl rfl ?_
  refine kc_Vi X (As := [.int (nI (q)), .int (nI (p))]) (rest := []) (wr := List.flatten [wX g m at_ an ar au ak as_ ao, wV g an v]) (ct_X4_gainOf l g ar (mW v p q k) q p (by omega) (by omega)) dX5_gainOfOther_13 rfl (kw_pk [wX g m at_ an ar au ak as_ ao, wV g an v, wV g ar (mW v p q k)] 2 (Nat.le_of_ble_eq_true rfl)) mc_X4_gainOf kl_X5_266 mi_X4_gainOf mv_X4_gainOf kn_X4 0 rfl rfl rfl (na := 2) (by decide +kernel) rfl ⟨Nat.le_of_ble_eq_true rfl, Nat.le_of_ble_eq_true rfl⟩ ⟨rfl, rfl⟩ ⟨Nat.le_of_ble_eq_true rfl, Nat.le_of_ble_eq_true rfl⟩ (Nat.le_of_ble_eq_true rfl) (fun r_ w_ hp_ => ?_)
  obtain ⟨rfl, rfl⟩ := hp_
  refine kw_perm (ws' := List.flatten [wX g m at_ an ar au ak as_ ao, wV g an v, wV g ar (mW v p q k)]) (kw_pk [wX g m at_ an ar au ak as_ ao, wV g an v, wV g ar (mW v p q k)] 2 (Nat.le_of_ble_eq_true rfl)).symm ?_
  refine ke_i X Z dX5_gainOfOther_16 ?_
  exact ⟨rfl, rfl⟩

set_option maxHeartbeats 4000000 in
set_option maxRecDepth 100000 in
theorem ct_X5_rests (l : Launch) (g : kw_G) (m : Nat) (at_ an ar au : Nat → Nat) (adu : Nat → Nat → Nat) (ak : Nat → Nat) (adk : Nat → Nat → Nat) (as_ ao : Nat → Nat) (ado : Nat → Nat → Nat) (v u : VS) (p q k : Nat) (hv : VI v) (hp : p < 6) (hq : q < 6) (hk : k < 4) : kMi l g yX5_rests cX5_rests 4 .boolean (kw_rm 7 0 0) 0 0 [.ref (m), .int (nI (p)), .int (nI (q)), .int (nI (k))] (List.flatten [wX g m at_ an ar au ak as_ ao, wV g an v, wV g ar u]) (fun r w => r = zI (mR v p q k) ∧ ∃ u', w = List.flatten [wX g m at_ an ar au ak as_ ao, wV g an v, wV g ar u']) := by
  refine kMi_of (by decide +kernel) (Nat.le_of_ble_eq_true rfl) (fun x (X : kX l g RX5 cX5_rests 4 (kw_rm 7 0 0) x) (Z : kZi .boolean _ 0 0 x) => ?_)
  show kW x 0 0 0 [(0, .ref (m)), (1, .int (nI (p))), (2, .int (nI (q))), (3, .int (nI (k)))] [] (List.flatten [wX g m at_ an ar au ak as_ ao, wV g an v, wV g ar u])
  have hx_ := xor_lt k hk
  refine kb_aload_n X 0 dX5_rests_0 rfl rfl ?_
  refine kb_iload_n X 1 dX5_rests_1 rfl rfl ?_
  refine kb_iload_n X 2 dX5_rests_2 rfl rfl ?_
  refine kb_iload_n X 3 dX5_rests_3 rfl rfl ?_
  refine kc_Vi X (As := [.int (nI (p)), .int (nI (q)), .int (nI (k))]) (rest := []) (wr := []) (ct_X5_gainOfFirst l g m at_ an ar au adu ak adk as_ ao ado v u p q k hv (by omega) (by omega) (by omega)) dX5_rests_4 rfl (kw_pk3 [wX g m at_ an ar au ak as_ ao, wV g an v, wV g ar u] 0 0 0 (Nat.le_of_ble_eq_true rfl) (Nat.le_of_ble_eq_true rfl) (Nat.le_of_ble_eq_true rfl)) mc_X5_gainOfFirst kl_X5_256 mi_X5_gainOfFirst mv_X5_gainOfFirst kn_X5 0 rfl rfl rfl (na := 3) (by decide +kernel) rfl ⟨Nat.le_of_ble_eq_true rfl, Nat.le_of_ble_eq_true rfl⟩ ⟨rfl, rfl⟩ ⟨Nat.le_of_ble_eq_true rfl, Nat.le_of_ble_eq_true rfl⟩ (Nat.le_of_ble_eq_true rfl) (fun r_ w_ hp_ => ?_)
  obtain ⟨rfl, rfl⟩ := hp_
  refine kw_perm (ws' := List.flatten [wX g m at_ an ar au ak as_ ao, wV g an v, wV g ar (mW v p q k)]) (kw_pk3 [wX g m at_ an ar au ak as_ ao, wV g an v, wV g ar (mW v p q k)] 0 0 0 (Nat.le_of_ble_eq_true rfl) (Nat.le_of_ble_eq_true rfl) (Nat.le_of_ble_eq_true rfl)).symm ?_
  refine kb_aload_n X 0 dX5_rests_7 rfl rfl ?_
  refine kb_iload_n X 1 dX5_rests_8 rfl rfl ?_
  refine kb_iload_n X 2 dX5_rests_9 rfl rfl ?_
  refine kb_iload_n X 3 dX5_rests_10 rfl rfl ?_
  refine kb_iconst (v := (2 : Int32)) X dX5_rests_11 (by decide) ?_
  refine kb_ixor X dX5_rests_12 ?_
  refine kw_top (b := .int (nI (k ^^^ 2))) (by rw [show (2 : Int32) = nI 2 from rfl, xor_nI k (by omega) 2 (by decide)]) ?_
  refine kc_Vi X (As := [.int (nI (p)), .int (nI (q)), .int (nI (k ^^^ 2))]) (rest := [.int (mg v p q k true)]) (wr := []) (ct_X5_gainOfFirst l g m at_ an ar au adu ak adk as_ ao ado v (mW v p q k) p q (k ^^^ 2) hv (by omega) (by omega) (by omega)) dX5_rests_13 rfl (kw_pk3 [wX g m at_ an ar au ak as_ ao, wV g an v, wV g ar (mW v p q k)] 0 0 0 (Nat.le_of_ble_eq_true rfl) (Nat.le_of_ble_eq_true rfl) (Nat.le_of_ble_eq_true rfl)) mc_X5_gainOfFirst kl_X5_256 mi_X5_gainOfFirst mv_X5_gainOfFirst kn_X5 0 rfl rfl rfl (na := 3) (by decide +kernel) rfl ⟨Nat.le_of_ble_eq_true rfl, Nat.le_of_ble_eq_true rfl⟩ ⟨rfl, rfl⟩ ⟨Nat.le_of_ble_eq_true rfl, Nat.le_of_ble_eq_true rfl⟩ (Nat.le_of_ble_eq_true rfl) (fun r_ w_ hp_ => ?_)
  obtain ⟨rfl, rfl⟩ := hp_
  refine kw_perm (ws' := List.flatten [wX g m at_ an ar au ak as_ ao, wV g an v, wV g ar (mW v p q (k ^^^ 2))]) (kw_pk3 [wX g m at_ an ar au ak as_ ao, wV g an v, wV g ar (mW v p q (k ^^^ 2))] 0 0 0 (Nat.le_of_ble_eq_true rfl) (Nat.le_of_ble_eq_true rfl) (Nat.le_of_ble_eq_true rfl)).symm ?_
  refine kb_icmp_lt (tgt := 42) X dX5_rests_16 (by decide) (fun c1_ => ?_) (fun c1_ => ?_)
  · skip
    refine kb_iconst (v := (0 : Int32)) X dX5_rests_42 (by decide) ?_
    refine ke_z X Z rfl dX5_rests_43 ?_
    exact ⟨by simp [mR, zI, c1_], _, rfl⟩
  · skip
    refine kb_aload_n X 0 dX5_rests_19 rfl rfl ?_
    refine kb_iload_n X 1 dX5_rests_20 rfl rfl ?_
    refine kb_iload_n X 2 dX5_rests_21 rfl rfl ?_
    refine kb_iload_n X 3 dX5_rests_22 rfl rfl ?_
    refine kc_Vi X (As := [.int (nI (p)), .int (nI (q)), .int (nI (k))]) (rest := []) (wr := []) (ct_X5_gainOfOther l g m at_ an ar au adu ak adk as_ ao ado v (mW v p q (k ^^^ 2)) p q k hv (by omega) (by omega) (by omega)) dX5_rests_23 rfl (kw_pk3 [wX g m at_ an ar au ak as_ ao, wV g an v, wV g ar (mW v p q (k ^^^ 2))] 0 0 0 (Nat.le_of_ble_eq_true rfl) (Nat.le_of_ble_eq_true rfl) (Nat.le_of_ble_eq_true rfl)) mc_X5_gainOfOther kl_X5_259 mi_X5_gainOfOther mv_X5_gainOfOther kn_X5 0 rfl rfl rfl (na := 3) (by decide +kernel) rfl ⟨Nat.le_of_ble_eq_true rfl, Nat.le_of_ble_eq_true rfl⟩ ⟨rfl, rfl⟩ ⟨Nat.le_of_ble_eq_true rfl, Nat.le_of_ble_eq_true rfl⟩ (Nat.le_of_ble_eq_true rfl) (fun r_ w_ hp_ => ?_)
    obtain ⟨rfl, rfl⟩ := hp_
    refine kw_perm (ws' := List.flatten [wX g m at_ an ar au ak as_ ao, wV g an v, wV g ar (mW v p q k)]) (kw_pk3 [wX g m at_ an ar au ak as_ ao, wV g an v, wV g ar (mW v p q k)] 0 0 0 (Nat.le_of_ble_eq_true rfl) (Nat.le_of_ble_eq_true rfl) (Nat.le_of_ble_eq_true rfl)).symm ?_
    refine kb_aload_n X 0 dX5_rests_26 rfl rfl ?_
    refine kb_iload_n X 1 dX5_rests_27 rfl rfl ?_
    refine kb_iload_n X 2 dX5_rests_28 rfl rfl ?_
    refine kb_iload_n X 3 dX5_rests_29 rfl rfl ?_
    refine kb_iconst (v := (1 : Int32)) X dX5_rests_30 (by decide) ?_
    refine kb_ixor X dX5_rests_31 ?_
    refine kw_top (b := .int (nI (k ^^^ 1))) (by rw [show (1 : Int32) = nI 1 from rfl, xor_nI k (by omega) 1 (by decide)]) ?_
    refine kc_Vi X (As := [.int (nI (p)), .int (nI (q)), .int (nI (k ^^^ 1))]) (rest := [.int (mg v p q k false)]) (wr := []) (ct_X5_gainOfOther l g m at_ an ar au adu ak adk as_ ao ado v (mW v p q k) p q (k ^^^ 1) hv (by omega) (by omega) (by omega)) dX5_rests_32 rfl (kw_pk3 [wX g m at_ an ar au ak as_ ao, wV g an v, wV g ar (mW v p q k)] 0 0 0 (Nat.le_of_ble_eq_true rfl) (Nat.le_of_ble_eq_true rfl) (Nat.le_of_ble_eq_true rfl)) mc_X5_gainOfOther kl_X5_259 mi_X5_gainOfOther mv_X5_gainOfOther kn_X5 0 rfl rfl rfl (na := 3) (by decide +kernel) rfl ⟨Nat.le_of_ble_eq_true rfl, Nat.le_of_ble_eq_true rfl⟩ ⟨rfl, rfl⟩ ⟨Nat.le_of_ble_eq_true rfl, Nat.le_of_ble_eq_true rfl⟩ (Nat.le_of_ble_eq_true rfl) (fun r_ w_ hp_ => ?_)
    obtain ⟨rfl, rfl⟩ := hp_
    refine kw_perm (ws' := List.flatten [wX g m at_ an ar au ak as_ ao, wV g an v, wV g ar (mW v p q (k ^^^ 1))]) (kw_pk3 [wX g m at_ an ar au ak as_ ao, wV g an v, wV g ar (mW v p q (k ^^^ 1))] 0 0 0 (Nat.le_of_ble_eq_true rfl) (Nat.le_of_ble_eq_true rfl) (Nat.le_of_ble_eq_true rfl)).symm ?_
    refine kb_icmp_lt (tgt := 42) X dX5_rests_35 (by decide) (fun c2_ => ?_) (fun c2_ => ?_)
    · skip
      refine kb_iconst (v := (0 : Int32)) X dX5_rests_42 (by decide) ?_
      refine ke_z X Z rfl dX5_rests_43 ?_
      exact ⟨by simp [mR, zI, c1_, c2_], _, rfl⟩
    · skip
      refine kb_iconst (v := (1 : Int32)) X dX5_rests_38 (by decide) ?_
      refine kb_goto (tgt := 43) X dX5_rests_39 (by decide) ?_
      refine ke_z X Z rfl dX5_rests_43 ?_
      exact ⟨by simp [mR, zI, c1_, c2_], _, rfl⟩

set_option maxHeartbeats 4000000 in
set_option maxRecDepth 100000 in
theorem ct_X5_mutual (l : Launch) (g : kw_G) (m : Nat) (at_ an ar au : Nat → Nat) (adu : Nat → Nat → Nat) (ak : Nat → Nat) (adk : Nat → Nat → Nat) (as_ ao : Nat → Nat) (ado : Nat → Nat → Nat) (t : TS) (v u : VS) (sz tp : Nat) (uvs : Nat → VS) (kz kp : Nat) (kvs : Nat → VS) (s : SS) (oP oB : Nat → Nat) (oL oC : Int32) (oD oZ oM : Nat) (ovs : Nat → VS) (us ks : List VS) (tf : Nat → Nat) (tn : Nat) (hI : XI t sz tp uvs kz kp kvs oB oL oC oD oZ oM ovs v us ks tf tn s) (i j mm : Int32) : kMi l g yX5_mutual cX5_mutual 7 .int (kw_rm 8 0 0) 0 0 [.ref (m), .int (i), .int (j), .int (mm)] (List.flatten [wX g m at_ an ar au ak as_ ao, wT g at_ t, wV g an v, wV g ar u, wPh g au adu 8 sz tp, wVs g adu uvs (List.range 8), wPh g ak adk 2 kz kp, wVs g adk kvs (List.range 2), wS g as_ s, wO g ao ado (oP, oB, oL, oC, oD, oZ, oM), wVs g ado ovs (List.range 7)]) (fun r w => r = oMut v i j mm ∧ XWp g m at_ an ar au adu ak adk as_ ao ado v us ks tf tn s w) := by
  refine kMi_of (by decide +kernel) (Nat.le_of_ble_eq_true rfl) (fun x (X : kX l g RX5 cX5_mutual 7 (kw_rm 8 0 0) x) (Z : kZi .int _ 0 0 x) => ?_)
  show kW x 0 0 0 [(0, .ref (m)), (1, .int (i)), (2, .int (j)), (3, .int (mm))] [] (List.flatten [wX g m at_ an ar au ak as_ ao, wT g at_ t, wV g an v, wV g ar u, wPh g au adu 8 sz tp, wVs g adu uvs (List.range 8), wPh g ak adk 2 kz kp, wVs g adk kvs (List.range 2), wS g as_ s, wO g ao ado (oP, oB, oL, oC, oD, oZ, oM), wVs g ado ovs (List.range 7)])
  obtain ⟨hG, hU, hKp, hT_, hs, hO⟩ := id hI
  have hv := hG.1
  have hT := hG.2.1
  have hN0 := hG.2.2.2
  have h6 := hv.1
  have hx64 := hv.2.1
  have hh64 := hv.2.2
  obtain ⟨ht, etn, htx⟩ := id hT_
  have hs1 := hs.1
  have hus := hU.1
  have hsz := hU.2.1
  have htp := hU.2.2.1
  have hks := hKp.1
  have hkz := hKp.2.1
  have hkp := hKp.2.2.1
  refine kb_aload_n X 0 dX5_mutual_0 rfl rfl ?_
  refine kf_get (v := .ref (an 0)) (C := RX5) (T := TX5) (N := 7) (ci := 5) X kw_iX5 rfl 1 0 0 rfl rfl (by decide) kf_X5_19 rfl rfl dX5_mutual_1 ?_
  refine kb_iload_n X 1 dX5_mutual_4 rfl rfl ?_
  refine kb_iload_n X 2 dX5_mutual_5 rfl rfl ?_
  refine kc_Vi X (As := [.int (i), .int (j)]) (rest := []) (wr := List.flatten [wX g m at_ an ar au ak as_ ao, wT g at_ t, wV g ar u, wPh g au adu 8 sz tp, wVs g adu uvs (List.range 8), wPh g ak adk 2 kz kp, wVs g adk kvs (List.range 2), wS g as_ s, wO g ao ado (oP, oB, oL, oC, oD, oZ, oM), wVs g ado ovs (List.range 7)]) (ct_X4_hasTwo l g an v i j ) dX5_mutual_6 rfl (kw_pk [wX g m at_ an ar au ak as_ ao, wT g at_ t, wV g an v, wV g ar u, wPh g au adu 8 sz tp, wVs g adu uvs (List.range 8), wPh g ak adk 2 kz kp, wVs g adk kvs (List.range 2), wS g as_ s, wO g ao ado (oP, oB, oL, oC, oD, oZ, oM), wVs g ado ovs (List.range 7)] 2 (Nat.le_of_ble_eq_true rfl)) mc_X4_hasTwo kl_X5_121 mi_X4_hasTwo mv_X4_hasTwo kn_X4 0 rfl rfl rfl (na := 2) (by decide +kernel) rfl ⟨Nat.le_of_ble_eq_true rfl, Nat.le_of_ble_eq_true rfl⟩ ⟨rfl, rfl⟩ ⟨Nat.le_of_ble_eq_true rfl, Nat.le_of_ble_eq_true rfl⟩ (Nat.le_of_ble_eq_true rfl) (fun r_ w_ hp_ => ?_)
  obtain ⟨rfl, rfl⟩ := hp_
  refine kw_perm (ws' := List.flatten [wX g m at_ an ar au ak as_ ao, wT g at_ t, wV g an v, wV g ar u, wPh g au adu 8 sz tp, wVs g adu uvs (List.range 8), wPh g ak adk 2 kz kp, wVs g adk kvs (List.range 2), wS g as_ s, wO g ao ado (oP, oB, oL, oC, oD, oZ, oM), wVs g ado ovs (List.range 7)]) (kw_pk [wX g m at_ an ar au ak as_ ao, wT g at_ t, wV g an v, wV g ar u, wPh g au adu 8 sz tp, wVs g adu uvs (List.range 8), wPh g ak adk 2 kz kp, wVs g adk kvs (List.range 2), wS g as_ s, wO g ao ado (oP, oB, oL, oC, oD, oZ, oM), wVs g ado ovs (List.range 7)] 2 (Nat.le_of_ble_eq_true rfl)).symm ?_
  refine kz_if_eq (b := two i j (vN v)) (tgt := 21) X dX5_mutual_9 (by decide) (fun c1_ => ?_) (fun c1_ => ?_)
  · skip
    refine kb_iconst (v := (-1 : Int32)) X dX5_mutual_21 (by decide) ?_
    refine ke_i X Z dX5_mutual_22 ?_
    exact ⟨by simp [oMut, c1_], XWp.of hI⟩
  · skip
    obtain ⟨ij, jj, hij, hjj, hne, eij, ejj, ePi, ePj⟩ := two_j h6 c1_
    refine kw_lv (lv' := [(0, .ref (m)), (1, .int (nI (ij))), (2, .int (j)), (3, .int (mm))]) (by rw [eij]) ?_
    refine kw_lv (lv' := [(0, .ref (m)), (1, .int (nI (ij))), (2, .int (nI (jj))), (3, .int (mm))]) (by rw [ejj]) ?_
    refine kb_iload_n X 3 dX5_mutual_12 rfl rfl ?_
    refine kb_iconst (v := (0 : Int32)) X dX5_mutual_13 (by decide) ?_
    refine kb_iconst (v := (1 : Int32)) X dX5_mutual_14 (by decide) ?_
    refine kc_Si X (As := [.int (mm), .int 0, .int 1]) (rest := []) (wr := (List.flatten [wX g m at_ an ar au ak as_ ao, wT g at_ t, wV g an v, wV g ar u, wPh g au adu 8 sz tp, wVs g adu uvs (List.range 8), wPh g ak adk 2 kz kp, wVs g adk kvs (List.range 2), wS g as_ s, wO g ao ado (oP, oB, oL, oC, oD, oZ, oM), wVs g ado ovs (List.range 7)])) (ct_X5_within l g mm (0 : Int32) (1 : Int32) ) dX5_mutual_15 rfl (List.Perm.refl _) mc_X5_within kl_X5_75 ms_X5_within kn_X5 (na := 3) (by decide +kernel) rfl ⟨Nat.le_of_ble_eq_true rfl, Nat.le_of_ble_eq_true rfl⟩ ⟨rfl, rfl⟩ ⟨Nat.le_of_ble_eq_true rfl, Nat.le_of_ble_eq_true rfl⟩ (Nat.le_of_ble_eq_true rfl) (fun r_ w_ hp_ => ?_)
    obtain ⟨rfl, rfl⟩ := hp_
    refine kw_ws (List.nil_append _) ?_
    refine kz_if_ne (b := inr mm (0 : Int32) (1 : Int32)) (tgt := 23) X dX5_mutual_18 (by decide) (fun c2_ => ?_) (fun c2_ => ?_)
    · skip
      refine kb_aload_n X 0 dX5_mutual_23 rfl rfl ?_
      refine kf_get (v := .ref (an 0)) (C := RX5) (T := TX5) (N := 7) (ci := 5) X kw_iX5 rfl 1 0 0 rfl rfl (by decide) kf_X5_19 rfl rfl dX5_mutual_24 ?_
      refine kb_iload_n X 1 dX5_mutual_27 rfl rfl ?_
      refine kc_Vi X (As := [.int (nI (ij))]) (rest := []) (wr := List.flatten [wX g m at_ an ar au ak as_ ao, wT g at_ t, wV g ar u, wPh g au adu 8 sz tp, wVs g adu uvs (List.range 8), wPh g ak adk 2 kz kp, wVs g adk kvs (List.range 2), wS g as_ s, wO g ao ado (oP, oB, oL, oC, oD, oZ, oM), wVs g ado ovs (List.range 7)]) (ct_X4_lives l g an v hv ij (by omega)) dX5_mutual_28 rfl (kw_pk [wX g m at_ an ar au ak as_ ao, wT g at_ t, wV g an v, wV g ar u, wPh g au adu 8 sz tp, wVs g adu uvs (List.range 8), wPh g ak adk 2 kz kp, wVs g adk kvs (List.range 2), wS g as_ s, wO g ao ado (oP, oB, oL, oC, oD, oZ, oM), wVs g ado ovs (List.range 7)] 2 (Nat.le_of_ble_eq_true rfl)) mc_X4_lives kl_X5_112 mi_X4_lives mv_X4_lives kn_X4 0 rfl rfl rfl (na := 1) (by decide +kernel) rfl ⟨Nat.le_of_ble_eq_true rfl, Nat.le_of_ble_eq_true rfl⟩ ⟨rfl, rfl⟩ ⟨Nat.le_of_ble_eq_true rfl, Nat.le_of_ble_eq_true rfl⟩ (Nat.le_of_ble_eq_true rfl) (fun r_ w_ hp_ => ?_)
      obtain ⟨rfl, rfl⟩ := hp_
      refine kw_perm (ws' := List.flatten [wX g m at_ an ar au ak as_ ao, wT g at_ t, wV g an v, wV g ar u, wPh g au adu 8 sz tp, wVs g adu uvs (List.range 8), wPh g ak adk 2 kz kp, wVs g adk kvs (List.range 2), wS g as_ s, wO g ao ado (oP, oB, oL, oC, oD, oZ, oM), wVs g ado ovs (List.range 7)]) (kw_pk [wX g m at_ an ar au ak as_ ao, wT g at_ t, wV g an v, wV g ar u, wPh g au adu 8 sz tp, wVs g adu uvs (List.range 8), wPh g ak adk 2 kz kp, wVs g adk kvs (List.range 2), wS g as_ s, wO g ao ado (oP, oB, oL, oC, oD, oZ, oM), wVs g ado ovs (List.range 7)] 2 (Nat.le_of_ble_eq_true rfl)).symm ?_
      refine kz_if_eq (b := wLives v ij) (tgt := 45) X dX5_mutual_31 (by decide) (fun c3_ => ?_) (fun c3_ => ?_)
      · skip
        refine kb_bipush (v := (-2 : Int32)) X dX5_mutual_45 (by decide) ?_
        refine ke_i X Z dX5_mutual_47 ?_
        exact ⟨by simp [oMut, c1_, ePi, ePj, c2_, c3_], XWp.of hI⟩
      · skip
        refine kb_aload_n X 0 dX5_mutual_34 rfl rfl ?_
        refine kf_get (v := .ref (an 0)) (C := RX5) (T := TX5) (N := 7) (ci := 5) X kw_iX5 rfl 1 0 0 rfl rfl (by decide) kf_X5_19 rfl rfl dX5_mutual_35 ?_
        refine kb_iload_n X 2 dX5_mutual_38 rfl rfl ?_
        refine kc_Vi X (As := [.int (nI (jj))]) (rest := []) (wr := List.flatten [wX g m at_ an ar au ak as_ ao, wT g at_ t, wV g ar u, wPh g au adu 8 sz tp, wVs g adu uvs (List.range 8), wPh g ak adk 2 kz kp, wVs g adk kvs (List.range 2), wS g as_ s, wO g ao ado (oP, oB, oL, oC, oD, oZ, oM), wVs g ado ovs (List.range 7)]) (ct_X4_lives l g an v hv jj (by omega)) dX5_mutual_39 rfl (kw_pk [wX g m at_ an ar au ak as_ ao, wT g at_ t, wV g an v, wV g ar u, wPh g au adu 8 sz tp, wVs g adu uvs (List.range 8), wPh g ak adk 2 kz kp, wVs g adk kvs (List.range 2), wS g as_ s, wO g ao ado (oP, oB, oL, oC, oD, oZ, oM), wVs g ado ovs (List.range 7)] 2 (Nat.le_of_ble_eq_true rfl)) mc_X4_lives kl_X5_112 mi_X4_lives mv_X4_lives kn_X4 0 rfl rfl rfl (na := 1) (by decide +kernel) rfl ⟨Nat.le_of_ble_eq_true rfl, Nat.le_of_ble_eq_true rfl⟩ ⟨rfl, rfl⟩ ⟨Nat.le_of_ble_eq_true rfl, Nat.le_of_ble_eq_true rfl⟩ (Nat.le_of_ble_eq_true rfl) (fun r_ w_ hp_ => ?_)
        obtain ⟨rfl, rfl⟩ := hp_
        refine kw_perm (ws' := List.flatten [wX g m at_ an ar au ak as_ ao, wT g at_ t, wV g an v, wV g ar u, wPh g au adu 8 sz tp, wVs g adu uvs (List.range 8), wPh g ak adk 2 kz kp, wVs g adk kvs (List.range 2), wS g as_ s, wO g ao ado (oP, oB, oL, oC, oD, oZ, oM), wVs g ado ovs (List.range 7)]) (kw_pk [wX g m at_ an ar au ak as_ ao, wT g at_ t, wV g an v, wV g ar u, wPh g au adu 8 sz tp, wVs g adu uvs (List.range 8), wPh g ak adk 2 kz kp, wVs g adk kvs (List.range 2), wS g as_ s, wO g ao ado (oP, oB, oL, oC, oD, oZ, oM), wVs g ado ovs (List.range 7)] 2 (Nat.le_of_ble_eq_true rfl)).symm ?_
        refine kz_if_ne (b := wLives v jj) (tgt := 48) X dX5_mutual_42 (by decide) (fun c4_ => ?_) (fun c4_ => ?_)
        · skip
          refine kb_iconst (v := (0 : Int32)) X dX5_mutual_48 (by decide) ?_
          refine kb_istore X [1, 2, 3, 4, 0] dX5_mutual_49 (by decide) (lv' := [(0, .ref (m)), (1, .int (nI (ij))), (2, .int (nI (jj))), (3, .int (mm)), (4, .int 0)]) rfl ?_
          refine kb_bipush (v := (-4 : Int32)) X dX5_mutual_51 (by decide) ?_
          refine kb_istore X [1, 2, 3, 4, 5, 0] dX5_mutual_53 (by decide) (lv' := [(0, .ref (m)), (1, .int (nI (ij))), (2, .int (nI (jj))), (3, .int (mm)), (4, .int 0), (5, .int (-4))]) rfl ?_
          refine kb_iconst (v := (0 : Int32)) X dX5_mutual_55 (by decide) ?_
          refine kb_istore X [1, 2, 3, 4, 5, 6, 0] dX5_mutual_56 (by decide) (lv' := [(0, .ref (m)), (1, .int (nI (ij))), (2, .int (nI (jj))), (3, .int (mm)), (4, .int 0), (5, .int (-4)), (6, .int 0)]) rfl ?_
          have L58 : ∀ (K_ k : Nat) (w1 : VS), k + K_ = 4 → kW x 0 0 58 [(0, .ref (m)), (1, .int (nI (ij))), (2, .int (nI (jj))), (3, .int (mm)), (4, .int (nI (mN v ij jj k))), (5, .int (mF v ij jj k)), (6, .int (nI (k)))] [] (List.flatten [wX g m at_ an ar au ak as_ ao, wT g at_ t, wV g an v, wV g ar w1, wPh g au adu 8 sz tp, wVs g adu uvs (List.range 8), wPh g ak adk 2 kz kp, wVs g adk kvs (List.range 2), wS g as_ s, wO g ao ado (oP, oB, oL, oC, oD, oZ, oM), wVs g ado ovs (List.range 7)]) := by
            intro K_
            induction K_ with
            | zero =>
              intro k w1 hk_
              refine kb_iload X 6 dX5_mutual_58 rfl ?_
              refine kb_iconst (v := (4 : Int32)) X dX5_mutual_60 (by decide) ?_
              refine kn_icmp_ge (a := k) (b := 4) (tgt := 95) X (by omega) (by omega) dX5_mutual_61 (by decide) (fun c5_ => ?_) (fun c5_ => ?_)
              · skip
                refine kb_iload_n X 3 dX5_mutual_95 rfl rfl ?_
                refine kb_if_ne (tgt := 104) X dX5_mutual_96 (by decide) (fun c6_ => ?_) (fun c6_ => ?_)
                · skip
                  refine kb_iload X 5 dX5_mutual_104 rfl ?_
                  refine ke_i X Z dX5_mutual_106 ?_
                  have e4_ : k = 4 := by omega
                  subst e4_
                  exact ⟨by simp [oMut, c1_, ePi, ePj, c2_, c3_, c4_, c5_, c6_, (by decide : inr 0 0 1 = true), (by decide : inr 1 0 1 = true)], XWp.of hI⟩
                · skip
                  refine kb_iload X 4 dX5_mutual_99 rfl ?_
                  refine kb_goto (tgt := 106) X dX5_mutual_101 (by decide) ?_
                  refine ke_i X Z dX5_mutual_106 ?_
                  have e4_ : k = 4 := by omega
                  subst e4_
                  exact ⟨by simp [oMut, c1_, ePi, ePj, c2_, c3_, c4_, c5_, c6_, (by decide : inr 0 0 1 = true), (by decide : inr 1 0 1 = true)], XWp.of hI⟩
              · skip
                omega
            | succ K_ ih =>
              intro k w1 hk_
              refine kb_iload X 6 dX5_mutual_58 rfl ?_
              refine kb_iconst (v := (4 : Int32)) X dX5_mutual_60 (by decide) ?_
              refine kn_icmp_ge (a := k) (b := 4) (tgt := 95) X (by omega) (by omega) dX5_mutual_61 (by decide) (fun c7_ => ?_) (fun c7_ => ?_)
              · skip
                omega
              · skip
                refine kb_aload_n X 0 dX5_mutual_64 rfl rfl ?_
                refine kb_iload_n X 1 dX5_mutual_65 rfl rfl ?_
                refine kb_iload_n X 2 dX5_mutual_66 rfl rfl ?_
                refine kb_iload X 6 dX5_mutual_67 rfl ?_
                refine kc_Vi X (As := [.int (nI (ij)), .int (nI (jj)), .int (nI (k))]) (rest := []) (wr := List.flatten [wT g at_ t, wPh g au adu 8 sz tp, wVs g adu uvs (List.range 8), wPh g ak adk 2 kz kp, wVs g adk kvs (List.range 2), wS g as_ s, wO g ao ado (oP, oB, oL, oC, oD, oZ, oM), wVs g ado ovs (List.range 7)]) (ct_X5_rests l g m at_ an ar au adu ak adk as_ ao ado v w1 ij jj k hv (by omega) (by omega) (by omega)) dX5_mutual_69 rfl (kw_pk3 [wX g m at_ an ar au ak as_ ao, wT g at_ t, wV g an v, wV g ar w1, wPh g au adu 8 sz tp, wVs g adu uvs (List.range 8), wPh g ak adk 2 kz kp, wVs g adk kvs (List.range 2), wS g as_ s, wO g ao ado (oP, oB, oL, oC, oD, oZ, oM), wVs g ado ovs (List.range 7)] 0 1 1 (Nat.le_of_ble_eq_true rfl) (Nat.le_of_ble_eq_true rfl) (Nat.le_of_ble_eq_true rfl)) mc_X5_rests kl_X5_211 mi_X5_rests mv_X5_rests kn_X5 0 rfl rfl rfl (na := 3) (by decide +kernel) rfl ⟨Nat.le_of_ble_eq_true rfl, Nat.le_of_ble_eq_true rfl⟩ ⟨rfl, rfl⟩ ⟨Nat.le_of_ble_eq_true rfl, Nat.le_of_ble_eq_true rfl⟩ (Nat.le_of_ble_eq_true rfl) (fun r_ w_ hp_ => ?_)
                obtain ⟨rfl, u8_, rfl⟩ := hp_
                refine kw_perm (ws' := List.flatten [wX g m at_ an ar au ak as_ ao, wT g at_ t, wV g an v, wV g ar u8_, wPh g au adu 8 sz tp, wVs g adu uvs (List.range 8), wPh g ak adk 2 kz kp, wVs g adk kvs (List.range 2), wS g as_ s, wO g ao ado (oP, oB, oL, oC, oD, oZ, oM), wVs g ado ovs (List.range 7)]) (kw_pk3 [wX g m at_ an ar au ak as_ ao, wT g at_ t, wV g an v, wV g ar u8_, wPh g au adu 8 sz tp, wVs g adu uvs (List.range 8), wPh g ak adk 2 kz kp, wVs g adk kvs (List.range 2), wS g as_ s, wO g ao ado (oP, oB, oL, oC, oD, oZ, oM), wVs g ado ovs (List.range 7)] 0 1 1 (Nat.le_of_ble_eq_true rfl) (Nat.le_of_ble_eq_true rfl) (Nat.le_of_ble_eq_true rfl)).symm ?_
                refine kz_if_eq (b := mR v ij jj k) (tgt := 89) X dX5_mutual_72 (by decide) (fun c9_ => ?_) (fun c9_ => ?_)
                · skip
                  refine kb_iinc X 6 [1, 2, 3, 4, 5, 6, 0] (v' := nI (k + 1)) dX5_mutual_89 rfl (nI_add _ _) (by decide) (lv' := [(0, .ref (m)), (1, .int (nI (ij))), (2, .int (nI (jj))), (3, .int (mm)), (4, .int (nI (mN v ij jj k))), (5, .int (mF v ij jj k)), (6, .int (nI (k + 1)))]) rfl ?_
                  refine kb_goto (tgt := 58) X dX5_mutual_92 (by decide) ?_
                  exact kw_to (ih (k + 1) u8_ (by omega)) (by rw [mN, mF]; simp [c1_, ePi, ePj, c2_, c3_, c4_, c7_, c9_]) rfl rfl
                · skip
                  refine kb_iinc X 4 [1, 2, 3, 4, 0, 5, 6] (v' := nI (mN v ij jj k + 1)) dX5_mutual_75 rfl (nI_add _ _) (by decide) (lv' := [(0, .ref (m)), (1, .int (nI (ij))), (2, .int (nI (jj))), (3, .int (mm)), (4, .int (nI (mN v ij jj k + 1))), (5, .int (mF v ij jj k)), (6, .int (nI (k)))]) rfl ?_
                  refine kb_iload X 5 dX5_mutual_78 rfl ?_
                  refine kb_bipush (v := (-4 : Int32)) X dX5_mutual_80 (by decide) ?_
                  refine kb_icmp_ne (tgt := 89) X dX5_mutual_82 (by decide) (fun c10_ => ?_) (fun c10_ => ?_)
                  · skip
                    have cn_ : ¬ mN v ij jj k = 0 := fun q => c10_ ((mF_n v ij jj k (by omega)).mpr q)
                    refine kb_iinc X 6 [1, 2, 3, 4, 5, 6, 0] (v' := nI (k + 1)) dX5_mutual_89 rfl (nI_add _ _) (by decide) (lv' := [(0, .ref (m)), (1, .int (nI (ij))), (2, .int (nI (jj))), (3, .int (mm)), (4, .int (nI (mN v ij jj k + 1))), (5, .int (mF v ij jj k)), (6, .int (nI (k + 1)))]) rfl ?_
                    refine kb_goto (tgt := 58) X dX5_mutual_92 (by decide) ?_
                    exact kw_to (ih (k + 1) u8_ (by omega)) (by rw [mN, mF]; simp [c1_, ePi, ePj, c2_, c3_, c4_, c7_, c9_, cn_]) rfl rfl
                  · skip
                    have cn_ : mN v ij jj k = 0 := (mF_n v ij jj k (by omega)).mp c10_
                    refine kb_iload X 6 dX5_mutual_85 rfl ?_
                    refine kb_istore X [1, 2, 3, 4, 5, 0, 6] dX5_mutual_87 (by decide) (lv' := [(0, .ref (m)), (1, .int (nI (ij))), (2, .int (nI (jj))), (3, .int (mm)), (4, .int (nI (mN v ij jj k + 1))), (5, .int (nI (k))), (6, .int (nI (k)))]) rfl ?_
                    refine kb_iinc X 6 [1, 2, 3, 4, 5, 6, 0] (v' := nI (k + 1)) dX5_mutual_89 rfl (nI_add _ _) (by decide) (lv' := [(0, .ref (m)), (1, .int (nI (ij))), (2, .int (nI (jj))), (3, .int (mm)), (4, .int (nI (mN v ij jj k + 1))), (5, .int (nI (k))), (6, .int (nI (k + 1)))]) rfl ?_
                    refine kb_goto (tgt := 58) X dX5_mutual_92 (by decide) ?_
                    exact kw_to (ih (k + 1) u8_ (by omega)) (by rw [mN, mF]; simp [c1_, ePi, ePj, c2_, c3_, c4_, c7_, c9_, cn_]) rfl rfl
          exact kw_to (L58 4 0 u rfl) rfl rfl rfl
        · skip
          refine kb_bipush (v := (-2 : Int32)) X dX5_mutual_45 (by decide) ?_
          refine ke_i X Z dX5_mutual_47 ?_
          exact ⟨by simp [oMut, c1_, ePi, ePj, c2_, c3_, c4_], XWp.of hI⟩
    · skip
      refine kb_iconst (v := (-1 : Int32)) X dX5_mutual_21 (by decide) ?_
      refine ke_i X Z dX5_mutual_22 ?_
      exact ⟨by simp [oMut, c1_, ePi, ePj, c2_], XWp.of hI⟩

