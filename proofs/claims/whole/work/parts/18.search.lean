set_option maxHeartbeats 4000000 in
set_option maxRecDepth 100000 in
theorem ct_X0_isFor (l : Launch) (g : kw_G) (a : Nat → Nat) (ad : Nat → Nat → Nat) (pa be : Nat → Nat) (bl ck : Int32) (du si mo : Nat) (vs : Nat → VS) (b : Nat → Nat) (v : VS) (c d : Int32) (h0 : VI (vs 0)) (hv : VI v) : kMi l g yX0_isFor cX0_isFor 4 .boolean (kw_rm 3 0 0) 0 0 [.ref (a 0), .ref (b 0), .int (c), .int (d)] (List.flatten [wO g a ad (pa, be, bl, ck, du, si, mo), wVs g ad vs (List.range 7), wV g b v]) (fun r w => r = zI (decide (bl = c) && (decide (ck = d) && wLike (vs 0) v)) ∧ w = List.flatten [wO g a ad (pa, be, bl, ck, du, si, mo), wVs g ad vs (List.range 7), wV g b v]) := by
  refine kMi_of (by decide +kernel) (Nat.le_of_ble_eq_true rfl) (fun x (X : kX l g RX0 cX0_isFor 4 (kw_rm 3 0 0) x) (Z : kZi .boolean _ 0 0 x) => ?_)
  show kW x 0 0 0 [(0, .ref (a 0)), (1, .ref (b 0)), (2, .int (c)), (3, .int (d))] [] (List.flatten [wO g a ad (pa, be, bl, ck, du, si, mo), wVs g ad vs (List.range 7), wV g b v])
  refine kb_aload_n X 0 dX0_isFor_0 rfl rfl ?_
  refine kf_get (v := .int (bl)) (C := RX0) (T := TX0) (N := 8) (ci := 0) X kw_iX0 rfl 3 0 0 rfl rfl (by decide) kf_X0_24 rfl rfl dX0_isFor_1 ?_
  refine kb_iload_n X 2 dX0_isFor_4 rfl rfl ?_
  refine kb_icmp_ne (tgt := 33) X dX0_isFor_5 (by decide) (fun c1_ => ?_) (fun c1_ => ?_)
  · skip
    refine kb_iconst (v := (0 : Int32)) X dX0_isFor_33 (by decide) ?_
    refine ke_z X Z rfl dX0_isFor_34 ?_
    exact ⟨(by first | rfl | (simp [zI, c1_]; done) | (simp [zI, c1_] <;> omega) | (simp_all [zI, c1_]; done)), (by first | rfl | (simp [zI, c1_]; done) | (simp [zI, c1_] <;> omega) | (simp_all [zI, c1_]; done))⟩
  · skip
    refine kb_aload_n X 0 dX0_isFor_8 rfl rfl ?_
    refine kf_get (v := .int (ck)) (C := RX0) (T := TX0) (N := 8) (ci := 0) X kw_iX0 rfl 4 0 0 rfl rfl (by decide) kf_X0_28 rfl rfl dX0_isFor_9 ?_
    refine kb_iload_n X 3 dX0_isFor_12 rfl rfl ?_
    refine kb_icmp_ne (tgt := 33) X dX0_isFor_13 (by decide) (fun c2_ => ?_) (fun c2_ => ?_)
    · skip
      refine kb_iconst (v := (0 : Int32)) X dX0_isFor_33 (by decide) ?_
      refine ke_z X Z rfl dX0_isFor_34 ?_
      exact ⟨(by first | rfl | (simp [zI, c1_, c2_]; done) | (simp [zI, c1_, c2_] <;> omega) | (simp_all [zI, c1_, c2_]; done)), (by first | rfl | (simp [zI, c1_, c2_]; done) | (simp [zI, c1_, c2_] <;> omega) | (simp_all [zI, c1_, c2_]; done))⟩
    · skip
      refine kb_aload_n X 0 dX0_isFor_16 rfl rfl ?_
      refine kf_get (v := .ref (a 1)) (C := RX0) (T := TX0) (N := 8) (ci := 0) X kw_iX0 rfl 0 0 0 rfl rfl (by decide) kf_X0_11 rfl rfl dX0_isFor_17 ?_
      refine kb_iconst (v := (0 : Int32)) X dX0_isFor_20 (by decide) ?_
      refine kf_qald (j := 0) X 0 1 rfl rfl (by omega) (by decide) rfl dX0_isFor_21 ?_
      refine kb_aload_n X 1 dX0_isFor_22 rfl rfl ?_
      refine kw_perm (ws' := List.flatten [wO g a ad (pa, be, bl, ck, du, si, mo), wV g (ad 0) (vs 0), wVs g ad vs (List.erase (List.range 7) 0), wV g b v]) (fl_open [wO g a ad (pa, be, bl, ck, du, si, mo)] [wV g b v] (wVs_open g ad vs (mem_rg (by omega : 0 < 7)))) ?_
      refine kc_Vi X (As := [.ref (b 0)]) (rest := []) (wr := List.flatten [wO g a ad (pa, be, bl, ck, du, si, mo), wVs g ad vs (List.erase (List.range 7) 0)]) (ct_X4_isLike l g (ad 0) b (vs 0) v h0 hv) dX0_isFor_23 rfl (kw_pk2 [wO g a ad (pa, be, bl, ck, du, si, mo), wV g (ad 0) (vs 0), wVs g ad vs (List.erase (List.range 7) 0), wV g b v] 1 2 (Nat.le_of_ble_eq_true rfl) (Nat.le_of_ble_eq_true rfl)) mc_X4_isLike kl_X0_41 mi_X4_isLike mv_X4_isLike kn_X4 0 rfl rfl rfl (na := 1) (by decide +kernel) rfl ⟨Nat.le_of_ble_eq_true rfl, Nat.le_of_ble_eq_true rfl⟩ ⟨rfl, rfl⟩ ⟨Nat.le_of_ble_eq_true rfl, Nat.le_of_ble_eq_true rfl⟩ (Nat.le_of_ble_eq_true rfl) (fun r_ w_ hp_ => ?_)
      obtain ⟨rfl, rfl⟩ := hp_
      refine kw_perm (ws' := List.flatten [wO g a ad (pa, be, bl, ck, du, si, mo), wV g (ad 0) (vs 0), wVs g ad vs (List.erase (List.range 7) 0), wV g b v]) (kw_pk2 [wO g a ad (pa, be, bl, ck, du, si, mo), wV g (ad 0) (vs 0), wVs g ad vs (List.erase (List.range 7) 0), wV g b v] 1 2 (Nat.le_of_ble_eq_true rfl) (Nat.le_of_ble_eq_true rfl)).symm ?_
      refine kw_perm (ws' := List.flatten [wO g a ad (pa, be, bl, ck, du, si, mo), wVs g ad (va_up vs 0 (vs 0)) (List.range 7), wV g b v]) (fl_close [wO g a ad (pa, be, bl, ck, du, si, mo)] [wV g b v] (wVs_close g ad vs (vs 0) (nd_rg 7) (mem_rg (by omega : 0 < 7)))) ?_
      rw [va_up_same]
      refine kz_if_eq (b := wLike (vs 0) v) (tgt := 33) X dX0_isFor_26 (by decide) (fun c3_ => ?_) (fun c3_ => ?_)
      · skip
        refine kb_iconst (v := (0 : Int32)) X dX0_isFor_33 (by decide) ?_
        refine ke_z X Z rfl dX0_isFor_34 ?_
        exact ⟨(by first | rfl | (simp [zI, c1_, c2_, c3_]; done) | (simp [zI, c1_, c2_, c3_] <;> omega) | (simp_all [zI, c1_, c2_, c3_]; done)), (by first | rfl | (simp [zI, c1_, c2_, c3_]; done) | (simp [zI, c1_, c2_, c3_] <;> omega) | (simp_all [zI, c1_, c2_, c3_]; done))⟩
      · skip
        refine kb_iconst (v := (1 : Int32)) X dX0_isFor_29 (by decide) ?_
        refine kb_goto (tgt := 34) X dX0_isFor_30 (by decide) ?_
        refine ke_z X Z rfl dX0_isFor_34 ?_
        exact ⟨(by first | rfl | (simp [zI, c1_, c2_, c3_]; done) | (simp [zI, c1_, c2_, c3_] <;> omega) | (simp_all [zI, c1_, c2_, c3_]; done)), (by first | rfl | (simp [zI, c1_, c2_, c3_]; done) | (simp [zI, c1_, c2_, c3_] <;> omega) | (simp_all [zI, c1_, c2_, c3_]; done))⟩

set_option maxHeartbeats 4000000 in
set_option maxRecDepth 100000 in
theorem ct_X0_start (l : Launch) (g : kw_G) (a : Nat → Nat) (ad : Nat → Nat → Nat) (pa be : Nat → Nat) (bl ck : Int32) (du si mo : Nat) (vs : Nat → VS) (b : Nat → Nat) (v : VS) (c d : Int32) (hv : VI v) : kMv l g yX0_start cX0_start 5 (kw_rm 4 0 0) 0 0 [.ref (a 0), .ref (b 0), .int (c), .int (d)] (List.flatten [wO g a ad (pa, be, bl, ck, du, si, mo), wVs g ad vs (List.range 7), wV g b v]) (fun w => w = List.flatten [wO g a ad (pa, be, c, d, sDue v (vN v), wBits (sDue v (vN v)), 0), wVs g ad (va_up vs 0 v) (List.range 7), wV g b v]) := by
  refine kMv_of (by decide +kernel) (Nat.le_of_ble_eq_true rfl) (fun x (X : kX l g RX0 cX0_start 5 (kw_rm 4 0 0) x) (Z : kZv _ 0 0 x) => ?_)
  show kW x 0 0 0 [(0, .ref (a 0)), (1, .ref (b 0)), (2, .int (c)), (3, .int (d))] [] (List.flatten [wO g a ad (pa, be, bl, ck, du, si, mo), wVs g ad vs (List.range 7), wV g b v])
  have h6 := hv.1
  refine kb_aload_n X 0 dX0_start_0 rfl rfl ?_
  refine kf_get (v := .ref (a 1)) (C := RX0) (T := TX0) (N := 8) (ci := 0) X kw_iX0 rfl 0 0 0 rfl rfl (by decide) kf_X0_11 rfl rfl dX0_start_1 ?_
  refine kb_iconst (v := (0 : Int32)) X dX0_start_4 (by decide) ?_
  refine kf_qald (j := 0) X 0 1 rfl rfl (by omega) (by decide) rfl dX0_start_5 ?_
  refine kb_aload_n X 1 dX0_start_6 rfl rfl ?_
  refine kw_perm (ws' := List.flatten [wO g a ad (pa, be, bl, ck, du, si, mo), wV g (ad 0) (vs 0), wVs g ad vs (List.erase (List.range 7) 0), wV g b v]) (fl_open [wO g a ad (pa, be, bl, ck, du, si, mo)] [wV g b v] (wVs_open g ad vs (mem_rg (by omega : 0 < 7)))) ?_
  refine kc_Vv X (As := [.ref (b 0)]) (rest := []) (wr := List.flatten [wO g a ad (pa, be, bl, ck, du, si, mo), wVs g ad vs (List.erase (List.range 7) 0)]) (ct_X4_copyFrom l g (ad 0) b (vs 0) v ) dX0_start_7 rfl (kw_pk2 [wO g a ad (pa, be, bl, ck, du, si, mo), wV g (ad 0) (vs 0), wVs g ad vs (List.erase (List.range 7) 0), wV g b v] 1 2 (Nat.le_of_ble_eq_true rfl) (Nat.le_of_ble_eq_true rfl)) mc_X4_copyFrom kl_X0_45 mi_X4_copyFrom mv_X4_copyFrom kn_X4 0 rfl rfl rfl (na := 1) (by decide +kernel) rfl ⟨Nat.le_of_ble_eq_true rfl, Nat.le_of_ble_eq_true rfl⟩ ⟨rfl, rfl⟩ ⟨Nat.le_of_ble_eq_true rfl, Nat.le_of_ble_eq_true rfl⟩ (Nat.le_of_ble_eq_true rfl) (fun w_ hp_ => ?_)
  obtain rfl := hp_
  refine kw_perm (ws' := List.flatten [wO g a ad (pa, be, bl, ck, du, si, mo), wV g (ad 0) v, wVs g ad vs (List.erase (List.range 7) 0), wV g b v]) (kw_pk2 [wO g a ad (pa, be, bl, ck, du, si, mo), wV g (ad 0) v, wVs g ad vs (List.erase (List.range 7) 0), wV g b v] 1 2 (Nat.le_of_ble_eq_true rfl) (Nat.le_of_ble_eq_true rfl)).symm ?_
  refine kw_perm (ws' := List.flatten [wO g a ad (pa, be, bl, ck, du, si, mo), wVs g ad (va_up vs 0 v) (List.range 7), wV g b v]) (fl_close [wO g a ad (pa, be, bl, ck, du, si, mo)] [wV g b v] (wVs_close g ad vs v (nd_rg 7) (mem_rg (by omega : 0 < 7)))) ?_
  refine kb_aload_n X 0 dX0_start_10 rfl rfl ?_
  refine kb_iload_n X 2 dX0_start_11 rfl rfl ?_
  refine kf_put (C := RX0) (T := TX0) (N := 8) (ci := 0) (ty := .int) (B' := wO g a ad (pa, be, c, ck, du, si, mo)) (L' := [wO g a ad (pa, be, c, ck, du, si, mo), wVs g ad (va_up vs 0 v) (List.range 7), wV g b v]) X kw_iX0 tyX0 tyX0_ok nmX0 rfl 3 0 0 rfl rfl (by decide) kf_X0_24 rfl rfl (by decide +kernel) rfl rfl (Nat.le_of_ble_eq_true rfl) dX0_start_12 rfl rfl ?_
  refine kb_aload_n X 0 dX0_start_15 rfl rfl ?_
  refine kb_iload_n X 3 dX0_start_16 rfl rfl ?_
  refine kf_put (C := RX0) (T := TX0) (N := 8) (ci := 0) (ty := .int) (B' := wO g a ad (pa, be, c, d, du, si, mo)) (L' := [wO g a ad (pa, be, c, d, du, si, mo), wVs g ad (va_up vs 0 v) (List.range 7), wV g b v]) X kw_iX0 tyX0 tyX0_ok nmX0 rfl 4 0 0 rfl rfl (by decide) kf_X0_28 rfl rfl (by decide +kernel) rfl rfl (Nat.le_of_ble_eq_true rfl) dX0_start_17 rfl rfl ?_
  refine kb_aload_n X 0 dX0_start_20 rfl rfl ?_
  refine kb_iconst (v := (0 : Int32)) X dX0_start_21 (by decide) ?_
  refine kf_put (C := RX0) (T := TX0) (N := 8) (ci := 0) (ty := .int) (B' := wO g a ad (pa, be, c, d, 0, si, mo)) (L' := [wO g a ad (pa, be, c, d, 0, si, mo), wVs g ad (va_up vs 0 v) (List.range 7), wV g b v]) X kw_iX0 tyX0 tyX0_ok nmX0 rfl 5 0 0 rfl rfl (by decide) kf_X0_31 rfl rfl (by decide +kernel) rfl rfl (Nat.le_of_ble_eq_true rfl) dX0_start_22 rfl rfl ?_
  refine kb_iconst (v := (0 : Int32)) X dX0_start_25 (by decide) ?_
  refine kb_istore X [1, 2, 3, 4, 0] dX0_start_26 (by decide) (lv' := [(0, .ref (a 0)), (1, .ref (b 0)), (2, .int (c)), (3, .int (d)), (4, .int 0)]) rfl ?_
  have L28 : ∀ (K_ i : Nat), i + K_ = vN v → kW x 0 0 28 [(0, .ref (a 0)), (1, .ref (b 0)), (2, .int (c)), (3, .int (d)), (4, .int (nI (i)))] [] (List.flatten [wO g a ad (pa, be, c, d, sDue v i, si, mo), wVs g ad (va_up vs 0 v) (List.range 7), wV g b v]) := by
    intro K_
    induction K_ with
    | zero =>
      intro i hi
      refine kb_iload X 4 dX0_start_28 rfl ?_
      refine kb_aload_n X 1 dX0_start_30 rfl rfl ?_
      refine kf_get (v := .int (nI (vN v))) (C := RX4) (T := TX4) (N := 11) (ci := 4) X kw_iX4 rfl 5 2 0 rfl rfl (by decide) kf_X0_49 rfl rfl dX0_start_31 ?_
      refine kn_icmp_ge (a := i) (b := vN v) (tgt := 65) X (by omega) (by omega) dX0_start_34 (by decide) (fun c1_ => ?_) (fun c1_ => ?_)
      · skip
        have hd_ : sDue v i < 64 := by rw [show i = vN v by omega]; exact sDue_64 v h6
        refine kb_aload_n X 0 dX0_start_65 rfl rfl ?_
        refine kb_aload_n X 0 dX0_start_66 rfl rfl ?_
        refine kf_get (v := .int (nI (sDue v i))) (C := RX0) (T := TX0) (N := 8) (ci := 0) X kw_iX0 rfl 5 0 0 rfl rfl (by decide) kf_X0_31 rfl rfl dX0_start_67 ?_
        refine kc_Si X (As := [.int (nI (sDue v i))]) (rest := [.ref (a 0)]) (wr := (List.flatten [wO g a ad (pa, be, c, d, sDue v i, si, mo), wVs g ad (va_up vs 0 v) (List.range 7), wV g b v])) (ct_J6_bitCount_0f7a4 l g (sDue v i) (by omega)) dX0_start_70 rfl (List.Perm.refl _) mc_J6_bitCount_0f7a4 kl_X0_56 ms_J6_bitCount_0f7a4 kn_J6 (na := 1) (by decide +kernel) rfl ⟨Nat.le_of_ble_eq_true rfl, Nat.le_of_ble_eq_true rfl⟩ ⟨rfl, rfl⟩ ⟨Nat.le_of_ble_eq_true rfl, Nat.le_of_ble_eq_true rfl⟩ (Nat.le_of_ble_eq_true rfl) (fun r_ w_ hp_ => ?_)
        obtain ⟨rfl, rfl⟩ := hp_
        refine kw_ws (List.nil_append _) ?_
        refine kf_put (C := RX0) (T := TX0) (N := 8) (ci := 0) (ty := .int) (B' := wO g a ad (pa, be, c, d, sDue v i, (wBits (sDue v i)), mo)) (L' := [wO g a ad (pa, be, c, d, sDue v i, (wBits (sDue v i)), mo), wVs g ad (va_up vs 0 v) (List.range 7), wV g b v]) X kw_iX0 tyX0 tyX0_ok nmX0 rfl 6 0 0 rfl rfl (by decide) kf_X0_34 rfl rfl (by decide +kernel) rfl rfl (Nat.le_of_ble_eq_true rfl) dX0_start_73 rfl rfl ?_
        refine kb_aload_n X 0 dX0_start_76 rfl rfl ?_
        refine kb_iconst (v := (-1 : Int32)) X dX0_start_77 (by decide) ?_
        refine kw_top (b := .int (nI 0 - 1)) (by decide) ?_
        refine kf_put (C := RX0) (T := TX0) (N := 8) (ci := 0) (ty := .int) (B' := wO g a ad (pa, be, c, d, sDue v i, (wBits (sDue v i)), 0)) (L' := [wO g a ad (pa, be, c, d, sDue v i, (wBits (sDue v i)), 0), wVs g ad (va_up vs 0 v) (List.range 7), wV g b v]) X kw_iX0 tyX0 tyX0_ok nmX0 rfl 7 0 0 rfl rfl (by decide) kf_X0_37 rfl rfl (by decide +kernel) rfl rfl (Nat.le_of_ble_eq_true rfl) dX0_start_78 rfl rfl ?_
        refine ke_v X Z dX0_start_81 ?_
        exact (by rw [show i = vN v by omega])
      · skip
        omega
    | succ K_ ih =>
      intro i hi
      refine kb_iload X 4 dX0_start_28 rfl ?_
      refine kb_aload_n X 1 dX0_start_30 rfl rfl ?_
      refine kf_get (v := .int (nI (vN v))) (C := RX4) (T := TX4) (N := 11) (ci := 4) X kw_iX4 rfl 5 2 0 rfl rfl (by decide) kf_X0_49 rfl rfl dX0_start_31 ?_
      refine kn_icmp_ge (a := i) (b := vN v) (tgt := 65) X (by omega) (by omega) dX0_start_34 (by decide) (fun c2_ => ?_) (fun c2_ => ?_)
      · skip
        omega
      · skip
        refine kb_aload_n X 1 dX0_start_37 rfl rfl ?_
        refine kb_iload X 4 dX0_start_38 rfl ?_
        refine kc_Vi X (As := [.int (nI (i))]) (rest := []) (wr := List.flatten [wO g a ad (pa, be, c, d, sDue v i, si, mo), wVs g ad (va_up vs 0 v) (List.range 7)]) (ct_X4_isDueForTrial l g b v hv i (by omega)) dX0_start_40 rfl (kw_pk [wO g a ad (pa, be, c, d, sDue v i, si, mo), wVs g ad (va_up vs 0 v) (List.range 7), wV g b v] 2 (Nat.le_of_ble_eq_true rfl)) mc_X4_isDueForTrial kl_X0_52 mi_X4_isDueForTrial mv_X4_isDueForTrial kn_X4 0 rfl rfl rfl (na := 1) (by decide +kernel) rfl ⟨Nat.le_of_ble_eq_true rfl, Nat.le_of_ble_eq_true rfl⟩ ⟨rfl, rfl⟩ ⟨Nat.le_of_ble_eq_true rfl, Nat.le_of_ble_eq_true rfl⟩ (Nat.le_of_ble_eq_true rfl) (fun r_ w_ hp_ => ?_)
        obtain ⟨rfl, rfl⟩ := hp_
        refine kw_perm (ws' := List.flatten [wO g a ad (pa, be, c, d, sDue v i, si, mo), wVs g ad (va_up vs 0 v) (List.range 7), wV g b v]) (kw_pk [wO g a ad (pa, be, c, d, sDue v i, si, mo), wVs g ad (va_up vs 0 v) (List.range 7), wV g b v] 2 (Nat.le_of_ble_eq_true rfl)).symm ?_
        refine kz_if_eq (b := wDue v i) (tgt := 59) X dX0_start_43 (by decide) (fun c3_ => ?_) (fun c3_ => ?_)
        · skip
          refine kb_iinc X 4 [1, 2, 3, 4, 0] (v' := nI (i + 1)) dX0_start_59 rfl (nI_add _ _) (by decide) (lv' := [(0, .ref (a 0)), (1, .ref (b 0)), (2, .int (c)), (3, .int (d)), (4, .int (nI (i + 1)))]) rfl ?_
          refine kb_goto (tgt := 28) X dX0_start_62 (by decide) ?_
          exact kw_to (ih (i + 1) (by omega)) rfl rfl (by simp [sDue, c2_, c3_])
        · skip
          refine kb_aload_n X 0 dX0_start_46 rfl rfl ?_
          refine kb_dup X dX0_start_47 rfl ?_
          refine kf_get (v := .int (nI (sDue v i))) (C := RX0) (T := TX0) (N := 8) (ci := 0) X kw_iX0 rfl 5 0 0 rfl rfl (by decide) kf_X0_31 rfl rfl dX0_start_48 ?_
          refine kb_iconst (v := (1 : Int32)) X dX0_start_51 (by decide) ?_
          refine kb_iload X 4 dX0_start_52 rfl ?_
          refine kb_ishl X dX0_start_54 ?_
          refine kb_ior X dX0_start_55 ?_
          refine kw_top (b := .int (nI (sDue v i + 2 ^ i))) (by rw [gs_or (sDue_lt v i) (by omega)]) ?_
          refine kf_put (C := RX0) (T := TX0) (N := 8) (ci := 0) (ty := .int) (B' := wO g a ad (pa, be, c, d, (sDue v i + 2 ^ i), si, mo)) (L' := [wO g a ad (pa, be, c, d, (sDue v i + 2 ^ i), si, mo), wVs g ad (va_up vs 0 v) (List.range 7), wV g b v]) X kw_iX0 tyX0 tyX0_ok nmX0 rfl 5 0 0 rfl rfl (by decide) kf_X0_31 rfl rfl (by decide +kernel) rfl rfl (Nat.le_of_ble_eq_true rfl) dX0_start_56 rfl rfl ?_
          refine kb_iinc X 4 [1, 2, 3, 4, 0] (v' := nI (i + 1)) dX0_start_59 rfl (nI_add _ _) (by decide) (lv' := [(0, .ref (a 0)), (1, .ref (b 0)), (2, .int (c)), (3, .int (d)), (4, .int (nI (i + 1)))]) rfl ?_
          refine kb_goto (tgt := 28) X dX0_start_62 (by decide) ?_
          exact kw_to (ih (i + 1) (by omega)) rfl rfl (by simp [sDue, c2_, c3_])
  exact kw_to (L28 (vN v) 0 (by omega)) rfl rfl rfl

set_option maxHeartbeats 4000000 in
set_option maxRecDepth 100000 in
theorem ct_X0_note (l : Launch) (g : kw_G) (a : Nat → Nat) (ad : Nat → Nat → Nat) (pa be : Nat → Nat) (bl ck : Int32) (du si mo : Nat) (cm : Nat) (hc : cm < 1000) (hm : mo < 1000) : kMv l g yX0_note cX0_note 2 (kw_rm 1 0 0) 0 0 [.ref (a 0), .int (nI (cm))] (wO g a ad (pa, be, bl, ck, du, si, mo)) (fun w => w = wO g a ad (if cm < mo then (pa, be, bl, ck, du, si, mo) else (pa, pa, bl, ck, du, si, cm + 1))) := by
  refine kMv_of (by decide +kernel) (Nat.le_of_ble_eq_true rfl) (fun x (X : kX l g RX0 cX0_note 2 (kw_rm 1 0 0) x) (Z : kZv _ 0 0 x) => ?_)
  show kW x 0 0 0 [(0, .ref (a 0)), (1, .int (nI (cm)))] [] (wO g a ad (pa, be, bl, ck, du, si, mo))
  refine kb_iload_n X 1 dX0_note_0 rfl rfl ?_
  refine kb_aload_n X 0 dX0_note_1 rfl rfl ?_
  refine kb_get (v := .int (nI mo - 1)) (C := RX0) (T := TX0) (N := 8) (ci := 0) X kw_iX0 rfl 0 7 rfl (by decide) kf_X0_37 rfl rfl dX0_note_2 ?_
  refine kb_icmp_gt (tgt := 9) X dX0_note_5 (by decide) (fun c1_ => ?_) (fun c1_ => ?_)
  · skip
    have d_ := (om_gt (by omega) (by omega)).mp c1_
    refine kb_aload_n X 0 dX0_note_9 rfl rfl ?_
    refine kb_iload_n X 1 dX0_note_10 rfl rfl ?_
    refine kw_top (b := .int (nI (cm + 1) - 1)) (by rw [om_1]) ?_
    refine kb_put X (C := RX0) (T := TX0) (N := 8) (ci := 0) (ty := .int) kw_iX0 tyX0 tyX0_ok nmX0 rfl 0 7 rfl (by decide) kf_X0_37 rfl rfl (by decide +kernel) rfl rfl (Nat.le_of_ble_eq_true rfl) dX0_note_11 (ws' := wO g a ad (pa, be, bl, ck, du, si, (cm + 1))) rfl ?_
    refine kb_aload_n X 0 dX0_note_14 rfl rfl ?_
    refine kb_get (v := .ref (a 2)) (C := RX0) (T := TX0) (N := 8) (ci := 0) X kw_iX0 rfl 0 1 rfl (by decide) kf_X0_17 rfl rfl dX0_note_15 ?_
    refine kb_iconst (v := (0 : Int32)) X dX0_note_18 (by decide) ?_
    refine kb_aload_n X 0 dX0_note_19 rfl rfl ?_
    refine kb_get (v := .ref (a 3)) (C := RX0) (T := TX0) (N := 8) (ci := 0) X kw_iX0 rfl 0 2 rfl (by decide) kf_X0_21 rfl rfl dX0_note_20 ?_
    refine kb_iconst (v := (0 : Int32)) X dX0_note_23 (by decide) ?_
    refine kb_bipush (v := (6 : Int32)) X dX0_note_24 (by decide) ?_
    refine kb_acpyF (N := 6) X 2 3 rfl rfl kl_X0_86 (by decide) kn_J10 (Nat.le_of_ble_eq_true rfl) (Nat.le_of_ble_eq_true rfl) dX0_note_26 (ws' := wO g a ad (pa, pa, bl, ck, du, si, (cm + 1))) rfl ?_
    refine ke_v X Z dX0_note_29 ?_
    exact (by rw [if_neg (by omega)])
  · skip
    have d_ := mt (om_gt (by omega) (by omega)).mpr c1_
    refine ke_v X Z dX0_note_8 ?_
    exact (by rw [if_pos (by omega)])

set_option maxHeartbeats 4000000 in
set_option maxRecDepth 100000 in
theorem ct_X0_step (l : Launch) (g : kw_G) (a : Nat → Nat) (ad : Nat → Nat → Nat) (pa be : Nat → Nat) (bl ck : Int32) (du si mo : Nat) (vs : Nat → VS) (d p : Nat) (hd : d < 6) (hp : p < 6) (hv : VI (vs d)) : kMi l g yX0_step cX0_step 4 .int (kw_rm 6 0 0) 0 0 [.ref (a 0), .int (nI (d)), .int (nI (p))] (List.flatten [wO g a ad (pa, be, bl, ck, du, si, mo), wVs g ad vs (List.range 7)]) (fun r w => r = nI (stC (vs d) p bl ck) ∧ w = List.flatten [wO g a ad (va_up pa d p, be, bl, ck, du, si, mo), wVs g ad (va_up vs (d + 1) (stV (vs d) p bl ck)) (List.range 7)]) := by
  refine kMi_of (by decide +kernel) (Nat.le_of_ble_eq_true rfl) (fun x (X : kX l g RX0 cX0_step 4 (kw_rm 6 0 0) x) (Z : kZi .int _ 0 0 x) => ?_)
  show kW x 0 0 0 [(0, .ref (a 0)), (1, .int (nI (d))), (2, .int (nI (p)))] [] (List.flatten [wO g a ad (pa, be, bl, ck, du, si, mo), wVs g ad vs (List.range 7)])
  have hmd : d ∈ List.erase (List.range 7) (d + 1) := ((nd_rg 7).mem_erase_iff).mpr ⟨by omega, mem_rg (by omega)⟩
  refine kb_aload_n X 0 dX0_step_0 rfl rfl ?_
  refine kf_get (v := .ref (a 2)) (C := RX0) (T := TX0) (N := 8) (ci := 0) X kw_iX0 rfl 1 0 0 rfl rfl (by decide) kf_X0_17 rfl rfl dX0_step_1 ?_
  refine kb_iload_n X 1 dX0_step_4 rfl rfl ?_
  refine kb_iload_n X 2 dX0_step_5 rfl rfl ?_
  refine kf_iast (j := d) (B' := wO g a ad (va_up pa d p, be, bl, ck, du, si, mo)) (L' := [wO g a ad (va_up pa d p, be, bl, ck, du, si, mo), wVs g ad vs (List.range 7)]) X 0 2 rfl rfl (by omega) (by decide) dX0_step_6 (by rw [upd_nI]; rfl) rfl ?_
  refine kb_aload_n X 0 dX0_step_7 rfl rfl ?_
  refine kf_get (v := .ref (a 1)) (C := RX0) (T := TX0) (N := 8) (ci := 0) X kw_iX0 rfl 0 0 0 rfl rfl (by decide) kf_X0_11 rfl rfl dX0_step_8 ?_
  refine kb_iload_n X 1 dX0_step_11 rfl rfl ?_
  refine kb_iconst (v := (1 : Int32)) X dX0_step_12 (by decide) ?_
  refine kn_iadd X d 1 dX0_step_13 ?_
  refine kf_qald (j := d + 1) X 0 1 rfl rfl (by omega) (by decide) rfl dX0_step_14 ?_
  refine kb_astore_n X [1, 2, 3, 0] dX0_step_15 rfl (by decide) (lv' := [(0, .ref (a 0)), (1, .int (nI (d))), (2, .int (nI (p))), (3, .ref (ad (d + 1) 0))]) rfl ?_
  refine kb_aload_n X 3 dX0_step_16 rfl rfl ?_
  refine kb_aload_n X 0 dX0_step_17 rfl rfl ?_
  refine kf_get (v := .ref (a 1)) (C := RX0) (T := TX0) (N := 8) (ci := 0) X kw_iX0 rfl 0 0 0 rfl rfl (by decide) kf_X0_11 rfl rfl dX0_step_18 ?_
  refine kb_iload_n X 1 dX0_step_21 rfl rfl ?_
  refine kf_qald (j := d) X 0 1 rfl rfl (by omega) (by decide) rfl dX0_step_22 ?_
  refine kw_perm (ws' := List.flatten [wO g a ad (va_up pa d p, be, bl, ck, du, si, mo), wV g (ad (d + 1)) (vs (d + 1)), wVs g ad vs (List.erase (List.range 7) (d + 1))]) (fl_open [wO g a ad (va_up pa d p, be, bl, ck, du, si, mo)] [] (wVs_open g ad vs (mem_rg (by omega : d + 1 < 7)))) ?_
  refine kw_perm (ws' := List.flatten [wO g a ad (va_up pa d p, be, bl, ck, du, si, mo), wV g (ad (d + 1)) (vs (d + 1)), wV g (ad d) (vs d), wVs g ad vs (List.erase (List.erase (List.range 7) (d + 1)) d)]) (fl_open [wO g a ad (va_up pa d p, be, bl, ck, du, si, mo), wV g (ad (d + 1)) (vs (d + 1))] [] (wVs_open g ad vs hmd)) ?_
  refine kc_Vv X (As := [.ref (ad d 0)]) (rest := []) (wr := List.flatten [wO g a ad (va_up pa d p, be, bl, ck, du, si, mo), wVs g ad vs (List.erase (List.erase (List.range 7) (d + 1)) d)]) (ct_X4_copyFrom l g (ad (d + 1)) (ad d) (vs (d + 1)) (vs d) ) dX0_step_23 rfl (kw_pk2 [wO g a ad (va_up pa d p, be, bl, ck, du, si, mo), wV g (ad (d + 1)) (vs (d + 1)), wV g (ad d) (vs d), wVs g ad vs (List.erase (List.erase (List.range 7) (d + 1)) d)] 1 1 (Nat.le_of_ble_eq_true rfl) (Nat.le_of_ble_eq_true rfl)) mc_X4_copyFrom kl_X0_45 mi_X4_copyFrom mv_X4_copyFrom kn_X4 0 rfl rfl rfl (na := 1) (by decide +kernel) rfl ⟨Nat.le_of_ble_eq_true rfl, Nat.le_of_ble_eq_true rfl⟩ ⟨rfl, rfl⟩ ⟨Nat.le_of_ble_eq_true rfl, Nat.le_of_ble_eq_true rfl⟩ (Nat.le_of_ble_eq_true rfl) (fun w_ hp_ => ?_)
  obtain rfl := hp_
  refine kw_perm (ws' := List.flatten [wO g a ad (va_up pa d p, be, bl, ck, du, si, mo), wV g (ad (d + 1)) (vs d), wV g (ad d) (vs d), wVs g ad vs (List.erase (List.erase (List.range 7) (d + 1)) d)]) (kw_pk2 [wO g a ad (va_up pa d p, be, bl, ck, du, si, mo), wV g (ad (d + 1)) (vs d), wV g (ad d) (vs d), wVs g ad vs (List.erase (List.erase (List.range 7) (d + 1)) d)] 1 1 (Nat.le_of_ble_eq_true rfl) (Nat.le_of_ble_eq_true rfl)).symm ?_
  refine kw_perm (ws' := List.flatten [wO g a ad (va_up pa d p, be, bl, ck, du, si, mo), wV g (ad (d + 1)) (vs d), wVs g ad (va_up vs d (vs d)) (List.erase (List.range 7) (d + 1))]) (fl_close [wO g a ad (va_up pa d p, be, bl, ck, du, si, mo), wV g (ad (d + 1)) (vs d)] [] (wVs_close g ad vs (vs d) (List.Nodup.erase _ (nd_rg 7)) hmd)) ?_
  rw [va_up_same]
  refine kb_aload_n X 3 dX0_step_26 rfl rfl ?_
  refine kb_iload_n X 2 dX0_step_27 rfl rfl ?_
  refine kb_aload_n X 0 dX0_step_28 rfl rfl ?_
  refine kf_get (v := .int (bl)) (C := RX0) (T := TX0) (N := 8) (ci := 0) X kw_iX0 rfl 3 0 0 rfl rfl (by decide) kf_X0_24 rfl rfl dX0_step_29 ?_
  refine kb_aload_n X 0 dX0_step_32 rfl rfl ?_
  refine kf_get (v := .int (ck)) (C := RX0) (T := TX0) (N := 8) (ci := 0) X kw_iX0 rfl 4 0 0 rfl rfl (by decide) kf_X0_28 rfl rfl dX0_step_33 ?_
  refine kc_Vi X (As := [.int (nI (p)), .int (bl), .int (ck)]) (rest := []) (wr := List.flatten [wO g a ad (va_up pa d p, be, bl, ck, du, si, mo), wVs g ad vs (List.erase (List.range 7) (d + 1))]) (ct_X4_canHoldTrial l g (ad (d + 1)) (vs d) hv p bl ck (by omega)) dX0_step_36 rfl (kw_pk [wO g a ad (va_up pa d p, be, bl, ck, du, si, mo), wV g (ad (d + 1)) (vs d), wVs g ad vs (List.erase (List.range 7) (d + 1))] 1 (Nat.le_of_ble_eq_true rfl)) mc_X4_canHoldTrial kl_X0_78 mi_X4_canHoldTrial mv_X4_canHoldTrial kn_X4 0 rfl rfl rfl (na := 3) (by decide +kernel) rfl ⟨Nat.le_of_ble_eq_true rfl, Nat.le_of_ble_eq_true rfl⟩ ⟨rfl, rfl⟩ ⟨Nat.le_of_ble_eq_true rfl, Nat.le_of_ble_eq_true rfl⟩ (Nat.le_of_ble_eq_true rfl) (fun r_ w_ hp_ => ?_)
  obtain ⟨rfl, rfl⟩ := hp_
  refine kw_perm (ws' := List.flatten [wO g a ad (va_up pa d p, be, bl, ck, du, si, mo), wV g (ad (d + 1)) (vs d), wVs g ad vs (List.erase (List.range 7) (d + 1))]) (kw_pk [wO g a ad (va_up pa d p, be, bl, ck, du, si, mo), wV g (ad (d + 1)) (vs d), wVs g ad vs (List.erase (List.range 7) (d + 1))] 1 (Nat.le_of_ble_eq_true rfl)).symm ?_
  refine kz_if_ne (b := wCan (vs d) p bl ck) (tgt := 44) X dX0_step_39 (by decide) (fun c1_ => ?_) (fun c1_ => ?_)
  · skip
    refine kb_aload_n X 3 dX0_step_44 rfl rfl ?_
    refine kb_iload_n X 2 dX0_step_45 rfl rfl ?_
    refine kb_aload_n X 0 dX0_step_46 rfl rfl ?_
    refine kf_get (v := .int (bl)) (C := RX0) (T := TX0) (N := 8) (ci := 0) X kw_iX0 rfl 3 0 0 rfl rfl (by decide) kf_X0_24 rfl rfl dX0_step_47 ?_
    refine kb_aload_n X 0 dX0_step_50 rfl rfl ?_
    refine kf_get (v := .int (ck)) (C := RX0) (T := TX0) (N := 8) (ci := 0) X kw_iX0 rfl 4 0 0 rfl rfl (by decide) kf_X0_28 rfl rfl dX0_step_51 ?_
    refine kc_Vi X (As := [.int (nI (p)), .int (bl), .int (ck)]) (rest := []) (wr := List.flatten [wO g a ad (va_up pa d p, be, bl, ck, du, si, mo), wVs g ad vs (List.erase (List.range 7) (d + 1))]) (ct_X4_holdTrial l g (ad (d + 1)) (vs d) hv p bl ck (by omega)) dX0_step_54 rfl (kw_pk [wO g a ad (va_up pa d p, be, bl, ck, du, si, mo), wV g (ad (d + 1)) (vs d), wVs g ad vs (List.erase (List.range 7) (d + 1))] 1 (Nat.le_of_ble_eq_true rfl)) mc_X4_holdTrial kl_X0_82 mi_X4_holdTrial mv_X4_holdTrial kn_X4 0 rfl rfl rfl (na := 3) (by decide +kernel) rfl ⟨Nat.le_of_ble_eq_true rfl, Nat.le_of_ble_eq_true rfl⟩ ⟨rfl, rfl⟩ ⟨Nat.le_of_ble_eq_true rfl, Nat.le_of_ble_eq_true rfl⟩ (Nat.le_of_ble_eq_true rfl) (fun r_ w_ hp_ => ?_)
    obtain ⟨rfl, rfl⟩ := hp_
    refine kw_perm (ws' := List.flatten [wO g a ad (va_up pa d p, be, bl, ck, du, si, mo), wV g (ad (d + 1)) (wHold (vs d) p bl ck), wVs g ad vs (List.erase (List.range 7) (d + 1))]) (kw_pk [wO g a ad (va_up pa d p, be, bl, ck, du, si, mo), wV g (ad (d + 1)) (wHold (vs d) p bl ck), wVs g ad vs (List.erase (List.range 7) (d + 1))] 1 (Nat.le_of_ble_eq_true rfl)).symm ?_
    refine kc_Si X (As := [.int (nI (wGuests (vs d) p bl ck))]) (rest := []) (wr := (List.flatten [wO g a ad (va_up pa d p, be, bl, ck, du, si, mo), wV g (ad (d + 1)) (wHold (vs d) p bl ck), wVs g ad vs (List.erase (List.range 7) (d + 1))])) (ct_J6_bitCount_0f7a4 l g (wGuests (vs d) p bl ck) (wGuests_lt _ _ _ _ hv.1)) dX0_step_57 rfl (List.Perm.refl _) mc_J6_bitCount_0f7a4 kl_X0_56 ms_J6_bitCount_0f7a4 kn_J6 (na := 1) (by decide +kernel) rfl ⟨Nat.le_of_ble_eq_true rfl, Nat.le_of_ble_eq_true rfl⟩ ⟨rfl, rfl⟩ ⟨Nat.le_of_ble_eq_true rfl, Nat.le_of_ble_eq_true rfl⟩ (Nat.le_of_ble_eq_true rfl) (fun r_ w_ hp_ => ?_)
    obtain ⟨rfl, rfl⟩ := hp_
    refine kw_ws (List.nil_append _) ?_
    refine kw_perm (ws' := List.flatten [wO g a ad (va_up pa d p, be, bl, ck, du, si, mo), wVs g ad (va_up vs (d + 1) (wHold (vs d) p bl ck)) (List.range 7)]) (fl_close [wO g a ad (va_up pa d p, be, bl, ck, du, si, mo)] [] (wVs_close g ad vs (wHold (vs d) p bl ck) (nd_rg 7) (mem_rg (by omega : d + 1 < 7)))) ?_
    refine ke_i X Z dX0_step_60 ?_
    exact ⟨by rw [stC, if_pos c1_] <;> rfl, by rw [stV, if_pos c1_]⟩
  · skip
    refine kb_iconst (v := (0 : Int32)) X dX0_step_42 (by decide) ?_
    refine kw_perm (ws' := List.flatten [wO g a ad (va_up pa d p, be, bl, ck, du, si, mo), wVs g ad (va_up vs (d + 1) (vs d)) (List.range 7)]) (fl_close [wO g a ad (va_up pa d p, be, bl, ck, du, si, mo)] [] (wVs_close g ad vs (vs d) (nd_rg 7) (mem_rg (by omega : d + 1 < 7)))) ?_
    refine ke_i X Z dX0_step_43 ?_
    exact ⟨by rw [stC, if_neg (by simp [c1_])] <;> rfl, by rw [stV, if_neg (by simp [c1_])]⟩
