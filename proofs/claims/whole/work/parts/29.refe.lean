set_option maxHeartbeats 4000000 in
set_option maxRecDepth 100000 in
theorem ct_X6_lives (l : Launch) (g : kw_G) (a : Nat → Nat) (pe : Nat) (so : Nat → Int32) (ag : Nat → Int32) (fr : Int32) (np : Nat) (ns : Nat → Int32) (na : Nat → Int32) (nf : Int32) (sl : Nat → Int32) (ac : Nat) (ke : Nat) (le : Nat) (tx : Nat → Nat) (ap : Nat) (bg : Nat) (wr : Bool) (se : Nat) (wh : Nat → Nat) (wo : Nat → Nat) (bl : Nat → Int32) (ck : Nat → Int32) (sw : Nat → Bool) (ma : Nat) (ro : Nat → Nat) (bs : Nat → Nat) (o : Nat) (kd ag_ mo : Int32) (ho : o + 6 ≤ 984) (hn : np < 6) : kMv l g yX6_lives cX6_lives 5 (kw_rm 1 0 0) 0 0 [.ref (a 0), .int (nI (o)), .int (kd), .int (ag_), .int (mo)] (wR g a pe so ag fr np ns na nf sl ac ke le tx ap bg wr se wh wo bl ck sw ma ro bs) (fun w => w = wR g a pe so ag fr (np + 1) (upd ns np kd) (upd na np ag_) nf (upd sl (o + np) mo) ac ke le tx ap bg wr se wh wo bl ck sw ma ro bs) := by
  refine kMv_of (by decide +kernel) (Nat.le_of_ble_eq_true rfl) (fun x (X : kX l g RX6 cX6_lives 5 (kw_rm 1 0 0) x) (Z : kZv _ 0 0 x) => ?_)
  show kW x 0 0 0 [(0, .ref (a 0)), (1, .int (nI (o))), (2, .int (kd)), (3, .int (ag_)), (4, .int (mo))] [] (wR g a pe so ag fr np ns na nf sl ac ke le tx ap bg wr se wh wo bl ck sw ma ro bs)
  refine kb_aload_n X 0 dX6_lives_0 rfl rfl ?_
  refine kb_get (v := .ref (a 3)) (C := RX6) (T := TX6) (N := 25) (ci := 6) X kw_iX6 rfl 0 5 rfl (by decide) kf_X6_16 rfl rfl dX6_lives_1 ?_
  refine kb_aload_n X 0 dX6_lives_4 rfl rfl ?_
  refine kb_get (v := .int (nI (np))) (C := RX6) (T := TX6) (N := 25) (ci := 6) X kw_iX6 rfl 0 4 rfl (by decide) kf_X6_62 rfl rfl dX6_lives_5 ?_
  refine kb_iload_n X 2 dX6_lives_8 rfl rfl ?_
  refine kb_iast (i := np) X 3 rfl (by omega) (by decide) dX6_lives_9 (ws' := wR g a pe so ag fr np (upd ns np kd) na nf sl ac ke le tx ap bg wr se wh wo bl ck sw ma ro bs) rfl ?_
  refine kb_aload_n X 0 dX6_lives_10 rfl rfl ?_
  refine kb_get (v := .ref (a 4)) (C := RX6) (T := TX6) (N := 25) (ci := 6) X kw_iX6 rfl 0 6 rfl (by decide) kf_X6_19 rfl rfl dX6_lives_11 ?_
  refine kb_aload_n X 0 dX6_lives_14 rfl rfl ?_
  refine kb_get (v := .int (nI (np))) (C := RX6) (T := TX6) (N := 25) (ci := 6) X kw_iX6 rfl 0 4 rfl (by decide) kf_X6_62 rfl rfl dX6_lives_15 ?_
  refine kb_iload_n X 3 dX6_lives_18 rfl rfl ?_
  refine kb_iast (i := np) X 4 rfl (by omega) (by decide) dX6_lives_19 (ws' := wR g a pe so ag fr np (upd ns np kd) (upd na np ag_) nf sl ac ke le tx ap bg wr se wh wo bl ck sw ma ro bs) rfl ?_
  refine kb_aload_n X 0 dX6_lives_20 rfl rfl ?_
  refine kb_get (v := .ref (a 5)) (C := RX6) (T := TX6) (N := 25) (ci := 6) X kw_iX6 rfl 0 8 rfl (by decide) kf_X6_22 rfl rfl dX6_lives_21 ?_
  refine kb_iload_n X 1 dX6_lives_24 rfl rfl ?_
  refine kb_aload_n X 0 dX6_lives_25 rfl rfl ?_
  refine kb_get (v := .int (nI (np))) (C := RX6) (T := TX6) (N := 25) (ci := 6) X kw_iX6 rfl 0 4 rfl (by decide) kf_X6_62 rfl rfl dX6_lives_26 ?_
  refine kn_iadd X o np dX6_lives_29 ?_
  refine kb_iload X 4 dX6_lives_30 rfl ?_
  refine kb_iast (i := o + np) X 5 rfl (by omega) (by decide) dX6_lives_32 (ws' := wR g a pe so ag fr np (upd ns np kd) (upd na np ag_) nf (upd sl (o + np) mo) ac ke le tx ap bg wr se wh wo bl ck sw ma ro bs) rfl ?_
  refine kb_aload_n X 0 dX6_lives_33 rfl rfl ?_
  refine kb_dup X dX6_lives_34 rfl ?_
  refine kb_get (v := .int (nI (np))) (C := RX6) (T := TX6) (N := 25) (ci := 6) X kw_iX6 rfl 0 4 rfl (by decide) kf_X6_62 rfl rfl dX6_lives_35 ?_
  refine kb_iconst (v := (1 : Int32)) X dX6_lives_38 (by decide) ?_
  refine kn_iadd X np 1 dX6_lives_39 ?_
  refine kb_put X (C := RX6) (T := TX6) (N := 25) (ci := 6) (ty := .int) kw_iX6 tyX6 tyX6_ok nmX6 rfl 0 4 rfl (by decide) kf_X6_62 rfl rfl (by decide +kernel) rfl rfl (Nat.le_of_ble_eq_true rfl) dX6_lives_40 (ws' := wR g a pe so ag fr (np + 1) (upd ns np kd) (upd na np ag_) nf (upd sl (o + np) mo) ac ke le tx ap bg wr se wh wo bl ck sw ma ro bs) rfl ?_
  refine ke_v X Z dX6_lives_43 ?_
  exact rfl

set_option maxHeartbeats 4000000 in
set_option maxRecDepth 100000 in
theorem ct_X6_settles (l : Launch) (g : kw_G) (a : Nat → Nat) (pe : Nat) (so : Nat → Int32) (ag : Nat → Int32) (fr : Int32) (np : Nat) (ns : Nat → Int32) (na : Nat → Int32) (nf : Int32) (sl : Nat → Int32) (ac : Nat) (ke : Nat) (le : Nat) (tx : Nat → Nat) (ap : Nat) (bg : Nat) (wr : Bool) (se : Nat) (wh : Nat → Nat) (wo : Nat → Nat) (bl : Nat → Int32) (ck : Nat → Int32) (sw : Nat → Bool) (ma : Nat) (ro : Nat → Nat) (bs : Nat → Nat) : kMv l g yX6_settles cX6_settles 2 (kw_rm 1 0 0) 0 0 [.ref (a 0)] (wR g a pe so ag fr np ns na nf sl ac ke le tx ap bg wr se wh wo bl ck sw ma ro bs) (fun w => ∃ so' ag', (∀ p, p < 6 → so' p = ns p ∧ ag' p = na p) ∧ w = wR g a np so' ag' nf np ns na nf sl ac ke le tx ap bg wr se wh wo bl ck sw ma ro bs) := by
  refine kMv_of (by decide +kernel) (Nat.le_of_ble_eq_true rfl) (fun x (X : kX l g RX6 cX6_settles 2 (kw_rm 1 0 0) x) (Z : kZv _ 0 0 x) => ?_)
  show kW x 0 0 0 [(0, .ref (a 0))] [] (wR g a pe so ag fr np ns na nf sl ac ke le tx ap bg wr se wh wo bl ck sw ma ro bs)
  refine kb_aload_n X 0 dX6_settles_0 rfl rfl ?_
  refine kb_aload_n X 0 dX6_settles_1 rfl rfl ?_
  refine kb_get (v := .int (nI (np))) (C := RX6) (T := TX6) (N := 25) (ci := 6) X kw_iX6 rfl 0 4 rfl (by decide) kf_X6_62 rfl rfl dX6_settles_2 ?_
  refine kb_put X (C := RX6) (T := TX6) (N := 25) (ci := 6) (ty := .int) kw_iX6 tyX6 tyX6_ok nmX6 rfl 0 0 rfl (by decide) kf_X6_65 rfl rfl (by decide +kernel) rfl rfl (Nat.le_of_ble_eq_true rfl) dX6_settles_5 (ws' := wR g a np so ag fr np ns na nf sl ac ke le tx ap bg wr se wh wo bl ck sw ma ro bs) rfl ?_
  refine kb_aload_n X 0 dX6_settles_8 rfl rfl ?_
  refine kb_aload_n X 0 dX6_settles_9 rfl rfl ?_
  refine kb_get (v := .int (nf)) (C := RX6) (T := TX6) (N := 25) (ci := 6) X kw_iX6 rfl 0 7 rfl (by decide) kf_X6_55 rfl rfl dX6_settles_10 ?_
  refine kb_put X (C := RX6) (T := TX6) (N := 25) (ci := 6) (ty := .int) kw_iX6 tyX6 tyX6_ok nmX6 rfl 0 3 rfl (by decide) kf_X6_68 rfl rfl (by decide +kernel) rfl rfl (Nat.le_of_ble_eq_true rfl) dX6_settles_13 (ws' := wR g a np so ag nf np ns na nf sl ac ke le tx ap bg wr se wh wo bl ck sw ma ro bs) rfl ?_
  refine kb_iconst (v := (0 : Int32)) X dX6_settles_16 (by decide) ?_
  refine kb_istore_n X [1, 0] dX6_settles_17 rfl (by decide) (lv' := [(0, .ref (a 0)), (1, .int 0)]) rfl ?_
  have L18 : ∀ (K_ i : Nat) (y z : Nat → Int32), i + K_ = 6 ∧ (∀ p, p < i → y p = ns p ∧ z p = na p) → kW x 0 0 18 [(0, .ref (a 0)), (1, .int (nI (i)))] [] (wR g a np y z nf np ns na nf sl ac ke le tx ap bg wr se wh wo bl ck sw ma ro bs) := by
    intro K_
    induction K_ with
    | zero =>
      intro i y z hh
      obtain ⟨hi, hz⟩ := id hh
      refine kb_iload_n X 1 dX6_settles_18 rfl rfl ?_
      refine kb_bipush (v := (6 : Int32)) X dX6_settles_19 (by decide) ?_
      refine kn_icmp_ge (a := i) (b := 6) (tgt := 54) X (by omega) (by omega) dX6_settles_21 (by decide) (fun c1_ => ?_) (fun c1_ => ?_)
      · skip
        refine ke_v X Z dX6_settles_54 ?_
        exact ⟨y, z, fun p hp => hz p (by omega), rfl⟩
      · skip
        omega
    | succ K_ ih =>
      intro i y z hh
      obtain ⟨hi, hz⟩ := id hh
      refine kb_iload_n X 1 dX6_settles_18 rfl rfl ?_
      refine kb_bipush (v := (6 : Int32)) X dX6_settles_19 (by decide) ?_
      refine kn_icmp_ge (a := i) (b := 6) (tgt := 54) X (by omega) (by omega) dX6_settles_21 (by decide) (fun c2_ => ?_) (fun c2_ => ?_)
      · skip
        omega
      · skip
        refine kb_aload_n X 0 dX6_settles_24 rfl rfl ?_
        refine kb_get (v := .ref (a 1)) (C := RX6) (T := TX6) (N := 25) (ci := 6) X kw_iX6 rfl 0 1 rfl (by decide) kf_X6_7 rfl rfl dX6_settles_25 ?_
        refine kb_iload_n X 1 dX6_settles_28 rfl rfl ?_
        refine kb_aload_n X 0 dX6_settles_29 rfl rfl ?_
        refine kb_get (v := .ref (a 3)) (C := RX6) (T := TX6) (N := 25) (ci := 6) X kw_iX6 rfl 0 5 rfl (by decide) kf_X6_16 rfl rfl dX6_settles_30 ?_
        refine kb_iload_n X 1 dX6_settles_33 rfl rfl ?_
        refine kb_iald (i := i) X 3 rfl (by omega) (by decide) dX6_settles_34 ?_
        refine kb_iast (i := i) X 1 rfl (by omega) (by decide) dX6_settles_35 (ws' := wR g a np (upd y i (ns i)) z nf np ns na nf sl ac ke le tx ap bg wr se wh wo bl ck sw ma ro bs) rfl ?_
        refine kb_aload_n X 0 dX6_settles_36 rfl rfl ?_
        refine kb_get (v := .ref (a 2)) (C := RX6) (T := TX6) (N := 25) (ci := 6) X kw_iX6 rfl 0 2 rfl (by decide) kf_X6_13 rfl rfl dX6_settles_37 ?_
        refine kb_iload_n X 1 dX6_settles_40 rfl rfl ?_
        refine kb_aload_n X 0 dX6_settles_41 rfl rfl ?_
        refine kb_get (v := .ref (a 4)) (C := RX6) (T := TX6) (N := 25) (ci := 6) X kw_iX6 rfl 0 6 rfl (by decide) kf_X6_19 rfl rfl dX6_settles_42 ?_
        refine kb_iload_n X 1 dX6_settles_45 rfl rfl ?_
        refine kb_iald (i := i) X 4 rfl (by omega) (by decide) dX6_settles_46 ?_
        refine kb_iast (i := i) X 2 rfl (by omega) (by decide) dX6_settles_47 (ws' := wR g a np (upd y i (ns i)) (upd z i (na i)) nf np ns na nf sl ac ke le tx ap bg wr se wh wo bl ck sw ma ro bs) rfl ?_
        refine kb_iinc X 1 [1, 0] (v' := nI (i + 1)) dX6_settles_48 rfl (nI_add _ _) (by decide) (lv' := [(0, .ref (a 0)), (1, .int (nI (i + 1)))]) rfl ?_
        refine kb_goto (tgt := 18) X dX6_settles_51 (by decide) ?_
        exact kw_to (ih (i + 1) (upd y i (ns i)) (upd z i (na i)) ⟨by omega, fun p hp => by
          by_cases e : p = i
          · rw [e, upd_eq _ _ rfl, upd_eq _ _ rfl]; exact ⟨rfl, rfl⟩
          · rw [upd_ne _ _ e, upd_ne _ _ e]; exact hz p (by omega)⟩) rfl rfl rfl
  exact kw_to (L18 6 0 so ag ⟨rfl, fun p hp => absurd hp (Nat.not_lt_zero _)⟩) rfl rfl rfl

set_option maxHeartbeats 4000000 in
set_option maxRecDepth 100000 in
theorem ct_X6_write (l : Launch) (g : kw_G) (a : Nat → Nat) (so : Nat → Int32) (ag : Nat → Int32) (np : Nat) (ns : Nat → Int32) (na : Nat → Int32) (nf : Int32) (sl : Nat → Int32) (ac : Nat) (ke : Nat) (le : Nat) (tx : Nat → Nat) (ap : Nat) (bg : Nat) (wr : Bool) (se : Nat) (wh : Nat → Nat) (wo : Nat → Nat) (bl : Nat → Int32) (ck : Nat → Int32) (sw : Nat → Bool) (ma : Nat) (ro : Nat → Nat) (bs : Nat → Nat) (v : VS) (us ks : List VS) (tf : Nat → Nat) (tn : Nat) (s : SS) (hR : RI (vN v) so ag (vG v) sl ac ke le tx se wh wo bl ck sw v us ks tf tn s) (x_ : Int32) : kMi l g yX6_write cX6_write 2 .int (kw_rm 2 0 0) 0 0 [.ref (a 0), .int (x_)] (wR g a (vN v) so ag (vG v) np ns na nf sl ac ke le tx ap bg wr se wh wo bl ck sw ma ro bs) (fun r w => r = oWr x_ tn ∧ RWp g a v us ks (oWrT x_ tn tf) (oWrN x_ tn) s w) := by
  refine kMi_of (by decide +kernel) (Nat.le_of_ble_eq_true rfl) (fun x (X : kX l g RX6 cX6_write 2 (kw_rm 2 0 0) x) (Z : kZi .int _ 0 0 x) => ?_)
  show kW x 0 0 0 [(0, .ref (a 0)), (1, .int (x_))] [] (wR g a (vN v) so ag (vG v) np ns na nf sl ac ke le tx ap bg wr se wh wo bl ck sw ma ro bs)
  have hE := hR.1
  have hG := hR.2.1
  have hK := hR.2.1.1
  have hv := hR.2.1.2.1
  have hT := hR.2.1.2.2.1
  have hN0 := hR.2.1.2.2.2
  have h6 := hv.1
  have hx64 := hv.2.1
  have hh64 := hv.2.2
  obtain ⟨etn, htn, htx⟩ := id hR.2.2.2.2.1
  subst etn
  refine kb_iload_n X 1 dX6_write_0 rfl rfl ?_
  refine kb_i2l (v := x_.toInt64) X dX6_write_1 rfl ?_
  refine kb_ldc2 X kk_X6_79 dX6_write_2 ?_
  refine kb_ldc2 X kk_X6_81 dX6_write_5 ?_
  refine kc_Si X (As := [.long (x_.toInt64), .long ((32 : Int64)), .long ((126 : Int64))]) (rest := []) (wr := (wR g a (vN v) so ag (vG v) np ns na nf sl ac ke le tx ap bg wr se wh wo bl ck sw ma ro bs)) (ct_X6_in l g x_.toInt64 (32 : Int64) (126 : Int64)) dX6_write_8 rfl (List.Perm.refl _) mc_X6_in kl_X6_71 ms_X6_in kn_X6 (na := 3) (by decide +kernel) rfl ⟨Nat.le_of_ble_eq_true rfl, Nat.le_of_ble_eq_true rfl⟩ ⟨rfl, rfl⟩ ⟨Nat.le_of_ble_eq_true rfl, Nat.le_of_ble_eq_true rfl⟩ (Nat.le_of_ble_eq_true rfl) (fun r_ w_ hp_ => ?_)
  obtain ⟨rfl, rfl⟩ := hp_
  refine kw_ws (List.nil_append _) ?_
  refine kw_top (b := .int (zI (inr x_ (32 : Int32) (126 : Int32)))) (congrArg (fun q => Value.int (zI q)) (lin_c (by decide) (by decide))) ?_
  refine kz_if_ne (b := inr x_ (32 : Int32) (126 : Int32)) (tgt := 16) X dX6_write_11 (by decide) (fun c1_ => ?_) (fun c1_ => ?_)
  · skip
    obtain ⟨kj, hk1, hk2, ek, ePk⟩ := inr_n (a := 32) (b := 126) (by decide) (by decide) c1_
    refine kw_lv (lv' := [(0, .ref (a 0)), (1, .int (nI (kj)))]) (by rw [ek]) ?_
    refine kb_aload_n X 0 dX6_write_16 rfl rfl ?_
    refine kb_get (v := .int (nI (le))) (C := RX6) (T := TX6) (N := 25) (ci := 6) X kw_iX6 rfl 0 11 rfl (by decide) kf_X6_83 rfl rfl dX6_write_17 ?_
    refine kb_sipush (v := (200 : Int32)) X dX6_write_20 (by decide) ?_
    refine kn_icmp_ne (a := le) (b := 200) (tgt := 29) X (by omega) (by omega) dX6_write_23 (by decide) (fun c2_ => ?_) (fun c2_ => ?_)
    · skip
      refine kb_aload_n X 0 dX6_write_29 rfl rfl ?_
      refine kb_get (v := .ref (a 6)) (C := RX6) (T := TX6) (N := 25) (ci := 6) X kw_iX6 rfl 0 12 rfl (by decide) kf_X6_25 rfl rfl dX6_write_30 ?_
      refine kb_aload_n X 0 dX6_write_33 rfl rfl ?_
      refine kb_get (v := .int (nI (le))) (C := RX6) (T := TX6) (N := 25) (ci := 6) X kw_iX6 rfl 0 11 rfl (by decide) kf_X6_83 rfl rfl dX6_write_34 ?_
      refine kb_iload_n X 1 dX6_write_37 rfl rfl ?_
      refine kb_i2b (v := (nI (kj)).toInt8.toInt32) X dX6_write_38 rfl ?_
      refine kw_top (b := .int (nI (kj))) (by rw [i2b_n kj (by omega)]) ?_
      refine kb_bast (i := le) X 6 rfl (by omega) (by decide) dX6_write_39 (ws' := wR g a (vN v) so ag (vG v) np ns na nf sl ac ke le (va_up tx le kj) ap bg wr se wh wo bl ck sw ma ro bs) (by rw [nI_byte _ (by omega), upd_nI]; rfl) ?_
      refine kb_aload_n X 0 dX6_write_40 rfl rfl ?_
      refine kb_dup X dX6_write_41 rfl ?_
      refine kb_get (v := .int (nI (le))) (C := RX6) (T := TX6) (N := 25) (ci := 6) X kw_iX6 rfl 0 11 rfl (by decide) kf_X6_83 rfl rfl dX6_write_42 ?_
      refine kb_iconst (v := (1 : Int32)) X dX6_write_45 (by decide) ?_
      refine kn_iadd X le 1 dX6_write_46 ?_
      refine kb_put X (C := RX6) (T := TX6) (N := 25) (ci := 6) (ty := .int) kw_iX6 tyX6 tyX6_ok nmX6 rfl 0 11 rfl (by decide) kf_X6_83 rfl rfl (by decide +kernel) rfl rfl (Nat.le_of_ble_eq_true rfl) dX6_write_47 (ws' := wR g a (vN v) so ag (vG v) np ns na nf sl ac ke (le + 1) (va_up tx le kj) ap bg wr se wh wo bl ck sw ma ro bs) rfl ?_
      refine kb_aload_n X 0 dX6_write_50 rfl rfl ?_
      refine kb_get (v := .int (nI (le + 1))) (C := RX6) (T := TX6) (N := 25) (ci := 6) X kw_iX6 rfl 0 11 rfl (by decide) kf_X6_83 rfl rfl dX6_write_51 ?_
      refine ke_i X Z dX6_write_54 ?_
      have hl_ : ¬ 200 ≤ le := by omega
      have e1_ : oWrT x_ le tf = va_up tf le kj := by simp [oWrT, c1_, hl_, ePk]
      have e2_ : oWrN x_ le = le + 1 := by simp [oWrN, c1_, hl_]
      rw [e1_, e2_]
      exact ⟨by simp [oWr, c1_, hl_], RWp.of ⟨hR.1, hR.2.1, hR.2.2.1, hR.2.2.2.1, RT_wr hR.2.2.2.2.1 (by omega) (by omega), hR.2.2.2.2.2⟩⟩
    · skip
      refine kb_bipush (v := (-3 : Int32)) X dX6_write_26 (by decide) ?_
      refine ke_i X Z dX6_write_28 ?_
      have hl_ : 200 ≤ le := by omega
      have e1_ : oWrT x_ le tf = tf := by simp [oWrT, c1_, hl_]
      have e2_ : oWrN x_ le = le := by simp [oWrN, c1_, hl_]
      rw [e1_, e2_]
      exact ⟨by simp [oWr, c1_, hl_], RWp.of hR⟩
  · skip
    refine kb_iconst (v := (-1 : Int32)) X dX6_write_14 (by decide) ?_
    refine ke_i X Z dX6_write_15 ?_
    have e1_ : oWrT x_ le tf = tf := by simp [oWrT, c1_]
    have e2_ : oWrN x_ le = le := by simp [oWrN, c1_]
    rw [e1_, e2_]
    exact ⟨by simp [oWr, c1_], RWp.of hR⟩

set_option maxHeartbeats 4000000 in
set_option maxRecDepth 100000 in
theorem ct_X6_wipe (l : Launch) (g : kw_G) (a : Nat → Nat) (so : Nat → Int32) (ag : Nat → Int32) (np : Nat) (ns : Nat → Int32) (na : Nat → Int32) (nf : Int32) (sl : Nat → Int32) (ac : Nat) (ke : Nat) (le : Nat) (tx : Nat → Nat) (ap : Nat) (bg : Nat) (wr : Bool) (se : Nat) (wh : Nat → Nat) (wo : Nat → Nat) (bl : Nat → Int32) (ck : Nat → Int32) (sw : Nat → Bool) (ma : Nat) (ro : Nat → Nat) (bs : Nat → Nat) (v : VS) (us ks : List VS) (tf : Nat → Nat) (tn : Nat) (s : SS) (hR : RI (vN v) so ag (vG v) sl ac ke le tx se wh wo bl ck sw v us ks tf tn s) : kMi l g yX6_wipe cX6_wipe 2 .int (kw_rm 1 0 0) 0 0 [.ref (a 0)] (wR g a (vN v) so ag (vG v) np ns na nf sl ac ke le tx ap bg wr se wh wo bl ck sw ma ro bs) (fun r w => r = nI tn ∧ RWp g a v us ks tf 0 s w) := by
  refine kMi_of (by decide +kernel) (Nat.le_of_ble_eq_true rfl) (fun x (X : kX l g RX6 cX6_wipe 2 (kw_rm 1 0 0) x) (Z : kZi .int _ 0 0 x) => ?_)
  show kW x 0 0 0 [(0, .ref (a 0))] [] (wR g a (vN v) so ag (vG v) np ns na nf sl ac ke le tx ap bg wr se wh wo bl ck sw ma ro bs)
  have hE := hR.1
  have hG := hR.2.1
  have hK := hR.2.1.1
  have hv := hR.2.1.2.1
  have hT := hR.2.1.2.2.1
  have hN0 := hR.2.1.2.2.2
  have h6 := hv.1
  have hx64 := hv.2.1
  have hh64 := hv.2.2
  obtain ⟨etn, htn, htx⟩ := id hR.2.2.2.2.1
  subst etn
  refine kb_aload_n X 0 dX6_wipe_0 rfl rfl ?_
  refine kb_get (v := .int (nI (le))) (C := RX6) (T := TX6) (N := 25) (ci := 6) X kw_iX6 rfl 0 11 rfl (by decide) kf_X6_83 rfl rfl dX6_wipe_1 ?_
  refine kb_istore_n X [1, 0] dX6_wipe_4 rfl (by decide) (lv' := [(0, .ref (a 0)), (1, .int (nI (le)))]) rfl ?_
  refine kb_aload_n X 0 dX6_wipe_5 rfl rfl ?_
  refine kb_iconst (v := (0 : Int32)) X dX6_wipe_6 (by decide) ?_
  refine kb_put X (C := RX6) (T := TX6) (N := 25) (ci := 6) (ty := .int) kw_iX6 tyX6 tyX6_ok nmX6 rfl 0 11 rfl (by decide) kf_X6_83 rfl rfl (by decide +kernel) rfl rfl (Nat.le_of_ble_eq_true rfl) dX6_wipe_7 (ws' := wR g a (vN v) so ag (vG v) np ns na nf sl ac ke 0 tx ap bg wr se wh wo bl ck sw ma ro bs) rfl ?_
  refine kb_iload_n X 1 dX6_wipe_10 rfl rfl ?_
  refine ke_i X Z dX6_wipe_11 ?_
  exact ⟨rfl, RWp.of ⟨hR.1, hR.2.1, hR.2.2.1, hR.2.2.2.1, ⟨rfl, by omega, fun k hk => by omega⟩, hR.2.2.2.2.2⟩⟩

set_option maxHeartbeats 4000000 in
set_option maxRecDepth 100000 in
theorem ct_X6_next (l : Launch) (g : kw_G) (a : Nat → Nat) (pe : Nat) (so : Nat → Int32) (ag : Nat → Int32) (fr : Int32) (np : Nat) (ns : Nat → Int32) (na : Nat → Int32) (nf : Int32) (sl : Nat → Int32) (ac : Nat) (ke : Nat) (le : Nat) (tx : Nat → Nat) (ap : Nat) (bg : Nat) (wr : Bool) (se : Nat) (wh : Nat → Nat) (wo : Nat → Nat) (bl : Nat → Int32) (ck : Nat → Int32) (sw : Nat → Bool) (ma : Nat) (ro : Nat → Nat) (bs : Nat → Nat) (hle : le ≤ 200) (hap : ap ≤ 1000) : kMi l g yX6_next cX6_next 1 .int (kw_rm 1 0 0) 0 0 [.ref (a 0)] (wR g a pe so ag fr np ns na nf sl ac ke le tx ap bg wr se wh wo bl ck sw ma ro bs) (fun r w => r = rCh tx le ap ∧ w = wR g a pe so ag fr np ns na nf sl ac ke le tx ap bg wr se wh wo bl ck sw ma ro bs) := by
  refine kMi_of (by decide +kernel) (Nat.le_of_ble_eq_true rfl) (fun x (X : kX l g RX6 cX6_next 1 (kw_rm 1 0 0) x) (Z : kZi .int _ 0 0 x) => ?_)
  show kW x 0 0 0 [(0, .ref (a 0))] [] (wR g a pe so ag fr np ns na nf sl ac ke le tx ap bg wr se wh wo bl ck sw ma ro bs)
  refine kb_aload_n X 0 dX6_next_0 rfl rfl ?_
  refine kb_get (v := .int (nI (ap))) (C := RX6) (T := TX6) (N := 25) (ci := 6) X kw_iX6 rfl 0 13 rfl (by decide) kf_X6_86 rfl rfl dX6_next_1 ?_
  refine kb_aload_n X 0 dX6_next_4 rfl rfl ?_
  refine kb_get (v := .int (nI (le))) (C := RX6) (T := TX6) (N := 25) (ci := 6) X kw_iX6 rfl 0 11 rfl (by decide) kf_X6_83 rfl rfl dX6_next_5 ?_
  refine kn_icmp_ge (a := ap) (b := le) (tgt := 23) X (by omega) (by omega) dX6_next_8 (by decide) (fun c1_ => ?_) (fun c1_ => ?_)
  · skip
    refine kb_iconst (v := (-1 : Int32)) X dX6_next_23 (by decide) ?_
    refine ke_i X Z dX6_next_24 ?_
    exact ⟨by rw [rCh, if_neg (by omega)] <;> rfl, rfl⟩
  · skip
    refine kb_aload_n X 0 dX6_next_11 rfl rfl ?_
    refine kb_get (v := .ref (a 6)) (C := RX6) (T := TX6) (N := 25) (ci := 6) X kw_iX6 rfl 0 12 rfl (by decide) kf_X6_25 rfl rfl dX6_next_12 ?_
    refine kb_aload_n X 0 dX6_next_15 rfl rfl ?_
    refine kb_get (v := .int (nI (ap))) (C := RX6) (T := TX6) (N := 25) (ci := 6) X kw_iX6 rfl 0 13 rfl (by decide) kf_X6_86 rfl rfl dX6_next_16 ?_
    refine kb_bald (i := ap) X 6 rfl (by omega) (by decide) dX6_next_19 ?_
    refine kb_goto (tgt := 24) X dX6_next_20 (by decide) ?_
    refine ke_i X Z dX6_next_24 ?_
    exact ⟨by rw [rCh, if_pos (by omega)] <;> rfl, rfl⟩

set_option maxHeartbeats 4000000 in
set_option maxRecDepth 100000 in
theorem ct_X6_number (l : Launch) (g : kw_G) (a : Nat → Nat) (pe : Nat) (so : Nat → Int32) (ag : Nat → Int32) (fr : Int32) (np : Nat) (ns : Nat → Int32) (na : Nat → Int32) (nf : Int32) (sl : Nat → Int32) (ac : Nat) (ke : Nat) (le : Nat) (tx : Nat → Nat) (ap : Nat) (bg : Nat) (wr : Bool) (se : Nat) (wh : Nat → Nat) (wo : Nat → Nat) (bl : Nat → Int32) (ck : Nat → Int32) (sw : Nat → Bool) (ma : Nat) (ro : Nat → Nat) (bs : Nat → Nat) (hle : le ≤ 200) (hap : ap ≤ 1000) (htx : ∀ k, k < le → tx k < 128) (lo hi : Int32) : kMi l g yX6_number cX6_number 5 .int (kw_rm 2 0 0) 0 0 [.ref (a 0), .int (lo), .int (hi)] (wR g a pe so ag fr np ns na nf sl ac ke le tx ap bg wr se wh wo bl ck sw ma ro bs) (fun r w => r = (if (wr || !nOk tx le ap lo hi) = true then 0 else nI (nV tx le ap)) ∧ w = wR g a pe so ag fr np ns na nf sl ac ke le tx (nE tx le ap) bg (wr || !nOk tx le ap lo hi) se wh wo bl ck sw ma ro bs) := by
  refine kMi_of (by decide +kernel) (Nat.le_of_ble_eq_true rfl) (fun x (X : kX l g RX6 cX6_number 5 (kw_rm 2 0 0) x) (Z : kZi .int _ 0 0 x) => ?_)
  show kW x 0 0 0 [(0, .ref (a 0)), (1, .int (lo)), (2, .int (hi))] [] (wR g a pe so ag fr np ns na nf sl ac ke le tx ap bg wr se wh wo bl ck sw ma ro bs)
  refine kb_iconst (v := (0 : Int32)) X dX6_number_0 (by decide) ?_
  refine kb_istore_n X [1, 2, 3, 0] dX6_number_1 rfl (by decide) (lv' := [(0, .ref (a 0)), (1, .int (lo)), (2, .int (hi)), (3, .int 0)]) rfl ?_
  refine kb_iconst (v := (0 : Int32)) X dX6_number_2 (by decide) ?_
  refine kb_istore X [1, 2, 3, 4, 0] dX6_number_3 (by decide) (lv' := [(0, .ref (a 0)), (1, .int (lo)), (2, .int (hi)), (3, .int 0), (4, .int 0)]) rfl ?_
  refine kb_aload_n X 0 dX6_number_5 rfl rfl ?_
  refine kc_Vi X (As := []) (rest := []) (wr := []) (ct_X6_next l g a pe so ag fr np ns na nf sl ac ke le tx ap bg wr se wh wo bl ck sw ma ro bs hle (by omega)) dX6_number_6 rfl (kw_pall _) mc_X6_next kl_X6_89 mi_X6_next mv_X6_next kn_X6 0 rfl rfl rfl (na := 0) (by decide +kernel) rfl ⟨Nat.le_of_ble_eq_true rfl, Nat.le_of_ble_eq_true rfl⟩ ⟨rfl, rfl⟩ ⟨Nat.le_of_ble_eq_true rfl, Nat.le_of_ble_eq_true rfl⟩ (Nat.le_of_ble_eq_true rfl) (fun r_ w_ hp_ => ?_)
  obtain ⟨rfl, rfl⟩ := hp_
  refine kw_ws (List.append_nil _) ?_
  refine kb_i2l (v := (rCh tx le ap).toInt64) X dX6_number_9 rfl ?_
  refine kb_ldc2 X kk_X6_93 dX6_number_10 ?_
  refine kb_ldc2 X kk_X6_95 dX6_number_13 ?_
  refine kc_Si X (As := [.long ((rCh tx le ap).toInt64), .long ((48 : Int64)), .long ((57 : Int64))]) (rest := []) (wr := (wR g a pe so ag fr np ns na nf sl ac ke le tx ap bg wr se wh wo bl ck sw ma ro bs)) (ct_X6_in l g ((rCh tx le ap).toInt64) (48 : Int64) (57 : Int64)) dX6_number_16 rfl (List.Perm.refl _) mc_X6_in kl_X6_71 ms_X6_in kn_X6 (na := 3) (by decide +kernel) rfl ⟨Nat.le_of_ble_eq_true rfl, Nat.le_of_ble_eq_true rfl⟩ ⟨rfl, rfl⟩ ⟨Nat.le_of_ble_eq_true rfl, Nat.le_of_ble_eq_true rfl⟩ (Nat.le_of_ble_eq_true rfl) (fun r_ w_ hp_ => ?_)
  obtain ⟨rfl, rfl⟩ := hp_
  refine kw_ws (List.nil_append _) ?_
  refine kw_top (b := .int (zI (inr (rCh tx le ap) (48 : Int32) (57 : Int32)))) (congrArg (fun q => Value.int (zI q)) (lin_c (by decide) (by decide))) ?_
  refine kz_if_eq (b := inr (rCh tx le ap) (48 : Int32) (57 : Int32)) (tgt := 57) X dX6_number_19 (by decide) (fun c1_ => ?_) (fun c1_ => ?_)
  · skip
    refine kb_aload_n X 0 dX6_number_57 rfl rfl ?_
    refine kb_aload_n X 0 dX6_number_58 rfl rfl ?_
    refine kb_get (v := .int (zI (wr))) (C := RX6) (T := TX6) (N := 25) (ci := 6) X kw_iX6 rfl 0 15 rfl (by decide) kf_X6_97 rfl rfl dX6_number_59 ?_
    refine kz_if_ne (b := wr) (tgt := 88) X dX6_number_62 (by decide) (fun c2_ => ?_) (fun c2_ => ?_)
    · skip
      refine kb_iconst (v := (1 : Int32)) X dX6_number_88 (by decide) ?_
      refine kb_goto (tgt := 93) X dX6_number_89 (by decide) ?_
      refine kb_put X (C := RX6) (T := TX6) (N := 25) (ci := 6) (ty := .boolean) kw_iX6 tyX6 tyX6_ok nmX6 rfl 0 15 rfl (by decide) kf_X6_97 rfl rfl (by decide +kernel) rfl rfl (Nat.le_of_ble_eq_true rfl) dX6_number_93 (ws' := wR g a pe so ag fr np ns na nf sl ac ke le tx ap bg true se wh wo bl ck sw ma ro bs) rfl ?_
      refine kb_aload_n X 0 dX6_number_96 rfl rfl ?_
      refine kb_get (v := .int 1) (C := RX6) (T := TX6) (N := 25) (ci := 6) X kw_iX6 rfl 0 15 rfl (by decide) kf_X6_97 rfl rfl dX6_number_97 ?_
      refine kb_if_eq (tgt := 107) X dX6_number_100 (by decide) (fun q_ => absurd q_ (by decide)) (fun _ => ?_)
      refine kb_iconst (v := (0 : Int32)) X dX6_number_103 (by decide) ?_
      refine kb_goto (tgt := 108) X dX6_number_104 (by decide) ?_
      refine ke_i X Z dX6_number_108 ?_
      have e1_ : nD tx le ap = 0 := by simp [nD, fg, c1_, c2_]
      have e2_ : (wr || !nOk tx le ap lo hi) = true := by simp [nOk, nV, fg, c1_, c2_]
      rw [nE, e1_, e2_]
      exact ⟨rfl, rfl⟩
    · skip
      refine kb_iload X 4 dX6_number_65 rfl ?_
      refine kb_if_eq (tgt := 88) X dX6_number_67 (by decide) (fun _ => ?_) (fun q_ => absurd q_ (by decide))
      refine kb_iconst (v := (1 : Int32)) X dX6_number_88 (by decide) ?_
      refine kb_goto (tgt := 93) X dX6_number_89 (by decide) ?_
      refine kb_put X (C := RX6) (T := TX6) (N := 25) (ci := 6) (ty := .boolean) kw_iX6 tyX6 tyX6_ok nmX6 rfl 0 15 rfl (by decide) kf_X6_97 rfl rfl (by decide +kernel) rfl rfl (Nat.le_of_ble_eq_true rfl) dX6_number_93 (ws' := wR g a pe so ag fr np ns na nf sl ac ke le tx ap bg true se wh wo bl ck sw ma ro bs) rfl ?_
      refine kb_aload_n X 0 dX6_number_96 rfl rfl ?_
      refine kb_get (v := .int 1) (C := RX6) (T := TX6) (N := 25) (ci := 6) X kw_iX6 rfl 0 15 rfl (by decide) kf_X6_97 rfl rfl dX6_number_97 ?_
      refine kb_if_eq (tgt := 107) X dX6_number_100 (by decide) (fun q_ => absurd q_ (by decide)) (fun _ => ?_)
      refine kb_iconst (v := (0 : Int32)) X dX6_number_103 (by decide) ?_
      refine kb_goto (tgt := 108) X dX6_number_104 (by decide) ?_
      refine ke_i X Z dX6_number_108 ?_
      have e1_ : nD tx le ap = 0 := by simp [nD, fg, c1_, c2_]
      have e2_ : (wr || !nOk tx le ap lo hi) = true := by simp [nOk, nV, fg, c1_, c2_]
      rw [nE, e1_, e2_]
      exact ⟨rfl, rfl⟩
  · skip
    refine kb_iload X 4 dX6_number_22 rfl ?_
    refine kb_iconst (v := (3 : Int32)) X dX6_number_24 (by decide) ?_
    refine kb_icmp_ge (tgt := 57) X dX6_number_25 (by decide) (fun q_ => absurd q_ (by decide)) (fun _ => ?_)
    refine kb_bipush (v := (10 : Int32)) X dX6_number_28 (by decide) ?_
    refine kb_iload_n X 3 dX6_number_30 rfl rfl ?_
    refine kb_imul X dX6_number_31 ?_
    refine kw_top (b := .int 0) (by decide) ?_
    refine kb_aload_n X 0 dX6_number_32 rfl rfl ?_
    refine kc_Vi X (As := []) (rest := [.int 0]) (wr := []) (ct_X6_next l g a pe so ag fr np ns na nf sl ac ke le tx ap bg wr se wh wo bl ck sw ma ro bs hle (by omega)) dX6_number_33 rfl (kw_pall _) mc_X6_next kl_X6_89 mi_X6_next mv_X6_next kn_X6 0 rfl rfl rfl (na := 0) (by decide +kernel) rfl ⟨Nat.le_of_ble_eq_true rfl, Nat.le_of_ble_eq_true rfl⟩ ⟨rfl, rfl⟩ ⟨Nat.le_of_ble_eq_true rfl, Nat.le_of_ble_eq_true rfl⟩ (Nat.le_of_ble_eq_true rfl) (fun r_ w_ hp_ => ?_)
    obtain ⟨rfl, rfl⟩ := hp_
    refine kw_ws (List.append_nil _) ?_
    obtain ⟨hl_, h48_, h57_⟩ := fg_t (p := ap) htx (by assumption)
    refine kw_top (b := .int (nI (tx ap))) (by rw [rCh, if_pos hl_]) ?_
    refine kn_iadd X 0 (tx ap) dX6_number_36 ?_
    refine kb_bipush (v := (48 : Int32)) X dX6_number_37 (by decide) ?_
    refine kn_isub X (0 + (tx ap)) 48 (by omega) dX6_number_39 ?_
    refine kw_top (b := .int (nI (((tx ap)) - 48))) (by rw [Nat.zero_add]) ?_
    refine kb_istore_n X [1, 2, 3, 0, 4] dX6_number_40 rfl (by decide) (lv' := [(0, .ref (a 0)), (1, .int (lo)), (2, .int (hi)), (3, .int (nI (((tx ap)) - 48))), (4, .int 0)]) rfl ?_
    refine kb_iinc X 4 [1, 2, 3, 4, 0] (v' := (1 : Int32)) dX6_number_41 rfl (by decide) (by decide) (lv' := [(0, .ref (a 0)), (1, .int (lo)), (2, .int (hi)), (3, .int (nI (((tx ap)) - 48))), (4, .int 1)]) rfl ?_
    refine kb_aload_n X 0 dX6_number_44 rfl rfl ?_
    refine kb_dup X dX6_number_45 rfl ?_
    refine kb_get (v := .int (nI (ap))) (C := RX6) (T := TX6) (N := 25) (ci := 6) X kw_iX6 rfl 0 13 rfl (by decide) kf_X6_86 rfl rfl dX6_number_46 ?_
    refine kb_iconst (v := (1 : Int32)) X dX6_number_49 (by decide) ?_
    refine kn_iadd X ap 1 dX6_number_50 ?_
    refine kb_put X (C := RX6) (T := TX6) (N := 25) (ci := 6) (ty := .int) kw_iX6 tyX6 tyX6_ok nmX6 rfl 0 13 rfl (by decide) kf_X6_86 rfl rfl (by decide +kernel) rfl rfl (Nat.le_of_ble_eq_true rfl) dX6_number_51 (ws' := wR g a pe so ag fr np ns na nf sl ac ke le tx (ap + 1) bg wr se wh wo bl ck sw ma ro bs) rfl ?_
    refine kb_goto (tgt := 5) X dX6_number_54 (by decide) ?_
    refine kb_aload_n X 0 dX6_number_5 rfl rfl ?_
    refine kc_Vi X (As := []) (rest := []) (wr := []) (ct_X6_next l g a pe so ag fr np ns na nf sl ac ke le tx (ap + 1) bg wr se wh wo bl ck sw ma ro bs hle (by omega)) dX6_number_6 rfl (kw_pall _) mc_X6_next kl_X6_89 mi_X6_next mv_X6_next kn_X6 0 rfl rfl rfl (na := 0) (by decide +kernel) rfl ⟨Nat.le_of_ble_eq_true rfl, Nat.le_of_ble_eq_true rfl⟩ ⟨rfl, rfl⟩ ⟨Nat.le_of_ble_eq_true rfl, Nat.le_of_ble_eq_true rfl⟩ (Nat.le_of_ble_eq_true rfl) (fun r_ w_ hp_ => ?_)
    obtain ⟨rfl, rfl⟩ := hp_
    refine kw_ws (List.append_nil _) ?_
    refine kb_i2l (v := (rCh tx le (ap + 1)).toInt64) X dX6_number_9 rfl ?_
    refine kb_ldc2 X kk_X6_93 dX6_number_10 ?_
    refine kb_ldc2 X kk_X6_95 dX6_number_13 ?_
    refine kc_Si X (As := [.long ((rCh tx le (ap + 1)).toInt64), .long ((48 : Int64)), .long ((57 : Int64))]) (rest := []) (wr := (wR g a pe so ag fr np ns na nf sl ac ke le tx (ap + 1) bg wr se wh wo bl ck sw ma ro bs)) (ct_X6_in l g ((rCh tx le (ap + 1)).toInt64) (48 : Int64) (57 : Int64)) dX6_number_16 rfl (List.Perm.refl _) mc_X6_in kl_X6_71 ms_X6_in kn_X6 (na := 3) (by decide +kernel) rfl ⟨Nat.le_of_ble_eq_true rfl, Nat.le_of_ble_eq_true rfl⟩ ⟨rfl, rfl⟩ ⟨Nat.le_of_ble_eq_true rfl, Nat.le_of_ble_eq_true rfl⟩ (Nat.le_of_ble_eq_true rfl) (fun r_ w_ hp_ => ?_)
    obtain ⟨rfl, rfl⟩ := hp_
    refine kw_ws (List.nil_append _) ?_
    refine kw_top (b := .int (zI (inr (rCh tx le (ap + 1)) (48 : Int32) (57 : Int32)))) (congrArg (fun q => Value.int (zI q)) (lin_c (by decide) (by decide))) ?_
    refine kz_if_eq (b := inr (rCh tx le (ap + 1)) (48 : Int32) (57 : Int32)) (tgt := 57) X dX6_number_19 (by decide) (fun c7_ => ?_) (fun c7_ => ?_)
    · skip
      refine kb_aload_n X 0 dX6_number_57 rfl rfl ?_
      refine kb_aload_n X 0 dX6_number_58 rfl rfl ?_
      refine kb_get (v := .int (zI (wr))) (C := RX6) (T := TX6) (N := 25) (ci := 6) X kw_iX6 rfl 0 15 rfl (by decide) kf_X6_97 rfl rfl dX6_number_59 ?_
      refine kz_if_ne (b := wr) (tgt := 88) X dX6_number_62 (by decide) (fun c8_ => ?_) (fun c8_ => ?_)
      · skip
        refine kb_iconst (v := (1 : Int32)) X dX6_number_88 (by decide) ?_
        refine kb_goto (tgt := 93) X dX6_number_89 (by decide) ?_
        refine kb_put X (C := RX6) (T := TX6) (N := 25) (ci := 6) (ty := .boolean) kw_iX6 tyX6 tyX6_ok nmX6 rfl 0 15 rfl (by decide) kf_X6_97 rfl rfl (by decide +kernel) rfl rfl (Nat.le_of_ble_eq_true rfl) dX6_number_93 (ws' := wR g a pe so ag fr np ns na nf sl ac ke le tx (ap + 1) bg true se wh wo bl ck sw ma ro bs) rfl ?_
        refine kb_aload_n X 0 dX6_number_96 rfl rfl ?_
        refine kb_get (v := .int 1) (C := RX6) (T := TX6) (N := 25) (ci := 6) X kw_iX6 rfl 0 15 rfl (by decide) kf_X6_97 rfl rfl dX6_number_97 ?_
        refine kb_if_eq (tgt := 107) X dX6_number_100 (by decide) (fun q_ => absurd q_ (by decide)) (fun _ => ?_)
        refine kb_iconst (v := (0 : Int32)) X dX6_number_103 (by decide) ?_
        refine kb_goto (tgt := 108) X dX6_number_104 (by decide) ?_
        refine ke_i X Z dX6_number_108 ?_
        have e1_ : nD tx le ap = 1 := by simp [nD, fg, c1_, c7_, c8_]
        have e2_ : (wr || !nOk tx le ap lo hi) = true := by simp [nOk, nV, fg, c1_, c7_, c8_]
        rw [nE, e1_, e2_]
        exact ⟨rfl, rfl⟩
      · skip
        refine kb_iload X 4 dX6_number_65 rfl ?_
        refine kb_if_eq (tgt := 88) X dX6_number_67 (by decide) (fun q_ => absurd q_ (by decide)) (fun _ => ?_)
        refine kb_iload X 4 dX6_number_70 rfl ?_
        refine kb_iconst (v := (2 : Int32)) X dX6_number_72 (by decide) ?_
        refine kb_icmp_gt (tgt := 88) X dX6_number_73 (by decide) (fun q_ => absurd q_ (by decide)) (fun _ => ?_)
        refine kb_iload_n X 3 dX6_number_76 rfl rfl ?_
        refine kb_i2l (v := (nI (((tx ap)) - 48)).toInt64) X dX6_number_77 rfl ?_
        refine kb_iload_n X 1 dX6_number_78 rfl rfl ?_
        refine kb_i2l (v := lo.toInt64) X dX6_number_79 rfl ?_
        refine kb_iload_n X 2 dX6_number_80 rfl rfl ?_
        refine kb_i2l (v := hi.toInt64) X dX6_number_81 rfl ?_
        refine kc_Si X (As := [.long ((nI (((tx ap)) - 48)).toInt64), .long (lo.toInt64), .long (hi.toInt64)]) (rest := [.ref (a 0)]) (wr := (wR g a pe so ag fr np ns na nf sl ac ke le tx (ap + 1) bg wr se wh wo bl ck sw ma ro bs)) (ct_X6_in l g ((nI (((tx ap)) - 48)).toInt64) lo.toInt64 hi.toInt64) dX6_number_82 rfl (List.Perm.refl _) mc_X6_in kl_X6_71 ms_X6_in kn_X6 (na := 3) (by decide +kernel) rfl ⟨Nat.le_of_ble_eq_true rfl, Nat.le_of_ble_eq_true rfl⟩ ⟨rfl, rfl⟩ ⟨Nat.le_of_ble_eq_true rfl, Nat.le_of_ble_eq_true rfl⟩ (Nat.le_of_ble_eq_true rfl) (fun r_ w_ hp_ => ?_)
        obtain ⟨rfl, rfl⟩ := hp_
        refine kw_ws (List.nil_append _) ?_
        refine kw_top (b := .int (zI (inr (nI (((tx ap)) - 48)) lo hi))) (congrArg (fun q => Value.int (zI q)) (lin_c rfl rfl)) ?_
        refine kz_if_ne (b := inr (nI (((tx ap)) - 48)) lo hi) (tgt := 92) X dX6_number_85 (by decide) (fun c12_ => ?_) (fun c12_ => ?_)
        · skip
          refine kb_iconst (v := (0 : Int32)) X dX6_number_92 (by decide) ?_
          refine kb_put X (C := RX6) (T := TX6) (N := 25) (ci := 6) (ty := .boolean) kw_iX6 tyX6 tyX6_ok nmX6 rfl 0 15 rfl (by decide) kf_X6_97 rfl rfl (by decide +kernel) rfl rfl (Nat.le_of_ble_eq_true rfl) dX6_number_93 (ws' := wR g a pe so ag fr np ns na nf sl ac ke le tx (ap + 1) bg false se wh wo bl ck sw ma ro bs) rfl ?_
          refine kb_aload_n X 0 dX6_number_96 rfl rfl ?_
          refine kb_get (v := .int 0) (C := RX6) (T := TX6) (N := 25) (ci := 6) X kw_iX6 rfl 0 15 rfl (by decide) kf_X6_97 rfl rfl dX6_number_97 ?_
          refine kb_if_eq (tgt := 107) X dX6_number_100 (by decide) (fun _ => ?_) (fun q_ => absurd q_ (by decide))
          refine kb_iload_n X 3 dX6_number_107 rfl rfl ?_
          refine ke_i X Z dX6_number_108 ?_
          have e1_ : nD tx le ap = 1 := by simp [nD, fg, c1_, c7_, c8_, c12_]
          have e2_ : (wr || !nOk tx le ap lo hi) = false := by simp [nOk, nV, fg, c1_, c7_, c8_, c12_]
          rw [nE, e1_, e2_]
          exact ⟨by simp [nV, fg, c1_, c7_, c8_, c12_], rfl⟩
        · skip
          refine kb_iconst (v := (1 : Int32)) X dX6_number_88 (by decide) ?_
          refine kb_goto (tgt := 93) X dX6_number_89 (by decide) ?_
          refine kb_put X (C := RX6) (T := TX6) (N := 25) (ci := 6) (ty := .boolean) kw_iX6 tyX6 tyX6_ok nmX6 rfl 0 15 rfl (by decide) kf_X6_97 rfl rfl (by decide +kernel) rfl rfl (Nat.le_of_ble_eq_true rfl) dX6_number_93 (ws' := wR g a pe so ag fr np ns na nf sl ac ke le tx (ap + 1) bg true se wh wo bl ck sw ma ro bs) rfl ?_
          refine kb_aload_n X 0 dX6_number_96 rfl rfl ?_
          refine kb_get (v := .int 1) (C := RX6) (T := TX6) (N := 25) (ci := 6) X kw_iX6 rfl 0 15 rfl (by decide) kf_X6_97 rfl rfl dX6_number_97 ?_
          refine kb_if_eq (tgt := 107) X dX6_number_100 (by decide) (fun q_ => absurd q_ (by decide)) (fun _ => ?_)
          refine kb_iconst (v := (0 : Int32)) X dX6_number_103 (by decide) ?_
          refine kb_goto (tgt := 108) X dX6_number_104 (by decide) ?_
          refine ke_i X Z dX6_number_108 ?_
          have e1_ : nD tx le ap = 1 := by simp [nD, fg, c1_, c7_, c8_, c12_]
          have e2_ : (wr || !nOk tx le ap lo hi) = true := by simp [nOk, nV, fg, c1_, c7_, c8_, c12_]
          rw [nE, e1_, e2_]
          exact ⟨rfl, rfl⟩
    · skip
      refine kb_iload X 4 dX6_number_22 rfl ?_
      refine kb_iconst (v := (3 : Int32)) X dX6_number_24 (by decide) ?_
      refine kb_icmp_ge (tgt := 57) X dX6_number_25 (by decide) (fun q_ => absurd q_ (by decide)) (fun _ => ?_)
      refine kb_bipush (v := (10 : Int32)) X dX6_number_28 (by decide) ?_
      refine kb_iload_n X 3 dX6_number_30 rfl rfl ?_
      refine kn_imul X 10 (((tx ap)) - 48) dX6_number_31 ?_
      refine kb_aload_n X 0 dX6_number_32 rfl rfl ?_
      refine kc_Vi X (As := []) (rest := [.int (nI (10 * (((tx ap)) - 48)))]) (wr := []) (ct_X6_next l g a pe so ag fr np ns na nf sl ac ke le tx (ap + 1) bg wr se wh wo bl ck sw ma ro bs hle (by omega)) dX6_number_33 rfl (kw_pall _) mc_X6_next kl_X6_89 mi_X6_next mv_X6_next kn_X6 0 rfl rfl rfl (na := 0) (by decide +kernel) rfl ⟨Nat.le_of_ble_eq_true rfl, Nat.le_of_ble_eq_true rfl⟩ ⟨rfl, rfl⟩ ⟨Nat.le_of_ble_eq_true rfl, Nat.le_of_ble_eq_true rfl⟩ (Nat.le_of_ble_eq_true rfl) (fun r_ w_ hp_ => ?_)
      obtain ⟨rfl, rfl⟩ := hp_
      refine kw_ws (List.append_nil _) ?_
      obtain ⟨hl_, h48_, h57_⟩ := fg_t (p := (ap + 1)) htx (by assumption)
      refine kw_top (b := .int (nI (tx (ap + 1)))) (by rw [rCh, if_pos hl_]) ?_
      refine kn_iadd X (10 * (((tx ap)) - 48)) (tx (ap + 1)) dX6_number_36 ?_
      refine kb_bipush (v := (48 : Int32)) X dX6_number_37 (by decide) ?_
      refine kn_isub X ((10 * (((tx ap)) - 48)) + (tx (ap + 1))) 48 (by omega) dX6_number_39 ?_
      refine kb_istore_n X [1, 2, 3, 0, 4] dX6_number_40 rfl (by decide) (lv' := [(0, .ref (a 0)), (1, .int (lo)), (2, .int (hi)), (3, .int (nI (((10 * (((tx ap)) - 48)) + (tx (ap + 1))) - 48))), (4, .int 1)]) rfl ?_
      refine kb_iinc X 4 [1, 2, 3, 4, 0] (v' := (2 : Int32)) dX6_number_41 rfl (by decide) (by decide) (lv' := [(0, .ref (a 0)), (1, .int (lo)), (2, .int (hi)), (3, .int (nI (((10 * (((tx ap)) - 48)) + (tx (ap + 1))) - 48))), (4, .int 2)]) rfl ?_
      refine kb_aload_n X 0 dX6_number_44 rfl rfl ?_
      refine kb_dup X dX6_number_45 rfl ?_
      refine kb_get (v := .int (nI (ap + 1))) (C := RX6) (T := TX6) (N := 25) (ci := 6) X kw_iX6 rfl 0 13 rfl (by decide) kf_X6_86 rfl rfl dX6_number_46 ?_
      refine kb_iconst (v := (1 : Int32)) X dX6_number_49 (by decide) ?_
      refine kn_iadd X (ap + 1) 1 dX6_number_50 ?_
      refine kb_put X (C := RX6) (T := TX6) (N := 25) (ci := 6) (ty := .int) kw_iX6 tyX6 tyX6_ok nmX6 rfl 0 13 rfl (by decide) kf_X6_86 rfl rfl (by decide +kernel) rfl rfl (Nat.le_of_ble_eq_true rfl) dX6_number_51 (ws' := wR g a pe so ag fr np ns na nf sl ac ke le tx ((ap + 1) + 1) bg wr se wh wo bl ck sw ma ro bs) rfl ?_
      refine kb_goto (tgt := 5) X dX6_number_54 (by decide) ?_
      refine kb_aload_n X 0 dX6_number_5 rfl rfl ?_
      refine kc_Vi X (As := []) (rest := []) (wr := []) (ct_X6_next l g a pe so ag fr np ns na nf sl ac ke le tx ((ap + 1) + 1) bg wr se wh wo bl ck sw ma ro bs hle (by omega)) dX6_number_6 rfl (kw_pall _) mc_X6_next kl_X6_89 mi_X6_next mv_X6_next kn_X6 0 rfl rfl rfl (na := 0) (by decide +kernel) rfl ⟨Nat.le_of_ble_eq_true rfl, Nat.le_of_ble_eq_true rfl⟩ ⟨rfl, rfl⟩ ⟨Nat.le_of_ble_eq_true rfl, Nat.le_of_ble_eq_true rfl⟩ (Nat.le_of_ble_eq_true rfl) (fun r_ w_ hp_ => ?_)
      obtain ⟨rfl, rfl⟩ := hp_
      refine kw_ws (List.append_nil _) ?_
      refine kb_i2l (v := (rCh tx le ((ap + 1) + 1)).toInt64) X dX6_number_9 rfl ?_
      refine kb_ldc2 X kk_X6_93 dX6_number_10 ?_
      refine kb_ldc2 X kk_X6_95 dX6_number_13 ?_
      refine kc_Si X (As := [.long ((rCh tx le ((ap + 1) + 1)).toInt64), .long ((48 : Int64)), .long ((57 : Int64))]) (rest := []) (wr := (wR g a pe so ag fr np ns na nf sl ac ke le tx ((ap + 1) + 1) bg wr se wh wo bl ck sw ma ro bs)) (ct_X6_in l g ((rCh tx le ((ap + 1) + 1)).toInt64) (48 : Int64) (57 : Int64)) dX6_number_16 rfl (List.Perm.refl _) mc_X6_in kl_X6_71 ms_X6_in kn_X6 (na := 3) (by decide +kernel) rfl ⟨Nat.le_of_ble_eq_true rfl, Nat.le_of_ble_eq_true rfl⟩ ⟨rfl, rfl⟩ ⟨Nat.le_of_ble_eq_true rfl, Nat.le_of_ble_eq_true rfl⟩ (Nat.le_of_ble_eq_true rfl) (fun r_ w_ hp_ => ?_)
      obtain ⟨rfl, rfl⟩ := hp_
      refine kw_ws (List.nil_append _) ?_
      refine kw_top (b := .int (zI (inr (rCh tx le ((ap + 1) + 1)) (48 : Int32) (57 : Int32)))) (congrArg (fun q => Value.int (zI q)) (lin_c (by decide) (by decide))) ?_
      refine kz_if_eq (b := inr (rCh tx le ((ap + 1) + 1)) (48 : Int32) (57 : Int32)) (tgt := 57) X dX6_number_19 (by decide) (fun c16_ => ?_) (fun c16_ => ?_)
      · skip
        refine kb_aload_n X 0 dX6_number_57 rfl rfl ?_
        refine kb_aload_n X 0 dX6_number_58 rfl rfl ?_
        refine kb_get (v := .int (zI (wr))) (C := RX6) (T := TX6) (N := 25) (ci := 6) X kw_iX6 rfl 0 15 rfl (by decide) kf_X6_97 rfl rfl dX6_number_59 ?_
        refine kz_if_ne (b := wr) (tgt := 88) X dX6_number_62 (by decide) (fun c17_ => ?_) (fun c17_ => ?_)
        · skip
          refine kb_iconst (v := (1 : Int32)) X dX6_number_88 (by decide) ?_
          refine kb_goto (tgt := 93) X dX6_number_89 (by decide) ?_
          refine kb_put X (C := RX6) (T := TX6) (N := 25) (ci := 6) (ty := .boolean) kw_iX6 tyX6 tyX6_ok nmX6 rfl 0 15 rfl (by decide) kf_X6_97 rfl rfl (by decide +kernel) rfl rfl (Nat.le_of_ble_eq_true rfl) dX6_number_93 (ws' := wR g a pe so ag fr np ns na nf sl ac ke le tx ((ap + 1) + 1) bg true se wh wo bl ck sw ma ro bs) rfl ?_
          refine kb_aload_n X 0 dX6_number_96 rfl rfl ?_
          refine kb_get (v := .int 1) (C := RX6) (T := TX6) (N := 25) (ci := 6) X kw_iX6 rfl 0 15 rfl (by decide) kf_X6_97 rfl rfl dX6_number_97 ?_
          refine kb_if_eq (tgt := 107) X dX6_number_100 (by decide) (fun q_ => absurd q_ (by decide)) (fun _ => ?_)
          refine kb_iconst (v := (0 : Int32)) X dX6_number_103 (by decide) ?_
          refine kb_goto (tgt := 108) X dX6_number_104 (by decide) ?_
          refine ke_i X Z dX6_number_108 ?_
          have e1_ : nD tx le ap = 2 := by simp [nD, fg, c1_, c7_, c16_, c17_]
          have e2_ : (wr || !nOk tx le ap lo hi) = true := by simp [nOk, nV, fg, c1_, c7_, c16_, c17_]
          rw [nE, e1_, e2_]
          exact ⟨rfl, rfl⟩
        · skip
          refine kb_iload X 4 dX6_number_65 rfl ?_
          refine kb_if_eq (tgt := 88) X dX6_number_67 (by decide) (fun q_ => absurd q_ (by decide)) (fun _ => ?_)
          refine kb_iload X 4 dX6_number_70 rfl ?_
          refine kb_iconst (v := (2 : Int32)) X dX6_number_72 (by decide) ?_
          refine kb_icmp_gt (tgt := 88) X dX6_number_73 (by decide) (fun q_ => absurd q_ (by decide)) (fun _ => ?_)
          refine kb_iload_n X 3 dX6_number_76 rfl rfl ?_
          refine kb_i2l (v := (nI (((10 * (((tx ap)) - 48)) + (tx (ap + 1))) - 48)).toInt64) X dX6_number_77 rfl ?_
          refine kb_iload_n X 1 dX6_number_78 rfl rfl ?_
          refine kb_i2l (v := lo.toInt64) X dX6_number_79 rfl ?_
          refine kb_iload_n X 2 dX6_number_80 rfl rfl ?_
          refine kb_i2l (v := hi.toInt64) X dX6_number_81 rfl ?_
          refine kc_Si X (As := [.long ((nI (((10 * (((tx ap)) - 48)) + (tx (ap + 1))) - 48)).toInt64), .long (lo.toInt64), .long (hi.toInt64)]) (rest := [.ref (a 0)]) (wr := (wR g a pe so ag fr np ns na nf sl ac ke le tx ((ap + 1) + 1) bg wr se wh wo bl ck sw ma ro bs)) (ct_X6_in l g ((nI (((10 * (((tx ap)) - 48)) + (tx (ap + 1))) - 48)).toInt64) lo.toInt64 hi.toInt64) dX6_number_82 rfl (List.Perm.refl _) mc_X6_in kl_X6_71 ms_X6_in kn_X6 (na := 3) (by decide +kernel) rfl ⟨Nat.le_of_ble_eq_true rfl, Nat.le_of_ble_eq_true rfl⟩ ⟨rfl, rfl⟩ ⟨Nat.le_of_ble_eq_true rfl, Nat.le_of_ble_eq_true rfl⟩ (Nat.le_of_ble_eq_true rfl) (fun r_ w_ hp_ => ?_)
          obtain ⟨rfl, rfl⟩ := hp_
          refine kw_ws (List.nil_append _) ?_
          refine kw_top (b := .int (zI (inr (nI (((10 * (((tx ap)) - 48)) + (tx (ap + 1))) - 48)) lo hi))) (congrArg (fun q => Value.int (zI q)) (lin_c rfl rfl)) ?_
          refine kz_if_ne (b := inr (nI (((10 * (((tx ap)) - 48)) + (tx (ap + 1))) - 48)) lo hi) (tgt := 92) X dX6_number_85 (by decide) (fun c21_ => ?_) (fun c21_ => ?_)
          · skip
            refine kb_iconst (v := (0 : Int32)) X dX6_number_92 (by decide) ?_
            refine kb_put X (C := RX6) (T := TX6) (N := 25) (ci := 6) (ty := .boolean) kw_iX6 tyX6 tyX6_ok nmX6 rfl 0 15 rfl (by decide) kf_X6_97 rfl rfl (by decide +kernel) rfl rfl (Nat.le_of_ble_eq_true rfl) dX6_number_93 (ws' := wR g a pe so ag fr np ns na nf sl ac ke le tx ((ap + 1) + 1) bg false se wh wo bl ck sw ma ro bs) rfl ?_
            refine kb_aload_n X 0 dX6_number_96 rfl rfl ?_
            refine kb_get (v := .int 0) (C := RX6) (T := TX6) (N := 25) (ci := 6) X kw_iX6 rfl 0 15 rfl (by decide) kf_X6_97 rfl rfl dX6_number_97 ?_
            refine kb_if_eq (tgt := 107) X dX6_number_100 (by decide) (fun _ => ?_) (fun q_ => absurd q_ (by decide))
            refine kb_iload_n X 3 dX6_number_107 rfl rfl ?_
            refine ke_i X Z dX6_number_108 ?_
            have e1_ : nD tx le ap = 2 := by simp [nD, fg, c1_, c7_, c16_, c17_, c21_]
            have e2_ : (wr || !nOk tx le ap lo hi) = false := by simp [nOk, nV, fg, c1_, c7_, c16_, c17_, c21_]
            rw [nE, e1_, e2_]
            exact ⟨by simp [nV, fg, c1_, c7_, c16_, c17_, c21_], rfl⟩
          · skip
            refine kb_iconst (v := (1 : Int32)) X dX6_number_88 (by decide) ?_
            refine kb_goto (tgt := 93) X dX6_number_89 (by decide) ?_
            refine kb_put X (C := RX6) (T := TX6) (N := 25) (ci := 6) (ty := .boolean) kw_iX6 tyX6 tyX6_ok nmX6 rfl 0 15 rfl (by decide) kf_X6_97 rfl rfl (by decide +kernel) rfl rfl (Nat.le_of_ble_eq_true rfl) dX6_number_93 (ws' := wR g a pe so ag fr np ns na nf sl ac ke le tx ((ap + 1) + 1) bg true se wh wo bl ck sw ma ro bs) rfl ?_
            refine kb_aload_n X 0 dX6_number_96 rfl rfl ?_
            refine kb_get (v := .int 1) (C := RX6) (T := TX6) (N := 25) (ci := 6) X kw_iX6 rfl 0 15 rfl (by decide) kf_X6_97 rfl rfl dX6_number_97 ?_
            refine kb_if_eq (tgt := 107) X dX6_number_100 (by decide) (fun q_ => absurd q_ (by decide)) (fun _ => ?_)
            refine kb_iconst (v := (0 : Int32)) X dX6_number_103 (by decide) ?_
            refine kb_goto (tgt := 108) X dX6_number_104 (by decide) ?_
            refine ke_i X Z dX6_number_108 ?_
            have e1_ : nD tx le ap = 2 := by simp [nD, fg, c1_, c7_, c16_, c17_, c21_]
            have e2_ : (wr || !nOk tx le ap lo hi) = true := by simp [nOk, nV, fg, c1_, c7_, c16_, c17_, c21_]
            rw [nE, e1_, e2_]
            exact ⟨rfl, rfl⟩
      · skip
        refine kb_iload X 4 dX6_number_22 rfl ?_
        refine kb_iconst (v := (3 : Int32)) X dX6_number_24 (by decide) ?_
        refine kb_icmp_ge (tgt := 57) X dX6_number_25 (by decide) (fun q_ => absurd q_ (by decide)) (fun _ => ?_)
        refine kb_bipush (v := (10 : Int32)) X dX6_number_28 (by decide) ?_
        refine kb_iload_n X 3 dX6_number_30 rfl rfl ?_
        refine kn_imul X 10 (((10 * (((tx ap)) - 48)) + (tx (ap + 1))) - 48) dX6_number_31 ?_
        refine kb_aload_n X 0 dX6_number_32 rfl rfl ?_
        refine kc_Vi X (As := []) (rest := [.int (nI (10 * (((10 * (((tx ap)) - 48)) + (tx (ap + 1))) - 48)))]) (wr := []) (ct_X6_next l g a pe so ag fr np ns na nf sl ac ke le tx ((ap + 1) + 1) bg wr se wh wo bl ck sw ma ro bs hle (by omega)) dX6_number_33 rfl (kw_pall _) mc_X6_next kl_X6_89 mi_X6_next mv_X6_next kn_X6 0 rfl rfl rfl (na := 0) (by decide +kernel) rfl ⟨Nat.le_of_ble_eq_true rfl, Nat.le_of_ble_eq_true rfl⟩ ⟨rfl, rfl⟩ ⟨Nat.le_of_ble_eq_true rfl, Nat.le_of_ble_eq_true rfl⟩ (Nat.le_of_ble_eq_true rfl) (fun r_ w_ hp_ => ?_)
        obtain ⟨rfl, rfl⟩ := hp_
        refine kw_ws (List.append_nil _) ?_
        obtain ⟨hl_, h48_, h57_⟩ := fg_t (p := ((ap + 1) + 1)) htx (by assumption)
        refine kw_top (b := .int (nI (tx ((ap + 1) + 1)))) (by rw [rCh, if_pos hl_]) ?_
        refine kn_iadd X (10 * (((10 * (((tx ap)) - 48)) + (tx (ap + 1))) - 48)) (tx ((ap + 1) + 1)) dX6_number_36 ?_
        refine kb_bipush (v := (48 : Int32)) X dX6_number_37 (by decide) ?_
        refine kn_isub X ((10 * (((10 * (((tx ap)) - 48)) + (tx (ap + 1))) - 48)) + (tx ((ap + 1) + 1))) 48 (by omega) dX6_number_39 ?_
        refine kb_istore_n X [1, 2, 3, 0, 4] dX6_number_40 rfl (by decide) (lv' := [(0, .ref (a 0)), (1, .int (lo)), (2, .int (hi)), (3, .int (nI (((10 * (((10 * (((tx ap)) - 48)) + (tx (ap + 1))) - 48)) + (tx ((ap + 1) + 1))) - 48))), (4, .int 2)]) rfl ?_
        refine kb_iinc X 4 [1, 2, 3, 4, 0] (v' := (3 : Int32)) dX6_number_41 rfl (by decide) (by decide) (lv' := [(0, .ref (a 0)), (1, .int (lo)), (2, .int (hi)), (3, .int (nI (((10 * (((10 * (((tx ap)) - 48)) + (tx (ap + 1))) - 48)) + (tx ((ap + 1) + 1))) - 48))), (4, .int 3)]) rfl ?_
        refine kb_aload_n X 0 dX6_number_44 rfl rfl ?_
        refine kb_dup X dX6_number_45 rfl ?_
        refine kb_get (v := .int (nI ((ap + 1) + 1))) (C := RX6) (T := TX6) (N := 25) (ci := 6) X kw_iX6 rfl 0 13 rfl (by decide) kf_X6_86 rfl rfl dX6_number_46 ?_
        refine kb_iconst (v := (1 : Int32)) X dX6_number_49 (by decide) ?_
        refine kn_iadd X ((ap + 1) + 1) 1 dX6_number_50 ?_
        refine kb_put X (C := RX6) (T := TX6) (N := 25) (ci := 6) (ty := .int) kw_iX6 tyX6 tyX6_ok nmX6 rfl 0 13 rfl (by decide) kf_X6_86 rfl rfl (by decide +kernel) rfl rfl (Nat.le_of_ble_eq_true rfl) dX6_number_51 (ws' := wR g a pe so ag fr np ns na nf sl ac ke le tx (((ap + 1) + 1) + 1) bg wr se wh wo bl ck sw ma ro bs) rfl ?_
        refine kb_goto (tgt := 5) X dX6_number_54 (by decide) ?_
        refine kb_aload_n X 0 dX6_number_5 rfl rfl ?_
        refine kc_Vi X (As := []) (rest := []) (wr := []) (ct_X6_next l g a pe so ag fr np ns na nf sl ac ke le tx (((ap + 1) + 1) + 1) bg wr se wh wo bl ck sw ma ro bs hle (by omega)) dX6_number_6 rfl (kw_pall _) mc_X6_next kl_X6_89 mi_X6_next mv_X6_next kn_X6 0 rfl rfl rfl (na := 0) (by decide +kernel) rfl ⟨Nat.le_of_ble_eq_true rfl, Nat.le_of_ble_eq_true rfl⟩ ⟨rfl, rfl⟩ ⟨Nat.le_of_ble_eq_true rfl, Nat.le_of_ble_eq_true rfl⟩ (Nat.le_of_ble_eq_true rfl) (fun r_ w_ hp_ => ?_)
        obtain ⟨rfl, rfl⟩ := hp_
        refine kw_ws (List.append_nil _) ?_
        refine kb_i2l (v := (rCh tx le (((ap + 1) + 1) + 1)).toInt64) X dX6_number_9 rfl ?_
        refine kb_ldc2 X kk_X6_93 dX6_number_10 ?_
        refine kb_ldc2 X kk_X6_95 dX6_number_13 ?_
        refine kc_Si X (As := [.long ((rCh tx le (((ap + 1) + 1) + 1)).toInt64), .long ((48 : Int64)), .long ((57 : Int64))]) (rest := []) (wr := (wR g a pe so ag fr np ns na nf sl ac ke le tx (((ap + 1) + 1) + 1) bg wr se wh wo bl ck sw ma ro bs)) (ct_X6_in l g ((rCh tx le (((ap + 1) + 1) + 1)).toInt64) (48 : Int64) (57 : Int64)) dX6_number_16 rfl (List.Perm.refl _) mc_X6_in kl_X6_71 ms_X6_in kn_X6 (na := 3) (by decide +kernel) rfl ⟨Nat.le_of_ble_eq_true rfl, Nat.le_of_ble_eq_true rfl⟩ ⟨rfl, rfl⟩ ⟨Nat.le_of_ble_eq_true rfl, Nat.le_of_ble_eq_true rfl⟩ (Nat.le_of_ble_eq_true rfl) (fun r_ w_ hp_ => ?_)
        obtain ⟨rfl, rfl⟩ := hp_
        refine kw_ws (List.nil_append _) ?_
        refine kw_top (b := .int (zI (inr (rCh tx le (((ap + 1) + 1) + 1)) (48 : Int32) (57 : Int32)))) (congrArg (fun q => Value.int (zI q)) (lin_c (by decide) (by decide))) ?_
        refine kz_if_eq (b := inr (rCh tx le (((ap + 1) + 1) + 1)) (48 : Int32) (57 : Int32)) (tgt := 57) X dX6_number_19 (by decide) (fun c25_ => ?_) (fun c25_ => ?_)
        · skip
          refine kb_aload_n X 0 dX6_number_57 rfl rfl ?_
          refine kb_aload_n X 0 dX6_number_58 rfl rfl ?_
          refine kb_get (v := .int (zI (wr))) (C := RX6) (T := TX6) (N := 25) (ci := 6) X kw_iX6 rfl 0 15 rfl (by decide) kf_X6_97 rfl rfl dX6_number_59 ?_
          refine kz_if_ne (b := wr) (tgt := 88) X dX6_number_62 (by decide) (fun c26_ => ?_) (fun c26_ => ?_)
          · skip
            refine kb_iconst (v := (1 : Int32)) X dX6_number_88 (by decide) ?_
            refine kb_goto (tgt := 93) X dX6_number_89 (by decide) ?_
            refine kb_put X (C := RX6) (T := TX6) (N := 25) (ci := 6) (ty := .boolean) kw_iX6 tyX6 tyX6_ok nmX6 rfl 0 15 rfl (by decide) kf_X6_97 rfl rfl (by decide +kernel) rfl rfl (Nat.le_of_ble_eq_true rfl) dX6_number_93 (ws' := wR g a pe so ag fr np ns na nf sl ac ke le tx (((ap + 1) + 1) + 1) bg true se wh wo bl ck sw ma ro bs) rfl ?_
            refine kb_aload_n X 0 dX6_number_96 rfl rfl ?_
            refine kb_get (v := .int 1) (C := RX6) (T := TX6) (N := 25) (ci := 6) X kw_iX6 rfl 0 15 rfl (by decide) kf_X6_97 rfl rfl dX6_number_97 ?_
            refine kb_if_eq (tgt := 107) X dX6_number_100 (by decide) (fun q_ => absurd q_ (by decide)) (fun _ => ?_)
            refine kb_iconst (v := (0 : Int32)) X dX6_number_103 (by decide) ?_
            refine kb_goto (tgt := 108) X dX6_number_104 (by decide) ?_
            refine ke_i X Z dX6_number_108 ?_
            have e1_ : nD tx le ap = 3 := by simp [nD, fg, c1_, c7_, c16_, c25_, c26_]
            have e2_ : (wr || !nOk tx le ap lo hi) = true := by simp [nOk, nV, fg, c1_, c7_, c16_, c25_, c26_]
            rw [nE, e1_, e2_]
            exact ⟨rfl, rfl⟩
          · skip
            refine kb_iload X 4 dX6_number_65 rfl ?_
            refine kb_if_eq (tgt := 88) X dX6_number_67 (by decide) (fun q_ => absurd q_ (by decide)) (fun _ => ?_)
            refine kb_iload X 4 dX6_number_70 rfl ?_
            refine kb_iconst (v := (2 : Int32)) X dX6_number_72 (by decide) ?_
            refine kb_icmp_gt (tgt := 88) X dX6_number_73 (by decide) (fun _ => ?_) (fun q_ => absurd q_ (by decide))
            refine kb_iconst (v := (1 : Int32)) X dX6_number_88 (by decide) ?_
            refine kb_goto (tgt := 93) X dX6_number_89 (by decide) ?_
            refine kb_put X (C := RX6) (T := TX6) (N := 25) (ci := 6) (ty := .boolean) kw_iX6 tyX6 tyX6_ok nmX6 rfl 0 15 rfl (by decide) kf_X6_97 rfl rfl (by decide +kernel) rfl rfl (Nat.le_of_ble_eq_true rfl) dX6_number_93 (ws' := wR g a pe so ag fr np ns na nf sl ac ke le tx (((ap + 1) + 1) + 1) bg true se wh wo bl ck sw ma ro bs) rfl ?_
            refine kb_aload_n X 0 dX6_number_96 rfl rfl ?_
            refine kb_get (v := .int 1) (C := RX6) (T := TX6) (N := 25) (ci := 6) X kw_iX6 rfl 0 15 rfl (by decide) kf_X6_97 rfl rfl dX6_number_97 ?_
            refine kb_if_eq (tgt := 107) X dX6_number_100 (by decide) (fun q_ => absurd q_ (by decide)) (fun _ => ?_)
            refine kb_iconst (v := (0 : Int32)) X dX6_number_103 (by decide) ?_
            refine kb_goto (tgt := 108) X dX6_number_104 (by decide) ?_
            refine ke_i X Z dX6_number_108 ?_
            have e1_ : nD tx le ap = 3 := by simp [nD, fg, c1_, c7_, c16_, c25_, c26_]
            have e2_ : (wr || !nOk tx le ap lo hi) = true := by simp [nOk, nV, fg, c1_, c7_, c16_, c25_, c26_]
            rw [nE, e1_, e2_]
            exact ⟨rfl, rfl⟩
        · skip
          refine kb_iload X 4 dX6_number_22 rfl ?_
          refine kb_iconst (v := (3 : Int32)) X dX6_number_24 (by decide) ?_
          refine kb_icmp_ge (tgt := 57) X dX6_number_25 (by decide) (fun _ => ?_) (fun q_ => absurd q_ (by decide))
          refine kb_aload_n X 0 dX6_number_57 rfl rfl ?_
          refine kb_aload_n X 0 dX6_number_58 rfl rfl ?_
          refine kb_get (v := .int (zI (wr))) (C := RX6) (T := TX6) (N := 25) (ci := 6) X kw_iX6 rfl 0 15 rfl (by decide) kf_X6_97 rfl rfl dX6_number_59 ?_
          refine kz_if_ne (b := wr) (tgt := 88) X dX6_number_62 (by decide) (fun c32_ => ?_) (fun c32_ => ?_)
          · skip
            refine kb_iconst (v := (1 : Int32)) X dX6_number_88 (by decide) ?_
            refine kb_goto (tgt := 93) X dX6_number_89 (by decide) ?_
            refine kb_put X (C := RX6) (T := TX6) (N := 25) (ci := 6) (ty := .boolean) kw_iX6 tyX6 tyX6_ok nmX6 rfl 0 15 rfl (by decide) kf_X6_97 rfl rfl (by decide +kernel) rfl rfl (Nat.le_of_ble_eq_true rfl) dX6_number_93 (ws' := wR g a pe so ag fr np ns na nf sl ac ke le tx (((ap + 1) + 1) + 1) bg true se wh wo bl ck sw ma ro bs) rfl ?_
            refine kb_aload_n X 0 dX6_number_96 rfl rfl ?_
            refine kb_get (v := .int 1) (C := RX6) (T := TX6) (N := 25) (ci := 6) X kw_iX6 rfl 0 15 rfl (by decide) kf_X6_97 rfl rfl dX6_number_97 ?_
            refine kb_if_eq (tgt := 107) X dX6_number_100 (by decide) (fun q_ => absurd q_ (by decide)) (fun _ => ?_)
            refine kb_iconst (v := (0 : Int32)) X dX6_number_103 (by decide) ?_
            refine kb_goto (tgt := 108) X dX6_number_104 (by decide) ?_
            refine ke_i X Z dX6_number_108 ?_
            have e1_ : nD tx le ap = 3 := by simp [nD, fg, c1_, c7_, c16_, c25_, c32_]
            have e2_ : (wr || !nOk tx le ap lo hi) = true := by simp [nOk, nV, fg, c1_, c7_, c16_, c25_, c32_]
            rw [nE, e1_, e2_]
            exact ⟨rfl, rfl⟩
          · skip
            refine kb_iload X 4 dX6_number_65 rfl ?_
            refine kb_if_eq (tgt := 88) X dX6_number_67 (by decide) (fun q_ => absurd q_ (by decide)) (fun _ => ?_)
            refine kb_iload X 4 dX6_number_70 rfl ?_
            refine kb_iconst (v := (2 : Int32)) X dX6_number_72 (by decide) ?_
            refine kb_icmp_gt (tgt := 88) X dX6_number_73 (by decide) (fun _ => ?_) (fun q_ => absurd q_ (by decide))
            refine kb_iconst (v := (1 : Int32)) X dX6_number_88 (by decide) ?_
            refine kb_goto (tgt := 93) X dX6_number_89 (by decide) ?_
            refine kb_put X (C := RX6) (T := TX6) (N := 25) (ci := 6) (ty := .boolean) kw_iX6 tyX6 tyX6_ok nmX6 rfl 0 15 rfl (by decide) kf_X6_97 rfl rfl (by decide +kernel) rfl rfl (Nat.le_of_ble_eq_true rfl) dX6_number_93 (ws' := wR g a pe so ag fr np ns na nf sl ac ke le tx (((ap + 1) + 1) + 1) bg true se wh wo bl ck sw ma ro bs) rfl ?_
            refine kb_aload_n X 0 dX6_number_96 rfl rfl ?_
            refine kb_get (v := .int 1) (C := RX6) (T := TX6) (N := 25) (ci := 6) X kw_iX6 rfl 0 15 rfl (by decide) kf_X6_97 rfl rfl dX6_number_97 ?_
            refine kb_if_eq (tgt := 107) X dX6_number_100 (by decide) (fun q_ => absurd q_ (by decide)) (fun _ => ?_)
            refine kb_iconst (v := (0 : Int32)) X dX6_number_103 (by decide) ?_
            refine kb_goto (tgt := 108) X dX6_number_104 (by decide) ?_
            refine ke_i X Z dX6_number_108 ?_
            have e1_ : nD tx le ap = 3 := by simp [nD, fg, c1_, c7_, c16_, c25_, c32_]
            have e2_ : (wr || !nOk tx le ap lo hi) = true := by simp [nOk, nV, fg, c1_, c7_, c16_, c25_, c32_]
            rw [nE, e1_, e2_]
            exact ⟨rfl, rfl⟩

set_option maxHeartbeats 4000000 in
set_option maxRecDepth 100000 in
theorem ct_X6_more (l : Launch) (g : kw_G) (a : Nat → Nat) (pe : Nat) (so : Nat → Int32) (ag : Nat → Int32) (fr : Int32) (np : Nat) (ns : Nat → Int32) (na : Nat → Int32) (nf : Int32) (sl : Nat → Int32) (ac : Nat) (ke : Nat) (le : Nat) (tx : Nat → Nat) (ap : Nat) (bg : Nat) (wr : Bool) (se : Nat) (wh : Nat → Nat) (wo : Nat → Nat) (bl : Nat → Int32) (ck : Nat → Int32) (sw : Nat → Bool) (ma : Nat) (ro : Nat → Nat) (bs : Nat → Nat) (hle : le ≤ 200) (hap : ap ≤ 900) (htx : ∀ k, k < le → tx k < 128) (lo hi : Int32) : kMi l g yX6_more cX6_more 3 .int (kw_rm 3 0 0) 0 0 [.ref (a 0), .int (lo), .int (hi)] (wR g a pe so ag fr np ns na nf sl ac ke le tx ap bg wr se wh wo bl ck sw ma ro bs) (fun r w => r = (if moW tx le wr ap lo hi = true then 0 else nI (nV tx le (ap + 1))) ∧ w = wR g a pe so ag fr np ns na nf sl ac ke le tx (moP tx le wr ap) bg (moW tx le wr ap lo hi) se wh wo bl ck sw ma ro bs) := by
  refine kMi_of (by decide +kernel) (Nat.le_of_ble_eq_true rfl) (fun x (X : kX l g RX6 cX6_more 3 (kw_rm 3 0 0) x) (Z : kZi .int _ 0 0 x) => ?_)
  show kW x 0 0 0 [(0, .ref (a 0)), (1, .int (lo)), (2, .int (hi))] [] (wR g a pe so ag fr np ns na nf sl ac ke le tx ap bg wr se wh wo bl ck sw ma ro bs)
  refine kb_aload_n X 0 dX6_more_0 rfl rfl ?_
  refine kb_aload_n X 0 dX6_more_1 rfl rfl ?_
  refine kb_get (v := .int (zI (wr))) (C := RX6) (T := TX6) (N := 25) (ci := 6) X kw_iX6 rfl 0 15 rfl (by decide) kf_X6_97 rfl rfl dX6_more_2 ?_
  refine kz_if_ne (b := wr) (tgt := 17) X dX6_more_5 (by decide) (fun c1_ => ?_) (fun c1_ => ?_)
  · skip
    refine kb_iconst (v := (1 : Int32)) X dX6_more_17 (by decide) ?_
    refine kb_goto (tgt := 22) X dX6_more_18 (by decide) ?_
    refine kb_put X (C := RX6) (T := TX6) (N := 25) (ci := 6) (ty := .boolean) kw_iX6 tyX6 tyX6_ok nmX6 rfl 0 15 rfl (by decide) kf_X6_97 rfl rfl (by decide +kernel) rfl rfl (Nat.le_of_ble_eq_true rfl) dX6_more_22 (ws' := wR g a pe so ag fr np ns na nf sl ac ke le tx ap bg true se wh wo bl ck sw ma ro bs) rfl ?_
    refine kb_aload_n X 0 dX6_more_25 rfl rfl ?_
    refine kb_dup X dX6_more_26 rfl ?_
    refine kb_get (v := .int (nI (ap))) (C := RX6) (T := TX6) (N := 25) (ci := 6) X kw_iX6 rfl 0 13 rfl (by decide) kf_X6_86 rfl rfl dX6_more_27 ?_
    refine kb_iconst (v := (1 : Int32)) X dX6_more_30 (by decide) ?_
    refine kn_iadd X ap 1 dX6_more_31 ?_
    refine kb_put X (C := RX6) (T := TX6) (N := 25) (ci := 6) (ty := .int) kw_iX6 tyX6 tyX6_ok nmX6 rfl 0 13 rfl (by decide) kf_X6_86 rfl rfl (by decide +kernel) rfl rfl (Nat.le_of_ble_eq_true rfl) dX6_more_32 (ws' := wR g a pe so ag fr np ns na nf sl ac ke le tx (ap + 1) bg true se wh wo bl ck sw ma ro bs) rfl ?_
    refine kb_aload_n X 0 dX6_more_35 rfl rfl ?_
    refine kb_get (v := .int 1) (C := RX6) (T := TX6) (N := 25) (ci := 6) X kw_iX6 rfl 0 15 rfl (by decide) kf_X6_97 rfl rfl dX6_more_36 ?_
    refine kb_if_eq (tgt := 46) X dX6_more_39 (by decide) (fun q_ => absurd q_ (by decide)) (fun _ => ?_)
    refine kb_iconst (v := (0 : Int32)) X dX6_more_42 (by decide) ?_
    refine kb_goto (tgt := 52) X dX6_more_43 (by decide) ?_
    refine ke_i X Z dX6_more_52 ?_
    have e1_ : moW tx le wr ap lo hi = true := by simp [moW, isC, c1_]
    have e2_ : moP tx le wr ap = ap + 1 := by simp [moP, isC, c1_]
    rw [e1_, e2_]
    exact ⟨rfl, rfl⟩
  · skip
    refine kb_aload_n X 0 dX6_more_8 rfl rfl ?_
    refine kc_Vi X (As := []) (rest := [.ref (a 0)]) (wr := []) (ct_X6_next l g a pe so ag fr np ns na nf sl ac ke le tx ap bg wr se wh wo bl ck sw ma ro bs hle (by omega)) dX6_more_9 rfl (kw_pall _) mc_X6_next kl_X6_89 mi_X6_next mv_X6_next kn_X6 0 rfl rfl rfl (na := 0) (by decide +kernel) rfl ⟨Nat.le_of_ble_eq_true rfl, Nat.le_of_ble_eq_true rfl⟩ ⟨rfl, rfl⟩ ⟨Nat.le_of_ble_eq_true rfl, Nat.le_of_ble_eq_true rfl⟩ (Nat.le_of_ble_eq_true rfl) (fun r_ w_ hp_ => ?_)
    obtain ⟨rfl, rfl⟩ := hp_
    refine kw_ws (List.append_nil _) ?_
    refine kb_bipush (v := (44 : Int32)) X dX6_more_12 (by decide) ?_
    refine kb_icmp_eq (tgt := 21) X dX6_more_14 (by decide) (fun c3_ => ?_) (fun c3_ => ?_)
    · skip
      refine kb_iconst (v := (0 : Int32)) X dX6_more_21 (by decide) ?_
      refine kb_put X (C := RX6) (T := TX6) (N := 25) (ci := 6) (ty := .boolean) kw_iX6 tyX6 tyX6_ok nmX6 rfl 0 15 rfl (by decide) kf_X6_97 rfl rfl (by decide +kernel) rfl rfl (Nat.le_of_ble_eq_true rfl) dX6_more_22 (ws' := wR g a pe so ag fr np ns na nf sl ac ke le tx ap bg false se wh wo bl ck sw ma ro bs) rfl ?_
      refine kb_aload_n X 0 dX6_more_25 rfl rfl ?_
      refine kb_dup X dX6_more_26 rfl ?_
      refine kb_get (v := .int (nI (ap))) (C := RX6) (T := TX6) (N := 25) (ci := 6) X kw_iX6 rfl 0 13 rfl (by decide) kf_X6_86 rfl rfl dX6_more_27 ?_
      refine kb_iconst (v := (1 : Int32)) X dX6_more_30 (by decide) ?_
      refine kn_iadd X ap 1 dX6_more_31 ?_
      refine kb_put X (C := RX6) (T := TX6) (N := 25) (ci := 6) (ty := .int) kw_iX6 tyX6 tyX6_ok nmX6 rfl 0 13 rfl (by decide) kf_X6_86 rfl rfl (by decide +kernel) rfl rfl (Nat.le_of_ble_eq_true rfl) dX6_more_32 (ws' := wR g a pe so ag fr np ns na nf sl ac ke le tx (ap + 1) bg false se wh wo bl ck sw ma ro bs) rfl ?_
      refine kb_aload_n X 0 dX6_more_35 rfl rfl ?_
      refine kb_get (v := .int 0) (C := RX6) (T := TX6) (N := 25) (ci := 6) X kw_iX6 rfl 0 15 rfl (by decide) kf_X6_97 rfl rfl dX6_more_36 ?_
      refine kb_if_eq (tgt := 46) X dX6_more_39 (by decide) (fun _ => ?_) (fun q_ => absurd q_ (by decide))
      refine kb_aload_n X 0 dX6_more_46 rfl rfl ?_
      refine kb_iload_n X 1 dX6_more_47 rfl rfl ?_
      refine kb_iload_n X 2 dX6_more_48 rfl rfl ?_
      refine kc_Vi X (As := [.int (lo), .int (hi)]) (rest := []) (wr := []) (ct_X6_number l g a pe so ag fr np ns na nf sl ac ke le tx (ap + 1) bg false se wh wo bl ck sw ma ro bs hle (by omega) htx lo hi) dX6_more_49 rfl (kw_pall _) mc_X6_number kl_X6_101 mi_X6_number mv_X6_number kn_X6 0 rfl rfl rfl (na := 2) (by decide +kernel) rfl ⟨Nat.le_of_ble_eq_true rfl, Nat.le_of_ble_eq_true rfl⟩ ⟨rfl, rfl⟩ ⟨Nat.le_of_ble_eq_true rfl, Nat.le_of_ble_eq_true rfl⟩ (Nat.le_of_ble_eq_true rfl) (fun r_ w_ hp_ => ?_)
      rw [Bool.false_or] at hp_
      obtain ⟨rfl, rfl⟩ := hp_
      refine kw_ws (List.append_nil _) ?_
      refine ke_i X Z dX6_more_52 ?_
      have e1_ : moW tx le wr ap lo hi = (!nOk tx le (ap + 1) lo hi) := by simp [moW, isC, c1_, c3_]
      have e2_ : moP tx le wr ap = nE tx le (ap + 1) := by simp [moP, isC, c1_, c3_]
      rw [e1_, e2_]
      exact ⟨rfl, rfl⟩
    · skip
      refine kb_iconst (v := (1 : Int32)) X dX6_more_17 (by decide) ?_
      refine kb_goto (tgt := 22) X dX6_more_18 (by decide) ?_
      refine kb_put X (C := RX6) (T := TX6) (N := 25) (ci := 6) (ty := .boolean) kw_iX6 tyX6 tyX6_ok nmX6 rfl 0 15 rfl (by decide) kf_X6_97 rfl rfl (by decide +kernel) rfl rfl (Nat.le_of_ble_eq_true rfl) dX6_more_22 (ws' := wR g a pe so ag fr np ns na nf sl ac ke le tx ap bg true se wh wo bl ck sw ma ro bs) rfl ?_
      refine kb_aload_n X 0 dX6_more_25 rfl rfl ?_
      refine kb_dup X dX6_more_26 rfl ?_
      refine kb_get (v := .int (nI (ap))) (C := RX6) (T := TX6) (N := 25) (ci := 6) X kw_iX6 rfl 0 13 rfl (by decide) kf_X6_86 rfl rfl dX6_more_27 ?_
      refine kb_iconst (v := (1 : Int32)) X dX6_more_30 (by decide) ?_
      refine kn_iadd X ap 1 dX6_more_31 ?_
      refine kb_put X (C := RX6) (T := TX6) (N := 25) (ci := 6) (ty := .int) kw_iX6 tyX6 tyX6_ok nmX6 rfl 0 13 rfl (by decide) kf_X6_86 rfl rfl (by decide +kernel) rfl rfl (Nat.le_of_ble_eq_true rfl) dX6_more_32 (ws' := wR g a pe so ag fr np ns na nf sl ac ke le tx (ap + 1) bg true se wh wo bl ck sw ma ro bs) rfl ?_
      refine kb_aload_n X 0 dX6_more_35 rfl rfl ?_
      refine kb_get (v := .int 1) (C := RX6) (T := TX6) (N := 25) (ci := 6) X kw_iX6 rfl 0 15 rfl (by decide) kf_X6_97 rfl rfl dX6_more_36 ?_
      refine kb_if_eq (tgt := 46) X dX6_more_39 (by decide) (fun q_ => absurd q_ (by decide)) (fun _ => ?_)
      refine kb_iconst (v := (0 : Int32)) X dX6_more_42 (by decide) ?_
      refine kb_goto (tgt := 52) X dX6_more_43 (by decide) ?_
      refine ke_i X Z dX6_more_52 ?_
      have e1_ : moW tx le wr ap lo hi = true := by simp [moW, isC, c1_, c3_]
      have e2_ : moP tx le wr ap = ap + 1 := by simp [moP, isC, c1_, c3_]
      rw [e1_, e2_]
      exact ⟨rfl, rfl⟩

