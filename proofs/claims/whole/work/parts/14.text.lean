set_option maxHeartbeats 4000000 in
set_option maxRecDepth 100000 in
theorem ct_X3_isFull (l : Launch) (g : kw_G) (a : Nat → Nat) (t : TS) (ht : TSI t) : kMi l g yX3_isFull cX3_isFull 1 .boolean (kw_rm 1 0 0) 0 0 [.ref (a 0)] (wT g a t) (fun r w => r = zI (decide (200 ≤ tN t)) ∧ w = wT g a t) := by
  refine kMi_of (by decide +kernel) (Nat.le_of_ble_eq_true rfl) (fun x (X : kX l g RX3 cX3_isFull 1 (kw_rm 1 0 0) x) (Z : kZi .boolean _ 0 0 x) => ?_)
  show kW x 0 0 0 [(0, .ref (a 0))] [] (wT g a t)
  have h2 := ht.1
  refine kb_aload_n X 0 dX3_isFull_0 rfl rfl ?_
  refine kb_get (v := .int (nI (tN t))) (C := RX3) (T := TX3) (N := 4) (ci := 3) X kw_iX3 rfl 0 2 rfl (by decide) kf_X3_19 rfl rfl dX3_isFull_1 ?_
  refine kb_sipush (v := (200 : Int32)) X dX3_isFull_4 (by decide) ?_
  refine kn_icmp_lt (a := tN t) (b := 200) (tgt := 14) X (by omega) (by omega) dX3_isFull_7 (by decide) (fun c1_ => ?_) (fun c1_ => ?_)
  · skip
    refine kb_iconst (v := (0 : Int32)) X dX3_isFull_14 (by decide) ?_
    refine ke_z X Z rfl dX3_isFull_15 ?_
    exact ⟨(by first | rfl | (simp [zI, c1_]; done) | (simp [zI, c1_] <;> omega) | (simp_all [zI, c1_]; done)), (by first | rfl | (simp [zI, c1_]; done) | (simp [zI, c1_] <;> omega) | (simp_all [zI, c1_]; done))⟩
  · skip
    refine kb_iconst (v := (1 : Int32)) X dX3_isFull_10 (by decide) ?_
    refine kb_goto (tgt := 15) X dX3_isFull_11 (by decide) ?_
    refine ke_z X Z rfl dX3_isFull_15 ?_
    exact ⟨(by first | rfl | (simp [zI, c1_]; done) | (simp [zI, c1_] <;> omega) | (simp_all [zI, c1_]; done)), (by first | rfl | (simp [zI, c1_]; done) | (simp [zI, c1_] <;> omega) | (simp_all [zI, c1_]; done))⟩

set_option maxHeartbeats 4000000 in
set_option maxRecDepth 100000 in
theorem ct_X3_append (l : Launch) (g : kw_G) (a : Nat → Nat) (t : TS) (ht : TSI t) (c : Nat) (hc : c < 128) : kMv l g yX3_append cX3_append 2 (kw_rm 2 0 0) 0 0 [.ref (a 0), .int (nI (c))] (wT g a t) (fun w => w = wT g a (if 200 ≤ tN t then t else sTn (sL t (va_up (tL t) (tN t) c)) (tN t + 1))) := by
  refine kMv_of (by decide +kernel) (Nat.le_of_ble_eq_true rfl) (fun x (X : kX l g RX3 cX3_append 2 (kw_rm 2 0 0) x) (Z : kZv _ 0 0 x) => ?_)
  show kW x 0 0 0 [(0, .ref (a 0)), (1, .int (nI (c)))] [] (wT g a t)
  have h2 := ht.1
  refine kb_aload_n X 0 dX3_append_0 rfl rfl ?_
  refine kc_Vi X (As := []) (rest := []) (wr := []) (ct_X3_isFull l g a t ht  ) dX3_append_1 rfl (kw_pall _) mc_X3_isFull kl_X3_26 mi_X3_isFull mv_X3_isFull kn_X3 0 rfl rfl rfl (na := 0) (by decide +kernel) rfl ⟨Nat.le_of_ble_eq_true rfl, Nat.le_of_ble_eq_true rfl⟩ ⟨rfl, rfl⟩ ⟨Nat.le_of_ble_eq_true rfl, Nat.le_of_ble_eq_true rfl⟩ (Nat.le_of_ble_eq_true rfl) (fun r_ w_ hp_ => ?_)
  obtain ⟨rfl, rfl⟩ := hp_
  refine kw_ws (List.append_nil _) ?_
  refine kz_if_eq (b := decide (200 ≤ tN t)) (tgt := 8) X dX3_append_4 (by decide) (fun c1_ => ?_) (fun c1_ => ?_)
  · skip
    have q_ : ¬ 200 ≤ tN t := of_decide_eq_false c1_
    refine kb_aload_n X 0 dX3_append_8 rfl rfl ?_
    refine kb_get (v := .ref (a 1)) (C := RX3) (T := TX3) (N := 4) (ci := 3) X kw_iX3 rfl 0 0 rfl (by decide) kf_X3_9 rfl rfl dX3_append_9 ?_
    refine kb_aload_n X 0 dX3_append_12 rfl rfl ?_
    refine kb_get (v := .int (nI (tN t))) (C := RX3) (T := TX3) (N := 4) (ci := 3) X kw_iX3 rfl 0 2 rfl (by decide) kf_X3_19 rfl rfl dX3_append_13 ?_
    refine kb_iload_n X 1 dX3_append_16 rfl rfl ?_
    refine kb_cast (i := tN t) X 1 rfl (by omega) (by decide) dX3_append_17 (ws' := wT g a (sL t (va_up (tL t) (tN t) c))) (wT_putL _ _ _ _ _ (by omega)) ?_
    refine kb_aload_n X 0 dX3_append_18 rfl rfl ?_
    refine kb_dup X dX3_append_19 rfl ?_
    refine kb_get (v := .int (nI (tN t))) (C := RX3) (T := TX3) (N := 4) (ci := 3) X kw_iX3 rfl 0 2 rfl (by decide) kf_X3_19 rfl rfl dX3_append_20 ?_
    refine kb_iconst (v := (1 : Int32)) X dX3_append_23 (by decide) ?_
    refine kn_iadd X (tN t) 1 dX3_append_24 ?_
    refine kb_put X (C := RX3) (T := TX3) (N := 4) (ci := 3) (ty := .int) kw_iX3 tyX3 tyX3_ok nmX3 rfl 0 2 rfl (by decide) kf_X3_19 rfl rfl (by decide +kernel) rfl rfl (Nat.le_of_ble_eq_true rfl) dX3_append_25 (ws' := wT g a (sTn (sL t (va_up (tL t) (tN t) c)) ((tN t) + 1))) rfl ?_
    refine ke_v X Z dX3_append_28 ?_
    exact (by rw [if_neg (by omega)])
  · skip
    have q_ : 200 ≤ tN t := of_decide_eq_true c1_
    refine ke_v X Z dX3_append_7 ?_
    exact (by rw [if_pos (by omega)])

set_option maxHeartbeats 4000000 in
set_option maxRecDepth 100000 in
theorem ct_X3_clear (l : Launch) (g : kw_G) (a : Nat → Nat) (t : TS) : kMv l g yX3_clear cX3_clear 1 (kw_rm 1 0 0) 0 0 [.ref (a 0)] (wT g a t) (fun w => w = wT g a (sTn t 0)) := by
  refine kMv_of (by decide +kernel) (Nat.le_of_ble_eq_true rfl) (fun x (X : kX l g RX3 cX3_clear 1 (kw_rm 1 0 0) x) (Z : kZv _ 0 0 x) => ?_)
  show kW x 0 0 0 [(0, .ref (a 0))] [] (wT g a t)
  refine kb_aload_n X 0 dX3_clear_0 rfl rfl ?_
  refine kb_iconst (v := (0 : Int32)) X dX3_clear_1 (by decide) ?_
  refine kb_put X (C := RX3) (T := TX3) (N := 4) (ci := 3) (ty := .int) kw_iX3 tyX3 tyX3_ok nmX3 rfl 0 2 rfl (by decide) kf_X3_19 rfl rfl (by decide +kernel) rfl rfl (Nat.le_of_ble_eq_true rfl) dX3_clear_2 (ws' := wT g a (sTn t 0)) rfl ?_
  refine ke_v X Z dX3_clear_5 ?_
  exact (by first | rfl | (simp [zI, ]; done) | (simp [zI, ] <;> omega) | (simp_all [zI, ]; done))

set_option maxHeartbeats 4000000 in
set_option maxRecDepth 100000 in
theorem ct_X3_isAtFigure (l : Launch) (g : kw_G) (a : Nat → Nat) (t : TS) (ht : TSI t) (hp : tP t ≤ tN t) : kMi l g yX3_isAtFigure cX3_isAtFigure 1 .boolean (kw_rm 1 0 0) 0 0 [.ref (a 0)] (wT g a t) (fun r w => r = zI (tFig t) ∧ w = wT g a t) := by
  refine kMi_of (by decide +kernel) (Nat.le_of_ble_eq_true rfl) (fun x (X : kX l g RX3 cX3_isAtFigure 1 (kw_rm 1 0 0) x) (Z : kZi .boolean _ 0 0 x) => ?_)
  show kW x 0 0 0 [(0, .ref (a 0))] [] (wT g a t)
  have h2 := ht.1
  refine kb_aload_n X 0 dX3_isAtFigure_0 rfl rfl ?_
  refine kb_get (v := .int (nI (tP t))) (C := RX3) (T := TX3) (N := 4) (ci := 3) X kw_iX3 rfl 0 3 rfl (by decide) kf_X3_23 rfl rfl dX3_isAtFigure_1 ?_
  refine kb_aload_n X 0 dX3_isAtFigure_4 rfl rfl ?_
  refine kb_get (v := .int (nI (tN t))) (C := RX3) (T := TX3) (N := 4) (ci := 3) X kw_iX3 rfl 0 2 rfl (by decide) kf_X3_19 rfl rfl dX3_isAtFigure_5 ?_
  refine kn_icmp_ge (a := tP t) (b := tN t) (tgt := 43) X (by omega) (by omega) dX3_isAtFigure_8 (by decide) (fun c1_ => ?_) (fun c1_ => ?_)
  · skip
    refine kb_iconst (v := (0 : Int32)) X dX3_isAtFigure_43 (by decide) ?_
    refine ke_z X Z rfl dX3_isAtFigure_44 ?_
    exact ⟨(by first | rfl | (simp [zI, tFig, c1_]; done) | (simp [zI, tFig, c1_] <;> omega) | (simp_all [zI, tFig, c1_]; done)), (by first | rfl | (simp [zI, tFig, c1_]; done) | (simp [zI, tFig, c1_] <;> omega) | (simp_all [zI, tFig, c1_]; done))⟩
  · skip
    have h3 := ht.2.1 _ c1_
    refine kb_aload_n X 0 dX3_isAtFigure_11 rfl rfl ?_
    refine kb_get (v := .ref (a 1)) (C := RX3) (T := TX3) (N := 4) (ci := 3) X kw_iX3 rfl 0 0 rfl (by decide) kf_X3_9 rfl rfl dX3_isAtFigure_12 ?_
    refine kb_aload_n X 0 dX3_isAtFigure_15 rfl rfl ?_
    refine kb_get (v := .int (nI (tP t))) (C := RX3) (T := TX3) (N := 4) (ci := 3) X kw_iX3 rfl 0 3 rfl (by decide) kf_X3_23 rfl rfl dX3_isAtFigure_16 ?_
    refine kb_cald (i := tP t) X 1 rfl (by omega) (by decide) dX3_isAtFigure_19 ?_
    refine kb_bipush (v := (48 : Int32)) X dX3_isAtFigure_20 (by decide) ?_
    refine kn_icmp_lt (a := tL t (tP t)) (b := 48) (tgt := 43) X (by omega) (by omega) dX3_isAtFigure_22 (by decide) (fun c2_ => ?_) (fun c2_ => ?_)
    · skip
      refine kb_iconst (v := (0 : Int32)) X dX3_isAtFigure_43 (by decide) ?_
      refine ke_z X Z rfl dX3_isAtFigure_44 ?_
      exact ⟨(by first | rfl | (simp [zI, tFig, c1_, c2_]; done) | (simp [zI, tFig, c1_, c2_] <;> omega) | (simp_all [zI, tFig, c1_, c2_]; done)), (by first | rfl | (simp [zI, tFig, c1_, c2_]; done) | (simp [zI, tFig, c1_, c2_] <;> omega) | (simp_all [zI, tFig, c1_, c2_]; done))⟩
    · skip
      refine kb_aload_n X 0 dX3_isAtFigure_25 rfl rfl ?_
      refine kb_get (v := .ref (a 1)) (C := RX3) (T := TX3) (N := 4) (ci := 3) X kw_iX3 rfl 0 0 rfl (by decide) kf_X3_9 rfl rfl dX3_isAtFigure_26 ?_
      refine kb_aload_n X 0 dX3_isAtFigure_29 rfl rfl ?_
      refine kb_get (v := .int (nI (tP t))) (C := RX3) (T := TX3) (N := 4) (ci := 3) X kw_iX3 rfl 0 3 rfl (by decide) kf_X3_23 rfl rfl dX3_isAtFigure_30 ?_
      refine kb_cald (i := tP t) X 1 rfl (by omega) (by decide) dX3_isAtFigure_33 ?_
      refine kb_bipush (v := (57 : Int32)) X dX3_isAtFigure_34 (by decide) ?_
      refine kn_icmp_gt (a := tL t (tP t)) (b := 57) (tgt := 43) X (by omega) (by omega) dX3_isAtFigure_36 (by decide) (fun c3_ => ?_) (fun c3_ => ?_)
      · skip
        refine kb_iconst (v := (0 : Int32)) X dX3_isAtFigure_43 (by decide) ?_
        refine ke_z X Z rfl dX3_isAtFigure_44 ?_
        exact ⟨(by first | rfl | (simp [zI, tFig, c1_, c2_, c3_]; done) | (simp [zI, tFig, c1_, c2_, c3_] <;> omega) | (simp_all [zI, tFig, c1_, c2_, c3_]; done)), (by first | rfl | (simp [zI, tFig, c1_, c2_, c3_]; done) | (simp [zI, tFig, c1_, c2_, c3_] <;> omega) | (simp_all [zI, tFig, c1_, c2_, c3_]; done))⟩
      · skip
        refine kb_iconst (v := (1 : Int32)) X dX3_isAtFigure_39 (by decide) ?_
        refine kb_goto (tgt := 44) X dX3_isAtFigure_40 (by decide) ?_
        refine ke_z X Z rfl dX3_isAtFigure_44 ?_
        exact ⟨(by first | rfl | (simp [zI, tFig, c1_, c2_, c3_]; done) | (simp [zI, tFig, c1_, c2_, c3_] <;> omega) | (simp_all [zI, tFig, c1_, c2_, c3_]; done)), (by first | rfl | (simp [zI, tFig, c1_, c2_, c3_]; done) | (simp [zI, tFig, c1_, c2_, c3_] <;> omega) | (simp_all [zI, tFig, c1_, c2_, c3_]; done))⟩

set_option maxHeartbeats 4000000 in
set_option maxRecDepth 100000 in
theorem ct_X3_next (l : Launch) (g : kw_G) (a : Nat → Nat) (t : TS) (ht : TSI t) (hp : tP t ≤ tN t) : kMi l g yX3_next cX3_next 2 .char (kw_rm 1 0 0) 0 0 [.ref (a 0)] (wT g a t) (fun r w => r = nI (tCh t) ∧ w = wT g a (tNx t)) := by
  refine kMi_of (by decide +kernel) (Nat.le_of_ble_eq_true rfl) (fun x (X : kX l g RX3 cX3_next 2 (kw_rm 1 0 0) x) (Z : kZi .char _ 0 0 x) => ?_)
  show kW x 0 0 0 [(0, .ref (a 0))] [] (wT g a t)
  have h2 := ht.1
  refine kb_aload_n X 0 dX3_next_0 rfl rfl ?_
  refine kb_get (v := .int (nI (tP t))) (C := RX3) (T := TX3) (N := 4) (ci := 3) X kw_iX3 rfl 0 3 rfl (by decide) kf_X3_23 rfl rfl dX3_next_1 ?_
  refine kb_aload_n X 0 dX3_next_4 rfl rfl ?_
  refine kb_get (v := .int (nI (tN t))) (C := RX3) (T := TX3) (N := 4) (ci := 3) X kw_iX3 rfl 0 2 rfl (by decide) kf_X3_19 rfl rfl dX3_next_5 ?_
  refine kn_icmp_lt (a := tP t) (b := tN t) (tgt := 14) X (by omega) (by omega) dX3_next_8 (by decide) (fun c1_ => ?_) (fun c1_ => ?_)
  · skip
    refine kb_aload_n X 0 dX3_next_14 rfl rfl ?_
    refine kb_get (v := .ref (a 1)) (C := RX3) (T := TX3) (N := 4) (ci := 3) X kw_iX3 rfl 0 0 rfl (by decide) kf_X3_9 rfl rfl dX3_next_15 ?_
    refine kb_aload_n X 0 dX3_next_18 rfl rfl ?_
    refine kb_get (v := .int (nI (tP t))) (C := RX3) (T := TX3) (N := 4) (ci := 3) X kw_iX3 rfl 0 3 rfl (by decide) kf_X3_23 rfl rfl dX3_next_19 ?_
    refine kb_cald (i := tP t) X 1 rfl (by omega) (by decide) dX3_next_22 ?_
    refine kb_istore_n X [1, 0] dX3_next_23 rfl (by decide) (lv' := [(0, .ref (a 0)), (1, .int (nI (tL t (tP t))))]) rfl ?_
    refine kb_aload_n X 0 dX3_next_24 rfl rfl ?_
    refine kb_dup X dX3_next_25 rfl ?_
    refine kb_get (v := .int (nI (tP t))) (C := RX3) (T := TX3) (N := 4) (ci := 3) X kw_iX3 rfl 0 3 rfl (by decide) kf_X3_23 rfl rfl dX3_next_26 ?_
    refine kb_iconst (v := (1 : Int32)) X dX3_next_29 (by decide) ?_
    refine kn_iadd X (tP t) 1 dX3_next_30 ?_
    refine kb_put X (C := RX3) (T := TX3) (N := 4) (ci := 3) (ty := .int) kw_iX3 tyX3 tyX3_ok nmX3 rfl 0 3 rfl (by decide) kf_X3_23 rfl rfl (by decide +kernel) rfl rfl (Nat.le_of_ble_eq_true rfl) dX3_next_31 (ws' := wT g a (sTp t ((tP t) + 1))) rfl ?_
    refine kb_iload_n X 1 dX3_next_34 rfl rfl ?_
    refine ke_z X Z (nI_charN (by have := ht.2.1 _ c1_; omega)) dX3_next_35 ?_
    exact ⟨by rw [tCh, if_pos (by omega)] <;> rfl, by rw [tNx, if_pos (by omega)]⟩
  · skip
    refine kb_bipush (v := (32 : Int32)) X dX3_next_11 (by decide) ?_
    refine ke_z X Z rfl dX3_next_13 ?_
    exact ⟨by rw [tCh, if_neg (by omega)] <;> rfl, by rw [tNx, if_neg (by omega)]⟩

set_option maxHeartbeats 4000000 in
set_option maxRecDepth 100000 in
theorem ct_X3_readNumber (l : Launch) (g : kw_G) (a : Nat → Nat) (t : TS) (ht : TSI t) (k : Nat) (hk : k < 3) (hp : tP t ≤ tN t) : kMi l g yX3_readNumber cX3_readNumber 3 .boolean (kw_rm 2 0 0) 0 0 [.ref (a 0), .int (nI (k))] (wT g a t) (fun r w => r = zI (tFig t) ∧ w = wT g a (tRd t k)) := by
  refine kMi_of (by decide +kernel) (Nat.le_of_ble_eq_true rfl) (fun x (X : kX l g RX3 cX3_readNumber 3 (kw_rm 2 0 0) x) (Z : kZi .boolean _ 0 0 x) => ?_)
  show kW x 0 0 0 [(0, .ref (a 0)), (1, .int (nI (k)))] [] (wT g a t)
  have h2 := ht.1
  refine kb_aload_n X 0 dX3_readNumber_0 rfl rfl ?_
  refine kc_Vi X (As := []) (rest := []) (wr := []) (ct_X3_isAtFigure l g a t ht  hp) dX3_readNumber_1 rfl (kw_pall _) mc_X3_isAtFigure kl_X3_51 mi_X3_isAtFigure mv_X3_isAtFigure kn_X3 0 rfl rfl rfl (na := 0) (by decide +kernel) rfl ⟨Nat.le_of_ble_eq_true rfl, Nat.le_of_ble_eq_true rfl⟩ ⟨rfl, rfl⟩ ⟨Nat.le_of_ble_eq_true rfl, Nat.le_of_ble_eq_true rfl⟩ (Nat.le_of_ble_eq_true rfl) (fun r_ w_ hp_ => ?_)
  obtain ⟨rfl, rfl⟩ := hp_
  refine kw_ws (List.append_nil _) ?_
  refine kz_if_ne (b := tFig t) (tgt := 9) X dX3_readNumber_4 (by decide) (fun c1_ => ?_) (fun c1_ => ?_)
  · skip
    have hf := tCh_fig c1_
    have hi1 := TSI_nx ht
    have hp1 : tP (tNx t) ≤ tN (tNx t) := by rw [(tNx_same t).2.1]; exact tNx_le hp
    refine kb_aload_n X 0 dX3_readNumber_9 rfl rfl ?_
    refine kc_Vi X (As := []) (rest := []) (wr := []) (ct_X3_next l g a t ht  hp) dX3_readNumber_10 rfl (kw_pall _) mc_X3_next kl_X3_39 mi_X3_next mv_X3_next kn_X3 0 rfl rfl rfl (na := 0) (by decide +kernel) rfl ⟨Nat.le_of_ble_eq_true rfl, Nat.le_of_ble_eq_true rfl⟩ ⟨rfl, rfl⟩ ⟨Nat.le_of_ble_eq_true rfl, Nat.le_of_ble_eq_true rfl⟩ (Nat.le_of_ble_eq_true rfl) (fun r_ w_ hp_ => ?_)
    obtain ⟨rfl, rfl⟩ := hp_
    refine kw_ws (List.append_nil _) ?_
    refine kb_bipush (v := (48 : Int32)) X dX3_readNumber_13 (by decide) ?_
    refine kn_isub X (tCh t) 48 (by omega) dX3_readNumber_15 ?_
    refine kb_istore_n X [1, 2, 0] dX3_readNumber_16 rfl (by decide) (lv' := [(0, .ref (a 0)), (1, .int (nI (k))), (2, .int (nI ((tCh t) - 48)))]) rfl ?_
    refine kb_aload_n X 0 dX3_readNumber_17 rfl rfl ?_
    refine kc_Vi X (As := []) (rest := []) (wr := []) (ct_X3_isAtFigure l g a (tNx t) hi1  hp1) dX3_readNumber_18 rfl (kw_pall _) mc_X3_isAtFigure kl_X3_51 mi_X3_isAtFigure mv_X3_isAtFigure kn_X3 0 rfl rfl rfl (na := 0) (by decide +kernel) rfl ⟨Nat.le_of_ble_eq_true rfl, Nat.le_of_ble_eq_true rfl⟩ ⟨rfl, rfl⟩ ⟨Nat.le_of_ble_eq_true rfl, Nat.le_of_ble_eq_true rfl⟩ (Nat.le_of_ble_eq_true rfl) (fun r_ w_ hp_ => ?_)
    obtain ⟨rfl, rfl⟩ := hp_
    refine kw_ws (List.append_nil _) ?_
    refine kz_if_eq (b := tFig (tNx t)) (tgt := 37) X dX3_readNumber_21 (by decide) (fun c2_ => ?_) (fun c2_ => ?_)
    · skip
      refine kb_aload_n X 0 dX3_readNumber_37 rfl rfl ?_
      refine kb_get (v := .ref (a 2)) (C := RX3) (T := TX3) (N := 4) (ci := 3) X kw_iX3 rfl 0 1 rfl (by decide) kf_X3_15 rfl rfl dX3_readNumber_38 ?_
      refine kb_iload_n X 1 dX3_readNumber_41 rfl rfl ?_
      refine kb_iload_n X 2 dX3_readNumber_42 rfl rfl ?_
      refine kb_iast (i := k) X 2 rfl (by omega) (by decide) dX3_readNumber_43 (ws' := wT g a (sM (tNx t) (va_up (tM (tNx t)) k ((tCh t) - 48)))) (wT_putM _ _ _ _ _) ?_
      refine kb_iconst (v := (1 : Int32)) X dX3_readNumber_44 (by decide) ?_
      refine ke_z X Z rfl dX3_readNumber_45 ?_
      exact ⟨by rw [c1_] <;> rfl, by rw [tRd, if_pos c1_, tNx2, tNum, if_neg (by simp [c2_]), if_neg (by simp [c2_])]⟩
    · skip
      have hf2 := tCh_fig c2_
      have hi2 := TSI_nx hi1
      have hp2 : tP (tNx (tNx t)) ≤ tN (tNx (tNx t)) := by rw [(tNx_same _).2.1]; exact tNx_le hp1
      refine kb_bipush (v := (10 : Int32)) X dX3_readNumber_24 (by decide) ?_
      refine kb_iload_n X 2 dX3_readNumber_26 rfl rfl ?_
      refine kn_imul X 10 ((tCh t) - 48) dX3_readNumber_27 ?_
      refine kb_aload_n X 0 dX3_readNumber_28 rfl rfl ?_
      refine kc_Vi X (As := []) (rest := [.int (nI (10 * ((tCh t) - 48)))]) (wr := []) (ct_X3_next l g a (tNx t) hi1  hp1) dX3_readNumber_29 rfl (kw_pall _) mc_X3_next kl_X3_39 mi_X3_next mv_X3_next kn_X3 0 rfl rfl rfl (na := 0) (by decide +kernel) rfl ⟨Nat.le_of_ble_eq_true rfl, Nat.le_of_ble_eq_true rfl⟩ ⟨rfl, rfl⟩ ⟨Nat.le_of_ble_eq_true rfl, Nat.le_of_ble_eq_true rfl⟩ (Nat.le_of_ble_eq_true rfl) (fun r_ w_ hp_ => ?_)
      obtain ⟨rfl, rfl⟩ := hp_
      refine kw_ws (List.append_nil _) ?_
      refine kb_bipush (v := (48 : Int32)) X dX3_readNumber_32 (by decide) ?_
      refine kn_isub X (tCh (tNx t)) 48 (by omega) dX3_readNumber_34 ?_
      refine kn_iadd X (10 * ((tCh t) - 48)) ((tCh (tNx t)) - 48) dX3_readNumber_35 ?_
      refine kb_istore_n X [1, 2, 0] dX3_readNumber_36 rfl (by decide) (lv' := [(0, .ref (a 0)), (1, .int (nI (k))), (2, .int (nI ((10 * ((tCh t) - 48)) + ((tCh (tNx t)) - 48))))]) rfl ?_
      refine kb_aload_n X 0 dX3_readNumber_37 rfl rfl ?_
      refine kb_get (v := .ref (a 2)) (C := RX3) (T := TX3) (N := 4) (ci := 3) X kw_iX3 rfl 0 1 rfl (by decide) kf_X3_15 rfl rfl dX3_readNumber_38 ?_
      refine kb_iload_n X 1 dX3_readNumber_41 rfl rfl ?_
      refine kb_iload_n X 2 dX3_readNumber_42 rfl rfl ?_
      refine kb_iast (i := k) X 2 rfl (by omega) (by decide) dX3_readNumber_43 (ws' := wT g a (sM (tNx (tNx t)) (va_up (tM (tNx (tNx t))) k ((10 * ((tCh t) - 48)) + ((tCh (tNx t)) - 48))))) (wT_putM _ _ _ _ _) ?_
      refine kb_iconst (v := (1 : Int32)) X dX3_readNumber_44 (by decide) ?_
      refine ke_z X Z rfl dX3_readNumber_45 ?_
      exact ⟨by rw [c1_] <;> rfl, by rw [tRd, if_pos c1_, tNx2, tNum, if_pos c2_, if_pos c2_]⟩
  · skip
    refine kb_iconst (v := (0 : Int32)) X dX3_readNumber_7 (by decide) ?_
    refine ke_z X Z rfl dX3_readNumber_8 ?_
    exact ⟨by rw [c1_] <;> rfl, by rw [tRd, if_neg (by simp [c1_])]⟩

set_option maxHeartbeats 4000000 in
set_option maxRecDepth 100000 in
theorem ct_X3_tell (l : Launch) (g : kw_G) (a b : Nat → Nat) (t : TS) (v : VS) (ht : TSI t) (hv : VI v) (c : Nat) (hc : c < 128) : kMi l g yX3_tell cX3_tell 3 .boolean (kw_rm 4 0 0) 0 0 [.ref (a 0), .ref (b 0), .int (nI (c))] (List.flatten [wT g a t, wV g b v]) (fun r w => r = zI (tlOk (tM t) v c) ∧ w = List.flatten [wT g a t, wV g b (tlV (tM t) v c)]) := by
  refine kMi_of (by decide +kernel) (Nat.le_of_ble_eq_true rfl) (fun x (X : kX l g RX3 cX3_tell 3 (kw_rm 4 0 0) x) (Z : kZi .boolean _ 0 0 x) => ?_)
  show kW x 0 0 0 [(0, .ref (a 0)), (1, .ref (b 0)), (2, .int (nI (c)))] [] (List.flatten [wT g a t, wV g b v])
  have m0 := ht.2.2 0 (by decide)
  have m1 := ht.2.2 1 (by decide)
  have m2 := ht.2.2 2 (by decide)
  refine kb_iload_n X 2 dX3_tell_0 rfl rfl ?_
  by_cases c1_ : c = 103
  · refine kb_look (tgt := 113) (off := 112) X dX3_tell_1 (by decide) (by rw [c1_]; decide) (by decide) ?_
    refine kb_aload_n X 1 dX3_tell_113 rfl rfl ?_
    refine kb_aload_n X 0 dX3_tell_114 rfl rfl ?_
    refine kf_get (v := .ref (a 2)) (C := RX3) (T := TX3) (N := 4) (ci := 3) X kw_iX3 rfl 1 0 0 rfl rfl (by decide) kf_X3_15 rfl rfl dX3_tell_115 ?_
    refine kb_iconst (v := (0 : Int32)) X dX3_tell_118 (by decide) ?_
    refine kf_iald (j := 0) X 0 2 rfl rfl (by omega) (by decide) dX3_tell_119 ?_
    refine kc_Vi X (As := [.int (nI (tM t 0))]) (rest := []) (wr := List.flatten [wT g a t]) (ct_X4_tellTrialAge l g b v (tM t 0) (by omega)) dX3_tell_120 rfl (kw_pk [wT g a t, wV g b v] 1 (Nat.le_of_ble_eq_true rfl)) mc_X4_tellTrialAge kl_X3_64 mi_X4_tellTrialAge mv_X4_tellTrialAge kn_X4 0 rfl rfl rfl (na := 1) (by decide +kernel) rfl ⟨Nat.le_of_ble_eq_true rfl, Nat.le_of_ble_eq_true rfl⟩ ⟨rfl, rfl⟩ ⟨Nat.le_of_ble_eq_true rfl, Nat.le_of_ble_eq_true rfl⟩ (Nat.le_of_ble_eq_true rfl) (fun r_ w_ hp_ => ?_)
    obtain ⟨rfl, rfl⟩ := hp_
    refine kw_perm (ws' := List.flatten [wT g a t, wV g b (if 1 ≤ (tM t 0) then sG v (nI (tM t 0)) else v)]) (kw_pk [wT g a t, wV g b (if 1 ≤ (tM t 0) then sG v (nI (tM t 0)) else v)] 1 (Nat.le_of_ble_eq_true rfl)).symm ?_
    refine ke_z X Z (zI_nar _) dX3_tell_123 ?_
    exact ⟨by first | (simp [tlOk, c1_]; done) | (simp [tlOk, zI, c1_]; done), by first | (simp [tlV, tlOk, c1_]; done) | rfl⟩
  · skip
    by_cases c2_ : c = 111
    · refine kb_look (tgt := 90) (off := 89) X dX3_tell_1 (by decide) (by rw [c2_]; decide) (by decide) ?_
      refine kb_aload_n X 1 dX3_tell_90 rfl rfl ?_
      refine kb_aload_n X 0 dX3_tell_91 rfl rfl ?_
      refine kf_get (v := .ref (a 2)) (C := RX3) (T := TX3) (N := 4) (ci := 3) X kw_iX3 rfl 1 0 0 rfl rfl (by decide) kf_X3_15 rfl rfl dX3_tell_92 ?_
      refine kb_iconst (v := (0 : Int32)) X dX3_tell_95 (by decide) ?_
      refine kf_iald (j := 0) X 0 2 rfl rfl (by omega) (by decide) dX3_tell_96 ?_
      refine kb_aload_n X 0 dX3_tell_97 rfl rfl ?_
      refine kf_get (v := .ref (a 2)) (C := RX3) (T := TX3) (N := 4) (ci := 3) X kw_iX3 rfl 1 0 0 rfl rfl (by decide) kf_X3_15 rfl rfl dX3_tell_98 ?_
      refine kb_iconst (v := (1 : Int32)) X dX3_tell_101 (by decide) ?_
      refine kf_iald (j := 1) X 0 2 rfl rfl (by omega) (by decide) dX3_tell_102 ?_
      refine kb_aload_n X 0 dX3_tell_103 rfl rfl ?_
      refine kf_get (v := .ref (a 2)) (C := RX3) (T := TX3) (N := 4) (ci := 3) X kw_iX3 rfl 1 0 0 rfl rfl (by decide) kf_X3_15 rfl rfl dX3_tell_104 ?_
      refine kb_iconst (v := (2 : Int32)) X dX3_tell_107 (by decide) ?_
      refine kf_iald (j := 2) X 0 2 rfl rfl (by omega) (by decide) dX3_tell_108 ?_
      refine kc_Vi X (As := [.int (nI (tM t 0)), .int (nI (tM t 1)), .int (nI (tM t 2))]) (rest := []) (wr := List.flatten [wT g a t]) (ct_X4_tellDebt l g b v (tM t 0) (tM t 1) (tM t 2) (by omega) (by omega) (by omega) hv.1) dX3_tell_109 rfl (kw_pk [wT g a t, wV g b v] 1 (Nat.le_of_ble_eq_true rfl)) mc_X4_tellDebt kl_X3_61 mi_X4_tellDebt mv_X4_tellDebt kn_X4 0 rfl rfl rfl (na := 3) (by decide +kernel) rfl ⟨Nat.le_of_ble_eq_true rfl, Nat.le_of_ble_eq_true rfl⟩ ⟨rfl, rfl⟩ ⟨Nat.le_of_ble_eq_true rfl, Nat.le_of_ble_eq_true rfl⟩ (Nat.le_of_ble_eq_true rfl) (fun r_ w_ hp_ => ?_)
      obtain ⟨rfl, rfl⟩ := hp_
      refine kw_perm (ws' := List.flatten [wT g a t, wV g b (if tdOk v (tM t 0) (tM t 1) (tM t 2) = true then tdV v (tM t 0) (tM t 1) (tM t 2) else v)]) (kw_pk [wT g a t, wV g b (if tdOk v (tM t 0) (tM t 1) (tM t 2) = true then tdV v (tM t 0) (tM t 1) (tM t 2) else v)] 1 (Nat.le_of_ble_eq_true rfl)).symm ?_
      refine ke_z X Z (zI_nar _) dX3_tell_112 ?_
      exact ⟨by first | (simp [tlOk, c1_, c2_]; done) | (simp [tlOk, zI, c1_, c2_]; done), by first | (simp [tlV, tlOk, c1_, c2_]; done) | rfl⟩
    · skip
      by_cases c3_ : c = 112
      · refine kb_look (tgt := 44) (off := 43) X dX3_tell_1 (by decide) (by rw [c3_]; decide) (by decide) ?_
        refine kb_aload_n X 1 dX3_tell_44 rfl rfl ?_
        refine kb_aload_n X 0 dX3_tell_45 rfl rfl ?_
        refine kf_get (v := .ref (a 2)) (C := RX3) (T := TX3) (N := 4) (ci := 3) X kw_iX3 rfl 1 0 0 rfl rfl (by decide) kf_X3_15 rfl rfl dX3_tell_46 ?_
        refine kb_iconst (v := (0 : Int32)) X dX3_tell_49 (by decide) ?_
        refine kf_iald (j := 0) X 0 2 rfl rfl (by omega) (by decide) dX3_tell_50 ?_
        refine kb_aload_n X 0 dX3_tell_51 rfl rfl ?_
        refine kf_get (v := .ref (a 2)) (C := RX3) (T := TX3) (N := 4) (ci := 3) X kw_iX3 rfl 1 0 0 rfl rfl (by decide) kf_X3_15 rfl rfl dX3_tell_52 ?_
        refine kb_iconst (v := (1 : Int32)) X dX3_tell_55 (by decide) ?_
        refine kf_iald (j := 1) X 0 2 rfl rfl (by omega) (by decide) dX3_tell_56 ?_
        refine kb_aload_n X 0 dX3_tell_57 rfl rfl ?_
        refine kf_get (v := .ref (a 2)) (C := RX3) (T := TX3) (N := 4) (ci := 3) X kw_iX3 rfl 1 0 0 rfl rfl (by decide) kf_X3_15 rfl rfl dX3_tell_58 ?_
        refine kb_iconst (v := (2 : Int32)) X dX3_tell_61 (by decide) ?_
        refine kf_iald (j := 2) X 0 2 rfl rfl (by omega) (by decide) dX3_tell_62 ?_
        refine kc_Vi X (As := [.int (nI (tM t 0)), .int (nI (tM t 1)), .int (nI (tM t 2))]) (rest := []) (wr := List.flatten [wT g a t]) (ct_X4_tellPerson l g b v (tM t 0) (tM t 1) (tM t 2) (by omega) (by omega) (by omega) hv.1) dX3_tell_63 rfl (kw_pk [wT g a t, wV g b v] 1 (Nat.le_of_ble_eq_true rfl)) mc_X4_tellPerson kl_X3_54 mi_X4_tellPerson mv_X4_tellPerson kn_X4 0 rfl rfl rfl (na := 3) (by decide +kernel) rfl ⟨Nat.le_of_ble_eq_true rfl, Nat.le_of_ble_eq_true rfl⟩ ⟨rfl, rfl⟩ ⟨Nat.le_of_ble_eq_true rfl, Nat.le_of_ble_eq_true rfl⟩ (Nat.le_of_ble_eq_true rfl) (fun r_ w_ hp_ => ?_)
        obtain ⟨rfl, rfl⟩ := hp_
        refine kw_perm (ws' := List.flatten [wT g a t, wV g b (if tpOk v (tM t 0) (tM t 2) = true then tpV v (tM t 0) (tM t 1) (tM t 2) else v)]) (kw_pk [wT g a t, wV g b (if tpOk v (tM t 0) (tM t 2) = true then tpV v (tM t 0) (tM t 1) (tM t 2) else v)] 1 (Nat.le_of_ble_eq_true rfl)).symm ?_
        refine ke_z X Z (zI_nar _) dX3_tell_66 ?_
        exact ⟨by first | (simp [tlOk, c1_, c2_, c3_]; done) | (simp [tlOk, zI, c1_, c2_, c3_]; done), by first | (simp [tlV, tlOk, c1_, c2_, c3_]; done) | rfl⟩
      · skip
        by_cases c4_ : c = 116
        · refine kb_look (tgt := 67) (off := 66) X dX3_tell_1 (by decide) (by rw [c4_]; decide) (by decide) ?_
          refine kb_aload_n X 1 dX3_tell_67 rfl rfl ?_
          refine kb_aload_n X 0 dX3_tell_68 rfl rfl ?_
          refine kf_get (v := .ref (a 2)) (C := RX3) (T := TX3) (N := 4) (ci := 3) X kw_iX3 rfl 1 0 0 rfl rfl (by decide) kf_X3_15 rfl rfl dX3_tell_69 ?_
          refine kb_iconst (v := (0 : Int32)) X dX3_tell_72 (by decide) ?_
          refine kf_iald (j := 0) X 0 2 rfl rfl (by omega) (by decide) dX3_tell_73 ?_
          refine kb_aload_n X 0 dX3_tell_74 rfl rfl ?_
          refine kf_get (v := .ref (a 2)) (C := RX3) (T := TX3) (N := 4) (ci := 3) X kw_iX3 rfl 1 0 0 rfl rfl (by decide) kf_X3_15 rfl rfl dX3_tell_75 ?_
          refine kb_iconst (v := (1 : Int32)) X dX3_tell_78 (by decide) ?_
          refine kf_iald (j := 1) X 0 2 rfl rfl (by omega) (by decide) dX3_tell_79 ?_
          refine kb_aload_n X 0 dX3_tell_80 rfl rfl ?_
          refine kf_get (v := .ref (a 2)) (C := RX3) (T := TX3) (N := 4) (ci := 3) X kw_iX3 rfl 1 0 0 rfl rfl (by decide) kf_X3_15 rfl rfl dX3_tell_81 ?_
          refine kb_iconst (v := (2 : Int32)) X dX3_tell_84 (by decide) ?_
          refine kf_iald (j := 2) X 0 2 rfl rfl (by omega) (by decide) dX3_tell_85 ?_
          refine kc_Vi X (As := [.int (nI (tM t 0)), .int (nI (tM t 1)), .int (nI (tM t 2))]) (rest := []) (wr := List.flatten [wT g a t]) (ct_X4_tellTie l g b v (tM t 0) (tM t 1) (tM t 2) (by omega) (by omega) (by omega) hv.1) dX3_tell_86 rfl (kw_pk [wT g a t, wV g b v] 1 (Nat.le_of_ble_eq_true rfl)) mc_X4_tellTie kl_X3_58 mi_X4_tellTie mv_X4_tellTie kn_X4 0 rfl rfl rfl (na := 3) (by decide +kernel) rfl ⟨Nat.le_of_ble_eq_true rfl, Nat.le_of_ble_eq_true rfl⟩ ⟨rfl, rfl⟩ ⟨Nat.le_of_ble_eq_true rfl, Nat.le_of_ble_eq_true rfl⟩ (Nat.le_of_ble_eq_true rfl) (fun r_ w_ hp_ => ?_)
          obtain ⟨rfl, rfl⟩ := hp_
          refine kw_perm (ws' := List.flatten [wT g a t, wV g b (if ttOk v (tM t 0) (tM t 1) (tM t 2) = true then ttV v (tM t 0) (tM t 1) (tM t 2) else v)]) (kw_pk [wT g a t, wV g b (if ttOk v (tM t 0) (tM t 1) (tM t 2) = true then ttV v (tM t 0) (tM t 1) (tM t 2) else v)] 1 (Nat.le_of_ble_eq_true rfl)).symm ?_
          refine ke_z X Z (zI_nar _) dX3_tell_89 ?_
          exact ⟨by first | (simp [tlOk, c1_, c2_, c3_, c4_]; done) | (simp [tlOk, zI, c1_, c2_, c3_, c4_]; done), by first | (simp [tlV, tlOk, c1_, c2_, c3_, c4_]; done) | rfl⟩
        · skip
          refine kb_look (tgt := 124) (off := 123) X dX3_tell_1 (by decide) (by show Op.lookupswitch.offset [(103, 112), (111, 89), (112, 43), (116, 66)] (123) _ = (123); rw [lv_osw (a := 103) (k := 103) (fun q_ => c1_ ((nI_eq (by omega) (by decide)).mp q_)) rfl]; rw [lv_osw (a := 111) (k := 111) (fun q_ => c2_ ((nI_eq (by omega) (by decide)).mp q_)) rfl]; rw [lv_osw (a := 112) (k := 112) (fun q_ => c3_ ((nI_eq (by omega) (by decide)).mp q_)) rfl]; rw [lv_osw (a := 116) (k := 116) (fun q_ => c4_ ((nI_eq (by omega) (by decide)).mp q_)) rfl]; rfl) (by decide) ?_
          refine kb_iconst (v := (0 : Int32)) X dX3_tell_124 (by decide) ?_
          refine ke_z X Z rfl dX3_tell_125 ?_
          exact ⟨by first | (simp [tlOk, c1_, c2_, c3_, c4_]; done) | (simp [tlOk, zI, c1_, c2_, c3_, c4_]; done), by first | (simp [tlV, tlOk, c1_, c2_, c3_, c4_]; done) | rfl⟩

set_option maxHeartbeats 4000000 in
set_option maxRecDepth 100000 in
theorem ct_X3_readItem (l : Launch) (g : kw_G) (a b : Nat → Nat) (t : TS) (v : VS) (ht : TSI t) (hv : VI v) (hp : tP t ≤ tN t) : kMi l g yX3_readItem cX3_readItem 5 .boolean (kw_rm 5 0 0) 0 0 [.ref (a 0), .ref (b 0)] (List.flatten [wT g a t, wV g b v]) (fun r w => r = zI (iOk t v) ∧ ∃ t', (tL t' = tL t ∧ tN t' = tN t ∧ TSI t' ∧ (iOk t v = true → t' = iT t)) ∧ w = List.flatten [wT g a t', wV g b (iV t v)]) := by
  refine kMi_of (by decide +kernel) (Nat.le_of_ble_eq_true rfl) (fun x (X : kX l g RX3 cX3_readItem 5 (kw_rm 5 0 0) x) (Z : kZi .boolean _ 0 0 x) => ?_)
  show kW x 0 0 0 [(0, .ref (a 0)), (1, .ref (b 0))] [] (List.flatten [wT g a t, wV g b v])
  have hc := tCh_lt ht
  refine kb_aload_n X 0 dX3_readItem_0 rfl rfl ?_
  refine kc_Vi X (As := []) (rest := []) (wr := List.flatten [wV g b v]) (ct_X3_next l g a t ht  hp) dX3_readItem_1 rfl (kw_pk [wT g a t, wV g b v] 0 (Nat.le_of_ble_eq_true rfl)) mc_X3_next kl_X3_39 mi_X3_next mv_X3_next kn_X3 0 rfl rfl rfl (na := 0) (by decide +kernel) rfl ⟨Nat.le_of_ble_eq_true rfl, Nat.le_of_ble_eq_true rfl⟩ ⟨rfl, rfl⟩ ⟨Nat.le_of_ble_eq_true rfl, Nat.le_of_ble_eq_true rfl⟩ (Nat.le_of_ble_eq_true rfl) (fun r_ w_ hp_ => ?_)
  obtain ⟨rfl, rfl⟩ := hp_
  refine kw_perm (ws' := List.flatten [wT g a (tNx t), wV g b v]) (kw_pk [wT g a (tNx t), wV g b v] 0 (Nat.le_of_ble_eq_true rfl)).symm ?_
  refine kb_istore_n X [1, 2, 0] dX3_readItem_4 rfl (by decide) (lv' := [(0, .ref (a 0)), (1, .ref (b 0)), (2, .int (nI (tCh t)))]) rfl ?_
  refine kb_iload_n X 2 dX3_readItem_5 rfl rfl ?_
  refine kb_bipush (v := (103 : Int32)) X dX3_readItem_6 (by decide) ?_
  refine kn_icmp_ne (a := tCh t) (b := 103) (tgt := 15) X (by omega) (by omega) dX3_readItem_8 (by decide) (fun c1_ => ?_) (fun c1_ => ?_)
  · skip
    refine kb_iconst (v := (2 : Int32)) X dX3_readItem_15 (by decide) ?_
    refine kb_istore_n X [1, 2, 3, 0] dX3_readItem_16 rfl (by decide) (lv' := [(0, .ref (a 0)), (1, .ref (b 0)), (2, .int (nI (tCh t))), (3, .int 2)]) rfl ?_
    refine kb_iconst (v := (0 : Int32)) X dX3_readItem_17 (by decide) ?_
    refine kb_istore X [1, 2, 3, 4, 0] dX3_readItem_18 (by decide) (lv' := [(0, .ref (a 0)), (1, .ref (b 0)), (2, .int (nI (tCh t))), (3, .int 2), (4, .int 0)]) rfl ?_
    refine kb_iload X 4 dX3_readItem_20 rfl ?_
    refine kb_iload_n X 3 dX3_readItem_22 rfl rfl ?_
    refine kb_icmp_gt (tgt := 63) X dX3_readItem_23 (by decide) (fun q_ => absurd q_ (by decide)) (fun _ => ?_)
    refine kb_aload_n X 0 dX3_readItem_26 rfl rfl ?_
    refine kb_iload X 4 dX3_readItem_27 rfl ?_
    refine kc_Vi X (As := [.int 0]) (rest := []) (wr := List.flatten [wV g b v]) (ct_X3_readNumber l g a (tNx t) (TSI_nx ht) 0 (by omega) (tNx_hp hp)) dX3_readItem_29 rfl (kw_pk [wT g a (tNx t), wV g b v] 0 (Nat.le_of_ble_eq_true rfl)) mc_X3_readNumber kl_X3_43 mi_X3_readNumber mv_X3_readNumber kn_X3 0 rfl rfl rfl (na := 1) (by decide +kernel) rfl ⟨Nat.le_of_ble_eq_true rfl, Nat.le_of_ble_eq_true rfl⟩ ⟨rfl, rfl⟩ ⟨Nat.le_of_ble_eq_true rfl, Nat.le_of_ble_eq_true rfl⟩ (Nat.le_of_ble_eq_true rfl) (fun r_ w_ hp_ => ?_)
    obtain ⟨rfl, rfl⟩ := hp_
    refine kw_perm (ws' := List.flatten [wT g a (tRd (tNx t) 0), wV g b v]) (kw_pk [wT g a (tRd (tNx t) 0), wV g b v] 0 (Nat.le_of_ble_eq_true rfl)).symm ?_
    refine kz_if_eq (b := tFig (tNx t)) (tgt := 55) X dX3_readItem_32 (by decide) (fun c3_ => ?_) (fun c3_ => ?_)
    · skip
      refine kb_iconst (v := (0 : Int32)) X dX3_readItem_55 (by decide) ?_
      refine ke_z X Z rfl dX3_readItem_56 ?_
      have e_ : iSyn t = false := by simp [iSyn, tOk, i1, i2, tSt, c1_, c3_]
      exact ⟨by rw [iOk, e_] <;> rfl, tRd (tNx t) 0, ⟨(same_rd (same_nx ⟨rfl, rfl⟩) 0).1, (same_rd (same_nx ⟨rfl, rfl⟩) 0).2, (TSI_rd (TSI_nx ht) 0), fun h => by rw [iOk, e_] at h; cases h⟩, by rw [iV, if_neg (by rw [e_]; decide)]⟩
    · skip
      refine kb_aload_n X 0 dX3_readItem_35 rfl rfl ?_
      refine kc_Vi X (As := []) (rest := []) (wr := List.flatten [wV g b v]) (ct_X3_next l g a (tRd (tNx t) 0) (TSI_rd (TSI_nx ht) 0)  (tRd_hp (tNx_hp hp) 0)) dX3_readItem_36 rfl (kw_pk [wT g a (tRd (tNx t) 0), wV g b v] 0 (Nat.le_of_ble_eq_true rfl)) mc_X3_next kl_X3_39 mi_X3_next mv_X3_next kn_X3 0 rfl rfl rfl (na := 0) (by decide +kernel) rfl ⟨Nat.le_of_ble_eq_true rfl, Nat.le_of_ble_eq_true rfl⟩ ⟨rfl, rfl⟩ ⟨Nat.le_of_ble_eq_true rfl, Nat.le_of_ble_eq_true rfl⟩ (Nat.le_of_ble_eq_true rfl) (fun r_ w_ hp_ => ?_)
      obtain ⟨rfl, rfl⟩ := hp_
      refine kw_perm (ws' := List.flatten [wT g a (tNx (tRd (tNx t) 0)), wV g b v]) (kw_pk [wT g a (tNx (tRd (tNx t) 0)), wV g b v] 0 (Nat.le_of_ble_eq_true rfl)).symm ?_
      refine kb_iload X 4 dX3_readItem_39 rfl ?_
      refine kb_iload_n X 3 dX3_readItem_41 rfl rfl ?_
      refine kb_icmp_ge (tgt := 50) X dX3_readItem_42 (by decide) (fun q_ => absurd q_ (by decide)) (fun _ => ?_)
      refine kb_bipush (v := (44 : Int32)) X dX3_readItem_45 (by decide) ?_
      refine kb_goto (tgt := 52) X dX3_readItem_47 (by decide) ?_
      refine kn_icmp_eq (a := tCh (tRd (tNx t) 0)) (b := 44) (tgt := 57) X (by have := tCh_lt (TSI_rd (TSI_nx ht) 0); have := tCh_lt (TSI_rd (TSI_nx (TSI_rd (TSI_nx ht) 0)) 1); have := tCh_lt (TSI_rd (TSI_nx (TSI_rd (TSI_nx (TSI_rd (TSI_nx ht) 0)) 1)) 2); omega) (by decide) dX3_readItem_52 (by decide) (fun c5_ => ?_) (fun c5_ => ?_)
      · skip
        refine kb_iinc X 4 [1, 2, 3, 4, 0] (v' := (1 : Int32)) dX3_readItem_57 rfl (by decide) (by decide) (lv' := [(0, .ref (a 0)), (1, .ref (b 0)), (2, .int (nI (tCh t))), (3, .int 2), (4, .int 1)]) rfl ?_
        refine kb_goto (tgt := 20) X dX3_readItem_60 (by decide) ?_
        refine kb_iload X 4 dX3_readItem_20 rfl ?_
        refine kb_iload_n X 3 dX3_readItem_22 rfl rfl ?_
        refine kb_icmp_gt (tgt := 63) X dX3_readItem_23 (by decide) (fun q_ => absurd q_ (by decide)) (fun _ => ?_)
        refine kb_aload_n X 0 dX3_readItem_26 rfl rfl ?_
        refine kb_iload X 4 dX3_readItem_27 rfl ?_
        refine kc_Vi X (As := [.int 1]) (rest := []) (wr := List.flatten [wV g b v]) (ct_X3_readNumber l g a (tNx (tRd (tNx t) 0)) (TSI_nx (TSI_rd (TSI_nx ht) 0)) 1 (by omega) (tNx_hp (tRd_hp (tNx_hp hp) 0))) dX3_readItem_29 rfl (kw_pk [wT g a (tNx (tRd (tNx t) 0)), wV g b v] 0 (Nat.le_of_ble_eq_true rfl)) mc_X3_readNumber kl_X3_43 mi_X3_readNumber mv_X3_readNumber kn_X3 0 rfl rfl rfl (na := 1) (by decide +kernel) rfl ⟨Nat.le_of_ble_eq_true rfl, Nat.le_of_ble_eq_true rfl⟩ ⟨rfl, rfl⟩ ⟨Nat.le_of_ble_eq_true rfl, Nat.le_of_ble_eq_true rfl⟩ (Nat.le_of_ble_eq_true rfl) (fun r_ w_ hp_ => ?_)
        obtain ⟨rfl, rfl⟩ := hp_
        refine kw_perm (ws' := List.flatten [wT g a (tRd (tNx (tRd (tNx t) 0)) 1), wV g b v]) (kw_pk [wT g a (tRd (tNx (tRd (tNx t) 0)) 1), wV g b v] 0 (Nat.le_of_ble_eq_true rfl)).symm ?_
        refine kz_if_eq (b := tFig (tNx (tRd (tNx t) 0))) (tgt := 55) X dX3_readItem_32 (by decide) (fun c7_ => ?_) (fun c7_ => ?_)
        · skip
          refine kb_iconst (v := (0 : Int32)) X dX3_readItem_55 (by decide) ?_
          refine ke_z X Z rfl dX3_readItem_56 ?_
          have e_ : iSyn t = false := by simp [iSyn, tOk, i1, i2, tSt, c1_, c3_, c5_, c7_]
          exact ⟨by rw [iOk, e_] <;> rfl, tRd (tNx (tRd (tNx t) 0)) 1, ⟨(same_rd (same_nx (same_rd (same_nx ⟨rfl, rfl⟩) 0)) 1).1, (same_rd (same_nx (same_rd (same_nx ⟨rfl, rfl⟩) 0)) 1).2, (TSI_rd (TSI_nx (TSI_rd (TSI_nx ht) 0)) 1), fun h => by rw [iOk, e_] at h; cases h⟩, by rw [iV, if_neg (by rw [e_]; decide)]⟩
        · skip
          refine kb_aload_n X 0 dX3_readItem_35 rfl rfl ?_
          refine kc_Vi X (As := []) (rest := []) (wr := List.flatten [wV g b v]) (ct_X3_next l g a (tRd (tNx (tRd (tNx t) 0)) 1) (TSI_rd (TSI_nx (TSI_rd (TSI_nx ht) 0)) 1)  (tRd_hp (tNx_hp (tRd_hp (tNx_hp hp) 0)) 1)) dX3_readItem_36 rfl (kw_pk [wT g a (tRd (tNx (tRd (tNx t) 0)) 1), wV g b v] 0 (Nat.le_of_ble_eq_true rfl)) mc_X3_next kl_X3_39 mi_X3_next mv_X3_next kn_X3 0 rfl rfl rfl (na := 0) (by decide +kernel) rfl ⟨Nat.le_of_ble_eq_true rfl, Nat.le_of_ble_eq_true rfl⟩ ⟨rfl, rfl⟩ ⟨Nat.le_of_ble_eq_true rfl, Nat.le_of_ble_eq_true rfl⟩ (Nat.le_of_ble_eq_true rfl) (fun r_ w_ hp_ => ?_)
          obtain ⟨rfl, rfl⟩ := hp_
          refine kw_perm (ws' := List.flatten [wT g a (tNx (tRd (tNx (tRd (tNx t) 0)) 1)), wV g b v]) (kw_pk [wT g a (tNx (tRd (tNx (tRd (tNx t) 0)) 1)), wV g b v] 0 (Nat.le_of_ble_eq_true rfl)).symm ?_
          refine kb_iload X 4 dX3_readItem_39 rfl ?_
          refine kb_iload_n X 3 dX3_readItem_41 rfl rfl ?_
          refine kb_icmp_ge (tgt := 50) X dX3_readItem_42 (by decide) (fun q_ => absurd q_ (by decide)) (fun _ => ?_)
          refine kb_bipush (v := (44 : Int32)) X dX3_readItem_45 (by decide) ?_
          refine kb_goto (tgt := 52) X dX3_readItem_47 (by decide) ?_
          refine kn_icmp_eq (a := tCh (tRd (tNx (tRd (tNx t) 0)) 1)) (b := 44) (tgt := 57) X (by have := tCh_lt (TSI_rd (TSI_nx ht) 0); have := tCh_lt (TSI_rd (TSI_nx (TSI_rd (TSI_nx ht) 0)) 1); have := tCh_lt (TSI_rd (TSI_nx (TSI_rd (TSI_nx (TSI_rd (TSI_nx ht) 0)) 1)) 2); omega) (by decide) dX3_readItem_52 (by decide) (fun c9_ => ?_) (fun c9_ => ?_)
          · skip
            refine kb_iinc X 4 [1, 2, 3, 4, 0] (v' := (2 : Int32)) dX3_readItem_57 rfl (by decide) (by decide) (lv' := [(0, .ref (a 0)), (1, .ref (b 0)), (2, .int (nI (tCh t))), (3, .int 2), (4, .int 2)]) rfl ?_
            refine kb_goto (tgt := 20) X dX3_readItem_60 (by decide) ?_
            refine kb_iload X 4 dX3_readItem_20 rfl ?_
            refine kb_iload_n X 3 dX3_readItem_22 rfl rfl ?_
            refine kb_icmp_gt (tgt := 63) X dX3_readItem_23 (by decide) (fun q_ => absurd q_ (by decide)) (fun _ => ?_)
            refine kb_aload_n X 0 dX3_readItem_26 rfl rfl ?_
            refine kb_iload X 4 dX3_readItem_27 rfl ?_
            refine kc_Vi X (As := [.int 2]) (rest := []) (wr := List.flatten [wV g b v]) (ct_X3_readNumber l g a (tNx (tRd (tNx (tRd (tNx t) 0)) 1)) (TSI_nx (TSI_rd (TSI_nx (TSI_rd (TSI_nx ht) 0)) 1)) 2 (by omega) (tNx_hp (tRd_hp (tNx_hp (tRd_hp (tNx_hp hp) 0)) 1))) dX3_readItem_29 rfl (kw_pk [wT g a (tNx (tRd (tNx (tRd (tNx t) 0)) 1)), wV g b v] 0 (Nat.le_of_ble_eq_true rfl)) mc_X3_readNumber kl_X3_43 mi_X3_readNumber mv_X3_readNumber kn_X3 0 rfl rfl rfl (na := 1) (by decide +kernel) rfl ⟨Nat.le_of_ble_eq_true rfl, Nat.le_of_ble_eq_true rfl⟩ ⟨rfl, rfl⟩ ⟨Nat.le_of_ble_eq_true rfl, Nat.le_of_ble_eq_true rfl⟩ (Nat.le_of_ble_eq_true rfl) (fun r_ w_ hp_ => ?_)
            obtain ⟨rfl, rfl⟩ := hp_
            refine kw_perm (ws' := List.flatten [wT g a (tRd (tNx (tRd (tNx (tRd (tNx t) 0)) 1)) 2), wV g b v]) (kw_pk [wT g a (tRd (tNx (tRd (tNx (tRd (tNx t) 0)) 1)) 2), wV g b v] 0 (Nat.le_of_ble_eq_true rfl)).symm ?_
            refine kz_if_eq (b := tFig (tNx (tRd (tNx (tRd (tNx t) 0)) 1))) (tgt := 55) X dX3_readItem_32 (by decide) (fun c11_ => ?_) (fun c11_ => ?_)
            · skip
              refine kb_iconst (v := (0 : Int32)) X dX3_readItem_55 (by decide) ?_
              refine ke_z X Z rfl dX3_readItem_56 ?_
              have e_ : iSyn t = false := by simp [iSyn, tOk, i1, i2, tSt, c1_, c3_, c5_, c7_, c9_, c11_]
              exact ⟨by rw [iOk, e_] <;> rfl, tRd (tNx (tRd (tNx (tRd (tNx t) 0)) 1)) 2, ⟨(same_rd (same_nx (same_rd (same_nx (same_rd (same_nx ⟨rfl, rfl⟩) 0)) 1)) 2).1, (same_rd (same_nx (same_rd (same_nx (same_rd (same_nx ⟨rfl, rfl⟩) 0)) 1)) 2).2, (TSI_rd (TSI_nx (TSI_rd (TSI_nx (TSI_rd (TSI_nx ht) 0)) 1)) 2), fun h => by rw [iOk, e_] at h; cases h⟩, by rw [iV, if_neg (by rw [e_]; decide)]⟩
            · skip
              refine kb_aload_n X 0 dX3_readItem_35 rfl rfl ?_
              refine kc_Vi X (As := []) (rest := []) (wr := List.flatten [wV g b v]) (ct_X3_next l g a (tRd (tNx (tRd (tNx (tRd (tNx t) 0)) 1)) 2) (TSI_rd (TSI_nx (TSI_rd (TSI_nx (TSI_rd (TSI_nx ht) 0)) 1)) 2)  (tRd_hp (tNx_hp (tRd_hp (tNx_hp (tRd_hp (tNx_hp hp) 0)) 1)) 2)) dX3_readItem_36 rfl (kw_pk [wT g a (tRd (tNx (tRd (tNx (tRd (tNx t) 0)) 1)) 2), wV g b v] 0 (Nat.le_of_ble_eq_true rfl)) mc_X3_next kl_X3_39 mi_X3_next mv_X3_next kn_X3 0 rfl rfl rfl (na := 0) (by decide +kernel) rfl ⟨Nat.le_of_ble_eq_true rfl, Nat.le_of_ble_eq_true rfl⟩ ⟨rfl, rfl⟩ ⟨Nat.le_of_ble_eq_true rfl, Nat.le_of_ble_eq_true rfl⟩ (Nat.le_of_ble_eq_true rfl) (fun r_ w_ hp_ => ?_)
              obtain ⟨rfl, rfl⟩ := hp_
              refine kw_perm (ws' := List.flatten [wT g a (tNx (tRd (tNx (tRd (tNx (tRd (tNx t) 0)) 1)) 2)), wV g b v]) (kw_pk [wT g a (tNx (tRd (tNx (tRd (tNx (tRd (tNx t) 0)) 1)) 2)), wV g b v] 0 (Nat.le_of_ble_eq_true rfl)).symm ?_
              refine kb_iload X 4 dX3_readItem_39 rfl ?_
              refine kb_iload_n X 3 dX3_readItem_41 rfl rfl ?_
              refine kb_icmp_ge (tgt := 50) X dX3_readItem_42 (by decide) (fun _ => ?_) (fun q_ => absurd q_ (by decide))
              refine kb_bipush (v := (59 : Int32)) X dX3_readItem_50 (by decide) ?_
              refine kn_icmp_eq (a := tCh (tRd (tNx (tRd (tNx (tRd (tNx t) 0)) 1)) 2)) (b := 59) (tgt := 57) X (by have := tCh_lt (TSI_rd (TSI_nx ht) 0); have := tCh_lt (TSI_rd (TSI_nx (TSI_rd (TSI_nx ht) 0)) 1); have := tCh_lt (TSI_rd (TSI_nx (TSI_rd (TSI_nx (TSI_rd (TSI_nx ht) 0)) 1)) 2); omega) (by decide) dX3_readItem_52 (by decide) (fun c13_ => ?_) (fun c13_ => ?_)
              · skip
                refine kb_iinc X 4 [1, 2, 3, 4, 0] (v' := (3 : Int32)) dX3_readItem_57 rfl (by decide) (by decide) (lv' := [(0, .ref (a 0)), (1, .ref (b 0)), (2, .int (nI (tCh t))), (3, .int 2), (4, .int 3)]) rfl ?_
                refine kb_goto (tgt := 20) X dX3_readItem_60 (by decide) ?_
                refine kb_iload X 4 dX3_readItem_20 rfl ?_
                refine kb_iload_n X 3 dX3_readItem_22 rfl rfl ?_
                refine kb_icmp_gt (tgt := 63) X dX3_readItem_23 (by decide) (fun _ => ?_) (fun q_ => absurd q_ (by decide))
                refine kb_aload_n X 0 dX3_readItem_63 rfl rfl ?_
                refine kb_aload_n X 1 dX3_readItem_64 rfl rfl ?_
                refine kb_iload_n X 2 dX3_readItem_65 rfl rfl ?_
                refine kc_Vi X (As := [.ref (b 0), .int (nI (tCh t))]) (rest := []) (wr := []) (ct_X3_tell l g a b (tNx (tRd (tNx (tRd (tNx (tRd (tNx t) 0)) 1)) 2)) v (TSI_nx (TSI_rd (TSI_nx (TSI_rd (TSI_nx (TSI_rd (TSI_nx ht) 0)) 1)) 2)) hv (tCh t) (by omega)) dX3_readItem_66 rfl (kw_pk2 [wT g a (tNx (tRd (tNx (tRd (tNx (tRd (tNx t) 0)) 1)) 2)), wV g b v] 0 0 (Nat.le_of_ble_eq_true rfl) (Nat.le_of_ble_eq_true rfl)) mc_X3_tell kl_X3_47 mi_X3_tell mv_X3_tell kn_X3 0 rfl rfl rfl (na := 2) (by decide +kernel) rfl ⟨Nat.le_of_ble_eq_true rfl, Nat.le_of_ble_eq_true rfl⟩ ⟨rfl, rfl⟩ ⟨Nat.le_of_ble_eq_true rfl, Nat.le_of_ble_eq_true rfl⟩ (Nat.le_of_ble_eq_true rfl) (fun r_ w_ hp_ => ?_)
                obtain ⟨rfl, rfl⟩ := hp_
                refine kw_perm (ws' := List.flatten [wT g a (tNx (tRd (tNx (tRd (tNx (tRd (tNx t) 0)) 1)) 2)), wV g b (tlV (tM (tNx (tRd (tNx (tRd (tNx (tRd (tNx t) 0)) 1)) 2))) v (tCh t))]) (kw_pk2 [wT g a (tNx (tRd (tNx (tRd (tNx (tRd (tNx t) 0)) 1)) 2)), wV g b (tlV (tM (tNx (tRd (tNx (tRd (tNx (tRd (tNx t) 0)) 1)) 2))) v (tCh t))] 0 0 (Nat.le_of_ble_eq_true rfl) (Nat.le_of_ble_eq_true rfl)).symm ?_
                refine ke_z X Z (zI_nar _) dX3_readItem_69 ?_
                have e_ : iSyn t = true := by simp [iSyn, tOk, i1, i2, tSt, c1_, c3_, c5_, c7_, c9_, c11_, c13_]
                have eT_ : iT t = tNx (tRd (tNx (tRd (tNx (tRd (tNx t) 0)) 1)) 2) := by rw [iT, if_neg c1_] <;> rfl
                exact ⟨by rw [iOk, e_, eT_] <;> rfl, tNx (tRd (tNx (tRd (tNx (tRd (tNx t) 0)) 1)) 2), ⟨(same_nx (same_rd (same_nx (same_rd (same_nx (same_rd (same_nx ⟨rfl, rfl⟩) 0)) 1)) 2)).1, (same_nx (same_rd (same_nx (same_rd (same_nx (same_rd (same_nx ⟨rfl, rfl⟩) 0)) 1)) 2)).2, (TSI_nx (TSI_rd (TSI_nx (TSI_rd (TSI_nx (TSI_rd (TSI_nx ht) 0)) 1)) 2)), fun _ => eT_.symm⟩, by rw [iV, if_pos e_, eT_]⟩
              · skip
                refine kb_iconst (v := (0 : Int32)) X dX3_readItem_55 (by decide) ?_
                refine ke_z X Z rfl dX3_readItem_56 ?_
                have e_ : iSyn t = false := by simp [iSyn, tOk, i1, i2, tSt, c1_, c3_, c5_, c7_, c9_, c11_, c13_]
                exact ⟨by rw [iOk, e_] <;> rfl, tNx (tRd (tNx (tRd (tNx (tRd (tNx t) 0)) 1)) 2), ⟨(same_nx (same_rd (same_nx (same_rd (same_nx (same_rd (same_nx ⟨rfl, rfl⟩) 0)) 1)) 2)).1, (same_nx (same_rd (same_nx (same_rd (same_nx (same_rd (same_nx ⟨rfl, rfl⟩) 0)) 1)) 2)).2, (TSI_nx (TSI_rd (TSI_nx (TSI_rd (TSI_nx (TSI_rd (TSI_nx ht) 0)) 1)) 2)), fun h => by rw [iOk, e_] at h; cases h⟩, by rw [iV, if_neg (by rw [e_]; decide)]⟩
          · skip
            refine kb_iconst (v := (0 : Int32)) X dX3_readItem_55 (by decide) ?_
            refine ke_z X Z rfl dX3_readItem_56 ?_
            have e_ : iSyn t = false := by simp [iSyn, tOk, i1, i2, tSt, c1_, c3_, c5_, c7_, c9_]
            exact ⟨by rw [iOk, e_] <;> rfl, tNx (tRd (tNx (tRd (tNx t) 0)) 1), ⟨(same_nx (same_rd (same_nx (same_rd (same_nx ⟨rfl, rfl⟩) 0)) 1)).1, (same_nx (same_rd (same_nx (same_rd (same_nx ⟨rfl, rfl⟩) 0)) 1)).2, (TSI_nx (TSI_rd (TSI_nx (TSI_rd (TSI_nx ht) 0)) 1)), fun h => by rw [iOk, e_] at h; cases h⟩, by rw [iV, if_neg (by rw [e_]; decide)]⟩
      · skip
        refine kb_iconst (v := (0 : Int32)) X dX3_readItem_55 (by decide) ?_
        refine ke_z X Z rfl dX3_readItem_56 ?_
        have e_ : iSyn t = false := by simp [iSyn, tOk, i1, i2, tSt, c1_, c3_, c5_]
        exact ⟨by rw [iOk, e_] <;> rfl, tNx (tRd (tNx t) 0), ⟨(same_nx (same_rd (same_nx ⟨rfl, rfl⟩) 0)).1, (same_nx (same_rd (same_nx ⟨rfl, rfl⟩) 0)).2, (TSI_nx (TSI_rd (TSI_nx ht) 0)), fun h => by rw [iOk, e_] at h; cases h⟩, by rw [iV, if_neg (by rw [e_]; decide)]⟩
  · skip
    refine kb_iconst (v := (0 : Int32)) X dX3_readItem_11 (by decide) ?_
    refine kb_goto (tgt := 16) X dX3_readItem_12 (by decide) ?_
    refine kb_istore_n X [1, 2, 3, 0] dX3_readItem_16 rfl (by decide) (lv' := [(0, .ref (a 0)), (1, .ref (b 0)), (2, .int (nI (tCh t))), (3, .int 0)]) rfl ?_
    refine kb_iconst (v := (0 : Int32)) X dX3_readItem_17 (by decide) ?_
    refine kb_istore X [1, 2, 3, 4, 0] dX3_readItem_18 (by decide) (lv' := [(0, .ref (a 0)), (1, .ref (b 0)), (2, .int (nI (tCh t))), (3, .int 0), (4, .int 0)]) rfl ?_
    refine kb_iload X 4 dX3_readItem_20 rfl ?_
    refine kb_iload_n X 3 dX3_readItem_22 rfl rfl ?_
    refine kb_icmp_gt (tgt := 63) X dX3_readItem_23 (by decide) (fun q_ => absurd q_ (by decide)) (fun _ => ?_)
    refine kb_aload_n X 0 dX3_readItem_26 rfl rfl ?_
    refine kb_iload X 4 dX3_readItem_27 rfl ?_
    refine kc_Vi X (As := [.int 0]) (rest := []) (wr := List.flatten [wV g b v]) (ct_X3_readNumber l g a (tNx t) (TSI_nx ht) 0 (by omega) (tNx_hp hp)) dX3_readItem_29 rfl (kw_pk [wT g a (tNx t), wV g b v] 0 (Nat.le_of_ble_eq_true rfl)) mc_X3_readNumber kl_X3_43 mi_X3_readNumber mv_X3_readNumber kn_X3 0 rfl rfl rfl (na := 1) (by decide +kernel) rfl ⟨Nat.le_of_ble_eq_true rfl, Nat.le_of_ble_eq_true rfl⟩ ⟨rfl, rfl⟩ ⟨Nat.le_of_ble_eq_true rfl, Nat.le_of_ble_eq_true rfl⟩ (Nat.le_of_ble_eq_true rfl) (fun r_ w_ hp_ => ?_)
    obtain ⟨rfl, rfl⟩ := hp_
    refine kw_perm (ws' := List.flatten [wT g a (tRd (tNx t) 0), wV g b v]) (kw_pk [wT g a (tRd (tNx t) 0), wV g b v] 0 (Nat.le_of_ble_eq_true rfl)).symm ?_
    refine kz_if_eq (b := tFig (tNx t)) (tgt := 55) X dX3_readItem_32 (by decide) (fun c16_ => ?_) (fun c16_ => ?_)
    · skip
      refine kb_iconst (v := (0 : Int32)) X dX3_readItem_55 (by decide) ?_
      refine ke_z X Z rfl dX3_readItem_56 ?_
      have e_ : iSyn t = false := by simp [iSyn, tOk, i1, i2, tSt, c1_, c16_]
      exact ⟨by rw [iOk, e_] <;> rfl, tRd (tNx t) 0, ⟨(same_rd (same_nx ⟨rfl, rfl⟩) 0).1, (same_rd (same_nx ⟨rfl, rfl⟩) 0).2, (TSI_rd (TSI_nx ht) 0), fun h => by rw [iOk, e_] at h; cases h⟩, by rw [iV, if_neg (by rw [e_]; decide)]⟩
    · skip
      refine kb_aload_n X 0 dX3_readItem_35 rfl rfl ?_
      refine kc_Vi X (As := []) (rest := []) (wr := List.flatten [wV g b v]) (ct_X3_next l g a (tRd (tNx t) 0) (TSI_rd (TSI_nx ht) 0)  (tRd_hp (tNx_hp hp) 0)) dX3_readItem_36 rfl (kw_pk [wT g a (tRd (tNx t) 0), wV g b v] 0 (Nat.le_of_ble_eq_true rfl)) mc_X3_next kl_X3_39 mi_X3_next mv_X3_next kn_X3 0 rfl rfl rfl (na := 0) (by decide +kernel) rfl ⟨Nat.le_of_ble_eq_true rfl, Nat.le_of_ble_eq_true rfl⟩ ⟨rfl, rfl⟩ ⟨Nat.le_of_ble_eq_true rfl, Nat.le_of_ble_eq_true rfl⟩ (Nat.le_of_ble_eq_true rfl) (fun r_ w_ hp_ => ?_)
      obtain ⟨rfl, rfl⟩ := hp_
      refine kw_perm (ws' := List.flatten [wT g a (tNx (tRd (tNx t) 0)), wV g b v]) (kw_pk [wT g a (tNx (tRd (tNx t) 0)), wV g b v] 0 (Nat.le_of_ble_eq_true rfl)).symm ?_
      refine kb_iload X 4 dX3_readItem_39 rfl ?_
      refine kb_iload_n X 3 dX3_readItem_41 rfl rfl ?_
      refine kb_icmp_ge (tgt := 50) X dX3_readItem_42 (by decide) (fun _ => ?_) (fun q_ => absurd q_ (by decide))
      refine kb_bipush (v := (59 : Int32)) X dX3_readItem_50 (by decide) ?_
      refine kn_icmp_eq (a := tCh (tRd (tNx t) 0)) (b := 59) (tgt := 57) X (by have := tCh_lt (TSI_rd (TSI_nx ht) 0); have := tCh_lt (TSI_rd (TSI_nx (TSI_rd (TSI_nx ht) 0)) 1); have := tCh_lt (TSI_rd (TSI_nx (TSI_rd (TSI_nx (TSI_rd (TSI_nx ht) 0)) 1)) 2); omega) (by decide) dX3_readItem_52 (by decide) (fun c18_ => ?_) (fun c18_ => ?_)
      · skip
        refine kb_iinc X 4 [1, 2, 3, 4, 0] (v' := (1 : Int32)) dX3_readItem_57 rfl (by decide) (by decide) (lv' := [(0, .ref (a 0)), (1, .ref (b 0)), (2, .int (nI (tCh t))), (3, .int 0), (4, .int 1)]) rfl ?_
        refine kb_goto (tgt := 20) X dX3_readItem_60 (by decide) ?_
        refine kb_iload X 4 dX3_readItem_20 rfl ?_
        refine kb_iload_n X 3 dX3_readItem_22 rfl rfl ?_
        refine kb_icmp_gt (tgt := 63) X dX3_readItem_23 (by decide) (fun _ => ?_) (fun q_ => absurd q_ (by decide))
        refine kb_aload_n X 0 dX3_readItem_63 rfl rfl ?_
        refine kb_aload_n X 1 dX3_readItem_64 rfl rfl ?_
        refine kb_iload_n X 2 dX3_readItem_65 rfl rfl ?_
        refine kc_Vi X (As := [.ref (b 0), .int (nI (tCh t))]) (rest := []) (wr := []) (ct_X3_tell l g a b (tNx (tRd (tNx t) 0)) v (TSI_nx (TSI_rd (TSI_nx ht) 0)) hv (tCh t) (by omega)) dX3_readItem_66 rfl (kw_pk2 [wT g a (tNx (tRd (tNx t) 0)), wV g b v] 0 0 (Nat.le_of_ble_eq_true rfl) (Nat.le_of_ble_eq_true rfl)) mc_X3_tell kl_X3_47 mi_X3_tell mv_X3_tell kn_X3 0 rfl rfl rfl (na := 2) (by decide +kernel) rfl ⟨Nat.le_of_ble_eq_true rfl, Nat.le_of_ble_eq_true rfl⟩ ⟨rfl, rfl⟩ ⟨Nat.le_of_ble_eq_true rfl, Nat.le_of_ble_eq_true rfl⟩ (Nat.le_of_ble_eq_true rfl) (fun r_ w_ hp_ => ?_)
        obtain ⟨rfl, rfl⟩ := hp_
        refine kw_perm (ws' := List.flatten [wT g a (tNx (tRd (tNx t) 0)), wV g b (tlV (tM (tNx (tRd (tNx t) 0))) v (tCh t))]) (kw_pk2 [wT g a (tNx (tRd (tNx t) 0)), wV g b (tlV (tM (tNx (tRd (tNx t) 0))) v (tCh t))] 0 0 (Nat.le_of_ble_eq_true rfl) (Nat.le_of_ble_eq_true rfl)).symm ?_
        refine ke_z X Z (zI_nar _) dX3_readItem_69 ?_
        have e_ : iSyn t = true := by simp [iSyn, tOk, i1, i2, tSt, c1_, c16_, c18_]
        have eT_ : iT t = tNx (tRd (tNx t) 0) := by rw [iT, if_pos c1_] <;> rfl
        exact ⟨by rw [iOk, e_, eT_] <;> rfl, tNx (tRd (tNx t) 0), ⟨(same_nx (same_rd (same_nx ⟨rfl, rfl⟩) 0)).1, (same_nx (same_rd (same_nx ⟨rfl, rfl⟩) 0)).2, (TSI_nx (TSI_rd (TSI_nx ht) 0)), fun _ => eT_.symm⟩, by rw [iV, if_pos e_, eT_]⟩
      · skip
        refine kb_iconst (v := (0 : Int32)) X dX3_readItem_55 (by decide) ?_
        refine ke_z X Z rfl dX3_readItem_56 ?_
        have e_ : iSyn t = false := by simp [iSyn, tOk, i1, i2, tSt, c1_, c16_, c18_]
        exact ⟨by rw [iOk, e_] <;> rfl, tNx (tRd (tNx t) 0), ⟨(same_nx (same_rd (same_nx ⟨rfl, rfl⟩) 0)).1, (same_nx (same_rd (same_nx ⟨rfl, rfl⟩) 0)).2, (TSI_nx (TSI_rd (TSI_nx ht) 0)), fun h => by rw [iOk, e_] at h; cases h⟩, by rw [iV, if_neg (by rw [e_]; decide)]⟩

set_option maxHeartbeats 4000000 in
set_option maxRecDepth 100000 in
theorem ct_X3_readInto (l : Launch) (g : kw_G) (a b : Nat → Nat) (t : TS) (v : VS) (ht : TSI t) : kMi l g yX3_readInto cX3_readInto 4 .int (kw_rm 6 0 0) 0 0 [.ref (a 0), .ref (b 0)] (List.flatten [wT g a t, wV g b v]) (fun r w => r = (rd 200 (sTp t 0) vE).1 ∧ ∃ t', (tL t' = tL t ∧ tN t' = tN t ∧ TSI t') ∧ w = List.flatten [wT g a t', wV g b (rd 200 (sTp t 0) vE).2]) := by
  refine kMi_of (by decide +kernel) (Nat.le_of_ble_eq_true rfl) (fun x (X : kX l g RX3 cX3_readInto 4 (kw_rm 6 0 0) x) (Z : kZi .int _ 0 0 x) => ?_)
  show kW x 0 0 0 [(0, .ref (a 0)), (1, .ref (b 0))] [] (List.flatten [wT g a t, wV g b v])
  refine kb_aload_n X 1 dX3_readInto_0 rfl rfl ?_
  refine kc_Vv X (As := []) (rest := []) (wr := List.flatten [wT g a t]) (ct_X4_empty l g b v  ) dX3_readInto_1 rfl (kw_pk [wT g a t, wV g b v] 1 (Nat.le_of_ble_eq_true rfl)) mc_X4_empty kl_X3_30 mi_X4_empty mv_X4_empty kn_X4 0 rfl rfl rfl (na := 0) (by decide +kernel) rfl ⟨Nat.le_of_ble_eq_true rfl, Nat.le_of_ble_eq_true rfl⟩ ⟨rfl, rfl⟩ ⟨Nat.le_of_ble_eq_true rfl, Nat.le_of_ble_eq_true rfl⟩ (Nat.le_of_ble_eq_true rfl) (fun w_ hp_ => ?_)
  obtain rfl := hp_
  refine kw_perm (ws' := List.flatten [wT g a t, wV g b vE]) (kw_pk [wT g a t, wV g b vE] 1 (Nat.le_of_ble_eq_true rfl)).symm ?_
  refine kb_aload_n X 0 dX3_readInto_4 rfl rfl ?_
  refine kb_iconst (v := (0 : Int32)) X dX3_readInto_5 (by decide) ?_
  refine kf_put (C := RX3) (T := TX3) (N := 4) (ci := 3) (ty := .int) (B' := wT g a (sTp t 0)) (L' := [wT g a (sTp t 0), wV g b vE]) X kw_iX3 tyX3 tyX3_ok nmX3 rfl 3 0 0 rfl rfl (by decide) kf_X3_23 rfl rfl (by decide +kernel) rfl rfl (Nat.le_of_ble_eq_true rfl) dX3_readInto_6 rfl rfl ?_
  refine kb_iconst (v := (0 : Int32)) X dX3_readInto_9 (by decide) ?_
  refine kb_istore_n X [1, 2, 0] dX3_readInto_10 rfl (by decide) (lv' := [(0, .ref (a 0)), (1, .ref (b 0)), (2, .int 0)]) rfl ?_
  have L11 : ∀ (K_ i : Nat) (u : TS) (z : VS), i + K_ = 200 ∧ TSI u ∧ tP u ≤ tN u ∧ (tL u = tL t ∧ tN u = tN t) ∧ VI z ∧ rd 200 (sTp t 0) vE = rd K_ u z → kW x 0 0 11 [(0, .ref (a 0)), (1, .ref (b 0)), (2, .int (nI (i)))] [] (List.flatten [wT g a u, wV g b z]) := by
    intro K_
    induction K_ with
    | zero =>
      intro i u z hh
      obtain ⟨hi, hu, hpu, hS, hz, hr⟩ := id hh
      have hu1 := hu.1
      refine kb_iload_n X 2 dX3_readInto_11 rfl rfl ?_
      refine kb_sipush (v := (200 : Int32)) X dX3_readInto_12 (by decide) ?_
      refine kn_icmp_ge (a := i) (b := 200) (tgt := 50) X (by omega) (by omega) dX3_readInto_15 (by decide) (fun c1_ => ?_) (fun c1_ => ?_)
      · skip
        refine kb_bipush (v := (-4 : Int32)) X dX3_readInto_50 (by decide) ?_
        refine ke_i X Z dX3_readInto_52 ?_
        exact ⟨by rw [hr] <;> rfl, u, ⟨hS.1, hS.2, hu⟩, by rw [hr] <;> rfl⟩
      · skip
        omega
    | succ K_ ih =>
      intro i u z hh
      obtain ⟨hi, hu, hpu, hS, hz, hr⟩ := id hh
      have hu1 := hu.1
      refine kb_iload_n X 2 dX3_readInto_11 rfl rfl ?_
      refine kb_sipush (v := (200 : Int32)) X dX3_readInto_12 (by decide) ?_
      refine kn_icmp_ge (a := i) (b := 200) (tgt := 50) X (by omega) (by omega) dX3_readInto_15 (by decide) (fun c2_ => ?_) (fun c2_ => ?_)
      · skip
        omega
      · skip
        refine kb_aload_n X 0 dX3_readInto_18 rfl rfl ?_
        refine kf_get (v := .int (nI (tP u))) (C := RX3) (T := TX3) (N := 4) (ci := 3) X kw_iX3 rfl 3 0 0 rfl rfl (by decide) kf_X3_23 rfl rfl dX3_readInto_19 ?_
        refine kb_aload_n X 0 dX3_readInto_22 rfl rfl ?_
        refine kf_get (v := .int (nI (tN u))) (C := RX3) (T := TX3) (N := 4) (ci := 3) X kw_iX3 rfl 2 0 0 rfl rfl (by decide) kf_X3_19 rfl rfl dX3_readInto_23 ?_
        refine kn_icmp_ge (a := tP u) (b := tN u) (tgt := 50) X (by omega) (by omega) dX3_readInto_26 (by decide) (fun c3_ => ?_) (fun c3_ => ?_)
        · skip
          refine kb_bipush (v := (-4 : Int32)) X dX3_readInto_50 (by decide) ?_
          refine ke_i X Z dX3_readInto_52 ?_
          exact ⟨by rw [hr, rd, if_neg (by omega)] <;> rfl, u, ⟨hS.1, hS.2, hu⟩, by rw [hr, rd, if_neg (by omega)] <;> rfl⟩
        · skip
          refine kb_aload_n X 0 dX3_readInto_29 rfl rfl ?_
          refine kf_get (v := .int (nI (tP u))) (C := RX3) (T := TX3) (N := 4) (ci := 3) X kw_iX3 rfl 3 0 0 rfl rfl (by decide) kf_X3_23 rfl rfl dX3_readInto_30 ?_
          refine kb_istore_n X [1, 2, 3, 0] dX3_readInto_33 rfl (by decide) (lv' := [(0, .ref (a 0)), (1, .ref (b 0)), (2, .int (nI (i))), (3, .int (nI (tP u)))]) rfl ?_
          refine kb_aload_n X 0 dX3_readInto_34 rfl rfl ?_
          refine kb_aload_n X 1 dX3_readInto_35 rfl rfl ?_
          refine kc_Vi X (As := [.ref (b 0)]) (rest := []) (wr := []) (ct_X3_readItem l g a b u z hu hz hpu) dX3_readInto_36 rfl (kw_pk2 [wT g a u, wV g b z] 0 0 (Nat.le_of_ble_eq_true rfl) (Nat.le_of_ble_eq_true rfl)) mc_X3_readItem kl_X3_35 mi_X3_readItem mv_X3_readItem kn_X3 0 rfl rfl rfl (na := 1) (by decide +kernel) rfl ⟨Nat.le_of_ble_eq_true rfl, Nat.le_of_ble_eq_true rfl⟩ ⟨rfl, rfl⟩ ⟨Nat.le_of_ble_eq_true rfl, Nat.le_of_ble_eq_true rfl⟩ (Nat.le_of_ble_eq_true rfl) (fun r_ w_ hp_ => ?_)
          obtain ⟨rfl, t_, ⟨hL_, hN_, hT_, hE_⟩, rfl⟩ := hp_
          refine kw_perm (ws' := List.flatten [wT g a t_, wV g b (iV u z)]) (kw_pk2 [wT g a t_, wV g b (iV u z)] 0 0 (Nat.le_of_ble_eq_true rfl) (Nat.le_of_ble_eq_true rfl)).symm ?_
          refine kz_if_ne (b := iOk u z) (tgt := 44) X dX3_readInto_39 (by decide) (fun c4_ => ?_) (fun c4_ => ?_)
          · skip
            refine kw_lvs [0, 1, 2] (lv' := [(0, .ref (a 0)), (1, .ref (b 0)), (2, .int (nI (i)))]) rfl ?_
            refine kb_iinc X 2 [1, 2, 0] (v' := nI (i + 1)) dX3_readInto_44 rfl (nI_add _ _) (by decide) (lv' := [(0, .ref (a 0)), (1, .ref (b 0)), (2, .int (nI (i + 1)))]) rfl ?_
            refine kb_goto (tgt := 11) X dX3_readInto_47 (by decide) ?_
            exact kw_to (ih (i + 1) t_ (iV u z) ⟨by omega, hT_, by rw [hE_ c4_]; exact iT_hp hpu, ⟨hL_.trans hS.1, hN_.trans hS.2⟩, VI_iV hz, by rw [hr, rd, if_pos c3_, if_pos c4_, hE_ c4_]⟩) rfl rfl rfl
          · skip
            refine kb_iload_n X 3 dX3_readInto_42 rfl rfl ?_
            refine ke_i X Z dX3_readInto_43 ?_
            exact ⟨by rw [hr, rd, if_pos c3_, if_neg (by simp [c4_])], t_, ⟨hL_.trans hS.1, hN_.trans hS.2, hT_⟩, by rw [hr, rd, if_pos c3_, if_neg (by simp [c4_]), iV_no c4_]⟩
  exact kw_to (L11 200 0 (sTp t 0) vE ⟨rfl, ht, Nat.zero_le _, ⟨rfl, rfl⟩, VI_vE, rfl⟩) rfl rfl rfl
