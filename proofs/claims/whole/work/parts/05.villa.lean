set_option maxHeartbeats 4000000 in
set_option maxRecDepth 100000 in
theorem ct_X5_contains (l : Launch) (g : kw_G) (s p : Nat) (hs : s < 64) (hp : p < 31) : kMi l g yX5_contains cX5_contains 2 .boolean (kw_rm 1 0 0) 0 0 [.int (nI (s)), .int (nI (p))] ([]) (fun r w => r = zI (s.testBit p) ∧ w = []) := by
  refine kMi_of (by decide +kernel) (Nat.le_of_ble_eq_true rfl) (fun x (X : kX l g RX5 cX5_contains 2 (kw_rm 1 0 0) x) (Z : kZi .boolean _ 0 0 x) => ?_)
  show kW x 0 0 0 [(0, .int (nI (s))), (1, .int (nI (p)))] [] []
  refine kb_iload_n X 0 dX5_contains_0 rfl rfl ?_
  refine kb_iload_n X 1 dX5_contains_1 rfl rfl ?_
  refine kb_ishr X dX5_contains_2 ?_
  refine kb_iconst (v := (1 : Int32)) X dX5_contains_3 (by decide) ?_
  refine kb_iand X dX5_contains_4 ?_
  refine kw_top (b := .int (zI (s.testBit p))) (by rw [tb_shr s p (by omega) hp]) ?_
  refine kb_iconst (v := (1 : Int32)) X dX5_contains_5 (by decide) ?_
  refine kz_icmp_ne1 (b := s.testBit p) (tgt := 13) X dX5_contains_6 (by decide) (fun c1_ => ?_) (fun c1_ => ?_)
  · skip
    refine kb_iconst (v := (0 : Int32)) X dX5_contains_13 (by decide) ?_
    refine ke_z X Z rfl dX5_contains_14 ?_
    exact ⟨(by first | rfl | (simp [zI, c1_]; done) | (simp [zI, c1_] <;> omega) | (simp_all [zI, c1_]; done)), (by first | rfl | (simp [zI, c1_]; done) | (simp [zI, c1_] <;> omega) | (simp_all [zI, c1_]; done))⟩
  · skip
    refine kb_iconst (v := (1 : Int32)) X dX5_contains_9 (by decide) ?_
    refine kb_goto (tgt := 14) X dX5_contains_10 (by decide) ?_
    refine ke_z X Z rfl dX5_contains_14 ?_
    exact ⟨(by first | rfl | (simp [zI, c1_]; done) | (simp [zI, c1_] <;> omega) | (simp_all [zI, c1_]; done)), (by first | rfl | (simp [zI, c1_]; done) | (simp [zI, c1_] <;> omega) | (simp_all [zI, c1_]; done))⟩

set_option maxHeartbeats 4000000 in
set_option maxRecDepth 100000 in
theorem ct_X5_costOf (l : Launch) (g : kw_G) (b c : Int32) : kMi l g yX5_costOf cX5_costOf 2 .int (kw_rm 1 0 0) 0 0 [.int (b), .int (c)] ([]) (fun r w => r = wCost b c ∧ w = []) := by
  refine kMi_of (by decide +kernel) (Nat.le_of_ble_eq_true rfl) (fun x (X : kX l g RX5 cX5_costOf 2 (kw_rm 1 0 0) x) (Z : kZi .int _ 0 0 x) => ?_)
  show kW x 0 0 0 [(0, .int (b)), (1, .int (c))] [] []
  refine kb_iconst (v := (2 : Int32)) X dX5_costOf_0 (by decide) ?_
  refine kb_iload_n X 0 dX5_costOf_1 rfl rfl ?_
  refine kb_imul X dX5_costOf_2 ?_
  refine kb_iconst (v := (3 : Int32)) X dX5_costOf_3 (by decide) ?_
  refine kb_iload_n X 1 dX5_costOf_4 rfl rfl ?_
  refine kb_imul X dX5_costOf_5 ?_
  refine kb_iadd X dX5_costOf_6 ?_
  refine ke_i X Z dX5_costOf_7 ?_
  exact ⟨(by first | rfl | (simp [zI, ]; done) | (simp [zI, ] <;> omega) | (simp_all [zI, ]; done)), (by first | rfl | (simp [zI, ]; done) | (simp [zI, ] <;> omega) | (simp_all [zI, ]; done))⟩

set_option maxHeartbeats 4000000 in
set_option maxRecDepth 100000 in
theorem ct_J9_max_7cf53 (l : Launch) (g : kw_G) (p q : Int32) : kMi l g yJ9_max_7cf53 cJ9_max_7cf53 2 .int (kw_rm 1 0 0) 0 0 [.int (p), .int (q)] ([]) (fun r w => r = mx p q ∧ w = []) := by
  refine kMi_of (by decide +kernel) (Nat.le_of_ble_eq_true rfl) (fun x (X : kX l g RJ9 cJ9_max_7cf53 2 (kw_rm 1 0 0) x) (Z : kZi .int _ 0 0 x) => ?_)
  show kW x 0 0 0 [(0, .int (p)), (1, .int (q))] [] []
  refine kb_iload_n X 0 dJ9_max_7cf53_0 rfl rfl ?_
  refine kb_iload_n X 1 dJ9_max_7cf53_1 rfl rfl ?_
  refine kb_icmp_lt (tgt := 9) X dJ9_max_7cf53_2 (by decide) (fun c1_ => ?_) (fun c1_ => ?_)
  · skip
    refine kb_iload_n X 1 dJ9_max_7cf53_9 rfl rfl ?_
    refine ke_i X Z dJ9_max_7cf53_10 ?_
    exact ⟨(by first | rfl | (simp [zI, mx, c1_]; done) | (simp [zI, mx, c1_] <;> omega) | (simp_all [zI, mx, c1_]; done)), (by first | rfl | (simp [zI, mx, c1_]; done) | (simp [zI, mx, c1_] <;> omega) | (simp_all [zI, mx, c1_]; done))⟩
  · skip
    refine kb_iload_n X 0 dJ9_max_7cf53_5 rfl rfl ?_
    refine kb_goto (tgt := 10) X dJ9_max_7cf53_6 (by decide) ?_
    refine ke_i X Z dJ9_max_7cf53_10 ?_
    exact ⟨(by first | rfl | (simp [zI, mx, c1_]; done) | (simp [zI, mx, c1_] <;> omega) | (simp_all [zI, mx, c1_]; done)), (by first | rfl | (simp [zI, mx, c1_]; done) | (simp [zI, mx, c1_] <;> omega) | (simp_all [zI, mx, c1_]; done))⟩

set_option maxHeartbeats 4000000 in
set_option maxRecDepth 100000 in
theorem ct_J9_min_7cf53 (l : Launch) (g : kw_G) (p q : Int32) : kMi l g yJ9_min_7cf53 cJ9_min_7cf53 2 .int (kw_rm 1 0 0) 0 0 [.int (p), .int (q)] ([]) (fun r w => r = mn p q ∧ w = []) := by
  refine kMi_of (by decide +kernel) (Nat.le_of_ble_eq_true rfl) (fun x (X : kX l g RJ9 cJ9_min_7cf53 2 (kw_rm 1 0 0) x) (Z : kZi .int _ 0 0 x) => ?_)
  show kW x 0 0 0 [(0, .int (p)), (1, .int (q))] [] []
  refine kb_iload_n X 0 dJ9_min_7cf53_0 rfl rfl ?_
  refine kb_iload_n X 1 dJ9_min_7cf53_1 rfl rfl ?_
  refine kb_icmp_gt (tgt := 9) X dJ9_min_7cf53_2 (by decide) (fun c1_ => ?_) (fun c1_ => ?_)
  · skip
    refine kb_iload_n X 1 dJ9_min_7cf53_9 rfl rfl ?_
    refine ke_i X Z dJ9_min_7cf53_10 ?_
    exact ⟨(by first | rfl | (simp [zI, mn, c1_]; done) | (simp [zI, mn, c1_] <;> omega) | (simp_all [zI, mn, c1_]; done)), (by first | rfl | (simp [zI, mn, c1_]; done) | (simp [zI, mn, c1_] <;> omega) | (simp_all [zI, mn, c1_]; done))⟩
  · skip
    refine kb_iload_n X 0 dJ9_min_7cf53_5 rfl rfl ?_
    refine kb_goto (tgt := 10) X dJ9_min_7cf53_6 (by decide) ?_
    refine ke_i X Z dJ9_min_7cf53_10 ?_
    exact ⟨(by first | rfl | (simp [zI, mn, c1_]; done) | (simp [zI, mn, c1_] <;> omega) | (simp_all [zI, mn, c1_]; done)), (by first | rfl | (simp [zI, mn, c1_]; done) | (simp [zI, mn, c1_] <;> omega) | (simp_all [zI, mn, c1_]; done))⟩

set_option maxHeartbeats 4000000 in
set_option maxRecDepth 100000 in
theorem ct_X4_has (l : Launch) (g : kw_G) (a : Nat → Nat) (v : VS) (p : Int32) : kMi l g yX4_has cX4_has 2 .boolean (kw_rm 1 0 0) 0 0 [.ref (a 0), .int (p)] (wV g a v) (fun r w => r = zI (pin p (vN v)) ∧ w = wV g a v) := by
  refine kMi_of (by decide +kernel) (Nat.le_of_ble_eq_true rfl) (fun x (X : kX l g RX4 cX4_has 2 (kw_rm 1 0 0) x) (Z : kZi .boolean _ 0 0 x) => ?_)
  show kW x 0 0 0 [(0, .ref (a 0)), (1, .int (p))] [] (wV g a v)
  refine kb_iload_n X 1 dX4_has_0 rfl rfl ?_
  refine kb_if_lt (tgt := 16) X dX4_has_1 (by decide) (fun c1_ => ?_) (fun c1_ => ?_)
  · skip
    refine kb_iconst (v := (0 : Int32)) X dX4_has_16 (by decide) ?_
    refine ke_z X Z rfl dX4_has_17 ?_
    exact ⟨(by first | rfl | (simp [zI, pin, c1_]; done) | (simp [zI, pin, c1_] <;> omega) | (simp_all [zI, pin, c1_]; done)), (by first | rfl | (simp [zI, pin, c1_]; done) | (simp [zI, pin, c1_] <;> omega) | (simp_all [zI, pin, c1_]; done))⟩
  · skip
    refine kb_iload_n X 1 dX4_has_4 rfl rfl ?_
    refine kb_aload_n X 0 dX4_has_5 rfl rfl ?_
    refine kb_get (v := .int (nI (vN v))) (C := RX4) (T := TX4) (N := 11) (ci := 4) X kw_iX4 rfl 0 5 rfl (by decide) kf_X4_27 rfl rfl dX4_has_6 ?_
    refine kb_icmp_ge (tgt := 16) X dX4_has_9 (by decide) (fun c2_ => ?_) (fun c2_ => ?_)
    · skip
      refine kb_iconst (v := (0 : Int32)) X dX4_has_16 (by decide) ?_
      refine ke_z X Z rfl dX4_has_17 ?_
      exact ⟨(by first | rfl | (simp [zI, pin, c1_, c2_]; done) | (simp [zI, pin, c1_, c2_] <;> omega) | (simp_all [zI, pin, c1_, c2_]; done)), (by first | rfl | (simp [zI, pin, c1_, c2_]; done) | (simp [zI, pin, c1_, c2_] <;> omega) | (simp_all [zI, pin, c1_, c2_]; done))⟩
    · skip
      refine kb_iconst (v := (1 : Int32)) X dX4_has_12 (by decide) ?_
      refine kb_goto (tgt := 17) X dX4_has_13 (by decide) ?_
      refine ke_z X Z rfl dX4_has_17 ?_
      exact ⟨(by first | rfl | (simp [zI, pin, c1_, c2_]; done) | (simp [zI, pin, c1_, c2_] <;> omega) | (simp_all [zI, pin, c1_, c2_]; done)), (by first | rfl | (simp [zI, pin, c1_, c2_]; done) | (simp [zI, pin, c1_, c2_] <;> omega) | (simp_all [zI, pin, c1_, c2_]; done))⟩

set_option maxHeartbeats 4000000 in
set_option maxRecDepth 100000 in
theorem ct_X4_hasTwo (l : Launch) (g : kw_G) (a : Nat → Nat) (v : VS) (p q : Int32) : kMi l g yX4_hasTwo cX4_hasTwo 3 .boolean (kw_rm 2 0 0) 0 0 [.ref (a 0), .int (p), .int (q)] (wV g a v) (fun r w => r = zI (two p q (vN v)) ∧ w = wV g a v) := by
  refine kMi_of (by decide +kernel) (Nat.le_of_ble_eq_true rfl) (fun x (X : kX l g RX4 cX4_hasTwo 3 (kw_rm 2 0 0) x) (Z : kZi .boolean _ 0 0 x) => ?_)
  show kW x 0 0 0 [(0, .ref (a 0)), (1, .int (p)), (2, .int (q))] [] (wV g a v)
  refine kb_aload_n X 0 dX4_hasTwo_0 rfl rfl ?_
  refine kb_iload_n X 1 dX4_hasTwo_1 rfl rfl ?_
  refine kc_Vi X (As := [.int (p)]) (rest := []) (wr := []) (ct_X4_has l g a v p ) dX4_hasTwo_2 rfl (kw_pall _) mc_X4_has kl_X4_64 mi_X4_has mv_X4_has kn_X4 0 rfl rfl rfl (na := 1) (by decide +kernel) rfl ⟨Nat.le_of_ble_eq_true rfl, Nat.le_of_ble_eq_true rfl⟩ ⟨rfl, rfl⟩ ⟨Nat.le_of_ble_eq_true rfl, Nat.le_of_ble_eq_true rfl⟩ (Nat.le_of_ble_eq_true rfl) (fun r_ w_ hp_ => ?_)
  obtain ⟨rfl, rfl⟩ := hp_
  refine kw_ws (List.append_nil _) ?_
  refine kz_if_eq (b := pin p (vN v)) (tgt := 25) X dX4_hasTwo_5 (by decide) (fun c1_ => ?_) (fun c1_ => ?_)
  · skip
    refine kb_iconst (v := (0 : Int32)) X dX4_hasTwo_25 (by decide) ?_
    refine ke_z X Z rfl dX4_hasTwo_26 ?_
    exact ⟨(by first | rfl | (simp [zI, two, c1_]; done) | (simp [zI, two, c1_] <;> omega) | (simp_all [zI, two, c1_]; done)), (by first | rfl | (simp [zI, two, c1_]; done) | (simp [zI, two, c1_] <;> omega) | (simp_all [zI, two, c1_]; done))⟩
  · skip
    refine kb_aload_n X 0 dX4_hasTwo_8 rfl rfl ?_
    refine kb_iload_n X 2 dX4_hasTwo_9 rfl rfl ?_
    refine kc_Vi X (As := [.int (q)]) (rest := []) (wr := []) (ct_X4_has l g a v q ) dX4_hasTwo_10 rfl (kw_pall _) mc_X4_has kl_X4_64 mi_X4_has mv_X4_has kn_X4 0 rfl rfl rfl (na := 1) (by decide +kernel) rfl ⟨Nat.le_of_ble_eq_true rfl, Nat.le_of_ble_eq_true rfl⟩ ⟨rfl, rfl⟩ ⟨Nat.le_of_ble_eq_true rfl, Nat.le_of_ble_eq_true rfl⟩ (Nat.le_of_ble_eq_true rfl) (fun r_ w_ hp_ => ?_)
    obtain ⟨rfl, rfl⟩ := hp_
    refine kw_ws (List.append_nil _) ?_
    refine kz_if_eq (b := pin q (vN v)) (tgt := 25) X dX4_hasTwo_13 (by decide) (fun c2_ => ?_) (fun c2_ => ?_)
    · skip
      refine kb_iconst (v := (0 : Int32)) X dX4_hasTwo_25 (by decide) ?_
      refine ke_z X Z rfl dX4_hasTwo_26 ?_
      exact ⟨(by first | rfl | (simp [zI, two, c1_, c2_]; done) | (simp [zI, two, c1_, c2_] <;> omega) | (simp_all [zI, two, c1_, c2_]; done)), (by first | rfl | (simp [zI, two, c1_, c2_]; done) | (simp [zI, two, c1_, c2_] <;> omega) | (simp_all [zI, two, c1_, c2_]; done))⟩
    · skip
      refine kb_iload_n X 1 dX4_hasTwo_16 rfl rfl ?_
      refine kb_iload_n X 2 dX4_hasTwo_17 rfl rfl ?_
      refine kb_icmp_eq (tgt := 25) X dX4_hasTwo_18 (by decide) (fun c3_ => ?_) (fun c3_ => ?_)
      · skip
        refine kb_iconst (v := (0 : Int32)) X dX4_hasTwo_25 (by decide) ?_
        refine ke_z X Z rfl dX4_hasTwo_26 ?_
        exact ⟨(by first | rfl | (simp [zI, two, c1_, c2_, c3_]; done) | (simp [zI, two, c1_, c2_, c3_] <;> omega) | (simp_all [zI, two, c1_, c2_, c3_]; done)), (by first | rfl | (simp [zI, two, c1_, c2_, c3_]; done) | (simp [zI, two, c1_, c2_, c3_] <;> omega) | (simp_all [zI, two, c1_, c2_, c3_]; done))⟩
      · skip
        refine kb_iconst (v := (1 : Int32)) X dX4_hasTwo_21 (by decide) ?_
        refine kb_goto (tgt := 26) X dX4_hasTwo_22 (by decide) ?_
        refine ke_z X Z rfl dX4_hasTwo_26 ?_
        exact ⟨(by first | rfl | (simp [zI, two, c1_, c2_, c3_]; done) | (simp [zI, two, c1_, c2_, c3_] <;> omega) | (simp_all [zI, two, c1_, c2_, c3_]; done)), (by first | rfl | (simp [zI, two, c1_, c2_, c3_]; done) | (simp [zI, two, c1_, c2_, c3_] <;> omega) | (simp_all [zI, two, c1_, c2_, c3_]; done))⟩

set_option maxHeartbeats 4000000 in
set_option maxRecDepth 100000 in
theorem ct_X4_cell (l : Launch) (g : kw_G) (a : Nat → Nat) (v : VS) (p q : Nat) : kMi l g yX4_cell cX4_cell 3 .int (kw_rm 1 0 0) 0 0 [.ref (a 0), .int (nI (p)), .int (nI (q))] (wV g a v) (fun r w => r = nI (p * 6 + q) ∧ w = wV g a v) := by
  refine kMi_of (by decide +kernel) (Nat.le_of_ble_eq_true rfl) (fun x (X : kX l g RX4 cX4_cell 3 (kw_rm 1 0 0) x) (Z : kZi .int _ 0 0 x) => ?_)
  show kW x 0 0 0 [(0, .ref (a 0)), (1, .int (nI (p))), (2, .int (nI (q)))] [] (wV g a v)
  refine kb_iload_n X 1 dX4_cell_0 rfl rfl ?_
  refine kb_bipush (v := (6 : Int32)) X dX4_cell_1 (by decide) ?_
  refine kn_imul X p 6 dX4_cell_3 ?_
  refine kb_iload_n X 2 dX4_cell_4 rfl rfl ?_
  refine kn_iadd X (p * 6) q dX4_cell_5 ?_
  refine ke_i X Z dX4_cell_6 ?_
  exact ⟨(by first | rfl | (simp [zI, ]; done) | (simp [zI, ] <;> omega) | (simp_all [zI, ]; done)), (by first | rfl | (simp [zI, ]; done) | (simp [zI, ] <;> omega) | (simp_all [zI, ]; done))⟩

set_option maxHeartbeats 4000000 in
set_option maxRecDepth 100000 in
theorem ct_X4_tieOf (l : Launch) (g : kw_G) (a : Nat → Nat) (v : VS) (p q : Nat) (hp : p < 6) (hq : q < 6) : kMi l g yX4_tieOf cX4_tieOf 3 .int (kw_rm 2 0 0) 0 0 [.ref (a 0), .int (nI (p)), .int (nI (q))] (wV g a v) (fun r w => r = vT v (p * 6 + q) ∧ w = wV g a v) := by
  refine kMi_of (by decide +kernel) (Nat.le_of_ble_eq_true rfl) (fun x (X : kX l g RX4 cX4_tieOf 3 (kw_rm 2 0 0) x) (Z : kZi .int _ 0 0 x) => ?_)
  show kW x 0 0 0 [(0, .ref (a 0)), (1, .int (nI (p))), (2, .int (nI (q)))] [] (wV g a v)
  refine kb_aload_n X 0 dX4_tieOf_0 rfl rfl ?_
  refine kb_get (v := .ref (a 4)) (C := RX4) (T := TX4) (N := 11) (ci := 4) X kw_iX4 rfl 0 3 rfl (by decide) kf_X4_21 rfl rfl dX4_tieOf_1 ?_
  refine kb_aload_n X 0 dX4_tieOf_4 rfl rfl ?_
  refine kb_iload_n X 1 dX4_tieOf_5 rfl rfl ?_
  refine kb_iload_n X 2 dX4_tieOf_6 rfl rfl ?_
  refine kc_Vi X (As := [.int (nI (p)), .int (nI (q))]) (rest := [.ref (a 4)]) (wr := []) (ct_X4_cell l g a v p q ) dX4_tieOf_7 rfl (kw_pall _) mc_X4_cell kl_X4_60 mi_X4_cell mv_X4_cell kn_X4 0 rfl rfl rfl (na := 2) (by decide +kernel) rfl ⟨Nat.le_of_ble_eq_true rfl, Nat.le_of_ble_eq_true rfl⟩ ⟨rfl, rfl⟩ ⟨Nat.le_of_ble_eq_true rfl, Nat.le_of_ble_eq_true rfl⟩ (Nat.le_of_ble_eq_true rfl) (fun r_ w_ hp_ => ?_)
  obtain ⟨rfl, rfl⟩ := hp_
  refine kw_ws (List.append_nil _) ?_
  refine kb_iald (i := p * 6 + q) X 4 rfl (by omega) (by decide) dX4_tieOf_10 ?_
  refine ke_i X Z dX4_tieOf_11 ?_
  exact ⟨(by first | rfl | (simp [zI, ]; done) | (simp [zI, ] <;> omega) | (simp_all [zI, ]; done)), (by first | rfl | (simp [zI, ]; done) | (simp [zI, ] <;> omega) | (simp_all [zI, ]; done))⟩

set_option maxHeartbeats 4000000 in
set_option maxRecDepth 100000 in
theorem ct_X4_debtOf (l : Launch) (g : kw_G) (a : Nat → Nat) (v : VS) (p q : Nat) (hp : p < 6) (hq : q < 6) : kMi l g yX4_debtOf cX4_debtOf 3 .int (kw_rm 2 0 0) 0 0 [.ref (a 0), .int (nI (p)), .int (nI (q))] (wV g a v) (fun r w => r = vD v (p * 6 + q) ∧ w = wV g a v) := by
  refine kMi_of (by decide +kernel) (Nat.le_of_ble_eq_true rfl) (fun x (X : kX l g RX4 cX4_debtOf 3 (kw_rm 2 0 0) x) (Z : kZi .int _ 0 0 x) => ?_)
  show kW x 0 0 0 [(0, .ref (a 0)), (1, .int (nI (p))), (2, .int (nI (q)))] [] (wV g a v)
  refine kb_aload_n X 0 dX4_debtOf_0 rfl rfl ?_
  refine kb_get (v := .ref (a 5)) (C := RX4) (T := TX4) (N := 11) (ci := 4) X kw_iX4 rfl 0 4 rfl (by decide) kf_X4_24 rfl rfl dX4_debtOf_1 ?_
  refine kb_aload_n X 0 dX4_debtOf_4 rfl rfl ?_
  refine kb_iload_n X 1 dX4_debtOf_5 rfl rfl ?_
  refine kb_iload_n X 2 dX4_debtOf_6 rfl rfl ?_
  refine kc_Vi X (As := [.int (nI (p)), .int (nI (q))]) (rest := [.ref (a 5)]) (wr := []) (ct_X4_cell l g a v p q ) dX4_debtOf_7 rfl (kw_pall _) mc_X4_cell kl_X4_60 mi_X4_cell mv_X4_cell kn_X4 0 rfl rfl rfl (na := 2) (by decide +kernel) rfl ⟨Nat.le_of_ble_eq_true rfl, Nat.le_of_ble_eq_true rfl⟩ ⟨rfl, rfl⟩ ⟨Nat.le_of_ble_eq_true rfl, Nat.le_of_ble_eq_true rfl⟩ (Nat.le_of_ble_eq_true rfl) (fun r_ w_ hp_ => ?_)
  obtain ⟨rfl, rfl⟩ := hp_
  refine kw_ws (List.append_nil _) ?_
  refine kb_iald (i := p * 6 + q) X 5 rfl (by omega) (by decide) dX4_debtOf_10 ?_
  refine ke_i X Z dX4_debtOf_11 ?_
  exact ⟨(by first | rfl | (simp [zI, ]; done) | (simp [zI, ] <;> omega) | (simp_all [zI, ]; done)), (by first | rfl | (simp [zI, ]; done) | (simp [zI, ] <;> omega) | (simp_all [zI, ]; done))⟩

set_option maxHeartbeats 4000000 in
set_option maxRecDepth 100000 in
theorem ct_X4_lives (l : Launch) (g : kw_G) (a : Nat → Nat) (v : VS) (hv : VI v) (p : Nat) (hp : p < 6) : kMi l g yX4_lives cX4_lives 2 .boolean (kw_rm 2 0 0) 0 0 [.ref (a 0), .int (nI (p))] (wV g a v) (fun r w => r = zI (wLives v p) ∧ w = wV g a v) := by
  refine kMi_of (by decide +kernel) (Nat.le_of_ble_eq_true rfl) (fun x (X : kX l g RX4 cX4_lives 2 (kw_rm 2 0 0) x) (Z : kZi .boolean _ 0 0 x) => ?_)
  show kW x 0 0 0 [(0, .ref (a 0)), (1, .int (nI (p)))] [] (wV g a v)
  refine kb_aload_n X 0 dX4_lives_0 rfl rfl ?_
  refine kb_get (v := .int (nI (vX v))) (C := RX4) (T := TX4) (N := 11) (ci := 4) X kw_iX4 rfl 0 7 rfl (by decide) kf_X4_34 rfl rfl dX4_lives_1 ?_
  refine kb_iload_n X 1 dX4_lives_4 rfl rfl ?_
  refine kc_SNi X (As := [.int (nI (vX v)), .int (nI (p))]) (rest := []) (wr := (wV g a v)) (ct_X5_contains l g (vX v) p hv.2.1 (by omega)) dX4_lives_5 rfl (List.Perm.refl _) mc_X5_contains (by simp [kw_nest]) ms_X5_contains kn_X5 (na := 2) (by decide +kernel) rfl ⟨Nat.le_of_ble_eq_true rfl, Nat.le_of_ble_eq_true rfl⟩ ⟨rfl, rfl⟩ ⟨Nat.le_of_ble_eq_true rfl, Nat.le_of_ble_eq_true rfl⟩ (Nat.le_of_ble_eq_true rfl) (fun r_ w_ hp_ => ?_)
  obtain ⟨rfl, rfl⟩ := hp_
  refine kw_ws (List.nil_append _) ?_
  refine kz_if_ne (b := Nat.testBit (vX v) p) (tgt := 15) X dX4_lives_8 (by decide) (fun c1_ => ?_) (fun c1_ => ?_)
  · skip
    refine kb_iconst (v := (0 : Int32)) X dX4_lives_15 (by decide) ?_
    refine ke_z X Z rfl dX4_lives_16 ?_
    exact ⟨(by first | rfl | (simp [zI, wLives, c1_]; done) | (simp [zI, wLives, c1_] <;> omega) | (simp_all [zI, wLives, c1_]; done)), (by first | rfl | (simp [zI, wLives, c1_]; done) | (simp [zI, wLives, c1_] <;> omega) | (simp_all [zI, wLives, c1_]; done))⟩
  · skip
    refine kb_iconst (v := (1 : Int32)) X dX4_lives_11 (by decide) ?_
    refine kb_goto (tgt := 16) X dX4_lives_12 (by decide) ?_
    refine ke_z X Z rfl dX4_lives_16 ?_
    exact ⟨(by first | rfl | (simp [zI, wLives, c1_]; done) | (simp [zI, wLives, c1_] <;> omega) | (simp_all [zI, wLives, c1_]; done)), (by first | rfl | (simp [zI, wLives, c1_]; done) | (simp [zI, wLives, c1_] <;> omega) | (simp_all [zI, wLives, c1_]; done))⟩

set_option maxHeartbeats 4000000 in
set_option maxRecDepth 100000 in
theorem ct_X4_hadTrial (l : Launch) (g : kw_G) (a : Nat → Nat) (v : VS) (hv : VI v) (p : Nat) (hp : p < 6) : kMi l g yX4_hadTrial cX4_hadTrial 2 .boolean (kw_rm 2 0 0) 0 0 [.ref (a 0), .int (nI (p))] (wV g a v) (fun r w => r = zI ((vH v).testBit p) ∧ w = wV g a v) := by
  refine kMi_of (by decide +kernel) (Nat.le_of_ble_eq_true rfl) (fun x (X : kX l g RX4 cX4_hadTrial 2 (kw_rm 2 0 0) x) (Z : kZi .boolean _ 0 0 x) => ?_)
  show kW x 0 0 0 [(0, .ref (a 0)), (1, .int (nI (p)))] [] (wV g a v)
  refine kb_aload_n X 0 dX4_hadTrial_0 rfl rfl ?_
  refine kb_get (v := .int (nI (vH v))) (C := RX4) (T := TX4) (N := 11) (ci := 4) X kw_iX4 rfl 0 8 rfl (by decide) kf_X4_37 rfl rfl dX4_hadTrial_1 ?_
  refine kb_iload_n X 1 dX4_hadTrial_4 rfl rfl ?_
  refine kc_SNi X (As := [.int (nI (vH v)), .int (nI (p))]) (rest := []) (wr := (wV g a v)) (ct_X5_contains l g (vH v) p hv.2.2 (by omega)) dX4_hadTrial_5 rfl (List.Perm.refl _) mc_X5_contains (by simp [kw_nest]) ms_X5_contains kn_X5 (na := 2) (by decide +kernel) rfl ⟨Nat.le_of_ble_eq_true rfl, Nat.le_of_ble_eq_true rfl⟩ ⟨rfl, rfl⟩ ⟨Nat.le_of_ble_eq_true rfl, Nat.le_of_ble_eq_true rfl⟩ (Nat.le_of_ble_eq_true rfl) (fun r_ w_ hp_ => ?_)
  obtain ⟨rfl, rfl⟩ := hp_
  refine kw_ws (List.nil_append _) ?_
  refine ke_z X Z (zI_nar _) dX4_hadTrial_8 ?_
  exact ⟨(by first | rfl | (simp [zI, ]; done) | (simp [zI, ] <;> omega) | (simp_all [zI, ]; done)), (by first | rfl | (simp [zI, ]; done) | (simp [zI, ] <;> omega) | (simp_all [zI, ]; done))⟩

set_option maxHeartbeats 4000000 in
set_option maxRecDepth 100000 in
theorem ct_X4_ageOf (l : Launch) (g : kw_G) (a : Nat → Nat) (v : VS) (p : Nat) (hp : p < 6) : kMi l g yX4_ageOf cX4_ageOf 2 .int (kw_rm 1 0 0) 0 0 [.ref (a 0), .int (nI (p))] (wV g a v) (fun r w => r = wAge v p ∧ w = wV g a v) := by
  refine kMi_of (by decide +kernel) (Nat.le_of_ble_eq_true rfl) (fun x (X : kX l g RX4 cX4_ageOf 2 (kw_rm 1 0 0) x) (Z : kZi .int _ 0 0 x) => ?_)
  show kW x 0 0 0 [(0, .ref (a 0)), (1, .int (nI (p)))] [] (wV g a v)
  refine kb_aload_n X 0 dX4_ageOf_0 rfl rfl ?_
  refine kb_get (v := .ref (a 2)) (C := RX4) (T := TX4) (N := 11) (ci := 4) X kw_iX4 rfl 0 1 rfl (by decide) kf_X4_15 rfl rfl dX4_ageOf_1 ?_
  refine kb_iload_n X 1 dX4_ageOf_4 rfl rfl ?_
  refine kb_iald (i := p) X 2 rfl (by omega) (by decide) dX4_ageOf_5 ?_
  refine kb_aload_n X 0 dX4_ageOf_6 rfl rfl ?_
  refine kb_get (v := .int (vY v)) (C := RX4) (T := TX4) (N := 11) (ci := 4) X kw_iX4 rfl 0 9 rfl (by decide) kf_X4_40 rfl rfl dX4_ageOf_7 ?_
  refine kb_bipush (v := (30 : Int32)) X dX4_ageOf_10 (by decide) ?_
  refine kb_idiv X dX4_ageOf_12 (by decide) ?_
  refine kb_iadd X dX4_ageOf_13 ?_
  refine ke_i X Z dX4_ageOf_14 ?_
  exact ⟨(by first | rfl | (simp [zI, ]; done) | (simp [zI, ] <;> omega) | (simp_all [zI, ]; done)), (by first | rfl | (simp [zI, ]; done) | (simp [zI, ] <;> omega) | (simp_all [zI, ]; done))⟩

set_option maxHeartbeats 4000000 in
set_option maxRecDepth 100000 in
theorem ct_X4_tellPerson (l : Launch) (g : kw_G) (a : Nat → Nat) (v : VS) (p q m : Nat) (hp : p < 100) (hq : q < 100) (hm : m < 100) (hv : vN v ≤ 6) : kMi l g yX4_tellPerson cX4_tellPerson 4 .boolean (kw_rm 1 0 0) 0 0 [.ref (a 0), .int (nI (p)), .int (nI (q)), .int (nI (m))] (wV g a v) (fun r w => r = zI (tpOk v p m) ∧ w = wV g a (if tpOk v p m = true then tpV v p q m else v)) := by
  refine kMi_of (by decide +kernel) (Nat.le_of_ble_eq_true rfl) (fun x (X : kX l g RX4 cX4_tellPerson 4 (kw_rm 1 0 0) x) (Z : kZi .boolean _ 0 0 x) => ?_)
  show kW x 0 0 0 [(0, .ref (a 0)), (1, .int (nI (p))), (2, .int (nI (q))), (3, .int (nI (m)))] [] (wV g a v)
  refine kb_aload_n X 0 dX4_tellPerson_0 rfl rfl ?_
  refine kb_get (v := .int (nI (vN v))) (C := RX4) (T := TX4) (N := 11) (ci := 4) X kw_iX4 rfl 0 5 rfl (by decide) kf_X4_27 rfl rfl dX4_tellPerson_1 ?_
  refine kb_bipush (v := (6 : Int32)) X dX4_tellPerson_4 (by decide) ?_
  refine kn_icmp_ge (a := vN v) (b := 6) (tgt := 20) X (by omega) (by omega) dX4_tellPerson_6 (by decide) (fun c1_ => ?_) (fun c1_ => ?_)
  · skip
    refine kb_iconst (v := (0 : Int32)) X dX4_tellPerson_20 (by decide) ?_
    refine ke_z X Z rfl dX4_tellPerson_21 ?_
    exact ⟨by simp [tpOk, zI, c1_] <;> omega, by rw [if_neg (by simp [tpOk] <;> omega)] <;> rfl⟩
  · skip
    refine kb_iload_n X 1 dX4_tellPerson_9 rfl rfl ?_
    refine kb_iconst (v := (4 : Int32)) X dX4_tellPerson_10 (by decide) ?_
    refine kn_icmp_gt (a := p) (b := 4) (tgt := 20) X (by omega) (by omega) dX4_tellPerson_11 (by decide) (fun c2_ => ?_) (fun c2_ => ?_)
    · skip
      refine kb_iconst (v := (0 : Int32)) X dX4_tellPerson_20 (by decide) ?_
      refine ke_z X Z rfl dX4_tellPerson_21 ?_
      exact ⟨by simp [tpOk, zI, c1_, c2_] <;> omega, by rw [if_neg (by simp [tpOk] <;> omega)] <;> rfl⟩
    · skip
      refine kb_iload_n X 3 dX4_tellPerson_14 rfl rfl ?_
      refine kb_bipush (v := (60 : Int32)) X dX4_tellPerson_15 (by decide) ?_
      refine kn_icmp_le (a := m) (b := 60) (tgt := 22) X (by omega) (by omega) dX4_tellPerson_17 (by decide) (fun c3_ => ?_) (fun c3_ => ?_)
      · skip
        refine kb_aload_n X 0 dX4_tellPerson_22 rfl rfl ?_
        refine kb_get (v := .ref (a 1)) (C := RX4) (T := TX4) (N := 11) (ci := 4) X kw_iX4 rfl 0 0 rfl (by decide) kf_X4_9 rfl rfl dX4_tellPerson_23 ?_
        refine kb_aload_n X 0 dX4_tellPerson_26 rfl rfl ?_
        refine kb_get (v := .int (nI (vN v))) (C := RX4) (T := TX4) (N := 11) (ci := 4) X kw_iX4 rfl 0 5 rfl (by decide) kf_X4_27 rfl rfl dX4_tellPerson_27 ?_
        refine kb_iload_n X 1 dX4_tellPerson_30 rfl rfl ?_
        refine kb_iast (i := vN v) X 1 rfl (by omega) (by decide) dX4_tellPerson_31 (ws' := wV g a (sK v (upd (vK v) (vN v) (nI (p))))) rfl ?_
        refine kb_aload_n X 0 dX4_tellPerson_32 rfl rfl ?_
        refine kb_get (v := .ref (a 2)) (C := RX4) (T := TX4) (N := 11) (ci := 4) X kw_iX4 rfl 0 1 rfl (by decide) kf_X4_15 rfl rfl dX4_tellPerson_33 ?_
        refine kb_aload_n X 0 dX4_tellPerson_36 rfl rfl ?_
        refine kb_get (v := .int (nI (vN v))) (C := RX4) (T := TX4) (N := 11) (ci := 4) X kw_iX4 rfl 0 5 rfl (by decide) kf_X4_27 rfl rfl dX4_tellPerson_37 ?_
        refine kb_iload_n X 2 dX4_tellPerson_40 rfl rfl ?_
        refine kb_iast (i := vN v) X 2 rfl (by omega) (by decide) dX4_tellPerson_41 (ws' := wV g a (sA (sK v (upd (vK v) (vN v) (nI (p)))) (upd (vA v) (vN v) (nI (q))))) rfl ?_
        refine kb_aload_n X 0 dX4_tellPerson_42 rfl rfl ?_
        refine kb_get (v := .ref (a 3)) (C := RX4) (T := TX4) (N := 11) (ci := 4) X kw_iX4 rfl 0 2 rfl (by decide) kf_X4_18 rfl rfl dX4_tellPerson_43 ?_
        refine kb_aload_n X 0 dX4_tellPerson_46 rfl rfl ?_
        refine kb_get (v := .int (nI (vN v))) (C := RX4) (T := TX4) (N := 11) (ci := 4) X kw_iX4 rfl 0 5 rfl (by decide) kf_X4_27 rfl rfl dX4_tellPerson_47 ?_
        refine kb_iload_n X 3 dX4_tellPerson_50 rfl rfl ?_
        refine kb_iast (i := vN v) X 3 rfl (by omega) (by decide) dX4_tellPerson_51 (ws' := wV g a (sC (sA (sK v (upd (vK v) (vN v) (nI (p)))) (upd (vA v) (vN v) (nI (q)))) (upd (vC v) (vN v) (nI (m))))) rfl ?_
        refine kb_aload_n X 0 dX4_tellPerson_52 rfl rfl ?_
        refine kb_dup X dX4_tellPerson_53 rfl ?_
        refine kb_get (v := .int (nI (vN v))) (C := RX4) (T := TX4) (N := 11) (ci := 4) X kw_iX4 rfl 0 5 rfl (by decide) kf_X4_27 rfl rfl dX4_tellPerson_54 ?_
        refine kb_iconst (v := (1 : Int32)) X dX4_tellPerson_57 (by decide) ?_
        refine kn_iadd X (vN v) 1 dX4_tellPerson_58 ?_
        refine kb_put X (C := RX4) (T := TX4) (N := 11) (ci := 4) (ty := .int) kw_iX4 tyX4 tyX4_ok nmX4 rfl 0 5 rfl (by decide) kf_X4_27 rfl rfl (by decide +kernel) rfl rfl (Nat.le_of_ble_eq_true rfl) dX4_tellPerson_59 (ws' := wV g a (sN (sC (sA (sK v (upd (vK v) (vN v) (nI (p)))) (upd (vA v) (vN v) (nI (q)))) (upd (vC v) (vN v) (nI (m)))) ((vN v) + 1))) rfl ?_
        refine kb_iconst (v := (1 : Int32)) X dX4_tellPerson_62 (by decide) ?_
        refine ke_z X Z rfl dX4_tellPerson_63 ?_
        exact ⟨by simp [tpOk, zI, c1_, c2_, c3_] <;> omega, by rw [if_pos (by simp [tpOk] <;> omega)] <;> rfl⟩
      · skip
        refine kb_iconst (v := (0 : Int32)) X dX4_tellPerson_20 (by decide) ?_
        refine ke_z X Z rfl dX4_tellPerson_21 ?_
        exact ⟨by simp [tpOk, zI, c1_, c2_, c3_] <;> omega, by rw [if_neg (by simp [tpOk] <;> omega)] <;> rfl⟩

set_option maxHeartbeats 4000000 in
set_option maxRecDepth 100000 in
theorem ct_X4_tellTie (l : Launch) (g : kw_G) (a : Nat → Nat) (v : VS) (p q m : Nat) (hp : p < 100) (hq : q < 100) (hm : m < 100) (hv : vN v ≤ 6) : kMi l g yX4_tellTie cX4_tellTie 4 .boolean (kw_rm 3 0 0) 0 0 [.ref (a 0), .int (nI (p)), .int (nI (q)), .int (nI (m))] (wV g a v) (fun r w => r = zI (ttOk v p q m) ∧ w = wV g a (if ttOk v p q m = true then ttV v p q m else v)) := by
  refine kMi_of (by decide +kernel) (Nat.le_of_ble_eq_true rfl) (fun x (X : kX l g RX4 cX4_tellTie 4 (kw_rm 3 0 0) x) (Z : kZi .boolean _ 0 0 x) => ?_)
  show kW x 0 0 0 [(0, .ref (a 0)), (1, .int (nI (p))), (2, .int (nI (q))), (3, .int (nI (m)))] [] (wV g a v)
  refine kb_aload_n X 0 dX4_tellTie_0 rfl rfl ?_
  refine kb_iload_n X 1 dX4_tellTie_1 rfl rfl ?_
  refine kb_iload_n X 2 dX4_tellTie_2 rfl rfl ?_
  refine kc_Vi X (As := [.int (nI (p)), .int (nI (q))]) (rest := []) (wr := []) (ct_X4_hasTwo l g a v (nI (p)) (nI (q)) ) dX4_tellTie_3 rfl (kw_pall _) mc_X4_hasTwo kl_X4_56 mi_X4_hasTwo mv_X4_hasTwo kn_X4 0 rfl rfl rfl (na := 2) (by decide +kernel) rfl ⟨Nat.le_of_ble_eq_true rfl, Nat.le_of_ble_eq_true rfl⟩ ⟨rfl, rfl⟩ ⟨Nat.le_of_ble_eq_true rfl, Nat.le_of_ble_eq_true rfl⟩ (Nat.le_of_ble_eq_true rfl) (fun r_ w_ hp_ => ?_)
  obtain ⟨rfl, rfl⟩ := hp_
  refine kw_ws (List.append_nil _) ?_
  refine kz_if_eq (b := two (nI (p)) (nI (q)) (vN v)) (tgt := 15) X dX4_tellTie_6 (by decide) (fun c1_ => ?_) (fun c1_ => ?_)
  · skip
    refine kb_iconst (v := (0 : Int32)) X dX4_tellTie_15 (by decide) ?_
    refine ke_z X Z rfl dX4_tellTie_16 ?_
    exact ⟨by simp [ttOk, zI, c1_] <;> omega, by rw [if_neg (by simp [ttOk, c1_] <;> omega)] <;> rfl⟩
  · skip
    obtain ⟨h1, h2, h3⟩ := two_t (by omega) (by omega) (by omega) c1_
    refine kb_iload_n X 3 dX4_tellTie_9 rfl rfl ?_
    refine kb_bipush (v := (9 : Int32)) X dX4_tellTie_10 (by decide) ?_
    refine kn_icmp_le (a := m) (b := 9) (tgt := 17) X (by omega) (by omega) dX4_tellTie_12 (by decide) (fun c2_ => ?_) (fun c2_ => ?_)
    · skip
      refine kb_aload_n X 0 dX4_tellTie_17 rfl rfl ?_
      refine kb_get (v := .ref (a 4)) (C := RX4) (T := TX4) (N := 11) (ci := 4) X kw_iX4 rfl 0 3 rfl (by decide) kf_X4_21 rfl rfl dX4_tellTie_18 ?_
      refine kb_aload_n X 0 dX4_tellTie_21 rfl rfl ?_
      refine kb_iload_n X 1 dX4_tellTie_22 rfl rfl ?_
      refine kb_iload_n X 2 dX4_tellTie_23 rfl rfl ?_
      refine kc_Vi X (As := [.int (nI (p)), .int (nI (q))]) (rest := [.ref (a 4)]) (wr := []) (ct_X4_cell l g a v p q ) dX4_tellTie_24 rfl (kw_pall _) mc_X4_cell kl_X4_60 mi_X4_cell mv_X4_cell kn_X4 0 rfl rfl rfl (na := 2) (by decide +kernel) rfl ⟨Nat.le_of_ble_eq_true rfl, Nat.le_of_ble_eq_true rfl⟩ ⟨rfl, rfl⟩ ⟨Nat.le_of_ble_eq_true rfl, Nat.le_of_ble_eq_true rfl⟩ (Nat.le_of_ble_eq_true rfl) (fun r_ w_ hp_ => ?_)
      obtain ⟨rfl, rfl⟩ := hp_
      refine kw_ws (List.append_nil _) ?_
      refine kb_iload_n X 3 dX4_tellTie_27 rfl rfl ?_
      refine kb_iconst (v := (4 : Int32)) X dX4_tellTie_28 (by decide) ?_
      refine kb_isub X dX4_tellTie_29 ?_
      refine kb_iast (i := p * 6 + q) X 4 rfl (by omega) (by decide) dX4_tellTie_30 (ws' := wV g a (sT v (upd (vT v) (p * 6 + q) ((nI (m)) - (4 : Int32))))) rfl ?_
      refine kb_iconst (v := (1 : Int32)) X dX4_tellTie_31 (by decide) ?_
      refine ke_z X Z rfl dX4_tellTie_32 ?_
      exact ⟨by simp [ttOk, zI, c1_, c2_] <;> omega, by rw [if_pos (by simp [ttOk, c1_, c2_] <;> omega)] <;> rfl⟩
    · skip
      refine kb_iconst (v := (0 : Int32)) X dX4_tellTie_15 (by decide) ?_
      refine ke_z X Z rfl dX4_tellTie_16 ?_
      exact ⟨by simp [ttOk, zI, c1_, c2_] <;> omega, by rw [if_neg (by simp [ttOk, c1_, c2_] <;> omega)] <;> rfl⟩

set_option maxHeartbeats 4000000 in
set_option maxRecDepth 100000 in
theorem ct_X4_tellDebt (l : Launch) (g : kw_G) (a : Nat → Nat) (v : VS) (p q m : Nat) (hp : p < 100) (hq : q < 100) (hm : m < 100) (hv : vN v ≤ 6) : kMi l g yX4_tellDebt cX4_tellDebt 4 .boolean (kw_rm 3 0 0) 0 0 [.ref (a 0), .int (nI (p)), .int (nI (q)), .int (nI (m))] (wV g a v) (fun r w => r = zI (tdOk v p q m) ∧ w = wV g a (if tdOk v p q m = true then tdV v p q m else v)) := by
  refine kMi_of (by decide +kernel) (Nat.le_of_ble_eq_true rfl) (fun x (X : kX l g RX4 cX4_tellDebt 4 (kw_rm 3 0 0) x) (Z : kZi .boolean _ 0 0 x) => ?_)
  show kW x 0 0 0 [(0, .ref (a 0)), (1, .int (nI (p))), (2, .int (nI (q))), (3, .int (nI (m)))] [] (wV g a v)
  refine kb_aload_n X 0 dX4_tellDebt_0 rfl rfl ?_
  refine kb_iload_n X 1 dX4_tellDebt_1 rfl rfl ?_
  refine kb_iload_n X 2 dX4_tellDebt_2 rfl rfl ?_
  refine kc_Vi X (As := [.int (nI (p)), .int (nI (q))]) (rest := []) (wr := []) (ct_X4_hasTwo l g a v (nI (p)) (nI (q)) ) dX4_tellDebt_3 rfl (kw_pall _) mc_X4_hasTwo kl_X4_56 mi_X4_hasTwo mv_X4_hasTwo kn_X4 0 rfl rfl rfl (na := 2) (by decide +kernel) rfl ⟨Nat.le_of_ble_eq_true rfl, Nat.le_of_ble_eq_true rfl⟩ ⟨rfl, rfl⟩ ⟨Nat.le_of_ble_eq_true rfl, Nat.le_of_ble_eq_true rfl⟩ (Nat.le_of_ble_eq_true rfl) (fun r_ w_ hp_ => ?_)
  obtain ⟨rfl, rfl⟩ := hp_
  refine kw_ws (List.append_nil _) ?_
  refine kz_if_eq (b := two (nI (p)) (nI (q)) (vN v)) (tgt := 15) X dX4_tellDebt_6 (by decide) (fun c1_ => ?_) (fun c1_ => ?_)
  · skip
    refine kb_iconst (v := (0 : Int32)) X dX4_tellDebt_15 (by decide) ?_
    refine ke_z X Z rfl dX4_tellDebt_16 ?_
    exact ⟨by simp [tdOk, zI, c1_] <;> omega, by rw [if_neg (by simp [tdOk, c1_] <;> omega)] <;> rfl⟩
  · skip
    obtain ⟨h1, h2, h3⟩ := two_t (by omega) (by omega) (by omega) c1_
    refine kb_iload_n X 3 dX4_tellDebt_9 rfl rfl ?_
    refine kb_bipush (v := (60 : Int32)) X dX4_tellDebt_10 (by decide) ?_
    refine kn_icmp_le (a := m) (b := 60) (tgt := 17) X (by omega) (by omega) dX4_tellDebt_12 (by decide) (fun c2_ => ?_) (fun c2_ => ?_)
    · skip
      refine kb_aload_n X 0 dX4_tellDebt_17 rfl rfl ?_
      refine kb_get (v := .ref (a 5)) (C := RX4) (T := TX4) (N := 11) (ci := 4) X kw_iX4 rfl 0 4 rfl (by decide) kf_X4_24 rfl rfl dX4_tellDebt_18 ?_
      refine kb_aload_n X 0 dX4_tellDebt_21 rfl rfl ?_
      refine kb_iload_n X 1 dX4_tellDebt_22 rfl rfl ?_
      refine kb_iload_n X 2 dX4_tellDebt_23 rfl rfl ?_
      refine kc_Vi X (As := [.int (nI (p)), .int (nI (q))]) (rest := [.ref (a 5)]) (wr := []) (ct_X4_cell l g a v p q ) dX4_tellDebt_24 rfl (kw_pall _) mc_X4_cell kl_X4_60 mi_X4_cell mv_X4_cell kn_X4 0 rfl rfl rfl (na := 2) (by decide +kernel) rfl ⟨Nat.le_of_ble_eq_true rfl, Nat.le_of_ble_eq_true rfl⟩ ⟨rfl, rfl⟩ ⟨Nat.le_of_ble_eq_true rfl, Nat.le_of_ble_eq_true rfl⟩ (Nat.le_of_ble_eq_true rfl) (fun r_ w_ hp_ => ?_)
      obtain ⟨rfl, rfl⟩ := hp_
      refine kw_ws (List.append_nil _) ?_
      refine kb_iload_n X 3 dX4_tellDebt_27 rfl rfl ?_
      refine kb_iast (i := p * 6 + q) X 5 rfl (by omega) (by decide) dX4_tellDebt_28 (ws' := wV g a (sD v (upd (vD v) (p * 6 + q) (nI (m))))) rfl ?_
      refine kb_iconst (v := (1 : Int32)) X dX4_tellDebt_29 (by decide) ?_
      refine ke_z X Z rfl dX4_tellDebt_30 ?_
      exact ⟨by simp [tdOk, zI, c1_, c2_] <;> omega, by rw [if_pos (by simp [tdOk, c1_, c2_] <;> omega)] <;> rfl⟩
    · skip
      refine kb_iconst (v := (0 : Int32)) X dX4_tellDebt_15 (by decide) ?_
      refine ke_z X Z rfl dX4_tellDebt_16 ?_
      exact ⟨by simp [tdOk, zI, c1_, c2_] <;> omega, by rw [if_neg (by simp [tdOk, c1_, c2_] <;> omega)] <;> rfl⟩

set_option maxHeartbeats 4000000 in
set_option maxRecDepth 100000 in
theorem ct_X4_tellTrialAge (l : Launch) (g : kw_G) (a : Nat → Nat) (v : VS) (p : Nat) (hp : p < 100) : kMi l g yX4_tellTrialAge cX4_tellTrialAge 2 .boolean (kw_rm 1 0 0) 0 0 [.ref (a 0), .int (nI (p))] (wV g a v) (fun r w => r = zI (decide (1 ≤ p)) ∧ w = wV g a (if 1 ≤ p then sG v (nI p) else v)) := by
  refine kMi_of (by decide +kernel) (Nat.le_of_ble_eq_true rfl) (fun x (X : kX l g RX4 cX4_tellTrialAge 2 (kw_rm 1 0 0) x) (Z : kZi .boolean _ 0 0 x) => ?_)
  show kW x 0 0 0 [(0, .ref (a 0)), (1, .int (nI (p)))] [] (wV g a v)
  refine kb_iload_n X 1 dX4_tellTrialAge_0 rfl rfl ?_
  refine kb_iconst (v := (1 : Int32)) X dX4_tellTrialAge_1 (by decide) ?_
  refine kn_icmp_ge (a := p) (b := 1) (tgt := 7) X (by omega) (by omega) dX4_tellTrialAge_2 (by decide) (fun c1_ => ?_) (fun c1_ => ?_)
  · skip
    refine kb_aload_n X 0 dX4_tellTrialAge_7 rfl rfl ?_
    refine kb_iload_n X 1 dX4_tellTrialAge_8 rfl rfl ?_
    refine kb_put X (C := RX4) (T := TX4) (N := 11) (ci := 4) (ty := .int) kw_iX4 tyX4 tyX4_ok nmX4 rfl 0 6 rfl (by decide) kf_X4_31 rfl rfl (by decide +kernel) rfl rfl (Nat.le_of_ble_eq_true rfl) dX4_tellTrialAge_9 (ws' := wV g a (sG v (nI (p)))) rfl ?_
    refine kb_iconst (v := (1 : Int32)) X dX4_tellTrialAge_12 (by decide) ?_
    refine ke_z X Z rfl dX4_tellTrialAge_13 ?_
    exact ⟨by simp [zI, c1_] <;> omega, by rw [if_pos (by omega)] <;> rfl⟩
  · skip
    refine kb_iconst (v := (0 : Int32)) X dX4_tellTrialAge_5 (by decide) ?_
    refine ke_z X Z rfl dX4_tellTrialAge_6 ?_
    exact ⟨by simp [zI, c1_] <;> omega, by rw [if_neg (by omega)] <;> rfl⟩
