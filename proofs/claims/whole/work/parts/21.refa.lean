set_option maxHeartbeats 4000000 in
set_option maxRecDepth 100000 in
theorem ct_X6_in (l : Launch) (g : kw_G) (p q r_ : Int64) : kMi l g yX6_in cX6_in 6 .boolean (kw_rm 1 0 0) 0 0 [.long (p), .long (q), .long (r_)] ([]) (fun r w => r = zI (lin p q r_) ∧ w = []) := by
  refine kMi_of (by decide +kernel) (Nat.le_of_ble_eq_true rfl) (fun x (X : kX l g RX6 cX6_in 6 (kw_rm 1 0 0) x) (Z : kZi .boolean _ 0 0 x) => ?_)
  show kW x 0 0 0 [(0, .long (p)), (2, .long (q)), (4, .long (r_))] [] []
  refine kb_lload_n X 0 dX6_in_0 rfl rfl ?_
  refine kb_lload_n X 1 dX6_in_1 rfl rfl ?_
  refine kb_lcmp X dX6_in_2 ?_
  refine kb_if_lt (tgt := 17) X dX6_in_3 (by decide) (fun c1_ => ?_) (fun c1_ => ?_)
  · skip
    refine kb_iconst (v := (0 : Int32)) X dX6_in_17 (by decide) ?_
    refine ke_z X Z rfl dX6_in_18 ?_
    exact ⟨(by first | rfl | (simp [zI, lin, c1_]; done) | (simp [zI, lin, c1_] <;> omega) | (simp_all [zI, lin, c1_]; done)), (by first | rfl | (simp [zI, lin, c1_]; done) | (simp [zI, lin, c1_] <;> omega) | (simp_all [zI, lin, c1_]; done))⟩
  · skip
    refine kb_lload_n X 0 dX6_in_6 rfl rfl ?_
    refine kb_lload X 2 dX6_in_7 rfl ?_
    refine kb_lcmp X dX6_in_9 ?_
    refine kb_if_gt (tgt := 17) X dX6_in_10 (by decide) (fun c2_ => ?_) (fun c2_ => ?_)
    · skip
      refine kb_iconst (v := (0 : Int32)) X dX6_in_17 (by decide) ?_
      refine ke_z X Z rfl dX6_in_18 ?_
      exact ⟨(by first | rfl | (simp [zI, lin, c1_, c2_]; done) | (simp [zI, lin, c1_, c2_] <;> omega) | (simp_all [zI, lin, c1_, c2_]; done)), (by first | rfl | (simp [zI, lin, c1_, c2_]; done) | (simp [zI, lin, c1_, c2_] <;> omega) | (simp_all [zI, lin, c1_, c2_]; done))⟩
    · skip
      refine kb_iconst (v := (1 : Int32)) X dX6_in_13 (by decide) ?_
      refine kb_goto (tgt := 18) X dX6_in_14 (by decide) ?_
      refine ke_z X Z rfl dX6_in_18 ?_
      exact ⟨(by first | rfl | (simp [zI, lin, c1_, c2_]; done) | (simp [zI, lin, c1_, c2_] <;> omega) | (simp_all [zI, lin, c1_, c2_]; done)), (by first | rfl | (simp [zI, lin, c1_, c2_]; done) | (simp [zI, lin, c1_, c2_] <;> omega) | (simp_all [zI, lin, c1_, c2_]; done))⟩

set_option maxHeartbeats 4000000 in
set_option maxRecDepth 100000 in
theorem ct_X6_has (l : Launch) (g : kw_G) (s p : Nat) (hs : s < 64) (hp : p < 31) : kMi l g yX6_has cX6_has 2 .boolean (kw_rm 1 0 0) 0 0 [.int (nI (s)), .int (nI (p))] ([]) (fun r w => r = zI (s.testBit p) ∧ w = []) := by
  refine kMi_of (by decide +kernel) (Nat.le_of_ble_eq_true rfl) (fun x (X : kX l g RX6 cX6_has 2 (kw_rm 1 0 0) x) (Z : kZi .boolean _ 0 0 x) => ?_)
  show kW x 0 0 0 [(0, .int (nI (s))), (1, .int (nI (p)))] [] []
  refine kb_iload_n X 0 dX6_has_0 rfl rfl ?_
  refine kb_iload_n X 1 dX6_has_1 rfl rfl ?_
  refine kb_ishr X dX6_has_2 ?_
  refine kb_iconst (v := (1 : Int32)) X dX6_has_3 (by decide) ?_
  refine kb_iand X dX6_has_4 ?_
  refine kw_top (b := .int (zI (s.testBit p))) (by rw [tb_shr s p (by omega) hp]) ?_
  refine kb_iconst (v := (1 : Int32)) X dX6_has_5 (by decide) ?_
  refine kz_icmp_ne1 (b := s.testBit p) (tgt := 13) X dX6_has_6 (by decide) (fun c1_ => ?_) (fun c1_ => ?_)
  · skip
    refine kb_iconst (v := (0 : Int32)) X dX6_has_13 (by decide) ?_
    refine ke_z X Z rfl dX6_has_14 ?_
    exact ⟨(by first | rfl | (simp [zI, c1_]; done) | (simp [zI, c1_] <;> omega) | (simp_all [zI, c1_]; done)), (by first | rfl | (simp [zI, c1_]; done) | (simp [zI, c1_] <;> omega) | (simp_all [zI, c1_]; done))⟩
  · skip
    refine kb_iconst (v := (1 : Int32)) X dX6_has_9 (by decide) ?_
    refine kb_goto (tgt := 14) X dX6_has_10 (by decide) ?_
    refine ke_z X Z rfl dX6_has_14 ?_
    exact ⟨(by first | rfl | (simp [zI, c1_]; done) | (simp [zI, c1_] <;> omega) | (simp_all [zI, c1_]; done)), (by first | rfl | (simp [zI, c1_]; done) | (simp [zI, c1_] <;> omega) | (simp_all [zI, c1_]; done))⟩

set_option maxHeartbeats 4000000 in
set_option maxRecDepth 100000 in
theorem ct_X6_smaller (l : Launch) (g : kw_G) (p q : Int32) : kMi l g yX6_smaller cX6_smaller 2 .int (kw_rm 1 0 0) 0 0 [.int (p), .int (q)] ([]) (fun r w => r = mn p q ∧ w = []) := by
  refine kMi_of (by decide +kernel) (Nat.le_of_ble_eq_true rfl) (fun x (X : kX l g RX6 cX6_smaller 2 (kw_rm 1 0 0) x) (Z : kZi .int _ 0 0 x) => ?_)
  show kW x 0 0 0 [(0, .int (p)), (1, .int (q))] [] []
  refine kb_iload_n X 0 dX6_smaller_0 rfl rfl ?_
  refine kb_iload_n X 1 dX6_smaller_1 rfl rfl ?_
  refine kb_icmp_ge (tgt := 9) X dX6_smaller_2 (by decide) (fun c1_ => ?_) (fun c1_ => ?_)
  · skip
    refine kb_iload_n X 1 dX6_smaller_9 rfl rfl ?_
    refine ke_i X Z dX6_smaller_10 ?_
    exact ⟨by rw [← mn_sm, if_neg (Int32.not_lt.mpr c1_)], rfl⟩
  · skip
    refine kb_iload_n X 0 dX6_smaller_5 rfl rfl ?_
    refine kb_goto (tgt := 10) X dX6_smaller_6 (by decide) ?_
    refine ke_i X Z dX6_smaller_10 ?_
    exact ⟨by rw [← mn_sm, if_pos (Int32.not_le.mp c1_)], rfl⟩

set_option maxHeartbeats 4000000 in
set_option maxRecDepth 100000 in
theorem ct_X6_larger (l : Launch) (g : kw_G) (p q : Int32) : kMi l g yX6_larger cX6_larger 2 .int (kw_rm 1 0 0) 0 0 [.int (p), .int (q)] ([]) (fun r w => r = mx p q ∧ w = []) := by
  refine kMi_of (by decide +kernel) (Nat.le_of_ble_eq_true rfl) (fun x (X : kX l g RX6 cX6_larger 2 (kw_rm 1 0 0) x) (Z : kZi .int _ 0 0 x) => ?_)
  show kW x 0 0 0 [(0, .int (p)), (1, .int (q))] [] []
  refine kb_iload_n X 0 dX6_larger_0 rfl rfl ?_
  refine kb_iload_n X 1 dX6_larger_1 rfl rfl ?_
  refine kb_icmp_ge (tgt := 9) X dX6_larger_2 (by decide) (fun c1_ => ?_) (fun c1_ => ?_)
  · skip
    refine kb_iload_n X 0 dX6_larger_9 rfl rfl ?_
    refine ke_i X Z dX6_larger_10 ?_
    exact ⟨by rw [mx, if_neg (Int32.not_lt.mpr c1_)], rfl⟩
  · skip
    refine kb_iload_n X 1 dX6_larger_5 rfl rfl ?_
    refine kb_goto (tgt := 10) X dX6_larger_6 (by decide) ?_
    refine ke_i X Z dX6_larger_10 ?_
    exact ⟨by rw [mx, if_pos (Int32.not_le.mp c1_)], rfl⟩

theorem bits_all : ∀ s, s < 64 → ((((((0 : Int32) + (((nI (s)) >>> ((0 : Int32) &&& 31)) &&& (1 : Int32))) + (((nI (s)) >>> ((1 : Int32) &&& 31)) &&& (1 : Int32))) + (((nI (s)) >>> ((2 : Int32) &&& 31)) &&& (1 : Int32))) + (((nI (s)) >>> ((3 : Int32) &&& 31)) &&& (1 : Int32))) + (((nI (s)) >>> ((4 : Int32) &&& 31)) &&& (1 : Int32))) + (((nI (s)) >>> ((5 : Int32) &&& 31)) &&& (1 : Int32)) = nI (wBits s) := by decide +kernel
set_option maxHeartbeats 4000000 in
set_option maxRecDepth 100000 in
theorem ct_X6_bits (l : Launch) (g : kw_G) (s : Nat) (hs : s < 64) : kMi l g yX6_bits cX6_bits 3 .int (kw_rm 1 0 0) 0 0 [.int (nI (s))] ([]) (fun r w => r = nI (wBits s) ∧ w = []) := by
  refine kMi_of (by decide +kernel) (Nat.le_of_ble_eq_true rfl) (fun x (X : kX l g RX6 cX6_bits 3 (kw_rm 1 0 0) x) (Z : kZi .int _ 0 0 x) => ?_)
  show kW x 0 0 0 [(0, .int (nI (s)))] [] []
  refine kb_iconst (v := (0 : Int32)) X dX6_bits_0 (by decide) ?_
  refine kb_istore_n X [1, 0] dX6_bits_1 rfl (by decide) (lv' := [(0, .int (nI (s))), (1, .int 0)]) rfl ?_
  refine kb_iconst (v := (0 : Int32)) X dX6_bits_2 (by decide) ?_
  refine kb_istore_n X [1, 2, 0] dX6_bits_3 rfl (by decide) (lv' := [(0, .int (nI (s))), (1, .int 0), (2, .int 0)]) rfl ?_
  refine kb_iload_n X 2 dX6_bits_4 rfl rfl ?_
  refine kb_bipush (v := (6 : Int32)) X dX6_bits_5 (by decide) ?_
  refine kb_icmp_ge (tgt := 24) X dX6_bits_7 (by decide) (fun q_ => absurd q_ (by decide)) (fun _ => ?_)
  refine kb_iload_n X 1 dX6_bits_10 rfl rfl ?_
  refine kb_iload_n X 0 dX6_bits_11 rfl rfl ?_
  refine kb_iload_n X 2 dX6_bits_12 rfl rfl ?_
  refine kb_ishr X dX6_bits_13 ?_
  refine kb_iconst (v := (1 : Int32)) X dX6_bits_14 (by decide) ?_
  refine kb_iand X dX6_bits_15 ?_
  refine kb_iadd X dX6_bits_16 ?_
  refine kb_istore_n X [1, 0, 2] dX6_bits_17 rfl (by decide) (lv' := [(0, .int (nI (s))), (1, .int ((0 : Int32) + (((nI (s)) >>> ((0 : Int32) &&& 31)) &&& (1 : Int32)))), (2, .int 0)]) rfl ?_
  refine kb_iinc X 2 [1, 2, 0] (v' := (1 : Int32)) dX6_bits_18 rfl (by decide) (by decide) (lv' := [(0, .int (nI (s))), (1, .int ((0 : Int32) + (((nI (s)) >>> ((0 : Int32) &&& 31)) &&& (1 : Int32)))), (2, .int 1)]) rfl ?_
  refine kb_goto (tgt := 4) X dX6_bits_21 (by decide) ?_
  refine kb_iload_n X 2 dX6_bits_4 rfl rfl ?_
  refine kb_bipush (v := (6 : Int32)) X dX6_bits_5 (by decide) ?_
  refine kb_icmp_ge (tgt := 24) X dX6_bits_7 (by decide) (fun q_ => absurd q_ (by decide)) (fun _ => ?_)
  refine kb_iload_n X 1 dX6_bits_10 rfl rfl ?_
  refine kb_iload_n X 0 dX6_bits_11 rfl rfl ?_
  refine kb_iload_n X 2 dX6_bits_12 rfl rfl ?_
  refine kb_ishr X dX6_bits_13 ?_
  refine kb_iconst (v := (1 : Int32)) X dX6_bits_14 (by decide) ?_
  refine kb_iand X dX6_bits_15 ?_
  refine kb_iadd X dX6_bits_16 ?_
  refine kb_istore_n X [1, 0, 2] dX6_bits_17 rfl (by decide) (lv' := [(0, .int (nI (s))), (1, .int (((0 : Int32) + (((nI (s)) >>> ((0 : Int32) &&& 31)) &&& (1 : Int32))) + (((nI (s)) >>> ((1 : Int32) &&& 31)) &&& (1 : Int32)))), (2, .int 1)]) rfl ?_
  refine kb_iinc X 2 [1, 2, 0] (v' := (2 : Int32)) dX6_bits_18 rfl (by decide) (by decide) (lv' := [(0, .int (nI (s))), (1, .int (((0 : Int32) + (((nI (s)) >>> ((0 : Int32) &&& 31)) &&& (1 : Int32))) + (((nI (s)) >>> ((1 : Int32) &&& 31)) &&& (1 : Int32)))), (2, .int 2)]) rfl ?_
  refine kb_goto (tgt := 4) X dX6_bits_21 (by decide) ?_
  refine kb_iload_n X 2 dX6_bits_4 rfl rfl ?_
  refine kb_bipush (v := (6 : Int32)) X dX6_bits_5 (by decide) ?_
  refine kb_icmp_ge (tgt := 24) X dX6_bits_7 (by decide) (fun q_ => absurd q_ (by decide)) (fun _ => ?_)
  refine kb_iload_n X 1 dX6_bits_10 rfl rfl ?_
  refine kb_iload_n X 0 dX6_bits_11 rfl rfl ?_
  refine kb_iload_n X 2 dX6_bits_12 rfl rfl ?_
  refine kb_ishr X dX6_bits_13 ?_
  refine kb_iconst (v := (1 : Int32)) X dX6_bits_14 (by decide) ?_
  refine kb_iand X dX6_bits_15 ?_
  refine kb_iadd X dX6_bits_16 ?_
  refine kb_istore_n X [1, 0, 2] dX6_bits_17 rfl (by decide) (lv' := [(0, .int (nI (s))), (1, .int ((((0 : Int32) + (((nI (s)) >>> ((0 : Int32) &&& 31)) &&& (1 : Int32))) + (((nI (s)) >>> ((1 : Int32) &&& 31)) &&& (1 : Int32))) + (((nI (s)) >>> ((2 : Int32) &&& 31)) &&& (1 : Int32)))), (2, .int 2)]) rfl ?_
  refine kb_iinc X 2 [1, 2, 0] (v' := (3 : Int32)) dX6_bits_18 rfl (by decide) (by decide) (lv' := [(0, .int (nI (s))), (1, .int ((((0 : Int32) + (((nI (s)) >>> ((0 : Int32) &&& 31)) &&& (1 : Int32))) + (((nI (s)) >>> ((1 : Int32) &&& 31)) &&& (1 : Int32))) + (((nI (s)) >>> ((2 : Int32) &&& 31)) &&& (1 : Int32)))), (2, .int 3)]) rfl ?_
  refine kb_goto (tgt := 4) X dX6_bits_21 (by decide) ?_
  refine kb_iload_n X 2 dX6_bits_4 rfl rfl ?_
  refine kb_bipush (v := (6 : Int32)) X dX6_bits_5 (by decide) ?_
  refine kb_icmp_ge (tgt := 24) X dX6_bits_7 (by decide) (fun q_ => absurd q_ (by decide)) (fun _ => ?_)
  refine kb_iload_n X 1 dX6_bits_10 rfl rfl ?_
  refine kb_iload_n X 0 dX6_bits_11 rfl rfl ?_
  refine kb_iload_n X 2 dX6_bits_12 rfl rfl ?_
  refine kb_ishr X dX6_bits_13 ?_
  refine kb_iconst (v := (1 : Int32)) X dX6_bits_14 (by decide) ?_
  refine kb_iand X dX6_bits_15 ?_
  refine kb_iadd X dX6_bits_16 ?_
  refine kb_istore_n X [1, 0, 2] dX6_bits_17 rfl (by decide) (lv' := [(0, .int (nI (s))), (1, .int (((((0 : Int32) + (((nI (s)) >>> ((0 : Int32) &&& 31)) &&& (1 : Int32))) + (((nI (s)) >>> ((1 : Int32) &&& 31)) &&& (1 : Int32))) + (((nI (s)) >>> ((2 : Int32) &&& 31)) &&& (1 : Int32))) + (((nI (s)) >>> ((3 : Int32) &&& 31)) &&& (1 : Int32)))), (2, .int 3)]) rfl ?_
  refine kb_iinc X 2 [1, 2, 0] (v' := (4 : Int32)) dX6_bits_18 rfl (by decide) (by decide) (lv' := [(0, .int (nI (s))), (1, .int (((((0 : Int32) + (((nI (s)) >>> ((0 : Int32) &&& 31)) &&& (1 : Int32))) + (((nI (s)) >>> ((1 : Int32) &&& 31)) &&& (1 : Int32))) + (((nI (s)) >>> ((2 : Int32) &&& 31)) &&& (1 : Int32))) + (((nI (s)) >>> ((3 : Int32) &&& 31)) &&& (1 : Int32)))), (2, .int 4)]) rfl ?_
  refine kb_goto (tgt := 4) X dX6_bits_21 (by decide) ?_
  refine kb_iload_n X 2 dX6_bits_4 rfl rfl ?_
  refine kb_bipush (v := (6 : Int32)) X dX6_bits_5 (by decide) ?_
  refine kb_icmp_ge (tgt := 24) X dX6_bits_7 (by decide) (fun q_ => absurd q_ (by decide)) (fun _ => ?_)
  refine kb_iload_n X 1 dX6_bits_10 rfl rfl ?_
  refine kb_iload_n X 0 dX6_bits_11 rfl rfl ?_
  refine kb_iload_n X 2 dX6_bits_12 rfl rfl ?_
  refine kb_ishr X dX6_bits_13 ?_
  refine kb_iconst (v := (1 : Int32)) X dX6_bits_14 (by decide) ?_
  refine kb_iand X dX6_bits_15 ?_
  refine kb_iadd X dX6_bits_16 ?_
  refine kb_istore_n X [1, 0, 2] dX6_bits_17 rfl (by decide) (lv' := [(0, .int (nI (s))), (1, .int ((((((0 : Int32) + (((nI (s)) >>> ((0 : Int32) &&& 31)) &&& (1 : Int32))) + (((nI (s)) >>> ((1 : Int32) &&& 31)) &&& (1 : Int32))) + (((nI (s)) >>> ((2 : Int32) &&& 31)) &&& (1 : Int32))) + (((nI (s)) >>> ((3 : Int32) &&& 31)) &&& (1 : Int32))) + (((nI (s)) >>> ((4 : Int32) &&& 31)) &&& (1 : Int32)))), (2, .int 4)]) rfl ?_
  refine kb_iinc X 2 [1, 2, 0] (v' := (5 : Int32)) dX6_bits_18 rfl (by decide) (by decide) (lv' := [(0, .int (nI (s))), (1, .int ((((((0 : Int32) + (((nI (s)) >>> ((0 : Int32) &&& 31)) &&& (1 : Int32))) + (((nI (s)) >>> ((1 : Int32) &&& 31)) &&& (1 : Int32))) + (((nI (s)) >>> ((2 : Int32) &&& 31)) &&& (1 : Int32))) + (((nI (s)) >>> ((3 : Int32) &&& 31)) &&& (1 : Int32))) + (((nI (s)) >>> ((4 : Int32) &&& 31)) &&& (1 : Int32)))), (2, .int 5)]) rfl ?_
  refine kb_goto (tgt := 4) X dX6_bits_21 (by decide) ?_
  refine kb_iload_n X 2 dX6_bits_4 rfl rfl ?_
  refine kb_bipush (v := (6 : Int32)) X dX6_bits_5 (by decide) ?_
  refine kb_icmp_ge (tgt := 24) X dX6_bits_7 (by decide) (fun q_ => absurd q_ (by decide)) (fun _ => ?_)
  refine kb_iload_n X 1 dX6_bits_10 rfl rfl ?_
  refine kb_iload_n X 0 dX6_bits_11 rfl rfl ?_
  refine kb_iload_n X 2 dX6_bits_12 rfl rfl ?_
  refine kb_ishr X dX6_bits_13 ?_
  refine kb_iconst (v := (1 : Int32)) X dX6_bits_14 (by decide) ?_
  refine kb_iand X dX6_bits_15 ?_
  refine kb_iadd X dX6_bits_16 ?_
  refine kb_istore_n X [1, 0, 2] dX6_bits_17 rfl (by decide) (lv' := [(0, .int (nI (s))), (1, .int (((((((0 : Int32) + (((nI (s)) >>> ((0 : Int32) &&& 31)) &&& (1 : Int32))) + (((nI (s)) >>> ((1 : Int32) &&& 31)) &&& (1 : Int32))) + (((nI (s)) >>> ((2 : Int32) &&& 31)) &&& (1 : Int32))) + (((nI (s)) >>> ((3 : Int32) &&& 31)) &&& (1 : Int32))) + (((nI (s)) >>> ((4 : Int32) &&& 31)) &&& (1 : Int32))) + (((nI (s)) >>> ((5 : Int32) &&& 31)) &&& (1 : Int32)))), (2, .int 5)]) rfl ?_
  refine kb_iinc X 2 [1, 2, 0] (v' := (6 : Int32)) dX6_bits_18 rfl (by decide) (by decide) (lv' := [(0, .int (nI (s))), (1, .int (((((((0 : Int32) + (((nI (s)) >>> ((0 : Int32) &&& 31)) &&& (1 : Int32))) + (((nI (s)) >>> ((1 : Int32) &&& 31)) &&& (1 : Int32))) + (((nI (s)) >>> ((2 : Int32) &&& 31)) &&& (1 : Int32))) + (((nI (s)) >>> ((3 : Int32) &&& 31)) &&& (1 : Int32))) + (((nI (s)) >>> ((4 : Int32) &&& 31)) &&& (1 : Int32))) + (((nI (s)) >>> ((5 : Int32) &&& 31)) &&& (1 : Int32)))), (2, .int 6)]) rfl ?_
  refine kb_goto (tgt := 4) X dX6_bits_21 (by decide) ?_
  refine kb_iload_n X 2 dX6_bits_4 rfl rfl ?_
  refine kb_bipush (v := (6 : Int32)) X dX6_bits_5 (by decide) ?_
  refine kb_icmp_ge (tgt := 24) X dX6_bits_7 (by decide) (fun _ => ?_) (fun q_ => absurd q_ (by decide))
  refine kb_iload_n X 1 dX6_bits_24 rfl rfl ?_
  refine ke_i X Z dX6_bits_25 ?_
  exact ⟨bits_all s hs, rfl⟩

set_option maxHeartbeats 4000000 in
set_option maxRecDepth 100000 in
theorem ct_X6_areBells (l : Launch) (g : kw_G) (b c : Int32) : kMi l g yX6_areBells cX6_areBells 2 .boolean (kw_rm 2 0 0) 0 0 [.int (b), .int (c)] ([]) (fun r w => r = zI (fare b c) ∧ w = []) := by
  refine kMi_of (by decide +kernel) (Nat.le_of_ble_eq_true rfl) (fun x (X : kX l g RX6 cX6_areBells 2 (kw_rm 2 0 0) x) (Z : kZi .boolean _ 0 0 x) => ?_)
  show kW x 0 0 0 [(0, .int (b)), (1, .int (c))] [] []
  refine kb_iload_n X 0 dX6_areBells_0 rfl rfl ?_
  refine kb_i2l (v := b.toInt64) X dX6_areBells_1 rfl ?_
  refine kb_lconst (v := 0) X dX6_areBells_2 (by decide) ?_
  refine kb_ldc2 X kk_X6_185 dX6_areBells_3 ?_
  refine kc_Si X (As := [.long (b.toInt64), .long ((0 : Int64)), .long ((3 : Int64))]) (rest := []) (wr := ([])) (ct_X6_in l g b.toInt64 (0 : Int64) (3 : Int64)) dX6_areBells_6 rfl (List.Perm.refl _) mc_X6_in kl_X6_71 ms_X6_in kn_X6 (na := 3) (by decide +kernel) rfl ⟨Nat.le_of_ble_eq_true rfl, Nat.le_of_ble_eq_true rfl⟩ ⟨rfl, rfl⟩ ⟨Nat.le_of_ble_eq_true rfl, Nat.le_of_ble_eq_true rfl⟩ (Nat.le_of_ble_eq_true rfl) (fun r_ w_ hp_ => ?_)
  obtain ⟨rfl, rfl⟩ := hp_
  refine kw_ws (List.nil_append _) ?_
  refine kw_top (b := .int (zI (inr b (0 : Int32) (3 : Int32)))) (congrArg (fun q => Value.int (zI q)) (lin_c (by decide) (by decide))) ?_
  refine kz_if_eq (b := inr b (0 : Int32) (3 : Int32)) (tgt := 28) X dX6_areBells_9 (by decide) (fun c1_ => ?_) (fun c1_ => ?_)
  · skip
    refine kb_iconst (v := (0 : Int32)) X dX6_areBells_28 (by decide) ?_
    refine ke_z X Z rfl dX6_areBells_29 ?_
    exact ⟨(by first | rfl | (simp [zI, fare, c1_]; done) | (simp [zI, fare, c1_] <;> omega) | (simp_all [zI, fare, c1_]; done)), (by first | rfl | (simp [zI, fare, c1_]; done) | (simp [zI, fare, c1_] <;> omega) | (simp_all [zI, fare, c1_]; done))⟩
  · skip
    refine kb_iload_n X 1 dX6_areBells_12 rfl rfl ?_
    refine kb_i2l (v := c.toInt64) X dX6_areBells_13 rfl ?_
    refine kb_lconst (v := 0) X dX6_areBells_14 (by decide) ?_
    refine kb_ldc2 X kk_X6_185 dX6_areBells_15 ?_
    refine kc_Si X (As := [.long (c.toInt64), .long ((0 : Int64)), .long ((3 : Int64))]) (rest := []) (wr := ([])) (ct_X6_in l g c.toInt64 (0 : Int64) (3 : Int64)) dX6_areBells_18 rfl (List.Perm.refl _) mc_X6_in kl_X6_71 ms_X6_in kn_X6 (na := 3) (by decide +kernel) rfl ⟨Nat.le_of_ble_eq_true rfl, Nat.le_of_ble_eq_true rfl⟩ ⟨rfl, rfl⟩ ⟨Nat.le_of_ble_eq_true rfl, Nat.le_of_ble_eq_true rfl⟩ (Nat.le_of_ble_eq_true rfl) (fun r_ w_ hp_ => ?_)
    obtain ⟨rfl, rfl⟩ := hp_
    refine kw_ws (List.nil_append _) ?_
    refine kw_top (b := .int (zI (inr c (0 : Int32) (3 : Int32)))) (congrArg (fun q => Value.int (zI q)) (lin_c (by decide) (by decide))) ?_
    refine kz_if_eq (b := inr c (0 : Int32) (3 : Int32)) (tgt := 28) X dX6_areBells_21 (by decide) (fun c2_ => ?_) (fun c2_ => ?_)
    · skip
      refine kb_iconst (v := (0 : Int32)) X dX6_areBells_28 (by decide) ?_
      refine ke_z X Z rfl dX6_areBells_29 ?_
      exact ⟨(by first | rfl | (simp [zI, fare, c1_, c2_]; done) | (simp [zI, fare, c1_, c2_] <;> omega) | (simp_all [zI, fare, c1_, c2_]; done)), (by first | rfl | (simp [zI, fare, c1_, c2_]; done) | (simp [zI, fare, c1_, c2_] <;> omega) | (simp_all [zI, fare, c1_, c2_]; done))⟩
    · skip
      refine kb_iconst (v := (1 : Int32)) X dX6_areBells_24 (by decide) ?_
      refine kb_goto (tgt := 29) X dX6_areBells_25 (by decide) ?_
      refine ke_z X Z rfl dX6_areBells_29 ?_
      exact ⟨(by first | rfl | (simp [zI, fare, c1_, c2_]; done) | (simp [zI, fare, c1_, c2_] <;> omega) | (simp_all [zI, fare, c1_, c2_]; done)), (by first | rfl | (simp [zI, fare, c1_, c2_]; done) | (simp [zI, fare, c1_, c2_] <;> omega) | (simp_all [zI, fare, c1_, c2_]; done))⟩

set_option maxHeartbeats 4000000 in
set_option maxRecDepth 100000 in
theorem ct_X6_isPerson (l : Launch) (g : kw_G) (a : Nat → Nat) (pe : Nat) (so : Nat → Int32) (ag : Nat → Int32) (fr : Int32) (np : Nat) (ns : Nat → Int32) (na : Nat → Int32) (nf : Int32) (sl : Nat → Int32) (ac : Nat) (ke : Nat) (le : Nat) (tx : Nat → Nat) (ap : Nat) (bg : Nat) (wr : Bool) (se : Nat) (wh : Nat → Nat) (wo : Nat → Nat) (bl : Nat → Int32) (ck : Nat → Int32) (sw : Nat → Bool) (ma : Nat) (ro : Nat → Nat) (bs : Nat → Nat) (p : Int32) (hpe : pe ≤ 6) : kMi l g yX6_isPerson cX6_isPerson 2 .boolean (kw_rm 2 0 0) 0 0 [.ref (a 0), .int (p)] (wR g a pe so ag fr np ns na nf sl ac ke le tx ap bg wr se wh wo bl ck sw ma ro bs) (fun r w => r = zI (pin p pe) ∧ w = wR g a pe so ag fr np ns na nf sl ac ke le tx ap bg wr se wh wo bl ck sw ma ro bs) := by
  refine kMi_of (by decide +kernel) (Nat.le_of_ble_eq_true rfl) (fun x (X : kX l g RX6 cX6_isPerson 2 (kw_rm 2 0 0) x) (Z : kZi .boolean _ 0 0 x) => ?_)
  show kW x 0 0 0 [(0, .ref (a 0)), (1, .int (p))] [] (wR g a pe so ag fr np ns na nf sl ac ke le tx ap bg wr se wh wo bl ck sw ma ro bs)
  refine kb_iload_n X 1 dX6_isPerson_0 rfl rfl ?_
  refine kb_i2l (v := p.toInt64) X dX6_isPerson_1 rfl ?_
  refine kb_lconst (v := 0) X dX6_isPerson_2 (by decide) ?_
  refine kb_aload_n X 0 dX6_isPerson_3 rfl rfl ?_
  refine kb_get (v := .int (nI (pe))) (C := RX6) (T := TX6) (N := 25) (ci := 6) X kw_iX6 rfl 0 0 rfl (by decide) kf_X6_65 rfl rfl dX6_isPerson_4 ?_
  refine kb_iconst (v := (1 : Int32)) X dX6_isPerson_7 (by decide) ?_
  refine kb_isub X dX6_isPerson_8 ?_
  refine kb_i2l (v := ((nI (pe)) - (1 : Int32)).toInt64) X dX6_isPerson_9 rfl ?_
  refine kc_Si X (As := [.long (p.toInt64), .long ((0 : Int64)), .long (((nI (pe)) - (1 : Int32)).toInt64)]) (rest := []) (wr := (wR g a pe so ag fr np ns na nf sl ac ke le tx ap bg wr se wh wo bl ck sw ma ro bs)) (ct_X6_in l g p.toInt64 (0 : Int64) (((nI (pe)) - (1 : Int32)).toInt64)) dX6_isPerson_10 rfl (List.Perm.refl _) mc_X6_in kl_X6_71 ms_X6_in kn_X6 (na := 3) (by decide +kernel) rfl ⟨Nat.le_of_ble_eq_true rfl, Nat.le_of_ble_eq_true rfl⟩ ⟨rfl, rfl⟩ ⟨Nat.le_of_ble_eq_true rfl, Nat.le_of_ble_eq_true rfl⟩ (Nat.le_of_ble_eq_true rfl) (fun r_ w_ hp_ => ?_)
  obtain ⟨rfl, rfl⟩ := hp_
  refine kw_ws (List.nil_append _) ?_
  refine kw_top (b := .int (zI (pin p pe))) (congrArg (fun q => Value.int (zI q)) (lin_pin (by omega))) ?_
  refine ke_z X Z (zI_nar _) dX6_isPerson_13 ?_
  exact ⟨(by first | rfl | (simp [zI, ]; done) | (simp [zI, ] <;> omega) | (simp_all [zI, ]; done)), (by first | rfl | (simp [zI, ]; done) | (simp [zI, ] <;> omega) | (simp_all [zI, ]; done))⟩

set_option maxHeartbeats 4000000 in
set_option maxRecDepth 100000 in
theorem ct_X6_areTwo (l : Launch) (g : kw_G) (a : Nat → Nat) (pe : Nat) (so : Nat → Int32) (ag : Nat → Int32) (fr : Int32) (np : Nat) (ns : Nat → Int32) (na : Nat → Int32) (nf : Int32) (sl : Nat → Int32) (ac : Nat) (ke : Nat) (le : Nat) (tx : Nat → Nat) (ap : Nat) (bg : Nat) (wr : Bool) (se : Nat) (wh : Nat → Nat) (wo : Nat → Nat) (bl : Nat → Int32) (ck : Nat → Int32) (sw : Nat → Bool) (ma : Nat) (ro : Nat → Nat) (bs : Nat → Nat) (p q : Int32) (hpe : pe ≤ 6) : kMi l g yX6_areTwo cX6_areTwo 3 .boolean (kw_rm 3 0 0) 0 0 [.ref (a 0), .int (p), .int (q)] (wR g a pe so ag fr np ns na nf sl ac ke le tx ap bg wr se wh wo bl ck sw ma ro bs) (fun r w => r = zI (two p q pe) ∧ w = wR g a pe so ag fr np ns na nf sl ac ke le tx ap bg wr se wh wo bl ck sw ma ro bs) := by
  refine kMi_of (by decide +kernel) (Nat.le_of_ble_eq_true rfl) (fun x (X : kX l g RX6 cX6_areTwo 3 (kw_rm 3 0 0) x) (Z : kZi .boolean _ 0 0 x) => ?_)
  show kW x 0 0 0 [(0, .ref (a 0)), (1, .int (p)), (2, .int (q))] [] (wR g a pe so ag fr np ns na nf sl ac ke le tx ap bg wr se wh wo bl ck sw ma ro bs)
  refine kb_aload_n X 0 dX6_areTwo_0 rfl rfl ?_
  refine kb_iload_n X 1 dX6_areTwo_1 rfl rfl ?_
  refine kc_Vi X (As := [.int (p)]) (rest := []) (wr := []) (ct_X6_isPerson l g a pe so ag fr np ns na nf sl ac ke le tx ap bg wr se wh wo bl ck sw ma ro bs p (by omega)) dX6_areTwo_2 rfl (kw_pall _) mc_X6_isPerson kl_X6_75 mi_X6_isPerson mv_X6_isPerson kn_X6 0 rfl rfl rfl (na := 1) (by decide +kernel) rfl ⟨Nat.le_of_ble_eq_true rfl, Nat.le_of_ble_eq_true rfl⟩ ⟨rfl, rfl⟩ ⟨Nat.le_of_ble_eq_true rfl, Nat.le_of_ble_eq_true rfl⟩ (Nat.le_of_ble_eq_true rfl) (fun r_ w_ hp_ => ?_)
  obtain ⟨rfl, rfl⟩ := hp_
  refine kw_ws (List.append_nil _) ?_
  refine kz_if_eq (b := pin p pe) (tgt := 25) X dX6_areTwo_5 (by decide) (fun c1_ => ?_) (fun c1_ => ?_)
  · skip
    refine kb_iconst (v := (0 : Int32)) X dX6_areTwo_25 (by decide) ?_
    refine ke_z X Z rfl dX6_areTwo_26 ?_
    exact ⟨(by first | rfl | (simp [zI, two, c1_]; done) | (simp [zI, two, c1_] <;> omega) | (simp_all [zI, two, c1_]; done)), (by first | rfl | (simp [zI, two, c1_]; done) | (simp [zI, two, c1_] <;> omega) | (simp_all [zI, two, c1_]; done))⟩
  · skip
    refine kb_aload_n X 0 dX6_areTwo_8 rfl rfl ?_
    refine kb_iload_n X 2 dX6_areTwo_9 rfl rfl ?_
    refine kc_Vi X (As := [.int (q)]) (rest := []) (wr := []) (ct_X6_isPerson l g a pe so ag fr np ns na nf sl ac ke le tx ap bg wr se wh wo bl ck sw ma ro bs q (by omega)) dX6_areTwo_10 rfl (kw_pall _) mc_X6_isPerson kl_X6_75 mi_X6_isPerson mv_X6_isPerson kn_X6 0 rfl rfl rfl (na := 1) (by decide +kernel) rfl ⟨Nat.le_of_ble_eq_true rfl, Nat.le_of_ble_eq_true rfl⟩ ⟨rfl, rfl⟩ ⟨Nat.le_of_ble_eq_true rfl, Nat.le_of_ble_eq_true rfl⟩ (Nat.le_of_ble_eq_true rfl) (fun r_ w_ hp_ => ?_)
    obtain ⟨rfl, rfl⟩ := hp_
    refine kw_ws (List.append_nil _) ?_
    refine kz_if_eq (b := pin q pe) (tgt := 25) X dX6_areTwo_13 (by decide) (fun c2_ => ?_) (fun c2_ => ?_)
    · skip
      refine kb_iconst (v := (0 : Int32)) X dX6_areTwo_25 (by decide) ?_
      refine ke_z X Z rfl dX6_areTwo_26 ?_
      exact ⟨(by first | rfl | (simp [zI, two, c1_, c2_]; done) | (simp [zI, two, c1_, c2_] <;> omega) | (simp_all [zI, two, c1_, c2_]; done)), (by first | rfl | (simp [zI, two, c1_, c2_]; done) | (simp [zI, two, c1_, c2_] <;> omega) | (simp_all [zI, two, c1_, c2_]; done))⟩
    · skip
      refine kb_iload_n X 1 dX6_areTwo_16 rfl rfl ?_
      refine kb_iload_n X 2 dX6_areTwo_17 rfl rfl ?_
      refine kb_icmp_eq (tgt := 25) X dX6_areTwo_18 (by decide) (fun c3_ => ?_) (fun c3_ => ?_)
      · skip
        refine kb_iconst (v := (0 : Int32)) X dX6_areTwo_25 (by decide) ?_
        refine ke_z X Z rfl dX6_areTwo_26 ?_
        exact ⟨(by first | rfl | (simp [zI, two, c1_, c2_, c3_]; done) | (simp [zI, two, c1_, c2_, c3_] <;> omega) | (simp_all [zI, two, c1_, c2_, c3_]; done)), (by first | rfl | (simp [zI, two, c1_, c2_, c3_]; done) | (simp [zI, two, c1_, c2_, c3_] <;> omega) | (simp_all [zI, two, c1_, c2_, c3_]; done))⟩
      · skip
        refine kb_iconst (v := (1 : Int32)) X dX6_areTwo_21 (by decide) ?_
        refine kb_goto (tgt := 26) X dX6_areTwo_22 (by decide) ?_
        refine ke_z X Z rfl dX6_areTwo_26 ?_
        exact ⟨(by first | rfl | (simp [zI, two, c1_, c2_, c3_]; done) | (simp [zI, two, c1_, c2_, c3_] <;> omega) | (simp_all [zI, two, c1_, c2_, c3_]; done)), (by first | rfl | (simp [zI, two, c1_, c2_, c3_]; done) | (simp [zI, two, c1_, c2_, c3_] <;> omega) | (simp_all [zI, two, c1_, c2_, c3_]; done))⟩

set_option maxHeartbeats 4000000 in
set_option maxRecDepth 100000 in
theorem ct_X6_isAlive (l : Launch) (g : kw_G) (a : Nat → Nat) (pe : Nat) (so : Nat → Int32) (ag : Nat → Int32) (fr : Int32) (np : Nat) (ns : Nat → Int32) (na : Nat → Int32) (nf : Int32) (sl : Nat → Int32) (ac : Nat) (ke : Nat) (le : Nat) (tx : Nat → Nat) (ap : Nat) (bg : Nat) (wr : Bool) (se : Nat) (wh : Nat → Nat) (wo : Nat → Nat) (bl : Nat → Int32) (ck : Nat → Int32) (sw : Nat → Bool) (ma : Nat) (ro : Nat → Nat) (bs : Nat → Nat) (o : Nat) (v : VS) (ho : o + 82 ≤ 984) (hE : EN sl o v) (hK : KE pe so ag fr v) (hv : VI v) (p : Nat) (hp : p < 6) : kMi l g yX6_isAlive cX6_isAlive 3 .boolean (kw_rm 2 0 0) 0 0 [.ref (a 0), .int (nI (o)), .int (nI (p))] (wR g a pe so ag fr np ns na nf sl ac ke le tx ap bg wr se wh wo bl ck sw ma ro bs) (fun r w => r = zI (wLives v p) ∧ w = wR g a pe so ag fr np ns na nf sl ac ke le tx ap bg wr se wh wo bl ck sw ma ro bs) := by
  refine kMi_of (by decide +kernel) (Nat.le_of_ble_eq_true rfl) (fun x (X : kX l g RX6 cX6_isAlive 3 (kw_rm 2 0 0) x) (Z : kZi .boolean _ 0 0 x) => ?_)
  show kW x 0 0 0 [(0, .ref (a 0)), (1, .int (nI (o))), (2, .int (nI (p)))] [] (wR g a pe so ag fr np ns na nf sl ac ke le tx ap bg wr se wh wo bl ck sw ma ro bs)
  refine kb_aload_n X 0 dX6_isAlive_0 rfl rfl ?_
  refine kb_get (v := .ref (a 5)) (C := RX6) (T := TX6) (N := 25) (ci := 6) X kw_iX6 rfl 0 8 rfl (by decide) kf_X6_22 rfl rfl dX6_isAlive_1 ?_
  refine kb_iload_n X 1 dX6_isAlive_4 rfl rfl ?_
  refine kb_bipush (v := (6 : Int32)) X dX6_isAlive_5 (by decide) ?_
  refine kn_iadd X o 6 dX6_isAlive_7 ?_
  refine kb_iald (i := o + 6) X 5 rfl (by omega) (by decide) dX6_isAlive_8 ?_
  refine kw_top (b := .int (nI (vX v))) (congrArg Value.int (hE.x (by omega))) ?_
  refine kb_iload_n X 2 dX6_isAlive_9 rfl rfl ?_
  refine kc_Si X (As := [.int (nI (vX v)), .int (nI (p))]) (rest := []) (wr := (wR g a pe so ag fr np ns na nf sl ac ke le tx ap bg wr se wh wo bl ck sw ma ro bs)) (ct_X6_has l g (vX v) p hv.2.1 (by omega)) dX6_isAlive_10 rfl (List.Perm.refl _) mc_X6_has kl_X6_132 ms_X6_has kn_X6 (na := 2) (by decide +kernel) rfl ⟨Nat.le_of_ble_eq_true rfl, Nat.le_of_ble_eq_true rfl⟩ ⟨rfl, rfl⟩ ⟨Nat.le_of_ble_eq_true rfl, Nat.le_of_ble_eq_true rfl⟩ (Nat.le_of_ble_eq_true rfl) (fun r_ w_ hp_ => ?_)
  obtain ⟨rfl, rfl⟩ := hp_
  refine kw_ws (List.nil_append _) ?_
  refine kz_if_ne (b := Nat.testBit (vX v) p) (tgt := 20) X dX6_isAlive_13 (by decide) (fun c1_ => ?_) (fun c1_ => ?_)
  · skip
    refine kb_iconst (v := (0 : Int32)) X dX6_isAlive_20 (by decide) ?_
    refine ke_z X Z rfl dX6_isAlive_21 ?_
    exact ⟨(by first | rfl | (simp [zI, wLives, c1_]; done) | (simp [zI, wLives, c1_] <;> omega) | (simp_all [zI, wLives, c1_]; done)), (by first | rfl | (simp [zI, wLives, c1_]; done) | (simp [zI, wLives, c1_] <;> omega) | (simp_all [zI, wLives, c1_]; done))⟩
  · skip
    refine kb_iconst (v := (1 : Int32)) X dX6_isAlive_16 (by decide) ?_
    refine kb_goto (tgt := 21) X dX6_isAlive_17 (by decide) ?_
    refine ke_z X Z rfl dX6_isAlive_21 ?_
    exact ⟨(by first | rfl | (simp [zI, wLives, c1_]; done) | (simp [zI, wLives, c1_] <;> omega) | (simp_all [zI, wLives, c1_]; done)), (by first | rfl | (simp [zI, wLives, c1_]; done) | (simp [zI, wLives, c1_] <;> omega) | (simp_all [zI, wLives, c1_]; done))⟩

set_option maxHeartbeats 4000000 in
set_option maxRecDepth 100000 in
theorem ct_X6_ageOf (l : Launch) (g : kw_G) (a : Nat → Nat) (pe : Nat) (so : Nat → Int32) (ag : Nat → Int32) (fr : Int32) (np : Nat) (ns : Nat → Int32) (na : Nat → Int32) (nf : Int32) (sl : Nat → Int32) (ac : Nat) (ke : Nat) (le : Nat) (tx : Nat → Nat) (ap : Nat) (bg : Nat) (wr : Bool) (se : Nat) (wh : Nat → Nat) (wo : Nat → Nat) (bl : Nat → Int32) (ck : Nat → Int32) (sw : Nat → Bool) (ma : Nat) (ro : Nat → Nat) (bs : Nat → Nat) (o : Nat) (v : VS) (ho : o + 82 ≤ 984) (hE : EN sl o v) (hK : KE pe so ag fr v) (hv : VI v) (p : Nat) (hp : p < vN v) : kMi l g yX6_ageOf cX6_ageOf 3 .int (kw_rm 1 0 0) 0 0 [.ref (a 0), .int (nI (o)), .int (nI (p))] (wR g a pe so ag fr np ns na nf sl ac ke le tx ap bg wr se wh wo bl ck sw ma ro bs) (fun r w => r = wAge v p ∧ w = wR g a pe so ag fr np ns na nf sl ac ke le tx ap bg wr se wh wo bl ck sw ma ro bs) := by
  refine kMi_of (by decide +kernel) (Nat.le_of_ble_eq_true rfl) (fun x (X : kX l g RX6 cX6_ageOf 3 (kw_rm 1 0 0) x) (Z : kZi .int _ 0 0 x) => ?_)
  show kW x 0 0 0 [(0, .ref (a 0)), (1, .int (nI (o))), (2, .int (nI (p)))] [] (wR g a pe so ag fr np ns na nf sl ac ke le tx ap bg wr se wh wo bl ck sw ma ro bs)
  have h6 := hv.1
  have hpe := hK.1
  refine kb_aload_n X 0 dX6_ageOf_0 rfl rfl ?_
  refine kb_get (v := .ref (a 2)) (C := RX6) (T := TX6) (N := 25) (ci := 6) X kw_iX6 rfl 0 2 rfl (by decide) kf_X6_13 rfl rfl dX6_ageOf_1 ?_
  refine kb_iload_n X 2 dX6_ageOf_4 rfl rfl ?_
  refine kb_iald (i := p) X 2 rfl (by omega) (by decide) dX6_ageOf_5 ?_
  refine kw_top (b := .int (vA v p)) (congrArg Value.int (hK.2.2 _ (by omega)).2) ?_
  refine kb_aload_n X 0 dX6_ageOf_6 rfl rfl ?_
  refine kb_get (v := .ref (a 5)) (C := RX6) (T := TX6) (N := 25) (ci := 6) X kw_iX6 rfl 0 8 rfl (by decide) kf_X6_22 rfl rfl dX6_ageOf_7 ?_
  refine kb_iload_n X 1 dX6_ageOf_10 rfl rfl ?_
  refine kb_bipush (v := (8 : Int32)) X dX6_ageOf_11 (by decide) ?_
  refine kn_iadd X o 8 dX6_ageOf_13 ?_
  refine kb_iald (i := o + 8) X 5 rfl (by omega) (by decide) dX6_ageOf_14 ?_
  refine kw_top (b := .int (vY v)) (congrArg Value.int (hE.y (by omega))) ?_
  refine kb_bipush (v := (30 : Int32)) X dX6_ageOf_15 (by decide) ?_
  refine kb_idiv X dX6_ageOf_17 (by decide) ?_
  refine kb_iadd X dX6_ageOf_18 ?_
  refine ke_i X Z dX6_ageOf_19 ?_
  exact ⟨(by first | rfl | (simp [zI, ]; done) | (simp [zI, ] <;> omega) | (simp_all [zI, ]; done)), (by first | rfl | (simp [zI, ]; done) | (simp [zI, ] <;> omega) | (simp_all [zI, ]; done))⟩

set_option maxHeartbeats 4000000 in
set_option maxRecDepth 100000 in
theorem ct_X6_likes (l : Launch) (g : kw_G) (a : Nat → Nat) (pe : Nat) (so : Nat → Int32) (ag : Nat → Int32) (fr : Int32) (np : Nat) (ns : Nat → Int32) (na : Nat → Int32) (nf : Int32) (sl : Nat → Int32) (ac : Nat) (ke : Nat) (le : Nat) (tx : Nat → Nat) (ap : Nat) (bg : Nat) (wr : Bool) (se : Nat) (wh : Nat → Nat) (wo : Nat → Nat) (bl : Nat → Int32) (ck : Nat → Int32) (sw : Nat → Bool) (ma : Nat) (ro : Nat → Nat) (bs : Nat → Nat) (o : Nat) (v : VS) (ho : o + 82 ≤ 984) (hE : EN sl o v) (hK : KE pe so ag fr v) (hv : VI v) (p q : Nat) (kd tie b c : Int32) (hp : p < 6) (hq : q < 6) : kMi l g yX6_likes cX6_likes 9 .boolean (kw_rm 1 0 0) 0 0 [.ref (a 0), .int (nI (o)), .int (nI (p)), .int (nI (q)), .int (kd), .int (tie), .int (b), .int (c)] (wR g a pe so ag fr np ns na nf sl ac ke le tx ap bg wr se wh wo bl ck sw ma ro bs) (fun r w => r = zI (wLk v p kd tie q b c) ∧ w = wR g a pe so ag fr np ns na nf sl ac ke le tx ap bg wr se wh wo bl ck sw ma ro bs) := by
  refine kMi_of (by decide +kernel) (Nat.le_of_ble_eq_true rfl) (fun x (X : kX l g RX6 cX6_likes 9 (kw_rm 1 0 0) x) (Z : kZi .boolean _ 0 0 x) => ?_)
  show kW x 0 0 0 [(0, .ref (a 0)), (1, .int (nI (o))), (2, .int (nI (p))), (3, .int (nI (q))), (4, .int (kd)), (5, .int (tie)), (6, .int (b)), (7, .int (c))] [] (wR g a pe so ag fr np ns na nf sl ac ke le tx ap bg wr se wh wo bl ck sw ma ro bs)
  refine kb_iload X 5 dX6_likes_0 rfl ?_
  refine kb_iload X 6 dX6_likes_2 rfl ?_
  refine kb_iadd X dX6_likes_4 ?_
  refine kb_iconst (v := (2 : Int32)) X dX6_likes_5 (by decide) ?_
  refine kb_icmp_lt (tgt := 13) X dX6_likes_6 (by decide) (fun c1_ => ?_) (fun c1_ => ?_)
  · skip
    refine kb_iconst (v := (0 : Int32)) X dX6_likes_13 (by decide) ?_
    refine kb_istore X [1, 2, 3, 4, 5, 6, 7, 8, 0] dX6_likes_14 (by decide) (lv' := [(0, .ref (a 0)), (1, .int (nI (o))), (2, .int (nI (p))), (3, .int (nI (q))), (4, .int (kd)), (5, .int (tie)), (6, .int (b)), (7, .int (c)), (8, .int 0)]) rfl ?_
    refine kb_iload X 4 dX6_likes_16 rfl ?_
    refine kb_iconst (v := (1 : Int32)) X dX6_likes_18 (by decide) ?_
    refine kb_icmp_ne (tgt := 44) X dX6_likes_19 (by decide) (fun c2_ => ?_) (fun c2_ => ?_)
    · skip
      refine kb_iload X 4 dX6_likes_44 rfl ?_
      refine kb_iconst (v := (2 : Int32)) X dX6_likes_46 (by decide) ?_
      refine kb_icmp_ne (tgt := 68) X dX6_likes_47 (by decide) (fun c3_ => ?_) (fun c3_ => ?_)
      · skip
        refine kb_iload X 4 dX6_likes_68 rfl ?_
        refine kb_iconst (v := (3 : Int32)) X dX6_likes_70 (by decide) ?_
        refine kb_icmp_ne (tgt := 99) X dX6_likes_71 (by decide) (fun c4_ => ?_) (fun c4_ => ?_)
        · skip
          refine kb_iload X 4 dX6_likes_99 rfl ?_
          refine kb_iconst (v := (4 : Int32)) X dX6_likes_101 (by decide) ?_
          refine kb_icmp_ne (tgt := 141) X dX6_likes_102 (by decide) (fun c5_ => ?_) (fun c5_ => ?_)
          · skip
            refine kb_iload X 8 dX6_likes_141 rfl ?_
            refine ke_z X Z rfl dX6_likes_143 ?_
            exact ⟨(by first | rfl | (simp [zI, wLk, c1_, c2_, c3_, c4_, c5_]; done) | (simp [zI, wLk, c1_, c2_, c3_, c4_, c5_] <;> omega) | (simp_all [zI, wLk, c1_, c2_, c3_, c4_, c5_]; done)), (by first | rfl | (simp [zI, wLk, c1_, c2_, c3_, c4_, c5_]; done) | (simp [zI, wLk, c1_, c2_, c3_, c4_, c5_] <;> omega) | (simp_all [zI, wLk, c1_, c2_, c3_, c4_, c5_]; done))⟩
          · skip
            refine kb_aload_n X 0 dX6_likes_105 rfl rfl ?_
            refine kb_get (v := .ref (a 5)) (C := RX6) (T := TX6) (N := 25) (ci := 6) X kw_iX6 rfl 0 8 rfl (by decide) kf_X6_22 rfl rfl dX6_likes_106 ?_
            refine kb_iload_n X 1 dX6_likes_109 rfl rfl ?_
            refine kb_bipush (v := (46 : Int32)) X dX6_likes_110 (by decide) ?_
            refine kn_iadd X o 46 dX6_likes_112 ?_
            refine kb_bipush (v := (6 : Int32)) X dX6_likes_113 (by decide) ?_
            refine kb_iload_n X 2 dX6_likes_115 rfl rfl ?_
            refine kn_imul X 6 p dX6_likes_116 ?_
            refine kn_iadd X (o + 46) (6 * p) dX6_likes_117 ?_
            refine kb_iload_n X 3 dX6_likes_118 rfl rfl ?_
            refine kn_iadd X ((o + 46) + (6 * p)) q dX6_likes_119 ?_
            refine kb_iald (i := ((o + 46) + (6 * p)) + q) X 5 rfl (by omega) (by decide) dX6_likes_120 ?_
            refine kw_top (b := .int (vD v (p * 6 + q))) (congrArg Value.int (hE.d (p := p) (q := q) (by omega) (by omega) (by omega))) ?_
            refine kb_if_ne (tgt := 137) X dX6_likes_121 (by decide) (fun c6_ => ?_) (fun c6_ => ?_)
            · skip
              refine kb_iconst (v := (0 : Int32)) X dX6_likes_137 (by decide) ?_
              refine kb_goto (tgt := 143) X dX6_likes_138 (by decide) ?_
              refine ke_z X Z rfl dX6_likes_143 ?_
              exact ⟨(by first | rfl | (simp [zI, wLk, c1_, c2_, c3_, c4_, c5_, c6_]; done) | (simp [zI, wLk, c1_, c2_, c3_, c4_, c5_, c6_] <;> omega) | (simp_all [zI, wLk, c1_, c2_, c3_, c4_, c5_, c6_]; done)), (by first | rfl | (simp [zI, wLk, c1_, c2_, c3_, c4_, c5_, c6_]; done) | (simp [zI, wLk, c1_, c2_, c3_, c4_, c5_, c6_] <;> omega) | (simp_all [zI, wLk, c1_, c2_, c3_, c4_, c5_, c6_]; done))⟩
            · skip
              refine kb_iload X 5 dX6_likes_124 rfl ?_
              refine kb_iload X 6 dX6_likes_126 rfl ?_
              refine kb_iadd X dX6_likes_128 ?_
              refine kb_iconst (v := (1 : Int32)) X dX6_likes_129 (by decide) ?_
              refine kb_icmp_lt (tgt := 137) X dX6_likes_130 (by decide) (fun c7_ => ?_) (fun c7_ => ?_)
              · skip
                refine kb_iconst (v := (0 : Int32)) X dX6_likes_137 (by decide) ?_
                refine kb_goto (tgt := 143) X dX6_likes_138 (by decide) ?_
                refine ke_z X Z rfl dX6_likes_143 ?_
                exact ⟨(by first | rfl | (simp [zI, wLk, c1_, c2_, c3_, c4_, c5_, c6_, c7_]; done) | (simp [zI, wLk, c1_, c2_, c3_, c4_, c5_, c6_, c7_] <;> omega) | (simp_all [zI, wLk, c1_, c2_, c3_, c4_, c5_, c6_, c7_]; done)), (by first | rfl | (simp [zI, wLk, c1_, c2_, c3_, c4_, c5_, c6_, c7_]; done) | (simp [zI, wLk, c1_, c2_, c3_, c4_, c5_, c6_, c7_] <;> omega) | (simp_all [zI, wLk, c1_, c2_, c3_, c4_, c5_, c6_, c7_]; done))⟩
              · skip
                refine kb_iconst (v := (1 : Int32)) X dX6_likes_133 (by decide) ?_
                refine kb_goto (tgt := 143) X dX6_likes_134 (by decide) ?_
                refine ke_z X Z rfl dX6_likes_143 ?_
                exact ⟨(by first | rfl | (simp [zI, wLk, c1_, c2_, c3_, c4_, c5_, c6_, c7_]; done) | (simp [zI, wLk, c1_, c2_, c3_, c4_, c5_, c6_, c7_] <;> omega) | (simp_all [zI, wLk, c1_, c2_, c3_, c4_, c5_, c6_, c7_]; done)), (by first | rfl | (simp [zI, wLk, c1_, c2_, c3_, c4_, c5_, c6_, c7_]; done) | (simp [zI, wLk, c1_, c2_, c3_, c4_, c5_, c6_, c7_] <;> omega) | (simp_all [zI, wLk, c1_, c2_, c3_, c4_, c5_, c6_, c7_]; done))⟩
        · skip
          refine kb_iload X 8 dX6_likes_74 rfl ?_
          refine kb_if_eq (tgt := 95) X dX6_likes_76 (by decide) (fun _ => ?_) (fun q_ => absurd q_ (by decide))
          refine kb_iconst (v := (0 : Int32)) X dX6_likes_95 (by decide) ?_
          refine kb_goto (tgt := 143) X dX6_likes_96 (by decide) ?_
          refine ke_z X Z rfl dX6_likes_143 ?_
          exact ⟨(by first | rfl | (simp [zI, wLk, c1_, c2_, c3_, c4_]; done) | (simp [zI, wLk, c1_, c2_, c3_, c4_] <;> omega) | (simp_all [zI, wLk, c1_, c2_, c3_, c4_]; done)), (by first | rfl | (simp [zI, wLk, c1_, c2_, c3_, c4_]; done) | (simp [zI, wLk, c1_, c2_, c3_, c4_] <;> omega) | (simp_all [zI, wLk, c1_, c2_, c3_, c4_]; done))⟩
      · skip
        refine kb_iload X 7 dX6_likes_50 rfl ?_
        refine kb_if_gt (tgt := 60) X dX6_likes_52 (by decide) (fun c9_ => ?_) (fun c9_ => ?_)
        · skip
          refine kb_iconst (v := (1 : Int32)) X dX6_likes_60 (by decide) ?_
          refine kb_goto (tgt := 143) X dX6_likes_61 (by decide) ?_
          refine ke_z X Z rfl dX6_likes_143 ?_
          exact ⟨(by first | rfl | (simp [zI, wLk, c1_, c2_, c3_, c9_]; done) | (simp [zI, wLk, c1_, c2_, c3_, c9_] <;> omega) | (simp_all [zI, wLk, c1_, c2_, c3_, c9_]; done)), (by first | rfl | (simp [zI, wLk, c1_, c2_, c3_, c9_]; done) | (simp [zI, wLk, c1_, c2_, c3_, c9_] <;> omega) | (simp_all [zI, wLk, c1_, c2_, c3_, c9_]; done))⟩
        · skip
          refine kb_iload X 8 dX6_likes_55 rfl ?_
          refine kb_if_eq (tgt := 64) X dX6_likes_57 (by decide) (fun _ => ?_) (fun q_ => absurd q_ (by decide))
          refine kb_iconst (v := (0 : Int32)) X dX6_likes_64 (by decide) ?_
          refine kb_goto (tgt := 143) X dX6_likes_65 (by decide) ?_
          refine ke_z X Z rfl dX6_likes_143 ?_
          exact ⟨(by first | rfl | (simp [zI, wLk, c1_, c2_, c3_, c9_]; done) | (simp [zI, wLk, c1_, c2_, c3_, c9_] <;> omega) | (simp_all [zI, wLk, c1_, c2_, c3_, c9_]; done)), (by first | rfl | (simp [zI, wLk, c1_, c2_, c3_, c9_]; done) | (simp [zI, wLk, c1_, c2_, c3_, c9_] <;> omega) | (simp_all [zI, wLk, c1_, c2_, c3_, c9_]; done))⟩
    · skip
      refine kb_iload X 5 dX6_likes_22 rfl ?_
      refine kb_if_lt (tgt := 36) X dX6_likes_24 (by decide) (fun c11_ => ?_) (fun c11_ => ?_)
      · skip
        refine kb_iconst (v := (1 : Int32)) X dX6_likes_36 (by decide) ?_
        refine kb_goto (tgt := 143) X dX6_likes_37 (by decide) ?_
        refine ke_z X Z rfl dX6_likes_143 ?_
        exact ⟨(by first | rfl | (simp [zI, wLk, c1_, c2_, c11_]; done) | (simp [zI, wLk, c1_, c2_, c11_] <;> omega) | (simp_all [zI, wLk, c1_, c2_, c11_]; done)), (by first | rfl | (simp [zI, wLk, c1_, c2_, c11_]; done) | (simp [zI, wLk, c1_, c2_, c11_] <;> omega) | (simp_all [zI, wLk, c1_, c2_, c11_]; done))⟩
      · skip
        refine kb_iload X 5 dX6_likes_27 rfl ?_
        refine kb_iload X 6 dX6_likes_29 rfl ?_
        refine kb_iadd X dX6_likes_31 ?_
        refine kb_iconst (v := (4 : Int32)) X dX6_likes_32 (by decide) ?_
        refine kb_icmp_lt (tgt := 40) X dX6_likes_33 (by decide) (fun c12_ => ?_) (fun c12_ => ?_)
        · skip
          refine kb_iconst (v := (0 : Int32)) X dX6_likes_40 (by decide) ?_
          refine kb_goto (tgt := 143) X dX6_likes_41 (by decide) ?_
          refine ke_z X Z rfl dX6_likes_143 ?_
          exact ⟨(by first | rfl | (simp [zI, wLk, c1_, c2_, c11_, c12_]; done) | (simp [zI, wLk, c1_, c2_, c11_, c12_] <;> omega) | (simp_all [zI, wLk, c1_, c2_, c11_, c12_]; done)), (by first | rfl | (simp [zI, wLk, c1_, c2_, c11_, c12_]; done) | (simp [zI, wLk, c1_, c2_, c11_, c12_] <;> omega) | (simp_all [zI, wLk, c1_, c2_, c11_, c12_]; done))⟩
        · skip
          refine kb_iconst (v := (1 : Int32)) X dX6_likes_36 (by decide) ?_
          refine kb_goto (tgt := 143) X dX6_likes_37 (by decide) ?_
          refine ke_z X Z rfl dX6_likes_143 ?_
          exact ⟨(by first | rfl | (simp [zI, wLk, c1_, c2_, c11_, c12_]; done) | (simp [zI, wLk, c1_, c2_, c11_, c12_] <;> omega) | (simp_all [zI, wLk, c1_, c2_, c11_, c12_]; done)), (by first | rfl | (simp [zI, wLk, c1_, c2_, c11_, c12_]; done) | (simp [zI, wLk, c1_, c2_, c11_, c12_] <;> omega) | (simp_all [zI, wLk, c1_, c2_, c11_, c12_]; done))⟩
  · skip
    refine kb_iconst (v := (1 : Int32)) X dX6_likes_9 (by decide) ?_
    refine kb_goto (tgt := 14) X dX6_likes_10 (by decide) ?_
    refine kb_istore X [1, 2, 3, 4, 5, 6, 7, 8, 0] dX6_likes_14 (by decide) (lv' := [(0, .ref (a 0)), (1, .int (nI (o))), (2, .int (nI (p))), (3, .int (nI (q))), (4, .int (kd)), (5, .int (tie)), (6, .int (b)), (7, .int (c)), (8, .int 1)]) rfl ?_
    refine kb_iload X 4 dX6_likes_16 rfl ?_
    refine kb_iconst (v := (1 : Int32)) X dX6_likes_18 (by decide) ?_
    refine kb_icmp_ne (tgt := 44) X dX6_likes_19 (by decide) (fun c13_ => ?_) (fun c13_ => ?_)
    · skip
      refine kb_iload X 4 dX6_likes_44 rfl ?_
      refine kb_iconst (v := (2 : Int32)) X dX6_likes_46 (by decide) ?_
      refine kb_icmp_ne (tgt := 68) X dX6_likes_47 (by decide) (fun c14_ => ?_) (fun c14_ => ?_)
      · skip
        refine kb_iload X 4 dX6_likes_68 rfl ?_
        refine kb_iconst (v := (3 : Int32)) X dX6_likes_70 (by decide) ?_
        refine kb_icmp_ne (tgt := 99) X dX6_likes_71 (by decide) (fun c15_ => ?_) (fun c15_ => ?_)
        · skip
          refine kb_iload X 4 dX6_likes_99 rfl ?_
          refine kb_iconst (v := (4 : Int32)) X dX6_likes_101 (by decide) ?_
          refine kb_icmp_ne (tgt := 141) X dX6_likes_102 (by decide) (fun c16_ => ?_) (fun c16_ => ?_)
          · skip
            refine kb_iload X 8 dX6_likes_141 rfl ?_
            refine ke_z X Z rfl dX6_likes_143 ?_
            exact ⟨(by first | rfl | (simp [zI, wLk, c1_, c13_, c14_, c15_, c16_]; done) | (simp [zI, wLk, c1_, c13_, c14_, c15_, c16_] <;> omega) | (simp_all [zI, wLk, c1_, c13_, c14_, c15_, c16_]; done)), (by first | rfl | (simp [zI, wLk, c1_, c13_, c14_, c15_, c16_]; done) | (simp [zI, wLk, c1_, c13_, c14_, c15_, c16_] <;> omega) | (simp_all [zI, wLk, c1_, c13_, c14_, c15_, c16_]; done))⟩
          · skip
            refine kb_aload_n X 0 dX6_likes_105 rfl rfl ?_
            refine kb_get (v := .ref (a 5)) (C := RX6) (T := TX6) (N := 25) (ci := 6) X kw_iX6 rfl 0 8 rfl (by decide) kf_X6_22 rfl rfl dX6_likes_106 ?_
            refine kb_iload_n X 1 dX6_likes_109 rfl rfl ?_
            refine kb_bipush (v := (46 : Int32)) X dX6_likes_110 (by decide) ?_
            refine kn_iadd X o 46 dX6_likes_112 ?_
            refine kb_bipush (v := (6 : Int32)) X dX6_likes_113 (by decide) ?_
            refine kb_iload_n X 2 dX6_likes_115 rfl rfl ?_
            refine kn_imul X 6 p dX6_likes_116 ?_
            refine kn_iadd X (o + 46) (6 * p) dX6_likes_117 ?_
            refine kb_iload_n X 3 dX6_likes_118 rfl rfl ?_
            refine kn_iadd X ((o + 46) + (6 * p)) q dX6_likes_119 ?_
            refine kb_iald (i := ((o + 46) + (6 * p)) + q) X 5 rfl (by omega) (by decide) dX6_likes_120 ?_
            refine kw_top (b := .int (vD v (p * 6 + q))) (congrArg Value.int (hE.d (p := p) (q := q) (by omega) (by omega) (by omega))) ?_
            refine kb_if_ne (tgt := 137) X dX6_likes_121 (by decide) (fun c17_ => ?_) (fun c17_ => ?_)
            · skip
              refine kb_iconst (v := (0 : Int32)) X dX6_likes_137 (by decide) ?_
              refine kb_goto (tgt := 143) X dX6_likes_138 (by decide) ?_
              refine ke_z X Z rfl dX6_likes_143 ?_
              exact ⟨(by first | rfl | (simp [zI, wLk, c1_, c13_, c14_, c15_, c16_, c17_]; done) | (simp [zI, wLk, c1_, c13_, c14_, c15_, c16_, c17_] <;> omega) | (simp_all [zI, wLk, c1_, c13_, c14_, c15_, c16_, c17_]; done)), (by first | rfl | (simp [zI, wLk, c1_, c13_, c14_, c15_, c16_, c17_]; done) | (simp [zI, wLk, c1_, c13_, c14_, c15_, c16_, c17_] <;> omega) | (simp_all [zI, wLk, c1_, c13_, c14_, c15_, c16_, c17_]; done))⟩
            · skip
              refine kb_iload X 5 dX6_likes_124 rfl ?_
              refine kb_iload X 6 dX6_likes_126 rfl ?_
              refine kb_iadd X dX6_likes_128 ?_
              refine kb_iconst (v := (1 : Int32)) X dX6_likes_129 (by decide) ?_
              refine kb_icmp_lt (tgt := 137) X dX6_likes_130 (by decide) (fun c18_ => ?_) (fun c18_ => ?_)
              · skip
                refine kb_iconst (v := (0 : Int32)) X dX6_likes_137 (by decide) ?_
                refine kb_goto (tgt := 143) X dX6_likes_138 (by decide) ?_
                refine ke_z X Z rfl dX6_likes_143 ?_
                exact ⟨(by first | rfl | (simp [zI, wLk, c1_, c13_, c14_, c15_, c16_, c17_, c18_]; done) | (simp [zI, wLk, c1_, c13_, c14_, c15_, c16_, c17_, c18_] <;> omega) | (simp_all [zI, wLk, c1_, c13_, c14_, c15_, c16_, c17_, c18_]; done)), (by first | rfl | (simp [zI, wLk, c1_, c13_, c14_, c15_, c16_, c17_, c18_]; done) | (simp [zI, wLk, c1_, c13_, c14_, c15_, c16_, c17_, c18_] <;> omega) | (simp_all [zI, wLk, c1_, c13_, c14_, c15_, c16_, c17_, c18_]; done))⟩
              · skip
                refine kb_iconst (v := (1 : Int32)) X dX6_likes_133 (by decide) ?_
                refine kb_goto (tgt := 143) X dX6_likes_134 (by decide) ?_
                refine ke_z X Z rfl dX6_likes_143 ?_
                exact ⟨(by first | rfl | (simp [zI, wLk, c1_, c13_, c14_, c15_, c16_, c17_, c18_]; done) | (simp [zI, wLk, c1_, c13_, c14_, c15_, c16_, c17_, c18_] <;> omega) | (simp_all [zI, wLk, c1_, c13_, c14_, c15_, c16_, c17_, c18_]; done)), (by first | rfl | (simp [zI, wLk, c1_, c13_, c14_, c15_, c16_, c17_, c18_]; done) | (simp [zI, wLk, c1_, c13_, c14_, c15_, c16_, c17_, c18_] <;> omega) | (simp_all [zI, wLk, c1_, c13_, c14_, c15_, c16_, c17_, c18_]; done))⟩
        · skip
          refine kb_iload X 8 dX6_likes_74 rfl ?_
          refine kb_if_eq (tgt := 95) X dX6_likes_76 (by decide) (fun q_ => absurd q_ (by decide)) (fun _ => ?_)
          refine kb_aload_n X 0 dX6_likes_79 rfl rfl ?_
          refine kb_get (v := .ref (a 5)) (C := RX6) (T := TX6) (N := 25) (ci := 6) X kw_iX6 rfl 0 8 rfl (by decide) kf_X6_22 rfl rfl dX6_likes_80 ?_
          refine kb_iload_n X 1 dX6_likes_83 rfl rfl ?_
          refine kb_bipush (v := (9 : Int32)) X dX6_likes_84 (by decide) ?_
          refine kn_iadd X o 9 dX6_likes_86 ?_
          refine kb_iald (i := o + 9) X 5 rfl (by omega) (by decide) dX6_likes_87 ?_
          refine kw_top (b := .int (vZ v)) (congrArg Value.int (hE.z (by omega))) ?_
          refine kb_if_ne (tgt := 95) X dX6_likes_88 (by decide) (fun c20_ => ?_) (fun c20_ => ?_)
          · skip
            refine kb_iconst (v := (0 : Int32)) X dX6_likes_95 (by decide) ?_
            refine kb_goto (tgt := 143) X dX6_likes_96 (by decide) ?_
            refine ke_z X Z rfl dX6_likes_143 ?_
            exact ⟨(by first | rfl | (simp [zI, wLk, c1_, c13_, c14_, c15_, c20_]; done) | (simp [zI, wLk, c1_, c13_, c14_, c15_, c20_] <;> omega) | (simp_all [zI, wLk, c1_, c13_, c14_, c15_, c20_]; done)), (by first | rfl | (simp [zI, wLk, c1_, c13_, c14_, c15_, c20_]; done) | (simp [zI, wLk, c1_, c13_, c14_, c15_, c20_] <;> omega) | (simp_all [zI, wLk, c1_, c13_, c14_, c15_, c20_]; done))⟩
          · skip
            refine kb_iconst (v := (1 : Int32)) X dX6_likes_91 (by decide) ?_
            refine kb_goto (tgt := 143) X dX6_likes_92 (by decide) ?_
            refine ke_z X Z rfl dX6_likes_143 ?_
            exact ⟨(by first | rfl | (simp [zI, wLk, c1_, c13_, c14_, c15_, c20_]; done) | (simp [zI, wLk, c1_, c13_, c14_, c15_, c20_] <;> omega) | (simp_all [zI, wLk, c1_, c13_, c14_, c15_, c20_]; done)), (by first | rfl | (simp [zI, wLk, c1_, c13_, c14_, c15_, c20_]; done) | (simp [zI, wLk, c1_, c13_, c14_, c15_, c20_] <;> omega) | (simp_all [zI, wLk, c1_, c13_, c14_, c15_, c20_]; done))⟩
      · skip
        refine kb_iload X 7 dX6_likes_50 rfl ?_
        refine kb_if_gt (tgt := 60) X dX6_likes_52 (by decide) (fun c21_ => ?_) (fun c21_ => ?_)
        · skip
          refine kb_iconst (v := (1 : Int32)) X dX6_likes_60 (by decide) ?_
          refine kb_goto (tgt := 143) X dX6_likes_61 (by decide) ?_
          refine ke_z X Z rfl dX6_likes_143 ?_
          exact ⟨(by first | rfl | (simp [zI, wLk, c1_, c13_, c14_, c21_]; done) | (simp [zI, wLk, c1_, c13_, c14_, c21_] <;> omega) | (simp_all [zI, wLk, c1_, c13_, c14_, c21_]; done)), (by first | rfl | (simp [zI, wLk, c1_, c13_, c14_, c21_]; done) | (simp [zI, wLk, c1_, c13_, c14_, c21_] <;> omega) | (simp_all [zI, wLk, c1_, c13_, c14_, c21_]; done))⟩
        · skip
          refine kb_iload X 8 dX6_likes_55 rfl ?_
          refine kb_if_eq (tgt := 64) X dX6_likes_57 (by decide) (fun q_ => absurd q_ (by decide)) (fun _ => ?_)
          refine kb_iconst (v := (1 : Int32)) X dX6_likes_60 (by decide) ?_
          refine kb_goto (tgt := 143) X dX6_likes_61 (by decide) ?_
          refine ke_z X Z rfl dX6_likes_143 ?_
          exact ⟨(by first | rfl | (simp [zI, wLk, c1_, c13_, c14_, c21_]; done) | (simp [zI, wLk, c1_, c13_, c14_, c21_] <;> omega) | (simp_all [zI, wLk, c1_, c13_, c14_, c21_]; done)), (by first | rfl | (simp [zI, wLk, c1_, c13_, c14_, c21_]; done) | (simp [zI, wLk, c1_, c13_, c14_, c21_] <;> omega) | (simp_all [zI, wLk, c1_, c13_, c14_, c21_]; done))⟩
    · skip
      refine kb_iload X 5 dX6_likes_22 rfl ?_
      refine kb_if_lt (tgt := 36) X dX6_likes_24 (by decide) (fun c23_ => ?_) (fun c23_ => ?_)
      · skip
        refine kb_iconst (v := (1 : Int32)) X dX6_likes_36 (by decide) ?_
        refine kb_goto (tgt := 143) X dX6_likes_37 (by decide) ?_
        refine ke_z X Z rfl dX6_likes_143 ?_
        exact ⟨(by first | rfl | (simp [zI, wLk, c1_, c13_, c23_]; done) | (simp [zI, wLk, c1_, c13_, c23_] <;> omega) | (simp_all [zI, wLk, c1_, c13_, c23_]; done)), (by first | rfl | (simp [zI, wLk, c1_, c13_, c23_]; done) | (simp [zI, wLk, c1_, c13_, c23_] <;> omega) | (simp_all [zI, wLk, c1_, c13_, c23_]; done))⟩
      · skip
        refine kb_iload X 5 dX6_likes_27 rfl ?_
        refine kb_iload X 6 dX6_likes_29 rfl ?_
        refine kb_iadd X dX6_likes_31 ?_
        refine kb_iconst (v := (4 : Int32)) X dX6_likes_32 (by decide) ?_
        refine kb_icmp_lt (tgt := 40) X dX6_likes_33 (by decide) (fun c24_ => ?_) (fun c24_ => ?_)
        · skip
          refine kb_iconst (v := (0 : Int32)) X dX6_likes_40 (by decide) ?_
          refine kb_goto (tgt := 143) X dX6_likes_41 (by decide) ?_
          refine ke_z X Z rfl dX6_likes_143 ?_
          exact ⟨(by first | rfl | (simp [zI, wLk, c1_, c13_, c23_, c24_]; done) | (simp [zI, wLk, c1_, c13_, c23_, c24_] <;> omega) | (simp_all [zI, wLk, c1_, c13_, c23_, c24_]; done)), (by first | rfl | (simp [zI, wLk, c1_, c13_, c23_, c24_]; done) | (simp [zI, wLk, c1_, c13_, c23_, c24_] <;> omega) | (simp_all [zI, wLk, c1_, c13_, c23_, c24_]; done))⟩
        · skip
          refine kb_iconst (v := (1 : Int32)) X dX6_likes_36 (by decide) ?_
          refine kb_goto (tgt := 143) X dX6_likes_37 (by decide) ?_
          refine ke_z X Z rfl dX6_likes_143 ?_
          exact ⟨(by first | rfl | (simp [zI, wLk, c1_, c13_, c23_, c24_]; done) | (simp [zI, wLk, c1_, c13_, c23_, c24_] <;> omega) | (simp_all [zI, wLk, c1_, c13_, c23_, c24_]; done)), (by first | rfl | (simp [zI, wLk, c1_, c13_, c23_, c24_]; done) | (simp [zI, wLk, c1_, c13_, c23_, c24_] <;> omega) | (simp_all [zI, wLk, c1_, c13_, c23_, c24_]; done))⟩

set_option maxHeartbeats 4000000 in
set_option maxRecDepth 100000 in
theorem ct_X6_comes (l : Launch) (g : kw_G) (a : Nat → Nat) (pe : Nat) (so : Nat → Int32) (ag : Nat → Int32) (fr : Int32) (np : Nat) (ns : Nat → Int32) (na : Nat → Int32) (nf : Int32) (sl : Nat → Int32) (ac : Nat) (ke : Nat) (le : Nat) (tx : Nat → Nat) (ap : Nat) (bg : Nat) (wr : Bool) (se : Nat) (wh : Nat → Nat) (wo : Nat → Nat) (bl : Nat → Int32) (ck : Nat → Int32) (sw : Nat → Bool) (ma : Nat) (ro : Nat → Nat) (bs : Nat → Nat) (o : Nat) (v : VS) (ho : o + 82 ≤ 984) (hE : EN sl o v) (hK : KE pe so ag fr v) (hv : VI v) (p q : Nat) (b c : Int32) (hp : p < vN v) (hq : q < 6) : kMi l g yX6_comes cX6_comes 6 .boolean (kw_rm 3 0 0) 0 0 [.ref (a 0), .int (nI (o)), .int (nI (p)), .int (nI (q)), .int (b), .int (c)] (wR g a pe so ag fr np ns na nf sl ac ke le tx ap bg wr se wh wo bl ck sw ma ro bs) (fun r w => r = zI (wCm v p q b c) ∧ w = wR g a pe so ag fr np ns na nf sl ac ke le tx ap bg wr se wh wo bl ck sw ma ro bs) := by
  refine kMi_of (by decide +kernel) (Nat.le_of_ble_eq_true rfl) (fun x (X : kX l g RX6 cX6_comes 6 (kw_rm 3 0 0) x) (Z : kZi .boolean _ 0 0 x) => ?_)
  show kW x 0 0 0 [(0, .ref (a 0)), (1, .int (nI (o))), (2, .int (nI (p))), (3, .int (nI (q))), (4, .int (b)), (5, .int (c))] [] (wR g a pe so ag fr np ns na nf sl ac ke le tx ap bg wr se wh wo bl ck sw ma ro bs)
  have h6 := hv.1
  have hpe := hK.1
  refine kb_iload_n X 2 dX6_comes_0 rfl rfl ?_
  refine kb_iload_n X 3 dX6_comes_1 rfl rfl ?_
  refine kn_icmp_eq (a := p) (b := q) (tgt := 54) X (by omega) (by omega) dX6_comes_2 (by decide) (fun c1_ => ?_) (fun c1_ => ?_)
  · skip
    refine kb_iconst (v := (0 : Int32)) X dX6_comes_54 (by decide) ?_
    refine ke_z X Z rfl dX6_comes_55 ?_
    exact ⟨(by first | rfl | (simp [zI, wCm, wCome_lk, c1_]; done) | (simp [zI, wCm, wCome_lk, c1_] <;> omega) | (simp_all [zI, wCm, wCome_lk, c1_]; done)), (by first | rfl | (simp [zI, wCm, wCome_lk, c1_]; done) | (simp [zI, wCm, wCome_lk, c1_] <;> omega) | (simp_all [zI, wCm, wCome_lk, c1_]; done))⟩
  · skip
    refine kb_aload_n X 0 dX6_comes_5 rfl rfl ?_
    refine kb_iload_n X 1 dX6_comes_6 rfl rfl ?_
    refine kb_iload_n X 2 dX6_comes_7 rfl rfl ?_
    refine kc_Vi X (As := [.int (nI (o)), .int (nI (p))]) (rest := []) (wr := []) (ct_X6_isAlive l g a pe so ag fr np ns na nf sl ac ke le tx ap bg wr se wh wo bl ck sw ma ro bs o v (by omega) hE hK hv p (by omega)) dX6_comes_8 rfl (kw_pall _) mc_X6_isAlive kl_X6_136 mi_X6_isAlive mv_X6_isAlive kn_X6 0 rfl rfl rfl (na := 2) (by decide +kernel) rfl ⟨Nat.le_of_ble_eq_true rfl, Nat.le_of_ble_eq_true rfl⟩ ⟨rfl, rfl⟩ ⟨Nat.le_of_ble_eq_true rfl, Nat.le_of_ble_eq_true rfl⟩ (Nat.le_of_ble_eq_true rfl) (fun r_ w_ hp_ => ?_)
    obtain ⟨rfl, rfl⟩ := hp_
    refine kw_ws (List.append_nil _) ?_
    refine kz_if_eq (b := wLives v p) (tgt := 54) X dX6_comes_11 (by decide) (fun c2_ => ?_) (fun c2_ => ?_)
    · skip
      refine kb_iconst (v := (0 : Int32)) X dX6_comes_54 (by decide) ?_
      refine ke_z X Z rfl dX6_comes_55 ?_
      exact ⟨(by first | rfl | (simp [zI, wCm, wCome_lk, c1_, c2_]; done) | (simp [zI, wCm, wCome_lk, c1_, c2_] <;> omega) | (simp_all [zI, wCm, wCome_lk, c1_, c2_]; done)), (by first | rfl | (simp [zI, wCm, wCome_lk, c1_, c2_]; done) | (simp [zI, wCm, wCome_lk, c1_, c2_] <;> omega) | (simp_all [zI, wCm, wCome_lk, c1_, c2_]; done))⟩
    · skip
      refine kb_aload_n X 0 dX6_comes_14 rfl rfl ?_
      refine kb_iload_n X 1 dX6_comes_15 rfl rfl ?_
      refine kb_iload_n X 2 dX6_comes_16 rfl rfl ?_
      refine kb_iload_n X 3 dX6_comes_17 rfl rfl ?_
      refine kb_aload_n X 0 dX6_comes_18 rfl rfl ?_
      refine kb_get (v := .ref (a 1)) (C := RX6) (T := TX6) (N := 25) (ci := 6) X kw_iX6 rfl 0 1 rfl (by decide) kf_X6_7 rfl rfl dX6_comes_19 ?_
      refine kb_iload_n X 2 dX6_comes_22 rfl rfl ?_
      refine kb_iald (i := p) X 1 rfl (by omega) (by decide) dX6_comes_23 ?_
      refine kw_top (b := .int (vK v p)) (congrArg Value.int (hK.2.2 _ (by omega)).1) ?_
      refine kb_aload_n X 0 dX6_comes_24 rfl rfl ?_
      refine kb_get (v := .ref (a 5)) (C := RX6) (T := TX6) (N := 25) (ci := 6) X kw_iX6 rfl 0 8 rfl (by decide) kf_X6_22 rfl rfl dX6_comes_25 ?_
      refine kb_iload_n X 1 dX6_comes_28 rfl rfl ?_
      refine kb_bipush (v := (10 : Int32)) X dX6_comes_29 (by decide) ?_
      refine kn_iadd X o 10 dX6_comes_31 ?_
      refine kb_bipush (v := (6 : Int32)) X dX6_comes_32 (by decide) ?_
      refine kb_iload_n X 2 dX6_comes_34 rfl rfl ?_
      refine kn_imul X 6 p dX6_comes_35 ?_
      refine kn_iadd X (o + 10) (6 * p) dX6_comes_36 ?_
      refine kb_iload_n X 3 dX6_comes_37 rfl rfl ?_
      refine kn_iadd X ((o + 10) + (6 * p)) q dX6_comes_38 ?_
      refine kb_iald (i := ((o + 10) + (6 * p)) + q) X 5 rfl (by omega) (by decide) dX6_comes_39 ?_
      refine kw_top (b := .int (vT v (p * 6 + q))) (congrArg Value.int (hE.t (p := p) (q := q) (by omega) (by omega) (by omega))) ?_
      refine kb_iload X 4 dX6_comes_40 rfl ?_
      refine kb_iload X 5 dX6_comes_42 rfl ?_
      refine kc_Vi X (As := [.int (nI (o)), .int (nI (p)), .int (nI (q)), .int (vK v p), .int (vT v (p * 6 + q)), .int (b), .int (c)]) (rest := []) (wr := []) (ct_X6_likes l g a pe so ag fr np ns na nf sl ac ke le tx ap bg wr se wh wo bl ck sw ma ro bs o v (by omega) hE hK hv p q (vK v p) (vT v (p * 6 + q)) b c (by omega) (by omega)) dX6_comes_44 rfl (kw_pall _) mc_X6_likes kl_X6_150 mi_X6_likes mv_X6_likes kn_X6 0 rfl rfl rfl (na := 7) (by decide +kernel) rfl ⟨Nat.le_of_ble_eq_true rfl, Nat.le_of_ble_eq_true rfl⟩ ⟨rfl, rfl⟩ ⟨Nat.le_of_ble_eq_true rfl, Nat.le_of_ble_eq_true rfl⟩ (Nat.le_of_ble_eq_true rfl) (fun r_ w_ hp_ => ?_)
      obtain ⟨rfl, rfl⟩ := hp_
      refine kw_ws (List.append_nil _) ?_
      refine kz_if_eq (b := wLk v p (vK v p) (vT v (p * 6 + q)) q b c) (tgt := 54) X dX6_comes_47 (by decide) (fun c3_ => ?_) (fun c3_ => ?_)
      · skip
        refine kb_iconst (v := (0 : Int32)) X dX6_comes_54 (by decide) ?_
        refine ke_z X Z rfl dX6_comes_55 ?_
        exact ⟨(by first | rfl | (simp [zI, wCm, wCome_lk, c1_, c2_, c3_]; done) | (simp [zI, wCm, wCome_lk, c1_, c2_, c3_] <;> omega) | (simp_all [zI, wCm, wCome_lk, c1_, c2_, c3_]; done)), (by first | rfl | (simp [zI, wCm, wCome_lk, c1_, c2_, c3_]; done) | (simp [zI, wCm, wCome_lk, c1_, c2_, c3_] <;> omega) | (simp_all [zI, wCm, wCome_lk, c1_, c2_, c3_]; done))⟩
      · skip
        refine kb_iconst (v := (1 : Int32)) X dX6_comes_50 (by decide) ?_
        refine kb_goto (tgt := 55) X dX6_comes_51 (by decide) ?_
        refine ke_z X Z rfl dX6_comes_55 ?_
        exact ⟨(by first | rfl | (simp [zI, wCm, wCome_lk, c1_, c2_, c3_]; done) | (simp [zI, wCm, wCome_lk, c1_, c2_, c3_] <;> omega) | (simp_all [zI, wCm, wCome_lk, c1_, c2_, c3_]; done)), (by first | rfl | (simp [zI, wCm, wCome_lk, c1_, c2_, c3_]; done) | (simp [zI, wCm, wCome_lk, c1_, c2_, c3_] <;> omega) | (simp_all [zI, wCm, wCome_lk, c1_, c2_, c3_]; done))⟩

set_option maxHeartbeats 4000000 in
set_option maxRecDepth 100000 in
theorem ct_X6_comers (l : Launch) (g : kw_G) (a : Nat → Nat) (pe : Nat) (so : Nat → Int32) (ag : Nat → Int32) (fr : Int32) (np : Nat) (ns : Nat → Int32) (na : Nat → Int32) (nf : Int32) (sl : Nat → Int32) (ac : Nat) (ke : Nat) (le : Nat) (tx : Nat → Nat) (ap : Nat) (bg : Nat) (wr : Bool) (se : Nat) (wh : Nat → Nat) (wo : Nat → Nat) (bl : Nat → Int32) (ck : Nat → Int32) (sw : Nat → Bool) (ma : Nat) (ro : Nat → Nat) (bs : Nat → Nat) (o : Nat) (v : VS) (ho : o + 82 ≤ 984) (hE : EN sl o v) (hK : KE pe so ag fr v) (hv : VI v) (p : Nat) (b c : Int32) (hp : p < 6) : kMi l g yX6_comers cX6_comers 7 .int (kw_rm 4 0 0) 0 0 [.ref (a 0), .int (nI (o)), .int (nI (p)), .int (b), .int (c)] (wR g a pe so ag fr np ns na nf sl ac ke le tx ap bg wr se wh wo bl ck sw ma ro bs) (fun r w => r = nI (wGuests v p b c) ∧ w = wR g a pe so ag fr np ns na nf sl ac ke le tx ap bg wr se wh wo bl ck sw ma ro bs) := by
  refine kMi_of (by decide +kernel) (Nat.le_of_ble_eq_true rfl) (fun x (X : kX l g RX6 cX6_comers 7 (kw_rm 4 0 0) x) (Z : kZi .int _ 0 0 x) => ?_)
  show kW x 0 0 0 [(0, .ref (a 0)), (1, .int (nI (o))), (2, .int (nI (p))), (3, .int (b)), (4, .int (c))] [] (wR g a pe so ag fr np ns na nf sl ac ke le tx ap bg wr se wh wo bl ck sw ma ro bs)
  have h6 := hv.1
  have hpe := hK.1
  refine kb_iconst (v := (0 : Int32)) X dX6_comers_0 (by decide) ?_
  refine kb_istore X [1, 2, 3, 4, 5, 0] dX6_comers_1 (by decide) (lv' := [(0, .ref (a 0)), (1, .int (nI (o))), (2, .int (nI (p))), (3, .int (b)), (4, .int (c)), (5, .int 0)]) rfl ?_
  refine kb_iconst (v := (0 : Int32)) X dX6_comers_3 (by decide) ?_
  refine kb_istore X [1, 2, 3, 4, 5, 6, 0] dX6_comers_4 (by decide) (lv' := [(0, .ref (a 0)), (1, .int (nI (o))), (2, .int (nI (p))), (3, .int (b)), (4, .int (c)), (5, .int 0), (6, .int 0)]) rfl ?_
  have L6 : ∀ (K_ i : Nat), i + K_ = vN v → kW x 0 0 6 [(0, .ref (a 0)), (1, .int (nI (o))), (2, .int (nI (p))), (3, .int (b)), (4, .int (c)), (5, .int (nI (wGs v p b c i))), (6, .int (nI (i)))] [] (wR g a pe so ag fr np ns na nf sl ac ke le tx ap bg wr se wh wo bl ck sw ma ro bs) := by
    intro K_
    induction K_ with
    | zero =>
      intro i hi
      refine kb_iload X 6 dX6_comers_6 rfl ?_
      refine kb_aload_n X 0 dX6_comers_8 rfl rfl ?_
      refine kb_get (v := .int (nI (pe))) (C := RX6) (T := TX6) (N := 25) (ci := 6) X kw_iX6 rfl 0 0 rfl (by decide) kf_X6_65 rfl rfl dX6_comers_9 ?_
      refine kn_icmp_ge (a := i) (b := pe) (tgt := 48) X (by omega) (by omega) dX6_comers_12 (by decide) (fun c1_ => ?_) (fun c1_ => ?_)
      · skip
        refine kb_iload X 5 dX6_comers_48 rfl ?_
        refine ke_i X Z dX6_comers_50 ?_
        exact ⟨by rw [wGuests, show i = vN v by omega], rfl⟩
      · skip
        omega
    | succ K_ ih =>
      intro i hi
      refine kb_iload X 6 dX6_comers_6 rfl ?_
      refine kb_aload_n X 0 dX6_comers_8 rfl rfl ?_
      refine kb_get (v := .int (nI (pe))) (C := RX6) (T := TX6) (N := 25) (ci := 6) X kw_iX6 rfl 0 0 rfl (by decide) kf_X6_65 rfl rfl dX6_comers_9 ?_
      refine kn_icmp_ge (a := i) (b := pe) (tgt := 48) X (by omega) (by omega) dX6_comers_12 (by decide) (fun c2_ => ?_) (fun c2_ => ?_)
      · skip
        omega
      · skip
        refine kb_iload X 5 dX6_comers_15 rfl ?_
        refine kb_aload_n X 0 dX6_comers_17 rfl rfl ?_
        refine kb_iload_n X 1 dX6_comers_18 rfl rfl ?_
        refine kb_iload X 6 dX6_comers_19 rfl ?_
        refine kb_iload_n X 2 dX6_comers_21 rfl rfl ?_
        refine kb_iload_n X 3 dX6_comers_22 rfl rfl ?_
        refine kb_iload X 4 dX6_comers_23 rfl ?_
        refine kc_Vi X (As := [.int (nI (o)), .int (nI (i)), .int (nI (p)), .int (b), .int (c)]) (rest := [.int (nI (wGs v p b c i))]) (wr := []) (ct_X6_comes l g a pe so ag fr np ns na nf sl ac ke le tx ap bg wr se wh wo bl ck sw ma ro bs o v (by omega) hE hK hv i p b c (by omega) (by omega)) dX6_comers_25 rfl (kw_pall _) mc_X6_comes kl_X6_154 mi_X6_comes mv_X6_comes kn_X6 0 rfl rfl rfl (na := 5) (by decide +kernel) rfl ⟨Nat.le_of_ble_eq_true rfl, Nat.le_of_ble_eq_true rfl⟩ ⟨rfl, rfl⟩ ⟨Nat.le_of_ble_eq_true rfl, Nat.le_of_ble_eq_true rfl⟩ (Nat.le_of_ble_eq_true rfl) (fun r_ w_ hp_ => ?_)
        obtain ⟨rfl, rfl⟩ := hp_
        refine kw_ws (List.append_nil _) ?_
        refine kz_if_eq (b := wCm v i p b c) (tgt := 38) X dX6_comers_28 (by decide) (fun c3_ => ?_) (fun c3_ => ?_)
        · skip
          refine kb_iconst (v := (0 : Int32)) X dX6_comers_38 (by decide) ?_
          refine kb_ior X dX6_comers_39 ?_
          refine kw_top (b := .int (nI (wGs v p b c i))) (by rw [show (0 : Int32) = nI 0 from rfl, or_nI, Nat.or_zero]) ?_
          refine kb_istore X [1, 2, 3, 4, 5, 0, 6] dX6_comers_40 (by decide) (lv' := [(0, .ref (a 0)), (1, .int (nI (o))), (2, .int (nI (p))), (3, .int (b)), (4, .int (c)), (5, .int (nI (wGs v p b c i))), (6, .int (nI (i)))]) rfl ?_
          refine kb_iinc X 6 [1, 2, 3, 4, 5, 6, 0] (v' := nI (i + 1)) dX6_comers_42 rfl (nI_add _ _) (by decide) (lv' := [(0, .ref (a 0)), (1, .int (nI (o))), (2, .int (nI (p))), (3, .int (b)), (4, .int (c)), (5, .int (nI (wGs v p b c i))), (6, .int (nI (i + 1)))]) rfl ?_
          refine kb_goto (tgt := 6) X dX6_comers_45 (by decide) ?_
          exact kw_to (ih (i + 1) (by omega)) (by simp [wGs, c2_, c3_]) rfl rfl
        · skip
          refine kb_iconst (v := (1 : Int32)) X dX6_comers_31 (by decide) ?_
          refine kb_iload X 6 dX6_comers_32 rfl ?_
          refine kb_ishl X dX6_comers_34 ?_
          refine kb_goto (tgt := 39) X dX6_comers_35 (by decide) ?_
          refine kb_ior X dX6_comers_39 ?_
          refine kw_top (b := .int (nI (wGs v p b c i + 2 ^ i))) (by rw [gs_or (wGs_lt v p b c i) (by omega)]) ?_
          refine kb_istore X [1, 2, 3, 4, 5, 0, 6] dX6_comers_40 (by decide) (lv' := [(0, .ref (a 0)), (1, .int (nI (o))), (2, .int (nI (p))), (3, .int (b)), (4, .int (c)), (5, .int (nI (wGs v p b c i + 2 ^ i))), (6, .int (nI (i)))]) rfl ?_
          refine kb_iinc X 6 [1, 2, 3, 4, 5, 6, 0] (v' := nI (i + 1)) dX6_comers_42 rfl (nI_add _ _) (by decide) (lv' := [(0, .ref (a 0)), (1, .int (nI (o))), (2, .int (nI (p))), (3, .int (b)), (4, .int (c)), (5, .int (nI (wGs v p b c i + 2 ^ i))), (6, .int (nI (i + 1)))]) rfl ?_
          refine kb_goto (tgt := 6) X dX6_comers_45 (by decide) ?_
          exact kw_to (ih (i + 1) (by omega)) (by simp [wGs, c2_, c3_]) rfl rfl
  exact kw_to (L6 (vN v) 0 (by omega)) rfl rfl rfl

set_option maxHeartbeats 4000000 in
set_option maxRecDepth 100000 in
theorem ct_X6_couldHave (l : Launch) (g : kw_G) (a : Nat → Nat) (pe : Nat) (so : Nat → Int32) (ag : Nat → Int32) (fr : Int32) (np : Nat) (ns : Nat → Int32) (na : Nat → Int32) (nf : Int32) (sl : Nat → Int32) (ac : Nat) (ke : Nat) (le : Nat) (tx : Nat → Nat) (ap : Nat) (bg : Nat) (wr : Bool) (se : Nat) (wh : Nat → Nat) (wo : Nat → Nat) (bl : Nat → Int32) (ck : Nat → Int32) (sw : Nat → Bool) (ma : Nat) (ro : Nat → Nat) (bs : Nat → Nat) (o : Nat) (v : VS) (ho : o + 82 ≤ 984) (hE : EN sl o v) (hK : KE pe so ag fr v) (hv : VI v) (p : Nat) (hp : p < vN v) : kMi l g yX6_couldHave cX6_couldHave 3 .boolean (kw_rm 3 0 0) 0 0 [.ref (a 0), .int (nI (o)), .int (nI (p))] (wR g a pe so ag fr np ns na nf sl ac ke le tx ap bg wr se wh wo bl ck sw ma ro bs) (fun r w => r = zI (wDue v p) ∧ w = wR g a pe so ag fr np ns na nf sl ac ke le tx ap bg wr se wh wo bl ck sw ma ro bs) := by
  refine kMi_of (by decide +kernel) (Nat.le_of_ble_eq_true rfl) (fun x (X : kX l g RX6 cX6_couldHave 3 (kw_rm 3 0 0) x) (Z : kZi .boolean _ 0 0 x) => ?_)
  show kW x 0 0 0 [(0, .ref (a 0)), (1, .int (nI (o))), (2, .int (nI (p)))] [] (wR g a pe so ag fr np ns na nf sl ac ke le tx ap bg wr se wh wo bl ck sw ma ro bs)
  have h6 := hv.1
  have hpe := hK.1
  have hfr := hK.2.1
  refine kb_aload_n X 0 dX6_couldHave_0 rfl rfl ?_
  refine kb_iload_n X 1 dX6_couldHave_1 rfl rfl ?_
  refine kb_iload_n X 2 dX6_couldHave_2 rfl rfl ?_
  refine kc_Vi X (As := [.int (nI (o)), .int (nI (p))]) (rest := []) (wr := []) (ct_X6_isAlive l g a pe so ag fr np ns na nf sl ac ke le tx ap bg wr se wh wo bl ck sw ma ro bs o v (by omega) hE hK hv p (by omega)) dX6_couldHave_3 rfl (kw_pall _) mc_X6_isAlive kl_X6_136 mi_X6_isAlive mv_X6_isAlive kn_X6 0 rfl rfl rfl (na := 2) (by decide +kernel) rfl ⟨Nat.le_of_ble_eq_true rfl, Nat.le_of_ble_eq_true rfl⟩ ⟨rfl, rfl⟩ ⟨Nat.le_of_ble_eq_true rfl, Nat.le_of_ble_eq_true rfl⟩ (Nat.le_of_ble_eq_true rfl) (fun r_ w_ hp_ => ?_)
  obtain ⟨rfl, rfl⟩ := hp_
  refine kw_ws (List.append_nil _) ?_
  refine kz_if_eq (b := wLives v p) (tgt := 42) X dX6_couldHave_6 (by decide) (fun c1_ => ?_) (fun c1_ => ?_)
  · skip
    refine kb_iconst (v := (0 : Int32)) X dX6_couldHave_42 (by decide) ?_
    refine ke_z X Z rfl dX6_couldHave_43 ?_
    exact ⟨(by first | rfl | (simp [zI, wDue, hfr, c1_]; done) | (simp [zI, wDue, hfr, c1_] <;> omega) | (simp_all [zI, wDue, hfr, c1_]; done)), (by first | rfl | (simp [zI, wDue, hfr, c1_]; done) | (simp [zI, wDue, hfr, c1_] <;> omega) | (simp_all [zI, wDue, hfr, c1_]; done))⟩
  · skip
    refine kb_aload_n X 0 dX6_couldHave_9 rfl rfl ?_
    refine kb_iload_n X 1 dX6_couldHave_10 rfl rfl ?_
    refine kb_iload_n X 2 dX6_couldHave_11 rfl rfl ?_
    refine kc_Vi X (As := [.int (nI (o)), .int (nI (p))]) (rest := []) (wr := []) (ct_X6_ageOf l g a pe so ag fr np ns na nf sl ac ke le tx ap bg wr se wh wo bl ck sw ma ro bs o v (by omega) hE hK hv p (by omega)) dX6_couldHave_12 rfl (kw_pall _) mc_X6_ageOf kl_X6_141 mi_X6_ageOf mv_X6_ageOf kn_X6 0 rfl rfl rfl (na := 2) (by decide +kernel) rfl ⟨Nat.le_of_ble_eq_true rfl, Nat.le_of_ble_eq_true rfl⟩ ⟨rfl, rfl⟩ ⟨Nat.le_of_ble_eq_true rfl, Nat.le_of_ble_eq_true rfl⟩ (Nat.le_of_ble_eq_true rfl) (fun r_ w_ hp_ => ?_)
    obtain ⟨rfl, rfl⟩ := hp_
    refine kw_ws (List.append_nil _) ?_
    refine kb_aload_n X 0 dX6_couldHave_15 rfl rfl ?_
    refine kb_get (v := .int (fr)) (C := RX6) (T := TX6) (N := 25) (ci := 6) X kw_iX6 rfl 0 3 rfl (by decide) kf_X6_68 rfl rfl dX6_couldHave_16 ?_
    refine kw_top (b := .int (vG v)) (by rw [hfr]) ?_
    refine kb_icmp_lt (tgt := 42) X dX6_couldHave_19 (by decide) (fun c2_ => ?_) (fun c2_ => ?_)
    · skip
      refine kb_iconst (v := (0 : Int32)) X dX6_couldHave_42 (by decide) ?_
      refine ke_z X Z rfl dX6_couldHave_43 ?_
      exact ⟨(by first | rfl | (simp [zI, wDue, hfr, c1_, c2_]; done) | (simp [zI, wDue, hfr, c1_, c2_] <;> omega) | (simp_all [zI, wDue, hfr, c1_, c2_]; done)), (by first | rfl | (simp [zI, wDue, hfr, c1_, c2_]; done) | (simp [zI, wDue, hfr, c1_, c2_] <;> omega) | (simp_all [zI, wDue, hfr, c1_, c2_]; done))⟩
    · skip
      refine kb_aload_n X 0 dX6_couldHave_22 rfl rfl ?_
      refine kb_get (v := .ref (a 5)) (C := RX6) (T := TX6) (N := 25) (ci := 6) X kw_iX6 rfl 0 8 rfl (by decide) kf_X6_22 rfl rfl dX6_couldHave_23 ?_
      refine kb_iload_n X 1 dX6_couldHave_26 rfl rfl ?_
      refine kb_bipush (v := (7 : Int32)) X dX6_couldHave_27 (by decide) ?_
      refine kn_iadd X o 7 dX6_couldHave_29 ?_
      refine kb_iald (i := o + 7) X 5 rfl (by omega) (by decide) dX6_couldHave_30 ?_
      refine kw_top (b := .int (nI (vH v))) (congrArg Value.int (hE.h (by omega))) ?_
      refine kb_iload_n X 2 dX6_couldHave_31 rfl rfl ?_
      refine kc_Si X (As := [.int (nI (vH v)), .int (nI (p))]) (rest := []) (wr := (wR g a pe so ag fr np ns na nf sl ac ke le tx ap bg wr se wh wo bl ck sw ma ro bs)) (ct_X6_has l g (vH v) p hv.2.2 (by omega)) dX6_couldHave_32 rfl (List.Perm.refl _) mc_X6_has kl_X6_132 ms_X6_has kn_X6 (na := 2) (by decide +kernel) rfl ⟨Nat.le_of_ble_eq_true rfl, Nat.le_of_ble_eq_true rfl⟩ ⟨rfl, rfl⟩ ⟨Nat.le_of_ble_eq_true rfl, Nat.le_of_ble_eq_true rfl⟩ (Nat.le_of_ble_eq_true rfl) (fun r_ w_ hp_ => ?_)
      obtain ⟨rfl, rfl⟩ := hp_
      refine kw_ws (List.nil_append _) ?_
      refine kz_if_ne (b := Nat.testBit (vH v) p) (tgt := 42) X dX6_couldHave_35 (by decide) (fun c3_ => ?_) (fun c3_ => ?_)
      · skip
        refine kb_iconst (v := (0 : Int32)) X dX6_couldHave_42 (by decide) ?_
        refine ke_z X Z rfl dX6_couldHave_43 ?_
        exact ⟨(by first | rfl | (simp [zI, wDue, hfr, c1_, c2_, c3_]; done) | (simp [zI, wDue, hfr, c1_, c2_, c3_] <;> omega) | (simp_all [zI, wDue, hfr, c1_, c2_, c3_]; done)), (by first | rfl | (simp [zI, wDue, hfr, c1_, c2_, c3_]; done) | (simp [zI, wDue, hfr, c1_, c2_, c3_] <;> omega) | (simp_all [zI, wDue, hfr, c1_, c2_, c3_]; done))⟩
      · skip
        refine kb_iconst (v := (1 : Int32)) X dX6_couldHave_38 (by decide) ?_
        refine kb_goto (tgt := 43) X dX6_couldHave_39 (by decide) ?_
        refine ke_z X Z rfl dX6_couldHave_43 ?_
        exact ⟨(by first | rfl | (simp [zI, wDue, hfr, c1_, c2_, c3_]; done) | (simp [zI, wDue, hfr, c1_, c2_, c3_] <;> omega) | (simp_all [zI, wDue, hfr, c1_, c2_, c3_]; done)), (by first | rfl | (simp [zI, wDue, hfr, c1_, c2_, c3_]; done) | (simp [zI, wDue, hfr, c1_, c2_, c3_] <;> omega) | (simp_all [zI, wDue, hfr, c1_, c2_, c3_]; done))⟩

set_option maxHeartbeats 4000000 in
set_option maxRecDepth 100000 in
theorem ct_X6_canHave (l : Launch) (g : kw_G) (a : Nat → Nat) (pe : Nat) (so : Nat → Int32) (ag : Nat → Int32) (fr : Int32) (np : Nat) (ns : Nat → Int32) (na : Nat → Int32) (nf : Int32) (sl : Nat → Int32) (ac : Nat) (ke : Nat) (le : Nat) (tx : Nat → Nat) (ap : Nat) (bg : Nat) (wr : Bool) (se : Nat) (wh : Nat → Nat) (wo : Nat → Nat) (bl : Nat → Int32) (ck : Nat → Int32) (sw : Nat → Bool) (ma : Nat) (ro : Nat → Nat) (bs : Nat → Nat) (o : Nat) (v : VS) (ho : o + 82 ≤ 984) (hE : EN sl o v) (hK : KE pe so ag fr v) (hv : VI v) (p : Nat) (b c : Int32) (hp : p < vN v) : kMi l g yX6_canHave cX6_canHave 5 .boolean (kw_rm 4 0 0) 0 0 [.ref (a 0), .int (nI (o)), .int (nI (p)), .int (b), .int (c)] (wR g a pe so ag fr np ns na nf sl ac ke le tx ap bg wr se wh wo bl ck sw ma ro bs) (fun r w => r = zI (wCan v p b c) ∧ w = wR g a pe so ag fr np ns na nf sl ac ke le tx ap bg wr se wh wo bl ck sw ma ro bs) := by
  refine kMi_of (by decide +kernel) (Nat.le_of_ble_eq_true rfl) (fun x (X : kX l g RX6 cX6_canHave 5 (kw_rm 4 0 0) x) (Z : kZi .boolean _ 0 0 x) => ?_)
  show kW x 0 0 0 [(0, .ref (a 0)), (1, .int (nI (o))), (2, .int (nI (p))), (3, .int (b)), (4, .int (c))] [] (wR g a pe so ag fr np ns na nf sl ac ke le tx ap bg wr se wh wo bl ck sw ma ro bs)
  have h6 := hv.1
  have hpe := hK.1
  refine kb_aload_n X 0 dX6_canHave_0 rfl rfl ?_
  refine kb_iload_n X 1 dX6_canHave_1 rfl rfl ?_
  refine kb_iload_n X 2 dX6_canHave_2 rfl rfl ?_
  refine kc_Vi X (As := [.int (nI (o)), .int (nI (p))]) (rest := []) (wr := []) (ct_X6_couldHave l g a pe so ag fr np ns na nf sl ac ke le tx ap bg wr se wh wo bl ck sw ma ro bs o v (by omega) hE hK hv p (by omega)) dX6_canHave_3 rfl (kw_pall _) mc_X6_couldHave kl_X6_175 mi_X6_couldHave mv_X6_couldHave kn_X6 0 rfl rfl rfl (na := 2) (by decide +kernel) rfl ⟨Nat.le_of_ble_eq_true rfl, Nat.le_of_ble_eq_true rfl⟩ ⟨rfl, rfl⟩ ⟨Nat.le_of_ble_eq_true rfl, Nat.le_of_ble_eq_true rfl⟩ (Nat.le_of_ble_eq_true rfl) (fun r_ w_ hp_ => ?_)
  obtain ⟨rfl, rfl⟩ := hp_
  refine kw_ws (List.append_nil _) ?_
  refine kz_if_eq (b := wDue v p) (tgt := 32) X dX6_canHave_6 (by decide) (fun c1_ => ?_) (fun c1_ => ?_)
  · skip
    refine kb_iconst (v := (0 : Int32)) X dX6_canHave_32 (by decide) ?_
    refine ke_z X Z rfl dX6_canHave_33 ?_
    exact ⟨(by first | rfl | (simp [zI, wCan, wCost, c1_]; done) | (simp [zI, wCan, wCost, c1_] <;> omega) | (simp_all [zI, wCan, wCost, c1_]; done)), (by first | rfl | (simp [zI, wCan, wCost, c1_]; done) | (simp [zI, wCan, wCost, c1_] <;> omega) | (simp_all [zI, wCan, wCost, c1_]; done))⟩
  · skip
    refine kb_aload_n X 0 dX6_canHave_9 rfl rfl ?_
    refine kb_get (v := .ref (a 5)) (C := RX6) (T := TX6) (N := 25) (ci := 6) X kw_iX6 rfl 0 8 rfl (by decide) kf_X6_22 rfl rfl dX6_canHave_10 ?_
    refine kb_iload_n X 1 dX6_canHave_13 rfl rfl ?_
    refine kb_iload_n X 2 dX6_canHave_14 rfl rfl ?_
    refine kn_iadd X o p dX6_canHave_15 ?_
    refine kb_iald (i := o + p) X 5 rfl (by omega) (by decide) dX6_canHave_16 ?_
    refine kw_top (b := .int (vC v p)) (congrArg Value.int (hE.c (p := p) (by omega) (by omega))) ?_
    refine kb_iconst (v := (2 : Int32)) X dX6_canHave_17 (by decide) ?_
    refine kb_iload_n X 3 dX6_canHave_18 rfl rfl ?_
    refine kb_imul X dX6_canHave_19 ?_
    refine kb_iconst (v := (3 : Int32)) X dX6_canHave_20 (by decide) ?_
    refine kb_iload X 4 dX6_canHave_21 rfl ?_
    refine kb_imul X dX6_canHave_23 ?_
    refine kb_iadd X dX6_canHave_24 ?_
    refine kb_icmp_lt (tgt := 32) X dX6_canHave_25 (by decide) (fun c2_ => ?_) (fun c2_ => ?_)
    · skip
      refine kb_iconst (v := (0 : Int32)) X dX6_canHave_32 (by decide) ?_
      refine ke_z X Z rfl dX6_canHave_33 ?_
      exact ⟨(by first | rfl | (simp [zI, wCan, wCost, c1_, c2_]; done) | (simp [zI, wCan, wCost, c1_, c2_] <;> omega) | (simp_all [zI, wCan, wCost, c1_, c2_]; done)), (by first | rfl | (simp [zI, wCan, wCost, c1_, c2_]; done) | (simp [zI, wCan, wCost, c1_, c2_] <;> omega) | (simp_all [zI, wCan, wCost, c1_, c2_]; done))⟩
    · skip
      refine kb_iconst (v := (1 : Int32)) X dX6_canHave_28 (by decide) ?_
      refine kb_goto (tgt := 33) X dX6_canHave_29 (by decide) ?_
      refine ke_z X Z rfl dX6_canHave_33 ?_
      exact ⟨(by first | rfl | (simp [zI, wCan, wCost, c1_, c2_]; done) | (simp [zI, wCan, wCost, c1_, c2_] <;> omega) | (simp_all [zI, wCan, wCost, c1_, c2_]; done)), (by first | rfl | (simp [zI, wCan, wCost, c1_, c2_]; done) | (simp [zI, wCan, wCost, c1_, c2_] <;> omega) | (simp_all [zI, wCan, wCost, c1_, c2_]; done))⟩

set_option maxHeartbeats 4000000 in
set_option maxRecDepth 100000 in
theorem ct_X6_canGive (l : Launch) (g : kw_G) (a : Nat → Nat) (pe : Nat) (so : Nat → Int32) (ag : Nat → Int32) (fr : Int32) (np : Nat) (ns : Nat → Int32) (na : Nat → Int32) (nf : Int32) (sl : Nat → Int32) (ac : Nat) (ke : Nat) (le : Nat) (tx : Nat → Nat) (ap : Nat) (bg : Nat) (wr : Bool) (se : Nat) (wh : Nat → Nat) (wo : Nat → Nat) (bl : Nat → Int32) (ck : Nat → Int32) (sw : Nat → Bool) (ma : Nat) (ro : Nat → Nat) (bs : Nat → Nat) (o : Nat) (v : VS) (ho : o + 82 ≤ 984) (hE : EN sl o v) (hK : KE pe so ag fr v) (hv : VI v) (p q : Nat) (hp : p < 6) (hq : q < 6) : kMi l g yX6_canGive cX6_canGive 4 .boolean (kw_rm 3 0 0) 0 0 [.ref (a 0), .int (nI (o)), .int (nI (p)), .int (nI (q))] (wR g a pe so ag fr np ns na nf sl ac ke le tx ap bg wr se wh wo bl ck sw ma ro bs) (fun r w => r = zI (!decide (p = q) && wCanGive v p q) ∧ w = wR g a pe so ag fr np ns na nf sl ac ke le tx ap bg wr se wh wo bl ck sw ma ro bs) := by
  refine kMi_of (by decide +kernel) (Nat.le_of_ble_eq_true rfl) (fun x (X : kX l g RX6 cX6_canGive 4 (kw_rm 3 0 0) x) (Z : kZi .boolean _ 0 0 x) => ?_)
  show kW x 0 0 0 [(0, .ref (a 0)), (1, .int (nI (o))), (2, .int (nI (p))), (3, .int (nI (q)))] [] (wR g a pe so ag fr np ns na nf sl ac ke le tx ap bg wr se wh wo bl ck sw ma ro bs)
  refine kb_iload_n X 2 dX6_canGive_0 rfl rfl ?_
  refine kb_iload_n X 3 dX6_canGive_1 rfl rfl ?_
  refine kn_icmp_eq (a := p) (b := q) (tgt := 59) X (by omega) (by omega) dX6_canGive_2 (by decide) (fun c1_ => ?_) (fun c1_ => ?_)
  · skip
    refine kb_iconst (v := (0 : Int32)) X dX6_canGive_59 (by decide) ?_
    refine ke_z X Z rfl dX6_canGive_60 ?_
    exact ⟨(by first | rfl | (simp [zI, wCanGive, c1_]; done) | (simp [zI, wCanGive, c1_] <;> omega) | (simp_all [zI, wCanGive, c1_]; done)), (by first | rfl | (simp [zI, wCanGive, c1_]; done) | (simp [zI, wCanGive, c1_] <;> omega) | (simp_all [zI, wCanGive, c1_]; done))⟩
  · skip
    refine kb_aload_n X 0 dX6_canGive_5 rfl rfl ?_
    refine kb_iload_n X 1 dX6_canGive_6 rfl rfl ?_
    refine kb_iload_n X 2 dX6_canGive_7 rfl rfl ?_
    refine kc_Vi X (As := [.int (nI (o)), .int (nI (p))]) (rest := []) (wr := []) (ct_X6_isAlive l g a pe so ag fr np ns na nf sl ac ke le tx ap bg wr se wh wo bl ck sw ma ro bs o v (by omega) hE hK hv p (by omega)) dX6_canGive_8 rfl (kw_pall _) mc_X6_isAlive kl_X6_136 mi_X6_isAlive mv_X6_isAlive kn_X6 0 rfl rfl rfl (na := 2) (by decide +kernel) rfl ⟨Nat.le_of_ble_eq_true rfl, Nat.le_of_ble_eq_true rfl⟩ ⟨rfl, rfl⟩ ⟨Nat.le_of_ble_eq_true rfl, Nat.le_of_ble_eq_true rfl⟩ (Nat.le_of_ble_eq_true rfl) (fun r_ w_ hp_ => ?_)
    obtain ⟨rfl, rfl⟩ := hp_
    refine kw_ws (List.append_nil _) ?_
    refine kz_if_eq (b := wLives v p) (tgt := 59) X dX6_canGive_11 (by decide) (fun c2_ => ?_) (fun c2_ => ?_)
    · skip
      refine kb_iconst (v := (0 : Int32)) X dX6_canGive_59 (by decide) ?_
      refine ke_z X Z rfl dX6_canGive_60 ?_
      exact ⟨(by first | rfl | (simp [zI, wCanGive, c1_, c2_]; done) | (simp [zI, wCanGive, c1_, c2_] <;> omega) | (simp_all [zI, wCanGive, c1_, c2_]; done)), (by first | rfl | (simp [zI, wCanGive, c1_, c2_]; done) | (simp [zI, wCanGive, c1_, c2_] <;> omega) | (simp_all [zI, wCanGive, c1_, c2_]; done))⟩
    · skip
      refine kb_aload_n X 0 dX6_canGive_14 rfl rfl ?_
      refine kb_iload_n X 1 dX6_canGive_15 rfl rfl ?_
      refine kb_iload_n X 3 dX6_canGive_16 rfl rfl ?_
      refine kc_Vi X (As := [.int (nI (o)), .int (nI (q))]) (rest := []) (wr := []) (ct_X6_isAlive l g a pe so ag fr np ns na nf sl ac ke le tx ap bg wr se wh wo bl ck sw ma ro bs o v (by omega) hE hK hv q (by omega)) dX6_canGive_17 rfl (kw_pall _) mc_X6_isAlive kl_X6_136 mi_X6_isAlive mv_X6_isAlive kn_X6 0 rfl rfl rfl (na := 2) (by decide +kernel) rfl ⟨Nat.le_of_ble_eq_true rfl, Nat.le_of_ble_eq_true rfl⟩ ⟨rfl, rfl⟩ ⟨Nat.le_of_ble_eq_true rfl, Nat.le_of_ble_eq_true rfl⟩ (Nat.le_of_ble_eq_true rfl) (fun r_ w_ hp_ => ?_)
      obtain ⟨rfl, rfl⟩ := hp_
      refine kw_ws (List.append_nil _) ?_
      refine kz_if_eq (b := wLives v q) (tgt := 59) X dX6_canGive_20 (by decide) (fun c3_ => ?_) (fun c3_ => ?_)
      · skip
        refine kb_iconst (v := (0 : Int32)) X dX6_canGive_59 (by decide) ?_
        refine ke_z X Z rfl dX6_canGive_60 ?_
        exact ⟨(by first | rfl | (simp [zI, wCanGive, c1_, c2_, c3_]; done) | (simp [zI, wCanGive, c1_, c2_, c3_] <;> omega) | (simp_all [zI, wCanGive, c1_, c2_, c3_]; done)), (by first | rfl | (simp [zI, wCanGive, c1_, c2_, c3_]; done) | (simp [zI, wCanGive, c1_, c2_, c3_] <;> omega) | (simp_all [zI, wCanGive, c1_, c2_, c3_]; done))⟩
      · skip
        refine kb_aload_n X 0 dX6_canGive_23 rfl rfl ?_
        refine kb_get (v := .ref (a 5)) (C := RX6) (T := TX6) (N := 25) (ci := 6) X kw_iX6 rfl 0 8 rfl (by decide) kf_X6_22 rfl rfl dX6_canGive_24 ?_
        refine kb_iload_n X 1 dX6_canGive_27 rfl rfl ?_
        refine kb_iload_n X 2 dX6_canGive_28 rfl rfl ?_
        refine kn_iadd X o p dX6_canGive_29 ?_
        refine kb_iald (i := o + p) X 5 rfl (by omega) (by decide) dX6_canGive_30 ?_
        refine kw_top (b := .int (vC v p)) (congrArg Value.int (hE.c (p := p) (by omega) (by omega))) ?_
        refine kb_iconst (v := (2 : Int32)) X dX6_canGive_31 (by decide) ?_
        refine kb_icmp_lt (tgt := 59) X dX6_canGive_32 (by decide) (fun c4_ => ?_) (fun c4_ => ?_)
        · skip
          refine kb_iconst (v := (0 : Int32)) X dX6_canGive_59 (by decide) ?_
          refine ke_z X Z rfl dX6_canGive_60 ?_
          exact ⟨(by first | rfl | (simp [zI, wCanGive, c1_, c2_, c3_, c4_]; done) | (simp [zI, wCanGive, c1_, c2_, c3_, c4_] <;> omega) | (simp_all [zI, wCanGive, c1_, c2_, c3_, c4_]; done)), (by first | rfl | (simp [zI, wCanGive, c1_, c2_, c3_, c4_]; done) | (simp [zI, wCanGive, c1_, c2_, c3_, c4_] <;> omega) | (simp_all [zI, wCanGive, c1_, c2_, c3_, c4_]; done))⟩
        · skip
          refine kb_aload_n X 0 dX6_canGive_35 rfl rfl ?_
          refine kb_get (v := .ref (a 5)) (C := RX6) (T := TX6) (N := 25) (ci := 6) X kw_iX6 rfl 0 8 rfl (by decide) kf_X6_22 rfl rfl dX6_canGive_36 ?_
          refine kb_iload_n X 1 dX6_canGive_39 rfl rfl ?_
          refine kb_bipush (v := (10 : Int32)) X dX6_canGive_40 (by decide) ?_
          refine kn_iadd X o 10 dX6_canGive_42 ?_
          refine kb_bipush (v := (6 : Int32)) X dX6_canGive_43 (by decide) ?_
          refine kb_iload_n X 3 dX6_canGive_45 rfl rfl ?_
          refine kn_imul X 6 q dX6_canGive_46 ?_
          refine kn_iadd X (o + 10) (6 * q) dX6_canGive_47 ?_
          refine kb_iload_n X 2 dX6_canGive_48 rfl rfl ?_
          refine kn_iadd X ((o + 10) + (6 * q)) p dX6_canGive_49 ?_
          refine kb_iald (i := ((o + 10) + (6 * q)) + p) X 5 rfl (by omega) (by decide) dX6_canGive_50 ?_
          refine kw_top (b := .int (vT v (q * 6 + p))) (congrArg Value.int (hE.t (p := q) (q := p) (by omega) (by omega) (by omega))) ?_
          refine kb_iconst (v := (5 : Int32)) X dX6_canGive_51 (by decide) ?_
          refine kb_icmp_ge (tgt := 59) X dX6_canGive_52 (by decide) (fun c5_ => ?_) (fun c5_ => ?_)
          · skip
            refine kb_iconst (v := (0 : Int32)) X dX6_canGive_59 (by decide) ?_
            refine ke_z X Z rfl dX6_canGive_60 ?_
            exact ⟨(by first | rfl | (simp [zI, wCanGive, c1_, c2_, c3_, c4_, c5_]; done) | (simp [zI, wCanGive, c1_, c2_, c3_, c4_, c5_] <;> omega) | (simp_all [zI, wCanGive, c1_, c2_, c3_, c4_, c5_]; done)), (by first | rfl | (simp [zI, wCanGive, c1_, c2_, c3_, c4_, c5_]; done) | (simp [zI, wCanGive, c1_, c2_, c3_, c4_, c5_] <;> omega) | (simp_all [zI, wCanGive, c1_, c2_, c3_, c4_, c5_]; done))⟩
          · skip
            refine kb_iconst (v := (1 : Int32)) X dX6_canGive_55 (by decide) ?_
            refine kb_goto (tgt := 60) X dX6_canGive_56 (by decide) ?_
            refine ke_z X Z rfl dX6_canGive_60 ?_
            exact ⟨(by first | rfl | (simp [zI, wCanGive, c1_, c2_, c3_, c4_, c5_]; done) | (simp [zI, wCanGive, c1_, c2_, c3_, c4_, c5_] <;> omega) | (simp_all [zI, wCanGive, c1_, c2_, c3_, c4_, c5_]; done)), (by first | rfl | (simp [zI, wCanGive, c1_, c2_, c3_, c4_, c5_]; done) | (simp [zI, wCanGive, c1_, c2_, c3_, c4_, c5_] <;> omega) | (simp_all [zI, wCanGive, c1_, c2_, c3_, c4_, c5_]; done))⟩

set_option maxHeartbeats 4000000 in
set_option maxRecDepth 100000 in
theorem ct_X6_gets (l : Launch) (g : kw_G) (a : Nat → Nat) (pe : Nat) (so : Nat → Int32) (ag : Nat → Int32) (fr : Int32) (np : Nat) (ns : Nat → Int32) (na : Nat → Int32) (nf : Int32) (sl : Nat → Int32) (ac : Nat) (ke : Nat) (le : Nat) (tx : Nat → Nat) (ap : Nat) (bg : Nat) (wr : Bool) (se : Nat) (wh : Nat → Nat) (wo : Nat → Nat) (bl : Nat → Int32) (ck : Nat → Int32) (sw : Nat → Bool) (ma : Nat) (ro : Nat → Nat) (bs : Nat → Nat) (o : Nat) (v : VS) (ho : o + 82 ≤ 984) (hE : EN sl o v) (hK : KE pe so ag fr v) (hv : VI v) (p : Nat) (d : Int32) (hp : p < 6) : kMv l g yX6_gets cX6_gets 4 (kw_rm 2 0 0) 0 0 [.ref (a 0), .int (nI (o)), .int (nI (p)), .int (d)] (wR g a pe so ag fr np ns na nf sl ac ke le tx ap bg wr se wh wo bl ck sw ma ro bs) (fun w => ∃ sl', EN sl' o (wRecv v p d) ∧ FR sl sl' o ∧ w = wR g a pe so ag fr np ns na nf sl' ac ke le tx ap bg wr se wh wo bl ck sw ma ro bs) := by
  refine kMv_of (by decide +kernel) (Nat.le_of_ble_eq_true rfl) (fun x (X : kX l g RX6 cX6_gets 4 (kw_rm 2 0 0) x) (Z : kZv _ 0 0 x) => ?_)
  show kW x 0 0 0 [(0, .ref (a 0)), (1, .int (nI (o))), (2, .int (nI (p))), (3, .int (d))] [] (wR g a pe so ag fr np ns na nf sl ac ke le tx ap bg wr se wh wo bl ck sw ma ro bs)
  refine kb_aload_n X 0 dX6_gets_0 rfl rfl ?_
  refine kb_get (v := .ref (a 5)) (C := RX6) (T := TX6) (N := 25) (ci := 6) X kw_iX6 rfl 0 8 rfl (by decide) kf_X6_22 rfl rfl dX6_gets_1 ?_
  refine kb_iload_n X 1 dX6_gets_4 rfl rfl ?_
  refine kb_iload_n X 2 dX6_gets_5 rfl rfl ?_
  refine kn_iadd X o p dX6_gets_6 ?_
  refine kb_sipush (v := (999 : Int32)) X dX6_gets_7 (by decide) ?_
  refine kb_aload_n X 0 dX6_gets_10 rfl rfl ?_
  refine kb_get (v := .ref (a 5)) (C := RX6) (T := TX6) (N := 25) (ci := 6) X kw_iX6 rfl 0 8 rfl (by decide) kf_X6_22 rfl rfl dX6_gets_11 ?_
  refine kb_iload_n X 1 dX6_gets_14 rfl rfl ?_
  refine kb_iload_n X 2 dX6_gets_15 rfl rfl ?_
  refine kn_iadd X o p dX6_gets_16 ?_
  refine kb_iald (i := o + p) X 5 rfl (by omega) (by decide) dX6_gets_17 ?_
  refine kw_top (b := .int (vC v p)) (congrArg Value.int (hE.c (p := p) (by omega) (by omega))) ?_
  refine kb_iload_n X 3 dX6_gets_18 rfl rfl ?_
  refine kb_iadd X dX6_gets_19 ?_
  refine kc_Si X (As := [.int 999, .int ((vC v p) + d)]) (rest := [.int (nI (o + p)), .ref (a 5)]) (wr := (wR g a pe so ag fr np ns na nf sl ac ke le tx ap bg wr se wh wo bl ck sw ma ro bs)) (ct_X6_smaller l g (999 : Int32) ((vC v p) + d) ) dX6_gets_20 rfl (List.Perm.refl _) mc_X6_smaller kl_X6_158 ms_X6_smaller kn_X6 (na := 2) (by decide +kernel) rfl ⟨Nat.le_of_ble_eq_true rfl, Nat.le_of_ble_eq_true rfl⟩ ⟨rfl, rfl⟩ ⟨Nat.le_of_ble_eq_true rfl, Nat.le_of_ble_eq_true rfl⟩ (Nat.le_of_ble_eq_true rfl) (fun r_ w_ hp_ => ?_)
  obtain ⟨rfl, rfl⟩ := hp_
  refine kw_ws (List.nil_append _) ?_
  refine kb_iast (i := o + p) X 5 rfl (by omega) (by decide) dX6_gets_23 (ws' := wR g a pe so ag fr np ns na nf (upd sl (o + p) (mn (999 : Int32) ((vC v p) + d))) ac ke le tx ap bg wr se wh wo bl ck sw ma ro bs) rfl ?_
  generalize hsl1_ : upd sl (o + p) (mn (999 : Int32) ((vC v p) + d)) = sl1_
  have hE2_ : EN sl1_ o (sC v (upd (vC v) p (mn (999 : Int32) ((vC v p) + d)))) := by rw [← hsl1_]; exact hE.sc (p := p) (by omega) (by omega)
  have hF3_ : FR sl sl1_ o := by rw [← hsl1_]; exact FR.up FR.rf (by omega) (by omega)
  refine ke_v X Z dX6_gets_24 ?_
  exact ⟨sl1_, hE2_, hF3_, rfl⟩

set_option maxHeartbeats 4000000 in
set_option maxRecDepth 100000 in
theorem ct_X6_ties (l : Launch) (g : kw_G) (a : Nat → Nat) (pe : Nat) (so : Nat → Int32) (ag : Nat → Int32) (fr : Int32) (np : Nat) (ns : Nat → Int32) (na : Nat → Int32) (nf : Int32) (sl : Nat → Int32) (ac : Nat) (ke : Nat) (le : Nat) (tx : Nat → Nat) (ap : Nat) (bg : Nat) (wr : Bool) (se : Nat) (wh : Nat → Nat) (wo : Nat → Nat) (bl : Nat → Int32) (ck : Nat → Int32) (sw : Nat → Bool) (ma : Nat) (ro : Nat → Nat) (bs : Nat → Nat) (o : Nat) (v : VS) (ho : o + 82 ≤ 984) (hE : EN sl o v) (hK : KE pe so ag fr v) (hv : VI v) (p q : Nat) (d : Int32) (hp : p < 6) (hq : q < 6) : kMv l g yX6_ties cX6_ties 5 (kw_rm 2 0 0) 0 0 [.ref (a 0), .int (nI (o)), .int (nI (p)), .int (nI (q)), .int (d)] (wR g a pe so ag fr np ns na nf sl ac ke le tx ap bg wr se wh wo bl ck sw ma ro bs) (fun w => ∃ sl', EN sl' o (wTie v p q d) ∧ FR sl sl' o ∧ w = wR g a pe so ag fr np ns na nf sl' ac ke le tx ap bg wr se wh wo bl ck sw ma ro bs) := by
  refine kMv_of (by decide +kernel) (Nat.le_of_ble_eq_true rfl) (fun x (X : kX l g RX6 cX6_ties 5 (kw_rm 2 0 0) x) (Z : kZv _ 0 0 x) => ?_)
  show kW x 0 0 0 [(0, .ref (a 0)), (1, .int (nI (o))), (2, .int (nI (p))), (3, .int (nI (q))), (4, .int (d))] [] (wR g a pe so ag fr np ns na nf sl ac ke le tx ap bg wr se wh wo bl ck sw ma ro bs)
  refine kb_aload_n X 0 dX6_ties_0 rfl rfl ?_
  refine kb_get (v := .ref (a 5)) (C := RX6) (T := TX6) (N := 25) (ci := 6) X kw_iX6 rfl 0 8 rfl (by decide) kf_X6_22 rfl rfl dX6_ties_1 ?_
  refine kb_iload_n X 1 dX6_ties_4 rfl rfl ?_
  refine kb_bipush (v := (10 : Int32)) X dX6_ties_5 (by decide) ?_
  refine kn_iadd X o 10 dX6_ties_7 ?_
  refine kb_bipush (v := (6 : Int32)) X dX6_ties_8 (by decide) ?_
  refine kb_iload_n X 2 dX6_ties_10 rfl rfl ?_
  refine kn_imul X 6 p dX6_ties_11 ?_
  refine kn_iadd X (o + 10) (6 * p) dX6_ties_12 ?_
  refine kb_iload_n X 3 dX6_ties_13 rfl rfl ?_
  refine kn_iadd X ((o + 10) + (6 * p)) q dX6_ties_14 ?_
  refine kb_iconst (v := (5 : Int32)) X dX6_ties_15 (by decide) ?_
  refine kb_bipush (v := (-4 : Int32)) X dX6_ties_16 (by decide) ?_
  refine kb_aload_n X 0 dX6_ties_18 rfl rfl ?_
  refine kb_get (v := .ref (a 5)) (C := RX6) (T := TX6) (N := 25) (ci := 6) X kw_iX6 rfl 0 8 rfl (by decide) kf_X6_22 rfl rfl dX6_ties_19 ?_
  refine kb_iload_n X 1 dX6_ties_22 rfl rfl ?_
  refine kb_bipush (v := (10 : Int32)) X dX6_ties_23 (by decide) ?_
  refine kn_iadd X o 10 dX6_ties_25 ?_
  refine kb_bipush (v := (6 : Int32)) X dX6_ties_26 (by decide) ?_
  refine kb_iload_n X 2 dX6_ties_28 rfl rfl ?_
  refine kn_imul X 6 p dX6_ties_29 ?_
  refine kn_iadd X (o + 10) (6 * p) dX6_ties_30 ?_
  refine kb_iload_n X 3 dX6_ties_31 rfl rfl ?_
  refine kn_iadd X ((o + 10) + (6 * p)) q dX6_ties_32 ?_
  refine kb_iald (i := ((o + 10) + (6 * p)) + q) X 5 rfl (by omega) (by decide) dX6_ties_33 ?_
  refine kw_top (b := .int (vT v (p * 6 + q))) (congrArg Value.int (hE.t (p := p) (q := q) (by omega) (by omega) (by omega))) ?_
  refine kb_iload X 4 dX6_ties_34 rfl ?_
  refine kb_iadd X dX6_ties_36 ?_
  refine kc_Si X (As := [.int (-4), .int ((vT v (p * 6 + q)) + d)]) (rest := [.int 5, .int (nI (((o + 10) + (6 * p)) + q)), .ref (a 5)]) (wr := (wR g a pe so ag fr np ns na nf sl ac ke le tx ap bg wr se wh wo bl ck sw ma ro bs)) (ct_X6_larger l g (-4 : Int32) ((vT v (p * 6 + q)) + d) ) dX6_ties_37 rfl (List.Perm.refl _) mc_X6_larger kl_X6_161 ms_X6_larger kn_X6 (na := 2) (by decide +kernel) rfl ⟨Nat.le_of_ble_eq_true rfl, Nat.le_of_ble_eq_true rfl⟩ ⟨rfl, rfl⟩ ⟨Nat.le_of_ble_eq_true rfl, Nat.le_of_ble_eq_true rfl⟩ (Nat.le_of_ble_eq_true rfl) (fun r_ w_ hp_ => ?_)
  obtain ⟨rfl, rfl⟩ := hp_
  refine kw_ws (List.nil_append _) ?_
  refine kc_Si X (As := [.int 5, .int (mx (-4 : Int32) ((vT v (p * 6 + q)) + d))]) (rest := [.int (nI (((o + 10) + (6 * p)) + q)), .ref (a 5)]) (wr := (wR g a pe so ag fr np ns na nf sl ac ke le tx ap bg wr se wh wo bl ck sw ma ro bs)) (ct_X6_smaller l g (5 : Int32) (mx (-4 : Int32) ((vT v (p * 6 + q)) + d)) ) dX6_ties_40 rfl (List.Perm.refl _) mc_X6_smaller kl_X6_158 ms_X6_smaller kn_X6 (na := 2) (by decide +kernel) rfl ⟨Nat.le_of_ble_eq_true rfl, Nat.le_of_ble_eq_true rfl⟩ ⟨rfl, rfl⟩ ⟨Nat.le_of_ble_eq_true rfl, Nat.le_of_ble_eq_true rfl⟩ (Nat.le_of_ble_eq_true rfl) (fun r_ w_ hp_ => ?_)
  obtain ⟨rfl, rfl⟩ := hp_
  refine kw_ws (List.nil_append _) ?_
  refine kb_iast (i := ((o + 10) + (6 * p)) + q) X 5 rfl (by omega) (by decide) dX6_ties_43 (ws' := wR g a pe so ag fr np ns na nf (upd sl (((o + 10) + (6 * p)) + q) (mn (5 : Int32) (mx (-4 : Int32) ((vT v (p * 6 + q)) + d)))) ac ke le tx ap bg wr se wh wo bl ck sw ma ro bs) rfl ?_
  generalize hsl1_ : upd sl (((o + 10) + (6 * p)) + q) (mn (5 : Int32) (mx (-4 : Int32) ((vT v (p * 6 + q)) + d))) = sl1_
  have hE2_ : EN sl1_ o (sT v (upd (vT v) (p * 6 + q) (mn (5 : Int32) (mx (-4 : Int32) ((vT v (p * 6 + q)) + d))))) := by rw [← hsl1_]; exact hE.st (p := p) (q := q) (by omega) (by omega) (by omega)
  have hF3_ : FR sl sl1_ o := by rw [← hsl1_]; exact FR.up FR.rf (by omega) (by omega)
  refine ke_v X Z dX6_ties_44 ?_
  exact ⟨sl1_, by rw [wTie, ← mnmx]; exact hE2_, hF3_, rfl⟩

set_option maxHeartbeats 4000000 in
set_option maxRecDepth 100000 in
theorem ct_X6_pays (l : Launch) (g : kw_G) (a : Nat → Nat) (pe : Nat) (so : Nat → Int32) (ag : Nat → Int32) (fr : Int32) (np : Nat) (ns : Nat → Int32) (na : Nat → Int32) (nf : Int32) (sl : Nat → Int32) (ac : Nat) (ke : Nat) (le : Nat) (tx : Nat → Nat) (ap : Nat) (bg : Nat) (wr : Bool) (se : Nat) (wh : Nat → Nat) (wo : Nat → Nat) (bl : Nat → Int32) (ck : Nat → Int32) (sw : Nat → Bool) (ma : Nat) (ro : Nat → Nat) (bs : Nat → Nat) (o : Nat) (v : VS) (ho : o + 82 ≤ 984) (hE : EN sl o v) (hK : KE pe so ag fr v) (hv : VI v) (p q : Nat) (d : Int32) (hp : p < 6) (hq : q < 6) : kMi l g yX6_pays cX6_pays 6 .int (kw_rm 3 0 0) 0 0 [.ref (a 0), .int (nI (o)), .int (nI (p)), .int (nI (q)), .int (d)] (wR g a pe so ag fr np ns na nf sl ac ke le tx ap bg wr se wh wo bl ck sw ma ro bs) (fun r w => r = wPaid v p d ∧ ∃ sl', EN sl' o (wPay v p q d) ∧ FR sl sl' o ∧ w = wR g a pe so ag fr np ns na nf sl' ac ke le tx ap bg wr se wh wo bl ck sw ma ro bs) := by
  refine kMi_of (by decide +kernel) (Nat.le_of_ble_eq_true rfl) (fun x (X : kX l g RX6 cX6_pays 6 (kw_rm 3 0 0) x) (Z : kZi .int _ 0 0 x) => ?_)
  show kW x 0 0 0 [(0, .ref (a 0)), (1, .int (nI (o))), (2, .int (nI (p))), (3, .int (nI (q))), (4, .int (d))] [] (wR g a pe so ag fr np ns na nf sl ac ke le tx ap bg wr se wh wo bl ck sw ma ro bs)
  refine kb_iload X 4 dX6_pays_0 rfl ?_
  refine kb_aload_n X 0 dX6_pays_2 rfl rfl ?_
  refine kb_get (v := .ref (a 5)) (C := RX6) (T := TX6) (N := 25) (ci := 6) X kw_iX6 rfl 0 8 rfl (by decide) kf_X6_22 rfl rfl dX6_pays_3 ?_
  refine kb_iload_n X 1 dX6_pays_6 rfl rfl ?_
  refine kb_iload_n X 2 dX6_pays_7 rfl rfl ?_
  refine kn_iadd X o p dX6_pays_8 ?_
  refine kb_iald (i := o + p) X 5 rfl (by omega) (by decide) dX6_pays_9 ?_
  refine kw_top (b := .int (vC v p)) (congrArg Value.int (hE.c (p := p) (by omega) (by omega))) ?_
  refine kc_Si X (As := [.int (d), .int (vC v p)]) (rest := []) (wr := (wR g a pe so ag fr np ns na nf sl ac ke le tx ap bg wr se wh wo bl ck sw ma ro bs)) (ct_X6_smaller l g d (vC v p) ) dX6_pays_10 rfl (List.Perm.refl _) mc_X6_smaller kl_X6_158 ms_X6_smaller kn_X6 (na := 2) (by decide +kernel) rfl ⟨Nat.le_of_ble_eq_true rfl, Nat.le_of_ble_eq_true rfl⟩ ⟨rfl, rfl⟩ ⟨Nat.le_of_ble_eq_true rfl, Nat.le_of_ble_eq_true rfl⟩ (Nat.le_of_ble_eq_true rfl) (fun r_ w_ hp_ => ?_)
  obtain ⟨rfl, rfl⟩ := hp_
  refine kw_ws (List.nil_append _) ?_
  refine kb_istore X [1, 2, 3, 4, 5, 0] dX6_pays_13 (by decide) (lv' := [(0, .ref (a 0)), (1, .int (nI (o))), (2, .int (nI (p))), (3, .int (nI (q))), (4, .int (d)), (5, .int (mn d (vC v p)))]) rfl ?_
  refine kb_aload_n X 0 dX6_pays_15 rfl rfl ?_
  refine kb_get (v := .ref (a 5)) (C := RX6) (T := TX6) (N := 25) (ci := 6) X kw_iX6 rfl 0 8 rfl (by decide) kf_X6_22 rfl rfl dX6_pays_16 ?_
  refine kb_iload_n X 1 dX6_pays_19 rfl rfl ?_
  refine kb_iload_n X 2 dX6_pays_20 rfl rfl ?_
  refine kn_iadd X o p dX6_pays_21 ?_
  refine kb_dup2 X dX6_pays_22 rfl rfl ?_
  refine kb_iald (i := o + p) X 5 rfl (by omega) (by decide) dX6_pays_23 ?_
  refine kw_top (b := .int (vC v p)) (congrArg Value.int (hE.c (p := p) (by omega) (by omega))) ?_
  refine kb_iload X 5 dX6_pays_24 rfl ?_
  refine kb_isub X dX6_pays_26 ?_
  refine kb_iast (i := o + p) X 5 rfl (by omega) (by decide) dX6_pays_27 (ws' := wR g a pe so ag fr np ns na nf (upd sl (o + p) ((vC v p) - (mn d (vC v p)))) ac ke le tx ap bg wr se wh wo bl ck sw ma ro bs) rfl ?_
  generalize hsl1_ : upd sl (o + p) ((vC v p) - (mn d (vC v p))) = sl1_
  have hE2_ : EN sl1_ o (sC v (upd (vC v) p ((vC v p) - (mn d (vC v p))))) := by rw [← hsl1_]; exact hE.sc (p := p) (by omega) (by omega)
  have hF3_ : FR sl sl1_ o := by rw [← hsl1_]; exact FR.up FR.rf (by omega) (by omega)
  refine kb_aload_n X 0 dX6_pays_28 rfl rfl ?_
  refine kb_get (v := .ref (a 5)) (C := RX6) (T := TX6) (N := 25) (ci := 6) X kw_iX6 rfl 0 8 rfl (by decide) kf_X6_22 rfl rfl dX6_pays_29 ?_
  refine kb_iload_n X 1 dX6_pays_32 rfl rfl ?_
  refine kb_bipush (v := (46 : Int32)) X dX6_pays_33 (by decide) ?_
  refine kn_iadd X o 46 dX6_pays_35 ?_
  refine kb_bipush (v := (6 : Int32)) X dX6_pays_36 (by decide) ?_
  refine kb_iload_n X 2 dX6_pays_38 rfl rfl ?_
  refine kn_imul X 6 p dX6_pays_39 ?_
  refine kn_iadd X (o + 46) (6 * p) dX6_pays_40 ?_
  refine kb_iload_n X 3 dX6_pays_41 rfl rfl ?_
  refine kn_iadd X ((o + 46) + (6 * p)) q dX6_pays_42 ?_
  refine kb_dup2 X dX6_pays_43 rfl rfl ?_
  refine kb_iald (i := ((o + 46) + (6 * p)) + q) X 5 rfl (by omega) (by decide) dX6_pays_44 ?_
  refine kw_top (b := .int (vD v (p * 6 + q))) (congrArg Value.int (hE2_.d (p := p) (q := q) (by omega) (by omega) (by omega))) ?_
  refine kb_iload X 5 dX6_pays_45 rfl ?_
  refine kb_isub X dX6_pays_47 ?_
  refine kb_iast (i := ((o + 46) + (6 * p)) + q) X 5 rfl (by omega) (by decide) dX6_pays_48 (ws' := wR g a pe so ag fr np ns na nf (upd sl1_ (((o + 46) + (6 * p)) + q) ((vD v (p * 6 + q)) - (mn d (vC v p)))) ac ke le tx ap bg wr se wh wo bl ck sw ma ro bs) rfl ?_
  generalize hsl4_ : upd sl1_ (((o + 46) + (6 * p)) + q) ((vD v (p * 6 + q)) - (mn d (vC v p))) = sl4_
  have hE5_ : EN sl4_ o (sD (sC v (upd (vC v) p ((vC v p) - (mn d (vC v p))))) (upd (vD v) (p * 6 + q) ((vD v (p * 6 + q)) - (mn d (vC v p))))) := by rw [← hsl4_]; exact hE2_.sd (p := p) (q := q) (by omega) (by omega) (by omega)
  have hF6_ : FR sl sl4_ o := by rw [← hsl4_]; exact FR.up hF3_ (by omega) (by omega)
  refine kb_aload_n X 0 dX6_pays_49 rfl rfl ?_
  refine kb_iload_n X 1 dX6_pays_50 rfl rfl ?_
  refine kb_iload_n X 3 dX6_pays_51 rfl rfl ?_
  refine kb_iload X 5 dX6_pays_52 rfl ?_
  refine kc_Vv X (As := [.int (nI (o)), .int (nI (q)), .int (mn d (vC v p))]) (rest := []) (wr := []) (ct_X6_gets l g a pe so ag fr np ns na nf sl4_ ac ke le tx ap bg wr se wh wo bl ck sw ma ro bs o (sD (sC v (upd (vC v) p ((vC v p) - (mn d (vC v p))))) (upd (vD v) (p * 6 + q) ((vD v (p * 6 + q)) - (mn d (vC v p))))) (by omega) hE5_ hK hv q (mn d (vC v p)) (by omega)) dX6_pays_54 rfl (kw_pall _) mc_X6_gets kl_X6_164 mi_X6_gets mv_X6_gets kn_X6 0 rfl rfl rfl (na := 3) (by decide +kernel) rfl ⟨Nat.le_of_ble_eq_true rfl, Nat.le_of_ble_eq_true rfl⟩ ⟨rfl, rfl⟩ ⟨Nat.le_of_ble_eq_true rfl, Nat.le_of_ble_eq_true rfl⟩ (Nat.le_of_ble_eq_true rfl) (fun w_ hp_ => ?_)
  obtain ⟨sl7_, hE8_, hF9_, rfl⟩ := hp_
  have hF10_ : FR sl sl7_ o := FR.tr hF6_ hF9_
  refine kw_ws (List.append_nil _) ?_
  refine kb_iload X 5 dX6_pays_57 rfl ?_
  refine ke_i X Z dX6_pays_59 ?_
  exact ⟨rfl, sl7_, hE8_, hF10_, rfl⟩

set_option maxHeartbeats 4000000 in
set_option maxRecDepth 100000 in
theorem ct_X6_changes (l : Launch) (g : kw_G) (a : Nat → Nat) (pe : Nat) (so : Nat → Int32) (ag : Nat → Int32) (fr : Int32) (np : Nat) (ns : Nat → Int32) (na : Nat → Int32) (nf : Int32) (sl : Nat → Int32) (ac : Nat) (ke : Nat) (le : Nat) (tx : Nat → Nat) (ap : Nat) (bg : Nat) (wr : Bool) (se : Nat) (wh : Nat → Nat) (wo : Nat → Nat) (bl : Nat → Int32) (ck : Nat → Int32) (sw : Nat → Bool) (ma : Nat) (ro : Nat → Nat) (bs : Nat → Nat) (o : Nat) (v : VS) (ho : o + 82 ≤ 984) (hE : EN sl o v) (hK : KE pe so ag fr v) (hv : VI v) (p q : Nat) (cm : Bool) (hp : p < 6) (hq : q < vN v) : kMv l g yX6_changes cX6_changes 5 (kw_rm 4 0 0) 0 0 [.ref (a 0), .int (nI (o)), .int (nI (p)), .int (nI (q)), .int (zI (cm))] (wR g a pe so ag fr np ns na nf sl ac ke le tx ap bg wr se wh wo bl ck sw ma ro bs) (fun w => ∃ sl', EN sl' o (wMeet v p q cm) ∧ FR sl sl' o ∧ w = wR g a pe so ag fr np ns na nf sl' ac ke le tx ap bg wr se wh wo bl ck sw ma ro bs) := by
  refine kMv_of (by decide +kernel) (Nat.le_of_ble_eq_true rfl) (fun x (X : kX l g RX6 cX6_changes 5 (kw_rm 4 0 0) x) (Z : kZv _ 0 0 x) => ?_)
  show kW x 0 0 0 [(0, .ref (a 0)), (1, .int (nI (o))), (2, .int (nI (p))), (3, .int (nI (q))), (4, .int (zI (cm)))] [] (wR g a pe so ag fr np ns na nf sl ac ke le tx ap bg wr se wh wo bl ck sw ma ro bs)
  have h6 := hv.1
  have hpe := hK.1
  refine kb_aload_n X 0 dX6_changes_0 rfl rfl ?_
  refine kb_iload_n X 1 dX6_changes_1 rfl rfl ?_
  refine kb_iload_n X 2 dX6_changes_2 rfl rfl ?_
  refine kb_iload_n X 3 dX6_changes_3 rfl rfl ?_
  refine kb_iload X 4 dX6_changes_4 rfl ?_
  refine kz_if_eq (b := cm) (tgt := 23) X dX6_changes_6 (by decide) (fun c1_ => ?_) (fun c1_ => ?_)
  · skip
    refine kb_iconst (v := (-1 : Int32)) X dX6_changes_23 (by decide) ?_
    refine kc_Vv X (As := [.int (nI (o)), .int (nI (p)), .int (nI (q)), .int (-1)]) (rest := []) (wr := []) (ct_X6_ties l g a pe so ag fr np ns na nf sl ac ke le tx ap bg wr se wh wo bl ck sw ma ro bs o v (by omega) hE hK hv p q (-1 : Int32) (by omega) (by omega)) dX6_changes_24 rfl (kw_pall _) mc_X6_ties kl_X6_168 mi_X6_ties mv_X6_ties kn_X6 0 rfl rfl rfl (na := 4) (by decide +kernel) rfl ⟨Nat.le_of_ble_eq_true rfl, Nat.le_of_ble_eq_true rfl⟩ ⟨rfl, rfl⟩ ⟨Nat.le_of_ble_eq_true rfl, Nat.le_of_ble_eq_true rfl⟩ (Nat.le_of_ble_eq_true rfl) (fun w_ hp_ => ?_)
    obtain ⟨sl2_, hE3_, hF4_, rfl⟩ := hp_
    have hF5_ : FR sl sl2_ o := FR.tr FR.rf hF4_
    refine kw_ws (List.append_nil _) ?_
    refine kb_iload X 4 dX6_changes_27 rfl ?_
    refine kz_if_eq (b := cm) (tgt := 58) X dX6_changes_29 (by decide) (fun c6_ => ?_) (fun c6_ => ?_)
    · skip
      refine ke_v X Z dX6_changes_58 ?_
      first
      | exact ⟨sl2_, by simpa [wMeet, c1_, c6_] using hE3_, hF5_, rfl⟩
      | (exfalso; simp_all)
    · skip
      refine kb_aload_n X 0 dX6_changes_32 rfl rfl ?_
      refine kb_iload_n X 1 dX6_changes_33 rfl rfl ?_
      refine kb_iload_n X 3 dX6_changes_34 rfl rfl ?_
      refine kb_iload_n X 2 dX6_changes_35 rfl rfl ?_
      refine kb_aload_n X 0 dX6_changes_36 rfl rfl ?_
      refine kb_get (v := .ref (a 5)) (C := RX6) (T := TX6) (N := 25) (ci := 6) X kw_iX6 rfl 0 8 rfl (by decide) kf_X6_22 rfl rfl dX6_changes_37 ?_
      refine kb_iload_n X 1 dX6_changes_40 rfl rfl ?_
      refine kb_bipush (v := (46 : Int32)) X dX6_changes_41 (by decide) ?_
      refine kn_iadd X o 46 dX6_changes_43 ?_
      refine kb_bipush (v := (6 : Int32)) X dX6_changes_44 (by decide) ?_
      refine kb_iload_n X 3 dX6_changes_46 rfl rfl ?_
      refine kn_imul X 6 q dX6_changes_47 ?_
      refine kn_iadd X (o + 46) (6 * q) dX6_changes_48 ?_
      refine kb_iload_n X 2 dX6_changes_49 rfl rfl ?_
      refine kn_iadd X ((o + 46) + (6 * q)) p dX6_changes_50 ?_
      refine kb_iald (i := ((o + 46) + (6 * q)) + p) X 5 rfl (by omega) (by decide) dX6_changes_51 ?_
      refine kw_top (b := .int (vD v (q * 6 + p))) (congrArg Value.int (hE3_.d (p := q) (q := p) (by omega) (by omega) (by omega))) ?_
      refine kb_iconst (v := (2 : Int32)) X dX6_changes_52 (by decide) ?_
      refine kb_idiv X dX6_changes_53 (by decide) ?_
      refine kc_Vi X (As := [.int (nI (o)), .int (nI (q)), .int (nI (p)), .int ((vD v (q * 6 + p)) / (2 : Int32))]) (rest := []) (wr := []) (ct_X6_pays l g a pe so ag fr np ns na nf sl2_ ac ke le tx ap bg wr se wh wo bl ck sw ma ro bs o (wTie v p q (-1 : Int32)) (by omega) hE3_ hK hv q p ((vD v (q * 6 + p)) / (2 : Int32)) (by omega) (by omega)) dX6_changes_54 rfl (kw_pall _) mc_X6_pays kl_X6_171 mi_X6_pays mv_X6_pays kn_X6 0 rfl rfl rfl (na := 4) (by decide +kernel) rfl ⟨Nat.le_of_ble_eq_true rfl, Nat.le_of_ble_eq_true rfl⟩ ⟨rfl, rfl⟩ ⟨Nat.le_of_ble_eq_true rfl, Nat.le_of_ble_eq_true rfl⟩ (Nat.le_of_ble_eq_true rfl) (fun r_ w_ hp_ => ?_)
      obtain ⟨rfl, sl7_, hE8_, hF9_, rfl⟩ := hp_
      have hF10_ : FR sl sl7_ o := FR.tr hF5_ hF9_
      refine kw_ws (List.append_nil _) ?_
      refine kb_pop X dX6_changes_57 rfl ?_
      refine ke_v X Z dX6_changes_58 ?_
      first
      | exact ⟨sl7_, by simpa [wMeet, c1_, c6_] using hE8_, hF10_, rfl⟩
      | (exfalso; simp_all)
  · skip
    refine kb_aload_n X 0 dX6_changes_9 rfl rfl ?_
    refine kb_get (v := .ref (a 1)) (C := RX6) (T := TX6) (N := 25) (ci := 6) X kw_iX6 rfl 0 1 rfl (by decide) kf_X6_7 rfl rfl dX6_changes_10 ?_
    refine kb_iload_n X 3 dX6_changes_13 rfl rfl ?_
    refine kb_iald (i := q) X 1 rfl (by omega) (by decide) dX6_changes_14 ?_
    refine kw_top (b := .int (vK v q)) (congrArg Value.int (hK.2.2 _ (by omega)).1) ?_
    refine kb_iconst (v := (1 : Int32)) X dX6_changes_15 (by decide) ?_
    refine kb_icmp_eq (tgt := 23) X dX6_changes_16 (by decide) (fun c11_ => ?_) (fun c11_ => ?_)
    · skip
      refine kb_iconst (v := (-1 : Int32)) X dX6_changes_23 (by decide) ?_
      refine kc_Vv X (As := [.int (nI (o)), .int (nI (p)), .int (nI (q)), .int (-1)]) (rest := []) (wr := []) (ct_X6_ties l g a pe so ag fr np ns na nf sl ac ke le tx ap bg wr se wh wo bl ck sw ma ro bs o v (by omega) hE hK hv p q (-1 : Int32) (by omega) (by omega)) dX6_changes_24 rfl (kw_pall _) mc_X6_ties kl_X6_168 mi_X6_ties mv_X6_ties kn_X6 0 rfl rfl rfl (na := 4) (by decide +kernel) rfl ⟨Nat.le_of_ble_eq_true rfl, Nat.le_of_ble_eq_true rfl⟩ ⟨rfl, rfl⟩ ⟨Nat.le_of_ble_eq_true rfl, Nat.le_of_ble_eq_true rfl⟩ (Nat.le_of_ble_eq_true rfl) (fun w_ hp_ => ?_)
      obtain ⟨sl12_, hE13_, hF14_, rfl⟩ := hp_
      have hF15_ : FR sl sl12_ o := FR.tr FR.rf hF14_
      refine kw_ws (List.append_nil _) ?_
      refine kb_iload X 4 dX6_changes_27 rfl ?_
      refine kz_if_eq (b := cm) (tgt := 58) X dX6_changes_29 (by decide) (fun c16_ => ?_) (fun c16_ => ?_)
      · skip
        refine ke_v X Z dX6_changes_58 ?_
        first
        | exact ⟨sl12_, by simpa [wMeet, c1_, c11_, c16_] using hE13_, hF15_, rfl⟩
        | (exfalso; simp_all)
      · skip
        refine kb_aload_n X 0 dX6_changes_32 rfl rfl ?_
        refine kb_iload_n X 1 dX6_changes_33 rfl rfl ?_
        refine kb_iload_n X 3 dX6_changes_34 rfl rfl ?_
        refine kb_iload_n X 2 dX6_changes_35 rfl rfl ?_
        refine kb_aload_n X 0 dX6_changes_36 rfl rfl ?_
        refine kb_get (v := .ref (a 5)) (C := RX6) (T := TX6) (N := 25) (ci := 6) X kw_iX6 rfl 0 8 rfl (by decide) kf_X6_22 rfl rfl dX6_changes_37 ?_
        refine kb_iload_n X 1 dX6_changes_40 rfl rfl ?_
        refine kb_bipush (v := (46 : Int32)) X dX6_changes_41 (by decide) ?_
        refine kn_iadd X o 46 dX6_changes_43 ?_
        refine kb_bipush (v := (6 : Int32)) X dX6_changes_44 (by decide) ?_
        refine kb_iload_n X 3 dX6_changes_46 rfl rfl ?_
        refine kn_imul X 6 q dX6_changes_47 ?_
        refine kn_iadd X (o + 46) (6 * q) dX6_changes_48 ?_
        refine kb_iload_n X 2 dX6_changes_49 rfl rfl ?_
        refine kn_iadd X ((o + 46) + (6 * q)) p dX6_changes_50 ?_
        refine kb_iald (i := ((o + 46) + (6 * q)) + p) X 5 rfl (by omega) (by decide) dX6_changes_51 ?_
        refine kw_top (b := .int (vD v (q * 6 + p))) (congrArg Value.int (hE13_.d (p := q) (q := p) (by omega) (by omega) (by omega))) ?_
        refine kb_iconst (v := (2 : Int32)) X dX6_changes_52 (by decide) ?_
        refine kb_idiv X dX6_changes_53 (by decide) ?_
        refine kc_Vi X (As := [.int (nI (o)), .int (nI (q)), .int (nI (p)), .int ((vD v (q * 6 + p)) / (2 : Int32))]) (rest := []) (wr := []) (ct_X6_pays l g a pe so ag fr np ns na nf sl12_ ac ke le tx ap bg wr se wh wo bl ck sw ma ro bs o (wTie v p q (-1 : Int32)) (by omega) hE13_ hK hv q p ((vD v (q * 6 + p)) / (2 : Int32)) (by omega) (by omega)) dX6_changes_54 rfl (kw_pall _) mc_X6_pays kl_X6_171 mi_X6_pays mv_X6_pays kn_X6 0 rfl rfl rfl (na := 4) (by decide +kernel) rfl ⟨Nat.le_of_ble_eq_true rfl, Nat.le_of_ble_eq_true rfl⟩ ⟨rfl, rfl⟩ ⟨Nat.le_of_ble_eq_true rfl, Nat.le_of_ble_eq_true rfl⟩ (Nat.le_of_ble_eq_true rfl) (fun r_ w_ hp_ => ?_)
        obtain ⟨rfl, sl17_, hE18_, hF19_, rfl⟩ := hp_
        have hF20_ : FR sl sl17_ o := FR.tr hF15_ hF19_
        refine kw_ws (List.append_nil _) ?_
        refine kb_pop X dX6_changes_57 rfl ?_
        refine ke_v X Z dX6_changes_58 ?_
        first
        | exact ⟨sl17_, by simpa [wMeet, c1_, c11_, c16_] using hE18_, hF20_, rfl⟩
        | (exfalso; simp_all)
    · skip
      refine kb_iconst (v := (1 : Int32)) X dX6_changes_19 (by decide) ?_
      refine kb_goto (tgt := 24) X dX6_changes_20 (by decide) ?_
      refine kc_Vv X (As := [.int (nI (o)), .int (nI (p)), .int (nI (q)), .int 1]) (rest := []) (wr := []) (ct_X6_ties l g a pe so ag fr np ns na nf sl ac ke le tx ap bg wr se wh wo bl ck sw ma ro bs o v (by omega) hE hK hv p q (1 : Int32) (by omega) (by omega)) dX6_changes_24 rfl (kw_pall _) mc_X6_ties kl_X6_168 mi_X6_ties mv_X6_ties kn_X6 0 rfl rfl rfl (na := 4) (by decide +kernel) rfl ⟨Nat.le_of_ble_eq_true rfl, Nat.le_of_ble_eq_true rfl⟩ ⟨rfl, rfl⟩ ⟨Nat.le_of_ble_eq_true rfl, Nat.le_of_ble_eq_true rfl⟩ (Nat.le_of_ble_eq_true rfl) (fun w_ hp_ => ?_)
      obtain ⟨sl21_, hE22_, hF23_, rfl⟩ := hp_
      have hF24_ : FR sl sl21_ o := FR.tr FR.rf hF23_
      refine kw_ws (List.append_nil _) ?_
      refine kb_iload X 4 dX6_changes_27 rfl ?_
      refine kz_if_eq (b := cm) (tgt := 58) X dX6_changes_29 (by decide) (fun c25_ => ?_) (fun c25_ => ?_)
      · skip
        refine ke_v X Z dX6_changes_58 ?_
        first
        | exact ⟨sl21_, by simpa [wMeet, c1_, c11_, c25_] using hE22_, hF24_, rfl⟩
        | (exfalso; simp_all)
      · skip
        refine kb_aload_n X 0 dX6_changes_32 rfl rfl ?_
        refine kb_iload_n X 1 dX6_changes_33 rfl rfl ?_
        refine kb_iload_n X 3 dX6_changes_34 rfl rfl ?_
        refine kb_iload_n X 2 dX6_changes_35 rfl rfl ?_
        refine kb_aload_n X 0 dX6_changes_36 rfl rfl ?_
        refine kb_get (v := .ref (a 5)) (C := RX6) (T := TX6) (N := 25) (ci := 6) X kw_iX6 rfl 0 8 rfl (by decide) kf_X6_22 rfl rfl dX6_changes_37 ?_
        refine kb_iload_n X 1 dX6_changes_40 rfl rfl ?_
        refine kb_bipush (v := (46 : Int32)) X dX6_changes_41 (by decide) ?_
        refine kn_iadd X o 46 dX6_changes_43 ?_
        refine kb_bipush (v := (6 : Int32)) X dX6_changes_44 (by decide) ?_
        refine kb_iload_n X 3 dX6_changes_46 rfl rfl ?_
        refine kn_imul X 6 q dX6_changes_47 ?_
        refine kn_iadd X (o + 46) (6 * q) dX6_changes_48 ?_
        refine kb_iload_n X 2 dX6_changes_49 rfl rfl ?_
        refine kn_iadd X ((o + 46) + (6 * q)) p dX6_changes_50 ?_
        refine kb_iald (i := ((o + 46) + (6 * q)) + p) X 5 rfl (by omega) (by decide) dX6_changes_51 ?_
        refine kw_top (b := .int (vD v (q * 6 + p))) (congrArg Value.int (hE22_.d (p := q) (q := p) (by omega) (by omega) (by omega))) ?_
        refine kb_iconst (v := (2 : Int32)) X dX6_changes_52 (by decide) ?_
        refine kb_idiv X dX6_changes_53 (by decide) ?_
        refine kc_Vi X (As := [.int (nI (o)), .int (nI (q)), .int (nI (p)), .int ((vD v (q * 6 + p)) / (2 : Int32))]) (rest := []) (wr := []) (ct_X6_pays l g a pe so ag fr np ns na nf sl21_ ac ke le tx ap bg wr se wh wo bl ck sw ma ro bs o (wTie v p q (1 : Int32)) (by omega) hE22_ hK hv q p ((vD v (q * 6 + p)) / (2 : Int32)) (by omega) (by omega)) dX6_changes_54 rfl (kw_pall _) mc_X6_pays kl_X6_171 mi_X6_pays mv_X6_pays kn_X6 0 rfl rfl rfl (na := 4) (by decide +kernel) rfl ⟨Nat.le_of_ble_eq_true rfl, Nat.le_of_ble_eq_true rfl⟩ ⟨rfl, rfl⟩ ⟨Nat.le_of_ble_eq_true rfl, Nat.le_of_ble_eq_true rfl⟩ (Nat.le_of_ble_eq_true rfl) (fun r_ w_ hp_ => ?_)
        obtain ⟨rfl, sl26_, hE27_, hF28_, rfl⟩ := hp_
        have hF29_ : FR sl sl26_ o := FR.tr hF24_ hF28_
        refine kw_ws (List.append_nil _) ?_
        refine kb_pop X dX6_changes_57 rfl ?_
        refine ke_v X Z dX6_changes_58 ?_
        first
        | exact ⟨sl26_, by simpa [wMeet, c1_, c11_, c25_] using hE27_, hF29_, rfl⟩
        | (exfalso; simp_all)

set_option maxHeartbeats 4000000 in
set_option maxRecDepth 100000 in
theorem ct_X6_gives (l : Launch) (g : kw_G) (a : Nat → Nat) (pe : Nat) (so : Nat → Int32) (ag : Nat → Int32) (fr : Int32) (np : Nat) (ns : Nat → Int32) (na : Nat → Int32) (nf : Int32) (sl : Nat → Int32) (ac : Nat) (ke : Nat) (le : Nat) (tx : Nat → Nat) (ap : Nat) (bg : Nat) (wr : Bool) (se : Nat) (wh : Nat → Nat) (wo : Nat → Nat) (bl : Nat → Int32) (ck : Nat → Int32) (sw : Nat → Bool) (ma : Nat) (ro : Nat → Nat) (bs : Nat → Nat) (o : Nat) (v : VS) (ho : o + 82 ≤ 984) (hE : EN sl o v) (hK : KE pe so ag fr v) (hv : VI v) (p q : Nat) (hp : p < 6) (hq : q < 6) : kMv l g yX6_gives cX6_gives 4 (kw_rm 3 0 0) 0 0 [.ref (a 0), .int (nI (o)), .int (nI (p)), .int (nI (q))] (wR g a pe so ag fr np ns na nf sl ac ke le tx ap bg wr se wh wo bl ck sw ma ro bs) (fun w => ∃ sl', EN sl' o (wGive v p q) ∧ FR sl sl' o ∧ w = wR g a pe so ag fr np ns na nf sl' ac ke le tx ap bg wr se wh wo bl ck sw ma ro bs) := by
  refine kMv_of (by decide +kernel) (Nat.le_of_ble_eq_true rfl) (fun x (X : kX l g RX6 cX6_gives 4 (kw_rm 3 0 0) x) (Z : kZv _ 0 0 x) => ?_)
  show kW x 0 0 0 [(0, .ref (a 0)), (1, .int (nI (o))), (2, .int (nI (p))), (3, .int (nI (q)))] [] (wR g a pe so ag fr np ns na nf sl ac ke le tx ap bg wr se wh wo bl ck sw ma ro bs)
  refine kb_aload_n X 0 dX6_gives_0 rfl rfl ?_
  refine kb_get (v := .ref (a 5)) (C := RX6) (T := TX6) (N := 25) (ci := 6) X kw_iX6 rfl 0 8 rfl (by decide) kf_X6_22 rfl rfl dX6_gives_1 ?_
  refine kb_iload_n X 1 dX6_gives_4 rfl rfl ?_
  refine kb_iload_n X 2 dX6_gives_5 rfl rfl ?_
  refine kn_iadd X o p dX6_gives_6 ?_
  refine kb_dup2 X dX6_gives_7 rfl rfl ?_
  refine kb_iald (i := o + p) X 5 rfl (by omega) (by decide) dX6_gives_8 ?_
  refine kw_top (b := .int (vC v p)) (congrArg Value.int (hE.c (p := p) (by omega) (by omega))) ?_
  refine kb_iconst (v := (2 : Int32)) X dX6_gives_9 (by decide) ?_
  refine kb_isub X dX6_gives_10 ?_
  refine kb_iast (i := o + p) X 5 rfl (by omega) (by decide) dX6_gives_11 (ws' := wR g a pe so ag fr np ns na nf (upd sl (o + p) ((vC v p) - (2 : Int32))) ac ke le tx ap bg wr se wh wo bl ck sw ma ro bs) rfl ?_
  generalize hsl1_ : upd sl (o + p) ((vC v p) - (2 : Int32)) = sl1_
  have hE2_ : EN sl1_ o (sC v (upd (vC v) p ((vC v p) - (2 : Int32)))) := by rw [← hsl1_]; exact hE.sc (p := p) (by omega) (by omega)
  have hF3_ : FR sl sl1_ o := by rw [← hsl1_]; exact FR.up FR.rf (by omega) (by omega)
  refine kb_aload_n X 0 dX6_gives_12 rfl rfl ?_
  refine kb_iload_n X 1 dX6_gives_13 rfl rfl ?_
  refine kb_iload_n X 3 dX6_gives_14 rfl rfl ?_
  refine kb_iload_n X 2 dX6_gives_15 rfl rfl ?_
  refine kb_iconst (v := (1 : Int32)) X dX6_gives_16 (by decide) ?_
  refine kc_Vv X (As := [.int (nI (o)), .int (nI (q)), .int (nI (p)), .int 1]) (rest := []) (wr := []) (ct_X6_ties l g a pe so ag fr np ns na nf sl1_ ac ke le tx ap bg wr se wh wo bl ck sw ma ro bs o (sC v (upd (vC v) p ((vC v p) - (2 : Int32)))) (by omega) hE2_ hK hv q p (1 : Int32) (by omega) (by omega)) dX6_gives_17 rfl (kw_pall _) mc_X6_ties kl_X6_168 mi_X6_ties mv_X6_ties kn_X6 0 rfl rfl rfl (na := 4) (by decide +kernel) rfl ⟨Nat.le_of_ble_eq_true rfl, Nat.le_of_ble_eq_true rfl⟩ ⟨rfl, rfl⟩ ⟨Nat.le_of_ble_eq_true rfl, Nat.le_of_ble_eq_true rfl⟩ (Nat.le_of_ble_eq_true rfl) (fun w_ hp_ => ?_)
  obtain ⟨sl4_, hE5_, hF6_, rfl⟩ := hp_
  have hF7_ : FR sl sl4_ o := FR.tr hF3_ hF6_
  refine kw_ws (List.append_nil _) ?_
  refine ke_v X Z dX6_gives_20 ?_
  exact ⟨sl4_, hE5_, hF7_, rfl⟩

