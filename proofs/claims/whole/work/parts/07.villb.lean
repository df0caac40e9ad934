set_option maxHeartbeats 4000000 in
set_option maxRecDepth 100000 in
theorem ct_X4_coinsOfAll (l : Launch) (g : kw_G) (a : Nat → Nat) (v : VS) (hv : VI v) : kMi l g yX4_coinsOfAll cX4_coinsOfAll 3 .int (kw_rm 1 0 0) 0 0 [.ref (a 0)] (wV g a v) (fun r w => r = wSum (vC v) (vN v) ∧ w = wV g a v) := by
  refine kMi_of (by decide +kernel) (Nat.le_of_ble_eq_true rfl) (fun x (X : kX l g RX4 cX4_coinsOfAll 3 (kw_rm 1 0 0) x) (Z : kZi .int _ 0 0 x) => ?_)
  show kW x 0 0 0 [(0, .ref (a 0))] [] (wV g a v)
  have h6 := hv.1
  refine kb_iconst (v := (0 : Int32)) X dX4_coinsOfAll_0 (by decide) ?_
  refine kb_istore_n X [1, 0] dX4_coinsOfAll_1 rfl (by decide) (lv' := [(0, .ref (a 0)), (1, .int 0)]) rfl ?_
  refine kb_iconst (v := (0 : Int32)) X dX4_coinsOfAll_2 (by decide) ?_
  refine kb_istore_n X [1, 2, 0] dX4_coinsOfAll_3 rfl (by decide) (lv' := [(0, .ref (a 0)), (1, .int 0), (2, .int 0)]) rfl ?_
  have L4 : ∀ (K_ i : Nat), i + K_ = vN v → kW x 0 0 4 [(0, .ref (a 0)), (1, .int (wSum (vC v) i)), (2, .int (nI (i)))] [] (wV g a v) := by
    intro K_
    induction K_ with
    | zero =>
      intro i hi
      refine kb_iload_n X 2 dX4_coinsOfAll_4 rfl rfl ?_
      refine kb_aload_n X 0 dX4_coinsOfAll_5 rfl rfl ?_
      refine kb_get (v := .int (nI (vN v))) (C := RX4) (T := TX4) (N := 11) (ci := 4) X kw_iX4 rfl 0 5 rfl (by decide) kf_X4_27 rfl rfl dX4_coinsOfAll_6 ?_
      refine kn_icmp_ge (a := i) (b := vN v) (tgt := 27) X (by omega) (by omega) dX4_coinsOfAll_9 (by decide) (fun c1_ => ?_) (fun c1_ => ?_)
      · skip
        refine kb_iload_n X 1 dX4_coinsOfAll_27 rfl rfl ?_
        refine ke_i X Z dX4_coinsOfAll_28 ?_
        exact ⟨by rw [show i = vN v by omega], rfl⟩
      · skip
        omega
    | succ K_ ih =>
      intro i hi
      refine kb_iload_n X 2 dX4_coinsOfAll_4 rfl rfl ?_
      refine kb_aload_n X 0 dX4_coinsOfAll_5 rfl rfl ?_
      refine kb_get (v := .int (nI (vN v))) (C := RX4) (T := TX4) (N := 11) (ci := 4) X kw_iX4 rfl 0 5 rfl (by decide) kf_X4_27 rfl rfl dX4_coinsOfAll_6 ?_
      refine kn_icmp_ge (a := i) (b := vN v) (tgt := 27) X (by omega) (by omega) dX4_coinsOfAll_9 (by decide) (fun c2_ => ?_) (fun c2_ => ?_)
      · skip
        omega
      · skip
        refine kb_iload_n X 1 dX4_coinsOfAll_12 rfl rfl ?_
        refine kb_aload_n X 0 dX4_coinsOfAll_13 rfl rfl ?_
        refine kb_get (v := .ref (a 3)) (C := RX4) (T := TX4) (N := 11) (ci := 4) X kw_iX4 rfl 0 2 rfl (by decide) kf_X4_18 rfl rfl dX4_coinsOfAll_14 ?_
        refine kb_iload_n X 2 dX4_coinsOfAll_17 rfl rfl ?_
        refine kb_iald (i := i) X 3 rfl (by omega) (by decide) dX4_coinsOfAll_18 ?_
        refine kb_iadd X dX4_coinsOfAll_19 ?_
        refine kb_istore_n X [1, 0, 2] dX4_coinsOfAll_20 rfl (by decide) (lv' := [(0, .ref (a 0)), (1, .int ((wSum (vC v) i) + (vC v i))), (2, .int (nI (i)))]) rfl ?_
        refine kb_iinc X 2 [1, 2, 0] (v' := nI (i + 1)) dX4_coinsOfAll_21 rfl (nI_add _ _) (by decide) (lv' := [(0, .ref (a 0)), (1, .int ((wSum (vC v) i) + (vC v i))), (2, .int (nI (i + 1)))]) rfl ?_
        refine kb_goto (tgt := 4) X dX4_coinsOfAll_24 (by decide) ?_
        exact kw_to (ih (i + 1) (by omega)) rfl rfl rfl
  exact kw_to (L4 (vN v) 0 (by omega)) rfl rfl rfl

set_option maxHeartbeats 4000000 in
set_option maxRecDepth 100000 in
theorem ct_X4_debtsOfAll (l : Launch) (g : kw_G) (a : Nat → Nat) (v : VS) : kMi l g yX4_debtsOfAll cX4_debtsOfAll 3 .int (kw_rm 1 0 0) 0 0 [.ref (a 0)] (wV g a v) (fun r w => r = wSum (vD v) 36 ∧ w = wV g a v) := by
  refine kMi_of (by decide +kernel) (Nat.le_of_ble_eq_true rfl) (fun x (X : kX l g RX4 cX4_debtsOfAll 3 (kw_rm 1 0 0) x) (Z : kZi .int _ 0 0 x) => ?_)
  show kW x 0 0 0 [(0, .ref (a 0))] [] (wV g a v)
  refine kb_iconst (v := (0 : Int32)) X dX4_debtsOfAll_0 (by decide) ?_
  refine kb_istore_n X [1, 0] dX4_debtsOfAll_1 rfl (by decide) (lv' := [(0, .ref (a 0)), (1, .int 0)]) rfl ?_
  refine kb_iconst (v := (0 : Int32)) X dX4_debtsOfAll_2 (by decide) ?_
  refine kb_istore_n X [1, 2, 0] dX4_debtsOfAll_3 rfl (by decide) (lv' := [(0, .ref (a 0)), (1, .int 0), (2, .int 0)]) rfl ?_
  have L4 : ∀ (K_ i : Nat), i + K_ = 36 → kW x 0 0 4 [(0, .ref (a 0)), (1, .int (wSum (vD v) i)), (2, .int (nI (i)))] [] (wV g a v) := by
    intro K_
    induction K_ with
    | zero =>
      intro i hi
      refine kb_iload_n X 2 dX4_debtsOfAll_4 rfl rfl ?_
      refine kb_bipush (v := (36 : Int32)) X dX4_debtsOfAll_5 (by decide) ?_
      refine kn_icmp_ge (a := i) (b := 36) (tgt := 25) X (by omega) (by omega) dX4_debtsOfAll_7 (by decide) (fun c1_ => ?_) (fun c1_ => ?_)
      · skip
        refine kb_iload_n X 1 dX4_debtsOfAll_25 rfl rfl ?_
        refine ke_i X Z dX4_debtsOfAll_26 ?_
        exact ⟨by rw [show i = 36 by omega], rfl⟩
      · skip
        omega
    | succ K_ ih =>
      intro i hi
      refine kb_iload_n X 2 dX4_debtsOfAll_4 rfl rfl ?_
      refine kb_bipush (v := (36 : Int32)) X dX4_debtsOfAll_5 (by decide) ?_
      refine kn_icmp_ge (a := i) (b := 36) (tgt := 25) X (by omega) (by omega) dX4_debtsOfAll_7 (by decide) (fun c2_ => ?_) (fun c2_ => ?_)
      · skip
        omega
      · skip
        refine kb_iload_n X 1 dX4_debtsOfAll_10 rfl rfl ?_
        refine kb_aload_n X 0 dX4_debtsOfAll_11 rfl rfl ?_
        refine kb_get (v := .ref (a 5)) (C := RX4) (T := TX4) (N := 11) (ci := 4) X kw_iX4 rfl 0 4 rfl (by decide) kf_X4_24 rfl rfl dX4_debtsOfAll_12 ?_
        refine kb_iload_n X 2 dX4_debtsOfAll_15 rfl rfl ?_
        refine kb_iald (i := i) X 5 rfl (by omega) (by decide) dX4_debtsOfAll_16 ?_
        refine kb_iadd X dX4_debtsOfAll_17 ?_
        refine kb_istore_n X [1, 0, 2] dX4_debtsOfAll_18 rfl (by decide) (lv' := [(0, .ref (a 0)), (1, .int ((wSum (vD v) i) + (vD v i))), (2, .int (nI (i)))]) rfl ?_
        refine kb_iinc X 2 [1, 2, 0] (v' := nI (i + 1)) dX4_debtsOfAll_19 rfl (nI_add _ _) (by decide) (lv' := [(0, .ref (a 0)), (1, .int ((wSum (vD v) i) + (vD v i))), (2, .int (nI (i + 1)))]) rfl ?_
        refine kb_goto (tgt := 4) X dX4_debtsOfAll_22 (by decide) ?_
        exact kw_to (ih (i + 1) (by omega)) rfl rfl rfl
  exact kw_to (L4 (36) 0 (by omega)) rfl rfl rfl

set_option maxHeartbeats 4000000 in
set_option maxRecDepth 100000 in
theorem ct_X4_wouldCome (l : Launch) (g : kw_G) (a : Nat → Nat) (v : VS) (hv : VI v) (p : Nat) (kd tie : Int32) (q : Nat) (b c : Int32) (hp : p < 6) (hq : q < 6) : kMi l g yX4_wouldCome cX4_wouldCome 8 .boolean (kw_rm 3 0 0) 0 0 [.ref (a 0), .int (nI (p)), .int (kd), .int (tie), .int (nI (q)), .int (b), .int (c)] (wV g a v) (fun r w => r = zI (wCome v p kd tie q b c) ∧ w = wV g a v) := by
  refine kMi_of (by decide +kernel) (Nat.le_of_ble_eq_true rfl) (fun x (X : kX l g RX4 cX4_wouldCome 8 (kw_rm 3 0 0) x) (Z : kZi .boolean _ 0 0 x) => ?_)
  show kW x 0 0 0 [(0, .ref (a 0)), (1, .int (nI (p))), (2, .int (kd)), (3, .int (tie)), (4, .int (nI (q))), (5, .int (b)), (6, .int (c))] [] (wV g a v)
  refine kb_aload_n X 0 dX4_wouldCome_0 rfl rfl ?_
  refine kb_iload_n X 1 dX4_wouldCome_1 rfl rfl ?_
  refine kc_Vi X (As := [.int (nI (p))]) (rest := []) (wr := []) (ct_X4_lives l g a v hv p (by omega)) dX4_wouldCome_2 rfl (kw_pall _) mc_X4_lives kl_X4_71 mi_X4_lives mv_X4_lives kn_X4 0 rfl rfl rfl (na := 1) (by decide +kernel) rfl ⟨Nat.le_of_ble_eq_true rfl, Nat.le_of_ble_eq_true rfl⟩ ⟨rfl, rfl⟩ ⟨Nat.le_of_ble_eq_true rfl, Nat.le_of_ble_eq_true rfl⟩ (Nat.le_of_ble_eq_true rfl) (fun r_ w_ hp_ => ?_)
  obtain ⟨rfl, rfl⟩ := hp_
  refine kw_ws (List.append_nil _) ?_
  refine kz_if_ne (b := wLives v p) (tgt := 10) X dX4_wouldCome_5 (by decide) (fun c1_ => ?_) (fun c1_ => ?_)
  · skip
    refine kb_iload_n X 3 dX4_wouldCome_10 rfl rfl ?_
    refine kb_iload X 5 dX4_wouldCome_11 rfl ?_
    refine kb_iadd X dX4_wouldCome_13 ?_
    refine kb_istore X [1, 2, 3, 4, 5, 6, 7, 0] dX4_wouldCome_14 (by decide) (lv' := [(0, .ref (a 0)), (1, .int (nI (p))), (2, .int (kd)), (3, .int (tie)), (4, .int (nI (q))), (5, .int (b)), (6, .int (c)), (7, .int (tie + b))]) rfl ?_
    refine kb_iload_n X 2 dX4_wouldCome_16 rfl rfl ?_
    by_cases c2_ : kd = (1 : Int32)
    · refine kb_tabIn (tgt := 48) X 0 dX4_wouldCome_17 (by rw [c2_]; rfl) (by decide) rfl (by decide) ?_
      refine kb_iload_n X 3 dX4_wouldCome_48 rfl rfl ?_
      refine kb_if_lt (tgt := 58) X dX4_wouldCome_49 (by decide) (fun c3_ => ?_) (fun c3_ => ?_)
      · skip
        refine kb_iconst (v := (1 : Int32)) X dX4_wouldCome_58 (by decide) ?_
        refine kb_goto (tgt := 63) X dX4_wouldCome_59 (by decide) ?_
        refine ke_z X Z rfl dX4_wouldCome_63 ?_
        exact ⟨(by first | rfl | (simp [zI, wCome, c1_, c2_, c3_]; done) | (simp [zI, wCome, c1_, c2_, c3_] <;> omega) | (simp_all [zI, wCome, c1_, c2_, c3_]; done)), (by first | rfl | (simp [zI, wCome, c1_, c2_, c3_]; done) | (simp [zI, wCome, c1_, c2_, c3_] <;> omega) | (simp_all [zI, wCome, c1_, c2_, c3_]; done))⟩
      · skip
        refine kb_iload X 7 dX4_wouldCome_52 rfl ?_
        refine kb_iconst (v := (4 : Int32)) X dX4_wouldCome_54 (by decide) ?_
        refine kb_icmp_lt (tgt := 62) X dX4_wouldCome_55 (by decide) (fun c4_ => ?_) (fun c4_ => ?_)
        · skip
          refine kb_iconst (v := (0 : Int32)) X dX4_wouldCome_62 (by decide) ?_
          refine ke_z X Z rfl dX4_wouldCome_63 ?_
          exact ⟨(by first | rfl | (simp [zI, wCome, c1_, c2_, c3_, c4_]; done) | (simp [zI, wCome, c1_, c2_, c3_, c4_] <;> omega) | (simp_all [zI, wCome, c1_, c2_, c3_, c4_]; done)), (by first | rfl | (simp [zI, wCome, c1_, c2_, c3_, c4_]; done) | (simp [zI, wCome, c1_, c2_, c3_, c4_] <;> omega) | (simp_all [zI, wCome, c1_, c2_, c3_, c4_]; done))⟩
        · skip
          refine kb_iconst (v := (1 : Int32)) X dX4_wouldCome_58 (by decide) ?_
          refine kb_goto (tgt := 63) X dX4_wouldCome_59 (by decide) ?_
          refine ke_z X Z rfl dX4_wouldCome_63 ?_
          exact ⟨(by first | rfl | (simp [zI, wCome, c1_, c2_, c3_, c4_]; done) | (simp [zI, wCome, c1_, c2_, c3_, c4_] <;> omega) | (simp_all [zI, wCome, c1_, c2_, c3_, c4_]; done)), (by first | rfl | (simp [zI, wCome, c1_, c2_, c3_, c4_]; done) | (simp [zI, wCome, c1_, c2_, c3_, c4_] <;> omega) | (simp_all [zI, wCome, c1_, c2_, c3_, c4_]; done))⟩
    · skip
      by_cases c5_ : kd = (2 : Int32)
      · refine kb_tabIn (tgt := 64) X 1 dX4_wouldCome_17 (by rw [c5_]; rfl) (by decide) rfl (by decide) ?_
        refine kb_iload X 6 dX4_wouldCome_64 rfl ?_
        refine kb_if_gt (tgt := 75) X dX4_wouldCome_66 (by decide) (fun c6_ => ?_) (fun c6_ => ?_)
        · skip
          refine kb_iconst (v := (1 : Int32)) X dX4_wouldCome_75 (by decide) ?_
          refine kb_goto (tgt := 80) X dX4_wouldCome_76 (by decide) ?_
          refine ke_z X Z rfl dX4_wouldCome_80 ?_
          exact ⟨(by first | rfl | (simp [zI, wCome, c1_, c2_, c5_, c6_]; done) | (simp [zI, wCome, c1_, c2_, c5_, c6_] <;> omega) | (simp_all [zI, wCome, c1_, c2_, c5_, c6_]; done)), (by first | rfl | (simp [zI, wCome, c1_, c2_, c5_, c6_]; done) | (simp [zI, wCome, c1_, c2_, c5_, c6_] <;> omega) | (simp_all [zI, wCome, c1_, c2_, c5_, c6_]; done))⟩
        · skip
          refine kb_iload X 7 dX4_wouldCome_69 rfl ?_
          refine kb_iconst (v := (2 : Int32)) X dX4_wouldCome_71 (by decide) ?_
          refine kb_icmp_lt (tgt := 79) X dX4_wouldCome_72 (by decide) (fun c7_ => ?_) (fun c7_ => ?_)
          · skip
            refine kb_iconst (v := (0 : Int32)) X dX4_wouldCome_79 (by decide) ?_
            refine ke_z X Z rfl dX4_wouldCome_80 ?_
            exact ⟨(by first | rfl | (simp [zI, wCome, c1_, c2_, c5_, c6_, c7_]; done) | (simp [zI, wCome, c1_, c2_, c5_, c6_, c7_] <;> omega) | (simp_all [zI, wCome, c1_, c2_, c5_, c6_, c7_]; done)), (by first | rfl | (simp [zI, wCome, c1_, c2_, c5_, c6_, c7_]; done) | (simp [zI, wCome, c1_, c2_, c5_, c6_, c7_] <;> omega) | (simp_all [zI, wCome, c1_, c2_, c5_, c6_, c7_]; done))⟩
          · skip
            refine kb_iconst (v := (1 : Int32)) X dX4_wouldCome_75 (by decide) ?_
            refine kb_goto (tgt := 80) X dX4_wouldCome_76 (by decide) ?_
            refine ke_z X Z rfl dX4_wouldCome_80 ?_
            exact ⟨(by first | rfl | (simp [zI, wCome, c1_, c2_, c5_, c6_, c7_]; done) | (simp [zI, wCome, c1_, c2_, c5_, c6_, c7_] <;> omega) | (simp_all [zI, wCome, c1_, c2_, c5_, c6_, c7_]; done)), (by first | rfl | (simp [zI, wCome, c1_, c2_, c5_, c6_, c7_]; done) | (simp [zI, wCome, c1_, c2_, c5_, c6_, c7_] <;> omega) | (simp_all [zI, wCome, c1_, c2_, c5_, c6_, c7_]; done))⟩
      · skip
        by_cases c8_ : kd = (3 : Int32)
        · refine kb_tabIn (tgt := 81) X 2 dX4_wouldCome_17 (by rw [c8_]; rfl) (by decide) rfl (by decide) ?_
          refine kb_aload_n X 0 dX4_wouldCome_81 rfl rfl ?_
          refine kb_get (v := .int (vZ v)) (C := RX4) (T := TX4) (N := 11) (ci := 4) X kw_iX4 rfl 0 10 rfl (by decide) kf_X4_43 rfl rfl dX4_wouldCome_82 ?_
          refine kb_if_ne (tgt := 98) X dX4_wouldCome_85 (by decide) (fun c9_ => ?_) (fun c9_ => ?_)
          · skip
            refine kb_iconst (v := (0 : Int32)) X dX4_wouldCome_98 (by decide) ?_
            refine ke_z X Z rfl dX4_wouldCome_99 ?_
            exact ⟨(by first | rfl | (simp [zI, wCome, c1_, c2_, c5_, c8_, c9_]; done) | (simp [zI, wCome, c1_, c2_, c5_, c8_, c9_] <;> omega) | (simp_all [zI, wCome, c1_, c2_, c5_, c8_, c9_]; done)), (by first | rfl | (simp [zI, wCome, c1_, c2_, c5_, c8_, c9_]; done) | (simp [zI, wCome, c1_, c2_, c5_, c8_, c9_] <;> omega) | (simp_all [zI, wCome, c1_, c2_, c5_, c8_, c9_]; done))⟩
          · skip
            refine kb_iload X 7 dX4_wouldCome_88 rfl ?_
            refine kb_iconst (v := (2 : Int32)) X dX4_wouldCome_90 (by decide) ?_
            refine kb_icmp_lt (tgt := 98) X dX4_wouldCome_91 (by decide) (fun c10_ => ?_) (fun c10_ => ?_)
            · skip
              refine kb_iconst (v := (0 : Int32)) X dX4_wouldCome_98 (by decide) ?_
              refine ke_z X Z rfl dX4_wouldCome_99 ?_
              exact ⟨(by first | rfl | (simp [zI, wCome, c1_, c2_, c5_, c8_, c9_, c10_]; done) | (simp [zI, wCome, c1_, c2_, c5_, c8_, c9_, c10_] <;> omega) | (simp_all [zI, wCome, c1_, c2_, c5_, c8_, c9_, c10_]; done)), (by first | rfl | (simp [zI, wCome, c1_, c2_, c5_, c8_, c9_, c10_]; done) | (simp [zI, wCome, c1_, c2_, c5_, c8_, c9_, c10_] <;> omega) | (simp_all [zI, wCome, c1_, c2_, c5_, c8_, c9_, c10_]; done))⟩
            · skip
              refine kb_iconst (v := (1 : Int32)) X dX4_wouldCome_94 (by decide) ?_
              refine kb_goto (tgt := 99) X dX4_wouldCome_95 (by decide) ?_
              refine ke_z X Z rfl dX4_wouldCome_99 ?_
              exact ⟨(by first | rfl | (simp [zI, wCome, c1_, c2_, c5_, c8_, c9_, c10_]; done) | (simp [zI, wCome, c1_, c2_, c5_, c8_, c9_, c10_] <;> omega) | (simp_all [zI, wCome, c1_, c2_, c5_, c8_, c9_, c10_]; done)), (by first | rfl | (simp [zI, wCome, c1_, c2_, c5_, c8_, c9_, c10_]; done) | (simp [zI, wCome, c1_, c2_, c5_, c8_, c9_, c10_] <;> omega) | (simp_all [zI, wCome, c1_, c2_, c5_, c8_, c9_, c10_]; done))⟩
        · skip
          by_cases c11_ : kd = (4 : Int32)
          · refine kb_tabIn (tgt := 100) X 3 dX4_wouldCome_17 (by rw [c11_]; rfl) (by decide) rfl (by decide) ?_
            refine kb_aload_n X 0 dX4_wouldCome_100 rfl rfl ?_
            refine kb_iload_n X 1 dX4_wouldCome_101 rfl rfl ?_
            refine kb_iload X 4 dX4_wouldCome_102 rfl ?_
            refine kc_Vi X (As := [.int (nI (p)), .int (nI (q))]) (rest := []) (wr := []) (ct_X4_debtOf l g a v p q (by omega) (by omega)) dX4_wouldCome_104 rfl (kw_pall _) mc_X4_debtOf kl_X4_74 mi_X4_debtOf mv_X4_debtOf kn_X4 0 rfl rfl rfl (na := 2) (by decide +kernel) rfl ⟨Nat.le_of_ble_eq_true rfl, Nat.le_of_ble_eq_true rfl⟩ ⟨rfl, rfl⟩ ⟨Nat.le_of_ble_eq_true rfl, Nat.le_of_ble_eq_true rfl⟩ (Nat.le_of_ble_eq_true rfl) (fun r_ w_ hp_ => ?_)
            obtain ⟨rfl, rfl⟩ := hp_
            refine kw_ws (List.append_nil _) ?_
            refine kb_if_ne (tgt := 120) X dX4_wouldCome_107 (by decide) (fun c12_ => ?_) (fun c12_ => ?_)
            · skip
              refine kb_iconst (v := (0 : Int32)) X dX4_wouldCome_120 (by decide) ?_
              refine ke_z X Z rfl dX4_wouldCome_121 ?_
              exact ⟨(by first | rfl | (simp [zI, wCome, c1_, c2_, c5_, c8_, c11_, c12_]; done) | (simp [zI, wCome, c1_, c2_, c5_, c8_, c11_, c12_] <;> omega) | (simp_all [zI, wCome, c1_, c2_, c5_, c8_, c11_, c12_]; done)), (by first | rfl | (simp [zI, wCome, c1_, c2_, c5_, c8_, c11_, c12_]; done) | (simp [zI, wCome, c1_, c2_, c5_, c8_, c11_, c12_] <;> omega) | (simp_all [zI, wCome, c1_, c2_, c5_, c8_, c11_, c12_]; done))⟩
            · skip
              refine kb_iload X 7 dX4_wouldCome_110 rfl ?_
              refine kb_iconst (v := (1 : Int32)) X dX4_wouldCome_112 (by decide) ?_
              refine kb_icmp_lt (tgt := 120) X dX4_wouldCome_113 (by decide) (fun c13_ => ?_) (fun c13_ => ?_)
              · skip
                refine kb_iconst (v := (0 : Int32)) X dX4_wouldCome_120 (by decide) ?_
                refine ke_z X Z rfl dX4_wouldCome_121 ?_
                exact ⟨(by first | rfl | (simp [zI, wCome, c1_, c2_, c5_, c8_, c11_, c12_, c13_]; done) | (simp [zI, wCome, c1_, c2_, c5_, c8_, c11_, c12_, c13_] <;> omega) | (simp_all [zI, wCome, c1_, c2_, c5_, c8_, c11_, c12_, c13_]; done)), (by first | rfl | (simp [zI, wCome, c1_, c2_, c5_, c8_, c11_, c12_, c13_]; done) | (simp [zI, wCome, c1_, c2_, c5_, c8_, c11_, c12_, c13_] <;> omega) | (simp_all [zI, wCome, c1_, c2_, c5_, c8_, c11_, c12_, c13_]; done))⟩
              · skip
                refine kb_iconst (v := (1 : Int32)) X dX4_wouldCome_116 (by decide) ?_
                refine kb_goto (tgt := 121) X dX4_wouldCome_117 (by decide) ?_
                refine ke_z X Z rfl dX4_wouldCome_121 ?_
                exact ⟨(by first | rfl | (simp [zI, wCome, c1_, c2_, c5_, c8_, c11_, c12_, c13_]; done) | (simp [zI, wCome, c1_, c2_, c5_, c8_, c11_, c12_, c13_] <;> omega) | (simp_all [zI, wCome, c1_, c2_, c5_, c8_, c11_, c12_, c13_]; done)), (by first | rfl | (simp [zI, wCome, c1_, c2_, c5_, c8_, c11_, c12_, c13_]; done) | (simp [zI, wCome, c1_, c2_, c5_, c8_, c11_, c12_, c13_] <;> omega) | (simp_all [zI, wCome, c1_, c2_, c5_, c8_, c11_, c12_, c13_]; done))⟩
          · skip
            have tc2_ := lv_neT (a := 1) c2_ rfl
            have tc5_ := lv_neT (a := 2) c5_ rfl
            have tc8_ := lv_neT (a := 3) c8_ rfl
            have tc11_ := lv_neT (a := 4) c11_ rfl
            refine kb_tabOut (tgt := 122) X dX4_wouldCome_17 (by omega) (by decide) ?_
            refine kb_iload X 7 dX4_wouldCome_122 rfl ?_
            refine kb_iconst (v := (2 : Int32)) X dX4_wouldCome_124 (by decide) ?_
            refine kb_icmp_lt (tgt := 132) X dX4_wouldCome_125 (by decide) (fun c14_ => ?_) (fun c14_ => ?_)
            · skip
              refine kb_iconst (v := (0 : Int32)) X dX4_wouldCome_132 (by decide) ?_
              refine ke_z X Z rfl dX4_wouldCome_133 ?_
              exact ⟨(by first | rfl | (simp [zI, wCome, c1_, c2_, c5_, c8_, c11_, c14_]; done) | (simp [zI, wCome, c1_, c2_, c5_, c8_, c11_, c14_] <;> omega) | (simp_all [zI, wCome, c1_, c2_, c5_, c8_, c11_, c14_]; done)), (by first | rfl | (simp [zI, wCome, c1_, c2_, c5_, c8_, c11_, c14_]; done) | (simp [zI, wCome, c1_, c2_, c5_, c8_, c11_, c14_] <;> omega) | (simp_all [zI, wCome, c1_, c2_, c5_, c8_, c11_, c14_]; done))⟩
            · skip
              refine kb_iconst (v := (1 : Int32)) X dX4_wouldCome_128 (by decide) ?_
              refine kb_goto (tgt := 133) X dX4_wouldCome_129 (by decide) ?_
              refine ke_z X Z rfl dX4_wouldCome_133 ?_
              exact ⟨(by first | rfl | (simp [zI, wCome, c1_, c2_, c5_, c8_, c11_, c14_]; done) | (simp [zI, wCome, c1_, c2_, c5_, c8_, c11_, c14_] <;> omega) | (simp_all [zI, wCome, c1_, c2_, c5_, c8_, c11_, c14_]; done)), (by first | rfl | (simp [zI, wCome, c1_, c2_, c5_, c8_, c11_, c14_]; done) | (simp [zI, wCome, c1_, c2_, c5_, c8_, c11_, c14_] <;> omega) | (simp_all [zI, wCome, c1_, c2_, c5_, c8_, c11_, c14_]; done))⟩
  · skip
    refine kb_iconst (v := (0 : Int32)) X dX4_wouldCome_8 (by decide) ?_
    refine ke_z X Z rfl dX4_wouldCome_9 ?_
    exact ⟨(by first | rfl | (simp [zI, wCome, c1_]; done) | (simp [zI, wCome, c1_] <;> omega) | (simp_all [zI, wCome, c1_]; done)), (by first | rfl | (simp [zI, wCome, c1_]; done) | (simp [zI, wCome, c1_] <;> omega) | (simp_all [zI, wCome, c1_]; done))⟩

set_option maxHeartbeats 4000000 in
set_option maxRecDepth 100000 in
theorem ct_X4_guestsOf (l : Launch) (g : kw_G) (a : Nat → Nat) (v : VS) (hv : VI v) (p : Nat) (b c : Int32) (hp : p < 6) : kMi l g yX4_guestsOf cX4_guestsOf 6 .int (kw_rm 4 0 0) 0 0 [.ref (a 0), .int (nI (p)), .int (b), .int (c)] (wV g a v) (fun r w => r = nI (wGuests v p b c) ∧ w = wV g a v) := by
  refine kMi_of (by decide +kernel) (Nat.le_of_ble_eq_true rfl) (fun x (X : kX l g RX4 cX4_guestsOf 6 (kw_rm 4 0 0) x) (Z : kZi .int _ 0 0 x) => ?_)
  show kW x 0 0 0 [(0, .ref (a 0)), (1, .int (nI (p))), (2, .int (b)), (3, .int (c))] [] (wV g a v)
  have h6 := hv.1
  refine kb_iconst (v := (0 : Int32)) X dX4_guestsOf_0 (by decide) ?_
  refine kb_istore X [1, 2, 3, 4, 0] dX4_guestsOf_1 (by decide) (lv' := [(0, .ref (a 0)), (1, .int (nI (p))), (2, .int (b)), (3, .int (c)), (4, .int 0)]) rfl ?_
  refine kb_iconst (v := (0 : Int32)) X dX4_guestsOf_3 (by decide) ?_
  refine kb_istore X [1, 2, 3, 4, 5, 0] dX4_guestsOf_4 (by decide) (lv' := [(0, .ref (a 0)), (1, .int (nI (p))), (2, .int (b)), (3, .int (c)), (4, .int 0), (5, .int 0)]) rfl ?_
  have L6 : ∀ (K_ i : Nat), i + K_ = vN v → kW x 0 0 6 [(0, .ref (a 0)), (1, .int (nI (p))), (2, .int (b)), (3, .int (c)), (4, .int (nI (wGs v p b c i))), (5, .int (nI (i)))] [] (wV g a v) := by
    intro K_
    induction K_ with
    | zero =>
      intro i hi
      refine kb_iload X 5 dX4_guestsOf_6 rfl ?_
      refine kb_aload_n X 0 dX4_guestsOf_8 rfl rfl ?_
      refine kb_get (v := .int (nI (vN v))) (C := RX4) (T := TX4) (N := 11) (ci := 4) X kw_iX4 rfl 0 5 rfl (by decide) kf_X4_27 rfl rfl dX4_guestsOf_9 ?_
      refine kn_icmp_ge (a := i) (b := vN v) (tgt := 62) X (by omega) (by omega) dX4_guestsOf_12 (by decide) (fun c1_ => ?_) (fun c1_ => ?_)
      · skip
        refine kb_iload X 4 dX4_guestsOf_62 rfl ?_
        refine ke_i X Z dX4_guestsOf_64 ?_
        exact ⟨by rw [wGuests, show i = vN v by omega], rfl⟩
      · skip
        omega
    | succ K_ ih =>
      intro i hi
      refine kb_iload X 5 dX4_guestsOf_6 rfl ?_
      refine kb_aload_n X 0 dX4_guestsOf_8 rfl rfl ?_
      refine kb_get (v := .int (nI (vN v))) (C := RX4) (T := TX4) (N := 11) (ci := 4) X kw_iX4 rfl 0 5 rfl (by decide) kf_X4_27 rfl rfl dX4_guestsOf_9 ?_
      refine kn_icmp_ge (a := i) (b := vN v) (tgt := 62) X (by omega) (by omega) dX4_guestsOf_12 (by decide) (fun c2_ => ?_) (fun c2_ => ?_)
      · skip
        omega
      · skip
        refine kb_iload X 5 dX4_guestsOf_15 rfl ?_
        refine kb_iload_n X 1 dX4_guestsOf_17 rfl rfl ?_
        refine kn_icmp_eq (a := i) (b := p) (tgt := 56) X (by omega) (by omega) dX4_guestsOf_18 (by decide) (fun c3_ => ?_) (fun c3_ => ?_)
        · skip
          refine kb_iinc X 5 [1, 2, 3, 4, 5, 0] (v' := nI (i + 1)) dX4_guestsOf_56 rfl (nI_add _ _) (by decide) (lv' := [(0, .ref (a 0)), (1, .int (nI (p))), (2, .int (b)), (3, .int (c)), (4, .int (nI (wGs v p b c i))), (5, .int (nI (i + 1)))]) rfl ?_
          refine kb_goto (tgt := 6) X dX4_guestsOf_59 (by decide) ?_
          exact kw_to (ih (i + 1) (by omega)) (by simp [wGs, wCm, c2_, c3_]) rfl rfl
        · skip
          refine kb_aload_n X 0 dX4_guestsOf_21 rfl rfl ?_
          refine kb_iload X 5 dX4_guestsOf_22 rfl ?_
          refine kb_aload_n X 0 dX4_guestsOf_24 rfl rfl ?_
          refine kb_get (v := .ref (a 1)) (C := RX4) (T := TX4) (N := 11) (ci := 4) X kw_iX4 rfl 0 0 rfl (by decide) kf_X4_9 rfl rfl dX4_guestsOf_25 ?_
          refine kb_iload X 5 dX4_guestsOf_28 rfl ?_
          refine kb_iald (i := i) X 1 rfl (by omega) (by decide) dX4_guestsOf_30 ?_
          refine kb_aload_n X 0 dX4_guestsOf_31 rfl rfl ?_
          refine kb_iload X 5 dX4_guestsOf_32 rfl ?_
          refine kb_iload_n X 1 dX4_guestsOf_34 rfl rfl ?_
          refine kc_Vi X (As := [.int (nI (i)), .int (nI (p))]) (rest := [.int (vK v i), .int (nI (i)), .ref (a 0)]) (wr := []) (ct_X4_tieOf l g a v i p (by omega) (by omega)) dX4_guestsOf_35 rfl (kw_pall _) mc_X4_tieOf kl_X4_77 mi_X4_tieOf mv_X4_tieOf kn_X4 0 rfl rfl rfl (na := 2) (by decide +kernel) rfl ⟨Nat.le_of_ble_eq_true rfl, Nat.le_of_ble_eq_true rfl⟩ ⟨rfl, rfl⟩ ⟨Nat.le_of_ble_eq_true rfl, Nat.le_of_ble_eq_true rfl⟩ (Nat.le_of_ble_eq_true rfl) (fun r_ w_ hp_ => ?_)
          obtain ⟨rfl, rfl⟩ := hp_
          refine kw_ws (List.append_nil _) ?_
          refine kb_iload_n X 1 dX4_guestsOf_38 rfl rfl ?_
          refine kb_iload_n X 2 dX4_guestsOf_39 rfl rfl ?_
          refine kb_iload_n X 3 dX4_guestsOf_40 rfl rfl ?_
          refine kc_Vi X (As := [.int (nI (i)), .int (vK v i), .int (vT v (i * 6 + p)), .int (nI (p)), .int (b), .int (c)]) (rest := []) (wr := []) (ct_X4_wouldCome l g a v hv i (vK v i) (vT v (i * 6 + p)) p b c (by omega) (by omega)) dX4_guestsOf_41 rfl (kw_pall _) mc_X4_wouldCome kl_X4_80 mi_X4_wouldCome mv_X4_wouldCome kn_X4 0 rfl rfl rfl (na := 6) (by decide +kernel) rfl ⟨Nat.le_of_ble_eq_true rfl, Nat.le_of_ble_eq_true rfl⟩ ⟨rfl, rfl⟩ ⟨Nat.le_of_ble_eq_true rfl, Nat.le_of_ble_eq_true rfl⟩ (Nat.le_of_ble_eq_true rfl) (fun r_ w_ hp_ => ?_)
          obtain ⟨rfl, rfl⟩ := hp_
          refine kw_ws (List.append_nil _) ?_
          refine kz_if_eq (b := wCome v i (vK v i) (vT v (i * 6 + p)) p b c) (tgt := 56) X dX4_guestsOf_44 (by decide) (fun c4_ => ?_) (fun c4_ => ?_)
          · skip
            refine kb_iinc X 5 [1, 2, 3, 4, 5, 0] (v' := nI (i + 1)) dX4_guestsOf_56 rfl (nI_add _ _) (by decide) (lv' := [(0, .ref (a 0)), (1, .int (nI (p))), (2, .int (b)), (3, .int (c)), (4, .int (nI (wGs v p b c i))), (5, .int (nI (i + 1)))]) rfl ?_
            refine kb_goto (tgt := 6) X dX4_guestsOf_59 (by decide) ?_
            exact kw_to (ih (i + 1) (by omega)) (by simp [wGs, wCm, c2_, c3_, c4_]) rfl rfl
          · skip
            refine kb_iload X 4 dX4_guestsOf_47 rfl ?_
            refine kb_iconst (v := (1 : Int32)) X dX4_guestsOf_49 (by decide) ?_
            refine kb_iload X 5 dX4_guestsOf_50 rfl ?_
            refine kb_ishl X dX4_guestsOf_52 ?_
            refine kb_ior X dX4_guestsOf_53 ?_
            refine kw_top (b := .int (nI (wGs v p b c i + 2 ^ i))) (by rw [gs_or (wGs_lt v p b c i) (by omega)]) ?_
            refine kb_istore X [1, 2, 3, 4, 0, 5] dX4_guestsOf_54 (by decide) (lv' := [(0, .ref (a 0)), (1, .int (nI (p))), (2, .int (b)), (3, .int (c)), (4, .int (nI (wGs v p b c i + 2 ^ i))), (5, .int (nI (i)))]) rfl ?_
            refine kb_iinc X 5 [1, 2, 3, 4, 5, 0] (v' := nI (i + 1)) dX4_guestsOf_56 rfl (nI_add _ _) (by decide) (lv' := [(0, .ref (a 0)), (1, .int (nI (p))), (2, .int (b)), (3, .int (c)), (4, .int (nI (wGs v p b c i + 2 ^ i))), (5, .int (nI (i + 1)))]) rfl ?_
            refine kb_goto (tgt := 6) X dX4_guestsOf_59 (by decide) ?_
            exact kw_to (ih (i + 1) (by omega)) (by simp [wGs, wCm, c2_, c3_, c4_]) rfl rfl
  exact kw_to (L6 (vN v) 0 (by omega)) rfl rfl rfl

set_option maxHeartbeats 4000000 in
set_option maxRecDepth 100000 in
theorem ct_X4_giftsUntilComing (l : Launch) (g : kw_G) (a : Nat → Nat) (v : VS) (hv : VI v) (p q : Nat) (b c : Int32) (hp : p < 6) (hq : q < 6) (t : Nat) (ht : t ≤ 9) (e : vT v (p * 6 + q) = nI t - 4) : kMi l g yX4_giftsUntilComing cX4_giftsUntilComing 7 .int (kw_rm 4 0 0) 0 0 [.ref (a 0), .int (nI (p)), .int (nI (q)), .int (b), .int (c)] (wV g a v) (fun r w => r = wGf v p q b c t (10 - t) 0 ∧ w = wV g a v) := by
  refine kMi_of (by decide +kernel) (Nat.le_of_ble_eq_true rfl) (fun x (X : kX l g RX4 cX4_giftsUntilComing 7 (kw_rm 4 0 0) x) (Z : kZi .int _ 0 0 x) => ?_)
  show kW x 0 0 0 [(0, .ref (a 0)), (1, .int (nI (p))), (2, .int (nI (q))), (3, .int (b)), (4, .int (c))] [] (wV g a v)
  refine kb_aload_n X 0 dX4_giftsUntilComing_0 rfl rfl ?_
  refine kb_iload_n X 1 dX4_giftsUntilComing_1 rfl rfl ?_
  refine kb_iload_n X 2 dX4_giftsUntilComing_2 rfl rfl ?_
  refine kc_Vi X (As := [.int (nI (p)), .int (nI (q))]) (rest := []) (wr := []) (ct_X4_tieOf l g a v p q (by omega) (by omega)) dX4_giftsUntilComing_3 rfl (kw_pall _) mc_X4_tieOf kl_X4_77 mi_X4_tieOf mv_X4_tieOf kn_X4 0 rfl rfl rfl (na := 2) (by decide +kernel) rfl ⟨Nat.le_of_ble_eq_true rfl, Nat.le_of_ble_eq_true rfl⟩ ⟨rfl, rfl⟩ ⟨Nat.le_of_ble_eq_true rfl, Nat.le_of_ble_eq_true rfl⟩ (Nat.le_of_ble_eq_true rfl) (fun r_ w_ hp_ => ?_)
  obtain ⟨rfl, rfl⟩ := hp_
  refine kw_ws (List.append_nil _) ?_
  refine kw_top (b := .int (nI t - 4)) (by rw [e]) ?_
  refine kb_istore X [1, 2, 3, 4, 5, 0] dX4_giftsUntilComing_6 (by decide) (lv' := [(0, .ref (a 0)), (1, .int (nI (p))), (2, .int (nI (q))), (3, .int (b)), (4, .int (c)), (5, .int (nI t - 4))]) rfl ?_
  refine kb_iload X 5 dX4_giftsUntilComing_8 rfl ?_
  refine kb_istore X [1, 2, 3, 4, 5, 6, 0] dX4_giftsUntilComing_10 (by decide) (lv' := [(0, .ref (a 0)), (1, .int (nI (p))), (2, .int (nI (q))), (3, .int (b)), (4, .int (c)), (5, .int (nI t - 4)), (6, .int (nI t - 4))]) rfl ?_
  have L12 : ∀ (K_ u : Nat), t + u + K_ = 10 ∧ wGf v p q b c t (10 - t) 0 = wGf v p q b c t K_ u → kW x 0 0 12 [(0, .ref (a 0)), (1, .int (nI (p))), (2, .int (nI (q))), (3, .int (b)), (4, .int (c)), (5, .int (nI t - 4)), (6, .int (nI (t + u) - 4))] [] (wV g a v) := by
    intro K_
    induction K_ with
    | zero =>
      intro u hu
      obtain ⟨hu1, hu2⟩ := id hu
      refine kb_iload X 6 dX4_giftsUntilComing_12 rfl ?_
      refine kb_iconst (v := (5 : Int32)) X dX4_giftsUntilComing_14 (by decide) ?_
      refine kb_icmp_gt (tgt := 50) X dX4_giftsUntilComing_15 (by decide) (fun c1_ => ?_) (fun c1_ => ?_)
      · skip
        have d_ := (gk_gt (t + u) (by omega)).mp c1_
        refine kb_bipush (v := (-4 : Int32)) X dX4_giftsUntilComing_50 (by decide) ?_
        refine ke_i X Z dX4_giftsUntilComing_52 ?_
        exact ⟨by rw [hu2]; rfl, rfl⟩
      · skip
        have d_ := mt (gk_gt (t + u) (by omega)).mpr c1_
        omega
    | succ K_ ih =>
      intro u hu
      obtain ⟨hu1, hu2⟩ := id hu
      refine kb_iload X 6 dX4_giftsUntilComing_12 rfl ?_
      refine kb_iconst (v := (5 : Int32)) X dX4_giftsUntilComing_14 (by decide) ?_
      refine kb_icmp_gt (tgt := 50) X dX4_giftsUntilComing_15 (by decide) (fun c2_ => ?_) (fun c2_ => ?_)
      · skip
        have d_ := (gk_gt (t + u) (by omega)).mp c2_
        omega
      · skip
        have d_ := mt (gk_gt (t + u) (by omega)).mpr c2_
        refine kb_aload_n X 0 dX4_giftsUntilComing_18 rfl rfl ?_
        refine kb_iload_n X 1 dX4_giftsUntilComing_19 rfl rfl ?_
        refine kb_aload_n X 0 dX4_giftsUntilComing_20 rfl rfl ?_
        refine kb_get (v := .ref (a 1)) (C := RX4) (T := TX4) (N := 11) (ci := 4) X kw_iX4 rfl 0 0 rfl (by decide) kf_X4_9 rfl rfl dX4_giftsUntilComing_21 ?_
        refine kb_iload_n X 1 dX4_giftsUntilComing_24 rfl rfl ?_
        refine kb_iald (i := p) X 1 rfl (by omega) (by decide) dX4_giftsUntilComing_25 ?_
        refine kb_iload X 6 dX4_giftsUntilComing_26 rfl ?_
        refine kb_iload_n X 2 dX4_giftsUntilComing_28 rfl rfl ?_
        refine kb_iload_n X 3 dX4_giftsUntilComing_29 rfl rfl ?_
        refine kb_iload X 4 dX4_giftsUntilComing_30 rfl ?_
        refine kc_Vi X (As := [.int (nI (p)), .int (vK v p), .int (nI (t + u) - 4), .int (nI (q)), .int (b), .int (c)]) (rest := []) (wr := []) (ct_X4_wouldCome l g a v hv p (vK v p) (nI (t + u) - 4) q b c (by omega) (by omega)) dX4_giftsUntilComing_32 rfl (kw_pall _) mc_X4_wouldCome kl_X4_80 mi_X4_wouldCome mv_X4_wouldCome kn_X4 0 rfl rfl rfl (na := 6) (by decide +kernel) rfl ⟨Nat.le_of_ble_eq_true rfl, Nat.le_of_ble_eq_true rfl⟩ ⟨rfl, rfl⟩ ⟨Nat.le_of_ble_eq_true rfl, Nat.le_of_ble_eq_true rfl⟩ (Nat.le_of_ble_eq_true rfl) (fun r_ w_ hp_ => ?_)
        obtain ⟨rfl, rfl⟩ := hp_
        refine kw_ws (List.append_nil _) ?_
        refine kz_if_eq (b := wCome v p (vK v p) (nI (t + u) - 4) q b c) (tgt := 44) X dX4_giftsUntilComing_35 (by decide) (fun c3_ => ?_) (fun c3_ => ?_)
        · skip
          refine kb_iinc X 6 [1, 2, 3, 4, 5, 6, 0] (v' := (nI (t + u) - 4) + (1 : Int32)) dX4_giftsUntilComing_44 rfl rfl (by decide) (lv' := [(0, .ref (a 0)), (1, .int (nI (p))), (2, .int (nI (q))), (3, .int (b)), (4, .int (c)), (5, .int (nI t - 4)), (6, .int ((nI (t + u) - 4) + (1 : Int32)))]) rfl ?_
          refine kw_lv (lv' := [(0, .ref (a 0)), (1, .int (nI (p))), (2, .int (nI (q))), (3, .int (b)), (4, .int (c)), (5, .int (nI t - 4)), (6, .int (nI (t + (u + 1)) - 4))]) (by rw [gk_inc (t + u) (by omega), Nat.add_assoc]) ?_
          refine kb_goto (tgt := 12) X dX4_giftsUntilComing_47 (by decide) ?_
          exact kw_to (ih (u + 1) ⟨by omega, by rw [hu2, wGf, if_neg (by simp [c2_, c3_])]⟩) rfl rfl rfl
        · skip
          refine kb_iload X 6 dX4_giftsUntilComing_38 rfl ?_
          refine kb_iload X 5 dX4_giftsUntilComing_40 rfl ?_
          refine kb_isub X dX4_giftsUntilComing_42 ?_
          refine ke_i X Z dX4_giftsUntilComing_43 ?_
          exact ⟨by rw [hu2, wGf, if_pos (by simp [c2_, c3_]), gk_sub t u (by omega) (by omega)], rfl⟩
  exact kw_to (L12 (10 - t) 0 ⟨by omega, rfl⟩) rfl rfl rfl

set_option maxHeartbeats 4000000 in
set_option maxRecDepth 100000 in
theorem ct_X4_isDueForTrial (l : Launch) (g : kw_G) (a : Nat → Nat) (v : VS) (hv : VI v) (p : Nat) (hp : p < 6) : kMi l g yX4_isDueForTrial cX4_isDueForTrial 2 .boolean (kw_rm 3 0 0) 0 0 [.ref (a 0), .int (nI (p))] (wV g a v) (fun r w => r = zI (wDue v p) ∧ w = wV g a v) := by
  refine kMi_of (by decide +kernel) (Nat.le_of_ble_eq_true rfl) (fun x (X : kX l g RX4 cX4_isDueForTrial 2 (kw_rm 3 0 0) x) (Z : kZi .boolean _ 0 0 x) => ?_)
  show kW x 0 0 0 [(0, .ref (a 0)), (1, .int (nI (p)))] [] (wV g a v)
  refine kb_aload_n X 0 dX4_isDueForTrial_0 rfl rfl ?_
  refine kb_iload_n X 1 dX4_isDueForTrial_1 rfl rfl ?_
  refine kc_Vi X (As := [.int (nI (p))]) (rest := []) (wr := []) (ct_X4_lives l g a v hv p (by omega)) dX4_isDueForTrial_2 rfl (kw_pall _) mc_X4_lives kl_X4_71 mi_X4_lives mv_X4_lives kn_X4 0 rfl rfl rfl (na := 1) (by decide +kernel) rfl ⟨Nat.le_of_ble_eq_true rfl, Nat.le_of_ble_eq_true rfl⟩ ⟨rfl, rfl⟩ ⟨Nat.le_of_ble_eq_true rfl, Nat.le_of_ble_eq_true rfl⟩ (Nat.le_of_ble_eq_true rfl) (fun r_ w_ hp_ => ?_)
  obtain ⟨rfl, rfl⟩ := hp_
  refine kw_ws (List.append_nil _) ?_
  refine kz_if_eq (b := wLives v p) (tgt := 32) X dX4_isDueForTrial_5 (by decide) (fun c1_ => ?_) (fun c1_ => ?_)
  · skip
    refine kb_iconst (v := (0 : Int32)) X dX4_isDueForTrial_32 (by decide) ?_
    refine ke_z X Z rfl dX4_isDueForTrial_33 ?_
    exact ⟨(by first | rfl | (simp [zI, wDue, c1_]; done) | (simp [zI, wDue, c1_] <;> omega) | (simp_all [zI, wDue, c1_]; done)), (by first | rfl | (simp [zI, wDue, c1_]; done) | (simp [zI, wDue, c1_] <;> omega) | (simp_all [zI, wDue, c1_]; done))⟩
  · skip
    refine kb_aload_n X 0 dX4_isDueForTrial_8 rfl rfl ?_
    refine kb_iload_n X 1 dX4_isDueForTrial_9 rfl rfl ?_
    refine kc_Vi X (As := [.int (nI (p))]) (rest := []) (wr := []) (ct_X4_hadTrial l g a v hv p (by omega)) dX4_isDueForTrial_10 rfl (kw_pall _) mc_X4_hadTrial kl_X4_84 mi_X4_hadTrial mv_X4_hadTrial kn_X4 0 rfl rfl rfl (na := 1) (by decide +kernel) rfl ⟨Nat.le_of_ble_eq_true rfl, Nat.le_of_ble_eq_true rfl⟩ ⟨rfl, rfl⟩ ⟨Nat.le_of_ble_eq_true rfl, Nat.le_of_ble_eq_true rfl⟩ (Nat.le_of_ble_eq_true rfl) (fun r_ w_ hp_ => ?_)
    obtain ⟨rfl, rfl⟩ := hp_
    refine kw_ws (List.append_nil _) ?_
    refine kz_if_ne (b := Nat.testBit (vH v) p) (tgt := 32) X dX4_isDueForTrial_13 (by decide) (fun c2_ => ?_) (fun c2_ => ?_)
    · skip
      refine kb_iconst (v := (0 : Int32)) X dX4_isDueForTrial_32 (by decide) ?_
      refine ke_z X Z rfl dX4_isDueForTrial_33 ?_
      exact ⟨(by first | rfl | (simp [zI, wDue, c1_, c2_]; done) | (simp [zI, wDue, c1_, c2_] <;> omega) | (simp_all [zI, wDue, c1_, c2_]; done)), (by first | rfl | (simp [zI, wDue, c1_, c2_]; done) | (simp [zI, wDue, c1_, c2_] <;> omega) | (simp_all [zI, wDue, c1_, c2_]; done))⟩
    · skip
      refine kb_aload_n X 0 dX4_isDueForTrial_16 rfl rfl ?_
      refine kb_iload_n X 1 dX4_isDueForTrial_17 rfl rfl ?_
      refine kc_Vi X (As := [.int (nI (p))]) (rest := []) (wr := []) (ct_X4_ageOf l g a v p (by omega)) dX4_isDueForTrial_18 rfl (kw_pall _) mc_X4_ageOf kl_X4_87 mi_X4_ageOf mv_X4_ageOf kn_X4 0 rfl rfl rfl (na := 1) (by decide +kernel) rfl ⟨Nat.le_of_ble_eq_true rfl, Nat.le_of_ble_eq_true rfl⟩ ⟨rfl, rfl⟩ ⟨Nat.le_of_ble_eq_true rfl, Nat.le_of_ble_eq_true rfl⟩ (Nat.le_of_ble_eq_true rfl) (fun r_ w_ hp_ => ?_)
      obtain ⟨rfl, rfl⟩ := hp_
      refine kw_ws (List.append_nil _) ?_
      refine kb_aload_n X 0 dX4_isDueForTrial_21 rfl rfl ?_
      refine kb_get (v := .int (vG v)) (C := RX4) (T := TX4) (N := 11) (ci := 4) X kw_iX4 rfl 0 6 rfl (by decide) kf_X4_31 rfl rfl dX4_isDueForTrial_22 ?_
      refine kb_icmp_lt (tgt := 32) X dX4_isDueForTrial_25 (by decide) (fun c3_ => ?_) (fun c3_ => ?_)
      · skip
        refine kb_iconst (v := (0 : Int32)) X dX4_isDueForTrial_32 (by decide) ?_
        refine ke_z X Z rfl dX4_isDueForTrial_33 ?_
        exact ⟨(by first | rfl | (simp [zI, wDue, c1_, c2_, c3_]; done) | (simp [zI, wDue, c1_, c2_, c3_] <;> omega) | (simp_all [zI, wDue, c1_, c2_, c3_]; done)), (by first | rfl | (simp [zI, wDue, c1_, c2_, c3_]; done) | (simp [zI, wDue, c1_, c2_, c3_] <;> omega) | (simp_all [zI, wDue, c1_, c2_, c3_]; done))⟩
      · skip
        refine kb_iconst (v := (1 : Int32)) X dX4_isDueForTrial_28 (by decide) ?_
        refine kb_goto (tgt := 33) X dX4_isDueForTrial_29 (by decide) ?_
        refine ke_z X Z rfl dX4_isDueForTrial_33 ?_
        exact ⟨(by first | rfl | (simp [zI, wDue, c1_, c2_, c3_]; done) | (simp [zI, wDue, c1_, c2_, c3_] <;> omega) | (simp_all [zI, wDue, c1_, c2_, c3_]; done)), (by first | rfl | (simp [zI, wDue, c1_, c2_, c3_]; done) | (simp [zI, wDue, c1_, c2_, c3_] <;> omega) | (simp_all [zI, wDue, c1_, c2_, c3_]; done))⟩

set_option maxHeartbeats 4000000 in
set_option maxRecDepth 100000 in
theorem ct_X4_canHoldTrial (l : Launch) (g : kw_G) (a : Nat → Nat) (v : VS) (hv : VI v) (p : Nat) (b c : Int32) (hp : p < 6) : kMi l g yX4_canHoldTrial cX4_canHoldTrial 4 .boolean (kw_rm 4 0 0) 0 0 [.ref (a 0), .int (nI (p)), .int (b), .int (c)] (wV g a v) (fun r w => r = zI (wCan v p b c) ∧ w = wV g a v) := by
  refine kMi_of (by decide +kernel) (Nat.le_of_ble_eq_true rfl) (fun x (X : kX l g RX4 cX4_canHoldTrial 4 (kw_rm 4 0 0) x) (Z : kZi .boolean _ 0 0 x) => ?_)
  show kW x 0 0 0 [(0, .ref (a 0)), (1, .int (nI (p))), (2, .int (b)), (3, .int (c))] [] (wV g a v)
  refine kb_aload_n X 0 dX4_canHoldTrial_0 rfl rfl ?_
  refine kb_iload_n X 1 dX4_canHoldTrial_1 rfl rfl ?_
  refine kc_Vi X (As := [.int (nI (p))]) (rest := []) (wr := []) (ct_X4_isDueForTrial l g a v hv p (by omega)) dX4_canHoldTrial_2 rfl (kw_pall _) mc_X4_isDueForTrial kl_X4_91 mi_X4_isDueForTrial mv_X4_isDueForTrial kn_X4 0 rfl rfl rfl (na := 1) (by decide +kernel) rfl ⟨Nat.le_of_ble_eq_true rfl, Nat.le_of_ble_eq_true rfl⟩ ⟨rfl, rfl⟩ ⟨Nat.le_of_ble_eq_true rfl, Nat.le_of_ble_eq_true rfl⟩ (Nat.le_of_ble_eq_true rfl) (fun r_ w_ hp_ => ?_)
  obtain ⟨rfl, rfl⟩ := hp_
  refine kw_ws (List.append_nil _) ?_
  refine kz_if_eq (b := wDue v p) (tgt := 26) X dX4_canHoldTrial_5 (by decide) (fun c1_ => ?_) (fun c1_ => ?_)
  · skip
    refine kb_iconst (v := (0 : Int32)) X dX4_canHoldTrial_26 (by decide) ?_
    refine ke_z X Z rfl dX4_canHoldTrial_27 ?_
    exact ⟨(by first | rfl | (simp [zI, wCan, c1_]; done) | (simp [zI, wCan, c1_] <;> omega) | (simp_all [zI, wCan, c1_]; done)), (by first | rfl | (simp [zI, wCan, c1_]; done) | (simp [zI, wCan, c1_] <;> omega) | (simp_all [zI, wCan, c1_]; done))⟩
  · skip
    refine kb_aload_n X 0 dX4_canHoldTrial_8 rfl rfl ?_
    refine kb_get (v := .ref (a 3)) (C := RX4) (T := TX4) (N := 11) (ci := 4) X kw_iX4 rfl 0 2 rfl (by decide) kf_X4_18 rfl rfl dX4_canHoldTrial_9 ?_
    refine kb_iload_n X 1 dX4_canHoldTrial_12 rfl rfl ?_
    refine kb_iald (i := p) X 3 rfl (by omega) (by decide) dX4_canHoldTrial_13 ?_
    refine kb_iload_n X 2 dX4_canHoldTrial_14 rfl rfl ?_
    refine kb_iload_n X 3 dX4_canHoldTrial_15 rfl rfl ?_
    refine kc_SNi X (As := [.int (b), .int (c)]) (rest := [.int (vC v p)]) (wr := (wV g a v)) (ct_X5_costOf l g b c ) dX4_canHoldTrial_16 rfl (List.Perm.refl _) mc_X5_costOf (by simp [kw_nest]) ms_X5_costOf kn_X5 (na := 2) (by decide +kernel) rfl ⟨Nat.le_of_ble_eq_true rfl, Nat.le_of_ble_eq_true rfl⟩ ⟨rfl, rfl⟩ ⟨Nat.le_of_ble_eq_true rfl, Nat.le_of_ble_eq_true rfl⟩ (Nat.le_of_ble_eq_true rfl) (fun r_ w_ hp_ => ?_)
    obtain ⟨rfl, rfl⟩ := hp_
    refine kw_ws (List.nil_append _) ?_
    refine kb_icmp_lt (tgt := 26) X dX4_canHoldTrial_19 (by decide) (fun c2_ => ?_) (fun c2_ => ?_)
    · skip
      refine kb_iconst (v := (0 : Int32)) X dX4_canHoldTrial_26 (by decide) ?_
      refine ke_z X Z rfl dX4_canHoldTrial_27 ?_
      exact ⟨(by first | rfl | (simp [zI, wCan, c1_, c2_]; done) | (simp [zI, wCan, c1_, c2_] <;> omega) | (simp_all [zI, wCan, c1_, c2_]; done)), (by first | rfl | (simp [zI, wCan, c1_, c2_]; done) | (simp [zI, wCan, c1_, c2_] <;> omega) | (simp_all [zI, wCan, c1_, c2_]; done))⟩
    · skip
      refine kb_iconst (v := (1 : Int32)) X dX4_canHoldTrial_22 (by decide) ?_
      refine kb_goto (tgt := 27) X dX4_canHoldTrial_23 (by decide) ?_
      refine ke_z X Z rfl dX4_canHoldTrial_27 ?_
      exact ⟨(by first | rfl | (simp [zI, wCan, c1_, c2_]; done) | (simp [zI, wCan, c1_, c2_] <;> omega) | (simp_all [zI, wCan, c1_, c2_]; done)), (by first | rfl | (simp [zI, wCan, c1_, c2_]; done) | (simp [zI, wCan, c1_, c2_] <;> omega) | (simp_all [zI, wCan, c1_, c2_]; done))⟩

set_option maxHeartbeats 4000000 in
set_option maxRecDepth 100000 in
theorem ct_X4_changeTie (l : Launch) (g : kw_G) (a : Nat → Nat) (v : VS) (p q : Nat) (d : Int32) (hp : p < 6) (hq : q < 6) : kMv l g yX4_changeTie cX4_changeTie 5 (kw_rm 3 0 0) 0 0 [.ref (a 0), .int (nI (p)), .int (nI (q)), .int (d)] (wV g a v) (fun w => w = wV g a (wTie v p q d)) := by
  refine kMv_of (by decide +kernel) (Nat.le_of_ble_eq_true rfl) (fun x (X : kX l g RX4 cX4_changeTie 5 (kw_rm 3 0 0) x) (Z : kZv _ 0 0 x) => ?_)
  show kW x 0 0 0 [(0, .ref (a 0)), (1, .int (nI (p))), (2, .int (nI (q))), (3, .int (d))] [] (wV g a v)
  refine kb_aload_n X 0 dX4_changeTie_0 rfl rfl ?_
  refine kb_iload_n X 1 dX4_changeTie_1 rfl rfl ?_
  refine kb_iload_n X 2 dX4_changeTie_2 rfl rfl ?_
  refine kc_Vi X (As := [.int (nI (p)), .int (nI (q))]) (rest := []) (wr := []) (ct_X4_tieOf l g a v p q (by omega) (by omega)) dX4_changeTie_3 rfl (kw_pall _) mc_X4_tieOf kl_X4_77 mi_X4_tieOf mv_X4_tieOf kn_X4 0 rfl rfl rfl (na := 2) (by decide +kernel) rfl ⟨Nat.le_of_ble_eq_true rfl, Nat.le_of_ble_eq_true rfl⟩ ⟨rfl, rfl⟩ ⟨Nat.le_of_ble_eq_true rfl, Nat.le_of_ble_eq_true rfl⟩ (Nat.le_of_ble_eq_true rfl) (fun r_ w_ hp_ => ?_)
  obtain ⟨rfl, rfl⟩ := hp_
  refine kw_ws (List.append_nil _) ?_
  refine kb_iload_n X 3 dX4_changeTie_6 rfl rfl ?_
  refine kb_iadd X dX4_changeTie_7 ?_
  refine kb_istore X [1, 2, 3, 4, 0] dX4_changeTie_8 (by decide) (lv' := [(0, .ref (a 0)), (1, .int (nI (p))), (2, .int (nI (q))), (3, .int (d)), (4, .int ((vT v (p * 6 + q)) + d))]) rfl ?_
  refine kb_aload_n X 0 dX4_changeTie_10 rfl rfl ?_
  refine kb_get (v := .ref (a 4)) (C := RX4) (T := TX4) (N := 11) (ci := 4) X kw_iX4 rfl 0 3 rfl (by decide) kf_X4_21 rfl rfl dX4_changeTie_11 ?_
  refine kb_aload_n X 0 dX4_changeTie_14 rfl rfl ?_
  refine kb_iload_n X 1 dX4_changeTie_15 rfl rfl ?_
  refine kb_iload_n X 2 dX4_changeTie_16 rfl rfl ?_
  refine kc_Vi X (As := [.int (nI (p)), .int (nI (q))]) (rest := [.ref (a 4)]) (wr := []) (ct_X4_cell l g a v p q ) dX4_changeTie_17 rfl (kw_pall _) mc_X4_cell kl_X4_60 mi_X4_cell mv_X4_cell kn_X4 0 rfl rfl rfl (na := 2) (by decide +kernel) rfl ⟨Nat.le_of_ble_eq_true rfl, Nat.le_of_ble_eq_true rfl⟩ ⟨rfl, rfl⟩ ⟨Nat.le_of_ble_eq_true rfl, Nat.le_of_ble_eq_true rfl⟩ (Nat.le_of_ble_eq_true rfl) (fun r_ w_ hp_ => ?_)
  obtain ⟨rfl, rfl⟩ := hp_
  refine kw_ws (List.append_nil _) ?_
  refine kb_bipush (v := (-4 : Int32)) X dX4_changeTie_20 (by decide) ?_
  refine kb_iconst (v := (5 : Int32)) X dX4_changeTie_22 (by decide) ?_
  refine kb_iload X 4 dX4_changeTie_23 rfl ?_
  refine kc_Si X (As := [.int 5, .int ((vT v (p * 6 + q)) + d)]) (rest := [.int (-4), .int (nI (p * 6 + q)), .ref (a 4)]) (wr := (wV g a v)) (ct_J9_min_7cf53 l g (5 : Int32) ((vT v (p * 6 + q)) + d) ) dX4_changeTie_25 rfl (List.Perm.refl _) mc_J9_min_7cf53 kl_X4_112 ms_J9_min_7cf53 kn_J9 (na := 2) (by decide +kernel) rfl ⟨Nat.le_of_ble_eq_true rfl, Nat.le_of_ble_eq_true rfl⟩ ⟨rfl, rfl⟩ ⟨Nat.le_of_ble_eq_true rfl, Nat.le_of_ble_eq_true rfl⟩ (Nat.le_of_ble_eq_true rfl) (fun r_ w_ hp_ => ?_)
  obtain ⟨rfl, rfl⟩ := hp_
  refine kw_ws (List.nil_append _) ?_
  refine kc_Si X (As := [.int (-4), .int (mn (5 : Int32) ((vT v (p * 6 + q)) + d))]) (rest := [.int (nI (p * 6 + q)), .ref (a 4)]) (wr := (wV g a v)) (ct_J9_max_7cf53 l g (-4 : Int32) (mn (5 : Int32) ((vT v (p * 6 + q)) + d)) ) dX4_changeTie_28 rfl (List.Perm.refl _) mc_J9_max_7cf53 kl_X4_117 ms_J9_max_7cf53 kn_J9 (na := 2) (by decide +kernel) rfl ⟨Nat.le_of_ble_eq_true rfl, Nat.le_of_ble_eq_true rfl⟩ ⟨rfl, rfl⟩ ⟨Nat.le_of_ble_eq_true rfl, Nat.le_of_ble_eq_true rfl⟩ (Nat.le_of_ble_eq_true rfl) (fun r_ w_ hp_ => ?_)
  obtain ⟨rfl, rfl⟩ := hp_
  refine kw_ws (List.nil_append _) ?_
  refine kb_iast (i := p * 6 + q) X 4 rfl (by omega) (by decide) dX4_changeTie_31 (ws' := wV g a (sT v (upd (vT v) (p * 6 + q) (mx (-4 : Int32) (mn (5 : Int32) ((vT v (p * 6 + q)) + d)))))) rfl ?_
  refine ke_v X Z dX4_changeTie_32 ?_
  exact (by first | rfl | (simp [zI, ]; done) | (simp [zI, ] <;> omega) | (simp_all [zI, ]; done))

set_option maxHeartbeats 4000000 in
set_option maxRecDepth 100000 in
theorem ct_X4_receive (l : Launch) (g : kw_G) (a : Nat → Nat) (v : VS) (p : Nat) (d : Int32) (hp : p < 6) : kMv l g yX4_receive cX4_receive 3 (kw_rm 2 0 0) 0 0 [.ref (a 0), .int (nI (p)), .int (d)] (wV g a v) (fun w => w = wV g a (wRecv v p d)) := by
  refine kMv_of (by decide +kernel) (Nat.le_of_ble_eq_true rfl) (fun x (X : kX l g RX4 cX4_receive 3 (kw_rm 2 0 0) x) (Z : kZv _ 0 0 x) => ?_)
  show kW x 0 0 0 [(0, .ref (a 0)), (1, .int (nI (p))), (2, .int (d))] [] (wV g a v)
  refine kb_aload_n X 0 dX4_receive_0 rfl rfl ?_
  refine kb_get (v := .ref (a 3)) (C := RX4) (T := TX4) (N := 11) (ci := 4) X kw_iX4 rfl 0 2 rfl (by decide) kf_X4_18 rfl rfl dX4_receive_1 ?_
  refine kb_iload_n X 1 dX4_receive_4 rfl rfl ?_
  refine kb_sipush (v := (999 : Int32)) X dX4_receive_5 (by decide) ?_
  refine kb_aload_n X 0 dX4_receive_8 rfl rfl ?_
  refine kb_get (v := .ref (a 3)) (C := RX4) (T := TX4) (N := 11) (ci := 4) X kw_iX4 rfl 0 2 rfl (by decide) kf_X4_18 rfl rfl dX4_receive_9 ?_
  refine kb_iload_n X 1 dX4_receive_12 rfl rfl ?_
  refine kb_iald (i := p) X 3 rfl (by omega) (by decide) dX4_receive_13 ?_
  refine kb_iload_n X 2 dX4_receive_14 rfl rfl ?_
  refine kb_iadd X dX4_receive_15 ?_
  refine kc_Si X (As := [.int 999, .int ((vC v p) + d)]) (rest := [.int (nI (p)), .ref (a 3)]) (wr := (wV g a v)) (ct_J9_min_7cf53 l g (999 : Int32) ((vC v p) + d) ) dX4_receive_16 rfl (List.Perm.refl _) mc_J9_min_7cf53 kl_X4_112 ms_J9_min_7cf53 kn_J9 (na := 2) (by decide +kernel) rfl ⟨Nat.le_of_ble_eq_true rfl, Nat.le_of_ble_eq_true rfl⟩ ⟨rfl, rfl⟩ ⟨Nat.le_of_ble_eq_true rfl, Nat.le_of_ble_eq_true rfl⟩ (Nat.le_of_ble_eq_true rfl) (fun r_ w_ hp_ => ?_)
  obtain ⟨rfl, rfl⟩ := hp_
  refine kw_ws (List.nil_append _) ?_
  refine kb_iast (i := p) X 3 rfl (by omega) (by decide) dX4_receive_19 (ws' := wV g a (sC v (upd (vC v) p (mn (999 : Int32) ((vC v p) + d))))) rfl ?_
  refine ke_v X Z dX4_receive_20 ?_
  exact (by first | rfl | (simp [zI, ]; done) | (simp [zI, ] <;> omega) | (simp_all [zI, ]; done))

set_option maxHeartbeats 4000000 in
set_option maxRecDepth 100000 in
theorem ct_X4_payOff (l : Launch) (g : kw_G) (a : Nat → Nat) (v : VS) (p q : Nat) (d : Int32) (hp : p < 6) (hq : q < 6) : kMi l g yX4_payOff cX4_payOff 5 .int (kw_rm 3 0 0) 0 0 [.ref (a 0), .int (nI (p)), .int (nI (q)), .int (d)] (wV g a v) (fun r w => r = wPaid v p d ∧ w = wV g a (wPay v p q d)) := by
  refine kMi_of (by decide +kernel) (Nat.le_of_ble_eq_true rfl) (fun x (X : kX l g RX4 cX4_payOff 5 (kw_rm 3 0 0) x) (Z : kZi .int _ 0 0 x) => ?_)
  show kW x 0 0 0 [(0, .ref (a 0)), (1, .int (nI (p))), (2, .int (nI (q))), (3, .int (d))] [] (wV g a v)
  refine kb_iload_n X 3 dX4_payOff_0 rfl rfl ?_
  refine kb_aload_n X 0 dX4_payOff_1 rfl rfl ?_
  refine kb_get (v := .ref (a 3)) (C := RX4) (T := TX4) (N := 11) (ci := 4) X kw_iX4 rfl 0 2 rfl (by decide) kf_X4_18 rfl rfl dX4_payOff_2 ?_
  refine kb_iload_n X 1 dX4_payOff_5 rfl rfl ?_
  refine kb_iald (i := p) X 3 rfl (by omega) (by decide) dX4_payOff_6 ?_
  refine kc_Si X (As := [.int (d), .int (vC v p)]) (rest := []) (wr := (wV g a v)) (ct_J9_min_7cf53 l g d (vC v p) ) dX4_payOff_7 rfl (List.Perm.refl _) mc_J9_min_7cf53 kl_X4_112 ms_J9_min_7cf53 kn_J9 (na := 2) (by decide +kernel) rfl ⟨Nat.le_of_ble_eq_true rfl, Nat.le_of_ble_eq_true rfl⟩ ⟨rfl, rfl⟩ ⟨Nat.le_of_ble_eq_true rfl, Nat.le_of_ble_eq_true rfl⟩ (Nat.le_of_ble_eq_true rfl) (fun r_ w_ hp_ => ?_)
  obtain ⟨rfl, rfl⟩ := hp_
  refine kw_ws (List.nil_append _) ?_
  refine kb_istore X [1, 2, 3, 4, 0] dX4_payOff_10 (by decide) (lv' := [(0, .ref (a 0)), (1, .int (nI (p))), (2, .int (nI (q))), (3, .int (d)), (4, .int (mn d (vC v p)))]) rfl ?_
  refine kb_aload_n X 0 dX4_payOff_12 rfl rfl ?_
  refine kb_get (v := .ref (a 3)) (C := RX4) (T := TX4) (N := 11) (ci := 4) X kw_iX4 rfl 0 2 rfl (by decide) kf_X4_18 rfl rfl dX4_payOff_13 ?_
  refine kb_iload_n X 1 dX4_payOff_16 rfl rfl ?_
  refine kb_dup2 X dX4_payOff_17 rfl rfl ?_
  refine kb_iald (i := p) X 3 rfl (by omega) (by decide) dX4_payOff_18 ?_
  refine kb_iload X 4 dX4_payOff_19 rfl ?_
  refine kb_isub X dX4_payOff_21 ?_
  refine kb_iast (i := p) X 3 rfl (by omega) (by decide) dX4_payOff_22 (ws' := wV g a (sC v (upd (vC v) p ((vC v p) - (mn d (vC v p)))))) rfl ?_
  refine kb_aload_n X 0 dX4_payOff_23 rfl rfl ?_
  refine kb_get (v := .ref (a 5)) (C := RX4) (T := TX4) (N := 11) (ci := 4) X kw_iX4 rfl 0 4 rfl (by decide) kf_X4_24 rfl rfl dX4_payOff_24 ?_
  refine kb_aload_n X 0 dX4_payOff_27 rfl rfl ?_
  refine kb_iload_n X 1 dX4_payOff_28 rfl rfl ?_
  refine kb_iload_n X 2 dX4_payOff_29 rfl rfl ?_
  refine kc_Vi X (As := [.int (nI (p)), .int (nI (q))]) (rest := [.ref (a 5)]) (wr := []) (ct_X4_cell l g a (sC v (upd (vC v) p ((vC v p) - (mn d (vC v p))))) p q ) dX4_payOff_30 rfl (kw_pall _) mc_X4_cell kl_X4_60 mi_X4_cell mv_X4_cell kn_X4 0 rfl rfl rfl (na := 2) (by decide +kernel) rfl ⟨Nat.le_of_ble_eq_true rfl, Nat.le_of_ble_eq_true rfl⟩ ⟨rfl, rfl⟩ ⟨Nat.le_of_ble_eq_true rfl, Nat.le_of_ble_eq_true rfl⟩ (Nat.le_of_ble_eq_true rfl) (fun r_ w_ hp_ => ?_)
  obtain ⟨rfl, rfl⟩ := hp_
  refine kw_ws (List.append_nil _) ?_
  refine kb_dup2 X dX4_payOff_33 rfl rfl ?_
  refine kb_iald (i := p * 6 + q) X 5 rfl (by omega) (by decide) dX4_payOff_34 ?_
  refine kb_iload X 4 dX4_payOff_35 rfl ?_
  refine kb_isub X dX4_payOff_37 ?_
  refine kb_iast (i := p * 6 + q) X 5 rfl (by omega) (by decide) dX4_payOff_38 (ws' := wV g a (sD (sC v (upd (vC v) p ((vC v p) - (mn d (vC v p))))) (upd (vD v) (p * 6 + q) ((vD v (p * 6 + q)) - (mn d (vC v p)))))) rfl ?_
  refine kb_aload_n X 0 dX4_payOff_39 rfl rfl ?_
  refine kb_iload_n X 2 dX4_payOff_40 rfl rfl ?_
  refine kb_iload X 4 dX4_payOff_41 rfl ?_
  refine kc_Vv X (As := [.int (nI (q)), .int (mn d (vC v p))]) (rest := []) (wr := []) (ct_X4_receive l g a (sD (sC v (upd (vC v) p ((vC v p) - (mn d (vC v p))))) (upd (vD v) (p * 6 + q) ((vD v (p * 6 + q)) - (mn d (vC v p))))) q (mn d (vC v p)) (by omega)) dX4_payOff_43 rfl (kw_pall _) mc_X4_receive kl_X4_120 mi_X4_receive mv_X4_receive kn_X4 0 rfl rfl rfl (na := 2) (by decide +kernel) rfl ⟨Nat.le_of_ble_eq_true rfl, Nat.le_of_ble_eq_true rfl⟩ ⟨rfl, rfl⟩ ⟨Nat.le_of_ble_eq_true rfl, Nat.le_of_ble_eq_true rfl⟩ (Nat.le_of_ble_eq_true rfl) (fun w_ hp_ => ?_)
  obtain rfl := hp_
  refine kw_ws (List.append_nil _) ?_
  refine kb_iload X 4 dX4_payOff_46 rfl ?_
  refine ke_i X Z dX4_payOff_48 ?_
  exact ⟨(by first | rfl | (simp [zI, ]; done) | (simp [zI, ] <;> omega) | (simp_all [zI, ]; done)), (by first | rfl | (simp [zI, ]; done) | (simp [zI, ] <;> omega) | (simp_all [zI, ]; done))⟩

set_option maxHeartbeats 4000000 in
set_option maxRecDepth 100000 in
theorem ct_X4_meet (l : Launch) (g : kw_G) (a : Nat → Nat) (v : VS) (p q : Nat) (cm : Bool) (hp : p < 6) (hq : q < 6) : kMv l g yX4_meet cX4_meet 5 (kw_rm 4 0 0) 0 0 [.ref (a 0), .int (nI (p)), .int (nI (q)), .int (zI (cm))] (wV g a v) (fun w => w = wV g a (wMeet v p q cm)) := by
  refine kMv_of (by decide +kernel) (Nat.le_of_ble_eq_true rfl) (fun x (X : kX l g RX4 cX4_meet 5 (kw_rm 4 0 0) x) (Z : kZv _ 0 0 x) => ?_)
  show kW x 0 0 0 [(0, .ref (a 0)), (1, .int (nI (p))), (2, .int (nI (q))), (3, .int (zI (cm)))] [] (wV g a v)
  refine kb_iload_n X 3 dX4_meet_0 rfl rfl ?_
  refine kz_if_eq (b := cm) (tgt := 18) X dX4_meet_1 (by decide) (fun c1_ => ?_) (fun c1_ => ?_)
  · skip
    refine kb_iconst (v := (0 : Int32)) X dX4_meet_18 (by decide) ?_
    refine kb_istore X [1, 2, 3, 4, 0] dX4_meet_19 (by decide) (lv' := [(0, .ref (a 0)), (1, .int (nI (p))), (2, .int (nI (q))), (3, .int (zI (cm))), (4, .int 0)]) rfl ?_
    refine kb_aload_n X 0 dX4_meet_21 rfl rfl ?_
    refine kb_iload_n X 1 dX4_meet_22 rfl rfl ?_
    refine kb_iload_n X 2 dX4_meet_23 rfl rfl ?_
    refine kb_iload X 4 dX4_meet_24 rfl ?_
    refine kb_if_eq (tgt := 33) X dX4_meet_26 (by decide) (fun _ => ?_) (fun q_ => absurd q_ (by decide))
    refine kb_iconst (v := (-1 : Int32)) X dX4_meet_33 (by decide) ?_
    refine kc_Vv X (As := [.int (nI (p)), .int (nI (q)), .int (-1)]) (rest := []) (wr := []) (ct_X4_changeTie l g a v p q (-1 : Int32) (by omega) (by omega)) dX4_meet_34 rfl (kw_pall _) mc_X4_changeTie kl_X4_105 mi_X4_changeTie mv_X4_changeTie kn_X4 0 rfl rfl rfl (na := 3) (by decide +kernel) rfl ⟨Nat.le_of_ble_eq_true rfl, Nat.le_of_ble_eq_true rfl⟩ ⟨rfl, rfl⟩ ⟨Nat.le_of_ble_eq_true rfl, Nat.le_of_ble_eq_true rfl⟩ (Nat.le_of_ble_eq_true rfl) (fun w_ hp_ => ?_)
    obtain rfl := hp_
    refine kw_ws (List.append_nil _) ?_
    refine kb_iload_n X 3 dX4_meet_37 rfl rfl ?_
    refine kz_if_eq (b := cm) (tgt := 56) X dX4_meet_38 (by decide) (fun c3_ => ?_) (fun c3_ => ?_)
    · skip
      refine ke_v X Z dX4_meet_56 ?_
      exact (by first | rfl | (simp [zI, wMeet, c1_, c3_]; done) | (simp [zI, wMeet, c1_, c3_] <;> omega) | (simp_all [zI, wMeet, c1_, c3_]; done))
    · skip
      refine kb_aload_n X 0 dX4_meet_41 rfl rfl ?_
      refine kb_iload_n X 2 dX4_meet_42 rfl rfl ?_
      refine kb_iload_n X 1 dX4_meet_43 rfl rfl ?_
      refine kb_aload_n X 0 dX4_meet_44 rfl rfl ?_
      refine kb_iload_n X 2 dX4_meet_45 rfl rfl ?_
      refine kb_iload_n X 1 dX4_meet_46 rfl rfl ?_
      refine kc_Vi X (As := [.int (nI (q)), .int (nI (p))]) (rest := [.int (nI (p)), .int (nI (q)), .ref (a 0)]) (wr := []) (ct_X4_debtOf l g a (wTie v p q (-1 : Int32)) q p (by omega) (by omega)) dX4_meet_47 rfl (kw_pall _) mc_X4_debtOf kl_X4_74 mi_X4_debtOf mv_X4_debtOf kn_X4 0 rfl rfl rfl (na := 2) (by decide +kernel) rfl ⟨Nat.le_of_ble_eq_true rfl, Nat.le_of_ble_eq_true rfl⟩ ⟨rfl, rfl⟩ ⟨Nat.le_of_ble_eq_true rfl, Nat.le_of_ble_eq_true rfl⟩ (Nat.le_of_ble_eq_true rfl) (fun r_ w_ hp_ => ?_)
      obtain ⟨rfl, rfl⟩ := hp_
      refine kw_ws (List.append_nil _) ?_
      refine kb_iconst (v := (2 : Int32)) X dX4_meet_50 (by decide) ?_
      refine kb_idiv X dX4_meet_51 (by decide) ?_
      refine kc_Vi X (As := [.int (nI (q)), .int (nI (p)), .int ((vD v (q * 6 + p)) / (2 : Int32))]) (rest := []) (wr := []) (ct_X4_payOff l g a (wTie v p q (-1 : Int32)) q p ((vD v (q * 6 + p)) / (2 : Int32)) (by omega) (by omega)) dX4_meet_52 rfl (kw_pall _) mc_X4_payOff kl_X4_109 mi_X4_payOff mv_X4_payOff kn_X4 0 rfl rfl rfl (na := 3) (by decide +kernel) rfl ⟨Nat.le_of_ble_eq_true rfl, Nat.le_of_ble_eq_true rfl⟩ ⟨rfl, rfl⟩ ⟨Nat.le_of_ble_eq_true rfl, Nat.le_of_ble_eq_true rfl⟩ (Nat.le_of_ble_eq_true rfl) (fun r_ w_ hp_ => ?_)
      obtain ⟨rfl, rfl⟩ := hp_
      refine kw_ws (List.append_nil _) ?_
      refine kb_pop X dX4_meet_55 rfl ?_
      refine ke_v X Z dX4_meet_56 ?_
      exact (by first | rfl | (simp [zI, wMeet, c1_, c3_]; done) | (simp [zI, wMeet, c1_, c3_] <;> omega) | (simp_all [zI, wMeet, c1_, c3_]; done))
  · skip
    refine kb_aload_n X 0 dX4_meet_4 rfl rfl ?_
    refine kb_get (v := .ref (a 1)) (C := RX4) (T := TX4) (N := 11) (ci := 4) X kw_iX4 rfl 0 0 rfl (by decide) kf_X4_9 rfl rfl dX4_meet_5 ?_
    refine kb_iload_n X 2 dX4_meet_8 rfl rfl ?_
    refine kb_iald (i := q) X 1 rfl (by omega) (by decide) dX4_meet_9 ?_
    refine kb_iconst (v := (1 : Int32)) X dX4_meet_10 (by decide) ?_
    refine kb_icmp_eq (tgt := 18) X dX4_meet_11 (by decide) (fun c4_ => ?_) (fun c4_ => ?_)
    · skip
      refine kb_iconst (v := (0 : Int32)) X dX4_meet_18 (by decide) ?_
      refine kb_istore X [1, 2, 3, 4, 0] dX4_meet_19 (by decide) (lv' := [(0, .ref (a 0)), (1, .int (nI (p))), (2, .int (nI (q))), (3, .int (zI (cm))), (4, .int 0)]) rfl ?_
      refine kb_aload_n X 0 dX4_meet_21 rfl rfl ?_
      refine kb_iload_n X 1 dX4_meet_22 rfl rfl ?_
      refine kb_iload_n X 2 dX4_meet_23 rfl rfl ?_
      refine kb_iload X 4 dX4_meet_24 rfl ?_
      refine kb_if_eq (tgt := 33) X dX4_meet_26 (by decide) (fun _ => ?_) (fun q_ => absurd q_ (by decide))
      refine kb_iconst (v := (-1 : Int32)) X dX4_meet_33 (by decide) ?_
      refine kc_Vv X (As := [.int (nI (p)), .int (nI (q)), .int (-1)]) (rest := []) (wr := []) (ct_X4_changeTie l g a v p q (-1 : Int32) (by omega) (by omega)) dX4_meet_34 rfl (kw_pall _) mc_X4_changeTie kl_X4_105 mi_X4_changeTie mv_X4_changeTie kn_X4 0 rfl rfl rfl (na := 3) (by decide +kernel) rfl ⟨Nat.le_of_ble_eq_true rfl, Nat.le_of_ble_eq_true rfl⟩ ⟨rfl, rfl⟩ ⟨Nat.le_of_ble_eq_true rfl, Nat.le_of_ble_eq_true rfl⟩ (Nat.le_of_ble_eq_true rfl) (fun w_ hp_ => ?_)
      obtain rfl := hp_
      refine kw_ws (List.append_nil _) ?_
      refine kb_iload_n X 3 dX4_meet_37 rfl rfl ?_
      refine kz_if_eq (b := cm) (tgt := 56) X dX4_meet_38 (by decide) (fun c6_ => ?_) (fun c6_ => ?_)
      · skip
        refine ke_v X Z dX4_meet_56 ?_
        exact (by first | rfl | (simp [zI, wMeet, c1_, c4_, c6_]; done) | (simp [zI, wMeet, c1_, c4_, c6_] <;> omega) | (simp_all [zI, wMeet, c1_, c4_, c6_]; done))
      · skip
        refine kb_aload_n X 0 dX4_meet_41 rfl rfl ?_
        refine kb_iload_n X 2 dX4_meet_42 rfl rfl ?_
        refine kb_iload_n X 1 dX4_meet_43 rfl rfl ?_
        refine kb_aload_n X 0 dX4_meet_44 rfl rfl ?_
        refine kb_iload_n X 2 dX4_meet_45 rfl rfl ?_
        refine kb_iload_n X 1 dX4_meet_46 rfl rfl ?_
        refine kc_Vi X (As := [.int (nI (q)), .int (nI (p))]) (rest := [.int (nI (p)), .int (nI (q)), .ref (a 0)]) (wr := []) (ct_X4_debtOf l g a (wTie v p q (-1 : Int32)) q p (by omega) (by omega)) dX4_meet_47 rfl (kw_pall _) mc_X4_debtOf kl_X4_74 mi_X4_debtOf mv_X4_debtOf kn_X4 0 rfl rfl rfl (na := 2) (by decide +kernel) rfl ⟨Nat.le_of_ble_eq_true rfl, Nat.le_of_ble_eq_true rfl⟩ ⟨rfl, rfl⟩ ⟨Nat.le_of_ble_eq_true rfl, Nat.le_of_ble_eq_true rfl⟩ (Nat.le_of_ble_eq_true rfl) (fun r_ w_ hp_ => ?_)
        obtain ⟨rfl, rfl⟩ := hp_
        refine kw_ws (List.append_nil _) ?_
        refine kb_iconst (v := (2 : Int32)) X dX4_meet_50 (by decide) ?_
        refine kb_idiv X dX4_meet_51 (by decide) ?_
        refine kc_Vi X (As := [.int (nI (q)), .int (nI (p)), .int ((vD v (q * 6 + p)) / (2 : Int32))]) (rest := []) (wr := []) (ct_X4_payOff l g a (wTie v p q (-1 : Int32)) q p ((vD v (q * 6 + p)) / (2 : Int32)) (by omega) (by omega)) dX4_meet_52 rfl (kw_pall _) mc_X4_payOff kl_X4_109 mi_X4_payOff mv_X4_payOff kn_X4 0 rfl rfl rfl (na := 3) (by decide +kernel) rfl ⟨Nat.le_of_ble_eq_true rfl, Nat.le_of_ble_eq_true rfl⟩ ⟨rfl, rfl⟩ ⟨Nat.le_of_ble_eq_true rfl, Nat.le_of_ble_eq_true rfl⟩ (Nat.le_of_ble_eq_true rfl) (fun r_ w_ hp_ => ?_)
        obtain ⟨rfl, rfl⟩ := hp_
        refine kw_ws (List.append_nil _) ?_
        refine kb_pop X dX4_meet_55 rfl ?_
        refine ke_v X Z dX4_meet_56 ?_
        exact (by first | rfl | (simp [zI, wMeet, c1_, c4_, c6_]; done) | (simp [zI, wMeet, c1_, c4_, c6_] <;> omega) | (simp_all [zI, wMeet, c1_, c4_, c6_]; done))
    · skip
      refine kb_iconst (v := (1 : Int32)) X dX4_meet_14 (by decide) ?_
      refine kb_goto (tgt := 19) X dX4_meet_15 (by decide) ?_
      refine kb_istore X [1, 2, 3, 4, 0] dX4_meet_19 (by decide) (lv' := [(0, .ref (a 0)), (1, .int (nI (p))), (2, .int (nI (q))), (3, .int (zI (cm))), (4, .int 1)]) rfl ?_
      refine kb_aload_n X 0 dX4_meet_21 rfl rfl ?_
      refine kb_iload_n X 1 dX4_meet_22 rfl rfl ?_
      refine kb_iload_n X 2 dX4_meet_23 rfl rfl ?_
      refine kb_iload X 4 dX4_meet_24 rfl ?_
      refine kb_if_eq (tgt := 33) X dX4_meet_26 (by decide) (fun q_ => absurd q_ (by decide)) (fun _ => ?_)
      refine kb_iconst (v := (1 : Int32)) X dX4_meet_29 (by decide) ?_
      refine kb_goto (tgt := 34) X dX4_meet_30 (by decide) ?_
      refine kc_Vv X (As := [.int (nI (p)), .int (nI (q)), .int 1]) (rest := []) (wr := []) (ct_X4_changeTie l g a v p q (1 : Int32) (by omega) (by omega)) dX4_meet_34 rfl (kw_pall _) mc_X4_changeTie kl_X4_105 mi_X4_changeTie mv_X4_changeTie kn_X4 0 rfl rfl rfl (na := 3) (by decide +kernel) rfl ⟨Nat.le_of_ble_eq_true rfl, Nat.le_of_ble_eq_true rfl⟩ ⟨rfl, rfl⟩ ⟨Nat.le_of_ble_eq_true rfl, Nat.le_of_ble_eq_true rfl⟩ (Nat.le_of_ble_eq_true rfl) (fun w_ hp_ => ?_)
      obtain rfl := hp_
      refine kw_ws (List.append_nil _) ?_
      refine kb_iload_n X 3 dX4_meet_37 rfl rfl ?_
      refine kz_if_eq (b := cm) (tgt := 56) X dX4_meet_38 (by decide) (fun c8_ => ?_) (fun c8_ => ?_)
      · skip
        refine ke_v X Z dX4_meet_56 ?_
        exact (by first | rfl | (simp [zI, wMeet, c1_, c4_, c8_]; done) | (simp [zI, wMeet, c1_, c4_, c8_] <;> omega) | (simp_all [zI, wMeet, c1_, c4_, c8_]; done))
      · skip
        refine kb_aload_n X 0 dX4_meet_41 rfl rfl ?_
        refine kb_iload_n X 2 dX4_meet_42 rfl rfl ?_
        refine kb_iload_n X 1 dX4_meet_43 rfl rfl ?_
        refine kb_aload_n X 0 dX4_meet_44 rfl rfl ?_
        refine kb_iload_n X 2 dX4_meet_45 rfl rfl ?_
        refine kb_iload_n X 1 dX4_meet_46 rfl rfl ?_
        refine kc_Vi X (As := [.int (nI (q)), .int (nI (p))]) (rest := [.int (nI (p)), .int (nI (q)), .ref (a 0)]) (wr := []) (ct_X4_debtOf l g a (wTie v p q (1 : Int32)) q p (by omega) (by omega)) dX4_meet_47 rfl (kw_pall _) mc_X4_debtOf kl_X4_74 mi_X4_debtOf mv_X4_debtOf kn_X4 0 rfl rfl rfl (na := 2) (by decide +kernel) rfl ⟨Nat.le_of_ble_eq_true rfl, Nat.le_of_ble_eq_true rfl⟩ ⟨rfl, rfl⟩ ⟨Nat.le_of_ble_eq_true rfl, Nat.le_of_ble_eq_true rfl⟩ (Nat.le_of_ble_eq_true rfl) (fun r_ w_ hp_ => ?_)
        obtain ⟨rfl, rfl⟩ := hp_
        refine kw_ws (List.append_nil _) ?_
        refine kb_iconst (v := (2 : Int32)) X dX4_meet_50 (by decide) ?_
        refine kb_idiv X dX4_meet_51 (by decide) ?_
        refine kc_Vi X (As := [.int (nI (q)), .int (nI (p)), .int ((vD v (q * 6 + p)) / (2 : Int32))]) (rest := []) (wr := []) (ct_X4_payOff l g a (wTie v p q (1 : Int32)) q p ((vD v (q * 6 + p)) / (2 : Int32)) (by omega) (by omega)) dX4_meet_52 rfl (kw_pall _) mc_X4_payOff kl_X4_109 mi_X4_payOff mv_X4_payOff kn_X4 0 rfl rfl rfl (na := 3) (by decide +kernel) rfl ⟨Nat.le_of_ble_eq_true rfl, Nat.le_of_ble_eq_true rfl⟩ ⟨rfl, rfl⟩ ⟨Nat.le_of_ble_eq_true rfl, Nat.le_of_ble_eq_true rfl⟩ (Nat.le_of_ble_eq_true rfl) (fun r_ w_ hp_ => ?_)
        obtain ⟨rfl, rfl⟩ := hp_
        refine kw_ws (List.append_nil _) ?_
        refine kb_pop X dX4_meet_55 rfl ?_
        refine ke_v X Z dX4_meet_56 ?_
        exact (by first | rfl | (simp [zI, wMeet, c1_, c4_, c8_]; done) | (simp [zI, wMeet, c1_, c4_, c8_] <;> omega) | (simp_all [zI, wMeet, c1_, c4_, c8_]; done))

set_option maxHeartbeats 4000000 in
set_option maxRecDepth 100000 in
theorem ct_X4_canGive (l : Launch) (g : kw_G) (a : Nat → Nat) (v : VS) (hv : VI v) (p q : Nat) (hp : p < 6) (hq : q < 6) : kMi l g yX4_canGive cX4_canGive 3 .boolean (kw_rm 3 0 0) 0 0 [.ref (a 0), .int (nI (p)), .int (nI (q))] (wV g a v) (fun r w => r = zI (wCanGive v p q) ∧ w = wV g a v) := by
  refine kMi_of (by decide +kernel) (Nat.le_of_ble_eq_true rfl) (fun x (X : kX l g RX4 cX4_canGive 3 (kw_rm 3 0 0) x) (Z : kZi .boolean _ 0 0 x) => ?_)
  show kW x 0 0 0 [(0, .ref (a 0)), (1, .int (nI (p))), (2, .int (nI (q)))] [] (wV g a v)
  refine kb_aload_n X 0 dX4_canGive_0 rfl rfl ?_
  refine kb_iload_n X 1 dX4_canGive_1 rfl rfl ?_
  refine kc_Vi X (As := [.int (nI (p))]) (rest := []) (wr := []) (ct_X4_lives l g a v hv p (by omega)) dX4_canGive_2 rfl (kw_pall _) mc_X4_lives kl_X4_71 mi_X4_lives mv_X4_lives kn_X4 0 rfl rfl rfl (na := 1) (by decide +kernel) rfl ⟨Nat.le_of_ble_eq_true rfl, Nat.le_of_ble_eq_true rfl⟩ ⟨rfl, rfl⟩ ⟨Nat.le_of_ble_eq_true rfl, Nat.le_of_ble_eq_true rfl⟩ (Nat.le_of_ble_eq_true rfl) (fun r_ w_ hp_ => ?_)
  obtain ⟨rfl, rfl⟩ := hp_
  refine kw_ws (List.append_nil _) ?_
  refine kz_if_eq (b := wLives v p) (tgt := 40) X dX4_canGive_5 (by decide) (fun c1_ => ?_) (fun c1_ => ?_)
  · skip
    refine kb_iconst (v := (0 : Int32)) X dX4_canGive_40 (by decide) ?_
    refine ke_z X Z rfl dX4_canGive_41 ?_
    exact ⟨(by first | rfl | (simp [zI, wCanGive, c1_]; done) | (simp [zI, wCanGive, c1_] <;> omega) | (simp_all [zI, wCanGive, c1_]; done)), (by first | rfl | (simp [zI, wCanGive, c1_]; done) | (simp [zI, wCanGive, c1_] <;> omega) | (simp_all [zI, wCanGive, c1_]; done))⟩
  · skip
    refine kb_aload_n X 0 dX4_canGive_8 rfl rfl ?_
    refine kb_iload_n X 2 dX4_canGive_9 rfl rfl ?_
    refine kc_Vi X (As := [.int (nI (q))]) (rest := []) (wr := []) (ct_X4_lives l g a v hv q (by omega)) dX4_canGive_10 rfl (kw_pall _) mc_X4_lives kl_X4_71 mi_X4_lives mv_X4_lives kn_X4 0 rfl rfl rfl (na := 1) (by decide +kernel) rfl ⟨Nat.le_of_ble_eq_true rfl, Nat.le_of_ble_eq_true rfl⟩ ⟨rfl, rfl⟩ ⟨Nat.le_of_ble_eq_true rfl, Nat.le_of_ble_eq_true rfl⟩ (Nat.le_of_ble_eq_true rfl) (fun r_ w_ hp_ => ?_)
    obtain ⟨rfl, rfl⟩ := hp_
    refine kw_ws (List.append_nil _) ?_
    refine kz_if_eq (b := wLives v q) (tgt := 40) X dX4_canGive_13 (by decide) (fun c2_ => ?_) (fun c2_ => ?_)
    · skip
      refine kb_iconst (v := (0 : Int32)) X dX4_canGive_40 (by decide) ?_
      refine ke_z X Z rfl dX4_canGive_41 ?_
      exact ⟨(by first | rfl | (simp [zI, wCanGive, c1_, c2_]; done) | (simp [zI, wCanGive, c1_, c2_] <;> omega) | (simp_all [zI, wCanGive, c1_, c2_]; done)), (by first | rfl | (simp [zI, wCanGive, c1_, c2_]; done) | (simp [zI, wCanGive, c1_, c2_] <;> omega) | (simp_all [zI, wCanGive, c1_, c2_]; done))⟩
    · skip
      refine kb_aload_n X 0 dX4_canGive_16 rfl rfl ?_
      refine kb_get (v := .ref (a 3)) (C := RX4) (T := TX4) (N := 11) (ci := 4) X kw_iX4 rfl 0 2 rfl (by decide) kf_X4_18 rfl rfl dX4_canGive_17 ?_
      refine kb_iload_n X 1 dX4_canGive_20 rfl rfl ?_
      refine kb_iald (i := p) X 3 rfl (by omega) (by decide) dX4_canGive_21 ?_
      refine kb_iconst (v := (2 : Int32)) X dX4_canGive_22 (by decide) ?_
      refine kb_icmp_lt (tgt := 40) X dX4_canGive_23 (by decide) (fun c3_ => ?_) (fun c3_ => ?_)
      · skip
        refine kb_iconst (v := (0 : Int32)) X dX4_canGive_40 (by decide) ?_
        refine ke_z X Z rfl dX4_canGive_41 ?_
        exact ⟨(by first | rfl | (simp [zI, wCanGive, c1_, c2_, c3_]; done) | (simp [zI, wCanGive, c1_, c2_, c3_] <;> omega) | (simp_all [zI, wCanGive, c1_, c2_, c3_]; done)), (by first | rfl | (simp [zI, wCanGive, c1_, c2_, c3_]; done) | (simp [zI, wCanGive, c1_, c2_, c3_] <;> omega) | (simp_all [zI, wCanGive, c1_, c2_, c3_]; done))⟩
      · skip
        refine kb_aload_n X 0 dX4_canGive_26 rfl rfl ?_
        refine kb_iload_n X 2 dX4_canGive_27 rfl rfl ?_
        refine kb_iload_n X 1 dX4_canGive_28 rfl rfl ?_
        refine kc_Vi X (As := [.int (nI (q)), .int (nI (p))]) (rest := []) (wr := []) (ct_X4_tieOf l g a v q p (by omega) (by omega)) dX4_canGive_29 rfl (kw_pall _) mc_X4_tieOf kl_X4_77 mi_X4_tieOf mv_X4_tieOf kn_X4 0 rfl rfl rfl (na := 2) (by decide +kernel) rfl ⟨Nat.le_of_ble_eq_true rfl, Nat.le_of_ble_eq_true rfl⟩ ⟨rfl, rfl⟩ ⟨Nat.le_of_ble_eq_true rfl, Nat.le_of_ble_eq_true rfl⟩ (Nat.le_of_ble_eq_true rfl) (fun r_ w_ hp_ => ?_)
        obtain ⟨rfl, rfl⟩ := hp_
        refine kw_ws (List.append_nil _) ?_
        refine kb_iconst (v := (5 : Int32)) X dX4_canGive_32 (by decide) ?_
        refine kb_icmp_ge (tgt := 40) X dX4_canGive_33 (by decide) (fun c4_ => ?_) (fun c4_ => ?_)
        · skip
          refine kb_iconst (v := (0 : Int32)) X dX4_canGive_40 (by decide) ?_
          refine ke_z X Z rfl dX4_canGive_41 ?_
          exact ⟨(by first | rfl | (simp [zI, wCanGive, c1_, c2_, c3_, c4_]; done) | (simp [zI, wCanGive, c1_, c2_, c3_, c4_] <;> omega) | (simp_all [zI, wCanGive, c1_, c2_, c3_, c4_]; done)), (by first | rfl | (simp [zI, wCanGive, c1_, c2_, c3_, c4_]; done) | (simp [zI, wCanGive, c1_, c2_, c3_, c4_] <;> omega) | (simp_all [zI, wCanGive, c1_, c2_, c3_, c4_]; done))⟩
        · skip
          refine kb_iconst (v := (1 : Int32)) X dX4_canGive_36 (by decide) ?_
          refine kb_goto (tgt := 41) X dX4_canGive_37 (by decide) ?_
          refine ke_z X Z rfl dX4_canGive_41 ?_
          exact ⟨(by first | rfl | (simp [zI, wCanGive, c1_, c2_, c3_, c4_]; done) | (simp [zI, wCanGive, c1_, c2_, c3_, c4_] <;> omega) | (simp_all [zI, wCanGive, c1_, c2_, c3_, c4_]; done)), (by first | rfl | (simp [zI, wCanGive, c1_, c2_, c3_, c4_]; done) | (simp [zI, wCanGive, c1_, c2_, c3_, c4_] <;> omega) | (simp_all [zI, wCanGive, c1_, c2_, c3_, c4_]; done))⟩

set_option maxHeartbeats 4000000 in
set_option maxRecDepth 100000 in
theorem ct_X4_give (l : Launch) (g : kw_G) (a : Nat → Nat) (v : VS) (p q : Nat) (hp : p < 6) (hq : q < 6) : kMv l g yX4_give cX4_give 3 (kw_rm 4 0 0) 0 0 [.ref (a 0), .int (nI (p)), .int (nI (q))] (wV g a v) (fun w => w = wV g a (wGive v p q)) := by
  refine kMv_of (by decide +kernel) (Nat.le_of_ble_eq_true rfl) (fun x (X : kX l g RX4 cX4_give 3 (kw_rm 4 0 0) x) (Z : kZv _ 0 0 x) => ?_)
  show kW x 0 0 0 [(0, .ref (a 0)), (1, .int (nI (p))), (2, .int (nI (q)))] [] (wV g a v)
  refine kb_aload_n X 0 dX4_give_0 rfl rfl ?_
  refine kb_get (v := .ref (a 3)) (C := RX4) (T := TX4) (N := 11) (ci := 4) X kw_iX4 rfl 0 2 rfl (by decide) kf_X4_18 rfl rfl dX4_give_1 ?_
  refine kb_iload_n X 1 dX4_give_4 rfl rfl ?_
  refine kb_dup2 X dX4_give_5 rfl rfl ?_
  refine kb_iald (i := p) X 3 rfl (by omega) (by decide) dX4_give_6 ?_
  refine kb_iconst (v := (2 : Int32)) X dX4_give_7 (by decide) ?_
  refine kb_isub X dX4_give_8 ?_
  refine kb_iast (i := p) X 3 rfl (by omega) (by decide) dX4_give_9 (ws' := wV g a (sC v (upd (vC v) p ((vC v p) - (2 : Int32))))) rfl ?_
  refine kb_aload_n X 0 dX4_give_10 rfl rfl ?_
  refine kb_iload_n X 2 dX4_give_11 rfl rfl ?_
  refine kb_iload_n X 1 dX4_give_12 rfl rfl ?_
  refine kb_iconst (v := (1 : Int32)) X dX4_give_13 (by decide) ?_
  refine kc_Vv X (As := [.int (nI (q)), .int (nI (p)), .int 1]) (rest := []) (wr := []) (ct_X4_changeTie l g a (sC v (upd (vC v) p ((vC v p) - (2 : Int32)))) q p (1 : Int32) (by omega) (by omega)) dX4_give_14 rfl (kw_pall _) mc_X4_changeTie kl_X4_105 mi_X4_changeTie mv_X4_changeTie kn_X4 0 rfl rfl rfl (na := 3) (by decide +kernel) rfl ⟨Nat.le_of_ble_eq_true rfl, Nat.le_of_ble_eq_true rfl⟩ ⟨rfl, rfl⟩ ⟨Nat.le_of_ble_eq_true rfl, Nat.le_of_ble_eq_true rfl⟩ (Nat.le_of_ble_eq_true rfl) (fun w_ hp_ => ?_)
  obtain rfl := hp_
  refine kw_ws (List.append_nil _) ?_
  refine ke_v X Z dX4_give_17 ?_
  exact (by first | rfl | (simp [zI, ]; done) | (simp [zI, ] <;> omega) | (simp_all [zI, ]; done))

set_option maxHeartbeats 4000000 in
set_option maxRecDepth 100000 in
theorem ct_X4_letDaysGoBy (l : Launch) (g : kw_G) (a : Nat → Nat) (v : VS) (d : Int32) : kMv l g yX4_letDaysGoBy cX4_letDaysGoBy 2 (kw_rm 1 0 0) 0 0 [.ref (a 0), .int (d)] (wV g a v) (fun w => w = wV g a (wDays v d)) := by
  refine kMv_of (by decide +kernel) (Nat.le_of_ble_eq_true rfl) (fun x (X : kX l g RX4 cX4_letDaysGoBy 2 (kw_rm 1 0 0) x) (Z : kZv _ 0 0 x) => ?_)
  show kW x 0 0 0 [(0, .ref (a 0)), (1, .int (d))] [] (wV g a v)
  refine kb_aload_n X 0 dX4_letDaysGoBy_0 rfl rfl ?_
  refine kb_dup X dX4_letDaysGoBy_1 rfl ?_
  refine kb_get (v := .int (vY v)) (C := RX4) (T := TX4) (N := 11) (ci := 4) X kw_iX4 rfl 0 9 rfl (by decide) kf_X4_40 rfl rfl dX4_letDaysGoBy_2 ?_
  refine kb_iload_n X 1 dX4_letDaysGoBy_5 rfl rfl ?_
  refine kb_iadd X dX4_letDaysGoBy_6 ?_
  refine kb_put X (C := RX4) (T := TX4) (N := 11) (ci := 4) (ty := .int) kw_iX4 tyX4 tyX4_ok nmX4 rfl 0 9 rfl (by decide) kf_X4_40 rfl rfl (by decide +kernel) rfl rfl (Nat.le_of_ble_eq_true rfl) dX4_letDaysGoBy_7 (ws' := wV g a (sY v ((vY v) + d))) rfl ?_
  refine kb_aload_n X 0 dX4_letDaysGoBy_10 rfl rfl ?_
  refine kb_iconst (v := (0 : Int32)) X dX4_letDaysGoBy_11 (by decide) ?_
  refine kb_put X (C := RX4) (T := TX4) (N := 11) (ci := 4) (ty := .int) kw_iX4 tyX4 tyX4_ok nmX4 rfl 0 10 rfl (by decide) kf_X4_43 rfl rfl (by decide +kernel) rfl rfl (Nat.le_of_ble_eq_true rfl) dX4_letDaysGoBy_12 (ws' := wV g a (sZ (sY v ((vY v) + d)) (0 : Int32))) rfl ?_
  refine ke_v X Z dX4_letDaysGoBy_15 ?_
  exact (by first | rfl | (simp [zI, ]; done) | (simp [zI, ] <;> omega) | (simp_all [zI, ]; done))

set_option maxHeartbeats 4000000 in
set_option maxRecDepth 100000 in
theorem ct_X4_gainOf (l : Launch) (g : kw_G) (a : Nat → Nat) (v : VS) (p q : Nat) (hp : p < 6) (hq : q < 6) : kMi l g yX4_gainOf cX4_gainOf 3 .int (kw_rm 3 0 0) 0 0 [.ref (a 0), .int (nI (p)), .int (nI (q))] (wV g a v) (fun r w => r = wGain v p q ∧ w = wV g a v) := by
  refine kMi_of (by decide +kernel) (Nat.le_of_ble_eq_true rfl) (fun x (X : kX l g RX4 cX4_gainOf 3 (kw_rm 3 0 0) x) (Z : kZi .int _ 0 0 x) => ?_)
  show kW x 0 0 0 [(0, .ref (a 0)), (1, .int (nI (p))), (2, .int (nI (q)))] [] (wV g a v)
  refine kb_iconst (v := (3 : Int32)) X dX4_gainOf_0 (by decide) ?_
  refine kb_aload_n X 0 dX4_gainOf_1 rfl rfl ?_
  refine kb_iload_n X 2 dX4_gainOf_2 rfl rfl ?_
  refine kb_iload_n X 1 dX4_gainOf_3 rfl rfl ?_
  refine kc_Vi X (As := [.int (nI (q)), .int (nI (p))]) (rest := [.int 3]) (wr := []) (ct_X4_tieOf l g a v q p (by omega) (by omega)) dX4_gainOf_4 rfl (kw_pall _) mc_X4_tieOf kl_X4_77 mi_X4_tieOf mv_X4_tieOf kn_X4 0 rfl rfl rfl (na := 2) (by decide +kernel) rfl ⟨Nat.le_of_ble_eq_true rfl, Nat.le_of_ble_eq_true rfl⟩ ⟨rfl, rfl⟩ ⟨Nat.le_of_ble_eq_true rfl, Nat.le_of_ble_eq_true rfl⟩ (Nat.le_of_ble_eq_true rfl) (fun r_ w_ hp_ => ?_)
  obtain ⟨rfl, rfl⟩ := hp_
  refine kw_ws (List.append_nil _) ?_
  refine kb_imul X dX4_gainOf_7 ?_
  refine kb_aload_n X 0 dX4_gainOf_8 rfl rfl ?_
  refine kb_get (v := .ref (a 3)) (C := RX4) (T := TX4) (N := 11) (ci := 4) X kw_iX4 rfl 0 2 rfl (by decide) kf_X4_18 rfl rfl dX4_gainOf_9 ?_
  refine kb_iload_n X 1 dX4_gainOf_12 rfl rfl ?_
  refine kb_iald (i := p) X 3 rfl (by omega) (by decide) dX4_gainOf_13 ?_
  refine kb_iadd X dX4_gainOf_14 ?_
  refine ke_i X Z dX4_gainOf_15 ?_
  exact ⟨(by first | rfl | (simp [zI, ]; done) | (simp [zI, ] <;> omega) | (simp_all [zI, ]; done)), (by first | rfl | (simp [zI, ]; done) | (simp [zI, ] <;> omega) | (simp_all [zI, ]; done))⟩

set_option maxHeartbeats 4000000 in
set_option maxRecDepth 100000 in
theorem ct_X4_heirOf (l : Launch) (g : kw_G) (a : Nat → Nat) (v : VS) (hv : VI v) (p : Nat) (hp : p < 6) : kMi l g yX4_heirOf cX4_heirOf 5 .int (kw_rm 3 0 0) 0 0 [.ref (a 0), .int (nI (p))] (wV g a v) (fun r w => r = wHeir v p ∧ w = wV g a v) := by
  refine kMi_of (by decide +kernel) (Nat.le_of_ble_eq_true rfl) (fun x (X : kX l g RX4 cX4_heirOf 5 (kw_rm 3 0 0) x) (Z : kZi .int _ 0 0 x) => ?_)
  show kW x 0 0 0 [(0, .ref (a 0)), (1, .int (nI (p)))] [] (wV g a v)
  have h6 := hv.1
  refine kb_bipush (v := (-4 : Int32)) X dX4_heirOf_0 (by decide) ?_
  refine kb_istore_n X [1, 2, 0] dX4_heirOf_2 rfl (by decide) (lv' := [(0, .ref (a 0)), (1, .int (nI (p))), (2, .int (-4))]) rfl ?_
  refine kb_bipush (v := (-5 : Int32)) X dX4_heirOf_3 (by decide) ?_
  refine kb_istore_n X [1, 2, 3, 0] dX4_heirOf_5 rfl (by decide) (lv' := [(0, .ref (a 0)), (1, .int (nI (p))), (2, .int (-4)), (3, .int (-5))]) rfl ?_
  refine kb_iconst (v := (0 : Int32)) X dX4_heirOf_6 (by decide) ?_
  refine kb_istore X [1, 2, 3, 4, 0] dX4_heirOf_7 (by decide) (lv' := [(0, .ref (a 0)), (1, .int (nI (p))), (2, .int (-4)), (3, .int (-5)), (4, .int 0)]) rfl ?_
  have L9 : ∀ (K_ i : Nat), i + K_ = vN v → kW x 0 0 9 [(0, .ref (a 0)), (1, .int (nI (p))), (2, .int ((wHr v p i).2)), (3, .int ((wHr v p i).1)), (4, .int (nI (i)))] [] (wV g a v) := by
    intro K_
    induction K_ with
    | zero =>
      intro i hi
      refine kb_iload X 4 dX4_heirOf_9 rfl ?_
      refine kb_aload_n X 0 dX4_heirOf_11 rfl rfl ?_
      refine kb_get (v := .int (nI (vN v))) (C := RX4) (T := TX4) (N := 11) (ci := 4) X kw_iX4 rfl 0 5 rfl (by decide) kf_X4_27 rfl rfl dX4_heirOf_12 ?_
      refine kn_icmp_ge (a := i) (b := vN v) (tgt := 61) X (by omega) (by omega) dX4_heirOf_15 (by decide) (fun c1_ => ?_) (fun c1_ => ?_)
      · skip
        refine kb_iload_n X 2 dX4_heirOf_61 rfl rfl ?_
        refine ke_i X Z dX4_heirOf_62 ?_
        exact ⟨by rw [wHeir, show i = vN v by omega], rfl⟩
      · skip
        omega
    | succ K_ ih =>
      intro i hi
      refine kb_iload X 4 dX4_heirOf_9 rfl ?_
      refine kb_aload_n X 0 dX4_heirOf_11 rfl rfl ?_
      refine kb_get (v := .int (nI (vN v))) (C := RX4) (T := TX4) (N := 11) (ci := 4) X kw_iX4 rfl 0 5 rfl (by decide) kf_X4_27 rfl rfl dX4_heirOf_12 ?_
      refine kn_icmp_ge (a := i) (b := vN v) (tgt := 61) X (by omega) (by omega) dX4_heirOf_15 (by decide) (fun c2_ => ?_) (fun c2_ => ?_)
      · skip
        omega
      · skip
        refine kb_iload X 4 dX4_heirOf_18 rfl ?_
        refine kb_iload_n X 1 dX4_heirOf_20 rfl rfl ?_
        refine kn_icmp_eq (a := i) (b := p) (tgt := 55) X (by omega) (by omega) dX4_heirOf_21 (by decide) (fun c3_ => ?_) (fun c3_ => ?_)
        · skip
          refine kb_iinc X 4 [1, 2, 3, 4, 0] (v' := nI (i + 1)) dX4_heirOf_55 rfl (nI_add _ _) (by decide) (lv' := [(0, .ref (a 0)), (1, .int (nI (p))), (2, .int ((wHr v p i).2)), (3, .int ((wHr v p i).1)), (4, .int (nI (i + 1)))]) rfl ?_
          refine kb_goto (tgt := 9) X dX4_heirOf_58 (by decide) ?_
          exact kw_to (ih (i + 1) (by omega)) (by simp [wHr, c2_, c3_]) rfl rfl
        · skip
          refine kb_aload_n X 0 dX4_heirOf_24 rfl rfl ?_
          refine kb_iload X 4 dX4_heirOf_25 rfl ?_
          refine kc_Vi X (As := [.int (nI (i))]) (rest := []) (wr := []) (ct_X4_lives l g a v hv i (by omega)) dX4_heirOf_27 rfl (kw_pall _) mc_X4_lives kl_X4_71 mi_X4_lives mv_X4_lives kn_X4 0 rfl rfl rfl (na := 1) (by decide +kernel) rfl ⟨Nat.le_of_ble_eq_true rfl, Nat.le_of_ble_eq_true rfl⟩ ⟨rfl, rfl⟩ ⟨Nat.le_of_ble_eq_true rfl, Nat.le_of_ble_eq_true rfl⟩ (Nat.le_of_ble_eq_true rfl) (fun r_ w_ hp_ => ?_)
          obtain ⟨rfl, rfl⟩ := hp_
          refine kw_ws (List.append_nil _) ?_
          refine kz_if_eq (b := wLives v i) (tgt := 55) X dX4_heirOf_30 (by decide) (fun c4_ => ?_) (fun c4_ => ?_)
          · skip
            refine kb_iinc X 4 [1, 2, 3, 4, 0] (v' := nI (i + 1)) dX4_heirOf_55 rfl (nI_add _ _) (by decide) (lv' := [(0, .ref (a 0)), (1, .int (nI (p))), (2, .int ((wHr v p i).2)), (3, .int ((wHr v p i).1)), (4, .int (nI (i + 1)))]) rfl ?_
            refine kb_goto (tgt := 9) X dX4_heirOf_58 (by decide) ?_
            exact kw_to (ih (i + 1) (by omega)) (by simp [wHr, c2_, c3_, c4_]) rfl rfl
          · skip
            refine kb_aload_n X 0 dX4_heirOf_33 rfl rfl ?_
            refine kb_iload_n X 1 dX4_heirOf_34 rfl rfl ?_
            refine kb_iload X 4 dX4_heirOf_35 rfl ?_
            refine kc_Vi X (As := [.int (nI (p)), .int (nI (i))]) (rest := []) (wr := []) (ct_X4_tieOf l g a v p i (by omega) (by omega)) dX4_heirOf_37 rfl (kw_pall _) mc_X4_tieOf kl_X4_77 mi_X4_tieOf mv_X4_tieOf kn_X4 0 rfl rfl rfl (na := 2) (by decide +kernel) rfl ⟨Nat.le_of_ble_eq_true rfl, Nat.le_of_ble_eq_true rfl⟩ ⟨rfl, rfl⟩ ⟨Nat.le_of_ble_eq_true rfl, Nat.le_of_ble_eq_true rfl⟩ (Nat.le_of_ble_eq_true rfl) (fun r_ w_ hp_ => ?_)
            obtain ⟨rfl, rfl⟩ := hp_
            refine kw_ws (List.append_nil _) ?_
            refine kb_iload_n X 3 dX4_heirOf_40 rfl rfl ?_
            refine kb_icmp_le (tgt := 55) X dX4_heirOf_41 (by decide) (fun c5_ => ?_) (fun c5_ => ?_)
            · skip
              refine kb_iinc X 4 [1, 2, 3, 4, 0] (v' := nI (i + 1)) dX4_heirOf_55 rfl (nI_add _ _) (by decide) (lv' := [(0, .ref (a 0)), (1, .int (nI (p))), (2, .int ((wHr v p i).2)), (3, .int ((wHr v p i).1)), (4, .int (nI (i + 1)))]) rfl ?_
              refine kb_goto (tgt := 9) X dX4_heirOf_58 (by decide) ?_
              exact kw_to (ih (i + 1) (by omega)) (by simp [wHr, c2_, c3_, c4_, c5_]) rfl rfl
            · skip
              refine kb_aload_n X 0 dX4_heirOf_44 rfl rfl ?_
              refine kb_iload_n X 1 dX4_heirOf_45 rfl rfl ?_
              refine kb_iload X 4 dX4_heirOf_46 rfl ?_
              refine kc_Vi X (As := [.int (nI (p)), .int (nI (i))]) (rest := []) (wr := []) (ct_X4_tieOf l g a v p i (by omega) (by omega)) dX4_heirOf_48 rfl (kw_pall _) mc_X4_tieOf kl_X4_77 mi_X4_tieOf mv_X4_tieOf kn_X4 0 rfl rfl rfl (na := 2) (by decide +kernel) rfl ⟨Nat.le_of_ble_eq_true rfl, Nat.le_of_ble_eq_true rfl⟩ ⟨rfl, rfl⟩ ⟨Nat.le_of_ble_eq_true rfl, Nat.le_of_ble_eq_true rfl⟩ (Nat.le_of_ble_eq_true rfl) (fun r_ w_ hp_ => ?_)
              obtain ⟨rfl, rfl⟩ := hp_
              refine kw_ws (List.append_nil _) ?_
              refine kb_istore_n X [1, 2, 3, 0, 4] dX4_heirOf_51 rfl (by decide) (lv' := [(0, .ref (a 0)), (1, .int (nI (p))), (2, .int ((wHr v p i).2)), (3, .int (vT v (p * 6 + i))), (4, .int (nI (i)))]) rfl ?_
              refine kb_iload X 4 dX4_heirOf_52 rfl ?_
              refine kb_istore_n X [1, 2, 0, 3, 4] dX4_heirOf_54 rfl (by decide) (lv' := [(0, .ref (a 0)), (1, .int (nI (p))), (2, .int (nI (i))), (3, .int (vT v (p * 6 + i))), (4, .int (nI (i)))]) rfl ?_
              refine kb_iinc X 4 [1, 2, 3, 4, 0] (v' := nI (i + 1)) dX4_heirOf_55 rfl (nI_add _ _) (by decide) (lv' := [(0, .ref (a 0)), (1, .int (nI (p))), (2, .int (nI (i))), (3, .int (vT v (p * 6 + i))), (4, .int (nI (i + 1)))]) rfl ?_
              refine kb_goto (tgt := 9) X dX4_heirOf_58 (by decide) ?_
              exact kw_to (ih (i + 1) (by omega)) (by simp [wHr, c2_, c3_, c4_, c5_]) rfl rfl
  exact kw_to (L9 (vN v) 0 (by omega)) rfl rfl rfl
