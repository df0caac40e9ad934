set_option maxHeartbeats 4000000 in
set_option maxRecDepth 100000 in
theorem ct_X5_areAlike (l : Launch) (g : kw_G) (p q N : Nat) (f h : Nat → Int32) (hN : N < 100) : kMi l g yX5_areAlike cX5_areAlike 3 .boolean (kw_rm 1 0 0) 0 0 [.ref (p), .ref (q)] (List.flatten [wArr g p N f, wArr g q N h]) (fun r w => r = zI (wAl f h N) ∧ w = List.flatten [wArr g p N f, wArr g q N h]) := by
  refine kMi_of (by decide +kernel) (Nat.le_of_ble_eq_true rfl) (fun x (X : kX l g RX5 cX5_areAlike 3 (kw_rm 1 0 0) x) (Z : kZi .boolean _ 0 0 x) => ?_)
  show kW x 0 0 0 [(0, .ref (p)), (1, .ref (q))] [] (List.flatten [wArr g p N f, wArr g q N h])
  refine kb_aload_n X 0 dX5_areAlike_0 rfl rfl ?_
  refine kf_alen (v := nI N) X 0 0 0 rfl rfl rfl rfl dX5_areAlike_1 ?_
  refine kb_aload_n X 1 dX5_areAlike_2 rfl rfl ?_
  refine kf_alen (v := nI N) X 0 1 0 rfl rfl rfl rfl dX5_areAlike_3 ?_
  refine kn_icmp_eq (a := N) (b := N) (tgt := 9) X (by omega) (by omega) dX5_areAlike_4 (by decide) (fun c1_ => ?_) (fun c1_ => ?_)
  · skip
    refine kb_iconst (v := (0 : Int32)) X dX5_areAlike_9 (by decide) ?_
    refine kb_istore_n X [1, 2, 0] dX5_areAlike_10 rfl (by decide) (lv' := [(0, .ref (p)), (1, .ref (q)), (2, .int 0)]) rfl ?_
    have L11 : ∀ (K_ i : Nat), i + K_ = N ∧ wAl f h i = true → kW x 0 0 11 [(0, .ref (p)), (1, .ref (q)), (2, .int (nI (i)))] [] (List.flatten [wArr g p N f, wArr g q N h]) := by
      intro K_
      induction K_ with
      | zero =>
        intro i hi
        have hi1 := hi.1
        refine kb_iload_n X 2 dX5_areAlike_11 rfl rfl ?_
        refine kb_aload_n X 0 dX5_areAlike_12 rfl rfl ?_
        refine kf_alen (v := nI N) X 0 0 0 rfl rfl rfl rfl dX5_areAlike_13 ?_
        refine kn_icmp_ge (a := i) (b := N) (tgt := 34) X (by omega) (by omega) dX5_areAlike_14 (by decide) (fun c2_ => ?_) (fun c2_ => ?_)
        · skip
          refine kb_iconst (v := (1 : Int32)) X dX5_areAlike_34 (by decide) ?_
          refine ke_z X Z rfl dX5_areAlike_35 ?_
          exact ⟨by rw [show N = i by omega, hi.2] <;> rfl, rfl⟩
        · skip
          omega
      | succ K_ ih =>
        intro i hi
        have hi1 := hi.1
        refine kb_iload_n X 2 dX5_areAlike_11 rfl rfl ?_
        refine kb_aload_n X 0 dX5_areAlike_12 rfl rfl ?_
        refine kf_alen (v := nI N) X 0 0 0 rfl rfl rfl rfl dX5_areAlike_13 ?_
        refine kn_icmp_ge (a := i) (b := N) (tgt := 34) X (by omega) (by omega) dX5_areAlike_14 (by decide) (fun c3_ => ?_) (fun c3_ => ?_)
        · skip
          omega
        · skip
          refine kb_aload_n X 0 dX5_areAlike_17 rfl rfl ?_
          refine kb_iload_n X 2 dX5_areAlike_18 rfl rfl ?_
          refine kf_iald (j := i) X 0 0 rfl rfl (by omega) (by omega) dX5_areAlike_19 ?_
          refine kb_aload_n X 1 dX5_areAlike_20 rfl rfl ?_
          refine kb_iload_n X 2 dX5_areAlike_21 rfl rfl ?_
          refine kf_iald (j := i) X 1 0 rfl rfl (by omega) (by omega) dX5_areAlike_22 ?_
          refine kb_icmp_eq (tgt := 28) X dX5_areAlike_23 (by decide) (fun c4_ => ?_) (fun c4_ => ?_)
          · skip
            refine kb_iinc X 2 [1, 2, 0] (v' := nI (i + 1)) dX5_areAlike_28 rfl (nI_add _ _) (by decide) (lv' := [(0, .ref (p)), (1, .ref (q)), (2, .int (nI (i + 1)))]) rfl ?_
            refine kb_goto (tgt := 11) X dX5_areAlike_31 (by decide) ?_
            exact kw_to (ih (i + 1) ⟨by omega, by simp [wAl, hi.2, c1_, c3_, c4_]⟩) rfl rfl rfl
          · skip
            refine kb_iconst (v := (0 : Int32)) X dX5_areAlike_26 (by decide) ?_
            refine ke_z X Z rfl dX5_areAlike_27 ?_
            exact ⟨by rw [wAl_no (i := i) (by omega) c4_] <;> rfl, rfl⟩
    exact kw_to (L11 N 0 ⟨by omega, rfl⟩) rfl rfl rfl
  · skip
    exact absurd rfl c1_

set_option maxHeartbeats 4000000 in
set_option maxRecDepth 100000 in
theorem ct_X4_copyFrom (l : Launch) (g : kw_G) (a b : Nat → Nat) (v w : VS) : kMv l g yX4_copyFrom cX4_copyFrom 2 (kw_rm 1 0 0) 0 0 [.ref (a 0), .ref (b 0)] (List.flatten [wV g a v, wV g b w]) (fun z => z = List.flatten [wV g a w, wV g b w]) := by
  refine kMv_of (by decide +kernel) (Nat.le_of_ble_eq_true rfl) (fun x (X : kX l g RX4 cX4_copyFrom 2 (kw_rm 1 0 0) x) (Z : kZv _ 0 0 x) => ?_)
  show kW x 0 0 0 [(0, .ref (a 0)), (1, .ref (b 0))] [] (List.flatten [wV g a v, wV g b w])
  refine kb_aload_n X 1 dX4_copyFrom_0 rfl rfl ?_
  refine kf_get (v := .ref (b 1)) (C := RX4) (T := TX4) (N := 11) (ci := 4) X kw_iX4 rfl 0 1 0 rfl rfl (by decide) kf_X4_9 rfl rfl dX4_copyFrom_1 ?_
  refine kb_iconst (v := (0 : Int32)) X dX4_copyFrom_4 (by decide) ?_
  refine kb_aload_n X 0 dX4_copyFrom_5 rfl rfl ?_
  refine kf_get (v := .ref (a 1)) (C := RX4) (T := TX4) (N := 11) (ci := 4) X kw_iX4 rfl 0 0 0 rfl rfl (by decide) kf_X4_9 rfl rfl dX4_copyFrom_6 ?_
  refine kb_iconst (v := (0 : Int32)) X dX4_copyFrom_9 (by decide) ?_
  refine kb_bipush (v := (6 : Int32)) X dX4_copyFrom_10 (by decide) ?_
  refine kb_acpyF (N := 6) X 7 1 rfl rfl kl_X4_46 (by decide) kn_J10 (Nat.le_of_ble_eq_true rfl) (Nat.le_of_ble_eq_true rfl) dX4_copyFrom_12 (ws' := List.flatten [wV g a (sK v (vK w)), wV g b w]) rfl ?_
  refine kb_aload_n X 1 dX4_copyFrom_15 rfl rfl ?_
  refine kf_get (v := .ref (b 2)) (C := RX4) (T := TX4) (N := 11) (ci := 4) X kw_iX4 rfl 1 1 0 rfl rfl (by decide) kf_X4_15 rfl rfl dX4_copyFrom_16 ?_
  refine kb_iconst (v := (0 : Int32)) X dX4_copyFrom_19 (by decide) ?_
  refine kb_aload_n X 0 dX4_copyFrom_20 rfl rfl ?_
  refine kf_get (v := .ref (a 2)) (C := RX4) (T := TX4) (N := 11) (ci := 4) X kw_iX4 rfl 1 0 0 rfl rfl (by decide) kf_X4_15 rfl rfl dX4_copyFrom_21 ?_
  refine kb_iconst (v := (0 : Int32)) X dX4_copyFrom_24 (by decide) ?_
  refine kb_bipush (v := (6 : Int32)) X dX4_copyFrom_25 (by decide) ?_
  refine kb_acpyF (N := 6) X 8 2 rfl rfl kl_X4_46 (by decide) kn_J10 (Nat.le_of_ble_eq_true rfl) (Nat.le_of_ble_eq_true rfl) dX4_copyFrom_27 (ws' := List.flatten [wV g a (sA (sK v (vK w)) (vA w)), wV g b w]) rfl ?_
  refine kb_aload_n X 1 dX4_copyFrom_30 rfl rfl ?_
  refine kf_get (v := .ref (b 3)) (C := RX4) (T := TX4) (N := 11) (ci := 4) X kw_iX4 rfl 2 1 0 rfl rfl (by decide) kf_X4_18 rfl rfl dX4_copyFrom_31 ?_
  refine kb_iconst (v := (0 : Int32)) X dX4_copyFrom_34 (by decide) ?_
  refine kb_aload_n X 0 dX4_copyFrom_35 rfl rfl ?_
  refine kf_get (v := .ref (a 3)) (C := RX4) (T := TX4) (N := 11) (ci := 4) X kw_iX4 rfl 2 0 0 rfl rfl (by decide) kf_X4_18 rfl rfl dX4_copyFrom_36 ?_
  refine kb_iconst (v := (0 : Int32)) X dX4_copyFrom_39 (by decide) ?_
  refine kb_bipush (v := (6 : Int32)) X dX4_copyFrom_40 (by decide) ?_
  refine kb_acpyF (N := 6) X 9 3 rfl rfl kl_X4_46 (by decide) kn_J10 (Nat.le_of_ble_eq_true rfl) (Nat.le_of_ble_eq_true rfl) dX4_copyFrom_42 (ws' := List.flatten [wV g a (sC (sA (sK v (vK w)) (vA w)) (vC w)), wV g b w]) rfl ?_
  refine kb_aload_n X 1 dX4_copyFrom_45 rfl rfl ?_
  refine kf_get (v := .ref (b 4)) (C := RX4) (T := TX4) (N := 11) (ci := 4) X kw_iX4 rfl 3 1 0 rfl rfl (by decide) kf_X4_21 rfl rfl dX4_copyFrom_46 ?_
  refine kb_iconst (v := (0 : Int32)) X dX4_copyFrom_49 (by decide) ?_
  refine kb_aload_n X 0 dX4_copyFrom_50 rfl rfl ?_
  refine kf_get (v := .ref (a 4)) (C := RX4) (T := TX4) (N := 11) (ci := 4) X kw_iX4 rfl 3 0 0 rfl rfl (by decide) kf_X4_21 rfl rfl dX4_copyFrom_51 ?_
  refine kb_iconst (v := (0 : Int32)) X dX4_copyFrom_54 (by decide) ?_
  refine kb_bipush (v := (36 : Int32)) X dX4_copyFrom_55 (by decide) ?_
  refine kb_acpyF (N := 36) X 10 4 rfl rfl kl_X4_46 (by decide) kn_J10 (Nat.le_of_ble_eq_true rfl) (Nat.le_of_ble_eq_true rfl) dX4_copyFrom_57 (ws' := List.flatten [wV g a (sT (sC (sA (sK v (vK w)) (vA w)) (vC w)) (vT w)), wV g b w]) rfl ?_
  refine kb_aload_n X 1 dX4_copyFrom_60 rfl rfl ?_
  refine kf_get (v := .ref (b 5)) (C := RX4) (T := TX4) (N := 11) (ci := 4) X kw_iX4 rfl 4 1 0 rfl rfl (by decide) kf_X4_24 rfl rfl dX4_copyFrom_61 ?_
  refine kb_iconst (v := (0 : Int32)) X dX4_copyFrom_64 (by decide) ?_
  refine kb_aload_n X 0 dX4_copyFrom_65 rfl rfl ?_
  refine kf_get (v := .ref (a 5)) (C := RX4) (T := TX4) (N := 11) (ci := 4) X kw_iX4 rfl 4 0 0 rfl rfl (by decide) kf_X4_24 rfl rfl dX4_copyFrom_66 ?_
  refine kb_iconst (v := (0 : Int32)) X dX4_copyFrom_69 (by decide) ?_
  refine kb_bipush (v := (36 : Int32)) X dX4_copyFrom_70 (by decide) ?_
  refine kb_acpyF (N := 36) X 11 5 rfl rfl kl_X4_46 (by decide) kn_J10 (Nat.le_of_ble_eq_true rfl) (Nat.le_of_ble_eq_true rfl) dX4_copyFrom_72 (ws' := List.flatten [wV g a (sD (sT (sC (sA (sK v (vK w)) (vA w)) (vC w)) (vT w)) (vD w)), wV g b w]) rfl ?_
  refine kb_aload_n X 0 dX4_copyFrom_75 rfl rfl ?_
  refine kb_aload_n X 1 dX4_copyFrom_76 rfl rfl ?_
  refine kf_get (v := .int (nI (vN w))) (C := RX4) (T := TX4) (N := 11) (ci := 4) X kw_iX4 rfl 5 1 0 rfl rfl (by decide) kf_X4_27 rfl rfl dX4_copyFrom_77 ?_
  refine kf_put (C := RX4) (T := TX4) (N := 11) (ci := 4) (ty := .int) (B' := wV g a (sN (sD (sT (sC (sA (sK v (vK w)) (vA w)) (vC w)) (vT w)) (vD w)) (vN w))) (L' := [wV g a (sN (sD (sT (sC (sA (sK v (vK w)) (vA w)) (vC w)) (vT w)) (vD w)) (vN w)), wV g b w]) X kw_iX4 tyX4 tyX4_ok nmX4 rfl 5 0 0 rfl rfl (by decide) kf_X4_27 rfl rfl (by decide +kernel) rfl rfl (Nat.le_of_ble_eq_true rfl) dX4_copyFrom_80 rfl rfl ?_
  refine kb_aload_n X 0 dX4_copyFrom_83 rfl rfl ?_
  refine kb_aload_n X 1 dX4_copyFrom_84 rfl rfl ?_
  refine kf_get (v := .int (vG w)) (C := RX4) (T := TX4) (N := 11) (ci := 4) X kw_iX4 rfl 6 1 0 rfl rfl (by decide) kf_X4_31 rfl rfl dX4_copyFrom_85 ?_
  refine kf_put (C := RX4) (T := TX4) (N := 11) (ci := 4) (ty := .int) (B' := wV g a (sG (sN (sD (sT (sC (sA (sK v (vK w)) (vA w)) (vC w)) (vT w)) (vD w)) (vN w)) (vG w))) (L' := [wV g a (sG (sN (sD (sT (sC (sA (sK v (vK w)) (vA w)) (vC w)) (vT w)) (vD w)) (vN w)) (vG w)), wV g b w]) X kw_iX4 tyX4 tyX4_ok nmX4 rfl 6 0 0 rfl rfl (by decide) kf_X4_31 rfl rfl (by decide +kernel) rfl rfl (Nat.le_of_ble_eq_true rfl) dX4_copyFrom_88 rfl rfl ?_
  refine kb_aload_n X 0 dX4_copyFrom_91 rfl rfl ?_
  refine kb_aload_n X 1 dX4_copyFrom_92 rfl rfl ?_
  refine kf_get (v := .int (nI (vX w))) (C := RX4) (T := TX4) (N := 11) (ci := 4) X kw_iX4 rfl 7 1 0 rfl rfl (by decide) kf_X4_34 rfl rfl dX4_copyFrom_93 ?_
  refine kf_put (C := RX4) (T := TX4) (N := 11) (ci := 4) (ty := .int) (B' := wV g a (sX (sG (sN (sD (sT (sC (sA (sK v (vK w)) (vA w)) (vC w)) (vT w)) (vD w)) (vN w)) (vG w)) (vX w))) (L' := [wV g a (sX (sG (sN (sD (sT (sC (sA (sK v (vK w)) (vA w)) (vC w)) (vT w)) (vD w)) (vN w)) (vG w)) (vX w)), wV g b w]) X kw_iX4 tyX4 tyX4_ok nmX4 rfl 7 0 0 rfl rfl (by decide) kf_X4_34 rfl rfl (by decide +kernel) rfl rfl (Nat.le_of_ble_eq_true rfl) dX4_copyFrom_96 rfl rfl ?_
  refine kb_aload_n X 0 dX4_copyFrom_99 rfl rfl ?_
  refine kb_aload_n X 1 dX4_copyFrom_100 rfl rfl ?_
  refine kf_get (v := .int (nI (vH w))) (C := RX4) (T := TX4) (N := 11) (ci := 4) X kw_iX4 rfl 8 1 0 rfl rfl (by decide) kf_X4_37 rfl rfl dX4_copyFrom_101 ?_
  refine kf_put (C := RX4) (T := TX4) (N := 11) (ci := 4) (ty := .int) (B' := wV g a (sH (sX (sG (sN (sD (sT (sC (sA (sK v (vK w)) (vA w)) (vC w)) (vT w)) (vD w)) (vN w)) (vG w)) (vX w)) (vH w))) (L' := [wV g a (sH (sX (sG (sN (sD (sT (sC (sA (sK v (vK w)) (vA w)) (vC w)) (vT w)) (vD w)) (vN w)) (vG w)) (vX w)) (vH w)), wV g b w]) X kw_iX4 tyX4 tyX4_ok nmX4 rfl 8 0 0 rfl rfl (by decide) kf_X4_37 rfl rfl (by decide +kernel) rfl rfl (Nat.le_of_ble_eq_true rfl) dX4_copyFrom_104 rfl rfl ?_
  refine kb_aload_n X 0 dX4_copyFrom_107 rfl rfl ?_
  refine kb_aload_n X 1 dX4_copyFrom_108 rfl rfl ?_
  refine kf_get (v := .int (vY w)) (C := RX4) (T := TX4) (N := 11) (ci := 4) X kw_iX4 rfl 9 1 0 rfl rfl (by decide) kf_X4_40 rfl rfl dX4_copyFrom_109 ?_
  refine kf_put (C := RX4) (T := TX4) (N := 11) (ci := 4) (ty := .int) (B' := wV g a (sY (sH (sX (sG (sN (sD (sT (sC (sA (sK v (vK w)) (vA w)) (vC w)) (vT w)) (vD w)) (vN w)) (vG w)) (vX w)) (vH w)) (vY w))) (L' := [wV g a (sY (sH (sX (sG (sN (sD (sT (sC (sA (sK v (vK w)) (vA w)) (vC w)) (vT w)) (vD w)) (vN w)) (vG w)) (vX w)) (vH w)) (vY w)), wV g b w]) X kw_iX4 tyX4 tyX4_ok nmX4 rfl 9 0 0 rfl rfl (by decide) kf_X4_40 rfl rfl (by decide +kernel) rfl rfl (Nat.le_of_ble_eq_true rfl) dX4_copyFrom_112 rfl rfl ?_
  refine kb_aload_n X 0 dX4_copyFrom_115 rfl rfl ?_
  refine kb_aload_n X 1 dX4_copyFrom_116 rfl rfl ?_
  refine kf_get (v := .int (vZ w)) (C := RX4) (T := TX4) (N := 11) (ci := 4) X kw_iX4 rfl 10 1 0 rfl rfl (by decide) kf_X4_43 rfl rfl dX4_copyFrom_117 ?_
  refine kf_put (C := RX4) (T := TX4) (N := 11) (ci := 4) (ty := .int) (B' := wV g a (sZ (sY (sH (sX (sG (sN (sD (sT (sC (sA (sK v (vK w)) (vA w)) (vC w)) (vT w)) (vD w)) (vN w)) (vG w)) (vX w)) (vH w)) (vY w)) (vZ w))) (L' := [wV g a (sZ (sY (sH (sX (sG (sN (sD (sT (sC (sA (sK v (vK w)) (vA w)) (vC w)) (vT w)) (vD w)) (vN w)) (vG w)) (vX w)) (vH w)) (vY w)) (vZ w)), wV g b w]) X kw_iX4 tyX4 tyX4_ok nmX4 rfl 10 0 0 rfl rfl (by decide) kf_X4_43 rfl rfl (by decide +kernel) rfl rfl (Nat.le_of_ble_eq_true rfl) dX4_copyFrom_120 rfl rfl ?_
  refine ke_v X Z dX4_copyFrom_123 ?_
  exact (by first | rfl | (simp [zI, ]; done) | (simp [zI, ] <;> omega) | (simp_all [zI, ]; done))

set_option maxHeartbeats 4000000 in
set_option maxRecDepth 100000 in
theorem ct_X4_isLike (l : Launch) (g : kw_G) (a b : Nat → Nat) (v w : VS) (hv : VI v) (hw : VI w) : kMi l g yX4_isLike cX4_isLike 2 .boolean (kw_rm 2 0 0) 0 0 [.ref (a 0), .ref (b 0)] (List.flatten [wV g a v, wV g b w]) (fun r z => r = zI (wLike v w) ∧ z = List.flatten [wV g a v, wV g b w]) := by
  refine kMi_of (by decide +kernel) (Nat.le_of_ble_eq_true rfl) (fun x (X : kX l g RX4 cX4_isLike 2 (kw_rm 2 0 0) x) (Z : kZi .boolean _ 0 0 x) => ?_)
  show kW x 0 0 0 [(0, .ref (a 0)), (1, .ref (b 0))] [] (List.flatten [wV g a v, wV g b w])
  obtain ⟨h1, h2, h3⟩ := id hv
  obtain ⟨k1, k2, k3⟩ := id hw
  refine kw_ws (ws' := List.flatten [[(a 0, .inr (4, [.ref (a 1), .ref (a 2), .ref (a 3), .ref (a 4), .ref (a 5), .int (nI (vN v)), .int (vG v), .int (nI (vX v)), .int (nI (vH v)), .int (vY v), .int (vZ v)]))], wArr g (a 1) 6 (vK v), wArr g (a 2) 6 (vA v), wArr g (a 3) 6 (vC v), wArr g (a 4) 36 (vT v), wArr g (a 5) 36 (vD v), [(b 0, .inr (4, [.ref (b 1), .ref (b 2), .ref (b 3), .ref (b 4), .ref (b 5), .int (nI (vN w)), .int (vG w), .int (nI (vX w)), .int (nI (vH w)), .int (vY w), .int (vZ w)]))], wArr g (b 1) 6 (vK w), wArr g (b 2) 6 (vA w), wArr g (b 3) 6 (vC w), wArr g (b 4) 36 (vT w), wArr g (b 5) 36 (vD w)]) rfl ?_
  refine kb_aload_n X 0 dX4_isLike_0 rfl rfl ?_
  refine kf_get (v := .int (nI (vN v))) (C := RX4) (T := TX4) (N := 11) (ci := 4) X kw_iX4 rfl 5 0 0 rfl rfl (by decide) kf_X4_27 rfl rfl dX4_isLike_1 ?_
  refine kb_aload_n X 1 dX4_isLike_4 rfl rfl ?_
  refine kf_get (v := .int (nI (vN w))) (C := RX4) (T := TX4) (N := 11) (ci := 4) X kw_iX4 rfl 5 6 0 rfl rfl (by decide) kf_X4_27 rfl rfl dX4_isLike_5 ?_
  refine kn_icmp_ne (a := vN v) (b := vN w) (tgt := 140) X (by omega) (by omega) dX4_isLike_8 (by decide) (fun c1_ => ?_) (fun c1_ => ?_)
  · skip
    refine kb_iconst (v := (0 : Int32)) X dX4_isLike_140 (by decide) ?_
    refine ke_z X Z rfl dX4_isLike_141 ?_
    exact ⟨(by first | rfl | (simp [zI, wLike, c1_]; done) | (simp [zI, wLike, c1_] <;> omega) | (simp_all [zI, wLike, c1_]; done)), (by first | rfl | (simp [zI, wLike, c1_]; done) | (simp [zI, wLike, c1_] <;> omega) | (simp_all [zI, wLike, c1_]; done))⟩
  · skip
    refine kb_aload_n X 0 dX4_isLike_11 rfl rfl ?_
    refine kf_get (v := .int (vG v)) (C := RX4) (T := TX4) (N := 11) (ci := 4) X kw_iX4 rfl 6 0 0 rfl rfl (by decide) kf_X4_31 rfl rfl dX4_isLike_12 ?_
    refine kb_aload_n X 1 dX4_isLike_15 rfl rfl ?_
    refine kf_get (v := .int (vG w)) (C := RX4) (T := TX4) (N := 11) (ci := 4) X kw_iX4 rfl 6 6 0 rfl rfl (by decide) kf_X4_31 rfl rfl dX4_isLike_16 ?_
    refine kb_icmp_ne (tgt := 140) X dX4_isLike_19 (by decide) (fun c2_ => ?_) (fun c2_ => ?_)
    · skip
      refine kb_iconst (v := (0 : Int32)) X dX4_isLike_140 (by decide) ?_
      refine ke_z X Z rfl dX4_isLike_141 ?_
      exact ⟨(by first | rfl | (simp [zI, wLike, c1_, c2_]; done) | (simp [zI, wLike, c1_, c2_] <;> omega) | (simp_all [zI, wLike, c1_, c2_]; done)), (by first | rfl | (simp [zI, wLike, c1_, c2_]; done) | (simp [zI, wLike, c1_, c2_] <;> omega) | (simp_all [zI, wLike, c1_, c2_]; done))⟩
    · skip
      refine kb_aload_n X 0 dX4_isLike_22 rfl rfl ?_
      refine kf_get (v := .int (nI (vX v))) (C := RX4) (T := TX4) (N := 11) (ci := 4) X kw_iX4 rfl 7 0 0 rfl rfl (by decide) kf_X4_34 rfl rfl dX4_isLike_23 ?_
      refine kb_aload_n X 1 dX4_isLike_26 rfl rfl ?_
      refine kf_get (v := .int (nI (vX w))) (C := RX4) (T := TX4) (N := 11) (ci := 4) X kw_iX4 rfl 7 6 0 rfl rfl (by decide) kf_X4_34 rfl rfl dX4_isLike_27 ?_
      refine kn_icmp_ne (a := vX v) (b := vX w) (tgt := 140) X (by omega) (by omega) dX4_isLike_30 (by decide) (fun c3_ => ?_) (fun c3_ => ?_)
      · skip
        refine kb_iconst (v := (0 : Int32)) X dX4_isLike_140 (by decide) ?_
        refine ke_z X Z rfl dX4_isLike_141 ?_
        exact ⟨(by first | rfl | (simp [zI, wLike, c1_, c2_, c3_]; done) | (simp [zI, wLike, c1_, c2_, c3_] <;> omega) | (simp_all [zI, wLike, c1_, c2_, c3_]; done)), (by first | rfl | (simp [zI, wLike, c1_, c2_, c3_]; done) | (simp [zI, wLike, c1_, c2_, c3_] <;> omega) | (simp_all [zI, wLike, c1_, c2_, c3_]; done))⟩
      · skip
        refine kb_aload_n X 0 dX4_isLike_33 rfl rfl ?_
        refine kf_get (v := .int (nI (vH v))) (C := RX4) (T := TX4) (N := 11) (ci := 4) X kw_iX4 rfl 8 0 0 rfl rfl (by decide) kf_X4_37 rfl rfl dX4_isLike_34 ?_
        refine kb_aload_n X 1 dX4_isLike_37 rfl rfl ?_
        refine kf_get (v := .int (nI (vH w))) (C := RX4) (T := TX4) (N := 11) (ci := 4) X kw_iX4 rfl 8 6 0 rfl rfl (by decide) kf_X4_37 rfl rfl dX4_isLike_38 ?_
        refine kn_icmp_ne (a := vH v) (b := vH w) (tgt := 140) X (by omega) (by omega) dX4_isLike_41 (by decide) (fun c4_ => ?_) (fun c4_ => ?_)
        · skip
          refine kb_iconst (v := (0 : Int32)) X dX4_isLike_140 (by decide) ?_
          refine ke_z X Z rfl dX4_isLike_141 ?_
          exact ⟨(by first | rfl | (simp [zI, wLike, c1_, c2_, c3_, c4_]; done) | (simp [zI, wLike, c1_, c2_, c3_, c4_] <;> omega) | (simp_all [zI, wLike, c1_, c2_, c3_, c4_]; done)), (by first | rfl | (simp [zI, wLike, c1_, c2_, c3_, c4_]; done) | (simp [zI, wLike, c1_, c2_, c3_, c4_] <;> omega) | (simp_all [zI, wLike, c1_, c2_, c3_, c4_]; done))⟩
        · skip
          refine kb_aload_n X 0 dX4_isLike_44 rfl rfl ?_
          refine kf_get (v := .int (vY v)) (C := RX4) (T := TX4) (N := 11) (ci := 4) X kw_iX4 rfl 9 0 0 rfl rfl (by decide) kf_X4_40 rfl rfl dX4_isLike_45 ?_
          refine kb_aload_n X 1 dX4_isLike_48 rfl rfl ?_
          refine kf_get (v := .int (vY w)) (C := RX4) (T := TX4) (N := 11) (ci := 4) X kw_iX4 rfl 9 6 0 rfl rfl (by decide) kf_X4_40 rfl rfl dX4_isLike_49 ?_
          refine kb_icmp_ne (tgt := 140) X dX4_isLike_52 (by decide) (fun c5_ => ?_) (fun c5_ => ?_)
          · skip
            refine kb_iconst (v := (0 : Int32)) X dX4_isLike_140 (by decide) ?_
            refine ke_z X Z rfl dX4_isLike_141 ?_
            exact ⟨(by first | rfl | (simp [zI, wLike, c1_, c2_, c3_, c4_, c5_]; done) | (simp [zI, wLike, c1_, c2_, c3_, c4_, c5_] <;> omega) | (simp_all [zI, wLike, c1_, c2_, c3_, c4_, c5_]; done)), (by first | rfl | (simp [zI, wLike, c1_, c2_, c3_, c4_, c5_]; done) | (simp [zI, wLike, c1_, c2_, c3_, c4_, c5_] <;> omega) | (simp_all [zI, wLike, c1_, c2_, c3_, c4_, c5_]; done))⟩
          · skip
            refine kb_aload_n X 0 dX4_isLike_55 rfl rfl ?_
            refine kf_get (v := .int (vZ v)) (C := RX4) (T := TX4) (N := 11) (ci := 4) X kw_iX4 rfl 10 0 0 rfl rfl (by decide) kf_X4_43 rfl rfl dX4_isLike_56 ?_
            refine kb_aload_n X 1 dX4_isLike_59 rfl rfl ?_
            refine kf_get (v := .int (vZ w)) (C := RX4) (T := TX4) (N := 11) (ci := 4) X kw_iX4 rfl 10 6 0 rfl rfl (by decide) kf_X4_43 rfl rfl dX4_isLike_60 ?_
            refine kb_icmp_ne (tgt := 140) X dX4_isLike_63 (by decide) (fun c6_ => ?_) (fun c6_ => ?_)
            · skip
              refine kb_iconst (v := (0 : Int32)) X dX4_isLike_140 (by decide) ?_
              refine ke_z X Z rfl dX4_isLike_141 ?_
              exact ⟨(by first | rfl | (simp [zI, wLike, c1_, c2_, c3_, c4_, c5_, c6_]; done) | (simp [zI, wLike, c1_, c2_, c3_, c4_, c5_, c6_] <;> omega) | (simp_all [zI, wLike, c1_, c2_, c3_, c4_, c5_, c6_]; done)), (by first | rfl | (simp [zI, wLike, c1_, c2_, c3_, c4_, c5_, c6_]; done) | (simp [zI, wLike, c1_, c2_, c3_, c4_, c5_, c6_] <;> omega) | (simp_all [zI, wLike, c1_, c2_, c3_, c4_, c5_, c6_]; done))⟩
            · skip
              refine kb_aload_n X 0 dX4_isLike_66 rfl rfl ?_
              refine kf_get (v := .ref (a 1)) (C := RX4) (T := TX4) (N := 11) (ci := 4) X kw_iX4 rfl 0 0 0 rfl rfl (by decide) kf_X4_9 rfl rfl dX4_isLike_67 ?_
              refine kb_aload_n X 1 dX4_isLike_70 rfl rfl ?_
              refine kf_get (v := .ref (b 1)) (C := RX4) (T := TX4) (N := 11) (ci := 4) X kw_iX4 rfl 0 6 0 rfl rfl (by decide) kf_X4_9 rfl rfl dX4_isLike_71 ?_
              refine kc_SNi X (As := [.ref (a 1), .ref (b 1)]) (rest := []) (wr := List.flatten [[(a 0, .inr (4, [.ref (a 1), .ref (a 2), .ref (a 3), .ref (a 4), .ref (a 5), .int (nI (vN v)), .int (vG v), .int (nI (vX v)), .int (nI (vH v)), .int (vY v), .int (vZ v)]))], wArr g (a 2) 6 (vA v), wArr g (a 3) 6 (vC v), wArr g (a 4) 36 (vT v), wArr g (a 5) 36 (vD v), [(b 0, .inr (4, [.ref (b 1), .ref (b 2), .ref (b 3), .ref (b 4), .ref (b 5), .int (nI (vN w)), .int (vG w), .int (nI (vX w)), .int (nI (vH w)), .int (vY w), .int (vZ w)]))], wArr g (b 2) 6 (vA w), wArr g (b 3) 6 (vC w), wArr g (b 4) 36 (vT w), wArr g (b 5) 36 (vD w)]) (ct_X5_areAlike l g (a 1) (b 1) 6 (vK v) (vK w) (by decide)) dX4_isLike_74 rfl (kw_pk2 [[(a 0, .inr (4, [.ref (a 1), .ref (a 2), .ref (a 3), .ref (a 4), .ref (a 5), .int (nI (vN v)), .int (vG v), .int (nI (vX v)), .int (nI (vH v)), .int (vY v), .int (vZ v)]))], wArr g (a 1) 6 (vK v), wArr g (a 2) 6 (vA v), wArr g (a 3) 6 (vC v), wArr g (a 4) 36 (vT v), wArr g (a 5) 36 (vD v), [(b 0, .inr (4, [.ref (b 1), .ref (b 2), .ref (b 3), .ref (b 4), .ref (b 5), .int (nI (vN w)), .int (vG w), .int (nI (vX w)), .int (nI (vH w)), .int (vY w), .int (vZ w)]))], wArr g (b 1) 6 (vK w), wArr g (b 2) 6 (vA w), wArr g (b 3) 6 (vC w), wArr g (b 4) 36 (vT w), wArr g (b 5) 36 (vD w)] 1 6 (Nat.le_of_ble_eq_true rfl) (Nat.le_of_ble_eq_true rfl)) mc_X5_areAlike (by simp [kw_nest]) ms_X5_areAlike kn_X5 (na := 2) (by decide +kernel) rfl ⟨Nat.le_of_ble_eq_true rfl, Nat.le_of_ble_eq_true rfl⟩ ⟨rfl, rfl⟩ ⟨Nat.le_of_ble_eq_true rfl, Nat.le_of_ble_eq_true rfl⟩ (Nat.le_of_ble_eq_true rfl) (fun r_ w_ hp_ => ?_)
              obtain ⟨rfl, rfl⟩ := hp_
              refine kw_perm (ws' := List.flatten [[(a 0, .inr (4, [.ref (a 1), .ref (a 2), .ref (a 3), .ref (a 4), .ref (a 5), .int (nI (vN v)), .int (vG v), .int (nI (vX v)), .int (nI (vH v)), .int (vY v), .int (vZ v)]))], wArr g (a 1) 6 (vK v), wArr g (a 2) 6 (vA v), wArr g (a 3) 6 (vC v), wArr g (a 4) 36 (vT v), wArr g (a 5) 36 (vD v), [(b 0, .inr (4, [.ref (b 1), .ref (b 2), .ref (b 3), .ref (b 4), .ref (b 5), .int (nI (vN w)), .int (vG w), .int (nI (vX w)), .int (nI (vH w)), .int (vY w), .int (vZ w)]))], wArr g (b 1) 6 (vK w), wArr g (b 2) 6 (vA w), wArr g (b 3) 6 (vC w), wArr g (b 4) 36 (vT w), wArr g (b 5) 36 (vD w)]) (kw_pk2 [[(a 0, .inr (4, [.ref (a 1), .ref (a 2), .ref (a 3), .ref (a 4), .ref (a 5), .int (nI (vN v)), .int (vG v), .int (nI (vX v)), .int (nI (vH v)), .int (vY v), .int (vZ v)]))], wArr g (a 1) 6 (vK v), wArr g (a 2) 6 (vA v), wArr g (a 3) 6 (vC v), wArr g (a 4) 36 (vT v), wArr g (a 5) 36 (vD v), [(b 0, .inr (4, [.ref (b 1), .ref (b 2), .ref (b 3), .ref (b 4), .ref (b 5), .int (nI (vN w)), .int (vG w), .int (nI (vX w)), .int (nI (vH w)), .int (vY w), .int (vZ w)]))], wArr g (b 1) 6 (vK w), wArr g (b 2) 6 (vA w), wArr g (b 3) 6 (vC w), wArr g (b 4) 36 (vT w), wArr g (b 5) 36 (vD w)] 1 6 (Nat.le_of_ble_eq_true rfl) (Nat.le_of_ble_eq_true rfl)).symm ?_
              refine kz_if_eq (b := wAl (vK v) (vK w) 6) (tgt := 140) X dX4_isLike_77 (by decide) (fun c7_ => ?_) (fun c7_ => ?_)
              · skip
                refine kb_iconst (v := (0 : Int32)) X dX4_isLike_140 (by decide) ?_
                refine ke_z X Z rfl dX4_isLike_141 ?_
                exact ⟨(by first | rfl | (simp [zI, wLike, c1_, c2_, c3_, c4_, c5_, c6_, c7_]; done) | (simp [zI, wLike, c1_, c2_, c3_, c4_, c5_, c6_, c7_] <;> omega) | (simp_all [zI, wLike, c1_, c2_, c3_, c4_, c5_, c6_, c7_]; done)), (by first | rfl | (simp [zI, wLike, c1_, c2_, c3_, c4_, c5_, c6_, c7_]; done) | (simp [zI, wLike, c1_, c2_, c3_, c4_, c5_, c6_, c7_] <;> omega) | (simp_all [zI, wLike, c1_, c2_, c3_, c4_, c5_, c6_, c7_]; done))⟩
              · skip
                refine kb_aload_n X 0 dX4_isLike_80 rfl rfl ?_
                refine kf_get (v := .ref (a 2)) (C := RX4) (T := TX4) (N := 11) (ci := 4) X kw_iX4 rfl 1 0 0 rfl rfl (by decide) kf_X4_15 rfl rfl dX4_isLike_81 ?_
                refine kb_aload_n X 1 dX4_isLike_84 rfl rfl ?_
                refine kf_get (v := .ref (b 2)) (C := RX4) (T := TX4) (N := 11) (ci := 4) X kw_iX4 rfl 1 6 0 rfl rfl (by decide) kf_X4_15 rfl rfl dX4_isLike_85 ?_
                refine kc_SNi X (As := [.ref (a 2), .ref (b 2)]) (rest := []) (wr := List.flatten [[(a 0, .inr (4, [.ref (a 1), .ref (a 2), .ref (a 3), .ref (a 4), .ref (a 5), .int (nI (vN v)), .int (vG v), .int (nI (vX v)), .int (nI (vH v)), .int (vY v), .int (vZ v)]))], wArr g (a 1) 6 (vK v), wArr g (a 3) 6 (vC v), wArr g (a 4) 36 (vT v), wArr g (a 5) 36 (vD v), [(b 0, .inr (4, [.ref (b 1), .ref (b 2), .ref (b 3), .ref (b 4), .ref (b 5), .int (nI (vN w)), .int (vG w), .int (nI (vX w)), .int (nI (vH w)), .int (vY w), .int (vZ w)]))], wArr g (b 1) 6 (vK w), wArr g (b 3) 6 (vC w), wArr g (b 4) 36 (vT w), wArr g (b 5) 36 (vD w)]) (ct_X5_areAlike l g (a 2) (b 2) 6 (vA v) (vA w) (by decide)) dX4_isLike_88 rfl (kw_pk2 [[(a 0, .inr (4, [.ref (a 1), .ref (a 2), .ref (a 3), .ref (a 4), .ref (a 5), .int (nI (vN v)), .int (vG v), .int (nI (vX v)), .int (nI (vH v)), .int (vY v), .int (vZ v)]))], wArr g (a 1) 6 (vK v), wArr g (a 2) 6 (vA v), wArr g (a 3) 6 (vC v), wArr g (a 4) 36 (vT v), wArr g (a 5) 36 (vD v), [(b 0, .inr (4, [.ref (b 1), .ref (b 2), .ref (b 3), .ref (b 4), .ref (b 5), .int (nI (vN w)), .int (vG w), .int (nI (vX w)), .int (nI (vH w)), .int (vY w), .int (vZ w)]))], wArr g (b 1) 6 (vK w), wArr g (b 2) 6 (vA w), wArr g (b 3) 6 (vC w), wArr g (b 4) 36 (vT w), wArr g (b 5) 36 (vD w)] 2 7 (Nat.le_of_ble_eq_true rfl) (Nat.le_of_ble_eq_true rfl)) mc_X5_areAlike (by simp [kw_nest]) ms_X5_areAlike kn_X5 (na := 2) (by decide +kernel) rfl ⟨Nat.le_of_ble_eq_true rfl, Nat.le_of_ble_eq_true rfl⟩ ⟨rfl, rfl⟩ ⟨Nat.le_of_ble_eq_true rfl, Nat.le_of_ble_eq_true rfl⟩ (Nat.le_of_ble_eq_true rfl) (fun r_ w_ hp_ => ?_)
                obtain ⟨rfl, rfl⟩ := hp_
                refine kw_perm (ws' := List.flatten [[(a 0, .inr (4, [.ref (a 1), .ref (a 2), .ref (a 3), .ref (a 4), .ref (a 5), .int (nI (vN v)), .int (vG v), .int (nI (vX v)), .int (nI (vH v)), .int (vY v), .int (vZ v)]))], wArr g (a 1) 6 (vK v), wArr g (a 2) 6 (vA v), wArr g (a 3) 6 (vC v), wArr g (a 4) 36 (vT v), wArr g (a 5) 36 (vD v), [(b 0, .inr (4, [.ref (b 1), .ref (b 2), .ref (b 3), .ref (b 4), .ref (b 5), .int (nI (vN w)), .int (vG w), .int (nI (vX w)), .int (nI (vH w)), .int (vY w), .int (vZ w)]))], wArr g (b 1) 6 (vK w), wArr g (b 2) 6 (vA w), wArr g (b 3) 6 (vC w), wArr g (b 4) 36 (vT w), wArr g (b 5) 36 (vD w)]) (kw_pk2 [[(a 0, .inr (4, [.ref (a 1), .ref (a 2), .ref (a 3), .ref (a 4), .ref (a 5), .int (nI (vN v)), .int (vG v), .int (nI (vX v)), .int (nI (vH v)), .int (vY v), .int (vZ v)]))], wArr g (a 1) 6 (vK v), wArr g (a 2) 6 (vA v), wArr g (a 3) 6 (vC v), wArr g (a 4) 36 (vT v), wArr g (a 5) 36 (vD v), [(b 0, .inr (4, [.ref (b 1), .ref (b 2), .ref (b 3), .ref (b 4), .ref (b 5), .int (nI (vN w)), .int (vG w), .int (nI (vX w)), .int (nI (vH w)), .int (vY w), .int (vZ w)]))], wArr g (b 1) 6 (vK w), wArr g (b 2) 6 (vA w), wArr g (b 3) 6 (vC w), wArr g (b 4) 36 (vT w), wArr g (b 5) 36 (vD w)] 2 7 (Nat.le_of_ble_eq_true rfl) (Nat.le_of_ble_eq_true rfl)).symm ?_
                refine kz_if_eq (b := wAl (vA v) (vA w) 6) (tgt := 140) X dX4_isLike_91 (by decide) (fun c8_ => ?_) (fun c8_ => ?_)
                · skip
                  refine kb_iconst (v := (0 : Int32)) X dX4_isLike_140 (by decide) ?_
                  refine ke_z X Z rfl dX4_isLike_141 ?_
                  exact ⟨(by first | rfl | (simp [zI, wLike, c1_, c2_, c3_, c4_, c5_, c6_, c7_, c8_]; done) | (simp [zI, wLike, c1_, c2_, c3_, c4_, c5_, c6_, c7_, c8_] <;> omega) | (simp_all [zI, wLike, c1_, c2_, c3_, c4_, c5_, c6_, c7_, c8_]; done)), (by first | rfl | (simp [zI, wLike, c1_, c2_, c3_, c4_, c5_, c6_, c7_, c8_]; done) | (simp [zI, wLike, c1_, c2_, c3_, c4_, c5_, c6_, c7_, c8_] <;> omega) | (simp_all [zI, wLike, c1_, c2_, c3_, c4_, c5_, c6_, c7_, c8_]; done))⟩
                · skip
                  refine kb_aload_n X 0 dX4_isLike_94 rfl rfl ?_
                  refine kf_get (v := .ref (a 3)) (C := RX4) (T := TX4) (N := 11) (ci := 4) X kw_iX4 rfl 2 0 0 rfl rfl (by decide) kf_X4_18 rfl rfl dX4_isLike_95 ?_
                  refine kb_aload_n X 1 dX4_isLike_98 rfl rfl ?_
                  refine kf_get (v := .ref (b 3)) (C := RX4) (T := TX4) (N := 11) (ci := 4) X kw_iX4 rfl 2 6 0 rfl rfl (by decide) kf_X4_18 rfl rfl dX4_isLike_99 ?_
                  refine kc_SNi X (As := [.ref (a 3), .ref (b 3)]) (rest := []) (wr := List.flatten [[(a 0, .inr (4, [.ref (a 1), .ref (a 2), .ref (a 3), .ref (a 4), .ref (a 5), .int (nI (vN v)), .int (vG v), .int (nI (vX v)), .int (nI (vH v)), .int (vY v), .int (vZ v)]))], wArr g (a 1) 6 (vK v), wArr g (a 2) 6 (vA v), wArr g (a 4) 36 (vT v), wArr g (a 5) 36 (vD v), [(b 0, .inr (4, [.ref (b 1), .ref (b 2), .ref (b 3), .ref (b 4), .ref (b 5), .int (nI (vN w)), .int (vG w), .int (nI (vX w)), .int (nI (vH w)), .int (vY w), .int (vZ w)]))], wArr g (b 1) 6 (vK w), wArr g (b 2) 6 (vA w), wArr g (b 4) 36 (vT w), wArr g (b 5) 36 (vD w)]) (ct_X5_areAlike l g (a 3) (b 3) 6 (vC v) (vC w) (by decide)) dX4_isLike_102 rfl (kw_pk2 [[(a 0, .inr (4, [.ref (a 1), .ref (a 2), .ref (a 3), .ref (a 4), .ref (a 5), .int (nI (vN v)), .int (vG v), .int (nI (vX v)), .int (nI (vH v)), .int (vY v), .int (vZ v)]))], wArr g (a 1) 6 (vK v), wArr g (a 2) 6 (vA v), wArr g (a 3) 6 (vC v), wArr g (a 4) 36 (vT v), wArr g (a 5) 36 (vD v), [(b 0, .inr (4, [.ref (b 1), .ref (b 2), .ref (b 3), .ref (b 4), .ref (b 5), .int (nI (vN w)), .int (vG w), .int (nI (vX w)), .int (nI (vH w)), .int (vY w), .int (vZ w)]))], wArr g (b 1) 6 (vK w), wArr g (b 2) 6 (vA w), wArr g (b 3) 6 (vC w), wArr g (b 4) 36 (vT w), wArr g (b 5) 36 (vD w)] 3 8 (Nat.le_of_ble_eq_true rfl) (Nat.le_of_ble_eq_true rfl)) mc_X5_areAlike (by simp [kw_nest]) ms_X5_areAlike kn_X5 (na := 2) (by decide +kernel) rfl ⟨Nat.le_of_ble_eq_true rfl, Nat.le_of_ble_eq_true rfl⟩ ⟨rfl, rfl⟩ ⟨Nat.le_of_ble_eq_true rfl, Nat.le_of_ble_eq_true rfl⟩ (Nat.le_of_ble_eq_true rfl) (fun r_ w_ hp_ => ?_)
                  obtain ⟨rfl, rfl⟩ := hp_
                  refine kw_perm (ws' := List.flatten [[(a 0, .inr (4, [.ref (a 1), .ref (a 2), .ref (a 3), .ref (a 4), .ref (a 5), .int (nI (vN v)), .int (vG v), .int (nI (vX v)), .int (nI (vH v)), .int (vY v), .int (vZ v)]))], wArr g (a 1) 6 (vK v), wArr g (a 2) 6 (vA v), wArr g (a 3) 6 (vC v), wArr g (a 4) 36 (vT v), wArr g (a 5) 36 (vD v), [(b 0, .inr (4, [.ref (b 1), .ref (b 2), .ref (b 3), .ref (b 4), .ref (b 5), .int (nI (vN w)), .int (vG w), .int (nI (vX w)), .int (nI (vH w)), .int (vY w), .int (vZ w)]))], wArr g (b 1) 6 (vK w), wArr g (b 2) 6 (vA w), wArr g (b 3) 6 (vC w), wArr g (b 4) 36 (vT w), wArr g (b 5) 36 (vD w)]) (kw_pk2 [[(a 0, .inr (4, [.ref (a 1), .ref (a 2), .ref (a 3), .ref (a 4), .ref (a 5), .int (nI (vN v)), .int (vG v), .int (nI (vX v)), .int (nI (vH v)), .int (vY v), .int (vZ v)]))], wArr g (a 1) 6 (vK v), wArr g (a 2) 6 (vA v), wArr g (a 3) 6 (vC v), wArr g (a 4) 36 (vT v), wArr g (a 5) 36 (vD v), [(b 0, .inr (4, [.ref (b 1), .ref (b 2), .ref (b 3), .ref (b 4), .ref (b 5), .int (nI (vN w)), .int (vG w), .int (nI (vX w)), .int (nI (vH w)), .int (vY w), .int (vZ w)]))], wArr g (b 1) 6 (vK w), wArr g (b 2) 6 (vA w), wArr g (b 3) 6 (vC w), wArr g (b 4) 36 (vT w), wArr g (b 5) 36 (vD w)] 3 8 (Nat.le_of_ble_eq_true rfl) (Nat.le_of_ble_eq_true rfl)).symm ?_
                  refine kz_if_eq (b := wAl (vC v) (vC w) 6) (tgt := 140) X dX4_isLike_105 (by decide) (fun c9_ => ?_) (fun c9_ => ?_)
                  · skip
                    refine kb_iconst (v := (0 : Int32)) X dX4_isLike_140 (by decide) ?_
                    refine ke_z X Z rfl dX4_isLike_141 ?_
                    exact ⟨(by first | rfl | (simp [zI, wLike, c1_, c2_, c3_, c4_, c5_, c6_, c7_, c8_, c9_]; done) | (simp [zI, wLike, c1_, c2_, c3_, c4_, c5_, c6_, c7_, c8_, c9_] <;> omega) | (simp_all [zI, wLike, c1_, c2_, c3_, c4_, c5_, c6_, c7_, c8_, c9_]; done)), (by first | rfl | (simp [zI, wLike, c1_, c2_, c3_, c4_, c5_, c6_, c7_, c8_, c9_]; done) | (simp [zI, wLike, c1_, c2_, c3_, c4_, c5_, c6_, c7_, c8_, c9_] <;> omega) | (simp_all [zI, wLike, c1_, c2_, c3_, c4_, c5_, c6_, c7_, c8_, c9_]; done))⟩
                  · skip
                    refine kb_aload_n X 0 dX4_isLike_108 rfl rfl ?_
                    refine kf_get (v := .ref (a 4)) (C := RX4) (T := TX4) (N := 11) (ci := 4) X kw_iX4 rfl 3 0 0 rfl rfl (by decide) kf_X4_21 rfl rfl dX4_isLike_109 ?_
                    refine kb_aload_n X 1 dX4_isLike_112 rfl rfl ?_
                    refine kf_get (v := .ref (b 4)) (C := RX4) (T := TX4) (N := 11) (ci := 4) X kw_iX4 rfl 3 6 0 rfl rfl (by decide) kf_X4_21 rfl rfl dX4_isLike_113 ?_
                    refine kc_SNi X (As := [.ref (a 4), .ref (b 4)]) (rest := []) (wr := List.flatten [[(a 0, .inr (4, [.ref (a 1), .ref (a 2), .ref (a 3), .ref (a 4), .ref (a 5), .int (nI (vN v)), .int (vG v), .int (nI (vX v)), .int (nI (vH v)), .int (vY v), .int (vZ v)]))], wArr g (a 1) 6 (vK v), wArr g (a 2) 6 (vA v), wArr g (a 3) 6 (vC v), wArr g (a 5) 36 (vD v), [(b 0, .inr (4, [.ref (b 1), .ref (b 2), .ref (b 3), .ref (b 4), .ref (b 5), .int (nI (vN w)), .int (vG w), .int (nI (vX w)), .int (nI (vH w)), .int (vY w), .int (vZ w)]))], wArr g (b 1) 6 (vK w), wArr g (b 2) 6 (vA w), wArr g (b 3) 6 (vC w), wArr g (b 5) 36 (vD w)]) (ct_X5_areAlike l g (a 4) (b 4) 36 (vT v) (vT w) (by decide)) dX4_isLike_116 rfl (kw_pk2 [[(a 0, .inr (4, [.ref (a 1), .ref (a 2), .ref (a 3), .ref (a 4), .ref (a 5), .int (nI (vN v)), .int (vG v), .int (nI (vX v)), .int (nI (vH v)), .int (vY v), .int (vZ v)]))], wArr g (a 1) 6 (vK v), wArr g (a 2) 6 (vA v), wArr g (a 3) 6 (vC v), wArr g (a 4) 36 (vT v), wArr g (a 5) 36 (vD v), [(b 0, .inr (4, [.ref (b 1), .ref (b 2), .ref (b 3), .ref (b 4), .ref (b 5), .int (nI (vN w)), .int (vG w), .int (nI (vX w)), .int (nI (vH w)), .int (vY w), .int (vZ w)]))], wArr g (b 1) 6 (vK w), wArr g (b 2) 6 (vA w), wArr g (b 3) 6 (vC w), wArr g (b 4) 36 (vT w), wArr g (b 5) 36 (vD w)] 4 9 (Nat.le_of_ble_eq_true rfl) (Nat.le_of_ble_eq_true rfl)) mc_X5_areAlike (by simp [kw_nest]) ms_X5_areAlike kn_X5 (na := 2) (by decide +kernel) rfl ⟨Nat.le_of_ble_eq_true rfl, Nat.le_of_ble_eq_true rfl⟩ ⟨rfl, rfl⟩ ⟨Nat.le_of_ble_eq_true rfl, Nat.le_of_ble_eq_true rfl⟩ (Nat.le_of_ble_eq_true rfl) (fun r_ w_ hp_ => ?_)
                    obtain ⟨rfl, rfl⟩ := hp_
                    refine kw_perm (ws' := List.flatten [[(a 0, .inr (4, [.ref (a 1), .ref (a 2), .ref (a 3), .ref (a 4), .ref (a 5), .int (nI (vN v)), .int (vG v), .int (nI (vX v)), .int (nI (vH v)), .int (vY v), .int (vZ v)]))], wArr g (a 1) 6 (vK v), wArr g (a 2) 6 (vA v), wArr g (a 3) 6 (vC v), wArr g (a 4) 36 (vT v), wArr g (a 5) 36 (vD v), [(b 0, .inr (4, [.ref (b 1), .ref (b 2), .ref (b 3), .ref (b 4), .ref (b 5), .int (nI (vN w)), .int (vG w), .int (nI (vX w)), .int (nI (vH w)), .int (vY w), .int (vZ w)]))], wArr g (b 1) 6 (vK w), wArr g (b 2) 6 (vA w), wArr g (b 3) 6 (vC w), wArr g (b 4) 36 (vT w), wArr g (b 5) 36 (vD w)]) (kw_pk2 [[(a 0, .inr (4, [.ref (a 1), .ref (a 2), .ref (a 3), .ref (a 4), .ref (a 5), .int (nI (vN v)), .int (vG v), .int (nI (vX v)), .int (nI (vH v)), .int (vY v), .int (vZ v)]))], wArr g (a 1) 6 (vK v), wArr g (a 2) 6 (vA v), wArr g (a 3) 6 (vC v), wArr g (a 4) 36 (vT v), wArr g (a 5) 36 (vD v), [(b 0, .inr (4, [.ref (b 1), .ref (b 2), .ref (b 3), .ref (b 4), .ref (b 5), .int (nI (vN w)), .int (vG w), .int (nI (vX w)), .int (nI (vH w)), .int (vY w), .int (vZ w)]))], wArr g (b 1) 6 (vK w), wArr g (b 2) 6 (vA w), wArr g (b 3) 6 (vC w), wArr g (b 4) 36 (vT w), wArr g (b 5) 36 (vD w)] 4 9 (Nat.le_of_ble_eq_true rfl) (Nat.le_of_ble_eq_true rfl)).symm ?_
                    refine kz_if_eq (b := wAl (vT v) (vT w) 36) (tgt := 140) X dX4_isLike_119 (by decide) (fun c10_ => ?_) (fun c10_ => ?_)
                    · skip
                      refine kb_iconst (v := (0 : Int32)) X dX4_isLike_140 (by decide) ?_
                      refine ke_z X Z rfl dX4_isLike_141 ?_
                      exact ⟨(by first | rfl | (simp [zI, wLike, c1_, c2_, c3_, c4_, c5_, c6_, c7_, c8_, c9_, c10_]; done) | (simp [zI, wLike, c1_, c2_, c3_, c4_, c5_, c6_, c7_, c8_, c9_, c10_] <;> omega) | (simp_all [zI, wLike, c1_, c2_, c3_, c4_, c5_, c6_, c7_, c8_, c9_, c10_]; done)), (by first | rfl | (simp [zI, wLike, c1_, c2_, c3_, c4_, c5_, c6_, c7_, c8_, c9_, c10_]; done) | (simp [zI, wLike, c1_, c2_, c3_, c4_, c5_, c6_, c7_, c8_, c9_, c10_] <;> omega) | (simp_all [zI, wLike, c1_, c2_, c3_, c4_, c5_, c6_, c7_, c8_, c9_, c10_]; done))⟩
                    · skip
                      refine kb_aload_n X 0 dX4_isLike_122 rfl rfl ?_
                      refine kf_get (v := .ref (a 5)) (C := RX4) (T := TX4) (N := 11) (ci := 4) X kw_iX4 rfl 4 0 0 rfl rfl (by decide) kf_X4_24 rfl rfl dX4_isLike_123 ?_
                      refine kb_aload_n X 1 dX4_isLike_126 rfl rfl ?_
                      refine kf_get (v := .ref (b 5)) (C := RX4) (T := TX4) (N := 11) (ci := 4) X kw_iX4 rfl 4 6 0 rfl rfl (by decide) kf_X4_24 rfl rfl dX4_isLike_127 ?_
                      refine kc_SNi X (As := [.ref (a 5), .ref (b 5)]) (rest := []) (wr := List.flatten [[(a 0, .inr (4, [.ref (a 1), .ref (a 2), .ref (a 3), .ref (a 4), .ref (a 5), .int (nI (vN v)), .int (vG v), .int (nI (vX v)), .int (nI (vH v)), .int (vY v), .int (vZ v)]))], wArr g (a 1) 6 (vK v), wArr g (a 2) 6 (vA v), wArr g (a 3) 6 (vC v), wArr g (a 4) 36 (vT v), [(b 0, .inr (4, [.ref (b 1), .ref (b 2), .ref (b 3), .ref (b 4), .ref (b 5), .int (nI (vN w)), .int (vG w), .int (nI (vX w)), .int (nI (vH w)), .int (vY w), .int (vZ w)]))], wArr g (b 1) 6 (vK w), wArr g (b 2) 6 (vA w), wArr g (b 3) 6 (vC w), wArr g (b 4) 36 (vT w)]) (ct_X5_areAlike l g (a 5) (b 5) 36 (vD v) (vD w) (by decide)) dX4_isLike_130 rfl (kw_pk2 [[(a 0, .inr (4, [.ref (a 1), .ref (a 2), .ref (a 3), .ref (a 4), .ref (a 5), .int (nI (vN v)), .int (vG v), .int (nI (vX v)), .int (nI (vH v)), .int (vY v), .int (vZ v)]))], wArr g (a 1) 6 (vK v), wArr g (a 2) 6 (vA v), wArr g (a 3) 6 (vC v), wArr g (a 4) 36 (vT v), wArr g (a 5) 36 (vD v), [(b 0, .inr (4, [.ref (b 1), .ref (b 2), .ref (b 3), .ref (b 4), .ref (b 5), .int (nI (vN w)), .int (vG w), .int (nI (vX w)), .int (nI (vH w)), .int (vY w), .int (vZ w)]))], wArr g (b 1) 6 (vK w), wArr g (b 2) 6 (vA w), wArr g (b 3) 6 (vC w), wArr g (b 4) 36 (vT w), wArr g (b 5) 36 (vD w)] 5 10 (Nat.le_of_ble_eq_true rfl) (Nat.le_of_ble_eq_true rfl)) mc_X5_areAlike (by simp [kw_nest]) ms_X5_areAlike kn_X5 (na := 2) (by decide +kernel) rfl ⟨Nat.le_of_ble_eq_true rfl, Nat.le_of_ble_eq_true rfl⟩ ⟨rfl, rfl⟩ ⟨Nat.le_of_ble_eq_true rfl, Nat.le_of_ble_eq_true rfl⟩ (Nat.le_of_ble_eq_true rfl) (fun r_ w_ hp_ => ?_)
                      obtain ⟨rfl, rfl⟩ := hp_
                      refine kw_perm (ws' := List.flatten [[(a 0, .inr (4, [.ref (a 1), .ref (a 2), .ref (a 3), .ref (a 4), .ref (a 5), .int (nI (vN v)), .int (vG v), .int (nI (vX v)), .int (nI (vH v)), .int (vY v), .int (vZ v)]))], wArr g (a 1) 6 (vK v), wArr g (a 2) 6 (vA v), wArr g (a 3) 6 (vC v), wArr g (a 4) 36 (vT v), wArr g (a 5) 36 (vD v), [(b 0, .inr (4, [.ref (b 1), .ref (b 2), .ref (b 3), .ref (b 4), .ref (b 5), .int (nI (vN w)), .int (vG w), .int (nI (vX w)), .int (nI (vH w)), .int (vY w), .int (vZ w)]))], wArr g (b 1) 6 (vK w), wArr g (b 2) 6 (vA w), wArr g (b 3) 6 (vC w), wArr g (b 4) 36 (vT w), wArr g (b 5) 36 (vD w)]) (kw_pk2 [[(a 0, .inr (4, [.ref (a 1), .ref (a 2), .ref (a 3), .ref (a 4), .ref (a 5), .int (nI (vN v)), .int (vG v), .int (nI (vX v)), .int (nI (vH v)), .int (vY v), .int (vZ v)]))], wArr g (a 1) 6 (vK v), wArr g (a 2) 6 (vA v), wArr g (a 3) 6 (vC v), wArr g (a 4) 36 (vT v), wArr g (a 5) 36 (vD v), [(b 0, .inr (4, [.ref (b 1), .ref (b 2), .ref (b 3), .ref (b 4), .ref (b 5), .int (nI (vN w)), .int (vG w), .int (nI (vX w)), .int (nI (vH w)), .int (vY w), .int (vZ w)]))], wArr g (b 1) 6 (vK w), wArr g (b 2) 6 (vA w), wArr g (b 3) 6 (vC w), wArr g (b 4) 36 (vT w), wArr g (b 5) 36 (vD w)] 5 10 (Nat.le_of_ble_eq_true rfl) (Nat.le_of_ble_eq_true rfl)).symm ?_
                      refine kz_if_eq (b := wAl (vD v) (vD w) 36) (tgt := 140) X dX4_isLike_133 (by decide) (fun c11_ => ?_) (fun c11_ => ?_)
                      · skip
                        refine kb_iconst (v := (0 : Int32)) X dX4_isLike_140 (by decide) ?_
                        refine ke_z X Z rfl dX4_isLike_141 ?_
                        exact ⟨(by first | rfl | (simp [zI, wLike, c1_, c2_, c3_, c4_, c5_, c6_, c7_, c8_, c9_, c10_, c11_]; done) | (simp [zI, wLike, c1_, c2_, c3_, c4_, c5_, c6_, c7_, c8_, c9_, c10_, c11_] <;> omega) | (simp_all [zI, wLike, c1_, c2_, c3_, c4_, c5_, c6_, c7_, c8_, c9_, c10_, c11_]; done)), (by first | rfl | (simp [zI, wLike, c1_, c2_, c3_, c4_, c5_, c6_, c7_, c8_, c9_, c10_, c11_]; done) | (simp [zI, wLike, c1_, c2_, c3_, c4_, c5_, c6_, c7_, c8_, c9_, c10_, c11_] <;> omega) | (simp_all [zI, wLike, c1_, c2_, c3_, c4_, c5_, c6_, c7_, c8_, c9_, c10_, c11_]; done))⟩
                      · skip
                        refine kb_iconst (v := (1 : Int32)) X dX4_isLike_136 (by decide) ?_
                        refine kb_goto (tgt := 141) X dX4_isLike_137 (by decide) ?_
                        refine ke_z X Z rfl dX4_isLike_141 ?_
                        exact ⟨(by first | rfl | (simp [zI, wLike, c1_, c2_, c3_, c4_, c5_, c6_, c7_, c8_, c9_, c10_, c11_]; done) | (simp [zI, wLike, c1_, c2_, c3_, c4_, c5_, c6_, c7_, c8_, c9_, c10_, c11_] <;> omega) | (simp_all [zI, wLike, c1_, c2_, c3_, c4_, c5_, c6_, c7_, c8_, c9_, c10_, c11_]; done)), (by first | rfl | (simp [zI, wLike, c1_, c2_, c3_, c4_, c5_, c6_, c7_, c8_, c9_, c10_, c11_]; done) | (simp [zI, wLike, c1_, c2_, c3_, c4_, c5_, c6_, c7_, c8_, c9_, c10_, c11_] <;> omega) | (simp_all [zI, wLike, c1_, c2_, c3_, c4_, c5_, c6_, c7_, c8_, c9_, c10_, c11_]; done))⟩

set_option maxHeartbeats 4000000 in
set_option maxRecDepth 100000 in
theorem ct_X4_empty (l : Launch) (g : kw_G) (a : Nat → Nat) (v : VS) : kMv l g yX4_empty cX4_empty 2 (kw_rm 1 0 0) 0 0 [.ref (a 0)] (wV g a v) (fun w => w = wV g a vE) := by
  refine kMv_of (by decide +kernel) (Nat.le_of_ble_eq_true rfl) (fun x (X : kX l g RX4 cX4_empty 2 (kw_rm 1 0 0) x) (Z : kZv _ 0 0 x) => ?_)
  show kW x 0 0 0 [(0, .ref (a 0))] [] (wV g a v)
  refine kb_iconst (v := (0 : Int32)) X dX4_empty_0 (by decide) ?_
  refine kb_istore_n X [1, 0] dX4_empty_1 rfl (by decide) (lv' := [(0, .ref (a 0)), (1, .int 0)]) rfl ?_
  have L2 : ∀ (K_ i : Nat), i + K_ = 6 → kW x 0 0 2 [(0, .ref (a 0)), (1, .int (nI (i)))] [] (wV g a (sC (sA (sK v (zf (vK v) i)) (zf (vA v) i)) (zf (vC v) i))) := by
    intro K_
    induction K_ with
    | zero =>
      intro i hi
      refine kb_iload_n X 1 dX4_empty_2 rfl rfl ?_
      refine kb_bipush (v := (6 : Int32)) X dX4_empty_3 (by decide) ?_
      refine kn_icmp_ge (a := i) (b := 6) (tgt := 35) X (by omega) (by omega) dX4_empty_5 (by decide) (fun c1_ => ?_) (fun c1_ => ?_)
      · skip
        refine kw_arr (f' := wZ0) 1 rfl (fun j hj => zf_all _ _ _ (by omega)) (ws' := wV g a (sC (sA (sK v wZ0) (zf (vA v) i)) (zf (vC v) i))) rfl ?_
        refine kw_arr (f' := wZ0) 2 rfl (fun j hj => zf_all _ _ _ (by omega)) (ws' := wV g a (sC (sA (sK v wZ0) wZ0) (zf (vC v) i))) rfl ?_
        refine kw_arr (f' := wZ0) 3 rfl (fun j hj => zf_all _ _ _ (by omega)) (ws' := wV g a (sC (sA (sK v wZ0) wZ0) wZ0)) rfl ?_
        refine kb_iconst (v := (0 : Int32)) X dX4_empty_35 (by decide) ?_
        refine kb_istore_n X [1, 0] dX4_empty_36 rfl (by decide) (lv' := [(0, .ref (a 0)), (1, .int 0)]) rfl ?_
        have L37 : ∀ (K_ i : Nat), i + K_ = 36 → kW x 0 0 37 [(0, .ref (a 0)), (1, .int (nI (i)))] [] (wV g a (sD (sT (sC (sA (sK v wZ0) wZ0) wZ0) (zf (vT v) i)) (zf (vD v) i))) := by
          intro K_
          induction K_ with
          | zero =>
            intro i hi
            refine kb_iload_n X 1 dX4_empty_37 rfl rfl ?_
            refine kb_bipush (v := (36 : Int32)) X dX4_empty_38 (by decide) ?_
            refine kn_icmp_ge (a := i) (b := 36) (tgt := 63) X (by omega) (by omega) dX4_empty_40 (by decide) (fun c2_ => ?_) (fun c2_ => ?_)
            · skip
              refine kw_arr (f' := wZ0) 4 rfl (fun j hj => zf_all _ _ _ (by omega)) (ws' := wV g a (sD (sT (sC (sA (sK v wZ0) wZ0) wZ0) wZ0) (zf (vD v) i))) rfl ?_
              refine kw_arr (f' := wZ0) 5 rfl (fun j hj => zf_all _ _ _ (by omega)) (ws' := wV g a (sD (sT (sC (sA (sK v wZ0) wZ0) wZ0) wZ0) wZ0)) rfl ?_
              refine kb_aload_n X 0 dX4_empty_63 rfl rfl ?_
              refine kb_iconst (v := (0 : Int32)) X dX4_empty_64 (by decide) ?_
              refine kb_put X (C := RX4) (T := TX4) (N := 11) (ci := 4) (ty := .int) kw_iX4 tyX4 tyX4_ok nmX4 rfl 0 5 rfl (by decide) kf_X4_27 rfl rfl (by decide +kernel) rfl rfl (Nat.le_of_ble_eq_true rfl) dX4_empty_65 (ws' := wV g a (sN (sD (sT (sC (sA (sK v wZ0) wZ0) wZ0) wZ0) wZ0) 0)) rfl ?_
              refine kb_aload_n X 0 dX4_empty_68 rfl rfl ?_
              refine kb_bipush (v := (50 : Int32)) X dX4_empty_69 (by decide) ?_
              refine kb_put X (C := RX4) (T := TX4) (N := 11) (ci := 4) (ty := .int) kw_iX4 tyX4 tyX4_ok nmX4 rfl 0 6 rfl (by decide) kf_X4_31 rfl rfl (by decide +kernel) rfl rfl (Nat.le_of_ble_eq_true rfl) dX4_empty_71 (ws' := wV g a (sG (sN (sD (sT (sC (sA (sK v wZ0) wZ0) wZ0) wZ0) wZ0) 0) (50 : Int32))) rfl ?_
              refine kb_aload_n X 0 dX4_empty_74 rfl rfl ?_
              refine kb_iconst (v := (0 : Int32)) X dX4_empty_75 (by decide) ?_
              refine kb_put X (C := RX4) (T := TX4) (N := 11) (ci := 4) (ty := .int) kw_iX4 tyX4 tyX4_ok nmX4 rfl 0 7 rfl (by decide) kf_X4_34 rfl rfl (by decide +kernel) rfl rfl (Nat.le_of_ble_eq_true rfl) dX4_empty_76 (ws' := wV g a (sX (sG (sN (sD (sT (sC (sA (sK v wZ0) wZ0) wZ0) wZ0) wZ0) 0) (50 : Int32)) 0)) rfl ?_
              refine kb_aload_n X 0 dX4_empty_79 rfl rfl ?_
              refine kb_iconst (v := (0 : Int32)) X dX4_empty_80 (by decide) ?_
              refine kb_put X (C := RX4) (T := TX4) (N := 11) (ci := 4) (ty := .int) kw_iX4 tyX4 tyX4_ok nmX4 rfl 0 8 rfl (by decide) kf_X4_37 rfl rfl (by decide +kernel) rfl rfl (Nat.le_of_ble_eq_true rfl) dX4_empty_81 (ws' := wV g a (sH (sX (sG (sN (sD (sT (sC (sA (sK v wZ0) wZ0) wZ0) wZ0) wZ0) 0) (50 : Int32)) 0) 0)) rfl ?_
              refine kb_aload_n X 0 dX4_empty_84 rfl rfl ?_
              refine kb_iconst (v := (0 : Int32)) X dX4_empty_85 (by decide) ?_
              refine kb_put X (C := RX4) (T := TX4) (N := 11) (ci := 4) (ty := .int) kw_iX4 tyX4 tyX4_ok nmX4 rfl 0 9 rfl (by decide) kf_X4_40 rfl rfl (by decide +kernel) rfl rfl (Nat.le_of_ble_eq_true rfl) dX4_empty_86 (ws' := wV g a (sY (sH (sX (sG (sN (sD (sT (sC (sA (sK v wZ0) wZ0) wZ0) wZ0) wZ0) 0) (50 : Int32)) 0) 0) (0 : Int32))) rfl ?_
              refine kb_aload_n X 0 dX4_empty_89 rfl rfl ?_
              refine kb_iconst (v := (0 : Int32)) X dX4_empty_90 (by decide) ?_
              refine kb_put X (C := RX4) (T := TX4) (N := 11) (ci := 4) (ty := .int) kw_iX4 tyX4 tyX4_ok nmX4 rfl 0 10 rfl (by decide) kf_X4_43 rfl rfl (by decide +kernel) rfl rfl (Nat.le_of_ble_eq_true rfl) dX4_empty_91 (ws' := wV g a (sZ (sY (sH (sX (sG (sN (sD (sT (sC (sA (sK v wZ0) wZ0) wZ0) wZ0) wZ0) 0) (50 : Int32)) 0) 0) (0 : Int32)) (0 : Int32))) rfl ?_
              refine ke_v X Z dX4_empty_94 ?_
              exact (by first | rfl | (simp [zI, c1_, c2_]; done) | (simp [zI, c1_, c2_] <;> omega) | (simp_all [zI, c1_, c2_]; done))
            · skip
              omega
          | succ K_ ih =>
            intro i hi
            refine kb_iload_n X 1 dX4_empty_37 rfl rfl ?_
            refine kb_bipush (v := (36 : Int32)) X dX4_empty_38 (by decide) ?_
            refine kn_icmp_ge (a := i) (b := 36) (tgt := 63) X (by omega) (by omega) dX4_empty_40 (by decide) (fun c3_ => ?_) (fun c3_ => ?_)
            · skip
              omega
            · skip
              refine kb_aload_n X 0 dX4_empty_43 rfl rfl ?_
              refine kb_get (v := .ref (a 4)) (C := RX4) (T := TX4) (N := 11) (ci := 4) X kw_iX4 rfl 0 3 rfl (by decide) kf_X4_21 rfl rfl dX4_empty_44 ?_
              refine kb_iload_n X 1 dX4_empty_47 rfl rfl ?_
              refine kb_iconst (v := (0 : Int32)) X dX4_empty_48 (by decide) ?_
              refine kb_iast (i := i) X 4 rfl (by omega) (by decide) dX4_empty_49 (ws' := wV g a (sT (sD (sT (sC (sA (sK v wZ0) wZ0) wZ0) (zf (vT v) i)) (zf (vD v) i)) (upd (zf (vT v) i) i (0 : Int32)))) rfl ?_
              refine kb_aload_n X 0 dX4_empty_50 rfl rfl ?_
              refine kb_get (v := .ref (a 5)) (C := RX4) (T := TX4) (N := 11) (ci := 4) X kw_iX4 rfl 0 4 rfl (by decide) kf_X4_24 rfl rfl dX4_empty_51 ?_
              refine kb_iload_n X 1 dX4_empty_54 rfl rfl ?_
              refine kb_iconst (v := (0 : Int32)) X dX4_empty_55 (by decide) ?_
              refine kb_iast (i := i) X 5 rfl (by omega) (by decide) dX4_empty_56 (ws' := wV g a (sD (sT (sD (sT (sC (sA (sK v wZ0) wZ0) wZ0) (zf (vT v) i)) (zf (vD v) i)) (upd (zf (vT v) i) i (0 : Int32))) (upd (zf (vD v) i) i (0 : Int32)))) rfl ?_
              refine kb_iinc X 1 [1, 0] (v' := nI (i + 1)) dX4_empty_57 rfl (nI_add _ _) (by decide) (lv' := [(0, .ref (a 0)), (1, .int (nI (i + 1)))]) rfl ?_
              refine kb_goto (tgt := 37) X dX4_empty_60 (by decide) ?_
              exact kw_to (ih (i + 1) (by omega)) rfl rfl (by simp only [zf_upd]; rfl)
        exact kw_to (L37 36 0 (by omega)) rfl rfl (by simp only [zf_0]; rfl)
      · skip
        omega
    | succ K_ ih =>
      intro i hi
      refine kb_iload_n X 1 dX4_empty_2 rfl rfl ?_
      refine kb_bipush (v := (6 : Int32)) X dX4_empty_3 (by decide) ?_
      refine kn_icmp_ge (a := i) (b := 6) (tgt := 35) X (by omega) (by omega) dX4_empty_5 (by decide) (fun c4_ => ?_) (fun c4_ => ?_)
      · skip
        omega
      · skip
        refine kb_aload_n X 0 dX4_empty_8 rfl rfl ?_
        refine kb_get (v := .ref (a 1)) (C := RX4) (T := TX4) (N := 11) (ci := 4) X kw_iX4 rfl 0 0 rfl (by decide) kf_X4_9 rfl rfl dX4_empty_9 ?_
        refine kb_iload_n X 1 dX4_empty_12 rfl rfl ?_
        refine kb_iconst (v := (0 : Int32)) X dX4_empty_13 (by decide) ?_
        refine kb_iast (i := i) X 1 rfl (by omega) (by decide) dX4_empty_14 (ws' := wV g a (sK (sC (sA (sK v (zf (vK v) i)) (zf (vA v) i)) (zf (vC v) i)) (upd (zf (vK v) i) i (0 : Int32)))) rfl ?_
        refine kb_aload_n X 0 dX4_empty_15 rfl rfl ?_
        refine kb_get (v := .ref (a 2)) (C := RX4) (T := TX4) (N := 11) (ci := 4) X kw_iX4 rfl 0 1 rfl (by decide) kf_X4_15 rfl rfl dX4_empty_16 ?_
        refine kb_iload_n X 1 dX4_empty_19 rfl rfl ?_
        refine kb_iconst (v := (0 : Int32)) X dX4_empty_20 (by decide) ?_
        refine kb_iast (i := i) X 2 rfl (by omega) (by decide) dX4_empty_21 (ws' := wV g a (sA (sK (sC (sA (sK v (zf (vK v) i)) (zf (vA v) i)) (zf (vC v) i)) (upd (zf (vK v) i) i (0 : Int32))) (upd (zf (vA v) i) i (0 : Int32)))) rfl ?_
        refine kb_aload_n X 0 dX4_empty_22 rfl rfl ?_
        refine kb_get (v := .ref (a 3)) (C := RX4) (T := TX4) (N := 11) (ci := 4) X kw_iX4 rfl 0 2 rfl (by decide) kf_X4_18 rfl rfl dX4_empty_23 ?_
        refine kb_iload_n X 1 dX4_empty_26 rfl rfl ?_
        refine kb_iconst (v := (0 : Int32)) X dX4_empty_27 (by decide) ?_
        refine kb_iast (i := i) X 3 rfl (by omega) (by decide) dX4_empty_28 (ws' := wV g a (sC (sA (sK (sC (sA (sK v (zf (vK v) i)) (zf (vA v) i)) (zf (vC v) i)) (upd (zf (vK v) i) i (0 : Int32))) (upd (zf (vA v) i) i (0 : Int32))) (upd (zf (vC v) i) i (0 : Int32)))) rfl ?_
        refine kb_iinc X 1 [1, 0] (v' := nI (i + 1)) dX4_empty_29 rfl (nI_add _ _) (by decide) (lv' := [(0, .ref (a 0)), (1, .int (nI (i + 1)))]) rfl ?_
        refine kb_goto (tgt := 2) X dX4_empty_32 (by decide) ?_
        exact kw_to (ih (i + 1) (by omega)) rfl rfl (by simp only [zf_upd]; rfl)
  exact kw_to (L2 6 0 (by omega)) rfl rfl (by simp only [zf_0]; rfl)
