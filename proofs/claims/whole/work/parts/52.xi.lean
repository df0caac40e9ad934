set_option maxHeartbeats 4000000 in
set_option maxRecDepth 100000 in
theorem ct_X5_power (l : Launch) (g : kw_G) (x_ k : Nat) (hk : k < 100) : kMi l g yX5_power cX5_power 4 .int (kw_rm 1 0 0) 0 0 [.int (nI (x_)), .int (nI (k))] ([]) (fun r w => r = nI (x_ ^ k) ∧ w = []) := by
  refine kMi_of (by decide +kernel) (Nat.le_of_ble_eq_true rfl) (fun x (X : kX l g RX5 cX5_power 4 (kw_rm 1 0 0) x) (Z : kZi .int _ 0 0 x) => ?_)
  show kW x 0 0 0 [(0, .int (nI (x_))), (1, .int (nI (k)))] [] []
  refine kb_iconst (v := (1 : Int32)) X dX5_power_0 (by decide) ?_
  refine kb_istore_n X [1, 2, 0] dX5_power_1 rfl (by decide) (lv' := [(0, .int (nI (x_))), (1, .int (nI (k))), (2, .int 1)]) rfl ?_
  refine kb_iconst (v := (0 : Int32)) X dX5_power_2 (by decide) ?_
  refine kb_istore_n X [1, 2, 3, 0] dX5_power_3 rfl (by decide) (lv' := [(0, .int (nI (x_))), (1, .int (nI (k))), (2, .int 1), (3, .int 0)]) rfl ?_
  have L4 : ∀ (K_ i : Nat), i + K_ = k → kW x 0 0 4 [(0, .int (nI (x_))), (1, .int (nI (k))), (2, .int (nI (x_ ^ i))), (3, .int (nI (i)))] [] ([]) := by
    intro K_
    induction K_ with
    | zero =>
      intro i hi
      refine kb_iload_n X 3 dX5_power_4 rfl rfl ?_
      refine kb_iload_n X 1 dX5_power_5 rfl rfl ?_
      refine kn_icmp_ge (a := i) (b := k) (tgt := 19) X (by omega) (by omega) dX5_power_6 (by decide) (fun c1_ => ?_) (fun c1_ => ?_)
      · skip
        refine kb_iload_n X 2 dX5_power_19 rfl rfl ?_
        refine ke_i X Z dX5_power_20 ?_
        exact ⟨by rw [show k = i by omega], rfl⟩
      · skip
        omega
    | succ K_ ih =>
      intro i hi
      refine kb_iload_n X 3 dX5_power_4 rfl rfl ?_
      refine kb_iload_n X 1 dX5_power_5 rfl rfl ?_
      refine kn_icmp_ge (a := i) (b := k) (tgt := 19) X (by omega) (by omega) dX5_power_6 (by decide) (fun c2_ => ?_) (fun c2_ => ?_)
      · skip
        omega
      · skip
        refine kb_iload_n X 2 dX5_power_9 rfl rfl ?_
        refine kb_iload_n X 0 dX5_power_10 rfl rfl ?_
        refine kn_imul X (x_ ^ i) x_ dX5_power_11 ?_
        refine kb_istore_n X [1, 2, 0, 3] dX5_power_12 rfl (by decide) (lv' := [(0, .int (nI (x_))), (1, .int (nI (k))), (2, .int (nI ((x_ ^ i) * x_))), (3, .int (nI (i)))]) rfl ?_
        refine kb_iinc X 3 [1, 2, 3, 0] (v' := nI (i + 1)) dX5_power_13 rfl (nI_add _ _) (by decide) (lv' := [(0, .int (nI (x_))), (1, .int (nI (k))), (2, .int (nI ((x_ ^ i) * x_))), (3, .int (nI (i + 1)))]) rfl ?_
        refine kb_goto (tgt := 4) X dX5_power_16 (by decide) ?_
        exact kw_to (ih (i + 1) (by omega)) rfl rfl rfl
  exact kw_to (L4 k 0 (by omega)) rfl rfl rfl

set_option maxHeartbeats 4000000 in
set_option maxRecDepth 100000 in
theorem ct_X5_choices (l : Launch) (g : kw_G) (p q : Nat) (hp : p < 7) (hq : q ≤ p) : kMi l g yX5_choices cX5_choices 4 .int (kw_rm 1 0 0) 0 0 [.int (nI (p)), .int (nI (q))] ([]) (fun r w => r = nI (ck p q q) ∧ w = []) := by
  refine kMi_of (by decide +kernel) (Nat.le_of_ble_eq_true rfl) (fun x (X : kX l g RX5 cX5_choices 4 (kw_rm 1 0 0) x) (Z : kZi .int _ 0 0 x) => ?_)
  show kW x 0 0 0 [(0, .int (nI (p))), (1, .int (nI (q)))] [] []
  refine kb_iconst (v := (1 : Int32)) X dX5_choices_0 (by decide) ?_
  refine kb_istore_n X [1, 2, 0] dX5_choices_1 rfl (by decide) (lv' := [(0, .int (nI (p))), (1, .int (nI (q))), (2, .int 1)]) rfl ?_
  refine kb_iconst (v := (1 : Int32)) X dX5_choices_2 (by decide) ?_
  refine kb_istore_n X [1, 2, 3, 0] dX5_choices_3 rfl (by decide) (lv' := [(0, .int (nI (p))), (1, .int (nI (q))), (2, .int 1), (3, .int 1)]) rfl ?_
  have L4 : ∀ (K_ i : Nat), i + K_ = q → kW x 0 0 4 [(0, .int (nI (p))), (1, .int (nI (q))), (2, .int (nI (ck p q i))), (3, .int (nI (i + 1)))] [] ([]) := by
    intro K_
    induction K_ with
    | zero =>
      intro i hi
      have hc_ : i < 7 → ck p q i ≤ 10000 := ck_le p (by omega) q (by omega) i
      refine kb_iload_n X 3 dX5_choices_4 rfl rfl ?_
      refine kb_iload_n X 1 dX5_choices_5 rfl rfl ?_
      refine kn_icmp_gt (a := i + 1) (b := q) (tgt := 25) X (by omega) (by omega) dX5_choices_6 (by decide) (fun c1_ => ?_) (fun c1_ => ?_)
      · skip
        refine kb_iload_n X 2 dX5_choices_25 rfl rfl ?_
        refine ke_i X Z dX5_choices_26 ?_
        exact ⟨by rw [show q = i by omega], rfl⟩
      · skip
        omega
    | succ K_ ih =>
      intro i hi
      have hc_ : i < 7 → ck p q i ≤ 10000 := ck_le p (by omega) q (by omega) i
      refine kb_iload_n X 3 dX5_choices_4 rfl rfl ?_
      refine kb_iload_n X 1 dX5_choices_5 rfl rfl ?_
      refine kn_icmp_gt (a := i + 1) (b := q) (tgt := 25) X (by omega) (by omega) dX5_choices_6 (by decide) (fun c2_ => ?_) (fun c2_ => ?_)
      · skip
        omega
      · skip
        refine kb_iload_n X 2 dX5_choices_9 rfl rfl ?_
        refine kb_iload_n X 0 dX5_choices_10 rfl rfl ?_
        refine kb_iload_n X 1 dX5_choices_11 rfl rfl ?_
        refine kn_isub X p q (by omega) dX5_choices_12 ?_
        refine kb_iload_n X 3 dX5_choices_13 rfl rfl ?_
        refine kn_iadd X (p - q) (i + 1) dX5_choices_14 ?_
        refine kn_imul X (ck p q i) ((p - q) + (i + 1)) dX5_choices_15 ?_
        refine kb_iload_n X 3 dX5_choices_16 rfl rfl ?_
        refine kn_idiv X ((ck p q i) * ((p - q) + (i + 1))) (i + 1) (by omega) (by have h1 := hc_ (by omega); have h2 := Nat.mul_le_mul h1 (show p - q + (i + 1) ≤ 20 by omega); omega) (by omega) dX5_choices_17 ?_
        refine kb_istore_n X [1, 2, 0, 3] dX5_choices_18 rfl (by decide) (lv' := [(0, .int (nI (p))), (1, .int (nI (q))), (2, .int (nI (((ck p q i) * ((p - q) + (i + 1))) / (i + 1)))), (3, .int (nI (i + 1)))]) rfl ?_
        refine kb_iinc X 3 [1, 2, 3, 0] (v' := nI (i + 1 + 1)) dX5_choices_19 rfl (nI_add _ _) (by decide) (lv' := [(0, .int (nI (p))), (1, .int (nI (q))), (2, .int (nI (((ck p q i) * ((p - q) + (i + 1))) / (i + 1)))), (3, .int (nI (i + 1 + 1)))]) rfl ?_
        refine kb_goto (tgt := 4) X dX5_choices_22 (by decide) ?_
        exact kw_to (ih (i + 1) (by omega)) rfl rfl rfl
  exact kw_to (L4 q 0 (by omega)) rfl rfl rfl

