set_option maxHeartbeats 4000000 in
set_option maxRecDepth 100000 in
theorem ct_X5_power (l : Launch) (g : kw_G) (x_ k : Nat) (hk : k < 100) : kMi l g yX5_power cX5_power 4 .int (kw_rm 1 0 0) 0 0 [.int (nI (x_)), .int (nI (k))] ([]) (fun r w => r = nI (x_ ^ k) ∧ w = []) := by
  refine kMi_of (by decide +kernel) (Nat.le_of_ble_eq_true rfl) (fun x (X : kX l g RX5 cX5_power 4 (kw_rm 1 0 0) x) (Z : kZi .int _ 0 0 x) => ?_)
  show kW x 0 0 0 [(0, .int (nI (x_))), (1, .int (nI (k)))] [] []
  refine kb_iconst (v := (1 : Int32)) X dX5_power_0 (by decide) ?_
  refine kb_istore_n X [1, 2, 0] dX5_power_1 rfl (by decide) (lv' := [(0, .int (nI (x_))), (1, .int (nI (k))), (2, .int 1)]) rfl ?_
  refine kb_iconst (v := (0 : Int32)) X dX5_power_2 (by decide) ?_
  refine kb_istore_n X [1, 2, 3, 0] dX5_power_3 rfl (by decide) (lv' := [(0, .int (nI (x_))), (1, .int (nI (k))), (2, .int 1), (3, .int 0)]) rfl ?_
  have L4 : ∀ (K_ i : Nat), i + K_ = k → kW x 0 0 4 [(0, .int (nI (x_))), (1, .int (nI (k))), (2, .int (nI (x_ ^ i))), (3, .int (nI (i)))] [] ([]) := by
    intro K_
    induction K_ with
    | zero =>
      intro i hi
      refine kb_iload_n X 3 dX5_power_4 rfl rfl ?_
      refine kb_iload_n X 1 dX5_power_5 rfl rfl ?_
      refine kn_icmp_ge (a := i) (b := k) (tgt := 19) X (by omega) (by omega) dX5_power_6 (by decide) (fun c1_ => ?_) (fun c1_ => ?_)
      · skip
        refine kb_iload_n X 2 dX5_power_19 rfl rfl ?_
        refine ke_i X Z dX5_power_20 ?_
        exact ⟨by rw [show k = i by omega], rfl⟩
      · skip
        omega
    | succ K_ ih =>
      intro i hi
      refine kb_iload_n X 3 dX5_power_4 rfl rfl ?_
      refine kb_iload_n X 1 dX5_power_5 rfl rfl ?_
      refine kn_icmp_ge (a := i) (b := k) (tgt := 19) X (by omega) (by omega) dX5_power_6 (by decide) (fun c2_ => ?_) (fun c2_ => ?_)
      · skip
        omega
      · skip
        refine kb_iload_n X 2 dX5_power_9 rfl rfl ?_
        refine kb_iload_n X 0 dX5_power_10 rfl rfl ?_
        refine kn_imul X (x_ ^ i) x_ dX5_power_11 ?_
        refine kb_istore_n X [1, 2, 0, 3] dX5_power_12 rfl (by decide) (lv' := [(0, .int (nI (x_))), (1, .int (nI (k))), (2, .int (nI ((x_ ^ i) * x_))), (3, .int (nI (i)))]) rfl ?_
        refine kb_iinc X 3 [1, 2, 3, 0] (v' := nI (i + 1)) dX5_power_13 rfl (nI_add _ _) (by decide) (lv' := [(0, .int (nI (x_))), (1, .int (nI (k))), (2, .int (nI ((x_ ^ i) * x_))), (3, .int (nI (i + 1)))]) rfl ?_
        refine kb_goto (tgt := 4) X dX5_power_16 (by decide) ?_
        exact kw_to (ih (i + 1) (by omega)) rfl rfl rfl
  exact kw_to (L4 k 0 (by omega)) rfl rfl rfl

set_option maxHeartbeats 4000000 in
set_option maxRecDepth 100000 in
theorem ct_X5_choices (l : Launch) (g : kw_G) (p q : Nat) (hp : p < 7) (hq : q ≤ p) : kMi l g yX5_choices cX5_choices 4 .int (kw_rm 1 0 0) 0 0 [.int (nI (p)), .int (nI (q))] ([]) (fun r w => r = nI (ck p q q) ∧ w = []) := by
  refine kMi_of (by decide +kernel) (Nat.le_of_ble_eq_true rfl) (fun x (X : kX l g RX5 cX5_choices 4 (kw_rm 1 0 0) x) (Z : kZi .int _ 0 0 x) => ?_)
  show kW x 0 0 0 [(0, .int (nI (p))), (1, .int (nI (q)))] [] []
  refine kb_iconst (v := (1 : Int32)) X dX5_choices_0 (by decide) ?_
  refine kb_istore_n X [1, 2, 0] dX5_choices_1 rfl (by decide) (lv' := [(0, .int (nI (p))), (1, .int (nI (q))), (2, .int 1)]) rfl ?_
  refine kb_iconst (v := (1 : Int32)) X dX5_choices_2 (by decide) ?_
  refine kb_istore_n X [1, 2, 3, 0] dX5_choices_3 rfl (by decide) (lv' := [(0, .int (nI (p))), (1, .int (nI (q))), (2, .int 1), (3, .int 1)]) rfl ?_
  have L4 : ∀ (K_ i : Nat), i + K_ = q → kW x 0 0 4 [(0, .int (nI (p))), (1, .int (nI (q))), (2, .int (nI (ck p q i))), (3, .int (nI (i + 1)))] [] ([]) := by
    intro K_
    induction K_ with
    | zero =>
      intro i hi
      have hc_ : i < 7 → ck p q i ≤ 10000 := ck_le p (by omega) q (by omega) i
      refine kb_iload_n X 3 dX5_choices_4 rfl rfl ?_
      refine kb_iload_n X 1 dX5_choices_5 rfl rfl ?_
      refine kn_icmp_gt (a := i + 1) (b := q) (tgt := 25) X (by omega) (by omega) dX5_choices_6 (by decide) (fun c1_ => ?_) (fun c1_ => ?_)
      · skip
        refine kb_iload_n X 2 dX5_choices_25 rfl rfl ?_
        refine ke_i X Z dX5_choices_26 ?_
        exact ⟨by rw [show q = i by omega], rfl⟩
      · skip
        omega
    | succ K_ ih =>
      intro i hi
      have hc_ : i < 7 → ck p q i ≤ 10000 := ck_le p (by omega) q (by omega) i
      refine kb_iload_n X 3 dX5_choices_4 rfl rfl ?_
      refine kb_iload_n X 1 dX5_choices_5 rfl rfl ?_
      refine kn_icmp_gt (a := i + 1) (b := q) (tgt := 25) X (by omega) (by omega) dX5_choices_6 (by decide) (fun c2_ => ?_) (fun c2_ => ?_)
      · skip
        omega
      · skip
        refine kb_iload_n X 2 dX5_choices_9 rfl rfl ?_
        refine kb_iload_n X 0 dX5_choices_10 rfl rfl ?_
        refine kb_iload_n X 1 dX5_choices_11 rfl rfl ?_
        refine kn_isub X p q (by omega) dX5_choices_12 ?_
        refine kb_iload_n X 3 dX5_choices_13 rfl rfl ?_
        refine kn_iadd X (p - q) (i + 1) dX5_choices_14 ?_
        refine kn_imul X (ck p q i) ((p - q) + (i + 1)) dX5_choices_15 ?_
        refine kb_iload_n X 3 dX5_choices_16 rfl rfl ?_
        refine kn_idiv X ((ck p q i) * ((p - q) + (i + 1))) (i + 1) (by omega) (by have h1 := hc_ (by omega); have h2 := Nat.mul_le_mul h1 (show p - q + (i + 1) ≤ 20 by omega); omega) (by omega) dX5_choices_17 ?_
        refine kb_istore_n X [1, 2, 0, 3] dX5_choices_18 rfl (by decide) (lv' := [(0, .int (nI (p))), (1, .int (nI (q))), (2, .int (nI (((ck p q i) * ((p - q) + (i + 1))) / (i + 1)))), (3, .int (nI (i + 1)))]) rfl ?_
        refine kb_iinc X 3 [1, 2, 3, 0] (v' := nI (i + 1 + 1)) dX5_choices_19 rfl (nI_add _ _) (by decide) (lv' := [(0, .int (nI (p))), (1, .int (nI (q))), (2, .int (nI (((ck p q i) * ((p - q) + (i + 1))) / (i + 1)))), (3, .int (nI (i + 1 + 1)))]) rfl ?_
        refine kb_goto (tgt := 4) X dX5_choices_22 (by decide) ?_
        exact kw_to (ih (i + 1) (by omega)) rfl rfl rfl
  exact kw_to (L4 q 0 (by omega)) rfl rfl rfl

set_option maxHeartbeats 4000000 in
set_option maxRecDepth 100000 in
theorem ct_X5_waysOfTenths (l : Launch) (g : kw_G) (g_ n_ x_ : Nat) (hg : g_ < 7) (hn : n_ < 7) (hx : x_ ≤ 10) : kMi l g yX5_waysOfTenths cX5_waysOfTenths 5 .int (kw_rm 2 0 0) 0 0 [.int (nI (g_)), .int (nI (n_)), .int (nI (x_))] ([]) (fun r w => r = nI (wys g_ x_ n_ (g_ + 1 - n_)) ∧ w = []) := by
  refine kMi_of (by decide +kernel) (Nat.le_of_ble_eq_true rfl) (fun x (X : kX l g RX5 cX5_waysOfTenths 5 (kw_rm 2 0 0) x) (Z : kZi .int _ 0 0 x) => ?_)
  show kW x 0 0 0 [(0, .int (nI (g_))), (1, .int (nI (n_))), (2, .int (nI (x_)))] [] []
  refine kb_iconst (v := (0 : Int32)) X dX5_waysOfTenths_0 (by decide) ?_
  refine kb_istore_n X [1, 2, 3, 0] dX5_waysOfTenths_1 rfl (by decide) (lv' := [(0, .int (nI (g_))), (1, .int (nI (n_))), (2, .int (nI (x_))), (3, .int 0)]) rfl ?_
  refine kb_iload_n X 1 dX5_waysOfTenths_2 rfl rfl ?_
  refine kb_istore X [1, 2, 3, 4, 0] dX5_waysOfTenths_3 (by decide) (lv' := [(0, .int (nI (g_))), (1, .int (nI (n_))), (2, .int (nI (x_))), (3, .int 0), (4, .int (nI (n_)))]) rfl ?_
  have L5 : ∀ (K_ i : Nat), i + K_ = g_ + 1 - n_ → kW x 0 0 5 [(0, .int (nI (g_))), (1, .int (nI (n_))), (2, .int (nI (x_))), (3, .int (nI (wys g_ x_ n_ i))), (4, .int (nI (n_ + i)))] [] ([]) := by
    intro K_
    induction K_ with
    | zero =>
      intro i hi
      refine kb_iload X 4 dX5_waysOfTenths_5 rfl ?_
      refine kb_iload_n X 0 dX5_waysOfTenths_7 rfl rfl ?_
      refine kn_icmp_gt (a := n_ + i) (b := g_) (tgt := 45) X (by omega) (by omega) dX5_waysOfTenths_8 (by decide) (fun c1_ => ?_) (fun c1_ => ?_)
      · skip
        refine kb_iload_n X 3 dX5_waysOfTenths_45 rfl rfl ?_
        refine ke_i X Z dX5_waysOfTenths_46 ?_
        exact ⟨by rw [show g_ + 1 - n_ = i by omega], rfl⟩
      · skip
        omega
    | succ K_ ih =>
      intro i hi
      refine kb_iload X 4 dX5_waysOfTenths_5 rfl ?_
      refine kb_iload_n X 0 dX5_waysOfTenths_7 rfl rfl ?_
      refine kn_icmp_gt (a := n_ + i) (b := g_) (tgt := 45) X (by omega) (by omega) dX5_waysOfTenths_8 (by decide) (fun c2_ => ?_) (fun c2_ => ?_)
      · skip
        omega
      · skip
        refine kb_iload_n X 3 dX5_waysOfTenths_11 rfl rfl ?_
        refine kb_iload_n X 0 dX5_waysOfTenths_12 rfl rfl ?_
        refine kb_iload X 4 dX5_waysOfTenths_13 rfl ?_
        refine kc_Si X (As := [.int (nI (g_)), .int (nI (n_ + i))]) (rest := [.int (nI (wys g_ x_ n_ i))]) (wr := ([])) (ct_X5_choices l g g_ (n_ + i) (by omega) (by omega)) dX5_waysOfTenths_15 rfl (List.Perm.refl _) mc_X5_choices kl_X5_273 ms_X5_choices kn_X5 (na := 2) (by decide +kernel) rfl ⟨Nat.le_of_ble_eq_true rfl, Nat.le_of_ble_eq_true rfl⟩ ⟨rfl, rfl⟩ ⟨Nat.le_of_ble_eq_true rfl, Nat.le_of_ble_eq_true rfl⟩ (Nat.le_of_ble_eq_true rfl) (fun r_ w_ hp_ => ?_)
        obtain ⟨rfl, rfl⟩ := hp_
        refine kw_ws (List.nil_append _) ?_
        refine kb_iload_n X 2 dX5_waysOfTenths_18 rfl rfl ?_
        refine kb_iload X 4 dX5_waysOfTenths_19 rfl ?_
        refine kc_Si X (As := [.int (nI (x_)), .int (nI (n_ + i))]) (rest := [.int (nI (ck g_ (n_ + i) (n_ + i))), .int (nI (wys g_ x_ n_ i))]) (wr := ([])) (ct_X5_power l g x_ (n_ + i) (by omega)) dX5_waysOfTenths_21 rfl (List.Perm.refl _) mc_X5_power kl_X5_229 ms_X5_power kn_X5 (na := 2) (by decide +kernel) rfl ⟨Nat.le_of_ble_eq_true rfl, Nat.le_of_ble_eq_true rfl⟩ ⟨rfl, rfl⟩ ⟨Nat.le_of_ble_eq_true rfl, Nat.le_of_ble_eq_true rfl⟩ (Nat.le_of_ble_eq_true rfl) (fun r_ w_ hp_ => ?_)
        obtain ⟨rfl, rfl⟩ := hp_
        refine kw_ws (List.nil_append _) ?_
        refine kn_imul X (ck g_ (n_ + i) (n_ + i)) (x_ ^ (n_ + i)) dX5_waysOfTenths_24 ?_
        refine kb_bipush (v := (10 : Int32)) X dX5_waysOfTenths_25 (by decide) ?_
        refine kb_iload_n X 2 dX5_waysOfTenths_27 rfl rfl ?_
        refine kn_isub X 10 x_ (by omega) dX5_waysOfTenths_28 ?_
        refine kb_iload_n X 0 dX5_waysOfTenths_29 rfl rfl ?_
        refine kb_iload X 4 dX5_waysOfTenths_30 rfl ?_
        refine kn_isub X g_ (n_ + i) (by omega) dX5_waysOfTenths_32 ?_
        refine kc_Si X (As := [.int (nI (10 - x_)), .int (nI (g_ - (n_ + i)))]) (rest := [.int (nI ((ck g_ (n_ + i) (n_ + i)) * (x_ ^ (n_ + i)))), .int (nI (wys g_ x_ n_ i))]) (wr := ([])) (ct_X5_power l g (10 - x_) (g_ - (n_ + i)) (by omega)) dX5_waysOfTenths_33 rfl (List.Perm.refl _) mc_X5_power kl_X5_229 ms_X5_power kn_X5 (na := 2) (by decide +kernel) rfl ⟨Nat.le_of_ble_eq_true rfl, Nat.le_of_ble_eq_true rfl⟩ ⟨rfl, rfl⟩ ⟨Nat.le_of_ble_eq_true rfl, Nat.le_of_ble_eq_true rfl⟩ (Nat.le_of_ble_eq_true rfl) (fun r_ w_ hp_ => ?_)
        obtain ⟨rfl, rfl⟩ := hp_
        refine kw_ws (List.nil_append _) ?_
        refine kn_imul X ((ck g_ (n_ + i) (n_ + i)) * (x_ ^ (n_ + i))) ((10 - x_) ^ (g_ - (n_ + i))) dX5_waysOfTenths_36 ?_
        refine kn_iadd X (wys g_ x_ n_ i) (((ck g_ (n_ + i) (n_ + i)) * (x_ ^ (n_ + i))) * ((10 - x_) ^ (g_ - (n_ + i)))) dX5_waysOfTenths_37 ?_
        refine kb_istore_n X [1, 2, 3, 0, 4] dX5_waysOfTenths_38 rfl (by decide) (lv' := [(0, .int (nI (g_))), (1, .int (nI (n_))), (2, .int (nI (x_))), (3, .int (nI ((wys g_ x_ n_ i) + (((ck g_ (n_ + i) (n_ + i)) * (x_ ^ (n_ + i))) * ((10 - x_) ^ (g_ - (n_ + i))))))), (4, .int (nI (n_ + i)))]) rfl ?_
        refine kb_iinc X 4 [1, 2, 3, 4, 0] (v' := nI (n_ + i + 1)) dX5_waysOfTenths_39 rfl (nI_add _ _) (by decide) (lv' := [(0, .int (nI (g_))), (1, .int (nI (n_))), (2, .int (nI (x_))), (3, .int (nI ((wys g_ x_ n_ i) + (((ck g_ (n_ + i) (n_ + i)) * (x_ ^ (n_ + i))) * ((10 - x_) ^ (g_ - (n_ + i))))))), (4, .int (nI (n_ + i + 1)))]) rfl ?_
        refine kb_goto (tgt := 5) X dX5_waysOfTenths_42 (by decide) ?_
        exact kw_to (ih (i + 1) (by omega)) rfl rfl rfl
  exact kw_to (L5 (g_ + 1 - n_) 0 (by omega)) rfl rfl rfl

set_option maxHeartbeats 4000000 in
set_option maxRecDepth 100000 in
theorem ct_X5_commonDivisor (l : Launch) (g : kw_G) (p q : Nat) (hp : p < 2147483648) (hq : q < 2147483648) : kMi l g yX5_commonDivisor cX5_commonDivisor 6 .int (kw_rm 2 0 0) 0 0 [.int (nI (p)), .int (nI (q))] ([]) (fun r w => r = mx 1 (nI (eu 64 p q)) ∧ w = []) := by
  refine kMi_of (by decide +kernel) (Nat.le_of_ble_eq_true rfl) (fun x (X : kX l g RX5 cX5_commonDivisor 6 (kw_rm 2 0 0) x) (Z : kZi .int _ 0 0 x) => ?_)
  show kW x 0 0 0 [(0, .int (nI (p))), (1, .int (nI (q)))] [] []
  refine kb_iload_n X 0 dX5_commonDivisor_0 rfl rfl ?_
  refine kb_istore_n X [1, 2, 0] dX5_commonDivisor_1 rfl (by decide) (lv' := [(0, .int (nI (p))), (1, .int (nI (q))), (2, .int (nI (p)))]) rfl ?_
  refine kb_iload_n X 1 dX5_commonDivisor_2 rfl rfl ?_
  refine kb_istore_n X [1, 2, 3, 0] dX5_commonDivisor_3 rfl (by decide) (lv' := [(0, .int (nI (p))), (1, .int (nI (q))), (2, .int (nI (p))), (3, .int (nI (q)))]) rfl ?_
  refine kb_iconst (v := (0 : Int32)) X dX5_commonDivisor_4 (by decide) ?_
  refine kb_istore X [1, 2, 3, 4, 0] dX5_commonDivisor_5 (by decide) (lv' := [(0, .int (nI (p))), (1, .int (nI (q))), (2, .int (nI (p))), (3, .int (nI (q))), (4, .int 0)]) rfl ?_
  have L7 : ∀ (K_ st y w : Nat), st + K_ = 64 ∧ y < 2147483648 ∧ w < 2147483648 ∧ eu K_ y w = eu 64 p q → kW x 0 0 7 [(0, .int (nI (p))), (1, .int (nI (q))), (2, .int (nI (y))), (3, .int (nI (w))), (4, .int (nI (st)))] [] ([]) := by
    intro K_
    induction K_ with
    | zero =>
      intro st y w hh
      obtain ⟨hi, hy, hw, he⟩ := id hh
      refine kb_iload X 4 dX5_commonDivisor_7 rfl ?_
      refine kb_bipush (v := (64 : Int32)) X dX5_commonDivisor_9 (by decide) ?_
      refine kn_icmp_ge (a := st) (b := 64) (tgt := 34) X (by omega) (by omega) dX5_commonDivisor_11 (by decide) (fun c1_ => ?_) (fun c1_ => ?_)
      · skip
        refine kb_iconst (v := (1 : Int32)) X dX5_commonDivisor_34 (by decide) ?_
        refine kb_iload_n X 2 dX5_commonDivisor_35 rfl rfl ?_
        refine kc_Si X (As := [.int 1, .int (nI (y))]) (rest := []) (wr := ([])) (ct_J9_max_7cf53 l g (1 : Int32) (nI (y)) ) dX5_commonDivisor_36 rfl (List.Perm.refl _) mc_J9_max_7cf53 kl_X5_276 ms_J9_max_7cf53 kn_J9 (na := 2) (by decide +kernel) rfl ⟨Nat.le_of_ble_eq_true rfl, Nat.le_of_ble_eq_true rfl⟩ ⟨rfl, rfl⟩ ⟨Nat.le_of_ble_eq_true rfl, Nat.le_of_ble_eq_true rfl⟩ (Nat.le_of_ble_eq_true rfl) (fun r_ w_ hp_ => ?_)
        obtain ⟨rfl, rfl⟩ := hp_
        refine kw_ws (List.nil_append _) ?_
        refine ke_i X Z dX5_commonDivisor_39 ?_
        exact ⟨by rw [← he]; rfl, rfl⟩
      · skip
        omega
    | succ K_ ih =>
      intro st y w hh
      obtain ⟨hi, hy, hw, he⟩ := id hh
      refine kb_iload X 4 dX5_commonDivisor_7 rfl ?_
      refine kb_bipush (v := (64 : Int32)) X dX5_commonDivisor_9 (by decide) ?_
      refine kn_icmp_ge (a := st) (b := 64) (tgt := 34) X (by omega) (by omega) dX5_commonDivisor_11 (by decide) (fun c2_ => ?_) (fun c2_ => ?_)
      · skip
        omega
      · skip
        refine kb_iload_n X 3 dX5_commonDivisor_14 rfl rfl ?_
        refine kn_if_eq (a := w) (tgt := 34) X (by omega) dX5_commonDivisor_15 (by decide) (fun c3_ => ?_) (fun c3_ => ?_)
        · skip
          refine kb_iconst (v := (1 : Int32)) X dX5_commonDivisor_34 (by decide) ?_
          refine kb_iload_n X 2 dX5_commonDivisor_35 rfl rfl ?_
          refine kc_Si X (As := [.int 1, .int (nI (y))]) (rest := []) (wr := ([])) (ct_J9_max_7cf53 l g (1 : Int32) (nI (y)) ) dX5_commonDivisor_36 rfl (List.Perm.refl _) mc_J9_max_7cf53 kl_X5_276 ms_J9_max_7cf53 kn_J9 (na := 2) (by decide +kernel) rfl ⟨Nat.le_of_ble_eq_true rfl, Nat.le_of_ble_eq_true rfl⟩ ⟨rfl, rfl⟩ ⟨Nat.le_of_ble_eq_true rfl, Nat.le_of_ble_eq_true rfl⟩ (Nat.le_of_ble_eq_true rfl) (fun r_ w_ hp_ => ?_)
          obtain ⟨rfl, rfl⟩ := hp_
          refine kw_ws (List.nil_append _) ?_
          refine ke_i X Z dX5_commonDivisor_39 ?_
          exact ⟨by rw [← he, eu, if_pos (by omega)], rfl⟩
        · skip
          refine kb_iload_n X 2 dX5_commonDivisor_18 rfl rfl ?_
          refine kb_iload_n X 3 dX5_commonDivisor_19 rfl rfl ?_
          refine kn_irem X y w (by omega) (by omega) (by omega) dX5_commonDivisor_20 ?_
          refine kb_istore X [1, 2, 3, 4, 5, 0] dX5_commonDivisor_21 (by decide) (lv' := [(0, .int (nI (p))), (1, .int (nI (q))), (2, .int (nI (y))), (3, .int (nI (w))), (4, .int (nI (st))), (5, .int (nI (y % w)))]) rfl ?_
          refine kb_iload_n X 3 dX5_commonDivisor_23 rfl rfl ?_
          refine kb_istore_n X [1, 2, 0, 3, 4, 5] dX5_commonDivisor_24 rfl (by decide) (lv' := [(0, .int (nI (p))), (1, .int (nI (q))), (2, .int (nI (w))), (3, .int (nI (w))), (4, .int (nI (st))), (5, .int (nI (y % w)))]) rfl ?_
          refine kb_iload X 5 dX5_commonDivisor_25 rfl ?_
          refine kb_istore_n X [1, 2, 3, 0, 4, 5] dX5_commonDivisor_27 rfl (by decide) (lv' := [(0, .int (nI (p))), (1, .int (nI (q))), (2, .int (nI (w))), (3, .int (nI (y % w))), (4, .int (nI (st))), (5, .int (nI (y % w)))]) rfl ?_
          refine kb_iinc X 4 [1, 2, 3, 4, 0, 5] (v' := nI (st + 1)) dX5_commonDivisor_28 rfl (nI_add _ _) (by decide) (lv' := [(0, .int (nI (p))), (1, .int (nI (q))), (2, .int (nI (w))), (3, .int (nI (y % w))), (4, .int (nI (st + 1))), (5, .int (nI (y % w)))]) rfl ?_
          refine kw_lvs [0, 1, 2, 3, 4] (lv' := [(0, .int (nI (p))), (1, .int (nI (q))), (2, .int (nI (w))), (3, .int (nI (y % w))), (4, .int (nI (st + 1)))]) rfl ?_
          refine kb_goto (tgt := 7) X dX5_commonDivisor_31 (by decide) ?_
          exact kw_to (ih (st + 1) w (y % w) ⟨by omega, hw, by have := Nat.mod_lt y (show 0 < w by omega); omega, by rw [← he, eu, if_neg (by omega)]⟩) rfl rfl rfl
  exact kw_to (L7 64 0 p q ⟨rfl, hp, hq, rfl⟩) rfl rfl rfl

set_option maxHeartbeats 4000000 in
set_option maxRecDepth 100000 in
theorem ct_X5_rain (l : Launch) (g : kw_G) (m : Nat) (at_ an ar au : Nat → Nat) (adu : Nat → Nat → Nat) (ak : Nat → Nat) (adk : Nat → Nat → Nat) (as_ ao : Nat → Nat) (ado : Nat → Nat → Nat) (t : TS) (v u : VS) (sz tp : Nat) (uvs : Nat → VS) (kz kp : Nat) (kvs : Nat → VS) (s : SS) (oP oB : Nat → Nat) (oL oC : Int32) (oD oZ oM : Nat) (ovs : Nat → VS) (us ks : List VS) (tf : Nat → Nat) (tn : Nat) (hI : XI t sz tp uvs kz kp kvs oB oL oC oD oZ oM ovs v us ks tf tn s) (p b c n x_ mm : Int32) : kMi l g yX5_rain cX5_rain 11 .int (kw_rm 5 0 0) 0 0 [.ref (m), .int (p), .int (b), .int (c), .int (n), .int (x_), .int (mm)] (List.flatten [wX g m at_ an ar au ak as_ ao, wT g at_ t, wV g an v, wV g ar u, wPh g au adu 8 sz tp, wVs g adu uvs (List.range 8), wPh g ak adk 2 kz kp, wVs g adk kvs (List.range 2), wS g as_ s, wO g ao ado (oP, oB, oL, oC, oD, oZ, oM), wVs g ado ovs (List.range 7)]) (fun r w => r = oRain v p b c n x_ mm ∧ XWp g m at_ an ar au adu ak adk as_ ao ado v us ks tf tn s w) := by
  refine kMi_of (by decide +kernel) (Nat.le_of_ble_eq_true rfl) (fun x (X : kX l g RX5 cX5_rain 11 (kw_rm 5 0 0) x) (Z : kZi .int _ 0 0 x) => ?_)
  show kW x 0 0 0 [(0, .ref (m)), (1, .int (p)), (2, .int (b)), (3, .int (c)), (4, .int (n)), (5, .int (x_)), (6, .int (mm))] [] (List.flatten [wX g m at_ an ar au ak as_ ao, wT g at_ t, wV g an v, wV g ar u, wPh g au adu 8 sz tp, wVs g adu uvs (List.range 8), wPh g ak adk 2 kz kp, wVs g adk kvs (List.range 2), wS g as_ s, wO g ao ado (oP, oB, oL, oC, oD, oZ, oM), wVs g ado ovs (List.range 7)])
  obtain ⟨hG, hU, hKp, hT_, hs, hO⟩ := id hI
  have hv := hG.1
  have hT := hG.2.1
  have hN0 := hG.2.2.2
  have h6 := hv.1
  have hx64 := hv.2.1
  have hh64 := hv.2.2
  obtain ⟨ht, etn, htx⟩ := id hT_
  have hs1 := hs.1
  have hus := hU.1
  have hsz := hU.2.1
  have htp := hU.2.2.1
  have hks := hKp.1
  have hkz := hKp.2.1
  have hkp := hKp.2.2.1
  refine kb_aload_n X 0 dX5_rain_0 rfl rfl ?_
  refine kf_get (v := .ref (an 0)) (C := RX5) (T := TX5) (N := 7) (ci := 5) X kw_iX5 rfl 1 0 0 rfl rfl (by decide) kf_X5_19 rfl rfl dX5_rain_1 ?_
  refine kb_iload_n X 1 dX5_rain_4 rfl rfl ?_
  refine kc_Vi X (As := [.int (p)]) (rest := []) (wr := List.flatten [wX g m at_ an ar au ak as_ ao, wT g at_ t, wV g ar u, wPh g au adu 8 sz tp, wVs g adu uvs (List.range 8), wPh g ak adk 2 kz kp, wVs g adk kvs (List.range 2), wS g as_ s, wO g ao ado (oP, oB, oL, oC, oD, oZ, oM), wVs g ado ovs (List.range 7)]) (ct_X4_has l g an v p ) dX5_rain_5 rfl (kw_pk [wX g m at_ an ar au ak as_ ao, wT g at_ t, wV g an v, wV g ar u, wPh g au adu 8 sz tp, wVs g adu uvs (List.range 8), wPh g ak adk 2 kz kp, wVs g adk kvs (List.range 2), wS g as_ s, wO g ao ado (oP, oB, oL, oC, oD, oZ, oM), wVs g ado ovs (List.range 7)] 2 (Nat.le_of_ble_eq_true rfl)) mc_X4_has kl_X5_97 mi_X4_has mv_X4_has kn_X4 0 rfl rfl rfl (na := 1) (by decide +kernel) rfl ⟨Nat.le_of_ble_eq_true rfl, Nat.le_of_ble_eq_true rfl⟩ ⟨rfl, rfl⟩ ⟨Nat.le_of_ble_eq_true rfl, Nat.le_of_ble_eq_true rfl⟩ (Nat.le_of_ble_eq_true rfl) (fun r_ w_ hp_ => ?_)
  obtain ⟨rfl, rfl⟩ := hp_
  refine kw_perm (ws' := List.flatten [wX g m at_ an ar au ak as_ ao, wT g at_ t, wV g an v, wV g ar u, wPh g au adu 8 sz tp, wVs g adu uvs (List.range 8), wPh g ak adk 2 kz kp, wVs g adk kvs (List.range 2), wS g as_ s, wO g ao ado (oP, oB, oL, oC, oD, oZ, oM), wVs g ado ovs (List.range 7)]) (kw_pk [wX g m at_ an ar au ak as_ ao, wT g at_ t, wV g an v, wV g ar u, wPh g au adu 8 sz tp, wVs g adu uvs (List.range 8), wPh g ak adk 2 kz kp, wVs g adk kvs (List.range 2), wS g as_ s, wO g ao ado (oP, oB, oL, oC, oD, oZ, oM), wVs g ado ovs (List.range 7)] 2 (Nat.le_of_ble_eq_true rfl)).symm ?_
  refine kz_if_eq (b := pin p (vN v)) (tgt := 30) X dX5_rain_8 (by decide) (fun c1_ => ?_) (fun c1_ => ?_)
  · skip
    refine kb_iconst (v := (-1 : Int32)) X dX5_rain_30 (by decide) ?_
    refine ke_i X Z dX5_rain_31 ?_
    exact ⟨by simp [oRain, c1_], XWp.of hI⟩
  · skip
    obtain ⟨pj, hpj, epj, ePp⟩ := pin_j h6 c1_
    refine kb_iload_n X 2 dX5_rain_11 rfl rfl ?_
    refine kb_iload_n X 3 dX5_rain_12 rfl rfl ?_
    refine kc_Si X (As := [.int (b), .int (c)]) (rest := []) (wr := (List.flatten [wX g m at_ an ar au ak as_ ao, wT g at_ t, wV g an v, wV g ar u, wPh g au adu 8 sz tp, wVs g adu uvs (List.range 8), wPh g ak adk 2 kz kp, wVs g adk kvs (List.range 2), wS g as_ s, wO g ao ado (oP, oB, oL, oC, oD, oZ, oM), wVs g ado ovs (List.range 7)])) (ct_X5_isFare l g b c ) dX5_rain_13 rfl (List.Perm.refl _) mc_X5_isFare kl_X5_132 ms_X5_isFare kn_X5 (na := 2) (by decide +kernel) rfl ⟨Nat.le_of_ble_eq_true rfl, Nat.le_of_ble_eq_true rfl⟩ ⟨rfl, rfl⟩ ⟨Nat.le_of_ble_eq_true rfl, Nat.le_of_ble_eq_true rfl⟩ (Nat.le_of_ble_eq_true rfl) (fun r_ w_ hp_ => ?_)
    obtain ⟨rfl, rfl⟩ := hp_
    refine kw_ws (List.nil_append _) ?_
    refine kz_if_eq (b := fare b c) (tgt := 30) X dX5_rain_16 (by decide) (fun c2_ => ?_) (fun c2_ => ?_)
    · skip
      refine kb_iconst (v := (-1 : Int32)) X dX5_rain_30 (by decide) ?_
      refine ke_i X Z dX5_rain_31 ?_
      exact ⟨by simp [oRain, c1_, c2_], XWp.of hI⟩
    · skip
      refine kb_iload X 4 dX5_rain_19 rfl ?_
      refine kb_iconst (v := (0 : Int32)) X dX5_rain_21 (by decide) ?_
      refine kb_bipush (v := (6 : Int32)) X dX5_rain_22 (by decide) ?_
      refine kc_Si X (As := [.int (n), .int 0, .int 6]) (rest := []) (wr := (List.flatten [wX g m at_ an ar au ak as_ ao, wT g at_ t, wV g an v, wV g ar u, wPh g au adu 8 sz tp, wVs g adu uvs (List.range 8), wPh g ak adk 2 kz kp, wVs g adk kvs (List.range 2), wS g as_ s, wO g ao ado (oP, oB, oL, oC, oD, oZ, oM), wVs g ado ovs (List.range 7)])) (ct_X5_within l g n (0 : Int32) (6 : Int32) ) dX5_rain_24 rfl (List.Perm.refl _) mc_X5_within kl_X5_75 ms_X5_within kn_X5 (na := 3) (by decide +kernel) rfl ⟨Nat.le_of_ble_eq_true rfl, Nat.le_of_ble_eq_true rfl⟩ ⟨rfl, rfl⟩ ⟨Nat.le_of_ble_eq_true rfl, Nat.le_of_ble_eq_true rfl⟩ (Nat.le_of_ble_eq_true rfl) (fun r_ w_ hp_ => ?_)
      obtain ⟨rfl, rfl⟩ := hp_
      refine kw_ws (List.nil_append _) ?_
      refine kz_if_ne (b := inr n (0 : Int32) (6 : Int32)) (tgt := 32) X dX5_rain_27 (by decide) (fun c3_ => ?_) (fun c3_ => ?_)
      · skip
        obtain ⟨nn, hnn1, hnn2, enn, ePnn⟩ := inr_n (a := 0) (b := 6) (by decide) (by decide) c3_
        refine kb_iload X 5 dX5_rain_32 rfl ?_
        refine kb_iconst (v := (0 : Int32)) X dX5_rain_34 (by decide) ?_
        refine kb_bipush (v := (10 : Int32)) X dX5_rain_35 (by decide) ?_
        refine kc_Si X (As := [.int (x_), .int 0, .int 10]) (rest := []) (wr := (List.flatten [wX g m at_ an ar au ak as_ ao, wT g at_ t, wV g an v, wV g ar u, wPh g au adu 8 sz tp, wVs g adu uvs (List.range 8), wPh g ak adk 2 kz kp, wVs g adk kvs (List.range 2), wS g as_ s, wO g ao ado (oP, oB, oL, oC, oD, oZ, oM), wVs g ado ovs (List.range 7)])) (ct_X5_within l g x_ (0 : Int32) (10 : Int32) ) dX5_rain_37 rfl (List.Perm.refl _) mc_X5_within kl_X5_75 ms_X5_within kn_X5 (na := 3) (by decide +kernel) rfl ⟨Nat.le_of_ble_eq_true rfl, Nat.le_of_ble_eq_true rfl⟩ ⟨rfl, rfl⟩ ⟨Nat.le_of_ble_eq_true rfl, Nat.le_of_ble_eq_true rfl⟩ (Nat.le_of_ble_eq_true rfl) (fun r_ w_ hp_ => ?_)
        obtain ⟨rfl, rfl⟩ := hp_
        refine kw_ws (List.nil_append _) ?_
        refine kz_if_eq (b := inr x_ (0 : Int32) (10 : Int32)) (tgt := 53) X dX5_rain_40 (by decide) (fun c4_ => ?_) (fun c4_ => ?_)
        · skip
          refine kb_iconst (v := (-1 : Int32)) X dX5_rain_53 (by decide) ?_
          refine ke_i X Z dX5_rain_54 ?_
          exact ⟨by simp [oRain, c1_, c2_, c3_, c4_], XWp.of hI⟩
        · skip
          obtain ⟨xx, hxx1, hxx2, exx, ePxx⟩ := inr_n (a := 0) (b := 10) (by decide) (by decide) c4_
          refine kb_iload X 6 dX5_rain_43 rfl ?_
          refine kb_iconst (v := (0 : Int32)) X dX5_rain_45 (by decide) ?_
          refine kb_iconst (v := (1 : Int32)) X dX5_rain_46 (by decide) ?_
          refine kc_Si X (As := [.int (mm), .int 0, .int 1]) (rest := []) (wr := (List.flatten [wX g m at_ an ar au ak as_ ao, wT g at_ t, wV g an v, wV g ar u, wPh g au adu 8 sz tp, wVs g adu uvs (List.range 8), wPh g ak adk 2 kz kp, wVs g adk kvs (List.range 2), wS g as_ s, wO g ao ado (oP, oB, oL, oC, oD, oZ, oM), wVs g ado ovs (List.range 7)])) (ct_X5_within l g mm (0 : Int32) (1 : Int32) ) dX5_rain_47 rfl (List.Perm.refl _) mc_X5_within kl_X5_75 ms_X5_within kn_X5 (na := 3) (by decide +kernel) rfl ⟨Nat.le_of_ble_eq_true rfl, Nat.le_of_ble_eq_true rfl⟩ ⟨rfl, rfl⟩ ⟨Nat.le_of_ble_eq_true rfl, Nat.le_of_ble_eq_true rfl⟩ (Nat.le_of_ble_eq_true rfl) (fun r_ w_ hp_ => ?_)
          obtain ⟨rfl, rfl⟩ := hp_
          refine kw_ws (List.nil_append _) ?_
          refine kz_if_ne (b := inr mm (0 : Int32) (1 : Int32)) (tgt := 55) X dX5_rain_50 (by decide) (fun c5_ => ?_) (fun c5_ => ?_)
          · skip
            refine kw_lv (lv' := [(0, .ref (m)), (1, .int (nI (pj))), (2, .int (b)), (3, .int (c)), (4, .int (n)), (5, .int (x_)), (6, .int (mm))]) (by rw [epj]) ?_
            refine kw_lv (lv' := [(0, .ref (m)), (1, .int (nI (pj))), (2, .int (b)), (3, .int (c)), (4, .int (nI (nn))), (5, .int (x_)), (6, .int (mm))]) (by rw [enn]) ?_
            refine kw_lv (lv' := [(0, .ref (m)), (1, .int (nI (pj))), (2, .int (b)), (3, .int (c)), (4, .int (nI (nn))), (5, .int (nI (xx))), (6, .int (mm))]) (by rw [exx]) ?_
            refine kb_aload_n X 0 dX5_rain_55 rfl rfl ?_
            refine kf_get (v := .ref (an 0)) (C := RX5) (T := TX5) (N := 7) (ci := 5) X kw_iX5 rfl 1 0 0 rfl rfl (by decide) kf_X5_19 rfl rfl dX5_rain_56 ?_
            refine kb_iload_n X 1 dX5_rain_59 rfl rfl ?_
            refine kc_Vi X (As := [.int (nI (pj))]) (rest := []) (wr := List.flatten [wX g m at_ an ar au ak as_ ao, wT g at_ t, wV g ar u, wPh g au adu 8 sz tp, wVs g adu uvs (List.range 8), wPh g ak adk 2 kz kp, wVs g adk kvs (List.range 2), wS g as_ s, wO g ao ado (oP, oB, oL, oC, oD, oZ, oM), wVs g ado ovs (List.range 7)]) (ct_X4_lives l g an v hv pj (by omega)) dX5_rain_60 rfl (kw_pk [wX g m at_ an ar au ak as_ ao, wT g at_ t, wV g an v, wV g ar u, wPh g au adu 8 sz tp, wVs g adu uvs (List.range 8), wPh g ak adk 2 kz kp, wVs g adk kvs (List.range 2), wS g as_ s, wO g ao ado (oP, oB, oL, oC, oD, oZ, oM), wVs g ado ovs (List.range 7)] 2 (Nat.le_of_ble_eq_true rfl)) mc_X4_lives kl_X5_112 mi_X4_lives mv_X4_lives kn_X4 0 rfl rfl rfl (na := 1) (by decide +kernel) rfl ⟨Nat.le_of_ble_eq_true rfl, Nat.le_of_ble_eq_true rfl⟩ ⟨rfl, rfl⟩ ⟨Nat.le_of_ble_eq_true rfl, Nat.le_of_ble_eq_true rfl⟩ (Nat.le_of_ble_eq_true rfl) (fun r_ w_ hp_ => ?_)
            obtain ⟨rfl, rfl⟩ := hp_
            refine kw_perm (ws' := List.flatten [wX g m at_ an ar au ak as_ ao, wT g at_ t, wV g an v, wV g ar u, wPh g au adu 8 sz tp, wVs g adu uvs (List.range 8), wPh g ak adk 2 kz kp, wVs g adk kvs (List.range 2), wS g as_ s, wO g ao ado (oP, oB, oL, oC, oD, oZ, oM), wVs g ado ovs (List.range 7)]) (kw_pk [wX g m at_ an ar au ak as_ ao, wT g at_ t, wV g an v, wV g ar u, wPh g au adu 8 sz tp, wVs g adu uvs (List.range 8), wPh g ak adk 2 kz kp, wVs g adk kvs (List.range 2), wS g as_ s, wO g ao ado (oP, oB, oL, oC, oD, oZ, oM), wVs g ado ovs (List.range 7)] 2 (Nat.le_of_ble_eq_true rfl)).symm ?_
            refine kz_if_ne (b := wLives v pj) (tgt := 69) X dX5_rain_63 (by decide) (fun c6_ => ?_) (fun c6_ => ?_)
            · skip
              refine kb_aload_n X 0 dX5_rain_69 rfl rfl ?_
              refine kf_get (v := .ref (an 0)) (C := RX5) (T := TX5) (N := 7) (ci := 5) X kw_iX5 rfl 1 0 0 rfl rfl (by decide) kf_X5_19 rfl rfl dX5_rain_70 ?_
              refine kb_iload_n X 1 dX5_rain_73 rfl rfl ?_
              refine kb_iload_n X 2 dX5_rain_74 rfl rfl ?_
              refine kb_iload_n X 3 dX5_rain_75 rfl rfl ?_
              refine kc_Vi X (As := [.int (nI (pj)), .int (b), .int (c)]) (rest := []) (wr := List.flatten [wX g m at_ an ar au ak as_ ao, wT g at_ t, wV g ar u, wPh g au adu 8 sz tp, wVs g adu uvs (List.range 8), wPh g ak adk 2 kz kp, wVs g adk kvs (List.range 2), wS g as_ s, wO g ao ado (oP, oB, oL, oC, oD, oZ, oM), wVs g ado ovs (List.range 7)]) (ct_X4_guestsOf l g an v hv pj b c (by omega)) dX5_rain_76 rfl (kw_pk [wX g m at_ an ar au ak as_ ao, wT g at_ t, wV g an v, wV g ar u, wPh g au adu 8 sz tp, wVs g adu uvs (List.range 8), wPh g ak adk 2 kz kp, wVs g adk kvs (List.range 2), wS g as_ s, wO g ao ado (oP, oB, oL, oC, oD, oZ, oM), wVs g ado ovs (List.range 7)] 2 (Nat.le_of_ble_eq_true rfl)) mc_X4_guestsOf kl_X5_168 mi_X4_guestsOf mv_X4_guestsOf kn_X4 0 rfl rfl rfl (na := 3) (by decide +kernel) rfl ⟨Nat.le_of_ble_eq_true rfl, Nat.le_of_ble_eq_true rfl⟩ ⟨rfl, rfl⟩ ⟨Nat.le_of_ble_eq_true rfl, Nat.le_of_ble_eq_true rfl⟩ (Nat.le_of_ble_eq_true rfl) (fun r_ w_ hp_ => ?_)
              obtain ⟨rfl, rfl⟩ := hp_
              refine kw_perm (ws' := List.flatten [wX g m at_ an ar au ak as_ ao, wT g at_ t, wV g an v, wV g ar u, wPh g au adu 8 sz tp, wVs g adu uvs (List.range 8), wPh g ak adk 2 kz kp, wVs g adk kvs (List.range 2), wS g as_ s, wO g ao ado (oP, oB, oL, oC, oD, oZ, oM), wVs g ado ovs (List.range 7)]) (kw_pk [wX g m at_ an ar au ak as_ ao, wT g at_ t, wV g an v, wV g ar u, wPh g au adu 8 sz tp, wVs g adu uvs (List.range 8), wPh g ak adk 2 kz kp, wVs g adk kvs (List.range 2), wS g as_ s, wO g ao ado (oP, oB, oL, oC, oD, oZ, oM), wVs g ado ovs (List.range 7)] 2 (Nat.le_of_ble_eq_true rfl)).symm ?_
              refine kc_Si X (As := [.int (nI (wGuests v pj b c))]) (rest := []) (wr := (List.flatten [wX g m at_ an ar au ak as_ ao, wT g at_ t, wV g an v, wV g ar u, wPh g au adu 8 sz tp, wVs g adu uvs (List.range 8), wPh g ak adk 2 kz kp, wVs g adk kvs (List.range 2), wS g as_ s, wO g ao ado (oP, oB, oL, oC, oD, oZ, oM), wVs g ado ovs (List.range 7)])) (ct_J6_bitCount_0f7a4 l g (wGuests v pj b c) (wGuests_lt v pj b c h6)) dX5_rain_79 rfl (List.Perm.refl _) mc_J6_bitCount_0f7a4 kl_X5_171 ms_J6_bitCount_0f7a4 kn_J6 (na := 1) (by decide +kernel) rfl ⟨Nat.le_of_ble_eq_true rfl, Nat.le_of_ble_eq_true rfl⟩ ⟨rfl, rfl⟩ ⟨Nat.le_of_ble_eq_true rfl, Nat.le_of_ble_eq_true rfl⟩ (Nat.le_of_ble_eq_true rfl) (fun r_ w_ hp_ => ?_)
              obtain ⟨rfl, rfl⟩ := hp_
              refine kw_ws (List.nil_append _) ?_
              refine kb_istore X [1, 2, 3, 4, 5, 6, 7, 0] dX5_rain_82 (by decide) (lv' := [(0, .ref (m)), (1, .int (nI (pj))), (2, .int (b)), (3, .int (c)), (4, .int (nI (nn))), (5, .int (nI (xx))), (6, .int (mm)), (7, .int (nI (wBits (wGuests v pj b c))))]) rfl ?_
              obtain ⟨wd, hwd⟩ : ∃ k, wBits (wGuests v pj b c) = k := ⟨_, rfl⟩
              have hwd6 : wd ≤ 6 := by rw [← hwd]; exact wBits_le _
              have h2w := p2_le hwd6
              have hA_ := rA_lt hwd6 hxx2 h2w
              have hU_ := rU_le wd nn xx (2 ^ wd)
              have hq_ := rain_eq wd (by omega) nn (by omega) xx (by omega)
              have hA0_ : 0 < rA wd xx (2 ^ wd) := by rw [← hq_.2.1]; exact Nat.pow_pos (by decide)
              have hgp_ : 0 < Nat.gcd (rU wd nn xx (2 ^ wd)) (rA wd xx (2 ^ wd)) := Nat.gcd_pos_of_pos_right _ hA0_
              have hgl_ : Nat.gcd (rU wd nn xx (2 ^ wd)) (rA wd xx (2 ^ wd)) ≤ rA wd xx (2 ^ wd) := Nat.gcd_le_right _ hA0_
              have hmx_ : mx 1 (nI (eu 64 (rU wd nn xx (2 ^ wd)) (rA wd xx (2 ^ wd)))) = nI (Nat.gcd (rU wd nn xx (2 ^ wd)) (rA wd xx (2 ^ wd))) := by
                have h_ := hq_.2.2
                rw [hq_.2.1] at h_
                rw [h_]
                exact mx1 hgp_ (by omega)
              refine kw_lv (lv' := [(0, .ref (m)), (1, .int (nI (pj))), (2, .int (b)), (3, .int (c)), (4, .int (nI (nn))), (5, .int (nI (xx))), (6, .int (mm)), (7, .int (nI (wd)))]) (by rw [hwd]) ?_
              refine kb_iload X 7 dX5_rain_84 rfl ?_
              refine kb_iload X 4 dX5_rain_86 rfl ?_
              refine kb_iload X 5 dX5_rain_88 rfl ?_
              refine kc_Si X (As := [.int (nI (wd)), .int (nI (nn)), .int (nI (xx))]) (rest := []) (wr := (List.flatten [wX g m at_ an ar au ak as_ ao, wT g at_ t, wV g an v, wV g ar u, wPh g au adu 8 sz tp, wVs g adu uvs (List.range 8), wPh g ak adk 2 kz kp, wVs g adk kvs (List.range 2), wS g as_ s, wO g ao ado (oP, oB, oL, oC, oD, oZ, oM), wVs g ado ovs (List.range 7)])) (ct_X5_waysOfTenths l g wd nn xx (by omega) (by omega) (by omega)) dX5_rain_90 rfl (List.Perm.refl _) mc_X5_waysOfTenths kl_X5_226 ms_X5_waysOfTenths kn_X5 (na := 3) (by decide +kernel) rfl ⟨Nat.le_of_ble_eq_true rfl, Nat.le_of_ble_eq_true rfl⟩ ⟨rfl, rfl⟩ ⟨Nat.le_of_ble_eq_true rfl, Nat.le_of_ble_eq_true rfl⟩ (Nat.le_of_ble_eq_true rfl) (fun r_ w_ hp_ => ?_)
              obtain ⟨rfl, rfl⟩ := hp_
              refine kw_ws (List.nil_append _) ?_
              refine kw_top (b := .int (nI (rU wd nn xx (2 ^ wd)))) (by rw [hq_.1]) ?_
              refine kb_istore X [1, 2, 3, 4, 5, 6, 7, 8, 0] dX5_rain_93 (by decide) (lv' := [(0, .ref (m)), (1, .int (nI (pj))), (2, .int (b)), (3, .int (c)), (4, .int (nI (nn))), (5, .int (nI (xx))), (6, .int (mm)), (7, .int (nI (wd))), (8, .int (nI (rU wd nn xx (2 ^ wd))))]) rfl ?_
              refine kb_bipush (v := (10 : Int32)) X dX5_rain_95 (by decide) ?_
              refine kb_iload X 7 dX5_rain_97 rfl ?_
              refine kc_Si X (As := [.int 10, .int (nI (wd))]) (rest := []) (wr := (List.flatten [wX g m at_ an ar au ak as_ ao, wT g at_ t, wV g an v, wV g ar u, wPh g au adu 8 sz tp, wVs g adu uvs (List.range 8), wPh g ak adk 2 kz kp, wVs g adk kvs (List.range 2), wS g as_ s, wO g ao ado (oP, oB, oL, oC, oD, oZ, oM), wVs g ado ovs (List.range 7)])) (ct_X5_power l g 10 wd (by omega)) dX5_rain_99 rfl (List.Perm.refl _) mc_X5_power kl_X5_229 ms_X5_power kn_X5 (na := 2) (by decide +kernel) rfl ⟨Nat.le_of_ble_eq_true rfl, Nat.le_of_ble_eq_true rfl⟩ ⟨rfl, rfl⟩ ⟨Nat.le_of_ble_eq_true rfl, Nat.le_of_ble_eq_true rfl⟩ (Nat.le_of_ble_eq_true rfl) (fun r_ w_ hp_ => ?_)
              obtain ⟨rfl, rfl⟩ := hp_
              refine kw_ws (List.nil_append _) ?_
              refine kw_top (b := .int (nI (rA wd xx (2 ^ wd)))) (by rw [hq_.2.1]) ?_
              refine kb_istore X [1, 2, 3, 4, 5, 6, 7, 8, 9, 0] dX5_rain_102 (by decide) (lv' := [(0, .ref (m)), (1, .int (nI (pj))), (2, .int (b)), (3, .int (c)), (4, .int (nI (nn))), (5, .int (nI (xx))), (6, .int (mm)), (7, .int (nI (wd))), (8, .int (nI (rU wd nn xx (2 ^ wd)))), (9, .int (nI (rA wd xx (2 ^ wd))))]) rfl ?_
              refine kb_iload X 8 dX5_rain_104 rfl ?_
              refine kb_iload X 9 dX5_rain_106 rfl ?_
              refine kc_Si X (As := [.int (nI (rU wd nn xx (2 ^ wd))), .int (nI (rA wd xx (2 ^ wd)))]) (rest := []) (wr := (List.flatten [wX g m at_ an ar au ak as_ ao, wT g at_ t, wV g an v, wV g ar u, wPh g au adu 8 sz tp, wVs g adu uvs (List.range 8), wPh g ak adk 2 kz kp, wVs g adk kvs (List.range 2), wS g as_ s, wO g ao ado (oP, oB, oL, oC, oD, oZ, oM), wVs g ado ovs (List.range 7)])) (ct_X5_commonDivisor l g (rU wd nn xx (2 ^ wd)) (rA wd xx (2 ^ wd)) (by omega) (by omega)) dX5_rain_108 rfl (List.Perm.refl _) mc_X5_commonDivisor kl_X5_232 ms_X5_commonDivisor kn_X5 (na := 2) (by decide +kernel) rfl ⟨Nat.le_of_ble_eq_true rfl, Nat.le_of_ble_eq_true rfl⟩ ⟨rfl, rfl⟩ ⟨Nat.le_of_ble_eq_true rfl, Nat.le_of_ble_eq_true rfl⟩ (Nat.le_of_ble_eq_true rfl) (fun r_ w_ hp_ => ?_)
              obtain ⟨rfl, rfl⟩ := hp_
              refine kw_ws (List.nil_append _) ?_
              refine kw_top (b := .int (nI (Nat.gcd (rU wd nn xx (2 ^ wd)) (rA wd xx (2 ^ wd))))) (by rw [hmx_]) ?_
              refine kb_istore X [1, 2, 3, 4, 5, 6, 7, 8, 9, 10, 0] dX5_rain_111 (by decide) (lv' := [(0, .ref (m)), (1, .int (nI (pj))), (2, .int (b)), (3, .int (c)), (4, .int (nI (nn))), (5, .int (nI (xx))), (6, .int (mm)), (7, .int (nI (wd))), (8, .int (nI (rU wd nn xx (2 ^ wd)))), (9, .int (nI (rA wd xx (2 ^ wd)))), (10, .int (nI (Nat.gcd (rU wd nn xx (2 ^ wd)) (rA wd xx (2 ^ wd)))))]) rfl ?_
              refine kb_iload X 6 dX5_rain_113 rfl ?_
              refine kb_if_ne (tgt := 123) X dX5_rain_115 (by decide) (fun c7_ => ?_) (fun c7_ => ?_)
              · skip
                refine kb_iload X 9 dX5_rain_123 rfl ?_
                refine kb_iload X 10 dX5_rain_125 rfl ?_
                refine kn_idiv X (rA wd xx (2 ^ wd)) (Nat.gcd (rU wd nn xx (2 ^ wd)) (rA wd xx (2 ^ wd))) (by omega) (by omega) (by omega) dX5_rain_127 ?_
                refine ke_i X Z dX5_rain_128 ?_
                exact ⟨by simp [oRain, c1_, c2_, c3_, c4_, c5_, ePp, ePnn, ePxx, c6_, hwd, c7_, (by decide : inr 0 0 1 = true), (by decide : inr 1 0 1 = true)], XWp.of hI⟩
              · skip
                refine kb_iload X 8 dX5_rain_118 rfl ?_
                refine kb_goto (tgt := 125) X dX5_rain_120 (by decide) ?_
                refine kb_iload X 10 dX5_rain_125 rfl ?_
                refine kn_idiv X (rU wd nn xx (2 ^ wd)) (Nat.gcd (rU wd nn xx (2 ^ wd)) (rA wd xx (2 ^ wd))) (by omega) (by omega) (by omega) dX5_rain_127 ?_
                refine ke_i X Z dX5_rain_128 ?_
                exact ⟨by simp [oRain, c1_, c2_, c3_, c4_, c5_, ePp, ePnn, ePxx, c6_, hwd, c7_, (by decide : inr 0 0 1 = true), (by decide : inr 1 0 1 = true)], XWp.of hI⟩
            · skip
              refine kb_bipush (v := (-2 : Int32)) X dX5_rain_66 (by decide) ?_
              refine ke_i X Z dX5_rain_68 ?_
              exact ⟨by simp [oRain, c1_, c2_, c3_, c4_, c5_, ePp, ePnn, ePxx, c6_], XWp.of hI⟩
          · skip
            refine kb_iconst (v := (-1 : Int32)) X dX5_rain_53 (by decide) ?_
            refine ke_i X Z dX5_rain_54 ?_
            exact ⟨by simp [oRain, c1_, c2_, c3_, c4_, c5_], XWp.of hI⟩
      · skip
        refine kb_iconst (v := (-1 : Int32)) X dX5_rain_30 (by decide) ?_
        refine ke_i X Z dX5_rain_31 ?_
        exact ⟨by simp [oRain, c1_, c2_, c3_], XWp.of hI⟩

