set_option maxHeartbeats 8000000 in
set_option maxRecDepth 100000 in
theorem ct_X0_tryAll (l : Launch) (g : kw_G) (a : Nat → Nat) (ad : Nat → Nat → Nat) (bl ck : Int32) (du si : Nat) : ∀ (f d lf cm : Nat) (q : OQ), d + f = 6 → lf < 64 → cm ≤ 6 * d → QI q → kMv l g yX0_tryAll cX0_tryAll 7 (kw_rm (7 + f) 0 0) 0 0 [.ref (a 0), .int (nI (d)), .int (nI (lf)), .int (nI (cm))] (List.flatten [wO g a ad ((qP q), (qB q), bl, ck, du, si, (qM q)), wVs g ad (qV q) (List.range 7)]) (fun w => w = List.flatten [wO g a ad ((qP (ta bl ck f d lf cm q)), (qB (ta bl ck f d lf cm q)), bl, ck, du, si, (qM (ta bl ck f d lf cm q))), wVs g ad (qV (ta bl ck f d lf cm q)) (List.range 7)]) := by
  intro f
  induction f with
  | zero =>
    intro d lf cm q hd hl hc hq
    obtain ⟨hq1, hq2, hq3⟩ := id hq
    have h06 := (hq1 0).1
    have hp_ := Nat.mul_le_mul (wBits_le lf) (show vN (qV q 0) - 1 ≤ 5 by omega)
    refine kMv_of (by decide +kernel) (Nat.le_of_ble_eq_true rfl) (fun x (X : kX l g RX0 cX0_tryAll 7 (kw_rm (7 + 0) 0 0) x) (Z : kZv _ 0 0 x) => ?_)
    show kW x 0 0 0 [(0, .ref (a 0)), (1, .int (nI (d))), (2, .int (nI (lf))), (3, .int (nI (cm)))] [] (List.flatten [wO g a ad ((qP q), (qB q), bl, ck, du, si, (qM q)), wVs g ad (qV q) (List.range 7)])
    refine kb_iload_n X 2 dX0_tryAll_0 rfl rfl ?_
    refine kn_if_eq (a := lf) (tgt := 10) X (by omega) dX0_tryAll_1 (by decide) (fun c1_ => ?_) (fun c1_ => ?_)
    · skip
      refine kb_aload_n X 0 dX0_tryAll_10 rfl rfl ?_
      refine kb_iload_n X 3 dX0_tryAll_11 rfl rfl ?_
      refine kc_Vv X (As := [.int (nI (cm))]) (rest := []) (wr := List.flatten [wVs g ad (qV q) (List.range 7)]) (ct_X0_note l g a ad (qP q) (qB q) bl ck du si (qM q) cm (by omega) (by omega)) dX0_tryAll_12 rfl (kw_pk [wO g a ad ((qP q), (qB q), bl, ck, du, si, (qM q)), wVs g ad (qV q) (List.range 7)] 0 (Nat.le_of_ble_eq_true rfl)) mc_X0_note kl_X0_62 mi_X0_note mv_X0_note kn_X0 0 rfl rfl rfl (na := 1) (by decide +kernel) rfl ⟨by show _ + 1 ≤ 7 + _; simp only [kw_rm]; omega, by show _ ≤ 40 * (7 + _); simp only [kw_rm]; omega⟩ ⟨rfl, rfl⟩ ⟨Nat.le_of_ble_eq_true rfl, Nat.le_of_ble_eq_true rfl⟩ (Nat.le_of_ble_eq_true rfl) (fun w_ hp_ => ?_)
      rw [oNote_w] at hp_
      obtain rfl := hp_
      refine kw_perm (ws' := List.flatten [wO g a ad ((qP (oNote cm q)), (qB (oNote cm q)), bl, ck, du, si, (qM (oNote cm q))), wVs g ad (qV q) (List.range 7)]) (kw_pk [wO g a ad ((qP (oNote cm q)), (qB (oNote cm q)), bl, ck, du, si, (qM (oNote cm q))), wVs g ad (qV q) (List.range 7)] 0 (Nat.le_of_ble_eq_true rfl)).symm ?_
      refine ke_v X Z dX0_tryAll_15 ?_
      exact (by rw [show ta bl ck 0 d lf cm q = oNote cm q from rfl, oNote_V])
    · skip
      refine kb_iload_n X 1 dX0_tryAll_4 rfl rfl ?_
      refine kb_bipush (v := (6 : Int32)) X dX0_tryAll_5 (by decide) ?_
      refine kn_icmp_lt (a := d) (b := 6) (tgt := 16) X (by omega) (by omega) dX0_tryAll_7 (by decide) (fun c2_ => ?_) (fun c2_ => ?_)
      · skip
        omega
      · skip
        refine kb_aload_n X 0 dX0_tryAll_10 rfl rfl ?_
        refine kb_iload_n X 3 dX0_tryAll_11 rfl rfl ?_
        refine kc_Vv X (As := [.int (nI (cm))]) (rest := []) (wr := List.flatten [wVs g ad (qV q) (List.range 7)]) (ct_X0_note l g a ad (qP q) (qB q) bl ck du si (qM q) cm (by omega) (by omega)) dX0_tryAll_12 rfl (kw_pk [wO g a ad ((qP q), (qB q), bl, ck, du, si, (qM q)), wVs g ad (qV q) (List.range 7)] 0 (Nat.le_of_ble_eq_true rfl)) mc_X0_note kl_X0_62 mi_X0_note mv_X0_note kn_X0 0 rfl rfl rfl (na := 1) (by decide +kernel) rfl ⟨by show _ + 1 ≤ 7 + _; simp only [kw_rm]; omega, by show _ ≤ 40 * (7 + _); simp only [kw_rm]; omega⟩ ⟨rfl, rfl⟩ ⟨Nat.le_of_ble_eq_true rfl, Nat.le_of_ble_eq_true rfl⟩ (Nat.le_of_ble_eq_true rfl) (fun w_ hp_ => ?_)
        rw [oNote_w] at hp_
        obtain rfl := hp_
        refine kw_perm (ws' := List.flatten [wO g a ad ((qP (oNote cm q)), (qB (oNote cm q)), bl, ck, du, si, (qM (oNote cm q))), wVs g ad (qV q) (List.range 7)]) (kw_pk [wO g a ad ((qP (oNote cm q)), (qB (oNote cm q)), bl, ck, du, si, (qM (oNote cm q))), wVs g ad (qV q) (List.range 7)] 0 (Nat.le_of_ble_eq_true rfl)).symm ?_
        refine ke_v X Z dX0_tryAll_15 ?_
        exact (by rw [show ta bl ck 0 d lf cm q = oNote cm q from rfl, oNote_V])
  | succ f ih =>
    intro d lf cm q hd hl hc hq
    obtain ⟨hq1, hq2, hq3⟩ := id hq
    have h06 := (hq1 0).1
    have hp_ := Nat.mul_le_mul (wBits_le lf) (show vN (qV q 0) - 1 ≤ 5 by omega)
    refine kMv_of (by decide +kernel) (Nat.le_of_ble_eq_true rfl) (fun x (X : kX l g RX0 cX0_tryAll 7 (kw_rm (7 + (f + 1)) 0 0) x) (Z : kZv _ 0 0 x) => ?_)
    show kW x 0 0 0 [(0, .ref (a 0)), (1, .int (nI (d))), (2, .int (nI (lf))), (3, .int (nI (cm)))] [] (List.flatten [wO g a ad ((qP q), (qB q), bl, ck, du, si, (qM q)), wVs g ad (qV q) (List.range 7)])
    refine kb_iload_n X 2 dX0_tryAll_0 rfl rfl ?_
    refine kn_if_eq (a := lf) (tgt := 10) X (by omega) dX0_tryAll_1 (by decide) (fun c1_ => ?_) (fun c1_ => ?_)
    · skip
      refine kb_aload_n X 0 dX0_tryAll_10 rfl rfl ?_
      refine kb_iload_n X 3 dX0_tryAll_11 rfl rfl ?_
      refine kc_Vv X (As := [.int (nI (cm))]) (rest := []) (wr := List.flatten [wVs g ad (qV q) (List.range 7)]) (ct_X0_note l g a ad (qP q) (qB q) bl ck du si (qM q) cm (by omega) (by omega)) dX0_tryAll_12 rfl (kw_pk [wO g a ad ((qP q), (qB q), bl, ck, du, si, (qM q)), wVs g ad (qV q) (List.range 7)] 0 (Nat.le_of_ble_eq_true rfl)) mc_X0_note kl_X0_62 mi_X0_note mv_X0_note kn_X0 0 rfl rfl rfl (na := 1) (by decide +kernel) rfl ⟨by show _ + 1 ≤ 7 + _; simp only [kw_rm]; omega, by show _ ≤ 40 * (7 + _); simp only [kw_rm]; omega⟩ ⟨rfl, rfl⟩ ⟨Nat.le_of_ble_eq_true rfl, Nat.le_of_ble_eq_true rfl⟩ (Nat.le_of_ble_eq_true rfl) (fun w_ hp_ => ?_)
      rw [oNote_w] at hp_
      obtain rfl := hp_
      refine kw_perm (ws' := List.flatten [wO g a ad ((qP (oNote cm q)), (qB (oNote cm q)), bl, ck, du, si, (qM (oNote cm q))), wVs g ad (qV q) (List.range 7)]) (kw_pk [wO g a ad ((qP (oNote cm q)), (qB (oNote cm q)), bl, ck, du, si, (qM (oNote cm q))), wVs g ad (qV q) (List.range 7)] 0 (Nat.le_of_ble_eq_true rfl)).symm ?_
      refine ke_v X Z dX0_tryAll_15 ?_
      exact (by rw [ta_succ, if_pos (by omega), oNote_V])
    · skip
      refine kb_iload_n X 1 dX0_tryAll_4 rfl rfl ?_
      refine kb_bipush (v := (6 : Int32)) X dX0_tryAll_5 (by decide) ?_
      refine kn_icmp_lt (a := d) (b := 6) (tgt := 16) X (by omega) (by omega) dX0_tryAll_7 (by decide) (fun c2_ => ?_) (fun c2_ => ?_)
      · skip
        refine kb_aload_n X 0 dX0_tryAll_16 rfl rfl ?_
        refine kf_get (v := .ref (a 1)) (C := RX0) (T := TX0) (N := 8) (ci := 0) X kw_iX0 rfl 0 0 0 rfl rfl (by decide) kf_X0_11 rfl rfl dX0_tryAll_17 ?_
        refine kb_iconst (v := (0 : Int32)) X dX0_tryAll_20 (by decide) ?_
        refine kf_qald (j := 0) X 0 1 rfl rfl (by omega) (by decide) rfl dX0_tryAll_21 ?_
        refine kw_perm (ws' := List.flatten [wO g a ad ((qP q), (qB q), bl, ck, du, si, (qM q)), wV g (ad 0) ((qV q) 0), wVs g ad (qV q) (List.erase (List.range 7) 0)]) (fl_open [wO g a ad ((qP q), (qB q), bl, ck, du, si, (qM q))] [] (wVs_open g ad (qV q) (mem_rg (by omega : 0 < 7)))) ?_
        refine kf_get (v := .int (nI (vN ((qV q) 0)))) (C := RX4) (T := TX4) (N := 11) (ci := 4) X kw_iX4 rfl 5 1 0 rfl rfl (by decide) kf_X0_49 rfl rfl dX0_tryAll_22 ?_
        refine kw_perm (ws' := List.flatten [wO g a ad ((qP q), (qB q), bl, ck, du, si, (qM q)), wVs g ad (va_up (qV q) 0 ((qV q) 0)) (List.range 7)]) (fl_close [wO g a ad ((qP q), (qB q), bl, ck, du, si, (qM q))] [] (wVs_close g ad (qV q) ((qV q) 0) (nd_rg 7) (mem_rg (by omega : 0 < 7)))) ?_
        rw [va_up_same]
        refine kb_iconst (v := (1 : Int32)) X dX0_tryAll_25 (by decide) ?_
        refine kn_isub X (vN ((qV q) 0)) 1 (by omega) dX0_tryAll_26 ?_
        refine kb_istore X [1, 2, 3, 4, 0] dX0_tryAll_27 (by decide) (lv' := [(0, .ref (a 0)), (1, .int (nI (d))), (2, .int (nI (lf))), (3, .int (nI (cm))), (4, .int (nI ((vN ((qV q) 0)) - 1)))]) rfl ?_
        refine kb_iload_n X 3 dX0_tryAll_29 rfl rfl ?_
        refine kb_iload_n X 2 dX0_tryAll_30 rfl rfl ?_
        refine kc_Si X (As := [.int (nI (lf))]) (rest := [.int (nI (cm))]) (wr := (List.flatten [wO g a ad ((qP q), (qB q), bl, ck, du, si, (qM q)), wVs g ad (qV q) (List.range 7)])) (ct_J6_bitCount_0f7a4 l g lf hl) dX0_tryAll_31 rfl (List.Perm.refl _) mc_J6_bitCount_0f7a4 kl_X0_56 ms_J6_bitCount_0f7a4 kn_J6 (na := 1) (by decide +kernel) rfl ⟨by show _ + 1 ≤ 7 + _; simp only [kw_rm]; omega, by show _ ≤ 40 * (7 + _); simp only [kw_rm]; omega⟩ ⟨rfl, rfl⟩ ⟨Nat.le_of_ble_eq_true rfl, Nat.le_of_ble_eq_true rfl⟩ (Nat.le_of_ble_eq_true rfl) (fun r_ w_ hp_ => ?_)
        obtain ⟨rfl, rfl⟩ := hp_
        refine kw_ws (List.nil_append _) ?_
        refine kb_iload X 4 dX0_tryAll_34 rfl ?_
        refine kn_imul X (wBits lf) ((vN ((qV q) 0)) - 1) dX0_tryAll_36 ?_
        refine kn_iadd X cm ((wBits lf) * ((vN ((qV q) 0)) - 1)) dX0_tryAll_37 ?_
        refine kb_aload_n X 0 dX0_tryAll_38 rfl rfl ?_
        refine kf_get (v := .int (nI (qM q) - 1)) (C := RX0) (T := TX0) (N := 8) (ci := 0) X kw_iX0 rfl 7 0 0 rfl rfl (by decide) kf_X0_37 rfl rfl dX0_tryAll_39 ?_
        refine kb_icmp_gt (tgt := 46) X dX0_tryAll_42 (by decide) (fun c3_ => ?_) (fun c3_ => ?_)
        · skip
          have d_ := (om_gt (by omega) (by omega)).mp c3_
          refine kb_iconst (v := (0 : Int32)) X dX0_tryAll_46 (by decide) ?_
          refine kb_istore X [1, 2, 3, 4, 5, 0] dX0_tryAll_47 (by decide) (lv' := [(0, .ref (a 0)), (1, .int (nI (d))), (2, .int (nI (lf))), (3, .int (nI (cm))), (4, .int (nI ((vN ((qV q) 0)) - 1))), (5, .int 0)]) rfl ?_
          have L49 : ∀ (K_ i : Nat), i + K_ = 6 → kW x 0 0 49 [(0, .ref (a 0)), (1, .int (nI (d))), (2, .int (nI (lf))), (3, .int (nI (cm))), (4, .int (nI ((vN ((qV q) 0)) - 1))), (5, .int (nI (i)))] [] (List.flatten [wO g a ad ((qP (tl (tlF bl ck f d lf cm) q i)), (qB (tl (tlF bl ck f d lf cm) q i)), bl, ck, du, si, (qM (tl (tlF bl ck f d lf cm) q i))), wVs g ad (qV (tl (tlF bl ck f d lf cm) q i)) (List.range 7)]) := by
            intro K_
            induction K_ with
            | zero =>
              intro i hi
              have hqi : QI (tl (tlF bl ck f d lf cm) q i) := QI_tl (tlF_QI bl ck f d lf cm (by omega) hc) hq i (by omega)
              refine kb_iload X 5 dX0_tryAll_49 rfl ?_
              refine kb_bipush (v := (6 : Int32)) X dX0_tryAll_51 (by decide) ?_
              refine kn_icmp_ge (a := i) (b := 6) (tgt := 99) X (by omega) (by omega) dX0_tryAll_53 (by decide) (fun c4_ => ?_) (fun c4_ => ?_)
              · skip
                refine ke_v X Z dX0_tryAll_99 ?_
                exact (by rw [ta_succ, if_neg (by omega), if_neg (by omega), show i = 6 by omega])
              · skip
                omega
            | succ K_ ih2 =>
              intro i hi
              have hqi : QI (tl (tlF bl ck f d lf cm) q i) := QI_tl (tlF_QI bl ck f d lf cm (by omega) hc) hq i (by omega)
              refine kb_iload X 5 dX0_tryAll_49 rfl ?_
              refine kb_bipush (v := (6 : Int32)) X dX0_tryAll_51 (by decide) ?_
              refine kn_icmp_ge (a := i) (b := 6) (tgt := 99) X (by omega) (by omega) dX0_tryAll_53 (by decide) (fun c5_ => ?_) (fun c5_ => ?_)
              · skip
                omega
              · skip
                refine kb_iload_n X 2 dX0_tryAll_56 rfl rfl ?_
                refine kb_iload X 5 dX0_tryAll_57 rfl ?_
                refine kc_SNi X (As := [.int (nI (lf)), .int (nI (i))]) (rest := []) (wr := (List.flatten [wO g a ad ((qP (tl (tlF bl ck f d lf cm) q i)), (qB (tl (tlF bl ck f d lf cm) q i)), bl, ck, du, si, (qM (tl (tlF bl ck f d lf cm) q i))), wVs g ad (qV (tl (tlF bl ck f d lf cm) q i)) (List.range 7)])) (ct_X5_contains l g lf i (by omega) (by omega)) dX0_tryAll_59 rfl (List.Perm.refl _) mc_X5_contains (by simp [kw_nest]) ms_X5_contains kn_X5 (na := 2) (by decide +kernel) rfl ⟨by show _ + 1 ≤ 7 + _; simp only [kw_rm]; omega, by show _ ≤ 40 * (7 + _); simp only [kw_rm]; omega⟩ ⟨rfl, rfl⟩ ⟨Nat.le_of_ble_eq_true rfl, Nat.le_of_ble_eq_true rfl⟩ (Nat.le_of_ble_eq_true rfl) (fun r_ w_ hp_ => ?_)
                obtain ⟨rfl, rfl⟩ := hp_
                refine kw_ws (List.nil_append _) ?_
                refine kz_if_eq (b := Nat.testBit lf i) (tgt := 93) X dX0_tryAll_62 (by decide) (fun c6_ => ?_) (fun c6_ => ?_)
                · skip
                  refine kb_iinc X 5 [1, 2, 3, 4, 5, 0] (v' := nI (i + 1)) dX0_tryAll_93 rfl (nI_add _ _) (by decide) (lv' := [(0, .ref (a 0)), (1, .int (nI (d))), (2, .int (nI (lf))), (3, .int (nI (cm))), (4, .int (nI ((vN ((qV q) 0)) - 1))), (5, .int (nI (i + 1)))]) rfl ?_
                  refine kb_goto (tgt := 49) X dX0_tryAll_96 (by decide) ?_
                  exact kw_to (ih2 (i + 1) (by omega)) rfl rfl (by rw [show tl (tlF bl ck f d lf cm) q (i + 1) = tl (tlF bl ck f d lf cm) q i from by rw [tl, tlF, if_neg (by simp [c6_])]])
                · skip
                  refine kb_aload_n X 0 dX0_tryAll_65 rfl rfl ?_
                  refine kb_iload_n X 1 dX0_tryAll_66 rfl rfl ?_
                  refine kb_iload X 5 dX0_tryAll_67 rfl ?_
                  refine kc_Vi X (As := [.int (nI (d)), .int (nI (i))]) (rest := []) (wr := []) (ct_X0_step l g a ad (qP (tl (tlF bl ck f d lf cm) q i)) (qB (tl (tlF bl ck f d lf cm) q i)) bl ck du si (qM (tl (tlF bl ck f d lf cm) q i)) (qV (tl (tlF bl ck f d lf cm) q i)) d i (by omega) (by omega) (hqi.1 d)) dX0_tryAll_69 rfl (kw_pk2 [wO g a ad ((qP (tl (tlF bl ck f d lf cm) q i)), (qB (tl (tlF bl ck f d lf cm) q i)), bl, ck, du, si, (qM (tl (tlF bl ck f d lf cm) q i))), wVs g ad (qV (tl (tlF bl ck f d lf cm) q i)) (List.range 7)] 0 0 (Nat.le_of_ble_eq_true rfl) (Nat.le_of_ble_eq_true rfl)) mc_X0_step kl_X0_70 mi_X0_step mv_X0_step kn_X0 0 rfl rfl rfl (na := 2) (by decide +kernel) rfl ⟨by show _ + 1 ≤ 7 + _; simp only [kw_rm]; omega, by show _ ≤ 40 * (7 + _); simp only [kw_rm]; omega⟩ ⟨rfl, rfl⟩ ⟨Nat.le_of_ble_eq_true rfl, Nat.le_of_ble_eq_true rfl⟩ (Nat.le_of_ble_eq_true rfl) (fun r_ w_ hp_ => ?_)
                  obtain ⟨rfl, rfl⟩ := hp_
                  refine kw_perm (ws' := List.flatten [wO g a ad ((qP (oStep d i bl ck (tl (tlF bl ck f d lf cm) q i))), (qB (oStep d i bl ck (tl (tlF bl ck f d lf cm) q i))), bl, ck, du, si, (qM (oStep d i bl ck (tl (tlF bl ck f d lf cm) q i)))), wVs g ad (qV (oStep d i bl ck (tl (tlF bl ck f d lf cm) q i))) (List.range 7)]) (kw_pk2 [wO g a ad ((qP (oStep d i bl ck (tl (tlF bl ck f d lf cm) q i))), (qB (oStep d i bl ck (tl (tlF bl ck f d lf cm) q i))), bl, ck, du, si, (qM (oStep d i bl ck (tl (tlF bl ck f d lf cm) q i)))), wVs g ad (qV (oStep d i bl ck (tl (tlF bl ck f d lf cm) q i))) (List.range 7)] 0 0 (Nat.le_of_ble_eq_true rfl) (Nat.le_of_ble_eq_true rfl)).symm ?_
                  refine kb_istore X [1, 2, 3, 4, 5, 6, 0] dX0_tryAll_72 (by decide) (lv' := [(0, .ref (a 0)), (1, .int (nI (d))), (2, .int (nI (lf))), (3, .int (nI (cm))), (4, .int (nI ((vN ((qV q) 0)) - 1))), (5, .int (nI (i))), (6, .int (nI (stC (qV (tl (tlF bl ck f d lf cm) q i) d) i bl ck)))]) rfl ?_
                  refine kb_aload_n X 0 dX0_tryAll_74 rfl rfl ?_
                  refine kb_iload_n X 1 dX0_tryAll_75 rfl rfl ?_
                  refine kb_iconst (v := (1 : Int32)) X dX0_tryAll_76 (by decide) ?_
                  refine kn_iadd X d 1 dX0_tryAll_77 ?_
                  refine kb_iload_n X 2 dX0_tryAll_78 rfl rfl ?_
                  refine kb_iconst (v := (1 : Int32)) X dX0_tryAll_79 (by decide) ?_
                  refine kb_iload X 5 dX0_tryAll_80 rfl ?_
                  refine kb_ishl X dX0_tryAll_82 ?_
                  refine kb_iconst (v := (-1 : Int32)) X dX0_tryAll_83 (by decide) ?_
                  refine kb_ixor X dX0_tryAll_84 ?_
                  refine kb_iand X dX0_tryAll_85 ?_
                  refine kw_top (b := .int (nI (lf - 2 ^ i))) (by rw [clr_bit lf hl i (by omega) c6_]) ?_
                  refine kb_iload_n X 3 dX0_tryAll_86 rfl rfl ?_
                  refine kb_iload X 6 dX0_tryAll_87 rfl ?_
                  refine kn_iadd X cm (stC (qV (tl (tlF bl ck f d lf cm) q i) d) i bl ck) dX0_tryAll_89 ?_
                  refine kc_Sv X (As := [.ref (a 0), .int (nI (d + 1)), .int (nI (lf - 2 ^ i)), .int (nI (cm + (stC (qV (tl (tlF bl ck f d lf cm) q i) d) i bl ck)))]) (rest := []) (wr := []) (ih ((d + 1)) (lf - 2 ^ i) (cm + (stC (qV (tl (tlF bl ck f d lf cm) q i) d) i bl ck)) (oStep d i bl ck (tl (tlF bl ck f d lf cm) q i)) (by omega) (Nat.lt_of_le_of_lt (Nat.sub_le _ _) hl) (by have := stC_le (qV (tl (tlF bl ck f d lf cm) q i) d) i bl ck; omega) (QI_step hqi (by omega))) dX0_tryAll_90 rfl (kw_pk2 [wO g a ad ((qP (oStep d i bl ck (tl (tlF bl ck f d lf cm) q i))), (qB (oStep d i bl ck (tl (tlF bl ck f d lf cm) q i))), bl, ck, du, si, (qM (oStep d i bl ck (tl (tlF bl ck f d lf cm) q i)))), wVs g ad (qV (oStep d i bl ck (tl (tlF bl ck f d lf cm) q i))) (List.range 7)] 0 0 (Nat.le_of_ble_eq_true rfl) (Nat.le_of_ble_eq_true rfl)) mc_X0_tryAll kl_X0_74 ms_X0_tryAll kn_X0 (na := 4) (by decide +kernel) rfl ⟨by show _ + 1 ≤ 7 + _; simp only [kw_rm]; omega, by show _ ≤ 40 * (7 + _); simp only [kw_rm]; omega⟩ ⟨rfl, rfl⟩ ⟨Nat.le_of_ble_eq_true rfl, Nat.le_of_ble_eq_true rfl⟩ (Nat.le_of_ble_eq_true rfl) (fun w_ hp_ => ?_)
                  obtain rfl := hp_
                  refine kw_perm (ws' := List.flatten [wO g a ad ((qP (ta bl ck f (d + 1) (lf - 2 ^ i) (cm + stC (qV (tl (tlF bl ck f d lf cm) q i) d) i bl ck) (oStep d i bl ck (tl (tlF bl ck f d lf cm) q i)))), (qB (ta bl ck f (d + 1) (lf - 2 ^ i) (cm + stC (qV (tl (tlF bl ck f d lf cm) q i) d) i bl ck) (oStep d i bl ck (tl (tlF bl ck f d lf cm) q i)))), bl, ck, du, si, (qM (ta bl ck f (d + 1) (lf - 2 ^ i) (cm + stC (qV (tl (tlF bl ck f d lf cm) q i) d) i bl ck) (oStep d i bl ck (tl (tlF bl ck f d lf cm) q i))))), wVs g ad (qV (ta bl ck f (d + 1) (lf - 2 ^ i) (cm + stC (qV (tl (tlF bl ck f d lf cm) q i) d) i bl ck) (oStep d i bl ck (tl (tlF bl ck f d lf cm) q i)))) (List.range 7)]) (kw_pk2 [wO g a ad ((qP (ta bl ck f (d + 1) (lf - 2 ^ i) (cm + stC (qV (tl (tlF bl ck f d lf cm) q i) d) i bl ck) (oStep d i bl ck (tl (tlF bl ck f d lf cm) q i)))), (qB (ta bl ck f (d + 1) (lf - 2 ^ i) (cm + stC (qV (tl (tlF bl ck f d lf cm) q i) d) i bl ck) (oStep d i bl ck (tl (tlF bl ck f d lf cm) q i)))), bl, ck, du, si, (qM (ta bl ck f (d + 1) (lf - 2 ^ i) (cm + stC (qV (tl (tlF bl ck f d lf cm) q i) d) i bl ck) (oStep d i bl ck (tl (tlF bl ck f d lf cm) q i))))), wVs g ad (qV (ta bl ck f (d + 1) (lf - 2 ^ i) (cm + stC (qV (tl (tlF bl ck f d lf cm) q i) d) i bl ck) (oStep d i bl ck (tl (tlF bl ck f d lf cm) q i)))) (List.range 7)] 0 0 (Nat.le_of_ble_eq_true rfl) (Nat.le_of_ble_eq_true rfl)).symm ?_
                  refine kw_lvs [0, 1, 2, 3, 4, 5] (lv' := [(0, .ref (a 0)), (1, .int (nI (d))), (2, .int (nI (lf))), (3, .int (nI (cm))), (4, .int (nI ((vN ((qV q) 0)) - 1))), (5, .int (nI (i)))]) rfl ?_
                  refine kb_iinc X 5 [1, 2, 3, 4, 5, 0] (v' := nI (i + 1)) dX0_tryAll_93 rfl (nI_add _ _) (by decide) (lv' := [(0, .ref (a 0)), (1, .int (nI (d))), (2, .int (nI (lf))), (3, .int (nI (cm))), (4, .int (nI ((vN ((qV q) 0)) - 1))), (5, .int (nI (i + 1)))]) rfl ?_
                  refine kb_goto (tgt := 49) X dX0_tryAll_96 (by decide) ?_
                  exact kw_to (ih2 (i + 1) (by omega)) rfl rfl (by rw [show tl (tlF bl ck f d lf cm) q (i + 1) = ta bl ck f (d + 1) (lf - 2 ^ i) (cm + stC (qV (tl (tlF bl ck f d lf cm) q i) d) i bl ck) (oStep d i bl ck (tl (tlF bl ck f d lf cm) q i)) from by rw [tl, tlF, if_pos c6_]])
          exact kw_to (L49 6 0 rfl) rfl rfl rfl
        · skip
          have d_ := mt (om_gt (by omega) (by omega)).mpr c3_
          refine ke_v X Z dX0_tryAll_45 ?_
          exact (by rw [ta_succ, if_neg (by omega), if_pos (by omega)])
      · skip
        refine kb_aload_n X 0 dX0_tryAll_10 rfl rfl ?_
        refine kb_iload_n X 3 dX0_tryAll_11 rfl rfl ?_
        refine kc_Vv X (As := [.int (nI (cm))]) (rest := []) (wr := List.flatten [wVs g ad (qV q) (List.range 7)]) (ct_X0_note l g a ad (qP q) (qB q) bl ck du si (qM q) cm (by omega) (by omega)) dX0_tryAll_12 rfl (kw_pk [wO g a ad ((qP q), (qB q), bl, ck, du, si, (qM q)), wVs g ad (qV q) (List.range 7)] 0 (Nat.le_of_ble_eq_true rfl)) mc_X0_note kl_X0_62 mi_X0_note mv_X0_note kn_X0 0 rfl rfl rfl (na := 1) (by decide +kernel) rfl ⟨by show _ + 1 ≤ 7 + _; simp only [kw_rm]; omega, by show _ ≤ 40 * (7 + _); simp only [kw_rm]; omega⟩ ⟨rfl, rfl⟩ ⟨Nat.le_of_ble_eq_true rfl, Nat.le_of_ble_eq_true rfl⟩ (Nat.le_of_ble_eq_true rfl) (fun w_ hp_ => ?_)
        rw [oNote_w] at hp_
        obtain rfl := hp_
        refine kw_perm (ws' := List.flatten [wO g a ad ((qP (oNote cm q)), (qB (oNote cm q)), bl, ck, du, si, (qM (oNote cm q))), wVs g ad (qV q) (List.range 7)]) (kw_pk [wO g a ad ((qP (oNote cm q)), (qB (oNote cm q)), bl, ck, du, si, (qM (oNote cm q))), wVs g ad (qV q) (List.range 7)] 0 (Nat.le_of_ble_eq_true rfl)).symm ?_
        refine ke_v X Z dX0_tryAll_15 ?_
        exact (by rw [ta_succ, if_pos (by omega), oNote_V])
