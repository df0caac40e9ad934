set_option maxHeartbeats 4000000 in
set_option maxRecDepth 100000 in
theorem ct_X5_order (l : Launch) (g : kw_G) (m : Nat) (at_ an ar au : Nat → Nat) (adu : Nat → Nat → Nat) (ak : Nat → Nat) (adk : Nat → Nat → Nat) (as_ ao : Nat → Nat) (ado : Nat → Nat → Nat) (t : TS) (v u : VS) (sz tp : Nat) (uvs : Nat → VS) (kz kp : Nat) (kvs : Nat → VS) (s : SS) (oP oB : Nat → Nat) (oL oC : Int32) (oD oZ oM : Nat) (ovs : Nat → VS) (us ks : List VS) (tf : Nat → Nat) (tn : Nat) (hI : XI t sz tp uvs kz kp kvs oB oL oC oD oZ oM ovs v us ks tf tn s) (b c k : Int32) : kMi l g yX5_order cX5_order 4 .int (kw_rm 14 0 0) 0 0 [.ref (m), .int (b), .int (c), .int (k)] (List.flatten [wX g m at_ an ar au ak as_ ao, wT g at_ t, wV g an v, wV g ar u, wPh g au adu 8 sz tp, wVs g adu uvs (List.range 8), wPh g ak adk 2 kz kp, wVs g adk kvs (List.range 2), wS g as_ s, wO g ao ado (oP, oB, oL, oC, oD, oZ, oM), wVs g ado ovs (List.range 7)]) (fun r w => r = oOrder v b c k ∧ XWp g m at_ an ar au adu ak adk as_ ao ado v us ks tf tn s w) := by
  refine kMi_of (by decide +kernel) (Nat.le_of_ble_eq_true rfl) (fun x (X : kX l g RX5 cX5_order 4 (kw_rm 14 0 0) x) (Z : kZi .int _ 0 0 x) => ?_)
  show kW x 0 0 0 [(0, .ref (m)), (1, .int (b)), (2, .int (c)), (3, .int (k))] [] (List.flatten [wX g m at_ an ar au ak as_ ao, wT g at_ t, wV g an v, wV g ar u, wPh g au adu 8 sz tp, wVs g adu uvs (List.range 8), wPh g ak adk 2 kz kp, wVs g adk kvs (List.range 2), wS g as_ s, wO g ao ado (oP, oB, oL, oC, oD, oZ, oM), wVs g ado ovs (List.range 7)])
  obtain ⟨hG, hU, hKp, hT_, hs, hO⟩ := id hI
  have hv := hG.1
  have hT := hG.2.1
  have hN0 := hG.2.2.2
  have h6 := hv.1
  have hx64 := hv.2.1
  have hh64 := hv.2.2
  obtain ⟨ht, etn, htx⟩ := id hT_
  have hs1 := hs.1
  have hus := hU.1
  have hsz := hU.2.1
  have htp := hU.2.2.1
  have hks := hKp.1
  have hkz := hKp.2.1
  have hkp := hKp.2.2.1
  refine kb_iload_n X 1 dX5_order_0 rfl rfl ?_
  refine kb_iload_n X 2 dX5_order_1 rfl rfl ?_
  refine kc_Si X (As := [.int (b), .int (c)]) (rest := []) (wr := (List.flatten [wX g m at_ an ar au ak as_ ao, wT g at_ t, wV g an v, wV g ar u, wPh g au adu 8 sz tp, wVs g adu uvs (List.range 8), wPh g ak adk 2 kz kp, wVs g adk kvs (List.range 2), wS g as_ s, wO g ao ado (oP, oB, oL, oC, oD, oZ, oM), wVs g ado ovs (List.range 7)])) (ct_X5_isFare l g b c ) dX5_order_2 rfl (List.Perm.refl _) mc_X5_isFare kl_X5_132 ms_X5_isFare kn_X5 (na := 2) (by decide +kernel) rfl ⟨Nat.le_of_ble_eq_true rfl, Nat.le_of_ble_eq_true rfl⟩ ⟨rfl, rfl⟩ ⟨Nat.le_of_ble_eq_true rfl, Nat.le_of_ble_eq_true rfl⟩ (Nat.le_of_ble_eq_true rfl) (fun r_ w_ hp_ => ?_)
  obtain ⟨rfl, rfl⟩ := hp_
  refine kw_ws (List.nil_append _) ?_
  refine kz_if_eq (b := fare b c) (tgt := 18) X dX5_order_5 (by decide) (fun c1_ => ?_) (fun c1_ => ?_)
  · skip
    refine kb_iconst (v := (-1 : Int32)) X dX5_order_18 (by decide) ?_
    refine ke_i X Z dX5_order_19 ?_
    exact ⟨by simp [oOrder, c1_], XWp.of hI⟩
  · skip
    refine kb_iload_n X 3 dX5_order_8 rfl rfl ?_
    refine kb_iconst (v := (0 : Int32)) X dX5_order_9 (by decide) ?_
    refine kb_bipush (v := (6 : Int32)) X dX5_order_10 (by decide) ?_
    refine kc_Si X (As := [.int (k), .int 0, .int 6]) (rest := []) (wr := (List.flatten [wX g m at_ an ar au ak as_ ao, wT g at_ t, wV g an v, wV g ar u, wPh g au adu 8 sz tp, wVs g adu uvs (List.range 8), wPh g ak adk 2 kz kp, wVs g adk kvs (List.range 2), wS g as_ s, wO g ao ado (oP, oB, oL, oC, oD, oZ, oM), wVs g ado ovs (List.range 7)])) (ct_X5_within l g k (0 : Int32) (6 : Int32) ) dX5_order_12 rfl (List.Perm.refl _) mc_X5_within kl_X5_75 ms_X5_within kn_X5 (na := 3) (by decide +kernel) rfl ⟨Nat.le_of_ble_eq_true rfl, Nat.le_of_ble_eq_true rfl⟩ ⟨rfl, rfl⟩ ⟨Nat.le_of_ble_eq_true rfl, Nat.le_of_ble_eq_true rfl⟩ (Nat.le_of_ble_eq_true rfl) (fun r_ w_ hp_ => ?_)
    obtain ⟨rfl, rfl⟩ := hp_
    refine kw_ws (List.nil_append _) ?_
    refine kz_if_ne (b := inr k (0 : Int32) (6 : Int32)) (tgt := 20) X dX5_order_15 (by decide) (fun c2_ => ?_) (fun c2_ => ?_)
    · skip
      obtain ⟨kj, hk1, hk2, ek, ePk⟩ := inr_n (a := 0) (b := 6) (by decide) (by decide) c2_
      refine kw_lv (lv' := [(0, .ref (m)), (1, .int (b)), (2, .int (c)), (3, .int (nI (kj)))]) (by rw [ek]) ?_
      refine kb_aload_n X 0 dX5_order_20 rfl rfl ?_
      refine kf_get (v := .ref (ao 0)) (C := RX5) (T := TX5) (N := 7) (ci := 5) X kw_iX5 rfl 6 0 0 rfl rfl (by decide) kf_X5_48 rfl rfl dX5_order_21 ?_
      refine kb_aload_n X 0 dX5_order_24 rfl rfl ?_
      refine kf_get (v := .ref (an 0)) (C := RX5) (T := TX5) (N := 7) (ci := 5) X kw_iX5 rfl 1 0 0 rfl rfl (by decide) kf_X5_19 rfl rfl dX5_order_25 ?_
      refine kb_iload_n X 1 dX5_order_28 rfl rfl ?_
      refine kb_iload_n X 2 dX5_order_29 rfl rfl ?_
      refine kc_Vi X (As := [.ref (an 0), .int (b), .int (c)]) (rest := []) (wr := List.flatten [wX g m at_ an ar au ak as_ ao, wT g at_ t, wV g ar u, wPh g au adu 8 sz tp, wVs g adu uvs (List.range 8), wPh g ak adk 2 kz kp, wVs g adk kvs (List.range 2), wS g as_ s]) (ct_X0_isFor l g ao ado oP oB oL oC oD oZ oM ovs an v b c (hO.1 0) hv) dX5_order_30 rfl (kw_pk3 [wX g m at_ an ar au ak as_ ao, wT g at_ t, wV g an v, wV g ar u, wPh g au adu 8 sz tp, wVs g adu uvs (List.range 8), wPh g ak adk 2 kz kp, wVs g adk kvs (List.range 2), wS g as_ s, wO g ao ado (oP, oB, oL, oC, oD, oZ, oM), wVs g ado ovs (List.range 7)] 9 9 2 (Nat.le_of_ble_eq_true rfl) (Nat.le_of_ble_eq_true rfl) (Nat.le_of_ble_eq_true rfl)) mc_X0_isFor kl_X5_189 mi_X0_isFor mv_X0_isFor kn_X0 0 rfl rfl rfl (na := 3) (by decide +kernel) rfl ⟨Nat.le_of_ble_eq_true rfl, Nat.le_of_ble_eq_true rfl⟩ ⟨rfl, rfl⟩ ⟨Nat.le_of_ble_eq_true rfl, Nat.le_of_ble_eq_true rfl⟩ (Nat.le_of_ble_eq_true rfl) (fun r_ w_ hp_ => ?_)
      obtain ⟨rfl, rfl⟩ := hp_
      refine kw_perm (ws' := List.flatten [wX g m at_ an ar au ak as_ ao, wT g at_ t, wV g an v, wV g ar u, wPh g au adu 8 sz tp, wVs g adu uvs (List.range 8), wPh g ak adk 2 kz kp, wVs g adk kvs (List.range 2), wS g as_ s, wO g ao ado (oP, oB, oL, oC, oD, oZ, oM), wVs g ado ovs (List.range 7)]) (kw_pk3 [wX g m at_ an ar au ak as_ ao, wT g at_ t, wV g an v, wV g ar u, wPh g au adu 8 sz tp, wVs g adu uvs (List.range 8), wPh g ak adk 2 kz kp, wVs g adk kvs (List.range 2), wS g as_ s, wO g ao ado (oP, oB, oL, oC, oD, oZ, oM), wVs g ado ovs (List.range 7)] 9 9 2 (Nat.le_of_ble_eq_true rfl) (Nat.le_of_ble_eq_true rfl) (Nat.le_of_ble_eq_true rfl)).symm ?_
      refine kz_if_ne (b := (decide (oL = b) && (decide (oC = c) && wLike (ovs 0) v))) (tgt := 65) X dX5_order_33 (by decide) (fun c3_ => ?_) (fun c3_ => ?_)
      · skip
        have cf_ := c3_
        have hz2_ := (hO.is hG cf_).2.2
        have hw6_ := wBits_le (sDue v (vN v))
        refine kb_iload_n X 3 dX5_order_65 rfl rfl ?_
        refine kn_if_ne (a := kj) (tgt := 77) X (by omega) dX5_order_66 (by decide) (fun c4_ => ?_) (fun c4_ => ?_)
        · skip
          refine kb_iload_n X 3 dX5_order_77 rfl rfl ?_
          refine kb_aload_n X 0 dX5_order_78 rfl rfl ?_
          refine kf_get (v := .ref (ao 0)) (C := RX5) (T := TX5) (N := 7) (ci := 5) X kw_iX5 rfl 6 0 0 rfl rfl (by decide) kf_X5_48 rfl rfl dX5_order_79 ?_
          refine kf_get (v := .int (nI (oZ))) (C := RX0) (T := TX0) (N := 8) (ci := 0) X kw_iX0 rfl 6 9 0 rfl rfl (by decide) kf_X5_207 rfl rfl dX5_order_82 ?_
          refine kn_icmp_gt (a := kj) (b := oZ) (tgt := 102) X (by omega) (by omega) dX5_order_85 (by decide) (fun c5_ => ?_) (fun c5_ => ?_)
          · skip
            refine kb_bipush (v := (-4 : Int32)) X dX5_order_102 (by decide) ?_
            refine ke_i X Z dX5_order_104 ?_
            have hz_ := (hO.is hG cf_).2.2
            exact ⟨by rw [xo_ret h6 c1_ c2_ ek hk2 (hO.is hG cf_).1 (hO.is hG cf_).2.1, if_neg (by omega), if_pos (by omega)], XWp.of hI⟩
          · skip
            refine kb_aload_n X 0 dX5_order_88 rfl rfl ?_
            refine kf_get (v := .ref (ao 0)) (C := RX5) (T := TX5) (N := 7) (ci := 5) X kw_iX5 rfl 6 0 0 rfl rfl (by decide) kf_X5_48 rfl rfl dX5_order_89 ?_
            refine kf_get (v := .ref (ao 3)) (C := RX0) (T := TX0) (N := 8) (ci := 0) X kw_iX0 rfl 2 9 0 rfl rfl (by decide) kf_X5_208 rfl rfl dX5_order_92 ?_
            refine kb_iload_n X 3 dX5_order_95 rfl rfl ?_
            refine kb_iconst (v := (1 : Int32)) X dX5_order_96 (by decide) ?_
            refine kn_isub X kj 1 (by omega) dX5_order_97 ?_
            refine kf_iald (j := kj - 1) X 9 3 rfl rfl (by omega) (by decide) dX5_order_98 ?_
            refine kb_goto (tgt := 104) X dX5_order_99 (by decide) ?_
            refine ke_i X Z dX5_order_104 ?_
            have hz_ := (hO.is hG cf_).2.2
            exact ⟨by rw [xo_ret h6 c1_ c2_ ek hk2 (hO.is hG cf_).1 (hO.is hG cf_).2.1, if_neg (by omega), if_neg (by omega)], XWp.of hI⟩
        · skip
          refine kb_aload_n X 0 dX5_order_69 rfl rfl ?_
          refine kf_get (v := .ref (ao 0)) (C := RX5) (T := TX5) (N := 7) (ci := 5) X kw_iX5 rfl 6 0 0 rfl rfl (by decide) kf_X5_48 rfl rfl dX5_order_70 ?_
          refine kf_get (v := .int (nI oM - 1)) (C := RX0) (T := TX0) (N := 8) (ci := 0) X kw_iX0 rfl 7 9 0 rfl rfl (by decide) kf_X5_204 rfl rfl dX5_order_73 ?_
          refine ke_i X Z dX5_order_76 ?_
          have hz_ := (hO.is hG cf_).2.2
          exact ⟨by rw [xo_ret h6 c1_ c2_ ek hk2 (hO.is hG cf_).1 (hO.is hG cf_).2.1, if_pos (by omega)], XWp.of hI⟩
      · skip
        have hn_ := XO.new (oP := oP) (oB := oB) (b := b) (c := c) hO.1 hG
        have hw6_ := wBits_le (sDue v (vN v))
        refine kb_aload_n X 0 dX5_order_36 rfl rfl ?_
        refine kf_get (v := .ref (ao 0)) (C := RX5) (T := TX5) (N := 7) (ci := 5) X kw_iX5 rfl 6 0 0 rfl rfl (by decide) kf_X5_48 rfl rfl dX5_order_37 ?_
        refine kb_aload_n X 0 dX5_order_40 rfl rfl ?_
        refine kf_get (v := .ref (an 0)) (C := RX5) (T := TX5) (N := 7) (ci := 5) X kw_iX5 rfl 1 0 0 rfl rfl (by decide) kf_X5_19 rfl rfl dX5_order_41 ?_
        refine kb_iload_n X 1 dX5_order_44 rfl rfl ?_
        refine kb_iload_n X 2 dX5_order_45 rfl rfl ?_
        refine kc_Vv X (As := [.ref (an 0), .int (b), .int (c)]) (rest := []) (wr := List.flatten [wX g m at_ an ar au ak as_ ao, wT g at_ t, wV g ar u, wPh g au adu 8 sz tp, wVs g adu uvs (List.range 8), wPh g ak adk 2 kz kp, wVs g adk kvs (List.range 2), wS g as_ s]) (ct_X0_start l g ao ado oP oB oL oC oD oZ oM ovs an v b c hv) dX5_order_46 rfl (kw_pk3 [wX g m at_ an ar au ak as_ ao, wT g at_ t, wV g an v, wV g ar u, wPh g au adu 8 sz tp, wVs g adu uvs (List.range 8), wPh g ak adk 2 kz kp, wVs g adk kvs (List.range 2), wS g as_ s, wO g ao ado (oP, oB, oL, oC, oD, oZ, oM), wVs g ado ovs (List.range 7)] 9 9 2 (Nat.le_of_ble_eq_true rfl) (Nat.le_of_ble_eq_true rfl) (Nat.le_of_ble_eq_true rfl)) mc_X0_start kl_X5_193 mi_X0_start mv_X0_start kn_X0 0 rfl rfl rfl (na := 3) (by decide +kernel) rfl ⟨Nat.le_of_ble_eq_true rfl, Nat.le_of_ble_eq_true rfl⟩ ⟨rfl, rfl⟩ ⟨Nat.le_of_ble_eq_true rfl, Nat.le_of_ble_eq_true rfl⟩ (Nat.le_of_ble_eq_true rfl) (fun w_ hp_ => ?_)
        obtain rfl := hp_
        refine kw_perm (ws' := List.flatten [wX g m at_ an ar au ak as_ ao, wT g at_ t, wV g an v, wV g ar u, wPh g au adu 8 sz tp, wVs g adu uvs (List.range 8), wPh g ak adk 2 kz kp, wVs g adk kvs (List.range 2), wS g as_ s, wO g ao ado (oP, oB, b, c, (sDue v (vN v)), (wBits (sDue v (vN v))), 0), wVs g ado (va_up ovs 0 v) (List.range 7)]) (kw_pk3 [wX g m at_ an ar au ak as_ ao, wT g at_ t, wV g an v, wV g ar u, wPh g au adu 8 sz tp, wVs g adu uvs (List.range 8), wPh g ak adk 2 kz kp, wVs g adk kvs (List.range 2), wS g as_ s, wO g ao ado (oP, oB, b, c, (sDue v (vN v)), (wBits (sDue v (vN v))), 0), wVs g ado (va_up ovs 0 v) (List.range 7)] 9 9 2 (Nat.le_of_ble_eq_true rfl) (Nat.le_of_ble_eq_true rfl) (Nat.le_of_ble_eq_true rfl)).symm ?_
        refine kb_aload_n X 0 dX5_order_49 rfl rfl ?_
        refine kf_get (v := .ref (ao 0)) (C := RX5) (T := TX5) (N := 7) (ci := 5) X kw_iX5 rfl 6 0 0 rfl rfl (by decide) kf_X5_48 rfl rfl dX5_order_50 ?_
        refine kb_iconst (v := (0 : Int32)) X dX5_order_53 (by decide) ?_
        refine kb_aload_n X 0 dX5_order_54 rfl rfl ?_
        refine kf_get (v := .ref (ao 0)) (C := RX5) (T := TX5) (N := 7) (ci := 5) X kw_iX5 rfl 6 0 0 rfl rfl (by decide) kf_X5_48 rfl rfl dX5_order_55 ?_
        refine kf_get (v := .int (nI ((sDue v (vN v))))) (C := RX0) (T := TX0) (N := 8) (ci := 0) X kw_iX0 rfl 5 9 0 rfl rfl (by decide) kf_X5_197 rfl rfl dX5_order_58 ?_
        refine kb_iconst (v := (0 : Int32)) X dX5_order_61 (by decide) ?_
        refine kc_SNv X (As := [.ref (ao 0), .int 0, .int (nI ((sDue v (vN v)))), .int 0]) (rest := []) (wr := List.flatten [wX g m at_ an ar au ak as_ ao, wT g at_ t, wV g an v, wV g ar u, wPh g au adu 8 sz tp, wVs g adu uvs (List.range 8), wPh g ak adk 2 kz kp, wVs g adk kvs (List.range 2), wS g as_ s]) (ct_X0_tryAll l g ao ado b c (sDue v (vN v)) (wBits (sDue v (vN v))) 6 0 (sDue v (vN v)) 0 (oP, oB, 0, va_up ovs 0 v) rfl (sDue_64 v h6) (Nat.zero_le _) hn_.2.1) dX5_order_62 rfl (kw_pk2 [wX g m at_ an ar au ak as_ ao, wT g at_ t, wV g an v, wV g ar u, wPh g au adu 8 sz tp, wVs g adu uvs (List.range 8), wPh g ak adk 2 kz kp, wVs g adk kvs (List.range 2), wS g as_ s, wO g ao ado (oP, oB, b, c, (sDue v (vN v)), (wBits (sDue v (vN v))), 0), wVs g ado (va_up ovs 0 v) (List.range 7)] 9 9 (Nat.le_of_ble_eq_true rfl) (Nat.le_of_ble_eq_true rfl)) mc_X0_tryAll (by simp [kw_nest]) ms_X0_tryAll kn_X0 (na := 4) (by decide +kernel) rfl ⟨Nat.le_of_ble_eq_true rfl, Nat.le_of_ble_eq_true rfl⟩ ⟨rfl, rfl⟩ ⟨Nat.le_of_ble_eq_true rfl, Nat.le_of_ble_eq_true rfl⟩ (Nat.le_of_ble_eq_true rfl) (fun w_ hp_ => ?_)
        obtain rfl := hp_
        refine kw_perm (ws' := List.flatten [wX g m at_ an ar au ak as_ ao, wT g at_ t, wV g an v, wV g ar u, wPh g au adu 8 sz tp, wVs g adu uvs (List.range 8), wPh g ak adk 2 kz kp, wVs g adk kvs (List.range 2), wS g as_ s, wO g ao ado ((qP (ta b c 6 0 (sDue v (vN v)) 0 (oP, oB, 0, va_up ovs 0 v))), (qB (ta b c 6 0 (sDue v (vN v)) 0 (oP, oB, 0, va_up ovs 0 v))), b, c, (sDue v (vN v)), (wBits (sDue v (vN v))), (qM (ta b c 6 0 (sDue v (vN v)) 0 (oP, oB, 0, va_up ovs 0 v)))), wVs g ado (qV (ta b c 6 0 (sDue v (vN v)) 0 (oP, oB, 0, va_up ovs 0 v))) (List.range 7)]) (kw_pk2 [wX g m at_ an ar au ak as_ ao, wT g at_ t, wV g an v, wV g ar u, wPh g au adu 8 sz tp, wVs g adu uvs (List.range 8), wPh g ak adk 2 kz kp, wVs g adk kvs (List.range 2), wS g as_ s, wO g ao ado ((qP (ta b c 6 0 (sDue v (vN v)) 0 (oP, oB, 0, va_up ovs 0 v))), (qB (ta b c 6 0 (sDue v (vN v)) 0 (oP, oB, 0, va_up ovs 0 v))), b, c, (sDue v (vN v)), (wBits (sDue v (vN v))), (qM (ta b c 6 0 (sDue v (vN v)) 0 (oP, oB, 0, va_up ovs 0 v)))), wVs g ado (qV (ta b c 6 0 (sDue v (vN v)) 0 (oP, oB, 0, va_up ovs 0 v))) (List.range 7)] 9 9 (Nat.le_of_ble_eq_true rfl) (Nat.le_of_ble_eq_true rfl)).symm ?_
        refine kb_iload_n X 3 dX5_order_65 rfl rfl ?_
        refine kn_if_ne (a := kj) (tgt := 77) X (by omega) dX5_order_66 (by decide) (fun c6_ => ?_) (fun c6_ => ?_)
        · skip
          refine kb_iload_n X 3 dX5_order_77 rfl rfl ?_
          refine kb_aload_n X 0 dX5_order_78 rfl rfl ?_
          refine kf_get (v := .ref (ao 0)) (C := RX5) (T := TX5) (N := 7) (ci := 5) X kw_iX5 rfl 6 0 0 rfl rfl (by decide) kf_X5_48 rfl rfl dX5_order_79 ?_
          refine kf_get (v := .int (nI ((wBits (sDue v (vN v)))))) (C := RX0) (T := TX0) (N := 8) (ci := 0) X kw_iX0 rfl 6 9 0 rfl rfl (by decide) kf_X5_207 rfl rfl dX5_order_82 ?_
          refine kn_icmp_gt (a := kj) (b := (wBits (sDue v (vN v)))) (tgt := 102) X (by omega) (by omega) dX5_order_85 (by decide) (fun c7_ => ?_) (fun c7_ => ?_)
          · skip
            refine kb_bipush (v := (-4 : Int32)) X dX5_order_102 (by decide) ?_
            refine ke_i X Z dX5_order_104 ?_
            exact ⟨by rw [xo_ret h6 c1_ c2_ ek hk2 hn_.2.2.1 hn_.2.2.2, if_neg (by omega), if_pos (by omega)], XWp.of ⟨hG, hU, hKp, hT_, hs, hn_.1⟩⟩
          · skip
            refine kb_aload_n X 0 dX5_order_88 rfl rfl ?_
            refine kf_get (v := .ref (ao 0)) (C := RX5) (T := TX5) (N := 7) (ci := 5) X kw_iX5 rfl 6 0 0 rfl rfl (by decide) kf_X5_48 rfl rfl dX5_order_89 ?_
            refine kf_get (v := .ref (ao 3)) (C := RX0) (T := TX0) (N := 8) (ci := 0) X kw_iX0 rfl 2 9 0 rfl rfl (by decide) kf_X5_208 rfl rfl dX5_order_92 ?_
            refine kb_iload_n X 3 dX5_order_95 rfl rfl ?_
            refine kb_iconst (v := (1 : Int32)) X dX5_order_96 (by decide) ?_
            refine kn_isub X kj 1 (by omega) dX5_order_97 ?_
            refine kf_iald (j := kj - 1) X 9 3 rfl rfl (by omega) (by decide) dX5_order_98 ?_
            refine kb_goto (tgt := 104) X dX5_order_99 (by decide) ?_
            refine ke_i X Z dX5_order_104 ?_
            exact ⟨by rw [xo_ret h6 c1_ c2_ ek hk2 hn_.2.2.1 hn_.2.2.2, if_neg (by omega), if_neg (by omega)], XWp.of ⟨hG, hU, hKp, hT_, hs, hn_.1⟩⟩
        · skip
          refine kb_aload_n X 0 dX5_order_69 rfl rfl ?_
          refine kf_get (v := .ref (ao 0)) (C := RX5) (T := TX5) (N := 7) (ci := 5) X kw_iX5 rfl 6 0 0 rfl rfl (by decide) kf_X5_48 rfl rfl dX5_order_70 ?_
          refine kf_get (v := .int (nI (qM (ta b c 6 0 (sDue v (vN v)) 0 (oP, oB, 0, va_up ovs 0 v))) - 1)) (C := RX0) (T := TX0) (N := 8) (ci := 0) X kw_iX0 rfl 7 9 0 rfl rfl (by decide) kf_X5_204 rfl rfl dX5_order_73 ?_
          refine ke_i X Z dX5_order_76 ?_
          exact ⟨by rw [xo_ret h6 c1_ c2_ ek hk2 hn_.2.2.1 hn_.2.2.2, if_pos (by omega)], XWp.of ⟨hG, hU, hKp, hT_, hs, hn_.1⟩⟩
    · skip
      refine kb_iconst (v := (-1 : Int32)) X dX5_order_18 (by decide) ?_
      refine ke_i X Z dX5_order_19 ?_
      exact ⟨by simp [oOrder, c1_, c2_], XWp.of hI⟩

