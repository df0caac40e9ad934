set_option maxHeartbeats 300000 in
set_option maxRecDepth 100000 in
theorem ct_X6_order (l : Launch) (g : kw_G) (a : Nat → Nat) (so : Nat → Int32) (ag : Nat → Int32) (np : Nat) (ns : Nat → Int32) (na : Nat → Int32) (nf : Int32) (sl : Nat → Int32) (ac : Nat) (ke : Nat) (le : Nat) (tx : Nat → Nat) (ap : Nat) (bg : Nat) (wr : Bool) (se : Nat) (wh : Nat → Nat) (wo : Nat → Nat) (bl : Nat → Int32) (ck : Nat → Int32) (sw : Nat → Bool) (ma : Nat) (ro : Nat → Nat) (bs : Nat → Nat) (v : VS) (us ks : List VS) (tf : Nat → Nat) (tn : Nat) (s : SS) (hR : RI (vN v) so ag (vG v) sl ac ke le tx se wh wo bl ck sw v us ks tf tn s) (b c k : Int32) : kMi l g yX6_order cX6_order 8 .int (kw_rm 6 0 0) 0 0 [.ref (a 0), .int (b), .int (c), .int (k)] (wR g a (vN v) so ag (vG v) np ns na nf sl ac ke le tx ap bg wr se wh wo bl ck sw ma ro bs) (fun r w => r = oOrder v b c k ∧ RWp g a v us ks tf tn s w) := by
  refine kMi_of (by decide +kernel) (Nat.le_of_ble_eq_true rfl) (fun x (X : kX l g RX6 cX6_order 8 (kw_rm 6 0 0) x) (Z : kZi .int _ 0 0 x) => ?_)
  show kW x 0 0 0 [(0, .ref (a 0)), (1, .int (b)), (2, .int (c)), (3, .int (k))] [] (wR g a (vN v) so ag (vG v) np ns na nf sl ac ke le tx ap bg wr se wh wo bl ck sw ma ro bs)
  have hE := hR.1
  have hG := hR.2.1
  have hK := hR.2.1.1
  have hv := hR.2.1.2.1
  have hT := hR.2.1.2.2.1
  have hN0 := hR.2.1.2.2.2
  have h6 := hv.1
  have hx64 := hv.2.1
  have hh64 := hv.2.2
  have hM6 : (dL v (vN v)).length ≤ 6 := by rw [due_len v h6]; exact wBits_le _
  refine kb_iload_n X 1 dX6_order_0 rfl rfl ?_
  refine kb_iload_n X 2 dX6_order_1 rfl rfl ?_
  refine kc_Si X (As := [.int (b), .int (c)]) (rest := []) (wr := (wR g a (vN v) so ag (vG v) np ns na nf sl ac ke le tx ap bg wr se wh wo bl ck sw ma ro bs)) (ct_X6_areBells l g b c ) dX6_order_2 rfl (List.Perm.refl _) mc_X6_areBells kl_X6_187 ms_X6_areBells kn_X6 (na := 2) (by decide +kernel) rfl ⟨Nat.le_of_ble_eq_true rfl, Nat.le_of_ble_eq_true rfl⟩ ⟨rfl, rfl⟩ ⟨Nat.le_of_ble_eq_true rfl, Nat.le_of_ble_eq_true rfl⟩ (Nat.le_of_ble_eq_true rfl) (fun r_ w_ hp_ => ?_)
  obtain ⟨rfl, rfl⟩ := hp_
  refine kw_ws (List.nil_append _) ?_
  refine kz_if_eq (b := fare b c) (tgt := 20) X dX6_order_5 (by decide) (fun c1_ => ?_) (fun c1_ => ?_)
  · skip
    refine kb_iconst (v := (-1 : Int32)) X dX6_order_20 (by decide) ?_
    refine ke_i X Z dX6_order_21 ?_
    exact ⟨by simp [oOrder, c1_], RWp.of hR⟩
  · skip
    refine kb_iload_n X 3 dX6_order_8 rfl rfl ?_
    refine kb_i2l (v := k.toInt64) X dX6_order_9 rfl ?_
    refine kb_lconst (v := 0) X dX6_order_10 (by decide) ?_
    refine kb_ldc2 X kk_X6_222 dX6_order_11 ?_
    refine kc_Si X (As := [.long (k.toInt64), .long ((0 : Int64)), .long ((6 : Int64))]) (rest := []) (wr := (wR g a (vN v) so ag (vG v) np ns na nf sl ac ke le tx ap bg wr se wh wo bl ck sw ma ro bs)) (ct_X6_in l g k.toInt64 (0 : Int64) (6 : Int64)) dX6_order_14 rfl (List.Perm.refl _) mc_X6_in kl_X6_71 ms_X6_in kn_X6 (na := 3) (by decide +kernel) rfl ⟨Nat.le_of_ble_eq_true rfl, Nat.le_of_ble_eq_true rfl⟩ ⟨rfl, rfl⟩ ⟨Nat.le_of_ble_eq_true rfl, Nat.le_of_ble_eq_true rfl⟩ (Nat.le_of_ble_eq_true rfl) (fun r_ w_ hp_ => ?_)
    obtain ⟨rfl, rfl⟩ := hp_
    refine kw_ws (List.nil_append _) ?_
    refine kw_top (b := .int (zI (inr k (0 : Int32) (6 : Int32)))) (congrArg (fun q => Value.int (zI q)) (lin_c (by decide) (by decide))) ?_
    refine kz_if_ne (b := inr k (0 : Int32) (6 : Int32)) (tgt := 22) X dX6_order_17 (by decide) (fun c2_ => ?_) (fun c2_ => ?_)
    · skip
      obtain ⟨kj, hk1, hk2, ek, ePk⟩ := inr_n (a := 0) (b := 6) (by decide) (by decide) c2_
      refine kw_lv (lv' := [(0, .ref (a 0)), (1, .int (b)), (2, .int (c)), (3, .int (nI (kj)))]) (by rw [ek]) ?_
      refine kb_aload_n X 0 dX6_order_22 rfl rfl ?_
      refine kc_Vv X (As := []) (rest := []) (wr := []) (ct_X6_lists l g a (vN v) so ag (vG v) np ns na nf sl ac ke le tx ap bg wr se wh wo bl ck sw ma ro bs v hE hK hv) dX6_order_23 rfl (kw_pall _) mc_X6_lists kl_X6_224 mi_X6_lists mv_X6_lists kn_X6 0 rfl rfl rfl (na := 0) (by decide +kernel) rfl ⟨Nat.le_of_ble_eq_true rfl, Nat.le_of_ble_eq_true rfl⟩ ⟨rfl, rfl⟩ ⟨Nat.le_of_ble_eq_true rfl, Nat.le_of_ble_eq_true rfl⟩ (Nat.le_of_ble_eq_true rfl) (fun w_ hp_ => ?_)
      obtain ⟨roL, hro_, rfl⟩ := hp_
      refine kw_ws (List.append_nil _) ?_
      refine kb_iconst (v := (-1 : Int32)) X dX6_order_26 (by decide) ?_
      refine kb_istore X [1, 2, 3, 4, 0] dX6_order_27 (by decide) (lv' := [(0, .ref (a 0)), (1, .int (b)), (2, .int (c)), (3, .int (nI (kj))), (4, .int (-1))]) rfl ?_
      refine kb_iconst (v := (1 : Int32)) X dX6_order_29 (by decide) ?_
      refine kb_istore X [1, 2, 3, 4, 5, 0] dX6_order_30 (by decide) (lv' := [(0, .ref (a 0)), (1, .int (b)), (2, .int (c)), (3, .int (nI (kj))), (4, .int (-1)), (5, .int 1)]) rfl ?_
      have L32 : ∀ (K_ : Nat) (rest : List (List Nat)) (q1 : Nat) (qb_ : List Nat) (z : Nat → Int32) (ro1 bs1 : Nat → Nat) (gs : Bool), rest.length = K_ ∧ OST b c v rest q1 qb_ ro1 bs1 gs (dL v (vN v)).length ∧ FR sl z 902 → kW x 0 0 32 [(0, .ref (a 0)), (1, .int (b)), (2, .int (c)), (3, .int (nI (kj))), (4, .int (nI q1 - 1)), (5, .int (zI (gs)))] [] (wR g a (vN v) so ag (vG v) np ns na nf z ac ke le tx ap bg wr se wh wo bl ck sw ((dL v (vN v)).length) ro1 bs1) := by
        intro K_
        induction K_ with
        | zero =>
          intro rest q1 qb_ z ro1 bs1 gs hh
          obtain ⟨hK_, hO, hFz⟩ := id hh
          have hz := hE.fr hFz (by omega)
          have hq100 := hO.2.2.2.1
          have hrv_ := hO.2.2.2.2.2.2.2
          have hrd_ : ∀ q, q < (dL v (vN v)).length → ro1 q < 6 := fun q hq => by have := hrv_ q hq; omega
          refine kb_iload X 5 dX6_order_32 rfl ?_
          refine kz_if_eq (b := gs) (tgt := 165) X dX6_order_34 (by decide) (fun c3_ => ?_) (fun c3_ => ?_)
          · skip
            have cg_ := c3_
            rw [cg_] at hO
            have hfin_ := ord_ret (k := k) h6 rfl c1_ c2_ ek hk2 hO.fin
            refine kb_iload_n X 3 dX6_order_165 rfl rfl ?_
            refine kn_if_ne (a := kj) (tgt := 174) X (by omega) dX6_order_166 (by decide) (fun c4_ => ?_) (fun c4_ => ?_)
            · skip
              refine kb_iload_n X 3 dX6_order_174 rfl rfl ?_
              refine kb_aload_n X 0 dX6_order_175 rfl rfl ?_
              refine kb_get (v := .int (nI ((dL v (vN v)).length))) (C := RX6) (T := TX6) (N := 25) (ci := 6) X kw_iX6 rfl 0 22 rfl (by decide) kf_X6_216 rfl rfl dX6_order_176 ?_
              refine kn_icmp_le (a := kj) (b := (dL v (vN v)).length) (tgt := 187) X (by omega) (by omega) dX6_order_179 (by decide) (fun c5_ => ?_) (fun c5_ => ?_)
              · skip
                refine kb_aload_n X 0 dX6_order_187 rfl rfl ?_
                refine kb_get (v := .ref (a 13)) (C := RX6) (T := TX6) (N := 25) (ci := 6) X kw_iX6 rfl 0 24 rfl (by decide) kf_X6_48 rfl rfl dX6_order_188 ?_
                refine kb_iload_n X 3 dX6_order_191 rfl rfl ?_
                refine kb_iconst (v := (1 : Int32)) X dX6_order_192 (by decide) ?_
                refine kn_isub X kj 1 (by omega) dX6_order_193 ?_
                refine kb_iald (i := kj - 1) X 13 rfl (by omega) (by decide) dX6_order_194 ?_
                refine ke_i X Z dX6_order_195 ?_
                exact ⟨by rw [hfin_, if_neg (by omega), if_neg (by omega)], RWp.of (hR.try hFz)⟩
              · skip
                refine kb_bipush (v := (-4 : Int32)) X dX6_order_182 (by decide) ?_
                refine kb_goto (tgt := 195) X dX6_order_184 (by decide) ?_
                refine ke_i X Z dX6_order_195 ?_
                exact ⟨by rw [hfin_, if_neg (by omega), if_pos (by omega)], RWp.of (hR.try hFz)⟩
            · skip
              refine kb_iload X 4 dX6_order_169 rfl ?_
              refine kb_goto (tgt := 195) X dX6_order_171 (by decide) ?_
              refine ke_i X Z dX6_order_195 ?_
              exact ⟨by rw [hfin_, if_pos (by omega)], RWp.of (hR.try hFz)⟩
          · skip
            have cg_ := c3_
            rw [cg_] at hO
            have e0_ := List.length_eq_zero_iff.mp hK_
            have e1_ := hO.1
            rw [e0_] at e1_
            exact absurd e1_ (by decide)
        | succ K_ ih =>
          intro rest q1 qb_ z ro1 bs1 gs hh
          obtain ⟨hK_, hO, hFz⟩ := id hh
          have hz := hE.fr hFz (by omega)
          have hq100 := hO.2.2.2.1
          have hrv_ := hO.2.2.2.2.2.2.2
          have hrd_ : ∀ q, q < (dL v (vN v)).length → ro1 q < 6 := fun q hq => by have := hrv_ q hq; omega
          refine kb_iload X 5 dX6_order_32 rfl ?_
          refine kz_if_eq (b := gs) (tgt := 165) X dX6_order_34 (by decide) (fun c6_ => ?_) (fun c6_ => ?_)
          · skip
            have cg_ := c6_
            rw [cg_] at hO
            have hfin_ := ord_ret (k := k) h6 rfl c1_ c2_ ek hk2 hO.fin
            refine kb_iload_n X 3 dX6_order_165 rfl rfl ?_
            refine kn_if_ne (a := kj) (tgt := 174) X (by omega) dX6_order_166 (by decide) (fun c7_ => ?_) (fun c7_ => ?_)
            · skip
              refine kb_iload_n X 3 dX6_order_174 rfl rfl ?_
              refine kb_aload_n X 0 dX6_order_175 rfl rfl ?_
              refine kb_get (v := .int (nI ((dL v (vN v)).length))) (C := RX6) (T := TX6) (N := 25) (ci := 6) X kw_iX6 rfl 0 22 rfl (by decide) kf_X6_216 rfl rfl dX6_order_176 ?_
              refine kn_icmp_le (a := kj) (b := (dL v (vN v)).length) (tgt := 187) X (by omega) (by omega) dX6_order_179 (by decide) (fun c8_ => ?_) (fun c8_ => ?_)
              · skip
                refine kb_aload_n X 0 dX6_order_187 rfl rfl ?_
                refine kb_get (v := .ref (a 13)) (C := RX6) (T := TX6) (N := 25) (ci := 6) X kw_iX6 rfl 0 24 rfl (by decide) kf_X6_48 rfl rfl dX6_order_188 ?_
                refine kb_iload_n X 3 dX6_order_191 rfl rfl ?_
                refine kb_iconst (v := (1 : Int32)) X dX6_order_192 (by decide) ?_
                refine kn_isub X kj 1 (by omega) dX6_order_193 ?_
                refine kb_iald (i := kj - 1) X 13 rfl (by omega) (by decide) dX6_order_194 ?_
                refine ke_i X Z dX6_order_195 ?_
                exact ⟨by rw [hfin_, if_neg (by omega), if_neg (by omega)], RWp.of (hR.try hFz)⟩
              · skip
                refine kb_bipush (v := (-4 : Int32)) X dX6_order_182 (by decide) ?_
                refine kb_goto (tgt := 195) X dX6_order_184 (by decide) ?_
                refine ke_i X Z dX6_order_195 ?_
                exact ⟨by rw [hfin_, if_neg (by omega), if_pos (by omega)], RWp.of (hR.try hFz)⟩
            · skip
              refine kb_iload X 4 dX6_order_169 rfl ?_
              refine kb_goto (tgt := 195) X dX6_order_171 (by decide) ?_
              refine ke_i X Z dX6_order_195 ?_
              exact ⟨by rw [hfin_, if_pos (by omega)], RWp.of (hR.try hFz)⟩
          · skip
            have cg_ := c6_
            rw [cg_] at hO
            refine kb_aload_n X 0 dX6_order_37 rfl rfl ?_
            refine kb_iconst (v := (0 : Int32)) X dX6_order_38 (by decide) ?_
            refine kb_sipush (v := (902 : Int32)) X dX6_order_39 (by decide) ?_
            refine kc_Vv X (As := [.int 0, .int 902]) (rest := []) (wr := []) (ct_X6_copies l g a (vN v) so ag (vG v) np ns na nf z ac ke le tx ap bg wr se wh wo bl ck sw ((dL v (vN v)).length) ro1 bs1 0 902 (by omega) (by omega) (by omega)) dX6_order_42 rfl (kw_pall _) mc_X6_copies kl_X6_119 mi_X6_copies mv_X6_copies kn_X6 0 rfl rfl rfl (na := 2) (by decide +kernel) rfl ⟨Nat.le_of_ble_eq_true rfl, Nat.le_of_ble_eq_true rfl⟩ ⟨rfl, rfl⟩ ⟨Nat.le_of_ble_eq_true rfl, Nat.le_of_ble_eq_true rfl⟩ (Nat.le_of_ble_eq_true rfl) (fun w_ hp_ => ?_)
            obtain ⟨sl9_, hC10_, rfl⟩ := hp_
            have hE11_ := hz.fr hC10_.2 (by omega)
            have hE12_ := hz.cp hC10_
            refine kw_ws (List.append_nil _) ?_
            refine kb_iconst (v := (0 : Int32)) X dX6_order_45 (by decide) ?_
            refine kb_istore X [1, 2, 3, 4, 5, 6, 0] dX6_order_46 (by decide) (lv' := [(0, .ref (a 0)), (1, .int (b)), (2, .int (c)), (3, .int (nI (kj))), (4, .int (nI q1 - 1)), (5, .int (zI (gs))), (6, .int 0)]) rfl ?_
            refine kb_iconst (v := (0 : Int32)) X dX6_order_48 (by decide) ?_
            refine kb_istore X [1, 2, 3, 4, 5, 6, 7, 0] dX6_order_49 (by decide) (lv' := [(0, .ref (a 0)), (1, .int (b)), (2, .int (c)), (3, .int (nI (kj))), (4, .int (nI q1 - 1)), (5, .int (zI (gs))), (6, .int 0), (7, .int 0)]) rfl ?_
            have L51 : ∀ (K_ i : Nat) (y : Nat → Int32), i + K_ = (dL v (vN v)).length ∧ EN y 902 (eV b c v ro1 i) ∧ FR sl y 902 → kW x 0 0 51 [(0, .ref (a 0)), (1, .int (b)), (2, .int (c)), (3, .int (nI (kj))), (4, .int (nI q1 - 1)), (5, .int (zI (gs))), (6, .int (nI (eC b c v ro1 i))), (7, .int (nI (i)))] [] (wR g a (vN v) so ag (vG v) np ns na nf y ac ke le tx ap bg wr se wh wo bl ck sw ((dL v (vN v)).length) ro1 bs1) := by
              intro K_
              induction K_ with
              | zero =>
                intro i y hh2
                obtain ⟨hi, hy, hFy⟩ := id hh2
                have hge := GV.eV hG b c hrd_ i (by omega)
                have hNe : vN (eV b c v ro1 i) = vN v := hge.1.1.symm
                have hr_ : i < (dL v (vN v)).length → ro1 i < vN (eV b c v ro1 i) := fun q => by rw [hNe]; exact hrv_ i q
                have hGl : ∀ b' c', wGuests (eV b c v ro1 i) (ro1 i) b' c' < 64 := fun b' c' => wGuests_lt _ _ b' c' hge.2.1.1
                have hec_ := eC_le b c v ro1 i
                refine kb_iload X 7 dX6_order_51 rfl ?_
                refine kb_aload_n X 0 dX6_order_53 rfl rfl ?_
                refine kb_get (v := .int (nI ((dL v (vN v)).length))) (C := RX6) (T := TX6) (N := 25) (ci := 6) X kw_iX6 rfl 0 22 rfl (by decide) kf_X6_216 rfl rfl dX6_order_54 ?_
                refine kn_icmp_ge (a := i) (b := (dL v (vN v)).length) (tgt := 113) X (by omega) (by omega) dX6_order_57 (by decide) (fun c13_ => ?_) (fun c13_ => ?_)
                · skip
                  refine kw_lvs [0, 1, 2, 3, 4, 5, 6] (lv' := [(0, .ref (a 0)), (1, .int (b)), (2, .int (c)), (3, .int (nI (kj))), (4, .int (nI q1 - 1)), (5, .int (zI (gs))), (6, .int (nI (eC b c v ro1 i)))]) rfl ?_
                  refine kb_iload X 6 dX6_order_113 rfl ?_
                  refine kb_iload X 4 dX6_order_115 rfl ?_
                  refine kb_icmp_le (tgt := 156) X dX6_order_117 (by decide) (fun c14_ => ?_) (fun c14_ => ?_)
                  · skip
                    have d_ : ¬ q1 ≤ eC b c v ro1 i := fun q => absurd ((om_gt (by omega) (by omega)).mpr q) (Int32.not_lt.mpr c14_)
                    refine kb_aload_n X 0 dX6_order_156 rfl rfl ?_
                    refine kc_Vi X (As := []) (rest := []) (wr := []) (ct_X6_goesOn l g a (vN v) so ag (vG v) np ns na nf y ac ke le tx ap bg wr se wh wo bl ck sw ((dL v (vN v)).length) ro1 bs1 hM6 hrd_) dX6_order_157 rfl (kw_pall _) mc_X6_goesOn kl_X6_227 mi_X6_goesOn mv_X6_goesOn kn_X6 0 rfl rfl rfl (na := 0) (by decide +kernel) rfl ⟨Nat.le_of_ble_eq_true rfl, Nat.le_of_ble_eq_true rfl⟩ ⟨rfl, rfl⟩ ⟨Nat.le_of_ble_eq_true rfl, Nat.le_of_ble_eq_true rfl⟩ (Nat.le_of_ble_eq_true rfl) (fun r_ w_ hp_ => ?_)
                    obtain ⟨ro2, gb, hnx, rfl, rfl⟩ := hp_
                    refine kw_ws (List.append_nil _) ?_
                    refine kb_istore X [1, 2, 3, 4, 5, 0, 6] dX6_order_160 (by decide) (lv' := [(0, .ref (a 0)), (1, .int (b)), (2, .int (c)), (3, .int (nI (kj))), (4, .int (nI q1 - 1)), (5, .int (zI (gb))), (6, .int (nI (eC b c v ro1 i)))]) rfl ?_
                    refine kw_lvs [0, 1, 2, 3, 4, 5] (lv' := [(0, .ref (a 0)), (1, .int (b)), (2, .int (c)), (3, .int (nI (kj))), (4, .int (nI q1 - 1)), (5, .int (zI (gb)))]) rfl ?_
                    obtain ⟨l_, r_, er_, hst_⟩ := hO.step hM6 hnx
                    have hrl_ : rest.length = r_.length + 1 := by rw [er_]; rfl
                    refine kb_goto (tgt := 32) X dX6_order_162 (by decide) ?_
                    exact kw_to (ih r_ q1 qb_ y ro2 bs1 gb ⟨by omega, (hst_ bs1).1 (by rw [show (dL v (vN v)).length = i by omega]; omega), hFy⟩) rfl rfl rfl
                  · skip
                    have d_ : q1 ≤ eC b c v ro1 i := (om_gt (by omega) (by omega)).mp (Int32.not_le.mp c14_)
                    refine kb_iload X 6 dX6_order_120 rfl ?_
                    refine kb_istore X [1, 2, 3, 4, 0, 5, 6] dX6_order_122 (by decide) (lv' := [(0, .ref (a 0)), (1, .int (b)), (2, .int (c)), (3, .int (nI (kj))), (4, .int (nI (eC b c v ro1 i))), (5, .int (zI (gs))), (6, .int (nI (eC b c v ro1 i)))]) rfl ?_
                    refine kw_lv (lv' := [(0, .ref (a 0)), (1, .int (b)), (2, .int (c)), (3, .int (nI (kj))), (4, .int (nI (eC b c v ro1 i + 1) - 1)), (5, .int (zI (gs))), (6, .int (nI (eC b c v ro1 i)))]) (by rw [om_1]) ?_
                    refine kb_iconst (v := (0 : Int32)) X dX6_order_124 (by decide) ?_
                    refine kb_istore X [1, 2, 3, 4, 5, 6, 7, 0] dX6_order_125 (by decide) (lv' := [(0, .ref (a 0)), (1, .int (b)), (2, .int (c)), (3, .int (nI (kj))), (4, .int (nI (eC b c v ro1 i + 1) - 1)), (5, .int (zI (gs))), (6, .int (nI (eC b c v ro1 i))), (7, .int 0)]) rfl ?_
                    have L127 : ∀ (K_ p : Nat) (y2 : Nat → Nat), p + K_ = (dL v (vN v)).length ∧ (∀ q, q < p → y2 q = ro1 q) → kW x 0 0 127 [(0, .ref (a 0)), (1, .int (b)), (2, .int (c)), (3, .int (nI (kj))), (4, .int (nI (eC b c v ro1 i + 1) - 1)), (5, .int (zI (gs))), (6, .int (nI (eC b c v ro1 i))), (7, .int (nI (p)))] [] (wR g a (vN v) so ag (vG v) np ns na nf y ac ke le tx ap bg wr se wh wo bl ck sw ((dL v (vN v)).length) ro1 y2) := by
                      intro K_
                      induction K_ with
                      | zero =>
                        intro p y2 hh3
                        obtain ⟨hp, hy2⟩ := id hh3
                        refine kb_iload X 7 dX6_order_127 rfl ?_
                        refine kb_aload_n X 0 dX6_order_129 rfl rfl ?_
                        refine kb_get (v := .int (nI ((dL v (vN v)).length))) (C := RX6) (T := TX6) (N := 25) (ci := 6) X kw_iX6 rfl 0 22 rfl (by decide) kf_X6_216 rfl rfl dX6_order_130 ?_
                        refine kn_icmp_ge (a := p) (b := (dL v (vN v)).length) (tgt := 156) X (by omega) (by omega) dX6_order_133 (by decide) (fun c15_ => ?_) (fun c15_ => ?_)
                        · skip
                          refine kw_lvs [0, 1, 2, 3, 4, 5, 6] (lv' := [(0, .ref (a 0)), (1, .int (b)), (2, .int (c)), (3, .int (nI (kj))), (4, .int (nI (eC b c v ro1 i + 1) - 1)), (5, .int (zI (gs))), (6, .int (nI (eC b c v ro1 i)))]) rfl ?_
                          refine kb_aload_n X 0 dX6_order_156 rfl rfl ?_
                          refine kc_Vi X (As := []) (rest := []) (wr := []) (ct_X6_goesOn l g a (vN v) so ag (vG v) np ns na nf y ac ke le tx ap bg wr se wh wo bl ck sw ((dL v (vN v)).length) ro1 y2 hM6 hrd_) dX6_order_157 rfl (kw_pall _) mc_X6_goesOn kl_X6_227 mi_X6_goesOn mv_X6_goesOn kn_X6 0 rfl rfl rfl (na := 0) (by decide +kernel) rfl ⟨Nat.le_of_ble_eq_true rfl, Nat.le_of_ble_eq_true rfl⟩ ⟨rfl, rfl⟩ ⟨Nat.le_of_ble_eq_true rfl, Nat.le_of_ble_eq_true rfl⟩ (Nat.le_of_ble_eq_true rfl) (fun r_ w_ hp_ => ?_)
                          obtain ⟨ro2, gb, hnx, rfl, rfl⟩ := hp_
                          refine kw_ws (List.append_nil _) ?_
                          refine kb_istore X [1, 2, 3, 4, 5, 0, 6] dX6_order_160 (by decide) (lv' := [(0, .ref (a 0)), (1, .int (b)), (2, .int (c)), (3, .int (nI (kj))), (4, .int (nI (eC b c v ro1 i + 1) - 1)), (5, .int (zI (gb))), (6, .int (nI (eC b c v ro1 i)))]) rfl ?_
                          refine kw_lvs [0, 1, 2, 3, 4, 5] (lv' := [(0, .ref (a 0)), (1, .int (b)), (2, .int (c)), (3, .int (nI (kj))), (4, .int (nI (eC b c v ro1 i + 1) - 1)), (5, .int (zI (gb)))]) rfl ?_
                          obtain ⟨l_, r_, er_, hst_⟩ := hO.step hM6 hnx
                          have hrl_ : rest.length = r_.length + 1 := by rw [er_]; rfl
                          refine kb_goto (tgt := 32) X dX6_order_162 (by decide) ?_
                          exact kw_to (ih r_ (eC b c v ro1 i + 1) l_ y ro2 y2 gb ⟨by omega, by have q_ := (hst_ y2).2 (by rw [show (dL v (vN v)).length = i by omega]; exact d_) (fun q hq => hy2 q (by omega)); rw [show (dL v (vN v)).length = i by omega] at q_ ⊢; exact q_, FR.tr FR.rf hFy⟩) rfl rfl rfl
                        · skip
                          omega
                      | succ K_ ih3 =>
                        intro p y2 hh3
                        obtain ⟨hp, hy2⟩ := id hh3
                        refine kb_iload X 7 dX6_order_127 rfl ?_
                        refine kb_aload_n X 0 dX6_order_129 rfl rfl ?_
                        refine kb_get (v := .int (nI ((dL v (vN v)).length))) (C := RX6) (T := TX6) (N := 25) (ci := 6) X kw_iX6 rfl 0 22 rfl (by decide) kf_X6_216 rfl rfl dX6_order_130 ?_
                        refine kn_icmp_ge (a := p) (b := (dL v (vN v)).length) (tgt := 156) X (by omega) (by omega) dX6_order_133 (by decide) (fun c16_ => ?_) (fun c16_ => ?_)
                        · skip
                          omega
                        · skip
                          refine kb_aload_n X 0 dX6_order_136 rfl rfl ?_
                          refine kb_get (v := .ref (a 13)) (C := RX6) (T := TX6) (N := 25) (ci := 6) X kw_iX6 rfl 0 24 rfl (by decide) kf_X6_48 rfl rfl dX6_order_137 ?_
                          refine kb_iload X 7 dX6_order_140 rfl ?_
                          refine kb_aload_n X 0 dX6_order_142 rfl rfl ?_
                          refine kb_get (v := .ref (a 12)) (C := RX6) (T := TX6) (N := 25) (ci := 6) X kw_iX6 rfl 0 23 rfl (by decide) kf_X6_45 rfl rfl dX6_order_143 ?_
                          refine kb_iload X 7 dX6_order_146 rfl ?_
                          refine kb_iald (i := p) X 12 rfl (by omega) (by decide) dX6_order_148 ?_
                          refine kb_iast (i := p) X 13 rfl (by omega) (by decide) dX6_order_149 (ws' := wR g a (vN v) so ag (vG v) np ns na nf y ac ke le tx ap bg wr se wh wo bl ck sw ((dL v (vN v)).length) ro1 (va_up y2 p (ro1 p))) (by rw [upd_nI]; rfl) ?_
                          refine kb_iinc X 7 [1, 2, 3, 4, 5, 6, 7, 0] (v' := nI (p + 1)) dX6_order_150 rfl (nI_add _ _) (by decide) (lv' := [(0, .ref (a 0)), (1, .int (b)), (2, .int (c)), (3, .int (nI (kj))), (4, .int (nI (eC b c v ro1 i + 1) - 1)), (5, .int (zI (gs))), (6, .int (nI (eC b c v ro1 i))), (7, .int (nI (p + 1)))]) rfl ?_
                          refine kb_goto (tgt := 127) X dX6_order_153 (by decide) ?_
                          exact kw_to (ih3 (p + 1) (va_up y2 p (ro1 p)) ⟨by omega, fun q hq => by
                            by_cases ee : q = p
                            · rw [ee, va_up_self]
                            · rw [va_up_ne _ _ ee]; exact hy2 q (by omega)⟩) rfl rfl rfl
                    exact kw_to (L127 (dL v (vN v)).length 0 bs1 ⟨by omega, fun q hq => absurd hq (Nat.not_lt_zero _)⟩) rfl rfl rfl
                · skip
                  omega
              | succ K_ ih2 =>
                intro i y hh2
                obtain ⟨hi, hy, hFy⟩ := id hh2
                have hge := GV.eV hG b c hrd_ i (by omega)
                have hNe : vN (eV b c v ro1 i) = vN v := hge.1.1.symm
                have hr_ : i < (dL v (vN v)).length → ro1 i < vN (eV b c v ro1 i) := fun q => by rw [hNe]; exact hrv_ i q
                have hGl : ∀ b' c', wGuests (eV b c v ro1 i) (ro1 i) b' c' < 64 := fun b' c' => wGuests_lt _ _ b' c' hge.2.1.1
                have hec_ := eC_le b c v ro1 i
                refine kb_iload X 7 dX6_order_51 rfl ?_
                refine kb_aload_n X 0 dX6_order_53 rfl rfl ?_
                refine kb_get (v := .int (nI ((dL v (vN v)).length))) (C := RX6) (T := TX6) (N := 25) (ci := 6) X kw_iX6 rfl 0 22 rfl (by decide) kf_X6_216 rfl rfl dX6_order_54 ?_
                refine kn_icmp_ge (a := i) (b := (dL v (vN v)).length) (tgt := 113) X (by omega) (by omega) dX6_order_57 (by decide) (fun c17_ => ?_) (fun c17_ => ?_)
                · skip
                  omega
                · skip
                  refine kb_iload X 6 dX6_order_60 rfl ?_
                  refine kb_aload_n X 0 dX6_order_62 rfl rfl ?_
                  refine kb_sipush (v := (902 : Int32)) X dX6_order_63 (by decide) ?_
                  refine kb_aload_n X 0 dX6_order_66 rfl rfl ?_
                  refine kb_get (v := .ref (a 12)) (C := RX6) (T := TX6) (N := 25) (ci := 6) X kw_iX6 rfl 0 23 rfl (by decide) kf_X6_45 rfl rfl dX6_order_67 ?_
                  refine kb_iload X 7 dX6_order_70 rfl ?_
                  refine kb_iald (i := i) X 12 rfl (by omega) (by decide) dX6_order_72 ?_
                  refine kb_iload_n X 1 dX6_order_73 rfl rfl ?_
                  refine kb_iload_n X 2 dX6_order_74 rfl rfl ?_
                  refine kc_Vi X (As := [.int 902, .int (nI (ro1 i)), .int (b), .int (c)]) (rest := [.int (nI (eC b c v ro1 i))]) (wr := []) (ct_X6_canHave l g a (vN v) so ag (vG v) np ns na nf y ac ke le tx ap bg wr se wh wo bl ck sw ((dL v (vN v)).length) ro1 bs1 902 (eV b c v ro1 i) (by omega) hy hge.1 hge.2.1 (ro1 i) b c (hr_ (by omega))) dX6_order_75 rfl (kw_pall _) mc_X6_canHave kl_X6_190 mi_X6_canHave mv_X6_canHave kn_X6 0 rfl rfl rfl (na := 4) (by decide +kernel) rfl ⟨Nat.le_of_ble_eq_true rfl, Nat.le_of_ble_eq_true rfl⟩ ⟨rfl, rfl⟩ ⟨Nat.le_of_ble_eq_true rfl, Nat.le_of_ble_eq_true rfl⟩ (Nat.le_of_ble_eq_true rfl) (fun r_ w_ hp_ => ?_)
                  obtain ⟨rfl, rfl⟩ := hp_
                  refine kw_ws (List.append_nil _) ?_
                  refine kz_if_eq (b := wCan (eV b c v ro1 i) (ro1 i) b c) (tgt := 103) X dX6_order_78 (by decide) (fun c18_ => ?_) (fun c18_ => ?_)
                  · skip
                    have cc_ := c18_
                    refine kb_iconst (v := (0 : Int32)) X dX6_order_103 (by decide) ?_
                    refine kn_iadd X (eC b c v ro1 i) 0 dX6_order_104 ?_
                    refine kb_istore X [1, 2, 3, 4, 5, 6, 0, 7] dX6_order_105 (by decide) (lv' := [(0, .ref (a 0)), (1, .int (b)), (2, .int (c)), (3, .int (nI (kj))), (4, .int (nI q1 - 1)), (5, .int (zI (gs))), (6, .int (nI ((eC b c v ro1 i) + 0))), (7, .int (nI (i)))]) rfl ?_
                    refine kb_iinc X 7 [1, 2, 3, 4, 5, 6, 7, 0] (v' := nI (i + 1)) dX6_order_107 rfl (nI_add _ _) (by decide) (lv' := [(0, .ref (a 0)), (1, .int (b)), (2, .int (c)), (3, .int (nI (kj))), (4, .int (nI q1 - 1)), (5, .int (zI (gs))), (6, .int (nI ((eC b c v ro1 i) + 0))), (7, .int (nI (i + 1)))]) rfl ?_
                    refine kb_goto (tgt := 51) X dX6_order_110 (by decide) ?_
                    exact kw_to (ih2 (i + 1) y ⟨by omega, by rw [eV, stV, if_neg (by simp [cc_])]; exact hy, hFy⟩) (by rw [eC, stC, if_neg (by simp [cc_])] <;> rfl) rfl rfl
                  · skip
                    have cc_ := c18_
                    refine kb_aload_n X 0 dX6_order_81 rfl rfl ?_
                    refine kb_sipush (v := (902 : Int32)) X dX6_order_82 (by decide) ?_
                    refine kb_aload_n X 0 dX6_order_85 rfl rfl ?_
                    refine kb_get (v := .ref (a 12)) (C := RX6) (T := TX6) (N := 25) (ci := 6) X kw_iX6 rfl 0 23 rfl (by decide) kf_X6_45 rfl rfl dX6_order_86 ?_
                    refine kb_iload X 7 dX6_order_89 rfl ?_
                    refine kb_iald (i := i) X 12 rfl (by omega) (by decide) dX6_order_91 ?_
                    refine kb_iload_n X 1 dX6_order_92 rfl rfl ?_
                    refine kb_iload_n X 2 dX6_order_93 rfl rfl ?_
                    refine kc_Vi X (As := [.int 902, .int (nI (ro1 i)), .int (b), .int (c)]) (rest := [.int (nI (eC b c v ro1 i))]) (wr := []) (ct_X6_holds l g a (vN v) so ag (vG v) np ns na nf y ac ke le tx ap bg wr se wh wo bl ck sw ((dL v (vN v)).length) ro1 bs1 902 (eV b c v ro1 i) (by omega) hy hge.1 hge.2.1 (ro1 i) b c (hr_ (by omega))) dX6_order_94 rfl (kw_pall _) mc_X6_holds kl_X6_197 mi_X6_holds mv_X6_holds kn_X6 0 rfl rfl rfl (na := 4) (by decide +kernel) rfl ⟨Nat.le_of_ble_eq_true rfl, Nat.le_of_ble_eq_true rfl⟩ ⟨rfl, rfl⟩ ⟨Nat.le_of_ble_eq_true rfl, Nat.le_of_ble_eq_true rfl⟩ (Nat.le_of_ble_eq_true rfl) (fun r_ w_ hp_ => ?_)
                    obtain ⟨rfl, sl19_, hE20_, hF21_, rfl⟩ := hp_
                    have hF22_ : FR sl sl19_ 902 := FR.tr hFy hF21_
                    refine kw_ws (List.append_nil _) ?_
                    refine kc_Si X (As := [.int (nI (wGuests (eV b c v ro1 i) (ro1 i) b c))]) (rest := [.int (nI (eC b c v ro1 i))]) (wr := (wR g a (vN v) so ag (vG v) np ns na nf sl19_ ac ke le tx ap bg wr se wh wo bl ck sw ((dL v (vN v)).length) ro1 bs1)) (ct_X6_bits l g (wGuests (eV b c v ro1 i) (ro1 i) b c) (hGl _ _)) dX6_order_97 rfl (List.Perm.refl _) mc_X6_bits kl_X6_209 ms_X6_bits kn_X6 (na := 1) (by decide +kernel) rfl ⟨Nat.le_of_ble_eq_true rfl, Nat.le_of_ble_eq_true rfl⟩ ⟨rfl, rfl⟩ ⟨Nat.le_of_ble_eq_true rfl, Nat.le_of_ble_eq_true rfl⟩ (Nat.le_of_ble_eq_true rfl) (fun r_ w_ hp_ => ?_)
                    obtain ⟨rfl, rfl⟩ := hp_
                    refine kw_ws (List.nil_append _) ?_
                    refine kb_goto (tgt := 104) X dX6_order_100 (by decide) ?_
                    refine kn_iadd X (eC b c v ro1 i) (wBits (wGuests (eV b c v ro1 i) (ro1 i) b c)) dX6_order_104 ?_
                    refine kb_istore X [1, 2, 3, 4, 5, 6, 0, 7] dX6_order_105 (by decide) (lv' := [(0, .ref (a 0)), (1, .int (b)), (2, .int (c)), (3, .int (nI (kj))), (4, .int (nI q1 - 1)), (5, .int (zI (gs))), (6, .int (nI ((eC b c v ro1 i) + (wBits (wGuests (eV b c v ro1 i) (ro1 i) b c))))), (7, .int (nI (i)))]) rfl ?_
                    refine kb_iinc X 7 [1, 2, 3, 4, 5, 6, 7, 0] (v' := nI (i + 1)) dX6_order_107 rfl (nI_add _ _) (by decide) (lv' := [(0, .ref (a 0)), (1, .int (b)), (2, .int (c)), (3, .int (nI (kj))), (4, .int (nI q1 - 1)), (5, .int (zI (gs))), (6, .int (nI ((eC b c v ro1 i) + (wBits (wGuests (eV b c v ro1 i) (ro1 i) b c))))), (7, .int (nI (i + 1)))]) rfl ?_
                    refine kb_goto (tgt := 51) X dX6_order_110 (by decide) ?_
                    exact kw_to (ih2 (i + 1) sl19_ ⟨by omega, by rw [eV, stV, if_pos cc_]; exact hE20_, hF22_⟩) (by rw [eC, stC, if_pos cc_] <;> rfl) rfl rfl
            exact kw_to (L51 (dL v (vN v)).length 0 sl9_ ⟨by omega, hE12_, (FR.tr hFz hC10_.2)⟩) rfl rfl rfl
      exact kw_to (L32 (lexS 6 (sDue v (vN v))).length (lexS 6 (sDue v (vN v))) 0 [] sl roL bs true ⟨rfl, OST.init h6 hro_, FR.rf⟩) rfl rfl rfl
    · skip
      refine kb_iconst (v := (-1 : Int32)) X dX6_order_20 (by decide) ?_
      refine ke_i X Z dX6_order_21 ?_
      exact ⟨by simp [oOrder, c1_, c2_], RWp.of hR⟩

