set_option maxHeartbeats 4000000 in
set_option maxRecDepth 100000 in
theorem ct_X6_lists (l : Launch) (g : kw_G) (a : Nat → Nat) (pe : Nat) (so : Nat → Int32) (ag : Nat → Int32) (fr : Int32) (np : Nat) (ns : Nat → Int32) (na : Nat → Int32) (nf : Int32) (sl : Nat → Int32) (ac : Nat) (ke : Nat) (le : Nat) (tx : Nat → Nat) (ap : Nat) (bg : Nat) (wr : Bool) (se : Nat) (wh : Nat → Nat) (wo : Nat → Nat) (bl : Nat → Int32) (ck : Nat → Int32) (sw : Nat → Bool) (ma : Nat) (ro : Nat → Nat) (bs : Nat → Nat) (v : VS) (hE : EN sl 0 v) (hK : KE pe so ag fr v) (hv : VI v) : kMv l g yX6_lists cX6_lists 2 (kw_rm 4 0 0) 0 0 [.ref (a 0)] (wR g a pe so ag fr np ns na nf sl ac ke le tx ap bg wr se wh wo bl ck sw ma ro bs) (fun w => ∃ ro', AG ro' (dL v (vN v)) ∧ w = wR g a pe so ag fr np ns na nf sl ac ke le tx ap bg wr se wh wo bl ck sw ((dL v (vN v)).length) ro' bs) := by
  refine kMv_of (by decide +kernel) (Nat.le_of_ble_eq_true rfl) (fun x (X : kX l g RX6 cX6_lists 2 (kw_rm 4 0 0) x) (Z : kZv _ 0 0 x) => ?_)
  show kW x 0 0 0 [(0, .ref (a 0))] [] (wR g a pe so ag fr np ns na nf sl ac ke le tx ap bg wr se wh wo bl ck sw ma ro bs)
  have h6 := hv.1
  have hpe := hK.1
  refine kb_aload_n X 0 dX6_lists_0 rfl rfl ?_
  refine kb_iconst (v := (0 : Int32)) X dX6_lists_1 (by decide) ?_
  refine kb_put X (C := RX6) (T := TX6) (N := 25) (ci := 6) (ty := .int) kw_iX6 tyX6 tyX6_ok nmX6 rfl 0 22 rfl (by decide) kf_X6_216 rfl rfl (by decide +kernel) rfl rfl (Nat.le_of_ble_eq_true rfl) dX6_lists_2 (ws' := wR g a pe so ag fr np ns na nf sl ac ke le tx ap bg wr se wh wo bl ck sw 0 ro bs) rfl ?_
  refine kb_iconst (v := (0 : Int32)) X dX6_lists_5 (by decide) ?_
  refine kb_istore_n X [1, 0] dX6_lists_6 rfl (by decide) (lv' := [(0, .ref (a 0)), (1, .int 0)]) rfl ?_
  have L7 : ∀ (K_ i : Nat) (y : Nat → Nat), i + K_ = vN v ∧ AG y (dL v i) → kW x 0 0 7 [(0, .ref (a 0)), (1, .int (nI (i)))] [] (wR g a pe so ag fr np ns na nf sl ac ke le tx ap bg wr se wh wo bl ck sw ((dL v i).length) y bs) := by
    intro K_
    induction K_ with
    | zero =>
      intro i y hh
      obtain ⟨hi, hy⟩ := id hh
      have hl_ := (dL_lt v i).1
      refine kb_iload_n X 1 dX6_lists_7 rfl rfl ?_
      refine kb_aload_n X 0 dX6_lists_8 rfl rfl ?_
      refine kb_get (v := .int (nI (pe))) (C := RX6) (T := TX6) (N := 25) (ci := 6) X kw_iX6 rfl 0 0 rfl (by decide) kf_X6_65 rfl rfl dX6_lists_9 ?_
      refine kn_icmp_ge (a := i) (b := pe) (tgt := 50) X (by omega) (by omega) dX6_lists_12 (by decide) (fun c1_ => ?_) (fun c1_ => ?_)
      · skip
        refine ke_v X Z dX6_lists_50 ?_
        exact ⟨y, by rw [show vN v = i by omega]; exact hy, by rw [show vN v = i by omega]⟩
      · skip
        omega
    | succ K_ ih =>
      intro i y hh
      obtain ⟨hi, hy⟩ := id hh
      have hl_ := (dL_lt v i).1
      refine kb_iload_n X 1 dX6_lists_7 rfl rfl ?_
      refine kb_aload_n X 0 dX6_lists_8 rfl rfl ?_
      refine kb_get (v := .int (nI (pe))) (C := RX6) (T := TX6) (N := 25) (ci := 6) X kw_iX6 rfl 0 0 rfl (by decide) kf_X6_65 rfl rfl dX6_lists_9 ?_
      refine kn_icmp_ge (a := i) (b := pe) (tgt := 50) X (by omega) (by omega) dX6_lists_12 (by decide) (fun c2_ => ?_) (fun c2_ => ?_)
      · skip
        omega
      · skip
        refine kb_aload_n X 0 dX6_lists_15 rfl rfl ?_
        refine kb_iconst (v := (0 : Int32)) X dX6_lists_16 (by decide) ?_
        refine kb_iload_n X 1 dX6_lists_17 rfl rfl ?_
        refine kc_Vi X (As := [.int 0, .int (nI (i))]) (rest := []) (wr := []) (ct_X6_couldHave l g a pe so ag fr np ns na nf sl ac ke le tx ap bg wr se wh wo bl ck sw ((dL v i).length) y bs 0 v (by omega) hE hK hv i (by omega)) dX6_lists_18 rfl (kw_pall _) mc_X6_couldHave kl_X6_175 mi_X6_couldHave mv_X6_couldHave kn_X6 0 rfl rfl rfl (na := 2) (by decide +kernel) rfl ⟨Nat.le_of_ble_eq_true rfl, Nat.le_of_ble_eq_true rfl⟩ ⟨rfl, rfl⟩ ⟨Nat.le_of_ble_eq_true rfl, Nat.le_of_ble_eq_true rfl⟩ (Nat.le_of_ble_eq_true rfl) (fun r_ w_ hp_ => ?_)
        obtain ⟨rfl, rfl⟩ := hp_
        refine kw_ws (List.append_nil _) ?_
        refine kz_if_eq (b := wDue v i) (tgt := 44) X dX6_lists_21 (by decide) (fun c3_ => ?_) (fun c3_ => ?_)
        · skip
          refine kb_iinc X 1 [1, 0] (v' := nI (i + 1)) dX6_lists_44 rfl (nI_add _ _) (by decide) (lv' := [(0, .ref (a 0)), (1, .int (nI (i + 1)))]) rfl ?_
          refine kb_goto (tgt := 7) X dX6_lists_47 (by decide) ?_
          exact kw_to (ih (i + 1) y ⟨by omega, by rw [dL, if_neg (by simp [c3_])]; exact hy⟩) rfl rfl (by rw [show dL v (i + 1) = dL v i from by rw [dL, if_neg (by simp [c3_])]])
        · skip
          refine kb_aload_n X 0 dX6_lists_24 rfl rfl ?_
          refine kb_get (v := .ref (a 12)) (C := RX6) (T := TX6) (N := 25) (ci := 6) X kw_iX6 rfl 0 23 rfl (by decide) kf_X6_45 rfl rfl dX6_lists_25 ?_
          refine kb_aload_n X 0 dX6_lists_28 rfl rfl ?_
          refine kb_get (v := .int (nI ((dL v i).length))) (C := RX6) (T := TX6) (N := 25) (ci := 6) X kw_iX6 rfl 0 22 rfl (by decide) kf_X6_216 rfl rfl dX6_lists_29 ?_
          refine kb_iload_n X 1 dX6_lists_32 rfl rfl ?_
          refine kb_iast (i := (dL v i).length) X 12 rfl (by omega) (by decide) dX6_lists_33 (ws' := wR g a pe so ag fr np ns na nf sl ac ke le tx ap bg wr se wh wo bl ck sw ((dL v i).length) (va_up y ((dL v i).length) i) bs) (by rw [upd_nI]; rfl) ?_
          refine kb_aload_n X 0 dX6_lists_34 rfl rfl ?_
          refine kb_dup X dX6_lists_35 rfl ?_
          refine kb_get (v := .int (nI ((dL v i).length))) (C := RX6) (T := TX6) (N := 25) (ci := 6) X kw_iX6 rfl 0 22 rfl (by decide) kf_X6_216 rfl rfl dX6_lists_36 ?_
          refine kb_iconst (v := (1 : Int32)) X dX6_lists_39 (by decide) ?_
          refine kn_iadd X ((dL v i).length) 1 dX6_lists_40 ?_
          refine kb_put X (C := RX6) (T := TX6) (N := 25) (ci := 6) (ty := .int) kw_iX6 tyX6 tyX6_ok nmX6 rfl 0 22 rfl (by decide) kf_X6_216 rfl rfl (by decide +kernel) rfl rfl (Nat.le_of_ble_eq_true rfl) dX6_lists_41 (ws' := wR g a pe so ag fr np ns na nf sl ac ke le tx ap bg wr se wh wo bl ck sw (((dL v i).length) + 1) (va_up y ((dL v i).length) i) bs) rfl ?_
          refine kb_iinc X 1 [1, 0] (v' := nI (i + 1)) dX6_lists_44 rfl (nI_add _ _) (by decide) (lv' := [(0, .ref (a 0)), (1, .int (nI (i + 1)))]) rfl ?_
          refine kb_goto (tgt := 7) X dX6_lists_47 (by decide) ?_
          exact kw_to (ih (i + 1) (va_up y (dL v i).length i) ⟨by omega, by rw [dL, if_pos c3_]; exact hy.snoc i⟩) rfl rfl (by rw [show dL v (i + 1) = dL v i ++ [i] from by rw [dL, if_pos c3_], List.length_append] <;> rfl)
  exact kw_to (L7 (vN v) 0 ro ⟨by omega, AG.nil _⟩) rfl rfl rfl

set_option maxHeartbeats 4000000 in
set_option maxRecDepth 100000 in
theorem ct_X6_swaps (l : Launch) (g : kw_G) (a : Nat → Nat) (pe : Nat) (so : Nat → Int32) (ag : Nat → Int32) (fr : Int32) (np : Nat) (ns : Nat → Int32) (na : Nat → Int32) (nf : Int32) (sl : Nat → Int32) (ac : Nat) (ke : Nat) (le : Nat) (tx : Nat → Nat) (ap : Nat) (bg : Nat) (wr : Bool) (se : Nat) (wh : Nat → Nat) (wo : Nat → Nat) (bl : Nat → Int32) (ck : Nat → Int32) (sw : Nat → Bool) (ma : Nat) (ro : Nat → Nat) (bs : Nat → Nat) (p q : Nat) (hp : p < 6) (hq : q < 6) : kMv l g yX6_swaps cX6_swaps 4 (kw_rm 1 0 0) 0 0 [.ref (a 0), .int (nI (p)), .int (nI (q))] (wR g a pe so ag fr np ns na nf sl ac ke le tx ap bg wr se wh wo bl ck sw ma ro bs) (fun w => w = wR g a pe so ag fr np ns na nf sl ac ke le tx ap bg wr se wh wo bl ck sw ma (va_up (va_up ro p (ro q)) q (ro p)) bs) := by
  refine kMv_of (by decide +kernel) (Nat.le_of_ble_eq_true rfl) (fun x (X : kX l g RX6 cX6_swaps 4 (kw_rm 1 0 0) x) (Z : kZv _ 0 0 x) => ?_)
  show kW x 0 0 0 [(0, .ref (a 0)), (1, .int (nI (p))), (2, .int (nI (q)))] [] (wR g a pe so ag fr np ns na nf sl ac ke le tx ap bg wr se wh wo bl ck sw ma ro bs)
  refine kb_aload_n X 0 dX6_swaps_0 rfl rfl ?_
  refine kb_get (v := .ref (a 12)) (C := RX6) (T := TX6) (N := 25) (ci := 6) X kw_iX6 rfl 0 23 rfl (by decide) kf_X6_45 rfl rfl dX6_swaps_1 ?_
  refine kb_iload_n X 1 dX6_swaps_4 rfl rfl ?_
  refine kb_iald (i := p) X 12 rfl (by omega) (by decide) dX6_swaps_5 ?_
  refine kb_istore_n X [1, 2, 3, 0] dX6_swaps_6 rfl (by decide) (lv' := [(0, .ref (a 0)), (1, .int (nI (p))), (2, .int (nI (q))), (3, .int (nI (ro p)))]) rfl ?_
  refine kb_aload_n X 0 dX6_swaps_7 rfl rfl ?_
  refine kb_get (v := .ref (a 12)) (C := RX6) (T := TX6) (N := 25) (ci := 6) X kw_iX6 rfl 0 23 rfl (by decide) kf_X6_45 rfl rfl dX6_swaps_8 ?_
  refine kb_iload_n X 1 dX6_swaps_11 rfl rfl ?_
  refine kb_aload_n X 0 dX6_swaps_12 rfl rfl ?_
  refine kb_get (v := .ref (a 12)) (C := RX6) (T := TX6) (N := 25) (ci := 6) X kw_iX6 rfl 0 23 rfl (by decide) kf_X6_45 rfl rfl dX6_swaps_13 ?_
  refine kb_iload_n X 2 dX6_swaps_16 rfl rfl ?_
  refine kb_iald (i := q) X 12 rfl (by omega) (by decide) dX6_swaps_17 ?_
  refine kb_iast (i := p) X 12 rfl (by omega) (by decide) dX6_swaps_18 (ws' := wR g a pe so ag fr np ns na nf sl ac ke le tx ap bg wr se wh wo bl ck sw ma (va_up ro p (ro q)) bs) (by rw [upd_nI]; rfl) ?_
  refine kb_aload_n X 0 dX6_swaps_19 rfl rfl ?_
  refine kb_get (v := .ref (a 12)) (C := RX6) (T := TX6) (N := 25) (ci := 6) X kw_iX6 rfl 0 23 rfl (by decide) kf_X6_45 rfl rfl dX6_swaps_20 ?_
  refine kb_iload_n X 2 dX6_swaps_23 rfl rfl ?_
  refine kb_iload_n X 3 dX6_swaps_24 rfl rfl ?_
  refine kb_iast (i := q) X 12 rfl (by omega) (by decide) dX6_swaps_25 (ws' := wR g a pe so ag fr np ns na nf sl ac ke le tx ap bg wr se wh wo bl ck sw ma (va_up (va_up ro p (ro q)) q (ro p)) bs) (by rw [upd_nI]; rfl) ?_
  refine ke_v X Z dX6_swaps_26 ?_
  exact rfl

set_option maxHeartbeats 4000000 in
set_option maxRecDepth 100000 in
theorem ct_X6_goesOn (l : Launch) (g : kw_G) (a : Nat → Nat) (pe : Nat) (so : Nat → Int32) (ag : Nat → Int32) (fr : Int32) (np : Nat) (ns : Nat → Int32) (na : Nat → Int32) (nf : Int32) (sl : Nat → Int32) (ac : Nat) (ke : Nat) (le : Nat) (tx : Nat → Nat) (ap : Nat) (bg : Nat) (wr : Bool) (se : Nat) (wh : Nat → Nat) (wo : Nat → Nat) (bl : Nat → Int32) (ck : Nat → Int32) (sw : Nat → Bool) (ma : Nat) (ro : Nat → Nat) (bs : Nat → Nat) (hma : ma ≤ 6) (hro : ∀ i, i < ma → ro i < 6) : kMi l g yX6_goesOn cX6_goesOn 5 .boolean (kw_rm 2 0 0) 0 0 [.ref (a 0)] (wR g a pe so ag fr np ns na nf sl ac ke le tx ap bg wr se wh wo bl ck sw ma ro bs) (fun r w => ∃ ro' b, NXT ro ro' ma b ∧ r = zI b ∧ w = wR g a pe so ag fr np ns na nf sl ac ke le tx ap bg wr se wh wo bl ck sw ma ro' bs) := by
  refine kMi_of (by decide +kernel) (Nat.le_of_ble_eq_true rfl) (fun x (X : kX l g RX6 cX6_goesOn 5 (kw_rm 2 0 0) x) (Z : kZi .boolean _ 0 0 x) => ?_)
  show kW x 0 0 0 [(0, .ref (a 0))] [] (wR g a pe so ag fr np ns na nf sl ac ke le tx ap bg wr se wh wo bl ck sw ma ro bs)
  refine kb_aload_n X 0 dX6_goesOn_0 rfl rfl ?_
  refine kb_get (v := .int (nI (ma))) (C := RX6) (T := TX6) (N := 25) (ci := 6) X kw_iX6 rfl 0 22 rfl (by decide) kf_X6_216 rfl rfl dX6_goesOn_1 ?_
  refine kb_iconst (v := (2 : Int32)) X dX6_goesOn_4 (by decide) ?_
  refine kb_isub X dX6_goesOn_5 ?_
  refine kb_istore_n X [1, 0] dX6_goesOn_6 rfl (by decide) (lv' := [(0, .ref (a 0)), (1, .int ((nI (ma)) - (2 : Int32)))]) rfl ?_
  have L7 : ∀ (K_ t : Nat), t = K_ ∧ t ≤ ma ∧ (∀ i, t ≤ i + 1 → i + 1 < ma → ro (i + 1) < ro i) → kW x 0 0 7 [(0, .ref (a 0)), (1, .int (nI t - 2))] [] (wR g a pe so ag fr np ns na nf sl ac ke le tx ap bg wr se wh wo bl ck sw ma ro bs) := by
    intro K_
    induction K_ with
    | zero =>
      intro t hh
      obtain ⟨ht, htm, hde⟩ := id hh
      refine kb_iload_n X 1 dX6_goesOn_7 rfl rfl ?_
      refine kb_if_lt (tgt := 34) X dX6_goesOn_8 (by decide) (fun c1_ => ?_) (fun c1_ => ?_)
      · skip
        have cz_ := c1_
        refine kb_iload_n X 1 dX6_goesOn_34 rfl rfl ?_
        refine kb_if_ge (tgt := 40) X dX6_goesOn_35 (by decide) (fun c2_ => ?_) (fun c2_ => ?_)
        · skip
          exact absurd cz_ (Int32.not_lt.mpr c2_)
        · skip
          refine kb_iconst (v := (0 : Int32)) X dX6_goesOn_38 (by decide) ?_
          refine ke_z X Z rfl dX6_goesOn_39 ?_
          exact ⟨ro, false, Or.inl ⟨rfl, rfl, fun i h => hde i (by have := (n2_lt t (by omega)).mp cz_; omega) h⟩, rfl, rfl⟩
      · skip
        have cz_ := c1_
        obtain ⟨u, hu_⟩ : ∃ u, t = u + 2 := ⟨t - 2, by have := mt (n2_lt t (by omega)).mpr c1_; omega⟩
        subst hu_
        omega
    | succ K_ ih =>
      intro t hh
      obtain ⟨ht, htm, hde⟩ := id hh
      refine kb_iload_n X 1 dX6_goesOn_7 rfl rfl ?_
      refine kb_if_lt (tgt := 34) X dX6_goesOn_8 (by decide) (fun c3_ => ?_) (fun c3_ => ?_)
      · skip
        have cz_ := c3_
        refine kb_iload_n X 1 dX6_goesOn_34 rfl rfl ?_
        refine kb_if_ge (tgt := 40) X dX6_goesOn_35 (by decide) (fun c4_ => ?_) (fun c4_ => ?_)
        · skip
          exact absurd cz_ (Int32.not_lt.mpr c4_)
        · skip
          refine kb_iconst (v := (0 : Int32)) X dX6_goesOn_38 (by decide) ?_
          refine ke_z X Z rfl dX6_goesOn_39 ?_
          exact ⟨ro, false, Or.inl ⟨rfl, rfl, fun i h => hde i (by have := (n2_lt t (by omega)).mp cz_; omega) h⟩, rfl, rfl⟩
      · skip
        have cz_ := c3_
        obtain ⟨u, hu_⟩ : ∃ u, t = u + 2 := ⟨t - 2, by have := mt (n2_lt t (by omega)).mpr c3_; omega⟩
        subst hu_
        refine kw_lv (lv' := [(0, .ref (a 0)), (1, .int (nI (u)))]) (by rw [n2_2 u (by omega)]) ?_
        have hr1_ := hro u (by omega)
        have hr2_ := hro (u + 1) (by omega)
        refine kb_aload_n X 0 dX6_goesOn_11 rfl rfl ?_
        refine kb_get (v := .ref (a 12)) (C := RX6) (T := TX6) (N := 25) (ci := 6) X kw_iX6 rfl 0 23 rfl (by decide) kf_X6_45 rfl rfl dX6_goesOn_12 ?_
        refine kb_iload_n X 1 dX6_goesOn_15 rfl rfl ?_
        refine kb_iald (i := u) X 12 rfl (by omega) (by decide) dX6_goesOn_16 ?_
        refine kb_aload_n X 0 dX6_goesOn_17 rfl rfl ?_
        refine kb_get (v := .ref (a 12)) (C := RX6) (T := TX6) (N := 25) (ci := 6) X kw_iX6 rfl 0 23 rfl (by decide) kf_X6_45 rfl rfl dX6_goesOn_18 ?_
        refine kb_iload_n X 1 dX6_goesOn_21 rfl rfl ?_
        refine kb_iconst (v := (1 : Int32)) X dX6_goesOn_22 (by decide) ?_
        refine kn_iadd X u 1 dX6_goesOn_23 ?_
        refine kb_iald (i := u + 1) X 12 rfl (by omega) (by decide) dX6_goesOn_24 ?_
        refine kn_icmp_le (a := ro u) (b := ro (u + 1)) (tgt := 34) X (by omega) (by omega) dX6_goesOn_25 (by decide) (fun c5_ => ?_) (fun c5_ => ?_)
        · skip
          have cu_ := c5_
          refine kb_iload_n X 1 dX6_goesOn_34 rfl rfl ?_
          refine kb_if_ge (tgt := 40) X dX6_goesOn_35 (by decide) (fun c6_ => ?_) (fun c6_ => ?_)
          · skip
            refine kb_aload_n X 0 dX6_goesOn_40 rfl rfl ?_
            refine kb_get (v := .int (nI (ma))) (C := RX6) (T := TX6) (N := 25) (ci := 6) X kw_iX6 rfl 0 22 rfl (by decide) kf_X6_216 rfl rfl dX6_goesOn_41 ?_
            refine kb_iconst (v := (1 : Int32)) X dX6_goesOn_44 (by decide) ?_
            refine kn_isub X ma 1 (by omega) dX6_goesOn_45 ?_
            refine kb_istore_n X [1, 2, 0] dX6_goesOn_46 rfl (by decide) (lv' := [(0, .ref (a 0)), (1, .int (nI (u))), (2, .int (nI (ma - 1)))]) rfl ?_
            have L47 : ∀ (K_ j : Nat), j = u + 1 + K_ ∧ j < ma ∧ (∀ i, j < i → i < ma → ro i < ro u) → kW x 0 0 47 [(0, .ref (a 0)), (1, .int (nI (u))), (2, .int (nI (j)))] [] (wR g a pe so ag fr np ns na nf sl ac ke le tx ap bg wr se wh wo bl ck sw ma ro bs) := by
              intro K_
              induction K_ with
              | zero =>
                intro j hh2
                obtain ⟨hj, hjm, hjl⟩ := id hh2
                have hr3_ := hro j hjm
                refine kb_aload_n X 0 dX6_goesOn_47 rfl rfl ?_
                refine kb_get (v := .ref (a 12)) (C := RX6) (T := TX6) (N := 25) (ci := 6) X kw_iX6 rfl 0 23 rfl (by decide) kf_X6_45 rfl rfl dX6_goesOn_48 ?_
                refine kb_iload_n X 2 dX6_goesOn_51 rfl rfl ?_
                refine kb_iald (i := j) X 12 rfl (by omega) (by decide) dX6_goesOn_52 ?_
                refine kb_aload_n X 0 dX6_goesOn_53 rfl rfl ?_
                refine kb_get (v := .ref (a 12)) (C := RX6) (T := TX6) (N := 25) (ci := 6) X kw_iX6 rfl 0 23 rfl (by decide) kf_X6_45 rfl rfl dX6_goesOn_54 ?_
                refine kb_iload_n X 1 dX6_goesOn_57 rfl rfl ?_
                refine kb_iald (i := u) X 12 rfl (by omega) (by decide) dX6_goesOn_58 ?_
                refine kn_icmp_ge (a := ro j) (b := ro u) (tgt := 68) X (by omega) (by omega) dX6_goesOn_59 (by decide) (fun c7_ => ?_) (fun c7_ => ?_)
                · skip
                  have cj_ := c7_
                  refine kb_aload_n X 0 dX6_goesOn_68 rfl rfl ?_
                  refine kb_iload_n X 1 dX6_goesOn_69 rfl rfl ?_
                  refine kb_iload_n X 2 dX6_goesOn_70 rfl rfl ?_
                  refine kc_Vv X (As := [.int (nI (u)), .int (nI (j))]) (rest := []) (wr := []) (ct_X6_swaps l g a pe so ag fr np ns na nf sl ac ke le tx ap bg wr se wh wo bl ck sw ma ro bs u j (by omega) (by omega)) dX6_goesOn_71 rfl (kw_pall _) mc_X6_swaps kl_X6_219 mi_X6_swaps mv_X6_swaps kn_X6 0 rfl rfl rfl (na := 2) (by decide +kernel) rfl ⟨Nat.le_of_ble_eq_true rfl, Nat.le_of_ble_eq_true rfl⟩ ⟨rfl, rfl⟩ ⟨Nat.le_of_ble_eq_true rfl, Nat.le_of_ble_eq_true rfl⟩ (Nat.le_of_ble_eq_true rfl) (fun w_ hp_ => ?_)
                  obtain rfl := hp_
                  refine kw_ws (List.append_nil _) ?_
                  refine kb_iload_n X 1 dX6_goesOn_74 rfl rfl ?_
                  refine kb_iconst (v := (1 : Int32)) X dX6_goesOn_75 (by decide) ?_
                  refine kn_iadd X u 1 dX6_goesOn_76 ?_
                  refine kb_istore_n X [1, 2, 3, 0] dX6_goesOn_77 rfl (by decide) (lv' := [(0, .ref (a 0)), (1, .int (nI (u))), (2, .int (nI (j))), (3, .int (nI (u + 1)))]) rfl ?_
                  refine kb_aload_n X 0 dX6_goesOn_78 rfl rfl ?_
                  refine kb_get (v := .int (nI (ma))) (C := RX6) (T := TX6) (N := 25) (ci := 6) X kw_iX6 rfl 0 22 rfl (by decide) kf_X6_216 rfl rfl dX6_goesOn_79 ?_
                  refine kb_iconst (v := (1 : Int32)) X dX6_goesOn_82 (by decide) ?_
                  refine kn_isub X ma 1 (by omega) dX6_goesOn_83 ?_
                  refine kb_istore X [1, 2, 3, 4, 0] dX6_goesOn_84 (by decide) (lv' := [(0, .ref (a 0)), (1, .int (nI (u))), (2, .int (nI (j))), (3, .int (nI (u + 1))), (4, .int (nI (ma - 1)))]) rfl ?_
                  have L86 : ∀ (K_ s e : Nat) (y : Nat → Nat), s + e = u + ma ∧ u + 1 ≤ s ∧ e < ma ∧ s ≤ e + 1 ∧ e < s + K_ ∧ RVS (swl ro u j) y u ma s e → kW x 0 0 86 [(0, .ref (a 0)), (1, .int (nI (u))), (2, .int (nI (j))), (3, .int (nI (s))), (4, .int (nI (e)))] [] (wR g a pe so ag fr np ns na nf sl ac ke le tx ap bg wr se wh wo bl ck sw ma y bs) := by
                    intro K_
                    induction K_ with
                    | zero =>
                      intro s e y hh3
                      obtain ⟨g1_, g2_, g3_, g4_, g5_, hy⟩ := id hh3
                      refine kb_iload_n X 3 dX6_goesOn_86 rfl rfl ?_
                      refine kb_iload X 4 dX6_goesOn_87 rfl ?_
                      refine kn_icmp_ge (a := s) (b := e) (tgt := 108) X (by omega) (by omega) dX6_goesOn_89 (by decide) (fun c8_ => ?_) (fun c8_ => ?_)
                      · skip
                        refine kb_iconst (v := (1 : Int32)) X dX6_goesOn_108 (by decide) ?_
                        refine ke_z X Z rfl dX6_goesOn_109 ?_
                        exact ⟨y, true, Or.inr ⟨rfl, u, j, by omega, by omega, (fun i h1 h2 => hde i (by omega) h2), hjm, by omega, hjl, nxt_fin hy g1_ g2_ g3_ g4_ (by omega) (by omega)⟩, rfl, rfl⟩
                      · skip
                        omega
                    | succ K_ ih3 =>
                      intro s e y hh3
                      obtain ⟨g1_, g2_, g3_, g4_, g5_, hy⟩ := id hh3
                      refine kb_iload_n X 3 dX6_goesOn_86 rfl rfl ?_
                      refine kb_iload X 4 dX6_goesOn_87 rfl ?_
                      refine kn_icmp_ge (a := s) (b := e) (tgt := 108) X (by omega) (by omega) dX6_goesOn_89 (by decide) (fun c9_ => ?_) (fun c9_ => ?_)
                      · skip
                        refine kb_iconst (v := (1 : Int32)) X dX6_goesOn_108 (by decide) ?_
                        refine ke_z X Z rfl dX6_goesOn_109 ?_
                        exact ⟨y, true, Or.inr ⟨rfl, u, j, by omega, by omega, (fun i h1 h2 => hde i (by omega) h2), hjm, by omega, hjl, nxt_fin hy g1_ g2_ g3_ g4_ (by omega) (by omega)⟩, rfl, rfl⟩
                      · skip
                        refine kb_aload_n X 0 dX6_goesOn_92 rfl rfl ?_
                        refine kb_iload_n X 3 dX6_goesOn_93 rfl rfl ?_
                        refine kb_iload X 4 dX6_goesOn_94 rfl ?_
                        refine kc_Vv X (As := [.int (nI (s)), .int (nI (e))]) (rest := []) (wr := []) (ct_X6_swaps l g a pe so ag fr np ns na nf sl ac ke le tx ap bg wr se wh wo bl ck sw ma y bs s e (by omega) (by omega)) dX6_goesOn_96 rfl (kw_pall _) mc_X6_swaps kl_X6_219 mi_X6_swaps mv_X6_swaps kn_X6 0 rfl rfl rfl (na := 2) (by decide +kernel) rfl ⟨Nat.le_of_ble_eq_true rfl, Nat.le_of_ble_eq_true rfl⟩ ⟨rfl, rfl⟩ ⟨Nat.le_of_ble_eq_true rfl, Nat.le_of_ble_eq_true rfl⟩ (Nat.le_of_ble_eq_true rfl) (fun w_ hp_ => ?_)
                        obtain rfl := hp_
                        refine kw_ws (List.append_nil _) ?_
                        refine kb_iinc X 3 [1, 2, 3, 0, 4] (v' := nI (s + 1)) dX6_goesOn_99 rfl (nI_add _ _) (by decide) (lv' := [(0, .ref (a 0)), (1, .int (nI (u))), (2, .int (nI (j))), (3, .int (nI (s + 1))), (4, .int (nI (e)))]) rfl ?_
                        refine kb_iinc X 4 [1, 2, 3, 4, 0] (v' := (nI (e)) + (-1 : Int32)) dX6_goesOn_102 rfl rfl (by decide) (lv' := [(0, .ref (a 0)), (1, .int (nI (u))), (2, .int (nI (j))), (3, .int (nI (s + 1))), (4, .int ((nI (e)) + (-1 : Int32)))]) rfl ?_
                        refine kw_lv (lv' := [(0, .ref (a 0)), (1, .int (nI (u))), (2, .int (nI (j))), (3, .int (nI (s + 1))), (4, .int (nI (e - 1)))]) (by rw [dec_n (by omega) (by omega)]) ?_
                        refine kb_goto (tgt := 86) X dX6_goesOn_105 (by decide) ?_
                        exact kw_to (ih3 (s + 1) (e - 1) _ ⟨by omega, by omega, by omega, by omega, by omega, rev_step hy g1_ g2_ g3_ (by omega)⟩) rfl rfl rfl
                  exact kw_to (L86 ma (u + 1) (ma - 1) _ ⟨by omega, by omega, by omega, by omega, by omega, fun q hq => by rw [if_neg (by omega)]; exact sw_up ro u j q (by omega)⟩) rfl rfl rfl
                · skip
                  have e_ : j = u + 1 := by omega
                  subst e_
                  omega
              | succ K_ ih2 =>
                intro j hh2
                obtain ⟨hj, hjm, hjl⟩ := id hh2
                have hr3_ := hro j hjm
                refine kb_aload_n X 0 dX6_goesOn_47 rfl rfl ?_
                refine kb_get (v := .ref (a 12)) (C := RX6) (T := TX6) (N := 25) (ci := 6) X kw_iX6 rfl 0 23 rfl (by decide) kf_X6_45 rfl rfl dX6_goesOn_48 ?_
                refine kb_iload_n X 2 dX6_goesOn_51 rfl rfl ?_
                refine kb_iald (i := j) X 12 rfl (by omega) (by decide) dX6_goesOn_52 ?_
                refine kb_aload_n X 0 dX6_goesOn_53 rfl rfl ?_
                refine kb_get (v := .ref (a 12)) (C := RX6) (T := TX6) (N := 25) (ci := 6) X kw_iX6 rfl 0 23 rfl (by decide) kf_X6_45 rfl rfl dX6_goesOn_54 ?_
                refine kb_iload_n X 1 dX6_goesOn_57 rfl rfl ?_
                refine kb_iald (i := u) X 12 rfl (by omega) (by decide) dX6_goesOn_58 ?_
                refine kn_icmp_ge (a := ro j) (b := ro u) (tgt := 68) X (by omega) (by omega) dX6_goesOn_59 (by decide) (fun c10_ => ?_) (fun c10_ => ?_)
                · skip
                  have cj_ := c10_
                  refine kb_aload_n X 0 dX6_goesOn_68 rfl rfl ?_
                  refine kb_iload_n X 1 dX6_goesOn_69 rfl rfl ?_
                  refine kb_iload_n X 2 dX6_goesOn_70 rfl rfl ?_
                  refine kc_Vv X (As := [.int (nI (u)), .int (nI (j))]) (rest := []) (wr := []) (ct_X6_swaps l g a pe so ag fr np ns na nf sl ac ke le tx ap bg wr se wh wo bl ck sw ma ro bs u j (by omega) (by omega)) dX6_goesOn_71 rfl (kw_pall _) mc_X6_swaps kl_X6_219 mi_X6_swaps mv_X6_swaps kn_X6 0 rfl rfl rfl (na := 2) (by decide +kernel) rfl ⟨Nat.le_of_ble_eq_true rfl, Nat.le_of_ble_eq_true rfl⟩ ⟨rfl, rfl⟩ ⟨Nat.le_of_ble_eq_true rfl, Nat.le_of_ble_eq_true rfl⟩ (Nat.le_of_ble_eq_true rfl) (fun w_ hp_ => ?_)
                  obtain rfl := hp_
                  refine kw_ws (List.append_nil _) ?_
                  refine kb_iload_n X 1 dX6_goesOn_74 rfl rfl ?_
                  refine kb_iconst (v := (1 : Int32)) X dX6_goesOn_75 (by decide) ?_
                  refine kn_iadd X u 1 dX6_goesOn_76 ?_
                  refine kb_istore_n X [1, 2, 3, 0] dX6_goesOn_77 rfl (by decide) (lv' := [(0, .ref (a 0)), (1, .int (nI (u))), (2, .int (nI (j))), (3, .int (nI (u + 1)))]) rfl ?_
                  refine kb_aload_n X 0 dX6_goesOn_78 rfl rfl ?_
                  refine kb_get (v := .int (nI (ma))) (C := RX6) (T := TX6) (N := 25) (ci := 6) X kw_iX6 rfl 0 22 rfl (by decide) kf_X6_216 rfl rfl dX6_goesOn_79 ?_
                  refine kb_iconst (v := (1 : Int32)) X dX6_goesOn_82 (by decide) ?_
                  refine kn_isub X ma 1 (by omega) dX6_goesOn_83 ?_
                  refine kb_istore X [1, 2, 3, 4, 0] dX6_goesOn_84 (by decide) (lv' := [(0, .ref (a 0)), (1, .int (nI (u))), (2, .int (nI (j))), (3, .int (nI (u + 1))), (4, .int (nI (ma - 1)))]) rfl ?_
                  have L86 : ∀ (K_ s e : Nat) (y : Nat → Nat), s + e = u + ma ∧ u + 1 ≤ s ∧ e < ma ∧ s ≤ e + 1 ∧ e < s + K_ ∧ RVS (swl ro u j) y u ma s e → kW x 0 0 86 [(0, .ref (a 0)), (1, .int (nI (u))), (2, .int (nI (j))), (3, .int (nI (s))), (4, .int (nI (e)))] [] (wR g a pe so ag fr np ns na nf sl ac ke le tx ap bg wr se wh wo bl ck sw ma y bs) := by
                    intro K_
                    induction K_ with
                    | zero =>
                      intro s e y hh3
                      obtain ⟨g1_, g2_, g3_, g4_, g5_, hy⟩ := id hh3
                      refine kb_iload_n X 3 dX6_goesOn_86 rfl rfl ?_
                      refine kb_iload X 4 dX6_goesOn_87 rfl ?_
                      refine kn_icmp_ge (a := s) (b := e) (tgt := 108) X (by omega) (by omega) dX6_goesOn_89 (by decide) (fun c11_ => ?_) (fun c11_ => ?_)
                      · skip
                        refine kb_iconst (v := (1 : Int32)) X dX6_goesOn_108 (by decide) ?_
                        refine ke_z X Z rfl dX6_goesOn_109 ?_
                        exact ⟨y, true, Or.inr ⟨rfl, u, j, by omega, by omega, (fun i h1 h2 => hde i (by omega) h2), hjm, by omega, hjl, nxt_fin hy g1_ g2_ g3_ g4_ (by omega) (by omega)⟩, rfl, rfl⟩
                      · skip
                        omega
                    | succ K_ ih3 =>
                      intro s e y hh3
                      obtain ⟨g1_, g2_, g3_, g4_, g5_, hy⟩ := id hh3
                      refine kb_iload_n X 3 dX6_goesOn_86 rfl rfl ?_
                      refine kb_iload X 4 dX6_goesOn_87 rfl ?_
                      refine kn_icmp_ge (a := s) (b := e) (tgt := 108) X (by omega) (by omega) dX6_goesOn_89 (by decide) (fun c12_ => ?_) (fun c12_ => ?_)
                      · skip
                        refine kb_iconst (v := (1 : Int32)) X dX6_goesOn_108 (by decide) ?_
                        refine ke_z X Z rfl dX6_goesOn_109 ?_
                        exact ⟨y, true, Or.inr ⟨rfl, u, j, by omega, by omega, (fun i h1 h2 => hde i (by omega) h2), hjm, by omega, hjl, nxt_fin hy g1_ g2_ g3_ g4_ (by omega) (by omega)⟩, rfl, rfl⟩
                      · skip
                        refine kb_aload_n X 0 dX6_goesOn_92 rfl rfl ?_
                        refine kb_iload_n X 3 dX6_goesOn_93 rfl rfl ?_
                        refine kb_iload X 4 dX6_goesOn_94 rfl ?_
                        refine kc_Vv X (As := [.int (nI (s)), .int (nI (e))]) (rest := []) (wr := []) (ct_X6_swaps l g a pe so ag fr np ns na nf sl ac ke le tx ap bg wr se wh wo bl ck sw ma y bs s e (by omega) (by omega)) dX6_goesOn_96 rfl (kw_pall _) mc_X6_swaps kl_X6_219 mi_X6_swaps mv_X6_swaps kn_X6 0 rfl rfl rfl (na := 2) (by decide +kernel) rfl ⟨Nat.le_of_ble_eq_true rfl, Nat.le_of_ble_eq_true rfl⟩ ⟨rfl, rfl⟩ ⟨Nat.le_of_ble_eq_true rfl, Nat.le_of_ble_eq_true rfl⟩ (Nat.le_of_ble_eq_true rfl) (fun w_ hp_ => ?_)
                        obtain rfl := hp_
                        refine kw_ws (List.append_nil _) ?_
                        refine kb_iinc X 3 [1, 2, 3, 0, 4] (v' := nI (s + 1)) dX6_goesOn_99 rfl (nI_add _ _) (by decide) (lv' := [(0, .ref (a 0)), (1, .int (nI (u))), (2, .int (nI (j))), (3, .int (nI (s + 1))), (4, .int (nI (e)))]) rfl ?_
                        refine kb_iinc X 4 [1, 2, 3, 4, 0] (v' := (nI (e)) + (-1 : Int32)) dX6_goesOn_102 rfl rfl (by decide) (lv' := [(0, .ref (a 0)), (1, .int (nI (u))), (2, .int (nI (j))), (3, .int (nI (s + 1))), (4, .int ((nI (e)) + (-1 : Int32)))]) rfl ?_
                        refine kw_lv (lv' := [(0, .ref (a 0)), (1, .int (nI (u))), (2, .int (nI (j))), (3, .int (nI (s + 1))), (4, .int (nI (e - 1)))]) (by rw [dec_n (by omega) (by omega)]) ?_
                        refine kb_goto (tgt := 86) X dX6_goesOn_105 (by decide) ?_
                        exact kw_to (ih3 (s + 1) (e - 1) _ ⟨by omega, by omega, by omega, by omega, by omega, rev_step hy g1_ g2_ g3_ (by omega)⟩) rfl rfl rfl
                  exact kw_to (L86 ma (u + 1) (ma - 1) _ ⟨by omega, by omega, by omega, by omega, by omega, fun q hq => by rw [if_neg (by omega)]; exact sw_up ro u j q (by omega)⟩) rfl rfl rfl
                · skip
                  refine kb_iinc X 2 [1, 2, 0] (v' := (nI (j)) + (-1 : Int32)) dX6_goesOn_62 rfl rfl (by decide) (lv' := [(0, .ref (a 0)), (1, .int (nI (u))), (2, .int ((nI (j)) + (-1 : Int32)))]) rfl ?_
                  refine kw_lv (lv' := [(0, .ref (a 0)), (1, .int (nI (u))), (2, .int (nI (j - 1)))]) (by rw [dec_n (by omega) (by omega)]) ?_
                  refine kb_goto (tgt := 47) X dX6_goesOn_65 (by decide) ?_
                  exact kw_to (ih2 (j - 1) ⟨by omega, by omega, fun i h1 h2 => by
                    by_cases ee : i = j
                    · rw [ee]; omega
                    · exact hjl i (by omega) h2⟩) rfl rfl rfl
            exact kw_to (L47 (ma - 1 - (u + 1)) (ma - 1) ⟨by omega, by omega, fun i h1 h2 => by omega⟩) rfl rfl rfl
          · skip
            exact absurd (Int32.not_lt.mp (nI_pos (by omega))) c6_
        · skip
          refine kb_iinc X 1 [1, 0] (v' := (nI (u)) + (-1 : Int32)) dX6_goesOn_28 rfl rfl (by decide) (lv' := [(0, .ref (a 0)), (1, .int ((nI (u)) + (-1 : Int32)))]) rfl ?_
          refine kw_lv (lv' := [(0, .ref (a 0)), (1, .int (nI (u + 1) - 2))]) (by rw [n2_d u (by omega)]) ?_
          refine kb_goto (tgt := 7) X dX6_goesOn_31 (by decide) ?_
          exact kw_to (ih (u + 1) ⟨by omega, by omega, fun i h1 h2 => by
            by_cases ee : i = u
            · rw [ee]; omega
            · exact hde i (by omega) h2⟩) rfl rfl rfl
  exact kw_to (L7 ma ma ⟨rfl, Nat.le_refl _, fun i h1 h2 => by omega⟩) rfl rfl rfl

