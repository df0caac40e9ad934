set_option maxHeartbeats 4000000 in
set_option maxRecDepth 100000 in
theorem ct_X6_gifts (l : Launch) (g : kw_G) (a : Nat → Nat) (so : Nat → Int32) (ag : Nat → Int32) (np : Nat) (ns : Nat → Int32) (na : Nat → Int32) (nf : Int32) (sl : Nat → Int32) (ac : Nat) (ke : Nat) (le : Nat) (tx : Nat → Nat) (ap : Nat) (bg : Nat) (wr : Bool) (se : Nat) (wh : Nat → Nat) (wo : Nat → Nat) (bl : Nat → Int32) (ck : Nat → Int32) (sw : Nat → Bool) (ma : Nat) (ro : Nat → Nat) (bs : Nat → Nat) (v : VS) (us ks : List VS) (tf : Nat → Nat) (tn : Nat) (s : SS) (hR : RI (vN v) so ag (vG v) sl ac ke le tx se wh wo bl ck sw v us ks tf tn s) (p st b c : Int32) : kMi l g yX6_gifts cX6_gifts 9 .int (kw_rm 3 0 0) 0 0 [.ref (a 0), .int (p), .int (st), .int (b), .int (c)] (wR g a (vN v) so ag (vG v) np ns na nf sl ac ke le tx ap bg wr se wh wo bl ck sw ma ro bs) (fun r w => r = oGifts v p st b c ∧ RWp g a v us ks tf tn s w) := by
  refine kMi_of (by decide +kernel) (Nat.le_of_ble_eq_true rfl) (fun x (X : kX l g RX6 cX6_gifts 9 (kw_rm 3 0 0) x) (Z : kZi .int _ 0 0 x) => ?_)
  show kW x 0 0 0 [(0, .ref (a 0)), (1, .int (p)), (2, .int (st)), (3, .int (b)), (4, .int (c))] [] (wR g a (vN v) so ag (vG v) np ns na nf sl ac ke le tx ap bg wr se wh wo bl ck sw ma ro bs)
  have hE := hR.1
  have hG := hR.2.1
  have hK := hR.2.1.1
  have hv := hR.2.1.2.1
  have hT := hR.2.1.2.2.1
  have hN0 := hR.2.1.2.2.2
  have h6 := hv.1
  have hx64 := hv.2.1
  have hh64 := hv.2.2
  refine kb_aload_n X 0 dX6_gifts_0 rfl rfl ?_
  refine kb_iload_n X 1 dX6_gifts_1 rfl rfl ?_
  refine kc_Vi X (As := [.int (p)]) (rest := []) (wr := []) (ct_X6_isPerson l g a (vN v) so ag (vG v) np ns na nf sl ac ke le tx ap bg wr se wh wo bl ck sw ma ro bs p (by omega)) dX6_gifts_2 rfl (kw_pall _) mc_X6_isPerson kl_X6_75 mi_X6_isPerson mv_X6_isPerson kn_X6 0 rfl rfl rfl (na := 1) (by decide +kernel) rfl ⟨Nat.le_of_ble_eq_true rfl, Nat.le_of_ble_eq_true rfl⟩ ⟨rfl, rfl⟩ ⟨Nat.le_of_ble_eq_true rfl, Nat.le_of_ble_eq_true rfl⟩ (Nat.le_of_ble_eq_true rfl) (fun r_ w_ hp_ => ?_)
  obtain ⟨rfl, rfl⟩ := hp_
  refine kw_ws (List.append_nil _) ?_
  refine kz_if_eq (b := pin p (vN v)) (tgt := 26) X dX6_gifts_5 (by decide) (fun c1_ => ?_) (fun c1_ => ?_)
  · skip
    refine kb_iconst (v := (-1 : Int32)) X dX6_gifts_26 (by decide) ?_
    refine ke_i X Z dX6_gifts_27 ?_
    exact ⟨by simp [oGifts, c1_], RWp.of hR⟩
  · skip
    obtain ⟨pj, hpj, epj, ePp⟩ := pin_j h6 c1_
    refine kw_lv (lv' := [(0, .ref (a 0)), (1, .int (nI (pj))), (2, .int (st)), (3, .int (b)), (4, .int (c))]) (by rw [epj]) ?_
    refine kb_aload_n X 0 dX6_gifts_8 rfl rfl ?_
    refine kb_iload_n X 1 dX6_gifts_9 rfl rfl ?_
    refine kb_iload_n X 2 dX6_gifts_10 rfl rfl ?_
    refine kc_Vi X (As := [.int (nI (pj)), .int (st)]) (rest := []) (wr := []) (ct_X6_isSet l g a (vN v) so ag (vG v) np ns na nf sl ac ke le tx ap bg wr se wh wo bl ck sw ma ro bs pj st v rfl h6 (by omega)) dX6_gifts_11 rfl (kw_pall _) mc_X6_isSet kl_X6_213 mi_X6_isSet mv_X6_isSet kn_X6 0 rfl rfl rfl (na := 2) (by decide +kernel) rfl ⟨Nat.le_of_ble_eq_true rfl, Nat.le_of_ble_eq_true rfl⟩ ⟨rfl, rfl⟩ ⟨Nat.le_of_ble_eq_true rfl, Nat.le_of_ble_eq_true rfl⟩ (Nat.le_of_ble_eq_true rfl) (fun r_ w_ hp_ => ?_)
    obtain ⟨rfl, rfl⟩ := hp_
    refine kw_ws (List.append_nil _) ?_
    refine kz_if_eq (b := isS v pj st) (tgt := 26) X dX6_gifts_14 (by decide) (fun c2_ => ?_) (fun c2_ => ?_)
    · skip
      refine kb_iconst (v := (-1 : Int32)) X dX6_gifts_26 (by decide) ?_
      refine ke_i X Z dX6_gifts_27 ?_
      exact ⟨by simp [oGifts, c1_, ePp, c2_], RWp.of hR⟩
    · skip
      obtain ⟨sj, hs3, esj, ePs⟩ := isS_j h6 c2_
      refine kb_iload_n X 3 dX6_gifts_17 rfl rfl ?_
      refine kb_iload X 4 dX6_gifts_18 rfl ?_
      refine kc_Si X (As := [.int (b), .int (c)]) (rest := []) (wr := (wR g a (vN v) so ag (vG v) np ns na nf sl ac ke le tx ap bg wr se wh wo bl ck sw ma ro bs)) (ct_X6_areBells l g b c ) dX6_gifts_20 rfl (List.Perm.refl _) mc_X6_areBells kl_X6_187 ms_X6_areBells kn_X6 (na := 2) (by decide +kernel) rfl ⟨Nat.le_of_ble_eq_true rfl, Nat.le_of_ble_eq_true rfl⟩ ⟨rfl, rfl⟩ ⟨Nat.le_of_ble_eq_true rfl, Nat.le_of_ble_eq_true rfl⟩ (Nat.le_of_ble_eq_true rfl) (fun r_ w_ hp_ => ?_)
      obtain ⟨rfl, rfl⟩ := hp_
      refine kw_ws (List.nil_append _) ?_
      refine kz_if_ne (b := fare b c) (tgt := 28) X dX6_gifts_23 (by decide) (fun c3_ => ?_) (fun c3_ => ?_)
      · skip
        refine kw_lv (lv' := [(0, .ref (a 0)), (1, .int (nI (pj))), (2, .int (nI (sj))), (3, .int (b)), (4, .int (c))]) (by rw [esj]) ?_
        refine kb_aload_n X 0 dX6_gifts_28 rfl rfl ?_
        refine kb_iconst (v := (0 : Int32)) X dX6_gifts_29 (by decide) ?_
        refine kb_iload_n X 1 dX6_gifts_30 rfl rfl ?_
        refine kc_Vi X (As := [.int 0, .int (nI (pj))]) (rest := []) (wr := []) (ct_X6_isAlive l g a (vN v) so ag (vG v) np ns na nf sl ac ke le tx ap bg wr se wh wo bl ck sw ma ro bs 0 v (by omega) hE hK hv pj (by omega)) dX6_gifts_31 rfl (kw_pall _) mc_X6_isAlive kl_X6_136 mi_X6_isAlive mv_X6_isAlive kn_X6 0 rfl rfl rfl (na := 2) (by decide +kernel) rfl ⟨Nat.le_of_ble_eq_true rfl, Nat.le_of_ble_eq_true rfl⟩ ⟨rfl, rfl⟩ ⟨Nat.le_of_ble_eq_true rfl, Nat.le_of_ble_eq_true rfl⟩ (Nat.le_of_ble_eq_true rfl) (fun r_ w_ hp_ => ?_)
        obtain ⟨rfl, rfl⟩ := hp_
        refine kw_ws (List.append_nil _) ?_
        refine kz_if_ne (b := wLives v pj) (tgt := 40) X dX6_gifts_34 (by decide) (fun c4_ => ?_) (fun c4_ => ?_)
        · skip
          refine kb_iconst (v := (0 : Int32)) X dX6_gifts_40 (by decide) ?_
          refine kb_istore X [1, 2, 3, 4, 5, 0] dX6_gifts_41 (by decide) (lv' := [(0, .ref (a 0)), (1, .int (nI (pj))), (2, .int (nI (sj))), (3, .int (b)), (4, .int (c)), (5, .int 0)]) rfl ?_
          refine kb_iconst (v := (0 : Int32)) X dX6_gifts_43 (by decide) ?_
          refine kb_istore X [1, 2, 3, 4, 5, 6, 0] dX6_gifts_44 (by decide) (lv' := [(0, .ref (a 0)), (1, .int (nI (pj))), (2, .int (nI (sj))), (3, .int (b)), (4, .int (c)), (5, .int 0), (6, .int 0)]) rfl ?_
          have L46 : ∀ (K_ i : Nat), i + K_ = vN v → kW x 0 0 46 [(0, .ref (a 0)), (1, .int (nI (pj))), (2, .int (nI (sj))), (3, .int (b)), (4, .int (c)), (5, .int (gI (gO v pj sj b c i))), (6, .int (nI (i)))] [] (wR g a (vN v) so ag (vG v) np ns na nf sl ac ke le tx ap bg wr se wh wo bl ck sw ma ro bs) := by
            intro K_
            induction K_ with
            | zero =>
              intro i hi
              refine kb_iload X 6 dX6_gifts_46 rfl ?_
              refine kb_aload_n X 0 dX6_gifts_48 rfl rfl ?_
              refine kb_get (v := .int (nI ((vN v)))) (C := RX6) (T := TX6) (N := 25) (ci := 6) X kw_iX6 rfl 0 0 rfl (by decide) kf_X6_65 rfl rfl dX6_gifts_49 ?_
              refine kn_icmp_ge (a := i) (b := (vN v)) (tgt := 167) X (by omega) (by omega) dX6_gifts_52 (by decide) (fun c5_ => ?_) (fun c5_ => ?_)
              · skip
                refine kb_iload X 5 dX6_gifts_167 rfl ?_
                refine ke_i X Z dX6_gifts_169 ?_
                first
                | exact ⟨by rw [oGifts, ePp, ePs, if_pos (by simp [c1_, ePp, c2_, c3_, ePs, c4_]), if_pos (by simp [c1_, ePp, c2_, c3_, ePs, c4_]), show vN v = i by omega], RWp.of hR⟩
                | exact ⟨by rw [oGifts, ePp, ePs, if_pos (by simp [c1_, ePp, c2_, c3_, ePs, c4_]), if_pos (by simp [c1_, ePp, c2_, c3_, ePs, c4_]), gO_end h6 (by omega) cz_], RWp.of hR⟩
              · skip
                omega
            | succ K_ ih =>
              intro i hi
              refine kb_iload X 6 dX6_gifts_46 rfl ?_
              refine kb_aload_n X 0 dX6_gifts_48 rfl rfl ?_
              refine kb_get (v := .int (nI ((vN v)))) (C := RX6) (T := TX6) (N := 25) (ci := 6) X kw_iX6 rfl 0 0 rfl (by decide) kf_X6_65 rfl rfl dX6_gifts_49 ?_
              refine kn_icmp_ge (a := i) (b := (vN v)) (tgt := 167) X (by omega) (by omega) dX6_gifts_52 (by decide) (fun c6_ => ?_) (fun c6_ => ?_)
              · skip
                omega
              · skip
                refine kb_iload X 5 dX6_gifts_55 rfl ?_
                refine kb_if_lt (tgt := 167) X dX6_gifts_57 (by decide) (fun c7_ => ?_) (fun c7_ => ?_)
                · skip
                  have cz_ := c7_
                  refine kb_iload X 5 dX6_gifts_167 rfl ?_
                  refine ke_i X Z dX6_gifts_169 ?_
                  first
                  | exact ⟨by rw [oGifts, ePp, ePs, if_pos (by simp [c1_, ePp, c2_, c3_, ePs, c4_]), if_pos (by simp [c1_, ePp, c2_, c3_, ePs, c4_]), show vN v = i by omega], RWp.of hR⟩
                  | exact ⟨by rw [oGifts, ePp, ePs, if_pos (by simp [c1_, ePp, c2_, c3_, ePs, c4_]), if_pos (by simp [c1_, ePp, c2_, c3_, ePs, c4_]), gO_end h6 (by omega) cz_], RWp.of hR⟩
                · skip
                  obtain ⟨m_, hm_⟩ : ∃ m, gO v pj sj b c i = some m := by
                    cases q : gO v pj sj b c i with
                    | none => exact absurd (by rw [q]; decide) c7_
                    | some m => exact ⟨m, rfl⟩
                  refine kw_lv (lv' := [(0, .ref (a 0)), (1, .int (nI (pj))), (2, .int (nI (sj))), (3, .int (b)), (4, .int (c)), (5, .int (nI (m_))), (6, .int (nI (i)))]) (by rw [hm_] <;> rfl) ?_
                  refine kb_iload_n X 2 dX6_gifts_60 rfl rfl ?_
                  refine kb_iload X 6 dX6_gifts_61 rfl ?_
                  refine kc_Si X (As := [.int (nI (sj)), .int (nI (i))]) (rest := []) (wr := (wR g a (vN v) so ag (vG v) np ns na nf sl ac ke le tx ap bg wr se wh wo bl ck sw ma ro bs)) (ct_X6_has l g sj i (by omega) (by omega)) dX6_gifts_63 rfl (List.Perm.refl _) mc_X6_has kl_X6_132 ms_X6_has kn_X6 (na := 2) (by decide +kernel) rfl ⟨Nat.le_of_ble_eq_true rfl, Nat.le_of_ble_eq_true rfl⟩ ⟨rfl, rfl⟩ ⟨Nat.le_of_ble_eq_true rfl, Nat.le_of_ble_eq_true rfl⟩ (Nat.le_of_ble_eq_true rfl) (fun r_ w_ hp_ => ?_)
                  obtain ⟨rfl, rfl⟩ := hp_
                  refine kw_ws (List.nil_append _) ?_
                  refine kz_if_eq (b := Nat.testBit sj i) (tgt := 161) X dX6_gifts_66 (by decide) (fun c8_ => ?_) (fun c8_ => ?_)
                  · skip
                    have cb_ := c8_
                    refine kb_iinc X 6 [1, 2, 3, 4, 5, 6, 0] (v' := nI (i + 1)) dX6_gifts_161 rfl (nI_add _ _) (by decide) (lv' := [(0, .ref (a 0)), (1, .int (nI (pj))), (2, .int (nI (sj))), (3, .int (b)), (4, .int (c)), (5, .int (nI (m_))), (6, .int (nI (i + 1)))]) rfl ?_
                    refine kb_goto (tgt := 46) X dX6_gifts_164 (by decide) ?_
                    exact kw_to (ih (i + 1) (by omega)) (by rw [gO_out hm_ cb_] <;> rfl) rfl rfl
                  · skip
                    have cb_ := c8_
                    refine kb_aload_n X 0 dX6_gifts_69 rfl rfl ?_
                    refine kb_get (v := .ref (a 5)) (C := RX6) (T := TX6) (N := 25) (ci := 6) X kw_iX6 rfl 0 8 rfl (by decide) kf_X6_22 rfl rfl dX6_gifts_70 ?_
                    refine kb_bipush (v := (10 : Int32)) X dX6_gifts_73 (by decide) ?_
                    refine kb_bipush (v := (6 : Int32)) X dX6_gifts_75 (by decide) ?_
                    refine kb_iload X 6 dX6_gifts_77 rfl ?_
                    refine kn_imul X 6 i dX6_gifts_79 ?_
                    refine kn_iadd X 10 (6 * i) dX6_gifts_80 ?_
                    refine kb_iload_n X 1 dX6_gifts_81 rfl rfl ?_
                    refine kn_iadd X (10 + (6 * i)) pj dX6_gifts_82 ?_
                    refine kb_iald (i := (10 + (6 * i)) + pj) X 5 rfl (by omega) (by decide) dX6_gifts_83 ?_
                    refine kw_top (b := .int (vT v (i * 6 + pj))) (congrArg Value.int (hE.t (p := i) (q := pj) (by omega) (by omega) (by omega))) ?_
                    obtain ⟨ht9_, hte_⟩ := tieN_e hT (k := i * 6 + pj) (by omega)
                    refine kw_top (b := .int (nI (tieN v (i * 6 + pj)) - 4)) (by rw [← hte_]) ?_
                    refine kb_istore X [1, 2, 3, 4, 5, 6, 7, 0] dX6_gifts_84 (by decide) (lv' := [(0, .ref (a 0)), (1, .int (nI (pj))), (2, .int (nI (sj))), (3, .int (b)), (4, .int (c)), (5, .int (nI (m_))), (6, .int (nI (i))), (7, .int (nI (tieN v (i * 6 + pj)) - 4))]) rfl ?_
                    refine kb_iconst (v := (0 : Int32)) X dX6_gifts_86 (by decide) ?_
                    refine kb_istore X [1, 2, 3, 4, 5, 6, 7, 8, 0] dX6_gifts_87 (by decide) (lv' := [(0, .ref (a 0)), (1, .int (nI (pj))), (2, .int (nI (sj))), (3, .int (b)), (4, .int (c)), (5, .int (nI (m_))), (6, .int (nI (i))), (7, .int (nI (tieN v (i * 6 + pj)) - 4)), (8, .int 0)]) rfl ?_
                    have L89 : ∀ (K_ k : Nat), tieN v (i * 6 + pj) + k + K_ = 10 ∧ (wLives v i = true → gF v i pj b c (10 - tieN v (i * 6 + pj)) 0 = gF v i pj b c K_ k) → kW x 0 0 89 [(0, .ref (a 0)), (1, .int (nI (pj))), (2, .int (nI (sj))), (3, .int (b)), (4, .int (c)), (5, .int (nI (m_))), (6, .int (nI (i))), (7, .int (nI (tieN v (i * 6 + pj)) - 4)), (8, .int (nI (k)))] [] (wR g a (vN v) so ag (vG v) np ns na nf sl ac ke le tx ap bg wr se wh wo bl ck sw ma ro bs) := by
                      intro K_
                      induction K_ with
                      | zero =>
                        intro k hh
                        obtain ⟨hk_, hg_⟩ := id hh
                        refine kb_iload X 7 dX6_gifts_89 rfl ?_
                        refine kb_iload X 8 dX6_gifts_91 rfl ?_
                        refine kb_iadd X dX6_gifts_93 ?_
                        refine kw_top (b := .int (nI (tieN v (i * 6 + pj) + k) - 4)) (by rw [gk_add (by omega) (by omega)]) ?_
                        refine kb_iconst (v := (5 : Int32)) X dX6_gifts_94 (by decide) ?_
                        refine kb_icmp_gt (tgt := 130) X dX6_gifts_95 (by decide) (fun c9_ => ?_) (fun c9_ => ?_)
                        · skip
                          have d_ := (gk_gt (tieN v (i * 6 + pj) + k) (by omega)).mp c9_
                          refine kb_iload X 7 dX6_gifts_130 rfl ?_
                          refine kb_iload X 8 dX6_gifts_132 rfl ?_
                          refine kb_iadd X dX6_gifts_134 ?_
                          refine kw_top (b := .int (nI (tieN v (i * 6 + pj) + k) - 4)) (by rw [gk_add (by omega) (by omega)]) ?_
                          refine kb_iconst (v := (5 : Int32)) X dX6_gifts_135 (by decide) ?_
                          refine kb_icmp_gt (tgt := 149) X dX6_gifts_136 (by decide) (fun c10_ => ?_) (fun c10_ => ?_)
                          · skip
                            have d2_ := (gk_gt (tieN v (i * 6 + pj) + k) (by omega)).mp c10_
                            refine kb_bipush (v := (-4 : Int32)) X dX6_gifts_149 (by decide) ?_
                            refine kb_goto (tgt := 159) X dX6_gifts_151 (by decide) ?_
                            refine kb_istore X [1, 2, 3, 4, 5, 0, 6, 7, 8] dX6_gifts_159 (by decide) (lv' := [(0, .ref (a 0)), (1, .int (nI (pj))), (2, .int (nI (sj))), (3, .int (b)), (4, .int (c)), (5, .int (-4)), (6, .int (nI (i))), (7, .int (nI (tieN v (i * 6 + pj)) - 4)), (8, .int (nI (k)))]) rfl ?_
                            refine kw_lvs [0, 1, 2, 3, 4, 5, 6] (lv' := [(0, .ref (a 0)), (1, .int (nI (pj))), (2, .int (nI (sj))), (3, .int (b)), (4, .int (c)), (5, .int (-4)), (6, .int (nI (i)))]) rfl ?_
                            refine kb_iinc X 6 [1, 2, 3, 4, 5, 6, 0] (v' := nI (i + 1)) dX6_gifts_161 rfl (nI_add _ _) (by decide) (lv' := [(0, .ref (a 0)), (1, .int (nI (pj))), (2, .int (nI (sj))), (3, .int (b)), (4, .int (c)), (5, .int (-4)), (6, .int (nI (i + 1)))]) rfl ?_
                            refine kb_goto (tgt := 46) X dX6_gifts_164 (by decide) ?_
                            exact kw_to (ih (i + 1) (by omega)) (by rw [gO_no hm_ cb_ (by cases hl : wLives v i with
                              | true => rw [hg_ hl]; rfl
                              | false => exact gF_dead v i pj b c hl _ _)] <;> rfl) rfl rfl
                          · skip
                            have d2_ := mt (gk_gt (tieN v (i * 6 + pj) + k) (by omega)).mpr c10_
                            omega
                        · skip
                          have d_ := mt (gk_gt (tieN v (i * 6 + pj) + k) (by omega)).mpr c9_
                          omega
                      | succ K_ ih2 =>
                        intro k hh
                        obtain ⟨hk_, hg_⟩ := id hh
                        refine kb_iload X 7 dX6_gifts_89 rfl ?_
                        refine kb_iload X 8 dX6_gifts_91 rfl ?_
                        refine kb_iadd X dX6_gifts_93 ?_
                        refine kw_top (b := .int (nI (tieN v (i * 6 + pj) + k) - 4)) (by rw [gk_add (by omega) (by omega)]) ?_
                        refine kb_iconst (v := (5 : Int32)) X dX6_gifts_94 (by decide) ?_
                        refine kb_icmp_gt (tgt := 130) X dX6_gifts_95 (by decide) (fun c11_ => ?_) (fun c11_ => ?_)
                        · skip
                          have d_ := (gk_gt (tieN v (i * 6 + pj) + k) (by omega)).mp c11_
                          omega
                        · skip
                          have d_ := mt (gk_gt (tieN v (i * 6 + pj) + k) (by omega)).mpr c11_
                          refine kb_aload_n X 0 dX6_gifts_98 rfl rfl ?_
                          refine kb_iconst (v := (0 : Int32)) X dX6_gifts_99 (by decide) ?_
                          refine kb_iload X 6 dX6_gifts_100 rfl ?_
                          refine kb_iload_n X 1 dX6_gifts_102 rfl rfl ?_
                          refine kb_aload_n X 0 dX6_gifts_103 rfl rfl ?_
                          refine kb_get (v := .ref (a 1)) (C := RX6) (T := TX6) (N := 25) (ci := 6) X kw_iX6 rfl 0 1 rfl (by decide) kf_X6_7 rfl rfl dX6_gifts_104 ?_
                          refine kb_iload X 6 dX6_gifts_107 rfl ?_
                          refine kb_iald (i := i) X 1 rfl (by omega) (by decide) dX6_gifts_109 ?_
                          refine kw_top (b := .int (vK v i)) (congrArg Value.int (hK.2.2 _ (by omega)).1) ?_
                          refine kb_iload X 7 dX6_gifts_110 rfl ?_
                          refine kb_iload X 8 dX6_gifts_112 rfl ?_
                          refine kb_iadd X dX6_gifts_114 ?_
                          refine kw_top (b := .int (nI (tieN v (i * 6 + pj) + k) - 4)) (by rw [gk_add (by omega) (by omega)]) ?_
                          refine kb_iload_n X 3 dX6_gifts_115 rfl rfl ?_
                          refine kb_iload X 4 dX6_gifts_116 rfl ?_
                          refine kc_Vi X (As := [.int 0, .int (nI (i)), .int (nI (pj)), .int (vK v i), .int (nI (tieN v (i * 6 + pj) + k) - 4), .int (b), .int (c)]) (rest := []) (wr := []) (ct_X6_likes l g a (vN v) so ag (vG v) np ns na nf sl ac ke le tx ap bg wr se wh wo bl ck sw ma ro bs 0 v (by omega) hE hK hv i pj (vK v i) (nI (tieN v (i * 6 + pj) + k) - 4) b c (by omega) (by omega)) dX6_gifts_118 rfl (kw_pall _) mc_X6_likes kl_X6_150 mi_X6_likes mv_X6_likes kn_X6 0 rfl rfl rfl (na := 7) (by decide +kernel) rfl ⟨Nat.le_of_ble_eq_true rfl, Nat.le_of_ble_eq_true rfl⟩ ⟨rfl, rfl⟩ ⟨Nat.le_of_ble_eq_true rfl, Nat.le_of_ble_eq_true rfl⟩ (Nat.le_of_ble_eq_true rfl) (fun r_ w_ hp_ => ?_)
                          obtain ⟨rfl, rfl⟩ := hp_
                          refine kw_ws (List.append_nil _) ?_
                          refine kz_if_ne (b := wLk v i (vK v i) (nI (tieN v (i * 6 + pj) + k) - 4) pj b c) (tgt := 130) X dX6_gifts_121 (by decide) (fun c12_ => ?_) (fun c12_ => ?_)
                          · skip
                            have ck_ := c12_
                            refine kb_iload X 7 dX6_gifts_130 rfl ?_
                            refine kb_iload X 8 dX6_gifts_132 rfl ?_
                            refine kb_iadd X dX6_gifts_134 ?_
                            refine kw_top (b := .int (nI (tieN v (i * 6 + pj) + k) - 4)) (by rw [gk_add (by omega) (by omega)]) ?_
                            refine kb_iconst (v := (5 : Int32)) X dX6_gifts_135 (by decide) ?_
                            refine kb_icmp_gt (tgt := 149) X dX6_gifts_136 (by decide) (fun c13_ => ?_) (fun c13_ => ?_)
                            · skip
                              have d2_ := (gk_gt (tieN v (i * 6 + pj) + k) (by omega)).mp c13_
                              omega
                            · skip
                              have d2_ := mt (gk_gt (tieN v (i * 6 + pj) + k) (by omega)).mpr c13_
                              refine kb_aload_n X 0 dX6_gifts_139 rfl rfl ?_
                              refine kb_iconst (v := (0 : Int32)) X dX6_gifts_140 (by decide) ?_
                              refine kb_iload X 6 dX6_gifts_141 rfl ?_
                              refine kc_Vi X (As := [.int 0, .int (nI (i))]) (rest := []) (wr := []) (ct_X6_isAlive l g a (vN v) so ag (vG v) np ns na nf sl ac ke le tx ap bg wr se wh wo bl ck sw ma ro bs 0 v (by omega) hE hK hv i (by omega)) dX6_gifts_143 rfl (kw_pall _) mc_X6_isAlive kl_X6_136 mi_X6_isAlive mv_X6_isAlive kn_X6 0 rfl rfl rfl (na := 2) (by decide +kernel) rfl ⟨Nat.le_of_ble_eq_true rfl, Nat.le_of_ble_eq_true rfl⟩ ⟨rfl, rfl⟩ ⟨Nat.le_of_ble_eq_true rfl, Nat.le_of_ble_eq_true rfl⟩ (Nat.le_of_ble_eq_true rfl) (fun r_ w_ hp_ => ?_)
                              obtain ⟨rfl, rfl⟩ := hp_
                              refine kw_ws (List.append_nil _) ?_
                              refine kz_if_ne (b := wLives v i) (tgt := 154) X dX6_gifts_146 (by decide) (fun c14_ => ?_) (fun c14_ => ?_)
                              · skip
                                have ca_ := c14_
                                refine kb_iload X 5 dX6_gifts_154 rfl ?_
                                refine kb_iload X 8 dX6_gifts_156 rfl ?_
                                refine kn_iadd X m_ k dX6_gifts_158 ?_
                                refine kb_istore X [1, 2, 3, 4, 5, 0, 6, 7, 8] dX6_gifts_159 (by decide) (lv' := [(0, .ref (a 0)), (1, .int (nI (pj))), (2, .int (nI (sj))), (3, .int (b)), (4, .int (c)), (5, .int (nI (m_ + k))), (6, .int (nI (i))), (7, .int (nI (tieN v (i * 6 + pj)) - 4)), (8, .int (nI (k)))]) rfl ?_
                                refine kw_lvs [0, 1, 2, 3, 4, 5, 6] (lv' := [(0, .ref (a 0)), (1, .int (nI (pj))), (2, .int (nI (sj))), (3, .int (b)), (4, .int (c)), (5, .int (nI (m_ + k))), (6, .int (nI (i)))]) rfl ?_
                                refine kb_iinc X 6 [1, 2, 3, 4, 5, 6, 0] (v' := nI (i + 1)) dX6_gifts_161 rfl (nI_add _ _) (by decide) (lv' := [(0, .ref (a 0)), (1, .int (nI (pj))), (2, .int (nI (sj))), (3, .int (b)), (4, .int (c)), (5, .int (nI (m_ + k))), (6, .int (nI (i + 1)))]) rfl ?_
                                refine kb_goto (tgt := 46) X dX6_gifts_164 (by decide) ?_
                                exact kw_to (ih (i + 1) (by omega)) (by rw [gO_in hm_ cb_ (show gF v i pj b c (10 - tieN v (i * 6 + pj)) 0 = some k by rw [hg_ ca_, gF, if_pos (by rw [wCome_lk, ca_, ck_]; rfl)])] <;> rfl) rfl rfl
                              · skip
                                have ca_ := c14_
                                refine kb_bipush (v := (-4 : Int32)) X dX6_gifts_149 (by decide) ?_
                                refine kb_goto (tgt := 159) X dX6_gifts_151 (by decide) ?_
                                refine kb_istore X [1, 2, 3, 4, 5, 0, 6, 7, 8] dX6_gifts_159 (by decide) (lv' := [(0, .ref (a 0)), (1, .int (nI (pj))), (2, .int (nI (sj))), (3, .int (b)), (4, .int (c)), (5, .int (-4)), (6, .int (nI (i))), (7, .int (nI (tieN v (i * 6 + pj)) - 4)), (8, .int (nI (k)))]) rfl ?_
                                refine kw_lvs [0, 1, 2, 3, 4, 5, 6] (lv' := [(0, .ref (a 0)), (1, .int (nI (pj))), (2, .int (nI (sj))), (3, .int (b)), (4, .int (c)), (5, .int (-4)), (6, .int (nI (i)))]) rfl ?_
                                refine kb_iinc X 6 [1, 2, 3, 4, 5, 6, 0] (v' := nI (i + 1)) dX6_gifts_161 rfl (nI_add _ _) (by decide) (lv' := [(0, .ref (a 0)), (1, .int (nI (pj))), (2, .int (nI (sj))), (3, .int (b)), (4, .int (c)), (5, .int (-4)), (6, .int (nI (i + 1)))]) rfl ?_
                                refine kb_goto (tgt := 46) X dX6_gifts_164 (by decide) ?_
                                exact kw_to (ih (i + 1) (by omega)) (by rw [gO_no hm_ cb_ (gF_dead v i pj b c ca_ _ _)] <;> rfl) rfl rfl
                          · skip
                            have ck_ := c12_
                            refine kb_iinc X 8 [1, 2, 3, 4, 5, 6, 7, 8, 0] (v' := nI (k + 1)) dX6_gifts_124 rfl (nI_add _ _) (by decide) (lv' := [(0, .ref (a 0)), (1, .int (nI (pj))), (2, .int (nI (sj))), (3, .int (b)), (4, .int (c)), (5, .int (nI (m_))), (6, .int (nI (i))), (7, .int (nI (tieN v (i * 6 + pj)) - 4)), (8, .int (nI (k + 1)))]) rfl ?_
                            refine kb_goto (tgt := 89) X dX6_gifts_127 (by decide) ?_
                            exact kw_to (ih2 (k + 1) ⟨by omega, fun hl => by rw [hg_ hl, gF, if_neg (by rw [wCome_lk, hl, ck_]; decide)]⟩) rfl rfl rfl
                    exact kw_to (L89 (10 - tieN v (i * 6 + pj)) 0 ⟨by omega, fun _ => rfl⟩) rfl rfl rfl
          exact kw_to (L46 (vN v) 0 (by omega)) rfl rfl rfl
        · skip
          refine kb_bipush (v := (-2 : Int32)) X dX6_gifts_37 (by decide) ?_
          refine ke_i X Z dX6_gifts_39 ?_
          exact ⟨by simp [oGifts, c1_, ePp, c2_, c3_, ePs, c4_], RWp.of hR⟩
      · skip
        refine kb_iconst (v := (-1 : Int32)) X dX6_gifts_26 (by decide) ?_
        refine ke_i X Z dX6_gifts_27 ?_
        exact ⟨by simp [oGifts, c1_, ePp, c2_, c3_], RWp.of hR⟩

set_option maxHeartbeats 4000000 in
set_option maxRecDepth 100000 in
theorem ct_X6_worth (l : Launch) (g : kw_G) (a : Nat → Nat) (pe : Nat) (so : Nat → Int32) (ag : Nat → Int32) (fr : Int32) (np : Nat) (ns : Nat → Int32) (na : Nat → Int32) (nf : Int32) (sl : Nat → Int32) (ac : Nat) (ke : Nat) (le : Nat) (tx : Nat → Nat) (ap : Nat) (bg : Nat) (wr : Bool) (se : Nat) (wh : Nat → Nat) (wo : Nat → Nat) (bl : Nat → Int32) (ck : Nat → Int32) (sw : Nat → Bool) (ma : Nat) (ro : Nat → Nat) (bs : Nat → Nat) (v : VS) (hE : EN sl 0 v) (hK : KE pe so ag fr v) (hv : VI v) (p q k : Nat) (f : Bool) (hp : p < vN v) (hq : q < vN v) (hk : k < 4) : kMi l g yX6_worth cX6_worth 5 .int (kw_rm 5 0 0) 0 0 [.ref (a 0), .int (nI (p)), .int (nI (q)), .int (nI (k)), .int (zI (f))] (wR g a pe so ag fr np ns na nf sl ac ke le tx ap bg wr se wh wo bl ck sw ma ro bs) (fun r w => r = mg v p q k f ∧ ∃ sl', FR sl sl' 902 ∧ w = wR g a pe so ag fr np ns na nf sl' ac ke le tx ap bg wr se wh wo bl ck sw ma ro bs) := by
  refine kMi_of (by decide +kernel) (Nat.le_of_ble_eq_true rfl) (fun x (X : kX l g RX6 cX6_worth 5 (kw_rm 5 0 0) x) (Z : kZi .int _ 0 0 x) => ?_)
  show kW x 0 0 0 [(0, .ref (a 0)), (1, .int (nI (p))), (2, .int (nI (q))), (3, .int (nI (k))), (4, .int (zI (f)))] [] (wR g a pe so ag fr np ns na nf sl ac ke le tx ap bg wr se wh wo bl ck sw ma ro bs)
  have h6 := hv.1
  have hpe := hK.1
  refine kb_aload_n X 0 dX6_worth_0 rfl rfl ?_
  refine kb_iconst (v := (0 : Int32)) X dX6_worth_1 (by decide) ?_
  refine kb_sipush (v := (902 : Int32)) X dX6_worth_2 (by decide) ?_
  refine kc_Vv X (As := [.int 0, .int 902]) (rest := []) (wr := []) (ct_X6_copies l g a pe so ag fr np ns na nf sl ac ke le tx ap bg wr se wh wo bl ck sw ma ro bs 0 902 (by omega) (by omega) (by omega)) dX6_worth_5 rfl (kw_pall _) mc_X6_copies kl_X6_119 mi_X6_copies mv_X6_copies kn_X6 0 rfl rfl rfl (na := 2) (by decide +kernel) rfl ⟨Nat.le_of_ble_eq_true rfl, Nat.le_of_ble_eq_true rfl⟩ ⟨rfl, rfl⟩ ⟨Nat.le_of_ble_eq_true rfl, Nat.le_of_ble_eq_true rfl⟩ (Nat.le_of_ble_eq_true rfl) (fun w_ hp_ => ?_)
  obtain ⟨sl1_, hC2_, rfl⟩ := hp_
  have hE3_ := hE.fr hC2_.2 (by omega)
  have hE4_ := hE.cp hC2_
  refine kw_ws (List.append_nil _) ?_
  refine kb_aload_n X 0 dX6_worth_8 rfl rfl ?_
  refine kb_sipush (v := (902 : Int32)) X dX6_worth_9 (by decide) ?_
  refine kb_iload_n X 1 dX6_worth_12 rfl rfl ?_
  refine kb_iload_n X 2 dX6_worth_13 rfl rfl ?_
  refine kb_iload_n X 3 dX6_worth_14 rfl rfl ?_
  refine kb_iconst (v := (2 : Int32)) X dX6_worth_15 (by decide) ?_
  refine kn_irem X k 2 (by omega) (by omega) (by omega) dX6_worth_16 ?_
  refine kb_iconst (v := (1 : Int32)) X dX6_worth_17 (by decide) ?_
  refine kn_icmp_ne (a := k % 2) (b := 1) (tgt := 25) X (by omega) (by omega) dX6_worth_18 (by decide) (fun c5_ => ?_) (fun c5_ => ?_)
  · skip
    refine kb_iconst (v := (0 : Int32)) X dX6_worth_25 (by decide) ?_
    refine kc_Vv X (As := [.int 902, .int (nI (p)), .int (nI (q)), .int 0]) (rest := []) (wr := []) (ct_X6_changes l g a pe so ag fr np ns na nf sl1_ ac ke le tx ap bg wr se wh wo bl ck sw ma ro bs 902 v (by omega) hE4_ hK hv p q false (by omega) hq) dX6_worth_26 rfl (kw_pall _) mc_X6_changes kl_X6_181 mi_X6_changes mv_X6_changes kn_X6 0 rfl rfl rfl (na := 4) (by decide +kernel) rfl ⟨Nat.le_of_ble_eq_true rfl, Nat.le_of_ble_eq_true rfl⟩ ⟨rfl, rfl⟩ ⟨Nat.le_of_ble_eq_true rfl, Nat.le_of_ble_eq_true rfl⟩ (Nat.le_of_ble_eq_true rfl) (fun w_ hp_ => ?_)
    obtain ⟨sl6_, hE7_, hF8_, rfl⟩ := hp_
    have hF9_ : FR sl sl6_ 902 := FR.tr (FR.tr FR.rf hC2_.2) hF8_
    have hE10_ := hE3_.fr hF8_ (by omega)
    refine kw_ws (List.append_nil _) ?_
    refine kb_aload_n X 0 dX6_worth_29 rfl rfl ?_
    refine kb_sipush (v := (902 : Int32)) X dX6_worth_30 (by decide) ?_
    refine kb_iload_n X 2 dX6_worth_33 rfl rfl ?_
    refine kb_iload_n X 1 dX6_worth_34 rfl rfl ?_
    refine kb_iload_n X 3 dX6_worth_35 rfl rfl ?_
    refine kb_iconst (v := (2 : Int32)) X dX6_worth_36 (by decide) ?_
    refine kn_idiv X k 2 (by omega) (by omega) (by omega) dX6_worth_37 ?_
    refine kb_iconst (v := (1 : Int32)) X dX6_worth_38 (by decide) ?_
    refine kn_icmp_ne (a := k / 2) (b := 1) (tgt := 46) X (by omega) (by omega) dX6_worth_39 (by decide) (fun c11_ => ?_) (fun c11_ => ?_)
    · skip
      refine kb_iconst (v := (0 : Int32)) X dX6_worth_46 (by decide) ?_
      refine kc_Vv X (As := [.int 902, .int (nI (q)), .int (nI (p)), .int 0]) (rest := []) (wr := []) (ct_X6_changes l g a pe so ag fr np ns na nf sl6_ ac ke le tx ap bg wr se wh wo bl ck sw ma ro bs 902 (wMeet v p q false) (by omega) hE7_ (hK.meet _ _ _) (VI_meet hv _ _ _) q p false (by omega) (lt_meet hp)) dX6_worth_47 rfl (kw_pall _) mc_X6_changes kl_X6_181 mi_X6_changes mv_X6_changes kn_X6 0 rfl rfl rfl (na := 4) (by decide +kernel) rfl ⟨Nat.le_of_ble_eq_true rfl, Nat.le_of_ble_eq_true rfl⟩ ⟨rfl, rfl⟩ ⟨Nat.le_of_ble_eq_true rfl, Nat.le_of_ble_eq_true rfl⟩ (Nat.le_of_ble_eq_true rfl) (fun w_ hp_ => ?_)
      obtain ⟨sl12_, hE13_, hF14_, rfl⟩ := hp_
      have hF15_ : FR sl sl12_ 902 := FR.tr hF9_ hF14_
      have hE16_ := hE10_.fr hF14_ (by omega)
      refine kw_ws (List.append_nil _) ?_
      refine kb_iload X 4 dX6_worth_50 rfl ?_
      refine kz_if_eq (b := f) (tgt := 86) X dX6_worth_52 (by decide) (fun c17_ => ?_) (fun c17_ => ?_)
      · skip
        refine kb_iconst (v := (3 : Int32)) X dX6_worth_86 (by decide) ?_
        refine kb_aload_n X 0 dX6_worth_87 rfl rfl ?_
        refine kb_get (v := .ref (a 5)) (C := RX6) (T := TX6) (N := 25) (ci := 6) X kw_iX6 rfl 0 8 rfl (by decide) kf_X6_22 rfl rfl dX6_worth_88 ?_
        refine kb_sipush (v := (912 : Int32)) X dX6_worth_91 (by decide) ?_
        refine kb_bipush (v := (6 : Int32)) X dX6_worth_94 (by decide) ?_
        refine kb_iload_n X 1 dX6_worth_96 rfl rfl ?_
        refine kn_imul X 6 p dX6_worth_97 ?_
        refine kn_iadd X 912 (6 * p) dX6_worth_98 ?_
        refine kb_iload_n X 2 dX6_worth_99 rfl rfl ?_
        refine kn_iadd X (912 + (6 * p)) q dX6_worth_100 ?_
        refine kb_iald (i := (912 + (6 * p)) + q) X 5 rfl (by omega) (by decide) dX6_worth_101 ?_
        refine kw_top (b := .int (vT (wMeet (wMeet v p q false) q p false) (p * 6 + q))) (congrArg Value.int (hE13_.t (p := p) (q := q) (by omega) (by omega) (by omega))) ?_
        refine kb_imul X dX6_worth_102 ?_
        refine kb_aload_n X 0 dX6_worth_103 rfl rfl ?_
        refine kb_get (v := .ref (a 5)) (C := RX6) (T := TX6) (N := 25) (ci := 6) X kw_iX6 rfl 0 8 rfl (by decide) kf_X6_22 rfl rfl dX6_worth_104 ?_
        refine kb_sipush (v := (902 : Int32)) X dX6_worth_107 (by decide) ?_
        refine kb_iload_n X 2 dX6_worth_110 rfl rfl ?_
        refine kn_iadd X 902 q dX6_worth_111 ?_
        refine kb_iald (i := 902 + q) X 5 rfl (by omega) (by decide) dX6_worth_112 ?_
        refine kw_top (b := .int (vC (wMeet (wMeet v p q false) q p false) q)) (congrArg Value.int (hE13_.c (p := q) (by omega) (by omega))) ?_
        refine kb_iadd X dX6_worth_113 ?_
        refine ke_i X Z dX6_worth_114 ?_
        exact ⟨by simp [mg, mW, wGain, c5_, c11_, c17_], sl12_, hF15_, rfl⟩
      · skip
        refine kb_iconst (v := (3 : Int32)) X dX6_worth_55 (by decide) ?_
        refine kb_aload_n X 0 dX6_worth_56 rfl rfl ?_
        refine kb_get (v := .ref (a 5)) (C := RX6) (T := TX6) (N := 25) (ci := 6) X kw_iX6 rfl 0 8 rfl (by decide) kf_X6_22 rfl rfl dX6_worth_57 ?_
        refine kb_sipush (v := (912 : Int32)) X dX6_worth_60 (by decide) ?_
        refine kb_bipush (v := (6 : Int32)) X dX6_worth_63 (by decide) ?_
        refine kb_iload_n X 2 dX6_worth_65 rfl rfl ?_
        refine kn_imul X 6 q dX6_worth_66 ?_
        refine kn_iadd X 912 (6 * q) dX6_worth_67 ?_
        refine kb_iload_n X 1 dX6_worth_68 rfl rfl ?_
        refine kn_iadd X (912 + (6 * q)) p dX6_worth_69 ?_
        refine kb_iald (i := (912 + (6 * q)) + p) X 5 rfl (by omega) (by decide) dX6_worth_70 ?_
        refine kw_top (b := .int (vT (wMeet (wMeet v p q false) q p false) (q * 6 + p))) (congrArg Value.int (hE13_.t (p := q) (q := p) (by omega) (by omega) (by omega))) ?_
        refine kb_imul X dX6_worth_71 ?_
        refine kb_aload_n X 0 dX6_worth_72 rfl rfl ?_
        refine kb_get (v := .ref (a 5)) (C := RX6) (T := TX6) (N := 25) (ci := 6) X kw_iX6 rfl 0 8 rfl (by decide) kf_X6_22 rfl rfl dX6_worth_73 ?_
        refine kb_sipush (v := (902 : Int32)) X dX6_worth_76 (by decide) ?_
        refine kb_iload_n X 1 dX6_worth_79 rfl rfl ?_
        refine kn_iadd X 902 p dX6_worth_80 ?_
        refine kb_iald (i := 902 + p) X 5 rfl (by omega) (by decide) dX6_worth_81 ?_
        refine kw_top (b := .int (vC (wMeet (wMeet v p q false) q p false) p)) (congrArg Value.int (hE13_.c (p := p) (by omega) (by omega))) ?_
        refine kb_iadd X dX6_worth_82 ?_
        refine kb_goto (tgt := 114) X dX6_worth_83 (by decide) ?_
        refine ke_i X Z dX6_worth_114 ?_
        exact ⟨by simp [mg, mW, wGain, c5_, c11_, c17_], sl12_, hF15_, rfl⟩
    · skip
      refine kb_iconst (v := (1 : Int32)) X dX6_worth_42 (by decide) ?_
      refine kb_goto (tgt := 47) X dX6_worth_43 (by decide) ?_
      refine kc_Vv X (As := [.int 902, .int (nI (q)), .int (nI (p)), .int 1]) (rest := []) (wr := []) (ct_X6_changes l g a pe so ag fr np ns na nf sl6_ ac ke le tx ap bg wr se wh wo bl ck sw ma ro bs 902 (wMeet v p q false) (by omega) hE7_ (hK.meet _ _ _) (VI_meet hv _ _ _) q p true (by omega) (lt_meet hp)) dX6_worth_47 rfl (kw_pall _) mc_X6_changes kl_X6_181 mi_X6_changes mv_X6_changes kn_X6 0 rfl rfl rfl (na := 4) (by decide +kernel) rfl ⟨Nat.le_of_ble_eq_true rfl, Nat.le_of_ble_eq_true rfl⟩ ⟨rfl, rfl⟩ ⟨Nat.le_of_ble_eq_true rfl, Nat.le_of_ble_eq_true rfl⟩ (Nat.le_of_ble_eq_true rfl) (fun w_ hp_ => ?_)
      obtain ⟨sl18_, hE19_, hF20_, rfl⟩ := hp_
      have hF21_ : FR sl sl18_ 902 := FR.tr hF9_ hF20_
      have hE22_ := hE10_.fr hF20_ (by omega)
      refine kw_ws (List.append_nil _) ?_
      refine kb_iload X 4 dX6_worth_50 rfl ?_
      refine kz_if_eq (b := f) (tgt := 86) X dX6_worth_52 (by decide) (fun c23_ => ?_) (fun c23_ => ?_)
      · skip
        refine kb_iconst (v := (3 : Int32)) X dX6_worth_86 (by decide) ?_
        refine kb_aload_n X 0 dX6_worth_87 rfl rfl ?_
        refine kb_get (v := .ref (a 5)) (C := RX6) (T := TX6) (N := 25) (ci := 6) X kw_iX6 rfl 0 8 rfl (by decide) kf_X6_22 rfl rfl dX6_worth_88 ?_
        refine kb_sipush (v := (912 : Int32)) X dX6_worth_91 (by decide) ?_
        refine kb_bipush (v := (6 : Int32)) X dX6_worth_94 (by decide) ?_
        refine kb_iload_n X 1 dX6_worth_96 rfl rfl ?_
        refine kn_imul X 6 p dX6_worth_97 ?_
        refine kn_iadd X 912 (6 * p) dX6_worth_98 ?_
        refine kb_iload_n X 2 dX6_worth_99 rfl rfl ?_
        refine kn_iadd X (912 + (6 * p)) q dX6_worth_100 ?_
        refine kb_iald (i := (912 + (6 * p)) + q) X 5 rfl (by omega) (by decide) dX6_worth_101 ?_
        refine kw_top (b := .int (vT (wMeet (wMeet v p q false) q p true) (p * 6 + q))) (congrArg Value.int (hE19_.t (p := p) (q := q) (by omega) (by omega) (by omega))) ?_
        refine kb_imul X dX6_worth_102 ?_
        refine kb_aload_n X 0 dX6_worth_103 rfl rfl ?_
        refine kb_get (v := .ref (a 5)) (C := RX6) (T := TX6) (N := 25) (ci := 6) X kw_iX6 rfl 0 8 rfl (by decide) kf_X6_22 rfl rfl dX6_worth_104 ?_
        refine kb_sipush (v := (902 : Int32)) X dX6_worth_107 (by decide) ?_
        refine kb_iload_n X 2 dX6_worth_110 rfl rfl ?_
        refine kn_iadd X 902 q dX6_worth_111 ?_
        refine kb_iald (i := 902 + q) X 5 rfl (by omega) (by decide) dX6_worth_112 ?_
        refine kw_top (b := .int (vC (wMeet (wMeet v p q false) q p true) q)) (congrArg Value.int (hE19_.c (p := q) (by omega) (by omega))) ?_
        refine kb_iadd X dX6_worth_113 ?_
        refine ke_i X Z dX6_worth_114 ?_
        exact ⟨by simp [mg, mW, wGain, c5_, c11_, c23_], sl18_, hF21_, rfl⟩
      · skip
        refine kb_iconst (v := (3 : Int32)) X dX6_worth_55 (by decide) ?_
        refine kb_aload_n X 0 dX6_worth_56 rfl rfl ?_
        refine kb_get (v := .ref (a 5)) (C := RX6) (T := TX6) (N := 25) (ci := 6) X kw_iX6 rfl 0 8 rfl (by decide) kf_X6_22 rfl rfl dX6_worth_57 ?_
        refine kb_sipush (v := (912 : Int32)) X dX6_worth_60 (by decide) ?_
        refine kb_bipush (v := (6 : Int32)) X dX6_worth_63 (by decide) ?_
        refine kb_iload_n X 2 dX6_worth_65 rfl rfl ?_
        refine kn_imul X 6 q dX6_worth_66 ?_
        refine kn_iadd X 912 (6 * q) dX6_worth_67 ?_
        refine kb_iload_n X 1 dX6_worth_68 rfl rfl ?_
        refine kn_iadd X (912 + (6 * q)) p dX6_worth_69 ?_
        refine kb_iald (i := (912 + (6 * q)) + p) X 5 rfl (by omega) (by decide) dX6_worth_70 ?_
        refine kw_top (b := .int (vT (wMeet (wMeet v p q false) q p true) (q * 6 + p))) (congrArg Value.int (hE19_.t (p := q) (q := p) (by omega) (by omega) (by omega))) ?_
        refine kb_imul X dX6_worth_71 ?_
        refine kb_aload_n X 0 dX6_worth_72 rfl rfl ?_
        refine kb_get (v := .ref (a 5)) (C := RX6) (T := TX6) (N := 25) (ci := 6) X kw_iX6 rfl 0 8 rfl (by decide) kf_X6_22 rfl rfl dX6_worth_73 ?_
        refine kb_sipush (v := (902 : Int32)) X dX6_worth_76 (by decide) ?_
        refine kb_iload_n X 1 dX6_worth_79 rfl rfl ?_
        refine kn_iadd X 902 p dX6_worth_80 ?_
        refine kb_iald (i := 902 + p) X 5 rfl (by omega) (by decide) dX6_worth_81 ?_
        refine kw_top (b := .int (vC (wMeet (wMeet v p q false) q p true) p)) (congrArg Value.int (hE19_.c (p := p) (by omega) (by omega))) ?_
        refine kb_iadd X dX6_worth_82 ?_
        refine kb_goto (tgt := 114) X dX6_worth_83 (by decide) ?_
        refine ke_i X Z dX6_worth_114 ?_
        exact ⟨by simp [mg, mW, wGain, c5_, c11_, c23_], sl18_, hF21_, rfl⟩
  · skip
    refine kb_iconst (v := (1 : Int32)) X dX6_worth_21 (by decide) ?_
    refine kb_goto (tgt := 26) X dX6_worth_22 (by decide) ?_
    refine kc_Vv X (As := [.int 902, .int (nI (p)), .int (nI (q)), .int 1]) (rest := []) (wr := []) (ct_X6_changes l g a pe so ag fr np ns na nf sl1_ ac ke le tx ap bg wr se wh wo bl ck sw ma ro bs 902 v (by omega) hE4_ hK hv p q true (by omega) hq) dX6_worth_26 rfl (kw_pall _) mc_X6_changes kl_X6_181 mi_X6_changes mv_X6_changes kn_X6 0 rfl rfl rfl (na := 4) (by decide +kernel) rfl ⟨Nat.le_of_ble_eq_true rfl, Nat.le_of_ble_eq_true rfl⟩ ⟨rfl, rfl⟩ ⟨Nat.le_of_ble_eq_true rfl, Nat.le_of_ble_eq_true rfl⟩ (Nat.le_of_ble_eq_true rfl) (fun w_ hp_ => ?_)
    obtain ⟨sl24_, hE25_, hF26_, rfl⟩ := hp_
    have hF27_ : FR sl sl24_ 902 := FR.tr (FR.tr FR.rf hC2_.2) hF26_
    have hE28_ := hE3_.fr hF26_ (by omega)
    refine kw_ws (List.append_nil _) ?_
    refine kb_aload_n X 0 dX6_worth_29 rfl rfl ?_
    refine kb_sipush (v := (902 : Int32)) X dX6_worth_30 (by decide) ?_
    refine kb_iload_n X 2 dX6_worth_33 rfl rfl ?_
    refine kb_iload_n X 1 dX6_worth_34 rfl rfl ?_
    refine kb_iload_n X 3 dX6_worth_35 rfl rfl ?_
    refine kb_iconst (v := (2 : Int32)) X dX6_worth_36 (by decide) ?_
    refine kn_idiv X k 2 (by omega) (by omega) (by omega) dX6_worth_37 ?_
    refine kb_iconst (v := (1 : Int32)) X dX6_worth_38 (by decide) ?_
    refine kn_icmp_ne (a := k / 2) (b := 1) (tgt := 46) X (by omega) (by omega) dX6_worth_39 (by decide) (fun c29_ => ?_) (fun c29_ => ?_)
    · skip
      refine kb_iconst (v := (0 : Int32)) X dX6_worth_46 (by decide) ?_
      refine kc_Vv X (As := [.int 902, .int (nI (q)), .int (nI (p)), .int 0]) (rest := []) (wr := []) (ct_X6_changes l g a pe so ag fr np ns na nf sl24_ ac ke le tx ap bg wr se wh wo bl ck sw ma ro bs 902 (wMeet v p q true) (by omega) hE25_ (hK.meet _ _ _) (VI_meet hv _ _ _) q p false (by omega) (lt_meet hp)) dX6_worth_47 rfl (kw_pall _) mc_X6_changes kl_X6_181 mi_X6_changes mv_X6_changes kn_X6 0 rfl rfl rfl (na := 4) (by decide +kernel) rfl ⟨Nat.le_of_ble_eq_true rfl, Nat.le_of_ble_eq_true rfl⟩ ⟨rfl, rfl⟩ ⟨Nat.le_of_ble_eq_true rfl, Nat.le_of_ble_eq_true rfl⟩ (Nat.le_of_ble_eq_true rfl) (fun w_ hp_ => ?_)
      obtain ⟨sl30_, hE31_, hF32_, rfl⟩ := hp_
      have hF33_ : FR sl sl30_ 902 := FR.tr hF27_ hF32_
      have hE34_ := hE28_.fr hF32_ (by omega)
      refine kw_ws (List.append_nil _) ?_
      refine kb_iload X 4 dX6_worth_50 rfl ?_
      refine kz_if_eq (b := f) (tgt := 86) X dX6_worth_52 (by decide) (fun c35_ => ?_) (fun c35_ => ?_)
      · skip
        refine kb_iconst (v := (3 : Int32)) X dX6_worth_86 (by decide) ?_
        refine kb_aload_n X 0 dX6_worth_87 rfl rfl ?_
        refine kb_get (v := .ref (a 5)) (C := RX6) (T := TX6) (N := 25) (ci := 6) X kw_iX6 rfl 0 8 rfl (by decide) kf_X6_22 rfl rfl dX6_worth_88 ?_
        refine kb_sipush (v := (912 : Int32)) X dX6_worth_91 (by decide) ?_
        refine kb_bipush (v := (6 : Int32)) X dX6_worth_94 (by decide) ?_
        refine kb_iload_n X 1 dX6_worth_96 rfl rfl ?_
        refine kn_imul X 6 p dX6_worth_97 ?_
        refine kn_iadd X 912 (6 * p) dX6_worth_98 ?_
        refine kb_iload_n X 2 dX6_worth_99 rfl rfl ?_
        refine kn_iadd X (912 + (6 * p)) q dX6_worth_100 ?_
        refine kb_iald (i := (912 + (6 * p)) + q) X 5 rfl (by omega) (by decide) dX6_worth_101 ?_
        refine kw_top (b := .int (vT (wMeet (wMeet v p q true) q p false) (p * 6 + q))) (congrArg Value.int (hE31_.t (p := p) (q := q) (by omega) (by omega) (by omega))) ?_
        refine kb_imul X dX6_worth_102 ?_
        refine kb_aload_n X 0 dX6_worth_103 rfl rfl ?_
        refine kb_get (v := .ref (a 5)) (C := RX6) (T := TX6) (N := 25) (ci := 6) X kw_iX6 rfl 0 8 rfl (by decide) kf_X6_22 rfl rfl dX6_worth_104 ?_
        refine kb_sipush (v := (902 : Int32)) X dX6_worth_107 (by decide) ?_
        refine kb_iload_n X 2 dX6_worth_110 rfl rfl ?_
        refine kn_iadd X 902 q dX6_worth_111 ?_
        refine kb_iald (i := 902 + q) X 5 rfl (by omega) (by decide) dX6_worth_112 ?_
        refine kw_top (b := .int (vC (wMeet (wMeet v p q true) q p false) q)) (congrArg Value.int (hE31_.c (p := q) (by omega) (by omega))) ?_
        refine kb_iadd X dX6_worth_113 ?_
        refine ke_i X Z dX6_worth_114 ?_
        exact ⟨by simp [mg, mW, wGain, c5_, c29_, c35_], sl30_, hF33_, rfl⟩
      · skip
        refine kb_iconst (v := (3 : Int32)) X dX6_worth_55 (by decide) ?_
        refine kb_aload_n X 0 dX6_worth_56 rfl rfl ?_
        refine kb_get (v := .ref (a 5)) (C := RX6) (T := TX6) (N := 25) (ci := 6) X kw_iX6 rfl 0 8 rfl (by decide) kf_X6_22 rfl rfl dX6_worth_57 ?_
        refine kb_sipush (v := (912 : Int32)) X dX6_worth_60 (by decide) ?_
        refine kb_bipush (v := (6 : Int32)) X dX6_worth_63 (by decide) ?_
        refine kb_iload_n X 2 dX6_worth_65 rfl rfl ?_
        refine kn_imul X 6 q dX6_worth_66 ?_
        refine kn_iadd X 912 (6 * q) dX6_worth_67 ?_
        refine kb_iload_n X 1 dX6_worth_68 rfl rfl ?_
        refine kn_iadd X (912 + (6 * q)) p dX6_worth_69 ?_
        refine kb_iald (i := (912 + (6 * q)) + p) X 5 rfl (by omega) (by decide) dX6_worth_70 ?_
        refine kw_top (b := .int (vT (wMeet (wMeet v p q true) q p false) (q * 6 + p))) (congrArg Value.int (hE31_.t (p := q) (q := p) (by omega) (by omega) (by omega))) ?_
        refine kb_imul X dX6_worth_71 ?_
        refine kb_aload_n X 0 dX6_worth_72 rfl rfl ?_
        refine kb_get (v := .ref (a 5)) (C := RX6) (T := TX6) (N := 25) (ci := 6) X kw_iX6 rfl 0 8 rfl (by decide) kf_X6_22 rfl rfl dX6_worth_73 ?_
        refine kb_sipush (v := (902 : Int32)) X dX6_worth_76 (by decide) ?_
        refine kb_iload_n X 1 dX6_worth_79 rfl rfl ?_
        refine kn_iadd X 902 p dX6_worth_80 ?_
        refine kb_iald (i := 902 + p) X 5 rfl (by omega) (by decide) dX6_worth_81 ?_
        refine kw_top (b := .int (vC (wMeet (wMeet v p q true) q p false) p)) (congrArg Value.int (hE31_.c (p := p) (by omega) (by omega))) ?_
        refine kb_iadd X dX6_worth_82 ?_
        refine kb_goto (tgt := 114) X dX6_worth_83 (by decide) ?_
        refine ke_i X Z dX6_worth_114 ?_
        exact ⟨by simp [mg, mW, wGain, c5_, c29_, c35_], sl30_, hF33_, rfl⟩
    · skip
      refine kb_iconst (v := (1 : Int32)) X dX6_worth_42 (by decide) ?_
      refine kb_goto (tgt := 47) X dX6_worth_43 (by decide) ?_
      refine kc_Vv X (As := [.int 902, .int (nI (q)), .int (nI (p)), .int 1]) (rest := []) (wr := []) (ct_X6_changes l g a pe so ag fr np ns na nf sl24_ ac ke le tx ap bg wr se wh wo bl ck sw ma ro bs 902 (wMeet v p q true) (by omega) hE25_ (hK.meet _ _ _) (VI_meet hv _ _ _) q p true (by omega) (lt_meet hp)) dX6_worth_47 rfl (kw_pall _) mc_X6_changes kl_X6_181 mi_X6_changes mv_X6_changes kn_X6 0 rfl rfl rfl (na := 4) (by decide +kernel) rfl ⟨Nat.le_of_ble_eq_true rfl, Nat.le_of_ble_eq_true rfl⟩ ⟨rfl, rfl⟩ ⟨Nat.le_of_ble_eq_true rfl, Nat.le_of_ble_eq_true rfl⟩ (Nat.le_of_ble_eq_true rfl) (fun w_ hp_ => ?_)
      obtain ⟨sl36_, hE37_, hF38_, rfl⟩ := hp_
      have hF39_ : FR sl sl36_ 902 := FR.tr hF27_ hF38_
      have hE40_ := hE28_.fr hF38_ (by omega)
      refine kw_ws (List.append_nil _) ?_
      refine kb_iload X 4 dX6_worth_50 rfl ?_
      refine kz_if_eq (b := f) (tgt := 86) X dX6_worth_52 (by decide) (fun c41_ => ?_) (fun c41_ => ?_)
      · skip
        refine kb_iconst (v := (3 : Int32)) X dX6_worth_86 (by decide) ?_
        refine kb_aload_n X 0 dX6_worth_87 rfl rfl ?_
        refine kb_get (v := .ref (a 5)) (C := RX6) (T := TX6) (N := 25) (ci := 6) X kw_iX6 rfl 0 8 rfl (by decide) kf_X6_22 rfl rfl dX6_worth_88 ?_
        refine kb_sipush (v := (912 : Int32)) X dX6_worth_91 (by decide) ?_
        refine kb_bipush (v := (6 : Int32)) X dX6_worth_94 (by decide) ?_
        refine kb_iload_n X 1 dX6_worth_96 rfl rfl ?_
        refine kn_imul X 6 p dX6_worth_97 ?_
        refine kn_iadd X 912 (6 * p) dX6_worth_98 ?_
        refine kb_iload_n X 2 dX6_worth_99 rfl rfl ?_
        refine kn_iadd X (912 + (6 * p)) q dX6_worth_100 ?_
        refine kb_iald (i := (912 + (6 * p)) + q) X 5 rfl (by omega) (by decide) dX6_worth_101 ?_
        refine kw_top (b := .int (vT (wMeet (wMeet v p q true) q p true) (p * 6 + q))) (congrArg Value.int (hE37_.t (p := p) (q := q) (by omega) (by omega) (by omega))) ?_
        refine kb_imul X dX6_worth_102 ?_
        refine kb_aload_n X 0 dX6_worth_103 rfl rfl ?_
        refine kb_get (v := .ref (a 5)) (C := RX6) (T := TX6) (N := 25) (ci := 6) X kw_iX6 rfl 0 8 rfl (by decide) kf_X6_22 rfl rfl dX6_worth_104 ?_
        refine kb_sipush (v := (902 : Int32)) X dX6_worth_107 (by decide) ?_
        refine kb_iload_n X 2 dX6_worth_110 rfl rfl ?_
        refine kn_iadd X 902 q dX6_worth_111 ?_
        refine kb_iald (i := 902 + q) X 5 rfl (by omega) (by decide) dX6_worth_112 ?_
        refine kw_top (b := .int (vC (wMeet (wMeet v p q true) q p true) q)) (congrArg Value.int (hE37_.c (p := q) (by omega) (by omega))) ?_
        refine kb_iadd X dX6_worth_113 ?_
        refine ke_i X Z dX6_worth_114 ?_
        exact ⟨by simp [mg, mW, wGain, c5_, c29_, c41_], sl36_, hF39_, rfl⟩
      · skip
        refine kb_iconst (v := (3 : Int32)) X dX6_worth_55 (by decide) ?_
        refine kb_aload_n X 0 dX6_worth_56 rfl rfl ?_
        refine kb_get (v := .ref (a 5)) (C := RX6) (T := TX6) (N := 25) (ci := 6) X kw_iX6 rfl 0 8 rfl (by decide) kf_X6_22 rfl rfl dX6_worth_57 ?_
        refine kb_sipush (v := (912 : Int32)) X dX6_worth_60 (by decide) ?_
        refine kb_bipush (v := (6 : Int32)) X dX6_worth_63 (by decide) ?_
        refine kb_iload_n X 2 dX6_worth_65 rfl rfl ?_
        refine kn_imul X 6 q dX6_worth_66 ?_
        refine kn_iadd X 912 (6 * q) dX6_worth_67 ?_
        refine kb_iload_n X 1 dX6_worth_68 rfl rfl ?_
        refine kn_iadd X (912 + (6 * q)) p dX6_worth_69 ?_
        refine kb_iald (i := (912 + (6 * q)) + p) X 5 rfl (by omega) (by decide) dX6_worth_70 ?_
        refine kw_top (b := .int (vT (wMeet (wMeet v p q true) q p true) (q * 6 + p))) (congrArg Value.int (hE37_.t (p := q) (q := p) (by omega) (by omega) (by omega))) ?_
        refine kb_imul X dX6_worth_71 ?_
        refine kb_aload_n X 0 dX6_worth_72 rfl rfl ?_
        refine kb_get (v := .ref (a 5)) (C := RX6) (T := TX6) (N := 25) (ci := 6) X kw_iX6 rfl 0 8 rfl (by decide) kf_X6_22 rfl rfl dX6_worth_73 ?_
        refine kb_sipush (v := (902 : Int32)) X dX6_worth_76 (by decide) ?_
        refine kb_iload_n X 1 dX6_worth_79 rfl rfl ?_
        refine kn_iadd X 902 p dX6_worth_80 ?_
        refine kb_iald (i := 902 + p) X 5 rfl (by omega) (by decide) dX6_worth_81 ?_
        refine kw_top (b := .int (vC (wMeet (wMeet v p q true) q p true) p)) (congrArg Value.int (hE37_.c (p := p) (by omega) (by omega))) ?_
        refine kb_iadd X dX6_worth_82 ?_
        refine kb_goto (tgt := 114) X dX6_worth_83 (by decide) ?_
        refine ke_i X Z dX6_worth_114 ?_
        exact ⟨by simp [mg, mW, wGain, c5_, c29_, c41_], sl36_, hF39_, rfl⟩

set_option maxHeartbeats 4000000 in
set_option maxRecDepth 100000 in
theorem ct_X6_mutual (l : Launch) (g : kw_G) (a : Nat → Nat) (so : Nat → Int32) (ag : Nat → Int32) (np : Nat) (ns : Nat → Int32) (na : Nat → Int32) (nf : Int32) (sl : Nat → Int32) (ac : Nat) (ke : Nat) (le : Nat) (tx : Nat → Nat) (ap : Nat) (bg : Nat) (wr : Bool) (se : Nat) (wh : Nat → Nat) (wo : Nat → Nat) (bl : Nat → Int32) (ck : Nat → Int32) (sw : Nat → Bool) (ma : Nat) (ro : Nat → Nat) (bs : Nat → Nat) (v : VS) (us ks : List VS) (tf : Nat → Nat) (tn : Nat) (s : SS) (hR : RI (vN v) so ag (vG v) sl ac ke le tx se wh wo bl ck sw v us ks tf tn s) (i j m : Int32) : kMi l g yX6_mutual cX6_mutual 8 .int (kw_rm 6 0 0) 0 0 [.ref (a 0), .int (i), .int (j), .int (m)] (wR g a (vN v) so ag (vG v) np ns na nf sl ac ke le tx ap bg wr se wh wo bl ck sw ma ro bs) (fun r w => r = oMut v i j m ∧ RWp g a v us ks tf tn s w) := by
  refine kMi_of (by decide +kernel) (Nat.le_of_ble_eq_true rfl) (fun x (X : kX l g RX6 cX6_mutual 8 (kw_rm 6 0 0) x) (Z : kZi .int _ 0 0 x) => ?_)
  show kW x 0 0 0 [(0, .ref (a 0)), (1, .int (i)), (2, .int (j)), (3, .int (m))] [] (wR g a (vN v) so ag (vG v) np ns na nf sl ac ke le tx ap bg wr se wh wo bl ck sw ma ro bs)
  have hE := hR.1
  have hG := hR.2.1
  have hK := hR.2.1.1
  have hv := hR.2.1.2.1
  have hT := hR.2.1.2.2.1
  have hN0 := hR.2.1.2.2.2
  have h6 := hv.1
  have hx64 := hv.2.1
  have hh64 := hv.2.2
  refine kb_aload_n X 0 dX6_mutual_0 rfl rfl ?_
  refine kb_iload_n X 1 dX6_mutual_1 rfl rfl ?_
  refine kb_iload_n X 2 dX6_mutual_2 rfl rfl ?_
  refine kc_Vi X (As := [.int (i), .int (j)]) (rest := []) (wr := []) (ct_X6_areTwo l g a (vN v) so ag (vG v) np ns na nf sl ac ke le tx ap bg wr se wh wo bl ck sw ma ro bs i j (by omega)) dX6_mutual_3 rfl (kw_pall _) mc_X6_areTwo kl_X6_147 mi_X6_areTwo mv_X6_areTwo kn_X6 0 rfl rfl rfl (na := 2) (by decide +kernel) rfl ⟨Nat.le_of_ble_eq_true rfl, Nat.le_of_ble_eq_true rfl⟩ ⟨rfl, rfl⟩ ⟨Nat.le_of_ble_eq_true rfl, Nat.le_of_ble_eq_true rfl⟩ (Nat.le_of_ble_eq_true rfl) (fun r_ w_ hp_ => ?_)
  obtain ⟨rfl, rfl⟩ := hp_
  refine kw_ws (List.append_nil _) ?_
  refine kz_if_eq (b := two i j (vN v)) (tgt := 19) X dX6_mutual_6 (by decide) (fun c1_ => ?_) (fun c1_ => ?_)
  · skip
    refine kb_iconst (v := (-1 : Int32)) X dX6_mutual_19 (by decide) ?_
    refine ke_i X Z dX6_mutual_20 ?_
    exact ⟨by simp [oMut, c1_], RWp.of hR⟩
  · skip
    obtain ⟨ij, jj, hij, hjj, hne, eij, ejj, ePi, ePj⟩ := two_j h6 c1_
    refine kw_lv (lv' := [(0, .ref (a 0)), (1, .int (nI (ij))), (2, .int (j)), (3, .int (m))]) (by rw [eij]) ?_
    refine kw_lv (lv' := [(0, .ref (a 0)), (1, .int (nI (ij))), (2, .int (nI (jj))), (3, .int (m))]) (by rw [ejj]) ?_
    refine kb_iload_n X 3 dX6_mutual_9 rfl rfl ?_
    refine kb_i2l (v := m.toInt64) X dX6_mutual_10 rfl ?_
    refine kb_lconst (v := 0) X dX6_mutual_11 (by decide) ?_
    refine kb_lconst (v := 1) X dX6_mutual_12 (by decide) ?_
    refine kc_Si X (As := [.long (m.toInt64), .long ((0 : Int64)), .long ((1 : Int64))]) (rest := []) (wr := (wR g a (vN v) so ag (vG v) np ns na nf sl ac ke le tx ap bg wr se wh wo bl ck sw ma ro bs)) (ct_X6_in l g m.toInt64 (0 : Int64) (1 : Int64)) dX6_mutual_13 rfl (List.Perm.refl _) mc_X6_in kl_X6_71 ms_X6_in kn_X6 (na := 3) (by decide +kernel) rfl ⟨Nat.le_of_ble_eq_true rfl, Nat.le_of_ble_eq_true rfl⟩ ⟨rfl, rfl⟩ ⟨Nat.le_of_ble_eq_true rfl, Nat.le_of_ble_eq_true rfl⟩ (Nat.le_of_ble_eq_true rfl) (fun r_ w_ hp_ => ?_)
    obtain ⟨rfl, rfl⟩ := hp_
    refine kw_ws (List.nil_append _) ?_
    refine kw_top (b := .int (zI (inr m (0 : Int32) (1 : Int32)))) (congrArg (fun q => Value.int (zI q)) (lin_c (by decide) (by decide))) ?_
    refine kz_if_ne (b := inr m (0 : Int32) (1 : Int32)) (tgt := 21) X dX6_mutual_16 (by decide) (fun c2_ => ?_) (fun c2_ => ?_)
    · skip
      refine kb_aload_n X 0 dX6_mutual_21 rfl rfl ?_
      refine kb_iconst (v := (0 : Int32)) X dX6_mutual_22 (by decide) ?_
      refine kb_iload_n X 1 dX6_mutual_23 rfl rfl ?_
      refine kc_Vi X (As := [.int 0, .int (nI (ij))]) (rest := []) (wr := []) (ct_X6_isAlive l g a (vN v) so ag (vG v) np ns na nf sl ac ke le tx ap bg wr se wh wo bl ck sw ma ro bs 0 v (by omega) hE hK hv ij (by omega)) dX6_mutual_24 rfl (kw_pall _) mc_X6_isAlive kl_X6_136 mi_X6_isAlive mv_X6_isAlive kn_X6 0 rfl rfl rfl (na := 2) (by decide +kernel) rfl ⟨Nat.le_of_ble_eq_true rfl, Nat.le_of_ble_eq_true rfl⟩ ⟨rfl, rfl⟩ ⟨Nat.le_of_ble_eq_true rfl, Nat.le_of_ble_eq_true rfl⟩ (Nat.le_of_ble_eq_true rfl) (fun r_ w_ hp_ => ?_)
      obtain ⟨rfl, rfl⟩ := hp_
      refine kw_ws (List.append_nil _) ?_
      refine kz_if_eq (b := wLives v ij) (tgt := 39) X dX6_mutual_27 (by decide) (fun c3_ => ?_) (fun c3_ => ?_)
      · skip
        refine kb_bipush (v := (-2 : Int32)) X dX6_mutual_39 (by decide) ?_
        refine ke_i X Z dX6_mutual_41 ?_
        exact ⟨by simp [oMut, c1_, ePi, ePj, c2_, c3_], RWp.of hR⟩
      · skip
        refine kb_aload_n X 0 dX6_mutual_30 rfl rfl ?_
        refine kb_iconst (v := (0 : Int32)) X dX6_mutual_31 (by decide) ?_
        refine kb_iload_n X 2 dX6_mutual_32 rfl rfl ?_
        refine kc_Vi X (As := [.int 0, .int (nI (jj))]) (rest := []) (wr := []) (ct_X6_isAlive l g a (vN v) so ag (vG v) np ns na nf sl ac ke le tx ap bg wr se wh wo bl ck sw ma ro bs 0 v (by omega) hE hK hv jj (by omega)) dX6_mutual_33 rfl (kw_pall _) mc_X6_isAlive kl_X6_136 mi_X6_isAlive mv_X6_isAlive kn_X6 0 rfl rfl rfl (na := 2) (by decide +kernel) rfl ⟨Nat.le_of_ble_eq_true rfl, Nat.le_of_ble_eq_true rfl⟩ ⟨rfl, rfl⟩ ⟨Nat.le_of_ble_eq_true rfl, Nat.le_of_ble_eq_true rfl⟩ (Nat.le_of_ble_eq_true rfl) (fun r_ w_ hp_ => ?_)
        obtain ⟨rfl, rfl⟩ := hp_
        refine kw_ws (List.append_nil _) ?_
        refine kz_if_ne (b := wLives v jj) (tgt := 42) X dX6_mutual_36 (by decide) (fun c4_ => ?_) (fun c4_ => ?_)
        · skip
          refine kb_iconst (v := (0 : Int32)) X dX6_mutual_42 (by decide) ?_
          refine kb_istore X [1, 2, 3, 4, 0] dX6_mutual_43 (by decide) (lv' := [(0, .ref (a 0)), (1, .int (nI (ij))), (2, .int (nI (jj))), (3, .int (m)), (4, .int 0)]) rfl ?_
          refine kb_bipush (v := (-4 : Int32)) X dX6_mutual_45 (by decide) ?_
          refine kb_istore X [1, 2, 3, 4, 5, 0] dX6_mutual_47 (by decide) (lv' := [(0, .ref (a 0)), (1, .int (nI (ij))), (2, .int (nI (jj))), (3, .int (m)), (4, .int 0), (5, .int (-4))]) rfl ?_
          refine kb_iconst (v := (0 : Int32)) X dX6_mutual_49 (by decide) ?_
          refine kb_istore X [1, 2, 3, 4, 5, 6, 0] dX6_mutual_50 (by decide) (lv' := [(0, .ref (a 0)), (1, .int (nI (ij))), (2, .int (nI (jj))), (3, .int (m)), (4, .int 0), (5, .int (-4)), (6, .int 0)]) rfl ?_
          have L52 : ∀ (K_ k : Nat) (z : Nat → Int32), k + K_ = 4 ∧ FR sl z 902 → kW x 0 0 52 [(0, .ref (a 0)), (1, .int (nI (ij))), (2, .int (nI (jj))), (3, .int (m)), (4, .int (nI (mN v ij jj k))), (5, .int (mF v ij jj k)), (6, .int (nI (k)))] [] (wR g a (vN v) so ag (vG v) np ns na nf z ac ke le tx ap bg wr se wh wo bl ck sw ma ro bs) := by
            intro K_
            induction K_ with
            | zero =>
              intro k z hh
              obtain ⟨hk_, hFz⟩ := id hh
              have hz := hE.fr hFz (by omega)
              have hx_ := xor_lt k
              have hn_ := mN_le v ij jj k
              refine kb_iload X 6 dX6_mutual_52 rfl ?_
              refine kb_iconst (v := (4 : Int32)) X dX6_mutual_54 (by decide) ?_
              refine kn_icmp_ge (a := k) (b := 4) (tgt := 151) X (by omega) (by omega) dX6_mutual_55 (by decide) (fun c5_ => ?_) (fun c5_ => ?_)
              · skip
                refine kb_iload_n X 3 dX6_mutual_151 rfl rfl ?_
                refine kb_if_ne (tgt := 160) X dX6_mutual_152 (by decide) (fun c6_ => ?_) (fun c6_ => ?_)
                · skip
                  refine kb_iload X 5 dX6_mutual_160 rfl ?_
                  refine ke_i X Z dX6_mutual_162 ?_
                  have e4_ : k = 4 := by omega
                  subst e4_
                  exact ⟨by simp [oMut, c1_, ePi, ePj, c2_, c3_, c4_, c5_, c6_, (by decide : inr 0 0 1 = true), (by decide : inr 1 0 1 = true)], RWp.of (hR.try hFz)⟩
                · skip
                  refine kb_iload X 4 dX6_mutual_155 rfl ?_
                  refine kb_goto (tgt := 162) X dX6_mutual_157 (by decide) ?_
                  refine ke_i X Z dX6_mutual_162 ?_
                  have e4_ : k = 4 := by omega
                  subst e4_
                  exact ⟨by simp [oMut, c1_, ePi, ePj, c2_, c3_, c4_, c5_, c6_, (by decide : inr 0 0 1 = true), (by decide : inr 1 0 1 = true)], RWp.of (hR.try hFz)⟩
              · skip
                have hx2_ := hx_ c5_
                omega
            | succ K_ ih =>
              intro k z hh
              obtain ⟨hk_, hFz⟩ := id hh
              have hz := hE.fr hFz (by omega)
              have hx_ := xor_lt k
              have hn_ := mN_le v ij jj k
              refine kb_iload X 6 dX6_mutual_52 rfl ?_
              refine kb_iconst (v := (4 : Int32)) X dX6_mutual_54 (by decide) ?_
              refine kn_icmp_ge (a := k) (b := 4) (tgt := 151) X (by omega) (by omega) dX6_mutual_55 (by decide) (fun c7_ => ?_) (fun c7_ => ?_)
              · skip
                omega
              · skip
                have hx2_ := hx_ c7_
                refine kb_aload_n X 0 dX6_mutual_58 rfl rfl ?_
                refine kb_iload_n X 1 dX6_mutual_59 rfl rfl ?_
                refine kb_iload_n X 2 dX6_mutual_60 rfl rfl ?_
                refine kb_iload X 6 dX6_mutual_61 rfl ?_
                refine kb_iconst (v := (1 : Int32)) X dX6_mutual_63 (by decide) ?_
                refine kc_Vi X (As := [.int (nI (ij)), .int (nI (jj)), .int (nI (k)), .int 1]) (rest := []) (wr := []) (ct_X6_worth l g a (vN v) so ag (vG v) np ns na nf z ac ke le tx ap bg wr se wh wo bl ck sw ma ro bs v hz hK hv ij jj k true (by omega) (by omega) (by omega)) dX6_mutual_64 rfl (kw_pall _) mc_X6_worth kl_X6_230 mi_X6_worth mv_X6_worth kn_X6 0 rfl rfl rfl (na := 4) (by decide +kernel) rfl ⟨Nat.le_of_ble_eq_true rfl, Nat.le_of_ble_eq_true rfl⟩ ⟨rfl, rfl⟩ ⟨Nat.le_of_ble_eq_true rfl, Nat.le_of_ble_eq_true rfl⟩ (Nat.le_of_ble_eq_true rfl) (fun r_ w_ hp_ => ?_)
                obtain ⟨rfl, sl8_, hF9_, rfl⟩ := hp_
                have hE10_ := hz.fr hF9_ (by omega)
                have hF11_ : FR sl sl8_ 902 := FR.tr hFz hF9_
                refine kw_ws (List.append_nil _) ?_
                refine kb_aload_n X 0 dX6_mutual_67 rfl rfl ?_
                refine kb_iload_n X 1 dX6_mutual_68 rfl rfl ?_
                refine kb_iload_n X 2 dX6_mutual_69 rfl rfl ?_
                refine kb_iload X 6 dX6_mutual_70 rfl ?_
                refine kb_iconst (v := (2 : Int32)) X dX6_mutual_72 (by decide) ?_
                refine kb_ixor X dX6_mutual_73 ?_
                refine kw_top (b := .int (nI (k ^^^ 2))) (by rw [show (2 : Int32) = nI 2 from rfl, xor_nI k (by omega) 2 (by decide)]) ?_
                refine kb_iconst (v := (1 : Int32)) X dX6_mutual_74 (by decide) ?_
                refine kc_Vi X (As := [.int (nI (ij)), .int (nI (jj)), .int (nI (k ^^^ 2)), .int 1]) (rest := [.int (mg v ij jj k true)]) (wr := []) (ct_X6_worth l g a (vN v) so ag (vG v) np ns na nf sl8_ ac ke le tx ap bg wr se wh wo bl ck sw ma ro bs v hE10_ hK hv ij jj (k ^^^ 2) true (by omega) (by omega) (by omega)) dX6_mutual_75 rfl (kw_pall _) mc_X6_worth kl_X6_230 mi_X6_worth mv_X6_worth kn_X6 0 rfl rfl rfl (na := 4) (by decide +kernel) rfl ⟨Nat.le_of_ble_eq_true rfl, Nat.le_of_ble_eq_true rfl⟩ ⟨rfl, rfl⟩ ⟨Nat.le_of_ble_eq_true rfl, Nat.le_of_ble_eq_true rfl⟩ (Nat.le_of_ble_eq_true rfl) (fun r_ w_ hp_ => ?_)
                obtain ⟨rfl, sl12_, hF13_, rfl⟩ := hp_
                have hE14_ := hE10_.fr hF13_ (by omega)
                have hF15_ : FR sl sl12_ 902 := FR.tr hF11_ hF13_
                refine kw_ws (List.append_nil _) ?_
                refine kb_icmp_lt (tgt := 108) X dX6_mutual_78 (by decide) (fun c16_ => ?_) (fun c16_ => ?_)
                · skip
                  refine kb_iconst (v := (0 : Int32)) X dX6_mutual_108 (by decide) ?_
                  refine kb_istore X [1, 2, 3, 4, 5, 6, 7, 0] dX6_mutual_109 (by decide) (lv' := [(0, .ref (a 0)), (1, .int (nI (ij))), (2, .int (nI (jj))), (3, .int (m)), (4, .int (nI (mN v ij jj k))), (5, .int (mF v ij jj k)), (6, .int (nI (k))), (7, .int 0)]) rfl ?_
                  refine kb_iload X 7 dX6_mutual_111 rfl ?_
                  refine kb_if_eq (tgt := 126) X dX6_mutual_113 (by decide) (fun _ => ?_) (fun q_ => absurd q_ (by decide))
                  refine kb_iload X 5 dX6_mutual_126 rfl ?_
                  refine kb_istore X [1, 2, 3, 4, 5, 0, 6, 7] dX6_mutual_128 (by decide) (lv' := [(0, .ref (a 0)), (1, .int (nI (ij))), (2, .int (nI (jj))), (3, .int (m)), (4, .int (nI (mN v ij jj k))), (5, .int (mF v ij jj k)), (6, .int (nI (k))), (7, .int 0)]) rfl ?_
                  refine kb_iload X 4 dX6_mutual_130 rfl ?_
                  refine kb_iload X 7 dX6_mutual_132 rfl ?_
                  refine kb_if_eq (tgt := 141) X dX6_mutual_134 (by decide) (fun _ => ?_) (fun q_ => absurd q_ (by decide))
                  refine kb_iconst (v := (0 : Int32)) X dX6_mutual_141 (by decide) ?_
                  refine kn_iadd X (mN v ij jj k) 0 dX6_mutual_142 ?_
                  refine kb_istore X [1, 2, 3, 4, 0, 5, 6, 7] dX6_mutual_143 (by decide) (lv' := [(0, .ref (a 0)), (1, .int (nI (ij))), (2, .int (nI (jj))), (3, .int (m)), (4, .int (nI ((mN v ij jj k) + 0))), (5, .int (mF v ij jj k)), (6, .int (nI (k))), (7, .int 0)]) rfl ?_
                  refine kw_lvs [0, 1, 2, 3, 4, 5, 6] (lv' := [(0, .ref (a 0)), (1, .int (nI (ij))), (2, .int (nI (jj))), (3, .int (m)), (4, .int (nI ((mN v ij jj k) + 0))), (5, .int (mF v ij jj k)), (6, .int (nI (k)))]) rfl ?_
                  refine kb_iinc X 6 [1, 2, 3, 4, 5, 6, 0] (v' := nI (k + 1)) dX6_mutual_145 rfl (nI_add _ _) (by decide) (lv' := [(0, .ref (a 0)), (1, .int (nI (ij))), (2, .int (nI (jj))), (3, .int (m)), (4, .int (nI ((mN v ij jj k) + 0))), (5, .int (mF v ij jj k)), (6, .int (nI (k + 1)))]) rfl ?_
                  refine kb_goto (tgt := 52) X dX6_mutual_148 (by decide) ?_
                  exact kw_to (ih (k + 1) sl12_ ⟨by omega, hF15_⟩) (by rw [mN, mF]; simp [mR, c1_, ePi, ePj, c2_, c3_, c4_, c7_, c16_]) rfl rfl
                · skip
                  refine kb_aload_n X 0 dX6_mutual_81 rfl rfl ?_
                  refine kb_iload_n X 1 dX6_mutual_82 rfl rfl ?_
                  refine kb_iload_n X 2 dX6_mutual_83 rfl rfl ?_
                  refine kb_iload X 6 dX6_mutual_84 rfl ?_
                  refine kb_iconst (v := (0 : Int32)) X dX6_mutual_86 (by decide) ?_
                  refine kc_Vi X (As := [.int (nI (ij)), .int (nI (jj)), .int (nI (k)), .int 0]) (rest := []) (wr := []) (ct_X6_worth l g a (vN v) so ag (vG v) np ns na nf sl12_ ac ke le tx ap bg wr se wh wo bl ck sw ma ro bs v hE14_ hK hv ij jj k false (by omega) (by omega) (by omega)) dX6_mutual_87 rfl (kw_pall _) mc_X6_worth kl_X6_230 mi_X6_worth mv_X6_worth kn_X6 0 rfl rfl rfl (na := 4) (by decide +kernel) rfl ⟨Nat.le_of_ble_eq_true rfl, Nat.le_of_ble_eq_true rfl⟩ ⟨rfl, rfl⟩ ⟨Nat.le_of_ble_eq_true rfl, Nat.le_of_ble_eq_true rfl⟩ (Nat.le_of_ble_eq_true rfl) (fun r_ w_ hp_ => ?_)
                  obtain ⟨rfl, sl19_, hF20_, rfl⟩ := hp_
                  have hE21_ := hE14_.fr hF20_ (by omega)
                  have hF22_ : FR sl sl19_ 902 := FR.tr hF15_ hF20_
                  refine kw_ws (List.append_nil _) ?_
                  refine kb_aload_n X 0 dX6_mutual_90 rfl rfl ?_
                  refine kb_iload_n X 1 dX6_mutual_91 rfl rfl ?_
                  refine kb_iload_n X 2 dX6_mutual_92 rfl rfl ?_
                  refine kb_iload X 6 dX6_mutual_93 rfl ?_
                  refine kb_iconst (v := (1 : Int32)) X dX6_mutual_95 (by decide) ?_
                  refine kb_ixor X dX6_mutual_96 ?_
                  refine kw_top (b := .int (nI (k ^^^ 1))) (by rw [show (1 : Int32) = nI 1 from rfl, xor_nI k (by omega) 1 (by decide)]) ?_
                  refine kb_iconst (v := (0 : Int32)) X dX6_mutual_97 (by decide) ?_
                  refine kc_Vi X (As := [.int (nI (ij)), .int (nI (jj)), .int (nI (k ^^^ 1)), .int 0]) (rest := [.int (mg v ij jj k false)]) (wr := []) (ct_X6_worth l g a (vN v) so ag (vG v) np ns na nf sl19_ ac ke le tx ap bg wr se wh wo bl ck sw ma ro bs v hE21_ hK hv ij jj (k ^^^ 1) false (by omega) (by omega) (by omega)) dX6_mutual_98 rfl (kw_pall _) mc_X6_worth kl_X6_230 mi_X6_worth mv_X6_worth kn_X6 0 rfl rfl rfl (na := 4) (by decide +kernel) rfl ⟨Nat.le_of_ble_eq_true rfl, Nat.le_of_ble_eq_true rfl⟩ ⟨rfl, rfl⟩ ⟨Nat.le_of_ble_eq_true rfl, Nat.le_of_ble_eq_true rfl⟩ (Nat.le_of_ble_eq_true rfl) (fun r_ w_ hp_ => ?_)
                  obtain ⟨rfl, sl23_, hF24_, rfl⟩ := hp_
                  have hE25_ := hE21_.fr hF24_ (by omega)
                  have hF26_ : FR sl sl23_ 902 := FR.tr hF22_ hF24_
                  refine kw_ws (List.append_nil _) ?_
                  refine kb_icmp_lt (tgt := 108) X dX6_mutual_101 (by decide) (fun c27_ => ?_) (fun c27_ => ?_)
                  · skip
                    refine kb_iconst (v := (0 : Int32)) X dX6_mutual_108 (by decide) ?_
                    refine kb_istore X [1, 2, 3, 4, 5, 6, 7, 0] dX6_mutual_109 (by decide) (lv' := [(0, .ref (a 0)), (1, .int (nI (ij))), (2, .int (nI (jj))), (3, .int (m)), (4, .int (nI (mN v ij jj k))), (5, .int (mF v ij jj k)), (6, .int (nI (k))), (7, .int 0)]) rfl ?_
                    refine kb_iload X 7 dX6_mutual_111 rfl ?_
                    refine kb_if_eq (tgt := 126) X dX6_mutual_113 (by decide) (fun _ => ?_) (fun q_ => absurd q_ (by decide))
                    refine kb_iload X 5 dX6_mutual_126 rfl ?_
                    refine kb_istore X [1, 2, 3, 4, 5, 0, 6, 7] dX6_mutual_128 (by decide) (lv' := [(0, .ref (a 0)), (1, .int (nI (ij))), (2, .int (nI (jj))), (3, .int (m)), (4, .int (nI (mN v ij jj k))), (5, .int (mF v ij jj k)), (6, .int (nI (k))), (7, .int 0)]) rfl ?_
                    refine kb_iload X 4 dX6_mutual_130 rfl ?_
                    refine kb_iload X 7 dX6_mutual_132 rfl ?_
                    refine kb_if_eq (tgt := 141) X dX6_mutual_134 (by decide) (fun _ => ?_) (fun q_ => absurd q_ (by decide))
                    refine kb_iconst (v := (0 : Int32)) X dX6_mutual_141 (by decide) ?_
                    refine kn_iadd X (mN v ij jj k) 0 dX6_mutual_142 ?_
                    refine kb_istore X [1, 2, 3, 4, 0, 5, 6, 7] dX6_mutual_143 (by decide) (lv' := [(0, .ref (a 0)), (1, .int (nI (ij))), (2, .int (nI (jj))), (3, .int (m)), (4, .int (nI ((mN v ij jj k) + 0))), (5, .int (mF v ij jj k)), (6, .int (nI (k))), (7, .int 0)]) rfl ?_
                    refine kw_lvs [0, 1, 2, 3, 4, 5, 6] (lv' := [(0, .ref (a 0)), (1, .int (nI (ij))), (2, .int (nI (jj))), (3, .int (m)), (4, .int (nI ((mN v ij jj k) + 0))), (5, .int (mF v ij jj k)), (6, .int (nI (k)))]) rfl ?_
                    refine kb_iinc X 6 [1, 2, 3, 4, 5, 6, 0] (v' := nI (k + 1)) dX6_mutual_145 rfl (nI_add _ _) (by decide) (lv' := [(0, .ref (a 0)), (1, .int (nI (ij))), (2, .int (nI (jj))), (3, .int (m)), (4, .int (nI ((mN v ij jj k) + 0))), (5, .int (mF v ij jj k)), (6, .int (nI (k + 1)))]) rfl ?_
                    refine kb_goto (tgt := 52) X dX6_mutual_148 (by decide) ?_
                    exact kw_to (ih (k + 1) sl23_ ⟨by omega, hF26_⟩) (by rw [mN, mF]; simp [mR, c1_, ePi, ePj, c2_, c3_, c4_, c7_, c16_, c27_]) rfl rfl
                  · skip
                    refine kb_iconst (v := (1 : Int32)) X dX6_mutual_104 (by decide) ?_
                    refine kb_goto (tgt := 109) X dX6_mutual_105 (by decide) ?_
                    refine kb_istore X [1, 2, 3, 4, 5, 6, 7, 0] dX6_mutual_109 (by decide) (lv' := [(0, .ref (a 0)), (1, .int (nI (ij))), (2, .int (nI (jj))), (3, .int (m)), (4, .int (nI (mN v ij jj k))), (5, .int (mF v ij jj k)), (6, .int (nI (k))), (7, .int 1)]) rfl ?_
                    refine kb_iload X 7 dX6_mutual_111 rfl ?_
                    refine kb_if_eq (tgt := 126) X dX6_mutual_113 (by decide) (fun q_ => absurd q_ (by decide)) (fun _ => ?_)
                    refine kb_iload X 4 dX6_mutual_116 rfl ?_
                    refine kn_if_ne (a := mN v ij jj k) (tgt := 126) X (by omega) dX6_mutual_118 (by decide) (fun c31_ => ?_) (fun c31_ => ?_)
                    · skip
                      refine kb_iload X 5 dX6_mutual_126 rfl ?_
                      refine kb_istore X [1, 2, 3, 4, 5, 0, 6, 7] dX6_mutual_128 (by decide) (lv' := [(0, .ref (a 0)), (1, .int (nI (ij))), (2, .int (nI (jj))), (3, .int (m)), (4, .int (nI (mN v ij jj k))), (5, .int (mF v ij jj k)), (6, .int (nI (k))), (7, .int 1)]) rfl ?_
                      refine kb_iload X 4 dX6_mutual_130 rfl ?_
                      refine kb_iload X 7 dX6_mutual_132 rfl ?_
                      refine kb_if_eq (tgt := 141) X dX6_mutual_134 (by decide) (fun q_ => absurd q_ (by decide)) (fun _ => ?_)
                      refine kb_iconst (v := (1 : Int32)) X dX6_mutual_137 (by decide) ?_
                      refine kb_goto (tgt := 142) X dX6_mutual_138 (by decide) ?_
                      refine kn_iadd X (mN v ij jj k) 1 dX6_mutual_142 ?_
                      refine kb_istore X [1, 2, 3, 4, 0, 5, 6, 7] dX6_mutual_143 (by decide) (lv' := [(0, .ref (a 0)), (1, .int (nI (ij))), (2, .int (nI (jj))), (3, .int (m)), (4, .int (nI ((mN v ij jj k) + 1))), (5, .int (mF v ij jj k)), (6, .int (nI (k))), (7, .int 1)]) rfl ?_
                      refine kw_lvs [0, 1, 2, 3, 4, 5, 6] (lv' := [(0, .ref (a 0)), (1, .int (nI (ij))), (2, .int (nI (jj))), (3, .int (m)), (4, .int (nI ((mN v ij jj k) + 1))), (5, .int (mF v ij jj k)), (6, .int (nI (k)))]) rfl ?_
                      refine kb_iinc X 6 [1, 2, 3, 4, 5, 6, 0] (v' := nI (k + 1)) dX6_mutual_145 rfl (nI_add _ _) (by decide) (lv' := [(0, .ref (a 0)), (1, .int (nI (ij))), (2, .int (nI (jj))), (3, .int (m)), (4, .int (nI ((mN v ij jj k) + 1))), (5, .int (mF v ij jj k)), (6, .int (nI (k + 1)))]) rfl ?_
                      refine kb_goto (tgt := 52) X dX6_mutual_148 (by decide) ?_
                      exact kw_to (ih (k + 1) sl23_ ⟨by omega, hF26_⟩) (by rw [mN, mF]; simp [mR, c1_, ePi, ePj, c2_, c3_, c4_, c7_, c16_, c27_, c31_]) rfl rfl
                    · skip
                      refine kb_iload X 6 dX6_mutual_121 rfl ?_
                      refine kb_goto (tgt := 128) X dX6_mutual_123 (by decide) ?_
                      refine kb_istore X [1, 2, 3, 4, 5, 0, 6, 7] dX6_mutual_128 (by decide) (lv' := [(0, .ref (a 0)), (1, .int (nI (ij))), (2, .int (nI (jj))), (3, .int (m)), (4, .int (nI (mN v ij jj k))), (5, .int (nI (k))), (6, .int (nI (k))), (7, .int 1)]) rfl ?_
                      refine kb_iload X 4 dX6_mutual_130 rfl ?_
                      refine kb_iload X 7 dX6_mutual_132 rfl ?_
                      refine kb_if_eq (tgt := 141) X dX6_mutual_134 (by decide) (fun q_ => absurd q_ (by decide)) (fun _ => ?_)
                      refine kb_iconst (v := (1 : Int32)) X dX6_mutual_137 (by decide) ?_
                      refine kb_goto (tgt := 142) X dX6_mutual_138 (by decide) ?_
                      refine kn_iadd X (mN v ij jj k) 1 dX6_mutual_142 ?_
                      refine kb_istore X [1, 2, 3, 4, 0, 5, 6, 7] dX6_mutual_143 (by decide) (lv' := [(0, .ref (a 0)), (1, .int (nI (ij))), (2, .int (nI (jj))), (3, .int (m)), (4, .int (nI ((mN v ij jj k) + 1))), (5, .int (nI (k))), (6, .int (nI (k))), (7, .int 1)]) rfl ?_
                      refine kw_lvs [0, 1, 2, 3, 4, 5, 6] (lv' := [(0, .ref (a 0)), (1, .int (nI (ij))), (2, .int (nI (jj))), (3, .int (m)), (4, .int (nI ((mN v ij jj k) + 1))), (5, .int (nI (k))), (6, .int (nI (k)))]) rfl ?_
                      refine kb_iinc X 6 [1, 2, 3, 4, 5, 6, 0] (v' := nI (k + 1)) dX6_mutual_145 rfl (nI_add _ _) (by decide) (lv' := [(0, .ref (a 0)), (1, .int (nI (ij))), (2, .int (nI (jj))), (3, .int (m)), (4, .int (nI ((mN v ij jj k) + 1))), (5, .int (nI (k))), (6, .int (nI (k + 1)))]) rfl ?_
                      refine kb_goto (tgt := 52) X dX6_mutual_148 (by decide) ?_
                      exact kw_to (ih (k + 1) sl23_ ⟨by omega, hF26_⟩) (by rw [mN, mF]; simp [mR, c1_, ePi, ePj, c2_, c3_, c4_, c7_, c16_, c27_, c31_]) rfl rfl
          exact kw_to (L52 4 0 sl ⟨rfl, FR.rf⟩) rfl rfl rfl
        · skip
          refine kb_bipush (v := (-2 : Int32)) X dX6_mutual_39 (by decide) ?_
          refine ke_i X Z dX6_mutual_41 ?_
          exact ⟨by simp [oMut, c1_, ePi, ePj, c2_, c3_, c4_], RWp.of hR⟩
    · skip
      refine kb_iconst (v := (-1 : Int32)) X dX6_mutual_19 (by decide) ?_
      refine ke_i X Z dX6_mutual_20 ?_
      exact ⟨by simp [oMut, c1_, ePi, ePj, c2_], RWp.of hR⟩

set_option maxHeartbeats 4000000 in
set_option maxRecDepth 100000 in
theorem ct_X6_rain (l : Launch) (g : kw_G) (a : Nat → Nat) (so : Nat → Int32) (ag : Nat → Int32) (np : Nat) (ns : Nat → Int32) (na : Nat → Int32) (nf : Int32) (sl : Nat → Int32) (ac : Nat) (ke : Nat) (le : Nat) (tx : Nat → Nat) (ap : Nat) (bg : Nat) (wr : Bool) (se : Nat) (wh : Nat → Nat) (wo : Nat → Nat) (bl : Nat → Int32) (ck : Nat → Int32) (sw : Nat → Bool) (ma : Nat) (ro : Nat → Nat) (bs : Nat → Nat) (v : VS) (us ks : List VS) (tf : Nat → Nat) (tn : Nat) (s : SS) (hR : RI (vN v) so ag (vG v) sl ac ke le tx se wh wo bl ck sw v us ks tf tn s) (p b c n x_ m : Int32) : kMi l g yX6_rain cX6_rain 13 .int (kw_rm 5 0 0) 0 0 [.ref (a 0), .int (p), .int (b), .int (c), .int (n), .int (x_), .int (m)] (wR g a (vN v) so ag (vG v) np ns na nf sl ac ke le tx ap bg wr se wh wo bl ck sw ma ro bs) (fun r w => r = oRain v p b c n x_ m ∧ RWp g a v us ks tf tn s w) := by
  refine kMi_of (by decide +kernel) (Nat.le_of_ble_eq_true rfl) (fun x (X : kX l g RX6 cX6_rain 13 (kw_rm 5 0 0) x) (Z : kZi .int _ 0 0 x) => ?_)
  show kW x 0 0 0 [(0, .ref (a 0)), (1, .int (p)), (2, .int (b)), (3, .int (c)), (4, .int (n)), (5, .int (x_)), (6, .int (m))] [] (wR g a (vN v) so ag (vG v) np ns na nf sl ac ke le tx ap bg wr se wh wo bl ck sw ma ro bs)
  have hE := hR.1
  have hG := hR.2.1
  have hK := hR.2.1.1
  have hv := hR.2.1.2.1
  have hT := hR.2.1.2.2.1
  have hN0 := hR.2.1.2.2.2
  have h6 := hv.1
  have hx64 := hv.2.1
  have hh64 := hv.2.2
  refine kb_aload_n X 0 dX6_rain_0 rfl rfl ?_
  refine kb_iload_n X 1 dX6_rain_1 rfl rfl ?_
  refine kc_Vi X (As := [.int (p)]) (rest := []) (wr := []) (ct_X6_isPerson l g a (vN v) so ag (vG v) np ns na nf sl ac ke le tx ap bg wr se wh wo bl ck sw ma ro bs p (by omega)) dX6_rain_2 rfl (kw_pall _) mc_X6_isPerson kl_X6_75 mi_X6_isPerson mv_X6_isPerson kn_X6 0 rfl rfl rfl (na := 1) (by decide +kernel) rfl ⟨Nat.le_of_ble_eq_true rfl, Nat.le_of_ble_eq_true rfl⟩ ⟨rfl, rfl⟩ ⟨Nat.le_of_ble_eq_true rfl, Nat.le_of_ble_eq_true rfl⟩ (Nat.le_of_ble_eq_true rfl) (fun r_ w_ hp_ => ?_)
  obtain ⟨rfl, rfl⟩ := hp_
  refine kw_ws (List.append_nil _) ?_
  refine kz_if_eq (b := pin p (vN v)) (tgt := 53) X dX6_rain_5 (by decide) (fun c1_ => ?_) (fun c1_ => ?_)
  · skip
    refine kb_iconst (v := (-1 : Int32)) X dX6_rain_53 (by decide) ?_
    refine ke_i X Z dX6_rain_54 ?_
    exact ⟨by simp [oRain, c1_], RWp.of hR⟩
  · skip
    obtain ⟨pj, hpj, epj, ePp⟩ := pin_j h6 c1_
    refine kb_iload_n X 2 dX6_rain_8 rfl rfl ?_
    refine kb_iload_n X 3 dX6_rain_9 rfl rfl ?_
    refine kc_Si X (As := [.int (b), .int (c)]) (rest := []) (wr := (wR g a (vN v) so ag (vG v) np ns na nf sl ac ke le tx ap bg wr se wh wo bl ck sw ma ro bs)) (ct_X6_areBells l g b c ) dX6_rain_10 rfl (List.Perm.refl _) mc_X6_areBells kl_X6_187 ms_X6_areBells kn_X6 (na := 2) (by decide +kernel) rfl ⟨Nat.le_of_ble_eq_true rfl, Nat.le_of_ble_eq_true rfl⟩ ⟨rfl, rfl⟩ ⟨Nat.le_of_ble_eq_true rfl, Nat.le_of_ble_eq_true rfl⟩ (Nat.le_of_ble_eq_true rfl) (fun r_ w_ hp_ => ?_)
    obtain ⟨rfl, rfl⟩ := hp_
    refine kw_ws (List.nil_append _) ?_
    refine kz_if_eq (b := fare b c) (tgt := 53) X dX6_rain_13 (by decide) (fun c2_ => ?_) (fun c2_ => ?_)
    · skip
      refine kb_iconst (v := (-1 : Int32)) X dX6_rain_53 (by decide) ?_
      refine ke_i X Z dX6_rain_54 ?_
      exact ⟨by simp [oRain, c1_, c2_], RWp.of hR⟩
    · skip
      refine kb_iload X 4 dX6_rain_16 rfl ?_
      refine kb_i2l (v := n.toInt64) X dX6_rain_18 rfl ?_
      refine kb_lconst (v := 0) X dX6_rain_19 (by decide) ?_
      refine kb_ldc2 X kk_X6_222 dX6_rain_20 ?_
      refine kc_Si X (As := [.long (n.toInt64), .long ((0 : Int64)), .long ((6 : Int64))]) (rest := []) (wr := (wR g a (vN v) so ag (vG v) np ns na nf sl ac ke le tx ap bg wr se wh wo bl ck sw ma ro bs)) (ct_X6_in l g n.toInt64 (0 : Int64) (6 : Int64)) dX6_rain_23 rfl (List.Perm.refl _) mc_X6_in kl_X6_71 ms_X6_in kn_X6 (na := 3) (by decide +kernel) rfl ⟨Nat.le_of_ble_eq_true rfl, Nat.le_of_ble_eq_true rfl⟩ ⟨rfl, rfl⟩ ⟨Nat.le_of_ble_eq_true rfl, Nat.le_of_ble_eq_true rfl⟩ (Nat.le_of_ble_eq_true rfl) (fun r_ w_ hp_ => ?_)
      obtain ⟨rfl, rfl⟩ := hp_
      refine kw_ws (List.nil_append _) ?_
      refine kw_top (b := .int (zI (inr n (0 : Int32) (6 : Int32)))) (congrArg (fun q => Value.int (zI q)) (lin_c (by decide) (by decide))) ?_
      refine kz_if_eq (b := inr n (0 : Int32) (6 : Int32)) (tgt := 53) X dX6_rain_26 (by decide) (fun c3_ => ?_) (fun c3_ => ?_)
      · skip
        refine kb_iconst (v := (-1 : Int32)) X dX6_rain_53 (by decide) ?_
        refine ke_i X Z dX6_rain_54 ?_
        exact ⟨by simp [oRain, c1_, c2_, c3_], RWp.of hR⟩
      · skip
        obtain ⟨nn, hnn1, hnn2, enn, ePnn⟩ := inr_n (a := 0) (b := 6) (by decide) (by decide) c3_
        refine kb_iload X 5 dX6_rain_29 rfl ?_
        refine kb_i2l (v := x_.toInt64) X dX6_rain_31 rfl ?_
        refine kb_lconst (v := 0) X dX6_rain_32 (by decide) ?_
        refine kb_ldc2 X kk_X6_234 dX6_rain_33 ?_
        refine kc_Si X (As := [.long (x_.toInt64), .long ((0 : Int64)), .long ((10 : Int64))]) (rest := []) (wr := (wR g a (vN v) so ag (vG v) np ns na nf sl ac ke le tx ap bg wr se wh wo bl ck sw ma ro bs)) (ct_X6_in l g x_.toInt64 (0 : Int64) (10 : Int64)) dX6_rain_36 rfl (List.Perm.refl _) mc_X6_in kl_X6_71 ms_X6_in kn_X6 (na := 3) (by decide +kernel) rfl ⟨Nat.le_of_ble_eq_true rfl, Nat.le_of_ble_eq_true rfl⟩ ⟨rfl, rfl⟩ ⟨Nat.le_of_ble_eq_true rfl, Nat.le_of_ble_eq_true rfl⟩ (Nat.le_of_ble_eq_true rfl) (fun r_ w_ hp_ => ?_)
        obtain ⟨rfl, rfl⟩ := hp_
        refine kw_ws (List.nil_append _) ?_
        refine kw_top (b := .int (zI (inr x_ (0 : Int32) (10 : Int32)))) (congrArg (fun q => Value.int (zI q)) (lin_c (by decide) (by decide))) ?_
        refine kz_if_eq (b := inr x_ (0 : Int32) (10 : Int32)) (tgt := 53) X dX6_rain_39 (by decide) (fun c4_ => ?_) (fun c4_ => ?_)
        · skip
          refine kb_iconst (v := (-1 : Int32)) X dX6_rain_53 (by decide) ?_
          refine ke_i X Z dX6_rain_54 ?_
          exact ⟨by simp [oRain, c1_, c2_, c3_, c4_], RWp.of hR⟩
        · skip
          obtain ⟨xx, hxx1, hxx2, exx, ePxx⟩ := inr_n (a := 0) (b := 10) (by decide) (by decide) c4_
          refine kb_iload X 6 dX6_rain_42 rfl ?_
          refine kb_i2l (v := m.toInt64) X dX6_rain_44 rfl ?_
          refine kb_lconst (v := 0) X dX6_rain_45 (by decide) ?_
          refine kb_lconst (v := 1) X dX6_rain_46 (by decide) ?_
          refine kc_Si X (As := [.long (m.toInt64), .long ((0 : Int64)), .long ((1 : Int64))]) (rest := []) (wr := (wR g a (vN v) so ag (vG v) np ns na nf sl ac ke le tx ap bg wr se wh wo bl ck sw ma ro bs)) (ct_X6_in l g m.toInt64 (0 : Int64) (1 : Int64)) dX6_rain_47 rfl (List.Perm.refl _) mc_X6_in kl_X6_71 ms_X6_in kn_X6 (na := 3) (by decide +kernel) rfl ⟨Nat.le_of_ble_eq_true rfl, Nat.le_of_ble_eq_true rfl⟩ ⟨rfl, rfl⟩ ⟨Nat.le_of_ble_eq_true rfl, Nat.le_of_ble_eq_true rfl⟩ (Nat.le_of_ble_eq_true rfl) (fun r_ w_ hp_ => ?_)
          obtain ⟨rfl, rfl⟩ := hp_
          refine kw_ws (List.nil_append _) ?_
          refine kw_top (b := .int (zI (inr m (0 : Int32) (1 : Int32)))) (congrArg (fun q => Value.int (zI q)) (lin_c (by decide) (by decide))) ?_
          refine kz_if_ne (b := inr m (0 : Int32) (1 : Int32)) (tgt := 55) X dX6_rain_50 (by decide) (fun c5_ => ?_) (fun c5_ => ?_)
          · skip
            refine kw_lv (lv' := [(0, .ref (a 0)), (1, .int (nI (pj))), (2, .int (b)), (3, .int (c)), (4, .int (n)), (5, .int (x_)), (6, .int (m))]) (by rw [epj]) ?_
            refine kw_lv (lv' := [(0, .ref (a 0)), (1, .int (nI (pj))), (2, .int (b)), (3, .int (c)), (4, .int (nI (nn))), (5, .int (x_)), (6, .int (m))]) (by rw [enn]) ?_
            refine kw_lv (lv' := [(0, .ref (a 0)), (1, .int (nI (pj))), (2, .int (b)), (3, .int (c)), (4, .int (nI (nn))), (5, .int (nI (xx))), (6, .int (m))]) (by rw [exx]) ?_
            refine kb_aload_n X 0 dX6_rain_55 rfl rfl ?_
            refine kb_iconst (v := (0 : Int32)) X dX6_rain_56 (by decide) ?_
            refine kb_iload_n X 1 dX6_rain_57 rfl rfl ?_
            refine kc_Vi X (As := [.int 0, .int (nI (pj))]) (rest := []) (wr := []) (ct_X6_isAlive l g a (vN v) so ag (vG v) np ns na nf sl ac ke le tx ap bg wr se wh wo bl ck sw ma ro bs 0 v (by omega) hE hK hv pj (by omega)) dX6_rain_58 rfl (kw_pall _) mc_X6_isAlive kl_X6_136 mi_X6_isAlive mv_X6_isAlive kn_X6 0 rfl rfl rfl (na := 2) (by decide +kernel) rfl ⟨Nat.le_of_ble_eq_true rfl, Nat.le_of_ble_eq_true rfl⟩ ⟨rfl, rfl⟩ ⟨Nat.le_of_ble_eq_true rfl, Nat.le_of_ble_eq_true rfl⟩ (Nat.le_of_ble_eq_true rfl) (fun r_ w_ hp_ => ?_)
            obtain ⟨rfl, rfl⟩ := hp_
            refine kw_ws (List.append_nil _) ?_
            refine kz_if_ne (b := wLives v pj) (tgt := 67) X dX6_rain_61 (by decide) (fun c6_ => ?_) (fun c6_ => ?_)
            · skip
              refine kb_aload_n X 0 dX6_rain_67 rfl rfl ?_
              refine kb_iconst (v := (0 : Int32)) X dX6_rain_68 (by decide) ?_
              refine kb_iload_n X 1 dX6_rain_69 rfl rfl ?_
              refine kb_iload_n X 2 dX6_rain_70 rfl rfl ?_
              refine kb_iload_n X 3 dX6_rain_71 rfl rfl ?_
              refine kc_Vi X (As := [.int 0, .int (nI (pj)), .int (b), .int (c)]) (rest := []) (wr := []) (ct_X6_comers l g a (vN v) so ag (vG v) np ns na nf sl ac ke le tx ap bg wr se wh wo bl ck sw ma ro bs 0 v (by omega) hE hK hv pj b c (by omega)) dX6_rain_72 rfl (kw_pall _) mc_X6_comers kl_X6_178 mi_X6_comers mv_X6_comers kn_X6 0 rfl rfl rfl (na := 4) (by decide +kernel) rfl ⟨Nat.le_of_ble_eq_true rfl, Nat.le_of_ble_eq_true rfl⟩ ⟨rfl, rfl⟩ ⟨Nat.le_of_ble_eq_true rfl, Nat.le_of_ble_eq_true rfl⟩ (Nat.le_of_ble_eq_true rfl) (fun r_ w_ hp_ => ?_)
              obtain ⟨rfl, rfl⟩ := hp_
              refine kw_ws (List.append_nil _) ?_
              refine kc_Si X (As := [.int (nI (wGuests v pj b c))]) (rest := []) (wr := (wR g a (vN v) so ag (vG v) np ns na nf sl ac ke le tx ap bg wr se wh wo bl ck sw ma ro bs)) (ct_X6_bits l g (wGuests v pj b c) (wGuests_lt v pj b c h6)) dX6_rain_75 rfl (List.Perm.refl _) mc_X6_bits kl_X6_209 ms_X6_bits kn_X6 (na := 1) (by decide +kernel) rfl ⟨Nat.le_of_ble_eq_true rfl, Nat.le_of_ble_eq_true rfl⟩ ⟨rfl, rfl⟩ ⟨Nat.le_of_ble_eq_true rfl, Nat.le_of_ble_eq_true rfl⟩ (Nat.le_of_ble_eq_true rfl) (fun r_ w_ hp_ => ?_)
              obtain ⟨rfl, rfl⟩ := hp_
              refine kw_ws (List.nil_append _) ?_
              refine kb_istore X [1, 2, 3, 4, 5, 6, 7, 0] dX6_rain_78 (by decide) (lv' := [(0, .ref (a 0)), (1, .int (nI (pj))), (2, .int (b)), (3, .int (c)), (4, .int (nI (nn))), (5, .int (nI (xx))), (6, .int (m)), (7, .int (nI (wBits (wGuests v pj b c))))]) rfl ?_
              obtain ⟨wd, hwd⟩ : ∃ k, wBits (wGuests v pj b c) = k := ⟨_, rfl⟩
              have hwd6 : wd ≤ 6 := by rw [← hwd]; exact wBits_le _
              have h2w := p2_le hwd6
              have h2p : 0 < 2 ^ wd := Nat.two_pow_pos wd
              refine kw_lv (lv' := [(0, .ref (a 0)), (1, .int (nI (pj))), (2, .int (b)), (3, .int (c)), (4, .int (nI (nn))), (5, .int (nI (xx))), (6, .int (m)), (7, .int (nI (wd)))]) (by rw [hwd]) ?_
              refine kb_iconst (v := (0 : Int32)) X dX6_rain_80 (by decide) ?_
              refine kb_istore X [1, 2, 3, 4, 5, 6, 7, 8, 0] dX6_rain_81 (by decide) (lv' := [(0, .ref (a 0)), (1, .int (nI (pj))), (2, .int (b)), (3, .int (c)), (4, .int (nI (nn))), (5, .int (nI (xx))), (6, .int (m)), (7, .int (nI (wd))), (8, .int 0)]) rfl ?_
              refine kb_iconst (v := (0 : Int32)) X dX6_rain_83 (by decide) ?_
              refine kb_istore X [1, 2, 3, 4, 5, 6, 7, 8, 9, 0] dX6_rain_84 (by decide) (lv' := [(0, .ref (a 0)), (1, .int (nI (pj))), (2, .int (b)), (3, .int (c)), (4, .int (nI (nn))), (5, .int (nI (xx))), (6, .int (m)), (7, .int (nI (wd))), (8, .int 0), (9, .int 0)]) rfl ?_
              refine kb_iconst (v := (0 : Int32)) X dX6_rain_86 (by decide) ?_
              refine kb_istore X [1, 2, 3, 4, 5, 6, 7, 8, 9, 10, 0] dX6_rain_87 (by decide) (lv' := [(0, .ref (a 0)), (1, .int (nI (pj))), (2, .int (b)), (3, .int (c)), (4, .int (nI (nn))), (5, .int (nI (xx))), (6, .int (m)), (7, .int (nI (wd))), (8, .int 0), (9, .int 0), (10, .int 0)]) rfl ?_
              have L89 : ∀ (K_ u : Nat), u + K_ = 2 ^ wd → kW x 0 0 89 [(0, .ref (a 0)), (1, .int (nI (pj))), (2, .int (b)), (3, .int (c)), (4, .int (nI (nn))), (5, .int (nI (xx))), (6, .int (m)), (7, .int (nI (wd))), (8, .int (nI (rU wd nn xx u))), (9, .int (nI (rA wd xx u))), (10, .int (nI (u)))] [] (wR g a (vN v) so ag (vG v) np ns na nf sl ac ke le tx ap bg wr se wh wo bl ck sw ma ro bs) := by
                intro K_
                induction K_ with
                | zero =>
                  intro u hu
                  refine kb_iload X 10 dX6_rain_89 rfl ?_
                  refine kb_iconst (v := (1 : Int32)) X dX6_rain_91 (by decide) ?_
                  refine kb_iload X 7 dX6_rain_92 rfl ?_
                  refine kb_ishl X dX6_rain_94 ?_
                  refine kw_top (b := .int (nI (2 ^ wd))) (by rw [bit_in wd (by omega)]) ?_
                  refine kn_icmp_ge (a := u) (b := 2 ^ wd) (tgt := 176) X (by omega) (by omega) dX6_rain_95 (by decide) (fun c7_ => ?_) (fun c7_ => ?_)
                  · skip
                    have eu_ : u = 2 ^ wd := by omega
                    subst eu_
                    have hA_ := rA_lt hwd6 hxx2 h2w
                    have hU_ := rU_le wd nn xx (2 ^ wd)
                    have h10_ := rA_10 wd hwd6 xx hxx2
                    have hT_ : 0 < 10 ^ wd := Nat.pow_pos (by decide)
                    refine kw_lvs [0, 1, 2, 3, 4, 5, 6, 7, 8, 9] (lv' := [(0, .ref (a 0)), (1, .int (nI (pj))), (2, .int (b)), (3, .int (c)), (4, .int (nI (nn))), (5, .int (nI (xx))), (6, .int (m)), (7, .int (nI (wd))), (8, .int (nI (rU wd nn xx (2 ^ wd)))), (9, .int (nI (rA wd xx (2 ^ wd))))]) rfl ?_
                    refine kb_iload X 8 dX6_rain_176 rfl ?_
                    refine kb_istore X [1, 2, 3, 4, 5, 6, 7, 8, 9, 10, 0] dX6_rain_178 (by decide) (lv' := [(0, .ref (a 0)), (1, .int (nI (pj))), (2, .int (b)), (3, .int (c)), (4, .int (nI (nn))), (5, .int (nI (xx))), (6, .int (m)), (7, .int (nI (wd))), (8, .int (nI (rU wd nn xx (2 ^ wd)))), (9, .int (nI (rA wd xx (2 ^ wd)))), (10, .int (nI (rU wd nn xx (2 ^ wd))))]) rfl ?_
                    refine kb_iload X 9 dX6_rain_180 rfl ?_
                    refine kb_istore X [1, 2, 3, 4, 5, 6, 7, 8, 9, 10, 11, 0] dX6_rain_182 (by decide) (lv' := [(0, .ref (a 0)), (1, .int (nI (pj))), (2, .int (b)), (3, .int (c)), (4, .int (nI (nn))), (5, .int (nI (xx))), (6, .int (m)), (7, .int (nI (wd))), (8, .int (nI (rU wd nn xx (2 ^ wd)))), (9, .int (nI (rA wd xx (2 ^ wd)))), (10, .int (nI (rU wd nn xx (2 ^ wd)))), (11, .int (nI (rA wd xx (2 ^ wd))))]) rfl ?_
                    have L184 : ∀ (K_ y w : Nat), w < K_ ∧ y < 2147483648 ∧ w < 2147483648 ∧ Nat.gcd y w = Nat.gcd (rU wd nn xx (2 ^ wd)) (rA wd xx (2 ^ wd)) → kW x 0 0 184 [(0, .ref (a 0)), (1, .int (nI (pj))), (2, .int (b)), (3, .int (c)), (4, .int (nI (nn))), (5, .int (nI (xx))), (6, .int (m)), (7, .int (nI (wd))), (8, .int (nI (rU wd nn xx (2 ^ wd)))), (9, .int (nI (rA wd xx (2 ^ wd)))), (10, .int (nI (y))), (11, .int (nI (w)))] [] (wR g a (vN v) so ag (vG v) np ns na nf sl ac ke le tx ap bg wr se wh wo bl ck sw ma ro bs) := by
                      intro K_
                      induction K_ with
                      | zero =>
                        intro y w hh
                        obtain ⟨hK_, hy_, hw_, hg_⟩ := id hh
                        exact absurd hh.1 (Nat.not_lt_zero _)
                      | succ K_ ih3 =>
                        intro y w hh
                        obtain ⟨hK_, hy_, hw_, hg_⟩ := id hh
                        refine kb_iload X 11 dX6_rain_184 rfl ?_
                        refine kn_if_eq (a := w) (tgt := 207) X (by omega) dX6_rain_186 (by decide) (fun c8_ => ?_) (fun c8_ => ?_)
                        · skip
                          have hy2_ : y = Nat.gcd (rU wd nn xx (2 ^ wd)) (rA wd xx (2 ^ wd)) := by rw [← hg_, show w = 0 by omega, Nat.gcd_zero_right]
                          have hyp_ : 0 < y := by rw [hy2_]; exact Nat.gcd_pos_of_pos_right _ (by rw [h10_]; exact hT_)
                          refine kb_iload X 6 dX6_rain_207 rfl ?_
                          refine kb_if_ne (tgt := 220) X dX6_rain_209 (by decide) (fun c9_ => ?_) (fun c9_ => ?_)
                          · skip
                            refine kb_iload X 9 dX6_rain_220 rfl ?_
                            refine kb_iload X 10 dX6_rain_222 rfl ?_
                            refine kn_idiv X (rA wd xx (2 ^ wd)) y (by omega) (by omega) (by omega) dX6_rain_224 ?_
                            refine ke_i X Z dX6_rain_225 ?_
                            exact ⟨by simp [oRain, hy2_, c1_, c2_, c3_, c4_, c5_, ePp, ePnn, ePxx, c6_, hwd, c7_, c8_, c9_, (by decide : inr 0 0 1 = true), (by decide : inr 1 0 1 = true)], RWp.of hR⟩
                          · skip
                            refine kb_iload X 8 dX6_rain_212 rfl ?_
                            refine kb_iload X 10 dX6_rain_214 rfl ?_
                            refine kn_idiv X (rU wd nn xx (2 ^ wd)) y (by omega) (by omega) (by omega) dX6_rain_216 ?_
                            refine kb_goto (tgt := 225) X dX6_rain_217 (by decide) ?_
                            refine ke_i X Z dX6_rain_225 ?_
                            exact ⟨by simp [oRain, hy2_, c1_, c2_, c3_, c4_, c5_, ePp, ePnn, ePxx, c6_, hwd, c7_, c8_, c9_, (by decide : inr 0 0 1 = true), (by decide : inr 1 0 1 = true)], RWp.of hR⟩
                        · skip
                          refine kb_iload X 10 dX6_rain_189 rfl ?_
                          refine kb_iload X 11 dX6_rain_191 rfl ?_
                          refine kn_irem X y w (by omega) (by omega) (by omega) dX6_rain_193 ?_
                          refine kb_istore X [1, 2, 3, 4, 5, 6, 7, 8, 9, 10, 11, 12, 0] dX6_rain_194 (by decide) (lv' := [(0, .ref (a 0)), (1, .int (nI (pj))), (2, .int (b)), (3, .int (c)), (4, .int (nI (nn))), (5, .int (nI (xx))), (6, .int (m)), (7, .int (nI (wd))), (8, .int (nI (rU wd nn xx (2 ^ wd)))), (9, .int (nI (rA wd xx (2 ^ wd)))), (10, .int (nI (y))), (11, .int (nI (w))), (12, .int (nI (y % w)))]) rfl ?_
                          refine kb_iload X 11 dX6_rain_196 rfl ?_
                          refine kb_istore X [1, 2, 3, 4, 5, 6, 7, 8, 9, 10, 0, 11, 12] dX6_rain_198 (by decide) (lv' := [(0, .ref (a 0)), (1, .int (nI (pj))), (2, .int (b)), (3, .int (c)), (4, .int (nI (nn))), (5, .int (nI (xx))), (6, .int (m)), (7, .int (nI (wd))), (8, .int (nI (rU wd nn xx (2 ^ wd)))), (9, .int (nI (rA wd xx (2 ^ wd)))), (10, .int (nI (w))), (11, .int (nI (w))), (12, .int (nI (y % w)))]) rfl ?_
                          refine kb_iload X 12 dX6_rain_200 rfl ?_
                          refine kb_istore X [1, 2, 3, 4, 5, 6, 7, 8, 9, 10, 11, 0, 12] dX6_rain_202 (by decide) (lv' := [(0, .ref (a 0)), (1, .int (nI (pj))), (2, .int (b)), (3, .int (c)), (4, .int (nI (nn))), (5, .int (nI (xx))), (6, .int (m)), (7, .int (nI (wd))), (8, .int (nI (rU wd nn xx (2 ^ wd)))), (9, .int (nI (rA wd xx (2 ^ wd)))), (10, .int (nI (w))), (11, .int (nI (y % w))), (12, .int (nI (y % w)))]) rfl ?_
                          refine kw_lvs [0, 1, 2, 3, 4, 5, 6, 7, 8, 9, 10, 11] (lv' := [(0, .ref (a 0)), (1, .int (nI (pj))), (2, .int (b)), (3, .int (c)), (4, .int (nI (nn))), (5, .int (nI (xx))), (6, .int (m)), (7, .int (nI (wd))), (8, .int (nI (rU wd nn xx (2 ^ wd)))), (9, .int (nI (rA wd xx (2 ^ wd)))), (10, .int (nI (w))), (11, .int (nI (y % w)))]) rfl ?_
                          refine kb_goto (tgt := 184) X dX6_rain_204 (by decide) ?_
                          exact kw_to (ih3 w (y % w) ⟨by have := Nat.mod_lt y (show 0 < w by omega); omega, by omega, by have := Nat.mod_lt y (show 0 < w by omega); omega, by rw [gcd_st]; exact hg_⟩) rfl rfl rfl
                    exact kw_to (L184 (rA wd xx (2 ^ wd) + 1) _ _ ⟨Nat.lt_succ_self _, by omega, by omega, rfl⟩) rfl rfl rfl
                  · skip
                    omega
                | succ K_ ih =>
                  intro u hu
                  refine kb_iload X 10 dX6_rain_89 rfl ?_
                  refine kb_iconst (v := (1 : Int32)) X dX6_rain_91 (by decide) ?_
                  refine kb_iload X 7 dX6_rain_92 rfl ?_
                  refine kb_ishl X dX6_rain_94 ?_
                  refine kw_top (b := .int (nI (2 ^ wd))) (by rw [bit_in wd (by omega)]) ?_
                  refine kn_icmp_ge (a := u) (b := 2 ^ wd) (tgt := 176) X (by omega) (by omega) dX6_rain_95 (by decide) (fun c10_ => ?_) (fun c10_ => ?_)
                  · skip
                    omega
                  · skip
                    refine kb_iconst (v := (1 : Int32)) X dX6_rain_98 (by decide) ?_
                    refine kb_istore X [1, 2, 3, 4, 5, 6, 7, 8, 9, 10, 11, 0] dX6_rain_99 (by decide) (lv' := [(0, .ref (a 0)), (1, .int (nI (pj))), (2, .int (b)), (3, .int (c)), (4, .int (nI (nn))), (5, .int (nI (xx))), (6, .int (m)), (7, .int (nI (wd))), (8, .int (nI (rU wd nn xx u))), (9, .int (nI (rA wd xx u))), (10, .int (nI (u))), (11, .int 1)]) rfl ?_
                    refine kb_iconst (v := (0 : Int32)) X dX6_rain_101 (by decide) ?_
                    refine kb_istore X [1, 2, 3, 4, 5, 6, 7, 8, 9, 10, 11, 12, 0] dX6_rain_102 (by decide) (lv' := [(0, .ref (a 0)), (1, .int (nI (pj))), (2, .int (b)), (3, .int (c)), (4, .int (nI (nn))), (5, .int (nI (xx))), (6, .int (m)), (7, .int (nI (wd))), (8, .int (nI (rU wd nn xx u))), (9, .int (nI (rA wd xx u))), (10, .int (nI (u))), (11, .int 1), (12, .int 0)]) rfl ?_
                    have L104 : ∀ (K_ k : Nat), k + K_ = wd → kW x 0 0 104 [(0, .ref (a 0)), (1, .int (nI (pj))), (2, .int (b)), (3, .int (c)), (4, .int (nI (nn))), (5, .int (nI (xx))), (6, .int (m)), (7, .int (nI (wd))), (8, .int (nI (rU wd nn xx u))), (9, .int (nI (rA wd xx u))), (10, .int (nI (u))), (11, .int (nI (wg xx u k))), (12, .int (nI (k)))] [] (wR g a (vN v) so ag (vG v) np ns na nf sl ac ke le tx ap bg wr se wh wo bl ck sw ma ro bs) := by
                      intro K_
                      induction K_ with
                      | zero =>
                        intro k hk
                        refine kb_iload X 12 dX6_rain_104 rfl ?_
                        refine kb_iload X 7 dX6_rain_106 rfl ?_
                        refine kn_icmp_ge (a := k) (b := wd) (tgt := 142) X (by omega) (by omega) dX6_rain_108 (by decide) (fun c11_ => ?_) (fun c11_ => ?_)
                        · skip
                          refine kw_lvs [0, 1, 2, 3, 4, 5, 6, 7, 8, 9, 10, 11] (lv' := [(0, .ref (a 0)), (1, .int (nI (pj))), (2, .int (b)), (3, .int (c)), (4, .int (nI (nn))), (5, .int (nI (xx))), (6, .int (m)), (7, .int (nI (wd))), (8, .int (nI (rU wd nn xx u))), (9, .int (nI (rA wd xx u))), (10, .int (nI (u))), (11, .int (nI (wg xx u k)))]) rfl ?_
                          refine kw_lv (lv' := [(0, .ref (a 0)), (1, .int (nI (pj))), (2, .int (b)), (3, .int (c)), (4, .int (nI (nn))), (5, .int (nI (xx))), (6, .int (m)), (7, .int (nI (wd))), (8, .int (nI (rU wd nn xx u))), (9, .int (nI (rA wd xx u))), (10, .int (nI (u))), (11, .int (nI (wg xx u wd)))]) (by rw [show wd = k by omega]) ?_
                          refine kb_iload X 9 dX6_rain_142 rfl ?_
                          refine kb_iload X 11 dX6_rain_144 rfl ?_
                          refine kn_iadd X (rA wd xx u) (wg xx u wd) dX6_rain_146 ?_
                          refine kb_istore X [1, 2, 3, 4, 5, 6, 7, 8, 9, 0, 10, 11] dX6_rain_147 (by decide) (lv' := [(0, .ref (a 0)), (1, .int (nI (pj))), (2, .int (b)), (3, .int (c)), (4, .int (nI (nn))), (5, .int (nI (xx))), (6, .int (m)), (7, .int (nI (wd))), (8, .int (nI (rU wd nn xx u))), (9, .int (nI ((rA wd xx u) + (wg xx u wd)))), (10, .int (nI (u))), (11, .int (nI (wg xx u wd)))]) rfl ?_
                          refine kb_iload X 8 dX6_rain_149 rfl ?_
                          refine kb_iload X 10 dX6_rain_151 rfl ?_
                          refine kc_Si X (As := [.int (nI (u))]) (rest := [.int (nI (rU wd nn xx u))]) (wr := (wR g a (vN v) so ag (vG v) np ns na nf sl ac ke le tx ap bg wr se wh wo bl ck sw ma ro bs)) (ct_X6_bits l g u (by omega)) dX6_rain_153 rfl (List.Perm.refl _) mc_X6_bits kl_X6_209 ms_X6_bits kn_X6 (na := 1) (by decide +kernel) rfl ⟨Nat.le_of_ble_eq_true rfl, Nat.le_of_ble_eq_true rfl⟩ ⟨rfl, rfl⟩ ⟨Nat.le_of_ble_eq_true rfl, Nat.le_of_ble_eq_true rfl⟩ (Nat.le_of_ble_eq_true rfl) (fun r_ w_ hp_ => ?_)
                          obtain ⟨rfl, rfl⟩ := hp_
                          refine kw_ws (List.nil_append _) ?_
                          refine kb_iload X 4 dX6_rain_156 rfl ?_
                          refine kn_icmp_lt (a := wBits u) (b := nn) (tgt := 166) X (by have := wBits_le u; omega) (by omega) dX6_rain_158 (by decide) (fun c12_ => ?_) (fun c12_ => ?_)
                          · skip
                            refine kb_iconst (v := (0 : Int32)) X dX6_rain_166 (by decide) ?_
                            refine kn_iadd X (rU wd nn xx u) 0 dX6_rain_167 ?_
                            refine kb_istore X [1, 2, 3, 4, 5, 6, 7, 8, 0, 9, 10, 11] dX6_rain_168 (by decide) (lv' := [(0, .ref (a 0)), (1, .int (nI (pj))), (2, .int (b)), (3, .int (c)), (4, .int (nI (nn))), (5, .int (nI (xx))), (6, .int (m)), (7, .int (nI (wd))), (8, .int (nI ((rU wd nn xx u) + 0))), (9, .int (nI ((rA wd xx u) + (wg xx u wd)))), (10, .int (nI (u))), (11, .int (nI (wg xx u wd)))]) rfl ?_
                            refine kw_lvs [0, 1, 2, 3, 4, 5, 6, 7, 8, 9, 10] (lv' := [(0, .ref (a 0)), (1, .int (nI (pj))), (2, .int (b)), (3, .int (c)), (4, .int (nI (nn))), (5, .int (nI (xx))), (6, .int (m)), (7, .int (nI (wd))), (8, .int (nI ((rU wd nn xx u) + 0))), (9, .int (nI ((rA wd xx u) + (wg xx u wd)))), (10, .int (nI (u)))]) rfl ?_
                            refine kb_iinc X 10 [1, 2, 3, 4, 5, 6, 7, 8, 9, 10, 0] (v' := nI (u + 1)) dX6_rain_170 rfl (nI_add _ _) (by decide) (lv' := [(0, .ref (a 0)), (1, .int (nI (pj))), (2, .int (b)), (3, .int (c)), (4, .int (nI (nn))), (5, .int (nI (xx))), (6, .int (m)), (7, .int (nI (wd))), (8, .int (nI ((rU wd nn xx u) + 0))), (9, .int (nI ((rA wd xx u) + (wg xx u wd)))), (10, .int (nI (u + 1)))]) rfl ?_
                            refine kb_goto (tgt := 89) X dX6_rain_173 (by decide) ?_
                            exact kw_to (ih (u + 1) (by omega)) (by rw [rU, rA, if_neg (by omega)] <;> rfl) rfl rfl
                          · skip
                            refine kb_iload X 11 dX6_rain_161 rfl ?_
                            refine kb_goto (tgt := 167) X dX6_rain_163 (by decide) ?_
                            refine kn_iadd X (rU wd nn xx u) (wg xx u wd) dX6_rain_167 ?_
                            refine kb_istore X [1, 2, 3, 4, 5, 6, 7, 8, 0, 9, 10, 11] dX6_rain_168 (by decide) (lv' := [(0, .ref (a 0)), (1, .int (nI (pj))), (2, .int (b)), (3, .int (c)), (4, .int (nI (nn))), (5, .int (nI (xx))), (6, .int (m)), (7, .int (nI (wd))), (8, .int (nI ((rU wd nn xx u) + (wg xx u wd)))), (9, .int (nI ((rA wd xx u) + (wg xx u wd)))), (10, .int (nI (u))), (11, .int (nI (wg xx u wd)))]) rfl ?_
                            refine kw_lvs [0, 1, 2, 3, 4, 5, 6, 7, 8, 9, 10] (lv' := [(0, .ref (a 0)), (1, .int (nI (pj))), (2, .int (b)), (3, .int (c)), (4, .int (nI (nn))), (5, .int (nI (xx))), (6, .int (m)), (7, .int (nI (wd))), (8, .int (nI ((rU wd nn xx u) + (wg xx u wd)))), (9, .int (nI ((rA wd xx u) + (wg xx u wd)))), (10, .int (nI (u)))]) rfl ?_
                            refine kb_iinc X 10 [1, 2, 3, 4, 5, 6, 7, 8, 9, 10, 0] (v' := nI (u + 1)) dX6_rain_170 rfl (nI_add _ _) (by decide) (lv' := [(0, .ref (a 0)), (1, .int (nI (pj))), (2, .int (b)), (3, .int (c)), (4, .int (nI (nn))), (5, .int (nI (xx))), (6, .int (m)), (7, .int (nI (wd))), (8, .int (nI ((rU wd nn xx u) + (wg xx u wd)))), (9, .int (nI ((rA wd xx u) + (wg xx u wd)))), (10, .int (nI (u + 1)))]) rfl ?_
                            refine kb_goto (tgt := 89) X dX6_rain_173 (by decide) ?_
                            exact kw_to (ih (u + 1) (by omega)) (by rw [rU, rA, if_pos (by omega)] <;> rfl) rfl rfl
                        · skip
                          omega
                      | succ K_ ih2 =>
                        intro k hk
                        refine kb_iload X 12 dX6_rain_104 rfl ?_
                        refine kb_iload X 7 dX6_rain_106 rfl ?_
                        refine kn_icmp_ge (a := k) (b := wd) (tgt := 142) X (by omega) (by omega) dX6_rain_108 (by decide) (fun c13_ => ?_) (fun c13_ => ?_)
                        · skip
                          omega
                        · skip
                          refine kb_iload X 11 dX6_rain_111 rfl ?_
                          refine kb_iload X 10 dX6_rain_113 rfl ?_
                          refine kb_iload X 12 dX6_rain_115 rfl ?_
                          refine kc_Si X (As := [.int (nI (u)), .int (nI (k))]) (rest := [.int (nI (wg xx u k))]) (wr := (wR g a (vN v) so ag (vG v) np ns na nf sl ac ke le tx ap bg wr se wh wo bl ck sw ma ro bs)) (ct_X6_has l g u k (by omega) (by omega)) dX6_rain_117 rfl (List.Perm.refl _) mc_X6_has kl_X6_132 ms_X6_has kn_X6 (na := 2) (by decide +kernel) rfl ⟨Nat.le_of_ble_eq_true rfl, Nat.le_of_ble_eq_true rfl⟩ ⟨rfl, rfl⟩ ⟨Nat.le_of_ble_eq_true rfl, Nat.le_of_ble_eq_true rfl⟩ (Nat.le_of_ble_eq_true rfl) (fun r_ w_ hp_ => ?_)
                          obtain ⟨rfl, rfl⟩ := hp_
                          refine kw_ws (List.nil_append _) ?_
                          refine kz_if_eq (b := Nat.testBit u k) (tgt := 128) X dX6_rain_120 (by decide) (fun c14_ => ?_) (fun c14_ => ?_)
                          · skip
                            refine kb_bipush (v := (10 : Int32)) X dX6_rain_128 (by decide) ?_
                            refine kb_iload X 5 dX6_rain_130 rfl ?_
                            refine kn_isub X 10 xx (by omega) dX6_rain_132 ?_
                            refine kn_imul X (wg xx u k) (10 - xx) dX6_rain_133 ?_
                            refine kb_istore X [1, 2, 3, 4, 5, 6, 7, 8, 9, 10, 11, 0, 12] dX6_rain_134 (by decide) (lv' := [(0, .ref (a 0)), (1, .int (nI (pj))), (2, .int (b)), (3, .int (c)), (4, .int (nI (nn))), (5, .int (nI (xx))), (6, .int (m)), (7, .int (nI (wd))), (8, .int (nI (rU wd nn xx u))), (9, .int (nI (rA wd xx u))), (10, .int (nI (u))), (11, .int (nI ((wg xx u k) * (10 - xx)))), (12, .int (nI (k)))]) rfl ?_
                            refine kb_iinc X 12 [1, 2, 3, 4, 5, 6, 7, 8, 9, 10, 11, 12, 0] (v' := nI (k + 1)) dX6_rain_136 rfl (nI_add _ _) (by decide) (lv' := [(0, .ref (a 0)), (1, .int (nI (pj))), (2, .int (b)), (3, .int (c)), (4, .int (nI (nn))), (5, .int (nI (xx))), (6, .int (m)), (7, .int (nI (wd))), (8, .int (nI (rU wd nn xx u))), (9, .int (nI (rA wd xx u))), (10, .int (nI (u))), (11, .int (nI ((wg xx u k) * (10 - xx)))), (12, .int (nI (k + 1)))]) rfl ?_
                            refine kb_goto (tgt := 104) X dX6_rain_139 (by decide) ?_
                            exact kw_to (ih2 (k + 1) (by omega)) (by rw [wg]; simp [c1_, c2_, c3_, c4_, c5_, ePp, ePnn, ePxx, c6_, hwd, c10_, c13_, c14_]) rfl rfl
                          · skip
                            refine kb_iload X 5 dX6_rain_123 rfl ?_
                            refine kb_goto (tgt := 133) X dX6_rain_125 (by decide) ?_
                            refine kn_imul X (wg xx u k) xx dX6_rain_133 ?_
                            refine kb_istore X [1, 2, 3, 4, 5, 6, 7, 8, 9, 10, 11, 0, 12] dX6_rain_134 (by decide) (lv' := [(0, .ref (a 0)), (1, .int (nI (pj))), (2, .int (b)), (3, .int (c)), (4, .int (nI (nn))), (5, .int (nI (xx))), (6, .int (m)), (7, .int (nI (wd))), (8, .int (nI (rU wd nn xx u))), (9, .int (nI (rA wd xx u))), (10, .int (nI (u))), (11, .int (nI ((wg xx u k) * xx))), (12, .int (nI (k)))]) rfl ?_
                            refine kb_iinc X 12 [1, 2, 3, 4, 5, 6, 7, 8, 9, 10, 11, 12, 0] (v' := nI (k + 1)) dX6_rain_136 rfl (nI_add _ _) (by decide) (lv' := [(0, .ref (a 0)), (1, .int (nI (pj))), (2, .int (b)), (3, .int (c)), (4, .int (nI (nn))), (5, .int (nI (xx))), (6, .int (m)), (7, .int (nI (wd))), (8, .int (nI (rU wd nn xx u))), (9, .int (nI (rA wd xx u))), (10, .int (nI (u))), (11, .int (nI ((wg xx u k) * xx))), (12, .int (nI (k + 1)))]) rfl ?_
                            refine kb_goto (tgt := 104) X dX6_rain_139 (by decide) ?_
                            exact kw_to (ih2 (k + 1) (by omega)) (by rw [wg]; simp [c1_, c2_, c3_, c4_, c5_, ePp, ePnn, ePxx, c6_, hwd, c10_, c13_, c14_]) rfl rfl
                    exact kw_to (L104 wd 0 (by omega)) rfl rfl rfl
              exact kw_to (L89 (2 ^ wd) 0 (by omega)) rfl rfl rfl
            · skip
              refine kb_bipush (v := (-2 : Int32)) X dX6_rain_64 (by decide) ?_
              refine ke_i X Z dX6_rain_66 ?_
              exact ⟨by simp [oRain, c1_, c2_, c3_, c4_, c5_, ePp, ePnn, ePxx, c6_], RWp.of hR⟩
          · skip
            refine kb_iconst (v := (-1 : Int32)) X dX6_rain_53 (by decide) ?_
            refine ke_i X Z dX6_rain_54 ?_
            exact ⟨by simp [oRain, c1_, c2_, c3_, c4_, c5_], RWp.of hR⟩

set_option maxHeartbeats 4000000 in
set_option maxRecDepth 100000 in
theorem ct_X6_year (l : Launch) (g : kw_G) (a : Nat → Nat) (so : Nat → Int32) (ag : Nat → Int32) (np : Nat) (ns : Nat → Int32) (na : Nat → Int32) (nf : Int32) (sl : Nat → Int32) (ac : Nat) (ke : Nat) (le : Nat) (tx : Nat → Nat) (ap : Nat) (bg : Nat) (wr : Bool) (se : Nat) (wh : Nat → Nat) (wo : Nat → Nat) (bl : Nat → Int32) (ck : Nat → Int32) (sw : Nat → Bool) (ma : Nat) (ro : Nat → Nat) (bs : Nat → Nat) (v : VS) (us ks : List VS) (tf : Nat → Nat) (tn : Nat) (s : SS) (hR : RI (vN v) so ag (vG v) sl ac ke le tx se wh wo bl ck sw v us ks tf tn s) (z_ n m : Int32) : kMi l g yX6_year cX6_year 11 .int (kw_rm 6 0 0) 0 0 [.ref (a 0), .int (z_), .int (n), .int (m)] (wR g a (vN v) so ag (vG v) np ns na nf sl ac ke le tx ap bg wr se wh wo bl ck sw ma ro bs) (fun r w => r = oYear v z_ n m ∧ RWp g a v us ks tf tn s w) := by
  refine kMi_of (by decide +kernel) (Nat.le_of_ble_eq_true rfl) (fun x (X : kX l g RX6 cX6_year 11 (kw_rm 6 0 0) x) (Z : kZi .int _ 0 0 x) => ?_)
  show kW x 0 0 0 [(0, .ref (a 0)), (1, .int (z_)), (2, .int (n)), (3, .int (m))] [] (wR g a (vN v) so ag (vG v) np ns na nf sl ac ke le tx ap bg wr se wh wo bl ck sw ma ro bs)
  have hE := hR.1
  have hG := hR.2.1
  have hK := hR.2.1.1
  have hv := hR.2.1.2.1
  have hT := hR.2.1.2.2.1
  have hN0 := hR.2.1.2.2.2
  have h6 := hv.1
  have hx64 := hv.2.1
  have hh64 := hv.2.2
  refine kb_iload_n X 1 dX6_year_0 rfl rfl ?_
  refine kb_i2l (v := z_.toInt64) X dX6_year_1 rfl ?_
  refine kb_lconst (v := 0) X dX6_year_2 (by decide) ?_
  refine kb_ldc2 X kk_X6_236 dX6_year_3 ?_
  refine kc_Si X (As := [.long (z_.toInt64), .long ((0 : Int64)), .long ((9999 : Int64))]) (rest := []) (wr := (wR g a (vN v) so ag (vG v) np ns na nf sl ac ke le tx ap bg wr se wh wo bl ck sw ma ro bs)) (ct_X6_in l g z_.toInt64 (0 : Int64) (9999 : Int64)) dX6_year_6 rfl (List.Perm.refl _) mc_X6_in kl_X6_71 ms_X6_in kn_X6 (na := 3) (by decide +kernel) rfl ⟨Nat.le_of_ble_eq_true rfl, Nat.le_of_ble_eq_true rfl⟩ ⟨rfl, rfl⟩ ⟨Nat.le_of_ble_eq_true rfl, Nat.le_of_ble_eq_true rfl⟩ (Nat.le_of_ble_eq_true rfl) (fun r_ w_ hp_ => ?_)
  obtain ⟨rfl, rfl⟩ := hp_
  refine kw_ws (List.nil_append _) ?_
  refine kw_top (b := .int (zI (inr z_ (0 : Int32) (9999 : Int32)))) (congrArg (fun q => Value.int (zI q)) (lin_c (by decide) (by decide))) ?_
  refine kz_if_eq (b := inr z_ (0 : Int32) (9999 : Int32)) (tgt := 34) X dX6_year_9 (by decide) (fun c1_ => ?_) (fun c1_ => ?_)
  · skip
    refine kb_iconst (v := (-1 : Int32)) X dX6_year_34 (by decide) ?_
    refine ke_i X Z dX6_year_35 ?_
    exact ⟨by simp [oYear, c1_], RWp.of hR⟩
  · skip
    obtain ⟨zj, hz1, hz2, ez, ePz⟩ := inr_n (a := 0) (b := 9999) (by decide) (by decide) c1_
    refine kb_iload_n X 2 dX6_year_12 rfl rfl ?_
    refine kb_i2l (v := n.toInt64) X dX6_year_13 rfl ?_
    refine kb_lconst (v := 1) X dX6_year_14 (by decide) ?_
    refine kb_ldc2 X kk_X6_238 dX6_year_15 ?_
    refine kc_Si X (As := [.long (n.toInt64), .long ((1 : Int64)), .long ((60 : Int64))]) (rest := []) (wr := (wR g a (vN v) so ag (vG v) np ns na nf sl ac ke le tx ap bg wr se wh wo bl ck sw ma ro bs)) (ct_X6_in l g n.toInt64 (1 : Int64) (60 : Int64)) dX6_year_18 rfl (List.Perm.refl _) mc_X6_in kl_X6_71 ms_X6_in kn_X6 (na := 3) (by decide +kernel) rfl ⟨Nat.le_of_ble_eq_true rfl, Nat.le_of_ble_eq_true rfl⟩ ⟨rfl, rfl⟩ ⟨Nat.le_of_ble_eq_true rfl, Nat.le_of_ble_eq_true rfl⟩ (Nat.le_of_ble_eq_true rfl) (fun r_ w_ hp_ => ?_)
    obtain ⟨rfl, rfl⟩ := hp_
    refine kw_ws (List.nil_append _) ?_
    refine kw_top (b := .int (zI (inr n (1 : Int32) (60 : Int32)))) (congrArg (fun q => Value.int (zI q)) (lin_c (by decide) (by decide))) ?_
    refine kz_if_eq (b := inr n (1 : Int32) (60 : Int32)) (tgt := 34) X dX6_year_21 (by decide) (fun c2_ => ?_) (fun c2_ => ?_)
    · skip
      refine kb_iconst (v := (-1 : Int32)) X dX6_year_34 (by decide) ?_
      refine ke_i X Z dX6_year_35 ?_
      exact ⟨by simp [oYear, c1_, c2_], RWp.of hR⟩
    · skip
      obtain ⟨nj, hn1, hn2, en, ePn⟩ := inr_n (a := 1) (b := 60) (by decide) (by decide) c2_
      refine kb_iload_n X 3 dX6_year_24 rfl rfl ?_
      refine kb_i2l (v := m.toInt64) X dX6_year_25 rfl ?_
      refine kb_lconst (v := 0) X dX6_year_26 (by decide) ?_
      refine kb_lconst (v := 1) X dX6_year_27 (by decide) ?_
      refine kc_Si X (As := [.long (m.toInt64), .long ((0 : Int64)), .long ((1 : Int64))]) (rest := []) (wr := (wR g a (vN v) so ag (vG v) np ns na nf sl ac ke le tx ap bg wr se wh wo bl ck sw ma ro bs)) (ct_X6_in l g m.toInt64 (0 : Int64) (1 : Int64)) dX6_year_28 rfl (List.Perm.refl _) mc_X6_in kl_X6_71 ms_X6_in kn_X6 (na := 3) (by decide +kernel) rfl ⟨Nat.le_of_ble_eq_true rfl, Nat.le_of_ble_eq_true rfl⟩ ⟨rfl, rfl⟩ ⟨Nat.le_of_ble_eq_true rfl, Nat.le_of_ble_eq_true rfl⟩ (Nat.le_of_ble_eq_true rfl) (fun r_ w_ hp_ => ?_)
      obtain ⟨rfl, rfl⟩ := hp_
      refine kw_ws (List.nil_append _) ?_
      refine kw_top (b := .int (zI (inr m (0 : Int32) (1 : Int32)))) (congrArg (fun q => Value.int (zI q)) (lin_c (by decide) (by decide))) ?_
      refine kz_if_ne (b := inr m (0 : Int32) (1 : Int32)) (tgt := 36) X dX6_year_31 (by decide) (fun c3_ => ?_) (fun c3_ => ?_)
      · skip
        refine kw_lv (lv' := [(0, .ref (a 0)), (1, .int (nI (zj))), (2, .int (n)), (3, .int (m))]) (by rw [ez]) ?_
        refine kw_lv (lv' := [(0, .ref (a 0)), (1, .int (nI (zj))), (2, .int (nI (nj))), (3, .int (m))]) (by rw [en]) ?_
        refine kb_aload_n X 0 dX6_year_36 rfl rfl ?_
        refine kb_iconst (v := (0 : Int32)) X dX6_year_37 (by decide) ?_
        refine kb_sipush (v := (902 : Int32)) X dX6_year_38 (by decide) ?_
        refine kc_Vv X (As := [.int 0, .int 902]) (rest := []) (wr := []) (ct_X6_copies l g a (vN v) so ag (vG v) np ns na nf sl ac ke le tx ap bg wr se wh wo bl ck sw ma ro bs 0 902 (by omega) (by omega) (by omega)) dX6_year_41 rfl (kw_pall _) mc_X6_copies kl_X6_119 mi_X6_copies mv_X6_copies kn_X6 0 rfl rfl rfl (na := 2) (by decide +kernel) rfl ⟨Nat.le_of_ble_eq_true rfl, Nat.le_of_ble_eq_true rfl⟩ ⟨rfl, rfl⟩ ⟨Nat.le_of_ble_eq_true rfl, Nat.le_of_ble_eq_true rfl⟩ (Nat.le_of_ble_eq_true rfl) (fun w_ hp_ => ?_)
        obtain ⟨sl4_, hC5_, rfl⟩ := hp_
        have hE6_ := hE.fr hC5_.2 (by omega)
        have hE7_ := hE.cp hC5_
        refine kw_ws (List.append_nil _) ?_
        refine kb_iconst (v := (0 : Int32)) X dX6_year_44 (by decide) ?_
        refine kb_istore X [1, 2, 3, 4, 0] dX6_year_45 (by decide) (lv' := [(0, .ref (a 0)), (1, .int (nI (zj))), (2, .int (nI (nj))), (3, .int (m)), (4, .int 0)]) rfl ?_
        refine kb_iconst (v := (0 : Int32)) X dX6_year_47 (by decide) ?_
        refine kb_istore X [1, 2, 3, 4, 5, 0] dX6_year_48 (by decide) (lv' := [(0, .ref (a 0)), (1, .int (nI (zj))), (2, .int (nI (nj))), (3, .int (m)), (4, .int 0), (5, .int 0)]) rfl ?_
        have L50 : ∀ (K_ k : Nat) (z : Nat → Int32), k + K_ = nj ∧ EN z 902 (yV v zj k) ∧ FR sl z 902 → kW x 0 0 50 [(0, .ref (a 0)), (1, .int (nI (zj))), (2, .int (nI (nj))), (3, .int (m)), (4, .int (nI (yC v zj k))), (5, .int (nI (k)))] [] (wR g a (vN v) so ag (vG v) np ns na nf z ac ke le tx ap bg wr se wh wo bl ck sw ma ro bs) := by
          intro K_
          induction K_ with
          | zero =>
            intro k z hh
            obtain ⟨hk_, hz, hFz⟩ := id hh
            have hgk := hG.yV zj k
            have hN : vN (yV v zj k) = vN v := hgk.1.1.symm
            have hdr := dr_lt zj k
            have hm1 : dr zj k % vN v < vN v := Nat.mod_lt _ hN0
            have hm2 : dr zj k / 128 % vN v < vN v := Nat.mod_lt _ hN0
            have hm3 : dr zj k % vN v < vN (yV v zj k) := by rw [hN]; exact hm1
            have hGl : ∀ b c, wGuests (yV v zj k) (dr zj k % vN v) b c < 64 := fun b c => wGuests_lt _ _ b c hgk.2.1.1
            refine kb_iload X 5 dX6_year_50 rfl ?_
            refine kb_iload_n X 2 dX6_year_52 rfl rfl ?_
            refine kn_icmp_ge (a := k) (b := nj) (tgt := 220) X (by omega) (by omega) dX6_year_53 (by decide) (fun c8_ => ?_) (fun c8_ => ?_)
            · skip
              refine kb_iload_n X 3 dX6_year_220 rfl rfl ?_
              refine kb_if_ne (tgt := 229) X dX6_year_221 (by decide) (fun c9_ => ?_) (fun c9_ => ?_)
              · skip
                refine kb_aload_n X 0 dX6_year_229 rfl rfl ?_
                refine kb_sipush (v := (902 : Int32)) X dX6_year_230 (by decide) ?_
                refine kc_Vi X (As := [.int 902]) (rest := []) (wr := []) (ct_X6_allCoins l g a (vN v) so ag (vG v) np ns na nf z ac ke le tx ap bg wr se wh wo bl ck sw ma ro bs 902 (yV v zj k) (by omega) hz hgk.1 hgk.2.1  ) dX6_year_233 rfl (kw_pall _) mc_X6_allCoins kl_X6_246 mi_X6_allCoins mv_X6_allCoins kn_X6 0 rfl rfl rfl (na := 1) (by decide +kernel) rfl ⟨Nat.le_of_ble_eq_true rfl, Nat.le_of_ble_eq_true rfl⟩ ⟨rfl, rfl⟩ ⟨Nat.le_of_ble_eq_true rfl, Nat.le_of_ble_eq_true rfl⟩ (Nat.le_of_ble_eq_true rfl) (fun r_ w_ hp_ => ?_)
                obtain ⟨rfl, rfl⟩ := hp_
                refine kw_ws (List.append_nil _) ?_
                refine ke_i X Z dX6_year_236 ?_
                have e_ : k = nj := by omega
                subst e_
                exact ⟨by simp [oYear, hN, c1_, c2_, c3_, ePz, ePn, c8_, c9_, (by decide : inr 0 0 1 = true), (by decide : inr 1 0 1 = true)], RWp.of (hR.try hFz)⟩
              · skip
                refine kb_iload X 4 dX6_year_224 rfl ?_
                refine kb_goto (tgt := 236) X dX6_year_226 (by decide) ?_
                refine ke_i X Z dX6_year_236 ?_
                have e_ : k = nj := by omega
                subst e_
                exact ⟨by simp [oYear, hN, c1_, c2_, c3_, ePz, ePn, c8_, c9_, (by decide : inr 0 0 1 = true), (by decide : inr 1 0 1 = true)], RWp.of (hR.try hFz)⟩
            · skip
              omega
          | succ K_ ih =>
            intro k z hh
            obtain ⟨hk_, hz, hFz⟩ := id hh
            have hgk := hG.yV zj k
            have hN : vN (yV v zj k) = vN v := hgk.1.1.symm
            have hdr := dr_lt zj k
            have hm1 : dr zj k % vN v < vN v := Nat.mod_lt _ hN0
            have hm2 : dr zj k / 128 % vN v < vN v := Nat.mod_lt _ hN0
            have hm3 : dr zj k % vN v < vN (yV v zj k) := by rw [hN]; exact hm1
            have hGl : ∀ b c, wGuests (yV v zj k) (dr zj k % vN v) b c < 64 := fun b c => wGuests_lt _ _ b c hgk.2.1.1
            refine kb_iload X 5 dX6_year_50 rfl ?_
            refine kb_iload_n X 2 dX6_year_52 rfl rfl ?_
            refine kn_icmp_ge (a := k) (b := nj) (tgt := 220) X (by omega) (by omega) dX6_year_53 (by decide) (fun c10_ => ?_) (fun c10_ => ?_)
            · skip
              omega
            · skip
              refine kb_ldc2 X kk_X6_240 dX6_year_56 ?_
              refine kb_iload_n X 1 dX6_year_59 rfl rfl ?_
              refine kb_i2l (v := (nI (zj)).toInt64) X dX6_year_60 rfl ?_
              refine kb_lmul X dX6_year_61 ?_
              refine kb_ldc2 X kk_X6_242 dX6_year_62 ?_
              refine kb_iload X 5 dX6_year_65 rfl ?_
              refine kb_i2l (v := (nI (k)).toInt64) X dX6_year_67 rfl ?_
              refine kb_lmul X dX6_year_68 ?_
              refine kb_ladd X dX6_year_69 ?_
              refine kb_lconst (v := 1) X dX6_year_70 (by decide) ?_
              refine kb_ladd X dX6_year_71 ?_
              refine kw_top (b := .long (Int64.ofNat (7919 * zj + 6151 * k + 1))) (by rw [dr_x zj k (by omega) (by omega)]) ?_
              refine kb_lstore X [1, 2, 3, 4, 5, 6, 0] dX6_year_72 (by decide) (lv' := [(0, .ref (a 0)), (1, .int (nI (zj))), (2, .int (nI (nj))), (3, .int (m)), (4, .int (nI (yC v zj k))), (5, .int (nI (k))), (6, .long (Int64.ofNat (7919 * zj + 6151 * k + 1)))]) rfl ?_
              refine kb_lload X 6 dX6_year_74 rfl ?_
              refine kb_lload X 6 dX6_year_76 rfl ?_
              refine kb_lmul X dX6_year_78 ?_
              refine kb_ldc2 X kk_X6_244 dX6_year_79 ?_
              refine kb_lrem X dX6_year_82 (by decide) ?_
              refine kb_l2i (v := (((Int64.ofNat (7919 * zj + 6151 * k + 1)) * (Int64.ofNat (7919 * zj + 6151 * k + 1))) - ((Int64.ofNat (7919 * zj + 6151 * k + 1)) * (Int64.ofNat (7919 * zj + 6151 * k + 1))) / (65521 : Int64) * (65521 : Int64)).toInt32) X dX6_year_83 rfl ?_
              refine kw_top (b := .int (nI (dr zj k))) (by rw [dr_m _ (by omega)]; rfl) ?_
              refine kb_istore X [1, 2, 3, 4, 5, 6, 7, 0] dX6_year_84 (by decide) (lv' := [(0, .ref (a 0)), (1, .int (nI (zj))), (2, .int (nI (nj))), (3, .int (m)), (4, .int (nI (yC v zj k))), (5, .int (nI (k))), (6, .long (Int64.ofNat (7919 * zj + 6151 * k + 1))), (8, .int (nI (dr zj k)))]) rfl ?_
              refine kb_iload X 7 dX6_year_86 rfl ?_
              refine kb_aload_n X 0 dX6_year_88 rfl rfl ?_
              refine kb_get (v := .int (nI ((vN v)))) (C := RX6) (T := TX6) (N := 25) (ci := 6) X kw_iX6 rfl 0 0 rfl (by decide) kf_X6_65 rfl rfl dX6_year_89 ?_
              refine kn_irem X (dr zj k) (vN v) (by omega) (by omega) (by omega) dX6_year_92 ?_
              refine kb_istore X [1, 2, 3, 4, 5, 6, 7, 8, 0] dX6_year_93 (by decide) (lv' := [(0, .ref (a 0)), (1, .int (nI (zj))), (2, .int (nI (nj))), (3, .int (m)), (4, .int (nI (yC v zj k))), (5, .int (nI (k))), (6, .long (Int64.ofNat (7919 * zj + 6151 * k + 1))), (8, .int (nI (dr zj k))), (9, .int (nI ((dr zj k) % (vN v))))]) rfl ?_
              refine kb_iload X 7 dX6_year_95 rfl ?_
              refine kb_sipush (v := (128 : Int32)) X dX6_year_97 (by decide) ?_
              refine kn_idiv X (dr zj k) 128 (by omega) (by omega) (by omega) dX6_year_100 ?_
              refine kb_aload_n X 0 dX6_year_101 rfl rfl ?_
              refine kb_get (v := .int (nI ((vN v)))) (C := RX6) (T := TX6) (N := 25) (ci := 6) X kw_iX6 rfl 0 0 rfl (by decide) kf_X6_65 rfl rfl dX6_year_102 ?_
              refine kn_irem X ((dr zj k) / 128) (vN v) (by omega) (by omega) (by omega) dX6_year_105 ?_
              refine kb_istore X [1, 2, 3, 4, 5, 6, 7, 8, 9, 0] dX6_year_106 (by decide) (lv' := [(0, .ref (a 0)), (1, .int (nI (zj))), (2, .int (nI (nj))), (3, .int (m)), (4, .int (nI (yC v zj k))), (5, .int (nI (k))), (6, .long (Int64.ofNat (7919 * zj + 6151 * k + 1))), (8, .int (nI (dr zj k))), (9, .int (nI ((dr zj k) % (vN v)))), (10, .int (nI (((dr zj k) / 128) % (vN v))))]) rfl ?_
              refine kb_aload_n X 0 dX6_year_108 rfl rfl ?_
              refine kb_sipush (v := (902 : Int32)) X dX6_year_109 (by decide) ?_
              refine kb_iload X 8 dX6_year_112 rfl ?_
              refine kb_iload X 7 dX6_year_114 rfl ?_
              refine kb_bipush (v := (8 : Int32)) X dX6_year_116 (by decide) ?_
              refine kn_idiv X (dr zj k) 8 (by omega) (by omega) (by omega) dX6_year_118 ?_
              refine kb_iconst (v := (4 : Int32)) X dX6_year_119 (by decide) ?_
              refine kn_irem X ((dr zj k) / 8) 4 (by omega) (by omega) (by omega) dX6_year_120 ?_
              refine kb_iload X 7 dX6_year_121 rfl ?_
              refine kb_bipush (v := (32 : Int32)) X dX6_year_123 (by decide) ?_
              refine kn_idiv X (dr zj k) 32 (by omega) (by omega) (by omega) dX6_year_125 ?_
              refine kb_iconst (v := (4 : Int32)) X dX6_year_126 (by decide) ?_
              refine kn_irem X ((dr zj k) / 32) 4 (by omega) (by omega) (by omega) dX6_year_127 ?_
              refine kc_Vi X (As := [.int 902, .int (nI ((dr zj k) % (vN v))), .int (nI (((dr zj k) / 8) % 4)), .int (nI (((dr zj k) / 32) % 4))]) (rest := []) (wr := []) (ct_X6_canHave l g a (vN v) so ag (vG v) np ns na nf z ac ke le tx ap bg wr se wh wo bl ck sw ma ro bs 902 (yV v zj k) (by omega) hz hgk.1 hgk.2.1 ((dr zj k) % (vN v)) (nI (((dr zj k) / 8) % 4)) (nI (((dr zj k) / 32) % 4)) hm3) dX6_year_128 rfl (kw_pall _) mc_X6_canHave kl_X6_190 mi_X6_canHave mv_X6_canHave kn_X6 0 rfl rfl rfl (na := 4) (by decide +kernel) rfl ⟨Nat.le_of_ble_eq_true rfl, Nat.le_of_ble_eq_true rfl⟩ ⟨rfl, rfl⟩ ⟨Nat.le_of_ble_eq_true rfl, Nat.le_of_ble_eq_true rfl⟩ (Nat.le_of_ble_eq_true rfl) (fun r_ w_ hp_ => ?_)
              obtain ⟨rfl, rfl⟩ := hp_
              refine kw_ws (List.append_nil _) ?_
              refine kz_if_eq (b := wCan (yV v zj k) ((dr zj k) % (vN v)) (nI (((dr zj k) / 8) % 4)) (nI (((dr zj k) / 32) % 4))) (tgt := 168) X dX6_year_131 (by decide) (fun c11_ => ?_) (fun c11_ => ?_)
              · skip
                have cH_ := c11_
                refine kb_aload_n X 0 dX6_year_168 rfl rfl ?_
                refine kb_sipush (v := (902 : Int32)) X dX6_year_169 (by decide) ?_
                refine kb_iload X 8 dX6_year_172 rfl ?_
                refine kb_iload X 9 dX6_year_174 rfl ?_
                refine kc_Vi X (As := [.int 902, .int (nI ((dr zj k) % (vN v))), .int (nI (((dr zj k) / 128) % (vN v)))]) (rest := []) (wr := []) (ct_X6_canGive l g a (vN v) so ag (vG v) np ns na nf z ac ke le tx ap bg wr se wh wo bl ck sw ma ro bs 902 (yV v zj k) (by omega) hz hgk.1 hgk.2.1 ((dr zj k) % (vN v)) (((dr zj k) / 128) % (vN v)) (by omega) (by omega)) dX6_year_176 rfl (kw_pall _) mc_X6_canGive kl_X6_200 mi_X6_canGive mv_X6_canGive kn_X6 0 rfl rfl rfl (na := 3) (by decide +kernel) rfl ⟨Nat.le_of_ble_eq_true rfl, Nat.le_of_ble_eq_true rfl⟩ ⟨rfl, rfl⟩ ⟨Nat.le_of_ble_eq_true rfl, Nat.le_of_ble_eq_true rfl⟩ (Nat.le_of_ble_eq_true rfl) (fun r_ w_ hp_ => ?_)
                obtain ⟨rfl, rfl⟩ := hp_
                refine kw_ws (List.append_nil _) ?_
                refine kz_if_eq (b := !decide (((dr zj k) % (vN v)) = (((dr zj k) / 128) % (vN v))) && wCanGive (yV v zj k) ((dr zj k) % (vN v)) (((dr zj k) / 128) % (vN v))) (tgt := 193) X dX6_year_179 (by decide) (fun c12_ => ?_) (fun c12_ => ?_)
                · skip
                  have cG_ := c12_
                  refine kb_aload_n X 0 dX6_year_193 rfl rfl ?_
                  refine kb_get (v := .ref (a 5)) (C := RX6) (T := TX6) (N := 25) (ci := 6) X kw_iX6 rfl 0 8 rfl (by decide) kf_X6_22 rfl rfl dX6_year_194 ?_
                  refine kb_sipush (v := (910 : Int32)) X dX6_year_197 (by decide) ?_
                  refine kb_dup2 X dX6_year_200 rfl rfl ?_
                  refine kb_iald (i := 910) X 5 rfl (by omega) (by decide) dX6_year_201 ?_
                  refine kw_top (b := .int (vY (yV v zj k))) (congrArg Value.int (hz.y (by omega))) ?_
                  refine kb_iconst (v := (1 : Int32)) X dX6_year_202 (by decide) ?_
                  refine kb_iadd X dX6_year_203 ?_
                  refine kb_iast (i := 910) X 5 rfl (by omega) (by decide) dX6_year_204 (ws' := wR g a (vN v) so ag (vG v) np ns na nf (upd z 910 ((vY (yV v zj k)) + (1 : Int32))) ac ke le tx ap bg wr se wh wo bl ck sw ma ro bs) rfl ?_
                  generalize hsl13_ : upd z 910 ((vY (yV v zj k)) + (1 : Int32)) = sl13_
                  have hE14_ : EN sl13_ 902 (sY (yV v zj k) ((vY (yV v zj k)) + (1 : Int32))) := by rw [← hsl13_]; exact hz.sy (by omega)
                  have hF15_ : FR sl sl13_ 902 := by rw [← hsl13_]; exact FR.up hFz (by omega) (by omega)
                  refine kb_aload_n X 0 dX6_year_205 rfl rfl ?_
                  refine kb_get (v := .ref (a 5)) (C := RX6) (T := TX6) (N := 25) (ci := 6) X kw_iX6 rfl 0 8 rfl (by decide) kf_X6_22 rfl rfl dX6_year_206 ?_
                  refine kb_sipush (v := (911 : Int32)) X dX6_year_209 (by decide) ?_
                  refine kb_iconst (v := (0 : Int32)) X dX6_year_212 (by decide) ?_
                  refine kb_iast (i := 911) X 5 rfl (by omega) (by decide) dX6_year_213 (ws' := wR g a (vN v) so ag (vG v) np ns na nf (upd sl13_ 911 (0 : Int32)) ac ke le tx ap bg wr se wh wo bl ck sw ma ro bs) rfl ?_
                  generalize hsl16_ : upd sl13_ 911 (0 : Int32) = sl16_
                  have hE17_ : EN sl16_ 902 (sZ (sY (yV v zj k) ((vY (yV v zj k)) + (1 : Int32))) (0 : Int32)) := by rw [← hsl16_]; exact hE14_.sz (by omega)
                  have hF18_ : FR sl sl16_ 902 := by rw [← hsl16_]; exact FR.up hF15_ (by omega) (by omega)
                  refine kw_lvs [0, 1, 2, 3, 4, 5] (lv' := [(0, .ref (a 0)), (1, .int (nI (zj))), (2, .int (nI (nj))), (3, .int (m)), (4, .int (nI (yC v zj k))), (5, .int (nI (k)))]) rfl ?_
                  refine kb_iinc X 5 [1, 2, 3, 4, 5, 0] (v' := nI (k + 1)) dX6_year_214 rfl (nI_add _ _) (by decide) (lv' := [(0, .ref (a 0)), (1, .int (nI (zj))), (2, .int (nI (nj))), (3, .int (m)), (4, .int (nI (yC v zj k))), (5, .int (nI (k + 1)))]) rfl ?_
                  refine kb_goto (tgt := 50) X dX6_year_217 (by decide) ?_
                  exact kw_to (ih (k + 1) sl16_ ⟨by omega, by rw [yV, wDay, wDayP, hN, if_neg (by rw [cH_]; decide), if_neg (by rw [cG_]; decide)]; exact hE17_, hF18_⟩) (by rw [yC, wDayC, hN, if_neg (by rw [cH_]; decide)] <;> rfl) rfl rfl
                · skip
                  have cG_ := c12_
                  refine kb_aload_n X 0 dX6_year_182 rfl rfl ?_
                  refine kb_sipush (v := (902 : Int32)) X dX6_year_183 (by decide) ?_
                  refine kb_iload X 8 dX6_year_186 rfl ?_
                  refine kb_iload X 9 dX6_year_188 rfl ?_
                  refine kc_Vv X (As := [.int 902, .int (nI ((dr zj k) % (vN v))), .int (nI (((dr zj k) / 128) % (vN v)))]) (rest := []) (wr := []) (ct_X6_gives l g a (vN v) so ag (vG v) np ns na nf z ac ke le tx ap bg wr se wh wo bl ck sw ma ro bs 902 (yV v zj k) (by omega) hz hgk.1 hgk.2.1 ((dr zj k) % (vN v)) (((dr zj k) / 128) % (vN v)) (by omega) (by omega)) dX6_year_190 rfl (kw_pall _) mc_X6_gives kl_X6_204 mi_X6_gives mv_X6_gives kn_X6 0 rfl rfl rfl (na := 3) (by decide +kernel) rfl ⟨Nat.le_of_ble_eq_true rfl, Nat.le_of_ble_eq_true rfl⟩ ⟨rfl, rfl⟩ ⟨Nat.le_of_ble_eq_true rfl, Nat.le_of_ble_eq_true rfl⟩ (Nat.le_of_ble_eq_true rfl) (fun w_ hp_ => ?_)
                  obtain ⟨sl19_, hE20_, hF21_, rfl⟩ := hp_
                  have hF22_ : FR sl sl19_ 902 := FR.tr hFz hF21_
                  refine kw_ws (List.append_nil _) ?_
                  refine kb_aload_n X 0 dX6_year_193 rfl rfl ?_
                  refine kb_get (v := .ref (a 5)) (C := RX6) (T := TX6) (N := 25) (ci := 6) X kw_iX6 rfl 0 8 rfl (by decide) kf_X6_22 rfl rfl dX6_year_194 ?_
                  refine kb_sipush (v := (910 : Int32)) X dX6_year_197 (by decide) ?_
                  refine kb_dup2 X dX6_year_200 rfl rfl ?_
                  refine kb_iald (i := 910) X 5 rfl (by omega) (by decide) dX6_year_201 ?_
                  refine kw_top (b := .int (vY (wGive (yV v zj k) ((dr zj k) % (vN v)) (((dr zj k) / 128) % (vN v))))) (congrArg Value.int (hE20_.y (by omega))) ?_
                  refine kb_iconst (v := (1 : Int32)) X dX6_year_202 (by decide) ?_
                  refine kb_iadd X dX6_year_203 ?_
                  refine kb_iast (i := 910) X 5 rfl (by omega) (by decide) dX6_year_204 (ws' := wR g a (vN v) so ag (vG v) np ns na nf (upd sl19_ 910 ((vY (wGive (yV v zj k) ((dr zj k) % (vN v)) (((dr zj k) / 128) % (vN v)))) + (1 : Int32))) ac ke le tx ap bg wr se wh wo bl ck sw ma ro bs) rfl ?_
                  generalize hsl23_ : upd sl19_ 910 ((vY (wGive (yV v zj k) ((dr zj k) % (vN v)) (((dr zj k) / 128) % (vN v)))) + (1 : Int32)) = sl23_
                  have hE24_ : EN sl23_ 902 (sY (wGive (yV v zj k) ((dr zj k) % (vN v)) (((dr zj k) / 128) % (vN v))) ((vY (wGive (yV v zj k) ((dr zj k) % (vN v)) (((dr zj k) / 128) % (vN v)))) + (1 : Int32))) := by rw [← hsl23_]; exact hE20_.sy (by omega)
                  have hF25_ : FR sl sl23_ 902 := by rw [← hsl23_]; exact FR.up hF22_ (by omega) (by omega)
                  refine kb_aload_n X 0 dX6_year_205 rfl rfl ?_
                  refine kb_get (v := .ref (a 5)) (C := RX6) (T := TX6) (N := 25) (ci := 6) X kw_iX6 rfl 0 8 rfl (by decide) kf_X6_22 rfl rfl dX6_year_206 ?_
                  refine kb_sipush (v := (911 : Int32)) X dX6_year_209 (by decide) ?_
                  refine kb_iconst (v := (0 : Int32)) X dX6_year_212 (by decide) ?_
                  refine kb_iast (i := 911) X 5 rfl (by omega) (by decide) dX6_year_213 (ws' := wR g a (vN v) so ag (vG v) np ns na nf (upd sl23_ 911 (0 : Int32)) ac ke le tx ap bg wr se wh wo bl ck sw ma ro bs) rfl ?_
                  generalize hsl26_ : upd sl23_ 911 (0 : Int32) = sl26_
                  have hE27_ : EN sl26_ 902 (sZ (sY (wGive (yV v zj k) ((dr zj k) % (vN v)) (((dr zj k) / 128) % (vN v))) ((vY (wGive (yV v zj k) ((dr zj k) % (vN v)) (((dr zj k) / 128) % (vN v)))) + (1 : Int32))) (0 : Int32)) := by rw [← hsl26_]; exact hE24_.sz (by omega)
                  have hF28_ : FR sl sl26_ 902 := by rw [← hsl26_]; exact FR.up hF25_ (by omega) (by omega)
                  refine kw_lvs [0, 1, 2, 3, 4, 5] (lv' := [(0, .ref (a 0)), (1, .int (nI (zj))), (2, .int (nI (nj))), (3, .int (m)), (4, .int (nI (yC v zj k))), (5, .int (nI (k)))]) rfl ?_
                  refine kb_iinc X 5 [1, 2, 3, 4, 5, 0] (v' := nI (k + 1)) dX6_year_214 rfl (nI_add _ _) (by decide) (lv' := [(0, .ref (a 0)), (1, .int (nI (zj))), (2, .int (nI (nj))), (3, .int (m)), (4, .int (nI (yC v zj k))), (5, .int (nI (k + 1)))]) rfl ?_
                  refine kb_goto (tgt := 50) X dX6_year_217 (by decide) ?_
                  exact kw_to (ih (k + 1) sl26_ ⟨by omega, by rw [yV, wDay, wDayP, hN, if_neg (by rw [cH_]; decide), if_pos cG_]; exact hE27_, hF28_⟩) (by rw [yC, wDayC, hN, if_neg (by rw [cH_]; decide)] <;> rfl) rfl rfl
              · skip
                have cH_ := c11_
                refine kb_iload X 4 dX6_year_134 rfl ?_
                refine kb_aload_n X 0 dX6_year_136 rfl rfl ?_
                refine kb_sipush (v := (902 : Int32)) X dX6_year_137 (by decide) ?_
                refine kb_iload X 8 dX6_year_140 rfl ?_
                refine kb_iload X 7 dX6_year_142 rfl ?_
                refine kb_bipush (v := (8 : Int32)) X dX6_year_144 (by decide) ?_
                refine kn_idiv X (dr zj k) 8 (by omega) (by omega) (by omega) dX6_year_146 ?_
                refine kb_iconst (v := (4 : Int32)) X dX6_year_147 (by decide) ?_
                refine kn_irem X ((dr zj k) / 8) 4 (by omega) (by omega) (by omega) dX6_year_148 ?_
                refine kb_iload X 7 dX6_year_149 rfl ?_
                refine kb_bipush (v := (32 : Int32)) X dX6_year_151 (by decide) ?_
                refine kn_idiv X (dr zj k) 32 (by omega) (by omega) (by omega) dX6_year_153 ?_
                refine kb_iconst (v := (4 : Int32)) X dX6_year_154 (by decide) ?_
                refine kn_irem X ((dr zj k) / 32) 4 (by omega) (by omega) (by omega) dX6_year_155 ?_
                refine kc_Vi X (As := [.int 902, .int (nI ((dr zj k) % (vN v))), .int (nI (((dr zj k) / 8) % 4)), .int (nI (((dr zj k) / 32) % 4))]) (rest := [.int (nI (yC v zj k))]) (wr := []) (ct_X6_holds l g a (vN v) so ag (vG v) np ns na nf z ac ke le tx ap bg wr se wh wo bl ck sw ma ro bs 902 (yV v zj k) (by omega) hz hgk.1 hgk.2.1 ((dr zj k) % (vN v)) (nI (((dr zj k) / 8) % 4)) (nI (((dr zj k) / 32) % 4)) hm3) dX6_year_156 rfl (kw_pall _) mc_X6_holds kl_X6_197 mi_X6_holds mv_X6_holds kn_X6 0 rfl rfl rfl (na := 4) (by decide +kernel) rfl ⟨Nat.le_of_ble_eq_true rfl, Nat.le_of_ble_eq_true rfl⟩ ⟨rfl, rfl⟩ ⟨Nat.le_of_ble_eq_true rfl, Nat.le_of_ble_eq_true rfl⟩ (Nat.le_of_ble_eq_true rfl) (fun r_ w_ hp_ => ?_)
                obtain ⟨rfl, sl29_, hE30_, hF31_, rfl⟩ := hp_
                have hF32_ : FR sl sl29_ 902 := FR.tr hFz hF31_
                refine kw_ws (List.append_nil _) ?_
                refine kc_Si X (As := [.int (nI (wGuests (yV v zj k) ((dr zj k) % (vN v)) (nI (((dr zj k) / 8) % 4)) (nI (((dr zj k) / 32) % 4))))]) (rest := [.int (nI (yC v zj k))]) (wr := (wR g a (vN v) so ag (vG v) np ns na nf sl29_ ac ke le tx ap bg wr se wh wo bl ck sw ma ro bs)) (ct_X6_bits l g (wGuests (yV v zj k) ((dr zj k) % (vN v)) (nI (((dr zj k) / 8) % 4)) (nI (((dr zj k) / 32) % 4))) (hGl _ _)) dX6_year_159 rfl (List.Perm.refl _) mc_X6_bits kl_X6_209 ms_X6_bits kn_X6 (na := 1) (by decide +kernel) rfl ⟨Nat.le_of_ble_eq_true rfl, Nat.le_of_ble_eq_true rfl⟩ ⟨rfl, rfl⟩ ⟨Nat.le_of_ble_eq_true rfl, Nat.le_of_ble_eq_true rfl⟩ (Nat.le_of_ble_eq_true rfl) (fun r_ w_ hp_ => ?_)
                obtain ⟨rfl, rfl⟩ := hp_
                refine kw_ws (List.nil_append _) ?_
                refine kn_iadd X (yC v zj k) (wBits (wGuests (yV v zj k) ((dr zj k) % (vN v)) (nI (((dr zj k) / 8) % 4)) (nI (((dr zj k) / 32) % 4)))) dX6_year_162 ?_
                refine kb_istore X [1, 2, 3, 4, 0, 5, 6, 7, 8, 9] dX6_year_163 (by decide) (lv' := [(0, .ref (a 0)), (1, .int (nI (zj))), (2, .int (nI (nj))), (3, .int (m)), (4, .int (nI ((yC v zj k) + (wBits (wGuests (yV v zj k) ((dr zj k) % (vN v)) (nI (((dr zj k) / 8) % 4)) (nI (((dr zj k) / 32) % 4))))))), (5, .int (nI (k))), (6, .long (Int64.ofNat (7919 * zj + 6151 * k + 1))), (8, .int (nI (dr zj k))), (9, .int (nI ((dr zj k) % (vN v)))), (10, .int (nI (((dr zj k) / 128) % (vN v))))]) rfl ?_
                refine kb_goto (tgt := 193) X dX6_year_165 (by decide) ?_
                refine kb_aload_n X 0 dX6_year_193 rfl rfl ?_
                refine kb_get (v := .ref (a 5)) (C := RX6) (T := TX6) (N := 25) (ci := 6) X kw_iX6 rfl 0 8 rfl (by decide) kf_X6_22 rfl rfl dX6_year_194 ?_
                refine kb_sipush (v := (910 : Int32)) X dX6_year_197 (by decide) ?_
                refine kb_dup2 X dX6_year_200 rfl rfl ?_
                refine kb_iald (i := 910) X 5 rfl (by omega) (by decide) dX6_year_201 ?_
                refine kw_top (b := .int (vY (wHold (yV v zj k) ((dr zj k) % (vN v)) (nI (((dr zj k) / 8) % 4)) (nI (((dr zj k) / 32) % 4))))) (congrArg Value.int (hE30_.y (by omega))) ?_
                refine kb_iconst (v := (1 : Int32)) X dX6_year_202 (by decide) ?_
                refine kb_iadd X dX6_year_203 ?_
                refine kb_iast (i := 910) X 5 rfl (by omega) (by decide) dX6_year_204 (ws' := wR g a (vN v) so ag (vG v) np ns na nf (upd sl29_ 910 ((vY (wHold (yV v zj k) ((dr zj k) % (vN v)) (nI (((dr zj k) / 8) % 4)) (nI (((dr zj k) / 32) % 4)))) + (1 : Int32))) ac ke le tx ap bg wr se wh wo bl ck sw ma ro bs) rfl ?_
                generalize hsl33_ : upd sl29_ 910 ((vY (wHold (yV v zj k) ((dr zj k) % (vN v)) (nI (((dr zj k) / 8) % 4)) (nI (((dr zj k) / 32) % 4)))) + (1 : Int32)) = sl33_
                have hE34_ : EN sl33_ 902 (sY (wHold (yV v zj k) ((dr zj k) % (vN v)) (nI (((dr zj k) / 8) % 4)) (nI (((dr zj k) / 32) % 4))) ((vY (wHold (yV v zj k) ((dr zj k) % (vN v)) (nI (((dr zj k) / 8) % 4)) (nI (((dr zj k) / 32) % 4)))) + (1 : Int32))) := by rw [← hsl33_]; exact hE30_.sy (by omega)
                have hF35_ : FR sl sl33_ 902 := by rw [← hsl33_]; exact FR.up hF32_ (by omega) (by omega)
                refine kb_aload_n X 0 dX6_year_205 rfl rfl ?_
                refine kb_get (v := .ref (a 5)) (C := RX6) (T := TX6) (N := 25) (ci := 6) X kw_iX6 rfl 0 8 rfl (by decide) kf_X6_22 rfl rfl dX6_year_206 ?_
                refine kb_sipush (v := (911 : Int32)) X dX6_year_209 (by decide) ?_
                refine kb_iconst (v := (0 : Int32)) X dX6_year_212 (by decide) ?_
                refine kb_iast (i := 911) X 5 rfl (by omega) (by decide) dX6_year_213 (ws' := wR g a (vN v) so ag (vG v) np ns na nf (upd sl33_ 911 (0 : Int32)) ac ke le tx ap bg wr se wh wo bl ck sw ma ro bs) rfl ?_
                generalize hsl36_ : upd sl33_ 911 (0 : Int32) = sl36_
                have hE37_ : EN sl36_ 902 (sZ (sY (wHold (yV v zj k) ((dr zj k) % (vN v)) (nI (((dr zj k) / 8) % 4)) (nI (((dr zj k) / 32) % 4))) ((vY (wHold (yV v zj k) ((dr zj k) % (vN v)) (nI (((dr zj k) / 8) % 4)) (nI (((dr zj k) / 32) % 4)))) + (1 : Int32))) (0 : Int32)) := by rw [← hsl36_]; exact hE34_.sz (by omega)
                have hF38_ : FR sl sl36_ 902 := by rw [← hsl36_]; exact FR.up hF35_ (by omega) (by omega)
                refine kw_lvs [0, 1, 2, 3, 4, 5] (lv' := [(0, .ref (a 0)), (1, .int (nI (zj))), (2, .int (nI (nj))), (3, .int (m)), (4, .int (nI ((yC v zj k) + (wBits (wGuests (yV v zj k) ((dr zj k) % (vN v)) (nI (((dr zj k) / 8) % 4)) (nI (((dr zj k) / 32) % 4))))))), (5, .int (nI (k)))]) rfl ?_
                refine kb_iinc X 5 [1, 2, 3, 4, 5, 0] (v' := nI (k + 1)) dX6_year_214 rfl (nI_add _ _) (by decide) (lv' := [(0, .ref (a 0)), (1, .int (nI (zj))), (2, .int (nI (nj))), (3, .int (m)), (4, .int (nI ((yC v zj k) + (wBits (wGuests (yV v zj k) ((dr zj k) % (vN v)) (nI (((dr zj k) / 8) % 4)) (nI (((dr zj k) / 32) % 4))))))), (5, .int (nI (k + 1)))]) rfl ?_
                refine kb_goto (tgt := 50) X dX6_year_217 (by decide) ?_
                exact kw_to (ih (k + 1) sl36_ ⟨by omega, by rw [yV, wDay, wDayP, hN, if_pos cH_]; exact hE37_, hF38_⟩) (by rw [yC, wDayC, hN, if_pos cH_] <;> rfl) rfl rfl
        exact kw_to (L50 nj 0 sl4_ ⟨by omega, hE7_, (FR.tr FR.rf hC5_.2)⟩) rfl rfl rfl
      · skip
        refine kb_iconst (v := (-1 : Int32)) X dX6_year_34 (by decide) ?_
        refine ke_i X Z dX6_year_35 ?_
        exact ⟨by simp [oYear, c1_, c2_, c3_], RWp.of hR⟩

