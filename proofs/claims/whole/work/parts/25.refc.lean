set_option maxHeartbeats 4000000 in
set_option maxRecDepth 100000 in
theorem ct_X6_die (l : Launch) (g : kw_G) (a : Nat → Nat) (so : Nat → Int32) (ag : Nat → Int32) (np : Nat) (ns : Nat → Int32) (na : Nat → Int32) (nf : Int32) (sl : Nat → Int32) (ac : Nat) (ke : Nat) (le : Nat) (tx : Nat → Nat) (ap : Nat) (bg : Nat) (wr : Bool) (se : Nat) (wh : Nat → Nat) (wo : Nat → Nat) (bl : Nat → Int32) (ck : Nat → Int32) (sw : Nat → Bool) (ma : Nat) (ro : Nat → Nat) (bs : Nat → Nat) (v : VS) (us ks : List VS) (tf : Nat → Nat) (tn : Nat) (s : SS) (hR : RI (vN v) so ag (vG v) sl ac ke le tx se wh wo bl ck sw v us ks tf tn s) (p : Int32) : kMi l g yX6_die cX6_die 4 .int (kw_rm 4 0 0) 0 0 [.ref (a 0), .int (p)] (wR g a (vN v) so ag (vG v) np ns na nf sl ac ke le tx ap bg wr se wh wo bl ck sw ma ro bs) (fun r w => r = (oDie v p).1 ∧ RWp g a (pv v (oDie v p).2) (pu v us (oDie v p).2) ks tf tn s w) := by
  refine kMi_of (by decide +kernel) (Nat.le_of_ble_eq_true rfl) (fun x (X : kX l g RX6 cX6_die 4 (kw_rm 4 0 0) x) (Z : kZi .int _ 0 0 x) => ?_)
  show kW x 0 0 0 [(0, .ref (a 0)), (1, .int (p))] [] (wR g a (vN v) so ag (vG v) np ns na nf sl ac ke le tx ap bg wr se wh wo bl ck sw ma ro bs)
  have hE := hR.1
  have hG := hR.2.1
  have hK := hR.2.1.1
  have hv := hR.2.1.2.1
  have hT := hR.2.1.2.2.1
  have hN0 := hR.2.1.2.2.2
  have h6 := hv.1
  have hx64 := hv.2.1
  have hh64 := hv.2.2
  refine kb_aload_n X 0 dX6_die_0 rfl rfl ?_
  refine kb_iload_n X 1 dX6_die_1 rfl rfl ?_
  refine kc_Vi X (As := [.int (p)]) (rest := []) (wr := []) (ct_X6_isPerson l g a (vN v) so ag (vG v) np ns na nf sl ac ke le tx ap bg wr se wh wo bl ck sw ma ro bs p (by omega)) dX6_die_2 rfl (kw_pall _) mc_X6_isPerson kl_X6_75 mi_X6_isPerson mv_X6_isPerson kn_X6 0 rfl rfl rfl (na := 1) (by decide +kernel) rfl ⟨Nat.le_of_ble_eq_true rfl, Nat.le_of_ble_eq_true rfl⟩ ⟨rfl, rfl⟩ ⟨Nat.le_of_ble_eq_true rfl, Nat.le_of_ble_eq_true rfl⟩ (Nat.le_of_ble_eq_true rfl) (fun r_ w_ hp_ => ?_)
  obtain ⟨rfl, rfl⟩ := hp_
  refine kw_ws (List.append_nil _) ?_
  refine kz_if_ne (b := pin p (vN v)) (tgt := 10) X dX6_die_5 (by decide) (fun c1_ => ?_) (fun c1_ => ?_)
  · skip
    obtain ⟨pj, hpj, epj, ePp⟩ := pin_j h6 c1_
    refine kw_lv (lv' := [(0, .ref (a 0)), (1, .int (nI (pj)))]) (by rw [epj]) ?_
    refine kb_aload_n X 0 dX6_die_10 rfl rfl ?_
    refine kb_iconst (v := (0 : Int32)) X dX6_die_11 (by decide) ?_
    refine kb_iload_n X 1 dX6_die_12 rfl rfl ?_
    refine kc_Vi X (As := [.int 0, .int (nI (pj))]) (rest := []) (wr := []) (ct_X6_isAlive l g a (vN v) so ag (vG v) np ns na nf sl ac ke le tx ap bg wr se wh wo bl ck sw ma ro bs 0 v (by omega) hE hK hv pj (by omega)) dX6_die_13 rfl (kw_pall _) mc_X6_isAlive kl_X6_136 mi_X6_isAlive mv_X6_isAlive kn_X6 0 rfl rfl rfl (na := 2) (by decide +kernel) rfl ⟨Nat.le_of_ble_eq_true rfl, Nat.le_of_ble_eq_true rfl⟩ ⟨rfl, rfl⟩ ⟨Nat.le_of_ble_eq_true rfl, Nat.le_of_ble_eq_true rfl⟩ (Nat.le_of_ble_eq_true rfl) (fun r_ w_ hp_ => ?_)
    obtain ⟨rfl, rfl⟩ := hp_
    refine kw_ws (List.append_nil _) ?_
    refine kz_if_ne (b := wLives v pj) (tgt := 22) X dX6_die_16 (by decide) (fun c2_ => ?_) (fun c2_ => ?_)
    · skip
      refine kb_aload_n X 0 dX6_die_22 rfl rfl ?_
      refine kc_Vv X (As := []) (rest := []) (wr := []) (ct_X6_known l g a so ag np ns na nf sl ac ke le tx ap bg wr se wh wo bl ck sw ma ro bs v us ks tf tn s hR) dX6_die_23 rfl (kw_pall _) mc_X6_known kl_X6_194 mi_X6_known mv_X6_known kn_X6 0 rfl rfl rfl (na := 0) (by decide +kernel) rfl ⟨Nat.le_of_ble_eq_true rfl, Nat.le_of_ble_eq_true rfl⟩ ⟨rfl, rfl⟩ ⟨Nat.le_of_ble_eq_true rfl, Nat.le_of_ble_eq_true rfl⟩ (Nat.le_of_ble_eq_true rfl) (fun w_ hp_ => ?_)
      obtain ⟨slk, ack, hRk, rfl⟩ := hp_
      refine kw_ws (List.append_nil _) ?_
      refine kb_aload_n X 0 dX6_die_26 rfl rfl ?_
      refine kb_iconst (v := (0 : Int32)) X dX6_die_27 (by decide) ?_
      refine kb_iload_n X 1 dX6_die_28 rfl rfl ?_
      refine kc_Vi X (As := [.int 0, .int (nI (pj))]) (rest := []) (wr := []) (ct_X6_heir l g a (vN v) so ag (vG v) np ns na nf slk ack ke le tx ap bg wr se wh wo bl ck sw ma ro bs 0 v  (by omega) hRk.1 hK hv hT pj (by omega)) dX6_die_29 rfl (kw_pall _) mc_X6_heir kl_X6_144 mi_X6_heir mv_X6_heir kn_X6 0 rfl rfl rfl (na := 2) (by decide +kernel) rfl ⟨Nat.le_of_ble_eq_true rfl, Nat.le_of_ble_eq_true rfl⟩ ⟨rfl, rfl⟩ ⟨Nat.le_of_ble_eq_true rfl, Nat.le_of_ble_eq_true rfl⟩ (Nat.le_of_ble_eq_true rfl) (fun r_ w_ hp_ => ?_)
      obtain ⟨rfl, rfl⟩ := hp_
      refine kw_ws (List.append_nil _) ?_
      refine kb_istore_n X [1, 2, 0] dX6_die_32 rfl (by decide) (lv' := [(0, .ref (a 0)), (1, .int (nI (pj))), (2, .int (wHeir v pj))]) rfl ?_
      refine kb_aload_n X 0 dX6_die_33 rfl rfl ?_
      refine kb_get (v := .ref (a 5)) (C := RX6) (T := TX6) (N := 25) (ci := 6) X kw_iX6 rfl 0 8 rfl (by decide) kf_X6_22 rfl rfl dX6_die_34 ?_
      refine kb_bipush (v := (6 : Int32)) X dX6_die_37 (by decide) ?_
      refine kb_dup2 X dX6_die_39 rfl rfl ?_
      refine kb_iald (i := 6) X 5 rfl (by omega) (by decide) dX6_die_40 ?_
      refine kw_top (b := .int (nI (vX v))) (congrArg Value.int (hRk.1.x (by omega))) ?_
      refine kb_iconst (v := (1 : Int32)) X dX6_die_41 (by decide) ?_
      refine kb_iload_n X 1 dX6_die_42 rfl rfl ?_
      refine kb_ishl X dX6_die_43 ?_
      refine kb_ior X dX6_die_44 ?_
      refine kw_top (b := .int (nI (vX v ||| 2 ^ pj))) (by rw [bit_in pj (by omega), or_nI]) ?_
      refine kb_iast (i := 6) X 5 rfl (by omega) (by decide) dX6_die_45 (ws' := wR g a (vN v) so ag (vG v) np ns na nf (upd slk 6 (nI (vX v ||| 2 ^ pj))) ack ke le tx ap bg wr se wh wo bl ck sw ma ro bs) rfl ?_
      generalize hsl3_ : upd slk 6 (nI (vX v ||| 2 ^ pj)) = sl3_
      have hE4_ : EN sl3_ 0 (sX v (vX v ||| 2 ^ pj)) := by rw [← hsl3_]; exact hRk.1.sx (by omega)
      have hF5_ : FR slk sl3_ 0 := by rw [← hsl3_]; exact FR.up FR.rf (by omega) (by omega)
      refine kb_iload_n X 2 dX6_die_46 rfl rfl ?_
      refine kb_if_lt (tgt := 62) X dX6_die_47 (by decide) (fun c6_ => ?_) (fun c6_ => ?_)
      · skip
        have hq_ := wHr_c hT (show pj < 6 by omega) h6 (vN v) (Nat.le_refl _)
        have hh3_ : wHeir v pj = -4 := by
          rcases hq_ with q | ⟨h, q1, q2, q3, q4⟩
          · exact q.1
          · exact absurd c6_ (by rw [wHeir, q3]; exact nI_pos (by omega))
        refine kb_aload_n X 0 dX6_die_62 rfl rfl ?_
        refine kb_get (v := .ref (a 5)) (C := RX6) (T := TX6) (N := 25) (ci := 6) X kw_iX6 rfl 0 8 rfl (by decide) kf_X6_22 rfl rfl dX6_die_63 ?_
        refine kb_iload_n X 1 dX6_die_66 rfl rfl ?_
        refine kb_iconst (v := (0 : Int32)) X dX6_die_67 (by decide) ?_
        refine kb_iast (i := pj) X 5 rfl (by omega) (by decide) dX6_die_68 (ws' := wR g a (vN v) so ag (vG v) np ns na nf (upd sl3_ pj (0 : Int32)) ack ke le tx ap bg wr se wh wo bl ck sw ma ro bs) rfl ?_
        generalize hsl7_ : upd sl3_ pj (0 : Int32) = sl7_
        have hE8_ : EN sl7_ 0 (sC (sX v (vX v ||| 2 ^ pj)) (upd (vC v) pj (0 : Int32))) := by rw [← hsl7_]; exact hE4_.sc (p := pj) (by omega) (by omega)
        have hF9_ : FR slk sl7_ 0 := by rw [← hsl7_]; exact FR.up hF5_ (by omega) (by omega)
        refine kb_iconst (v := (0 : Int32)) X dX6_die_69 (by decide) ?_
        refine kb_istore_n X [1, 2, 3, 0] dX6_die_70 rfl (by decide) (lv' := [(0, .ref (a 0)), (1, .int (nI (pj))), (2, .int (wHeir v pj)), (3, .int 0)]) rfl ?_
        have L71 : ∀ (K_ i : Nat) (z E : Nat → Int32), i + K_ = vN v ∧ EN z 0 (sD (sC (sX v (vX v ||| 2 ^ pj)) (upd (vC v) pj 0)) E) ∧ FR slk z 0 ∧ DC (vD v) E pj 6 i → kW x 0 0 71 [(0, .ref (a 0)), (1, .int (nI (pj))), (2, .int (wHeir v pj)), (3, .int (nI (i)))] [] (wR g a (vN v) so ag (vG v) np ns na nf z ack ke le tx ap bg wr se wh wo bl ck sw ma ro bs) := by
          intro K_
          induction K_ with
          | zero =>
            intro i z E hh
            obtain ⟨hi, hz, hFz, hd_⟩ := id hh
            refine kb_iload_n X 3 dX6_die_71 rfl rfl ?_
            refine kb_aload_n X 0 dX6_die_72 rfl rfl ?_
            refine kb_get (v := .int (nI ((vN v)))) (C := RX6) (T := TX6) (N := 25) (ci := 6) X kw_iX6 rfl 0 0 rfl (by decide) kf_X6_65 rfl rfl dX6_die_73 ?_
            refine kn_icmp_ge (a := i) (b := (vN v)) (tgt := 160) X (by omega) (by omega) dX6_die_76 (by decide) (fun c10_ => ?_) (fun c10_ => ?_)
            · skip
              refine kb_iload_n X 2 dX6_die_160 rfl rfl ?_
              refine ke_i X Z dX6_die_161 ?_
              have e_ : oDie v p = (wHeir v pj, some (wBury v pj)) := by simp [oDie, c1_, ePp, c2_, c6_, c10_]
              rw [e_]
              exact ⟨rfl, RWp.of (hRk.win (die_EN (by omega) h6 hz (by rw [show vN v = i by omega]; exact hd_) (Or.inl ⟨hh3_, by omega, rfl⟩)) hFz (hG.bury (by omega)))⟩
            · skip
              omega
          | succ K_ ih =>
            intro i z E hh
            obtain ⟨hi, hz, hFz, hd_⟩ := id hh
            refine kb_iload_n X 3 dX6_die_71 rfl rfl ?_
            refine kb_aload_n X 0 dX6_die_72 rfl rfl ?_
            refine kb_get (v := .int (nI ((vN v)))) (C := RX6) (T := TX6) (N := 25) (ci := 6) X kw_iX6 rfl 0 0 rfl (by decide) kf_X6_65 rfl rfl dX6_die_73 ?_
            refine kn_icmp_ge (a := i) (b := (vN v)) (tgt := 160) X (by omega) (by omega) dX6_die_76 (by decide) (fun c11_ => ?_) (fun c11_ => ?_)
            · skip
              omega
            · skip
              refine kb_iload_n X 2 dX6_die_79 rfl rfl ?_
              refine kb_if_lt (tgt := 124) X dX6_die_80 (by decide) (fun c12_ => ?_) (fun c12_ => ?_)
              · skip
                refine kb_aload_n X 0 dX6_die_124 rfl rfl ?_
                refine kb_get (v := .ref (a 5)) (C := RX6) (T := TX6) (N := 25) (ci := 6) X kw_iX6 rfl 0 8 rfl (by decide) kf_X6_22 rfl rfl dX6_die_125 ?_
                refine kb_bipush (v := (46 : Int32)) X dX6_die_128 (by decide) ?_
                refine kb_bipush (v := (6 : Int32)) X dX6_die_130 (by decide) ?_
                refine kb_iload_n X 3 dX6_die_132 rfl rfl ?_
                refine kn_imul X 6 i dX6_die_133 ?_
                refine kn_iadd X 46 (6 * i) dX6_die_134 ?_
                refine kb_iload_n X 1 dX6_die_135 rfl rfl ?_
                refine kn_iadd X (46 + (6 * i)) pj dX6_die_136 ?_
                refine kb_iconst (v := (0 : Int32)) X dX6_die_137 (by decide) ?_
                refine kb_iast (i := (46 + (6 * i)) + pj) X 5 rfl (by omega) (by decide) dX6_die_138 (ws' := wR g a (vN v) so ag (vG v) np ns na nf (upd z ((46 + (6 * i)) + pj) (0 : Int32)) ack ke le tx ap bg wr se wh wo bl ck sw ma ro bs) rfl ?_
                generalize hsl13_ : upd z ((46 + (6 * i)) + pj) (0 : Int32) = sl13_
                have hE14_ : EN sl13_ 0 (sD (sD (sC (sX v (vX v ||| 2 ^ pj)) (upd (vC v) pj 0)) E) (upd E (i * 6 + pj) (0 : Int32))) := by rw [← hsl13_]; exact hz.sd (p := i) (q := pj) (by omega) (by omega) (by omega)
                have hF15_ : FR slk sl13_ 0 := by rw [← hsl13_]; exact FR.up hFz (by omega) (by omega)
                refine kb_aload_n X 0 dX6_die_139 rfl rfl ?_
                refine kb_get (v := .ref (a 5)) (C := RX6) (T := TX6) (N := 25) (ci := 6) X kw_iX6 rfl 0 8 rfl (by decide) kf_X6_22 rfl rfl dX6_die_140 ?_
                refine kb_bipush (v := (46 : Int32)) X dX6_die_143 (by decide) ?_
                refine kb_bipush (v := (6 : Int32)) X dX6_die_145 (by decide) ?_
                refine kb_iload_n X 1 dX6_die_147 rfl rfl ?_
                refine kn_imul X 6 pj dX6_die_148 ?_
                refine kn_iadd X 46 (6 * pj) dX6_die_149 ?_
                refine kb_iload_n X 3 dX6_die_150 rfl rfl ?_
                refine kn_iadd X (46 + (6 * pj)) i dX6_die_151 ?_
                refine kb_iconst (v := (0 : Int32)) X dX6_die_152 (by decide) ?_
                refine kb_iast (i := (46 + (6 * pj)) + i) X 5 rfl (by omega) (by decide) dX6_die_153 (ws' := wR g a (vN v) so ag (vG v) np ns na nf (upd sl13_ ((46 + (6 * pj)) + i) (0 : Int32)) ack ke le tx ap bg wr se wh wo bl ck sw ma ro bs) rfl ?_
                generalize hsl16_ : upd sl13_ ((46 + (6 * pj)) + i) (0 : Int32) = sl16_
                have hE17_ : EN sl16_ 0 (sD (sD (sD (sC (sX v (vX v ||| 2 ^ pj)) (upd (vC v) pj 0)) E) (upd E (i * 6 + pj) (0 : Int32))) (upd (upd E (i * 6 + pj) (0 : Int32)) (pj * 6 + i) (0 : Int32))) := by rw [← hsl16_]; exact hE14_.sd (p := pj) (q := i) (by omega) (by omega) (by omega)
                have hF18_ : FR slk sl16_ 0 := by rw [← hsl16_]; exact FR.up hF15_ (by omega) (by omega)
                refine kb_iinc X 3 [1, 2, 3, 0] (v' := nI (i + 1)) dX6_die_154 rfl (nI_add _ _) (by decide) (lv' := [(0, .ref (a 0)), (1, .int (nI (pj))), (2, .int (wHeir v pj)), (3, .int (nI (i + 1)))]) rfl ?_
                refine kb_goto (tgt := 71) X dX6_die_157 (by decide) ?_
                exact kw_to (ih (i + 1) sl16_ (upd (upd E (i * 6 + pj) (0 : Int32)) (pj * 6 + i) (0 : Int32)) ⟨by omega, (show EN sl16_ 0 (sD (sC (sX v (vX v ||| 2 ^ pj)) (upd (vC v) pj 0)) (upd (upd E (i * 6 + pj) (0 : Int32)) (pj * 6 + i) (0 : Int32))) from hE17_), hF18_, by have q_ := DC.s hd_ (show i < 6 by omega) (show pj < 6 by omega); rw [if_neg (by omega)] at q_; exact q_⟩) rfl rfl rfl
              · skip
                exact absurd (show wHeir v pj < 0 by rw [hh3_]; decide) c12_
        exact kw_to (L71 (vN v) 0 sl7_ (vD v) ⟨by omega, hE8_, hF9_, DC.z⟩) rfl rfl rfl
      · skip
        have hq_ := wHr_c hT (show pj < 6 by omega) h6 (vN v) (Nat.le_refl _)
        obtain ⟨h_, hh1_, hh2_, hh3_⟩ : ∃ h, h < vN v ∧ h ≠ pj ∧ wHeir v pj = nI h := by
          rcases hq_ with q | ⟨h, q1, q2, q3, q4⟩
          · exact absurd (show wHeir v pj < 0 by rw [wHeir, q.1]; decide) c6_
          · exact ⟨h, q1, q2, q3⟩
        refine kw_lv (lv' := [(0, .ref (a 0)), (1, .int (nI (pj))), (2, .int (nI (h_)))]) (by rw [hh3_]) ?_
        have hvx : VI (sX v (vX v ||| 2 ^ pj)) := ⟨hv.1, Nat.or_lt_two_pow (n := 6) hv.2.1 (Nat.pow_lt_pow_right (by decide) (by omega)), hv.2.2⟩
        refine kb_aload_n X 0 dX6_die_50 rfl rfl ?_
        refine kb_iconst (v := (0 : Int32)) X dX6_die_51 (by decide) ?_
        refine kb_iload_n X 2 dX6_die_52 rfl rfl ?_
        refine kb_aload_n X 0 dX6_die_53 rfl rfl ?_
        refine kb_get (v := .ref (a 5)) (C := RX6) (T := TX6) (N := 25) (ci := 6) X kw_iX6 rfl 0 8 rfl (by decide) kf_X6_22 rfl rfl dX6_die_54 ?_
        refine kb_iload_n X 1 dX6_die_57 rfl rfl ?_
        refine kb_iald (i := pj) X 5 rfl (by omega) (by decide) dX6_die_58 ?_
        refine kw_top (b := .int (vC v pj)) (congrArg Value.int (hE4_.c (p := pj) (by omega) (by omega))) ?_
        refine kc_Vv X (As := [.int 0, .int (nI (h_)), .int (vC v pj)]) (rest := []) (wr := []) (ct_X6_gets l g a (vN v) so ag (vG v) np ns na nf sl3_ ack ke le tx ap bg wr se wh wo bl ck sw ma ro bs 0 (sX v (vX v ||| 2 ^ pj)) (by omega) hE4_ hK hvx h_ (vC v pj) (by omega)) dX6_die_59 rfl (kw_pall _) mc_X6_gets kl_X6_164 mi_X6_gets mv_X6_gets kn_X6 0 rfl rfl rfl (na := 3) (by decide +kernel) rfl ⟨Nat.le_of_ble_eq_true rfl, Nat.le_of_ble_eq_true rfl⟩ ⟨rfl, rfl⟩ ⟨Nat.le_of_ble_eq_true rfl, Nat.le_of_ble_eq_true rfl⟩ (Nat.le_of_ble_eq_true rfl) (fun w_ hp_ => ?_)
        obtain ⟨sl19_, hE20_, hF21_, rfl⟩ := hp_
        have hF22_ : FR slk sl19_ 0 := FR.tr hF5_ hF21_
        refine kw_ws (List.append_nil _) ?_
        refine kb_aload_n X 0 dX6_die_62 rfl rfl ?_
        refine kb_get (v := .ref (a 5)) (C := RX6) (T := TX6) (N := 25) (ci := 6) X kw_iX6 rfl 0 8 rfl (by decide) kf_X6_22 rfl rfl dX6_die_63 ?_
        refine kb_iload_n X 1 dX6_die_66 rfl rfl ?_
        refine kb_iconst (v := (0 : Int32)) X dX6_die_67 (by decide) ?_
        refine kb_iast (i := pj) X 5 rfl (by omega) (by decide) dX6_die_68 (ws' := wR g a (vN v) so ag (vG v) np ns na nf (upd sl19_ pj (0 : Int32)) ack ke le tx ap bg wr se wh wo bl ck sw ma ro bs) rfl ?_
        generalize hsl23_ : upd sl19_ pj (0 : Int32) = sl23_
        have hE24_ : EN sl23_ 0 (sC (wRecv (sX v (vX v ||| 2 ^ pj)) h_ (vC v pj)) (upd (vC (wRecv (sX v (vX v ||| 2 ^ pj)) h_ (vC v pj))) pj (0 : Int32))) := by rw [← hsl23_]; exact hE20_.sc (p := pj) (by omega) (by omega)
        have hF25_ : FR slk sl23_ 0 := by rw [← hsl23_]; exact FR.up hF22_ (by omega) (by omega)
        refine kb_iconst (v := (0 : Int32)) X dX6_die_69 (by decide) ?_
        refine kb_istore_n X [1, 2, 3, 0] dX6_die_70 rfl (by decide) (lv' := [(0, .ref (a 0)), (1, .int (nI (pj))), (2, .int (nI (h_))), (3, .int 0)]) rfl ?_
        have L71 : ∀ (K_ i : Nat) (z E : Nat → Int32), i + K_ = vN v ∧ EN z 0 (sD (sC (sX v (vX v ||| 2 ^ pj)) (upd (upd (vC v) h_ (mn 999 (vC v h_ + vC v pj))) pj 0)) E) ∧ FR slk z 0 ∧ DC (vD v) E pj h_ i → kW x 0 0 71 [(0, .ref (a 0)), (1, .int (nI (pj))), (2, .int (nI (h_))), (3, .int (nI (i)))] [] (wR g a (vN v) so ag (vG v) np ns na nf z ack ke le tx ap bg wr se wh wo bl ck sw ma ro bs) := by
          intro K_
          induction K_ with
          | zero =>
            intro i z E hh
            obtain ⟨hi, hz, hFz, hd_⟩ := id hh
            refine kb_iload_n X 3 dX6_die_71 rfl rfl ?_
            refine kb_aload_n X 0 dX6_die_72 rfl rfl ?_
            refine kb_get (v := .int (nI ((vN v)))) (C := RX6) (T := TX6) (N := 25) (ci := 6) X kw_iX6 rfl 0 0 rfl (by decide) kf_X6_65 rfl rfl dX6_die_73 ?_
            refine kn_icmp_ge (a := i) (b := (vN v)) (tgt := 160) X (by omega) (by omega) dX6_die_76 (by decide) (fun c26_ => ?_) (fun c26_ => ?_)
            · skip
              refine kb_iload_n X 2 dX6_die_160 rfl rfl ?_
              refine ke_i X Z dX6_die_161 ?_
              have e_ : oDie v p = (wHeir v pj, some (wBury v pj)) := by simp [oDie, c1_, ePp, c2_, c6_, c26_]
              rw [e_]
              exact ⟨hh3_.symm, RWp.of (hRk.win (die_EN (by omega) h6 hz (by rw [show vN v = i by omega]; exact hd_) (Or.inr ⟨hh3_, hh1_, hh2_, rfl⟩)) hFz (hG.bury (by omega)))⟩
            · skip
              omega
          | succ K_ ih =>
            intro i z E hh
            obtain ⟨hi, hz, hFz, hd_⟩ := id hh
            refine kb_iload_n X 3 dX6_die_71 rfl rfl ?_
            refine kb_aload_n X 0 dX6_die_72 rfl rfl ?_
            refine kb_get (v := .int (nI ((vN v)))) (C := RX6) (T := TX6) (N := 25) (ci := 6) X kw_iX6 rfl 0 0 rfl (by decide) kf_X6_65 rfl rfl dX6_die_73 ?_
            refine kn_icmp_ge (a := i) (b := (vN v)) (tgt := 160) X (by omega) (by omega) dX6_die_76 (by decide) (fun c27_ => ?_) (fun c27_ => ?_)
            · skip
              omega
            · skip
              refine kb_iload_n X 2 dX6_die_79 rfl rfl ?_
              refine kb_if_lt (tgt := 124) X dX6_die_80 (by decide) (fun c28_ => ?_) (fun c28_ => ?_)
              · skip
                exact absurd c28_ (nI_pos (by omega))
              · skip
                refine kb_iload_n X 3 dX6_die_83 rfl rfl ?_
                refine kb_iload_n X 2 dX6_die_84 rfl rfl ?_
                refine kn_icmp_eq (a := i) (b := h_) (tgt := 124) X (by omega) (by omega) dX6_die_85 (by decide) (fun c29_ => ?_) (fun c29_ => ?_)
                · skip
                  refine kb_aload_n X 0 dX6_die_124 rfl rfl ?_
                  refine kb_get (v := .ref (a 5)) (C := RX6) (T := TX6) (N := 25) (ci := 6) X kw_iX6 rfl 0 8 rfl (by decide) kf_X6_22 rfl rfl dX6_die_125 ?_
                  refine kb_bipush (v := (46 : Int32)) X dX6_die_128 (by decide) ?_
                  refine kb_bipush (v := (6 : Int32)) X dX6_die_130 (by decide) ?_
                  refine kb_iload_n X 3 dX6_die_132 rfl rfl ?_
                  refine kn_imul X 6 i dX6_die_133 ?_
                  refine kn_iadd X 46 (6 * i) dX6_die_134 ?_
                  refine kb_iload_n X 1 dX6_die_135 rfl rfl ?_
                  refine kn_iadd X (46 + (6 * i)) pj dX6_die_136 ?_
                  refine kb_iconst (v := (0 : Int32)) X dX6_die_137 (by decide) ?_
                  refine kb_iast (i := (46 + (6 * i)) + pj) X 5 rfl (by omega) (by decide) dX6_die_138 (ws' := wR g a (vN v) so ag (vG v) np ns na nf (upd z ((46 + (6 * i)) + pj) (0 : Int32)) ack ke le tx ap bg wr se wh wo bl ck sw ma ro bs) rfl ?_
                  generalize hsl30_ : upd z ((46 + (6 * i)) + pj) (0 : Int32) = sl30_
                  have hE31_ : EN sl30_ 0 (sD (sD (sC (sX v (vX v ||| 2 ^ pj)) (upd (upd (vC v) h_ (mn 999 (vC v h_ + vC v pj))) pj 0)) E) (upd E (i * 6 + pj) (0 : Int32))) := by rw [← hsl30_]; exact hz.sd (p := i) (q := pj) (by omega) (by omega) (by omega)
                  have hF32_ : FR slk sl30_ 0 := by rw [← hsl30_]; exact FR.up hFz (by omega) (by omega)
                  refine kb_aload_n X 0 dX6_die_139 rfl rfl ?_
                  refine kb_get (v := .ref (a 5)) (C := RX6) (T := TX6) (N := 25) (ci := 6) X kw_iX6 rfl 0 8 rfl (by decide) kf_X6_22 rfl rfl dX6_die_140 ?_
                  refine kb_bipush (v := (46 : Int32)) X dX6_die_143 (by decide) ?_
                  refine kb_bipush (v := (6 : Int32)) X dX6_die_145 (by decide) ?_
                  refine kb_iload_n X 1 dX6_die_147 rfl rfl ?_
                  refine kn_imul X 6 pj dX6_die_148 ?_
                  refine kn_iadd X 46 (6 * pj) dX6_die_149 ?_
                  refine kb_iload_n X 3 dX6_die_150 rfl rfl ?_
                  refine kn_iadd X (46 + (6 * pj)) i dX6_die_151 ?_
                  refine kb_iconst (v := (0 : Int32)) X dX6_die_152 (by decide) ?_
                  refine kb_iast (i := (46 + (6 * pj)) + i) X 5 rfl (by omega) (by decide) dX6_die_153 (ws' := wR g a (vN v) so ag (vG v) np ns na nf (upd sl30_ ((46 + (6 * pj)) + i) (0 : Int32)) ack ke le tx ap bg wr se wh wo bl ck sw ma ro bs) rfl ?_
                  generalize hsl33_ : upd sl30_ ((46 + (6 * pj)) + i) (0 : Int32) = sl33_
                  have hE34_ : EN sl33_ 0 (sD (sD (sD (sC (sX v (vX v ||| 2 ^ pj)) (upd (upd (vC v) h_ (mn 999 (vC v h_ + vC v pj))) pj 0)) E) (upd E (i * 6 + pj) (0 : Int32))) (upd (upd E (i * 6 + pj) (0 : Int32)) (pj * 6 + i) (0 : Int32))) := by rw [← hsl33_]; exact hE31_.sd (p := pj) (q := i) (by omega) (by omega) (by omega)
                  have hF35_ : FR slk sl33_ 0 := by rw [← hsl33_]; exact FR.up hF32_ (by omega) (by omega)
                  refine kb_iinc X 3 [1, 2, 3, 0] (v' := nI (i + 1)) dX6_die_154 rfl (nI_add _ _) (by decide) (lv' := [(0, .ref (a 0)), (1, .int (nI (pj))), (2, .int (nI (h_))), (3, .int (nI (i + 1)))]) rfl ?_
                  refine kb_goto (tgt := 71) X dX6_die_157 (by decide) ?_
                  exact kw_to (ih (i + 1) sl33_ (upd (upd E (i * 6 + pj) (0 : Int32)) (pj * 6 + i) (0 : Int32)) ⟨by omega, (show EN sl33_ 0 (sD (sC (sX v (vX v ||| 2 ^ pj)) (upd (upd (vC v) h_ (mn 999 (vC v h_ + vC v pj))) pj 0)) (upd (upd E (i * 6 + pj) (0 : Int32)) (pj * 6 + i) (0 : Int32))) from hE34_), hF35_, by have q_ := DC.s hd_ (show i < 6 by omega) (show pj < 6 by omega); rw [if_neg (by omega)] at q_; exact q_⟩) rfl rfl rfl
                · skip
                  refine kb_iload_n X 3 dX6_die_88 rfl rfl ?_
                  refine kb_iload_n X 1 dX6_die_89 rfl rfl ?_
                  refine kn_icmp_eq (a := i) (b := pj) (tgt := 124) X (by omega) (by omega) dX6_die_90 (by decide) (fun c36_ => ?_) (fun c36_ => ?_)
                  · skip
                    refine kb_aload_n X 0 dX6_die_124 rfl rfl ?_
                    refine kb_get (v := .ref (a 5)) (C := RX6) (T := TX6) (N := 25) (ci := 6) X kw_iX6 rfl 0 8 rfl (by decide) kf_X6_22 rfl rfl dX6_die_125 ?_
                    refine kb_bipush (v := (46 : Int32)) X dX6_die_128 (by decide) ?_
                    refine kb_bipush (v := (6 : Int32)) X dX6_die_130 (by decide) ?_
                    refine kb_iload_n X 3 dX6_die_132 rfl rfl ?_
                    refine kn_imul X 6 i dX6_die_133 ?_
                    refine kn_iadd X 46 (6 * i) dX6_die_134 ?_
                    refine kb_iload_n X 1 dX6_die_135 rfl rfl ?_
                    refine kn_iadd X (46 + (6 * i)) pj dX6_die_136 ?_
                    refine kb_iconst (v := (0 : Int32)) X dX6_die_137 (by decide) ?_
                    refine kb_iast (i := (46 + (6 * i)) + pj) X 5 rfl (by omega) (by decide) dX6_die_138 (ws' := wR g a (vN v) so ag (vG v) np ns na nf (upd z ((46 + (6 * i)) + pj) (0 : Int32)) ack ke le tx ap bg wr se wh wo bl ck sw ma ro bs) rfl ?_
                    generalize hsl37_ : upd z ((46 + (6 * i)) + pj) (0 : Int32) = sl37_
                    have hE38_ : EN sl37_ 0 (sD (sD (sC (sX v (vX v ||| 2 ^ pj)) (upd (upd (vC v) h_ (mn 999 (vC v h_ + vC v pj))) pj 0)) E) (upd E (i * 6 + pj) (0 : Int32))) := by rw [← hsl37_]; exact hz.sd (p := i) (q := pj) (by omega) (by omega) (by omega)
                    have hF39_ : FR slk sl37_ 0 := by rw [← hsl37_]; exact FR.up hFz (by omega) (by omega)
                    refine kb_aload_n X 0 dX6_die_139 rfl rfl ?_
                    refine kb_get (v := .ref (a 5)) (C := RX6) (T := TX6) (N := 25) (ci := 6) X kw_iX6 rfl 0 8 rfl (by decide) kf_X6_22 rfl rfl dX6_die_140 ?_
                    refine kb_bipush (v := (46 : Int32)) X dX6_die_143 (by decide) ?_
                    refine kb_bipush (v := (6 : Int32)) X dX6_die_145 (by decide) ?_
                    refine kb_iload_n X 1 dX6_die_147 rfl rfl ?_
                    refine kn_imul X 6 pj dX6_die_148 ?_
                    refine kn_iadd X 46 (6 * pj) dX6_die_149 ?_
                    refine kb_iload_n X 3 dX6_die_150 rfl rfl ?_
                    refine kn_iadd X (46 + (6 * pj)) i dX6_die_151 ?_
                    refine kb_iconst (v := (0 : Int32)) X dX6_die_152 (by decide) ?_
                    refine kb_iast (i := (46 + (6 * pj)) + i) X 5 rfl (by omega) (by decide) dX6_die_153 (ws' := wR g a (vN v) so ag (vG v) np ns na nf (upd sl37_ ((46 + (6 * pj)) + i) (0 : Int32)) ack ke le tx ap bg wr se wh wo bl ck sw ma ro bs) rfl ?_
                    generalize hsl40_ : upd sl37_ ((46 + (6 * pj)) + i) (0 : Int32) = sl40_
                    have hE41_ : EN sl40_ 0 (sD (sD (sD (sC (sX v (vX v ||| 2 ^ pj)) (upd (upd (vC v) h_ (mn 999 (vC v h_ + vC v pj))) pj 0)) E) (upd E (i * 6 + pj) (0 : Int32))) (upd (upd E (i * 6 + pj) (0 : Int32)) (pj * 6 + i) (0 : Int32))) := by rw [← hsl40_]; exact hE38_.sd (p := pj) (q := i) (by omega) (by omega) (by omega)
                    have hF42_ : FR slk sl40_ 0 := by rw [← hsl40_]; exact FR.up hF39_ (by omega) (by omega)
                    refine kb_iinc X 3 [1, 2, 3, 0] (v' := nI (i + 1)) dX6_die_154 rfl (nI_add _ _) (by decide) (lv' := [(0, .ref (a 0)), (1, .int (nI (pj))), (2, .int (nI (h_))), (3, .int (nI (i + 1)))]) rfl ?_
                    refine kb_goto (tgt := 71) X dX6_die_157 (by decide) ?_
                    exact kw_to (ih (i + 1) sl40_ (upd (upd E (i * 6 + pj) (0 : Int32)) (pj * 6 + i) (0 : Int32)) ⟨by omega, (show EN sl40_ 0 (sD (sC (sX v (vX v ||| 2 ^ pj)) (upd (upd (vC v) h_ (mn 999 (vC v h_ + vC v pj))) pj 0)) (upd (upd E (i * 6 + pj) (0 : Int32)) (pj * 6 + i) (0 : Int32))) from hE41_), hF42_, by have q_ := DC.s hd_ (show i < 6 by omega) (show pj < 6 by omega); rw [if_neg (by omega)] at q_; exact q_⟩) rfl rfl rfl
                  · skip
                    refine kb_aload_n X 0 dX6_die_93 rfl rfl ?_
                    refine kb_get (v := .ref (a 5)) (C := RX6) (T := TX6) (N := 25) (ci := 6) X kw_iX6 rfl 0 8 rfl (by decide) kf_X6_22 rfl rfl dX6_die_94 ?_
                    refine kb_bipush (v := (46 : Int32)) X dX6_die_97 (by decide) ?_
                    refine kb_bipush (v := (6 : Int32)) X dX6_die_99 (by decide) ?_
                    refine kb_iload_n X 3 dX6_die_101 rfl rfl ?_
                    refine kn_imul X 6 i dX6_die_102 ?_
                    refine kn_iadd X 46 (6 * i) dX6_die_103 ?_
                    refine kb_iload_n X 2 dX6_die_104 rfl rfl ?_
                    refine kn_iadd X (46 + (6 * i)) h_ dX6_die_105 ?_
                    refine kb_dup2 X dX6_die_106 rfl rfl ?_
                    refine kb_iald (i := (46 + (6 * i)) + h_) X 5 rfl (by omega) (by decide) dX6_die_107 ?_
                    refine kw_top (b := .int (E (i * 6 + h_))) (congrArg Value.int (hz.d (p := i) (q := h_) (by omega) (by omega) (by omega))) ?_
                    refine kb_aload_n X 0 dX6_die_108 rfl rfl ?_
                    refine kb_get (v := .ref (a 5)) (C := RX6) (T := TX6) (N := 25) (ci := 6) X kw_iX6 rfl 0 8 rfl (by decide) kf_X6_22 rfl rfl dX6_die_109 ?_
                    refine kb_bipush (v := (46 : Int32)) X dX6_die_112 (by decide) ?_
                    refine kb_bipush (v := (6 : Int32)) X dX6_die_114 (by decide) ?_
                    refine kb_iload_n X 3 dX6_die_116 rfl rfl ?_
                    refine kn_imul X 6 i dX6_die_117 ?_
                    refine kn_iadd X 46 (6 * i) dX6_die_118 ?_
                    refine kb_iload_n X 1 dX6_die_119 rfl rfl ?_
                    refine kn_iadd X (46 + (6 * i)) pj dX6_die_120 ?_
                    refine kb_iald (i := (46 + (6 * i)) + pj) X 5 rfl (by omega) (by decide) dX6_die_121 ?_
                    refine kw_top (b := .int (E (i * 6 + pj))) (congrArg Value.int (hz.d (p := i) (q := pj) (by omega) (by omega) (by omega))) ?_
                    refine kb_iadd X dX6_die_122 ?_
                    refine kb_iast (i := (46 + (6 * i)) + h_) X 5 rfl (by omega) (by decide) dX6_die_123 (ws' := wR g a (vN v) so ag (vG v) np ns na nf (upd z ((46 + (6 * i)) + h_) ((E (i * 6 + h_)) + (E (i * 6 + pj)))) ack ke le tx ap bg wr se wh wo bl ck sw ma ro bs) rfl ?_
                    generalize hsl43_ : upd z ((46 + (6 * i)) + h_) ((E (i * 6 + h_)) + (E (i * 6 + pj))) = sl43_
                    have hE44_ : EN sl43_ 0 (sD (sD (sC (sX v (vX v ||| 2 ^ pj)) (upd (upd (vC v) h_ (mn 999 (vC v h_ + vC v pj))) pj 0)) E) (upd E (i * 6 + h_) ((E (i * 6 + h_)) + (E (i * 6 + pj))))) := by rw [← hsl43_]; exact hz.sd (p := i) (q := h_) (by omega) (by omega) (by omega)
                    have hF45_ : FR slk sl43_ 0 := by rw [← hsl43_]; exact FR.up hFz (by omega) (by omega)
                    refine kb_aload_n X 0 dX6_die_124 rfl rfl ?_
                    refine kb_get (v := .ref (a 5)) (C := RX6) (T := TX6) (N := 25) (ci := 6) X kw_iX6 rfl 0 8 rfl (by decide) kf_X6_22 rfl rfl dX6_die_125 ?_
                    refine kb_bipush (v := (46 : Int32)) X dX6_die_128 (by decide) ?_
                    refine kb_bipush (v := (6 : Int32)) X dX6_die_130 (by decide) ?_
                    refine kb_iload_n X 3 dX6_die_132 rfl rfl ?_
                    refine kn_imul X 6 i dX6_die_133 ?_
                    refine kn_iadd X 46 (6 * i) dX6_die_134 ?_
                    refine kb_iload_n X 1 dX6_die_135 rfl rfl ?_
                    refine kn_iadd X (46 + (6 * i)) pj dX6_die_136 ?_
                    refine kb_iconst (v := (0 : Int32)) X dX6_die_137 (by decide) ?_
                    refine kb_iast (i := (46 + (6 * i)) + pj) X 5 rfl (by omega) (by decide) dX6_die_138 (ws' := wR g a (vN v) so ag (vG v) np ns na nf (upd sl43_ ((46 + (6 * i)) + pj) (0 : Int32)) ack ke le tx ap bg wr se wh wo bl ck sw ma ro bs) rfl ?_
                    generalize hsl46_ : upd sl43_ ((46 + (6 * i)) + pj) (0 : Int32) = sl46_
                    have hE47_ : EN sl46_ 0 (sD (sD (sD (sC (sX v (vX v ||| 2 ^ pj)) (upd (upd (vC v) h_ (mn 999 (vC v h_ + vC v pj))) pj 0)) E) (upd E (i * 6 + h_) ((E (i * 6 + h_)) + (E (i * 6 + pj))))) (upd (upd E (i * 6 + h_) ((E (i * 6 + h_)) + (E (i * 6 + pj)))) (i * 6 + pj) (0 : Int32))) := by rw [← hsl46_]; exact hE44_.sd (p := i) (q := pj) (by omega) (by omega) (by omega)
                    have hF48_ : FR slk sl46_ 0 := by rw [← hsl46_]; exact FR.up hF45_ (by omega) (by omega)
                    refine kb_aload_n X 0 dX6_die_139 rfl rfl ?_
                    refine kb_get (v := .ref (a 5)) (C := RX6) (T := TX6) (N := 25) (ci := 6) X kw_iX6 rfl 0 8 rfl (by decide) kf_X6_22 rfl rfl dX6_die_140 ?_
                    refine kb_bipush (v := (46 : Int32)) X dX6_die_143 (by decide) ?_
                    refine kb_bipush (v := (6 : Int32)) X dX6_die_145 (by decide) ?_
                    refine kb_iload_n X 1 dX6_die_147 rfl rfl ?_
                    refine kn_imul X 6 pj dX6_die_148 ?_
                    refine kn_iadd X 46 (6 * pj) dX6_die_149 ?_
                    refine kb_iload_n X 3 dX6_die_150 rfl rfl ?_
                    refine kn_iadd X (46 + (6 * pj)) i dX6_die_151 ?_
                    refine kb_iconst (v := (0 : Int32)) X dX6_die_152 (by decide) ?_
                    refine kb_iast (i := (46 + (6 * pj)) + i) X 5 rfl (by omega) (by decide) dX6_die_153 (ws' := wR g a (vN v) so ag (vG v) np ns na nf (upd sl46_ ((46 + (6 * pj)) + i) (0 : Int32)) ack ke le tx ap bg wr se wh wo bl ck sw ma ro bs) rfl ?_
                    generalize hsl49_ : upd sl46_ ((46 + (6 * pj)) + i) (0 : Int32) = sl49_
                    have hE50_ : EN sl49_ 0 (sD (sD (sD (sD (sC (sX v (vX v ||| 2 ^ pj)) (upd (upd (vC v) h_ (mn 999 (vC v h_ + vC v pj))) pj 0)) E) (upd E (i * 6 + h_) ((E (i * 6 + h_)) + (E (i * 6 + pj))))) (upd (upd E (i * 6 + h_) ((E (i * 6 + h_)) + (E (i * 6 + pj)))) (i * 6 + pj) (0 : Int32))) (upd (upd (upd E (i * 6 + h_) ((E (i * 6 + h_)) + (E (i * 6 + pj)))) (i * 6 + pj) (0 : Int32)) (pj * 6 + i) (0 : Int32))) := by rw [← hsl49_]; exact hE47_.sd (p := pj) (q := i) (by omega) (by omega) (by omega)
                    have hF51_ : FR slk sl49_ 0 := by rw [← hsl49_]; exact FR.up hF48_ (by omega) (by omega)
                    refine kb_iinc X 3 [1, 2, 3, 0] (v' := nI (i + 1)) dX6_die_154 rfl (nI_add _ _) (by decide) (lv' := [(0, .ref (a 0)), (1, .int (nI (pj))), (2, .int (nI (h_))), (3, .int (nI (i + 1)))]) rfl ?_
                    refine kb_goto (tgt := 71) X dX6_die_157 (by decide) ?_
                    exact kw_to (ih (i + 1) sl49_ (upd (upd (upd E (i * 6 + h_) ((E (i * 6 + h_)) + (E (i * 6 + pj)))) (i * 6 + pj) (0 : Int32)) (pj * 6 + i) (0 : Int32)) ⟨by omega, (show EN sl49_ 0 (sD (sC (sX v (vX v ||| 2 ^ pj)) (upd (upd (vC v) h_ (mn 999 (vC v h_ + vC v pj))) pj 0)) (upd (upd (upd E (i * 6 + h_) ((E (i * 6 + h_)) + (E (i * 6 + pj)))) (i * 6 + pj) (0 : Int32)) (pj * 6 + i) (0 : Int32))) from hE50_), hF51_, by have q_ := DC.s hd_ (show i < 6 by omega) (show pj < 6 by omega); rw [if_pos (by omega)] at q_; exact q_⟩) rfl rfl rfl
        exact kw_to (L71 (vN v) 0 sl23_ (vD v) ⟨by omega, hE24_, hF25_, DC.z⟩) rfl rfl rfl
    · skip
      refine kb_bipush (v := (-2 : Int32)) X dX6_die_19 (by decide) ?_
      refine ke_i X Z dX6_die_21 ?_
      have e_ : oDie v p = (-2, none) := by simp [oDie, c1_, ePp, c2_]
      rw [e_]
      exact ⟨rfl, RWp.of hR⟩
  · skip
    refine kb_iconst (v := (-1 : Int32)) X dX6_die_8 (by decide) ?_
    refine ke_i X Z dX6_die_9 ?_
    have e_ : oDie v p = (-1, none) := by simp [oDie, c1_]
    rw [e_]
    exact ⟨rfl, RWp.of hR⟩

set_option maxHeartbeats 4000000 in
set_option maxRecDepth 100000 in
theorem ct_X6_keep (l : Launch) (g : kw_G) (a : Nat → Nat) (so : Nat → Int32) (ag : Nat → Int32) (np : Nat) (ns : Nat → Int32) (na : Nat → Int32) (nf : Int32) (sl : Nat → Int32) (ac : Nat) (ke : Nat) (le : Nat) (tx : Nat → Nat) (ap : Nat) (bg : Nat) (wr : Bool) (se : Nat) (wh : Nat → Nat) (wo : Nat → Nat) (bl : Nat → Int32) (ck : Nat → Int32) (sw : Nat → Bool) (ma : Nat) (ro : Nat → Nat) (bs : Nat → Nat) (v : VS) (us ks : List VS) (tf : Nat → Nat) (tn : Nat) (s : SS) (hR : RI (vN v) so ag (vG v) sl ac ke le tx se wh wo bl ck sw v us ks tf tn s) : kMi l g yX6_keep cX6_keep 1 .int (kw_rm 2 0 0) 0 0 [.ref (a 0)] (wR g a (vN v) so ag (vG v) np ns na nf sl ac ke le tx ap bg wr se wh wo bl ck sw ma ro bs) (fun r w => r = kR ks ∧ RWp g a v us (kK v ks) tf tn s w) := by
  refine kMi_of (by decide +kernel) (Nat.le_of_ble_eq_true rfl) (fun x (X : kX l g RX6 cX6_keep 1 (kw_rm 2 0 0) x) (Z : kZi .int _ 0 0 x) => ?_)
  show kW x 0 0 0 [(0, .ref (a 0))] [] (wR g a (vN v) so ag (vG v) np ns na nf sl ac ke le tx ap bg wr se wh wo bl ck sw ma ro bs)
  have hE := hR.1
  have hG := hR.2.1
  have hK := hR.2.1.1
  have hv := hR.2.1.2.1
  have hT := hR.2.1.2.2.1
  have hN0 := hR.2.1.2.2.2
  have h6 := hv.1
  have hx64 := hv.2.1
  have hh64 := hv.2.2
  have hke := hR.2.2.2.1.2.1
  have hkl := hR.2.2.2.1.1
  refine kb_aload_n X 0 dX6_keep_0 rfl rfl ?_
  refine kb_get (v := .int (nI (ke))) (C := RX6) (T := TX6) (N := 25) (ci := 6) X kw_iX6 rfl 0 10 rfl (by decide) kf_X6_126 rfl rfl dX6_keep_1 ?_
  refine kb_iconst (v := (2 : Int32)) X dX6_keep_4 (by decide) ?_
  refine kn_icmp_ne (a := ke) (b := 2) (tgt := 11) X (by omega) (by omega) dX6_keep_5 (by decide) (fun c1_ => ?_) (fun c1_ => ?_)
  · skip
    refine kb_aload_n X 0 dX6_keep_11 rfl rfl ?_
    refine kb_iconst (v := (0 : Int32)) X dX6_keep_12 (by decide) ?_
    refine kb_bipush (v := (9 : Int32)) X dX6_keep_13 (by decide) ?_
    refine kb_aload_n X 0 dX6_keep_15 rfl rfl ?_
    refine kb_get (v := .int (nI (ke))) (C := RX6) (T := TX6) (N := 25) (ci := 6) X kw_iX6 rfl 0 10 rfl (by decide) kf_X6_126 rfl rfl dX6_keep_16 ?_
    refine kn_iadd X 9 ke dX6_keep_19 ?_
    refine kb_bipush (v := (82 : Int32)) X dX6_keep_20 (by decide) ?_
    refine kn_imul X (9 + ke) 82 dX6_keep_22 ?_
    refine kc_Vv X (As := [.int 0, .int (nI ((9 + ke) * 82))]) (rest := []) (wr := []) (ct_X6_copies l g a (vN v) so ag (vG v) np ns na nf sl ac ke le tx ap bg wr se wh wo bl ck sw ma ro bs 0 ((9 + ke) * 82) (by omega) (by omega) (by omega)) dX6_keep_23 rfl (kw_pall _) mc_X6_copies kl_X6_119 mi_X6_copies mv_X6_copies kn_X6 0 rfl rfl rfl (na := 2) (by decide +kernel) rfl ⟨Nat.le_of_ble_eq_true rfl, Nat.le_of_ble_eq_true rfl⟩ ⟨rfl, rfl⟩ ⟨Nat.le_of_ble_eq_true rfl, Nat.le_of_ble_eq_true rfl⟩ (Nat.le_of_ble_eq_true rfl) (fun w_ hp_ => ?_)
    obtain ⟨sl2_, hC3_, rfl⟩ := hp_
    have hE4_ := hE.fr hC3_.2 (by omega)
    refine kw_ws (List.append_nil _) ?_
    refine kb_aload_n X 0 dX6_keep_26 rfl rfl ?_
    refine kb_dup X dX6_keep_27 rfl ?_
    refine kb_get (v := .int (nI (ke))) (C := RX6) (T := TX6) (N := 25) (ci := 6) X kw_iX6 rfl 0 10 rfl (by decide) kf_X6_126 rfl rfl dX6_keep_28 ?_
    refine kb_iconst (v := (1 : Int32)) X dX6_keep_31 (by decide) ?_
    refine kn_iadd X ke 1 dX6_keep_32 ?_
    refine kb_put X (C := RX6) (T := TX6) (N := 25) (ci := 6) (ty := .int) kw_iX6 tyX6 tyX6_ok nmX6 rfl 0 10 rfl (by decide) kf_X6_126 rfl rfl (by decide +kernel) rfl rfl (Nat.le_of_ble_eq_true rfl) dX6_keep_33 (ws' := wR g a (vN v) so ag (vG v) np ns na nf sl2_ ac (ke + 1) le tx ap bg wr se wh wo bl ck sw ma ro bs) rfl ?_
    refine kb_aload_n X 0 dX6_keep_36 rfl rfl ?_
    refine kb_get (v := .int (nI (ke + 1))) (C := RX6) (T := TX6) (N := 25) (ci := 6) X kw_iX6 rfl 0 10 rfl (by decide) kf_X6_126 rfl rfl dX6_keep_37 ?_
    refine ke_i X Z dX6_keep_40 ?_
    exact ⟨by rw [kR, if_neg (by omega), hkl], RWp.of (keep_ok hR c1_ hC3_)⟩
  · skip
    refine kb_bipush (v := (-3 : Int32)) X dX6_keep_8 (by decide) ?_
    refine ke_i X Z dX6_keep_10 ?_
    exact ⟨by rw [kR, if_pos (by omega)] <;> rfl, by rw [kK, if_pos (by omega)]; exact RWp.of hR⟩

set_option maxHeartbeats 4000000 in
set_option maxRecDepth 100000 in
theorem ct_X6_back (l : Launch) (g : kw_G) (a : Nat → Nat) (so : Nat → Int32) (ag : Nat → Int32) (np : Nat) (ns : Nat → Int32) (na : Nat → Int32) (nf : Int32) (sl : Nat → Int32) (ac : Nat) (ke : Nat) (le : Nat) (tx : Nat → Nat) (ap : Nat) (bg : Nat) (wr : Bool) (se : Nat) (wh : Nat → Nat) (wo : Nat → Nat) (bl : Nat → Int32) (ck : Nat → Int32) (sw : Nat → Bool) (ma : Nat) (ro : Nat → Nat) (bs : Nat → Nat) (v : VS) (us ks : List VS) (tf : Nat → Nat) (tn : Nat) (s : SS) (hR : RI (vN v) so ag (vG v) sl ac ke le tx se wh wo bl ck sw v us ks tf tn s) : kMi l g yX6_back cX6_back 1 .int (kw_rm 2 0 0) 0 0 [.ref (a 0)] (wR g a (vN v) so ag (vG v) np ns na nf sl ac ke le tx ap bg wr se wh wo bl ck sw ma ro bs) (fun r w => r = uR ks ∧ RWp g a (uV v ks) (bU us ks) ks.tail tf tn s w) := by
  refine kMi_of (by decide +kernel) (Nat.le_of_ble_eq_true rfl) (fun x (X : kX l g RX6 cX6_back 1 (kw_rm 2 0 0) x) (Z : kZi .int _ 0 0 x) => ?_)
  show kW x 0 0 0 [(0, .ref (a 0))] [] (wR g a (vN v) so ag (vG v) np ns na nf sl ac ke le tx ap bg wr se wh wo bl ck sw ma ro bs)
  have hE := hR.1
  have hG := hR.2.1
  have hK := hR.2.1.1
  have hv := hR.2.1.2.1
  have hT := hR.2.1.2.2.1
  have hN0 := hR.2.1.2.2.2
  have h6 := hv.1
  have hx64 := hv.2.1
  have hh64 := hv.2.2
  have hke := hR.2.2.2.1.2.1
  have hkl := hR.2.2.2.1.1
  refine kb_aload_n X 0 dX6_back_0 rfl rfl ?_
  refine kb_get (v := .int (nI (ke))) (C := RX6) (T := TX6) (N := 25) (ci := 6) X kw_iX6 rfl 0 10 rfl (by decide) kf_X6_126 rfl rfl dX6_back_1 ?_
  refine kn_if_ne (a := ke) (tgt := 10) X (by omega) dX6_back_4 (by decide) (fun c1_ => ?_) (fun c1_ => ?_)
  · skip
    refine kb_aload_n X 0 dX6_back_10 rfl rfl ?_
    refine kb_dup X dX6_back_11 rfl ?_
    refine kb_get (v := .int (nI (ke))) (C := RX6) (T := TX6) (N := 25) (ci := 6) X kw_iX6 rfl 0 10 rfl (by decide) kf_X6_126 rfl rfl dX6_back_12 ?_
    refine kb_iconst (v := (1 : Int32)) X dX6_back_15 (by decide) ?_
    refine kn_isub X ke 1 (by omega) dX6_back_16 ?_
    refine kb_put X (C := RX6) (T := TX6) (N := 25) (ci := 6) (ty := .int) kw_iX6 tyX6 tyX6_ok nmX6 rfl 0 10 rfl (by decide) kf_X6_126 rfl rfl (by decide +kernel) rfl rfl (Nat.le_of_ble_eq_true rfl) dX6_back_17 (ws' := wR g a (vN v) so ag (vG v) np ns na nf sl ac (ke - 1) le tx ap bg wr se wh wo bl ck sw ma ro bs) rfl ?_
    refine kb_aload_n X 0 dX6_back_20 rfl rfl ?_
    refine kb_bipush (v := (9 : Int32)) X dX6_back_21 (by decide) ?_
    refine kb_aload_n X 0 dX6_back_23 rfl rfl ?_
    refine kb_get (v := .int (nI (ke - 1))) (C := RX6) (T := TX6) (N := 25) (ci := 6) X kw_iX6 rfl 0 10 rfl (by decide) kf_X6_126 rfl rfl dX6_back_24 ?_
    refine kn_iadd X 9 (ke - 1) dX6_back_27 ?_
    refine kb_bipush (v := (82 : Int32)) X dX6_back_28 (by decide) ?_
    refine kn_imul X (9 + (ke - 1)) 82 dX6_back_30 ?_
    refine kb_iconst (v := (0 : Int32)) X dX6_back_31 (by decide) ?_
    refine kc_Vv X (As := [.int (nI ((9 + (ke - 1)) * 82)), .int 0]) (rest := []) (wr := []) (ct_X6_copies l g a (vN v) so ag (vG v) np ns na nf sl ac (ke - 1) le tx ap bg wr se wh wo bl ck sw ma ro bs ((9 + (ke - 1)) * 82) 0 (by omega) (by omega) (by omega)) dX6_back_32 rfl (kw_pall _) mc_X6_copies kl_X6_119 mi_X6_copies mv_X6_copies kn_X6 0 rfl rfl rfl (na := 2) (by decide +kernel) rfl ⟨Nat.le_of_ble_eq_true rfl, Nat.le_of_ble_eq_true rfl⟩ ⟨rfl, rfl⟩ ⟨Nat.le_of_ble_eq_true rfl, Nat.le_of_ble_eq_true rfl⟩ (Nat.le_of_ble_eq_true rfl) (fun w_ hp_ => ?_)
    obtain ⟨sl2_, hC3_, rfl⟩ := hp_
    refine kw_ws (List.append_nil _) ?_
    refine kb_aload_n X 0 dX6_back_35 rfl rfl ?_
    refine kb_iconst (v := (0 : Int32)) X dX6_back_36 (by decide) ?_
    refine kb_put X (C := RX6) (T := TX6) (N := 25) (ci := 6) (ty := .int) kw_iX6 tyX6 tyX6_ok nmX6 rfl 0 9 rfl (by decide) kf_X6_123 rfl rfl (by decide +kernel) rfl rfl (Nat.le_of_ble_eq_true rfl) dX6_back_37 (ws' := wR g a (vN v) so ag (vG v) np ns na nf sl2_ 0 (ke - 1) le tx ap bg wr se wh wo bl ck sw ma ro bs) rfl ?_
    refine kb_aload_n X 0 dX6_back_40 rfl rfl ?_
    refine kb_get (v := .int (nI (ke - 1))) (C := RX6) (T := TX6) (N := 25) (ci := 6) X kw_iX6 rfl 0 10 rfl (by decide) kf_X6_126 rfl rfl dX6_back_41 ?_
    refine ke_i X Z dX6_back_44 ?_
    cases ks with
    | nil => exact absurd hkl (by rw [List.length_nil]; omega)
    | cons u_ t_ => exact ⟨by rw [List.length_cons] at hkl; rw [uR, show ke - 1 = t_.length by omega], RWp.of (back_ok hR hC3_)⟩
  · skip
    refine kb_bipush (v := (-2 : Int32)) X dX6_back_7 (by decide) ?_
    refine ke_i X Z dX6_back_9 ?_
    have e_ : ks = [] := List.length_eq_zero_iff.mp (by omega)
    subst e_
    exact ⟨rfl, RWp.of hR⟩

set_option maxHeartbeats 4000000 in
set_option maxRecDepth 100000 in
theorem ct_X6_isSet (l : Launch) (g : kw_G) (a : Nat → Nat) (pe : Nat) (so : Nat → Int32) (ag : Nat → Int32) (fr : Int32) (np : Nat) (ns : Nat → Int32) (na : Nat → Int32) (nf : Int32) (sl : Nat → Int32) (ac : Nat) (ke : Nat) (le : Nat) (tx : Nat → Nat) (ap : Nat) (bg : Nat) (wr : Bool) (se : Nat) (wh : Nat → Nat) (wo : Nat → Nat) (bl : Nat → Int32) (ck : Nat → Int32) (sw : Nat → Bool) (ma : Nat) (ro : Nat → Nat) (bs : Nat → Nat) (p : Nat) (st : Int32) (v : VS) (hpe : pe = vN v) (h6 : vN v ≤ 6) (hp : p < 6) : kMi l g yX6_isSet cX6_isSet 3 .boolean (kw_rm 2 0 0) 0 0 [.ref (a 0), .int (nI (p)), .int (st)] (wR g a pe so ag fr np ns na nf sl ac ke le tx ap bg wr se wh wo bl ck sw ma ro bs) (fun r w => r = zI (isS v p st) ∧ w = wR g a pe so ag fr np ns na nf sl ac ke le tx ap bg wr se wh wo bl ck sw ma ro bs) := by
  refine kMi_of (by decide +kernel) (Nat.le_of_ble_eq_true rfl) (fun x (X : kX l g RX6 cX6_isSet 3 (kw_rm 2 0 0) x) (Z : kZi .boolean _ 0 0 x) => ?_)
  show kW x 0 0 0 [(0, .ref (a 0)), (1, .int (nI (p))), (2, .int (st))] [] (wR g a pe so ag fr np ns na nf sl ac ke le tx ap bg wr se wh wo bl ck sw ma ro bs)
  refine kb_iload_n X 2 dX6_isSet_0 rfl rfl ?_
  refine kb_i2l (v := st.toInt64) X dX6_isSet_1 rfl ?_
  refine kb_lconst (v := 1) X dX6_isSet_2 (by decide) ?_
  refine kb_iconst (v := (1 : Int32)) X dX6_isSet_3 (by decide) ?_
  refine kb_aload_n X 0 dX6_isSet_4 rfl rfl ?_
  refine kb_get (v := .int (nI (pe))) (C := RX6) (T := TX6) (N := 25) (ci := 6) X kw_iX6 rfl 0 0 rfl (by decide) kf_X6_65 rfl rfl dX6_isSet_5 ?_
  refine kb_ishl X dX6_isSet_8 ?_
  refine kw_top (b := .int (nI (2 ^ vN v))) (by rw [hpe, bit_in _ (by omega)]) ?_
  refine kb_iconst (v := (1 : Int32)) X dX6_isSet_9 (by decide) ?_
  refine kb_isub X dX6_isSet_10 ?_
  refine kb_i2l (v := ((nI (2 ^ vN v)) - (1 : Int32)).toInt64) X dX6_isSet_11 rfl ?_
  refine kc_Si X (As := [.long (st.toInt64), .long ((1 : Int64)), .long (((nI (2 ^ vN v)) - (1 : Int32)).toInt64)]) (rest := []) (wr := (wR g a pe so ag fr np ns na nf sl ac ke le tx ap bg wr se wh wo bl ck sw ma ro bs)) (ct_X6_in l g st.toInt64 (1 : Int64) (((nI (2 ^ vN v)) - (1 : Int32)).toInt64)) dX6_isSet_12 rfl (List.Perm.refl _) mc_X6_in kl_X6_71 ms_X6_in kn_X6 (na := 3) (by decide +kernel) rfl ⟨Nat.le_of_ble_eq_true rfl, Nat.le_of_ble_eq_true rfl⟩ ⟨rfl, rfl⟩ ⟨Nat.le_of_ble_eq_true rfl, Nat.le_of_ble_eq_true rfl⟩ (Nat.le_of_ble_eq_true rfl) (fun r_ w_ hp_ => ?_)
  obtain ⟨rfl, rfl⟩ := hp_
  refine kw_ws (List.nil_append _) ?_
  refine kw_top (b := .int (zI (inr st (1 : Int32) ((nI (2 ^ vN v)) - (1 : Int32))))) (congrArg (fun q => Value.int (zI q)) (lin_c (by decide) rfl)) ?_
  refine kz_if_eq (b := inr st (1 : Int32) ((nI (2 ^ vN v)) - (1 : Int32))) (tgt := 30) X dX6_isSet_15 (by decide) (fun c1_ => ?_) (fun c1_ => ?_)
  · skip
    refine kb_iconst (v := (0 : Int32)) X dX6_isSet_30 (by decide) ?_
    refine ke_z X Z rfl dX6_isSet_31 ?_
    exact ⟨by simp [isS, zI, c1_], rfl⟩
  · skip
    obtain ⟨sj, hs1, hs2, hs3, esj, ePs⟩ := set_j h6 c1_
    refine kw_lv (lv' := [(0, .ref (a 0)), (1, .int (nI (p))), (2, .int (nI (sj)))]) (by rw [esj]) ?_
    refine kb_iload_n X 2 dX6_isSet_18 rfl rfl ?_
    refine kb_iload_n X 1 dX6_isSet_19 rfl rfl ?_
    refine kc_Si X (As := [.int (nI (sj)), .int (nI (p))]) (rest := []) (wr := (wR g a pe so ag fr np ns na nf sl ac ke le tx ap bg wr se wh wo bl ck sw ma ro bs)) (ct_X6_has l g sj p (by omega) (by omega)) dX6_isSet_20 rfl (List.Perm.refl _) mc_X6_has kl_X6_132 ms_X6_has kn_X6 (na := 2) (by decide +kernel) rfl ⟨Nat.le_of_ble_eq_true rfl, Nat.le_of_ble_eq_true rfl⟩ ⟨rfl, rfl⟩ ⟨Nat.le_of_ble_eq_true rfl, Nat.le_of_ble_eq_true rfl⟩ (Nat.le_of_ble_eq_true rfl) (fun r_ w_ hp_ => ?_)
    obtain ⟨rfl, rfl⟩ := hp_
    refine kw_ws (List.nil_append _) ?_
    refine kz_if_ne (b := Nat.testBit sj p) (tgt := 30) X dX6_isSet_23 (by decide) (fun c2_ => ?_) (fun c2_ => ?_)
    · skip
      refine kb_iconst (v := (0 : Int32)) X dX6_isSet_30 (by decide) ?_
      refine ke_z X Z rfl dX6_isSet_31 ?_
      exact ⟨by simp [isS, zI, c1_, ePs, c2_], rfl⟩
    · skip
      refine kb_iconst (v := (1 : Int32)) X dX6_isSet_26 (by decide) ?_
      refine kb_goto (tgt := 31) X dX6_isSet_27 (by decide) ?_
      refine ke_z X Z rfl dX6_isSet_31 ?_
      exact ⟨by simp [isS, zI, c1_, ePs, c2_], rfl⟩

set_option maxHeartbeats 4000000 in
set_option maxRecDepth 100000 in
theorem ct_X6_cheapest (l : Launch) (g : kw_G) (a : Nat → Nat) (so : Nat → Int32) (ag : Nat → Int32) (np : Nat) (ns : Nat → Int32) (na : Nat → Int32) (nf : Int32) (sl : Nat → Int32) (ac : Nat) (ke : Nat) (le : Nat) (tx : Nat → Nat) (ap : Nat) (bg : Nat) (wr : Bool) (se : Nat) (wh : Nat → Nat) (wo : Nat → Nat) (bl : Nat → Int32) (ck : Nat → Int32) (sw : Nat → Bool) (ma : Nat) (ro : Nat → Nat) (bs : Nat → Nat) (v : VS) (us ks : List VS) (tf : Nat → Nat) (tn : Nat) (s : SS) (hR : RI (vN v) so ag (vG v) sl ac ke le tx se wh wo bl ck sw v us ks tf tn s) (p st m : Int32) : kMi l g yX6_cheapest cX6_cheapest 10 .int (kw_rm 5 0 0) 0 0 [.ref (a 0), .int (p), .int (st), .int (m)] (wR g a (vN v) so ag (vG v) np ns na nf sl ac ke le tx ap bg wr se wh wo bl ck sw ma ro bs) (fun r w => r = oCheap v p st m ∧ RWp g a v us ks tf tn s w) := by
  refine kMi_of (by decide +kernel) (Nat.le_of_ble_eq_true rfl) (fun x (X : kX l g RX6 cX6_cheapest 10 (kw_rm 5 0 0) x) (Z : kZi .int _ 0 0 x) => ?_)
  show kW x 0 0 0 [(0, .ref (a 0)), (1, .int (p)), (2, .int (st)), (3, .int (m))] [] (wR g a (vN v) so ag (vG v) np ns na nf sl ac ke le tx ap bg wr se wh wo bl ck sw ma ro bs)
  have hE := hR.1
  have hG := hR.2.1
  have hK := hR.2.1.1
  have hv := hR.2.1.2.1
  have hT := hR.2.1.2.2.1
  have hN0 := hR.2.1.2.2.2
  have h6 := hv.1
  have hx64 := hv.2.1
  have hh64 := hv.2.2
  refine kb_aload_n X 0 dX6_cheapest_0 rfl rfl ?_
  refine kb_iload_n X 1 dX6_cheapest_1 rfl rfl ?_
  refine kc_Vi X (As := [.int (p)]) (rest := []) (wr := []) (ct_X6_isPerson l g a (vN v) so ag (vG v) np ns na nf sl ac ke le tx ap bg wr se wh wo bl ck sw ma ro bs p (by omega)) dX6_cheapest_2 rfl (kw_pall _) mc_X6_isPerson kl_X6_75 mi_X6_isPerson mv_X6_isPerson kn_X6 0 rfl rfl rfl (na := 1) (by decide +kernel) rfl ⟨Nat.le_of_ble_eq_true rfl, Nat.le_of_ble_eq_true rfl⟩ ⟨rfl, rfl⟩ ⟨Nat.le_of_ble_eq_true rfl, Nat.le_of_ble_eq_true rfl⟩ (Nat.le_of_ble_eq_true rfl) (fun r_ w_ hp_ => ?_)
  obtain ⟨rfl, rfl⟩ := hp_
  refine kw_ws (List.append_nil _) ?_
  refine kz_if_eq (b := pin p (vN v)) (tgt := 27) X dX6_cheapest_5 (by decide) (fun c1_ => ?_) (fun c1_ => ?_)
  · skip
    refine kb_iconst (v := (-1 : Int32)) X dX6_cheapest_27 (by decide) ?_
    refine ke_i X Z dX6_cheapest_28 ?_
    exact ⟨by simp [oCheap, c1_], RWp.of hR⟩
  · skip
    obtain ⟨pj, hpj, epj, ePp⟩ := pin_j h6 c1_
    refine kw_lv (lv' := [(0, .ref (a 0)), (1, .int (nI (pj))), (2, .int (st)), (3, .int (m))]) (by rw [epj]) ?_
    refine kb_aload_n X 0 dX6_cheapest_8 rfl rfl ?_
    refine kb_iload_n X 1 dX6_cheapest_9 rfl rfl ?_
    refine kb_iload_n X 2 dX6_cheapest_10 rfl rfl ?_
    refine kc_Vi X (As := [.int (nI (pj)), .int (st)]) (rest := []) (wr := []) (ct_X6_isSet l g a (vN v) so ag (vG v) np ns na nf sl ac ke le tx ap bg wr se wh wo bl ck sw ma ro bs pj st v rfl h6 (by omega)) dX6_cheapest_11 rfl (kw_pall _) mc_X6_isSet kl_X6_213 mi_X6_isSet mv_X6_isSet kn_X6 0 rfl rfl rfl (na := 2) (by decide +kernel) rfl ⟨Nat.le_of_ble_eq_true rfl, Nat.le_of_ble_eq_true rfl⟩ ⟨rfl, rfl⟩ ⟨Nat.le_of_ble_eq_true rfl, Nat.le_of_ble_eq_true rfl⟩ (Nat.le_of_ble_eq_true rfl) (fun r_ w_ hp_ => ?_)
    obtain ⟨rfl, rfl⟩ := hp_
    refine kw_ws (List.append_nil _) ?_
    refine kz_if_eq (b := isS v pj st) (tgt := 27) X dX6_cheapest_14 (by decide) (fun c2_ => ?_) (fun c2_ => ?_)
    · skip
      refine kb_iconst (v := (-1 : Int32)) X dX6_cheapest_27 (by decide) ?_
      refine ke_i X Z dX6_cheapest_28 ?_
      exact ⟨by simp [oCheap, c1_, ePp, c2_], RWp.of hR⟩
    · skip
      obtain ⟨sj, hs3, esj, ePs⟩ := isS_j h6 c2_
      refine kb_iload_n X 3 dX6_cheapest_17 rfl rfl ?_
      refine kb_i2l (v := m.toInt64) X dX6_cheapest_18 rfl ?_
      refine kb_lconst (v := 0) X dX6_cheapest_19 (by decide) ?_
      refine kb_lconst (v := 1) X dX6_cheapest_20 (by decide) ?_
      refine kc_Si X (As := [.long (m.toInt64), .long ((0 : Int64)), .long ((1 : Int64))]) (rest := []) (wr := (wR g a (vN v) so ag (vG v) np ns na nf sl ac ke le tx ap bg wr se wh wo bl ck sw ma ro bs)) (ct_X6_in l g m.toInt64 (0 : Int64) (1 : Int64)) dX6_cheapest_21 rfl (List.Perm.refl _) mc_X6_in kl_X6_71 ms_X6_in kn_X6 (na := 3) (by decide +kernel) rfl ⟨Nat.le_of_ble_eq_true rfl, Nat.le_of_ble_eq_true rfl⟩ ⟨rfl, rfl⟩ ⟨Nat.le_of_ble_eq_true rfl, Nat.le_of_ble_eq_true rfl⟩ (Nat.le_of_ble_eq_true rfl) (fun r_ w_ hp_ => ?_)
      obtain ⟨rfl, rfl⟩ := hp_
      refine kw_ws (List.nil_append _) ?_
      refine kw_top (b := .int (zI (inr m (0 : Int32) (1 : Int32)))) (congrArg (fun q => Value.int (zI q)) (lin_c (by decide) (by decide))) ?_
      refine kz_if_ne (b := inr m (0 : Int32) (1 : Int32)) (tgt := 29) X dX6_cheapest_24 (by decide) (fun c3_ => ?_) (fun c3_ => ?_)
      · skip
        refine kw_lv (lv' := [(0, .ref (a 0)), (1, .int (nI (pj))), (2, .int (nI (sj))), (3, .int (m))]) (by rw [esj]) ?_
        refine kb_aload_n X 0 dX6_cheapest_29 rfl rfl ?_
        refine kb_iconst (v := (0 : Int32)) X dX6_cheapest_30 (by decide) ?_
        refine kb_iload_n X 1 dX6_cheapest_31 rfl rfl ?_
        refine kc_Vi X (As := [.int 0, .int (nI (pj))]) (rest := []) (wr := []) (ct_X6_isAlive l g a (vN v) so ag (vG v) np ns na nf sl ac ke le tx ap bg wr se wh wo bl ck sw ma ro bs 0 v (by omega) hE hK hv pj (by omega)) dX6_cheapest_32 rfl (kw_pall _) mc_X6_isAlive kl_X6_136 mi_X6_isAlive mv_X6_isAlive kn_X6 0 rfl rfl rfl (na := 2) (by decide +kernel) rfl ⟨Nat.le_of_ble_eq_true rfl, Nat.le_of_ble_eq_true rfl⟩ ⟨rfl, rfl⟩ ⟨Nat.le_of_ble_eq_true rfl, Nat.le_of_ble_eq_true rfl⟩ (Nat.le_of_ble_eq_true rfl) (fun r_ w_ hp_ => ?_)
        obtain ⟨rfl, rfl⟩ := hp_
        refine kw_ws (List.append_nil _) ?_
        refine kz_if_ne (b := wLives v pj) (tgt := 41) X dX6_cheapest_35 (by decide) (fun c4_ => ?_) (fun c4_ => ?_)
        · skip
          refine kb_bipush (v := (-4 : Int32)) X dX6_cheapest_41 (by decide) ?_
          refine kb_istore X [1, 2, 3, 4, 0] dX6_cheapest_43 (by decide) (lv' := [(0, .ref (a 0)), (1, .int (nI (pj))), (2, .int (nI (sj))), (3, .int (m)), (4, .int (-4))]) rfl ?_
          refine kb_sipush (v := (999 : Int32)) X dX6_cheapest_45 (by decide) ?_
          refine kb_istore X [1, 2, 3, 4, 5, 0] dX6_cheapest_48 (by decide) (lv' := [(0, .ref (a 0)), (1, .int (nI (pj))), (2, .int (nI (sj))), (3, .int (m)), (4, .int (-4)), (5, .int 999)]) rfl ?_
          refine kb_iconst (v := (0 : Int32)) X dX6_cheapest_50 (by decide) ?_
          refine kb_istore X [1, 2, 3, 4, 5, 6, 0] dX6_cheapest_51 (by decide) (lv' := [(0, .ref (a 0)), (1, .int (nI (pj))), (2, .int (nI (sj))), (3, .int (m)), (4, .int (-4)), (5, .int 999), (6, .int 0)]) rfl ?_
          have L53 : ∀ (K_ k : Nat), k + K_ = 16 → kW x 0 0 53 [(0, .ref (a 0)), (1, .int (nI (pj))), (2, .int (nI (sj))), (3, .int (m)), (4, .int (chF (ch v pj sj k))), (5, .int (chM (ch v pj sj k))), (6, .int (nI (k)))] [] (wR g a (vN v) so ag (vG v) np ns na nf sl ac ke le tx ap bg wr se wh wo bl ck sw ma ro bs) := by
            intro K_
            induction K_ with
            | zero =>
              intro k hk
              have hG_ := wGuests_lt v pj (nI (k / 4)) (nI (k % 4)) h6
              refine kb_iload X 6 dX6_cheapest_53 rfl ?_
              refine kb_bipush (v := (16 : Int32)) X dX6_cheapest_55 (by decide) ?_
              refine kn_icmp_ge (a := k) (b := 16) (tgt := 157) X (by omega) (by omega) dX6_cheapest_57 (by decide) (fun c5_ => ?_) (fun c5_ => ?_)
              · skip
                refine kb_iload X 4 dX6_cheapest_157 rfl ?_
                refine kb_if_lt (tgt := 167) X dX6_cheapest_159 (by decide) (fun c6_ => ?_) (fun c6_ => ?_)
                · skip
                  refine kb_iload X 4 dX6_cheapest_167 rfl ?_
                  refine kb_goto (tgt := 174) X dX6_cheapest_169 (by decide) ?_
                  refine ke_i X Z dX6_cheapest_174 ?_
                  exact ⟨by rw [oCheap, ePp, ePs, if_pos (by simp [c1_, ePp, c2_, c3_, ePs, c4_, c5_, c6_, (by decide : inr 0 0 1 = true), (by decide : inr 1 0 1 = true)]), if_pos (by simp [c1_, ePp, c2_, c3_, ePs, c4_, c5_, c6_, (by decide : inr 0 0 1 = true), (by decide : inr 1 0 1 = true)]), ch_ret (by simp [c1_, ePp, c2_, c3_, ePs, c4_, c5_, c6_, (by decide : inr 0 0 1 = true), (by decide : inr 1 0 1 = true)]) (ch_lt v pj sj 16), show 16 = k by omega]; simp [c1_, ePp, c2_, c3_, ePs, c4_, c5_, c6_, (by decide : inr 0 0 1 = true), (by decide : inr 1 0 1 = true)], RWp.of hR⟩
                · skip
                  refine kb_iload_n X 3 dX6_cheapest_162 rfl rfl ?_
                  refine kb_iconst (v := (1 : Int32)) X dX6_cheapest_163 (by decide) ?_
                  refine kb_icmp_ne (tgt := 172) X dX6_cheapest_164 (by decide) (fun c7_ => ?_) (fun c7_ => ?_)
                  · skip
                    refine kb_iload X 5 dX6_cheapest_172 rfl ?_
                    refine ke_i X Z dX6_cheapest_174 ?_
                    exact ⟨by rw [oCheap, ePp, ePs, if_pos (by simp [c1_, ePp, c2_, c3_, ePs, c4_, c5_, c6_, c7_, (by decide : inr 0 0 1 = true), (by decide : inr 1 0 1 = true)]), if_pos (by simp [c1_, ePp, c2_, c3_, ePs, c4_, c5_, c6_, c7_, (by decide : inr 0 0 1 = true), (by decide : inr 1 0 1 = true)]), ch_ret (by simp [c1_, ePp, c2_, c3_, ePs, c4_, c5_, c6_, c7_, (by decide : inr 0 0 1 = true), (by decide : inr 1 0 1 = true)]) (ch_lt v pj sj 16), show 16 = k by omega]; simp [c1_, ePp, c2_, c3_, ePs, c4_, c5_, c6_, c7_, (by decide : inr 0 0 1 = true), (by decide : inr 1 0 1 = true)], RWp.of hR⟩
                  · skip
                    refine kb_iload X 4 dX6_cheapest_167 rfl ?_
                    refine kb_goto (tgt := 174) X dX6_cheapest_169 (by decide) ?_
                    refine ke_i X Z dX6_cheapest_174 ?_
                    exact ⟨by rw [oCheap, ePp, ePs, if_pos (by simp [c1_, ePp, c2_, c3_, ePs, c4_, c5_, c6_, c7_, (by decide : inr 0 0 1 = true), (by decide : inr 1 0 1 = true)]), if_pos (by simp [c1_, ePp, c2_, c3_, ePs, c4_, c5_, c6_, c7_, (by decide : inr 0 0 1 = true), (by decide : inr 1 0 1 = true)]), ch_ret (by simp [c1_, ePp, c2_, c3_, ePs, c4_, c5_, c6_, c7_, (by decide : inr 0 0 1 = true), (by decide : inr 1 0 1 = true)]) (ch_lt v pj sj 16), show 16 = k by omega]; simp [c1_, ePp, c2_, c3_, ePs, c4_, c5_, c6_, c7_, (by decide : inr 0 0 1 = true), (by decide : inr 1 0 1 = true)], RWp.of hR⟩
              · skip
                omega
            | succ K_ ih =>
              intro k hk
              have hG_ := wGuests_lt v pj (nI (k / 4)) (nI (k % 4)) h6
              refine kb_iload X 6 dX6_cheapest_53 rfl ?_
              refine kb_bipush (v := (16 : Int32)) X dX6_cheapest_55 (by decide) ?_
              refine kn_icmp_ge (a := k) (b := 16) (tgt := 157) X (by omega) (by omega) dX6_cheapest_57 (by decide) (fun c8_ => ?_) (fun c8_ => ?_)
              · skip
                omega
              · skip
                refine kb_iload X 6 dX6_cheapest_60 rfl ?_
                refine kb_iconst (v := (4 : Int32)) X dX6_cheapest_62 (by decide) ?_
                refine kn_idiv X k 4 (by omega) (by omega) (by omega) dX6_cheapest_63 ?_
                refine kb_istore X [1, 2, 3, 4, 5, 6, 7, 0] dX6_cheapest_64 (by decide) (lv' := [(0, .ref (a 0)), (1, .int (nI (pj))), (2, .int (nI (sj))), (3, .int (m)), (4, .int (chF (ch v pj sj k))), (5, .int (chM (ch v pj sj k))), (6, .int (nI (k))), (7, .int (nI (k / 4)))]) rfl ?_
                refine kb_iload X 6 dX6_cheapest_66 rfl ?_
                refine kb_iconst (v := (4 : Int32)) X dX6_cheapest_68 (by decide) ?_
                refine kn_irem X k 4 (by omega) (by omega) (by omega) dX6_cheapest_69 ?_
                refine kb_istore X [1, 2, 3, 4, 5, 6, 7, 8, 0] dX6_cheapest_70 (by decide) (lv' := [(0, .ref (a 0)), (1, .int (nI (pj))), (2, .int (nI (sj))), (3, .int (m)), (4, .int (chF (ch v pj sj k))), (5, .int (chM (ch v pj sj k))), (6, .int (nI (k))), (7, .int (nI (k / 4))), (8, .int (nI (k % 4)))]) rfl ?_
                refine kb_iload_n X 2 dX6_cheapest_72 rfl rfl ?_
                refine kb_aload_n X 0 dX6_cheapest_73 rfl rfl ?_
                refine kb_iconst (v := (0 : Int32)) X dX6_cheapest_74 (by decide) ?_
                refine kb_iload_n X 1 dX6_cheapest_75 rfl rfl ?_
                refine kb_iload X 7 dX6_cheapest_76 rfl ?_
                refine kb_iload X 8 dX6_cheapest_78 rfl ?_
                refine kc_Vi X (As := [.int 0, .int (nI (pj)), .int (nI (k / 4)), .int (nI (k % 4))]) (rest := [.int (nI (sj))]) (wr := []) (ct_X6_comers l g a (vN v) so ag (vG v) np ns na nf sl ac ke le tx ap bg wr se wh wo bl ck sw ma ro bs 0 v (by omega) hE hK hv pj (nI (k / 4)) (nI (k % 4)) (by omega)) dX6_cheapest_80 rfl (kw_pall _) mc_X6_comers kl_X6_178 mi_X6_comers mv_X6_comers kn_X6 0 rfl rfl rfl (na := 4) (by decide +kernel) rfl ⟨Nat.le_of_ble_eq_true rfl, Nat.le_of_ble_eq_true rfl⟩ ⟨rfl, rfl⟩ ⟨Nat.le_of_ble_eq_true rfl, Nat.le_of_ble_eq_true rfl⟩ (Nat.le_of_ble_eq_true rfl) (fun r_ w_ hp_ => ?_)
                obtain ⟨rfl, rfl⟩ := hp_
                refine kw_ws (List.append_nil _) ?_
                refine kb_iconst (v := (-1 : Int32)) X dX6_cheapest_83 (by decide) ?_
                refine kb_ixor X dX6_cheapest_84 ?_
                refine kb_iand X dX6_cheapest_85 ?_
                refine kb_if_ne (tgt := 107) X dX6_cheapest_86 (by decide) (fun c9_ => ?_) (fun c9_ => ?_)
                · skip
                  have cv_ : cov (wGuests v pj (nI (k / 4)) (nI (k % 4))) sj = false := by rw [cov_r hG_ hs3]; exact decide_eq_false c9_
                  refine kb_iconst (v := (0 : Int32)) X dX6_cheapest_107 (by decide) ?_
                  refine kb_istore X [1, 2, 3, 4, 5, 6, 7, 8, 9, 0] dX6_cheapest_108 (by decide) (lv' := [(0, .ref (a 0)), (1, .int (nI (pj))), (2, .int (nI (sj))), (3, .int (m)), (4, .int (chF (ch v pj sj k))), (5, .int (chM (ch v pj sj k))), (6, .int (nI (k))), (7, .int (nI (k / 4))), (8, .int (nI (k % 4))), (9, .int 0)]) rfl ?_
                  refine kb_iload X 9 dX6_cheapest_110 rfl ?_
                  refine kb_if_eq (tgt := 126) X dX6_cheapest_112 (by decide) (fun _ => ?_) (fun q_ => absurd q_ (by decide))
                  refine kb_iload X 4 dX6_cheapest_126 rfl ?_
                  refine kb_istore X [1, 2, 3, 4, 0, 5, 6, 7, 8, 9] dX6_cheapest_128 (by decide) (lv' := [(0, .ref (a 0)), (1, .int (nI (pj))), (2, .int (nI (sj))), (3, .int (m)), (4, .int (chF (ch v pj sj k))), (5, .int (chM (ch v pj sj k))), (6, .int (nI (k))), (7, .int (nI (k / 4))), (8, .int (nI (k % 4))), (9, .int 0)]) rfl ?_
                  refine kb_iload X 9 dX6_cheapest_130 rfl ?_
                  refine kb_if_eq (tgt := 147) X dX6_cheapest_132 (by decide) (fun _ => ?_) (fun q_ => absurd q_ (by decide))
                  refine kb_iload X 5 dX6_cheapest_147 rfl ?_
                  refine kb_istore X [1, 2, 3, 4, 5, 0, 6, 7, 8, 9] dX6_cheapest_149 (by decide) (lv' := [(0, .ref (a 0)), (1, .int (nI (pj))), (2, .int (nI (sj))), (3, .int (m)), (4, .int (chF (ch v pj sj k))), (5, .int (chM (ch v pj sj k))), (6, .int (nI (k))), (7, .int (nI (k / 4))), (8, .int (nI (k % 4))), (9, .int 0)]) rfl ?_
                  refine kw_lvs [0, 1, 2, 3, 4, 5, 6] (lv' := [(0, .ref (a 0)), (1, .int (nI (pj))), (2, .int (nI (sj))), (3, .int (m)), (4, .int (chF (ch v pj sj k))), (5, .int (chM (ch v pj sj k))), (6, .int (nI (k)))]) rfl ?_
                  refine kb_iinc X 6 [1, 2, 3, 4, 5, 6, 0] (v' := nI (k + 1)) dX6_cheapest_151 rfl (nI_add _ _) (by decide) (lv' := [(0, .ref (a 0)), (1, .int (nI (pj))), (2, .int (nI (sj))), (3, .int (m)), (4, .int (chF (ch v pj sj k))), (5, .int (chM (ch v pj sj k))), (6, .int (nI (k + 1)))]) rfl ?_
                  refine kb_goto (tgt := 53) X dX6_cheapest_154 (by decide) ?_
                  exact kw_to (ih (k + 1) (by omega)) (by rw [ch, if_neg (by simp [kCost, c1_, ePp, c2_, c3_, ePs, c4_, c8_, c9_, cv_])] <;> rfl) rfl rfl
                · skip
                  have cv_ : cov (wGuests v pj (nI (k / 4)) (nI (k % 4))) sj = true := by rw [cov_r hG_ hs3]; exact decide_eq_true c9_
                  refine kb_iconst (v := (2 : Int32)) X dX6_cheapest_89 (by decide) ?_
                  refine kb_iload X 7 dX6_cheapest_90 rfl ?_
                  refine kn_imul X 2 (k / 4) dX6_cheapest_92 ?_
                  refine kb_iconst (v := (3 : Int32)) X dX6_cheapest_93 (by decide) ?_
                  refine kb_iload X 8 dX6_cheapest_94 rfl ?_
                  refine kn_imul X 3 (k % 4) dX6_cheapest_96 ?_
                  refine kn_iadd X (2 * (k / 4)) (3 * (k % 4)) dX6_cheapest_97 ?_
                  refine kb_iload X 5 dX6_cheapest_98 rfl ?_
                  refine kb_icmp_ge (tgt := 107) X dX6_cheapest_100 (by decide) (fun c12_ => ?_) (fun c12_ => ?_)
                  · skip
                    refine kb_iconst (v := (0 : Int32)) X dX6_cheapest_107 (by decide) ?_
                    refine kb_istore X [1, 2, 3, 4, 5, 6, 7, 8, 9, 0] dX6_cheapest_108 (by decide) (lv' := [(0, .ref (a 0)), (1, .int (nI (pj))), (2, .int (nI (sj))), (3, .int (m)), (4, .int (chF (ch v pj sj k))), (5, .int (chM (ch v pj sj k))), (6, .int (nI (k))), (7, .int (nI (k / 4))), (8, .int (nI (k % 4))), (9, .int 0)]) rfl ?_
                    refine kb_iload X 9 dX6_cheapest_110 rfl ?_
                    refine kb_if_eq (tgt := 126) X dX6_cheapest_112 (by decide) (fun _ => ?_) (fun q_ => absurd q_ (by decide))
                    refine kb_iload X 4 dX6_cheapest_126 rfl ?_
                    refine kb_istore X [1, 2, 3, 4, 0, 5, 6, 7, 8, 9] dX6_cheapest_128 (by decide) (lv' := [(0, .ref (a 0)), (1, .int (nI (pj))), (2, .int (nI (sj))), (3, .int (m)), (4, .int (chF (ch v pj sj k))), (5, .int (chM (ch v pj sj k))), (6, .int (nI (k))), (7, .int (nI (k / 4))), (8, .int (nI (k % 4))), (9, .int 0)]) rfl ?_
                    refine kb_iload X 9 dX6_cheapest_130 rfl ?_
                    refine kb_if_eq (tgt := 147) X dX6_cheapest_132 (by decide) (fun _ => ?_) (fun q_ => absurd q_ (by decide))
                    refine kb_iload X 5 dX6_cheapest_147 rfl ?_
                    refine kb_istore X [1, 2, 3, 4, 5, 0, 6, 7, 8, 9] dX6_cheapest_149 (by decide) (lv' := [(0, .ref (a 0)), (1, .int (nI (pj))), (2, .int (nI (sj))), (3, .int (m)), (4, .int (chF (ch v pj sj k))), (5, .int (chM (ch v pj sj k))), (6, .int (nI (k))), (7, .int (nI (k / 4))), (8, .int (nI (k % 4))), (9, .int 0)]) rfl ?_
                    refine kw_lvs [0, 1, 2, 3, 4, 5, 6] (lv' := [(0, .ref (a 0)), (1, .int (nI (pj))), (2, .int (nI (sj))), (3, .int (m)), (4, .int (chF (ch v pj sj k))), (5, .int (chM (ch v pj sj k))), (6, .int (nI (k)))]) rfl ?_
                    refine kb_iinc X 6 [1, 2, 3, 4, 5, 6, 0] (v' := nI (k + 1)) dX6_cheapest_151 rfl (nI_add _ _) (by decide) (lv' := [(0, .ref (a 0)), (1, .int (nI (pj))), (2, .int (nI (sj))), (3, .int (m)), (4, .int (chF (ch v pj sj k))), (5, .int (chM (ch v pj sj k))), (6, .int (nI (k + 1)))]) rfl ?_
                    refine kb_goto (tgt := 53) X dX6_cheapest_154 (by decide) ?_
                    exact kw_to (ih (k + 1) (by omega)) (by rw [ch, if_neg (by simp [kCost, c1_, ePp, c2_, c3_, ePs, c4_, c8_, c9_, cv_, c12_, cv_])] <;> rfl) rfl rfl
                  · skip
                    refine kb_iconst (v := (1 : Int32)) X dX6_cheapest_103 (by decide) ?_
                    refine kb_goto (tgt := 108) X dX6_cheapest_104 (by decide) ?_
                    refine kb_istore X [1, 2, 3, 4, 5, 6, 7, 8, 9, 0] dX6_cheapest_108 (by decide) (lv' := [(0, .ref (a 0)), (1, .int (nI (pj))), (2, .int (nI (sj))), (3, .int (m)), (4, .int (chF (ch v pj sj k))), (5, .int (chM (ch v pj sj k))), (6, .int (nI (k))), (7, .int (nI (k / 4))), (8, .int (nI (k % 4))), (9, .int 1)]) rfl ?_
                    refine kb_iload X 9 dX6_cheapest_110 rfl ?_
                    refine kb_if_eq (tgt := 126) X dX6_cheapest_112 (by decide) (fun q_ => absurd q_ (by decide)) (fun _ => ?_)
                    refine kb_bipush (v := (10 : Int32)) X dX6_cheapest_115 (by decide) ?_
                    refine kb_iload X 7 dX6_cheapest_117 rfl ?_
                    refine kn_imul X 10 (k / 4) dX6_cheapest_119 ?_
                    refine kb_iload X 8 dX6_cheapest_120 rfl ?_
                    refine kn_iadd X (10 * (k / 4)) (k % 4) dX6_cheapest_122 ?_
                    refine kb_goto (tgt := 128) X dX6_cheapest_123 (by decide) ?_
                    refine kb_istore X [1, 2, 3, 4, 0, 5, 6, 7, 8, 9] dX6_cheapest_128 (by decide) (lv' := [(0, .ref (a 0)), (1, .int (nI (pj))), (2, .int (nI (sj))), (3, .int (m)), (4, .int (nI ((10 * (k / 4)) + (k % 4)))), (5, .int (chM (ch v pj sj k))), (6, .int (nI (k))), (7, .int (nI (k / 4))), (8, .int (nI (k % 4))), (9, .int 1)]) rfl ?_
                    refine kb_iload X 9 dX6_cheapest_130 rfl ?_
                    refine kb_if_eq (tgt := 147) X dX6_cheapest_132 (by decide) (fun q_ => absurd q_ (by decide)) (fun _ => ?_)
                    refine kb_iconst (v := (2 : Int32)) X dX6_cheapest_135 (by decide) ?_
                    refine kb_iload X 7 dX6_cheapest_136 rfl ?_
                    refine kn_imul X 2 (k / 4) dX6_cheapest_138 ?_
                    refine kb_iconst (v := (3 : Int32)) X dX6_cheapest_139 (by decide) ?_
                    refine kb_iload X 8 dX6_cheapest_140 rfl ?_
                    refine kn_imul X 3 (k % 4) dX6_cheapest_142 ?_
                    refine kn_iadd X (2 * (k / 4)) (3 * (k % 4)) dX6_cheapest_143 ?_
                    refine kb_goto (tgt := 149) X dX6_cheapest_144 (by decide) ?_
                    refine kb_istore X [1, 2, 3, 4, 5, 0, 6, 7, 8, 9] dX6_cheapest_149 (by decide) (lv' := [(0, .ref (a 0)), (1, .int (nI (pj))), (2, .int (nI (sj))), (3, .int (m)), (4, .int (nI ((10 * (k / 4)) + (k % 4)))), (5, .int (nI ((2 * (k / 4)) + (3 * (k % 4))))), (6, .int (nI (k))), (7, .int (nI (k / 4))), (8, .int (nI (k % 4))), (9, .int 1)]) rfl ?_
                    refine kw_lvs [0, 1, 2, 3, 4, 5, 6] (lv' := [(0, .ref (a 0)), (1, .int (nI (pj))), (2, .int (nI (sj))), (3, .int (m)), (4, .int (nI ((10 * (k / 4)) + (k % 4)))), (5, .int (nI ((2 * (k / 4)) + (3 * (k % 4))))), (6, .int (nI (k)))]) rfl ?_
                    refine kb_iinc X 6 [1, 2, 3, 4, 5, 6, 0] (v' := nI (k + 1)) dX6_cheapest_151 rfl (nI_add _ _) (by decide) (lv' := [(0, .ref (a 0)), (1, .int (nI (pj))), (2, .int (nI (sj))), (3, .int (m)), (4, .int (nI ((10 * (k / 4)) + (k % 4)))), (5, .int (nI ((2 * (k / 4)) + (3 * (k % 4))))), (6, .int (nI (k + 1)))]) rfl ?_
                    refine kb_goto (tgt := 53) X dX6_cheapest_154 (by decide) ?_
                    exact kw_to (ih (k + 1) (by omega)) (by rw [ch, if_pos (by simp [kCost, c1_, ePp, c2_, c3_, ePs, c4_, c8_, c9_, cv_, c12_])] <;> rfl) rfl rfl
          exact kw_to (L53 16 0 rfl) rfl rfl rfl
        · skip
          refine kb_bipush (v := (-2 : Int32)) X dX6_cheapest_38 (by decide) ?_
          refine ke_i X Z dX6_cheapest_40 ?_
          exact ⟨by simp [oCheap, c1_, ePp, c2_, c3_, ePs, c4_], RWp.of hR⟩
      · skip
        refine kb_iconst (v := (-1 : Int32)) X dX6_cheapest_27 (by decide) ?_
        refine ke_i X Z dX6_cheapest_28 ?_
        exact ⟨by simp [oCheap, c1_, ePp, c2_, c3_], RWp.of hR⟩

set_option maxHeartbeats 4000000 in
set_option maxRecDepth 100000 in
theorem ct_X6_see (l : Launch) (g : kw_G) (a : Nat → Nat) (so : Nat → Int32) (ag : Nat → Int32) (np : Nat) (ns : Nat → Int32) (na : Nat → Int32) (nf : Int32) (sl : Nat → Int32) (ac : Nat) (ke : Nat) (le : Nat) (tx : Nat → Nat) (ap : Nat) (bg : Nat) (wr : Bool) (se : Nat) (wh : Nat → Nat) (wo : Nat → Nat) (bl : Nat → Int32) (ck : Nat → Int32) (sw : Nat → Bool) (ma : Nat) (ro : Nat → Nat) (bs : Nat → Nat) (v : VS) (us ks : List VS) (tf : Nat → Nat) (tn : Nat) (s : SS) (hR : RI (vN v) so ag (vG v) sl ac ke le tx se wh wo bl ck sw v us ks tf tn s) (i p b c : Int32) (m : Bool) : kMi l g yX6_see cX6_see 6 .int (kw_rm 4 0 0) 0 0 [.ref (a 0), .int (i), .int (p), .int (b), .int (c), .int (zI (m))] (wR g a (vN v) so ag (vG v) np ns na nf sl ac ke le tx ap bg wr se wh wo bl ck sw ma ro bs) (fun r w => r = oSeeR v i p b c s ∧ RWp g a v us ks tf tn (oSeeS v i p b c m s) w) := by
  refine kMi_of (by decide +kernel) (Nat.le_of_ble_eq_true rfl) (fun x (X : kX l g RX6 cX6_see 6 (kw_rm 4 0 0) x) (Z : kZi .int _ 0 0 x) => ?_)
  show kW x 0 0 0 [(0, .ref (a 0)), (1, .int (i)), (2, .int (p)), (3, .int (b)), (4, .int (c)), (5, .int (zI (m)))] [] (wR g a (vN v) so ag (vG v) np ns na nf sl ac ke le tx ap bg wr se wh wo bl ck sw ma ro bs)
  have hE := hR.1
  have hG := hR.2.1
  have hK := hR.2.1.1
  have hv := hR.2.1.2.1
  have hT := hR.2.1.2.2.1
  have hN0 := hR.2.1.2.2.2
  have h6 := hv.1
  have hx64 := hv.2.1
  have hh64 := hv.2.2
  obtain ⟨es, hse, hss⟩ := hR.2.2.2.2.2
  subst es
  have hsz : sSize (wh, wo, bl, ck, sw, se) = se := rfl
  refine kb_aload_n X 0 dX6_see_0 rfl rfl ?_
  refine kb_iload_n X 1 dX6_see_1 rfl rfl ?_
  refine kb_iload_n X 2 dX6_see_2 rfl rfl ?_
  refine kc_Vi X (As := [.int (i), .int (p)]) (rest := []) (wr := []) (ct_X6_areTwo l g a (vN v) so ag (vG v) np ns na nf sl ac ke le tx ap bg wr se wh wo bl ck sw ma ro bs i p (by omega)) dX6_see_3 rfl (kw_pall _) mc_X6_areTwo kl_X6_147 mi_X6_areTwo mv_X6_areTwo kn_X6 0 rfl rfl rfl (na := 2) (by decide +kernel) rfl ⟨Nat.le_of_ble_eq_true rfl, Nat.le_of_ble_eq_true rfl⟩ ⟨rfl, rfl⟩ ⟨Nat.le_of_ble_eq_true rfl, Nat.le_of_ble_eq_true rfl⟩ (Nat.le_of_ble_eq_true rfl) (fun r_ w_ hp_ => ?_)
  obtain ⟨rfl, rfl⟩ := hp_
  refine kw_ws (List.append_nil _) ?_
  refine kz_if_eq (b := two i p (vN v)) (tgt := 18) X dX6_see_6 (by decide) (fun c1_ => ?_) (fun c1_ => ?_)
  · skip
    refine kb_iconst (v := (-1 : Int32)) X dX6_see_18 (by decide) ?_
    refine ke_i X Z dX6_see_19 ?_
    have e_ : oSeeS v i p b c m (wh, wo, bl, ck, sw, se) = (wh, wo, bl, ck, sw, se) := by simp [oSeeS, c1_]
    rw [e_]
    exact ⟨by simp [oSeeR, c1_], RWp.of hR⟩
  · skip
    obtain ⟨ij, jj, hij, hjj, hne, eij, ejj, ePi, ePj⟩ := two_j h6 c1_
    refine kb_iload_n X 3 dX6_see_9 rfl rfl ?_
    refine kb_iload X 4 dX6_see_10 rfl ?_
    refine kc_Si X (As := [.int (b), .int (c)]) (rest := []) (wr := (wR g a (vN v) so ag (vG v) np ns na nf sl ac ke le tx ap bg wr se wh wo bl ck sw ma ro bs)) (ct_X6_areBells l g b c ) dX6_see_12 rfl (List.Perm.refl _) mc_X6_areBells kl_X6_187 ms_X6_areBells kn_X6 (na := 2) (by decide +kernel) rfl ⟨Nat.le_of_ble_eq_true rfl, Nat.le_of_ble_eq_true rfl⟩ ⟨rfl, rfl⟩ ⟨Nat.le_of_ble_eq_true rfl, Nat.le_of_ble_eq_true rfl⟩ (Nat.le_of_ble_eq_true rfl) (fun r_ w_ hp_ => ?_)
    obtain ⟨rfl, rfl⟩ := hp_
    refine kw_ws (List.nil_append _) ?_
    refine kz_if_ne (b := fare b c) (tgt := 20) X dX6_see_15 (by decide) (fun c2_ => ?_) (fun c2_ => ?_)
    · skip
      refine kw_lv (lv' := [(0, .ref (a 0)), (1, .int (nI (ij))), (2, .int (p)), (3, .int (b)), (4, .int (c)), (5, .int (zI (m)))]) (by rw [eij]) ?_
      refine kw_lv (lv' := [(0, .ref (a 0)), (1, .int (nI (ij))), (2, .int (nI (jj))), (3, .int (b)), (4, .int (c)), (5, .int (zI (m)))]) (by rw [ejj]) ?_
      refine kb_aload_n X 0 dX6_see_20 rfl rfl ?_
      refine kb_get (v := .int (nI (se))) (C := RX6) (T := TX6) (N := 25) (ci := 6) X kw_iX6 rfl 0 16 rfl (by decide) kf_X6_129 rfl rfl dX6_see_21 ?_
      refine kb_bipush (v := (6 : Int32)) X dX6_see_24 (by decide) ?_
      refine kn_icmp_ne (a := se) (b := 6) (tgt := 32) X (by omega) (by omega) dX6_see_26 (by decide) (fun c3_ => ?_) (fun c3_ => ?_)
      · skip
        refine kb_aload_n X 0 dX6_see_32 rfl rfl ?_
        refine kb_get (v := .ref (a 7)) (C := RX6) (T := TX6) (N := 25) (ci := 6) X kw_iX6 rfl 0 17 rfl (by decide) kf_X6_29 rfl rfl dX6_see_33 ?_
        refine kb_aload_n X 0 dX6_see_36 rfl rfl ?_
        refine kb_get (v := .int (nI (se))) (C := RX6) (T := TX6) (N := 25) (ci := 6) X kw_iX6 rfl 0 16 rfl (by decide) kf_X6_129 rfl rfl dX6_see_37 ?_
        refine kb_iload_n X 1 dX6_see_40 rfl rfl ?_
        refine kb_iast (i := se) X 7 rfl (by omega) (by decide) dX6_see_41 (ws' := wR g a (vN v) so ag (vG v) np ns na nf sl ac ke le tx ap bg wr se (va_up wh se ij) wo bl ck sw ma ro bs) (by rw [upd_nI]; rfl) ?_
        refine kb_aload_n X 0 dX6_see_42 rfl rfl ?_
        refine kb_get (v := .ref (a 8)) (C := RX6) (T := TX6) (N := 25) (ci := 6) X kw_iX6 rfl 0 18 rfl (by decide) kf_X6_32 rfl rfl dX6_see_43 ?_
        refine kb_aload_n X 0 dX6_see_46 rfl rfl ?_
        refine kb_get (v := .int (nI (se))) (C := RX6) (T := TX6) (N := 25) (ci := 6) X kw_iX6 rfl 0 16 rfl (by decide) kf_X6_129 rfl rfl dX6_see_47 ?_
        refine kb_iload_n X 2 dX6_see_50 rfl rfl ?_
        refine kb_iast (i := se) X 8 rfl (by omega) (by decide) dX6_see_51 (ws' := wR g a (vN v) so ag (vG v) np ns na nf sl ac ke le tx ap bg wr se (va_up wh se ij) (va_up wo se jj) bl ck sw ma ro bs) (by rw [upd_nI]; rfl) ?_
        refine kb_aload_n X 0 dX6_see_52 rfl rfl ?_
        refine kb_get (v := .ref (a 9)) (C := RX6) (T := TX6) (N := 25) (ci := 6) X kw_iX6 rfl 0 19 rfl (by decide) kf_X6_35 rfl rfl dX6_see_53 ?_
        refine kb_aload_n X 0 dX6_see_56 rfl rfl ?_
        refine kb_get (v := .int (nI (se))) (C := RX6) (T := TX6) (N := 25) (ci := 6) X kw_iX6 rfl 0 16 rfl (by decide) kf_X6_129 rfl rfl dX6_see_57 ?_
        refine kb_iload_n X 3 dX6_see_60 rfl rfl ?_
        refine kb_iast (i := se) X 9 rfl (by omega) (by decide) dX6_see_61 (ws' := wR g a (vN v) so ag (vG v) np ns na nf sl ac ke le tx ap bg wr se (va_up wh se ij) (va_up wo se jj) (upd bl se b) ck sw ma ro bs) rfl ?_
        refine kb_aload_n X 0 dX6_see_62 rfl rfl ?_
        refine kb_get (v := .ref (a 10)) (C := RX6) (T := TX6) (N := 25) (ci := 6) X kw_iX6 rfl 0 20 rfl (by decide) kf_X6_38 rfl rfl dX6_see_63 ?_
        refine kb_aload_n X 0 dX6_see_66 rfl rfl ?_
        refine kb_get (v := .int (nI (se))) (C := RX6) (T := TX6) (N := 25) (ci := 6) X kw_iX6 rfl 0 16 rfl (by decide) kf_X6_129 rfl rfl dX6_see_67 ?_
        refine kb_iload X 4 dX6_see_70 rfl ?_
        refine kb_iast (i := se) X 10 rfl (by omega) (by decide) dX6_see_72 (ws' := wR g a (vN v) so ag (vG v) np ns na nf sl ac ke le tx ap bg wr se (va_up wh se ij) (va_up wo se jj) (upd bl se b) (upd ck se c) sw ma ro bs) rfl ?_
        refine kb_aload_n X 0 dX6_see_73 rfl rfl ?_
        refine kb_get (v := .ref (a 11)) (C := RX6) (T := TX6) (N := 25) (ci := 6) X kw_iX6 rfl 0 21 rfl (by decide) kf_X6_41 rfl rfl dX6_see_74 ?_
        refine kb_aload_n X 0 dX6_see_77 rfl rfl ?_
        refine kb_get (v := .int (nI (se))) (C := RX6) (T := TX6) (N := 25) (ci := 6) X kw_iX6 rfl 0 16 rfl (by decide) kf_X6_129 rfl rfl dX6_see_78 ?_
        refine kb_iload X 5 dX6_see_81 rfl ?_
        refine kb_zast (i := se) X 11 rfl (by omega) (by decide) dX6_see_83 (ws' := wR g a (vN v) so ag (vG v) np ns na nf sl ac ke le tx ap bg wr se (va_up wh se ij) (va_up wo se jj) (upd bl se b) (upd ck se c) (va_up sw se m) ma ro bs) (by rw [zI_vp, upd_zI]; rfl) ?_
        refine kb_aload_n X 0 dX6_see_84 rfl rfl ?_
        refine kb_dup X dX6_see_85 rfl ?_
        refine kb_get (v := .int (nI (se))) (C := RX6) (T := TX6) (N := 25) (ci := 6) X kw_iX6 rfl 0 16 rfl (by decide) kf_X6_129 rfl rfl dX6_see_86 ?_
        refine kb_iconst (v := (1 : Int32)) X dX6_see_89 (by decide) ?_
        refine kn_iadd X se 1 dX6_see_90 ?_
        refine kb_put X (C := RX6) (T := TX6) (N := 25) (ci := 6) (ty := .int) kw_iX6 tyX6 tyX6_ok nmX6 rfl 0 16 rfl (by decide) kf_X6_129 rfl rfl (by decide +kernel) rfl rfl (Nat.le_of_ble_eq_true rfl) dX6_see_91 (ws' := wR g a (vN v) so ag (vG v) np ns na nf sl ac ke le tx ap bg wr (se + 1) (va_up wh se ij) (va_up wo se jj) (upd bl se b) (upd ck se c) (va_up sw se m) ma ro bs) rfl ?_
        refine kb_aload_n X 0 dX6_see_94 rfl rfl ?_
        refine kb_get (v := .int (nI (se + 1))) (C := RX6) (T := TX6) (N := 25) (ci := 6) X kw_iX6 rfl 0 16 rfl (by decide) kf_X6_129 rfl rfl dX6_see_95 ?_
        refine ke_i X Z dX6_see_98 ?_
        have e_ : oSeeS v i p b c m (wh, wo, bl, ck, sw, se) = sAdd (wh, wo, bl, ck, sw, se) ij jj b c m := by simp [oSeeS, c1_, c2_, ePi, ePj, hsz, c3_]
        rw [e_]
        exact ⟨by simp [oSeeR, c1_, c2_, ePi, ePj, hsz, c3_], RWp.of ⟨hR.1, hR.2.1, hR.2.2.1, hR.2.2.2.1, hR.2.2.2.2.1, RS_add hR.2.2.2.2.2 (by omega) hij hjj b c m⟩⟩
      · skip
        refine kb_bipush (v := (-3 : Int32)) X dX6_see_29 (by decide) ?_
        refine ke_i X Z dX6_see_31 ?_
        have hs6 : sSize (wh, wo, bl, ck, sw, se) = 6 := c3_
        have e_ : oSeeS v i p b c m (wh, wo, bl, ck, sw, se) = (wh, wo, bl, ck, sw, se) := by simp [oSeeS, c1_, c2_, ePi, ePj, hs6]
        rw [e_]
        exact ⟨by simp [oSeeR, c1_, c2_, ePi, ePj, hs6], RWp.of hR⟩
    · skip
      refine kb_iconst (v := (-1 : Int32)) X dX6_see_18 (by decide) ?_
      refine ke_i X Z dX6_see_19 ?_
      have e_ : oSeeS v i p b c m (wh, wo, bl, ck, sw, se) = (wh, wo, bl, ck, sw, se) := by simp [oSeeS, c1_, c2_]
      rw [e_]
      exact ⟨by simp [oSeeR, c1_, c2_], RWp.of hR⟩

set_option maxHeartbeats 4000000 in
set_option maxRecDepth 100000 in
theorem ct_X6_forget (l : Launch) (g : kw_G) (a : Nat → Nat) (so : Nat → Int32) (ag : Nat → Int32) (np : Nat) (ns : Nat → Int32) (na : Nat → Int32) (nf : Int32) (sl : Nat → Int32) (ac : Nat) (ke : Nat) (le : Nat) (tx : Nat → Nat) (ap : Nat) (bg : Nat) (wr : Bool) (se : Nat) (wh : Nat → Nat) (wo : Nat → Nat) (bl : Nat → Int32) (ck : Nat → Int32) (sw : Nat → Bool) (ma : Nat) (ro : Nat → Nat) (bs : Nat → Nat) (v : VS) (us ks : List VS) (tf : Nat → Nat) (tn : Nat) (s : SS) (hR : RI (vN v) so ag (vG v) sl ac ke le tx se wh wo bl ck sw v us ks tf tn s) : kMi l g yX6_forget cX6_forget 2 .int (kw_rm 1 0 0) 0 0 [.ref (a 0)] (wR g a (vN v) so ag (vG v) np ns na nf sl ac ke le tx ap bg wr se wh wo bl ck sw ma ro bs) (fun r w => r = nI (sSize s) ∧ RWp g a v us ks tf tn (sSz s 0) w) := by
  refine kMi_of (by decide +kernel) (Nat.le_of_ble_eq_true rfl) (fun x (X : kX l g RX6 cX6_forget 2 (kw_rm 1 0 0) x) (Z : kZi .int _ 0 0 x) => ?_)
  show kW x 0 0 0 [(0, .ref (a 0))] [] (wR g a (vN v) so ag (vG v) np ns na nf sl ac ke le tx ap bg wr se wh wo bl ck sw ma ro bs)
  have hE := hR.1
  have hG := hR.2.1
  have hK := hR.2.1.1
  have hv := hR.2.1.2.1
  have hT := hR.2.1.2.2.1
  have hN0 := hR.2.1.2.2.2
  have h6 := hv.1
  have hx64 := hv.2.1
  have hh64 := hv.2.2
  obtain ⟨es, hse, hss⟩ := hR.2.2.2.2.2
  subst es
  have hsz : sSize (wh, wo, bl, ck, sw, se) = se := rfl
  refine kb_aload_n X 0 dX6_forget_0 rfl rfl ?_
  refine kb_get (v := .int (nI (se))) (C := RX6) (T := TX6) (N := 25) (ci := 6) X kw_iX6 rfl 0 16 rfl (by decide) kf_X6_129 rfl rfl dX6_forget_1 ?_
  refine kb_istore_n X [1, 0] dX6_forget_4 rfl (by decide) (lv' := [(0, .ref (a 0)), (1, .int (nI (se)))]) rfl ?_
  refine kb_aload_n X 0 dX6_forget_5 rfl rfl ?_
  refine kb_iconst (v := (0 : Int32)) X dX6_forget_6 (by decide) ?_
  refine kb_put X (C := RX6) (T := TX6) (N := 25) (ci := 6) (ty := .int) kw_iX6 tyX6 tyX6_ok nmX6 rfl 0 16 rfl (by decide) kf_X6_129 rfl rfl (by decide +kernel) rfl rfl (Nat.le_of_ble_eq_true rfl) dX6_forget_7 (ws' := wR g a (vN v) so ag (vG v) np ns na nf sl ac ke le tx ap bg wr 0 wh wo bl ck sw ma ro bs) rfl ?_
  refine kb_iload_n X 1 dX6_forget_10 rfl rfl ?_
  refine ke_i X Z dX6_forget_11 ?_
  exact ⟨rfl, RWp.of ⟨hR.1, hR.2.1, hR.2.2.1, hR.2.2.2.1, hR.2.2.2.2.1, ⟨rfl, by omega, fun k hk => by omega⟩⟩⟩

set_option maxHeartbeats 4000000 in
set_option maxRecDepth 100000 in
theorem ct_X6_felt (l : Launch) (g : kw_G) (a : Nat → Nat) (so : Nat → Int32) (ag : Nat → Int32) (np : Nat) (ns : Nat → Int32) (na : Nat → Int32) (nf : Int32) (sl : Nat → Int32) (ac : Nat) (ke : Nat) (le : Nat) (tx : Nat → Nat) (ap : Nat) (bg : Nat) (wr : Bool) (se : Nat) (wh : Nat → Nat) (wo : Nat → Nat) (bl : Nat → Int32) (ck : Nat → Int32) (sw : Nat → Bool) (ma : Nat) (ro : Nat → Nat) (bs : Nat → Nat) (v : VS) (us ks : List VS) (tf : Nat → Nat) (tn : Nat) (s : SS) (hR : RI (vN v) so ag (vG v) sl ac ke le tx se wh wo bl ck sw v us ks tf tn s) (i p : Int32) : kMi l g yX6_felt cX6_felt 8 .int (kw_rm 4 0 0) 0 0 [.ref (a 0), .int (i), .int (p)] (wR g a (vN v) so ag (vG v) np ns na nf sl ac ke le tx ap bg wr se wh wo bl ck sw ma ro bs) (fun r w => r = oFelt v i p s ∧ RWp g a v us ks tf tn s w) := by
  refine kMi_of (by decide +kernel) (Nat.le_of_ble_eq_true rfl) (fun x (X : kX l g RX6 cX6_felt 8 (kw_rm 4 0 0) x) (Z : kZi .int _ 0 0 x) => ?_)
  show kW x 0 0 0 [(0, .ref (a 0)), (1, .int (i)), (2, .int (p))] [] (wR g a (vN v) so ag (vG v) np ns na nf sl ac ke le tx ap bg wr se wh wo bl ck sw ma ro bs)
  have hE := hR.1
  have hG := hR.2.1
  have hK := hR.2.1.1
  have hv := hR.2.1.2.1
  have hT := hR.2.1.2.2.1
  have hN0 := hR.2.1.2.2.2
  have h6 := hv.1
  have hx64 := hv.2.1
  have hh64 := hv.2.2
  obtain ⟨es, hse, hss⟩ := hR.2.2.2.2.2
  subst es
  have hsz : sSize (wh, wo, bl, ck, sw, se) = se := rfl
  refine kb_aload_n X 0 dX6_felt_0 rfl rfl ?_
  refine kb_iload_n X 1 dX6_felt_1 rfl rfl ?_
  refine kb_iload_n X 2 dX6_felt_2 rfl rfl ?_
  refine kc_Vi X (As := [.int (i), .int (p)]) (rest := []) (wr := []) (ct_X6_areTwo l g a (vN v) so ag (vG v) np ns na nf sl ac ke le tx ap bg wr se wh wo bl ck sw ma ro bs i p (by omega)) dX6_felt_3 rfl (kw_pall _) mc_X6_areTwo kl_X6_147 mi_X6_areTwo mv_X6_areTwo kn_X6 0 rfl rfl rfl (na := 2) (by decide +kernel) rfl ⟨Nat.le_of_ble_eq_true rfl, Nat.le_of_ble_eq_true rfl⟩ ⟨rfl, rfl⟩ ⟨Nat.le_of_ble_eq_true rfl, Nat.le_of_ble_eq_true rfl⟩ (Nat.le_of_ble_eq_true rfl) (fun r_ w_ hp_ => ?_)
  obtain ⟨rfl, rfl⟩ := hp_
  refine kw_ws (List.append_nil _) ?_
  refine kz_if_ne (b := two i p (vN v)) (tgt := 11) X dX6_felt_6 (by decide) (fun c1_ => ?_) (fun c1_ => ?_)
  · skip
    obtain ⟨ij, jj, hij, hjj, hne, eij, ejj, ePi, ePj⟩ := two_j h6 c1_
    refine kw_lv (lv' := [(0, .ref (a 0)), (1, .int (nI (ij))), (2, .int (p))]) (by rw [eij]) ?_
    refine kw_lv (lv' := [(0, .ref (a 0)), (1, .int (nI (ij))), (2, .int (nI (jj)))]) (by rw [ejj]) ?_
    refine kb_iconst (v := (0 : Int32)) X dX6_felt_11 (by decide) ?_
    refine kb_istore_n X [1, 2, 3, 0] dX6_felt_12 rfl (by decide) (lv' := [(0, .ref (a 0)), (1, .int (nI (ij))), (2, .int (nI (jj))), (3, .int 0)]) rfl ?_
    refine kb_bipush (v := (-4 : Int32)) X dX6_felt_13 (by decide) ?_
    refine kb_istore X [1, 2, 3, 4, 0] dX6_felt_15 (by decide) (lv' := [(0, .ref (a 0)), (1, .int (nI (ij))), (2, .int (nI (jj))), (3, .int 0), (4, .int (-4))]) rfl ?_
    have L17 : ∀ (K_ u : Nat), u + K_ = 10 → kW x 0 0 17 [(0, .ref (a 0)), (1, .int (nI (ij))), (2, .int (nI (jj))), (3, .int (nI (sTb (wh, wo, bl, ck, sw, se) v ij jj u))), (4, .int (nI u - 4))] [] (wR g a (vN v) so ag (vG v) np ns na nf sl ac ke le tx ap bg wr se wh wo bl ck sw ma ro bs) := by
      intro K_
      induction K_ with
      | zero =>
        intro u hu
        refine kb_iload X 4 dX6_felt_17 rfl ?_
        refine kb_iconst (v := (5 : Int32)) X dX6_felt_19 (by decide) ?_
        refine kb_icmp_gt (tgt := 162) X dX6_felt_20 (by decide) (fun c2_ => ?_) (fun c2_ => ?_)
        · skip
          have d_ := (gk_gt u (by omega)).mp c2_
          refine kb_iload_n X 3 dX6_felt_162 rfl rfl ?_
          refine ke_i X Z dX6_felt_163 ?_
          exact ⟨by rw [show u = 10 by omega]; simp [oFelt, c1_, ePi, ePj, c2_], RWp.of hR⟩
        · skip
          have d_ := mt (gk_gt u (by omega)).mpr c2_
          omega
      | succ K_ ih =>
        intro u hu
        refine kb_iload X 4 dX6_felt_17 rfl ?_
        refine kb_iconst (v := (5 : Int32)) X dX6_felt_19 (by decide) ?_
        refine kb_icmp_gt (tgt := 162) X dX6_felt_20 (by decide) (fun c3_ => ?_) (fun c3_ => ?_)
        · skip
          have d_ := (gk_gt u (by omega)).mp c3_
          omega
        · skip
          have d_ := mt (gk_gt u (by omega)).mpr c3_
          refine kb_iconst (v := (1 : Int32)) X dX6_felt_23 (by decide) ?_
          refine kb_istore X [1, 2, 3, 4, 5, 0] dX6_felt_24 (by decide) (lv' := [(0, .ref (a 0)), (1, .int (nI (ij))), (2, .int (nI (jj))), (3, .int (nI (sTb (wh, wo, bl, ck, sw, se) v ij jj u))), (4, .int (nI u - 4)), (5, .int 1)]) rfl ?_
          refine kb_iconst (v := (0 : Int32)) X dX6_felt_26 (by decide) ?_
          refine kb_istore X [1, 2, 3, 4, 5, 6, 0] dX6_felt_27 (by decide) (lv' := [(0, .ref (a 0)), (1, .int (nI (ij))), (2, .int (nI (jj))), (3, .int (nI (sTb (wh, wo, bl, ck, sw, se) v ij jj u))), (4, .int (nI u - 4)), (5, .int 1), (6, .int 0)]) rfl ?_
          have L29 : ∀ (K_ k : Nat), k + K_ = se → kW x 0 0 29 [(0, .ref (a 0)), (1, .int (nI (ij))), (2, .int (nI (jj))), (3, .int (nI (sTb (wh, wo, bl, ck, sw, se) v ij jj u))), (4, .int (nI u - 4)), (5, .int (zI (sTf (wh, wo, bl, ck, sw, se) v ij jj (nI u - 4) k))), (6, .int (nI (k)))] [] (wR g a (vN v) so ag (vG v) np ns na nf sl ac ke le tx ap bg wr se wh wo bl ck sw ma ro bs) := by
            intro K_
            induction K_ with
            | zero =>
              intro k hk
              have hw_ : k < se → wh k < vN v ∧ wo k < vN v := hss k
              refine kb_iload X 6 dX6_felt_29 rfl ?_
              refine kb_aload_n X 0 dX6_felt_31 rfl rfl ?_
              refine kb_get (v := .int (nI (se))) (C := RX6) (T := TX6) (N := 25) (ci := 6) X kw_iX6 rfl 0 16 rfl (by decide) kf_X6_129 rfl rfl dX6_felt_32 ?_
              refine kn_icmp_ge (a := k) (b := se) (tgt := 138) X (by omega) (by omega) dX6_felt_35 (by decide) (fun c4_ => ?_) (fun c4_ => ?_)
              · skip
                refine kw_lv (lv' := [(0, .ref (a 0)), (1, .int (nI (ij))), (2, .int (nI (jj))), (3, .int (nI (sTb (wh, wo, bl, ck, sw, se) v ij jj u))), (4, .int (nI u - 4)), (5, .int (zI (sTf (wh, wo, bl, ck, sw, se) v ij jj (nI u - 4) (sSize (wh, wo, bl, ck, sw, se))))), (6, .int (nI (k)))]) (by rw [hsz, show se = k by omega]) ?_
                refine kb_iload_n X 3 dX6_felt_138 rfl rfl ?_
                refine kb_iload X 5 dX6_felt_139 rfl ?_
                refine kz_if_eq (b := sTf (wh, wo, bl, ck, sw, se) v ij jj (nI u - 4) (sSize (wh, wo, bl, ck, sw, se))) (tgt := 153) X dX6_felt_141 (by decide) (fun c5_ => ?_) (fun c5_ => ?_)
                · skip
                  refine kb_iconst (v := (0 : Int32)) X dX6_felt_153 (by decide) ?_
                  refine kb_ior X dX6_felt_154 ?_
                  refine kw_top (b := .int (nI (sTb (wh, wo, bl, ck, sw, se) v ij jj u))) (by rw [show (0 : Int32) = nI 0 from rfl, or_nI, Nat.or_zero]) ?_
                  refine kb_istore_n X [1, 2, 3, 0, 4, 5, 6] dX6_felt_155 rfl (by decide) (lv' := [(0, .ref (a 0)), (1, .int (nI (ij))), (2, .int (nI (jj))), (3, .int (nI (sTb (wh, wo, bl, ck, sw, se) v ij jj u))), (4, .int (nI u - 4)), (5, .int (zI (sTf (wh, wo, bl, ck, sw, se) v ij jj (nI u - 4) (sSize (wh, wo, bl, ck, sw, se))))), (6, .int (nI (k)))]) rfl ?_
                  refine kb_iinc X 4 [1, 2, 3, 4, 0, 5, 6] (v' := (nI u - 4) + (1 : Int32)) dX6_felt_156 rfl rfl (by decide) (lv' := [(0, .ref (a 0)), (1, .int (nI (ij))), (2, .int (nI (jj))), (3, .int (nI (sTb (wh, wo, bl, ck, sw, se) v ij jj u))), (4, .int ((nI u - 4) + (1 : Int32))), (5, .int (zI (sTf (wh, wo, bl, ck, sw, se) v ij jj (nI u - 4) (sSize (wh, wo, bl, ck, sw, se))))), (6, .int (nI (k)))]) rfl ?_
                  refine kw_lvs [0, 1, 2, 3, 4] (lv' := [(0, .ref (a 0)), (1, .int (nI (ij))), (2, .int (nI (jj))), (3, .int (nI (sTb (wh, wo, bl, ck, sw, se) v ij jj u))), (4, .int ((nI u - 4) + (1 : Int32)))]) rfl ?_
                  refine kw_lv (lv' := [(0, .ref (a 0)), (1, .int (nI (ij))), (2, .int (nI (jj))), (3, .int (nI (sTb (wh, wo, bl, ck, sw, se) v ij jj u))), (4, .int (nI (u + 1) - 4))]) (by rw [gk_inc u (by omega)]) ?_
                  refine kb_goto (tgt := 17) X dX6_felt_159 (by decide) ?_
                  exact kw_to (ih (u + 1) (by omega)) (by rw [sTb]; simp [c1_, ePi, ePj, c3_, c4_, c5_]) rfl rfl
                · skip
                  refine kb_iconst (v := (1 : Int32)) X dX6_felt_144 (by decide) ?_
                  refine kb_iload X 4 dX6_felt_145 rfl ?_
                  refine kb_iconst (v := (4 : Int32)) X dX6_felt_147 (by decide) ?_
                  refine kb_iadd X dX6_felt_148 ?_
                  refine kw_top (b := .int (nI (u))) (by rw [gk_4 u (by omega)]) ?_
                  refine kb_ishl X dX6_felt_149 ?_
                  refine kb_goto (tgt := 154) X dX6_felt_150 (by decide) ?_
                  refine kb_ior X dX6_felt_154 ?_
                  refine kw_top (b := .int (nI (sTb (wh, wo, bl, ck, sw, se) v ij jj u + 2 ^ u))) (by rw [gs_or (sTb_lt (wh, wo, bl, ck, sw, se) v ij jj u) (by omega)]) ?_
                  refine kb_istore_n X [1, 2, 3, 0, 4, 5, 6] dX6_felt_155 rfl (by decide) (lv' := [(0, .ref (a 0)), (1, .int (nI (ij))), (2, .int (nI (jj))), (3, .int (nI (sTb (wh, wo, bl, ck, sw, se) v ij jj u + 2 ^ u))), (4, .int (nI u - 4)), (5, .int (zI (sTf (wh, wo, bl, ck, sw, se) v ij jj (nI u - 4) (sSize (wh, wo, bl, ck, sw, se))))), (6, .int (nI (k)))]) rfl ?_
                  refine kb_iinc X 4 [1, 2, 3, 4, 0, 5, 6] (v' := (nI u - 4) + (1 : Int32)) dX6_felt_156 rfl rfl (by decide) (lv' := [(0, .ref (a 0)), (1, .int (nI (ij))), (2, .int (nI (jj))), (3, .int (nI (sTb (wh, wo, bl, ck, sw, se) v ij jj u + 2 ^ u))), (4, .int ((nI u - 4) + (1 : Int32))), (5, .int (zI (sTf (wh, wo, bl, ck, sw, se) v ij jj (nI u - 4) (sSize (wh, wo, bl, ck, sw, se))))), (6, .int (nI (k)))]) rfl ?_
                  refine kw_lvs [0, 1, 2, 3, 4] (lv' := [(0, .ref (a 0)), (1, .int (nI (ij))), (2, .int (nI (jj))), (3, .int (nI (sTb (wh, wo, bl, ck, sw, se) v ij jj u + 2 ^ u))), (4, .int ((nI u - 4) + (1 : Int32)))]) rfl ?_
                  refine kw_lv (lv' := [(0, .ref (a 0)), (1, .int (nI (ij))), (2, .int (nI (jj))), (3, .int (nI (sTb (wh, wo, bl, ck, sw, se) v ij jj u + 2 ^ u))), (4, .int (nI (u + 1) - 4))]) (by rw [gk_inc u (by omega)]) ?_
                  refine kb_goto (tgt := 17) X dX6_felt_159 (by decide) ?_
                  exact kw_to (ih (u + 1) (by omega)) (by rw [sTb]; simp [c1_, ePi, ePj, c3_, c4_, c5_]) rfl rfl
              · skip
                have hw2 := hw_ c4_
                omega
            | succ K_ ih2 =>
              intro k hk
              have hw_ : k < se → wh k < vN v ∧ wo k < vN v := hss k
              refine kb_iload X 6 dX6_felt_29 rfl ?_
              refine kb_aload_n X 0 dX6_felt_31 rfl rfl ?_
              refine kb_get (v := .int (nI (se))) (C := RX6) (T := TX6) (N := 25) (ci := 6) X kw_iX6 rfl 0 16 rfl (by decide) kf_X6_129 rfl rfl dX6_felt_32 ?_
              refine kn_icmp_ge (a := k) (b := se) (tgt := 138) X (by omega) (by omega) dX6_felt_35 (by decide) (fun c6_ => ?_) (fun c6_ => ?_)
              · skip
                omega
              · skip
                have hw2 := hw_ c6_
                refine kb_aload_n X 0 dX6_felt_38 rfl rfl ?_
                refine kb_iconst (v := (0 : Int32)) X dX6_felt_39 (by decide) ?_
                refine kb_iload_n X 1 dX6_felt_40 rfl rfl ?_
                refine kc_Vi X (As := [.int 0, .int (nI (ij))]) (rest := []) (wr := []) (ct_X6_isAlive l g a (vN v) so ag (vG v) np ns na nf sl ac ke le tx ap bg wr se wh wo bl ck sw ma ro bs 0 v (by omega) hE hK hv ij (by omega)) dX6_felt_41 rfl (kw_pall _) mc_X6_isAlive kl_X6_136 mi_X6_isAlive mv_X6_isAlive kn_X6 0 rfl rfl rfl (na := 2) (by decide +kernel) rfl ⟨Nat.le_of_ble_eq_true rfl, Nat.le_of_ble_eq_true rfl⟩ ⟨rfl, rfl⟩ ⟨Nat.le_of_ble_eq_true rfl, Nat.le_of_ble_eq_true rfl⟩ (Nat.le_of_ble_eq_true rfl) (fun r_ w_ hp_ => ?_)
                obtain ⟨rfl, rfl⟩ := hp_
                refine kw_ws (List.append_nil _) ?_
                refine kz_if_eq (b := wLives v ij) (tgt := 83) X dX6_felt_44 (by decide) (fun c7_ => ?_) (fun c7_ => ?_)
                · skip
                  refine kb_iconst (v := (0 : Int32)) X dX6_felt_83 (by decide) ?_
                  refine kb_istore X [1, 2, 3, 4, 5, 6, 7, 0] dX6_felt_84 (by decide) (lv' := [(0, .ref (a 0)), (1, .int (nI (ij))), (2, .int (nI (jj))), (3, .int (nI (sTb (wh, wo, bl, ck, sw, se) v ij jj u))), (4, .int (nI u - 4)), (5, .int (zI (sTf (wh, wo, bl, ck, sw, se) v ij jj (nI u - 4) k))), (6, .int (nI (k))), (7, .int 0)]) rfl ?_
                  refine kb_iload X 5 dX6_felt_86 rfl ?_
                  refine kz_if_eq (b := sTf (wh, wo, bl, ck, sw, se) v ij jj (nI u - 4) k) (tgt := 129) X dX6_felt_88 (by decide) (fun c8_ => ?_) (fun c8_ => ?_)
                  · skip
                    refine kb_iconst (v := (0 : Int32)) X dX6_felt_129 (by decide) ?_
                    refine kb_istore X [1, 2, 3, 4, 5, 0, 6, 7] dX6_felt_130 (by decide) (lv' := [(0, .ref (a 0)), (1, .int (nI (ij))), (2, .int (nI (jj))), (3, .int (nI (sTb (wh, wo, bl, ck, sw, se) v ij jj u))), (4, .int (nI u - 4)), (5, .int 0), (6, .int (nI (k))), (7, .int 0)]) rfl ?_
                    refine kw_lvs [0, 1, 2, 3, 4, 5, 6] (lv' := [(0, .ref (a 0)), (1, .int (nI (ij))), (2, .int (nI (jj))), (3, .int (nI (sTb (wh, wo, bl, ck, sw, se) v ij jj u))), (4, .int (nI u - 4)), (5, .int 0), (6, .int (nI (k)))]) rfl ?_
                    refine kb_iinc X 6 [1, 2, 3, 4, 5, 6, 0] (v' := nI (k + 1)) dX6_felt_132 rfl (nI_add _ _) (by decide) (lv' := [(0, .ref (a 0)), (1, .int (nI (ij))), (2, .int (nI (jj))), (3, .int (nI (sTb (wh, wo, bl, ck, sw, se) v ij jj u))), (4, .int (nI u - 4)), (5, .int 0), (6, .int (nI (k + 1)))]) rfl ?_
                    refine kb_goto (tgt := 29) X dX6_felt_135 (by decide) ?_
                    exact kw_to (ih2 (k + 1) (by omega)) (by simp [sTb, sTf, sIs, wCome_lk, sWho, sWhose, sBells, sCakes, sSo, zI_t, zI_f, c1_, ePi, ePj, c3_, c6_, c7_, c8_]) rfl rfl
                  · skip
                    refine kb_aload_n X 0 dX6_felt_91 rfl rfl ?_
                    refine kb_get (v := .ref (a 7)) (C := RX6) (T := TX6) (N := 25) (ci := 6) X kw_iX6 rfl 0 17 rfl (by decide) kf_X6_29 rfl rfl dX6_felt_92 ?_
                    refine kb_iload X 6 dX6_felt_95 rfl ?_
                    refine kb_iald (i := k) X 7 rfl (by omega) (by decide) dX6_felt_97 ?_
                    refine kb_iload_n X 1 dX6_felt_98 rfl rfl ?_
                    refine kn_icmp_ne (a := wh k) (b := ij) (tgt := 125) X (by omega) (by omega) dX6_felt_99 (by decide) (fun c9_ => ?_) (fun c9_ => ?_)
                    · skip
                      refine kb_iconst (v := (1 : Int32)) X dX6_felt_125 (by decide) ?_
                      refine kb_goto (tgt := 130) X dX6_felt_126 (by decide) ?_
                      refine kb_istore X [1, 2, 3, 4, 5, 0, 6, 7] dX6_felt_130 (by decide) (lv' := [(0, .ref (a 0)), (1, .int (nI (ij))), (2, .int (nI (jj))), (3, .int (nI (sTb (wh, wo, bl, ck, sw, se) v ij jj u))), (4, .int (nI u - 4)), (5, .int 1), (6, .int (nI (k))), (7, .int 0)]) rfl ?_
                      refine kw_lvs [0, 1, 2, 3, 4, 5, 6] (lv' := [(0, .ref (a 0)), (1, .int (nI (ij))), (2, .int (nI (jj))), (3, .int (nI (sTb (wh, wo, bl, ck, sw, se) v ij jj u))), (4, .int (nI u - 4)), (5, .int 1), (6, .int (nI (k)))]) rfl ?_
                      refine kb_iinc X 6 [1, 2, 3, 4, 5, 6, 0] (v' := nI (k + 1)) dX6_felt_132 rfl (nI_add _ _) (by decide) (lv' := [(0, .ref (a 0)), (1, .int (nI (ij))), (2, .int (nI (jj))), (3, .int (nI (sTb (wh, wo, bl, ck, sw, se) v ij jj u))), (4, .int (nI u - 4)), (5, .int 1), (6, .int (nI (k + 1)))]) rfl ?_
                      refine kb_goto (tgt := 29) X dX6_felt_135 (by decide) ?_
                      exact kw_to (ih2 (k + 1) (by omega)) (by simp [sTb, sTf, sIs, wCome_lk, sWho, sWhose, sBells, sCakes, sSo, zI_t, zI_f, c1_, ePi, ePj, c3_, c6_, c7_, c8_, c9_]) rfl rfl
                    · skip
                      refine kb_aload_n X 0 dX6_felt_102 rfl rfl ?_
                      refine kb_get (v := .ref (a 8)) (C := RX6) (T := TX6) (N := 25) (ci := 6) X kw_iX6 rfl 0 18 rfl (by decide) kf_X6_32 rfl rfl dX6_felt_103 ?_
                      refine kb_iload X 6 dX6_felt_106 rfl ?_
                      refine kb_iald (i := k) X 8 rfl (by omega) (by decide) dX6_felt_108 ?_
                      refine kb_iload_n X 2 dX6_felt_109 rfl rfl ?_
                      refine kn_icmp_ne (a := wo k) (b := jj) (tgt := 125) X (by omega) (by omega) dX6_felt_110 (by decide) (fun c10_ => ?_) (fun c10_ => ?_)
                      · skip
                        refine kb_iconst (v := (1 : Int32)) X dX6_felt_125 (by decide) ?_
                        refine kb_goto (tgt := 130) X dX6_felt_126 (by decide) ?_
                        refine kb_istore X [1, 2, 3, 4, 5, 0, 6, 7] dX6_felt_130 (by decide) (lv' := [(0, .ref (a 0)), (1, .int (nI (ij))), (2, .int (nI (jj))), (3, .int (nI (sTb (wh, wo, bl, ck, sw, se) v ij jj u))), (4, .int (nI u - 4)), (5, .int 1), (6, .int (nI (k))), (7, .int 0)]) rfl ?_
                        refine kw_lvs [0, 1, 2, 3, 4, 5, 6] (lv' := [(0, .ref (a 0)), (1, .int (nI (ij))), (2, .int (nI (jj))), (3, .int (nI (sTb (wh, wo, bl, ck, sw, se) v ij jj u))), (4, .int (nI u - 4)), (5, .int 1), (6, .int (nI (k)))]) rfl ?_
                        refine kb_iinc X 6 [1, 2, 3, 4, 5, 6, 0] (v' := nI (k + 1)) dX6_felt_132 rfl (nI_add _ _) (by decide) (lv' := [(0, .ref (a 0)), (1, .int (nI (ij))), (2, .int (nI (jj))), (3, .int (nI (sTb (wh, wo, bl, ck, sw, se) v ij jj u))), (4, .int (nI u - 4)), (5, .int 1), (6, .int (nI (k + 1)))]) rfl ?_
                        refine kb_goto (tgt := 29) X dX6_felt_135 (by decide) ?_
                        exact kw_to (ih2 (k + 1) (by omega)) (by simp [sTb, sTf, sIs, wCome_lk, sWho, sWhose, sBells, sCakes, sSo, zI_t, zI_f, c1_, ePi, ePj, c3_, c6_, c7_, c8_, c9_, c10_]) rfl rfl
                      · skip
                        refine kb_iload X 7 dX6_felt_113 rfl ?_
                        refine kb_aload_n X 0 dX6_felt_115 rfl rfl ?_
                        refine kb_get (v := .ref (a 11)) (C := RX6) (T := TX6) (N := 25) (ci := 6) X kw_iX6 rfl 0 21 rfl (by decide) kf_X6_41 rfl rfl dX6_felt_116 ?_
                        refine kb_iload X 6 dX6_felt_119 rfl ?_
                        refine kb_zald (i := k) X 11 rfl (by omega) (by decide) dX6_felt_121 ?_
                        refine kz_icmp_ne (a := false) (b := sw k) (tgt := 129) X dX6_felt_122 (by decide) (fun c11_ => ?_) (fun c11_ => ?_)
                        · skip
                          have cs_ : sw k = true := by
                            cases hb : sw k with
                            | false => exact absurd hb.symm c11_
                            | true => rfl
                          refine kb_iconst (v := (0 : Int32)) X dX6_felt_129 (by decide) ?_
                          refine kb_istore X [1, 2, 3, 4, 5, 0, 6, 7] dX6_felt_130 (by decide) (lv' := [(0, .ref (a 0)), (1, .int (nI (ij))), (2, .int (nI (jj))), (3, .int (nI (sTb (wh, wo, bl, ck, sw, se) v ij jj u))), (4, .int (nI u - 4)), (5, .int 0), (6, .int (nI (k))), (7, .int 0)]) rfl ?_
                          refine kw_lvs [0, 1, 2, 3, 4, 5, 6] (lv' := [(0, .ref (a 0)), (1, .int (nI (ij))), (2, .int (nI (jj))), (3, .int (nI (sTb (wh, wo, bl, ck, sw, se) v ij jj u))), (4, .int (nI u - 4)), (5, .int 0), (6, .int (nI (k)))]) rfl ?_
                          refine kb_iinc X 6 [1, 2, 3, 4, 5, 6, 0] (v' := nI (k + 1)) dX6_felt_132 rfl (nI_add _ _) (by decide) (lv' := [(0, .ref (a 0)), (1, .int (nI (ij))), (2, .int (nI (jj))), (3, .int (nI (sTb (wh, wo, bl, ck, sw, se) v ij jj u))), (4, .int (nI u - 4)), (5, .int 0), (6, .int (nI (k + 1)))]) rfl ?_
                          refine kb_goto (tgt := 29) X dX6_felt_135 (by decide) ?_
                          exact kw_to (ih2 (k + 1) (by omega)) (by simp [sTb, sTf, sIs, wCome_lk, sWho, sWhose, sBells, sCakes, sSo, zI_t, zI_f, c1_, ePi, ePj, c3_, c6_, c7_, c8_, c9_, c10_, cs_]) rfl rfl
                        · skip
                          have cs_ : sw k = false := c11_.symm
                          refine kb_iconst (v := (1 : Int32)) X dX6_felt_125 (by decide) ?_
                          refine kb_goto (tgt := 130) X dX6_felt_126 (by decide) ?_
                          refine kb_istore X [1, 2, 3, 4, 5, 0, 6, 7] dX6_felt_130 (by decide) (lv' := [(0, .ref (a 0)), (1, .int (nI (ij))), (2, .int (nI (jj))), (3, .int (nI (sTb (wh, wo, bl, ck, sw, se) v ij jj u))), (4, .int (nI u - 4)), (5, .int 1), (6, .int (nI (k))), (7, .int 0)]) rfl ?_
                          refine kw_lvs [0, 1, 2, 3, 4, 5, 6] (lv' := [(0, .ref (a 0)), (1, .int (nI (ij))), (2, .int (nI (jj))), (3, .int (nI (sTb (wh, wo, bl, ck, sw, se) v ij jj u))), (4, .int (nI u - 4)), (5, .int 1), (6, .int (nI (k)))]) rfl ?_
                          refine kb_iinc X 6 [1, 2, 3, 4, 5, 6, 0] (v' := nI (k + 1)) dX6_felt_132 rfl (nI_add _ _) (by decide) (lv' := [(0, .ref (a 0)), (1, .int (nI (ij))), (2, .int (nI (jj))), (3, .int (nI (sTb (wh, wo, bl, ck, sw, se) v ij jj u))), (4, .int (nI u - 4)), (5, .int 1), (6, .int (nI (k + 1)))]) rfl ?_
                          refine kb_goto (tgt := 29) X dX6_felt_135 (by decide) ?_
                          exact kw_to (ih2 (k + 1) (by omega)) (by simp [sTb, sTf, sIs, wCome_lk, sWho, sWhose, sBells, sCakes, sSo, zI_t, zI_f, c1_, ePi, ePj, c3_, c6_, c7_, c8_, c9_, c10_, cs_]) rfl rfl
                · skip
                  refine kb_aload_n X 0 dX6_felt_47 rfl rfl ?_
                  refine kb_iconst (v := (0 : Int32)) X dX6_felt_48 (by decide) ?_
                  refine kb_iload_n X 1 dX6_felt_49 rfl rfl ?_
                  refine kb_iload_n X 2 dX6_felt_50 rfl rfl ?_
                  refine kb_aload_n X 0 dX6_felt_51 rfl rfl ?_
                  refine kb_get (v := .ref (a 1)) (C := RX6) (T := TX6) (N := 25) (ci := 6) X kw_iX6 rfl 0 1 rfl (by decide) kf_X6_7 rfl rfl dX6_felt_52 ?_
                  refine kb_iload_n X 1 dX6_felt_55 rfl rfl ?_
                  refine kb_iald (i := ij) X 1 rfl (by omega) (by decide) dX6_felt_56 ?_
                  refine kw_top (b := .int (vK v ij)) (congrArg Value.int (hK.2.2 _ (by omega)).1) ?_
                  refine kb_iload X 4 dX6_felt_57 rfl ?_
                  refine kb_aload_n X 0 dX6_felt_59 rfl rfl ?_
                  refine kb_get (v := .ref (a 9)) (C := RX6) (T := TX6) (N := 25) (ci := 6) X kw_iX6 rfl 0 19 rfl (by decide) kf_X6_35 rfl rfl dX6_felt_60 ?_
                  refine kb_iload X 6 dX6_felt_63 rfl ?_
                  refine kb_iald (i := k) X 9 rfl (by omega) (by decide) dX6_felt_65 ?_
                  refine kb_aload_n X 0 dX6_felt_66 rfl rfl ?_
                  refine kb_get (v := .ref (a 10)) (C := RX6) (T := TX6) (N := 25) (ci := 6) X kw_iX6 rfl 0 20 rfl (by decide) kf_X6_38 rfl rfl dX6_felt_67 ?_
                  refine kb_iload X 6 dX6_felt_70 rfl ?_
                  refine kb_iald (i := k) X 10 rfl (by omega) (by decide) dX6_felt_72 ?_
                  refine kc_Vi X (As := [.int 0, .int (nI (ij)), .int (nI (jj)), .int (vK v ij), .int (nI u - 4), .int (bl k), .int (ck k)]) (rest := []) (wr := []) (ct_X6_likes l g a (vN v) so ag (vG v) np ns na nf sl ac ke le tx ap bg wr se wh wo bl ck sw ma ro bs 0 v (by omega) hE hK hv ij jj (vK v ij) (nI u - 4) (bl k) (ck k) (by omega) (by omega)) dX6_felt_73 rfl (kw_pall _) mc_X6_likes kl_X6_150 mi_X6_likes mv_X6_likes kn_X6 0 rfl rfl rfl (na := 7) (by decide +kernel) rfl ⟨Nat.le_of_ble_eq_true rfl, Nat.le_of_ble_eq_true rfl⟩ ⟨rfl, rfl⟩ ⟨Nat.le_of_ble_eq_true rfl, Nat.le_of_ble_eq_true rfl⟩ (Nat.le_of_ble_eq_true rfl) (fun r_ w_ hp_ => ?_)
                  obtain ⟨rfl, rfl⟩ := hp_
                  refine kw_ws (List.append_nil _) ?_
                  refine kz_if_eq (b := wLk v ij (vK v ij) (nI u - 4) jj (bl k) (ck k)) (tgt := 83) X dX6_felt_76 (by decide) (fun c12_ => ?_) (fun c12_ => ?_)
                  · skip
                    refine kb_iconst (v := (0 : Int32)) X dX6_felt_83 (by decide) ?_
                    refine kb_istore X [1, 2, 3, 4, 5, 6, 7, 0] dX6_felt_84 (by decide) (lv' := [(0, .ref (a 0)), (1, .int (nI (ij))), (2, .int (nI (jj))), (3, .int (nI (sTb (wh, wo, bl, ck, sw, se) v ij jj u))), (4, .int (nI u - 4)), (5, .int (zI (sTf (wh, wo, bl, ck, sw, se) v ij jj (nI u - 4) k))), (6, .int (nI (k))), (7, .int 0)]) rfl ?_
                    refine kb_iload X 5 dX6_felt_86 rfl ?_
                    refine kz_if_eq (b := sTf (wh, wo, bl, ck, sw, se) v ij jj (nI u - 4) k) (tgt := 129) X dX6_felt_88 (by decide) (fun c13_ => ?_) (fun c13_ => ?_)
                    · skip
                      refine kb_iconst (v := (0 : Int32)) X dX6_felt_129 (by decide) ?_
                      refine kb_istore X [1, 2, 3, 4, 5, 0, 6, 7] dX6_felt_130 (by decide) (lv' := [(0, .ref (a 0)), (1, .int (nI (ij))), (2, .int (nI (jj))), (3, .int (nI (sTb (wh, wo, bl, ck, sw, se) v ij jj u))), (4, .int (nI u - 4)), (5, .int 0), (6, .int (nI (k))), (7, .int 0)]) rfl ?_
                      refine kw_lvs [0, 1, 2, 3, 4, 5, 6] (lv' := [(0, .ref (a 0)), (1, .int (nI (ij))), (2, .int (nI (jj))), (3, .int (nI (sTb (wh, wo, bl, ck, sw, se) v ij jj u))), (4, .int (nI u - 4)), (5, .int 0), (6, .int (nI (k)))]) rfl ?_
                      refine kb_iinc X 6 [1, 2, 3, 4, 5, 6, 0] (v' := nI (k + 1)) dX6_felt_132 rfl (nI_add _ _) (by decide) (lv' := [(0, .ref (a 0)), (1, .int (nI (ij))), (2, .int (nI (jj))), (3, .int (nI (sTb (wh, wo, bl, ck, sw, se) v ij jj u))), (4, .int (nI u - 4)), (5, .int 0), (6, .int (nI (k + 1)))]) rfl ?_
                      refine kb_goto (tgt := 29) X dX6_felt_135 (by decide) ?_
                      exact kw_to (ih2 (k + 1) (by omega)) (by simp [sTb, sTf, sIs, wCome_lk, sWho, sWhose, sBells, sCakes, sSo, zI_t, zI_f, c1_, ePi, ePj, c3_, c6_, c7_, c12_, c13_]) rfl rfl
                    · skip
                      refine kb_aload_n X 0 dX6_felt_91 rfl rfl ?_
                      refine kb_get (v := .ref (a 7)) (C := RX6) (T := TX6) (N := 25) (ci := 6) X kw_iX6 rfl 0 17 rfl (by decide) kf_X6_29 rfl rfl dX6_felt_92 ?_
                      refine kb_iload X 6 dX6_felt_95 rfl ?_
                      refine kb_iald (i := k) X 7 rfl (by omega) (by decide) dX6_felt_97 ?_
                      refine kb_iload_n X 1 dX6_felt_98 rfl rfl ?_
                      refine kn_icmp_ne (a := wh k) (b := ij) (tgt := 125) X (by omega) (by omega) dX6_felt_99 (by decide) (fun c14_ => ?_) (fun c14_ => ?_)
                      · skip
                        refine kb_iconst (v := (1 : Int32)) X dX6_felt_125 (by decide) ?_
                        refine kb_goto (tgt := 130) X dX6_felt_126 (by decide) ?_
                        refine kb_istore X [1, 2, 3, 4, 5, 0, 6, 7] dX6_felt_130 (by decide) (lv' := [(0, .ref (a 0)), (1, .int (nI (ij))), (2, .int (nI (jj))), (3, .int (nI (sTb (wh, wo, bl, ck, sw, se) v ij jj u))), (4, .int (nI u - 4)), (5, .int 1), (6, .int (nI (k))), (7, .int 0)]) rfl ?_
                        refine kw_lvs [0, 1, 2, 3, 4, 5, 6] (lv' := [(0, .ref (a 0)), (1, .int (nI (ij))), (2, .int (nI (jj))), (3, .int (nI (sTb (wh, wo, bl, ck, sw, se) v ij jj u))), (4, .int (nI u - 4)), (5, .int 1), (6, .int (nI (k)))]) rfl ?_
                        refine kb_iinc X 6 [1, 2, 3, 4, 5, 6, 0] (v' := nI (k + 1)) dX6_felt_132 rfl (nI_add _ _) (by decide) (lv' := [(0, .ref (a 0)), (1, .int (nI (ij))), (2, .int (nI (jj))), (3, .int (nI (sTb (wh, wo, bl, ck, sw, se) v ij jj u))), (4, .int (nI u - 4)), (5, .int 1), (6, .int (nI (k + 1)))]) rfl ?_
                        refine kb_goto (tgt := 29) X dX6_felt_135 (by decide) ?_
                        exact kw_to (ih2 (k + 1) (by omega)) (by simp [sTb, sTf, sIs, wCome_lk, sWho, sWhose, sBells, sCakes, sSo, zI_t, zI_f, c1_, ePi, ePj, c3_, c6_, c7_, c12_, c13_, c14_]) rfl rfl
                      · skip
                        refine kb_aload_n X 0 dX6_felt_102 rfl rfl ?_
                        refine kb_get (v := .ref (a 8)) (C := RX6) (T := TX6) (N := 25) (ci := 6) X kw_iX6 rfl 0 18 rfl (by decide) kf_X6_32 rfl rfl dX6_felt_103 ?_
                        refine kb_iload X 6 dX6_felt_106 rfl ?_
                        refine kb_iald (i := k) X 8 rfl (by omega) (by decide) dX6_felt_108 ?_
                        refine kb_iload_n X 2 dX6_felt_109 rfl rfl ?_
                        refine kn_icmp_ne (a := wo k) (b := jj) (tgt := 125) X (by omega) (by omega) dX6_felt_110 (by decide) (fun c15_ => ?_) (fun c15_ => ?_)
                        · skip
                          refine kb_iconst (v := (1 : Int32)) X dX6_felt_125 (by decide) ?_
                          refine kb_goto (tgt := 130) X dX6_felt_126 (by decide) ?_
                          refine kb_istore X [1, 2, 3, 4, 5, 0, 6, 7] dX6_felt_130 (by decide) (lv' := [(0, .ref (a 0)), (1, .int (nI (ij))), (2, .int (nI (jj))), (3, .int (nI (sTb (wh, wo, bl, ck, sw, se) v ij jj u))), (4, .int (nI u - 4)), (5, .int 1), (6, .int (nI (k))), (7, .int 0)]) rfl ?_
                          refine kw_lvs [0, 1, 2, 3, 4, 5, 6] (lv' := [(0, .ref (a 0)), (1, .int (nI (ij))), (2, .int (nI (jj))), (3, .int (nI (sTb (wh, wo, bl, ck, sw, se) v ij jj u))), (4, .int (nI u - 4)), (5, .int 1), (6, .int (nI (k)))]) rfl ?_
                          refine kb_iinc X 6 [1, 2, 3, 4, 5, 6, 0] (v' := nI (k + 1)) dX6_felt_132 rfl (nI_add _ _) (by decide) (lv' := [(0, .ref (a 0)), (1, .int (nI (ij))), (2, .int (nI (jj))), (3, .int (nI (sTb (wh, wo, bl, ck, sw, se) v ij jj u))), (4, .int (nI u - 4)), (5, .int 1), (6, .int (nI (k + 1)))]) rfl ?_
                          refine kb_goto (tgt := 29) X dX6_felt_135 (by decide) ?_
                          exact kw_to (ih2 (k + 1) (by omega)) (by simp [sTb, sTf, sIs, wCome_lk, sWho, sWhose, sBells, sCakes, sSo, zI_t, zI_f, c1_, ePi, ePj, c3_, c6_, c7_, c12_, c13_, c14_, c15_]) rfl rfl
                        · skip
                          refine kb_iload X 7 dX6_felt_113 rfl ?_
                          refine kb_aload_n X 0 dX6_felt_115 rfl rfl ?_
                          refine kb_get (v := .ref (a 11)) (C := RX6) (T := TX6) (N := 25) (ci := 6) X kw_iX6 rfl 0 21 rfl (by decide) kf_X6_41 rfl rfl dX6_felt_116 ?_
                          refine kb_iload X 6 dX6_felt_119 rfl ?_
                          refine kb_zald (i := k) X 11 rfl (by omega) (by decide) dX6_felt_121 ?_
                          refine kz_icmp_ne (a := false) (b := sw k) (tgt := 129) X dX6_felt_122 (by decide) (fun c16_ => ?_) (fun c16_ => ?_)
                          · skip
                            have cs_ : sw k = true := by
                              cases hb : sw k with
                              | false => exact absurd hb.symm c16_
                              | true => rfl
                            refine kb_iconst (v := (0 : Int32)) X dX6_felt_129 (by decide) ?_
                            refine kb_istore X [1, 2, 3, 4, 5, 0, 6, 7] dX6_felt_130 (by decide) (lv' := [(0, .ref (a 0)), (1, .int (nI (ij))), (2, .int (nI (jj))), (3, .int (nI (sTb (wh, wo, bl, ck, sw, se) v ij jj u))), (4, .int (nI u - 4)), (5, .int 0), (6, .int (nI (k))), (7, .int 0)]) rfl ?_
                            refine kw_lvs [0, 1, 2, 3, 4, 5, 6] (lv' := [(0, .ref (a 0)), (1, .int (nI (ij))), (2, .int (nI (jj))), (3, .int (nI (sTb (wh, wo, bl, ck, sw, se) v ij jj u))), (4, .int (nI u - 4)), (5, .int 0), (6, .int (nI (k)))]) rfl ?_
                            refine kb_iinc X 6 [1, 2, 3, 4, 5, 6, 0] (v' := nI (k + 1)) dX6_felt_132 rfl (nI_add _ _) (by decide) (lv' := [(0, .ref (a 0)), (1, .int (nI (ij))), (2, .int (nI (jj))), (3, .int (nI (sTb (wh, wo, bl, ck, sw, se) v ij jj u))), (4, .int (nI u - 4)), (5, .int 0), (6, .int (nI (k + 1)))]) rfl ?_
                            refine kb_goto (tgt := 29) X dX6_felt_135 (by decide) ?_
                            exact kw_to (ih2 (k + 1) (by omega)) (by simp [sTb, sTf, sIs, wCome_lk, sWho, sWhose, sBells, sCakes, sSo, zI_t, zI_f, c1_, ePi, ePj, c3_, c6_, c7_, c12_, c13_, c14_, c15_, cs_]) rfl rfl
                          · skip
                            have cs_ : sw k = false := c16_.symm
                            refine kb_iconst (v := (1 : Int32)) X dX6_felt_125 (by decide) ?_
                            refine kb_goto (tgt := 130) X dX6_felt_126 (by decide) ?_
                            refine kb_istore X [1, 2, 3, 4, 5, 0, 6, 7] dX6_felt_130 (by decide) (lv' := [(0, .ref (a 0)), (1, .int (nI (ij))), (2, .int (nI (jj))), (3, .int (nI (sTb (wh, wo, bl, ck, sw, se) v ij jj u))), (4, .int (nI u - 4)), (5, .int 1), (6, .int (nI (k))), (7, .int 0)]) rfl ?_
                            refine kw_lvs [0, 1, 2, 3, 4, 5, 6] (lv' := [(0, .ref (a 0)), (1, .int (nI (ij))), (2, .int (nI (jj))), (3, .int (nI (sTb (wh, wo, bl, ck, sw, se) v ij jj u))), (4, .int (nI u - 4)), (5, .int 1), (6, .int (nI (k)))]) rfl ?_
                            refine kb_iinc X 6 [1, 2, 3, 4, 5, 6, 0] (v' := nI (k + 1)) dX6_felt_132 rfl (nI_add _ _) (by decide) (lv' := [(0, .ref (a 0)), (1, .int (nI (ij))), (2, .int (nI (jj))), (3, .int (nI (sTb (wh, wo, bl, ck, sw, se) v ij jj u))), (4, .int (nI u - 4)), (5, .int 1), (6, .int (nI (k + 1)))]) rfl ?_
                            refine kb_goto (tgt := 29) X dX6_felt_135 (by decide) ?_
                            exact kw_to (ih2 (k + 1) (by omega)) (by simp [sTb, sTf, sIs, wCome_lk, sWho, sWhose, sBells, sCakes, sSo, zI_t, zI_f, c1_, ePi, ePj, c3_, c6_, c7_, c12_, c13_, c14_, c15_, cs_]) rfl rfl
                  · skip
                    refine kb_iconst (v := (1 : Int32)) X dX6_felt_79 (by decide) ?_
                    refine kb_goto (tgt := 84) X dX6_felt_80 (by decide) ?_
                    refine kb_istore X [1, 2, 3, 4, 5, 6, 7, 0] dX6_felt_84 (by decide) (lv' := [(0, .ref (a 0)), (1, .int (nI (ij))), (2, .int (nI (jj))), (3, .int (nI (sTb (wh, wo, bl, ck, sw, se) v ij jj u))), (4, .int (nI u - 4)), (5, .int (zI (sTf (wh, wo, bl, ck, sw, se) v ij jj (nI u - 4) k))), (6, .int (nI (k))), (7, .int 1)]) rfl ?_
                    refine kb_iload X 5 dX6_felt_86 rfl ?_
                    refine kz_if_eq (b := sTf (wh, wo, bl, ck, sw, se) v ij jj (nI u - 4) k) (tgt := 129) X dX6_felt_88 (by decide) (fun c17_ => ?_) (fun c17_ => ?_)
                    · skip
                      refine kb_iconst (v := (0 : Int32)) X dX6_felt_129 (by decide) ?_
                      refine kb_istore X [1, 2, 3, 4, 5, 0, 6, 7] dX6_felt_130 (by decide) (lv' := [(0, .ref (a 0)), (1, .int (nI (ij))), (2, .int (nI (jj))), (3, .int (nI (sTb (wh, wo, bl, ck, sw, se) v ij jj u))), (4, .int (nI u - 4)), (5, .int 0), (6, .int (nI (k))), (7, .int 1)]) rfl ?_
                      refine kw_lvs [0, 1, 2, 3, 4, 5, 6] (lv' := [(0, .ref (a 0)), (1, .int (nI (ij))), (2, .int (nI (jj))), (3, .int (nI (sTb (wh, wo, bl, ck, sw, se) v ij jj u))), (4, .int (nI u - 4)), (5, .int 0), (6, .int (nI (k)))]) rfl ?_
                      refine kb_iinc X 6 [1, 2, 3, 4, 5, 6, 0] (v' := nI (k + 1)) dX6_felt_132 rfl (nI_add _ _) (by decide) (lv' := [(0, .ref (a 0)), (1, .int (nI (ij))), (2, .int (nI (jj))), (3, .int (nI (sTb (wh, wo, bl, ck, sw, se) v ij jj u))), (4, .int (nI u - 4)), (5, .int 0), (6, .int (nI (k + 1)))]) rfl ?_
                      refine kb_goto (tgt := 29) X dX6_felt_135 (by decide) ?_
                      exact kw_to (ih2 (k + 1) (by omega)) (by simp [sTb, sTf, sIs, wCome_lk, sWho, sWhose, sBells, sCakes, sSo, zI_t, zI_f, c1_, ePi, ePj, c3_, c6_, c7_, c12_, c17_]) rfl rfl
                    · skip
                      refine kb_aload_n X 0 dX6_felt_91 rfl rfl ?_
                      refine kb_get (v := .ref (a 7)) (C := RX6) (T := TX6) (N := 25) (ci := 6) X kw_iX6 rfl 0 17 rfl (by decide) kf_X6_29 rfl rfl dX6_felt_92 ?_
                      refine kb_iload X 6 dX6_felt_95 rfl ?_
                      refine kb_iald (i := k) X 7 rfl (by omega) (by decide) dX6_felt_97 ?_
                      refine kb_iload_n X 1 dX6_felt_98 rfl rfl ?_
                      refine kn_icmp_ne (a := wh k) (b := ij) (tgt := 125) X (by omega) (by omega) dX6_felt_99 (by decide) (fun c18_ => ?_) (fun c18_ => ?_)
                      · skip
                        refine kb_iconst (v := (1 : Int32)) X dX6_felt_125 (by decide) ?_
                        refine kb_goto (tgt := 130) X dX6_felt_126 (by decide) ?_
                        refine kb_istore X [1, 2, 3, 4, 5, 0, 6, 7] dX6_felt_130 (by decide) (lv' := [(0, .ref (a 0)), (1, .int (nI (ij))), (2, .int (nI (jj))), (3, .int (nI (sTb (wh, wo, bl, ck, sw, se) v ij jj u))), (4, .int (nI u - 4)), (5, .int 1), (6, .int (nI (k))), (7, .int 1)]) rfl ?_
                        refine kw_lvs [0, 1, 2, 3, 4, 5, 6] (lv' := [(0, .ref (a 0)), (1, .int (nI (ij))), (2, .int (nI (jj))), (3, .int (nI (sTb (wh, wo, bl, ck, sw, se) v ij jj u))), (4, .int (nI u - 4)), (5, .int 1), (6, .int (nI (k)))]) rfl ?_
                        refine kb_iinc X 6 [1, 2, 3, 4, 5, 6, 0] (v' := nI (k + 1)) dX6_felt_132 rfl (nI_add _ _) (by decide) (lv' := [(0, .ref (a 0)), (1, .int (nI (ij))), (2, .int (nI (jj))), (3, .int (nI (sTb (wh, wo, bl, ck, sw, se) v ij jj u))), (4, .int (nI u - 4)), (5, .int 1), (6, .int (nI (k + 1)))]) rfl ?_
                        refine kb_goto (tgt := 29) X dX6_felt_135 (by decide) ?_
                        exact kw_to (ih2 (k + 1) (by omega)) (by simp [sTb, sTf, sIs, wCome_lk, sWho, sWhose, sBells, sCakes, sSo, zI_t, zI_f, c1_, ePi, ePj, c3_, c6_, c7_, c12_, c17_, c18_]) rfl rfl
                      · skip
                        refine kb_aload_n X 0 dX6_felt_102 rfl rfl ?_
                        refine kb_get (v := .ref (a 8)) (C := RX6) (T := TX6) (N := 25) (ci := 6) X kw_iX6 rfl 0 18 rfl (by decide) kf_X6_32 rfl rfl dX6_felt_103 ?_
                        refine kb_iload X 6 dX6_felt_106 rfl ?_
                        refine kb_iald (i := k) X 8 rfl (by omega) (by decide) dX6_felt_108 ?_
                        refine kb_iload_n X 2 dX6_felt_109 rfl rfl ?_
                        refine kn_icmp_ne (a := wo k) (b := jj) (tgt := 125) X (by omega) (by omega) dX6_felt_110 (by decide) (fun c19_ => ?_) (fun c19_ => ?_)
                        · skip
                          refine kb_iconst (v := (1 : Int32)) X dX6_felt_125 (by decide) ?_
                          refine kb_goto (tgt := 130) X dX6_felt_126 (by decide) ?_
                          refine kb_istore X [1, 2, 3, 4, 5, 0, 6, 7] dX6_felt_130 (by decide) (lv' := [(0, .ref (a 0)), (1, .int (nI (ij))), (2, .int (nI (jj))), (3, .int (nI (sTb (wh, wo, bl, ck, sw, se) v ij jj u))), (4, .int (nI u - 4)), (5, .int 1), (6, .int (nI (k))), (7, .int 1)]) rfl ?_
                          refine kw_lvs [0, 1, 2, 3, 4, 5, 6] (lv' := [(0, .ref (a 0)), (1, .int (nI (ij))), (2, .int (nI (jj))), (3, .int (nI (sTb (wh, wo, bl, ck, sw, se) v ij jj u))), (4, .int (nI u - 4)), (5, .int 1), (6, .int (nI (k)))]) rfl ?_
                          refine kb_iinc X 6 [1, 2, 3, 4, 5, 6, 0] (v' := nI (k + 1)) dX6_felt_132 rfl (nI_add _ _) (by decide) (lv' := [(0, .ref (a 0)), (1, .int (nI (ij))), (2, .int (nI (jj))), (3, .int (nI (sTb (wh, wo, bl, ck, sw, se) v ij jj u))), (4, .int (nI u - 4)), (5, .int 1), (6, .int (nI (k + 1)))]) rfl ?_
                          refine kb_goto (tgt := 29) X dX6_felt_135 (by decide) ?_
                          exact kw_to (ih2 (k + 1) (by omega)) (by simp [sTb, sTf, sIs, wCome_lk, sWho, sWhose, sBells, sCakes, sSo, zI_t, zI_f, c1_, ePi, ePj, c3_, c6_, c7_, c12_, c17_, c18_, c19_]) rfl rfl
                        · skip
                          refine kb_iload X 7 dX6_felt_113 rfl ?_
                          refine kb_aload_n X 0 dX6_felt_115 rfl rfl ?_
                          refine kb_get (v := .ref (a 11)) (C := RX6) (T := TX6) (N := 25) (ci := 6) X kw_iX6 rfl 0 21 rfl (by decide) kf_X6_41 rfl rfl dX6_felt_116 ?_
                          refine kb_iload X 6 dX6_felt_119 rfl ?_
                          refine kb_zald (i := k) X 11 rfl (by omega) (by decide) dX6_felt_121 ?_
                          refine kz_icmp_ne (a := true) (b := sw k) (tgt := 129) X dX6_felt_122 (by decide) (fun c20_ => ?_) (fun c20_ => ?_)
                          · skip
                            have cs_ : sw k = false := by
                              cases hb : sw k with
                              | true => exact absurd hb.symm c20_
                              | false => rfl
                            refine kb_iconst (v := (0 : Int32)) X dX6_felt_129 (by decide) ?_
                            refine kb_istore X [1, 2, 3, 4, 5, 0, 6, 7] dX6_felt_130 (by decide) (lv' := [(0, .ref (a 0)), (1, .int (nI (ij))), (2, .int (nI (jj))), (3, .int (nI (sTb (wh, wo, bl, ck, sw, se) v ij jj u))), (4, .int (nI u - 4)), (5, .int 0), (6, .int (nI (k))), (7, .int 1)]) rfl ?_
                            refine kw_lvs [0, 1, 2, 3, 4, 5, 6] (lv' := [(0, .ref (a 0)), (1, .int (nI (ij))), (2, .int (nI (jj))), (3, .int (nI (sTb (wh, wo, bl, ck, sw, se) v ij jj u))), (4, .int (nI u - 4)), (5, .int 0), (6, .int (nI (k)))]) rfl ?_
                            refine kb_iinc X 6 [1, 2, 3, 4, 5, 6, 0] (v' := nI (k + 1)) dX6_felt_132 rfl (nI_add _ _) (by decide) (lv' := [(0, .ref (a 0)), (1, .int (nI (ij))), (2, .int (nI (jj))), (3, .int (nI (sTb (wh, wo, bl, ck, sw, se) v ij jj u))), (4, .int (nI u - 4)), (5, .int 0), (6, .int (nI (k + 1)))]) rfl ?_
                            refine kb_goto (tgt := 29) X dX6_felt_135 (by decide) ?_
                            exact kw_to (ih2 (k + 1) (by omega)) (by simp [sTb, sTf, sIs, wCome_lk, sWho, sWhose, sBells, sCakes, sSo, zI_t, zI_f, c1_, ePi, ePj, c3_, c6_, c7_, c12_, c17_, c18_, c19_, cs_]) rfl rfl
                          · skip
                            have cs_ : sw k = true := c20_.symm
                            refine kb_iconst (v := (1 : Int32)) X dX6_felt_125 (by decide) ?_
                            refine kb_goto (tgt := 130) X dX6_felt_126 (by decide) ?_
                            refine kb_istore X [1, 2, 3, 4, 5, 0, 6, 7] dX6_felt_130 (by decide) (lv' := [(0, .ref (a 0)), (1, .int (nI (ij))), (2, .int (nI (jj))), (3, .int (nI (sTb (wh, wo, bl, ck, sw, se) v ij jj u))), (4, .int (nI u - 4)), (5, .int 1), (6, .int (nI (k))), (7, .int 1)]) rfl ?_
                            refine kw_lvs [0, 1, 2, 3, 4, 5, 6] (lv' := [(0, .ref (a 0)), (1, .int (nI (ij))), (2, .int (nI (jj))), (3, .int (nI (sTb (wh, wo, bl, ck, sw, se) v ij jj u))), (4, .int (nI u - 4)), (5, .int 1), (6, .int (nI (k)))]) rfl ?_
                            refine kb_iinc X 6 [1, 2, 3, 4, 5, 6, 0] (v' := nI (k + 1)) dX6_felt_132 rfl (nI_add _ _) (by decide) (lv' := [(0, .ref (a 0)), (1, .int (nI (ij))), (2, .int (nI (jj))), (3, .int (nI (sTb (wh, wo, bl, ck, sw, se) v ij jj u))), (4, .int (nI u - 4)), (5, .int 1), (6, .int (nI (k + 1)))]) rfl ?_
                            refine kb_goto (tgt := 29) X dX6_felt_135 (by decide) ?_
                            exact kw_to (ih2 (k + 1) (by omega)) (by simp [sTb, sTf, sIs, wCome_lk, sWho, sWhose, sBells, sCakes, sSo, zI_t, zI_f, c1_, ePi, ePj, c3_, c6_, c7_, c12_, c17_, c18_, c19_, cs_]) rfl rfl
          exact kw_to (L29 se 0 (by omega)) rfl rfl rfl
    exact kw_to (L17 10 0 rfl) rfl rfl rfl
  · skip
    refine kb_iconst (v := (-1 : Int32)) X dX6_felt_9 (by decide) ?_
    refine ke_i X Z dX6_felt_10 ?_
    exact ⟨by simp [oFelt, c1_], RWp.of hR⟩

set_option maxHeartbeats 4000000 in
set_option maxRecDepth 100000 in
theorem ct_X6_kinds (l : Launch) (g : kw_G) (a : Nat → Nat) (so : Nat → Int32) (ag : Nat → Int32) (np : Nat) (ns : Nat → Int32) (na : Nat → Int32) (nf : Int32) (sl : Nat → Int32) (ac : Nat) (ke : Nat) (le : Nat) (tx : Nat → Nat) (ap : Nat) (bg : Nat) (wr : Bool) (se : Nat) (wh : Nat → Nat) (wo : Nat → Nat) (bl : Nat → Int32) (ck : Nat → Int32) (sw : Nat → Bool) (ma : Nat) (ro : Nat → Nat) (bs : Nat → Nat) (v : VS) (us ks : List VS) (tf : Nat → Nat) (tn : Nat) (s : SS) (hR : RI (vN v) so ag (vG v) sl ac ke le tx se wh wo bl ck sw v us ks tf tn s) (i : Int32) : kMi l g yX6_kinds cX6_kinds 7 .int (kw_rm 3 0 0) 0 0 [.ref (a 0), .int (i)] (wR g a (vN v) so ag (vG v) np ns na nf sl ac ke le tx ap bg wr se wh wo bl ck sw ma ro bs) (fun r w => r = oKinds v i s ∧ RWp g a v us ks tf tn s w) := by
  refine kMi_of (by decide +kernel) (Nat.le_of_ble_eq_true rfl) (fun x (X : kX l g RX6 cX6_kinds 7 (kw_rm 3 0 0) x) (Z : kZi .int _ 0 0 x) => ?_)
  show kW x 0 0 0 [(0, .ref (a 0)), (1, .int (i))] [] (wR g a (vN v) so ag (vG v) np ns na nf sl ac ke le tx ap bg wr se wh wo bl ck sw ma ro bs)
  have hE := hR.1
  have hG := hR.2.1
  have hK := hR.2.1.1
  have hv := hR.2.1.2.1
  have hT := hR.2.1.2.2.1
  have hN0 := hR.2.1.2.2.2
  have h6 := hv.1
  have hx64 := hv.2.1
  have hh64 := hv.2.2
  obtain ⟨es, hse, hss⟩ := hR.2.2.2.2.2
  subst es
  have hsz : sSize (wh, wo, bl, ck, sw, se) = se := rfl
  refine kb_aload_n X 0 dX6_kinds_0 rfl rfl ?_
  refine kb_iload_n X 1 dX6_kinds_1 rfl rfl ?_
  refine kc_Vi X (As := [.int (i)]) (rest := []) (wr := []) (ct_X6_isPerson l g a (vN v) so ag (vG v) np ns na nf sl ac ke le tx ap bg wr se wh wo bl ck sw ma ro bs i (by omega)) dX6_kinds_2 rfl (kw_pall _) mc_X6_isPerson kl_X6_75 mi_X6_isPerson mv_X6_isPerson kn_X6 0 rfl rfl rfl (na := 1) (by decide +kernel) rfl ⟨Nat.le_of_ble_eq_true rfl, Nat.le_of_ble_eq_true rfl⟩ ⟨rfl, rfl⟩ ⟨Nat.le_of_ble_eq_true rfl, Nat.le_of_ble_eq_true rfl⟩ (Nat.le_of_ble_eq_true rfl) (fun r_ w_ hp_ => ?_)
  obtain ⟨rfl, rfl⟩ := hp_
  refine kw_ws (List.append_nil _) ?_
  refine kz_if_ne (b := pin i (vN v)) (tgt := 10) X dX6_kinds_5 (by decide) (fun c1_ => ?_) (fun c1_ => ?_)
  · skip
    obtain ⟨ij, hij, eij, ePi⟩ := pin_j h6 c1_
    refine kw_lv (lv' := [(0, .ref (a 0)), (1, .int (nI (ij)))]) (by rw [eij]) ?_
    refine kb_iconst (v := (0 : Int32)) X dX6_kinds_10 (by decide) ?_
    refine kb_istore_n X [1, 2, 0] dX6_kinds_11 rfl (by decide) (lv' := [(0, .ref (a 0)), (1, .int (nI (ij))), (2, .int 0)]) rfl ?_
    refine kb_iconst (v := (0 : Int32)) X dX6_kinds_12 (by decide) ?_
    refine kb_istore_n X [1, 2, 3, 0] dX6_kinds_13 rfl (by decide) (lv' := [(0, .ref (a 0)), (1, .int (nI (ij))), (2, .int 0), (3, .int 0)]) rfl ?_
    have L14 : ∀ (K_ u : Nat), u + K_ = 5 → kW x 0 0 14 [(0, .ref (a 0)), (1, .int (nI (ij))), (2, .int (nI (sKb (wh, wo, bl, ck, sw, se) v ij u))), (3, .int (nI (u)))] [] (wR g a (vN v) so ag (vG v) np ns na nf sl ac ke le tx ap bg wr se wh wo bl ck sw ma ro bs) := by
      intro K_
      induction K_ with
      | zero =>
        intro u hu
        refine kb_iload_n X 3 dX6_kinds_14 rfl rfl ?_
        refine kb_iconst (v := (5 : Int32)) X dX6_kinds_15 (by decide) ?_
        refine kn_icmp_ge (a := u) (b := 5) (tgt := 163) X (by omega) (by omega) dX6_kinds_16 (by decide) (fun c2_ => ?_) (fun c2_ => ?_)
        · skip
          refine kb_iload_n X 2 dX6_kinds_163 rfl rfl ?_
          refine ke_i X Z dX6_kinds_164 ?_
          exact ⟨by rw [show u = 5 by omega]; simp [oKinds, c1_, ePi, c2_], RWp.of hR⟩
        · skip
          omega
      | succ K_ ih =>
        intro u hu
        refine kb_iload_n X 3 dX6_kinds_14 rfl rfl ?_
        refine kb_iconst (v := (5 : Int32)) X dX6_kinds_15 (by decide) ?_
        refine kn_icmp_ge (a := u) (b := 5) (tgt := 163) X (by omega) (by omega) dX6_kinds_16 (by decide) (fun c3_ => ?_) (fun c3_ => ?_)
        · skip
          omega
        · skip
          refine kb_iconst (v := (1 : Int32)) X dX6_kinds_19 (by decide) ?_
          refine kb_istore X [1, 2, 3, 4, 0] dX6_kinds_20 (by decide) (lv' := [(0, .ref (a 0)), (1, .int (nI (ij))), (2, .int (nI (sKb (wh, wo, bl, ck, sw, se) v ij u))), (3, .int (nI (u))), (4, .int 1)]) rfl ?_
          refine kb_iconst (v := (0 : Int32)) X dX6_kinds_22 (by decide) ?_
          refine kb_istore X [1, 2, 3, 4, 5, 0] dX6_kinds_23 (by decide) (lv' := [(0, .ref (a 0)), (1, .int (nI (ij))), (2, .int (nI (sKb (wh, wo, bl, ck, sw, se) v ij u))), (3, .int (nI (u))), (4, .int 1), (5, .int 0)]) rfl ?_
          have L25 : ∀ (K_ k : Nat), k + K_ = se → kW x 0 0 25 [(0, .ref (a 0)), (1, .int (nI (ij))), (2, .int (nI (sKb (wh, wo, bl, ck, sw, se) v ij u))), (3, .int (nI (u))), (4, .int (zI (sKf (wh, wo, bl, ck, sw, se) v ij (nI u) k))), (5, .int (nI (k)))] [] (wR g a (vN v) so ag (vG v) np ns na nf sl ac ke le tx ap bg wr se wh wo bl ck sw ma ro bs) := by
            intro K_
            induction K_ with
            | zero =>
              intro k hk
              have hw_ : k < se → wh k < vN v ∧ wo k < vN v := hss k
              refine kb_iload X 5 dX6_kinds_25 rfl ?_
              refine kb_aload_n X 0 dX6_kinds_27 rfl rfl ?_
              refine kb_get (v := .int (nI (se))) (C := RX6) (T := TX6) (N := 25) (ci := 6) X kw_iX6 rfl 0 16 rfl (by decide) kf_X6_129 rfl rfl dX6_kinds_28 ?_
              refine kn_icmp_ge (a := k) (b := se) (tgt := 142) X (by omega) (by omega) dX6_kinds_31 (by decide) (fun c4_ => ?_) (fun c4_ => ?_)
              · skip
                refine kw_lv (lv' := [(0, .ref (a 0)), (1, .int (nI (ij))), (2, .int (nI (sKb (wh, wo, bl, ck, sw, se) v ij u))), (3, .int (nI (u))), (4, .int (zI (sKf (wh, wo, bl, ck, sw, se) v ij (nI u) (sSize (wh, wo, bl, ck, sw, se))))), (5, .int (nI (k)))]) (by rw [hsz, show se = k by omega]) ?_
                refine kb_iload_n X 2 dX6_kinds_142 rfl rfl ?_
                refine kb_iload X 4 dX6_kinds_143 rfl ?_
                refine kz_if_eq (b := sKf (wh, wo, bl, ck, sw, se) v ij (nI u) (sSize (wh, wo, bl, ck, sw, se))) (tgt := 154) X dX6_kinds_145 (by decide) (fun c5_ => ?_) (fun c5_ => ?_)
                · skip
                  refine kb_iconst (v := (0 : Int32)) X dX6_kinds_154 (by decide) ?_
                  refine kb_ior X dX6_kinds_155 ?_
                  refine kw_top (b := .int (nI (sKb (wh, wo, bl, ck, sw, se) v ij u))) (by rw [show (0 : Int32) = nI 0 from rfl, or_nI, Nat.or_zero]) ?_
                  refine kb_istore_n X [1, 2, 0, 3, 4, 5] dX6_kinds_156 rfl (by decide) (lv' := [(0, .ref (a 0)), (1, .int (nI (ij))), (2, .int (nI (sKb (wh, wo, bl, ck, sw, se) v ij u))), (3, .int (nI (u))), (4, .int (zI (sKf (wh, wo, bl, ck, sw, se) v ij (nI u) (sSize (wh, wo, bl, ck, sw, se))))), (5, .int (nI (k)))]) rfl ?_
                  refine kw_lvs [0, 1, 2, 3] (lv' := [(0, .ref (a 0)), (1, .int (nI (ij))), (2, .int (nI (sKb (wh, wo, bl, ck, sw, se) v ij u))), (3, .int (nI (u)))]) rfl ?_
                  refine kb_iinc X 3 [1, 2, 3, 0] (v' := nI (u + 1)) dX6_kinds_157 rfl (nI_add _ _) (by decide) (lv' := [(0, .ref (a 0)), (1, .int (nI (ij))), (2, .int (nI (sKb (wh, wo, bl, ck, sw, se) v ij u))), (3, .int (nI (u + 1)))]) rfl ?_
                  refine kb_goto (tgt := 14) X dX6_kinds_160 (by decide) ?_
                  exact kw_to (ih (u + 1) (by omega)) (by rw [sKb]; simp [c1_, ePi, c3_, c4_, c5_]) rfl rfl
                · skip
                  refine kb_iconst (v := (1 : Int32)) X dX6_kinds_148 (by decide) ?_
                  refine kb_iload_n X 3 dX6_kinds_149 rfl rfl ?_
                  refine kb_ishl X dX6_kinds_150 ?_
                  refine kb_goto (tgt := 155) X dX6_kinds_151 (by decide) ?_
                  refine kb_ior X dX6_kinds_155 ?_
                  refine kw_top (b := .int (nI (sKb (wh, wo, bl, ck, sw, se) v ij u + 2 ^ u))) (by rw [gs_or (sKb_lt (wh, wo, bl, ck, sw, se) v ij u) (by omega)]) ?_
                  refine kb_istore_n X [1, 2, 0, 3, 4, 5] dX6_kinds_156 rfl (by decide) (lv' := [(0, .ref (a 0)), (1, .int (nI (ij))), (2, .int (nI (sKb (wh, wo, bl, ck, sw, se) v ij u + 2 ^ u))), (3, .int (nI (u))), (4, .int (zI (sKf (wh, wo, bl, ck, sw, se) v ij (nI u) (sSize (wh, wo, bl, ck, sw, se))))), (5, .int (nI (k)))]) rfl ?_
                  refine kw_lvs [0, 1, 2, 3] (lv' := [(0, .ref (a 0)), (1, .int (nI (ij))), (2, .int (nI (sKb (wh, wo, bl, ck, sw, se) v ij u + 2 ^ u))), (3, .int (nI (u)))]) rfl ?_
                  refine kb_iinc X 3 [1, 2, 3, 0] (v' := nI (u + 1)) dX6_kinds_157 rfl (nI_add _ _) (by decide) (lv' := [(0, .ref (a 0)), (1, .int (nI (ij))), (2, .int (nI (sKb (wh, wo, bl, ck, sw, se) v ij u + 2 ^ u))), (3, .int (nI (u + 1)))]) rfl ?_
                  refine kb_goto (tgt := 14) X dX6_kinds_160 (by decide) ?_
                  exact kw_to (ih (u + 1) (by omega)) (by rw [sKb]; simp [c1_, ePi, c3_, c4_, c5_]) rfl rfl
              · skip
                have hw2 := hw_ c4_
                omega
            | succ K_ ih2 =>
              intro k hk
              have hw_ : k < se → wh k < vN v ∧ wo k < vN v := hss k
              refine kb_iload X 5 dX6_kinds_25 rfl ?_
              refine kb_aload_n X 0 dX6_kinds_27 rfl rfl ?_
              refine kb_get (v := .int (nI (se))) (C := RX6) (T := TX6) (N := 25) (ci := 6) X kw_iX6 rfl 0 16 rfl (by decide) kf_X6_129 rfl rfl dX6_kinds_28 ?_
              refine kn_icmp_ge (a := k) (b := se) (tgt := 142) X (by omega) (by omega) dX6_kinds_31 (by decide) (fun c6_ => ?_) (fun c6_ => ?_)
              · skip
                omega
              · skip
                have hw2 := hw_ c6_
                refine kb_aload_n X 0 dX6_kinds_34 rfl rfl ?_
                refine kb_iconst (v := (0 : Int32)) X dX6_kinds_35 (by decide) ?_
                refine kb_iload_n X 1 dX6_kinds_36 rfl rfl ?_
                refine kc_Vi X (As := [.int 0, .int (nI (ij))]) (rest := []) (wr := []) (ct_X6_isAlive l g a (vN v) so ag (vG v) np ns na nf sl ac ke le tx ap bg wr se wh wo bl ck sw ma ro bs 0 v (by omega) hE hK hv ij (by omega)) dX6_kinds_37 rfl (kw_pall _) mc_X6_isAlive kl_X6_136 mi_X6_isAlive mv_X6_isAlive kn_X6 0 rfl rfl rfl (na := 2) (by decide +kernel) rfl ⟨Nat.le_of_ble_eq_true rfl, Nat.le_of_ble_eq_true rfl⟩ ⟨rfl, rfl⟩ ⟨Nat.le_of_ble_eq_true rfl, Nat.le_of_ble_eq_true rfl⟩ (Nat.le_of_ble_eq_true rfl) (fun r_ w_ hp_ => ?_)
                obtain ⟨rfl, rfl⟩ := hp_
                refine kw_ws (List.append_nil _) ?_
                refine kz_if_eq (b := wLives v ij) (tgt := 98) X dX6_kinds_40 (by decide) (fun c7_ => ?_) (fun c7_ => ?_)
                · skip
                  refine kb_iconst (v := (0 : Int32)) X dX6_kinds_98 (by decide) ?_
                  refine kb_istore X [1, 2, 3, 4, 5, 6, 0] dX6_kinds_99 (by decide) (lv' := [(0, .ref (a 0)), (1, .int (nI (ij))), (2, .int (nI (sKb (wh, wo, bl, ck, sw, se) v ij u))), (3, .int (nI (u))), (4, .int (zI (sKf (wh, wo, bl, ck, sw, se) v ij (nI u) k))), (5, .int (nI (k))), (6, .int 0)]) rfl ?_
                  refine kb_iload X 4 dX6_kinds_101 rfl ?_
                  refine kz_if_eq (b := sKf (wh, wo, bl, ck, sw, se) v ij (nI u) k) (tgt := 133) X dX6_kinds_103 (by decide) (fun c8_ => ?_) (fun c8_ => ?_)
                  · skip
                    refine kb_iconst (v := (0 : Int32)) X dX6_kinds_133 (by decide) ?_
                    refine kb_istore X [1, 2, 3, 4, 0, 5, 6] dX6_kinds_134 (by decide) (lv' := [(0, .ref (a 0)), (1, .int (nI (ij))), (2, .int (nI (sKb (wh, wo, bl, ck, sw, se) v ij u))), (3, .int (nI (u))), (4, .int 0), (5, .int (nI (k))), (6, .int 0)]) rfl ?_
                    refine kw_lvs [0, 1, 2, 3, 4, 5] (lv' := [(0, .ref (a 0)), (1, .int (nI (ij))), (2, .int (nI (sKb (wh, wo, bl, ck, sw, se) v ij u))), (3, .int (nI (u))), (4, .int 0), (5, .int (nI (k)))]) rfl ?_
                    refine kb_iinc X 5 [1, 2, 3, 4, 5, 0] (v' := nI (k + 1)) dX6_kinds_136 rfl (nI_add _ _) (by decide) (lv' := [(0, .ref (a 0)), (1, .int (nI (ij))), (2, .int (nI (sKb (wh, wo, bl, ck, sw, se) v ij u))), (3, .int (nI (u))), (4, .int 0), (5, .int (nI (k + 1)))]) rfl ?_
                    refine kb_goto (tgt := 25) X dX6_kinds_139 (by decide) ?_
                    exact kw_to (ih2 (k + 1) (by omega)) (by simp [sKb, sKf, sIs, wCome_lk, sWho, sWhose, sBells, sCakes, sSo, zI_t, zI_f, c1_, ePi, c3_, c6_, c7_, c8_]) rfl rfl
                  · skip
                    refine kb_aload_n X 0 dX6_kinds_106 rfl rfl ?_
                    refine kb_get (v := .ref (a 7)) (C := RX6) (T := TX6) (N := 25) (ci := 6) X kw_iX6 rfl 0 17 rfl (by decide) kf_X6_29 rfl rfl dX6_kinds_107 ?_
                    refine kb_iload X 5 dX6_kinds_110 rfl ?_
                    refine kb_iald (i := k) X 7 rfl (by omega) (by decide) dX6_kinds_112 ?_
                    refine kb_iload_n X 1 dX6_kinds_113 rfl rfl ?_
                    refine kn_icmp_ne (a := wh k) (b := ij) (tgt := 129) X (by omega) (by omega) dX6_kinds_114 (by decide) (fun c9_ => ?_) (fun c9_ => ?_)
                    · skip
                      refine kb_iconst (v := (1 : Int32)) X dX6_kinds_129 (by decide) ?_
                      refine kb_goto (tgt := 134) X dX6_kinds_130 (by decide) ?_
                      refine kb_istore X [1, 2, 3, 4, 0, 5, 6] dX6_kinds_134 (by decide) (lv' := [(0, .ref (a 0)), (1, .int (nI (ij))), (2, .int (nI (sKb (wh, wo, bl, ck, sw, se) v ij u))), (3, .int (nI (u))), (4, .int 1), (5, .int (nI (k))), (6, .int 0)]) rfl ?_
                      refine kw_lvs [0, 1, 2, 3, 4, 5] (lv' := [(0, .ref (a 0)), (1, .int (nI (ij))), (2, .int (nI (sKb (wh, wo, bl, ck, sw, se) v ij u))), (3, .int (nI (u))), (4, .int 1), (5, .int (nI (k)))]) rfl ?_
                      refine kb_iinc X 5 [1, 2, 3, 4, 5, 0] (v' := nI (k + 1)) dX6_kinds_136 rfl (nI_add _ _) (by decide) (lv' := [(0, .ref (a 0)), (1, .int (nI (ij))), (2, .int (nI (sKb (wh, wo, bl, ck, sw, se) v ij u))), (3, .int (nI (u))), (4, .int 1), (5, .int (nI (k + 1)))]) rfl ?_
                      refine kb_goto (tgt := 25) X dX6_kinds_139 (by decide) ?_
                      exact kw_to (ih2 (k + 1) (by omega)) (by simp [sKb, sKf, sIs, wCome_lk, sWho, sWhose, sBells, sCakes, sSo, zI_t, zI_f, c1_, ePi, c3_, c6_, c7_, c8_, c9_]) rfl rfl
                    · skip
                      refine kb_iload X 6 dX6_kinds_117 rfl ?_
                      refine kb_aload_n X 0 dX6_kinds_119 rfl rfl ?_
                      refine kb_get (v := .ref (a 11)) (C := RX6) (T := TX6) (N := 25) (ci := 6) X kw_iX6 rfl 0 21 rfl (by decide) kf_X6_41 rfl rfl dX6_kinds_120 ?_
                      refine kb_iload X 5 dX6_kinds_123 rfl ?_
                      refine kb_zald (i := k) X 11 rfl (by omega) (by decide) dX6_kinds_125 ?_
                      refine kz_icmp_ne (a := false) (b := sw k) (tgt := 133) X dX6_kinds_126 (by decide) (fun c10_ => ?_) (fun c10_ => ?_)
                      · skip
                        have cs_ : sw k = true := by
                          cases hb : sw k with
                          | false => exact absurd hb.symm c10_
                          | true => rfl
                        refine kb_iconst (v := (0 : Int32)) X dX6_kinds_133 (by decide) ?_
                        refine kb_istore X [1, 2, 3, 4, 0, 5, 6] dX6_kinds_134 (by decide) (lv' := [(0, .ref (a 0)), (1, .int (nI (ij))), (2, .int (nI (sKb (wh, wo, bl, ck, sw, se) v ij u))), (3, .int (nI (u))), (4, .int 0), (5, .int (nI (k))), (6, .int 0)]) rfl ?_
                        refine kw_lvs [0, 1, 2, 3, 4, 5] (lv' := [(0, .ref (a 0)), (1, .int (nI (ij))), (2, .int (nI (sKb (wh, wo, bl, ck, sw, se) v ij u))), (3, .int (nI (u))), (4, .int 0), (5, .int (nI (k)))]) rfl ?_
                        refine kb_iinc X 5 [1, 2, 3, 4, 5, 0] (v' := nI (k + 1)) dX6_kinds_136 rfl (nI_add _ _) (by decide) (lv' := [(0, .ref (a 0)), (1, .int (nI (ij))), (2, .int (nI (sKb (wh, wo, bl, ck, sw, se) v ij u))), (3, .int (nI (u))), (4, .int 0), (5, .int (nI (k + 1)))]) rfl ?_
                        refine kb_goto (tgt := 25) X dX6_kinds_139 (by decide) ?_
                        exact kw_to (ih2 (k + 1) (by omega)) (by simp [sKb, sKf, sIs, wCome_lk, sWho, sWhose, sBells, sCakes, sSo, zI_t, zI_f, c1_, ePi, c3_, c6_, c7_, c8_, c9_, cs_]) rfl rfl
                      · skip
                        have cs_ : sw k = false := c10_.symm
                        refine kb_iconst (v := (1 : Int32)) X dX6_kinds_129 (by decide) ?_
                        refine kb_goto (tgt := 134) X dX6_kinds_130 (by decide) ?_
                        refine kb_istore X [1, 2, 3, 4, 0, 5, 6] dX6_kinds_134 (by decide) (lv' := [(0, .ref (a 0)), (1, .int (nI (ij))), (2, .int (nI (sKb (wh, wo, bl, ck, sw, se) v ij u))), (3, .int (nI (u))), (4, .int 1), (5, .int (nI (k))), (6, .int 0)]) rfl ?_
                        refine kw_lvs [0, 1, 2, 3, 4, 5] (lv' := [(0, .ref (a 0)), (1, .int (nI (ij))), (2, .int (nI (sKb (wh, wo, bl, ck, sw, se) v ij u))), (3, .int (nI (u))), (4, .int 1), (5, .int (nI (k)))]) rfl ?_
                        refine kb_iinc X 5 [1, 2, 3, 4, 5, 0] (v' := nI (k + 1)) dX6_kinds_136 rfl (nI_add _ _) (by decide) (lv' := [(0, .ref (a 0)), (1, .int (nI (ij))), (2, .int (nI (sKb (wh, wo, bl, ck, sw, se) v ij u))), (3, .int (nI (u))), (4, .int 1), (5, .int (nI (k + 1)))]) rfl ?_
                        refine kb_goto (tgt := 25) X dX6_kinds_139 (by decide) ?_
                        exact kw_to (ih2 (k + 1) (by omega)) (by simp [sKb, sKf, sIs, wCome_lk, sWho, sWhose, sBells, sCakes, sSo, zI_t, zI_f, c1_, ePi, c3_, c6_, c7_, c8_, c9_, cs_]) rfl rfl
                · skip
                  refine kb_aload_n X 0 dX6_kinds_43 rfl rfl ?_
                  refine kb_iconst (v := (0 : Int32)) X dX6_kinds_44 (by decide) ?_
                  refine kb_iload_n X 1 dX6_kinds_45 rfl rfl ?_
                  refine kb_aload_n X 0 dX6_kinds_46 rfl rfl ?_
                  refine kb_get (v := .ref (a 8)) (C := RX6) (T := TX6) (N := 25) (ci := 6) X kw_iX6 rfl 0 18 rfl (by decide) kf_X6_32 rfl rfl dX6_kinds_47 ?_
                  refine kb_iload X 5 dX6_kinds_50 rfl ?_
                  refine kb_iald (i := k) X 8 rfl (by omega) (by decide) dX6_kinds_52 ?_
                  refine kb_iload_n X 3 dX6_kinds_53 rfl rfl ?_
                  refine kb_aload_n X 0 dX6_kinds_54 rfl rfl ?_
                  refine kb_get (v := .ref (a 5)) (C := RX6) (T := TX6) (N := 25) (ci := 6) X kw_iX6 rfl 0 8 rfl (by decide) kf_X6_22 rfl rfl dX6_kinds_55 ?_
                  refine kb_bipush (v := (10 : Int32)) X dX6_kinds_58 (by decide) ?_
                  refine kb_bipush (v := (6 : Int32)) X dX6_kinds_60 (by decide) ?_
                  refine kb_iload_n X 1 dX6_kinds_62 rfl rfl ?_
                  refine kn_imul X 6 ij dX6_kinds_63 ?_
                  refine kn_iadd X 10 (6 * ij) dX6_kinds_64 ?_
                  refine kb_aload_n X 0 dX6_kinds_65 rfl rfl ?_
                  refine kb_get (v := .ref (a 8)) (C := RX6) (T := TX6) (N := 25) (ci := 6) X kw_iX6 rfl 0 18 rfl (by decide) kf_X6_32 rfl rfl dX6_kinds_66 ?_
                  refine kb_iload X 5 dX6_kinds_69 rfl ?_
                  refine kb_iald (i := k) X 8 rfl (by omega) (by decide) dX6_kinds_71 ?_
                  refine kn_iadd X (10 + (6 * ij)) (wo k) dX6_kinds_72 ?_
                  refine kb_iald (i := (10 + (6 * ij)) + (wo k)) X 5 rfl (by omega) (by decide) dX6_kinds_73 ?_
                  refine kw_top (b := .int (vT v (ij * 6 + (wo k)))) (congrArg Value.int (hE.t (p := ij) (q := wo k) (by omega) (by omega) (by omega))) ?_
                  refine kb_aload_n X 0 dX6_kinds_74 rfl rfl ?_
                  refine kb_get (v := .ref (a 9)) (C := RX6) (T := TX6) (N := 25) (ci := 6) X kw_iX6 rfl 0 19 rfl (by decide) kf_X6_35 rfl rfl dX6_kinds_75 ?_
                  refine kb_iload X 5 dX6_kinds_78 rfl ?_
                  refine kb_iald (i := k) X 9 rfl (by omega) (by decide) dX6_kinds_80 ?_
                  refine kb_aload_n X 0 dX6_kinds_81 rfl rfl ?_
                  refine kb_get (v := .ref (a 10)) (C := RX6) (T := TX6) (N := 25) (ci := 6) X kw_iX6 rfl 0 20 rfl (by decide) kf_X6_38 rfl rfl dX6_kinds_82 ?_
                  refine kb_iload X 5 dX6_kinds_85 rfl ?_
                  refine kb_iald (i := k) X 10 rfl (by omega) (by decide) dX6_kinds_87 ?_
                  refine kc_Vi X (As := [.int 0, .int (nI (ij)), .int (nI (wo k)), .int (nI (u)), .int (vT v (ij * 6 + (wo k))), .int (bl k), .int (ck k)]) (rest := []) (wr := []) (ct_X6_likes l g a (vN v) so ag (vG v) np ns na nf sl ac ke le tx ap bg wr se wh wo bl ck sw ma ro bs 0 v (by omega) hE hK hv ij (wo k) (nI (u)) (vT v (ij * 6 + (wo k))) (bl k) (ck k) (by omega) (by omega)) dX6_kinds_88 rfl (kw_pall _) mc_X6_likes kl_X6_150 mi_X6_likes mv_X6_likes kn_X6 0 rfl rfl rfl (na := 7) (by decide +kernel) rfl ⟨Nat.le_of_ble_eq_true rfl, Nat.le_of_ble_eq_true rfl⟩ ⟨rfl, rfl⟩ ⟨Nat.le_of_ble_eq_true rfl, Nat.le_of_ble_eq_true rfl⟩ (Nat.le_of_ble_eq_true rfl) (fun r_ w_ hp_ => ?_)
                  obtain ⟨rfl, rfl⟩ := hp_
                  refine kw_ws (List.append_nil _) ?_
                  refine kz_if_eq (b := wLk v ij (nI (u)) (vT v (ij * 6 + (wo k))) (wo k) (bl k) (ck k)) (tgt := 98) X dX6_kinds_91 (by decide) (fun c11_ => ?_) (fun c11_ => ?_)
                  · skip
                    refine kb_iconst (v := (0 : Int32)) X dX6_kinds_98 (by decide) ?_
                    refine kb_istore X [1, 2, 3, 4, 5, 6, 0] dX6_kinds_99 (by decide) (lv' := [(0, .ref (a 0)), (1, .int (nI (ij))), (2, .int (nI (sKb (wh, wo, bl, ck, sw, se) v ij u))), (3, .int (nI (u))), (4, .int (zI (sKf (wh, wo, bl, ck, sw, se) v ij (nI u) k))), (5, .int (nI (k))), (6, .int 0)]) rfl ?_
                    refine kb_iload X 4 dX6_kinds_101 rfl ?_
                    refine kz_if_eq (b := sKf (wh, wo, bl, ck, sw, se) v ij (nI u) k) (tgt := 133) X dX6_kinds_103 (by decide) (fun c12_ => ?_) (fun c12_ => ?_)
                    · skip
                      refine kb_iconst (v := (0 : Int32)) X dX6_kinds_133 (by decide) ?_
                      refine kb_istore X [1, 2, 3, 4, 0, 5, 6] dX6_kinds_134 (by decide) (lv' := [(0, .ref (a 0)), (1, .int (nI (ij))), (2, .int (nI (sKb (wh, wo, bl, ck, sw, se) v ij u))), (3, .int (nI (u))), (4, .int 0), (5, .int (nI (k))), (6, .int 0)]) rfl ?_
                      refine kw_lvs [0, 1, 2, 3, 4, 5] (lv' := [(0, .ref (a 0)), (1, .int (nI (ij))), (2, .int (nI (sKb (wh, wo, bl, ck, sw, se) v ij u))), (3, .int (nI (u))), (4, .int 0), (5, .int (nI (k)))]) rfl ?_
                      refine kb_iinc X 5 [1, 2, 3, 4, 5, 0] (v' := nI (k + 1)) dX6_kinds_136 rfl (nI_add _ _) (by decide) (lv' := [(0, .ref (a 0)), (1, .int (nI (ij))), (2, .int (nI (sKb (wh, wo, bl, ck, sw, se) v ij u))), (3, .int (nI (u))), (4, .int 0), (5, .int (nI (k + 1)))]) rfl ?_
                      refine kb_goto (tgt := 25) X dX6_kinds_139 (by decide) ?_
                      exact kw_to (ih2 (k + 1) (by omega)) (by simp [sKb, sKf, sIs, wCome_lk, sWho, sWhose, sBells, sCakes, sSo, zI_t, zI_f, c1_, ePi, c3_, c6_, c7_, c11_, c12_]) rfl rfl
                    · skip
                      refine kb_aload_n X 0 dX6_kinds_106 rfl rfl ?_
                      refine kb_get (v := .ref (a 7)) (C := RX6) (T := TX6) (N := 25) (ci := 6) X kw_iX6 rfl 0 17 rfl (by decide) kf_X6_29 rfl rfl dX6_kinds_107 ?_
                      refine kb_iload X 5 dX6_kinds_110 rfl ?_
                      refine kb_iald (i := k) X 7 rfl (by omega) (by decide) dX6_kinds_112 ?_
                      refine kb_iload_n X 1 dX6_kinds_113 rfl rfl ?_
                      refine kn_icmp_ne (a := wh k) (b := ij) (tgt := 129) X (by omega) (by omega) dX6_kinds_114 (by decide) (fun c13_ => ?_) (fun c13_ => ?_)
                      · skip
                        refine kb_iconst (v := (1 : Int32)) X dX6_kinds_129 (by decide) ?_
                        refine kb_goto (tgt := 134) X dX6_kinds_130 (by decide) ?_
                        refine kb_istore X [1, 2, 3, 4, 0, 5, 6] dX6_kinds_134 (by decide) (lv' := [(0, .ref (a 0)), (1, .int (nI (ij))), (2, .int (nI (sKb (wh, wo, bl, ck, sw, se) v ij u))), (3, .int (nI (u))), (4, .int 1), (5, .int (nI (k))), (6, .int 0)]) rfl ?_
                        refine kw_lvs [0, 1, 2, 3, 4, 5] (lv' := [(0, .ref (a 0)), (1, .int (nI (ij))), (2, .int (nI (sKb (wh, wo, bl, ck, sw, se) v ij u))), (3, .int (nI (u))), (4, .int 1), (5, .int (nI (k)))]) rfl ?_
                        refine kb_iinc X 5 [1, 2, 3, 4, 5, 0] (v' := nI (k + 1)) dX6_kinds_136 rfl (nI_add _ _) (by decide) (lv' := [(0, .ref (a 0)), (1, .int (nI (ij))), (2, .int (nI (sKb (wh, wo, bl, ck, sw, se) v ij u))), (3, .int (nI (u))), (4, .int 1), (5, .int (nI (k + 1)))]) rfl ?_
                        refine kb_goto (tgt := 25) X dX6_kinds_139 (by decide) ?_
                        exact kw_to (ih2 (k + 1) (by omega)) (by simp [sKb, sKf, sIs, wCome_lk, sWho, sWhose, sBells, sCakes, sSo, zI_t, zI_f, c1_, ePi, c3_, c6_, c7_, c11_, c12_, c13_]) rfl rfl
                      · skip
                        refine kb_iload X 6 dX6_kinds_117 rfl ?_
                        refine kb_aload_n X 0 dX6_kinds_119 rfl rfl ?_
                        refine kb_get (v := .ref (a 11)) (C := RX6) (T := TX6) (N := 25) (ci := 6) X kw_iX6 rfl 0 21 rfl (by decide) kf_X6_41 rfl rfl dX6_kinds_120 ?_
                        refine kb_iload X 5 dX6_kinds_123 rfl ?_
                        refine kb_zald (i := k) X 11 rfl (by omega) (by decide) dX6_kinds_125 ?_
                        refine kz_icmp_ne (a := false) (b := sw k) (tgt := 133) X dX6_kinds_126 (by decide) (fun c14_ => ?_) (fun c14_ => ?_)
                        · skip
                          have cs_ : sw k = true := by
                            cases hb : sw k with
                            | false => exact absurd hb.symm c14_
                            | true => rfl
                          refine kb_iconst (v := (0 : Int32)) X dX6_kinds_133 (by decide) ?_
                          refine kb_istore X [1, 2, 3, 4, 0, 5, 6] dX6_kinds_134 (by decide) (lv' := [(0, .ref (a 0)), (1, .int (nI (ij))), (2, .int (nI (sKb (wh, wo, bl, ck, sw, se) v ij u))), (3, .int (nI (u))), (4, .int 0), (5, .int (nI (k))), (6, .int 0)]) rfl ?_
                          refine kw_lvs [0, 1, 2, 3, 4, 5] (lv' := [(0, .ref (a 0)), (1, .int (nI (ij))), (2, .int (nI (sKb (wh, wo, bl, ck, sw, se) v ij u))), (3, .int (nI (u))), (4, .int 0), (5, .int (nI (k)))]) rfl ?_
                          refine kb_iinc X 5 [1, 2, 3, 4, 5, 0] (v' := nI (k + 1)) dX6_kinds_136 rfl (nI_add _ _) (by decide) (lv' := [(0, .ref (a 0)), (1, .int (nI (ij))), (2, .int (nI (sKb (wh, wo, bl, ck, sw, se) v ij u))), (3, .int (nI (u))), (4, .int 0), (5, .int (nI (k + 1)))]) rfl ?_
                          refine kb_goto (tgt := 25) X dX6_kinds_139 (by decide) ?_
                          exact kw_to (ih2 (k + 1) (by omega)) (by simp [sKb, sKf, sIs, wCome_lk, sWho, sWhose, sBells, sCakes, sSo, zI_t, zI_f, c1_, ePi, c3_, c6_, c7_, c11_, c12_, c13_, cs_]) rfl rfl
                        · skip
                          have cs_ : sw k = false := c14_.symm
                          refine kb_iconst (v := (1 : Int32)) X dX6_kinds_129 (by decide) ?_
                          refine kb_goto (tgt := 134) X dX6_kinds_130 (by decide) ?_
                          refine kb_istore X [1, 2, 3, 4, 0, 5, 6] dX6_kinds_134 (by decide) (lv' := [(0, .ref (a 0)), (1, .int (nI (ij))), (2, .int (nI (sKb (wh, wo, bl, ck, sw, se) v ij u))), (3, .int (nI (u))), (4, .int 1), (5, .int (nI (k))), (6, .int 0)]) rfl ?_
                          refine kw_lvs [0, 1, 2, 3, 4, 5] (lv' := [(0, .ref (a 0)), (1, .int (nI (ij))), (2, .int (nI (sKb (wh, wo, bl, ck, sw, se) v ij u))), (3, .int (nI (u))), (4, .int 1), (5, .int (nI (k)))]) rfl ?_
                          refine kb_iinc X 5 [1, 2, 3, 4, 5, 0] (v' := nI (k + 1)) dX6_kinds_136 rfl (nI_add _ _) (by decide) (lv' := [(0, .ref (a 0)), (1, .int (nI (ij))), (2, .int (nI (sKb (wh, wo, bl, ck, sw, se) v ij u))), (3, .int (nI (u))), (4, .int 1), (5, .int (nI (k + 1)))]) rfl ?_
                          refine kb_goto (tgt := 25) X dX6_kinds_139 (by decide) ?_
                          exact kw_to (ih2 (k + 1) (by omega)) (by simp [sKb, sKf, sIs, wCome_lk, sWho, sWhose, sBells, sCakes, sSo, zI_t, zI_f, c1_, ePi, c3_, c6_, c7_, c11_, c12_, c13_, cs_]) rfl rfl
                  · skip
                    refine kb_iconst (v := (1 : Int32)) X dX6_kinds_94 (by decide) ?_
                    refine kb_goto (tgt := 99) X dX6_kinds_95 (by decide) ?_
                    refine kb_istore X [1, 2, 3, 4, 5, 6, 0] dX6_kinds_99 (by decide) (lv' := [(0, .ref (a 0)), (1, .int (nI (ij))), (2, .int (nI (sKb (wh, wo, bl, ck, sw, se) v ij u))), (3, .int (nI (u))), (4, .int (zI (sKf (wh, wo, bl, ck, sw, se) v ij (nI u) k))), (5, .int (nI (k))), (6, .int 1)]) rfl ?_
                    refine kb_iload X 4 dX6_kinds_101 rfl ?_
                    refine kz_if_eq (b := sKf (wh, wo, bl, ck, sw, se) v ij (nI u) k) (tgt := 133) X dX6_kinds_103 (by decide) (fun c15_ => ?_) (fun c15_ => ?_)
                    · skip
                      refine kb_iconst (v := (0 : Int32)) X dX6_kinds_133 (by decide) ?_
                      refine kb_istore X [1, 2, 3, 4, 0, 5, 6] dX6_kinds_134 (by decide) (lv' := [(0, .ref (a 0)), (1, .int (nI (ij))), (2, .int (nI (sKb (wh, wo, bl, ck, sw, se) v ij u))), (3, .int (nI (u))), (4, .int 0), (5, .int (nI (k))), (6, .int 1)]) rfl ?_
                      refine kw_lvs [0, 1, 2, 3, 4, 5] (lv' := [(0, .ref (a 0)), (1, .int (nI (ij))), (2, .int (nI (sKb (wh, wo, bl, ck, sw, se) v ij u))), (3, .int (nI (u))), (4, .int 0), (5, .int (nI (k)))]) rfl ?_
                      refine kb_iinc X 5 [1, 2, 3, 4, 5, 0] (v' := nI (k + 1)) dX6_kinds_136 rfl (nI_add _ _) (by decide) (lv' := [(0, .ref (a 0)), (1, .int (nI (ij))), (2, .int (nI (sKb (wh, wo, bl, ck, sw, se) v ij u))), (3, .int (nI (u))), (4, .int 0), (5, .int (nI (k + 1)))]) rfl ?_
                      refine kb_goto (tgt := 25) X dX6_kinds_139 (by decide) ?_
                      exact kw_to (ih2 (k + 1) (by omega)) (by simp [sKb, sKf, sIs, wCome_lk, sWho, sWhose, sBells, sCakes, sSo, zI_t, zI_f, c1_, ePi, c3_, c6_, c7_, c11_, c15_]) rfl rfl
                    · skip
                      refine kb_aload_n X 0 dX6_kinds_106 rfl rfl ?_
                      refine kb_get (v := .ref (a 7)) (C := RX6) (T := TX6) (N := 25) (ci := 6) X kw_iX6 rfl 0 17 rfl (by decide) kf_X6_29 rfl rfl dX6_kinds_107 ?_
                      refine kb_iload X 5 dX6_kinds_110 rfl ?_
                      refine kb_iald (i := k) X 7 rfl (by omega) (by decide) dX6_kinds_112 ?_
                      refine kb_iload_n X 1 dX6_kinds_113 rfl rfl ?_
                      refine kn_icmp_ne (a := wh k) (b := ij) (tgt := 129) X (by omega) (by omega) dX6_kinds_114 (by decide) (fun c16_ => ?_) (fun c16_ => ?_)
                      · skip
                        refine kb_iconst (v := (1 : Int32)) X dX6_kinds_129 (by decide) ?_
                        refine kb_goto (tgt := 134) X dX6_kinds_130 (by decide) ?_
                        refine kb_istore X [1, 2, 3, 4, 0, 5, 6] dX6_kinds_134 (by decide) (lv' := [(0, .ref (a 0)), (1, .int (nI (ij))), (2, .int (nI (sKb (wh, wo, bl, ck, sw, se) v ij u))), (3, .int (nI (u))), (4, .int 1), (5, .int (nI (k))), (6, .int 1)]) rfl ?_
                        refine kw_lvs [0, 1, 2, 3, 4, 5] (lv' := [(0, .ref (a 0)), (1, .int (nI (ij))), (2, .int (nI (sKb (wh, wo, bl, ck, sw, se) v ij u))), (3, .int (nI (u))), (4, .int 1), (5, .int (nI (k)))]) rfl ?_
                        refine kb_iinc X 5 [1, 2, 3, 4, 5, 0] (v' := nI (k + 1)) dX6_kinds_136 rfl (nI_add _ _) (by decide) (lv' := [(0, .ref (a 0)), (1, .int (nI (ij))), (2, .int (nI (sKb (wh, wo, bl, ck, sw, se) v ij u))), (3, .int (nI (u))), (4, .int 1), (5, .int (nI (k + 1)))]) rfl ?_
                        refine kb_goto (tgt := 25) X dX6_kinds_139 (by decide) ?_
                        exact kw_to (ih2 (k + 1) (by omega)) (by simp [sKb, sKf, sIs, wCome_lk, sWho, sWhose, sBells, sCakes, sSo, zI_t, zI_f, c1_, ePi, c3_, c6_, c7_, c11_, c15_, c16_]) rfl rfl
                      · skip
                        refine kb_iload X 6 dX6_kinds_117 rfl ?_
                        refine kb_aload_n X 0 dX6_kinds_119 rfl rfl ?_
                        refine kb_get (v := .ref (a 11)) (C := RX6) (T := TX6) (N := 25) (ci := 6) X kw_iX6 rfl 0 21 rfl (by decide) kf_X6_41 rfl rfl dX6_kinds_120 ?_
                        refine kb_iload X 5 dX6_kinds_123 rfl ?_
                        refine kb_zald (i := k) X 11 rfl (by omega) (by decide) dX6_kinds_125 ?_
                        refine kz_icmp_ne (a := true) (b := sw k) (tgt := 133) X dX6_kinds_126 (by decide) (fun c17_ => ?_) (fun c17_ => ?_)
                        · skip
                          have cs_ : sw k = false := by
                            cases hb : sw k with
                            | true => exact absurd hb.symm c17_
                            | false => rfl
                          refine kb_iconst (v := (0 : Int32)) X dX6_kinds_133 (by decide) ?_
                          refine kb_istore X [1, 2, 3, 4, 0, 5, 6] dX6_kinds_134 (by decide) (lv' := [(0, .ref (a 0)), (1, .int (nI (ij))), (2, .int (nI (sKb (wh, wo, bl, ck, sw, se) v ij u))), (3, .int (nI (u))), (4, .int 0), (5, .int (nI (k))), (6, .int 1)]) rfl ?_
                          refine kw_lvs [0, 1, 2, 3, 4, 5] (lv' := [(0, .ref (a 0)), (1, .int (nI (ij))), (2, .int (nI (sKb (wh, wo, bl, ck, sw, se) v ij u))), (3, .int (nI (u))), (4, .int 0), (5, .int (nI (k)))]) rfl ?_
                          refine kb_iinc X 5 [1, 2, 3, 4, 5, 0] (v' := nI (k + 1)) dX6_kinds_136 rfl (nI_add _ _) (by decide) (lv' := [(0, .ref (a 0)), (1, .int (nI (ij))), (2, .int (nI (sKb (wh, wo, bl, ck, sw, se) v ij u))), (3, .int (nI (u))), (4, .int 0), (5, .int (nI (k + 1)))]) rfl ?_
                          refine kb_goto (tgt := 25) X dX6_kinds_139 (by decide) ?_
                          exact kw_to (ih2 (k + 1) (by omega)) (by simp [sKb, sKf, sIs, wCome_lk, sWho, sWhose, sBells, sCakes, sSo, zI_t, zI_f, c1_, ePi, c3_, c6_, c7_, c11_, c15_, c16_, cs_]) rfl rfl
                        · skip
                          have cs_ : sw k = true := c17_.symm
                          refine kb_iconst (v := (1 : Int32)) X dX6_kinds_129 (by decide) ?_
                          refine kb_goto (tgt := 134) X dX6_kinds_130 (by decide) ?_
                          refine kb_istore X [1, 2, 3, 4, 0, 5, 6] dX6_kinds_134 (by decide) (lv' := [(0, .ref (a 0)), (1, .int (nI (ij))), (2, .int (nI (sKb (wh, wo, bl, ck, sw, se) v ij u))), (3, .int (nI (u))), (4, .int 1), (5, .int (nI (k))), (6, .int 1)]) rfl ?_
                          refine kw_lvs [0, 1, 2, 3, 4, 5] (lv' := [(0, .ref (a 0)), (1, .int (nI (ij))), (2, .int (nI (sKb (wh, wo, bl, ck, sw, se) v ij u))), (3, .int (nI (u))), (4, .int 1), (5, .int (nI (k)))]) rfl ?_
                          refine kb_iinc X 5 [1, 2, 3, 4, 5, 0] (v' := nI (k + 1)) dX6_kinds_136 rfl (nI_add _ _) (by decide) (lv' := [(0, .ref (a 0)), (1, .int (nI (ij))), (2, .int (nI (sKb (wh, wo, bl, ck, sw, se) v ij u))), (3, .int (nI (u))), (4, .int 1), (5, .int (nI (k + 1)))]) rfl ?_
                          refine kb_goto (tgt := 25) X dX6_kinds_139 (by decide) ?_
                          exact kw_to (ih2 (k + 1) (by omega)) (by simp [sKb, sKf, sIs, wCome_lk, sWho, sWhose, sBells, sCakes, sSo, zI_t, zI_f, c1_, ePi, c3_, c6_, c7_, c11_, c15_, c16_, cs_]) rfl rfl
          exact kw_to (L25 se 0 (by omega)) rfl rfl rfl
    exact kw_to (L14 5 0 rfl) rfl rfl rfl
  · skip
    refine kb_iconst (v := (-1 : Int32)) X dX6_kinds_8 (by decide) ?_
    refine ke_i X Z dX6_kinds_9 ?_
    exact ⟨by simp [oKinds, c1_], RWp.of hR⟩

set_option maxHeartbeats 4000000 in
set_option maxRecDepth 100000 in
theorem ct_X6_allCoins (l : Launch) (g : kw_G) (a : Nat → Nat) (pe : Nat) (so : Nat → Int32) (ag : Nat → Int32) (fr : Int32) (np : Nat) (ns : Nat → Int32) (na : Nat → Int32) (nf : Int32) (sl : Nat → Int32) (ac : Nat) (ke : Nat) (le : Nat) (tx : Nat → Nat) (ap : Nat) (bg : Nat) (wr : Bool) (se : Nat) (wh : Nat → Nat) (wo : Nat → Nat) (bl : Nat → Int32) (ck : Nat → Int32) (sw : Nat → Bool) (ma : Nat) (ro : Nat → Nat) (bs : Nat → Nat) (o : Nat) (v : VS) (ho : o + 82 ≤ 984) (hE : EN sl o v) (hK : KE pe so ag fr v) (hv : VI v) : kMi l g yX6_allCoins cX6_allCoins 4 .int (kw_rm 1 0 0) 0 0 [.ref (a 0), .int (nI (o))] (wR g a pe so ag fr np ns na nf sl ac ke le tx ap bg wr se wh wo bl ck sw ma ro bs) (fun r w => r = wSum (vC v) (vN v) ∧ w = wR g a pe so ag fr np ns na nf sl ac ke le tx ap bg wr se wh wo bl ck sw ma ro bs) := by
  refine kMi_of (by decide +kernel) (Nat.le_of_ble_eq_true rfl) (fun x (X : kX l g RX6 cX6_allCoins 4 (kw_rm 1 0 0) x) (Z : kZi .int _ 0 0 x) => ?_)
  show kW x 0 0 0 [(0, .ref (a 0)), (1, .int (nI (o)))] [] (wR g a pe so ag fr np ns na nf sl ac ke le tx ap bg wr se wh wo bl ck sw ma ro bs)
  have h6 := hv.1
  have hpe := hK.1
  refine kb_iconst (v := (0 : Int32)) X dX6_allCoins_0 (by decide) ?_
  refine kb_istore_n X [1, 2, 0] dX6_allCoins_1 rfl (by decide) (lv' := [(0, .ref (a 0)), (1, .int (nI (o))), (2, .int 0)]) rfl ?_
  refine kb_iconst (v := (0 : Int32)) X dX6_allCoins_2 (by decide) ?_
  refine kb_istore_n X [1, 2, 3, 0] dX6_allCoins_3 rfl (by decide) (lv' := [(0, .ref (a 0)), (1, .int (nI (o))), (2, .int 0), (3, .int 0)]) rfl ?_
  have L4 : ∀ (K_ i : Nat), i + K_ = vN v → kW x 0 0 4 [(0, .ref (a 0)), (1, .int (nI (o))), (2, .int (wSum (vC v) i)), (3, .int (nI (i)))] [] (wR g a pe so ag fr np ns na nf sl ac ke le tx ap bg wr se wh wo bl ck sw ma ro bs) := by
    intro K_
    induction K_ with
    | zero =>
      intro i hi
      refine kb_iload_n X 3 dX6_allCoins_4 rfl rfl ?_
      refine kb_aload_n X 0 dX6_allCoins_5 rfl rfl ?_
      refine kb_get (v := .int (nI (pe))) (C := RX6) (T := TX6) (N := 25) (ci := 6) X kw_iX6 rfl 0 0 rfl (by decide) kf_X6_65 rfl rfl dX6_allCoins_6 ?_
      refine kn_icmp_ge (a := i) (b := pe) (tgt := 29) X (by omega) (by omega) dX6_allCoins_9 (by decide) (fun c1_ => ?_) (fun c1_ => ?_)
      · skip
        refine kb_iload_n X 2 dX6_allCoins_29 rfl rfl ?_
        refine ke_i X Z dX6_allCoins_30 ?_
        exact ⟨by rw [show vN v = i by omega], rfl⟩
      · skip
        omega
    | succ K_ ih =>
      intro i hi
      refine kb_iload_n X 3 dX6_allCoins_4 rfl rfl ?_
      refine kb_aload_n X 0 dX6_allCoins_5 rfl rfl ?_
      refine kb_get (v := .int (nI (pe))) (C := RX6) (T := TX6) (N := 25) (ci := 6) X kw_iX6 rfl 0 0 rfl (by decide) kf_X6_65 rfl rfl dX6_allCoins_6 ?_
      refine kn_icmp_ge (a := i) (b := pe) (tgt := 29) X (by omega) (by omega) dX6_allCoins_9 (by decide) (fun c2_ => ?_) (fun c2_ => ?_)
      · skip
        omega
      · skip
        refine kb_iload_n X 2 dX6_allCoins_12 rfl rfl ?_
        refine kb_aload_n X 0 dX6_allCoins_13 rfl rfl ?_
        refine kb_get (v := .ref (a 5)) (C := RX6) (T := TX6) (N := 25) (ci := 6) X kw_iX6 rfl 0 8 rfl (by decide) kf_X6_22 rfl rfl dX6_allCoins_14 ?_
        refine kb_iload_n X 1 dX6_allCoins_17 rfl rfl ?_
        refine kb_iload_n X 3 dX6_allCoins_18 rfl rfl ?_
        refine kn_iadd X o i dX6_allCoins_19 ?_
        refine kb_iald (i := o + i) X 5 rfl (by omega) (by decide) dX6_allCoins_20 ?_
        refine kw_top (b := .int (vC v i)) (congrArg Value.int (hE.c (p := i) (by omega) (by omega))) ?_
        refine kb_iadd X dX6_allCoins_21 ?_
        refine kb_istore_n X [1, 2, 0, 3] dX6_allCoins_22 rfl (by decide) (lv' := [(0, .ref (a 0)), (1, .int (nI (o))), (2, .int ((wSum (vC v) i) + (vC v i))), (3, .int (nI (i)))]) rfl ?_
        refine kb_iinc X 3 [1, 2, 3, 0] (v' := nI (i + 1)) dX6_allCoins_23 rfl (nI_add _ _) (by decide) (lv' := [(0, .ref (a 0)), (1, .int (nI (o))), (2, .int ((wSum (vC v) i) + (vC v i))), (3, .int (nI (i + 1)))]) rfl ?_
        refine kb_goto (tgt := 4) X dX6_allCoins_26 (by decide) ?_
        exact kw_to (ih (i + 1) (by omega)) rfl rfl rfl
  exact kw_to (L4 (vN v) 0 (by omega)) rfl rfl rfl

set_option maxHeartbeats 4000000 in
set_option maxRecDepth 100000 in
theorem ct_X6_allOwed (l : Launch) (g : kw_G) (a : Nat → Nat) (pe : Nat) (so : Nat → Int32) (ag : Nat → Int32) (fr : Int32) (np : Nat) (ns : Nat → Int32) (na : Nat → Int32) (nf : Int32) (sl : Nat → Int32) (ac : Nat) (ke : Nat) (le : Nat) (tx : Nat → Nat) (ap : Nat) (bg : Nat) (wr : Bool) (se : Nat) (wh : Nat → Nat) (wo : Nat → Nat) (bl : Nat → Int32) (ck : Nat → Int32) (sw : Nat → Bool) (ma : Nat) (ro : Nat → Nat) (bs : Nat → Nat) (v : VS) (hE : EN sl 0 v) : kMi l g yX6_allOwed cX6_allOwed 3 .int (kw_rm 1 0 0) 0 0 [.ref (a 0)] (wR g a pe so ag fr np ns na nf sl ac ke le tx ap bg wr se wh wo bl ck sw ma ro bs) (fun r w => r = wSum (vD v) 36 ∧ w = wR g a pe so ag fr np ns na nf sl ac ke le tx ap bg wr se wh wo bl ck sw ma ro bs) := by
  refine kMi_of (by decide +kernel) (Nat.le_of_ble_eq_true rfl) (fun x (X : kX l g RX6 cX6_allOwed 3 (kw_rm 1 0 0) x) (Z : kZi .int _ 0 0 x) => ?_)
  show kW x 0 0 0 [(0, .ref (a 0))] [] (wR g a pe so ag fr np ns na nf sl ac ke le tx ap bg wr se wh wo bl ck sw ma ro bs)
  refine kb_iconst (v := (0 : Int32)) X dX6_allOwed_0 (by decide) ?_
  refine kb_istore_n X [1, 0] dX6_allOwed_1 rfl (by decide) (lv' := [(0, .ref (a 0)), (1, .int 0)]) rfl ?_
  refine kb_iconst (v := (0 : Int32)) X dX6_allOwed_2 (by decide) ?_
  refine kb_istore_n X [1, 2, 0] dX6_allOwed_3 rfl (by decide) (lv' := [(0, .ref (a 0)), (1, .int 0), (2, .int 0)]) rfl ?_
  have L4 : ∀ (K_ i : Nat), i + K_ = 36 → kW x 0 0 4 [(0, .ref (a 0)), (1, .int (wSum (vD v) i)), (2, .int (nI (i)))] [] (wR g a pe so ag fr np ns na nf sl ac ke le tx ap bg wr se wh wo bl ck sw ma ro bs) := by
    intro K_
    induction K_ with
    | zero =>
      intro i hi
      refine kb_iload_n X 2 dX6_allOwed_4 rfl rfl ?_
      refine kb_bipush (v := (36 : Int32)) X dX6_allOwed_5 (by decide) ?_
      refine kn_icmp_ge (a := i) (b := 36) (tgt := 28) X (by omega) (by omega) dX6_allOwed_7 (by decide) (fun c1_ => ?_) (fun c1_ => ?_)
      · skip
        refine kb_iload_n X 1 dX6_allOwed_28 rfl rfl ?_
        refine ke_i X Z dX6_allOwed_29 ?_
        exact ⟨by rw [show i = 36 by omega], rfl⟩
      · skip
        omega
    | succ K_ ih =>
      intro i hi
      refine kb_iload_n X 2 dX6_allOwed_4 rfl rfl ?_
      refine kb_bipush (v := (36 : Int32)) X dX6_allOwed_5 (by decide) ?_
      refine kn_icmp_ge (a := i) (b := 36) (tgt := 28) X (by omega) (by omega) dX6_allOwed_7 (by decide) (fun c2_ => ?_) (fun c2_ => ?_)
      · skip
        omega
      · skip
        refine kb_iload_n X 1 dX6_allOwed_10 rfl rfl ?_
        refine kb_aload_n X 0 dX6_allOwed_11 rfl rfl ?_
        refine kb_get (v := .ref (a 5)) (C := RX6) (T := TX6) (N := 25) (ci := 6) X kw_iX6 rfl 0 8 rfl (by decide) kf_X6_22 rfl rfl dX6_allOwed_12 ?_
        refine kb_bipush (v := (46 : Int32)) X dX6_allOwed_15 (by decide) ?_
        refine kb_iload_n X 2 dX6_allOwed_17 rfl rfl ?_
        refine kn_iadd X 46 i dX6_allOwed_18 ?_
        refine kb_iald (i := 46 + i) X 5 rfl (by omega) (by decide) dX6_allOwed_19 ?_
        refine kw_top (b := .int (vD v i)) (by rw [hE.d1 (k := i) (by omega) (by omega)]) ?_
        refine kb_iadd X dX6_allOwed_20 ?_
        refine kb_istore_n X [1, 0, 2] dX6_allOwed_21 rfl (by decide) (lv' := [(0, .ref (a 0)), (1, .int ((wSum (vD v) i) + (vD v i))), (2, .int (nI (i)))]) rfl ?_
        refine kb_iinc X 2 [1, 2, 0] (v' := nI (i + 1)) dX6_allOwed_22 rfl (nI_add _ _) (by decide) (lv' := [(0, .ref (a 0)), (1, .int ((wSum (vD v) i) + (vD v i))), (2, .int (nI (i + 1)))]) rfl ?_
        refine kb_goto (tgt := 4) X dX6_allOwed_25 (by decide) ?_
        exact kw_to (ih (i + 1) (by omega)) rfl rfl rfl
  exact kw_to (L4 36 0 (by omega)) rfl rfl rfl

set_option maxHeartbeats 4000000 in
set_option maxRecDepth 100000 in
theorem ct_X6_count (l : Launch) (g : kw_G) (a : Nat → Nat) (so : Nat → Int32) (ag : Nat → Int32) (np : Nat) (ns : Nat → Int32) (na : Nat → Int32) (nf : Int32) (sl : Nat → Int32) (ac : Nat) (ke : Nat) (le : Nat) (tx : Nat → Nat) (ap : Nat) (bg : Nat) (wr : Bool) (se : Nat) (wh : Nat → Nat) (wo : Nat → Nat) (bl : Nat → Int32) (ck : Nat → Int32) (sw : Nat → Bool) (ma : Nat) (ro : Nat → Nat) (bs : Nat → Nat) (v : VS) (us ks : List VS) (tf : Nat → Nat) (tn : Nat) (s : SS) (hR : RI (vN v) so ag (vG v) sl ac ke le tx se wh wo bl ck sw v us ks tf tn s) (m : Int32) : kMi l g yX6_count cX6_count 2 .int (kw_rm 2 0 0) 0 0 [.ref (a 0), .int (m)] (wR g a (vN v) so ag (vG v) np ns na nf sl ac ke le tx ap bg wr se wh wo bl ck sw ma ro bs) (fun r w => r = oCount v us ks tn s m ∧ RWp g a v us ks tf tn s w) := by
  refine kMi_of (by decide +kernel) (Nat.le_of_ble_eq_true rfl) (fun x (X : kX l g RX6 cX6_count 2 (kw_rm 2 0 0) x) (Z : kZi .int _ 0 0 x) => ?_)
  show kW x 0 0 0 [(0, .ref (a 0)), (1, .int (m))] [] (wR g a (vN v) so ag (vG v) np ns na nf sl ac ke le tx ap bg wr se wh wo bl ck sw ma ro bs)
  have hE := hR.1
  have hG := hR.2.1
  have hK := hR.2.1.1
  have hv := hR.2.1.2.1
  have hT := hR.2.1.2.2.1
  have hN0 := hR.2.1.2.2.2
  have h6 := hv.1
  have hx64 := hv.2.1
  have hh64 := hv.2.2
  obtain ⟨es, hse, hss⟩ := hR.2.2.2.2.2
  subst es
  have hsz : sSize (wh, wo, bl, ck, sw, se) = se := rfl
  have hac := hR.2.2.1.2.1
  have hal := hR.2.2.1.1
  have hke := hR.2.2.2.1.2.1
  have hkl := hR.2.2.2.1.1
  have htn := hR.2.2.2.2.1.1
  refine kb_iload_n X 1 dX6_count_0 rfl rfl ?_
  refine kb_if_ne (tgt := 11) X dX6_count_1 (by decide) (fun c1_ => ?_) (fun c1_ => ?_)
  · skip
    refine kb_iload_n X 1 dX6_count_11 rfl rfl ?_
    refine kb_iconst (v := (1 : Int32)) X dX6_count_12 (by decide) ?_
    refine kb_icmp_ne (tgt := 34) X dX6_count_13 (by decide) (fun c2_ => ?_) (fun c2_ => ?_)
    · skip
      refine kb_iload_n X 1 dX6_count_34 rfl rfl ?_
      refine kb_iconst (v := (2 : Int32)) X dX6_count_35 (by decide) ?_
      refine kb_icmp_ne (tgt := 52) X dX6_count_36 (by decide) (fun c3_ => ?_) (fun c3_ => ?_)
      · skip
        refine kb_iload_n X 1 dX6_count_52 rfl rfl ?_
        refine kb_iconst (v := (3 : Int32)) X dX6_count_53 (by decide) ?_
        refine kb_icmp_ne (tgt := 67) X dX6_count_54 (by decide) (fun c4_ => ?_) (fun c4_ => ?_)
        · skip
          refine kb_iload_n X 1 dX6_count_67 rfl rfl ?_
          refine kb_iconst (v := (4 : Int32)) X dX6_count_68 (by decide) ?_
          refine kb_icmp_ne (tgt := 82) X dX6_count_69 (by decide) (fun c5_ => ?_) (fun c5_ => ?_)
          · skip
            refine kb_iload_n X 1 dX6_count_82 rfl rfl ?_
            refine kb_iconst (v := (5 : Int32)) X dX6_count_83 (by decide) ?_
            refine kb_icmp_ne (tgt := 95) X dX6_count_84 (by decide) (fun c6_ => ?_) (fun c6_ => ?_)
            · skip
              refine kb_iload_n X 1 dX6_count_95 rfl rfl ?_
              refine kb_bipush (v := (6 : Int32)) X dX6_count_96 (by decide) ?_
              refine kb_icmp_ne (tgt := 108) X dX6_count_98 (by decide) (fun c7_ => ?_) (fun c7_ => ?_)
              · skip
                refine kb_iload_n X 1 dX6_count_108 rfl rfl ?_
                refine kb_bipush (v := (7 : Int32)) X dX6_count_109 (by decide) ?_
                refine kb_icmp_ne (tgt := 121) X dX6_count_111 (by decide) (fun c8_ => ?_) (fun c8_ => ?_)
                · skip
                  refine kb_iload_n X 1 dX6_count_121 rfl rfl ?_
                  refine kb_bipush (v := (8 : Int32)) X dX6_count_122 (by decide) ?_
                  refine kb_icmp_ne (tgt := 134) X dX6_count_124 (by decide) (fun c9_ => ?_) (fun c9_ => ?_)
                  · skip
                    refine kb_iload_n X 1 dX6_count_134 rfl rfl ?_
                    refine kb_bipush (v := (9 : Int32)) X dX6_count_135 (by decide) ?_
                    refine kb_icmp_ne (tgt := 147) X dX6_count_137 (by decide) (fun c10_ => ?_) (fun c10_ => ?_)
                    · skip
                      refine kb_iload_n X 1 dX6_count_147 rfl rfl ?_
                      refine kb_bipush (v := (10 : Int32)) X dX6_count_148 (by decide) ?_
                      refine kb_icmp_ne (tgt := 160) X dX6_count_150 (by decide) (fun c11_ => ?_) (fun c11_ => ?_)
                      · skip
                        refine kb_iconst (v := (-1 : Int32)) X dX6_count_160 (by decide) ?_
                        refine ke_i X Z dX6_count_161 ?_
                        exact ⟨by simp [oCount, hal, hkl, htn, hsz, c1_, c2_, c3_, c4_, c5_, c6_, c7_, c8_, c9_, c10_, c11_], RWp.of hR⟩
                      · skip
                        refine kb_aload_n X 0 dX6_count_153 rfl rfl ?_
                        refine kb_get (v := .int (nI (le))) (C := RX6) (T := TX6) (N := 25) (ci := 6) X kw_iX6 rfl 0 11 rfl (by decide) kf_X6_83 rfl rfl dX6_count_154 ?_
                        refine kb_goto (tgt := 161) X dX6_count_157 (by decide) ?_
                        refine ke_i X Z dX6_count_161 ?_
                        exact ⟨by simp [oCount, hal, hkl, htn, hsz, c1_, c2_, c3_, c4_, c5_, c6_, c7_, c8_, c9_, c10_, c11_], RWp.of hR⟩
                    · skip
                      refine kb_aload_n X 0 dX6_count_140 rfl rfl ?_
                      refine kb_get (v := .int (nI (ke))) (C := RX6) (T := TX6) (N := 25) (ci := 6) X kw_iX6 rfl 0 10 rfl (by decide) kf_X6_126 rfl rfl dX6_count_141 ?_
                      refine kb_goto (tgt := 161) X dX6_count_144 (by decide) ?_
                      refine ke_i X Z dX6_count_161 ?_
                      exact ⟨by simp [oCount, hal, hkl, htn, hsz, c1_, c2_, c3_, c4_, c5_, c6_, c7_, c8_, c9_, c10_], RWp.of hR⟩
                  · skip
                    refine kb_aload_n X 0 dX6_count_127 rfl rfl ?_
                    refine kb_get (v := .int (nI (ac))) (C := RX6) (T := TX6) (N := 25) (ci := 6) X kw_iX6 rfl 0 9 rfl (by decide) kf_X6_123 rfl rfl dX6_count_128 ?_
                    refine kb_goto (tgt := 161) X dX6_count_131 (by decide) ?_
                    refine ke_i X Z dX6_count_161 ?_
                    exact ⟨by simp [oCount, hal, hkl, htn, hsz, c1_, c2_, c3_, c4_, c5_, c6_, c7_, c8_, c9_], RWp.of hR⟩
                · skip
                  refine kb_aload_n X 0 dX6_count_114 rfl rfl ?_
                  refine kb_get (v := .int (nI (se))) (C := RX6) (T := TX6) (N := 25) (ci := 6) X kw_iX6 rfl 0 16 rfl (by decide) kf_X6_129 rfl rfl dX6_count_115 ?_
                  refine kb_goto (tgt := 161) X dX6_count_118 (by decide) ?_
                  refine ke_i X Z dX6_count_161 ?_
                  exact ⟨by simp [oCount, hal, hkl, htn, hsz, c1_, c2_, c3_, c4_, c5_, c6_, c7_, c8_], RWp.of hR⟩
              · skip
                refine kb_aload_n X 0 dX6_count_101 rfl rfl ?_
                refine kc_Vi X (As := []) (rest := []) (wr := []) (ct_X6_allOwed l g a (vN v) so ag (vG v) np ns na nf sl ac ke le tx ap bg wr se wh wo bl ck sw ma ro bs v hE) dX6_count_102 rfl (kw_pall _) mc_X6_allOwed kl_X6_249 mi_X6_allOwed mv_X6_allOwed kn_X6 0 rfl rfl rfl (na := 0) (by decide +kernel) rfl ⟨Nat.le_of_ble_eq_true rfl, Nat.le_of_ble_eq_true rfl⟩ ⟨rfl, rfl⟩ ⟨Nat.le_of_ble_eq_true rfl, Nat.le_of_ble_eq_true rfl⟩ (Nat.le_of_ble_eq_true rfl) (fun r_ w_ hp_ => ?_)
                obtain ⟨rfl, rfl⟩ := hp_
                refine kw_ws (List.append_nil _) ?_
                refine kb_goto (tgt := 161) X dX6_count_105 (by decide) ?_
                refine ke_i X Z dX6_count_161 ?_
                exact ⟨by simp [oCount, hal, hkl, htn, hsz, c1_, c2_, c3_, c4_, c5_, c6_, c7_], RWp.of hR⟩
            · skip
              refine kb_aload_n X 0 dX6_count_87 rfl rfl ?_
              refine kb_iconst (v := (0 : Int32)) X dX6_count_88 (by decide) ?_
              refine kc_Vi X (As := [.int 0]) (rest := []) (wr := []) (ct_X6_allCoins l g a (vN v) so ag (vG v) np ns na nf sl ac ke le tx ap bg wr se wh wo bl ck sw ma ro bs 0 v (by omega) hE hK hv  ) dX6_count_89 rfl (kw_pall _) mc_X6_allCoins kl_X6_246 mi_X6_allCoins mv_X6_allCoins kn_X6 0 rfl rfl rfl (na := 1) (by decide +kernel) rfl ⟨Nat.le_of_ble_eq_true rfl, Nat.le_of_ble_eq_true rfl⟩ ⟨rfl, rfl⟩ ⟨Nat.le_of_ble_eq_true rfl, Nat.le_of_ble_eq_true rfl⟩ (Nat.le_of_ble_eq_true rfl) (fun r_ w_ hp_ => ?_)
              obtain ⟨rfl, rfl⟩ := hp_
              refine kw_ws (List.append_nil _) ?_
              refine kb_goto (tgt := 161) X dX6_count_92 (by decide) ?_
              refine ke_i X Z dX6_count_161 ?_
              exact ⟨by simp [oCount, hal, hkl, htn, hsz, c1_, c2_, c3_, c4_, c5_, c6_], RWp.of hR⟩
          · skip
            refine kb_aload_n X 0 dX6_count_72 rfl rfl ?_
            refine kb_get (v := .ref (a 5)) (C := RX6) (T := TX6) (N := 25) (ci := 6) X kw_iX6 rfl 0 8 rfl (by decide) kf_X6_22 rfl rfl dX6_count_73 ?_
            refine kb_bipush (v := (9 : Int32)) X dX6_count_76 (by decide) ?_
            refine kb_iald (i := 9) X 5 rfl (by omega) (by decide) dX6_count_78 ?_
            refine kw_top (b := .int (vZ v)) (congrArg Value.int (hE.z (by omega))) ?_
            refine kb_goto (tgt := 161) X dX6_count_79 (by decide) ?_
            refine ke_i X Z dX6_count_161 ?_
            exact ⟨by simp [oCount, hal, hkl, htn, hsz, c1_, c2_, c3_, c4_, c5_], RWp.of hR⟩
        · skip
          refine kb_aload_n X 0 dX6_count_57 rfl rfl ?_
          refine kb_get (v := .ref (a 5)) (C := RX6) (T := TX6) (N := 25) (ci := 6) X kw_iX6 rfl 0 8 rfl (by decide) kf_X6_22 rfl rfl dX6_count_58 ?_
          refine kb_bipush (v := (8 : Int32)) X dX6_count_61 (by decide) ?_
          refine kb_iald (i := 8) X 5 rfl (by omega) (by decide) dX6_count_63 ?_
          refine kw_top (b := .int (vY v)) (congrArg Value.int (hE.y (by omega))) ?_
          refine kb_goto (tgt := 161) X dX6_count_64 (by decide) ?_
          refine ke_i X Z dX6_count_161 ?_
          exact ⟨by simp [oCount, hal, hkl, htn, hsz, c1_, c2_, c3_, c4_], RWp.of hR⟩
      · skip
        refine kb_aload_n X 0 dX6_count_39 rfl rfl ?_
        refine kb_get (v := .ref (a 5)) (C := RX6) (T := TX6) (N := 25) (ci := 6) X kw_iX6 rfl 0 8 rfl (by decide) kf_X6_22 rfl rfl dX6_count_40 ?_
        refine kb_bipush (v := (7 : Int32)) X dX6_count_43 (by decide) ?_
        refine kb_iald (i := 7) X 5 rfl (by omega) (by decide) dX6_count_45 ?_
        refine kw_top (b := .int (nI (vH v))) (congrArg Value.int (hE.h (by omega))) ?_
        refine kc_Si X (As := [.int (nI (vH v))]) (rest := []) (wr := (wR g a (vN v) so ag (vG v) np ns na nf sl ac ke le tx ap bg wr se wh wo bl ck sw ma ro bs)) (ct_X6_bits l g (vH v) (by omega)) dX6_count_46 rfl (List.Perm.refl _) mc_X6_bits kl_X6_209 ms_X6_bits kn_X6 (na := 1) (by decide +kernel) rfl ⟨Nat.le_of_ble_eq_true rfl, Nat.le_of_ble_eq_true rfl⟩ ⟨rfl, rfl⟩ ⟨Nat.le_of_ble_eq_true rfl, Nat.le_of_ble_eq_true rfl⟩ (Nat.le_of_ble_eq_true rfl) (fun r_ w_ hp_ => ?_)
        obtain ⟨rfl, rfl⟩ := hp_
        refine kw_ws (List.nil_append _) ?_
        refine kb_goto (tgt := 161) X dX6_count_49 (by decide) ?_
        refine ke_i X Z dX6_count_161 ?_
        exact ⟨by simp [oCount, hal, hkl, htn, hsz, c1_, c2_, c3_], RWp.of hR⟩
    · skip
      refine kb_aload_n X 0 dX6_count_16 rfl rfl ?_
      refine kb_get (v := .int (nI ((vN v)))) (C := RX6) (T := TX6) (N := 25) (ci := 6) X kw_iX6 rfl 0 0 rfl (by decide) kf_X6_65 rfl rfl dX6_count_17 ?_
      refine kb_aload_n X 0 dX6_count_20 rfl rfl ?_
      refine kb_get (v := .ref (a 5)) (C := RX6) (T := TX6) (N := 25) (ci := 6) X kw_iX6 rfl 0 8 rfl (by decide) kf_X6_22 rfl rfl dX6_count_21 ?_
      refine kb_bipush (v := (6 : Int32)) X dX6_count_24 (by decide) ?_
      refine kb_iald (i := 6) X 5 rfl (by omega) (by decide) dX6_count_26 ?_
      refine kw_top (b := .int (nI (vX v))) (congrArg Value.int (hE.x (by omega))) ?_
      refine kc_Si X (As := [.int (nI (vX v))]) (rest := [.int (nI ((vN v)))]) (wr := (wR g a (vN v) so ag (vG v) np ns na nf sl ac ke le tx ap bg wr se wh wo bl ck sw ma ro bs)) (ct_X6_bits l g (vX v) (by omega)) dX6_count_27 rfl (List.Perm.refl _) mc_X6_bits kl_X6_209 ms_X6_bits kn_X6 (na := 1) (by decide +kernel) rfl ⟨Nat.le_of_ble_eq_true rfl, Nat.le_of_ble_eq_true rfl⟩ ⟨rfl, rfl⟩ ⟨Nat.le_of_ble_eq_true rfl, Nat.le_of_ble_eq_true rfl⟩ (Nat.le_of_ble_eq_true rfl) (fun r_ w_ hp_ => ?_)
      obtain ⟨rfl, rfl⟩ := hp_
      refine kw_ws (List.nil_append _) ?_
      refine kb_isub X dX6_count_30 ?_
      refine kb_goto (tgt := 161) X dX6_count_31 (by decide) ?_
      refine ke_i X Z dX6_count_161 ?_
      exact ⟨by simp [oCount, hal, hkl, htn, hsz, c1_, c2_], RWp.of hR⟩
  · skip
    refine kb_aload_n X 0 dX6_count_4 rfl rfl ?_
    refine kb_get (v := .int (nI ((vN v)))) (C := RX6) (T := TX6) (N := 25) (ci := 6) X kw_iX6 rfl 0 0 rfl (by decide) kf_X6_65 rfl rfl dX6_count_5 ?_
    refine kb_goto (tgt := 161) X dX6_count_8 (by decide) ?_
    refine ke_i X Z dX6_count_161 ?_
    exact ⟨by simp [oCount, hal, hkl, htn, hsz, c1_], RWp.of hR⟩

