set_option maxHeartbeats 4000000 in
set_option maxRecDepth 100000 in
theorem ct_X6_reads (l : Launch) (g : kw_G) (a : Nat → Nat) (pe : Nat) (so : Nat → Int32) (ag : Nat → Int32) (fr : Int32) (np : Nat) (ns : Nat → Int32) (na : Nat → Int32) (nf : Int32) (sl : Nat → Int32) (ac : Nat) (ke : Nat) (le : Nat) (tx : Nat → Nat) (ap : Nat) (bg : Nat) (wr : Bool) (se : Nat) (wh : Nat → Nat) (wo : Nat → Nat) (bl : Nat → Int32) (ck : Nat → Int32) (sw : Nat → Bool) (ma : Nat) (ro : Nat → Nat) (bs : Nat → Nat) (hle : le ≤ 200) (htx : ∀ k, k < le → tx k < 128) : kMi l g yX6_reads cX6_reads 2 .boolean (kw_rm 5 0 0) 0 0 [.ref (a 0)] (wR g a pe so ag fr np ns na nf sl ac ke le tx ap bg wr se wh wo bl ck sw ma ro bs) (fun r w => r = zI (decide ((mrd tx le 200 0 vE).1 = -4)) ∧ ∃ np' ns' na' nf' sl' ap' bg' wr', FR sl sl' 902 ∧ ((mrd tx le 200 0 vE).1 = -4 → EN sl' 902 (mrd tx le 200 0 vE).2 ∧ np' = vN (mrd tx le 200 0 vE).2 ∧ nf' = vG (mrd tx le 200 0 vE).2 ∧ KE (vN (mrd tx le 200 0 vE).2) ns' na' (vG (mrd tx le 200 0 vE).2) (mrd tx le 200 0 vE).2) ∧ ((mrd tx le 200 0 vE).1 ≠ -4 → (mrd tx le 200 0 vE).1 = nI bg') ∧ w = wR g a pe so ag fr np' ns' na' nf' sl' ac ke le tx ap' bg' wr' se wh wo bl ck sw ma ro bs) := by
  refine kMi_of (by decide +kernel) (Nat.le_of_ble_eq_true rfl) (fun x (X : kX l g RX6 cX6_reads 2 (kw_rm 5 0 0) x) (Z : kZi .boolean _ 0 0 x) => ?_)
  show kW x 0 0 0 [(0, .ref (a 0))] [] (wR g a pe so ag fr np ns na nf sl ac ke le tx ap bg wr se wh wo bl ck sw ma ro bs)
  refine kb_aload_n X 0 dX6_reads_0 rfl rfl ?_
  refine kb_iconst (v := (0 : Int32)) X dX6_reads_1 (by decide) ?_
  refine kb_put X (C := RX6) (T := TX6) (N := 25) (ci := 6) (ty := .int) kw_iX6 tyX6 tyX6_ok nmX6 rfl 0 4 rfl (by decide) kf_X6_62 rfl rfl (by decide +kernel) rfl rfl (Nat.le_of_ble_eq_true rfl) dX6_reads_2 (ws' := wR g a pe so ag fr 0 ns na nf sl ac ke le tx ap bg wr se wh wo bl ck sw ma ro bs) rfl ?_
  refine kb_aload_n X 0 dX6_reads_5 rfl rfl ?_
  refine kb_bipush (v := (50 : Int32)) X dX6_reads_6 (by decide) ?_
  refine kb_put X (C := RX6) (T := TX6) (N := 25) (ci := 6) (ty := .int) kw_iX6 tyX6 tyX6_ok nmX6 rfl 0 7 rfl (by decide) kf_X6_55 rfl rfl (by decide +kernel) rfl rfl (Nat.le_of_ble_eq_true rfl) dX6_reads_8 (ws' := wR g a pe so ag fr 0 ns na (50 : Int32) sl ac ke le tx ap bg wr se wh wo bl ck sw ma ro bs) rfl ?_
  refine kb_iconst (v := (0 : Int32)) X dX6_reads_11 (by decide) ?_
  refine kb_istore_n X [1, 0] dX6_reads_12 rfl (by decide) (lv' := [(0, .ref (a 0)), (1, .int 0)]) rfl ?_
  have L13 : ∀ (K_ i : Nat) (y : Nat → Int32), i + K_ = 82 ∧ (∀ k, k < i → y (902 + k) = 0) ∧ FR sl y 902 → kW x 0 0 13 [(0, .ref (a 0)), (1, .int (nI (i)))] [] (wR g a pe so ag fr 0 ns na (50 : Int32) y ac ke le tx ap bg wr se wh wo bl ck sw ma ro bs) := by
    intro K_
    induction K_ with
    | zero =>
      intro i y hh
      obtain ⟨hi, hy, hFy⟩ := id hh
      refine kb_iload_n X 1 dX6_reads_13 rfl rfl ?_
      refine kb_bipush (v := (82 : Int32)) X dX6_reads_14 (by decide) ?_
      refine kn_icmp_ge (a := i) (b := 82) (tgt := 36) X (by omega) (by omega) dX6_reads_16 (by decide) (fun c1_ => ?_) (fun c1_ => ?_)
      · skip
        refine kb_aload_n X 0 dX6_reads_36 rfl rfl ?_
        refine kb_iconst (v := (0 : Int32)) X dX6_reads_37 (by decide) ?_
        refine kb_put X (C := RX6) (T := TX6) (N := 25) (ci := 6) (ty := .int) kw_iX6 tyX6 tyX6_ok nmX6 rfl 0 13 rfl (by decide) kf_X6_86 rfl rfl (by decide +kernel) rfl rfl (Nat.le_of_ble_eq_true rfl) dX6_reads_38 (ws' := wR g a pe so ag fr 0 ns na (50 : Int32) y ac ke le tx 0 bg wr se wh wo bl ck sw ma ro bs) rfl ?_
        refine kw_lvs [0] (lv' := [(0, .ref (a 0))]) rfl ?_
        refine kb_aload_n X 0 dX6_reads_41 rfl rfl ?_
        refine kb_iconst (v := (0 : Int32)) X dX6_reads_42 (by decide) ?_
        refine kb_put X (C := RX6) (T := TX6) (N := 25) (ci := 6) (ty := .boolean) kw_iX6 tyX6 tyX6_ok nmX6 rfl 0 15 rfl (by decide) kf_X6_97 rfl rfl (by decide +kernel) rfl rfl (Nat.le_of_ble_eq_true rfl) dX6_reads_43 (ws' := wR g a pe so ag fr 0 ns na (50 : Int32) y ac ke le tx 0 bg false se wh wo bl ck sw ma ro bs) rfl ?_
        have L46 : ∀ (K_ : Nat) (u : VS) (np1 : Nat) (ns1 na1 : Nat → Int32) (nf1 : Int32) (z : Nat → Int32) (ap1 bg1 : Nat) (wr1 : Bool), FR sl z 902 ∧ ap1 ≤ 400 ∧ (wr1 = false → np1 = vN u ∧ nf1 = vG u ∧ EN z 902 u ∧ KE (vN u) ns1 na1 (vG u) u ∧ VI u ∧ mrd tx le 200 0 vE = mrd tx le K_ ap1 u ∧ 200 ≤ ap1 + K_) ∧ (wr1 = true → (mrd tx le 200 0 vE).1 = nI bg1 ∧ bg1 < 200) → kW x 0 0 46 [(0, .ref (a 0))] [] (wR g a pe so ag fr np1 ns1 na1 nf1 z ac ke le tx ap1 bg1 wr1 se wh wo bl ck sw ma ro bs) := by
          intro K_
          induction K_ with
          | zero =>
            intro u np1 ns1 na1 nf1 z ap1 bg1 wr1 hh
            obtain ⟨hFz, hap1, hA, hB⟩ := id hh
            refine kb_aload_n X 0 dX6_reads_46 rfl rfl ?_
            refine kb_get (v := .int (nI (ap1))) (C := RX6) (T := TX6) (N := 25) (ci := 6) X kw_iX6 rfl 0 13 rfl (by decide) kf_X6_86 rfl rfl dX6_reads_47 ?_
            refine kb_aload_n X 0 dX6_reads_50 rfl rfl ?_
            refine kb_get (v := .int (nI (le))) (C := RX6) (T := TX6) (N := 25) (ci := 6) X kw_iX6 rfl 0 11 rfl (by decide) kf_X6_83 rfl rfl dX6_reads_51 ?_
            refine kn_icmp_ge (a := ap1) (b := le) (tgt := 130) X (by omega) (by omega) dX6_reads_54 (by decide) (fun c2_ => ?_) (fun c2_ => ?_)
            · skip
              refine kb_aload_n X 0 dX6_reads_130 rfl rfl ?_
              refine kb_get (v := .int (zI (wr1))) (C := RX6) (T := TX6) (N := 25) (ci := 6) X kw_iX6 rfl 0 15 rfl (by decide) kf_X6_97 rfl rfl dX6_reads_131 ?_
              refine kz_if_ne (b := wr1) (tgt := 141) X dX6_reads_134 (by decide) (fun c3_ => ?_) (fun c3_ => ?_)
              · skip
                refine kb_iconst (v := (0 : Int32)) X dX6_reads_141 (by decide) ?_
                refine ke_z X Z rfl dX6_reads_142 ?_
                have hB_ := hB c3_
                exact ⟨by rw [decide_eq_false (show ¬ (mrd tx le 200 0 vE).1 = -4 by rw [hB_.1]; exact ne4 _ hB_.2)] <;> rfl, np1, ns1, na1, nf1, z, ap1, bg1, wr1, hFz, (fun h => absurd h (by rw [hB_.1]; exact ne4 _ hB_.2)), (fun _ => hB_.1), rfl⟩
              · skip
                refine kb_iconst (v := (1 : Int32)) X dX6_reads_137 (by decide) ?_
                refine kb_goto (tgt := 142) X dX6_reads_138 (by decide) ?_
                refine ke_z X Z rfl dX6_reads_142 ?_
                first
                | exact absurd hw_ (by rw [c3_]; decide)
                | (have hA_ := hA c3_
                   have e_ : mrd tx le 200 0 vE = (-4, u) := hA_.2.2.2.2.2.1.trans (mrd_end (by omega))
                   rw [e_]
                   exact ⟨rfl, np1, ns1, na1, nf1, z, ap1, bg1, wr1, hFz, (fun _ => ⟨hA_.2.2.1, hA_.1, hA_.2.1, hA_.2.2.2.1⟩), (fun h => absurd rfl h), rfl⟩)
            · skip
              have hlt_ : ap1 < le := by omega
              refine kb_aload_n X 0 dX6_reads_57 rfl rfl ?_
              refine kb_get (v := .int (zI (wr1))) (C := RX6) (T := TX6) (N := 25) (ci := 6) X kw_iX6 rfl 0 15 rfl (by decide) kf_X6_97 rfl rfl dX6_reads_58 ?_
              refine kz_if_ne (b := wr1) (tgt := 130) X dX6_reads_61 (by decide) (fun c4_ => ?_) (fun c4_ => ?_)
              · skip
                have hw_ := c4_
                refine kb_aload_n X 0 dX6_reads_130 rfl rfl ?_
                refine kb_get (v := .int (zI (wr1))) (C := RX6) (T := TX6) (N := 25) (ci := 6) X kw_iX6 rfl 0 15 rfl (by decide) kf_X6_97 rfl rfl dX6_reads_131 ?_
                refine kz_if_ne (b := wr1) (tgt := 141) X dX6_reads_134 (by decide) (fun c5_ => ?_) (fun c5_ => ?_)
                · skip
                  refine kb_iconst (v := (0 : Int32)) X dX6_reads_141 (by decide) ?_
                  refine ke_z X Z rfl dX6_reads_142 ?_
                  have hB_ := hB c5_
                  exact ⟨by rw [decide_eq_false (show ¬ (mrd tx le 200 0 vE).1 = -4 by rw [hB_.1]; exact ne4 _ hB_.2)] <;> rfl, np1, ns1, na1, nf1, z, ap1, bg1, wr1, hFz, (fun h => absurd h (by rw [hB_.1]; exact ne4 _ hB_.2)), (fun _ => hB_.1), rfl⟩
                · skip
                  refine kb_iconst (v := (1 : Int32)) X dX6_reads_137 (by decide) ?_
                  refine kb_goto (tgt := 142) X dX6_reads_138 (by decide) ?_
                  refine ke_z X Z rfl dX6_reads_142 ?_
                  first
                  | exact absurd hw_ (by rw [c5_]; decide)
                  | (have hA_ := hA c5_
                     have e_ : mrd tx le 200 0 vE = (-4, u) := hA_.2.2.2.2.2.1.trans (mrd_end (by omega))
                     rw [e_]
                     exact ⟨rfl, np1, ns1, na1, nf1, z, ap1, bg1, wr1, hFz, (fun _ => ⟨hA_.2.2.1, hA_.1, hA_.2.1, hA_.2.2.2.1⟩), (fun h => absurd rfl h), rfl⟩)
              · skip
                have hw_ := c4_
                have q_ := (hA hw_).2.2.2.2.2.2
                exact absurd hlt_ (by omega)
          | succ K_ ih =>
            intro u np1 ns1 na1 nf1 z ap1 bg1 wr1 hh
            obtain ⟨hFz, hap1, hA, hB⟩ := id hh
            refine kb_aload_n X 0 dX6_reads_46 rfl rfl ?_
            refine kb_get (v := .int (nI (ap1))) (C := RX6) (T := TX6) (N := 25) (ci := 6) X kw_iX6 rfl 0 13 rfl (by decide) kf_X6_86 rfl rfl dX6_reads_47 ?_
            refine kb_aload_n X 0 dX6_reads_50 rfl rfl ?_
            refine kb_get (v := .int (nI (le))) (C := RX6) (T := TX6) (N := 25) (ci := 6) X kw_iX6 rfl 0 11 rfl (by decide) kf_X6_83 rfl rfl dX6_reads_51 ?_
            refine kn_icmp_ge (a := ap1) (b := le) (tgt := 130) X (by omega) (by omega) dX6_reads_54 (by decide) (fun c6_ => ?_) (fun c6_ => ?_)
            · skip
              refine kb_aload_n X 0 dX6_reads_130 rfl rfl ?_
              refine kb_get (v := .int (zI (wr1))) (C := RX6) (T := TX6) (N := 25) (ci := 6) X kw_iX6 rfl 0 15 rfl (by decide) kf_X6_97 rfl rfl dX6_reads_131 ?_
              refine kz_if_ne (b := wr1) (tgt := 141) X dX6_reads_134 (by decide) (fun c7_ => ?_) (fun c7_ => ?_)
              · skip
                refine kb_iconst (v := (0 : Int32)) X dX6_reads_141 (by decide) ?_
                refine ke_z X Z rfl dX6_reads_142 ?_
                have hB_ := hB c7_
                exact ⟨by rw [decide_eq_false (show ¬ (mrd tx le 200 0 vE).1 = -4 by rw [hB_.1]; exact ne4 _ hB_.2)] <;> rfl, np1, ns1, na1, nf1, z, ap1, bg1, wr1, hFz, (fun h => absurd h (by rw [hB_.1]; exact ne4 _ hB_.2)), (fun _ => hB_.1), rfl⟩
              · skip
                refine kb_iconst (v := (1 : Int32)) X dX6_reads_137 (by decide) ?_
                refine kb_goto (tgt := 142) X dX6_reads_138 (by decide) ?_
                refine ke_z X Z rfl dX6_reads_142 ?_
                first
                | exact absurd hw_ (by rw [c7_]; decide)
                | (have hA_ := hA c7_
                   have e_ : mrd tx le 200 0 vE = (-4, u) := hA_.2.2.2.2.2.1.trans (mrd_end (by omega))
                   rw [e_]
                   exact ⟨rfl, np1, ns1, na1, nf1, z, ap1, bg1, wr1, hFz, (fun _ => ⟨hA_.2.2.1, hA_.1, hA_.2.1, hA_.2.2.2.1⟩), (fun h => absurd rfl h), rfl⟩)
            · skip
              have hlt_ : ap1 < le := by omega
              refine kb_aload_n X 0 dX6_reads_57 rfl rfl ?_
              refine kb_get (v := .int (zI (wr1))) (C := RX6) (T := TX6) (N := 25) (ci := 6) X kw_iX6 rfl 0 15 rfl (by decide) kf_X6_97 rfl rfl dX6_reads_58 ?_
              refine kz_if_ne (b := wr1) (tgt := 130) X dX6_reads_61 (by decide) (fun c8_ => ?_) (fun c8_ => ?_)
              · skip
                have hw_ := c8_
                refine kb_aload_n X 0 dX6_reads_130 rfl rfl ?_
                refine kb_get (v := .int (zI (wr1))) (C := RX6) (T := TX6) (N := 25) (ci := 6) X kw_iX6 rfl 0 15 rfl (by decide) kf_X6_97 rfl rfl dX6_reads_131 ?_
                refine kz_if_ne (b := wr1) (tgt := 141) X dX6_reads_134 (by decide) (fun c9_ => ?_) (fun c9_ => ?_)
                · skip
                  refine kb_iconst (v := (0 : Int32)) X dX6_reads_141 (by decide) ?_
                  refine ke_z X Z rfl dX6_reads_142 ?_
                  have hB_ := hB c9_
                  exact ⟨by rw [decide_eq_false (show ¬ (mrd tx le 200 0 vE).1 = -4 by rw [hB_.1]; exact ne4 _ hB_.2)] <;> rfl, np1, ns1, na1, nf1, z, ap1, bg1, wr1, hFz, (fun h => absurd h (by rw [hB_.1]; exact ne4 _ hB_.2)), (fun _ => hB_.1), rfl⟩
                · skip
                  refine kb_iconst (v := (1 : Int32)) X dX6_reads_137 (by decide) ?_
                  refine kb_goto (tgt := 142) X dX6_reads_138 (by decide) ?_
                  refine ke_z X Z rfl dX6_reads_142 ?_
                  first
                  | exact absurd hw_ (by rw [c9_]; decide)
                  | (have hA_ := hA c9_
                     have e_ : mrd tx le 200 0 vE = (-4, u) := hA_.2.2.2.2.2.1.trans (mrd_end (by omega))
                     rw [e_]
                     exact ⟨rfl, np1, ns1, na1, nf1, z, ap1, bg1, wr1, hFz, (fun _ => ⟨hA_.2.2.1, hA_.1, hA_.2.1, hA_.2.2.2.1⟩), (fun h => absurd rfl h), rfl⟩)
              · skip
                have hw_ := c8_
                obtain ⟨a1_, a2_, a3_, a4_, a5_, a6_, a7_⟩ := hA hw_
                refine kw_ws (ws' := wR g a pe so ag fr (vN u) ns1 na1 (vG u) z ac ke le tx ap1 bg1 false se wh wo bl ck sw ma ro bs) (by rw [a1_, a2_, hw_]) ?_
                refine kb_aload_n X 0 dX6_reads_64 rfl rfl ?_
                refine kb_aload_n X 0 dX6_reads_65 rfl rfl ?_
                refine kb_get (v := .int (nI (ap1))) (C := RX6) (T := TX6) (N := 25) (ci := 6) X kw_iX6 rfl 0 13 rfl (by decide) kf_X6_86 rfl rfl dX6_reads_66 ?_
                refine kb_put X (C := RX6) (T := TX6) (N := 25) (ci := 6) (ty := .int) kw_iX6 tyX6 tyX6_ok nmX6 rfl 0 14 rfl (by decide) kf_X6_108 rfl rfl (by decide +kernel) rfl rfl (Nat.le_of_ble_eq_true rfl) dX6_reads_69 (ws' := wR g a pe so ag fr (vN u) ns1 na1 (vG u) z ac ke le tx ap1 ap1 false se wh wo bl ck sw ma ro bs) rfl ?_
                refine kb_aload_n X 0 dX6_reads_72 rfl rfl ?_
                refine kc_Vi X (As := []) (rest := []) (wr := []) (ct_X6_next l g a pe so ag fr (vN u) ns1 na1 (vG u) z ac ke le tx ap1 ap1 false se wh wo bl ck sw ma ro bs hle (by omega)) dX6_reads_73 rfl (kw_pall _) mc_X6_next kl_X6_89 mi_X6_next mv_X6_next kn_X6 0 rfl rfl rfl (na := 0) (by decide +kernel) rfl ⟨Nat.le_of_ble_eq_true rfl, Nat.le_of_ble_eq_true rfl⟩ ⟨rfl, rfl⟩ ⟨Nat.le_of_ble_eq_true rfl, Nat.le_of_ble_eq_true rfl⟩ (Nat.le_of_ble_eq_true rfl) (fun r_ w_ hp_ => ?_)
                obtain ⟨rfl, rfl⟩ := hp_
                refine kw_ws (List.append_nil _) ?_
                refine kw_top (b := .int (nI (tx ap1))) (by rw [rCh, if_pos hlt_]) ?_
                refine kb_istore_n X [1, 0] dX6_reads_76 rfl (by decide) (lv' := [(0, .ref (a 0)), (1, .int (nI (tx ap1)))]) rfl ?_
                refine kb_aload_n X 0 dX6_reads_77 rfl rfl ?_
                refine kb_dup X dX6_reads_78 rfl ?_
                refine kb_get (v := .int (nI (ap1))) (C := RX6) (T := TX6) (N := 25) (ci := 6) X kw_iX6 rfl 0 13 rfl (by decide) kf_X6_86 rfl rfl dX6_reads_79 ?_
                refine kb_iconst (v := (1 : Int32)) X dX6_reads_82 (by decide) ?_
                refine kn_iadd X ap1 1 dX6_reads_83 ?_
                refine kb_put X (C := RX6) (T := TX6) (N := 25) (ci := 6) (ty := .int) kw_iX6 tyX6 tyX6_ok nmX6 rfl 0 13 rfl (by decide) kf_X6_86 rfl rfl (by decide +kernel) rfl rfl (Nat.le_of_ble_eq_true rfl) dX6_reads_84 (ws' := wR g a pe so ag fr (vN u) ns1 na1 (vG u) z ac ke le tx (ap1 + 1) ap1 false se wh wo bl ck sw ma ro bs) rfl ?_
                refine kb_aload_n X 0 dX6_reads_87 rfl rfl ?_
                refine kb_iload_n X 1 dX6_reads_88 rfl rfl ?_
                refine kc_Vv X (As := [.int (nI (tx ap1))]) (rest := []) (wr := []) (ct_X6_item l g a pe so ag fr ns1 na1 z ac ke le tx ap1 se wh wo bl ck sw ma ro bs u ap1 (tx ap1) hle htx hlt_ a3_ a4_ a5_ (htx _ hlt_)) dX6_reads_89 rfl (kw_pall _) mc_X6_item kl_X6_111 mi_X6_item mv_X6_item kn_X6 0 rfl rfl rfl (na := 1) (by decide +kernel) rfl ⟨Nat.le_of_ble_eq_true rfl, Nat.le_of_ble_eq_true rfl⟩ ⟨rfl, rfl⟩ ⟨Nat.le_of_ble_eq_true rfl, Nat.le_of_ble_eq_true rfl⟩ (Nat.le_of_ble_eq_true rfl) (fun w_ hp_ => ?_)
                obtain ⟨np2, ns2, na2, nf2, sl2, ap2, hF2, hb2, hg2, rfl⟩ := hp_
                refine kw_ws (List.append_nil _) ?_
                refine kb_aload_n X 0 dX6_reads_92 rfl rfl ?_
                refine kb_aload_n X 0 dX6_reads_93 rfl rfl ?_
                refine kb_get (v := .int (zI ((!mOk tx le ap1 (vN u) (tx ap1))))) (C := RX6) (T := TX6) (N := 25) (ci := 6) X kw_iX6 rfl 0 15 rfl (by decide) kf_X6_97 rfl rfl dX6_reads_94 ?_
                refine kz_if_ne (b := (!mOk tx le ap1 (vN u) (tx ap1))) (tgt := 109) X dX6_reads_97 (by decide) (fun c10_ => ?_) (fun c10_ => ?_)
                · skip
                  have ck_ : mOk tx le ap1 (vN u) (tx ap1) = false := by
                    cases q_ : mOk tx le ap1 (vN u) (tx ap1) with
                    | false => rfl
                    | true => rw [q_] at c10_; cases c10_
                  refine kb_iconst (v := (1 : Int32)) X dX6_reads_109 (by decide) ?_
                  refine kb_goto (tgt := 114) X dX6_reads_110 (by decide) ?_
                  refine kb_put X (C := RX6) (T := TX6) (N := 25) (ci := 6) (ty := .boolean) kw_iX6 tyX6 tyX6_ok nmX6 rfl 0 15 rfl (by decide) kf_X6_97 rfl rfl (by decide +kernel) rfl rfl (Nat.le_of_ble_eq_true rfl) dX6_reads_114 (ws' := wR g a pe so ag fr np2 ns2 na2 nf2 sl2 ac ke le tx ap2 ap1 true se wh wo bl ck sw ma ro bs) rfl ?_
                  refine kb_aload_n X 0 dX6_reads_117 rfl rfl ?_
                  refine kb_dup X dX6_reads_118 rfl ?_
                  refine kb_get (v := .int (nI (ap2))) (C := RX6) (T := TX6) (N := 25) (ci := 6) X kw_iX6 rfl 0 13 rfl (by decide) kf_X6_86 rfl rfl dX6_reads_119 ?_
                  refine kb_iconst (v := (1 : Int32)) X dX6_reads_122 (by decide) ?_
                  refine kn_iadd X ap2 1 dX6_reads_123 ?_
                  refine kb_put X (C := RX6) (T := TX6) (N := 25) (ci := 6) (ty := .int) kw_iX6 tyX6 tyX6_ok nmX6 rfl 0 13 rfl (by decide) kf_X6_86 rfl rfl (by decide +kernel) rfl rfl (Nat.le_of_ble_eq_true rfl) dX6_reads_124 (ws' := wR g a pe so ag fr np2 ns2 na2 nf2 sl2 ac ke le tx (ap2 + 1) ap1 true se wh wo bl ck sw ma ro bs) rfl ?_
                  refine kw_lvs [0] (lv' := [(0, .ref (a 0))]) rfl ?_
                  refine kb_goto (tgt := 46) X dX6_reads_127 (by decide) ?_
                  exact kw_to (ih u np2 ns2 na2 nf2 sl2 (ap2 + 1) ap1 true ⟨FR.tr hFz hF2, by omega, (fun h => by cases h), fun _ => ⟨by rw [a6_, mrd, if_pos hlt_, if_neg (by rw [ck_]; simp)], by omega⟩⟩) rfl rfl rfl
                · skip
                  have ck_ : mOk tx le ap1 (vN u) (tx ap1) = true := by
                    cases q_ : mOk tx le ap1 (vN u) (tx ap1) with
                    | true => rfl
                    | false => rw [q_] at c10_; cases c10_
                  obtain ⟨g1_, g2_, g3_⟩ := hg2 ck_
                  refine kb_aload_n X 0 dX6_reads_100 rfl rfl ?_
                  refine kc_Vi X (As := []) (rest := [.ref (a 0)]) (wr := []) (ct_X6_next l g a pe so ag fr np2 ns2 na2 nf2 sl2 ac ke le tx ap2 ap1 (!mOk tx le ap1 (vN u) (tx ap1)) se wh wo bl ck sw ma ro bs hle (by omega)) dX6_reads_101 rfl (kw_pall _) mc_X6_next kl_X6_89 mi_X6_next mv_X6_next kn_X6 0 rfl rfl rfl (na := 0) (by decide +kernel) rfl ⟨Nat.le_of_ble_eq_true rfl, Nat.le_of_ble_eq_true rfl⟩ ⟨rfl, rfl⟩ ⟨Nat.le_of_ble_eq_true rfl, Nat.le_of_ble_eq_true rfl⟩ (Nat.le_of_ble_eq_true rfl) (fun r_ w_ hp_ => ?_)
                  obtain ⟨rfl, rfl⟩ := hp_
                  refine kw_ws (List.append_nil _) ?_
                  refine kb_bipush (v := (59 : Int32)) X dX6_reads_104 (by decide) ?_
                  refine kb_icmp_eq (tgt := 113) X dX6_reads_106 (by decide) (fun c11_ => ?_) (fun c11_ => ?_)
                  · skip
                    have ce_ := c11_
                    refine kb_iconst (v := (0 : Int32)) X dX6_reads_113 (by decide) ?_
                    refine kb_put X (C := RX6) (T := TX6) (N := 25) (ci := 6) (ty := .boolean) kw_iX6 tyX6 tyX6_ok nmX6 rfl 0 15 rfl (by decide) kf_X6_97 rfl rfl (by decide +kernel) rfl rfl (Nat.le_of_ble_eq_true rfl) dX6_reads_114 (ws' := wR g a pe so ag fr np2 ns2 na2 nf2 sl2 ac ke le tx ap2 ap1 false se wh wo bl ck sw ma ro bs) rfl ?_
                    refine kb_aload_n X 0 dX6_reads_117 rfl rfl ?_
                    refine kb_dup X dX6_reads_118 rfl ?_
                    refine kb_get (v := .int (nI (ap2))) (C := RX6) (T := TX6) (N := 25) (ci := 6) X kw_iX6 rfl 0 13 rfl (by decide) kf_X6_86 rfl rfl dX6_reads_119 ?_
                    refine kb_iconst (v := (1 : Int32)) X dX6_reads_122 (by decide) ?_
                    refine kn_iadd X ap2 1 dX6_reads_123 ?_
                    refine kb_put X (C := RX6) (T := TX6) (N := 25) (ci := 6) (ty := .int) kw_iX6 tyX6 tyX6_ok nmX6 rfl 0 13 rfl (by decide) kf_X6_86 rfl rfl (by decide +kernel) rfl rfl (Nat.le_of_ble_eq_true rfl) dX6_reads_124 (ws' := wR g a pe so ag fr np2 ns2 na2 nf2 sl2 ac ke le tx (ap2 + 1) ap1 false se wh wo bl ck sw ma ro bs) rfl ?_
                    refine kw_lvs [0] (lv' := [(0, .ref (a 0))]) rfl ?_
                    refine kb_goto (tgt := 46) X dX6_reads_127 (by decide) ?_
                    exact kw_to (ih (mVv tx le ap1 (tx ap1) u) np2 ns2 na2 nf2 sl2 (ap2 + 1) ap1 false ⟨FR.tr hFz hF2, by omega, (fun _ => ⟨g3_.1, g3_.2.1, g2_, ⟨rfl, rfl, g3_.2.2⟩, VI_mV htx ck_ a5_, by rw [a6_, mrd, if_pos hlt_, if_pos (by rw [ck_, ← g1_, isC, decide_eq_true ce_]; rfl), g1_], by have := mE_gt (tx := tx) (le := le) ap1 (tx ap1); omega⟩), fun h => by cases h⟩) rfl rfl rfl
                  · skip
                    have cf_ := c11_
                    refine kb_iconst (v := (1 : Int32)) X dX6_reads_109 (by decide) ?_
                    refine kb_goto (tgt := 114) X dX6_reads_110 (by decide) ?_
                    refine kb_put X (C := RX6) (T := TX6) (N := 25) (ci := 6) (ty := .boolean) kw_iX6 tyX6 tyX6_ok nmX6 rfl 0 15 rfl (by decide) kf_X6_97 rfl rfl (by decide +kernel) rfl rfl (Nat.le_of_ble_eq_true rfl) dX6_reads_114 (ws' := wR g a pe so ag fr np2 ns2 na2 nf2 sl2 ac ke le tx ap2 ap1 true se wh wo bl ck sw ma ro bs) rfl ?_
                    refine kb_aload_n X 0 dX6_reads_117 rfl rfl ?_
                    refine kb_dup X dX6_reads_118 rfl ?_
                    refine kb_get (v := .int (nI (ap2))) (C := RX6) (T := TX6) (N := 25) (ci := 6) X kw_iX6 rfl 0 13 rfl (by decide) kf_X6_86 rfl rfl dX6_reads_119 ?_
                    refine kb_iconst (v := (1 : Int32)) X dX6_reads_122 (by decide) ?_
                    refine kn_iadd X ap2 1 dX6_reads_123 ?_
                    refine kb_put X (C := RX6) (T := TX6) (N := 25) (ci := 6) (ty := .int) kw_iX6 tyX6 tyX6_ok nmX6 rfl 0 13 rfl (by decide) kf_X6_86 rfl rfl (by decide +kernel) rfl rfl (Nat.le_of_ble_eq_true rfl) dX6_reads_124 (ws' := wR g a pe so ag fr np2 ns2 na2 nf2 sl2 ac ke le tx (ap2 + 1) ap1 true se wh wo bl ck sw ma ro bs) rfl ?_
                    refine kw_lvs [0] (lv' := [(0, .ref (a 0))]) rfl ?_
                    refine kb_goto (tgt := 46) X dX6_reads_127 (by decide) ?_
                    exact kw_to (ih u np2 ns2 na2 nf2 sl2 (ap2 + 1) ap1 true ⟨FR.tr hFz hF2, by omega, (fun h => by cases h), fun _ => ⟨by rw [a6_, mrd, if_pos hlt_, if_neg (by rw [ck_, ← g1_, isC, decide_eq_false cf_]; simp)], by omega⟩⟩) rfl rfl rfl
        exact kw_to (L46 200 vE 0 ns na 50 y 0 bg false ⟨hFy, by omega, (fun _ => ⟨rfl, rfl, z_EN (fun k hk => hy k (by omega)), ⟨rfl, rfl, fun p hp => absurd hp (Nat.not_lt_zero _)⟩, VI_vE, rfl, Nat.le_refl _⟩), fun h => by cases h⟩) rfl rfl rfl
      · skip
        omega
    | succ K_ ih =>
      intro i y hh
      obtain ⟨hi, hy, hFy⟩ := id hh
      refine kb_iload_n X 1 dX6_reads_13 rfl rfl ?_
      refine kb_bipush (v := (82 : Int32)) X dX6_reads_14 (by decide) ?_
      refine kn_icmp_ge (a := i) (b := 82) (tgt := 36) X (by omega) (by omega) dX6_reads_16 (by decide) (fun c12_ => ?_) (fun c12_ => ?_)
      · skip
        omega
      · skip
        refine kb_aload_n X 0 dX6_reads_19 rfl rfl ?_
        refine kb_get (v := .ref (a 5)) (C := RX6) (T := TX6) (N := 25) (ci := 6) X kw_iX6 rfl 0 8 rfl (by decide) kf_X6_22 rfl rfl dX6_reads_20 ?_
        refine kb_sipush (v := (902 : Int32)) X dX6_reads_23 (by decide) ?_
        refine kb_iload_n X 1 dX6_reads_26 rfl rfl ?_
        refine kn_iadd X 902 i dX6_reads_27 ?_
        refine kb_iconst (v := (0 : Int32)) X dX6_reads_28 (by decide) ?_
        refine kb_iast (i := 902 + i) X 5 rfl (by omega) (by decide) dX6_reads_29 (ws' := wR g a pe so ag fr 0 ns na (50 : Int32) (upd y (902 + i) (0 : Int32)) ac ke le tx ap bg wr se wh wo bl ck sw ma ro bs) rfl ?_
        refine kb_iinc X 1 [1, 0] (v' := nI (i + 1)) dX6_reads_30 rfl (nI_add _ _) (by decide) (lv' := [(0, .ref (a 0)), (1, .int (nI (i + 1)))]) rfl ?_
        refine kb_goto (tgt := 13) X dX6_reads_33 (by decide) ?_
        exact kw_to (ih (i + 1) (upd y (902 + i) 0) ⟨by omega, fun k hk => by
          by_cases e : k = i
          · rw [e, upd_eq _ _ rfl]
          · rw [upd_ne _ _ (by omega)]; exact hy k (by omega), FR.up hFy (by omega) (by omega)⟩) rfl rfl rfl
  exact kw_to (L13 82 0 sl ⟨rfl, fun k hk => absurd hk (Nat.not_lt_zero _), FR.rf⟩) rfl rfl rfl

set_option maxHeartbeats 4000000 in
set_option maxRecDepth 100000 in
theorem ct_X6_fault (l : Launch) (g : kw_G) (a : Nat → Nat) (so : Nat → Int32) (ag : Nat → Int32) (np : Nat) (ns : Nat → Int32) (na : Nat → Int32) (nf : Int32) (sl : Nat → Int32) (ac : Nat) (ke : Nat) (le : Nat) (tx : Nat → Nat) (ap : Nat) (bg : Nat) (wr : Bool) (se : Nat) (wh : Nat → Nat) (wo : Nat → Nat) (bl : Nat → Int32) (ck : Nat → Int32) (sw : Nat → Bool) (ma : Nat) (ro : Nat → Nat) (bs : Nat → Nat) (v : VS) (us ks : List VS) (tf : Nat → Nat) (tn : Nat) (s : SS) (hR : RI (vN v) so ag (vG v) sl ac ke le tx se wh wo bl ck sw v us ks tf tn s) : kMi l g yX6_fault cX6_fault 1 .int (kw_rm 6 0 0) 0 0 [.ref (a 0)] (wR g a (vN v) so ag (vG v) np ns na nf sl ac ke le tx ap bg wr se wh wo bl ck sw ma ro bs) (fun r w => r = oFault tf tn ∧ RWp g a v us ks tf tn s w) := by
  refine kMi_of (by decide +kernel) (Nat.le_of_ble_eq_true rfl) (fun x (X : kX l g RX6 cX6_fault 1 (kw_rm 6 0 0) x) (Z : kZi .int _ 0 0 x) => ?_)
  show kW x 0 0 0 [(0, .ref (a 0))] [] (wR g a (vN v) so ag (vG v) np ns na nf sl ac ke le tx ap bg wr se wh wo bl ck sw ma ro bs)
  have hE := hR.1
  have hG := hR.2.1
  have hK := hR.2.1.1
  have hv := hR.2.1.2.1
  have hT := hR.2.1.2.2.1
  have hN0 := hR.2.1.2.2.2
  have h6 := hv.1
  have hx64 := hv.2.1
  have hh64 := hv.2.2
  obtain ⟨etn, htn, htx⟩ := id hR.2.2.2.2.1
  subst etn
  have htx1 : ∀ k, k < le → tx k < 128 := fun k hk => by rw [(htx k hk).1]; exact (htx k hk).2
  have hmr : mrd tx le 200 0 vE = mrd tf le 200 0 vE := mrd_ag rfl (fun k hk => (htx k hk).1) (fun k hk => (htx k hk).2) 200 vE VI_vE
  refine kb_aload_n X 0 dX6_fault_0 rfl rfl ?_
  refine kc_Vi X (As := []) (rest := []) (wr := []) (ct_X6_reads l g a (vN v) so ag (vG v) np ns na nf sl ac ke le tx ap bg wr se wh wo bl ck sw ma ro bs htn htx1) dX6_fault_1 rfl (kw_pall _) mc_X6_reads kl_X6_115 mi_X6_reads mv_X6_reads kn_X6 0 rfl rfl rfl (na := 0) (by decide +kernel) rfl ⟨Nat.le_of_ble_eq_true rfl, Nat.le_of_ble_eq_true rfl⟩ ⟨rfl, rfl⟩ ⟨Nat.le_of_ble_eq_true rfl, Nat.le_of_ble_eq_true rfl⟩ (Nat.le_of_ble_eq_true rfl) (fun r_ w_ hp_ => ?_)
  obtain ⟨rfl, npR_, nsR_, naR_, nfR_, slR_, apR_, bgR_, wrR_, hFR, hgR, hbR, rfl⟩ := hp_
  refine kw_ws (List.append_nil _) ?_
  refine kz_if_eq (b := decide ((mrd tx le 200 0 vE).1 = -4)) (tgt := 12) X dX6_fault_4 (by decide) (fun c1_ => ?_) (fun c1_ => ?_)
  · skip
    refine kb_aload_n X 0 dX6_fault_12 rfl rfl ?_
    refine kb_get (v := .int (nI (bgR_))) (C := RX6) (T := TX6) (N := 25) (ci := 6) X kw_iX6 rfl 0 14 rfl (by decide) kf_X6_108 rfl rfl dX6_fault_13 ?_
    refine ke_i X Z dX6_fault_16 ?_
    exact ⟨by rw [oFault, ← hmr, hbR (of_decide_eq_false c1_)], RWp.of (hR.try hFR)⟩
  · skip
    refine kb_bipush (v := (-4 : Int32)) X dX6_fault_7 (by decide) ?_
    refine kb_goto (tgt := 16) X dX6_fault_9 (by decide) ?_
    refine ke_i X Z dX6_fault_16 ?_
    exact ⟨by rw [oFault, ← hmr, of_decide_eq_true c1_] <;> rfl, RWp.of (hR.try hFR)⟩

set_option maxHeartbeats 4000000 in
set_option maxRecDepth 100000 in
theorem ct_X6_lay (l : Launch) (g : kw_G) (a : Nat → Nat) (so : Nat → Int32) (ag : Nat → Int32) (np : Nat) (ns : Nat → Int32) (na : Nat → Int32) (nf : Int32) (sl : Nat → Int32) (ac : Nat) (ke : Nat) (le : Nat) (tx : Nat → Nat) (ap : Nat) (bg : Nat) (wr : Bool) (se : Nat) (wh : Nat → Nat) (wo : Nat → Nat) (bl : Nat → Int32) (ck : Nat → Int32) (sw : Nat → Bool) (ma : Nat) (ro : Nat → Nat) (bs : Nat → Nat) (v : VS) (us ks : List VS) (tf : Nat → Nat) (tn : Nat) (s : SS) (hR : RI (vN v) so ag (vG v) sl ac ke le tx se wh wo bl ck sw v us ks tf tn s) : kMi l g yX6_lay cX6_lay 1 .int (kw_rm 6 0 0) 0 0 [.ref (a 0)] (wR g a (vN v) so ag (vG v) np ns na nf sl ac ke le tx ap bg wr se wh wo bl ck sw ma ro bs) (fun r w => r = layR tf tn ∧ RWp g a (layV tf tn v) (layL tf tn us) (layL tf tn ks) tf tn (layS tf tn s) w) := by
  refine kMi_of (by decide +kernel) (Nat.le_of_ble_eq_true rfl) (fun x (X : kX l g RX6 cX6_lay 1 (kw_rm 6 0 0) x) (Z : kZi .int _ 0 0 x) => ?_)
  show kW x 0 0 0 [(0, .ref (a 0))] [] (wR g a (vN v) so ag (vG v) np ns na nf sl ac ke le tx ap bg wr se wh wo bl ck sw ma ro bs)
  have hE := hR.1
  have hG := hR.2.1
  have hK := hR.2.1.1
  have hv := hR.2.1.2.1
  have hT := hR.2.1.2.2.1
  have hN0 := hR.2.1.2.2.2
  have h6 := hv.1
  have hx64 := hv.2.1
  have hh64 := hv.2.2
  obtain ⟨etn, htn, htx⟩ := id hR.2.2.2.2.1
  subst etn
  have htx1 : ∀ k, k < le → tx k < 128 := fun k hk => by rw [(htx k hk).1]; exact (htx k hk).2
  have hmr : mrd tx le 200 0 vE = mrd tf le 200 0 vE := mrd_ag rfl (fun k hk => (htx k hk).1) (fun k hk => (htx k hk).2) 200 vE VI_vE
  refine kb_aload_n X 0 dX6_lay_0 rfl rfl ?_
  refine kc_Vi X (As := []) (rest := []) (wr := []) (ct_X6_reads l g a (vN v) so ag (vG v) np ns na nf sl ac ke le tx ap bg wr se wh wo bl ck sw ma ro bs htn htx1) dX6_lay_1 rfl (kw_pall _) mc_X6_reads kl_X6_115 mi_X6_reads mv_X6_reads kn_X6 0 rfl rfl rfl (na := 0) (by decide +kernel) rfl ⟨Nat.le_of_ble_eq_true rfl, Nat.le_of_ble_eq_true rfl⟩ ⟨rfl, rfl⟩ ⟨Nat.le_of_ble_eq_true rfl, Nat.le_of_ble_eq_true rfl⟩ (Nat.le_of_ble_eq_true rfl) (fun r_ w_ hp_ => ?_)
  obtain ⟨rfl, npR_, nsR_, naR_, nfR_, slR_, apR_, bgR_, wrR_, hFR, hgR, hbR, rfl⟩ := hp_
  refine kw_ws (List.append_nil _) ?_
  refine kz_if_eq (b := decide ((mrd tx le 200 0 vE).1 = -4)) (tgt := 14) X dX6_lay_4 (by decide) (fun c1_ => ?_) (fun c1_ => ?_)
  · skip
    refine kb_bipush (v := (-2 : Int32)) X dX6_lay_14 (by decide) ?_
    refine ke_i X Z dX6_lay_16 ?_
    have e_ : layOk tf le = false := by rw [layOk, ← hmr, c1_, Bool.false_and]
    rw [layR, layV, layL, layL, layS, e_]
    exact ⟨rfl, RWp.of (hR.try hFR)⟩
  · skip
    obtain ⟨L, hL⟩ : ∃ L, (mrd tx le 200 0 vE).2 = L := ⟨_, rfl⟩
    obtain ⟨r1_, r2_, r3_, r4_⟩ := hgR (of_decide_eq_true c1_)
    rw [hL] at r1_ r2_ r3_ r4_
    have hI_ := I_mrd htx1 200 0 vE VI_vE TI_vE
    rw [hL] at hI_
    have h6L := hI_.1.1
    refine kw_ws (ws' := wR g a (vN v) so ag (vG v) (vN L) nsR_ naR_ (vG L) slR_ ac ke le tx apR_ bgR_ wrR_ se wh wo bl ck sw ma ro bs) (by rw [r2_, r3_]) ?_
    refine kb_aload_n X 0 dX6_lay_7 rfl rfl ?_
    refine kb_get (v := .int (nI ((vN L)))) (C := RX6) (T := TX6) (N := 25) (ci := 6) X kw_iX6 rfl 0 4 rfl (by decide) kf_X6_62 rfl rfl dX6_lay_8 ?_
    refine kn_if_ne (a := (vN L)) (tgt := 17) X (by omega) dX6_lay_11 (by decide) (fun c2_ => ?_) (fun c2_ => ?_)
    · skip
      refine kb_aload_n X 0 dX6_lay_17 rfl rfl ?_
      refine kc_Vv X (As := []) (rest := []) (wr := []) (ct_X6_settles l g a (vN v) so ag (vG v) (vN L) nsR_ naR_ (vG L) slR_ ac ke le tx apR_ bgR_ wrR_ se wh wo bl ck sw ma ro bs) dX6_lay_18 rfl (kw_pall _) mc_X6_settles kl_X6_59 mi_X6_settles mv_X6_settles kn_X6 0 rfl rfl rfl (na := 0) (by decide +kernel) rfl ⟨Nat.le_of_ble_eq_true rfl, Nat.le_of_ble_eq_true rfl⟩ ⟨rfl, rfl⟩ ⟨Nat.le_of_ble_eq_true rfl, Nat.le_of_ble_eq_true rfl⟩ (Nat.le_of_ble_eq_true rfl) (fun w_ hp_ => ?_)
      obtain ⟨soS, agS, hS_, rfl⟩ := hp_
      refine kw_ws (List.append_nil _) ?_
      refine kb_aload_n X 0 dX6_lay_21 rfl rfl ?_
      refine kb_sipush (v := (902 : Int32)) X dX6_lay_22 (by decide) ?_
      refine kb_iconst (v := (0 : Int32)) X dX6_lay_25 (by decide) ?_
      refine kc_Vv X (As := [.int 902, .int 0]) (rest := []) (wr := []) (ct_X6_copies l g a (vN L) soS agS (vG L) (vN L) nsR_ naR_ (vG L) slR_ ac ke le tx apR_ bgR_ wrR_ se wh wo bl ck sw ma ro bs 902 0 (by omega) (by omega) (by omega)) dX6_lay_26 rfl (kw_pall _) mc_X6_copies kl_X6_119 mi_X6_copies mv_X6_copies kn_X6 0 rfl rfl rfl (na := 2) (by decide +kernel) rfl ⟨Nat.le_of_ble_eq_true rfl, Nat.le_of_ble_eq_true rfl⟩ ⟨rfl, rfl⟩ ⟨Nat.le_of_ble_eq_true rfl, Nat.le_of_ble_eq_true rfl⟩ (Nat.le_of_ble_eq_true rfl) (fun w_ hp_ => ?_)
      obtain ⟨sl3_, hC4_, rfl⟩ := hp_
      have hE5_ := r1_.fr hC4_.2 (by omega)
      have hE6_ := r1_.cp hC4_
      refine kw_ws (List.append_nil _) ?_
      refine kb_aload_n X 0 dX6_lay_29 rfl rfl ?_
      refine kb_iconst (v := (0 : Int32)) X dX6_lay_30 (by decide) ?_
      refine kb_put X (C := RX6) (T := TX6) (N := 25) (ci := 6) (ty := .int) kw_iX6 tyX6 tyX6_ok nmX6 rfl 0 9 rfl (by decide) kf_X6_123 rfl rfl (by decide +kernel) rfl rfl (Nat.le_of_ble_eq_true rfl) dX6_lay_31 (ws' := wR g a (vN L) soS agS (vG L) (vN L) nsR_ naR_ (vG L) sl3_ 0 ke le tx apR_ bgR_ wrR_ se wh wo bl ck sw ma ro bs) rfl ?_
      refine kb_aload_n X 0 dX6_lay_34 rfl rfl ?_
      refine kb_iconst (v := (0 : Int32)) X dX6_lay_35 (by decide) ?_
      refine kb_put X (C := RX6) (T := TX6) (N := 25) (ci := 6) (ty := .int) kw_iX6 tyX6 tyX6_ok nmX6 rfl 0 10 rfl (by decide) kf_X6_126 rfl rfl (by decide +kernel) rfl rfl (Nat.le_of_ble_eq_true rfl) dX6_lay_36 (ws' := wR g a (vN L) soS agS (vG L) (vN L) nsR_ naR_ (vG L) sl3_ 0 0 le tx apR_ bgR_ wrR_ se wh wo bl ck sw ma ro bs) rfl ?_
      refine kb_aload_n X 0 dX6_lay_39 rfl rfl ?_
      refine kb_iconst (v := (0 : Int32)) X dX6_lay_40 (by decide) ?_
      refine kb_put X (C := RX6) (T := TX6) (N := 25) (ci := 6) (ty := .int) kw_iX6 tyX6 tyX6_ok nmX6 rfl 0 16 rfl (by decide) kf_X6_129 rfl rfl (by decide +kernel) rfl rfl (Nat.le_of_ble_eq_true rfl) dX6_lay_41 (ws' := wR g a (vN L) soS agS (vG L) (vN L) nsR_ naR_ (vG L) sl3_ 0 0 le tx apR_ bgR_ wrR_ 0 wh wo bl ck sw ma ro bs) rfl ?_
      refine kb_aload_n X 0 dX6_lay_44 rfl rfl ?_
      refine kb_get (v := .int (nI ((vN L)))) (C := RX6) (T := TX6) (N := 25) (ci := 6) X kw_iX6 rfl 0 0 rfl (by decide) kf_X6_65 rfl rfl dX6_lay_45 ?_
      refine ke_i X Z dX6_lay_48 ?_
      have e_ : layOk tf le = true := by rw [layOk, ← hmr, hL, c1_, decide_eq_false (show ¬ vN L = 0 by omega)]; rfl
      rw [layR, layV, layL, layL, layS, e_, if_pos rfl, if_pos rfl, if_pos rfl, if_pos rfl, if_pos rfl, ← hmr, hL]
      exact ⟨rfl, RWp.of ⟨hE6_, ⟨⟨rfl, rfl, fun p hp => ⟨(hS_ p (by omega)).1.trans (r4_.2.2 p hp).1, (hS_ p (by omega)).2.trans (r4_.2.2 p hp).2⟩⟩, hI_.1, hI_.2, by omega⟩, ⟨rfl, by omega, fun i u hu => by cases hu⟩, ⟨rfl, by omega, fun i u hu => by cases hu⟩, hR.2.2.2.2.1, ⟨by rw [hR.2.2.2.2.2.1]; rfl, by omega, fun k hk => absurd hk (Nat.not_lt_zero _)⟩⟩⟩
    · skip
      refine kb_bipush (v := (-2 : Int32)) X dX6_lay_14 (by decide) ?_
      refine ke_i X Z dX6_lay_16 ?_
      have e_ : layOk tf le = false := by rw [layOk, ← hmr, hL, decide_eq_true (show vN L = 0 by omega)]; simp
      rw [layR, layV, layL, layL, layS, e_]
      exact ⟨rfl, RWp.of (hR.try hFR)⟩

