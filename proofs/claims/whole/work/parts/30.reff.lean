set_option maxHeartbeats 4000000 in
set_option maxRecDepth 100000 in
theorem ct_X6_item (l : Launch) (g : kw_G) (a : Nat → Nat) (pe : Nat) (so : Nat → Int32) (ag : Nat → Int32) (fr : Int32) (ns : Nat → Int32) (na : Nat → Int32) (sl : Nat → Int32) (ac : Nat) (ke : Nat) (le : Nat) (tx : Nat → Nat) (bg : Nat) (se : Nat) (wh : Nat → Nat) (wo : Nat → Nat) (bl : Nat → Int32) (ck : Nat → Int32) (sw : Nat → Bool) (ma : Nat) (ro : Nat → Nat) (bs : Nat → Nat) (u : VS) (p lt_ : Nat) (hle : le ≤ 200) (htx : ∀ k, k < le → tx k < 128) (hp : p < le) (hE : EN sl 902 u) (hK : KE (vN u) ns na (vG u) u) (hv : VI u) (hlt : lt_ < 128) : kMv l g yX6_item cX6_item 5 (kw_rm 4 0 0) 0 0 [.ref (a 0), .int (nI (lt_))] (wR g a pe so ag fr (vN u) ns na (vG u) sl ac ke le tx (p + 1) bg false se wh wo bl ck sw ma ro bs) (fun w => ∃ np' ns' na' nf' sl' ap', FR sl sl' 902 ∧ ap' ≤ p + 20 ∧ (mOk tx le p (vN u) lt_ = true → ap' = mE tx le p lt_ ∧ EN sl' 902 (mVv tx le p lt_ u) ∧ KE np' ns' na' nf' (mVv tx le p lt_ u)) ∧ w = wR g a pe so ag fr np' ns' na' nf' sl' ac ke le tx ap' bg (!mOk tx le p (vN u) lt_) se wh wo bl ck sw ma ro bs) := by
  refine kMv_of (by decide +kernel) (Nat.le_of_ble_eq_true rfl) (fun x (X : kX l g RX6 cX6_item 5 (kw_rm 4 0 0) x) (Z : kZv _ 0 0 x) => ?_)
  show kW x 0 0 0 [(0, .ref (a 0)), (1, .int (nI (lt_)))] [] (wR g a pe so ag fr (vN u) ns na (vG u) sl ac ke le tx (p + 1) bg false se wh wo bl ck sw ma ro bs)
  have h6 := hv.1
  have hq1_ : q1 tx le p ≤ p + 4 := nE_le (p + 1)
  refine kb_iload_n X 1 dX6_item_0 rfl rfl ?_
  refine kb_bipush (v := (112 : Int32)) X dX6_item_1 (by decide) ?_
  refine kn_icmp_ne (a := lt_) (b := 112) (tgt := 80) X (by omega) (by omega) dX6_item_3 (by decide) (fun c1_ => ?_) (fun c1_ => ?_)
  · skip
    refine kb_iload_n X 1 dX6_item_80 rfl rfl ?_
    refine kb_bipush (v := (116 : Int32)) X dX6_item_81 (by decide) ?_
    refine kn_icmp_eq (a := lt_) (b := 116) (tgt := 92) X (by omega) (by omega) dX6_item_83 (by decide) (fun c2_ => ?_) (fun c2_ => ?_)
    · skip
      have cT_ := c2_
      refine kb_aload_n X 0 dX6_item_92 rfl rfl ?_
      refine kb_iconst (v := (0 : Int32)) X dX6_item_93 (by decide) ?_
      refine kb_aload_n X 0 dX6_item_94 rfl rfl ?_
      refine kb_get (v := .int (nI ((vN u)))) (C := RX6) (T := TX6) (N := 25) (ci := 6) X kw_iX6 rfl 0 4 rfl (by decide) kf_X6_62 rfl rfl dX6_item_95 ?_
      refine kb_iconst (v := (1 : Int32)) X dX6_item_98 (by decide) ?_
      refine kb_isub X dX6_item_99 ?_
      refine kc_Vi X (As := [.int 0, .int ((nI ((vN u))) - (1 : Int32))]) (rest := []) (wr := []) (ct_X6_number l g a pe so ag fr (vN u) ns na (vG u) sl ac ke le tx (p + 1) bg false se wh wo bl ck sw ma ro bs hle (by omega) htx (0 : Int32) ((nI ((vN u))) - (1 : Int32))) dX6_item_100 rfl (kw_pall _) mc_X6_number kl_X6_101 mi_X6_number mv_X6_number kn_X6 0 rfl rfl rfl (na := 2) (by decide +kernel) rfl ⟨Nat.le_of_ble_eq_true rfl, Nat.le_of_ble_eq_true rfl⟩ ⟨rfl, rfl⟩ ⟨Nat.le_of_ble_eq_true rfl, Nat.le_of_ble_eq_true rfl⟩ (Nat.le_of_ble_eq_true rfl) (fun r_ w_ hp_ => ?_)
      rw [Bool.false_or] at hp_
      obtain ⟨rfl, rfl⟩ := hp_
      refine kw_ws (List.append_nil _) ?_
      refine kb_istore_n X [1, 2, 0] dX6_item_103 rfl (by decide) (lv' := [(0, .ref (a 0)), (1, .int (nI (lt_))), (2, .int ((if (!nOk tx le (p + 1) (0 : Int32) ((nI ((vN u))) - (1 : Int32))) = true then 0 else nI (nV tx le (p + 1)))))]) rfl ?_
      refine kb_aload_n X 0 dX6_item_104 rfl rfl ?_
      refine kb_iconst (v := (0 : Int32)) X dX6_item_105 (by decide) ?_
      refine kb_aload_n X 0 dX6_item_106 rfl rfl ?_
      refine kb_get (v := .int (nI ((vN u)))) (C := RX6) (T := TX6) (N := 25) (ci := 6) X kw_iX6 rfl 0 4 rfl (by decide) kf_X6_62 rfl rfl dX6_item_107 ?_
      refine kb_iconst (v := (1 : Int32)) X dX6_item_110 (by decide) ?_
      refine kb_isub X dX6_item_111 ?_
      refine kc_Vi X (As := [.int 0, .int ((nI ((vN u))) - (1 : Int32))]) (rest := []) (wr := []) (ct_X6_more l g a pe so ag fr (vN u) ns na (vG u) sl ac ke le tx (q1 tx le p) bg (!nOk tx le (p + 1) (0 : Int32) ((nI ((vN u))) - (1 : Int32))) se wh wo bl ck sw ma ro bs hle (by omega) htx (0 : Int32) ((nI ((vN u))) - (1 : Int32))) dX6_item_112 rfl (kw_pall _) mc_X6_more kl_X6_105 mi_X6_more mv_X6_more kn_X6 0 rfl rfl rfl (na := 2) (by decide +kernel) rfl ⟨Nat.le_of_ble_eq_true rfl, Nat.le_of_ble_eq_true rfl⟩ ⟨rfl, rfl⟩ ⟨Nat.le_of_ble_eq_true rfl, Nat.le_of_ble_eq_true rfl⟩ (Nat.le_of_ble_eq_true rfl) (fun r_ w_ hp_ => ?_)
      obtain ⟨rfl, rfl⟩ := hp_
      refine kw_ws (List.append_nil _) ?_
      have hb3_ := moP_le (tx := tx) (le := le) (!nOk tx le (p + 1) (0 : Int32) ((nI ((vN u))) - (1 : Int32))) (q1 tx le p)
      refine kb_istore_n X [1, 2, 3, 0] dX6_item_115 rfl (by decide) (lv' := [(0, .ref (a 0)), (1, .int (nI (lt_))), (2, .int ((if (!nOk tx le (p + 1) (0 : Int32) ((nI ((vN u))) - (1 : Int32))) = true then 0 else nI (nV tx le (p + 1))))), (3, .int ((if moW tx le (!nOk tx le (p + 1) (0 : Int32) ((nI ((vN u))) - (1 : Int32))) (q1 tx le p) (0 : Int32) ((nI ((vN u))) - (1 : Int32)) = true then 0 else nI (nV tx le (q1 tx le p + 1)))))]) rfl ?_
      refine kb_aload_n X 0 dX6_item_116 rfl rfl ?_
      refine kb_iconst (v := (0 : Int32)) X dX6_item_117 (by decide) ?_
      refine kb_iload_n X 1 dX6_item_118 rfl rfl ?_
      refine kb_bipush (v := (116 : Int32)) X dX6_item_119 (by decide) ?_
      refine kn_icmp_ne (a := lt_) (b := 116) (tgt := 129) X (by omega) (by omega) dX6_item_121 (by decide) (fun c4_ => ?_) (fun c4_ => ?_)
      · skip
        omega
      · skip
        refine kb_bipush (v := (9 : Int32)) X dX6_item_124 (by decide) ?_
        refine kb_goto (tgt := 131) X dX6_item_126 (by decide) ?_
        refine kc_Vi X (As := [.int 0, .int 9]) (rest := []) (wr := []) (ct_X6_more l g a pe so ag fr (vN u) ns na (vG u) sl ac ke le tx (moP tx le (!nOk tx le (p + 1) (0 : Int32) ((nI ((vN u))) - (1 : Int32))) (q1 tx le p)) bg (moW tx le (!nOk tx le (p + 1) (0 : Int32) ((nI ((vN u))) - (1 : Int32))) (q1 tx le p) (0 : Int32) ((nI ((vN u))) - (1 : Int32))) se wh wo bl ck sw ma ro bs hle (by omega) htx (0 : Int32) (9 : Int32)) dX6_item_131 rfl (kw_pall _) mc_X6_more kl_X6_105 mi_X6_more mv_X6_more kn_X6 0 rfl rfl rfl (na := 2) (by decide +kernel) rfl ⟨Nat.le_of_ble_eq_true rfl, Nat.le_of_ble_eq_true rfl⟩ ⟨rfl, rfl⟩ ⟨Nat.le_of_ble_eq_true rfl, Nat.le_of_ble_eq_true rfl⟩ (Nat.le_of_ble_eq_true rfl) (fun r_ w_ hp_ => ?_)
        obtain ⟨rfl, rfl⟩ := hp_
        refine kw_ws (List.append_nil _) ?_
        have hb5_ := moP_le (tx := tx) (le := le) (moW tx le (!nOk tx le (p + 1) (0 : Int32) ((nI ((vN u))) - (1 : Int32))) (q1 tx le p) (0 : Int32) ((nI ((vN u))) - (1 : Int32))) (moP tx le (!nOk tx le (p + 1) (0 : Int32) ((nI ((vN u))) - (1 : Int32))) (q1 tx le p))
        refine kb_istore X [1, 2, 3, 4, 0] dX6_item_134 (by decide) (lv' := [(0, .ref (a 0)), (1, .int (nI (lt_))), (2, .int ((if (!nOk tx le (p + 1) (0 : Int32) ((nI ((vN u))) - (1 : Int32))) = true then 0 else nI (nV tx le (p + 1))))), (3, .int ((if moW tx le (!nOk tx le (p + 1) (0 : Int32) ((nI ((vN u))) - (1 : Int32))) (q1 tx le p) (0 : Int32) ((nI ((vN u))) - (1 : Int32)) = true then 0 else nI (nV tx le (q1 tx le p + 1))))), (4, .int ((if moW tx le (moW tx le (!nOk tx le (p + 1) (0 : Int32) ((nI ((vN u))) - (1 : Int32))) (q1 tx le p) (0 : Int32) ((nI ((vN u))) - (1 : Int32))) (moP tx le (!nOk tx le (p + 1) (0 : Int32) ((nI ((vN u))) - (1 : Int32))) (q1 tx le p)) (0 : Int32) (9 : Int32) = true then 0 else nI (nV tx le (moP tx le (!nOk tx le (p + 1) (0 : Int32) ((nI ((vN u))) - (1 : Int32))) (q1 tx le p) + 1)))))]) rfl ?_
        refine kw_ws (ws' := wR g a pe so ag fr (vN u) ns na (vG u) sl ac ke le tx (moP tx le (moW tx le (!nOk tx le (p + 1) (0 : Int32) ((nI ((vN u))) - (1 : Int32))) (q1 tx le p) (0 : Int32) ((nI ((vN u))) - (1 : Int32))) (moP tx le (!nOk tx le (p + 1) (0 : Int32) ((nI ((vN u))) - (1 : Int32))) (q1 tx le p))) bg (!sy3 tx le p 0 (nI (vN u) - 1) 0 (nI (vN u) - 1) 0 9) se wh wo bl ck sw ma ro bs) (by rw [w3_eq]) ?_
        refine kb_aload_n X 0 dX6_item_136 rfl rfl ?_
        refine kb_aload_n X 0 dX6_item_137 rfl rfl ?_
        refine kb_get (v := .int (zI ((!sy3 tx le p 0 (nI (vN u) - 1) 0 (nI (vN u) - 1) 0 9)))) (C := RX6) (T := TX6) (N := 25) (ci := 6) X kw_iX6 rfl 0 15 rfl (by decide) kf_X6_97 rfl rfl dX6_item_138 ?_
        refine kz_if_ne (b := (!sy3 tx le p 0 (nI (vN u) - 1) 0 (nI (vN u) - 1) 0 9)) (tgt := 149) X dX6_item_141 (by decide) (fun c6_ => ?_) (fun c6_ => ?_)
        · skip
          have cs_ : sy3 tx le p 0 (nI (vN u) - 1) 0 (nI (vN u) - 1) 0 9 = false := by
            cases q_ : sy3 tx le p 0 (nI (vN u) - 1) 0 (nI (vN u) - 1) 0 9 with
            | false => rfl
            | true => rw [q_] at c6_; cases c6_
          refine kb_iconst (v := (1 : Int32)) X dX6_item_149 (by decide) ?_
          refine kb_goto (tgt := 154) X dX6_item_150 (by decide) ?_
          refine kb_put X (C := RX6) (T := TX6) (N := 25) (ci := 6) (ty := .boolean) kw_iX6 tyX6 tyX6_ok nmX6 rfl 0 15 rfl (by decide) kf_X6_97 rfl rfl (by decide +kernel) rfl rfl (Nat.le_of_ble_eq_true rfl) dX6_item_154 (ws' := wR g a pe so ag fr (vN u) ns na (vG u) sl ac ke le tx (moP tx le (moW tx le (!nOk tx le (p + 1) (0 : Int32) ((nI ((vN u))) - (1 : Int32))) (q1 tx le p) (0 : Int32) ((nI ((vN u))) - (1 : Int32))) (moP tx le (!nOk tx le (p + 1) (0 : Int32) ((nI ((vN u))) - (1 : Int32))) (q1 tx le p))) bg true se wh wo bl ck sw ma ro bs) rfl ?_
          refine kb_aload_n X 0 dX6_item_157 rfl rfl ?_
          refine kb_get (v := .int 1) (C := RX6) (T := TX6) (N := 25) (ci := 6) X kw_iX6 rfl 0 15 rfl (by decide) kf_X6_97 rfl rfl dX6_item_158 ?_
          refine kb_if_ne (tgt := 208) X dX6_item_161 (by decide) (fun _ => ?_) (fun q_ => absurd q_ (by decide))
          refine kb_goto (tgt := 236) X dX6_item_208 (by decide) ?_
          refine ke_v X Z dX6_item_236 ?_
          have e_ : mOk tx le p (vN u) lt_ = false := by simp [mOk, c1_, c2_, cT_, c4_, c6_, cs_]
          rw [e_]
          exact ⟨(vN u), ns, na, (vG u), sl, moP tx le (moW tx le (!nOk tx le (p + 1) (0 : Int32) ((nI ((vN u))) - (1 : Int32))) (q1 tx le p) (0 : Int32) ((nI ((vN u))) - (1 : Int32))) (moP tx le (!nOk tx le (p + 1) (0 : Int32) ((nI ((vN u))) - (1 : Int32))) (q1 tx le p)), FR.rf, by omega, (fun h => by cases h), rfl⟩
        · skip
          have cs_ : sy3 tx le p 0 (nI (vN u) - 1) 0 (nI (vN u) - 1) 0 9 = true := by
            cases q_ : sy3 tx le p 0 (nI (vN u) - 1) 0 (nI (vN u) - 1) 0 9 with
            | true => rfl
            | false => rw [q_] at c6_; cases c6_
          obtain ⟨k1_, k2_, k3_, k4_, k5_, k6_⟩ := w3_ok cs_
          have hm0_ : m0 tx le p < vN u := nOk_lt htx hv.1 k1_
          have hm1_ : m1 tx le p < vN u := nOk_lt htx hv.1 k5_
          have h6_ := hv.1
          refine kw_lv (lv' := [(0, .ref (a 0)), (1, .int (nI (lt_))), (2, .int (nI (m0 tx le p))), (3, .int ((if moW tx le (!nOk tx le (p + 1) (0 : Int32) ((nI ((vN u))) - (1 : Int32))) (q1 tx le p) (0 : Int32) ((nI ((vN u))) - (1 : Int32)) = true then 0 else nI (nV tx le (q1 tx le p + 1))))), (4, .int ((if moW tx le (moW tx le (!nOk tx le (p + 1) (0 : Int32) ((nI ((vN u))) - (1 : Int32))) (q1 tx le p) (0 : Int32) ((nI ((vN u))) - (1 : Int32))) (moP tx le (!nOk tx le (p + 1) (0 : Int32) ((nI ((vN u))) - (1 : Int32))) (q1 tx le p)) (0 : Int32) (9 : Int32) = true then 0 else nI (nV tx le (moP tx le (!nOk tx le (p + 1) (0 : Int32) ((nI ((vN u))) - (1 : Int32))) (q1 tx le p) + 1)))))]) (by rw [if_neg (by simp [k1_])] <;> rfl) ?_
          refine kw_lv (lv' := [(0, .ref (a 0)), (1, .int (nI (lt_))), (2, .int (nI (m0 tx le p))), (3, .int (nI (m1 tx le p))), (4, .int ((if moW tx le (moW tx le (!nOk tx le (p + 1) (0 : Int32) ((nI ((vN u))) - (1 : Int32))) (q1 tx le p) (0 : Int32) ((nI ((vN u))) - (1 : Int32))) (moP tx le (!nOk tx le (p + 1) (0 : Int32) ((nI ((vN u))) - (1 : Int32))) (q1 tx le p)) (0 : Int32) (9 : Int32) = true then 0 else nI (nV tx le (moP tx le (!nOk tx le (p + 1) (0 : Int32) ((nI ((vN u))) - (1 : Int32))) (q1 tx le p) + 1)))))]) (by rw [if_neg (by rw [k2_]; decide)] <;> rfl) ?_
          refine kw_lv (lv' := [(0, .ref (a 0)), (1, .int (nI (lt_))), (2, .int (nI (m0 tx le p))), (3, .int (nI (m1 tx le p))), (4, .int (nI (m2 tx le p)))]) (by rw [if_neg (by rw [w3_eq, cs_]; decide), k3_] <;> rfl) ?_
          refine kb_iload_n X 2 dX6_item_144 rfl rfl ?_
          refine kb_iload_n X 3 dX6_item_145 rfl rfl ?_
          refine kn_icmp_ne (a := m0 tx le p) (b := m1 tx le p) (tgt := 153) X (by omega) (by omega) dX6_item_146 (by decide) (fun c8_ => ?_) (fun c8_ => ?_)
          · skip
            refine kb_iconst (v := (0 : Int32)) X dX6_item_153 (by decide) ?_
            refine kb_put X (C := RX6) (T := TX6) (N := 25) (ci := 6) (ty := .boolean) kw_iX6 tyX6 tyX6_ok nmX6 rfl 0 15 rfl (by decide) kf_X6_97 rfl rfl (by decide +kernel) rfl rfl (Nat.le_of_ble_eq_true rfl) dX6_item_154 (ws' := wR g a pe so ag fr (vN u) ns na (vG u) sl ac ke le tx (moP tx le (moW tx le (!nOk tx le (p + 1) (0 : Int32) ((nI ((vN u))) - (1 : Int32))) (q1 tx le p) (0 : Int32) ((nI ((vN u))) - (1 : Int32))) (moP tx le (!nOk tx le (p + 1) (0 : Int32) ((nI ((vN u))) - (1 : Int32))) (q1 tx le p))) bg false se wh wo bl ck sw ma ro bs) rfl ?_
            refine kb_aload_n X 0 dX6_item_157 rfl rfl ?_
            refine kb_get (v := .int 0) (C := RX6) (T := TX6) (N := 25) (ci := 6) X kw_iX6 rfl 0 15 rfl (by decide) kf_X6_97 rfl rfl dX6_item_158 ?_
            refine kb_if_ne (tgt := 208) X dX6_item_161 (by decide) (fun q_ => absurd q_ (by decide)) (fun _ => ?_)
            refine kb_aload_n X 0 dX6_item_164 rfl rfl ?_
            refine kb_get (v := .ref (a 5)) (C := RX6) (T := TX6) (N := 25) (ci := 6) X kw_iX6 rfl 0 8 rfl (by decide) kf_X6_22 rfl rfl dX6_item_165 ?_
            refine kb_sipush (v := (902 : Int32)) X dX6_item_168 (by decide) ?_
            refine kb_iload_n X 1 dX6_item_171 rfl rfl ?_
            refine kb_bipush (v := (116 : Int32)) X dX6_item_172 (by decide) ?_
            refine kn_icmp_ne (a := lt_) (b := 116) (tgt := 182) X (by omega) (by omega) dX6_item_174 (by decide) (fun c10_ => ?_) (fun c10_ => ?_)
            · skip
              omega
            · skip
              refine kb_bipush (v := (10 : Int32)) X dX6_item_177 (by decide) ?_
              refine kb_goto (tgt := 184) X dX6_item_179 (by decide) ?_
              refine kb_iadd X dX6_item_184 ?_
              refine kw_top (b := .int 912) (by decide) ?_
              refine kb_bipush (v := (6 : Int32)) X dX6_item_185 (by decide) ?_
              refine kb_iload_n X 2 dX6_item_187 rfl rfl ?_
              refine kn_imul X 6 (m0 tx le p) dX6_item_188 ?_
              refine kn_iadd X 912 (6 * (m0 tx le p)) dX6_item_189 ?_
              refine kb_iload_n X 3 dX6_item_190 rfl rfl ?_
              refine kn_iadd X (912 + (6 * (m0 tx le p))) (m1 tx le p) dX6_item_191 ?_
              refine kb_iload_n X 1 dX6_item_192 rfl rfl ?_
              refine kb_bipush (v := (116 : Int32)) X dX6_item_193 (by decide) ?_
              refine kn_icmp_ne (a := lt_) (b := 116) (tgt := 205) X (by omega) (by omega) dX6_item_195 (by decide) (fun c11_ => ?_) (fun c11_ => ?_)
              · skip
                omega
              · skip
                refine kb_iload X 4 dX6_item_198 rfl ?_
                refine kb_iconst (v := (4 : Int32)) X dX6_item_200 (by decide) ?_
                refine kb_isub X dX6_item_201 ?_
                refine kb_goto (tgt := 207) X dX6_item_202 (by decide) ?_
                refine kb_iast (i := (912 + (6 * (m0 tx le p))) + (m1 tx le p)) X 5 rfl (by omega) (by decide) dX6_item_207 (ws' := wR g a pe so ag fr (vN u) ns na (vG u) (upd sl ((912 + (6 * (m0 tx le p))) + (m1 tx le p)) ((nI (m2 tx le p)) - (4 : Int32))) ac ke le tx (moP tx le (moW tx le (!nOk tx le (p + 1) (0 : Int32) ((nI ((vN u))) - (1 : Int32))) (q1 tx le p) (0 : Int32) ((nI ((vN u))) - (1 : Int32))) (moP tx le (!nOk tx le (p + 1) (0 : Int32) ((nI ((vN u))) - (1 : Int32))) (q1 tx le p))) bg false se wh wo bl ck sw ma ro bs) rfl ?_
                generalize hsl12_ : upd sl ((912 + (6 * (m0 tx le p))) + (m1 tx le p)) ((nI (m2 tx le p)) - (4 : Int32)) = sl12_
                have hE13_ : EN sl12_ 902 (sT u (upd (vT u) ((m0 tx le p) * 6 + (m1 tx le p)) ((nI (m2 tx le p)) - (4 : Int32)))) := by rw [← hsl12_]; exact hE.st (p := m0 tx le p) (q := m1 tx le p) (by omega) (by omega) (by omega)
                have hF14_ : FR sl sl12_ 902 := by rw [← hsl12_]; exact FR.up FR.rf (by omega) (by omega)
                refine kb_goto (tgt := 236) X dX6_item_208 (by decide) ?_
                refine ke_v X Z dX6_item_236 ?_
                have e_ : mOk tx le p (vN u) lt_ = true := by simp [mOk, c1_, c2_, cT_, c4_, c6_, cs_, c8_, c10_, c11_]
                rw [e_]
                exact ⟨(vN u), ns, na, (vG u), sl12_, moP tx le (moW tx le (!nOk tx le (p + 1) (0 : Int32) ((nI ((vN u))) - (1 : Int32))) (q1 tx le p) (0 : Int32) ((nI ((vN u))) - (1 : Int32))) (moP tx le (!nOk tx le (p + 1) (0 : Int32) ((nI ((vN u))) - (1 : Int32))) (q1 tx le p)), hF14_, by omega, fun h => ⟨by rw [k3_, k4_, mE, if_neg (by omega)], by rw [show mVv tx le p lt_ u = ttV u (m0 tx le p) (m1 tx le p) (m2 tx le p) by simp [mVv, c1_, c2_, cT_, c4_, c6_, cs_, c8_, c10_, c11_]]; exact hE13_, by rw [show mVv tx le p lt_ u = ttV u (m0 tx le p) (m1 tx le p) (m2 tx le p) by simp [mVv, c1_, c2_, cT_, c4_, c6_, cs_, c8_, c10_, c11_]]; exact hK⟩, rfl⟩
          · skip
            refine kb_iconst (v := (1 : Int32)) X dX6_item_149 (by decide) ?_
            refine kb_goto (tgt := 154) X dX6_item_150 (by decide) ?_
            refine kb_put X (C := RX6) (T := TX6) (N := 25) (ci := 6) (ty := .boolean) kw_iX6 tyX6 tyX6_ok nmX6 rfl 0 15 rfl (by decide) kf_X6_97 rfl rfl (by decide +kernel) rfl rfl (Nat.le_of_ble_eq_true rfl) dX6_item_154 (ws' := wR g a pe so ag fr (vN u) ns na (vG u) sl ac ke le tx (moP tx le (moW tx le (!nOk tx le (p + 1) (0 : Int32) ((nI ((vN u))) - (1 : Int32))) (q1 tx le p) (0 : Int32) ((nI ((vN u))) - (1 : Int32))) (moP tx le (!nOk tx le (p + 1) (0 : Int32) ((nI ((vN u))) - (1 : Int32))) (q1 tx le p))) bg true se wh wo bl ck sw ma ro bs) rfl ?_
            refine kb_aload_n X 0 dX6_item_157 rfl rfl ?_
            refine kb_get (v := .int 1) (C := RX6) (T := TX6) (N := 25) (ci := 6) X kw_iX6 rfl 0 15 rfl (by decide) kf_X6_97 rfl rfl dX6_item_158 ?_
            refine kb_if_ne (tgt := 208) X dX6_item_161 (by decide) (fun _ => ?_) (fun q_ => absurd q_ (by decide))
            refine kb_goto (tgt := 236) X dX6_item_208 (by decide) ?_
            refine ke_v X Z dX6_item_236 ?_
            have e_ : mOk tx le p (vN u) lt_ = false := by simp [mOk, c1_, c2_, cT_, c4_, c6_, cs_, c8_]
            rw [e_]
            exact ⟨(vN u), ns, na, (vG u), sl, moP tx le (moW tx le (!nOk tx le (p + 1) (0 : Int32) ((nI ((vN u))) - (1 : Int32))) (q1 tx le p) (0 : Int32) ((nI ((vN u))) - (1 : Int32))) (moP tx le (!nOk tx le (p + 1) (0 : Int32) ((nI ((vN u))) - (1 : Int32))) (q1 tx le p)), FR.rf, by omega, (fun h => by cases h), rfl⟩
    · skip
      refine kb_iload_n X 1 dX6_item_86 rfl rfl ?_
      refine kb_bipush (v := (111 : Int32)) X dX6_item_87 (by decide) ?_
      refine kn_icmp_ne (a := lt_) (b := 111) (tgt := 211) X (by omega) (by omega) dX6_item_89 (by decide) (fun c16_ => ?_) (fun c16_ => ?_)
      · skip
        refine kb_iload_n X 1 dX6_item_211 rfl rfl ?_
        refine kb_bipush (v := (103 : Int32)) X dX6_item_212 (by decide) ?_
        refine kn_icmp_ne (a := lt_) (b := 103) (tgt := 231) X (by omega) (by omega) dX6_item_214 (by decide) (fun c17_ => ?_) (fun c17_ => ?_)
        · skip
          refine kb_aload_n X 0 dX6_item_231 rfl rfl ?_
          refine kb_iconst (v := (1 : Int32)) X dX6_item_232 (by decide) ?_
          refine kb_put X (C := RX6) (T := TX6) (N := 25) (ci := 6) (ty := .boolean) kw_iX6 tyX6 tyX6_ok nmX6 rfl 0 15 rfl (by decide) kf_X6_97 rfl rfl (by decide +kernel) rfl rfl (Nat.le_of_ble_eq_true rfl) dX6_item_233 (ws' := wR g a pe so ag fr (vN u) ns na (vG u) sl ac ke le tx (p + 1) bg true se wh wo bl ck sw ma ro bs) rfl ?_
          refine ke_v X Z dX6_item_236 ?_
          have e_ : mOk tx le p (vN u) lt_ = false := by simp [mOk, c1_, c2_, c16_, c17_]
          rw [e_]
          exact ⟨(vN u), ns, na, (vG u), sl, (p + 1), FR.rf, by omega, (fun h => by cases h), rfl⟩
        · skip
          refine kb_aload_n X 0 dX6_item_217 rfl rfl ?_
          refine kb_aload_n X 0 dX6_item_218 rfl rfl ?_
          refine kb_iconst (v := (1 : Int32)) X dX6_item_219 (by decide) ?_
          refine kb_bipush (v := (99 : Int32)) X dX6_item_220 (by decide) ?_
          refine kc_Vi X (As := [.int 1, .int 99]) (rest := [.ref (a 0)]) (wr := []) (ct_X6_number l g a pe so ag fr (vN u) ns na (vG u) sl ac ke le tx (p + 1) bg false se wh wo bl ck sw ma ro bs hle (by omega) htx (1 : Int32) (99 : Int32)) dX6_item_222 rfl (kw_pall _) mc_X6_number kl_X6_101 mi_X6_number mv_X6_number kn_X6 0 rfl rfl rfl (na := 2) (by decide +kernel) rfl ⟨Nat.le_of_ble_eq_true rfl, Nat.le_of_ble_eq_true rfl⟩ ⟨rfl, rfl⟩ ⟨Nat.le_of_ble_eq_true rfl, Nat.le_of_ble_eq_true rfl⟩ (Nat.le_of_ble_eq_true rfl) (fun r_ w_ hp_ => ?_)
          rw [Bool.false_or] at hp_
          obtain ⟨rfl, rfl⟩ := hp_
          refine kw_ws (List.append_nil _) ?_
          refine kb_put X (C := RX6) (T := TX6) (N := 25) (ci := 6) (ty := .int) kw_iX6 tyX6 tyX6_ok nmX6 rfl 0 7 rfl (by decide) kf_X6_55 rfl rfl (by decide +kernel) rfl rfl (Nat.le_of_ble_eq_true rfl) dX6_item_225 (ws' := wR g a pe so ag fr (vN u) ns na (if (!nOk tx le (p + 1) (1 : Int32) (99 : Int32)) = true then 0 else nI (nV tx le (p + 1))) sl ac ke le tx (nE tx le (p + 1)) bg (!nOk tx le (p + 1) (1 : Int32) (99 : Int32)) se wh wo bl ck sw ma ro bs) rfl ?_
          refine kb_goto (tgt := 236) X dX6_item_228 (by decide) ?_
          refine ke_v X Z dX6_item_236 ?_
          have e_ : mOk tx le p (vN u) lt_ = nOk tx le (p + 1) 1 99 := by simp [mOk, c1_, c2_, c16_, c17_]
          rw [e_]
          exact ⟨(vN u), ns, na, (if (!nOk tx le (p + 1) (1 : Int32) (99 : Int32)) = true then 0 else nI (nV tx le (p + 1))), sl, nE tx le (p + 1), FR.rf, by have := nE_le (tx := tx) (le := le) (p + 1); omega, fun h => ⟨by rw [mE, if_pos (by omega)]; rfl, by rw [show mVv tx le p lt_ u = sG u (nI (m0 tx le p)) by simp [mVv, c1_, c2_, c16_, c17_]]; exact hE, by rw [show mVv tx le p lt_ u = sG u (nI (m0 tx le p)) by simp [mVv, c1_, c2_, c16_, c17_]]; exact ⟨hK.1, by rw [if_neg (by simp [h])]; rfl, hK.2.2⟩⟩, rfl⟩
      · skip
        refine kb_aload_n X 0 dX6_item_92 rfl rfl ?_
        refine kb_iconst (v := (0 : Int32)) X dX6_item_93 (by decide) ?_
        refine kb_aload_n X 0 dX6_item_94 rfl rfl ?_
        refine kb_get (v := .int (nI ((vN u)))) (C := RX6) (T := TX6) (N := 25) (ci := 6) X kw_iX6 rfl 0 4 rfl (by decide) kf_X6_62 rfl rfl dX6_item_95 ?_
        refine kb_iconst (v := (1 : Int32)) X dX6_item_98 (by decide) ?_
        refine kb_isub X dX6_item_99 ?_
        refine kc_Vi X (As := [.int 0, .int ((nI ((vN u))) - (1 : Int32))]) (rest := []) (wr := []) (ct_X6_number l g a pe so ag fr (vN u) ns na (vG u) sl ac ke le tx (p + 1) bg false se wh wo bl ck sw ma ro bs hle (by omega) htx (0 : Int32) ((nI ((vN u))) - (1 : Int32))) dX6_item_100 rfl (kw_pall _) mc_X6_number kl_X6_101 mi_X6_number mv_X6_number kn_X6 0 rfl rfl rfl (na := 2) (by decide +kernel) rfl ⟨Nat.le_of_ble_eq_true rfl, Nat.le_of_ble_eq_true rfl⟩ ⟨rfl, rfl⟩ ⟨Nat.le_of_ble_eq_true rfl, Nat.le_of_ble_eq_true rfl⟩ (Nat.le_of_ble_eq_true rfl) (fun r_ w_ hp_ => ?_)
        rw [Bool.false_or] at hp_
        obtain ⟨rfl, rfl⟩ := hp_
        refine kw_ws (List.append_nil _) ?_
        refine kb_istore_n X [1, 2, 0] dX6_item_103 rfl (by decide) (lv' := [(0, .ref (a 0)), (1, .int (nI (lt_))), (2, .int ((if (!nOk tx le (p + 1) (0 : Int32) ((nI ((vN u))) - (1 : Int32))) = true then 0 else nI (nV tx le (p + 1)))))]) rfl ?_
        refine kb_aload_n X 0 dX6_item_104 rfl rfl ?_
        refine kb_iconst (v := (0 : Int32)) X dX6_item_105 (by decide) ?_
        refine kb_aload_n X 0 dX6_item_106 rfl rfl ?_
        refine kb_get (v := .int (nI ((vN u)))) (C := RX6) (T := TX6) (N := 25) (ci := 6) X kw_iX6 rfl 0 4 rfl (by decide) kf_X6_62 rfl rfl dX6_item_107 ?_
        refine kb_iconst (v := (1 : Int32)) X dX6_item_110 (by decide) ?_
        refine kb_isub X dX6_item_111 ?_
        refine kc_Vi X (As := [.int 0, .int ((nI ((vN u))) - (1 : Int32))]) (rest := []) (wr := []) (ct_X6_more l g a pe so ag fr (vN u) ns na (vG u) sl ac ke le tx (q1 tx le p) bg (!nOk tx le (p + 1) (0 : Int32) ((nI ((vN u))) - (1 : Int32))) se wh wo bl ck sw ma ro bs hle (by omega) htx (0 : Int32) ((nI ((vN u))) - (1 : Int32))) dX6_item_112 rfl (kw_pall _) mc_X6_more kl_X6_105 mi_X6_more mv_X6_more kn_X6 0 rfl rfl rfl (na := 2) (by decide +kernel) rfl ⟨Nat.le_of_ble_eq_true rfl, Nat.le_of_ble_eq_true rfl⟩ ⟨rfl, rfl⟩ ⟨Nat.le_of_ble_eq_true rfl, Nat.le_of_ble_eq_true rfl⟩ (Nat.le_of_ble_eq_true rfl) (fun r_ w_ hp_ => ?_)
        obtain ⟨rfl, rfl⟩ := hp_
        refine kw_ws (List.append_nil _) ?_
        have hb18_ := moP_le (tx := tx) (le := le) (!nOk tx le (p + 1) (0 : Int32) ((nI ((vN u))) - (1 : Int32))) (q1 tx le p)
        refine kb_istore_n X [1, 2, 3, 0] dX6_item_115 rfl (by decide) (lv' := [(0, .ref (a 0)), (1, .int (nI (lt_))), (2, .int ((if (!nOk tx le (p + 1) (0 : Int32) ((nI ((vN u))) - (1 : Int32))) = true then 0 else nI (nV tx le (p + 1))))), (3, .int ((if moW tx le (!nOk tx le (p + 1) (0 : Int32) ((nI ((vN u))) - (1 : Int32))) (q1 tx le p) (0 : Int32) ((nI ((vN u))) - (1 : Int32)) = true then 0 else nI (nV tx le (q1 tx le p + 1)))))]) rfl ?_
        refine kb_aload_n X 0 dX6_item_116 rfl rfl ?_
        refine kb_iconst (v := (0 : Int32)) X dX6_item_117 (by decide) ?_
        refine kb_iload_n X 1 dX6_item_118 rfl rfl ?_
        refine kb_bipush (v := (116 : Int32)) X dX6_item_119 (by decide) ?_
        refine kn_icmp_ne (a := lt_) (b := 116) (tgt := 129) X (by omega) (by omega) dX6_item_121 (by decide) (fun c19_ => ?_) (fun c19_ => ?_)
        · skip
          refine kb_bipush (v := (60 : Int32)) X dX6_item_129 (by decide) ?_
          refine kc_Vi X (As := [.int 0, .int 60]) (rest := []) (wr := []) (ct_X6_more l g a pe so ag fr (vN u) ns na (vG u) sl ac ke le tx (moP tx le (!nOk tx le (p + 1) (0 : Int32) ((nI ((vN u))) - (1 : Int32))) (q1 tx le p)) bg (moW tx le (!nOk tx le (p + 1) (0 : Int32) ((nI ((vN u))) - (1 : Int32))) (q1 tx le p) (0 : Int32) ((nI ((vN u))) - (1 : Int32))) se wh wo bl ck sw ma ro bs hle (by omega) htx (0 : Int32) (60 : Int32)) dX6_item_131 rfl (kw_pall _) mc_X6_more kl_X6_105 mi_X6_more mv_X6_more kn_X6 0 rfl rfl rfl (na := 2) (by decide +kernel) rfl ⟨Nat.le_of_ble_eq_true rfl, Nat.le_of_ble_eq_true rfl⟩ ⟨rfl, rfl⟩ ⟨Nat.le_of_ble_eq_true rfl, Nat.le_of_ble_eq_true rfl⟩ (Nat.le_of_ble_eq_true rfl) (fun r_ w_ hp_ => ?_)
          obtain ⟨rfl, rfl⟩ := hp_
          refine kw_ws (List.append_nil _) ?_
          have hb20_ := moP_le (tx := tx) (le := le) (moW tx le (!nOk tx le (p + 1) (0 : Int32) ((nI ((vN u))) - (1 : Int32))) (q1 tx le p) (0 : Int32) ((nI ((vN u))) - (1 : Int32))) (moP tx le (!nOk tx le (p + 1) (0 : Int32) ((nI ((vN u))) - (1 : Int32))) (q1 tx le p))
          refine kb_istore X [1, 2, 3, 4, 0] dX6_item_134 (by decide) (lv' := [(0, .ref (a 0)), (1, .int (nI (lt_))), (2, .int ((if (!nOk tx le (p + 1) (0 : Int32) ((nI ((vN u))) - (1 : Int32))) = true then 0 else nI (nV tx le (p + 1))))), (3, .int ((if moW tx le (!nOk tx le (p + 1) (0 : Int32) ((nI ((vN u))) - (1 : Int32))) (q1 tx le p) (0 : Int32) ((nI ((vN u))) - (1 : Int32)) = true then 0 else nI (nV tx le (q1 tx le p + 1))))), (4, .int ((if moW tx le (moW tx le (!nOk tx le (p + 1) (0 : Int32) ((nI ((vN u))) - (1 : Int32))) (q1 tx le p) (0 : Int32) ((nI ((vN u))) - (1 : Int32))) (moP tx le (!nOk tx le (p + 1) (0 : Int32) ((nI ((vN u))) - (1 : Int32))) (q1 tx le p)) (0 : Int32) (60 : Int32) = true then 0 else nI (nV tx le (moP tx le (!nOk tx le (p + 1) (0 : Int32) ((nI ((vN u))) - (1 : Int32))) (q1 tx le p) + 1)))))]) rfl ?_
          refine kw_ws (ws' := wR g a pe so ag fr (vN u) ns na (vG u) sl ac ke le tx (moP tx le (moW tx le (!nOk tx le (p + 1) (0 : Int32) ((nI ((vN u))) - (1 : Int32))) (q1 tx le p) (0 : Int32) ((nI ((vN u))) - (1 : Int32))) (moP tx le (!nOk tx le (p + 1) (0 : Int32) ((nI ((vN u))) - (1 : Int32))) (q1 tx le p))) bg (!sy3 tx le p 0 (nI (vN u) - 1) 0 (nI (vN u) - 1) 0 60) se wh wo bl ck sw ma ro bs) (by rw [w3_eq]) ?_
          refine kb_aload_n X 0 dX6_item_136 rfl rfl ?_
          refine kb_aload_n X 0 dX6_item_137 rfl rfl ?_
          refine kb_get (v := .int (zI ((!sy3 tx le p 0 (nI (vN u) - 1) 0 (nI (vN u) - 1) 0 60)))) (C := RX6) (T := TX6) (N := 25) (ci := 6) X kw_iX6 rfl 0 15 rfl (by decide) kf_X6_97 rfl rfl dX6_item_138 ?_
          refine kz_if_ne (b := (!sy3 tx le p 0 (nI (vN u) - 1) 0 (nI (vN u) - 1) 0 60)) (tgt := 149) X dX6_item_141 (by decide) (fun c21_ => ?_) (fun c21_ => ?_)
          · skip
            have cs_ : sy3 tx le p 0 (nI (vN u) - 1) 0 (nI (vN u) - 1) 0 60 = false := by
              cases q_ : sy3 tx le p 0 (nI (vN u) - 1) 0 (nI (vN u) - 1) 0 60 with
              | false => rfl
              | true => rw [q_] at c21_; cases c21_
            refine kb_iconst (v := (1 : Int32)) X dX6_item_149 (by decide) ?_
            refine kb_goto (tgt := 154) X dX6_item_150 (by decide) ?_
            refine kb_put X (C := RX6) (T := TX6) (N := 25) (ci := 6) (ty := .boolean) kw_iX6 tyX6 tyX6_ok nmX6 rfl 0 15 rfl (by decide) kf_X6_97 rfl rfl (by decide +kernel) rfl rfl (Nat.le_of_ble_eq_true rfl) dX6_item_154 (ws' := wR g a pe so ag fr (vN u) ns na (vG u) sl ac ke le tx (moP tx le (moW tx le (!nOk tx le (p + 1) (0 : Int32) ((nI ((vN u))) - (1 : Int32))) (q1 tx le p) (0 : Int32) ((nI ((vN u))) - (1 : Int32))) (moP tx le (!nOk tx le (p + 1) (0 : Int32) ((nI ((vN u))) - (1 : Int32))) (q1 tx le p))) bg true se wh wo bl ck sw ma ro bs) rfl ?_
            refine kb_aload_n X 0 dX6_item_157 rfl rfl ?_
            refine kb_get (v := .int 1) (C := RX6) (T := TX6) (N := 25) (ci := 6) X kw_iX6 rfl 0 15 rfl (by decide) kf_X6_97 rfl rfl dX6_item_158 ?_
            refine kb_if_ne (tgt := 208) X dX6_item_161 (by decide) (fun _ => ?_) (fun q_ => absurd q_ (by decide))
            refine kb_goto (tgt := 236) X dX6_item_208 (by decide) ?_
            refine ke_v X Z dX6_item_236 ?_
            have e_ : mOk tx le p (vN u) lt_ = false := by simp [mOk, c1_, c2_, c16_, c19_, c21_, cs_]
            rw [e_]
            exact ⟨(vN u), ns, na, (vG u), sl, moP tx le (moW tx le (!nOk tx le (p + 1) (0 : Int32) ((nI ((vN u))) - (1 : Int32))) (q1 tx le p) (0 : Int32) ((nI ((vN u))) - (1 : Int32))) (moP tx le (!nOk tx le (p + 1) (0 : Int32) ((nI ((vN u))) - (1 : Int32))) (q1 tx le p)), FR.rf, by omega, (fun h => by cases h), rfl⟩
          · skip
            have cs_ : sy3 tx le p 0 (nI (vN u) - 1) 0 (nI (vN u) - 1) 0 60 = true := by
              cases q_ : sy3 tx le p 0 (nI (vN u) - 1) 0 (nI (vN u) - 1) 0 60 with
              | true => rfl
              | false => rw [q_] at c21_; cases c21_
            obtain ⟨k1_, k2_, k3_, k4_, k5_, k6_⟩ := w3_ok cs_
            have hm0_ : m0 tx le p < vN u := nOk_lt htx hv.1 k1_
            have hm1_ : m1 tx le p < vN u := nOk_lt htx hv.1 k5_
            have h6_ := hv.1
            refine kw_lv (lv' := [(0, .ref (a 0)), (1, .int (nI (lt_))), (2, .int (nI (m0 tx le p))), (3, .int ((if moW tx le (!nOk tx le (p + 1) (0 : Int32) ((nI ((vN u))) - (1 : Int32))) (q1 tx le p) (0 : Int32) ((nI ((vN u))) - (1 : Int32)) = true then 0 else nI (nV tx le (q1 tx le p + 1))))), (4, .int ((if moW tx le (moW tx le (!nOk tx le (p + 1) (0 : Int32) ((nI ((vN u))) - (1 : Int32))) (q1 tx le p) (0 : Int32) ((nI ((vN u))) - (1 : Int32))) (moP tx le (!nOk tx le (p + 1) (0 : Int32) ((nI ((vN u))) - (1 : Int32))) (q1 tx le p)) (0 : Int32) (60 : Int32) = true then 0 else nI (nV tx le (moP tx le (!nOk tx le (p + 1) (0 : Int32) ((nI ((vN u))) - (1 : Int32))) (q1 tx le p) + 1)))))]) (by rw [if_neg (by simp [k1_])] <;> rfl) ?_
            refine kw_lv (lv' := [(0, .ref (a 0)), (1, .int (nI (lt_))), (2, .int (nI (m0 tx le p))), (3, .int (nI (m1 tx le p))), (4, .int ((if moW tx le (moW tx le (!nOk tx le (p + 1) (0 : Int32) ((nI ((vN u))) - (1 : Int32))) (q1 tx le p) (0 : Int32) ((nI ((vN u))) - (1 : Int32))) (moP tx le (!nOk tx le (p + 1) (0 : Int32) ((nI ((vN u))) - (1 : Int32))) (q1 tx le p)) (0 : Int32) (60 : Int32) = true then 0 else nI (nV tx le (moP tx le (!nOk tx le (p + 1) (0 : Int32) ((nI ((vN u))) - (1 : Int32))) (q1 tx le p) + 1)))))]) (by rw [if_neg (by rw [k2_]; decide)] <;> rfl) ?_
            refine kw_lv (lv' := [(0, .ref (a 0)), (1, .int (nI (lt_))), (2, .int (nI (m0 tx le p))), (3, .int (nI (m1 tx le p))), (4, .int (nI (m2 tx le p)))]) (by rw [if_neg (by rw [w3_eq, cs_]; decide), k3_] <;> rfl) ?_
            refine kb_iload_n X 2 dX6_item_144 rfl rfl ?_
            refine kb_iload_n X 3 dX6_item_145 rfl rfl ?_
            refine kn_icmp_ne (a := m0 tx le p) (b := m1 tx le p) (tgt := 153) X (by omega) (by omega) dX6_item_146 (by decide) (fun c23_ => ?_) (fun c23_ => ?_)
            · skip
              refine kb_iconst (v := (0 : Int32)) X dX6_item_153 (by decide) ?_
              refine kb_put X (C := RX6) (T := TX6) (N := 25) (ci := 6) (ty := .boolean) kw_iX6 tyX6 tyX6_ok nmX6 rfl 0 15 rfl (by decide) kf_X6_97 rfl rfl (by decide +kernel) rfl rfl (Nat.le_of_ble_eq_true rfl) dX6_item_154 (ws' := wR g a pe so ag fr (vN u) ns na (vG u) sl ac ke le tx (moP tx le (moW tx le (!nOk tx le (p + 1) (0 : Int32) ((nI ((vN u))) - (1 : Int32))) (q1 tx le p) (0 : Int32) ((nI ((vN u))) - (1 : Int32))) (moP tx le (!nOk tx le (p + 1) (0 : Int32) ((nI ((vN u))) - (1 : Int32))) (q1 tx le p))) bg false se wh wo bl ck sw ma ro bs) rfl ?_
              refine kb_aload_n X 0 dX6_item_157 rfl rfl ?_
              refine kb_get (v := .int 0) (C := RX6) (T := TX6) (N := 25) (ci := 6) X kw_iX6 rfl 0 15 rfl (by decide) kf_X6_97 rfl rfl dX6_item_158 ?_
              refine kb_if_ne (tgt := 208) X dX6_item_161 (by decide) (fun q_ => absurd q_ (by decide)) (fun _ => ?_)
              refine kb_aload_n X 0 dX6_item_164 rfl rfl ?_
              refine kb_get (v := .ref (a 5)) (C := RX6) (T := TX6) (N := 25) (ci := 6) X kw_iX6 rfl 0 8 rfl (by decide) kf_X6_22 rfl rfl dX6_item_165 ?_
              refine kb_sipush (v := (902 : Int32)) X dX6_item_168 (by decide) ?_
              refine kb_iload_n X 1 dX6_item_171 rfl rfl ?_
              refine kb_bipush (v := (116 : Int32)) X dX6_item_172 (by decide) ?_
              refine kn_icmp_ne (a := lt_) (b := 116) (tgt := 182) X (by omega) (by omega) dX6_item_174 (by decide) (fun c25_ => ?_) (fun c25_ => ?_)
              · skip
                refine kb_bipush (v := (46 : Int32)) X dX6_item_182 (by decide) ?_
                refine kb_iadd X dX6_item_184 ?_
                refine kw_top (b := .int 948) (by decide) ?_
                refine kb_bipush (v := (6 : Int32)) X dX6_item_185 (by decide) ?_
                refine kb_iload_n X 2 dX6_item_187 rfl rfl ?_
                refine kn_imul X 6 (m0 tx le p) dX6_item_188 ?_
                refine kn_iadd X 948 (6 * (m0 tx le p)) dX6_item_189 ?_
                refine kb_iload_n X 3 dX6_item_190 rfl rfl ?_
                refine kn_iadd X (948 + (6 * (m0 tx le p))) (m1 tx le p) dX6_item_191 ?_
                refine kb_iload_n X 1 dX6_item_192 rfl rfl ?_
                refine kb_bipush (v := (116 : Int32)) X dX6_item_193 (by decide) ?_
                refine kn_icmp_ne (a := lt_) (b := 116) (tgt := 205) X (by omega) (by omega) dX6_item_195 (by decide) (fun c26_ => ?_) (fun c26_ => ?_)
                · skip
                  refine kb_iload X 4 dX6_item_205 rfl ?_
                  refine kb_iast (i := (948 + (6 * (m0 tx le p))) + (m1 tx le p)) X 5 rfl (by omega) (by decide) dX6_item_207 (ws' := wR g a pe so ag fr (vN u) ns na (vG u) (upd sl ((948 + (6 * (m0 tx le p))) + (m1 tx le p)) (nI (m2 tx le p))) ac ke le tx (moP tx le (moW tx le (!nOk tx le (p + 1) (0 : Int32) ((nI ((vN u))) - (1 : Int32))) (q1 tx le p) (0 : Int32) ((nI ((vN u))) - (1 : Int32))) (moP tx le (!nOk tx le (p + 1) (0 : Int32) ((nI ((vN u))) - (1 : Int32))) (q1 tx le p))) bg false se wh wo bl ck sw ma ro bs) rfl ?_
                  generalize hsl27_ : upd sl ((948 + (6 * (m0 tx le p))) + (m1 tx le p)) (nI (m2 tx le p)) = sl27_
                  have hE28_ : EN sl27_ 902 (sD u (upd (vD u) ((m0 tx le p) * 6 + (m1 tx le p)) (nI (m2 tx le p)))) := by rw [← hsl27_]; exact hE.sd (p := m0 tx le p) (q := m1 tx le p) (by omega) (by omega) (by omega)
                  have hF29_ : FR sl sl27_ 902 := by rw [← hsl27_]; exact FR.up FR.rf (by omega) (by omega)
                  refine kb_goto (tgt := 236) X dX6_item_208 (by decide) ?_
                  refine ke_v X Z dX6_item_236 ?_
                  have e_ : mOk tx le p (vN u) lt_ = true := by simp [mOk, c1_, c2_, c16_, c19_, c21_, cs_, c23_, c25_, c26_]
                  rw [e_]
                  exact ⟨(vN u), ns, na, (vG u), sl27_, moP tx le (moW tx le (!nOk tx le (p + 1) (0 : Int32) ((nI ((vN u))) - (1 : Int32))) (q1 tx le p) (0 : Int32) ((nI ((vN u))) - (1 : Int32))) (moP tx le (!nOk tx le (p + 1) (0 : Int32) ((nI ((vN u))) - (1 : Int32))) (q1 tx le p)), hF29_, by omega, fun h => ⟨by rw [k3_, k4_, mE, if_neg (by omega)], by rw [show mVv tx le p lt_ u = tdV u (m0 tx le p) (m1 tx le p) (m2 tx le p) by simp [mVv, c1_, c2_, c16_, c19_, c21_, cs_, c23_, c25_, c26_]]; exact hE28_, by rw [show mVv tx le p lt_ u = tdV u (m0 tx le p) (m1 tx le p) (m2 tx le p) by simp [mVv, c1_, c2_, c16_, c19_, c21_, cs_, c23_, c25_, c26_]]; exact hK⟩, rfl⟩
                · skip
                  omega
              · skip
                omega
            · skip
              refine kb_iconst (v := (1 : Int32)) X dX6_item_149 (by decide) ?_
              refine kb_goto (tgt := 154) X dX6_item_150 (by decide) ?_
              refine kb_put X (C := RX6) (T := TX6) (N := 25) (ci := 6) (ty := .boolean) kw_iX6 tyX6 tyX6_ok nmX6 rfl 0 15 rfl (by decide) kf_X6_97 rfl rfl (by decide +kernel) rfl rfl (Nat.le_of_ble_eq_true rfl) dX6_item_154 (ws' := wR g a pe so ag fr (vN u) ns na (vG u) sl ac ke le tx (moP tx le (moW tx le (!nOk tx le (p + 1) (0 : Int32) ((nI ((vN u))) - (1 : Int32))) (q1 tx le p) (0 : Int32) ((nI ((vN u))) - (1 : Int32))) (moP tx le (!nOk tx le (p + 1) (0 : Int32) ((nI ((vN u))) - (1 : Int32))) (q1 tx le p))) bg true se wh wo bl ck sw ma ro bs) rfl ?_
              refine kb_aload_n X 0 dX6_item_157 rfl rfl ?_
              refine kb_get (v := .int 1) (C := RX6) (T := TX6) (N := 25) (ci := 6) X kw_iX6 rfl 0 15 rfl (by decide) kf_X6_97 rfl rfl dX6_item_158 ?_
              refine kb_if_ne (tgt := 208) X dX6_item_161 (by decide) (fun _ => ?_) (fun q_ => absurd q_ (by decide))
              refine kb_goto (tgt := 236) X dX6_item_208 (by decide) ?_
              refine ke_v X Z dX6_item_236 ?_
              have e_ : mOk tx le p (vN u) lt_ = false := by simp [mOk, c1_, c2_, c16_, c19_, c21_, cs_, c23_]
              rw [e_]
              exact ⟨(vN u), ns, na, (vG u), sl, moP tx le (moW tx le (!nOk tx le (p + 1) (0 : Int32) ((nI ((vN u))) - (1 : Int32))) (q1 tx le p) (0 : Int32) ((nI ((vN u))) - (1 : Int32))) (moP tx le (!nOk tx le (p + 1) (0 : Int32) ((nI ((vN u))) - (1 : Int32))) (q1 tx le p)), FR.rf, by omega, (fun h => by cases h), rfl⟩
        · skip
          omega
  · skip
    refine kb_aload_n X 0 dX6_item_6 rfl rfl ?_
    refine kb_aload_n X 0 dX6_item_7 rfl rfl ?_
    refine kb_get (v := .int (nI ((vN u)))) (C := RX6) (T := TX6) (N := 25) (ci := 6) X kw_iX6 rfl 0 4 rfl (by decide) kf_X6_62 rfl rfl dX6_item_8 ?_
    refine kb_bipush (v := (6 : Int32)) X dX6_item_11 (by decide) ?_
    refine kn_icmp_ne (a := (vN u)) (b := 6) (tgt := 20) X (by omega) (by omega) dX6_item_13 (by decide) (fun c31_ => ?_) (fun c31_ => ?_)
    · skip
      refine kb_iconst (v := (0 : Int32)) X dX6_item_20 (by decide) ?_
      refine kb_put X (C := RX6) (T := TX6) (N := 25) (ci := 6) (ty := .boolean) kw_iX6 tyX6 tyX6_ok nmX6 rfl 0 15 rfl (by decide) kf_X6_97 rfl rfl (by decide +kernel) rfl rfl (Nat.le_of_ble_eq_true rfl) dX6_item_21 (ws' := wR g a pe so ag fr (vN u) ns na (vG u) sl ac ke le tx (p + 1) bg false se wh wo bl ck sw ma ro bs) rfl ?_
      refine kb_aload_n X 0 dX6_item_24 rfl rfl ?_
      refine kb_get (v := .int 0) (C := RX6) (T := TX6) (N := 25) (ci := 6) X kw_iX6 rfl 0 15 rfl (by decide) kf_X6_97 rfl rfl dX6_item_25 ?_
      refine kb_if_eq (tgt := 35) X dX6_item_28 (by decide) (fun _ => ?_) (fun q_ => absurd q_ (by decide))
      refine kb_aload_n X 0 dX6_item_35 rfl rfl ?_
      refine kb_iconst (v := (0 : Int32)) X dX6_item_36 (by decide) ?_
      refine kb_iconst (v := (4 : Int32)) X dX6_item_37 (by decide) ?_
      refine kc_Vi X (As := [.int 0, .int 4]) (rest := []) (wr := []) (ct_X6_number l g a pe so ag fr (vN u) ns na (vG u) sl ac ke le tx (p + 1) bg false se wh wo bl ck sw ma ro bs hle (by omega) htx (0 : Int32) (4 : Int32)) dX6_item_38 rfl (kw_pall _) mc_X6_number kl_X6_101 mi_X6_number mv_X6_number kn_X6 0 rfl rfl rfl (na := 2) (by decide +kernel) rfl ⟨Nat.le_of_ble_eq_true rfl, Nat.le_of_ble_eq_true rfl⟩ ⟨rfl, rfl⟩ ⟨Nat.le_of_ble_eq_true rfl, Nat.le_of_ble_eq_true rfl⟩ (Nat.le_of_ble_eq_true rfl) (fun r_ w_ hp_ => ?_)
      rw [Bool.false_or] at hp_
      obtain ⟨rfl, rfl⟩ := hp_
      refine kw_ws (List.append_nil _) ?_
      refine kb_istore_n X [1, 2, 0] dX6_item_41 rfl (by decide) (lv' := [(0, .ref (a 0)), (1, .int (nI (lt_))), (2, .int ((if (!nOk tx le (p + 1) (0 : Int32) (4 : Int32)) = true then 0 else nI (nV tx le (p + 1)))))]) rfl ?_
      refine kb_aload_n X 0 dX6_item_42 rfl rfl ?_
      refine kb_iconst (v := (0 : Int32)) X dX6_item_43 (by decide) ?_
      refine kb_bipush (v := (99 : Int32)) X dX6_item_44 (by decide) ?_
      refine kc_Vi X (As := [.int 0, .int 99]) (rest := []) (wr := []) (ct_X6_more l g a pe so ag fr (vN u) ns na (vG u) sl ac ke le tx (q1 tx le p) bg (!nOk tx le (p + 1) (0 : Int32) (4 : Int32)) se wh wo bl ck sw ma ro bs hle (by omega) htx (0 : Int32) (99 : Int32)) dX6_item_46 rfl (kw_pall _) mc_X6_more kl_X6_105 mi_X6_more mv_X6_more kn_X6 0 rfl rfl rfl (na := 2) (by decide +kernel) rfl ⟨Nat.le_of_ble_eq_true rfl, Nat.le_of_ble_eq_true rfl⟩ ⟨rfl, rfl⟩ ⟨Nat.le_of_ble_eq_true rfl, Nat.le_of_ble_eq_true rfl⟩ (Nat.le_of_ble_eq_true rfl) (fun r_ w_ hp_ => ?_)
      obtain ⟨rfl, rfl⟩ := hp_
      refine kw_ws (List.append_nil _) ?_
      have hb33_ := moP_le (tx := tx) (le := le) (!nOk tx le (p + 1) (0 : Int32) (4 : Int32)) (q1 tx le p)
      refine kb_istore_n X [1, 2, 3, 0] dX6_item_49 rfl (by decide) (lv' := [(0, .ref (a 0)), (1, .int (nI (lt_))), (2, .int ((if (!nOk tx le (p + 1) (0 : Int32) (4 : Int32)) = true then 0 else nI (nV tx le (p + 1))))), (3, .int ((if moW tx le (!nOk tx le (p + 1) (0 : Int32) (4 : Int32)) (q1 tx le p) (0 : Int32) (99 : Int32) = true then 0 else nI (nV tx le (q1 tx le p + 1)))))]) rfl ?_
      refine kb_aload_n X 0 dX6_item_50 rfl rfl ?_
      refine kb_iconst (v := (0 : Int32)) X dX6_item_51 (by decide) ?_
      refine kb_bipush (v := (60 : Int32)) X dX6_item_52 (by decide) ?_
      refine kc_Vi X (As := [.int 0, .int 60]) (rest := []) (wr := []) (ct_X6_more l g a pe so ag fr (vN u) ns na (vG u) sl ac ke le tx (moP tx le (!nOk tx le (p + 1) (0 : Int32) (4 : Int32)) (q1 tx le p)) bg (moW tx le (!nOk tx le (p + 1) (0 : Int32) (4 : Int32)) (q1 tx le p) (0 : Int32) (99 : Int32)) se wh wo bl ck sw ma ro bs hle (by omega) htx (0 : Int32) (60 : Int32)) dX6_item_54 rfl (kw_pall _) mc_X6_more kl_X6_105 mi_X6_more mv_X6_more kn_X6 0 rfl rfl rfl (na := 2) (by decide +kernel) rfl ⟨Nat.le_of_ble_eq_true rfl, Nat.le_of_ble_eq_true rfl⟩ ⟨rfl, rfl⟩ ⟨Nat.le_of_ble_eq_true rfl, Nat.le_of_ble_eq_true rfl⟩ (Nat.le_of_ble_eq_true rfl) (fun r_ w_ hp_ => ?_)
      obtain ⟨rfl, rfl⟩ := hp_
      refine kw_ws (List.append_nil _) ?_
      have hb34_ := moP_le (tx := tx) (le := le) (moW tx le (!nOk tx le (p + 1) (0 : Int32) (4 : Int32)) (q1 tx le p) (0 : Int32) (99 : Int32)) (moP tx le (!nOk tx le (p + 1) (0 : Int32) (4 : Int32)) (q1 tx le p))
      refine kb_istore X [1, 2, 3, 4, 0] dX6_item_57 (by decide) (lv' := [(0, .ref (a 0)), (1, .int (nI (lt_))), (2, .int ((if (!nOk tx le (p + 1) (0 : Int32) (4 : Int32)) = true then 0 else nI (nV tx le (p + 1))))), (3, .int ((if moW tx le (!nOk tx le (p + 1) (0 : Int32) (4 : Int32)) (q1 tx le p) (0 : Int32) (99 : Int32) = true then 0 else nI (nV tx le (q1 tx le p + 1))))), (4, .int ((if moW tx le (moW tx le (!nOk tx le (p + 1) (0 : Int32) (4 : Int32)) (q1 tx le p) (0 : Int32) (99 : Int32)) (moP tx le (!nOk tx le (p + 1) (0 : Int32) (4 : Int32)) (q1 tx le p)) (0 : Int32) (60 : Int32) = true then 0 else nI (nV tx le (moP tx le (!nOk tx le (p + 1) (0 : Int32) (4 : Int32)) (q1 tx le p) + 1)))))]) rfl ?_
      refine kw_ws (ws' := wR g a pe so ag fr (vN u) ns na (vG u) sl ac ke le tx (moP tx le (moW tx le (!nOk tx le (p + 1) (0 : Int32) (4 : Int32)) (q1 tx le p) (0 : Int32) (99 : Int32)) (moP tx le (!nOk tx le (p + 1) (0 : Int32) (4 : Int32)) (q1 tx le p))) bg (!sy3 tx le p 0 4 0 99 0 60) se wh wo bl ck sw ma ro bs) (by rw [w3_eq]) ?_
      refine kb_aload_n X 0 dX6_item_59 rfl rfl ?_
      refine kb_get (v := .int (zI ((!sy3 tx le p 0 4 0 99 0 60)))) (C := RX6) (T := TX6) (N := 25) (ci := 6) X kw_iX6 rfl 0 15 rfl (by decide) kf_X6_97 rfl rfl dX6_item_60 ?_
      refine kz_if_ne (b := (!sy3 tx le p 0 4 0 99 0 60)) (tgt := 77) X dX6_item_63 (by decide) (fun c35_ => ?_) (fun c35_ => ?_)
      · skip
        have cs_ : sy3 tx le p 0 4 0 99 0 60 = false := by
          cases q_ : sy3 tx le p 0 4 0 99 0 60 with
          | false => rfl
          | true => rw [q_] at c35_; cases c35_
        refine kw_ws (ws' := wR g a pe so ag fr (vN u) ns na (vG u) sl ac ke le tx (moP tx le (moW tx le (!nOk tx le (p + 1) (0 : Int32) (4 : Int32)) (q1 tx le p) (0 : Int32) (99 : Int32)) (moP tx le (!nOk tx le (p + 1) (0 : Int32) (4 : Int32)) (q1 tx le p))) bg true se wh wo bl ck sw ma ro bs) (by rw [cs_] <;> rfl) ?_
        refine kb_goto (tgt := 236) X dX6_item_77 (by decide) ?_
        refine ke_v X Z dX6_item_236 ?_
        have e_ : mOk tx le p (vN u) lt_ = false := by simp [mOk, c1_, c31_, c35_, cs_]
        rw [e_]
        exact ⟨(vN u), ns, na, (vG u), sl, moP tx le (moW tx le (!nOk tx le (p + 1) (0 : Int32) (4 : Int32)) (q1 tx le p) (0 : Int32) (99 : Int32)) (moP tx le (!nOk tx le (p + 1) (0 : Int32) (4 : Int32)) (q1 tx le p)), FR.rf, by omega, (fun h => by cases h), rfl⟩
      · skip
        have cs_ : sy3 tx le p 0 4 0 99 0 60 = true := by
          cases q_ : sy3 tx le p 0 4 0 99 0 60 with
          | true => rfl
          | false => rw [q_] at c35_; cases c35_
        obtain ⟨k1_, k2_, k3_, k4_, k5_, k6_⟩ := w3_ok cs_
        refine kw_ws (ws' := wR g a pe so ag fr (vN u) ns na (vG u) sl ac ke le tx (moP tx le (moW tx le (!nOk tx le (p + 1) (0 : Int32) (4 : Int32)) (q1 tx le p) (0 : Int32) (99 : Int32)) (moP tx le (!nOk tx le (p + 1) (0 : Int32) (4 : Int32)) (q1 tx le p))) bg false se wh wo bl ck sw ma ro bs) (by rw [cs_] <;> rfl) ?_
        refine kw_lv (lv' := [(0, .ref (a 0)), (1, .int (nI (lt_))), (2, .int (nI (m0 tx le p))), (3, .int ((if moW tx le (!nOk tx le (p + 1) (0 : Int32) (4 : Int32)) (q1 tx le p) (0 : Int32) (99 : Int32) = true then 0 else nI (nV tx le (q1 tx le p + 1))))), (4, .int ((if moW tx le (moW tx le (!nOk tx le (p + 1) (0 : Int32) (4 : Int32)) (q1 tx le p) (0 : Int32) (99 : Int32)) (moP tx le (!nOk tx le (p + 1) (0 : Int32) (4 : Int32)) (q1 tx le p)) (0 : Int32) (60 : Int32) = true then 0 else nI (nV tx le (moP tx le (!nOk tx le (p + 1) (0 : Int32) (4 : Int32)) (q1 tx le p) + 1)))))]) (by rw [if_neg (by simp [k1_])] <;> rfl) ?_
        refine kw_lv (lv' := [(0, .ref (a 0)), (1, .int (nI (lt_))), (2, .int (nI (m0 tx le p))), (3, .int (nI (m1 tx le p))), (4, .int ((if moW tx le (moW tx le (!nOk tx le (p + 1) (0 : Int32) (4 : Int32)) (q1 tx le p) (0 : Int32) (99 : Int32)) (moP tx le (!nOk tx le (p + 1) (0 : Int32) (4 : Int32)) (q1 tx le p)) (0 : Int32) (60 : Int32) = true then 0 else nI (nV tx le (moP tx le (!nOk tx le (p + 1) (0 : Int32) (4 : Int32)) (q1 tx le p) + 1)))))]) (by rw [if_neg (by rw [k2_]; decide)] <;> rfl) ?_
        refine kw_lv (lv' := [(0, .ref (a 0)), (1, .int (nI (lt_))), (2, .int (nI (m0 tx le p))), (3, .int (nI (m1 tx le p))), (4, .int (nI (m2 tx le p)))]) (by rw [if_neg (by rw [w3_eq, cs_]; decide), k3_] <;> rfl) ?_
        refine kb_aload_n X 0 dX6_item_66 rfl rfl ?_
        refine kb_sipush (v := (902 : Int32)) X dX6_item_67 (by decide) ?_
        refine kb_iload_n X 2 dX6_item_70 rfl rfl ?_
        refine kb_iload_n X 3 dX6_item_71 rfl rfl ?_
        refine kb_iload X 4 dX6_item_72 rfl ?_
        refine kc_Vv X (As := [.int 902, .int (nI (m0 tx le p)), .int (nI (m1 tx le p)), .int (nI (m2 tx le p))]) (rest := []) (wr := []) (ct_X6_lives l g a pe so ag fr (vN u) ns na (vG u) sl ac ke le tx (moP tx le (moW tx le (!nOk tx le (p + 1) (0 : Int32) (4 : Int32)) (q1 tx le p) (0 : Int32) (99 : Int32)) (moP tx le (!nOk tx le (p + 1) (0 : Int32) (4 : Int32)) (q1 tx le p))) bg false se wh wo bl ck sw ma ro bs 902 (nI (m0 tx le p)) (nI (m1 tx le p)) (nI (m2 tx le p)) (by omega) (by omega)) dX6_item_74 rfl (kw_pall _) mc_X6_lives kl_X6_51 mi_X6_lives mv_X6_lives kn_X6 0 rfl rfl rfl (na := 4) (by decide +kernel) rfl ⟨Nat.le_of_ble_eq_true rfl, Nat.le_of_ble_eq_true rfl⟩ ⟨rfl, rfl⟩ ⟨Nat.le_of_ble_eq_true rfl, Nat.le_of_ble_eq_true rfl⟩ (Nat.le_of_ble_eq_true rfl) (fun w_ hp_ => ?_)
        obtain rfl := hp_
        refine kw_ws (List.append_nil _) ?_
        refine kb_goto (tgt := 236) X dX6_item_77 (by decide) ?_
        refine ke_v X Z dX6_item_236 ?_
        have e_ : mOk tx le p (vN u) lt_ = true := by simp [mOk, c1_, c31_, c35_, cs_]
        rw [e_]
        exact ⟨(vN u) + 1, upd ns (vN u) (nI (m0 tx le p)), upd na (vN u) (nI (m1 tx le p)), (vG u), upd sl (902 + (vN u)) (nI (m2 tx le p)), moP tx le (moW tx le (!nOk tx le (p + 1) (0 : Int32) (4 : Int32)) (q1 tx le p) (0 : Int32) (99 : Int32)) (moP tx le (!nOk tx le (p + 1) (0 : Int32) (4 : Int32)) (q1 tx le p)), FR.up FR.rf (by omega) (by omega), by omega, fun h => ⟨by rw [k3_, k4_, mE, if_neg (by omega)], by rw [show mVv tx le p lt_ u = tpV u (m0 tx le p) (m1 tx le p) (m2 tx le p) by simp [mVv, c1_, c31_, c35_, cs_]]; exact tp_EN hE (by omega), by rw [show mVv tx le p lt_ u = tpV u (m0 tx le p) (m1 tx le p) (m2 tx le p) by simp [mVv, c1_, c31_, c35_, cs_]]; exact tp_KE hK⟩, rfl⟩
    · skip
      refine kb_iconst (v := (1 : Int32)) X dX6_item_16 (by decide) ?_
      refine kb_goto (tgt := 21) X dX6_item_17 (by decide) ?_
      refine kb_put X (C := RX6) (T := TX6) (N := 25) (ci := 6) (ty := .boolean) kw_iX6 tyX6 tyX6_ok nmX6 rfl 0 15 rfl (by decide) kf_X6_97 rfl rfl (by decide +kernel) rfl rfl (Nat.le_of_ble_eq_true rfl) dX6_item_21 (ws' := wR g a pe so ag fr (vN u) ns na (vG u) sl ac ke le tx (p + 1) bg true se wh wo bl ck sw ma ro bs) rfl ?_
      refine kb_aload_n X 0 dX6_item_24 rfl rfl ?_
      refine kb_get (v := .int 1) (C := RX6) (T := TX6) (N := 25) (ci := 6) X kw_iX6 rfl 0 15 rfl (by decide) kf_X6_97 rfl rfl dX6_item_25 ?_
      refine kb_if_eq (tgt := 35) X dX6_item_28 (by decide) (fun q_ => absurd q_ (by decide)) (fun _ => ?_)
      refine kb_iconst (v := (0 : Int32)) X dX6_item_31 (by decide) ?_
      refine kb_goto (tgt := 41) X dX6_item_32 (by decide) ?_
      refine kb_istore_n X [1, 2, 0] dX6_item_41 rfl (by decide) (lv' := [(0, .ref (a 0)), (1, .int (nI (lt_))), (2, .int 0)]) rfl ?_
      refine kb_aload_n X 0 dX6_item_42 rfl rfl ?_
      refine kb_iconst (v := (0 : Int32)) X dX6_item_43 (by decide) ?_
      refine kb_bipush (v := (99 : Int32)) X dX6_item_44 (by decide) ?_
      refine kc_Vi X (As := [.int 0, .int 99]) (rest := []) (wr := []) (ct_X6_more l g a pe so ag fr (vN u) ns na (vG u) sl ac ke le tx (p + 1) bg true se wh wo bl ck sw ma ro bs hle (by omega) htx (0 : Int32) (99 : Int32)) dX6_item_46 rfl (kw_pall _) mc_X6_more kl_X6_105 mi_X6_more mv_X6_more kn_X6 0 rfl rfl rfl (na := 2) (by decide +kernel) rfl ⟨Nat.le_of_ble_eq_true rfl, Nat.le_of_ble_eq_true rfl⟩ ⟨rfl, rfl⟩ ⟨Nat.le_of_ble_eq_true rfl, Nat.le_of_ble_eq_true rfl⟩ (Nat.le_of_ble_eq_true rfl) (fun r_ w_ hp_ => ?_)
      obtain ⟨rfl, rfl⟩ := hp_
      refine kw_ws (List.append_nil _) ?_
      have hb37_ := moP_le (tx := tx) (le := le) true (p + 1)
      refine kb_istore_n X [1, 2, 3, 0] dX6_item_49 rfl (by decide) (lv' := [(0, .ref (a 0)), (1, .int (nI (lt_))), (2, .int 0), (3, .int ((if moW tx le true (p + 1) (0 : Int32) (99 : Int32) = true then 0 else nI (nV tx le ((p + 1) + 1)))))]) rfl ?_
      refine kb_aload_n X 0 dX6_item_50 rfl rfl ?_
      refine kb_iconst (v := (0 : Int32)) X dX6_item_51 (by decide) ?_
      refine kb_bipush (v := (60 : Int32)) X dX6_item_52 (by decide) ?_
      refine kc_Vi X (As := [.int 0, .int 60]) (rest := []) (wr := []) (ct_X6_more l g a pe so ag fr (vN u) ns na (vG u) sl ac ke le tx (moP tx le true (p + 1)) bg (moW tx le true (p + 1) (0 : Int32) (99 : Int32)) se wh wo bl ck sw ma ro bs hle (by omega) htx (0 : Int32) (60 : Int32)) dX6_item_54 rfl (kw_pall _) mc_X6_more kl_X6_105 mi_X6_more mv_X6_more kn_X6 0 rfl rfl rfl (na := 2) (by decide +kernel) rfl ⟨Nat.le_of_ble_eq_true rfl, Nat.le_of_ble_eq_true rfl⟩ ⟨rfl, rfl⟩ ⟨Nat.le_of_ble_eq_true rfl, Nat.le_of_ble_eq_true rfl⟩ (Nat.le_of_ble_eq_true rfl) (fun r_ w_ hp_ => ?_)
      obtain ⟨rfl, rfl⟩ := hp_
      refine kw_ws (List.append_nil _) ?_
      have hb38_ := moP_le (tx := tx) (le := le) (moW tx le true (p + 1) (0 : Int32) (99 : Int32)) (moP tx le true (p + 1))
      refine kb_istore X [1, 2, 3, 4, 0] dX6_item_57 (by decide) (lv' := [(0, .ref (a 0)), (1, .int (nI (lt_))), (2, .int 0), (3, .int ((if moW tx le true (p + 1) (0 : Int32) (99 : Int32) = true then 0 else nI (nV tx le ((p + 1) + 1))))), (4, .int ((if moW tx le (moW tx le true (p + 1) (0 : Int32) (99 : Int32)) (moP tx le true (p + 1)) (0 : Int32) (60 : Int32) = true then 0 else nI (nV tx le (moP tx le true (p + 1) + 1)))))]) rfl ?_
      refine kw_ws (ws' := wR g a pe so ag fr (vN u) ns na (vG u) sl ac ke le tx (moP tx le (moW tx le true (p + 1) (0 : Int32) (99 : Int32)) (moP tx le true (p + 1))) bg true se wh wo bl ck sw ma ro bs) (by simp only [moW, Bool.true_or]) ?_
      refine kb_aload_n X 0 dX6_item_59 rfl rfl ?_
      refine kb_get (v := .int 1) (C := RX6) (T := TX6) (N := 25) (ci := 6) X kw_iX6 rfl 0 15 rfl (by decide) kf_X6_97 rfl rfl dX6_item_60 ?_
      refine kb_if_ne (tgt := 77) X dX6_item_63 (by decide) (fun _ => ?_) (fun q_ => absurd q_ (by decide))
      refine kb_goto (tgt := 236) X dX6_item_77 (by decide) ?_
      refine ke_v X Z dX6_item_236 ?_
      have e_ : mOk tx le p (vN u) lt_ = false := by simp [mOk, c1_, c31_]
      rw [e_]
      exact ⟨(vN u), ns, na, (vG u), sl, moP tx le (moW tx le true (p + 1) (0 : Int32) (99 : Int32)) (moP tx le true (p + 1)), FR.rf, by omega, (fun h => by cases h), rfl⟩

