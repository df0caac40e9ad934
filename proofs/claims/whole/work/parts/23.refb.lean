set_option maxHeartbeats 4000000 in
set_option maxRecDepth 100000 in
theorem ct_X6_heir (l : Launch) (g : kw_G) (a : Nat → Nat) (pe : Nat) (so : Nat → Int32) (ag : Nat → Int32) (fr : Int32) (np : Nat) (ns : Nat → Int32) (na : Nat → Int32) (nf : Int32) (sl : Nat → Int32) (ac : Nat) (ke : Nat) (le : Nat) (tx : Nat → Nat) (ap : Nat) (bg : Nat) (wr : Bool) (se : Nat) (wh : Nat → Nat) (wo : Nat → Nat) (bl : Nat → Int32) (ck : Nat → Int32) (sw : Nat → Bool) (ma : Nat) (ro : Nat → Nat) (bs : Nat → Nat) (o : Nat) (v : VS) (ho : o + 82 ≤ 984) (hE : EN sl o v) (hK : KE pe so ag fr v) (hv : VI v) (hT : TI v) (p : Nat) (hp : p < 6) : kMi l g yX6_heir cX6_heir 6 .int (kw_rm 3 0 0) 0 0 [.ref (a 0), .int (nI (o)), .int (nI (p))] (wR g a pe so ag fr np ns na nf sl ac ke le tx ap bg wr se wh wo bl ck sw ma ro bs) (fun r w => r = wHeir v p ∧ w = wR g a pe so ag fr np ns na nf sl ac ke le tx ap bg wr se wh wo bl ck sw ma ro bs) := by
  refine kMi_of (by decide +kernel) (Nat.le_of_ble_eq_true rfl) (fun x (X : kX l g RX6 cX6_heir 6 (kw_rm 3 0 0) x) (Z : kZi .int _ 0 0 x) => ?_)
  show kW x 0 0 0 [(0, .ref (a 0)), (1, .int (nI (o))), (2, .int (nI (p)))] [] (wR g a pe so ag fr np ns na nf sl ac ke le tx ap bg wr se wh wo bl ck sw ma ro bs)
  have h6 := hv.1
  have hpe := hK.1
  refine kb_bipush (v := (-4 : Int32)) X dX6_heir_0 (by decide) ?_
  refine kb_istore_n X [1, 2, 3, 0] dX6_heir_2 rfl (by decide) (lv' := [(0, .ref (a 0)), (1, .int (nI (o))), (2, .int (nI (p))), (3, .int (-4))]) rfl ?_
  refine kb_iconst (v := (0 : Int32)) X dX6_heir_3 (by decide) ?_
  refine kb_istore X [1, 2, 3, 4, 0] dX6_heir_4 (by decide) (lv' := [(0, .ref (a 0)), (1, .int (nI (o))), (2, .int (nI (p))), (3, .int (-4)), (4, .int 0)]) rfl ?_
  have L6 : ∀ (K_ i : Nat), i + K_ = vN v → kW x 0 0 6 [(0, .ref (a 0)), (1, .int (nI (o))), (2, .int (nI (p))), (3, .int ((wHr v p i).2)), (4, .int (nI (i)))] [] (wR g a pe so ag fr np ns na nf sl ac ke le tx ap bg wr se wh wo bl ck sw ma ro bs) := by
    intro K_
    induction K_ with
    | zero =>
      intro i hi
      have hc_ := wHr_c hT hp h6 i (by omega)
      have ht_ : i < 6 → ¬ vT v (p * 6 + i) ≤ -5 := fun q_ => TI_gt hT (by omega)
      refine kb_iload X 4 dX6_heir_6 rfl ?_
      refine kb_aload_n X 0 dX6_heir_8 rfl rfl ?_
      refine kb_get (v := .int (nI (pe))) (C := RX6) (T := TX6) (N := 25) (ci := 6) X kw_iX6 rfl 0 0 rfl (by decide) kf_X6_65 rfl rfl dX6_heir_9 ?_
      refine kn_icmp_ge (a := i) (b := pe) (tgt := 96) X (by omega) (by omega) dX6_heir_12 (by decide) (fun c1_ => ?_) (fun c1_ => ?_)
      · skip
        refine kb_iload_n X 3 dX6_heir_96 rfl rfl ?_
        refine ke_i X Z dX6_heir_97 ?_
        exact ⟨by rw [wHeir, show vN v = i by omega], rfl⟩
      · skip
        omega
    | succ K_ ih =>
      intro i hi
      have hc_ := wHr_c hT hp h6 i (by omega)
      have ht_ : i < 6 → ¬ vT v (p * 6 + i) ≤ -5 := fun q_ => TI_gt hT (by omega)
      refine kb_iload X 4 dX6_heir_6 rfl ?_
      refine kb_aload_n X 0 dX6_heir_8 rfl rfl ?_
      refine kb_get (v := .int (nI (pe))) (C := RX6) (T := TX6) (N := 25) (ci := 6) X kw_iX6 rfl 0 0 rfl (by decide) kf_X6_65 rfl rfl dX6_heir_9 ?_
      refine kn_icmp_ge (a := i) (b := pe) (tgt := 96) X (by omega) (by omega) dX6_heir_12 (by decide) (fun c2_ => ?_) (fun c2_ => ?_)
      · skip
        omega
      · skip
        rcases hc_ with hc_ | ⟨f_, hf1_, hf2_, hf3_, hf4_⟩
        · skip
          refine kw_lv (lv' := [(0, .ref (a 0)), (1, .int (nI (o))), (2, .int (nI (p))), (3, .int (-4)), (4, .int (nI (i)))]) (by rw [hc_.1] <;> rfl) ?_
          refine kb_iload X 4 dX6_heir_15 rfl ?_
          refine kb_iload_n X 2 dX6_heir_17 rfl rfl ?_
          refine kn_icmp_eq (a := i) (b := p) (tgt := 75) X (by omega) (by omega) dX6_heir_18 (by decide) (fun c3_ => ?_) (fun c3_ => ?_)
          · skip
            refine kb_iconst (v := (0 : Int32)) X dX6_heir_75 (by decide) ?_
            refine kb_istore X [1, 2, 3, 4, 5, 0] dX6_heir_76 (by decide) (lv' := [(0, .ref (a 0)), (1, .int (nI (o))), (2, .int (nI (p))), (3, .int (-4)), (4, .int (nI (i))), (5, .int 0)]) rfl ?_
            refine kb_iload X 5 dX6_heir_78 rfl ?_
            refine kb_if_eq (tgt := 88) X dX6_heir_80 (by decide) (fun _ => ?_) (fun q_ => absurd q_ (by decide))
            refine kb_iload_n X 3 dX6_heir_88 rfl rfl ?_
            refine kb_istore_n X [1, 2, 3, 0, 4, 5] dX6_heir_89 rfl (by decide) (lv' := [(0, .ref (a 0)), (1, .int (nI (o))), (2, .int (nI (p))), (3, .int (-4)), (4, .int (nI (i))), (5, .int 0)]) rfl ?_
            refine kw_lvs [0, 1, 2, 3, 4] (lv' := [(0, .ref (a 0)), (1, .int (nI (o))), (2, .int (nI (p))), (3, .int (-4)), (4, .int (nI (i)))]) rfl ?_
            refine kb_iinc X 4 [1, 2, 3, 4, 0] (v' := nI (i + 1)) dX6_heir_90 rfl (nI_add _ _) (by decide) (lv' := [(0, .ref (a 0)), (1, .int (nI (o))), (2, .int (nI (p))), (3, .int (-4)), (4, .int (nI (i + 1)))]) rfl ?_
            refine kb_goto (tgt := 6) X dX6_heir_93 (by decide) ?_
            exact kw_to (ih (i + 1) (by omega)) (by first | (rw [wHr, if_pos (by simp [c2_, hc_.1, hc_.2, c3_, ht_ (by omega)])] <;> (first | rfl | omega)) | (rw [wHr, if_neg (by simp [c2_, hc_.1, hc_.2, c3_])] <;> (first | rfl | (rw [hc_.1] <;> rfl)))) rfl rfl
          · skip
            refine kb_aload_n X 0 dX6_heir_21 rfl rfl ?_
            refine kb_iload_n X 1 dX6_heir_22 rfl rfl ?_
            refine kb_iload X 4 dX6_heir_23 rfl ?_
            refine kc_Vi X (As := [.int (nI (o)), .int (nI (i))]) (rest := []) (wr := []) (ct_X6_isAlive l g a pe so ag fr np ns na nf sl ac ke le tx ap bg wr se wh wo bl ck sw ma ro bs o v (by omega) hE hK hv i (by omega)) dX6_heir_25 rfl (kw_pall _) mc_X6_isAlive kl_X6_136 mi_X6_isAlive mv_X6_isAlive kn_X6 0 rfl rfl rfl (na := 2) (by decide +kernel) rfl ⟨Nat.le_of_ble_eq_true rfl, Nat.le_of_ble_eq_true rfl⟩ ⟨rfl, rfl⟩ ⟨Nat.le_of_ble_eq_true rfl, Nat.le_of_ble_eq_true rfl⟩ (Nat.le_of_ble_eq_true rfl) (fun r_ w_ hp_ => ?_)
            obtain ⟨rfl, rfl⟩ := hp_
            refine kw_ws (List.append_nil _) ?_
            refine kz_if_eq (b := wLives v i) (tgt := 75) X dX6_heir_28 (by decide) (fun c5_ => ?_) (fun c5_ => ?_)
            · skip
              refine kb_iconst (v := (0 : Int32)) X dX6_heir_75 (by decide) ?_
              refine kb_istore X [1, 2, 3, 4, 5, 0] dX6_heir_76 (by decide) (lv' := [(0, .ref (a 0)), (1, .int (nI (o))), (2, .int (nI (p))), (3, .int (-4)), (4, .int (nI (i))), (5, .int 0)]) rfl ?_
              refine kb_iload X 5 dX6_heir_78 rfl ?_
              refine kb_if_eq (tgt := 88) X dX6_heir_80 (by decide) (fun _ => ?_) (fun q_ => absurd q_ (by decide))
              refine kb_iload_n X 3 dX6_heir_88 rfl rfl ?_
              refine kb_istore_n X [1, 2, 3, 0, 4, 5] dX6_heir_89 rfl (by decide) (lv' := [(0, .ref (a 0)), (1, .int (nI (o))), (2, .int (nI (p))), (3, .int (-4)), (4, .int (nI (i))), (5, .int 0)]) rfl ?_
              refine kw_lvs [0, 1, 2, 3, 4] (lv' := [(0, .ref (a 0)), (1, .int (nI (o))), (2, .int (nI (p))), (3, .int (-4)), (4, .int (nI (i)))]) rfl ?_
              refine kb_iinc X 4 [1, 2, 3, 4, 0] (v' := nI (i + 1)) dX6_heir_90 rfl (nI_add _ _) (by decide) (lv' := [(0, .ref (a 0)), (1, .int (nI (o))), (2, .int (nI (p))), (3, .int (-4)), (4, .int (nI (i + 1)))]) rfl ?_
              refine kb_goto (tgt := 6) X dX6_heir_93 (by decide) ?_
              exact kw_to (ih (i + 1) (by omega)) (by first | (rw [wHr, if_pos (by simp [c2_, hc_.1, hc_.2, c3_, c5_, ht_ (by omega)])] <;> (first | rfl | omega)) | (rw [wHr, if_neg (by simp [c2_, hc_.1, hc_.2, c3_, c5_])] <;> (first | rfl | (rw [hc_.1] <;> rfl)))) rfl rfl
            · skip
              refine kb_iload_n X 3 dX6_heir_31 rfl rfl ?_
              refine kb_if_lt (tgt := 71) X dX6_heir_32 (by decide) (fun _ => ?_) (fun q_ => absurd q_ (by decide))
              refine kb_iconst (v := (1 : Int32)) X dX6_heir_71 (by decide) ?_
              refine kb_goto (tgt := 76) X dX6_heir_72 (by decide) ?_
              refine kb_istore X [1, 2, 3, 4, 5, 0] dX6_heir_76 (by decide) (lv' := [(0, .ref (a 0)), (1, .int (nI (o))), (2, .int (nI (p))), (3, .int (-4)), (4, .int (nI (i))), (5, .int 1)]) rfl ?_
              refine kb_iload X 5 dX6_heir_78 rfl ?_
              refine kb_if_eq (tgt := 88) X dX6_heir_80 (by decide) (fun q_ => absurd q_ (by decide)) (fun _ => ?_)
              refine kb_iload X 4 dX6_heir_83 rfl ?_
              refine kb_goto (tgt := 89) X dX6_heir_85 (by decide) ?_
              refine kb_istore_n X [1, 2, 3, 0, 4, 5] dX6_heir_89 rfl (by decide) (lv' := [(0, .ref (a 0)), (1, .int (nI (o))), (2, .int (nI (p))), (3, .int (nI (i))), (4, .int (nI (i))), (5, .int 1)]) rfl ?_
              refine kw_lvs [0, 1, 2, 3, 4] (lv' := [(0, .ref (a 0)), (1, .int (nI (o))), (2, .int (nI (p))), (3, .int (nI (i))), (4, .int (nI (i)))]) rfl ?_
              refine kb_iinc X 4 [1, 2, 3, 4, 0] (v' := nI (i + 1)) dX6_heir_90 rfl (nI_add _ _) (by decide) (lv' := [(0, .ref (a 0)), (1, .int (nI (o))), (2, .int (nI (p))), (3, .int (nI (i))), (4, .int (nI (i + 1)))]) rfl ?_
              refine kb_goto (tgt := 6) X dX6_heir_93 (by decide) ?_
              exact kw_to (ih (i + 1) (by omega)) (by first | (rw [wHr, if_pos (by simp [c2_, hc_.1, hc_.2, c3_, c5_, ht_ (by omega)])] <;> (first | rfl | omega)) | (rw [wHr, if_neg (by simp [c2_, hc_.1, hc_.2, c3_, c5_])] <;> (first | rfl | (rw [hc_.1] <;> rfl)))) rfl rfl
        · skip
          refine kw_lv (lv' := [(0, .ref (a 0)), (1, .int (nI (o))), (2, .int (nI (p))), (3, .int (nI (f_))), (4, .int (nI (i)))]) (by rw [hf3_] <;> rfl) ?_
          refine kb_iload X 4 dX6_heir_15 rfl ?_
          refine kb_iload_n X 2 dX6_heir_17 rfl rfl ?_
          refine kn_icmp_eq (a := i) (b := p) (tgt := 75) X (by omega) (by omega) dX6_heir_18 (by decide) (fun c9_ => ?_) (fun c9_ => ?_)
          · skip
            refine kb_iconst (v := (0 : Int32)) X dX6_heir_75 (by decide) ?_
            refine kb_istore X [1, 2, 3, 4, 5, 0] dX6_heir_76 (by decide) (lv' := [(0, .ref (a 0)), (1, .int (nI (o))), (2, .int (nI (p))), (3, .int (nI (f_))), (4, .int (nI (i))), (5, .int 0)]) rfl ?_
            refine kb_iload X 5 dX6_heir_78 rfl ?_
            refine kb_if_eq (tgt := 88) X dX6_heir_80 (by decide) (fun _ => ?_) (fun q_ => absurd q_ (by decide))
            refine kb_iload_n X 3 dX6_heir_88 rfl rfl ?_
            refine kb_istore_n X [1, 2, 3, 0, 4, 5] dX6_heir_89 rfl (by decide) (lv' := [(0, .ref (a 0)), (1, .int (nI (o))), (2, .int (nI (p))), (3, .int (nI (f_))), (4, .int (nI (i))), (5, .int 0)]) rfl ?_
            refine kw_lvs [0, 1, 2, 3, 4] (lv' := [(0, .ref (a 0)), (1, .int (nI (o))), (2, .int (nI (p))), (3, .int (nI (f_))), (4, .int (nI (i)))]) rfl ?_
            refine kb_iinc X 4 [1, 2, 3, 4, 0] (v' := nI (i + 1)) dX6_heir_90 rfl (nI_add _ _) (by decide) (lv' := [(0, .ref (a 0)), (1, .int (nI (o))), (2, .int (nI (p))), (3, .int (nI (f_))), (4, .int (nI (i + 1)))]) rfl ?_
            refine kb_goto (tgt := 6) X dX6_heir_93 (by decide) ?_
            exact kw_to (ih (i + 1) (by omega)) (by first | (rw [wHr, if_pos (by simp [c2_, hf3_, hf4_, c9_, ht_ (by omega)])] <;> (first | rfl | omega)) | (rw [wHr, if_neg (by simp [c2_, hf3_, hf4_, c9_])] <;> (first | rfl | (rw [hf3_] <;> rfl)))) rfl rfl
          · skip
            refine kb_aload_n X 0 dX6_heir_21 rfl rfl ?_
            refine kb_iload_n X 1 dX6_heir_22 rfl rfl ?_
            refine kb_iload X 4 dX6_heir_23 rfl ?_
            refine kc_Vi X (As := [.int (nI (o)), .int (nI (i))]) (rest := []) (wr := []) (ct_X6_isAlive l g a pe so ag fr np ns na nf sl ac ke le tx ap bg wr se wh wo bl ck sw ma ro bs o v (by omega) hE hK hv i (by omega)) dX6_heir_25 rfl (kw_pall _) mc_X6_isAlive kl_X6_136 mi_X6_isAlive mv_X6_isAlive kn_X6 0 rfl rfl rfl (na := 2) (by decide +kernel) rfl ⟨Nat.le_of_ble_eq_true rfl, Nat.le_of_ble_eq_true rfl⟩ ⟨rfl, rfl⟩ ⟨Nat.le_of_ble_eq_true rfl, Nat.le_of_ble_eq_true rfl⟩ (Nat.le_of_ble_eq_true rfl) (fun r_ w_ hp_ => ?_)
            obtain ⟨rfl, rfl⟩ := hp_
            refine kw_ws (List.append_nil _) ?_
            refine kz_if_eq (b := wLives v i) (tgt := 75) X dX6_heir_28 (by decide) (fun c11_ => ?_) (fun c11_ => ?_)
            · skip
              refine kb_iconst (v := (0 : Int32)) X dX6_heir_75 (by decide) ?_
              refine kb_istore X [1, 2, 3, 4, 5, 0] dX6_heir_76 (by decide) (lv' := [(0, .ref (a 0)), (1, .int (nI (o))), (2, .int (nI (p))), (3, .int (nI (f_))), (4, .int (nI (i))), (5, .int 0)]) rfl ?_
              refine kb_iload X 5 dX6_heir_78 rfl ?_
              refine kb_if_eq (tgt := 88) X dX6_heir_80 (by decide) (fun _ => ?_) (fun q_ => absurd q_ (by decide))
              refine kb_iload_n X 3 dX6_heir_88 rfl rfl ?_
              refine kb_istore_n X [1, 2, 3, 0, 4, 5] dX6_heir_89 rfl (by decide) (lv' := [(0, .ref (a 0)), (1, .int (nI (o))), (2, .int (nI (p))), (3, .int (nI (f_))), (4, .int (nI (i))), (5, .int 0)]) rfl ?_
              refine kw_lvs [0, 1, 2, 3, 4] (lv' := [(0, .ref (a 0)), (1, .int (nI (o))), (2, .int (nI (p))), (3, .int (nI (f_))), (4, .int (nI (i)))]) rfl ?_
              refine kb_iinc X 4 [1, 2, 3, 4, 0] (v' := nI (i + 1)) dX6_heir_90 rfl (nI_add _ _) (by decide) (lv' := [(0, .ref (a 0)), (1, .int (nI (o))), (2, .int (nI (p))), (3, .int (nI (f_))), (4, .int (nI (i + 1)))]) rfl ?_
              refine kb_goto (tgt := 6) X dX6_heir_93 (by decide) ?_
              exact kw_to (ih (i + 1) (by omega)) (by first | (rw [wHr, if_pos (by simp [c2_, hf3_, hf4_, c9_, c11_, ht_ (by omega)])] <;> (first | rfl | omega)) | (rw [wHr, if_neg (by simp [c2_, hf3_, hf4_, c9_, c11_])] <;> (first | rfl | (rw [hf3_] <;> rfl)))) rfl rfl
            · skip
              refine kb_iload_n X 3 dX6_heir_31 rfl rfl ?_
              refine kb_if_lt (tgt := 71) X dX6_heir_32 (by decide) (fun c13_ => ?_) (fun c13_ => ?_)
              · skip
                exact absurd c13_ (nI_pos (by omega))
              · skip
                refine kb_aload_n X 0 dX6_heir_35 rfl rfl ?_
                refine kb_get (v := .ref (a 5)) (C := RX6) (T := TX6) (N := 25) (ci := 6) X kw_iX6 rfl 0 8 rfl (by decide) kf_X6_22 rfl rfl dX6_heir_36 ?_
                refine kb_iload_n X 1 dX6_heir_39 rfl rfl ?_
                refine kb_bipush (v := (10 : Int32)) X dX6_heir_40 (by decide) ?_
                refine kn_iadd X o 10 dX6_heir_42 ?_
                refine kb_bipush (v := (6 : Int32)) X dX6_heir_43 (by decide) ?_
                refine kb_iload_n X 2 dX6_heir_45 rfl rfl ?_
                refine kn_imul X 6 p dX6_heir_46 ?_
                refine kn_iadd X (o + 10) (6 * p) dX6_heir_47 ?_
                refine kb_iload X 4 dX6_heir_48 rfl ?_
                refine kn_iadd X ((o + 10) + (6 * p)) i dX6_heir_50 ?_
                refine kb_iald (i := ((o + 10) + (6 * p)) + i) X 5 rfl (by omega) (by decide) dX6_heir_51 ?_
                refine kw_top (b := .int (vT v (p * 6 + i))) (congrArg Value.int (hE.t (p := p) (q := i) (by omega) (by omega) (by omega))) ?_
                refine kb_aload_n X 0 dX6_heir_52 rfl rfl ?_
                refine kb_get (v := .ref (a 5)) (C := RX6) (T := TX6) (N := 25) (ci := 6) X kw_iX6 rfl 0 8 rfl (by decide) kf_X6_22 rfl rfl dX6_heir_53 ?_
                refine kb_iload_n X 1 dX6_heir_56 rfl rfl ?_
                refine kb_bipush (v := (10 : Int32)) X dX6_heir_57 (by decide) ?_
                refine kn_iadd X o 10 dX6_heir_59 ?_
                refine kb_bipush (v := (6 : Int32)) X dX6_heir_60 (by decide) ?_
                refine kb_iload_n X 2 dX6_heir_62 rfl rfl ?_
                refine kn_imul X 6 p dX6_heir_63 ?_
                refine kn_iadd X (o + 10) (6 * p) dX6_heir_64 ?_
                refine kb_iload_n X 3 dX6_heir_65 rfl rfl ?_
                refine kn_iadd X ((o + 10) + (6 * p)) f_ dX6_heir_66 ?_
                refine kb_iald (i := ((o + 10) + (6 * p)) + f_) X 5 rfl (by omega) (by decide) dX6_heir_67 ?_
                refine kw_top (b := .int (vT v (p * 6 + f_))) (congrArg Value.int (hE.t (p := p) (q := f_) (by omega) (by omega) (by omega))) ?_
                refine kb_icmp_le (tgt := 75) X dX6_heir_68 (by decide) (fun c14_ => ?_) (fun c14_ => ?_)
                · skip
                  refine kb_iconst (v := (0 : Int32)) X dX6_heir_75 (by decide) ?_
                  refine kb_istore X [1, 2, 3, 4, 5, 0] dX6_heir_76 (by decide) (lv' := [(0, .ref (a 0)), (1, .int (nI (o))), (2, .int (nI (p))), (3, .int (nI (f_))), (4, .int (nI (i))), (5, .int 0)]) rfl ?_
                  refine kb_iload X 5 dX6_heir_78 rfl ?_
                  refine kb_if_eq (tgt := 88) X dX6_heir_80 (by decide) (fun _ => ?_) (fun q_ => absurd q_ (by decide))
                  refine kb_iload_n X 3 dX6_heir_88 rfl rfl ?_
                  refine kb_istore_n X [1, 2, 3, 0, 4, 5] dX6_heir_89 rfl (by decide) (lv' := [(0, .ref (a 0)), (1, .int (nI (o))), (2, .int (nI (p))), (3, .int (nI (f_))), (4, .int (nI (i))), (5, .int 0)]) rfl ?_
                  refine kw_lvs [0, 1, 2, 3, 4] (lv' := [(0, .ref (a 0)), (1, .int (nI (o))), (2, .int (nI (p))), (3, .int (nI (f_))), (4, .int (nI (i)))]) rfl ?_
                  refine kb_iinc X 4 [1, 2, 3, 4, 0] (v' := nI (i + 1)) dX6_heir_90 rfl (nI_add _ _) (by decide) (lv' := [(0, .ref (a 0)), (1, .int (nI (o))), (2, .int (nI (p))), (3, .int (nI (f_))), (4, .int (nI (i + 1)))]) rfl ?_
                  refine kb_goto (tgt := 6) X dX6_heir_93 (by decide) ?_
                  exact kw_to (ih (i + 1) (by omega)) (by first | (rw [wHr, if_pos (by simp [c2_, hf3_, hf4_, c9_, c11_, c13_, c14_, ht_ (by omega)])] <;> (first | rfl | omega)) | (rw [wHr, if_neg (by simp [c2_, hf3_, hf4_, c9_, c11_, c13_, c14_])] <;> (first | rfl | (rw [hf3_] <;> rfl)))) rfl rfl
                · skip
                  refine kb_iconst (v := (1 : Int32)) X dX6_heir_71 (by decide) ?_
                  refine kb_goto (tgt := 76) X dX6_heir_72 (by decide) ?_
                  refine kb_istore X [1, 2, 3, 4, 5, 0] dX6_heir_76 (by decide) (lv' := [(0, .ref (a 0)), (1, .int (nI (o))), (2, .int (nI (p))), (3, .int (nI (f_))), (4, .int (nI (i))), (5, .int 1)]) rfl ?_
                  refine kb_iload X 5 dX6_heir_78 rfl ?_
                  refine kb_if_eq (tgt := 88) X dX6_heir_80 (by decide) (fun q_ => absurd q_ (by decide)) (fun _ => ?_)
                  refine kb_iload X 4 dX6_heir_83 rfl ?_
                  refine kb_goto (tgt := 89) X dX6_heir_85 (by decide) ?_
                  refine kb_istore_n X [1, 2, 3, 0, 4, 5] dX6_heir_89 rfl (by decide) (lv' := [(0, .ref (a 0)), (1, .int (nI (o))), (2, .int (nI (p))), (3, .int (nI (i))), (4, .int (nI (i))), (5, .int 1)]) rfl ?_
                  refine kw_lvs [0, 1, 2, 3, 4] (lv' := [(0, .ref (a 0)), (1, .int (nI (o))), (2, .int (nI (p))), (3, .int (nI (i))), (4, .int (nI (i)))]) rfl ?_
                  refine kb_iinc X 4 [1, 2, 3, 4, 0] (v' := nI (i + 1)) dX6_heir_90 rfl (nI_add _ _) (by decide) (lv' := [(0, .ref (a 0)), (1, .int (nI (o))), (2, .int (nI (p))), (3, .int (nI (i))), (4, .int (nI (i + 1)))]) rfl ?_
                  refine kb_goto (tgt := 6) X dX6_heir_93 (by decide) ?_
                  exact kw_to (ih (i + 1) (by omega)) (by first | (rw [wHr, if_pos (by simp [c2_, hf3_, hf4_, c9_, c11_, c13_, c14_, ht_ (by omega)])] <;> (first | rfl | omega)) | (rw [wHr, if_neg (by simp [c2_, hf3_, hf4_, c9_, c11_, c13_, c14_])] <;> (first | rfl | (rw [hf3_] <;> rfl)))) rfl rfl
  exact kw_to (L6 (vN v) 0 (by omega)) rfl rfl rfl

set_option maxHeartbeats 4000000 in
set_option maxRecDepth 100000 in
theorem ct_X6_holds (l : Launch) (g : kw_G) (a : Nat → Nat) (pe : Nat) (so : Nat → Int32) (ag : Nat → Int32) (fr : Int32) (np : Nat) (ns : Nat → Int32) (na : Nat → Int32) (nf : Int32) (sl : Nat → Int32) (ac : Nat) (ke : Nat) (le : Nat) (tx : Nat → Nat) (ap : Nat) (bg : Nat) (wr : Bool) (se : Nat) (wh : Nat → Nat) (wo : Nat → Nat) (bl : Nat → Int32) (ck : Nat → Int32) (sw : Nat → Bool) (ma : Nat) (ro : Nat → Nat) (bs : Nat → Nat) (o : Nat) (v : VS) (ho : o + 82 ≤ 984) (hE : EN sl o v) (hK : KE pe so ag fr v) (hv : VI v) (p : Nat) (b c : Int32) (hp : p < vN v) : kMi l g yX6_holds cX6_holds 7 .int (kw_rm 5 0 0) 0 0 [.ref (a 0), .int (nI (o)), .int (nI (p)), .int (b), .int (c)] (wR g a pe so ag fr np ns na nf sl ac ke le tx ap bg wr se wh wo bl ck sw ma ro bs) (fun r w => r = nI (wGuests v p b c) ∧ ∃ sl', EN sl' o (wHold v p b c) ∧ FR sl sl' o ∧ w = wR g a pe so ag fr np ns na nf sl' ac ke le tx ap bg wr se wh wo bl ck sw ma ro bs) := by
  refine kMi_of (by decide +kernel) (Nat.le_of_ble_eq_true rfl) (fun x (X : kX l g RX6 cX6_holds 7 (kw_rm 5 0 0) x) (Z : kZi .int _ 0 0 x) => ?_)
  show kW x 0 0 0 [(0, .ref (a 0)), (1, .int (nI (o))), (2, .int (nI (p))), (3, .int (b)), (4, .int (c))] [] (wR g a pe so ag fr np ns na nf sl ac ke le tx ap bg wr se wh wo bl ck sw ma ro bs)
  have h6 := hv.1
  have hpe := hK.1
  refine kb_aload_n X 0 dX6_holds_0 rfl rfl ?_
  refine kb_iload_n X 1 dX6_holds_1 rfl rfl ?_
  refine kb_iload_n X 2 dX6_holds_2 rfl rfl ?_
  refine kb_iload_n X 3 dX6_holds_3 rfl rfl ?_
  refine kb_iload X 4 dX6_holds_4 rfl ?_
  refine kc_Vi X (As := [.int (nI (o)), .int (nI (p)), .int (b), .int (c)]) (rest := []) (wr := []) (ct_X6_comers l g a pe so ag fr np ns na nf sl ac ke le tx ap bg wr se wh wo bl ck sw ma ro bs o v (by omega) hE hK hv p b c (by omega)) dX6_holds_6 rfl (kw_pall _) mc_X6_comers kl_X6_178 mi_X6_comers mv_X6_comers kn_X6 0 rfl rfl rfl (na := 4) (by decide +kernel) rfl ⟨Nat.le_of_ble_eq_true rfl, Nat.le_of_ble_eq_true rfl⟩ ⟨rfl, rfl⟩ ⟨Nat.le_of_ble_eq_true rfl, Nat.le_of_ble_eq_true rfl⟩ (Nat.le_of_ble_eq_true rfl) (fun r_ w_ hp_ => ?_)
  obtain ⟨rfl, rfl⟩ := hp_
  refine kw_ws (List.append_nil _) ?_
  refine kb_istore X [1, 2, 3, 4, 5, 0] dX6_holds_9 (by decide) (lv' := [(0, .ref (a 0)), (1, .int (nI (o))), (2, .int (nI (p))), (3, .int (b)), (4, .int (c)), (5, .int (nI (wGuests v p b c)))]) rfl ?_
  refine kb_aload_n X 0 dX6_holds_11 rfl rfl ?_
  refine kb_get (v := .ref (a 5)) (C := RX6) (T := TX6) (N := 25) (ci := 6) X kw_iX6 rfl 0 8 rfl (by decide) kf_X6_22 rfl rfl dX6_holds_12 ?_
  refine kb_iload_n X 1 dX6_holds_15 rfl rfl ?_
  refine kb_iload_n X 2 dX6_holds_16 rfl rfl ?_
  refine kn_iadd X o p dX6_holds_17 ?_
  refine kb_dup2 X dX6_holds_18 rfl rfl ?_
  refine kb_iald (i := o + p) X 5 rfl (by omega) (by decide) dX6_holds_19 ?_
  refine kw_top (b := .int (vC v p)) (congrArg Value.int (hE.c (p := p) (by omega) (by omega))) ?_
  refine kb_iconst (v := (2 : Int32)) X dX6_holds_20 (by decide) ?_
  refine kb_iload_n X 3 dX6_holds_21 rfl rfl ?_
  refine kb_imul X dX6_holds_22 ?_
  refine kb_iconst (v := (3 : Int32)) X dX6_holds_23 (by decide) ?_
  refine kb_iload X 4 dX6_holds_24 rfl ?_
  refine kb_imul X dX6_holds_26 ?_
  refine kb_iadd X dX6_holds_27 ?_
  refine kb_isub X dX6_holds_28 ?_
  refine kb_iast (i := o + p) X 5 rfl (by omega) (by decide) dX6_holds_29 (ws' := wR g a pe so ag fr np ns na nf (upd sl (o + p) ((vC v p) - (((2 : Int32) * b) + ((3 : Int32) * c)))) ac ke le tx ap bg wr se wh wo bl ck sw ma ro bs) rfl ?_
  generalize hsl1_ : upd sl (o + p) ((vC v p) - (((2 : Int32) * b) + ((3 : Int32) * c))) = sl1_
  have hE2_ : EN sl1_ o (sC v (upd (vC v) p ((vC v p) - (((2 : Int32) * b) + ((3 : Int32) * c))))) := by rw [← hsl1_]; exact hE.sc (p := p) (by omega) (by omega)
  have hF3_ : FR sl sl1_ o := by rw [← hsl1_]; exact FR.up FR.rf (by omega) (by omega)
  refine kb_iconst (v := (0 : Int32)) X dX6_holds_30 (by decide) ?_
  refine kb_istore X [1, 2, 3, 4, 5, 6, 0] dX6_holds_31 (by decide) (lv' := [(0, .ref (a 0)), (1, .int (nI (o))), (2, .int (nI (p))), (3, .int (b)), (4, .int (c)), (5, .int (nI (wGuests v p b c))), (6, .int 0)]) rfl ?_
  have L33 : ∀ (K_ i : Nat) (z : Nat → Int32), i + K_ = vN v ∧ EN z o (wMeets (sC v (upd (vC v) p (vC v p - wCost b c))) p (wGuests v p b c) i) ∧ FR sl z o → kW x 0 0 33 [(0, .ref (a 0)), (1, .int (nI (o))), (2, .int (nI (p))), (3, .int (b)), (4, .int (c)), (5, .int (nI (wGuests v p b c))), (6, .int (nI (i)))] [] (wR g a pe so ag fr np ns na nf z ac ke le tx ap bg wr se wh wo bl ck sw ma ro bs) := by
    intro K_
    induction K_ with
    | zero =>
      intro i z hh
      obtain ⟨hi, hz, hFz⟩ := id hh
      have hk := wKeep_meets (sC v (upd (vC v) p (vC v p - wCost b c))) p (wGuests v p b c) i
      have hvi := hk.VI (show VI (sC v (upd (vC v) p (vC v p - wCost b c))) from hv)
      have hki : KE pe so ag fr (wMeets (sC v (upd (vC v) p (vC v p - wCost b c))) p (wGuests v p b c) i) := KE.of hK hk.1 hk.2.1 hk.2.2.1 hk.2.2.2.1
      have hN : vN (wMeets (sC v (upd (vC v) p (vC v p - wCost b c))) p (wGuests v p b c) i) = vN v := hk.2.2.1
      have hG := wGuests_lt v p b c h6
      have hX : vX (wMeets (sC v (upd (vC v) p (vC v p - wCost b c))) p (wGuests v p b c) i) = vX v := hk.2.2.2.2.1
      refine kb_iload X 6 dX6_holds_33 rfl ?_
      refine kb_aload_n X 0 dX6_holds_35 rfl rfl ?_
      refine kb_get (v := .int (nI (pe))) (C := RX6) (T := TX6) (N := 25) (ci := 6) X kw_iX6 rfl 0 0 rfl (by decide) kf_X6_65 rfl rfl dX6_holds_36 ?_
      refine kn_icmp_ge (a := i) (b := pe) (tgt := 79) X (by omega) (by omega) dX6_holds_39 (by decide) (fun c4_ => ?_) (fun c4_ => ?_)
      · skip
        refine kb_aload_n X 0 dX6_holds_79 rfl rfl ?_
        refine kb_get (v := .ref (a 5)) (C := RX6) (T := TX6) (N := 25) (ci := 6) X kw_iX6 rfl 0 8 rfl (by decide) kf_X6_22 rfl rfl dX6_holds_80 ?_
        refine kb_iload_n X 1 dX6_holds_83 rfl rfl ?_
        refine kb_bipush (v := (7 : Int32)) X dX6_holds_84 (by decide) ?_
        refine kn_iadd X o 7 dX6_holds_86 ?_
        refine kb_dup2 X dX6_holds_87 rfl rfl ?_
        refine kb_iald (i := o + 7) X 5 rfl (by omega) (by decide) dX6_holds_88 ?_
        refine kw_top (b := .int (nI (vH (wMeets (sC v (upd (vC v) p (vC v p - wCost b c))) p (wGuests v p b c) i)))) (congrArg Value.int (hz.h (by omega))) ?_
        refine kb_iconst (v := (1 : Int32)) X dX6_holds_89 (by decide) ?_
        refine kb_iload_n X 2 dX6_holds_90 rfl rfl ?_
        refine kb_ishl X dX6_holds_91 ?_
        refine kb_ior X dX6_holds_92 ?_
        refine kw_top (b := .int (nI (vH (wMeets (sC v (upd (vC v) p (vC v p - wCost b c))) p (wGuests v p b c) i) ||| 2 ^ p))) (by rw [bit_in p (by omega), or_nI]) ?_
        refine kb_iast (i := o + 7) X 5 rfl (by omega) (by decide) dX6_holds_93 (ws' := wR g a pe so ag fr np ns na nf (upd z (o + 7) (nI (vH (wMeets (sC v (upd (vC v) p (vC v p - wCost b c))) p (wGuests v p b c) i) ||| 2 ^ p))) ac ke le tx ap bg wr se wh wo bl ck sw ma ro bs) rfl ?_
        generalize hsl5_ : upd z (o + 7) (nI (vH (wMeets (sC v (upd (vC v) p (vC v p - wCost b c))) p (wGuests v p b c) i) ||| 2 ^ p)) = sl5_
        have hE6_ : EN sl5_ o (sH (wMeets (sC v (upd (vC v) p (vC v p - wCost b c))) p (wGuests v p b c) i) (vH (wMeets (sC v (upd (vC v) p (vC v p - wCost b c))) p (wGuests v p b c) i) ||| 2 ^ p)) := by rw [← hsl5_]; exact hz.sh (by omega)
        have hF7_ : FR sl sl5_ o := by rw [← hsl5_]; exact FR.up hFz (by omega) (by omega)
        refine kb_aload_n X 0 dX6_holds_94 rfl rfl ?_
        refine kb_get (v := .ref (a 5)) (C := RX6) (T := TX6) (N := 25) (ci := 6) X kw_iX6 rfl 0 8 rfl (by decide) kf_X6_22 rfl rfl dX6_holds_95 ?_
        refine kb_iload_n X 1 dX6_holds_98 rfl rfl ?_
        refine kb_bipush (v := (9 : Int32)) X dX6_holds_99 (by decide) ?_
        refine kn_iadd X o 9 dX6_holds_101 ?_
        refine kb_dup2 X dX6_holds_102 rfl rfl ?_
        refine kb_iald (i := o + 9) X 5 rfl (by omega) (by decide) dX6_holds_103 ?_
        refine kw_top (b := .int (vZ (wMeets (sC v (upd (vC v) p (vC v p - wCost b c))) p (wGuests v p b c) i))) (congrArg Value.int (hE6_.z (by omega))) ?_
        refine kb_iconst (v := (1 : Int32)) X dX6_holds_104 (by decide) ?_
        refine kb_iadd X dX6_holds_105 ?_
        refine kb_iast (i := o + 9) X 5 rfl (by omega) (by decide) dX6_holds_106 (ws' := wR g a pe so ag fr np ns na nf (upd sl5_ (o + 9) ((vZ (wMeets (sC v (upd (vC v) p (vC v p - wCost b c))) p (wGuests v p b c) i)) + (1 : Int32))) ac ke le tx ap bg wr se wh wo bl ck sw ma ro bs) rfl ?_
        generalize hsl8_ : upd sl5_ (o + 9) ((vZ (wMeets (sC v (upd (vC v) p (vC v p - wCost b c))) p (wGuests v p b c) i)) + (1 : Int32)) = sl8_
        have hE9_ : EN sl8_ o (sZ (sH (wMeets (sC v (upd (vC v) p (vC v p - wCost b c))) p (wGuests v p b c) i) (vH (wMeets (sC v (upd (vC v) p (vC v p - wCost b c))) p (wGuests v p b c) i) ||| 2 ^ p)) ((vZ (wMeets (sC v (upd (vC v) p (vC v p - wCost b c))) p (wGuests v p b c) i)) + (1 : Int32))) := by rw [← hsl8_]; exact hE6_.sz (by omega)
        have hF10_ : FR sl sl8_ o := by rw [← hsl8_]; exact FR.up hF7_ (by omega) (by omega)
        refine kb_iload X 5 dX6_holds_107 rfl ?_
        refine ke_i X Z dX6_holds_109 ?_
        exact ⟨rfl, sl8_, by rw [wHold, show vN v = i by omega]; exact hE9_, hF10_, rfl⟩
      · skip
        omega
    | succ K_ ih =>
      intro i z hh
      obtain ⟨hi, hz, hFz⟩ := id hh
      have hk := wKeep_meets (sC v (upd (vC v) p (vC v p - wCost b c))) p (wGuests v p b c) i
      have hvi := hk.VI (show VI (sC v (upd (vC v) p (vC v p - wCost b c))) from hv)
      have hki : KE pe so ag fr (wMeets (sC v (upd (vC v) p (vC v p - wCost b c))) p (wGuests v p b c) i) := KE.of hK hk.1 hk.2.1 hk.2.2.1 hk.2.2.2.1
      have hN : vN (wMeets (sC v (upd (vC v) p (vC v p - wCost b c))) p (wGuests v p b c) i) = vN v := hk.2.2.1
      have hG := wGuests_lt v p b c h6
      have hX : vX (wMeets (sC v (upd (vC v) p (vC v p - wCost b c))) p (wGuests v p b c) i) = vX v := hk.2.2.2.2.1
      refine kb_iload X 6 dX6_holds_33 rfl ?_
      refine kb_aload_n X 0 dX6_holds_35 rfl rfl ?_
      refine kb_get (v := .int (nI (pe))) (C := RX6) (T := TX6) (N := 25) (ci := 6) X kw_iX6 rfl 0 0 rfl (by decide) kf_X6_65 rfl rfl dX6_holds_36 ?_
      refine kn_icmp_ge (a := i) (b := pe) (tgt := 79) X (by omega) (by omega) dX6_holds_39 (by decide) (fun c11_ => ?_) (fun c11_ => ?_)
      · skip
        omega
      · skip
        refine kb_iload X 6 dX6_holds_42 rfl ?_
        refine kb_iload_n X 2 dX6_holds_44 rfl rfl ?_
        refine kn_icmp_eq (a := i) (b := p) (tgt := 73) X (by omega) (by omega) dX6_holds_45 (by decide) (fun c12_ => ?_) (fun c12_ => ?_)
        · skip
          refine kb_iinc X 6 [1, 2, 3, 4, 5, 6, 0] (v' := nI (i + 1)) dX6_holds_73 rfl (nI_add _ _) (by decide) (lv' := [(0, .ref (a 0)), (1, .int (nI (o))), (2, .int (nI (p))), (3, .int (b)), (4, .int (c)), (5, .int (nI (wGuests v p b c))), (6, .int (nI (i + 1)))]) rfl ?_
          refine kb_goto (tgt := 33) X dX6_holds_76 (by decide) ?_
          exact kw_to (ih (i + 1) z ⟨by omega, by rw [wMeets, if_neg (by simp [c11_, c12_])]; exact hz, hFz⟩) rfl rfl rfl
        · skip
          refine kb_aload_n X 0 dX6_holds_48 rfl rfl ?_
          refine kb_iload_n X 1 dX6_holds_49 rfl rfl ?_
          refine kb_iload X 6 dX6_holds_50 rfl ?_
          refine kc_Vi X (As := [.int (nI (o)), .int (nI (i))]) (rest := []) (wr := []) (ct_X6_isAlive l g a pe so ag fr np ns na nf z ac ke le tx ap bg wr se wh wo bl ck sw ma ro bs o (wMeets (sC v (upd (vC v) p (vC v p - wCost b c))) p (wGuests v p b c) i) (by omega) hz hki hvi i (by omega)) dX6_holds_52 rfl (kw_pall _) mc_X6_isAlive kl_X6_136 mi_X6_isAlive mv_X6_isAlive kn_X6 0 rfl rfl rfl (na := 2) (by decide +kernel) rfl ⟨Nat.le_of_ble_eq_true rfl, Nat.le_of_ble_eq_true rfl⟩ ⟨rfl, rfl⟩ ⟨Nat.le_of_ble_eq_true rfl, Nat.le_of_ble_eq_true rfl⟩ (Nat.le_of_ble_eq_true rfl) (fun r_ w_ hp_ => ?_)
          obtain ⟨rfl, rfl⟩ := hp_
          refine kw_ws (List.append_nil _) ?_
          refine kz_if_eq (b := wLives (wMeets (sC v (upd (vC v) p (vC v p - wCost b c))) p (wGuests v p b c) i) i) (tgt := 73) X dX6_holds_55 (by decide) (fun c13_ => ?_) (fun c13_ => ?_)
          · skip
            refine kb_iinc X 6 [1, 2, 3, 4, 5, 6, 0] (v' := nI (i + 1)) dX6_holds_73 rfl (nI_add _ _) (by decide) (lv' := [(0, .ref (a 0)), (1, .int (nI (o))), (2, .int (nI (p))), (3, .int (b)), (4, .int (c)), (5, .int (nI (wGuests v p b c))), (6, .int (nI (i + 1)))]) rfl ?_
            refine kb_goto (tgt := 33) X dX6_holds_76 (by decide) ?_
            exact kw_to (ih (i + 1) z ⟨by omega, by rw [wMeets, if_neg (by simp [c11_, c12_, c13_])]; exact hz, hFz⟩) rfl rfl rfl
          · skip
            refine kb_aload_n X 0 dX6_holds_58 rfl rfl ?_
            refine kb_iload_n X 1 dX6_holds_59 rfl rfl ?_
            refine kb_iload_n X 2 dX6_holds_60 rfl rfl ?_
            refine kb_iload X 6 dX6_holds_61 rfl ?_
            refine kb_iload X 5 dX6_holds_63 rfl ?_
            refine kb_iload X 6 dX6_holds_65 rfl ?_
            refine kc_Si X (As := [.int (nI (wGuests v p b c)), .int (nI (i))]) (rest := [.int (nI (i)), .int (nI (p)), .int (nI (o)), .ref (a 0)]) (wr := (wR g a pe so ag fr np ns na nf z ac ke le tx ap bg wr se wh wo bl ck sw ma ro bs)) (ct_X6_has l g (wGuests v p b c) i hG (by omega)) dX6_holds_67 rfl (List.Perm.refl _) mc_X6_has kl_X6_132 ms_X6_has kn_X6 (na := 2) (by decide +kernel) rfl ⟨Nat.le_of_ble_eq_true rfl, Nat.le_of_ble_eq_true rfl⟩ ⟨rfl, rfl⟩ ⟨Nat.le_of_ble_eq_true rfl, Nat.le_of_ble_eq_true rfl⟩ (Nat.le_of_ble_eq_true rfl) (fun r_ w_ hp_ => ?_)
            obtain ⟨rfl, rfl⟩ := hp_
            refine kw_ws (List.nil_append _) ?_
            refine kc_Vv X (As := [.int (nI (o)), .int (nI (p)), .int (nI (i)), .int (zI (Nat.testBit (wGuests v p b c) i))]) (rest := []) (wr := []) (ct_X6_changes l g a pe so ag fr np ns na nf z ac ke le tx ap bg wr se wh wo bl ck sw ma ro bs o (wMeets (sC v (upd (vC v) p (vC v p - wCost b c))) p (wGuests v p b c) i) (by omega) hz hki hvi p i (Nat.testBit (wGuests v p b c) i) (by omega) (by omega)) dX6_holds_70 rfl (kw_pall _) mc_X6_changes kl_X6_181 mi_X6_changes mv_X6_changes kn_X6 0 rfl rfl rfl (na := 4) (by decide +kernel) rfl ⟨Nat.le_of_ble_eq_true rfl, Nat.le_of_ble_eq_true rfl⟩ ⟨rfl, rfl⟩ ⟨Nat.le_of_ble_eq_true rfl, Nat.le_of_ble_eq_true rfl⟩ (Nat.le_of_ble_eq_true rfl) (fun w_ hp_ => ?_)
            obtain ⟨sl14_, hE15_, hF16_, rfl⟩ := hp_
            have hF17_ : FR sl sl14_ o := FR.tr hFz hF16_
            refine kw_ws (List.append_nil _) ?_
            refine kb_iinc X 6 [1, 2, 3, 4, 5, 6, 0] (v' := nI (i + 1)) dX6_holds_73 rfl (nI_add _ _) (by decide) (lv' := [(0, .ref (a 0)), (1, .int (nI (o))), (2, .int (nI (p))), (3, .int (b)), (4, .int (c)), (5, .int (nI (wGuests v p b c))), (6, .int (nI (i + 1)))]) rfl ?_
            refine kb_goto (tgt := 33) X dX6_holds_76 (by decide) ?_
            exact kw_to (ih (i + 1) sl14_ ⟨by omega, by rw [wMeets, if_pos (by simp [c11_, c12_, c13_])]; exact hE15_, hF17_⟩) rfl rfl rfl
  exact kw_to (L33 (vN v) 0 sl1_ ⟨by omega, hE2_, hF3_⟩) rfl rfl rfl

set_option maxHeartbeats 4000000 in
set_option maxRecDepth 100000 in
theorem ct_X6_copies (l : Launch) (g : kw_G) (a : Nat → Nat) (pe : Nat) (so : Nat → Int32) (ag : Nat → Int32) (fr : Int32) (np : Nat) (ns : Nat → Int32) (na : Nat → Int32) (nf : Int32) (sl : Nat → Int32) (ac : Nat) (ke : Nat) (le : Nat) (tx : Nat → Nat) (ap : Nat) (bg : Nat) (wr : Bool) (se : Nat) (wh : Nat → Nat) (wo : Nat → Nat) (bl : Nat → Int32) (ck : Nat → Int32) (sw : Nat → Bool) (ma : Nat) (ro : Nat → Nat) (bs : Nat → Nat) (o t : Nat) (ho : o + 82 ≤ 984) (ht : t + 82 ≤ 984) (hd : o + 82 ≤ t ∨ t + 82 ≤ o) : kMv l g yX6_copies cX6_copies 4 (kw_rm 1 0 0) 0 0 [.ref (a 0), .int (nI (o)), .int (nI (t))] (wR g a pe so ag fr np ns na nf sl ac ke le tx ap bg wr se wh wo bl ck sw ma ro bs) (fun w => ∃ sl', CPY sl sl' o t ∧ w = wR g a pe so ag fr np ns na nf sl' ac ke le tx ap bg wr se wh wo bl ck sw ma ro bs) := by
  refine kMv_of (by decide +kernel) (Nat.le_of_ble_eq_true rfl) (fun x (X : kX l g RX6 cX6_copies 4 (kw_rm 1 0 0) x) (Z : kZv _ 0 0 x) => ?_)
  show kW x 0 0 0 [(0, .ref (a 0)), (1, .int (nI (o))), (2, .int (nI (t)))] [] (wR g a pe so ag fr np ns na nf sl ac ke le tx ap bg wr se wh wo bl ck sw ma ro bs)
  refine kb_iconst (v := (0 : Int32)) X dX6_copies_0 (by decide) ?_
  refine kb_istore_n X [1, 2, 3, 0] dX6_copies_1 rfl (by decide) (lv' := [(0, .ref (a 0)), (1, .int (nI (o))), (2, .int (nI (t))), (3, .int 0)]) rfl ?_
  have L2 : ∀ (K_ i : Nat) (z : Nat → Int32), i + K_ = 82 ∧ (∀ k, k < i → z (t + k) = sl (o + k)) ∧ FR sl z t → kW x 0 0 2 [(0, .ref (a 0)), (1, .int (nI (o))), (2, .int (nI (t))), (3, .int (nI (i)))] [] (wR g a pe so ag fr np ns na nf z ac ke le tx ap bg wr se wh wo bl ck sw ma ro bs) := by
    intro K_
    induction K_ with
    | zero =>
      intro i z hh
      obtain ⟨hi, hz, hF⟩ := id hh
      refine kb_iload_n X 3 dX6_copies_2 rfl rfl ?_
      refine kb_bipush (v := (82 : Int32)) X dX6_copies_3 (by decide) ?_
      refine kn_icmp_ge (a := i) (b := 82) (tgt := 30) X (by omega) (by omega) dX6_copies_5 (by decide) (fun c1_ => ?_) (fun c1_ => ?_)
      · skip
        refine ke_v X Z dX6_copies_30 ?_
        exact ⟨z, ⟨fun k hk => hz k (by omega), hF⟩, rfl⟩
      · skip
        omega
    | succ K_ ih =>
      intro i z hh
      obtain ⟨hi, hz, hF⟩ := id hh
      refine kb_iload_n X 3 dX6_copies_2 rfl rfl ?_
      refine kb_bipush (v := (82 : Int32)) X dX6_copies_3 (by decide) ?_
      refine kn_icmp_ge (a := i) (b := 82) (tgt := 30) X (by omega) (by omega) dX6_copies_5 (by decide) (fun c2_ => ?_) (fun c2_ => ?_)
      · skip
        omega
      · skip
        refine kb_aload_n X 0 dX6_copies_8 rfl rfl ?_
        refine kb_get (v := .ref (a 5)) (C := RX6) (T := TX6) (N := 25) (ci := 6) X kw_iX6 rfl 0 8 rfl (by decide) kf_X6_22 rfl rfl dX6_copies_9 ?_
        refine kb_iload_n X 2 dX6_copies_12 rfl rfl ?_
        refine kb_iload_n X 3 dX6_copies_13 rfl rfl ?_
        refine kn_iadd X t i dX6_copies_14 ?_
        refine kb_aload_n X 0 dX6_copies_15 rfl rfl ?_
        refine kb_get (v := .ref (a 5)) (C := RX6) (T := TX6) (N := 25) (ci := 6) X kw_iX6 rfl 0 8 rfl (by decide) kf_X6_22 rfl rfl dX6_copies_16 ?_
        refine kb_iload_n X 1 dX6_copies_19 rfl rfl ?_
        refine kb_iload_n X 3 dX6_copies_20 rfl rfl ?_
        refine kn_iadd X o i dX6_copies_21 ?_
        refine kb_iald (i := o + i) X 5 rfl (by omega) (by decide) dX6_copies_22 ?_
        refine kb_iast (i := t + i) X 5 rfl (by omega) (by decide) dX6_copies_23 (ws' := wR g a pe so ag fr np ns na nf (upd z (t + i) (z (o + i))) ac ke le tx ap bg wr se wh wo bl ck sw ma ro bs) rfl ?_
        refine kb_iinc X 3 [1, 2, 3, 0] (v' := nI (i + 1)) dX6_copies_24 rfl (nI_add _ _) (by decide) (lv' := [(0, .ref (a 0)), (1, .int (nI (o))), (2, .int (nI (t))), (3, .int (nI (i + 1)))]) rfl ?_
        refine kb_goto (tgt := 2) X dX6_copies_27 (by decide) ?_
        exact kw_to (ih (i + 1) (upd z (t + i) (z (o + i))) ⟨by omega, cp_up hz (hF _ (by omega)), FR.up hF (by omega) (by omega)⟩) rfl rfl rfl
  exact kw_to (L2 82 0 sl ⟨rfl, fun k hk => by omega, FR.rf⟩) rfl rfl rfl

set_option maxHeartbeats 4000000 in
set_option maxRecDepth 100000 in
theorem ct_X6_known (l : Launch) (g : kw_G) (a : Nat → Nat) (so : Nat → Int32) (ag : Nat → Int32) (np : Nat) (ns : Nat → Int32) (na : Nat → Int32) (nf : Int32) (sl : Nat → Int32) (ac : Nat) (ke : Nat) (le : Nat) (tx : Nat → Nat) (ap : Nat) (bg : Nat) (wr : Bool) (se : Nat) (wh : Nat → Nat) (wo : Nat → Nat) (bl : Nat → Int32) (ck : Nat → Int32) (sw : Nat → Bool) (ma : Nat) (ro : Nat → Nat) (bs : Nat → Nat) (v : VS) (us ks : List VS) (tf : Nat → Nat) (tn : Nat) (s : SS) (hR : RI (vN v) so ag (vG v) sl ac ke le tx se wh wo bl ck sw v us ks tf tn s) : kMv l g yX6_known cX6_known 2 (kw_rm 2 0 0) 0 0 [.ref (a 0)] (wR g a (vN v) so ag (vG v) np ns na nf sl ac ke le tx ap bg wr se wh wo bl ck sw ma ro bs) (fun w => ∃ sl' ac', RI (vN v) so ag (vG v) sl' ac' ke le tx se wh wo bl ck sw v ((v :: us).take 8) ks tf tn s ∧ w = wR g a (vN v) so ag (vG v) np ns na nf sl' ac' ke le tx ap bg wr se wh wo bl ck sw ma ro bs) := by
  refine kMv_of (by decide +kernel) (Nat.le_of_ble_eq_true rfl) (fun x (X : kX l g RX6 cX6_known 2 (kw_rm 2 0 0) x) (Z : kZv _ 0 0 x) => ?_)
  show kW x 0 0 0 [(0, .ref (a 0))] [] (wR g a (vN v) so ag (vG v) np ns na nf sl ac ke le tx ap bg wr se wh wo bl ck sw ma ro bs)
  have hE := hR.1
  have hG := hR.2.1
  have hK := hR.2.1.1
  have hv := hR.2.1.2.1
  have hT := hR.2.1.2.2.1
  have hN0 := hR.2.1.2.2.2
  have h6 := hv.1
  have hx64 := hv.2.1
  have hh64 := hv.2.2
  have hac := hR.2.2.1.2.1
  refine kb_aload_n X 0 dX6_known_0 rfl rfl ?_
  refine kb_get (v := .int (nI (ac))) (C := RX6) (T := TX6) (N := 25) (ci := 6) X kw_iX6 rfl 0 9 rfl (by decide) kf_X6_123 rfl rfl dX6_known_1 ?_
  refine kb_bipush (v := (8 : Int32)) X dX6_known_4 (by decide) ?_
  refine kn_icmp_ne (a := ac) (b := 8) (tgt := 46) X (by omega) (by omega) dX6_known_6 (by decide) (fun c1_ => ?_) (fun c1_ => ?_)
  · skip
    refine kb_aload_n X 0 dX6_known_46 rfl rfl ?_
    refine kb_dup X dX6_known_47 rfl ?_
    refine kb_get (v := .int (nI (ac))) (C := RX6) (T := TX6) (N := 25) (ci := 6) X kw_iX6 rfl 0 9 rfl (by decide) kf_X6_123 rfl rfl dX6_known_48 ?_
    refine kb_iconst (v := (1 : Int32)) X dX6_known_51 (by decide) ?_
    refine kn_iadd X ac 1 dX6_known_52 ?_
    refine kb_put X (C := RX6) (T := TX6) (N := 25) (ci := 6) (ty := .int) kw_iX6 tyX6 tyX6_ok nmX6 rfl 0 9 rfl (by decide) kf_X6_123 rfl rfl (by decide +kernel) rfl rfl (Nat.le_of_ble_eq_true rfl) dX6_known_53 (ws' := wR g a (vN v) so ag (vG v) np ns na nf sl (ac + 1) ke le tx ap bg wr se wh wo bl ck sw ma ro bs) rfl ?_
    refine kb_aload_n X 0 dX6_known_56 rfl rfl ?_
    refine kb_iconst (v := (0 : Int32)) X dX6_known_57 (by decide) ?_
    refine kb_aload_n X 0 dX6_known_58 rfl rfl ?_
    refine kb_get (v := .int (nI (ac + 1))) (C := RX6) (T := TX6) (N := 25) (ci := 6) X kw_iX6 rfl 0 9 rfl (by decide) kf_X6_123 rfl rfl dX6_known_59 ?_
    refine kb_bipush (v := (82 : Int32)) X dX6_known_62 (by decide) ?_
    refine kn_imul X (ac + 1) 82 dX6_known_64 ?_
    refine kc_Vv X (As := [.int 0, .int (nI ((ac + 1) * 82))]) (rest := []) (wr := []) (ct_X6_copies l g a (vN v) so ag (vG v) np ns na nf sl (ac + 1) ke le tx ap bg wr se wh wo bl ck sw ma ro bs 0 ((ac + 1) * 82) (by omega) (by omega) (by omega)) dX6_known_65 rfl (kw_pall _) mc_X6_copies kl_X6_119 mi_X6_copies mv_X6_copies kn_X6 0 rfl rfl rfl (na := 2) (by decide +kernel) rfl ⟨Nat.le_of_ble_eq_true rfl, Nat.le_of_ble_eq_true rfl⟩ ⟨rfl, rfl⟩ ⟨Nat.le_of_ble_eq_true rfl, Nat.le_of_ble_eq_true rfl⟩ (Nat.le_of_ble_eq_true rfl) (fun w_ hp_ => ?_)
    obtain ⟨sl2_, hC3_, rfl⟩ := hp_
    have hE4_ := hE.fr hC3_.2 (by omega)
    refine kw_ws (List.append_nil _) ?_
    refine ke_v X Z dX6_known_68 ?_
    exact ⟨sl2_, ac + 1, known_more hR c1_ hC3_, rfl⟩
  · skip
    refine kb_bipush (v := (82 : Int32)) X dX6_known_9 (by decide) ?_
    refine kb_istore_n X [1, 0] dX6_known_11 rfl (by decide) (lv' := [(0, .ref (a 0)), (1, .int 82)]) rfl ?_
    have L12 : ∀ (K_ i : Nat) (z : Nat → Int32), i + K_ = 656 ∧ 82 ≤ i ∧ SH sl z i → kW x 0 0 12 [(0, .ref (a 0)), (1, .int (nI (i)))] [] (wR g a (vN v) so ag (vG v) np ns na nf z ac ke le tx ap bg wr se wh wo bl ck sw ma ro bs) := by
      intro K_
      induction K_ with
      | zero =>
        intro i z hh
        obtain ⟨hi, hi2, hz⟩ := id hh
        refine kb_iload_n X 1 dX6_known_12 rfl rfl ?_
        refine kb_sipush (v := (656 : Int32)) X dX6_known_13 (by decide) ?_
        refine kn_icmp_ge (a := i) (b := 656) (tgt := 40) X (by omega) (by omega) dX6_known_16 (by decide) (fun c5_ => ?_) (fun c5_ => ?_)
        · skip
          refine kb_aload_n X 0 dX6_known_40 rfl rfl ?_
          refine kb_bipush (v := (7 : Int32)) X dX6_known_41 (by decide) ?_
          refine kb_put X (C := RX6) (T := TX6) (N := 25) (ci := 6) (ty := .int) kw_iX6 tyX6 tyX6_ok nmX6 rfl 0 9 rfl (by decide) kf_X6_123 rfl rfl (by decide +kernel) rfl rfl (Nat.le_of_ble_eq_true rfl) dX6_known_43 (ws' := wR g a (vN v) so ag (vG v) np ns na nf z 7 ke le tx ap bg wr se wh wo bl ck sw ma ro bs) rfl ?_
          refine kb_aload_n X 0 dX6_known_46 rfl rfl ?_
          refine kb_dup X dX6_known_47 rfl ?_
          refine kb_get (v := .int (nI (7))) (C := RX6) (T := TX6) (N := 25) (ci := 6) X kw_iX6 rfl 0 9 rfl (by decide) kf_X6_123 rfl rfl dX6_known_48 ?_
          refine kb_iconst (v := (1 : Int32)) X dX6_known_51 (by decide) ?_
          refine kn_iadd X 7 1 dX6_known_52 ?_
          refine kb_put X (C := RX6) (T := TX6) (N := 25) (ci := 6) (ty := .int) kw_iX6 tyX6 tyX6_ok nmX6 rfl 0 9 rfl (by decide) kf_X6_123 rfl rfl (by decide +kernel) rfl rfl (Nat.le_of_ble_eq_true rfl) dX6_known_53 (ws' := wR g a (vN v) so ag (vG v) np ns na nf z (7 + 1) ke le tx ap bg wr se wh wo bl ck sw ma ro bs) rfl ?_
          refine kb_aload_n X 0 dX6_known_56 rfl rfl ?_
          refine kb_iconst (v := (0 : Int32)) X dX6_known_57 (by decide) ?_
          refine kb_aload_n X 0 dX6_known_58 rfl rfl ?_
          refine kb_get (v := .int (nI (7 + 1))) (C := RX6) (T := TX6) (N := 25) (ci := 6) X kw_iX6 rfl 0 9 rfl (by decide) kf_X6_123 rfl rfl dX6_known_59 ?_
          refine kb_bipush (v := (82 : Int32)) X dX6_known_62 (by decide) ?_
          refine kn_imul X (7 + 1) 82 dX6_known_64 ?_
          refine kc_Vv X (As := [.int 0, .int (nI ((7 + 1) * 82))]) (rest := []) (wr := []) (ct_X6_copies l g a (vN v) so ag (vG v) np ns na nf z (7 + 1) ke le tx ap bg wr se wh wo bl ck sw ma ro bs 0 ((7 + 1) * 82) (by omega) (by omega) (by omega)) dX6_known_65 rfl (kw_pall _) mc_X6_copies kl_X6_119 mi_X6_copies mv_X6_copies kn_X6 0 rfl rfl rfl (na := 2) (by decide +kernel) rfl ⟨Nat.le_of_ble_eq_true rfl, Nat.le_of_ble_eq_true rfl⟩ ⟨rfl, rfl⟩ ⟨Nat.le_of_ble_eq_true rfl, Nat.le_of_ble_eq_true rfl⟩ (Nat.le_of_ble_eq_true rfl) (fun w_ hp_ => ?_)
          obtain ⟨sl6_, hC7_, rfl⟩ := hp_
          refine kw_ws (List.append_nil _) ?_
          refine ke_v X Z dX6_known_68 ?_
          exact ⟨sl6_, 7 + 1, known_full hR c1_ (by rw [show 656 = i by omega]; exact hz) hC7_, rfl⟩
        · skip
          omega
      | succ K_ ih =>
        intro i z hh
        obtain ⟨hi, hi2, hz⟩ := id hh
        refine kb_iload_n X 1 dX6_known_12 rfl rfl ?_
        refine kb_sipush (v := (656 : Int32)) X dX6_known_13 (by decide) ?_
        refine kn_icmp_ge (a := i) (b := 656) (tgt := 40) X (by omega) (by omega) dX6_known_16 (by decide) (fun c8_ => ?_) (fun c8_ => ?_)
        · skip
          omega
        · skip
          refine kb_aload_n X 0 dX6_known_19 rfl rfl ?_
          refine kb_get (v := .ref (a 5)) (C := RX6) (T := TX6) (N := 25) (ci := 6) X kw_iX6 rfl 0 8 rfl (by decide) kf_X6_22 rfl rfl dX6_known_20 ?_
          refine kb_iload_n X 1 dX6_known_23 rfl rfl ?_
          refine kb_aload_n X 0 dX6_known_24 rfl rfl ?_
          refine kb_get (v := .ref (a 5)) (C := RX6) (T := TX6) (N := 25) (ci := 6) X kw_iX6 rfl 0 8 rfl (by decide) kf_X6_22 rfl rfl dX6_known_25 ?_
          refine kb_iload_n X 1 dX6_known_28 rfl rfl ?_
          refine kb_bipush (v := (82 : Int32)) X dX6_known_29 (by decide) ?_
          refine kn_iadd X i 82 dX6_known_31 ?_
          refine kb_iald (i := i + 82) X 5 rfl (by omega) (by decide) dX6_known_32 ?_
          refine kb_iast (i := i) X 5 rfl (by omega) (by decide) dX6_known_33 (ws' := wR g a (vN v) so ag (vG v) np ns na nf (upd z i (z (i + 82))) ac ke le tx ap bg wr se wh wo bl ck sw ma ro bs) rfl ?_
          refine kb_iinc X 1 [1, 0] (v' := nI (i + 1)) dX6_known_34 rfl (nI_add _ _) (by decide) (lv' := [(0, .ref (a 0)), (1, .int (nI (i + 1)))]) rfl ?_
          refine kb_goto (tgt := 12) X dX6_known_37 (by decide) ?_
          exact kw_to (ih (i + 1) (upd z i (z (i + 82))) ⟨by omega, by omega, hz.up hi2⟩) rfl rfl rfl
    exact kw_to (L12 574 82 sl ⟨rfl, Nat.le_refl _, SH.rf⟩) rfl rfl rfl

set_option maxHeartbeats 4000000 in
set_option maxRecDepth 100000 in
theorem ct_X6_trial (l : Launch) (g : kw_G) (a : Nat → Nat) (so : Nat → Int32) (ag : Nat → Int32) (np : Nat) (ns : Nat → Int32) (na : Nat → Int32) (nf : Int32) (sl : Nat → Int32) (ac : Nat) (ke : Nat) (le : Nat) (tx : Nat → Nat) (ap : Nat) (bg : Nat) (wr : Bool) (se : Nat) (wh : Nat → Nat) (wo : Nat → Nat) (bl : Nat → Int32) (ck : Nat → Int32) (sw : Nat → Bool) (ma : Nat) (ro : Nat → Nat) (bs : Nat → Nat) (v : VS) (us ks : List VS) (tf : Nat → Nat) (tn : Nat) (s : SS) (hR : RI (vN v) so ag (vG v) sl ac ke le tx se wh wo bl ck sw v us ks tf tn s) (p b c : Int32) : kMi l g yX6_trial cX6_trial 4 .int (kw_rm 6 0 0) 0 0 [.ref (a 0), .int (p), .int (b), .int (c)] (wR g a (vN v) so ag (vG v) np ns na nf sl ac ke le tx ap bg wr se wh wo bl ck sw ma ro bs) (fun r w => r = (oTrial v p b c).1 ∧ RWp g a (pv v (oTrial v p b c).2) (pu v us (oTrial v p b c).2) ks tf tn s w) := by
  refine kMi_of (by decide +kernel) (Nat.le_of_ble_eq_true rfl) (fun x (X : kX l g RX6 cX6_trial 4 (kw_rm 6 0 0) x) (Z : kZi .int _ 0 0 x) => ?_)
  show kW x 0 0 0 [(0, .ref (a 0)), (1, .int (p)), (2, .int (b)), (3, .int (c))] [] (wR g a (vN v) so ag (vG v) np ns na nf sl ac ke le tx ap bg wr se wh wo bl ck sw ma ro bs)
  have hE := hR.1
  have hG := hR.2.1
  have hK := hR.2.1.1
  have hv := hR.2.1.2.1
  have hT := hR.2.1.2.2.1
  have hN0 := hR.2.1.2.2.2
  have h6 := hv.1
  have hx64 := hv.2.1
  have hh64 := hv.2.2
  refine kb_aload_n X 0 dX6_trial_0 rfl rfl ?_
  refine kb_iload_n X 1 dX6_trial_1 rfl rfl ?_
  refine kc_Vi X (As := [.int (p)]) (rest := []) (wr := []) (ct_X6_isPerson l g a (vN v) so ag (vG v) np ns na nf sl ac ke le tx ap bg wr se wh wo bl ck sw ma ro bs p (by omega)) dX6_trial_2 rfl (kw_pall _) mc_X6_isPerson kl_X6_75 mi_X6_isPerson mv_X6_isPerson kn_X6 0 rfl rfl rfl (na := 1) (by decide +kernel) rfl ⟨Nat.le_of_ble_eq_true rfl, Nat.le_of_ble_eq_true rfl⟩ ⟨rfl, rfl⟩ ⟨Nat.le_of_ble_eq_true rfl, Nat.le_of_ble_eq_true rfl⟩ (Nat.le_of_ble_eq_true rfl) (fun r_ w_ hp_ => ?_)
  obtain ⟨rfl, rfl⟩ := hp_
  refine kw_ws (List.append_nil _) ?_
  refine kz_if_eq (b := pin p (vN v)) (tgt := 16) X dX6_trial_5 (by decide) (fun c1_ => ?_) (fun c1_ => ?_)
  · skip
    refine kb_iconst (v := (-1 : Int32)) X dX6_trial_16 (by decide) ?_
    refine ke_i X Z dX6_trial_17 ?_
    have e_ : oTrial v p b c = (-1, none) := by simp [oTrial, c1_]
    rw [e_]
    exact ⟨rfl, RWp.of hR⟩
  · skip
    obtain ⟨pj, hpj, epj, ePp⟩ := pin_j h6 c1_
    refine kb_iload_n X 2 dX6_trial_8 rfl rfl ?_
    refine kb_iload_n X 3 dX6_trial_9 rfl rfl ?_
    refine kc_Si X (As := [.int (b), .int (c)]) (rest := []) (wr := (wR g a (vN v) so ag (vG v) np ns na nf sl ac ke le tx ap bg wr se wh wo bl ck sw ma ro bs)) (ct_X6_areBells l g b c ) dX6_trial_10 rfl (List.Perm.refl _) mc_X6_areBells kl_X6_187 ms_X6_areBells kn_X6 (na := 2) (by decide +kernel) rfl ⟨Nat.le_of_ble_eq_true rfl, Nat.le_of_ble_eq_true rfl⟩ ⟨rfl, rfl⟩ ⟨Nat.le_of_ble_eq_true rfl, Nat.le_of_ble_eq_true rfl⟩ (Nat.le_of_ble_eq_true rfl) (fun r_ w_ hp_ => ?_)
    obtain ⟨rfl, rfl⟩ := hp_
    refine kw_ws (List.nil_append _) ?_
    refine kz_if_ne (b := fare b c) (tgt := 18) X dX6_trial_13 (by decide) (fun c2_ => ?_) (fun c2_ => ?_)
    · skip
      refine kw_lv (lv' := [(0, .ref (a 0)), (1, .int (nI (pj))), (2, .int (b)), (3, .int (c))]) (by rw [epj]) ?_
      refine kb_aload_n X 0 dX6_trial_18 rfl rfl ?_
      refine kb_iconst (v := (0 : Int32)) X dX6_trial_19 (by decide) ?_
      refine kb_iload_n X 1 dX6_trial_20 rfl rfl ?_
      refine kb_iload_n X 2 dX6_trial_21 rfl rfl ?_
      refine kb_iload_n X 3 dX6_trial_22 rfl rfl ?_
      refine kc_Vi X (As := [.int 0, .int (nI (pj)), .int (b), .int (c)]) (rest := []) (wr := []) (ct_X6_canHave l g a (vN v) so ag (vG v) np ns na nf sl ac ke le tx ap bg wr se wh wo bl ck sw ma ro bs 0 v (by omega) hE hK hv pj b c (by omega)) dX6_trial_23 rfl (kw_pall _) mc_X6_canHave kl_X6_190 mi_X6_canHave mv_X6_canHave kn_X6 0 rfl rfl rfl (na := 4) (by decide +kernel) rfl ⟨Nat.le_of_ble_eq_true rfl, Nat.le_of_ble_eq_true rfl⟩ ⟨rfl, rfl⟩ ⟨Nat.le_of_ble_eq_true rfl, Nat.le_of_ble_eq_true rfl⟩ (Nat.le_of_ble_eq_true rfl) (fun r_ w_ hp_ => ?_)
      obtain ⟨rfl, rfl⟩ := hp_
      refine kw_ws (List.append_nil _) ?_
      refine kz_if_ne (b := wCan v pj b c) (tgt := 32) X dX6_trial_26 (by decide) (fun c3_ => ?_) (fun c3_ => ?_)
      · skip
        refine kb_aload_n X 0 dX6_trial_32 rfl rfl ?_
        refine kc_Vv X (As := []) (rest := []) (wr := []) (ct_X6_known l g a so ag np ns na nf sl ac ke le tx ap bg wr se wh wo bl ck sw ma ro bs v us ks tf tn s hR) dX6_trial_33 rfl (kw_pall _) mc_X6_known kl_X6_194 mi_X6_known mv_X6_known kn_X6 0 rfl rfl rfl (na := 0) (by decide +kernel) rfl ⟨Nat.le_of_ble_eq_true rfl, Nat.le_of_ble_eq_true rfl⟩ ⟨rfl, rfl⟩ ⟨Nat.le_of_ble_eq_true rfl, Nat.le_of_ble_eq_true rfl⟩ (Nat.le_of_ble_eq_true rfl) (fun w_ hp_ => ?_)
        obtain ⟨slk, ack, hRk, rfl⟩ := hp_
        refine kw_ws (List.append_nil _) ?_
        refine kb_aload_n X 0 dX6_trial_36 rfl rfl ?_
        refine kb_iconst (v := (0 : Int32)) X dX6_trial_37 (by decide) ?_
        refine kb_iload_n X 1 dX6_trial_38 rfl rfl ?_
        refine kb_iload_n X 2 dX6_trial_39 rfl rfl ?_
        refine kb_iload_n X 3 dX6_trial_40 rfl rfl ?_
        refine kc_Vi X (As := [.int 0, .int (nI (pj)), .int (b), .int (c)]) (rest := []) (wr := []) (ct_X6_holds l g a (vN v) so ag (vG v) np ns na nf slk ack ke le tx ap bg wr se wh wo bl ck sw ma ro bs 0 v (by omega) hRk.1 hK hv pj b c (by omega)) dX6_trial_41 rfl (kw_pall _) mc_X6_holds kl_X6_197 mi_X6_holds mv_X6_holds kn_X6 0 rfl rfl rfl (na := 4) (by decide +kernel) rfl ⟨Nat.le_of_ble_eq_true rfl, Nat.le_of_ble_eq_true rfl⟩ ⟨rfl, rfl⟩ ⟨Nat.le_of_ble_eq_true rfl, Nat.le_of_ble_eq_true rfl⟩ (Nat.le_of_ble_eq_true rfl) (fun r_ w_ hp_ => ?_)
        obtain ⟨rfl, sl4_, hE5_, hF6_, rfl⟩ := hp_
        have hF7_ : FR slk sl4_ 0 := FR.tr FR.rf hF6_
        refine kw_ws (List.append_nil _) ?_
        refine ke_i X Z dX6_trial_44 ?_
        have e_ : oTrial v p b c = (nI (wGuests v pj b c), some (wHold v pj b c)) := by simp [oTrial, c1_, c2_, ePp, c3_]
        rw [e_]
        exact ⟨rfl, RWp.of (hRk.win (hE5_) hF7_ (hG.hold (by omega) b c))⟩
      · skip
        refine kb_bipush (v := (-2 : Int32)) X dX6_trial_29 (by decide) ?_
        refine ke_i X Z dX6_trial_31 ?_
        have e_ : oTrial v p b c = (-2, none) := by simp [oTrial, c1_, c2_, ePp, c3_]
        rw [e_]
        exact ⟨rfl, RWp.of hR⟩
    · skip
      refine kb_iconst (v := (-1 : Int32)) X dX6_trial_16 (by decide) ?_
      refine ke_i X Z dX6_trial_17 ?_
      have e_ : oTrial v p b c = (-1, none) := by simp [oTrial, c1_, c2_]
      rw [e_]
      exact ⟨rfl, RWp.of hR⟩

set_option maxHeartbeats 4000000 in
set_option maxRecDepth 100000 in
theorem ct_X6_gift (l : Launch) (g : kw_G) (a : Nat → Nat) (so : Nat → Int32) (ag : Nat → Int32) (np : Nat) (ns : Nat → Int32) (na : Nat → Int32) (nf : Int32) (sl : Nat → Int32) (ac : Nat) (ke : Nat) (le : Nat) (tx : Nat → Nat) (ap : Nat) (bg : Nat) (wr : Bool) (se : Nat) (wh : Nat → Nat) (wo : Nat → Nat) (bl : Nat → Int32) (ck : Nat → Int32) (sw : Nat → Bool) (ma : Nat) (ro : Nat → Nat) (bs : Nat → Nat) (v : VS) (us ks : List VS) (tf : Nat → Nat) (tn : Nat) (s : SS) (hR : RI (vN v) so ag (vG v) sl ac ke le tx se wh wo bl ck sw v us ks tf tn s) (i j : Int32) : kMi l g yX6_gift cX6_gift 3 .int (kw_rm 4 0 0) 0 0 [.ref (a 0), .int (i), .int (j)] (wR g a (vN v) so ag (vG v) np ns na nf sl ac ke le tx ap bg wr se wh wo bl ck sw ma ro bs) (fun r w => r = (oGift v i j).1 ∧ RWp g a (pv v (oGift v i j).2) (pu v us (oGift v i j).2) ks tf tn s w) := by
  refine kMi_of (by decide +kernel) (Nat.le_of_ble_eq_true rfl) (fun x (X : kX l g RX6 cX6_gift 3 (kw_rm 4 0 0) x) (Z : kZi .int _ 0 0 x) => ?_)
  show kW x 0 0 0 [(0, .ref (a 0)), (1, .int (i)), (2, .int (j))] [] (wR g a (vN v) so ag (vG v) np ns na nf sl ac ke le tx ap bg wr se wh wo bl ck sw ma ro bs)
  have hE := hR.1
  have hG := hR.2.1
  have hK := hR.2.1.1
  have hv := hR.2.1.2.1
  have hT := hR.2.1.2.2.1
  have hN0 := hR.2.1.2.2.2
  have h6 := hv.1
  have hx64 := hv.2.1
  have hh64 := hv.2.2
  refine kb_aload_n X 0 dX6_gift_0 rfl rfl ?_
  refine kb_iload_n X 1 dX6_gift_1 rfl rfl ?_
  refine kb_iload_n X 2 dX6_gift_2 rfl rfl ?_
  refine kc_Vi X (As := [.int (i), .int (j)]) (rest := []) (wr := []) (ct_X6_areTwo l g a (vN v) so ag (vG v) np ns na nf sl ac ke le tx ap bg wr se wh wo bl ck sw ma ro bs i j (by omega)) dX6_gift_3 rfl (kw_pall _) mc_X6_areTwo kl_X6_147 mi_X6_areTwo mv_X6_areTwo kn_X6 0 rfl rfl rfl (na := 2) (by decide +kernel) rfl ⟨Nat.le_of_ble_eq_true rfl, Nat.le_of_ble_eq_true rfl⟩ ⟨rfl, rfl⟩ ⟨Nat.le_of_ble_eq_true rfl, Nat.le_of_ble_eq_true rfl⟩ (Nat.le_of_ble_eq_true rfl) (fun r_ w_ hp_ => ?_)
  obtain ⟨rfl, rfl⟩ := hp_
  refine kw_ws (List.append_nil _) ?_
  refine kz_if_ne (b := two i j (vN v)) (tgt := 11) X dX6_gift_6 (by decide) (fun c1_ => ?_) (fun c1_ => ?_)
  · skip
    obtain ⟨ij, jj, hij, hjj, hne, eij, ejj, ePi, ePj⟩ := two_j h6 c1_
    refine kw_lv (lv' := [(0, .ref (a 0)), (1, .int (nI (ij))), (2, .int (j))]) (by rw [eij]) ?_
    refine kw_lv (lv' := [(0, .ref (a 0)), (1, .int (nI (ij))), (2, .int (nI (jj)))]) (by rw [ejj]) ?_
    refine kb_aload_n X 0 dX6_gift_11 rfl rfl ?_
    refine kb_iconst (v := (0 : Int32)) X dX6_gift_12 (by decide) ?_
    refine kb_iload_n X 1 dX6_gift_13 rfl rfl ?_
    refine kb_iload_n X 2 dX6_gift_14 rfl rfl ?_
    refine kc_Vi X (As := [.int 0, .int (nI (ij)), .int (nI (jj))]) (rest := []) (wr := []) (ct_X6_canGive l g a (vN v) so ag (vG v) np ns na nf sl ac ke le tx ap bg wr se wh wo bl ck sw ma ro bs 0 v (by omega) hE hK hv ij jj (by omega) (by omega)) dX6_gift_15 rfl (kw_pall _) mc_X6_canGive kl_X6_200 mi_X6_canGive mv_X6_canGive kn_X6 0 rfl rfl rfl (na := 3) (by decide +kernel) rfl ⟨Nat.le_of_ble_eq_true rfl, Nat.le_of_ble_eq_true rfl⟩ ⟨rfl, rfl⟩ ⟨Nat.le_of_ble_eq_true rfl, Nat.le_of_ble_eq_true rfl⟩ (Nat.le_of_ble_eq_true rfl) (fun r_ w_ hp_ => ?_)
    obtain ⟨rfl, rfl⟩ := hp_
    refine kw_ws (List.append_nil _) ?_
    refine kz_if_ne (b := !decide (ij = jj) && wCanGive v ij jj) (tgt := 24) X dX6_gift_18 (by decide) (fun c2_ => ?_) (fun c2_ => ?_)
    · skip
      have cg_ : wCanGive v ij jj = true := by simpa [hne] using c2_
      refine kb_aload_n X 0 dX6_gift_24 rfl rfl ?_
      refine kc_Vv X (As := []) (rest := []) (wr := []) (ct_X6_known l g a so ag np ns na nf sl ac ke le tx ap bg wr se wh wo bl ck sw ma ro bs v us ks tf tn s hR) dX6_gift_25 rfl (kw_pall _) mc_X6_known kl_X6_194 mi_X6_known mv_X6_known kn_X6 0 rfl rfl rfl (na := 0) (by decide +kernel) rfl ⟨Nat.le_of_ble_eq_true rfl, Nat.le_of_ble_eq_true rfl⟩ ⟨rfl, rfl⟩ ⟨Nat.le_of_ble_eq_true rfl, Nat.le_of_ble_eq_true rfl⟩ (Nat.le_of_ble_eq_true rfl) (fun w_ hp_ => ?_)
      obtain ⟨slk, ack, hRk, rfl⟩ := hp_
      refine kw_ws (List.append_nil _) ?_
      refine kb_aload_n X 0 dX6_gift_28 rfl rfl ?_
      refine kb_iconst (v := (0 : Int32)) X dX6_gift_29 (by decide) ?_
      refine kb_iload_n X 1 dX6_gift_30 rfl rfl ?_
      refine kb_iload_n X 2 dX6_gift_31 rfl rfl ?_
      refine kc_Vv X (As := [.int 0, .int (nI (ij)), .int (nI (jj))]) (rest := []) (wr := []) (ct_X6_gives l g a (vN v) so ag (vG v) np ns na nf slk ack ke le tx ap bg wr se wh wo bl ck sw ma ro bs 0 v (by omega) hRk.1 hK hv ij jj (by omega) (by omega)) dX6_gift_32 rfl (kw_pall _) mc_X6_gives kl_X6_204 mi_X6_gives mv_X6_gives kn_X6 0 rfl rfl rfl (na := 3) (by decide +kernel) rfl ⟨Nat.le_of_ble_eq_true rfl, Nat.le_of_ble_eq_true rfl⟩ ⟨rfl, rfl⟩ ⟨Nat.le_of_ble_eq_true rfl, Nat.le_of_ble_eq_true rfl⟩ (Nat.le_of_ble_eq_true rfl) (fun w_ hp_ => ?_)
      obtain ⟨sl3_, hE4_, hF5_, rfl⟩ := hp_
      have hF6_ : FR slk sl3_ 0 := FR.tr FR.rf hF5_
      refine kw_ws (List.append_nil _) ?_
      refine kb_aload_n X 0 dX6_gift_35 rfl rfl ?_
      refine kb_get (v := .ref (a 5)) (C := RX6) (T := TX6) (N := 25) (ci := 6) X kw_iX6 rfl 0 8 rfl (by decide) kf_X6_22 rfl rfl dX6_gift_36 ?_
      refine kb_bipush (v := (10 : Int32)) X dX6_gift_39 (by decide) ?_
      refine kb_bipush (v := (6 : Int32)) X dX6_gift_41 (by decide) ?_
      refine kb_iload_n X 2 dX6_gift_43 rfl rfl ?_
      refine kn_imul X 6 jj dX6_gift_44 ?_
      refine kn_iadd X 10 (6 * jj) dX6_gift_45 ?_
      refine kb_iload_n X 1 dX6_gift_46 rfl rfl ?_
      refine kn_iadd X (10 + (6 * jj)) ij dX6_gift_47 ?_
      refine kb_iald (i := (10 + (6 * jj)) + ij) X 5 rfl (by omega) (by decide) dX6_gift_48 ?_
      refine kw_top (b := .int (vT (wGive v ij jj) (jj * 6 + ij))) (congrArg Value.int (hE4_.t (p := jj) (q := ij) (by omega) (by omega) (by omega))) ?_
      refine kb_iconst (v := (4 : Int32)) X dX6_gift_49 (by decide) ?_
      refine kb_iadd X dX6_gift_50 ?_
      refine ke_i X Z dX6_gift_51 ?_
      have e_ : oGift v i j = (vT (wGive v ij jj) (jj * 6 + ij) + 4, some (wGive v ij jj)) := by simp [oGift, c1_, ePi, ePj, hne, c2_, cg_]
      rw [e_]
      exact ⟨rfl, RWp.of (hRk.win (hE4_) hF6_ (hG.give ij jj))⟩
    · skip
      have cg_ : wCanGive v ij jj = false := by simpa [hne] using c2_
      refine kb_bipush (v := (-2 : Int32)) X dX6_gift_21 (by decide) ?_
      refine ke_i X Z dX6_gift_23 ?_
      have e_ : oGift v i j = (-2, none) := by simp [oGift, c1_, ePi, ePj, hne, c2_, cg_]
      rw [e_]
      exact ⟨rfl, RWp.of hR⟩
  · skip
    refine kb_iconst (v := (-1 : Int32)) X dX6_gift_9 (by decide) ?_
    refine ke_i X Z dX6_gift_10 ?_
    have e_ : oGift v i j = (-1, none) := by simp [oGift, c1_]
    rw [e_]
    exact ⟨rfl, RWp.of hR⟩

set_option maxHeartbeats 4000000 in
set_option maxRecDepth 100000 in
theorem ct_X6_pay (l : Launch) (g : kw_G) (a : Nat → Nat) (so : Nat → Int32) (ag : Nat → Int32) (np : Nat) (ns : Nat → Int32) (na : Nat → Int32) (nf : Int32) (sl : Nat → Int32) (ac : Nat) (ke : Nat) (le : Nat) (tx : Nat → Nat) (ap : Nat) (bg : Nat) (wr : Bool) (se : Nat) (wh : Nat → Nat) (wo : Nat → Nat) (bl : Nat → Int32) (ck : Nat → Int32) (sw : Nat → Bool) (ma : Nat) (ro : Nat → Nat) (bs : Nat → Nat) (v : VS) (us ks : List VS) (tf : Nat → Nat) (tn : Nat) (s : SS) (hR : RI (vN v) so ag (vG v) sl ac ke le tx se wh wo bl ck sw v us ks tf tn s) (i j : Int32) : kMi l g yX6_pay cX6_pay 3 .int (kw_rm 4 0 0) 0 0 [.ref (a 0), .int (i), .int (j)] (wR g a (vN v) so ag (vG v) np ns na nf sl ac ke le tx ap bg wr se wh wo bl ck sw ma ro bs) (fun r w => r = (oPay v i j).1 ∧ RWp g a (pv v (oPay v i j).2) (pu v us (oPay v i j).2) ks tf tn s w) := by
  refine kMi_of (by decide +kernel) (Nat.le_of_ble_eq_true rfl) (fun x (X : kX l g RX6 cX6_pay 3 (kw_rm 4 0 0) x) (Z : kZi .int _ 0 0 x) => ?_)
  show kW x 0 0 0 [(0, .ref (a 0)), (1, .int (i)), (2, .int (j))] [] (wR g a (vN v) so ag (vG v) np ns na nf sl ac ke le tx ap bg wr se wh wo bl ck sw ma ro bs)
  have hE := hR.1
  have hG := hR.2.1
  have hK := hR.2.1.1
  have hv := hR.2.1.2.1
  have hT := hR.2.1.2.2.1
  have hN0 := hR.2.1.2.2.2
  have h6 := hv.1
  have hx64 := hv.2.1
  have hh64 := hv.2.2
  refine kb_aload_n X 0 dX6_pay_0 rfl rfl ?_
  refine kb_iload_n X 1 dX6_pay_1 rfl rfl ?_
  refine kb_iload_n X 2 dX6_pay_2 rfl rfl ?_
  refine kc_Vi X (As := [.int (i), .int (j)]) (rest := []) (wr := []) (ct_X6_areTwo l g a (vN v) so ag (vG v) np ns na nf sl ac ke le tx ap bg wr se wh wo bl ck sw ma ro bs i j (by omega)) dX6_pay_3 rfl (kw_pall _) mc_X6_areTwo kl_X6_147 mi_X6_areTwo mv_X6_areTwo kn_X6 0 rfl rfl rfl (na := 2) (by decide +kernel) rfl ⟨Nat.le_of_ble_eq_true rfl, Nat.le_of_ble_eq_true rfl⟩ ⟨rfl, rfl⟩ ⟨Nat.le_of_ble_eq_true rfl, Nat.le_of_ble_eq_true rfl⟩ (Nat.le_of_ble_eq_true rfl) (fun r_ w_ hp_ => ?_)
  obtain ⟨rfl, rfl⟩ := hp_
  refine kw_ws (List.append_nil _) ?_
  refine kz_if_ne (b := two i j (vN v)) (tgt := 11) X dX6_pay_6 (by decide) (fun c1_ => ?_) (fun c1_ => ?_)
  · skip
    obtain ⟨ij, jj, hij, hjj, hne, eij, ejj, ePi, ePj⟩ := two_j h6 c1_
    refine kw_lv (lv' := [(0, .ref (a 0)), (1, .int (nI (ij))), (2, .int (j))]) (by rw [eij]) ?_
    refine kw_lv (lv' := [(0, .ref (a 0)), (1, .int (nI (ij))), (2, .int (nI (jj)))]) (by rw [ejj]) ?_
    refine kb_aload_n X 0 dX6_pay_11 rfl rfl ?_
    refine kb_get (v := .ref (a 5)) (C := RX6) (T := TX6) (N := 25) (ci := 6) X kw_iX6 rfl 0 8 rfl (by decide) kf_X6_22 rfl rfl dX6_pay_12 ?_
    refine kb_bipush (v := (46 : Int32)) X dX6_pay_15 (by decide) ?_
    refine kb_bipush (v := (6 : Int32)) X dX6_pay_17 (by decide) ?_
    refine kb_iload_n X 1 dX6_pay_19 rfl rfl ?_
    refine kn_imul X 6 ij dX6_pay_20 ?_
    refine kn_iadd X 46 (6 * ij) dX6_pay_21 ?_
    refine kb_iload_n X 2 dX6_pay_22 rfl rfl ?_
    refine kn_iadd X (46 + (6 * ij)) jj dX6_pay_23 ?_
    refine kb_iald (i := (46 + (6 * ij)) + jj) X 5 rfl (by omega) (by decide) dX6_pay_24 ?_
    refine kw_top (b := .int (vD v (ij * 6 + jj))) (congrArg Value.int (hE.d (p := ij) (q := jj) (by omega) (by omega) (by omega))) ?_
    refine kb_if_eq (tgt := 37) X dX6_pay_25 (by decide) (fun c2_ => ?_) (fun c2_ => ?_)
    · skip
      refine kb_bipush (v := (-2 : Int32)) X dX6_pay_37 (by decide) ?_
      refine ke_i X Z dX6_pay_39 ?_
      have e_ : oPay v i j = (-2, none) := by simp [oPay, c1_, ePi, ePj, hne, c2_]
      rw [e_]
      exact ⟨rfl, RWp.of hR⟩
    · skip
      refine kb_aload_n X 0 dX6_pay_28 rfl rfl ?_
      refine kb_get (v := .ref (a 5)) (C := RX6) (T := TX6) (N := 25) (ci := 6) X kw_iX6 rfl 0 8 rfl (by decide) kf_X6_22 rfl rfl dX6_pay_29 ?_
      refine kb_iload_n X 1 dX6_pay_32 rfl rfl ?_
      refine kb_iald (i := ij) X 5 rfl (by omega) (by decide) dX6_pay_33 ?_
      refine kw_top (b := .int (vC v ij)) (congrArg Value.int (hE.c (p := ij) (by omega) (by omega))) ?_
      refine kb_if_ne (tgt := 40) X dX6_pay_34 (by decide) (fun c3_ => ?_) (fun c3_ => ?_)
      · skip
        refine kb_aload_n X 0 dX6_pay_40 rfl rfl ?_
        refine kc_Vv X (As := []) (rest := []) (wr := []) (ct_X6_known l g a so ag np ns na nf sl ac ke le tx ap bg wr se wh wo bl ck sw ma ro bs v us ks tf tn s hR) dX6_pay_41 rfl (kw_pall _) mc_X6_known kl_X6_194 mi_X6_known mv_X6_known kn_X6 0 rfl rfl rfl (na := 0) (by decide +kernel) rfl ⟨Nat.le_of_ble_eq_true rfl, Nat.le_of_ble_eq_true rfl⟩ ⟨rfl, rfl⟩ ⟨Nat.le_of_ble_eq_true rfl, Nat.le_of_ble_eq_true rfl⟩ (Nat.le_of_ble_eq_true rfl) (fun w_ hp_ => ?_)
        obtain ⟨slk, ack, hRk, rfl⟩ := hp_
        refine kw_ws (List.append_nil _) ?_
        refine kb_aload_n X 0 dX6_pay_44 rfl rfl ?_
        refine kb_iconst (v := (0 : Int32)) X dX6_pay_45 (by decide) ?_
        refine kb_iload_n X 1 dX6_pay_46 rfl rfl ?_
        refine kb_iload_n X 2 dX6_pay_47 rfl rfl ?_
        refine kb_aload_n X 0 dX6_pay_48 rfl rfl ?_
        refine kb_get (v := .ref (a 5)) (C := RX6) (T := TX6) (N := 25) (ci := 6) X kw_iX6 rfl 0 8 rfl (by decide) kf_X6_22 rfl rfl dX6_pay_49 ?_
        refine kb_bipush (v := (46 : Int32)) X dX6_pay_52 (by decide) ?_
        refine kb_bipush (v := (6 : Int32)) X dX6_pay_54 (by decide) ?_
        refine kb_iload_n X 1 dX6_pay_56 rfl rfl ?_
        refine kn_imul X 6 ij dX6_pay_57 ?_
        refine kn_iadd X 46 (6 * ij) dX6_pay_58 ?_
        refine kb_iload_n X 2 dX6_pay_59 rfl rfl ?_
        refine kn_iadd X (46 + (6 * ij)) jj dX6_pay_60 ?_
        refine kb_iald (i := (46 + (6 * ij)) + jj) X 5 rfl (by omega) (by decide) dX6_pay_61 ?_
        refine kw_top (b := .int (vD v (ij * 6 + jj))) (congrArg Value.int (hRk.1.d (p := ij) (q := jj) (by omega) (by omega) (by omega))) ?_
        refine kc_Vi X (As := [.int 0, .int (nI (ij)), .int (nI (jj)), .int (vD v (ij * 6 + jj))]) (rest := []) (wr := []) (ct_X6_pays l g a (vN v) so ag (vG v) np ns na nf slk ack ke le tx ap bg wr se wh wo bl ck sw ma ro bs 0 v (by omega) hRk.1 hK hv ij jj (vD v (ij * 6 + jj)) (by omega) (by omega)) dX6_pay_62 rfl (kw_pall _) mc_X6_pays kl_X6_171 mi_X6_pays mv_X6_pays kn_X6 0 rfl rfl rfl (na := 4) (by decide +kernel) rfl ⟨Nat.le_of_ble_eq_true rfl, Nat.le_of_ble_eq_true rfl⟩ ⟨rfl, rfl⟩ ⟨Nat.le_of_ble_eq_true rfl, Nat.le_of_ble_eq_true rfl⟩ (Nat.le_of_ble_eq_true rfl) (fun r_ w_ hp_ => ?_)
        obtain ⟨rfl, sl4_, hE5_, hF6_, rfl⟩ := hp_
        have hF7_ : FR slk sl4_ 0 := FR.tr FR.rf hF6_
        refine kw_ws (List.append_nil _) ?_
        refine ke_i X Z dX6_pay_65 ?_
        have e_ : oPay v i j = (wPaid v ij (vD v (ij * 6 + jj)), some (wPay v ij jj (vD v (ij * 6 + jj)))) := by simp [oPay, c1_, ePi, ePj, hne, c2_, c3_]
        rw [e_]
        exact ⟨rfl, RWp.of (hRk.win (hE5_) hF7_ (hG.pay ij jj _))⟩
      · skip
        refine kb_bipush (v := (-2 : Int32)) X dX6_pay_37 (by decide) ?_
        refine ke_i X Z dX6_pay_39 ?_
        have e_ : oPay v i j = (-2, none) := by simp [oPay, c1_, ePi, ePj, hne, c2_, c3_]
        rw [e_]
        exact ⟨rfl, RWp.of hR⟩
  · skip
    refine kb_iconst (v := (-1 : Int32)) X dX6_pay_9 (by decide) ?_
    refine ke_i X Z dX6_pay_10 ?_
    have e_ : oPay v i j = (-1, none) := by simp [oPay, c1_]
    rw [e_]
    exact ⟨rfl, RWp.of hR⟩

set_option maxHeartbeats 4000000 in
set_option maxRecDepth 100000 in
theorem ct_X6_pass (l : Launch) (g : kw_G) (a : Nat → Nat) (so : Nat → Int32) (ag : Nat → Int32) (np : Nat) (ns : Nat → Int32) (na : Nat → Int32) (nf : Int32) (sl : Nat → Int32) (ac : Nat) (ke : Nat) (le : Nat) (tx : Nat → Nat) (ap : Nat) (bg : Nat) (wr : Bool) (se : Nat) (wh : Nat → Nat) (wo : Nat → Nat) (bl : Nat → Int32) (ck : Nat → Int32) (sw : Nat → Bool) (ma : Nat) (ro : Nat → Nat) (bs : Nat → Nat) (v : VS) (us ks : List VS) (tf : Nat → Nat) (tn : Nat) (s : SS) (hR : RI (vN v) so ag (vG v) sl ac ke le tx se wh wo bl ck sw v us ks tf tn s) (p : Int32) : kMi l g yX6_pass cX6_pass 2 .int (kw_rm 3 0 0) 0 0 [.ref (a 0), .int (p)] (wR g a (vN v) so ag (vG v) np ns na nf sl ac ke le tx ap bg wr se wh wo bl ck sw ma ro bs) (fun r w => r = (oPass v p).1 ∧ RWp g a (pv v (oPass v p).2) (pu v us (oPass v p).2) ks tf tn s w) := by
  refine kMi_of (by decide +kernel) (Nat.le_of_ble_eq_true rfl) (fun x (X : kX l g RX6 cX6_pass 2 (kw_rm 3 0 0) x) (Z : kZi .int _ 0 0 x) => ?_)
  show kW x 0 0 0 [(0, .ref (a 0)), (1, .int (p))] [] (wR g a (vN v) so ag (vG v) np ns na nf sl ac ke le tx ap bg wr se wh wo bl ck sw ma ro bs)
  have hE := hR.1
  have hG := hR.2.1
  have hK := hR.2.1.1
  have hv := hR.2.1.2.1
  have hT := hR.2.1.2.2.1
  have hN0 := hR.2.1.2.2.2
  have h6 := hv.1
  have hx64 := hv.2.1
  have hh64 := hv.2.2
  refine kb_iload_n X 1 dX6_pass_0 rfl rfl ?_
  refine kb_i2l (v := p.toInt64) X dX6_pass_1 rfl ?_
  refine kb_lconst (v := 1) X dX6_pass_2 (by decide) ?_
  refine kb_ldc2 X kk_X6_207 dX6_pass_3 ?_
  refine kc_Si X (As := [.long (p.toInt64), .long ((1 : Int64)), .long ((30 : Int64))]) (rest := []) (wr := (wR g a (vN v) so ag (vG v) np ns na nf sl ac ke le tx ap bg wr se wh wo bl ck sw ma ro bs)) (ct_X6_in l g p.toInt64 (1 : Int64) (30 : Int64)) dX6_pass_6 rfl (List.Perm.refl _) mc_X6_in kl_X6_71 ms_X6_in kn_X6 (na := 3) (by decide +kernel) rfl ⟨Nat.le_of_ble_eq_true rfl, Nat.le_of_ble_eq_true rfl⟩ ⟨rfl, rfl⟩ ⟨Nat.le_of_ble_eq_true rfl, Nat.le_of_ble_eq_true rfl⟩ (Nat.le_of_ble_eq_true rfl) (fun r_ w_ hp_ => ?_)
  obtain ⟨rfl, rfl⟩ := hp_
  refine kw_ws (List.nil_append _) ?_
  refine kw_top (b := .int (zI (inr p (1 : Int32) (30 : Int32)))) (congrArg (fun q => Value.int (zI q)) (lin_c (by decide) (by decide))) ?_
  refine kz_if_ne (b := inr p (1 : Int32) (30 : Int32)) (tgt := 14) X dX6_pass_9 (by decide) (fun c1_ => ?_) (fun c1_ => ?_)
  · skip
    refine kb_aload_n X 0 dX6_pass_14 rfl rfl ?_
    refine kc_Vv X (As := []) (rest := []) (wr := []) (ct_X6_known l g a so ag np ns na nf sl ac ke le tx ap bg wr se wh wo bl ck sw ma ro bs v us ks tf tn s hR) dX6_pass_15 rfl (kw_pall _) mc_X6_known kl_X6_194 mi_X6_known mv_X6_known kn_X6 0 rfl rfl rfl (na := 0) (by decide +kernel) rfl ⟨Nat.le_of_ble_eq_true rfl, Nat.le_of_ble_eq_true rfl⟩ ⟨rfl, rfl⟩ ⟨Nat.le_of_ble_eq_true rfl, Nat.le_of_ble_eq_true rfl⟩ (Nat.le_of_ble_eq_true rfl) (fun w_ hp_ => ?_)
    obtain ⟨slk, ack, hRk, rfl⟩ := hp_
    refine kw_ws (List.append_nil _) ?_
    refine kb_aload_n X 0 dX6_pass_18 rfl rfl ?_
    refine kb_get (v := .ref (a 5)) (C := RX6) (T := TX6) (N := 25) (ci := 6) X kw_iX6 rfl 0 8 rfl (by decide) kf_X6_22 rfl rfl dX6_pass_19 ?_
    refine kb_bipush (v := (8 : Int32)) X dX6_pass_22 (by decide) ?_
    refine kb_dup2 X dX6_pass_24 rfl rfl ?_
    refine kb_iald (i := 8) X 5 rfl (by omega) (by decide) dX6_pass_25 ?_
    refine kw_top (b := .int (vY v)) (congrArg Value.int (hRk.1.y (by omega))) ?_
    refine kb_iload_n X 1 dX6_pass_26 rfl rfl ?_
    refine kb_iadd X dX6_pass_27 ?_
    refine kb_iast (i := 8) X 5 rfl (by omega) (by decide) dX6_pass_28 (ws' := wR g a (vN v) so ag (vG v) np ns na nf (upd slk 8 ((vY v) + p)) ack ke le tx ap bg wr se wh wo bl ck sw ma ro bs) rfl ?_
    generalize hsl2_ : upd slk 8 ((vY v) + p) = sl2_
    have hE3_ : EN sl2_ 0 (sY v ((vY v) + p)) := by rw [← hsl2_]; exact hRk.1.sy (by omega)
    have hF4_ : FR slk sl2_ 0 := by rw [← hsl2_]; exact FR.up FR.rf (by omega) (by omega)
    refine kb_aload_n X 0 dX6_pass_29 rfl rfl ?_
    refine kb_get (v := .ref (a 5)) (C := RX6) (T := TX6) (N := 25) (ci := 6) X kw_iX6 rfl 0 8 rfl (by decide) kf_X6_22 rfl rfl dX6_pass_30 ?_
    refine kb_bipush (v := (9 : Int32)) X dX6_pass_33 (by decide) ?_
    refine kb_iconst (v := (0 : Int32)) X dX6_pass_35 (by decide) ?_
    refine kb_iast (i := 9) X 5 rfl (by omega) (by decide) dX6_pass_36 (ws' := wR g a (vN v) so ag (vG v) np ns na nf (upd sl2_ 9 (0 : Int32)) ack ke le tx ap bg wr se wh wo bl ck sw ma ro bs) rfl ?_
    generalize hsl5_ : upd sl2_ 9 (0 : Int32) = sl5_
    have hE6_ : EN sl5_ 0 (sZ (sY v ((vY v) + p)) (0 : Int32)) := by rw [← hsl5_]; exact hE3_.sz (by omega)
    have hF7_ : FR slk sl5_ 0 := by rw [← hsl5_]; exact FR.up hF4_ (by omega) (by omega)
    refine kb_aload_n X 0 dX6_pass_37 rfl rfl ?_
    refine kb_get (v := .ref (a 5)) (C := RX6) (T := TX6) (N := 25) (ci := 6) X kw_iX6 rfl 0 8 rfl (by decide) kf_X6_22 rfl rfl dX6_pass_38 ?_
    refine kb_bipush (v := (8 : Int32)) X dX6_pass_41 (by decide) ?_
    refine kb_iald (i := 8) X 5 rfl (by omega) (by decide) dX6_pass_43 ?_
    refine kw_top (b := .int (((vY v) + p))) (congrArg Value.int (hE6_.y (by omega))) ?_
    refine ke_i X Z dX6_pass_44 ?_
    have e_ : oPass v p = (vY v + p, some (wDays v p)) := by simp [oPass, c1_]
    rw [e_]
    exact ⟨rfl, RWp.of (hRk.win (hE6_) hF7_ (hG.days p))⟩
  · skip
    refine kb_iconst (v := (-1 : Int32)) X dX6_pass_12 (by decide) ?_
    refine ke_i X Z dX6_pass_13 ?_
    have e_ : oPass v p = (-1, none) := by simp [oPass, c1_]
    rw [e_]
    exact ⟨rfl, RWp.of hR⟩

set_option maxHeartbeats 4000000 in
set_option maxRecDepth 100000 in
theorem ct_X6_undo (l : Launch) (g : kw_G) (a : Nat → Nat) (so : Nat → Int32) (ag : Nat → Int32) (np : Nat) (ns : Nat → Int32) (na : Nat → Int32) (nf : Int32) (sl : Nat → Int32) (ac : Nat) (ke : Nat) (le : Nat) (tx : Nat → Nat) (ap : Nat) (bg : Nat) (wr : Bool) (se : Nat) (wh : Nat → Nat) (wo : Nat → Nat) (bl : Nat → Int32) (ck : Nat → Int32) (sw : Nat → Bool) (ma : Nat) (ro : Nat → Nat) (bs : Nat → Nat) (v : VS) (us ks : List VS) (tf : Nat → Nat) (tn : Nat) (s : SS) (hR : RI (vN v) so ag (vG v) sl ac ke le tx se wh wo bl ck sw v us ks tf tn s) : kMi l g yX6_undo cX6_undo 1 .int (kw_rm 2 0 0) 0 0 [.ref (a 0)] (wR g a (vN v) so ag (vG v) np ns na nf sl ac ke le tx ap bg wr se wh wo bl ck sw ma ro bs) (fun r w => r = uR us ∧ RWp g a (uV v us) us.tail ks tf tn s w) := by
  refine kMi_of (by decide +kernel) (Nat.le_of_ble_eq_true rfl) (fun x (X : kX l g RX6 cX6_undo 1 (kw_rm 2 0 0) x) (Z : kZi .int _ 0 0 x) => ?_)
  show kW x 0 0 0 [(0, .ref (a 0))] [] (wR g a (vN v) so ag (vG v) np ns na nf sl ac ke le tx ap bg wr se wh wo bl ck sw ma ro bs)
  have hE := hR.1
  have hG := hR.2.1
  have hK := hR.2.1.1
  have hv := hR.2.1.2.1
  have hT := hR.2.1.2.2.1
  have hN0 := hR.2.1.2.2.2
  have h6 := hv.1
  have hx64 := hv.2.1
  have hh64 := hv.2.2
  have hac := hR.2.2.1.2.1
  have hal := hR.2.2.1.1
  refine kb_aload_n X 0 dX6_undo_0 rfl rfl ?_
  refine kb_get (v := .int (nI (ac))) (C := RX6) (T := TX6) (N := 25) (ci := 6) X kw_iX6 rfl 0 9 rfl (by decide) kf_X6_123 rfl rfl dX6_undo_1 ?_
  refine kn_if_ne (a := ac) (tgt := 10) X (by omega) dX6_undo_4 (by decide) (fun c1_ => ?_) (fun c1_ => ?_)
  · skip
    refine kb_aload_n X 0 dX6_undo_10 rfl rfl ?_
    refine kb_aload_n X 0 dX6_undo_11 rfl rfl ?_
    refine kb_get (v := .int (nI (ac))) (C := RX6) (T := TX6) (N := 25) (ci := 6) X kw_iX6 rfl 0 9 rfl (by decide) kf_X6_123 rfl rfl dX6_undo_12 ?_
    refine kb_bipush (v := (82 : Int32)) X dX6_undo_15 (by decide) ?_
    refine kn_imul X ac 82 dX6_undo_17 ?_
    refine kb_iconst (v := (0 : Int32)) X dX6_undo_18 (by decide) ?_
    refine kc_Vv X (As := [.int (nI (ac * 82)), .int 0]) (rest := []) (wr := []) (ct_X6_copies l g a (vN v) so ag (vG v) np ns na nf sl ac ke le tx ap bg wr se wh wo bl ck sw ma ro bs (ac * 82) 0 (by omega) (by omega) (by omega)) dX6_undo_19 rfl (kw_pall _) mc_X6_copies kl_X6_119 mi_X6_copies mv_X6_copies kn_X6 0 rfl rfl rfl (na := 2) (by decide +kernel) rfl ⟨Nat.le_of_ble_eq_true rfl, Nat.le_of_ble_eq_true rfl⟩ ⟨rfl, rfl⟩ ⟨Nat.le_of_ble_eq_true rfl, Nat.le_of_ble_eq_true rfl⟩ (Nat.le_of_ble_eq_true rfl) (fun w_ hp_ => ?_)
    obtain ⟨sl2_, hC3_, rfl⟩ := hp_
    refine kw_ws (List.append_nil _) ?_
    refine kb_aload_n X 0 dX6_undo_22 rfl rfl ?_
    refine kb_dup X dX6_undo_23 rfl ?_
    refine kb_get (v := .int (nI (ac))) (C := RX6) (T := TX6) (N := 25) (ci := 6) X kw_iX6 rfl 0 9 rfl (by decide) kf_X6_123 rfl rfl dX6_undo_24 ?_
    refine kb_iconst (v := (1 : Int32)) X dX6_undo_27 (by decide) ?_
    refine kn_isub X ac 1 (by omega) dX6_undo_28 ?_
    refine kb_put X (C := RX6) (T := TX6) (N := 25) (ci := 6) (ty := .int) kw_iX6 tyX6 tyX6_ok nmX6 rfl 0 9 rfl (by decide) kf_X6_123 rfl rfl (by decide +kernel) rfl rfl (Nat.le_of_ble_eq_true rfl) dX6_undo_29 (ws' := wR g a (vN v) so ag (vG v) np ns na nf sl2_ (ac - 1) ke le tx ap bg wr se wh wo bl ck sw ma ro bs) rfl ?_
    refine kb_aload_n X 0 dX6_undo_32 rfl rfl ?_
    refine kb_get (v := .int (nI (ac - 1))) (C := RX6) (T := TX6) (N := 25) (ci := 6) X kw_iX6 rfl 0 9 rfl (by decide) kf_X6_123 rfl rfl dX6_undo_33 ?_
    refine ke_i X Z dX6_undo_36 ?_
    cases us with
    | nil => exact absurd hal (by rw [List.length_nil]; omega)
    | cons u_ t_ => exact ⟨by rw [List.length_cons] at hal; rw [uR, show ac - 1 = t_.length by omega], RWp.of (undo_ok hR hC3_)⟩
  · skip
    refine kb_bipush (v := (-2 : Int32)) X dX6_undo_7 (by decide) ?_
    refine ke_i X Z dX6_undo_9 ?_
    have e_ : us = [] := List.length_eq_zero_iff.mp (by omega)
    subst e_
    exact ⟨rfl, RWp.of hR⟩

set_option maxHeartbeats 4000000 in
set_option maxRecDepth 100000 in
theorem ct_X6_come (l : Launch) (g : kw_G) (a : Nat → Nat) (so : Nat → Int32) (ag : Nat → Int32) (np : Nat) (ns : Nat → Int32) (na : Nat → Int32) (nf : Int32) (sl : Nat → Int32) (ac : Nat) (ke : Nat) (le : Nat) (tx : Nat → Nat) (ap : Nat) (bg : Nat) (wr : Bool) (se : Nat) (wh : Nat → Nat) (wo : Nat → Nat) (bl : Nat → Int32) (ck : Nat → Int32) (sw : Nat → Bool) (ma : Nat) (ro : Nat → Nat) (bs : Nat → Nat) (v : VS) (us ks : List VS) (tf : Nat → Nat) (tn : Nat) (s : SS) (hR : RI (vN v) so ag (vG v) sl ac ke le tx se wh wo bl ck sw v us ks tf tn s) (p b c wt : Int32) : kMi l g yX6_come cX6_come 6 .int (kw_rm 5 0 0) 0 0 [.ref (a 0), .int (p), .int (b), .int (c), .int (wt)] (wR g a (vN v) so ag (vG v) np ns na nf sl ac ke le tx ap bg wr se wh wo bl ck sw ma ro bs) (fun r w => r = oCome v p b c wt ∧ RWp g a v us ks tf tn s w) := by
  refine kMi_of (by decide +kernel) (Nat.le_of_ble_eq_true rfl) (fun x (X : kX l g RX6 cX6_come 6 (kw_rm 5 0 0) x) (Z : kZi .int _ 0 0 x) => ?_)
  show kW x 0 0 0 [(0, .ref (a 0)), (1, .int (p)), (2, .int (b)), (3, .int (c)), (4, .int (wt))] [] (wR g a (vN v) so ag (vG v) np ns na nf sl ac ke le tx ap bg wr se wh wo bl ck sw ma ro bs)
  have hE := hR.1
  have hG := hR.2.1
  have hK := hR.2.1.1
  have hv := hR.2.1.2.1
  have hT := hR.2.1.2.2.1
  have hN0 := hR.2.1.2.2.2
  have h6 := hv.1
  have hx64 := hv.2.1
  have hh64 := hv.2.2
  refine kb_aload_n X 0 dX6_come_0 rfl rfl ?_
  refine kb_iload_n X 1 dX6_come_1 rfl rfl ?_
  refine kc_Vi X (As := [.int (p)]) (rest := []) (wr := []) (ct_X6_isPerson l g a (vN v) so ag (vG v) np ns na nf sl ac ke le tx ap bg wr se wh wo bl ck sw ma ro bs p (by omega)) dX6_come_2 rfl (kw_pall _) mc_X6_isPerson kl_X6_75 mi_X6_isPerson mv_X6_isPerson kn_X6 0 rfl rfl rfl (na := 1) (by decide +kernel) rfl ⟨Nat.le_of_ble_eq_true rfl, Nat.le_of_ble_eq_true rfl⟩ ⟨rfl, rfl⟩ ⟨Nat.le_of_ble_eq_true rfl, Nat.le_of_ble_eq_true rfl⟩ (Nat.le_of_ble_eq_true rfl) (fun r_ w_ hp_ => ?_)
  obtain ⟨rfl, rfl⟩ := hp_
  refine kw_ws (List.append_nil _) ?_
  refine kz_if_eq (b := pin p (vN v)) (tgt := 27) X dX6_come_5 (by decide) (fun c1_ => ?_) (fun c1_ => ?_)
  · skip
    refine kb_iconst (v := (-1 : Int32)) X dX6_come_27 (by decide) ?_
    refine ke_i X Z dX6_come_28 ?_
    exact ⟨by simp [oCome, c1_, (by decide : inr 0 0 1 = true), (by decide : inr 1 0 1 = true)], RWp.of hR⟩
  · skip
    obtain ⟨pj, hpj, epj, ePp⟩ := pin_j h6 c1_
    refine kb_iload_n X 2 dX6_come_8 rfl rfl ?_
    refine kb_iload_n X 3 dX6_come_9 rfl rfl ?_
    refine kc_Si X (As := [.int (b), .int (c)]) (rest := []) (wr := (wR g a (vN v) so ag (vG v) np ns na nf sl ac ke le tx ap bg wr se wh wo bl ck sw ma ro bs)) (ct_X6_areBells l g b c ) dX6_come_10 rfl (List.Perm.refl _) mc_X6_areBells kl_X6_187 ms_X6_areBells kn_X6 (na := 2) (by decide +kernel) rfl ⟨Nat.le_of_ble_eq_true rfl, Nat.le_of_ble_eq_true rfl⟩ ⟨rfl, rfl⟩ ⟨Nat.le_of_ble_eq_true rfl, Nat.le_of_ble_eq_true rfl⟩ (Nat.le_of_ble_eq_true rfl) (fun r_ w_ hp_ => ?_)
    obtain ⟨rfl, rfl⟩ := hp_
    refine kw_ws (List.nil_append _) ?_
    refine kz_if_eq (b := fare b c) (tgt := 27) X dX6_come_13 (by decide) (fun c2_ => ?_) (fun c2_ => ?_)
    · skip
      refine kb_iconst (v := (-1 : Int32)) X dX6_come_27 (by decide) ?_
      refine ke_i X Z dX6_come_28 ?_
      exact ⟨by simp [oCome, c1_, c2_, (by decide : inr 0 0 1 = true), (by decide : inr 1 0 1 = true)], RWp.of hR⟩
    · skip
      refine kb_iload X 4 dX6_come_16 rfl ?_
      refine kb_i2l (v := wt.toInt64) X dX6_come_18 rfl ?_
      refine kb_lconst (v := 0) X dX6_come_19 (by decide) ?_
      refine kb_lconst (v := 1) X dX6_come_20 (by decide) ?_
      refine kc_Si X (As := [.long (wt.toInt64), .long ((0 : Int64)), .long ((1 : Int64))]) (rest := []) (wr := (wR g a (vN v) so ag (vG v) np ns na nf sl ac ke le tx ap bg wr se wh wo bl ck sw ma ro bs)) (ct_X6_in l g wt.toInt64 (0 : Int64) (1 : Int64)) dX6_come_21 rfl (List.Perm.refl _) mc_X6_in kl_X6_71 ms_X6_in kn_X6 (na := 3) (by decide +kernel) rfl ⟨Nat.le_of_ble_eq_true rfl, Nat.le_of_ble_eq_true rfl⟩ ⟨rfl, rfl⟩ ⟨Nat.le_of_ble_eq_true rfl, Nat.le_of_ble_eq_true rfl⟩ (Nat.le_of_ble_eq_true rfl) (fun r_ w_ hp_ => ?_)
      obtain ⟨rfl, rfl⟩ := hp_
      refine kw_ws (List.nil_append _) ?_
      refine kw_top (b := .int (zI (inr wt (0 : Int32) (1 : Int32)))) (congrArg (fun q => Value.int (zI q)) (lin_c (by decide) (by decide))) ?_
      refine kz_if_ne (b := inr wt (0 : Int32) (1 : Int32)) (tgt := 29) X dX6_come_24 (by decide) (fun c3_ => ?_) (fun c3_ => ?_)
      · skip
        refine kw_lv (lv' := [(0, .ref (a 0)), (1, .int (nI (pj))), (2, .int (b)), (3, .int (c)), (4, .int (wt))]) (by rw [epj]) ?_
        refine kb_aload_n X 0 dX6_come_29 rfl rfl ?_
        refine kb_iconst (v := (0 : Int32)) X dX6_come_30 (by decide) ?_
        refine kb_iload_n X 1 dX6_come_31 rfl rfl ?_
        refine kc_Vi X (As := [.int 0, .int (nI (pj))]) (rest := []) (wr := []) (ct_X6_isAlive l g a (vN v) so ag (vG v) np ns na nf sl ac ke le tx ap bg wr se wh wo bl ck sw ma ro bs 0 v (by omega) hE hK hv pj (by omega)) dX6_come_32 rfl (kw_pall _) mc_X6_isAlive kl_X6_136 mi_X6_isAlive mv_X6_isAlive kn_X6 0 rfl rfl rfl (na := 2) (by decide +kernel) rfl ⟨Nat.le_of_ble_eq_true rfl, Nat.le_of_ble_eq_true rfl⟩ ⟨rfl, rfl⟩ ⟨Nat.le_of_ble_eq_true rfl, Nat.le_of_ble_eq_true rfl⟩ (Nat.le_of_ble_eq_true rfl) (fun r_ w_ hp_ => ?_)
        obtain ⟨rfl, rfl⟩ := hp_
        refine kw_ws (List.append_nil _) ?_
        refine kz_if_ne (b := wLives v pj) (tgt := 41) X dX6_come_35 (by decide) (fun c4_ => ?_) (fun c4_ => ?_)
        · skip
          refine kb_aload_n X 0 dX6_come_41 rfl rfl ?_
          refine kb_iconst (v := (0 : Int32)) X dX6_come_42 (by decide) ?_
          refine kb_iload_n X 1 dX6_come_43 rfl rfl ?_
          refine kb_iload_n X 2 dX6_come_44 rfl rfl ?_
          refine kb_iload_n X 3 dX6_come_45 rfl rfl ?_
          refine kc_Vi X (As := [.int 0, .int (nI (pj)), .int (b), .int (c)]) (rest := []) (wr := []) (ct_X6_comers l g a (vN v) so ag (vG v) np ns na nf sl ac ke le tx ap bg wr se wh wo bl ck sw ma ro bs 0 v (by omega) hE hK hv pj b c (by omega)) dX6_come_46 rfl (kw_pall _) mc_X6_comers kl_X6_178 mi_X6_comers mv_X6_comers kn_X6 0 rfl rfl rfl (na := 4) (by decide +kernel) rfl ⟨Nat.le_of_ble_eq_true rfl, Nat.le_of_ble_eq_true rfl⟩ ⟨rfl, rfl⟩ ⟨Nat.le_of_ble_eq_true rfl, Nat.le_of_ble_eq_true rfl⟩ (Nat.le_of_ble_eq_true rfl) (fun r_ w_ hp_ => ?_)
          obtain ⟨rfl, rfl⟩ := hp_
          refine kw_ws (List.append_nil _) ?_
          refine kb_istore X [1, 2, 3, 4, 5, 0] dX6_come_49 (by decide) (lv' := [(0, .ref (a 0)), (1, .int (nI (pj))), (2, .int (b)), (3, .int (c)), (4, .int (wt)), (5, .int (nI (wGuests v pj b c)))]) rfl ?_
          refine kb_iload X 4 dX6_come_51 rfl ?_
          refine kb_if_ne (tgt := 64) X dX6_come_53 (by decide) (fun c5_ => ?_) (fun c5_ => ?_)
          · skip
            refine kb_iload X 5 dX6_come_64 rfl ?_
            refine ke_i X Z dX6_come_66 ?_
            exact ⟨by simp [oCome, c1_, c2_, c3_, ePp, c4_, c5_, (by decide : inr 0 0 1 = true), (by decide : inr 1 0 1 = true)], RWp.of hR⟩
          · skip
            refine kb_iload X 5 dX6_come_56 rfl ?_
            refine kc_Si X (As := [.int (nI (wGuests v pj b c))]) (rest := []) (wr := (wR g a (vN v) so ag (vG v) np ns na nf sl ac ke le tx ap bg wr se wh wo bl ck sw ma ro bs)) (ct_X6_bits l g (wGuests v pj b c) (wGuests_lt v pj b c h6)) dX6_come_58 rfl (List.Perm.refl _) mc_X6_bits kl_X6_209 ms_X6_bits kn_X6 (na := 1) (by decide +kernel) rfl ⟨Nat.le_of_ble_eq_true rfl, Nat.le_of_ble_eq_true rfl⟩ ⟨rfl, rfl⟩ ⟨Nat.le_of_ble_eq_true rfl, Nat.le_of_ble_eq_true rfl⟩ (Nat.le_of_ble_eq_true rfl) (fun r_ w_ hp_ => ?_)
            obtain ⟨rfl, rfl⟩ := hp_
            refine kw_ws (List.nil_append _) ?_
            refine kb_goto (tgt := 66) X dX6_come_61 (by decide) ?_
            refine ke_i X Z dX6_come_66 ?_
            exact ⟨by simp [oCome, c1_, c2_, c3_, ePp, c4_, c5_, (by decide : inr 0 0 1 = true), (by decide : inr 1 0 1 = true)], RWp.of hR⟩
        · skip
          refine kb_bipush (v := (-2 : Int32)) X dX6_come_38 (by decide) ?_
          refine ke_i X Z dX6_come_40 ?_
          exact ⟨by simp [oCome, c1_, c2_, c3_, ePp, c4_, (by decide : inr 0 0 1 = true), (by decide : inr 1 0 1 = true)], RWp.of hR⟩
      · skip
        refine kb_iconst (v := (-1 : Int32)) X dX6_come_27 (by decide) ?_
        refine ke_i X Z dX6_come_28 ?_
        exact ⟨by simp [oCome, c1_, c2_, c3_, (by decide : inr 0 0 1 = true), (by decide : inr 1 0 1 = true)], RWp.of hR⟩

set_option maxHeartbeats 4000000 in
set_option maxRecDepth 100000 in
theorem ct_X6_tie (l : Launch) (g : kw_G) (a : Nat → Nat) (so : Nat → Int32) (ag : Nat → Int32) (np : Nat) (ns : Nat → Int32) (na : Nat → Int32) (nf : Int32) (sl : Nat → Int32) (ac : Nat) (ke : Nat) (le : Nat) (tx : Nat → Nat) (ap : Nat) (bg : Nat) (wr : Bool) (se : Nat) (wh : Nat → Nat) (wo : Nat → Nat) (bl : Nat → Int32) (ck : Nat → Int32) (sw : Nat → Bool) (ma : Nat) (ro : Nat → Nat) (bs : Nat → Nat) (v : VS) (us ks : List VS) (tf : Nat → Nat) (tn : Nat) (s : SS) (hR : RI (vN v) so ag (vG v) sl ac ke le tx se wh wo bl ck sw v us ks tf tn s) (i j : Int32) : kMi l g yX6_tie cX6_tie 3 .int (kw_rm 4 0 0) 0 0 [.ref (a 0), .int (i), .int (j)] (wR g a (vN v) so ag (vG v) np ns na nf sl ac ke le tx ap bg wr se wh wo bl ck sw ma ro bs) (fun r w => r = oTieOf v i j ∧ RWp g a v us ks tf tn s w) := by
  refine kMi_of (by decide +kernel) (Nat.le_of_ble_eq_true rfl) (fun x (X : kX l g RX6 cX6_tie 3 (kw_rm 4 0 0) x) (Z : kZi .int _ 0 0 x) => ?_)
  show kW x 0 0 0 [(0, .ref (a 0)), (1, .int (i)), (2, .int (j))] [] (wR g a (vN v) so ag (vG v) np ns na nf sl ac ke le tx ap bg wr se wh wo bl ck sw ma ro bs)
  have hE := hR.1
  have hG := hR.2.1
  have hK := hR.2.1.1
  have hv := hR.2.1.2.1
  have hT := hR.2.1.2.2.1
  have hN0 := hR.2.1.2.2.2
  have h6 := hv.1
  have hx64 := hv.2.1
  have hh64 := hv.2.2
  refine kb_aload_n X 0 dX6_tie_0 rfl rfl ?_
  refine kb_iload_n X 1 dX6_tie_1 rfl rfl ?_
  refine kb_iload_n X 2 dX6_tie_2 rfl rfl ?_
  refine kc_Vi X (As := [.int (i), .int (j)]) (rest := []) (wr := []) (ct_X6_areTwo l g a (vN v) so ag (vG v) np ns na nf sl ac ke le tx ap bg wr se wh wo bl ck sw ma ro bs i j (by omega)) dX6_tie_3 rfl (kw_pall _) mc_X6_areTwo kl_X6_147 mi_X6_areTwo mv_X6_areTwo kn_X6 0 rfl rfl rfl (na := 2) (by decide +kernel) rfl ⟨Nat.le_of_ble_eq_true rfl, Nat.le_of_ble_eq_true rfl⟩ ⟨rfl, rfl⟩ ⟨Nat.le_of_ble_eq_true rfl, Nat.le_of_ble_eq_true rfl⟩ (Nat.le_of_ble_eq_true rfl) (fun r_ w_ hp_ => ?_)
  obtain ⟨rfl, rfl⟩ := hp_
  refine kw_ws (List.append_nil _) ?_
  refine kz_if_eq (b := two i j (vN v)) (tgt := 28) X dX6_tie_6 (by decide) (fun c1_ => ?_) (fun c1_ => ?_)
  · skip
    refine kb_iconst (v := (-1 : Int32)) X dX6_tie_28 (by decide) ?_
    refine ke_i X Z dX6_tie_29 ?_
    exact ⟨by simp [oTieOf, c1_], RWp.of hR⟩
  · skip
    obtain ⟨ij, jj, hij, hjj, hne, eij, ejj, ePi, ePj⟩ := two_j h6 c1_
    refine kw_lv (lv' := [(0, .ref (a 0)), (1, .int (nI (ij))), (2, .int (j))]) (by rw [eij]) ?_
    refine kw_lv (lv' := [(0, .ref (a 0)), (1, .int (nI (ij))), (2, .int (nI (jj)))]) (by rw [ejj]) ?_
    refine kb_aload_n X 0 dX6_tie_9 rfl rfl ?_
    refine kb_get (v := .ref (a 5)) (C := RX6) (T := TX6) (N := 25) (ci := 6) X kw_iX6 rfl 0 8 rfl (by decide) kf_X6_22 rfl rfl dX6_tie_10 ?_
    refine kb_bipush (v := (10 : Int32)) X dX6_tie_13 (by decide) ?_
    refine kb_bipush (v := (6 : Int32)) X dX6_tie_15 (by decide) ?_
    refine kb_iload_n X 1 dX6_tie_17 rfl rfl ?_
    refine kn_imul X 6 ij dX6_tie_18 ?_
    refine kn_iadd X 10 (6 * ij) dX6_tie_19 ?_
    refine kb_iload_n X 2 dX6_tie_20 rfl rfl ?_
    refine kn_iadd X (10 + (6 * ij)) jj dX6_tie_21 ?_
    refine kb_iald (i := (10 + (6 * ij)) + jj) X 5 rfl (by omega) (by decide) dX6_tie_22 ?_
    refine kw_top (b := .int (vT v (ij * 6 + jj))) (congrArg Value.int (hE.t (p := ij) (q := jj) (by omega) (by omega) (by omega))) ?_
    refine kb_iconst (v := (4 : Int32)) X dX6_tie_23 (by decide) ?_
    refine kb_iadd X dX6_tie_24 ?_
    refine kb_goto (tgt := 29) X dX6_tie_25 (by decide) ?_
    refine ke_i X Z dX6_tie_29 ?_
    exact ⟨by simp [oTieOf, c1_, ePi, ePj], RWp.of hR⟩

set_option maxHeartbeats 4000000 in
set_option maxRecDepth 100000 in
theorem ct_X6_owes (l : Launch) (g : kw_G) (a : Nat → Nat) (so : Nat → Int32) (ag : Nat → Int32) (np : Nat) (ns : Nat → Int32) (na : Nat → Int32) (nf : Int32) (sl : Nat → Int32) (ac : Nat) (ke : Nat) (le : Nat) (tx : Nat → Nat) (ap : Nat) (bg : Nat) (wr : Bool) (se : Nat) (wh : Nat → Nat) (wo : Nat → Nat) (bl : Nat → Int32) (ck : Nat → Int32) (sw : Nat → Bool) (ma : Nat) (ro : Nat → Nat) (bs : Nat → Nat) (v : VS) (us ks : List VS) (tf : Nat → Nat) (tn : Nat) (s : SS) (hR : RI (vN v) so ag (vG v) sl ac ke le tx se wh wo bl ck sw v us ks tf tn s) (i j : Int32) : kMi l g yX6_owes cX6_owes 3 .int (kw_rm 4 0 0) 0 0 [.ref (a 0), .int (i), .int (j)] (wR g a (vN v) so ag (vG v) np ns na nf sl ac ke le tx ap bg wr se wh wo bl ck sw ma ro bs) (fun r w => r = oOwes v i j ∧ RWp g a v us ks tf tn s w) := by
  refine kMi_of (by decide +kernel) (Nat.le_of_ble_eq_true rfl) (fun x (X : kX l g RX6 cX6_owes 3 (kw_rm 4 0 0) x) (Z : kZi .int _ 0 0 x) => ?_)
  show kW x 0 0 0 [(0, .ref (a 0)), (1, .int (i)), (2, .int (j))] [] (wR g a (vN v) so ag (vG v) np ns na nf sl ac ke le tx ap bg wr se wh wo bl ck sw ma ro bs)
  have hE := hR.1
  have hG := hR.2.1
  have hK := hR.2.1.1
  have hv := hR.2.1.2.1
  have hT := hR.2.1.2.2.1
  have hN0 := hR.2.1.2.2.2
  have h6 := hv.1
  have hx64 := hv.2.1
  have hh64 := hv.2.2
  refine kb_aload_n X 0 dX6_owes_0 rfl rfl ?_
  refine kb_iload_n X 1 dX6_owes_1 rfl rfl ?_
  refine kb_iload_n X 2 dX6_owes_2 rfl rfl ?_
  refine kc_Vi X (As := [.int (i), .int (j)]) (rest := []) (wr := []) (ct_X6_areTwo l g a (vN v) so ag (vG v) np ns na nf sl ac ke le tx ap bg wr se wh wo bl ck sw ma ro bs i j (by omega)) dX6_owes_3 rfl (kw_pall _) mc_X6_areTwo kl_X6_147 mi_X6_areTwo mv_X6_areTwo kn_X6 0 rfl rfl rfl (na := 2) (by decide +kernel) rfl ⟨Nat.le_of_ble_eq_true rfl, Nat.le_of_ble_eq_true rfl⟩ ⟨rfl, rfl⟩ ⟨Nat.le_of_ble_eq_true rfl, Nat.le_of_ble_eq_true rfl⟩ (Nat.le_of_ble_eq_true rfl) (fun r_ w_ hp_ => ?_)
  obtain ⟨rfl, rfl⟩ := hp_
  refine kw_ws (List.append_nil _) ?_
  refine kz_if_eq (b := two i j (vN v)) (tgt := 26) X dX6_owes_6 (by decide) (fun c1_ => ?_) (fun c1_ => ?_)
  · skip
    refine kb_iconst (v := (-1 : Int32)) X dX6_owes_26 (by decide) ?_
    refine ke_i X Z dX6_owes_27 ?_
    exact ⟨by simp [oOwes, c1_], RWp.of hR⟩
  · skip
    obtain ⟨ij, jj, hij, hjj, hne, eij, ejj, ePi, ePj⟩ := two_j h6 c1_
    refine kw_lv (lv' := [(0, .ref (a 0)), (1, .int (nI (ij))), (2, .int (j))]) (by rw [eij]) ?_
    refine kw_lv (lv' := [(0, .ref (a 0)), (1, .int (nI (ij))), (2, .int (nI (jj)))]) (by rw [ejj]) ?_
    refine kb_aload_n X 0 dX6_owes_9 rfl rfl ?_
    refine kb_get (v := .ref (a 5)) (C := RX6) (T := TX6) (N := 25) (ci := 6) X kw_iX6 rfl 0 8 rfl (by decide) kf_X6_22 rfl rfl dX6_owes_10 ?_
    refine kb_bipush (v := (46 : Int32)) X dX6_owes_13 (by decide) ?_
    refine kb_bipush (v := (6 : Int32)) X dX6_owes_15 (by decide) ?_
    refine kb_iload_n X 1 dX6_owes_17 rfl rfl ?_
    refine kn_imul X 6 ij dX6_owes_18 ?_
    refine kn_iadd X 46 (6 * ij) dX6_owes_19 ?_
    refine kb_iload_n X 2 dX6_owes_20 rfl rfl ?_
    refine kn_iadd X (46 + (6 * ij)) jj dX6_owes_21 ?_
    refine kb_iald (i := (46 + (6 * ij)) + jj) X 5 rfl (by omega) (by decide) dX6_owes_22 ?_
    refine kw_top (b := .int (vD v (ij * 6 + jj))) (congrArg Value.int (hE.d (p := ij) (q := jj) (by omega) (by omega) (by omega))) ?_
    refine kb_goto (tgt := 27) X dX6_owes_23 (by decide) ?_
    refine ke_i X Z dX6_owes_27 ?_
    exact ⟨by simp [oOwes, c1_, ePi, ePj], RWp.of hR⟩

set_option maxHeartbeats 4000000 in
set_option maxRecDepth 100000 in
theorem ct_X6_person (l : Launch) (g : kw_G) (a : Nat → Nat) (so : Nat → Int32) (ag : Nat → Int32) (np : Nat) (ns : Nat → Int32) (na : Nat → Int32) (nf : Int32) (sl : Nat → Int32) (ac : Nat) (ke : Nat) (le : Nat) (tx : Nat → Nat) (ap : Nat) (bg : Nat) (wr : Bool) (se : Nat) (wh : Nat → Nat) (wo : Nat → Nat) (bl : Nat → Int32) (ck : Nat → Int32) (sw : Nat → Bool) (ma : Nat) (ro : Nat → Nat) (bs : Nat → Nat) (v : VS) (us ks : List VS) (tf : Nat → Nat) (tn : Nat) (s : SS) (hR : RI (vN v) so ag (vG v) sl ac ke le tx se wh wo bl ck sw v us ks tf tn s) (p wt : Int32) : kMi l g yX6_person cX6_person 3 .int (kw_rm 4 0 0) 0 0 [.ref (a 0), .int (p), .int (wt)] (wR g a (vN v) so ag (vG v) np ns na nf sl ac ke le tx ap bg wr se wh wo bl ck sw ma ro bs) (fun r w => r = oPerson v p wt ∧ RWp g a v us ks tf tn s w) := by
  refine kMi_of (by decide +kernel) (Nat.le_of_ble_eq_true rfl) (fun x (X : kX l g RX6 cX6_person 3 (kw_rm 4 0 0) x) (Z : kZi .int _ 0 0 x) => ?_)
  show kW x 0 0 0 [(0, .ref (a 0)), (1, .int (p)), (2, .int (wt))] [] (wR g a (vN v) so ag (vG v) np ns na nf sl ac ke le tx ap bg wr se wh wo bl ck sw ma ro bs)
  have hE := hR.1
  have hG := hR.2.1
  have hK := hR.2.1.1
  have hv := hR.2.1.2.1
  have hT := hR.2.1.2.2.1
  have hN0 := hR.2.1.2.2.2
  have h6 := hv.1
  have hx64 := hv.2.1
  have hh64 := hv.2.2
  refine kb_aload_n X 0 dX6_person_0 rfl rfl ?_
  refine kb_iload_n X 1 dX6_person_1 rfl rfl ?_
  refine kc_Vi X (As := [.int (p)]) (rest := []) (wr := []) (ct_X6_isPerson l g a (vN v) so ag (vG v) np ns na nf sl ac ke le tx ap bg wr se wh wo bl ck sw ma ro bs p (by omega)) dX6_person_2 rfl (kw_pall _) mc_X6_isPerson kl_X6_75 mi_X6_isPerson mv_X6_isPerson kn_X6 0 rfl rfl rfl (na := 1) (by decide +kernel) rfl ⟨Nat.le_of_ble_eq_true rfl, Nat.le_of_ble_eq_true rfl⟩ ⟨rfl, rfl⟩ ⟨Nat.le_of_ble_eq_true rfl, Nat.le_of_ble_eq_true rfl⟩ (Nat.le_of_ble_eq_true rfl) (fun r_ w_ hp_ => ?_)
  obtain ⟨rfl, rfl⟩ := hp_
  refine kw_ws (List.append_nil _) ?_
  refine kz_if_eq (b := pin p (vN v)) (tgt := 20) X dX6_person_5 (by decide) (fun c1_ => ?_) (fun c1_ => ?_)
  · skip
    refine kb_iconst (v := (-1 : Int32)) X dX6_person_20 (by decide) ?_
    refine ke_i X Z dX6_person_21 ?_
    exact ⟨by simp [oPerson, c1_, (by decide : inr 0 0 5 = true), (by decide : inr 1 0 5 = true), (by decide : inr 2 0 5 = true), (by decide : inr 3 0 5 = true), (by decide : inr 4 0 5 = true)], RWp.of hR⟩
  · skip
    obtain ⟨pj, hpj, epj, ePp⟩ := pin_j h6 c1_
    refine kb_iload_n X 2 dX6_person_8 rfl rfl ?_
    refine kb_i2l (v := wt.toInt64) X dX6_person_9 rfl ?_
    refine kb_lconst (v := 0) X dX6_person_10 (by decide) ?_
    refine kb_ldc2 X kk_X6_139 dX6_person_11 ?_
    refine kc_Si X (As := [.long (wt.toInt64), .long ((0 : Int64)), .long ((5 : Int64))]) (rest := []) (wr := (wR g a (vN v) so ag (vG v) np ns na nf sl ac ke le tx ap bg wr se wh wo bl ck sw ma ro bs)) (ct_X6_in l g wt.toInt64 (0 : Int64) (5 : Int64)) dX6_person_14 rfl (List.Perm.refl _) mc_X6_in kl_X6_71 ms_X6_in kn_X6 (na := 3) (by decide +kernel) rfl ⟨Nat.le_of_ble_eq_true rfl, Nat.le_of_ble_eq_true rfl⟩ ⟨rfl, rfl⟩ ⟨Nat.le_of_ble_eq_true rfl, Nat.le_of_ble_eq_true rfl⟩ (Nat.le_of_ble_eq_true rfl) (fun r_ w_ hp_ => ?_)
    obtain ⟨rfl, rfl⟩ := hp_
    refine kw_ws (List.nil_append _) ?_
    refine kw_top (b := .int (zI (inr wt (0 : Int32) (5 : Int32)))) (congrArg (fun q => Value.int (zI q)) (lin_c (by decide) (by decide))) ?_
    refine kz_if_ne (b := inr wt (0 : Int32) (5 : Int32)) (tgt := 22) X dX6_person_17 (by decide) (fun c2_ => ?_) (fun c2_ => ?_)
    · skip
      refine kw_lv (lv' := [(0, .ref (a 0)), (1, .int (nI (pj))), (2, .int (wt))]) (by rw [epj]) ?_
      refine kb_iload_n X 2 dX6_person_22 rfl rfl ?_
      refine kb_if_ne (tgt := 35) X dX6_person_23 (by decide) (fun c3_ => ?_) (fun c3_ => ?_)
      · skip
        refine kb_iload_n X 2 dX6_person_35 rfl rfl ?_
        refine kb_iconst (v := (1 : Int32)) X dX6_person_36 (by decide) ?_
        refine kb_icmp_ne (tgt := 49) X dX6_person_37 (by decide) (fun c4_ => ?_) (fun c4_ => ?_)
        · skip
          refine kb_iload_n X 2 dX6_person_49 rfl rfl ?_
          refine kb_iconst (v := (2 : Int32)) X dX6_person_50 (by decide) ?_
          refine kb_icmp_ne (tgt := 63) X dX6_person_51 (by decide) (fun c5_ => ?_) (fun c5_ => ?_)
          · skip
            refine kb_iload_n X 2 dX6_person_63 rfl rfl ?_
            refine kb_iconst (v := (3 : Int32)) X dX6_person_64 (by decide) ?_
            refine kb_icmp_ne (tgt := 82) X dX6_person_65 (by decide) (fun c6_ => ?_) (fun c6_ => ?_)
            · skip
              refine kb_iload_n X 2 dX6_person_82 rfl rfl ?_
              refine kb_iconst (v := (4 : Int32)) X dX6_person_83 (by decide) ?_
              refine kb_icmp_ne (tgt := 101) X dX6_person_84 (by decide) (fun c7_ => ?_) (fun c7_ => ?_)
              · skip
                refine kb_aload_n X 0 dX6_person_101 rfl rfl ?_
                refine kb_iconst (v := (0 : Int32)) X dX6_person_102 (by decide) ?_
                refine kb_iload_n X 1 dX6_person_103 rfl rfl ?_
                refine kc_Vi X (As := [.int 0, .int (nI (pj))]) (rest := []) (wr := []) (ct_X6_isAlive l g a (vN v) so ag (vG v) np ns na nf sl ac ke le tx ap bg wr se wh wo bl ck sw ma ro bs 0 v (by omega) hE hK hv pj (by omega)) dX6_person_104 rfl (kw_pall _) mc_X6_isAlive kl_X6_136 mi_X6_isAlive mv_X6_isAlive kn_X6 0 rfl rfl rfl (na := 2) (by decide +kernel) rfl ⟨Nat.le_of_ble_eq_true rfl, Nat.le_of_ble_eq_true rfl⟩ ⟨rfl, rfl⟩ ⟨Nat.le_of_ble_eq_true rfl, Nat.le_of_ble_eq_true rfl⟩ (Nat.le_of_ble_eq_true rfl) (fun r_ w_ hp_ => ?_)
                obtain ⟨rfl, rfl⟩ := hp_
                refine kw_ws (List.append_nil _) ?_
                refine kz_if_eq (b := wLives v pj) (tgt := 119) X dX6_person_107 (by decide) (fun c8_ => ?_) (fun c8_ => ?_)
                · skip
                  refine kb_bipush (v := (-4 : Int32)) X dX6_person_119 (by decide) ?_
                  refine ke_i X Z dX6_person_121 ?_
                  exact ⟨by simp [oPerson, c1_, c2_, ePp, c3_, c4_, c5_, c6_, c7_, c8_, (by decide : inr 0 0 5 = true), (by decide : inr 1 0 5 = true), (by decide : inr 2 0 5 = true), (by decide : inr 3 0 5 = true), (by decide : inr 4 0 5 = true)], RWp.of hR⟩
                · skip
                  refine kb_aload_n X 0 dX6_person_110 rfl rfl ?_
                  refine kb_iconst (v := (0 : Int32)) X dX6_person_111 (by decide) ?_
                  refine kb_iload_n X 1 dX6_person_112 rfl rfl ?_
                  refine kc_Vi X (As := [.int 0, .int (nI (pj))]) (rest := []) (wr := []) (ct_X6_heir l g a (vN v) so ag (vG v) np ns na nf sl ac ke le tx ap bg wr se wh wo bl ck sw ma ro bs 0 v  (by omega) hE hK hv hT pj (by omega)) dX6_person_113 rfl (kw_pall _) mc_X6_heir kl_X6_144 mi_X6_heir mv_X6_heir kn_X6 0 rfl rfl rfl (na := 2) (by decide +kernel) rfl ⟨Nat.le_of_ble_eq_true rfl, Nat.le_of_ble_eq_true rfl⟩ ⟨rfl, rfl⟩ ⟨Nat.le_of_ble_eq_true rfl, Nat.le_of_ble_eq_true rfl⟩ (Nat.le_of_ble_eq_true rfl) (fun r_ w_ hp_ => ?_)
                  obtain ⟨rfl, rfl⟩ := hp_
                  refine kw_ws (List.append_nil _) ?_
                  refine kb_goto (tgt := 121) X dX6_person_116 (by decide) ?_
                  refine ke_i X Z dX6_person_121 ?_
                  exact ⟨by simp [oPerson, c1_, c2_, ePp, c3_, c4_, c5_, c6_, c7_, c8_, (by decide : inr 0 0 5 = true), (by decide : inr 1 0 5 = true), (by decide : inr 2 0 5 = true), (by decide : inr 3 0 5 = true), (by decide : inr 4 0 5 = true)], RWp.of hR⟩
              · skip
                refine kb_aload_n X 0 dX6_person_87 rfl rfl ?_
                refine kb_get (v := .ref (a 5)) (C := RX6) (T := TX6) (N := 25) (ci := 6) X kw_iX6 rfl 0 8 rfl (by decide) kf_X6_22 rfl rfl dX6_person_88 ?_
                refine kb_bipush (v := (7 : Int32)) X dX6_person_91 (by decide) ?_
                refine kb_iald (i := 7) X 5 rfl (by omega) (by decide) dX6_person_93 ?_
                refine kw_top (b := .int (nI (vH v))) (congrArg Value.int (hE.h (by omega))) ?_
                refine kb_iload_n X 1 dX6_person_94 rfl rfl ?_
                refine kb_ishr X dX6_person_95 ?_
                refine kb_iconst (v := (1 : Int32)) X dX6_person_96 (by decide) ?_
                refine kb_iand X dX6_person_97 ?_
                refine kw_top (b := .int (zI ((vH v).testBit pj))) (by rw [tb_shr _ _ (by omega) (by omega)]) ?_
                refine kb_goto (tgt := 121) X dX6_person_98 (by decide) ?_
                refine ke_i X Z dX6_person_121 ?_
                exact ⟨by simp [oPerson, c1_, c2_, ePp, c3_, c4_, c5_, c6_, c7_, (by decide : inr 0 0 5 = true), (by decide : inr 1 0 5 = true), (by decide : inr 2 0 5 = true), (by decide : inr 3 0 5 = true), (by decide : inr 4 0 5 = true)], RWp.of hR⟩
            · skip
              refine kb_aload_n X 0 dX6_person_68 rfl rfl ?_
              refine kb_get (v := .ref (a 5)) (C := RX6) (T := TX6) (N := 25) (ci := 6) X kw_iX6 rfl 0 8 rfl (by decide) kf_X6_22 rfl rfl dX6_person_69 ?_
              refine kb_bipush (v := (6 : Int32)) X dX6_person_72 (by decide) ?_
              refine kb_iald (i := 6) X 5 rfl (by omega) (by decide) dX6_person_74 ?_
              refine kw_top (b := .int (nI (vX v))) (congrArg Value.int (hE.x (by omega))) ?_
              refine kb_iload_n X 1 dX6_person_75 rfl rfl ?_
              refine kb_ishr X dX6_person_76 ?_
              refine kb_iconst (v := (1 : Int32)) X dX6_person_77 (by decide) ?_
              refine kb_iand X dX6_person_78 ?_
              refine kw_top (b := .int (zI ((vX v).testBit pj))) (by rw [tb_shr _ _ (by omega) (by omega)]) ?_
              refine kb_goto (tgt := 121) X dX6_person_79 (by decide) ?_
              refine ke_i X Z dX6_person_121 ?_
              exact ⟨by simp [oPerson, c1_, c2_, ePp, c3_, c4_, c5_, c6_, (by decide : inr 0 0 5 = true), (by decide : inr 1 0 5 = true), (by decide : inr 2 0 5 = true), (by decide : inr 3 0 5 = true), (by decide : inr 4 0 5 = true)], RWp.of hR⟩
          · skip
            refine kb_aload_n X 0 dX6_person_54 rfl rfl ?_
            refine kb_get (v := .ref (a 5)) (C := RX6) (T := TX6) (N := 25) (ci := 6) X kw_iX6 rfl 0 8 rfl (by decide) kf_X6_22 rfl rfl dX6_person_55 ?_
            refine kb_iload_n X 1 dX6_person_58 rfl rfl ?_
            refine kb_iald (i := pj) X 5 rfl (by omega) (by decide) dX6_person_59 ?_
            refine kw_top (b := .int (vC v pj)) (congrArg Value.int (hE.c (p := pj) (by omega) (by omega))) ?_
            refine kb_goto (tgt := 121) X dX6_person_60 (by decide) ?_
            refine ke_i X Z dX6_person_121 ?_
            exact ⟨by simp [oPerson, c1_, c2_, ePp, c3_, c4_, c5_, (by decide : inr 0 0 5 = true), (by decide : inr 1 0 5 = true), (by decide : inr 2 0 5 = true), (by decide : inr 3 0 5 = true), (by decide : inr 4 0 5 = true)], RWp.of hR⟩
        · skip
          refine kb_aload_n X 0 dX6_person_40 rfl rfl ?_
          refine kb_iconst (v := (0 : Int32)) X dX6_person_41 (by decide) ?_
          refine kb_iload_n X 1 dX6_person_42 rfl rfl ?_
          refine kc_Vi X (As := [.int 0, .int (nI (pj))]) (rest := []) (wr := []) (ct_X6_ageOf l g a (vN v) so ag (vG v) np ns na nf sl ac ke le tx ap bg wr se wh wo bl ck sw ma ro bs 0 v (by omega) hE hK hv pj (by omega)) dX6_person_43 rfl (kw_pall _) mc_X6_ageOf kl_X6_141 mi_X6_ageOf mv_X6_ageOf kn_X6 0 rfl rfl rfl (na := 2) (by decide +kernel) rfl ⟨Nat.le_of_ble_eq_true rfl, Nat.le_of_ble_eq_true rfl⟩ ⟨rfl, rfl⟩ ⟨Nat.le_of_ble_eq_true rfl, Nat.le_of_ble_eq_true rfl⟩ (Nat.le_of_ble_eq_true rfl) (fun r_ w_ hp_ => ?_)
          obtain ⟨rfl, rfl⟩ := hp_
          refine kw_ws (List.append_nil _) ?_
          refine kb_goto (tgt := 121) X dX6_person_46 (by decide) ?_
          refine ke_i X Z dX6_person_121 ?_
          exact ⟨by simp [oPerson, c1_, c2_, ePp, c3_, c4_, (by decide : inr 0 0 5 = true), (by decide : inr 1 0 5 = true), (by decide : inr 2 0 5 = true), (by decide : inr 3 0 5 = true), (by decide : inr 4 0 5 = true)], RWp.of hR⟩
      · skip
        refine kb_aload_n X 0 dX6_person_26 rfl rfl ?_
        refine kb_get (v := .ref (a 1)) (C := RX6) (T := TX6) (N := 25) (ci := 6) X kw_iX6 rfl 0 1 rfl (by decide) kf_X6_7 rfl rfl dX6_person_27 ?_
        refine kb_iload_n X 1 dX6_person_30 rfl rfl ?_
        refine kb_iald (i := pj) X 1 rfl (by omega) (by decide) dX6_person_31 ?_
        refine kw_top (b := .int (vK v pj)) (congrArg Value.int (hK.2.2 _ (by omega)).1) ?_
        refine kb_goto (tgt := 121) X dX6_person_32 (by decide) ?_
        refine ke_i X Z dX6_person_121 ?_
        exact ⟨by simp [oPerson, c1_, c2_, ePp, c3_, (by decide : inr 0 0 5 = true), (by decide : inr 1 0 5 = true), (by decide : inr 2 0 5 = true), (by decide : inr 3 0 5 = true), (by decide : inr 4 0 5 = true)], RWp.of hR⟩
    · skip
      refine kb_iconst (v := (-1 : Int32)) X dX6_person_20 (by decide) ?_
      refine ke_i X Z dX6_person_21 ?_
      exact ⟨by simp [oPerson, c1_, c2_, (by decide : inr 0 0 5 = true), (by decide : inr 1 0 5 = true), (by decide : inr 2 0 5 = true), (by decide : inr 3 0 5 = true), (by decide : inr 4 0 5 = true)], RWp.of hR⟩

