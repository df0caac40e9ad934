/-! constructors -/
section KCN
variable {x : kw_X} {l : Launch} {g : kw_G} {own : String} {cc : ByteArray} {nL : Nat} {R : Room} {n k pc : Nat} {lv lv' : List (Nat × Value)} {st : List Value} {ws ws' : va_W}
theorem kw_arrq {a N : Nat} {cA : ClassId} {f f' : Nat → Option Nat} (q : Nat) (hq : ws[q]? = some (a, .inl (cA, N, .inr (.inr (.inr (.inr f)))))) (hf : ∀ j, j < N → f j = f' j) (hw : ws.set q (a, .inl (cA, N, .inr (.inr (.inr (.inr f'))))) = ws') (K : kW x n k pc lv st ws') : kW x n k pc lv st ws := by
  subst hw
  obtain ⟨p, l', e, R', s, m, args, below, meth, c, g', A, H0, nL', Q⟩ := x
  refine fun H locs ls hP hD hS hl => K H locs ls (hP.set hD hq ?_ (fun _ _ => rfl)) (hD.set hq) hS hl
  have h := hP q _ hq
  have e : vp_cell cA (N, .inr (.inr (.inr (.inr f)))) = vp_cell cA (N, .inr (.inr (.inr (.inr f')))) := by
    rw [vp_cell_q, vp_cell_q]
    unfold arrV
    congr 2
    funext j
    exact congrArg va_rf (hf j.val j.isLt)
  show H[a]? = some (vp_cell cA (N, .inr (.inr (.inr (.inr f')))))
  rw [← e]
  exact h
end KCN
theorem fl_snoc (L : List va_W) (c : Nat × va_E) : L.flatten ++ [c] = (L ++ [[c]]).flatten := by
  rw [List.flatten_append]
  rfl
theorem fl_put (L : List va_W) (w : va_W) : (w ++ L.flatten).Perm (L ++ [w]).flatten := by
  rw [List.flatten_append, show [w].flatten = w from List.append_nil w]
  exact List.perm_append_comm
theorem fl_put2 (L : List va_W) (a b : va_W) : (List.flatten [a, b] ++ L.flatten).Perm (L ++ [a, b]).flatten := by
  rw [List.flatten_append]
  exact List.perm_append_comm
theorem wVs_snoc (g : kw_G) (ad : Nat → Nat → Nat) (vs : Nat → VS) (i : Nat) (a : Nat → Nat) : wVs g (va_up ad i a) vs (List.range (i + 1)) = wVs g ad vs (List.range i) ++ wV g a (vs i) := by
  unfold wVs
  rw [List.range_succ, List.map_append, List.flatten_append]
  congr 1
  · congr 1
    apply List.map_congr_left
    intro j hj
    rw [va_up_ne _ _ (by have := List.mem_range.mp hj; omega)]
  · show wV g (va_up ad i a i) (vs i) ++ [] = _
    rw [va_up_self, List.append_nil]
def fsX0 : List Value := [.null, .null, .null, .int 0, .int 0, .int 0, .int 0, .int 0]
theorem df_X0 : ∀ j, j < 8 → defaultValue (tyX0 j) = vp_V fsX0 j := fun j hj => by
  rcases (show j = 0 ∨ j = 1 ∨ j = 2 ∨ j = 3 ∨ j = 4 ∨ j = 5 ∨ j = 6 ∨ j = 7 by omega) with rfl | rfl | rfl | rfl | rfl | rfl | rfl | rfl <;> rfl
def fsX1 : List Value := [.null, .int 0, .int 0]
theorem df_X1 : ∀ j, j < 3 → defaultValue (tyX1 j) = vp_V fsX1 j := fun j hj => by
  rcases (show j = 0 ∨ j = 1 ∨ j = 2 by omega) with rfl | rfl | rfl <;> rfl
def fsX2 : List Value := [.null, .null, .null, .null, .null, .int 0]
theorem df_X2 : ∀ j, j < 6 → defaultValue (tyX2 j) = vp_V fsX2 j := fun j hj => by
  rcases (show j = 0 ∨ j = 1 ∨ j = 2 ∨ j = 3 ∨ j = 4 ∨ j = 5 by omega) with rfl | rfl | rfl | rfl | rfl | rfl <;> rfl
def fsX3 : List Value := [.null, .null, .int 0, .int 0]
theorem df_X3 : ∀ j, j < 4 → defaultValue (tyX3 j) = vp_V fsX3 j := fun j hj => by
  rcases (show j = 0 ∨ j = 1 ∨ j = 2 ∨ j = 3 by omega) with rfl | rfl | rfl | rfl <;> rfl
def fsX4 : List Value := [.null, .null, .null, .null, .null, .int 0, .int 0, .int 0, .int 0, .int 0, .int 0]
theorem df_X4 : ∀ j, j < 11 → defaultValue (tyX4 j) = vp_V fsX4 j := fun j hj => by
  rcases (show j = 0 ∨ j = 1 ∨ j = 2 ∨ j = 3 ∨ j = 4 ∨ j = 5 ∨ j = 6 ∨ j = 7 ∨ j = 8 ∨ j = 9 ∨ j = 10 by omega) with rfl | rfl | rfl | rfl | rfl | rfl | rfl | rfl | rfl | rfl | rfl <;> rfl
def fsX5 : List Value := [.null, .null, .null, .null, .null, .null, .null]
theorem df_X5 : ∀ j, j < 7 → defaultValue (tyX5 j) = vp_V fsX5 j := fun j hj => by
  rcases (show j = 0 ∨ j = 1 ∨ j = 2 ∨ j = 3 ∨ j = 4 ∨ j = 5 ∨ j = 6 by omega) with rfl | rfl | rfl | rfl | rfl | rfl | rfl <;> rfl
def fsX6 : List Value := [.int 0, .null, .null, .int 0, .int 0, .null, .null, .int 0, .null, .int 0, .int 0, .int 0, .null, .int 0, .int 0, .int 0, .int 0, .null, .null, .null, .null, .null, .int 0, .null, .null]
theorem df_X6 : ∀ j, j < 25 → defaultValue (tyX6 j) = vp_V fsX6 j := fun j hj => by
  rcases (show j = 0 ∨ j = 1 ∨ j = 2 ∨ j = 3 ∨ j = 4 ∨ j = 5 ∨ j = 6 ∨ j = 7 ∨ j = 8 ∨ j = 9 ∨ j = 10 ∨ j = 11 ∨ j = 12 ∨ j = 13 ∨ j = 14 ∨ j = 15 ∨ j = 16 ∨ j = 17 ∨ j = 18 ∨ j = 19 ∨ j = 20 ∨ j = 21 ∨ j = 22 ∨ j = 23 ∨ j = 24 by omega) with rfl | rfl | rfl | rfl | rfl | rfl | rfl | rfl | rfl | rfl | rfl | rfl | rfl | rfl | rfl | rfl | rfl | rfl | rfl | rfl | rfl | rfl | rfl | rfl | rfl <;> rfl
set_option maxHeartbeats 4000000 in
set_option maxRecDepth 100000 in
theorem ct_X4_init (l : Launch) (g : kw_G) (q : Nat) : kMv l g yX4_init cX4_init 1 (kw_rm 1 5 90) 5 90 [.ref q] [(q, .inr (4, fsX4))] (fun w => ∃ a : Nat → Nat, a 0 = q ∧ w = wV g a vE) := by
  refine kMv_ofI (by decide +kernel) rfl (Nat.le_of_ble_eq_true rfl) (fun x (X : kX l g RX4 cX4_init 1 (kw_rm 1 5 90) x) (Z : kZv _ 5 90 x) hI => ?_)
  show kW x 0 0 0 [(0, .ref q)] [] ([(q, .inr (4, [.null, .null, .null, .null, .null, .int 0, .int 0, .int 0, .int 0, .int 0, .int 0]))])
  refine kb_aload_n X 0 dX4_init_0 rfl rfl ?_
  refine kb_obj X kl_X4_3 (Nat.le_of_ble_eq_true rfl) (Nat.le_of_ble_eq_true rfl) dX4_init_1 ?_
  refine kb_aload_n X 0 dX4_init_4 rfl rfl ?_
  refine kb_bipush (v := (6 : Int32)) X dX4_init_5 (by decide) ?_
  refine kb_new_int (N := 6) X (by decide) (Nat.le_of_ble_eq_true rfl) (Nat.le_of_ble_eq_true rfl) dX4_init_7 (fun q1 => ?_)
  show kW x 1 6 9 [(0, .ref q)] [.ref q1, .ref q] ([(q, .inr (4, [.null, .null, .null, .null, .null, .int 0, .int 0, .int 0, .int 0, .int 0, .int 0])), (q1, .inl (g.2 0, 6, .inl (fun _ => 0)))])
  refine kb_putF X hI (C := RX4) (T := TX4) (N := 11) (ci := 4) (ty := (.array .int)) kw_iX4 tyX4 tyX4_ok nmX4 rfl 0 0 rfl (by decide) kf_X4_9 rfl rfl rfl (by decide +kernel) rfl rfl (Nat.le_of_ble_eq_true rfl) dX4_init_9 (ws' := [(q, .inr (4, [.ref q1, .null, .null, .null, .null, .int 0, .int 0, .int 0, .int 0, .int 0, .int 0])), (q1, .inl (g.2 0, 6, .inl (fun _ => 0)))]) rfl ?_
  refine kb_aload_n X 0 dX4_init_12 rfl rfl ?_
  refine kb_bipush (v := (6 : Int32)) X dX4_init_13 (by decide) ?_
  refine kb_new_int (N := 6) X (by decide) (Nat.le_of_ble_eq_true rfl) (Nat.le_of_ble_eq_true rfl) dX4_init_15 (fun q2 => ?_)
  show kW x 2 12 17 [(0, .ref q)] [.ref q2, .ref q] ([(q, .inr (4, [.ref q1, .null, .null, .null, .null, .int 0, .int 0, .int 0, .int 0, .int 0, .int 0])), (q1, .inl (g.2 0, 6, .inl (fun _ => 0))), (q2, .inl (g.2 0, 6, .inl (fun _ => 0)))])
  refine kb_putF X hI (C := RX4) (T := TX4) (N := 11) (ci := 4) (ty := (.array .int)) kw_iX4 tyX4 tyX4_ok nmX4 rfl 0 1 rfl (by decide) kf_X4_15 rfl rfl rfl (by decide +kernel) rfl rfl (Nat.le_of_ble_eq_true rfl) dX4_init_17 (ws' := [(q, .inr (4, [.ref q1, .ref q2, .null, .null, .null, .int 0, .int 0, .int 0, .int 0, .int 0, .int 0])), (q1, .inl (g.2 0, 6, .inl (fun _ => 0))), (q2, .inl (g.2 0, 6, .inl (fun _ => 0)))]) rfl ?_
  refine kb_aload_n X 0 dX4_init_20 rfl rfl ?_
  refine kb_bipush (v := (6 : Int32)) X dX4_init_21 (by decide) ?_
  refine kb_new_int (N := 6) X (by decide) (Nat.le_of_ble_eq_true rfl) (Nat.le_of_ble_eq_true rfl) dX4_init_23 (fun q3 => ?_)
  show kW x 3 18 25 [(0, .ref q)] [.ref q3, .ref q] ([(q, .inr (4, [.ref q1, .ref q2, .null, .null, .null, .int 0, .int 0, .int 0, .int 0, .int 0, .int 0])), (q1, .inl (g.2 0, 6, .inl (fun _ => 0))), (q2, .inl (g.2 0, 6, .inl (fun _ => 0))), (q3, .inl (g.2 0, 6, .inl (fun _ => 0)))])
  refine kb_putF X hI (C := RX4) (T := TX4) (N := 11) (ci := 4) (ty := (.array .int)) kw_iX4 tyX4 tyX4_ok nmX4 rfl 0 2 rfl (by decide) kf_X4_18 rfl rfl rfl (by decide +kernel) rfl rfl (Nat.le_of_ble_eq_true rfl) dX4_init_25 (ws' := [(q, .inr (4, [.ref q1, .ref q2, .ref q3, .null, .null, .int 0, .int 0, .int 0, .int 0, .int 0, .int 0])), (q1, .inl (g.2 0, 6, .inl (fun _ => 0))), (q2, .inl (g.2 0, 6, .inl (fun _ => 0))), (q3, .inl (g.2 0, 6, .inl (fun _ => 0)))]) rfl ?_
  refine kb_aload_n X 0 dX4_init_28 rfl rfl ?_
  refine kb_bipush (v := (36 : Int32)) X dX4_init_29 (by decide) ?_
  refine kb_new_int (N := 36) X (by decide) (Nat.le_of_ble_eq_true rfl) (Nat.le_of_ble_eq_true rfl) dX4_init_31 (fun q4 => ?_)
  show kW x 4 54 33 [(0, .ref q)] [.ref q4, .ref q] ([(q, .inr (4, [.ref q1, .ref q2, .ref q3, .null, .null, .int 0, .int 0, .int 0, .int 0, .int 0, .int 0])), (q1, .inl (g.2 0, 6, .inl (fun _ => 0))), (q2, .inl (g.2 0, 6, .inl (fun _ => 0))), (q3, .inl (g.2 0, 6, .inl (fun _ => 0))), (q4, .inl (g.2 0, 36, .inl (fun _ => 0)))])
  refine kb_putF X hI (C := RX4) (T := TX4) (N := 11) (ci := 4) (ty := (.array .int)) kw_iX4 tyX4 tyX4_ok nmX4 rfl 0 3 rfl (by decide) kf_X4_21 rfl rfl rfl (by decide +kernel) rfl rfl (Nat.le_of_ble_eq_true rfl) dX4_init_33 (ws' := [(q, .inr (4, [.ref q1, .ref q2, .ref q3, .ref q4, .null, .int 0, .int 0, .int 0, .int 0, .int 0, .int 0])), (q1, .inl (g.2 0, 6, .inl (fun _ => 0))), (q2, .inl (g.2 0, 6, .inl (fun _ => 0))), (q3, .inl (g.2 0, 6, .inl (fun _ => 0))), (q4, .inl (g.2 0, 36, .inl (fun _ => 0)))]) rfl ?_
  refine kb_aload_n X 0 dX4_init_36 rfl rfl ?_
  refine kb_bipush (v := (36 : Int32)) X dX4_init_37 (by decide) ?_
  refine kb_new_int (N := 36) X (by decide) (Nat.le_of_ble_eq_true rfl) (Nat.le_of_ble_eq_true rfl) dX4_init_39 (fun q5 => ?_)
  show kW x 5 90 41 [(0, .ref q)] [.ref q5, .ref q] ([(q, .inr (4, [.ref q1, .ref q2, .ref q3, .ref q4, .null, .int 0, .int 0, .int 0, .int 0, .int 0, .int 0])), (q1, .inl (g.2 0, 6, .inl (fun _ => 0))), (q2, .inl (g.2 0, 6, .inl (fun _ => 0))), (q3, .inl (g.2 0, 6, .inl (fun _ => 0))), (q4, .inl (g.2 0, 36, .inl (fun _ => 0))), (q5, .inl (g.2 0, 36, .inl (fun _ => 0)))])
  refine kb_putF X hI (C := RX4) (T := TX4) (N := 11) (ci := 4) (ty := (.array .int)) kw_iX4 tyX4 tyX4_ok nmX4 rfl 0 4 rfl (by decide) kf_X4_24 rfl rfl rfl (by decide +kernel) rfl rfl (Nat.le_of_ble_eq_true rfl) dX4_init_41 (ws' := [(q, .inr (4, [.ref q1, .ref q2, .ref q3, .ref q4, .ref q5, .int 0, .int 0, .int 0, .int 0, .int 0, .int 0])), (q1, .inl (g.2 0, 6, .inl (fun _ => 0))), (q2, .inl (g.2 0, 6, .inl (fun _ => 0))), (q3, .inl (g.2 0, 6, .inl (fun _ => 0))), (q4, .inl (g.2 0, 36, .inl (fun _ => 0))), (q5, .inl (g.2 0, 36, .inl (fun _ => 0)))]) rfl ?_
  refine kb_aload_n X 0 dX4_init_44 rfl rfl ?_
  refine kb_iconst (v := (0 : Int32)) X dX4_init_45 (by decide) ?_
  refine kb_put X (C := RX4) (T := TX4) (N := 11) (ci := 4) (ty := .int) kw_iX4 tyX4 tyX4_ok nmX4 rfl 0 5 rfl (by decide) kf_X4_27 rfl rfl (by decide +kernel) rfl rfl (Nat.le_of_ble_eq_true rfl) dX4_init_46 (ws' := [(q, .inr (4, [.ref q1, .ref q2, .ref q3, .ref q4, .ref q5, .int 0, .int 0, .int 0, .int 0, .int 0, .int 0])), (q1, .inl (g.2 0, 6, .inl (fun _ => 0))), (q2, .inl (g.2 0, 6, .inl (fun _ => 0))), (q3, .inl (g.2 0, 6, .inl (fun _ => 0))), (q4, .inl (g.2 0, 36, .inl (fun _ => 0))), (q5, .inl (g.2 0, 36, .inl (fun _ => 0)))]) rfl ?_
  refine kb_aload_n X 0 dX4_init_49 rfl rfl ?_
  refine kb_bipush (v := (50 : Int32)) X dX4_init_50 (by decide) ?_
  refine kb_put X (C := RX4) (T := TX4) (N := 11) (ci := 4) (ty := .int) kw_iX4 tyX4 tyX4_ok nmX4 rfl 0 6 rfl (by decide) kf_X4_31 rfl rfl (by decide +kernel) rfl rfl (Nat.le_of_ble_eq_true rfl) dX4_init_52 (ws' := [(q, .inr (4, [.ref q1, .ref q2, .ref q3, .ref q4, .ref q5, .int 0, .int 50, .int 0, .int 0, .int 0, .int 0])), (q1, .inl (g.2 0, 6, .inl (fun _ => 0))), (q2, .inl (g.2 0, 6, .inl (fun _ => 0))), (q3, .inl (g.2 0, 6, .inl (fun _ => 0))), (q4, .inl (g.2 0, 36, .inl (fun _ => 0))), (q5, .inl (g.2 0, 36, .inl (fun _ => 0)))]) rfl ?_
  refine kb_aload_n X 0 dX4_init_55 rfl rfl ?_
  refine kb_iconst (v := (0 : Int32)) X dX4_init_56 (by decide) ?_
  refine kb_put X (C := RX4) (T := TX4) (N := 11) (ci := 4) (ty := .int) kw_iX4 tyX4 tyX4_ok nmX4 rfl 0 7 rfl (by decide) kf_X4_34 rfl rfl (by decide +kernel) rfl rfl (Nat.le_of_ble_eq_true rfl) dX4_init_57 (ws' := [(q, .inr (4, [.ref q1, .ref q2, .ref q3, .ref q4, .ref q5, .int 0, .int 50, .int 0, .int 0, .int 0, .int 0])), (q1, .inl (g.2 0, 6, .inl (fun _ => 0))), (q2, .inl (g.2 0, 6, .inl (fun _ => 0))), (q3, .inl (g.2 0, 6, .inl (fun _ => 0))), (q4, .inl (g.2 0, 36, .inl (fun _ => 0))), (q5, .inl (g.2 0, 36, .inl (fun _ => 0)))]) rfl ?_
  refine kb_aload_n X 0 dX4_init_60 rfl rfl ?_
  refine kb_iconst (v := (0 : Int32)) X dX4_init_61 (by decide) ?_
  refine kb_put X (C := RX4) (T := TX4) (N := 11) (ci := 4) (ty := .int) kw_iX4 tyX4 tyX4_ok nmX4 rfl 0 8 rfl (by decide) kf_X4_37 rfl rfl (by decide +kernel) rfl rfl (Nat.le_of_ble_eq_true rfl) dX4_init_62 (ws' := [(q, .inr (4, [.ref q1, .ref q2, .ref q3, .ref q4, .ref q5, .int 0, .int 50, .int 0, .int 0, .int 0, .int 0])), (q1, .inl (g.2 0, 6, .inl (fun _ => 0))), (q2, .inl (g.2 0, 6, .inl (fun _ => 0))), (q3, .inl (g.2 0, 6, .inl (fun _ => 0))), (q4, .inl (g.2 0, 36, .inl (fun _ => 0))), (q5, .inl (g.2 0, 36, .inl (fun _ => 0)))]) rfl ?_
  refine kb_aload_n X 0 dX4_init_65 rfl rfl ?_
  refine kb_iconst (v := (0 : Int32)) X dX4_init_66 (by decide) ?_
  refine kb_put X (C := RX4) (T := TX4) (N := 11) (ci := 4) (ty := .int) kw_iX4 tyX4 tyX4_ok nmX4 rfl 0 9 rfl (by decide) kf_X4_40 rfl rfl (by decide +kernel) rfl rfl (Nat.le_of_ble_eq_true rfl) dX4_init_67 (ws' := [(q, .inr (4, [.ref q1, .ref q2, .ref q3, .ref q4, .ref q5, .int 0, .int 50, .int 0, .int 0, .int 0, .int 0])), (q1, .inl (g.2 0, 6, .inl (fun _ => 0))), (q2, .inl (g.2 0, 6, .inl (fun _ => 0))), (q3, .inl (g.2 0, 6, .inl (fun _ => 0))), (q4, .inl (g.2 0, 36, .inl (fun _ => 0))), (q5, .inl (g.2 0, 36, .inl (fun _ => 0)))]) rfl ?_
  refine kb_aload_n X 0 dX4_init_70 rfl rfl ?_
  refine kb_iconst (v := (0 : Int32)) X dX4_init_71 (by decide) ?_
  refine kb_put X (C := RX4) (T := TX4) (N := 11) (ci := 4) (ty := .int) kw_iX4 tyX4 tyX4_ok nmX4 rfl 0 10 rfl (by decide) kf_X4_43 rfl rfl (by decide +kernel) rfl rfl (Nat.le_of_ble_eq_true rfl) dX4_init_72 (ws' := [(q, .inr (4, [.ref q1, .ref q2, .ref q3, .ref q4, .ref q5, .int 0, .int 50, .int 0, .int 0, .int 0, .int 0])), (q1, .inl (g.2 0, 6, .inl (fun _ => 0))), (q2, .inl (g.2 0, 6, .inl (fun _ => 0))), (q3, .inl (g.2 0, 6, .inl (fun _ => 0))), (q4, .inl (g.2 0, 36, .inl (fun _ => 0))), (q5, .inl (g.2 0, 36, .inl (fun _ => 0)))]) rfl ?_
  refine ke_v X Z dX4_init_75 ?_
  exact ⟨fun k => [q, q1, q2, q3, q4, q5].getD k 0, rfl, rfl⟩
def t00 : TS := (fun _ => 0, fun _ => 0, 0, 0)
def s00 : SS := (fun _ => 0, fun _ => 0, fun _ => 0, fun _ => 0, fun _ => false, 0)
set_option maxHeartbeats 4000000 in
set_option maxRecDepth 100000 in
theorem ct_X3_init (l : Launch) (g : kw_G) (q : Nat) : kMv l g yX3_init cX3_init 1 (kw_rm 1 2 203) 2 203 [.ref q] [(q, .inr (3, fsX3))] (fun w => ∃ a : Nat → Nat, a 0 = q ∧ w = wT g a t00) := by
  refine kMv_ofI (by decide +kernel) rfl (Nat.le_of_ble_eq_true rfl) (fun x (X : kX l g RX3 cX3_init 1 (kw_rm 1 2 203) x) (Z : kZv _ 2 203 x) hI => ?_)
  show kW x 0 0 0 [(0, .ref q)] [] ([(q, .inr (3, [.null, .null, .int 0, .int 0]))])
  refine kb_aload_n X 0 dX3_init_0 rfl rfl ?_
  refine kb_obj X kl_X3_3 (Nat.le_of_ble_eq_true rfl) (Nat.le_of_ble_eq_true rfl) dX3_init_1 ?_
  refine kb_aload_n X 0 dX3_init_4 rfl rfl ?_
  refine kb_sipush (v := (200 : Int32)) X dX3_init_5 (by decide) ?_
  refine kb_new_char (N := 200) X (by decide) (Nat.le_of_ble_eq_true rfl) (Nat.le_of_ble_eq_true rfl) dX3_init_8 (fun q1 => ?_)
  show kW x 1 200 10 [(0, .ref q)] [.ref q1, .ref q] ([(q, .inr (3, [.null, .null, .int 0, .int 0])), (q1, .inl (g.2 1, 200, .inl (fun _ => 0)))])
  refine kb_putF X hI (C := RX3) (T := TX3) (N := 4) (ci := 3) (ty := (.array .char)) kw_iX3 tyX3 tyX3_ok nmX3 rfl 0 0 rfl (by decide) kf_X3_9 rfl rfl rfl (by decide +kernel) rfl rfl (Nat.le_of_ble_eq_true rfl) dX3_init_10 (ws' := [(q, .inr (3, [.ref q1, .null, .int 0, .int 0])), (q1, .inl (g.2 1, 200, .inl (fun _ => 0)))]) rfl ?_
  refine kb_aload_n X 0 dX3_init_13 rfl rfl ?_
  refine kb_iconst (v := (3 : Int32)) X dX3_init_14 (by decide) ?_
  refine kb_new_int (N := 3) X (by decide) (Nat.le_of_ble_eq_true rfl) (Nat.le_of_ble_eq_true rfl) dX3_init_15 (fun q2 => ?_)
  show kW x 2 203 17 [(0, .ref q)] [.ref q2, .ref q] ([(q, .inr (3, [.ref q1, .null, .int 0, .int 0])), (q1, .inl (g.2 1, 200, .inl (fun _ => 0))), (q2, .inl (g.2 0, 3, .inl (fun _ => 0)))])
  refine kb_putF X hI (C := RX3) (T := TX3) (N := 4) (ci := 3) (ty := (.array .int)) kw_iX3 tyX3 tyX3_ok nmX3 rfl 0 1 rfl (by decide) kf_X3_15 rfl rfl rfl (by decide +kernel) rfl rfl (Nat.le_of_ble_eq_true rfl) dX3_init_17 (ws' := [(q, .inr (3, [.ref q1, .ref q2, .int 0, .int 0])), (q1, .inl (g.2 1, 200, .inl (fun _ => 0))), (q2, .inl (g.2 0, 3, .inl (fun _ => 0)))]) rfl ?_
  refine kb_aload_n X 0 dX3_init_20 rfl rfl ?_
  refine kb_iconst (v := (0 : Int32)) X dX3_init_21 (by decide) ?_
  refine kb_put X (C := RX3) (T := TX3) (N := 4) (ci := 3) (ty := .int) kw_iX3 tyX3 tyX3_ok nmX3 rfl 0 2 rfl (by decide) kf_X3_19 rfl rfl (by decide +kernel) rfl rfl (Nat.le_of_ble_eq_true rfl) dX3_init_22 (ws' := [(q, .inr (3, [.ref q1, .ref q2, .int 0, .int 0])), (q1, .inl (g.2 1, 200, .inl (fun _ => 0))), (q2, .inl (g.2 0, 3, .inl (fun _ => 0)))]) rfl ?_
  refine kb_aload_n X 0 dX3_init_25 rfl rfl ?_
  refine kb_iconst (v := (0 : Int32)) X dX3_init_26 (by decide) ?_
  refine kb_put X (C := RX3) (T := TX3) (N := 4) (ci := 3) (ty := .int) kw_iX3 tyX3 tyX3_ok nmX3 rfl 0 3 rfl (by decide) kf_X3_23 rfl rfl (by decide +kernel) rfl rfl (Nat.le_of_ble_eq_true rfl) dX3_init_27 (ws' := [(q, .inr (3, [.ref q1, .ref q2, .int 0, .int 0])), (q1, .inl (g.2 1, 200, .inl (fun _ => 0))), (q2, .inl (g.2 0, 3, .inl (fun _ => 0)))]) rfl ?_
  refine ke_v X Z dX3_init_30 ?_
  exact ⟨fun k => [q, q1, q2].getD k 0, rfl, rfl⟩
set_option maxHeartbeats 4000000 in
set_option maxRecDepth 100000 in
theorem ct_X2_init (l : Launch) (g : kw_G) (q : Nat) : kMv l g yX2_init cX2_init 1 (kw_rm 1 5 30) 5 30 [.ref q] [(q, .inr (2, fsX2))] (fun w => ∃ a : Nat → Nat, a 0 = q ∧ w = wS g a s00) := by
  refine kMv_ofI (by decide +kernel) rfl (Nat.le_of_ble_eq_true rfl) (fun x (X : kX l g RX2 cX2_init 1 (kw_rm 1 5 30) x) (Z : kZv _ 5 30 x) hI => ?_)
  show kW x 0 0 0 [(0, .ref q)] [] ([(q, .inr (2, [.null, .null, .null, .null, .null, .int 0]))])
  refine kb_aload_n X 0 dX2_init_0 rfl rfl ?_
  refine kb_obj X kl_X2_3 (Nat.le_of_ble_eq_true rfl) (Nat.le_of_ble_eq_true rfl) dX2_init_1 ?_
  refine kb_aload_n X 0 dX2_init_4 rfl rfl ?_
  refine kb_bipush (v := (6 : Int32)) X dX2_init_5 (by decide) ?_
  refine kb_new_int (N := 6) X (by decide) (Nat.le_of_ble_eq_true rfl) (Nat.le_of_ble_eq_true rfl) dX2_init_7 (fun q1 => ?_)
  show kW x 1 6 9 [(0, .ref q)] [.ref q1, .ref q] ([(q, .inr (2, [.null, .null, .null, .null, .null, .int 0])), (q1, .inl (g.2 0, 6, .inl (fun _ => 0)))])
  refine kb_putF X hI (C := RX2) (T := TX2) (N := 6) (ci := 2) (ty := (.array .int)) kw_iX2 tyX2 tyX2_ok nmX2 rfl 0 0 rfl (by decide) kf_X2_9 rfl rfl rfl (by decide +kernel) rfl rfl (Nat.le_of_ble_eq_true rfl) dX2_init_9 (ws' := [(q, .inr (2, [.ref q1, .null, .null, .null, .null, .int 0])), (q1, .inl (g.2 0, 6, .inl (fun _ => 0)))]) rfl ?_
  refine kb_aload_n X 0 dX2_init_12 rfl rfl ?_
  refine kb_bipush (v := (6 : Int32)) X dX2_init_13 (by decide) ?_
  refine kb_new_int (N := 6) X (by decide) (Nat.le_of_ble_eq_true rfl) (Nat.le_of_ble_eq_true rfl) dX2_init_15 (fun q2 => ?_)
  show kW x 2 12 17 [(0, .ref q)] [.ref q2, .ref q] ([(q, .inr (2, [.ref q1, .null, .null, .null, .null, .int 0])), (q1, .inl (g.2 0, 6, .inl (fun _ => 0))), (q2, .inl (g.2 0, 6, .inl (fun _ => 0)))])
  refine kb_putF X hI (C := RX2) (T := TX2) (N := 6) (ci := 2) (ty := (.array .int)) kw_iX2 tyX2 tyX2_ok nmX2 rfl 0 1 rfl (by decide) kf_X2_15 rfl rfl rfl (by decide +kernel) rfl rfl (Nat.le_of_ble_eq_true rfl) dX2_init_17 (ws' := [(q, .inr (2, [.ref q1, .ref q2, .null, .null, .null, .int 0])), (q1, .inl (g.2 0, 6, .inl (fun _ => 0))), (q2, .inl (g.2 0, 6, .inl (fun _ => 0)))]) rfl ?_
  refine kb_aload_n X 0 dX2_init_20 rfl rfl ?_
  refine kb_bipush (v := (6 : Int32)) X dX2_init_21 (by decide) ?_
  refine kb_new_int (N := 6) X (by decide) (Nat.le_of_ble_eq_true rfl) (Nat.le_of_ble_eq_true rfl) dX2_init_23 (fun q3 => ?_)
  show kW x 3 18 25 [(0, .ref q)] [.ref q3, .ref q] ([(q, .inr (2, [.ref q1, .ref q2, .null, .null, .null, .int 0])), (q1, .inl (g.2 0, 6, .inl (fun _ => 0))), (q2, .inl (g.2 0, 6, .inl (fun _ => 0))), (q3, .inl (g.2 0, 6, .inl (fun _ => 0)))])
  refine kb_putF X hI (C := RX2) (T := TX2) (N := 6) (ci := 2) (ty := (.array .int)) kw_iX2 tyX2 tyX2_ok nmX2 rfl 0 2 rfl (by decide) kf_X2_18 rfl rfl rfl (by decide +kernel) rfl rfl (Nat.le_of_ble_eq_true rfl) dX2_init_25 (ws' := [(q, .inr (2, [.ref q1, .ref q2, .ref q3, .null, .null, .int 0])), (q1, .inl (g.2 0, 6, .inl (fun _ => 0))), (q2, .inl (g.2 0, 6, .inl (fun _ => 0))), (q3, .inl (g.2 0, 6, .inl (fun _ => 0)))]) rfl ?_
  refine kb_aload_n X 0 dX2_init_28 rfl rfl ?_
  refine kb_bipush (v := (6 : Int32)) X dX2_init_29 (by decide) ?_
  refine kb_new_int (N := 6) X (by decide) (Nat.le_of_ble_eq_true rfl) (Nat.le_of_ble_eq_true rfl) dX2_init_31 (fun q4 => ?_)
  show kW x 4 24 33 [(0, .ref q)] [.ref q4, .ref q] ([(q, .inr (2, [.ref q1, .ref q2, .ref q3, .null, .null, .int 0])), (q1, .inl (g.2 0, 6, .inl (fun _ => 0))), (q2, .inl (g.2 0, 6, .inl (fun _ => 0))), (q3, .inl (g.2 0, 6, .inl (fun _ => 0))), (q4, .inl (g.2 0, 6, .inl (fun _ => 0)))])
  refine kb_putF X hI (C := RX2) (T := TX2) (N := 6) (ci := 2) (ty := (.array .int)) kw_iX2 tyX2 tyX2_ok nmX2 rfl 0 3 rfl (by decide) kf_X2_21 rfl rfl rfl (by decide +kernel) rfl rfl (Nat.le_of_ble_eq_true rfl) dX2_init_33 (ws' := [(q, .inr (2, [.ref q1, .ref q2, .ref q3, .ref q4, .null, .int 0])), (q1, .inl (g.2 0, 6, .inl (fun _ => 0))), (q2, .inl (g.2 0, 6, .inl (fun _ => 0))), (q3, .inl (g.2 0, 6, .inl (fun _ => 0))), (q4, .inl (g.2 0, 6, .inl (fun _ => 0)))]) rfl ?_
  refine kb_aload_n X 0 dX2_init_36 rfl rfl ?_
  refine kb_bipush (v := (6 : Int32)) X dX2_init_37 (by decide) ?_
  refine kb_new_boolean (N := 6) X (by decide) (Nat.le_of_ble_eq_true rfl) (Nat.le_of_ble_eq_true rfl) dX2_init_39 (fun q5 => ?_)
  show kW x 5 30 41 [(0, .ref q)] [.ref q5, .ref q] ([(q, .inr (2, [.ref q1, .ref q2, .ref q3, .ref q4, .null, .int 0])), (q1, .inl (g.2 0, 6, .inl (fun _ => 0))), (q2, .inl (g.2 0, 6, .inl (fun _ => 0))), (q3, .inl (g.2 0, 6, .inl (fun _ => 0))), (q4, .inl (g.2 0, 6, .inl (fun _ => 0))), (q5, .inl (g.2 3, 6, .inl (fun _ => 0)))])
  refine kb_putF X hI (C := RX2) (T := TX2) (N := 6) (ci := 2) (ty := (.array .boolean)) kw_iX2 tyX2 tyX2_ok nmX2 rfl 0 4 rfl (by decide) kf_X2_24 rfl rfl rfl (by decide +kernel) rfl rfl (Nat.le_of_ble_eq_true rfl) dX2_init_41 (ws' := [(q, .inr (2, [.ref q1, .ref q2, .ref q3, .ref q4, .ref q5, .int 0])), (q1, .inl (g.2 0, 6, .inl (fun _ => 0))), (q2, .inl (g.2 0, 6, .inl (fun _ => 0))), (q3, .inl (g.2 0, 6, .inl (fun _ => 0))), (q4, .inl (g.2 0, 6, .inl (fun _ => 0))), (q5, .inl (g.2 3, 6, .inl (fun _ => 0)))]) rfl ?_
  refine kb_aload_n X 0 dX2_init_44 rfl rfl ?_
  refine kb_iconst (v := (0 : Int32)) X dX2_init_45 (by decide) ?_
  refine kb_put X (C := RX2) (T := TX2) (N := 6) (ci := 2) (ty := .int) kw_iX2 tyX2 tyX2_ok nmX2 rfl 0 5 rfl (by decide) kf_X2_28 rfl rfl (by decide +kernel) rfl rfl (Nat.le_of_ble_eq_true rfl) dX2_init_46 (ws' := [(q, .inr (2, [.ref q1, .ref q2, .ref q3, .ref q4, .ref q5, .int 0])), (q1, .inl (g.2 0, 6, .inl (fun _ => 0))), (q2, .inl (g.2 0, 6, .inl (fun _ => 0))), (q3, .inl (g.2 0, 6, .inl (fun _ => 0))), (q4, .inl (g.2 0, 6, .inl (fun _ => 0))), (q5, .inl (g.2 3, 6, .inl (fun _ => 0)))]) rfl ?_
  refine ke_v X Z dX2_init_49 ?_
  exact ⟨fun k => [q, q1, q2, q3, q4, q5].getD k 0, rfl, rfl⟩
set_option maxHeartbeats 4000000 in
set_option maxRecDepth 100000 in
theorem ct_X1_init (l : Launch) (g : kw_G) (q m : Nat) (h1 : 1 ≤ m) (h8 : m ≤ 8) : kMv l g yX1_init cX1_init 3 (kw_rm 2 (1 + 6 * m) (m + 101 * m)) (1 + 6 * m) (m + 101 * m) [.ref q, .int (nI m)] [(q, .inr (1, fsX1))] (fun w => ∃ (a : Nat → Nat) (ad : Nat → Nat → Nat), a 0 = q ∧ w = List.flatten [wPh g a ad m 0 0, wVs g ad (fun _ => vE) (List.range m)]) := by
  refine kMv_ofI (by decide +kernel) rfl (Nat.le_of_ble_eq_true rfl) (fun x (X : kX l g RX1 cX1_init 3 (kw_rm 2 (1 + 6 * m) (m + 101 * m)) x) (Z : kZv _ (1 + 6 * m) (m + 101 * m) x) hI => ?_)
  show kW x 0 0 0 [(0, .ref q), (1, .int (nI m))] [] ([(q, .inr (1, [.null, .int 0, .int 0]))])
  refine kb_aload_n X 0 dX1_init_0 rfl rfl ?_
  refine kb_obj X kl_X1_1 (Nat.le_of_ble_eq_true rfl) (Nat.le_of_ble_eq_true rfl) dX1_init_1 ?_
  refine kb_aload_n X 0 dX1_init_4 rfl rfl ?_
  refine kb_iconst (v := (0 : Int32)) X dX1_init_5 (by decide) ?_
  refine kb_put X (C := RX1) (T := TX1) (N := 3) (ci := 1) (ty := .int) kw_iX1 tyX1 tyX1_ok nmX1 rfl 0 1 rfl (by decide) kf_X1_7 rfl rfl (by decide +kernel) rfl rfl (Nat.le_of_ble_eq_true rfl) dX1_init_6 (ws' := [(q, .inr (1, [.null, .int 0, .int 0]))]) rfl ?_
  refine kb_aload_n X 0 dX1_init_9 rfl rfl ?_
  refine kb_iconst (v := (0 : Int32)) X dX1_init_10 (by decide) ?_
  refine kb_put X (C := RX1) (T := TX1) (N := 3) (ci := 1) (ty := .int) kw_iX1 tyX1 tyX1_ok nmX1 rfl 0 2 rfl (by decide) kf_X1_13 rfl rfl (by decide +kernel) rfl rfl (Nat.le_of_ble_eq_true rfl) dX1_init_11 (ws' := [(q, .inr (1, [.null, .int 0, .int 0]))]) rfl ?_
  refine kb_aload_n X 0 dX1_init_14 rfl rfl ?_
  refine kb_iconst (v := (1 : Int32)) X dX1_init_15 (by decide) ?_
  refine kb_iload_n X 1 dX1_init_16 rfl rfl ?_
  refine kc_Si X (As := [.int 1, .int (nI m)]) (rest := [.ref q]) (wr := [(q, .inr (1, [.null, .int 0, .int 0]))]) (ct_J9_max_7cf53 l g 1 (nI m)) dX1_init_17 rfl (List.Perm.refl _) mc_J9_max_7cf53 kl_X1_16 ms_J9_max_7cf53 kn_J9 (na := 2) (by decide +kernel) rfl ⟨Nat.le_of_ble_eq_true rfl, Nat.le_of_ble_eq_true rfl⟩ ⟨rfl, rfl⟩ ⟨by show 0 + 0 ≤ 1 + 6 * m; omega, by show 0 + 0 ≤ m + 101 * m; omega⟩ (Nat.le_of_ble_eq_true rfl) (fun r_ w_ hp_ => ?_)
  obtain ⟨rfl, rfl⟩ := hp_
  refine kw_ws (List.nil_append _) ?_
  refine kw_top (b := .int (nI m)) (by rw [mx1 (by omega) (by omega)]) ?_
  refine kb_newq (N := m) X (by omega) kc_X1_22 (by show 0 + 0 + 1 ≤ 1 + 6 * m; omega) (by show 0 + 0 + m ≤ m + 101 * m; omega) dX1_init_20 (fun q1 => ?_)
  show kW x (0 + 0 + 1) (0 + 0 + m) 23 [(0, .ref q), (1, .int (nI m))] [.ref q1, .ref q] ([(q, .inr (1, [.null, .int 0, .int 0])), (q1, .inl (g.2 4, m, .inr (.inr (.inr (.inr (fun _ => none))))))])
  refine kb_putF X hI (C := RX1) (T := TX1) (N := 3) (ci := 1) (ty := (.array (.object RX4))) kw_iX1 tyX1 tyX1_ok nmX1 rfl 0 0 rfl (by decide) kf_X1_24 rfl rfl rfl (by decide +kernel) rfl rfl (Nat.le_of_ble_eq_true rfl) dX1_init_23 (ws' := [(q, .inr (1, [.ref q1, .int 0, .int 0])), (q1, .inl (g.2 4, m, .inr (.inr (.inr (.inr (fun _ => none))))))]) rfl ?_
  refine kb_iconst (v := (0 : Int32)) X dX1_init_26 (by decide) ?_
  refine kb_istore_n X [1, 2, 0] dX1_init_27 rfl (by decide) (lv' := [(0, .ref q), (1, .int (nI m)), (2, .int (nI 0))]) rfl ?_
  have L : ∀ (K_ i : Nat) (ad : Nat → Nat → Nat) (f : Nat → Option Nat), i + K_ = m → (∀ j, j < i → f j = some (ad j 0)) → kW x (1 + 6 * i) (m + 101 * i) 28 [(0, .ref q), (1, .int (nI m)), (2, .int (nI i))] [] (List.flatten [[(q, .inr (1, [.ref q1, .int 0, .int 0])), (q1, .inl (g.2 4, m, .inr (.inr (.inr (.inr f)))))], wVs g ad (fun _ => vE) (List.range i)]) := by
    intro K_
    induction K_ with
    | zero =>
      intro i ad f hi hf
      refine kb_iload_n X 2 dX1_init_28 rfl rfl ?_
      refine kb_aload_n X 0 dX1_init_29 rfl rfl ?_
      refine kb_get (v := .ref q1) (C := RX1) (T := TX1) (N := 3) (ci := 1) X kw_iX1 rfl 0 0 rfl (by decide) kf_X1_24 rfl rfl dX1_init_30 ?_
      refine kb_alen (v := nI m) X 1 4 rfl rfl rfl dX1_init_33 ?_
      refine kn_icmp_ge (a := i) (b := m) (tgt := 56) X (by omega) (by omega) dX1_init_34 (by decide) (fun c_ => ?_) (fun c_ => ?_)
      · have e_ : i = m := by omega
        subst e_
        refine kw_arrq (f' := fun j => some (ad j 0)) 1 rfl (fun j hj => hf j hj) (ws' := List.flatten [wPh g (fun k => [q, q1].getD k 0) ad i 0 0, wVs g ad (fun _ => vE) (List.range i)]) rfl ?_
        refine ke_v X Z dX1_init_56 ?_
        exact ⟨_, ad, rfl, rfl⟩
      · omega
    | succ K_ ih =>
      intro i ad f hi hf
      refine kb_iload_n X 2 dX1_init_28 rfl rfl ?_
      refine kb_aload_n X 0 dX1_init_29 rfl rfl ?_
      refine kb_get (v := .ref q1) (C := RX1) (T := TX1) (N := 3) (ci := 1) X kw_iX1 rfl 0 0 rfl (by decide) kf_X1_24 rfl rfl dX1_init_30 ?_
      refine kb_alen (v := nI m) X 1 4 rfl rfl rfl dX1_init_33 ?_
      refine kn_icmp_ge (a := i) (b := m) (tgt := 56) X (by omega) (by omega) dX1_init_34 (by decide) (fun c_ => ?_) (fun c_ => ?_)
      · omega
      · refine kb_aload_n X 0 dX1_init_37 rfl rfl ?_
        refine kb_get (v := .ref q1) (C := RX1) (T := TX1) (N := 3) (ci := 1) X kw_iX1 rfl 0 0 rfl (by decide) kf_X1_24 rfl rfl dX1_init_38 ?_
        refine kb_iload_n X 2 dX1_init_41 rfl rfl ?_
        refine kb_new (C := RX4) (T := TX4) (N := 11) (ci := 4) (fs := fsX4) X kw_iX4 tyX4 tyX4_ok kc_X1_22 ki_X4 kn_X4 rfl df_X4 (by show (1 + 6 * i) + 1 ≤ 1 + 6 * m; omega) (by show (m + 101 * i) + 11 ≤ m + 101 * m; omega) dX1_init_42 (fun q9 => ?_)
        refine kb_dup X dX1_init_45 rfl ?_
        refine kc_INv X (As := []) (rest := [.ref q9, .int (nI i), .ref q1]) (wc := [(q9, .inr (4, fsX4))]) (wr := (List.flatten [[(q, .inr (1, [.ref q1, .int 0, .int 0])), (q1, .inl (g.2 4, m, .inr (.inr (.inr (.inr f)))))], wVs g ad (fun _ => vE) (List.range i)])) (ct_X4_init l g q9) dX1_init_46 rfl List.perm_append_comm mc_X4_init (by simp [kw_nest]) mi_X4_init kn_X4 rfl (na := 0) (by decide +kernel) rfl ⟨Nat.le_of_ble_eq_true rfl, Nat.le_of_ble_eq_true rfl⟩ ⟨rfl, rfl⟩ ⟨by show (1 + 6 * i) + 1 + 5 ≤ 1 + 6 * m; omega, by show (m + 101 * i) + 11 + 90 ≤ m + 101 * m; omega⟩ (Nat.le_of_ble_eq_true rfl) (fun w_ hp_ => ?_)
        obtain ⟨a9, e9, rfl⟩ := hp_
        refine kw_perm (ws' := List.flatten [[(q, .inr (1, [.ref q1, .int 0, .int 0])), (q1, .inl (g.2 4, m, .inr (.inr (.inr (.inr f)))))], wV g a9 vE, wVs g ad (fun _ => vE) (List.range i)]) (List.perm_append_comm_assoc (wV g a9 vE) ([(q, .inr (1, [.ref q1, .int 0, .int 0])), (q1, .inl (g.2 4, m, .inr (.inr (.inr (.inr f)))))]) ((wVs g ad (fun _ => vE) (List.range i)) ++ [])) ?_
        subst e9
        refine kb_qast (ci := 0) (i := i) (N := m) X 1 2 rfl rfl (by omega) (by omega) dX1_init_49 (ws' := List.flatten [[(q, .inr (1, [.ref q1, .int 0, .int 0])), (q1, .inl (g.2 4, m, .inr (.inr (.inr (.inr (va_up f i (some (a9 0))))))))], wV g a9 vE, wVs g ad (fun _ => vE) (List.range i)]) rfl ?_
        refine kb_iinc X 2 [1, 2, 0] (v' := nI (i + 1)) dX1_init_50 rfl (nI_add _ _) (by decide) (lv' := [(0, .ref q), (1, .int (nI m)), (2, .int (nI (i + 1)))]) rfl ?_
        refine kb_goto (tgt := 28) X dX1_init_53 (by decide) ?_
        refine kw_perm (ws' := (List.flatten [[(q, .inr (1, [.ref q1, .int 0, .int 0])), (q1, .inl (g.2 4, m, .inr (.inr (.inr (.inr (va_up f i (some (a9 0))))))))], wVs g (va_up ad i a9) (fun _ => vE) (List.range (i + 1))])) (List.Perm.append_left ([(q, .inr (1, [.ref q1, .int 0, .int 0])), (q1, .inl (g.2 4, m, .inr (.inr (.inr (.inr (va_up f i (some (a9 0))))))))]) (show (wV g a9 vE ++ (wVs g ad (fun _ => vE) (List.range i) ++ [])).Perm (wVs g (va_up ad i a9) (fun _ => vE) (List.range (i + 1)) ++ []) by rw [wVs_snoc, List.append_nil, List.append_nil]; exact List.perm_append_comm)) ?_
        refine kw_wide (n' := (1 + 6 * (i + 1))) (k' := (m + 101 * (i + 1))) (by omega) (by show (m + 101 * i) + 11 + 90 ≤ _; omega) ?_
        refine ih (i + 1) (va_up ad i a9) (va_up f i (some (a9 0))) (by omega) (fun j hj => ?_)
        by_cases e : j = i
        · subst e; rw [va_up_self, va_up_self]
        · rw [va_up_ne _ _ e, va_up_ne _ _ e]; exact hf j (by omega)
  refine kw_wide (n' := (1 + 6 * 0)) (k' := (m + 101 * 0)) (by omega) (by omega) ?_
  refine kw_ws (ws' := (List.flatten [[(q, .inr (1, [.ref q1, .int 0, .int 0])), (q1, .inl (g.2 4, m, .inr (.inr (.inr (.inr (fun _ => none))))))], wVs g (fun _ _ => 0) (fun _ => vE) (List.range 0)])) rfl ?_
  exact L m 0 (fun _ _ => 0) (fun _ => none) (by omega) (fun j hj => absurd hj (Nat.not_lt_zero _))
set_option maxHeartbeats 4000000 in
set_option maxRecDepth 100000 in
theorem ct_X0_init (l : Launch) (g : kw_G) (q : Nat) : kMv l g yX0_init cX0_init 2 (kw_rm 2 45 726) 45 726 [.ref q] [(q, .inr (0, fsX0))] (fun w => ∃ (a : Nat → Nat) (ad : Nat → Nat → Nat), a 0 = q ∧ w = List.flatten [wO g a ad (fun _ => 0, fun _ => 0, 0, 0, 0, 0, 1), wVs g ad (fun _ => vE) (List.range 7)]) := by
  refine kMv_ofI (by decide +kernel) rfl (Nat.le_of_ble_eq_true rfl) (fun x (X : kX l g RX0 cX0_init 2 (kw_rm 2 45 726) x) (Z : kZv _ 45 726 x) hI => ?_)
  show kW x 0 0 0 [(0, .ref q)] [] ([(q, .inr (0, [.null, .null, .null, .int 0, .int 0, .int 0, .int 0, .int 0]))])
  refine kb_aload_n X 0 dX0_init_0 rfl rfl ?_
  refine kb_obj X kl_X0_3 (Nat.le_of_ble_eq_true rfl) (Nat.le_of_ble_eq_true rfl) dX0_init_1 ?_
  refine kb_aload_n X 0 dX0_init_4 rfl rfl ?_
  refine kb_bipush (v := (7 : Int32)) X dX0_init_5 (by decide) ?_
  refine kb_newq (N := 7) X (by omega) kc_X0_9 (Nat.le_of_ble_eq_true rfl) (Nat.le_of_ble_eq_true rfl) dX0_init_7 (fun q1 => ?_)
  show kW x 1 7 10 [(0, .ref q)] [.ref q1, .ref q] ([(q, .inr (0, [.null, .null, .null, .int 0, .int 0, .int 0, .int 0, .int 0])), (q1, .inl (g.2 4, 7, .inr (.inr (.inr (.inr (fun _ => none))))))])
  refine kb_putF X hI (C := RX0) (T := TX0) (N := 8) (ci := 0) (ty := (.array (.object RX4))) kw_iX0 tyX0 tyX0_ok nmX0 rfl 0 0 rfl (by decide) kf_X0_11 rfl rfl rfl (by decide +kernel) rfl rfl (Nat.le_of_ble_eq_true rfl) dX0_init_10 (ws' := [(q, .inr (0, [.ref q1, .null, .null, .int 0, .int 0, .int 0, .int 0, .int 0])), (q1, .inl (g.2 4, 7, .inr (.inr (.inr (.inr (fun _ => none))))))]) rfl ?_
  refine kb_aload_n X 0 dX0_init_13 rfl rfl ?_
  refine kb_bipush (v := (6 : Int32)) X dX0_init_14 (by decide) ?_
  refine kb_new_int (N := 6) X (by decide) (Nat.le_of_ble_eq_true rfl) (Nat.le_of_ble_eq_true rfl) dX0_init_16 (fun q2 => ?_)
  show kW x 2 13 18 [(0, .ref q)] [.ref q2, .ref q] ([(q, .inr (0, [.ref q1, .null, .null, .int 0, .int 0, .int 0, .int 0, .int 0])), (q1, .inl (g.2 4, 7, .inr (.inr (.inr (.inr (fun _ => none)))))), (q2, .inl (g.2 0, 6, .inl (fun _ => 0)))])
  refine kb_putF X hI (C := RX0) (T := TX0) (N := 8) (ci := 0) (ty := (.array .int)) kw_iX0 tyX0 tyX0_ok nmX0 rfl 0 1 rfl (by decide) kf_X0_17 rfl rfl rfl (by decide +kernel) rfl rfl (Nat.le_of_ble_eq_true rfl) dX0_init_18 (ws' := [(q, .inr (0, [.ref q1, .ref q2, .null, .int 0, .int 0, .int 0, .int 0, .int 0])), (q1, .inl (g.2 4, 7, .inr (.inr (.inr (.inr (fun _ => none)))))), (q2, .inl (g.2 0, 6, .inl (fun _ => 0)))]) rfl ?_
  refine kb_aload_n X 0 dX0_init_21 rfl rfl ?_
  refine kb_bipush (v := (6 : Int32)) X dX0_init_22 (by decide) ?_
  refine kb_new_int (N := 6) X (by decide) (Nat.le_of_ble_eq_true rfl) (Nat.le_of_ble_eq_true rfl) dX0_init_24 (fun q3 => ?_)
  show kW x 3 19 26 [(0, .ref q)] [.ref q3, .ref q] ([(q, .inr (0, [.ref q1, .ref q2, .null, .int 0, .int 0, .int 0, .int 0, .int 0])), (q1, .inl (g.2 4, 7, .inr (.inr (.inr (.inr (fun _ => none)))))), (q2, .inl (g.2 0, 6, .inl (fun _ => 0))), (q3, .inl (g.2 0, 6, .inl (fun _ => 0)))])
  refine kb_putF X hI (C := RX0) (T := TX0) (N := 8) (ci := 0) (ty := (.array .int)) kw_iX0 tyX0 tyX0_ok nmX0 rfl 0 2 rfl (by decide) kf_X0_21 rfl rfl rfl (by decide +kernel) rfl rfl (Nat.le_of_ble_eq_true rfl) dX0_init_26 (ws' := [(q, .inr (0, [.ref q1, .ref q2, .ref q3, .int 0, .int 0, .int 0, .int 0, .int 0])), (q1, .inl (g.2 4, 7, .inr (.inr (.inr (.inr (fun _ => none)))))), (q2, .inl (g.2 0, 6, .inl (fun _ => 0))), (q3, .inl (g.2 0, 6, .inl (fun _ => 0)))]) rfl ?_
  refine kb_aload_n X 0 dX0_init_29 rfl rfl ?_
  refine kb_iconst (v := (0 : Int32)) X dX0_init_30 (by decide) ?_
  refine kb_put X (C := RX0) (T := TX0) (N := 8) (ci := 0) (ty := .int) kw_iX0 tyX0 tyX0_ok nmX0 rfl 0 3 rfl (by decide) kf_X0_24 rfl rfl (by decide +kernel) rfl rfl (Nat.le_of_ble_eq_true rfl) dX0_init_31 (ws' := [(q, .inr (0, [.ref q1, .ref q2, .ref q3, .int 0, .int 0, .int 0, .int 0, .int 0])), (q1, .inl (g.2 4, 7, .inr (.inr (.inr (.inr (fun _ => none)))))), (q2, .inl (g.2 0, 6, .inl (fun _ => 0))), (q3, .inl (g.2 0, 6, .inl (fun _ => 0)))]) rfl ?_
  refine kb_aload_n X 0 dX0_init_34 rfl rfl ?_
  refine kb_iconst (v := (0 : Int32)) X dX0_init_35 (by decide) ?_
  refine kb_put X (C := RX0) (T := TX0) (N := 8) (ci := 0) (ty := .int) kw_iX0 tyX0 tyX0_ok nmX0 rfl 0 4 rfl (by decide) kf_X0_28 rfl rfl (by decide +kernel) rfl rfl (Nat.le_of_ble_eq_true rfl) dX0_init_36 (ws' := [(q, .inr (0, [.ref q1, .ref q2, .ref q3, .int 0, .int 0, .int 0, .int 0, .int 0])), (q1, .inl (g.2 4, 7, .inr (.inr (.inr (.inr (fun _ => none)))))), (q2, .inl (g.2 0, 6, .inl (fun _ => 0))), (q3, .inl (g.2 0, 6, .inl (fun _ => 0)))]) rfl ?_
  refine kb_aload_n X 0 dX0_init_39 rfl rfl ?_
  refine kb_iconst (v := (0 : Int32)) X dX0_init_40 (by decide) ?_
  refine kb_put X (C := RX0) (T := TX0) (N := 8) (ci := 0) (ty := .int) kw_iX0 tyX0 tyX0_ok nmX0 rfl 0 5 rfl (by decide) kf_X0_31 rfl rfl (by decide +kernel) rfl rfl (Nat.le_of_ble_eq_true rfl) dX0_init_41 (ws' := [(q, .inr (0, [.ref q1, .ref q2, .ref q3, .int 0, .int 0, .int 0, .int 0, .int 0])), (q1, .inl (g.2 4, 7, .inr (.inr (.inr (.inr (fun _ => none)))))), (q2, .inl (g.2 0, 6, .inl (fun _ => 0))), (q3, .inl (g.2 0, 6, .inl (fun _ => 0)))]) rfl ?_
  refine kb_aload_n X 0 dX0_init_44 rfl rfl ?_
  refine kb_iconst (v := (0 : Int32)) X dX0_init_45 (by decide) ?_
  refine kb_put X (C := RX0) (T := TX0) (N := 8) (ci := 0) (ty := .int) kw_iX0 tyX0 tyX0_ok nmX0 rfl 0 6 rfl (by decide) kf_X0_34 rfl rfl (by decide +kernel) rfl rfl (Nat.le_of_ble_eq_true rfl) dX0_init_46 (ws' := [(q, .inr (0, [.ref q1, .ref q2, .ref q3, .int 0, .int 0, .int 0, .int 0, .int 0])), (q1, .inl (g.2 4, 7, .inr (.inr (.inr (.inr (fun _ => none)))))), (q2, .inl (g.2 0, 6, .inl (fun _ => 0))), (q3, .inl (g.2 0, 6, .inl (fun _ => 0)))]) rfl ?_
  refine kb_aload_n X 0 dX0_init_49 rfl rfl ?_
  refine kb_iconst (v := (0 : Int32)) X dX0_init_50 (by decide) ?_
  refine kb_put X (C := RX0) (T := TX0) (N := 8) (ci := 0) (ty := .int) kw_iX0 tyX0 tyX0_ok nmX0 rfl 0 7 rfl (by decide) kf_X0_37 rfl rfl (by decide +kernel) rfl rfl (Nat.le_of_ble_eq_true rfl) dX0_init_51 (ws' := [(q, .inr (0, [.ref q1, .ref q2, .ref q3, .int 0, .int 0, .int 0, .int 0, .int 0])), (q1, .inl (g.2 4, 7, .inr (.inr (.inr (.inr (fun _ => none)))))), (q2, .inl (g.2 0, 6, .inl (fun _ => 0))), (q3, .inl (g.2 0, 6, .inl (fun _ => 0)))]) rfl ?_
  refine kb_iconst (v := (0 : Int32)) X dX0_init_54 (by decide) ?_
  refine kb_istore_n X [1, 0] dX0_init_55 rfl (by decide) (lv' := [(0, .ref q), (1, .int (nI 0))]) rfl ?_
  have L : ∀ (K_ i : Nat) (ad : Nat → Nat → Nat) (f : Nat → Option Nat), i + K_ = 7 → (∀ j, j < i → f j = some (ad j 0)) → kW x (3 + 6 * i) (19 + 101 * i) 56 [(0, .ref q), (1, .int (nI i))] [] (List.flatten [[(q, .inr (0, [.ref q1, .ref q2, .ref q3, .int 0, .int 0, .int 0, .int 0, .int 0])), (q1, .inl (g.2 4, 7, .inr (.inr (.inr (.inr f))))), (q2, .inl (g.2 0, 6, .inl (fun _ => 0))), (q3, .inl (g.2 0, 6, .inl (fun _ => 0)))], wVs g ad (fun _ => vE) (List.range i)]) := by
    intro K_
    induction K_ with
    | zero =>
      intro i ad f hi hf
      refine kb_iload_n X 1 dX0_init_56 rfl rfl ?_
      refine kb_aload_n X 0 dX0_init_57 rfl rfl ?_
      refine kb_get (v := .ref q1) (C := RX0) (T := TX0) (N := 8) (ci := 0) X kw_iX0 rfl 0 0 rfl (by decide) kf_X0_11 rfl rfl dX0_init_58 ?_
      refine kb_alen (v := nI 7) X 1 4 rfl rfl rfl dX0_init_61 ?_
      refine kn_icmp_ge (a := i) (b := 7) (tgt := 84) X (by omega) (by omega) dX0_init_62 (by decide) (fun c_ => ?_) (fun c_ => ?_)
      · have e_ : i = 7 := by omega
        subst e_
        refine kw_arrq (f' := fun j => some (ad j 0)) 1 rfl (fun j hj => hf j hj) (ws' := List.flatten [wO g (fun k => [q, q1, q2, q3].getD k 0) ad (fun _ => 0, fun _ => 0, 0, 0, 0, 0, 1), wVs g ad (fun _ => vE) (List.range 7)]) rfl ?_
        refine ke_v X Z dX0_init_84 ?_
        exact ⟨_, ad, rfl, rfl⟩
      · omega
    | succ K_ ih =>
      intro i ad f hi hf
      refine kb_iload_n X 1 dX0_init_56 rfl rfl ?_
      refine kb_aload_n X 0 dX0_init_57 rfl rfl ?_
      refine kb_get (v := .ref q1) (C := RX0) (T := TX0) (N := 8) (ci := 0) X kw_iX0 rfl 0 0 rfl (by decide) kf_X0_11 rfl rfl dX0_init_58 ?_
      refine kb_alen (v := nI 7) X 1 4 rfl rfl rfl dX0_init_61 ?_
      refine kn_icmp_ge (a := i) (b := 7) (tgt := 84) X (by omega) (by omega) dX0_init_62 (by decide) (fun c_ => ?_) (fun c_ => ?_)
      · omega
      · refine kb_aload_n X 0 dX0_init_65 rfl rfl ?_
        refine kb_get (v := .ref q1) (C := RX0) (T := TX0) (N := 8) (ci := 0) X kw_iX0 rfl 0 0 rfl (by decide) kf_X0_11 rfl rfl dX0_init_66 ?_
        refine kb_iload_n X 1 dX0_init_69 rfl rfl ?_
        refine kb_new (C := RX4) (T := TX4) (N := 11) (ci := 4) (fs := fsX4) X kw_iX4 tyX4 tyX4_ok kc_X0_9 ki_X4 kn_X4 rfl df_X4 (by show (3 + 6 * i) + 1 ≤ 45; omega) (by show (19 + 101 * i) + 11 ≤ 726; omega) dX0_init_70 (fun q9 => ?_)
        refine kb_dup X dX0_init_73 rfl ?_
        refine kc_INv X (As := []) (rest := [.ref q9, .int (nI i), .ref q1]) (wc := [(q9, .inr (4, fsX4))]) (wr := (List.flatten [[(q, .inr (0, [.ref q1, .ref q2, .ref q3, .int 0, .int 0, .int 0, .int 0, .int 0])), (q1, .inl (g.2 4, 7, .inr (.inr (.inr (.inr f))))), (q2, .inl (g.2 0, 6, .inl (fun _ => 0))), (q3, .inl (g.2 0, 6, .inl (fun _ => 0)))], wVs g ad (fun _ => vE) (List.range i)])) (ct_X4_init l g q9) dX0_init_74 rfl List.perm_append_comm mc_X4_init (by simp [kw_nest]) mi_X4_init kn_X4 rfl (na := 0) (by decide +kernel) rfl ⟨Nat.le_of_ble_eq_true rfl, Nat.le_of_ble_eq_true rfl⟩ ⟨rfl, rfl⟩ ⟨by show (3 + 6 * i) + 1 + 5 ≤ 45; omega, by show (19 + 101 * i) + 11 + 90 ≤ 726; omega⟩ (Nat.le_of_ble_eq_true rfl) (fun w_ hp_ => ?_)
        obtain ⟨a9, e9, rfl⟩ := hp_
        refine kw_perm (ws' := List.flatten [[(q, .inr (0, [.ref q1, .ref q2, .ref q3, .int 0, .int 0, .int 0, .int 0, .int 0])), (q1, .inl (g.2 4, 7, .inr (.inr (.inr (.inr f))))), (q2, .inl (g.2 0, 6, .inl (fun _ => 0))), (q3, .inl (g.2 0, 6, .inl (fun _ => 0)))], wV g a9 vE, wVs g ad (fun _ => vE) (List.range i)]) (List.perm_append_comm_assoc (wV g a9 vE) ([(q, .inr (0, [.ref q1, .ref q2, .ref q3, .int 0, .int 0, .int 0, .int 0, .int 0])), (q1, .inl (g.2 4, 7, .inr (.inr (.inr (.inr f))))), (q2, .inl (g.2 0, 6, .inl (fun _ => 0))), (q3, .inl (g.2 0, 6, .inl (fun _ => 0)))]) ((wVs g ad (fun _ => vE) (List.range i)) ++ [])) ?_
        subst e9
        refine kb_qast (ci := 0) (i := i) (N := 7) X 1 4 rfl rfl (by omega) (by omega) dX0_init_77 (ws' := List.flatten [[(q, .inr (0, [.ref q1, .ref q2, .ref q3, .int 0, .int 0, .int 0, .int 0, .int 0])), (q1, .inl (g.2 4, 7, .inr (.inr (.inr (.inr (va_up f i (some (a9 0)))))))), (q2, .inl (g.2 0, 6, .inl (fun _ => 0))), (q3, .inl (g.2 0, 6, .inl (fun _ => 0)))], wV g a9 vE, wVs g ad (fun _ => vE) (List.range i)]) rfl ?_
        refine kb_iinc X 1 [1, 0] (v' := nI (i + 1)) dX0_init_78 rfl (nI_add _ _) (by decide) (lv' := [(0, .ref q), (1, .int (nI (i + 1)))]) rfl ?_
        refine kb_goto (tgt := 56) X dX0_init_81 (by decide) ?_
        refine kw_perm (ws' := (List.flatten [[(q, .inr (0, [.ref q1, .ref q2, .ref q3, .int 0, .int 0, .int 0, .int 0, .int 0])), (q1, .inl (g.2 4, 7, .inr (.inr (.inr (.inr (va_up f i (some (a9 0)))))))), (q2, .inl (g.2 0, 6, .inl (fun _ => 0))), (q3, .inl (g.2 0, 6, .inl (fun _ => 0)))], wVs g (va_up ad i a9) (fun _ => vE) (List.range (i + 1))])) (List.Perm.append_left ([(q, .inr (0, [.ref q1, .ref q2, .ref q3, .int 0, .int 0, .int 0, .int 0, .int 0])), (q1, .inl (g.2 4, 7, .inr (.inr (.inr (.inr (va_up f i (some (a9 0)))))))), (q2, .inl (g.2 0, 6, .inl (fun _ => 0))), (q3, .inl (g.2 0, 6, .inl (fun _ => 0)))]) (show (wV g a9 vE ++ (wVs g ad (fun _ => vE) (List.range i) ++ [])).Perm (wVs g (va_up ad i a9) (fun _ => vE) (List.range (i + 1)) ++ []) by rw [wVs_snoc, List.append_nil, List.append_nil]; exact List.perm_append_comm)) ?_
        refine kw_wide (n' := (3 + 6 * (i + 1))) (k' := (19 + 101 * (i + 1))) (by omega) (by show (19 + 101 * i) + 11 + 90 ≤ _; omega) ?_
        refine ih (i + 1) (va_up ad i a9) (va_up f i (some (a9 0))) (by omega) (fun j hj => ?_)
        by_cases e : j = i
        · subst e; rw [va_up_self, va_up_self]
        · rw [va_up_ne _ _ e, va_up_ne _ _ e]; exact hf j (by omega)
  refine kw_wide (n' := (3 + 6 * 0)) (k' := (19 + 101 * 0)) (by omega) (by omega) ?_
  refine kw_ws (ws' := (List.flatten [[(q, .inr (0, [.ref q1, .ref q2, .ref q3, .int 0, .int 0, .int 0, .int 0, .int 0])), (q1, .inl (g.2 4, 7, .inr (.inr (.inr (.inr (fun _ => none)))))), (q2, .inl (g.2 0, 6, .inl (fun _ => 0))), (q3, .inl (g.2 0, 6, .inl (fun _ => 0)))], wVs g (fun _ _ => 0) (fun _ => vE) (List.range 0)])) rfl ?_
  exact L 7 0 (fun _ _ => 0) (fun _ => none) (by omega) (fun j hj => absurd hj (Nat.not_lt_zero _))
