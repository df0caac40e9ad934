section CW5
variable {l : Launch} {g : kw_G} {m : Nat} {at_ an ar au : Nat → Nat} {adu : Nat → Nat → Nat} {ak : Nat → Nat} {adk : Nat → Nat → Nat} {as_ ao : Nat → Nat} {ado : Nat → Nat → Nat} {v : VS} {us ks : List VS} {tf : Nat → Nat} {tn : Nat} {s : SS} {w0 : va_W}
theorem XWp.at0 (h : XWp g m at_ an ar au adu ak adk as_ ao ado v us ks tf tn s w0) : ∃ fs, w0[0]? = some (m, .inr (5, fs)) := by
  obtain ⟨t, u, sz, tp, uvs, kz, kp, kvs, oP, oB, oL, oC, oD, oZ, oM, ovs, hI, rfl⟩ := h
  exact ⟨_, rfl⟩
theorem cw_X5_write (h : XWp g m at_ an ar au adu ak adk as_ ao ado v us ks tf tn s w0) (x_ : Int32) : kMi l g yX5_write cX5_write 2 .int (kw_rm 3 0 0) 0 0 [.ref (m), .int (x_)] w0 (fun r w => r = oWr x_ tn ∧ XWp g m at_ an ar au adu ak adk as_ ao ado v us ks (oWrT x_ tn tf) (oWrN x_ tn) s w) := by
  obtain ⟨t, u, sz, tp, uvs, kz, kp, kvs, oP, oB, oL, oC, oD, oZ, oM, ovs, hI, rfl⟩ := h
  exact ct_X5_write l g m at_ an ar au adu ak adk as_ ao ado t v u sz tp uvs kz kp kvs s oP oB oL oC oD oZ oM ovs us ks tf tn hI x_
theorem cw_X5_wipe (h : XWp g m at_ an ar au adu ak adk as_ ao ado v us ks tf tn s w0)  : kMi l g yX5_wipe cX5_wipe 2 .int (kw_rm 2 0 0) 0 0 [.ref (m)] w0 (fun r w => r = nI tn ∧ XWp g m at_ an ar au adu ak adk as_ ao ado v us ks tf 0 s w) := by
  obtain ⟨t, u, sz, tp, uvs, kz, kp, kvs, oP, oB, oL, oC, oD, oZ, oM, ovs, hI, rfl⟩ := h
  exact ct_X5_wipe l g m at_ an ar au adu ak adk as_ ao ado t v u sz tp uvs kz kp kvs s oP oB oL oC oD oZ oM ovs us ks tf tn hI 
theorem cw_X5_fault (h : XWp g m at_ an ar au adu ak adk as_ ao ado v us ks tf tn s w0)  : kMi l g yX5_fault cX5_fault 1 .int (kw_rm 7 0 0) 0 0 [.ref (m)] w0 (fun r w => r = oFault tf tn ∧ XWp g m at_ an ar au adu ak adk as_ ao ado v us ks tf tn s w) := by
  obtain ⟨t, u, sz, tp, uvs, kz, kp, kvs, oP, oB, oL, oC, oD, oZ, oM, ovs, hI, rfl⟩ := h
  exact ct_X5_fault l g m at_ an ar au adu ak adk as_ ao ado t v u sz tp uvs kz kp kvs s oP oB oL oC oD oZ oM ovs us ks tf tn hI 
theorem cw_X5_lay (h : XWp g m at_ an ar au adu ak adk as_ ao ado v us ks tf tn s w0)  : kMi l g yX5_lay cX5_lay 1 .int (kw_rm 7 0 0) 0 0 [.ref (m)] w0 (fun r w => r = layR tf tn ∧ XWp g m at_ an ar au adu ak adk as_ ao ado (layV tf tn v) (layL tf tn us) (layL tf tn ks) tf tn (layS tf tn s) w) := by
  obtain ⟨t, u, sz, tp, uvs, kz, kp, kvs, oP, oB, oL, oC, oD, oZ, oM, ovs, hI, rfl⟩ := h
  exact ct_X5_lay l g m at_ an ar au adu ak adk as_ ao ado t v u sz tp uvs kz kp kvs s oP oB oL oC oD oZ oM ovs us ks tf tn hI 
theorem cw_X5_person (h : XWp g m at_ an ar au adu ak adk as_ ao ado v us ks tf tn s w0) (p wt : Int32) : kMi l g yX5_person cX5_person 3 .int (kw_rm 4 0 0) 0 0 [.ref (m), .int (p), .int (wt)] w0 (fun r w => r = oPerson v p wt ∧ XWp g m at_ an ar au adu ak adk as_ ao ado v us ks tf tn s w) := by
  obtain ⟨t, u, sz, tp, uvs, kz, kp, kvs, oP, oB, oL, oC, oD, oZ, oM, ovs, hI, rfl⟩ := h
  exact ct_X5_person l g m at_ an ar au adu ak adk as_ ao ado t v u sz tp uvs kz kp kvs s oP oB oL oC oD oZ oM ovs us ks tf tn hI p wt
theorem cw_X5_tie (h : XWp g m at_ an ar au adu ak adk as_ ao ado v us ks tf tn s w0) (i j : Int32) : kMi l g yX5_tie cX5_tie 3 .int (kw_rm 3 0 0) 0 0 [.ref (m), .int (i), .int (j)] w0 (fun r w => r = oTieOf v i j ∧ XWp g m at_ an ar au adu ak adk as_ ao ado v us ks tf tn s w) := by
  obtain ⟨t, u, sz, tp, uvs, kz, kp, kvs, oP, oB, oL, oC, oD, oZ, oM, ovs, hI, rfl⟩ := h
  exact ct_X5_tie l g m at_ an ar au adu ak adk as_ ao ado t v u sz tp uvs kz kp kvs s oP oB oL oC oD oZ oM ovs us ks tf tn hI i j
theorem cw_X5_owes (h : XWp g m at_ an ar au adu ak adk as_ ao ado v us ks tf tn s w0) (i j : Int32) : kMi l g yX5_owes cX5_owes 3 .int (kw_rm 3 0 0) 0 0 [.ref (m), .int (i), .int (j)] w0 (fun r w => r = oOwes v i j ∧ XWp g m at_ an ar au adu ak adk as_ ao ado v us ks tf tn s w) := by
  obtain ⟨t, u, sz, tp, uvs, kz, kp, kvs, oP, oB, oL, oC, oD, oZ, oM, ovs, hI, rfl⟩ := h
  exact ct_X5_owes l g m at_ an ar au adu ak adk as_ ao ado t v u sz tp uvs kz kp kvs s oP oB oL oC oD oZ oM ovs us ks tf tn hI i j
theorem cw_X5_trial (h : XWp g m at_ an ar au adu ak adk as_ ao ado v us ks tf tn s w0) (p b c : Int32) : kMi l g yX5_trial cX5_trial 4 .int (kw_rm 6 0 0) 0 0 [.ref (m), .int (p), .int (b), .int (c)] w0 (fun r w => r = (oTrial v p b c).1 ∧ XWp g m at_ an ar au adu ak adk as_ ao ado (pv v (oTrial v p b c).2) (pu v us (oTrial v p b c).2) ks tf tn s w) := by
  obtain ⟨t, u, sz, tp, uvs, kz, kp, kvs, oP, oB, oL, oC, oD, oZ, oM, ovs, hI, rfl⟩ := h
  exact ct_X5_trial l g m at_ an ar au adu ak adk as_ ao ado t v u sz tp uvs kz kp kvs s oP oB oL oC oD oZ oM ovs us ks tf tn hI p b c
theorem cw_X5_gift (h : XWp g m at_ an ar au adu ak adk as_ ao ado v us ks tf tn s w0) (i j : Int32) : kMi l g yX5_gift cX5_gift 3 .int (kw_rm 5 0 0) 0 0 [.ref (m), .int (i), .int (j)] w0 (fun r w => r = (oGift v i j).1 ∧ XWp g m at_ an ar au adu ak adk as_ ao ado (pv v (oGift v i j).2) (pu v us (oGift v i j).2) ks tf tn s w) := by
  obtain ⟨t, u, sz, tp, uvs, kz, kp, kvs, oP, oB, oL, oC, oD, oZ, oM, ovs, hI, rfl⟩ := h
  exact ct_X5_gift l g m at_ an ar au adu ak adk as_ ao ado t v u sz tp uvs kz kp kvs s oP oB oL oC oD oZ oM ovs us ks tf tn hI i j
theorem cw_X5_pay (h : XWp g m at_ an ar au adu ak adk as_ ao ado v us ks tf tn s w0) (i j : Int32) : kMi l g yX5_pay cX5_pay 4 .int (kw_rm 4 0 0) 0 0 [.ref (m), .int (i), .int (j)] w0 (fun r w => r = (oPay v i j).1 ∧ XWp g m at_ an ar au adu ak adk as_ ao ado (pv v (oPay v i j).2) (pu v us (oPay v i j).2) ks tf tn s w) := by
  obtain ⟨t, u, sz, tp, uvs, kz, kp, kvs, oP, oB, oL, oC, oD, oZ, oM, ovs, hI, rfl⟩ := h
  exact ct_X5_pay l g m at_ an ar au adu ak adk as_ ao ado t v u sz tp uvs kz kp kvs s oP oB oL oC oD oZ oM ovs us ks tf tn hI i j
theorem cw_X5_die (h : XWp g m at_ an ar au adu ak adk as_ ao ado v us ks tf tn s w0) (p : Int32) : kMi l g yX5_die cX5_die 2 .int (kw_rm 5 0 0) 0 0 [.ref (m), .int (p)] w0 (fun r w => r = (oDie v p).1 ∧ XWp g m at_ an ar au adu ak adk as_ ao ado (pv v (oDie v p).2) (pu v us (oDie v p).2) ks tf tn s w) := by
  obtain ⟨t, u, sz, tp, uvs, kz, kp, kvs, oP, oB, oL, oC, oD, oZ, oM, ovs, hI, rfl⟩ := h
  exact ct_X5_die l g m at_ an ar au adu ak adk as_ ao ado t v u sz tp uvs kz kp kvs s oP oB oL oC oD oZ oM ovs us ks tf tn hI p
theorem cw_X5_pass (h : XWp g m at_ an ar au adu ak adk as_ ao ado v us ks tf tn s w0) (p : Int32) : kMi l g yX5_pass cX5_pass 2 .int (kw_rm 3 0 0) 0 0 [.ref (m), .int (p)] w0 (fun r w => r = (oPass v p).1 ∧ XWp g m at_ an ar au adu ak adk as_ ao ado (pv v (oPass v p).2) (pu v us (oPass v p).2) ks tf tn s w) := by
  obtain ⟨t, u, sz, tp, uvs, kz, kp, kvs, oP, oB, oL, oC, oD, oZ, oM, ovs, hI, rfl⟩ := h
  exact ct_X5_pass l g m at_ an ar au adu ak adk as_ ao ado t v u sz tp uvs kz kp kvs s oP oB oL oC oD oZ oM ovs us ks tf tn hI p
theorem cw_X5_undo (h : XWp g m at_ an ar au adu ak adk as_ ao ado v us ks tf tn s w0)  : kMi l g yX5_undo cX5_undo 1 .int (kw_rm 3 0 0) 0 0 [.ref (m)] w0 (fun r w => r = uR us ∧ XWp g m at_ an ar au adu ak adk as_ ao ado (uV v us) us.tail ks tf tn s w) := by
  obtain ⟨t, u, sz, tp, uvs, kz, kp, kvs, oP, oB, oL, oC, oD, oZ, oM, ovs, hI, rfl⟩ := h
  exact ct_X5_undo l g m at_ an ar au adu ak adk as_ ao ado t v u sz tp uvs kz kp kvs s oP oB oL oC oD oZ oM ovs us ks tf tn hI 
theorem cw_X5_come (h : XWp g m at_ an ar au adu ak adk as_ ao ado v us ks tf tn s w0) (p b c wt : Int32) : kMi l g yX5_come cX5_come 6 .int (kw_rm 5 0 0) 0 0 [.ref (m), .int (p), .int (b), .int (c), .int (wt)] w0 (fun r w => r = oCome v p b c wt ∧ XWp g m at_ an ar au adu ak adk as_ ao ado v us ks tf tn s w) := by
  obtain ⟨t, u, sz, tp, uvs, kz, kp, kvs, oP, oB, oL, oC, oD, oZ, oM, ovs, hI, rfl⟩ := h
  exact ct_X5_come l g m at_ an ar au adu ak adk as_ ao ado t v u sz tp uvs kz kp kvs s oP oB oL oC oD oZ oM ovs us ks tf tn hI p b c wt
theorem cw_X5_cheapest (h : XWp g m at_ an ar au adu ak adk as_ ao ado v us ks tf tn s w0) (p st mm : Int32) : kMi l g yX5_cheapest cX5_cheapest 10 .int (kw_rm 5 0 0) 0 0 [.ref (m), .int (p), .int (st), .int (mm)] w0 (fun r w => r = oCheap v p st mm ∧ XWp g m at_ an ar au adu ak adk as_ ao ado v us ks tf tn s w) := by
  obtain ⟨t, u, sz, tp, uvs, kz, kp, kvs, oP, oB, oL, oC, oD, oZ, oM, ovs, hI, rfl⟩ := h
  exact ct_X5_cheapest l g m at_ an ar au adu ak adk as_ ao ado t v u sz tp uvs kz kp kvs s oP oB oL oC oD oZ oM ovs us ks tf tn hI p st mm
theorem cw_X5_gifts (h : XWp g m at_ an ar au adu ak adk as_ ao ado v us ks tf tn s w0) (p st b c : Int32) : kMi l g yX5_gifts cX5_gifts 8 .int (kw_rm 5 0 0) 0 0 [.ref (m), .int (p), .int (st), .int (b), .int (c)] w0 (fun r w => r = oGifts v p st b c ∧ XWp g m at_ an ar au adu ak adk as_ ao ado v us ks tf tn s w) := by
  obtain ⟨t, u, sz, tp, uvs, kz, kp, kvs, oP, oB, oL, oC, oD, oZ, oM, ovs, hI, rfl⟩ := h
  exact ct_X5_gifts l g m at_ an ar au adu ak adk as_ ao ado t v u sz tp uvs kz kp kvs s oP oB oL oC oD oZ oM ovs us ks tf tn hI p st b c
theorem cw_X5_order (h : XWp g m at_ an ar au adu ak adk as_ ao ado v us ks tf tn s w0) (b c k : Int32) : kMi l g yX5_order cX5_order 4 .int (kw_rm 14 0 0) 0 0 [.ref (m), .int (b), .int (c), .int (k)] w0 (fun r w => r = oOrder v b c k ∧ XWp g m at_ an ar au adu ak adk as_ ao ado v us ks tf tn s w) := by
  obtain ⟨t, u, sz, tp, uvs, kz, kp, kvs, oP, oB, oL, oC, oD, oZ, oM, ovs, hI, rfl⟩ := h
  exact ct_X5_order l g m at_ an ar au adu ak adk as_ ao ado t v u sz tp uvs kz kp kvs s oP oB oL oC oD oZ oM ovs us ks tf tn hI b c k
theorem cw_X5_mutual (h : XWp g m at_ an ar au adu ak adk as_ ao ado v us ks tf tn s w0) (i j mm : Int32) : kMi l g yX5_mutual cX5_mutual 7 .int (kw_rm 8 0 0) 0 0 [.ref (m), .int (i), .int (j), .int (mm)] w0 (fun r w => r = oMut v i j mm ∧ XWp g m at_ an ar au adu ak adk as_ ao ado v us ks tf tn s w) := by
  obtain ⟨t, u, sz, tp, uvs, kz, kp, kvs, oP, oB, oL, oC, oD, oZ, oM, ovs, hI, rfl⟩ := h
  exact ct_X5_mutual l g m at_ an ar au adu ak adk as_ ao ado t v u sz tp uvs kz kp kvs s oP oB oL oC oD oZ oM ovs us ks tf tn hI i j mm
theorem cw_X5_see (h : XWp g m at_ an ar au adu ak adk as_ ao ado v us ks tf tn s w0) (i p b c : Int32) (mb : Bool) : kMi l g yX5_see cX5_see 6 .int (kw_rm 3 0 0) 0 0 [.ref (m), .int (i), .int (p), .int (b), .int (c), .int (zI (mb))] w0 (fun r w => r = oSeeR v i p b c s ∧ XWp g m at_ an ar au adu ak adk as_ ao ado v us ks tf tn (oSeeS v i p b c mb s) w) := by
  obtain ⟨t, u, sz, tp, uvs, kz, kp, kvs, oP, oB, oL, oC, oD, oZ, oM, ovs, hI, rfl⟩ := h
  exact ct_X5_see l g m at_ an ar au adu ak adk as_ ao ado t v u sz tp uvs kz kp kvs s oP oB oL oC oD oZ oM ovs us ks tf tn hI i p b c mb
theorem cw_X5_forget (h : XWp g m at_ an ar au adu ak adk as_ ao ado v us ks tf tn s w0)  : kMi l g yX5_forget cX5_forget 2 .int (kw_rm 1 0 0) 0 0 [.ref (m)] w0 (fun r w => r = nI (sSize s) ∧ XWp g m at_ an ar au adu ak adk as_ ao ado v us ks tf tn (sSz s 0) w) := by
  obtain ⟨t, u, sz, tp, uvs, kz, kp, kvs, oP, oB, oL, oC, oD, oZ, oM, ovs, hI, rfl⟩ := h
  exact ct_X5_forget l g m at_ an ar au adu ak adk as_ ao ado t v u sz tp uvs kz kp kvs s oP oB oL oC oD oZ oM ovs us ks tf tn hI 
theorem cw_X5_felt (h : XWp g m at_ an ar au adu ak adk as_ ao ado v us ks tf tn s w0) (i p : Int32) : kMi l g yX5_felt cX5_felt 3 .int (kw_rm 7 0 0) 0 0 [.ref (m), .int (i), .int (p)] w0 (fun r w => r = oFelt v i p s ∧ XWp g m at_ an ar au adu ak adk as_ ao ado v us ks tf tn s w) := by
  obtain ⟨t, u, sz, tp, uvs, kz, kp, kvs, oP, oB, oL, oC, oD, oZ, oM, ovs, hI, rfl⟩ := h
  exact ct_X5_felt l g m at_ an ar au adu ak adk as_ ao ado t v u sz tp uvs kz kp kvs s oP oB oL oC oD oZ oM ovs us ks tf tn hI i p
theorem cw_X5_kinds (h : XWp g m at_ an ar au adu ak adk as_ ao ado v us ks tf tn s w0) (i : Int32) : kMi l g yX5_kinds cX5_kinds 2 .int (kw_rm 7 0 0) 0 0 [.ref (m), .int (i)] w0 (fun r w => r = oKinds v i s ∧ XWp g m at_ an ar au adu ak adk as_ ao ado v us ks tf tn s w) := by
  obtain ⟨t, u, sz, tp, uvs, kz, kp, kvs, oP, oB, oL, oC, oD, oZ, oM, ovs, hI, rfl⟩ := h
  exact ct_X5_kinds l g m at_ an ar au adu ak adk as_ ao ado t v u sz tp uvs kz kp kvs s oP oB oL oC oD oZ oM ovs us ks tf tn hI i
theorem cw_X5_rain (h : XWp g m at_ an ar au adu ak adk as_ ao ado v us ks tf tn s w0) (p b c n x_ mm : Int32) : kMi l g yX5_rain cX5_rain 11 .int (kw_rm 5 0 0) 0 0 [.ref (m), .int (p), .int (b), .int (c), .int (n), .int (x_), .int (mm)] w0 (fun r w => r = oRain v p b c n x_ mm ∧ XWp g m at_ an ar au adu ak adk as_ ao ado v us ks tf tn s w) := by
  obtain ⟨t, u, sz, tp, uvs, kz, kp, kvs, oP, oB, oL, oC, oD, oZ, oM, ovs, hI, rfl⟩ := h
  exact ct_X5_rain l g m at_ an ar au adu ak adk as_ ao ado t v u sz tp uvs kz kp kvs s oP oB oL oC oD oZ oM ovs us ks tf tn hI p b c n x_ mm
theorem cw_X5_year (h : XWp g m at_ an ar au adu ak adk as_ ao ado v us ks tf tn s w0) (z_ n mm : Int32) : kMi l g yX5_year cX5_year 6 .int (kw_rm 7 0 0) 0 0 [.ref (m), .int (z_), .int (n), .int (mm)] w0 (fun r w => r = oYear v z_ n mm ∧ XWp g m at_ an ar au adu ak adk as_ ao ado v us ks tf tn s w) := by
  obtain ⟨t, u, sz, tp, uvs, kz, kp, kvs, oP, oB, oL, oC, oD, oZ, oM, ovs, hI, rfl⟩ := h
  exact ct_X5_year l g m at_ an ar au adu ak adk as_ ao ado t v u sz tp uvs kz kp kvs s oP oB oL oC oD oZ oM ovs us ks tf tn hI z_ n mm
theorem cw_X5_keep (h : XWp g m at_ an ar au adu ak adk as_ ao ado v us ks tf tn s w0)  : kMi l g yX5_keep cX5_keep 1 .int (kw_rm 3 0 0) 0 0 [.ref (m)] w0 (fun r w => r = kR ks ∧ XWp g m at_ an ar au adu ak adk as_ ao ado v us (kK v ks) tf tn s w) := by
  obtain ⟨t, u, sz, tp, uvs, kz, kp, kvs, oP, oB, oL, oC, oD, oZ, oM, ovs, hI, rfl⟩ := h
  exact ct_X5_keep l g m at_ an ar au adu ak adk as_ ao ado t v u sz tp uvs kz kp kvs s oP oB oL oC oD oZ oM ovs us ks tf tn hI 
theorem cw_X5_back (h : XWp g m at_ an ar au adu ak adk as_ ao ado v us ks tf tn s w0)  : kMi l g yX5_back cX5_back 1 .int (kw_rm 3 0 0) 0 0 [.ref (m)] w0 (fun r w => r = uR ks ∧ XWp g m at_ an ar au adu ak adk as_ ao ado (uV v ks) (bU us ks) ks.tail tf tn s w) := by
  obtain ⟨t, u, sz, tp, uvs, kz, kp, kvs, oP, oB, oL, oC, oD, oZ, oM, ovs, hI, rfl⟩ := h
  exact ct_X5_back l g m at_ an ar au adu ak adk as_ ao ado t v u sz tp uvs kz kp kvs s oP oB oL oC oD oZ oM ovs us ks tf tn hI 
theorem cw_X5_count (h : XWp g m at_ an ar au adu ak adk as_ ao ado v us ks tf tn s w0) (mt : Int32) : kMi l g yX5_count cX5_count 2 .int (kw_rm 2 0 0) 0 0 [.ref (m), .int (mt)] w0 (fun r w => r = oCount v us ks tn s mt ∧ XWp g m at_ an ar au adu ak adk as_ ao ado v us ks tf tn s w) := by
  obtain ⟨t, u, sz, tp, uvs, kz, kp, kvs, oP, oB, oL, oC, oD, oZ, oM, ovs, hI, rfl⟩ := h
  exact ct_X5_count l g m at_ an ar au adu ak adk as_ ao ado t v u sz tp uvs kz kp kvs s oP oB oL oC oD oZ oM ovs us ks tf tn hI mt
end CW5
section CW6
variable {l : Launch} {g : kw_G} {a : Nat → Nat} {v : VS} {us ks : List VS} {tf : Nat → Nat} {tn : Nat} {s : SS} {w0 : va_W}
theorem RWp.at0 (h : RWp g a v us ks tf tn s w0) : ∃ fs, w0[0]? = some (a 0, .inr (6, fs)) := by
  obtain ⟨pe, so, ag, fr, np, ns, na, nf, sl, ac, ke, le, tx, ap, bg, wr, se, wh, wo, bl, ck, sw, ma, ro, bs, hR, rfl⟩ := h
  exact ⟨_, rfl⟩
theorem cw_X6_write (h : RWp g a v us ks tf tn s w0) (x_ : Int32) : kMi l g yX6_write cX6_write 2 .int (kw_rm 2 0 0) 0 0 [.ref (a 0), .int (x_)] w0 (fun r w => r = oWr x_ tn ∧ RWp g a v us ks (oWrT x_ tn tf) (oWrN x_ tn) s w) := by
  obtain ⟨pe, so, ag, fr, np, ns, na, nf, sl, ac, ke, le, tx, ap, bg, wr, se, wh, wo, bl, ck, sw, ma, ro, bs, hR, rfl⟩ := h
  have e1 : pe = vN v := hR.2.1.1.1
  have e2 : fr = vG v := hR.2.1.1.2.1
  subst e1 e2
  exact ct_X6_write l g a so ag np ns na nf sl ac ke le tx ap bg wr se wh wo bl ck sw ma ro bs v us ks tf tn s hR x_
theorem cw_X6_wipe (h : RWp g a v us ks tf tn s w0)  : kMi l g yX6_wipe cX6_wipe 2 .int (kw_rm 1 0 0) 0 0 [.ref (a 0)] w0 (fun r w => r = nI tn ∧ RWp g a v us ks tf 0 s w) := by
  obtain ⟨pe, so, ag, fr, np, ns, na, nf, sl, ac, ke, le, tx, ap, bg, wr, se, wh, wo, bl, ck, sw, ma, ro, bs, hR, rfl⟩ := h
  have e1 : pe = vN v := hR.2.1.1.1
  have e2 : fr = vG v := hR.2.1.1.2.1
  subst e1 e2
  exact ct_X6_wipe l g a so ag np ns na nf sl ac ke le tx ap bg wr se wh wo bl ck sw ma ro bs v us ks tf tn s hR 
theorem cw_X6_fault (h : RWp g a v us ks tf tn s w0)  : kMi l g yX6_fault cX6_fault 1 .int (kw_rm 6 0 0) 0 0 [.ref (a 0)] w0 (fun r w => r = oFault tf tn ∧ RWp g a v us ks tf tn s w) := by
  obtain ⟨pe, so, ag, fr, np, ns, na, nf, sl, ac, ke, le, tx, ap, bg, wr, se, wh, wo, bl, ck, sw, ma, ro, bs, hR, rfl⟩ := h
  have e1 : pe = vN v := hR.2.1.1.1
  have e2 : fr = vG v := hR.2.1.1.2.1
  subst e1 e2
  exact ct_X6_fault l g a so ag np ns na nf sl ac ke le tx ap bg wr se wh wo bl ck sw ma ro bs v us ks tf tn s hR 
theorem cw_X6_lay (h : RWp g a v us ks tf tn s w0)  : kMi l g yX6_lay cX6_lay 1 .int (kw_rm 6 0 0) 0 0 [.ref (a 0)] w0 (fun r w => r = layR tf tn ∧ RWp g a (layV tf tn v) (layL tf tn us) (layL tf tn ks) tf tn (layS tf tn s) w) := by
  obtain ⟨pe, so, ag, fr, np, ns, na, nf, sl, ac, ke, le, tx, ap, bg, wr, se, wh, wo, bl, ck, sw, ma, ro, bs, hR, rfl⟩ := h
  have e1 : pe = vN v := hR.2.1.1.1
  have e2 : fr = vG v := hR.2.1.1.2.1
  subst e1 e2
  exact ct_X6_lay l g a so ag np ns na nf sl ac ke le tx ap bg wr se wh wo bl ck sw ma ro bs v us ks tf tn s hR 
theorem cw_X6_person (h : RWp g a v us ks tf tn s w0) (p wt : Int32) : kMi l g yX6_person cX6_person 3 .int (kw_rm 4 0 0) 0 0 [.ref (a 0), .int (p), .int (wt)] w0 (fun r w => r = oPerson v p wt ∧ RWp g a v us ks tf tn s w) := by
  obtain ⟨pe, so, ag, fr, np, ns, na, nf, sl, ac, ke, le, tx, ap, bg, wr, se, wh, wo, bl, ck, sw, ma, ro, bs, hR, rfl⟩ := h
  have e1 : pe = vN v := hR.2.1.1.1
  have e2 : fr = vG v := hR.2.1.1.2.1
  subst e1 e2
  exact ct_X6_person l g a so ag np ns na nf sl ac ke le tx ap bg wr se wh wo bl ck sw ma ro bs v us ks tf tn s hR p wt
theorem cw_X6_tie (h : RWp g a v us ks tf tn s w0) (i j : Int32) : kMi l g yX6_tie cX6_tie 3 .int (kw_rm 4 0 0) 0 0 [.ref (a 0), .int (i), .int (j)] w0 (fun r w => r = oTieOf v i j ∧ RWp g a v us ks tf tn s w) := by
  obtain ⟨pe, so, ag, fr, np, ns, na, nf, sl, ac, ke, le, tx, ap, bg, wr, se, wh, wo, bl, ck, sw, ma, ro, bs, hR, rfl⟩ := h
  have e1 : pe = vN v := hR.2.1.1.1
  have e2 : fr = vG v := hR.2.1.1.2.1
  subst e1 e2
  exact ct_X6_tie l g a so ag np ns na nf sl ac ke le tx ap bg wr se wh wo bl ck sw ma ro bs v us ks tf tn s hR i j
theorem cw_X6_owes (h : RWp g a v us ks tf tn s w0) (i j : Int32) : kMi l g yX6_owes cX6_owes 3 .int (kw_rm 4 0 0) 0 0 [.ref (a 0), .int (i), .int (j)] w0 (fun r w => r = oOwes v i j ∧ RWp g a v us ks tf tn s w) := by
  obtain ⟨pe, so, ag, fr, np, ns, na, nf, sl, ac, ke, le, tx, ap, bg, wr, se, wh, wo, bl, ck, sw, ma, ro, bs, hR, rfl⟩ := h
  have e1 : pe = vN v := hR.2.1.1.1
  have e2 : fr = vG v := hR.2.1.1.2.1
  subst e1 e2
  exact ct_X6_owes l g a so ag np ns na nf sl ac ke le tx ap bg wr se wh wo bl ck sw ma ro bs v us ks tf tn s hR i j
theorem cw_X6_trial (h : RWp g a v us ks tf tn s w0) (p b c : Int32) : kMi l g yX6_trial cX6_trial 4 .int (kw_rm 6 0 0) 0 0 [.ref (a 0), .int (p), .int (b), .int (c)] w0 (fun r w => r = (oTrial v p b c).1 ∧ RWp g a (pv v (oTrial v p b c).2) (pu v us (oTrial v p b c).2) ks tf tn s w) := by
  obtain ⟨pe, so, ag, fr, np, ns, na, nf, sl, ac, ke, le, tx, ap, bg, wr, se, wh, wo, bl, ck, sw, ma, ro, bs, hR, rfl⟩ := h
  have e1 : pe = vN v := hR.2.1.1.1
  have e2 : fr = vG v := hR.2.1.1.2.1
  subst e1 e2
  exact ct_X6_trial l g a so ag np ns na nf sl ac ke le tx ap bg wr se wh wo bl ck sw ma ro bs v us ks tf tn s hR p b c
theorem cw_X6_gift (h : RWp g a v us ks tf tn s w0) (i j : Int32) : kMi l g yX6_gift cX6_gift 3 .int (kw_rm 4 0 0) 0 0 [.ref (a 0), .int (i), .int (j)] w0 (fun r w => r = (oGift v i j).1 ∧ RWp g a (pv v (oGift v i j).2) (pu v us (oGift v i j).2) ks tf tn s w) := by
  obtain ⟨pe, so, ag, fr, np, ns, na, nf, sl, ac, ke, le, tx, ap, bg, wr, se, wh, wo, bl, ck, sw, ma, ro, bs, hR, rfl⟩ := h
  have e1 : pe = vN v := hR.2.1.1.1
  have e2 : fr = vG v := hR.2.1.1.2.1
  subst e1 e2
  exact ct_X6_gift l g a so ag np ns na nf sl ac ke le tx ap bg wr se wh wo bl ck sw ma ro bs v us ks tf tn s hR i j
theorem cw_X6_pay (h : RWp g a v us ks tf tn s w0) (i j : Int32) : kMi l g yX6_pay cX6_pay 3 .int (kw_rm 4 0 0) 0 0 [.ref (a 0), .int (i), .int (j)] w0 (fun r w => r = (oPay v i j).1 ∧ RWp g a (pv v (oPay v i j).2) (pu v us (oPay v i j).2) ks tf tn s w) := by
  obtain ⟨pe, so, ag, fr, np, ns, na, nf, sl, ac, ke, le, tx, ap, bg, wr, se, wh, wo, bl, ck, sw, ma, ro, bs, hR, rfl⟩ := h
  have e1 : pe = vN v := hR.2.1.1.1
  have e2 : fr = vG v := hR.2.1.1.2.1
  subst e1 e2
  exact ct_X6_pay l g a so ag np ns na nf sl ac ke le tx ap bg wr se wh wo bl ck sw ma ro bs v us ks tf tn s hR i j
theorem cw_X6_die (h : RWp g a v us ks tf tn s w0) (p : Int32) : kMi l g yX6_die cX6_die 4 .int (kw_rm 4 0 0) 0 0 [.ref (a 0), .int (p)] w0 (fun r w => r = (oDie v p).1 ∧ RWp g a (pv v (oDie v p).2) (pu v us (oDie v p).2) ks tf tn s w) := by
  obtain ⟨pe, so, ag, fr, np, ns, na, nf, sl, ac, ke, le, tx, ap, bg, wr, se, wh, wo, bl, ck, sw, ma, ro, bs, hR, rfl⟩ := h
  have e1 : pe = vN v := hR.2.1.1.1
  have e2 : fr = vG v := hR.2.1.1.2.1
  subst e1 e2
  exact ct_X6_die l g a so ag np ns na nf sl ac ke le tx ap bg wr se wh wo bl ck sw ma ro bs v us ks tf tn s hR p
theorem cw_X6_pass (h : RWp g a v us ks tf tn s w0) (p : Int32) : kMi l g yX6_pass cX6_pass 2 .int (kw_rm 3 0 0) 0 0 [.ref (a 0), .int (p)] w0 (fun r w => r = (oPass v p).1 ∧ RWp g a (pv v (oPass v p).2) (pu v us (oPass v p).2) ks tf tn s w) := by
  obtain ⟨pe, so, ag, fr, np, ns, na, nf, sl, ac, ke, le, tx, ap, bg, wr, se, wh, wo, bl, ck, sw, ma, ro, bs, hR, rfl⟩ := h
  have e1 : pe = vN v := hR.2.1.1.1
  have e2 : fr = vG v := hR.2.1.1.2.1
  subst e1 e2
  exact ct_X6_pass l g a so ag np ns na nf sl ac ke le tx ap bg wr se wh wo bl ck sw ma ro bs v us ks tf tn s hR p
theorem cw_X6_undo (h : RWp g a v us ks tf tn s w0)  : kMi l g yX6_undo cX6_undo 1 .int (kw_rm 2 0 0) 0 0 [.ref (a 0)] w0 (fun r w => r = uR us ∧ RWp g a (uV v us) us.tail ks tf tn s w) := by
  obtain ⟨pe, so, ag, fr, np, ns, na, nf, sl, ac, ke, le, tx, ap, bg, wr, se, wh, wo, bl, ck, sw, ma, ro, bs, hR, rfl⟩ := h
  have e1 : pe = vN v := hR.2.1.1.1
  have e2 : fr = vG v := hR.2.1.1.2.1
  subst e1 e2
  exact ct_X6_undo l g a so ag np ns na nf sl ac ke le tx ap bg wr se wh wo bl ck sw ma ro bs v us ks tf tn s hR 
theorem cw_X6_come (h : RWp g a v us ks tf tn s w0) (p b c wt : Int32) : kMi l g yX6_come cX6_come 6 .int (kw_rm 5 0 0) 0 0 [.ref (a 0), .int (p), .int (b), .int (c), .int (wt)] w0 (fun r w => r = oCome v p b c wt ∧ RWp g a v us ks tf tn s w) := by
  obtain ⟨pe, so, ag, fr, np, ns, na, nf, sl, ac, ke, le, tx, ap, bg, wr, se, wh, wo, bl, ck, sw, ma, ro, bs, hR, rfl⟩ := h
  have e1 : pe = vN v := hR.2.1.1.1
  have e2 : fr = vG v := hR.2.1.1.2.1
  subst e1 e2
  exact ct_X6_come l g a so ag np ns na nf sl ac ke le tx ap bg wr se wh wo bl ck sw ma ro bs v us ks tf tn s hR p b c wt
theorem cw_X6_cheapest (h : RWp g a v us ks tf tn s w0) (p st m : Int32) : kMi l g yX6_cheapest cX6_cheapest 10 .int (kw_rm 5 0 0) 0 0 [.ref (a 0), .int (p), .int (st), .int (m)] w0 (fun r w => r = oCheap v p st m ∧ RWp g a v us ks tf tn s w) := by
  obtain ⟨pe, so, ag, fr, np, ns, na, nf, sl, ac, ke, le, tx, ap, bg, wr, se, wh, wo, bl, ck, sw, ma, ro, bs, hR, rfl⟩ := h
  have e1 : pe = vN v := hR.2.1.1.1
  have e2 : fr = vG v := hR.2.1.1.2.1
  subst e1 e2
  exact ct_X6_cheapest l g a so ag np ns na nf sl ac ke le tx ap bg wr se wh wo bl ck sw ma ro bs v us ks tf tn s hR p st m
theorem cw_X6_gifts (h : RWp g a v us ks tf tn s w0) (p st b c : Int32) : kMi l g yX6_gifts cX6_gifts 9 .int (kw_rm 3 0 0) 0 0 [.ref (a 0), .int (p), .int (st), .int (b), .int (c)] w0 (fun r w => r = oGifts v p st b c ∧ RWp g a v us ks tf tn s w) := by
  obtain ⟨pe, so, ag, fr, np, ns, na, nf, sl, ac, ke, le, tx, ap, bg, wr, se, wh, wo, bl, ck, sw, ma, ro, bs, hR, rfl⟩ := h
  have e1 : pe = vN v := hR.2.1.1.1
  have e2 : fr = vG v := hR.2.1.1.2.1
  subst e1 e2
  exact ct_X6_gifts l g a so ag np ns na nf sl ac ke le tx ap bg wr se wh wo bl ck sw ma ro bs v us ks tf tn s hR p st b c
theorem cw_X6_order (h : RWp g a v us ks tf tn s w0) (b c k : Int32) : kMi l g yX6_order cX6_order 8 .int (kw_rm 6 0 0) 0 0 [.ref (a 0), .int (b), .int (c), .int (k)] w0 (fun r w => r = oOrder v b c k ∧ RWp g a v us ks tf tn s w) := by
  obtain ⟨pe, so, ag, fr, np, ns, na, nf, sl, ac, ke, le, tx, ap, bg, wr, se, wh, wo, bl, ck, sw, ma, ro, bs, hR, rfl⟩ := h
  have e1 : pe = vN v := hR.2.1.1.1
  have e2 : fr = vG v := hR.2.1.1.2.1
  subst e1 e2
  exact ct_X6_order l g a so ag np ns na nf sl ac ke le tx ap bg wr se wh wo bl ck sw ma ro bs v us ks tf tn s hR b c k
theorem cw_X6_mutual (h : RWp g a v us ks tf tn s w0) (i j m : Int32) : kMi l g yX6_mutual cX6_mutual 8 .int (kw_rm 6 0 0) 0 0 [.ref (a 0), .int (i), .int (j), .int (m)] w0 (fun r w => r = oMut v i j m ∧ RWp g a v us ks tf tn s w) := by
  obtain ⟨pe, so, ag, fr, np, ns, na, nf, sl, ac, ke, le, tx, ap, bg, wr, se, wh, wo, bl, ck, sw, ma, ro, bs, hR, rfl⟩ := h
  have e1 : pe = vN v := hR.2.1.1.1
  have e2 : fr = vG v := hR.2.1.1.2.1
  subst e1 e2
  exact ct_X6_mutual l g a so ag np ns na nf sl ac ke le tx ap bg wr se wh wo bl ck sw ma ro bs v us ks tf tn s hR i j m
theorem cw_X6_see (h : RWp g a v us ks tf tn s w0) (i p b c : Int32) (m : Bool) : kMi l g yX6_see cX6_see 6 .int (kw_rm 4 0 0) 0 0 [.ref (a 0), .int (i), .int (p), .int (b), .int (c), .int (zI (m))] w0 (fun r w => r = oSeeR v i p b c s ∧ RWp g a v us ks tf tn (oSeeS v i p b c m s) w) := by
  obtain ⟨pe, so, ag, fr, np, ns, na, nf, sl, ac, ke, le, tx, ap, bg, wr, se, wh, wo, bl, ck, sw, ma, ro, bs, hR, rfl⟩ := h
  have e1 : pe = vN v := hR.2.1.1.1
  have e2 : fr = vG v := hR.2.1.1.2.1
  subst e1 e2
  exact ct_X6_see l g a so ag np ns na nf sl ac ke le tx ap bg wr se wh wo bl ck sw ma ro bs v us ks tf tn s hR i p b c m
theorem cw_X6_forget (h : RWp g a v us ks tf tn s w0)  : kMi l g yX6_forget cX6_forget 2 .int (kw_rm 1 0 0) 0 0 [.ref (a 0)] w0 (fun r w => r = nI (sSize s) ∧ RWp g a v us ks tf tn (sSz s 0) w) := by
  obtain ⟨pe, so, ag, fr, np, ns, na, nf, sl, ac, ke, le, tx, ap, bg, wr, se, wh, wo, bl, ck, sw, ma, ro, bs, hR, rfl⟩ := h
  have e1 : pe = vN v := hR.2.1.1.1
  have e2 : fr = vG v := hR.2.1.1.2.1
  subst e1 e2
  exact ct_X6_forget l g a so ag np ns na nf sl ac ke le tx ap bg wr se wh wo bl ck sw ma ro bs v us ks tf tn s hR 
theorem cw_X6_felt (h : RWp g a v us ks tf tn s w0) (i p : Int32) : kMi l g yX6_felt cX6_felt 8 .int (kw_rm 4 0 0) 0 0 [.ref (a 0), .int (i), .int (p)] w0 (fun r w => r = oFelt v i p s ∧ RWp g a v us ks tf tn s w) := by
  obtain ⟨pe, so, ag, fr, np, ns, na, nf, sl, ac, ke, le, tx, ap, bg, wr, se, wh, wo, bl, ck, sw, ma, ro, bs, hR, rfl⟩ := h
  have e1 : pe = vN v := hR.2.1.1.1
  have e2 : fr = vG v := hR.2.1.1.2.1
  subst e1 e2
  exact ct_X6_felt l g a so ag np ns na nf sl ac ke le tx ap bg wr se wh wo bl ck sw ma ro bs v us ks tf tn s hR i p
theorem cw_X6_kinds (h : RWp g a v us ks tf tn s w0) (i : Int32) : kMi l g yX6_kinds cX6_kinds 7 .int (kw_rm 3 0 0) 0 0 [.ref (a 0), .int (i)] w0 (fun r w => r = oKinds v i s ∧ RWp g a v us ks tf tn s w) := by
  obtain ⟨pe, so, ag, fr, np, ns, na, nf, sl, ac, ke, le, tx, ap, bg, wr, se, wh, wo, bl, ck, sw, ma, ro, bs, hR, rfl⟩ := h
  have e1 : pe = vN v := hR.2.1.1.1
  have e2 : fr = vG v := hR.2.1.1.2.1
  subst e1 e2
  exact ct_X6_kinds l g a so ag np ns na nf sl ac ke le tx ap bg wr se wh wo bl ck sw ma ro bs v us ks tf tn s hR i
theorem cw_X6_rain (h : RWp g a v us ks tf tn s w0) (p b c n x_ m : Int32) : kMi l g yX6_rain cX6_rain 13 .int (kw_rm 5 0 0) 0 0 [.ref (a 0), .int (p), .int (b), .int (c), .int (n), .int (x_), .int (m)] w0 (fun r w => r = oRain v p b c n x_ m ∧ RWp g a v us ks tf tn s w) := by
  obtain ⟨pe, so, ag, fr, np, ns, na, nf, sl, ac, ke, le, tx, ap, bg, wr, se, wh, wo, bl, ck, sw, ma, ro, bs, hR, rfl⟩ := h
  have e1 : pe = vN v := hR.2.1.1.1
  have e2 : fr = vG v := hR.2.1.1.2.1
  subst e1 e2
  exact ct_X6_rain l g a so ag np ns na nf sl ac ke le tx ap bg wr se wh wo bl ck sw ma ro bs v us ks tf tn s hR p b c n x_ m
theorem cw_X6_year (h : RWp g a v us ks tf tn s w0) (z_ n m : Int32) : kMi l g yX6_year cX6_year 11 .int (kw_rm 6 0 0) 0 0 [.ref (a 0), .int (z_), .int (n), .int (m)] w0 (fun r w => r = oYear v z_ n m ∧ RWp g a v us ks tf tn s w) := by
  obtain ⟨pe, so, ag, fr, np, ns, na, nf, sl, ac, ke, le, tx, ap, bg, wr, se, wh, wo, bl, ck, sw, ma, ro, bs, hR, rfl⟩ := h
  have e1 : pe = vN v := hR.2.1.1.1
  have e2 : fr = vG v := hR.2.1.1.2.1
  subst e1 e2
  exact ct_X6_year l g a so ag np ns na nf sl ac ke le tx ap bg wr se wh wo bl ck sw ma ro bs v us ks tf tn s hR z_ n m
theorem cw_X6_keep (h : RWp g a v us ks tf tn s w0)  : kMi l g yX6_keep cX6_keep 1 .int (kw_rm 2 0 0) 0 0 [.ref (a 0)] w0 (fun r w => r = kR ks ∧ RWp g a v us (kK v ks) tf tn s w) := by
  obtain ⟨pe, so, ag, fr, np, ns, na, nf, sl, ac, ke, le, tx, ap, bg, wr, se, wh, wo, bl, ck, sw, ma, ro, bs, hR, rfl⟩ := h
  have e1 : pe = vN v := hR.2.1.1.1
  have e2 : fr = vG v := hR.2.1.1.2.1
  subst e1 e2
  exact ct_X6_keep l g a so ag np ns na nf sl ac ke le tx ap bg wr se wh wo bl ck sw ma ro bs v us ks tf tn s hR 
theorem cw_X6_back (h : RWp g a v us ks tf tn s w0)  : kMi l g yX6_back cX6_back 1 .int (kw_rm 2 0 0) 0 0 [.ref (a 0)] w0 (fun r w => r = uR ks ∧ RWp g a (uV v ks) (bU us ks) ks.tail tf tn s w) := by
  obtain ⟨pe, so, ag, fr, np, ns, na, nf, sl, ac, ke, le, tx, ap, bg, wr, se, wh, wo, bl, ck, sw, ma, ro, bs, hR, rfl⟩ := h
  have e1 : pe = vN v := hR.2.1.1.1
  have e2 : fr = vG v := hR.2.1.1.2.1
  subst e1 e2
  exact ct_X6_back l g a so ag np ns na nf sl ac ke le tx ap bg wr se wh wo bl ck sw ma ro bs v us ks tf tn s hR 
theorem cw_X6_count (h : RWp g a v us ks tf tn s w0) (m : Int32) : kMi l g yX6_count cX6_count 2 .int (kw_rm 2 0 0) 0 0 [.ref (a 0), .int (m)] w0 (fun r w => r = oCount v us ks tn s m ∧ RWp g a v us ks tf tn s w) := by
  obtain ⟨pe, so, ag, fr, np, ns, na, nf, sl, ac, ke, le, tx, ap, bg, wr, se, wh, wo, bl, ck, sw, ma, ro, bs, hR, rfl⟩ := h
  have e1 : pe = vN v := hR.2.1.1.1
  have e2 : fr = vG v := hR.2.1.1.2.1
  subst e1 e2
  exact ct_X6_count l g a so ag np ns na nf sl ac ke le tx ap bg wr se wh wo bl ck sw ma ro bs v us ks tf tn s hR m
end CW6
