section LC
variable {x : kw_X} {l : Launch} {g : kw_G} {b L i : Nat} {xs : Nat → Int32} {m : Nat} {at_ an ar au : Nat → Nat} {adu : Nat → Nat → Nat} {ak : Nat → Nat} {adk : Nat → Nat → Nat} {as_ ao : Nat → Nat} {ado : Nat → Nat → Nat} {a : Nat → Nat} {v : VS} {us ks : List VS} {tf : Nat → Nat} {tn : Nat} {s : SS} {w5 w6 : va_W}
def LCg (x : kw_X) (g : kw_G) (b i : Nat) (m : Nat) (at_ an ar au : Nat → Nat) (adu : Nat → Nat → Nat) (ak : Nat → Nat) (adk : Nat → Nat → Nat) (as_ ao : Nat → Nat) (ado : Nat → Nat → Nat) (a : Nat → Nat) : Prop :=
  ∀ (v : VS) (us ks : List VS) (tf : Nat → Nat) (tn : Nat) (s : SS) (w5 w6 : va_W), XWp g m at_ an ar au adu ak adk as_ ao ado v us ks tf tn s w5 → RWp g a v us ks tf tn s w6 → kW x 146 3487 1035 [(0, .ref b), (1, .ref m), (2, .ref (a 0)), (3, .int (nI i))] [] (w5 ++ w6)
set_option maxHeartbeats 4000000 in
set_option maxRecDepth 100000 in
theorem lc_write (X : kX l g RL code 4 room_1 x) (Sc : kScr b L xs x) (hL : L ≤ 3584) (hi : i + 7 ≤ L) (h5 : XWp g m at_ an ar au adu ak adk as_ ao ado v us ks tf tn s w5) (h6 : RWp g a v us ks tf tn s w6) (C : LCg x g b i m at_ an ar au adu ak adk as_ ao ado a) : kW x 146 3487 156 [(0, .ref b), (1, .ref m), (2, .ref (a 0)), (3, .int (nI i))] [] (w5 ++ w6) := by
  obtain ⟨f5, r5⟩ := h5.at0
  obtain ⟨f6, r6⟩ := h6.at0
  refine kb_aload_n X 1 dL_law_156 rfl rfl ?_
  refine kb_aload_n X 0 dL_law_157 rfl rfl ?_
  refine kb_iload_n X 3 dL_law_158 rfl rfl ?_
  refine kb_iconst (v := (1 : Int32)) X dL_law_159 (by decide) ?_
  refine kn_iadd X i 1 dL_law_160 ?_
  refine kl_ld X Sc (i := i + 1) (by omega) (by omega) dL_law_161 ?_
  refine kc_Vi X (As := [.int (xs (i + 1))]) (rest := []) (wr := w6) (cw_X5_write h5 (xs (i + 1))) dL_law_162 rfl (List.Perm.refl _) mc_X5_write kl_L_13 mi_X5_write mv_X5_write kn_X5 0 r5 rfl rfl (na := 1) (by decide +kernel) rfl ⟨Nat.le_of_ble_eq_true rfl, Nat.le_of_ble_eq_true rfl⟩ ⟨rfl, rfl⟩ ⟨Nat.le_of_ble_eq_true rfl, Nat.le_of_ble_eq_true rfl⟩ (Nat.le_of_ble_eq_true rfl) (fun r5_ w5_ hp_ => ?_)
  obtain ⟨e5_, h5_⟩ := hp_
  refine kb_aload_n X 2 dL_law_165 rfl rfl ?_
  refine kb_aload_n X 0 dL_law_166 rfl rfl ?_
  refine kb_iload_n X 3 dL_law_167 rfl rfl ?_
  refine kb_iconst (v := (1 : Int32)) X dL_law_168 (by decide) ?_
  refine kn_iadd X i 1 dL_law_169 ?_
  refine kl_ld X Sc (i := i + 1) (by omega) (by omega) dL_law_170 ?_
  refine kc_Vi X (As := [.int (xs (i + 1))]) (rest := [.int r5_]) (wr := w5_) (cw_X6_write h6 (xs (i + 1))) dL_law_171 rfl List.perm_append_comm mc_X6_write kl_L_17 mi_X6_write mv_X6_write kn_X6 0 r6 rfl rfl (na := 1) (by decide +kernel) rfl ⟨Nat.le_of_ble_eq_true rfl, Nat.le_of_ble_eq_true rfl⟩ ⟨rfl, rfl⟩ ⟨Nat.le_of_ble_eq_true rfl, Nat.le_of_ble_eq_true rfl⟩ (Nat.le_of_ble_eq_true rfl) (fun r6_ w6_ hp_ => ?_)
  obtain ⟨e6_, h6_⟩ := hp_
  refine kw_perm (ws' := w5_ ++ w6_) List.perm_append_comm ?_
  refine kb_icmp_eq (tgt := 1035) X dL_law_174 (by decide) (fun _ => ?_) (fun q_ => absurd (e5_.trans e6_.symm) q_)
  exact C _ _ _ _ _ _ _ _ h5_ h6_
set_option maxHeartbeats 4000000 in
set_option maxRecDepth 100000 in
theorem lc_wipe (X : kX l g RL code 4 room_1 x) (Sc : kScr b L xs x) (hL : L ≤ 3584) (hi : i + 7 ≤ L) (h5 : XWp g m at_ an ar au adu ak adk as_ ao ado v us ks tf tn s w5) (h6 : RWp g a v us ks tf tn s w6) (C : LCg x g b i m at_ an ar au adu ak adk as_ ao ado a) : kW x 146 3487 179 [(0, .ref b), (1, .ref m), (2, .ref (a 0)), (3, .int (nI i))] [] (w5 ++ w6) := by
  obtain ⟨f5, r5⟩ := h5.at0
  obtain ⟨f6, r6⟩ := h6.at0
  refine kb_aload_n X 1 dL_law_179 rfl rfl ?_
  refine kc_Vi X (As := []) (rest := []) (wr := w6) (cw_X5_wipe h5) dL_law_180 rfl (List.Perm.refl _) mc_X5_wipe kl_L_18 mi_X5_wipe mv_X5_wipe kn_X5 0 r5 rfl rfl (na := 0) (by decide +kernel) rfl ⟨Nat.le_of_ble_eq_true rfl, Nat.le_of_ble_eq_true rfl⟩ ⟨rfl, rfl⟩ ⟨Nat.le_of_ble_eq_true rfl, Nat.le_of_ble_eq_true rfl⟩ (Nat.le_of_ble_eq_true rfl) (fun r5_ w5_ hp_ => ?_)
  obtain ⟨e5_, h5_⟩ := hp_
  refine kb_aload_n X 2 dL_law_183 rfl rfl ?_
  refine kc_Vi X (As := []) (rest := [.int r5_]) (wr := w5_) (cw_X6_wipe h6) dL_law_184 rfl List.perm_append_comm mc_X6_wipe kl_L_22 mi_X6_wipe mv_X6_wipe kn_X6 0 r6 rfl rfl (na := 0) (by decide +kernel) rfl ⟨Nat.le_of_ble_eq_true rfl, Nat.le_of_ble_eq_true rfl⟩ ⟨rfl, rfl⟩ ⟨Nat.le_of_ble_eq_true rfl, Nat.le_of_ble_eq_true rfl⟩ (Nat.le_of_ble_eq_true rfl) (fun r6_ w6_ hp_ => ?_)
  obtain ⟨e6_, h6_⟩ := hp_
  refine kw_perm (ws' := w5_ ++ w6_) List.perm_append_comm ?_
  refine kb_icmp_eq (tgt := 1035) X dL_law_187 (by decide) (fun _ => ?_) (fun q_ => absurd (e5_.trans e6_.symm) q_)
  exact C _ _ _ _ _ _ _ _ h5_ h6_
set_option maxHeartbeats 4000000 in
set_option maxRecDepth 100000 in
theorem lc_fault (X : kX l g RL code 4 room_1 x) (Sc : kScr b L xs x) (hL : L ≤ 3584) (hi : i + 7 ≤ L) (h5 : XWp g m at_ an ar au adu ak adk as_ ao ado v us ks tf tn s w5) (h6 : RWp g a v us ks tf tn s w6) (C : LCg x g b i m at_ an ar au adu ak adk as_ ao ado a) : kW x 146 3487 192 [(0, .ref b), (1, .ref m), (2, .ref (a 0)), (3, .int (nI i))] [] (w5 ++ w6) := by
  obtain ⟨f5, r5⟩ := h5.at0
  obtain ⟨f6, r6⟩ := h6.at0
  refine kb_aload_n X 1 dL_law_192 rfl rfl ?_
  refine kc_Vi X (As := []) (rest := []) (wr := w6) (cw_X5_fault h5) dL_law_193 rfl (List.Perm.refl _) mc_X5_fault kl_L_23 mi_X5_fault mv_X5_fault kn_X5 0 r5 rfl rfl (na := 0) (by decide +kernel) rfl ⟨Nat.le_of_ble_eq_true rfl, Nat.le_of_ble_eq_true rfl⟩ ⟨rfl, rfl⟩ ⟨Nat.le_of_ble_eq_true rfl, Nat.le_of_ble_eq_true rfl⟩ (Nat.le_of_ble_eq_true rfl) (fun r5_ w5_ hp_ => ?_)
  obtain ⟨e5_, h5_⟩ := hp_
  refine kb_aload_n X 2 dL_law_196 rfl rfl ?_
  refine kc_Vi X (As := []) (rest := [.int r5_]) (wr := w5_) (cw_X6_fault h6) dL_law_197 rfl List.perm_append_comm mc_X6_fault kl_L_26 mi_X6_fault mv_X6_fault kn_X6 0 r6 rfl rfl (na := 0) (by decide +kernel) rfl ⟨Nat.le_of_ble_eq_true rfl, Nat.le_of_ble_eq_true rfl⟩ ⟨rfl, rfl⟩ ⟨Nat.le_of_ble_eq_true rfl, Nat.le_of_ble_eq_true rfl⟩ (Nat.le_of_ble_eq_true rfl) (fun r6_ w6_ hp_ => ?_)
  obtain ⟨e6_, h6_⟩ := hp_
  refine kw_perm (ws' := w5_ ++ w6_) List.perm_append_comm ?_
  refine kb_icmp_eq (tgt := 1035) X dL_law_200 (by decide) (fun _ => ?_) (fun q_ => absurd (e5_.trans e6_.symm) q_)
  exact C _ _ _ _ _ _ _ _ h5_ h6_
set_option maxHeartbeats 4000000 in
set_option maxRecDepth 100000 in
theorem lc_lay (X : kX l g RL code 4 room_1 x) (Sc : kScr b L xs x) (hL : L ≤ 3584) (hi : i + 7 ≤ L) (h5 : XWp g m at_ an ar au adu ak adk as_ ao ado v us ks tf tn s w5) (h6 : RWp g a v us ks tf tn s w6) (C : LCg x g b i m at_ an ar au adu ak adk as_ ao ado a) : kW x 146 3487 205 [(0, .ref b), (1, .ref m), (2, .ref (a 0)), (3, .int (nI i))] [] (w5 ++ w6) := by
  obtain ⟨f5, r5⟩ := h5.at0
  obtain ⟨f6, r6⟩ := h6.at0
  refine kb_aload_n X 1 dL_law_205 rfl rfl ?_
  refine kc_Vi X (As := []) (rest := []) (wr := w6) (cw_X5_lay h5) dL_law_206 rfl (List.Perm.refl _) mc_X5_lay kl_L_27 mi_X5_lay mv_X5_lay kn_X5 0 r5 rfl rfl (na := 0) (by decide +kernel) rfl ⟨Nat.le_of_ble_eq_true rfl, Nat.le_of_ble_eq_true rfl⟩ ⟨rfl, rfl⟩ ⟨Nat.le_of_ble_eq_true rfl, Nat.le_of_ble_eq_true rfl⟩ (Nat.le_of_ble_eq_true rfl) (fun r5_ w5_ hp_ => ?_)
  obtain ⟨e5_, h5_⟩ := hp_
  refine kb_aload_n X 2 dL_law_209 rfl rfl ?_
  refine kc_Vi X (As := []) (rest := [.int r5_]) (wr := w5_) (cw_X6_lay h6) dL_law_210 rfl List.perm_append_comm mc_X6_lay kl_L_30 mi_X6_lay mv_X6_lay kn_X6 0 r6 rfl rfl (na := 0) (by decide +kernel) rfl ⟨Nat.le_of_ble_eq_true rfl, Nat.le_of_ble_eq_true rfl⟩ ⟨rfl, rfl⟩ ⟨Nat.le_of_ble_eq_true rfl, Nat.le_of_ble_eq_true rfl⟩ (Nat.le_of_ble_eq_true rfl) (fun r6_ w6_ hp_ => ?_)
  obtain ⟨e6_, h6_⟩ := hp_
  refine kw_perm (ws' := w5_ ++ w6_) List.perm_append_comm ?_
  refine kb_icmp_eq (tgt := 1035) X dL_law_213 (by decide) (fun _ => ?_) (fun q_ => absurd (e5_.trans e6_.symm) q_)
  exact C _ _ _ _ _ _ _ _ h5_ h6_
set_option maxHeartbeats 4000000 in
set_option maxRecDepth 100000 in
theorem lc_person (X : kX l g RL code 4 room_1 x) (Sc : kScr b L xs x) (hL : L ≤ 3584) (hi : i + 7 ≤ L) (h5 : XWp g m at_ an ar au adu ak adk as_ ao ado v us ks tf tn s w5) (h6 : RWp g a v us ks tf tn s w6) (C : LCg x g b i m at_ an ar au adu ak adk as_ ao ado a) : kW x 146 3487 218 [(0, .ref b), (1, .ref m), (2, .ref (a 0)), (3, .int (nI i))] [] (w5 ++ w6) := by
  obtain ⟨f5, r5⟩ := h5.at0
  obtain ⟨f6, r6⟩ := h6.at0
  refine kb_aload_n X 1 dL_law_218 rfl rfl ?_
  refine kb_aload_n X 0 dL_law_219 rfl rfl ?_
  refine kb_iload_n X 3 dL_law_220 rfl rfl ?_
  refine kb_iconst (v := (1 : Int32)) X dL_law_221 (by decide) ?_
  refine kn_iadd X i 1 dL_law_222 ?_
  refine kl_ld X Sc (i := i + 1) (by omega) (by omega) dL_law_223 ?_
  refine kb_aload_n X 0 dL_law_224 rfl rfl ?_
  refine kb_iload_n X 3 dL_law_225 rfl rfl ?_
  refine kb_iconst (v := (2 : Int32)) X dL_law_226 (by decide) ?_
  refine kn_iadd X i 2 dL_law_227 ?_
  refine kl_ld X Sc (i := i + 2) (by omega) (by omega) dL_law_228 ?_
  refine kc_Vi X (As := [.int (xs (i + 1)), .int (xs (i + 2))]) (rest := []) (wr := w6) (cw_X5_person h5 (xs (i + 1)) (xs (i + 2))) dL_law_229 rfl (List.Perm.refl _) mc_X5_person kl_L_31 mi_X5_person mv_X5_person kn_X5 0 r5 rfl rfl (na := 2) (by decide +kernel) rfl ⟨Nat.le_of_ble_eq_true rfl, Nat.le_of_ble_eq_true rfl⟩ ⟨rfl, rfl⟩ ⟨Nat.le_of_ble_eq_true rfl, Nat.le_of_ble_eq_true rfl⟩ (Nat.le_of_ble_eq_true rfl) (fun r5_ w5_ hp_ => ?_)
  obtain ⟨e5_, h5_⟩ := hp_
  refine kb_aload_n X 2 dL_law_232 rfl rfl ?_
  refine kb_aload_n X 0 dL_law_233 rfl rfl ?_
  refine kb_iload_n X 3 dL_law_234 rfl rfl ?_
  refine kb_iconst (v := (1 : Int32)) X dL_law_235 (by decide) ?_
  refine kn_iadd X i 1 dL_law_236 ?_
  refine kl_ld X Sc (i := i + 1) (by omega) (by omega) dL_law_237 ?_
  refine kb_aload_n X 0 dL_law_238 rfl rfl ?_
  refine kb_iload_n X 3 dL_law_239 rfl rfl ?_
  refine kb_iconst (v := (2 : Int32)) X dL_law_240 (by decide) ?_
  refine kn_iadd X i 2 dL_law_241 ?_
  refine kl_ld X Sc (i := i + 2) (by omega) (by omega) dL_law_242 ?_
  refine kc_Vi X (As := [.int (xs (i + 1)), .int (xs (i + 2))]) (rest := [.int r5_]) (wr := w5_) (cw_X6_person h6 (xs (i + 1)) (xs (i + 2))) dL_law_243 rfl List.perm_append_comm mc_X6_person kl_L_35 mi_X6_person mv_X6_person kn_X6 0 r6 rfl rfl (na := 2) (by decide +kernel) rfl ⟨Nat.le_of_ble_eq_true rfl, Nat.le_of_ble_eq_true rfl⟩ ⟨rfl, rfl⟩ ⟨Nat.le_of_ble_eq_true rfl, Nat.le_of_ble_eq_true rfl⟩ (Nat.le_of_ble_eq_true rfl) (fun r6_ w6_ hp_ => ?_)
  obtain ⟨e6_, h6_⟩ := hp_
  refine kw_perm (ws' := w5_ ++ w6_) List.perm_append_comm ?_
  refine kb_icmp_eq (tgt := 1035) X dL_law_246 (by decide) (fun _ => ?_) (fun q_ => absurd (e5_.trans e6_.symm) q_)
  exact C _ _ _ _ _ _ _ _ h5_ h6_
set_option maxHeartbeats 4000000 in
set_option maxRecDepth 100000 in
theorem lc_tie (X : kX l g RL code 4 room_1 x) (Sc : kScr b L xs x) (hL : L ≤ 3584) (hi : i + 7 ≤ L) (h5 : XWp g m at_ an ar au adu ak adk as_ ao ado v us ks tf tn s w5) (h6 : RWp g a v us ks tf tn s w6) (C : LCg x g b i m at_ an ar au adu ak adk as_ ao ado a) : kW x 146 3487 251 [(0, .ref b), (1, .ref m), (2, .ref (a 0)), (3, .int (nI i))] [] (w5 ++ w6) := by
  obtain ⟨f5, r5⟩ := h5.at0
  obtain ⟨f6, r6⟩ := h6.at0
  refine kb_aload_n X 1 dL_law_251 rfl rfl ?_
  refine kb_aload_n X 0 dL_law_252 rfl rfl ?_
  refine kb_iload_n X 3 dL_law_253 rfl rfl ?_
  refine kb_iconst (v := (1 : Int32)) X dL_law_254 (by decide) ?_
  refine kn_iadd X i 1 dL_law_255 ?_
  refine kl_ld X Sc (i := i + 1) (by omega) (by omega) dL_law_256 ?_
  refine kb_aload_n X 0 dL_law_257 rfl rfl ?_
  refine kb_iload_n X 3 dL_law_258 rfl rfl ?_
  refine kb_iconst (v := (2 : Int32)) X dL_law_259 (by decide) ?_
  refine kn_iadd X i 2 dL_law_260 ?_
  refine kl_ld X Sc (i := i + 2) (by omega) (by omega) dL_law_261 ?_
  refine kc_Vi X (As := [.int (xs (i + 1)), .int (xs (i + 2))]) (rest := []) (wr := w6) (cw_X5_tie h5 (xs (i + 1)) (xs (i + 2))) dL_law_262 rfl (List.Perm.refl _) mc_X5_tie kl_L_36 mi_X5_tie mv_X5_tie kn_X5 0 r5 rfl rfl (na := 2) (by decide +kernel) rfl ⟨Nat.le_of_ble_eq_true rfl, Nat.le_of_ble_eq_true rfl⟩ ⟨rfl, rfl⟩ ⟨Nat.le_of_ble_eq_true rfl, Nat.le_of_ble_eq_true rfl⟩ (Nat.le_of_ble_eq_true rfl) (fun r5_ w5_ hp_ => ?_)
  obtain ⟨e5_, h5_⟩ := hp_
  refine kb_aload_n X 2 dL_law_265 rfl rfl ?_
  refine kb_aload_n X 0 dL_law_266 rfl rfl ?_
  refine kb_iload_n X 3 dL_law_267 rfl rfl ?_
  refine kb_iconst (v := (1 : Int32)) X dL_law_268 (by decide) ?_
  refine kn_iadd X i 1 dL_law_269 ?_
  refine kl_ld X Sc (i := i + 1) (by omega) (by omega) dL_law_270 ?_
  refine kb_aload_n X 0 dL_law_271 rfl rfl ?_
  refine kb_iload_n X 3 dL_law_272 rfl rfl ?_
  refine kb_iconst (v := (2 : Int32)) X dL_law_273 (by decide) ?_
  refine kn_iadd X i 2 dL_law_274 ?_
  refine kl_ld X Sc (i := i + 2) (by omega) (by omega) dL_law_275 ?_
  refine kc_Vi X (As := [.int (xs (i + 1)), .int (xs (i + 2))]) (rest := [.int r5_]) (wr := w5_) (cw_X6_tie h6 (xs (i + 1)) (xs (i + 2))) dL_law_276 rfl List.perm_append_comm mc_X6_tie kl_L_39 mi_X6_tie mv_X6_tie kn_X6 0 r6 rfl rfl (na := 2) (by decide +kernel) rfl ⟨Nat.le_of_ble_eq_true rfl, Nat.le_of_ble_eq_true rfl⟩ ⟨rfl, rfl⟩ ⟨Nat.le_of_ble_eq_true rfl, Nat.le_of_ble_eq_true rfl⟩ (Nat.le_of_ble_eq_true rfl) (fun r6_ w6_ hp_ => ?_)
  obtain ⟨e6_, h6_⟩ := hp_
  refine kw_perm (ws' := w5_ ++ w6_) List.perm_append_comm ?_
  refine kb_icmp_eq (tgt := 1035) X dL_law_279 (by decide) (fun _ => ?_) (fun q_ => absurd (e5_.trans e6_.symm) q_)
  exact C _ _ _ _ _ _ _ _ h5_ h6_
set_option maxHeartbeats 4000000 in
set_option maxRecDepth 100000 in
theorem lc_owes (X : kX l g RL code 4 room_1 x) (Sc : kScr b L xs x) (hL : L ≤ 3584) (hi : i + 7 ≤ L) (h5 : XWp g m at_ an ar au adu ak adk as_ ao ado v us ks tf tn s w5) (h6 : RWp g a v us ks tf tn s w6) (C : LCg x g b i m at_ an ar au adu ak adk as_ ao ado a) : kW x 146 3487 284 [(0, .ref b), (1, .ref m), (2, .ref (a 0)), (3, .int (nI i))] [] (w5 ++ w6) := by
  obtain ⟨f5, r5⟩ := h5.at0
  obtain ⟨f6, r6⟩ := h6.at0
  refine kb_aload_n X 1 dL_law_284 rfl rfl ?_
  refine kb_aload_n X 0 dL_law_285 rfl rfl ?_
  refine kb_iload_n X 3 dL_law_286 rfl rfl ?_
  refine kb_iconst (v := (1 : Int32)) X dL_law_287 (by decide) ?_
  refine kn_iadd X i 1 dL_law_288 ?_
  refine kl_ld X Sc (i := i + 1) (by omega) (by omega) dL_law_289 ?_
  refine kb_aload_n X 0 dL_law_290 rfl rfl ?_
  refine kb_iload_n X 3 dL_law_291 rfl rfl ?_
  refine kb_iconst (v := (2 : Int32)) X dL_law_292 (by decide) ?_
  refine kn_iadd X i 2 dL_law_293 ?_
  refine kl_ld X Sc (i := i + 2) (by omega) (by omega) dL_law_294 ?_
  refine kc_Vi X (As := [.int (xs (i + 1)), .int (xs (i + 2))]) (rest := []) (wr := w6) (cw_X5_owes h5 (xs (i + 1)) (xs (i + 2))) dL_law_295 rfl (List.Perm.refl _) mc_X5_owes kl_L_40 mi_X5_owes mv_X5_owes kn_X5 0 r5 rfl rfl (na := 2) (by decide +kernel) rfl ⟨Nat.le_of_ble_eq_true rfl, Nat.le_of_ble_eq_true rfl⟩ ⟨rfl, rfl⟩ ⟨Nat.le_of_ble_eq_true rfl, Nat.le_of_ble_eq_true rfl⟩ (Nat.le_of_ble_eq_true rfl) (fun r5_ w5_ hp_ => ?_)
  obtain ⟨e5_, h5_⟩ := hp_
  refine kb_aload_n X 2 dL_law_298 rfl rfl ?_
  refine kb_aload_n X 0 dL_law_299 rfl rfl ?_
  refine kb_iload_n X 3 dL_law_300 rfl rfl ?_
  refine kb_iconst (v := (1 : Int32)) X dL_law_301 (by decide) ?_
  refine kn_iadd X i 1 dL_law_302 ?_
  refine kl_ld X Sc (i := i + 1) (by omega) (by omega) dL_law_303 ?_
  refine kb_aload_n X 0 dL_law_304 rfl rfl ?_
  refine kb_iload_n X 3 dL_law_305 rfl rfl ?_
  refine kb_iconst (v := (2 : Int32)) X dL_law_306 (by decide) ?_
  refine kn_iadd X i 2 dL_law_307 ?_
  refine kl_ld X Sc (i := i + 2) (by omega) (by omega) dL_law_308 ?_
  refine kc_Vi X (As := [.int (xs (i + 1)), .int (xs (i + 2))]) (rest := [.int r5_]) (wr := w5_) (cw_X6_owes h6 (xs (i + 1)) (xs (i + 2))) dL_law_309 rfl List.perm_append_comm mc_X6_owes kl_L_43 mi_X6_owes mv_X6_owes kn_X6 0 r6 rfl rfl (na := 2) (by decide +kernel) rfl ⟨Nat.le_of_ble_eq_true rfl, Nat.le_of_ble_eq_true rfl⟩ ⟨rfl, rfl⟩ ⟨Nat.le_of_ble_eq_true rfl, Nat.le_of_ble_eq_true rfl⟩ (Nat.le_of_ble_eq_true rfl) (fun r6_ w6_ hp_ => ?_)
  obtain ⟨e6_, h6_⟩ := hp_
  refine kw_perm (ws' := w5_ ++ w6_) List.perm_append_comm ?_
  refine kb_icmp_eq (tgt := 1035) X dL_law_312 (by decide) (fun _ => ?_) (fun q_ => absurd (e5_.trans e6_.symm) q_)
  exact C _ _ _ _ _ _ _ _ h5_ h6_
set_option maxHeartbeats 4000000 in
set_option maxRecDepth 100000 in
theorem lc_trial (X : kX l g RL code 4 room_1 x) (Sc : kScr b L xs x) (hL : L ≤ 3584) (hi : i + 7 ≤ L) (h5 : XWp g m at_ an ar au adu ak adk as_ ao ado v us ks tf tn s w5) (h6 : RWp g a v us ks tf tn s w6) (C : LCg x g b i m at_ an ar au adu ak adk as_ ao ado a) : kW x 146 3487 317 [(0, .ref b), (1, .ref m), (2, .ref (a 0)), (3, .int (nI i))] [] (w5 ++ w6) := by
  obtain ⟨f5, r5⟩ := h5.at0
  obtain ⟨f6, r6⟩ := h6.at0
  refine kb_aload_n X 1 dL_law_317 rfl rfl ?_
  refine kb_aload_n X 0 dL_law_318 rfl rfl ?_
  refine kb_iload_n X 3 dL_law_319 rfl rfl ?_
  refine kb_iconst (v := (1 : Int32)) X dL_law_320 (by decide) ?_
  refine kn_iadd X i 1 dL_law_321 ?_
  refine kl_ld X Sc (i := i + 1) (by omega) (by omega) dL_law_322 ?_
  refine kb_aload_n X 0 dL_law_323 rfl rfl ?_
  refine kb_iload_n X 3 dL_law_324 rfl rfl ?_
  refine kb_iconst (v := (2 : Int32)) X dL_law_325 (by decide) ?_
  refine kn_iadd X i 2 dL_law_326 ?_
  refine kl_ld X Sc (i := i + 2) (by omega) (by omega) dL_law_327 ?_
  refine kb_aload_n X 0 dL_law_328 rfl rfl ?_
  refine kb_iload_n X 3 dL_law_329 rfl rfl ?_
  refine kb_iconst (v := (3 : Int32)) X dL_law_330 (by decide) ?_
  refine kn_iadd X i 3 dL_law_331 ?_
  refine kl_ld X Sc (i := i + 3) (by omega) (by omega) dL_law_332 ?_
  refine kc_Vi X (As := [.int (xs (i + 1)), .int (xs (i + 2)), .int (xs (i + 3))]) (rest := []) (wr := w6) (cw_X5_trial h5 (xs (i + 1)) (xs (i + 2)) (xs (i + 3))) dL_law_333 rfl (List.Perm.refl _) mc_X5_trial kl_L_44 mi_X5_trial mv_X5_trial kn_X5 0 r5 rfl rfl (na := 3) (by decide +kernel) rfl ⟨Nat.le_of_ble_eq_true rfl, Nat.le_of_ble_eq_true rfl⟩ ⟨rfl, rfl⟩ ⟨Nat.le_of_ble_eq_true rfl, Nat.le_of_ble_eq_true rfl⟩ (Nat.le_of_ble_eq_true rfl) (fun r5_ w5_ hp_ => ?_)
  obtain ⟨e5_, h5_⟩ := hp_
  refine kb_aload_n X 2 dL_law_336 rfl rfl ?_
  refine kb_aload_n X 0 dL_law_337 rfl rfl ?_
  refine kb_iload_n X 3 dL_law_338 rfl rfl ?_
  refine kb_iconst (v := (1 : Int32)) X dL_law_339 (by decide) ?_
  refine kn_iadd X i 1 dL_law_340 ?_
  refine kl_ld X Sc (i := i + 1) (by omega) (by omega) dL_law_341 ?_
  refine kb_aload_n X 0 dL_law_342 rfl rfl ?_
  refine kb_iload_n X 3 dL_law_343 rfl rfl ?_
  refine kb_iconst (v := (2 : Int32)) X dL_law_344 (by decide) ?_
  refine kn_iadd X i 2 dL_law_345 ?_
  refine kl_ld X Sc (i := i + 2) (by omega) (by omega) dL_law_346 ?_
  refine kb_aload_n X 0 dL_law_347 rfl rfl ?_
  refine kb_iload_n X 3 dL_law_348 rfl rfl ?_
  refine kb_iconst (v := (3 : Int32)) X dL_law_349 (by decide) ?_
  refine kn_iadd X i 3 dL_law_350 ?_
  refine kl_ld X Sc (i := i + 3) (by omega) (by omega) dL_law_351 ?_
  refine kc_Vi X (As := [.int (xs (i + 1)), .int (xs (i + 2)), .int (xs (i + 3))]) (rest := [.int r5_]) (wr := w5_) (cw_X6_trial h6 (xs (i + 1)) (xs (i + 2)) (xs (i + 3))) dL_law_352 rfl List.perm_append_comm mc_X6_trial kl_L_48 mi_X6_trial mv_X6_trial kn_X6 0 r6 rfl rfl (na := 3) (by decide +kernel) rfl ⟨Nat.le_of_ble_eq_true rfl, Nat.le_of_ble_eq_true rfl⟩ ⟨rfl, rfl⟩ ⟨Nat.le_of_ble_eq_true rfl, Nat.le_of_ble_eq_true rfl⟩ (Nat.le_of_ble_eq_true rfl) (fun r6_ w6_ hp_ => ?_)
  obtain ⟨e6_, h6_⟩ := hp_
  refine kw_perm (ws' := w5_ ++ w6_) List.perm_append_comm ?_
  refine kb_icmp_eq (tgt := 1035) X dL_law_355 (by decide) (fun _ => ?_) (fun q_ => absurd (e5_.trans e6_.symm) q_)
  exact C _ _ _ _ _ _ _ _ h5_ h6_
set_option maxHeartbeats 4000000 in
set_option maxRecDepth 100000 in
theorem lc_gift (X : kX l g RL code 4 room_1 x) (Sc : kScr b L xs x) (hL : L ≤ 3584) (hi : i + 7 ≤ L) (h5 : XWp g m at_ an ar au adu ak adk as_ ao ado v us ks tf tn s w5) (h6 : RWp g a v us ks tf tn s w6) (C : LCg x g b i m at_ an ar au adu ak adk as_ ao ado a) : kW x 146 3487 360 [(0, .ref b), (1, .ref m), (2, .ref (a 0)), (3, .int (nI i))] [] (w5 ++ w6) := by
  obtain ⟨f5, r5⟩ := h5.at0
  obtain ⟨f6, r6⟩ := h6.at0
  refine kb_aload_n X 1 dL_law_360 rfl rfl ?_
  refine kb_aload_n X 0 dL_law_361 rfl rfl ?_
  refine kb_iload_n X 3 dL_law_362 rfl rfl ?_
  refine kb_iconst (v := (1 : Int32)) X dL_law_363 (by decide) ?_
  refine kn_iadd X i 1 dL_law_364 ?_
  refine kl_ld X Sc (i := i + 1) (by omega) (by omega) dL_law_365 ?_
  refine kb_aload_n X 0 dL_law_366 rfl rfl ?_
  refine kb_iload_n X 3 dL_law_367 rfl rfl ?_
  refine kb_iconst (v := (2 : Int32)) X dL_law_368 (by decide) ?_
  refine kn_iadd X i 2 dL_law_369 ?_
  refine kl_ld X Sc (i := i + 2) (by omega) (by omega) dL_law_370 ?_
  refine kc_Vi X (As := [.int (xs (i + 1)), .int (xs (i + 2))]) (rest := []) (wr := w6) (cw_X5_gift h5 (xs (i + 1)) (xs (i + 2))) dL_law_371 rfl (List.Perm.refl _) mc_X5_gift kl_L_49 mi_X5_gift mv_X5_gift kn_X5 0 r5 rfl rfl (na := 2) (by decide +kernel) rfl ⟨Nat.le_of_ble_eq_true rfl, Nat.le_of_ble_eq_true rfl⟩ ⟨rfl, rfl⟩ ⟨Nat.le_of_ble_eq_true rfl, Nat.le_of_ble_eq_true rfl⟩ (Nat.le_of_ble_eq_true rfl) (fun r5_ w5_ hp_ => ?_)
  obtain ⟨e5_, h5_⟩ := hp_
  refine kb_aload_n X 2 dL_law_374 rfl rfl ?_
  refine kb_aload_n X 0 dL_law_375 rfl rfl ?_
  refine kb_iload_n X 3 dL_law_376 rfl rfl ?_
  refine kb_iconst (v := (1 : Int32)) X dL_law_377 (by decide) ?_
  refine kn_iadd X i 1 dL_law_378 ?_
  refine kl_ld X Sc (i := i + 1) (by omega) (by omega) dL_law_379 ?_
  refine kb_aload_n X 0 dL_law_380 rfl rfl ?_
  refine kb_iload_n X 3 dL_law_381 rfl rfl ?_
  refine kb_iconst (v := (2 : Int32)) X dL_law_382 (by decide) ?_
  refine kn_iadd X i 2 dL_law_383 ?_
  refine kl_ld X Sc (i := i + 2) (by omega) (by omega) dL_law_384 ?_
  refine kc_Vi X (As := [.int (xs (i + 1)), .int (xs (i + 2))]) (rest := [.int r5_]) (wr := w5_) (cw_X6_gift h6 (xs (i + 1)) (xs (i + 2))) dL_law_385 rfl List.perm_append_comm mc_X6_gift kl_L_52 mi_X6_gift mv_X6_gift kn_X6 0 r6 rfl rfl (na := 2) (by decide +kernel) rfl ⟨Nat.le_of_ble_eq_true rfl, Nat.le_of_ble_eq_true rfl⟩ ⟨rfl, rfl⟩ ⟨Nat.le_of_ble_eq_true rfl, Nat.le_of_ble_eq_true rfl⟩ (Nat.le_of_ble_eq_true rfl) (fun r6_ w6_ hp_ => ?_)
  obtain ⟨e6_, h6_⟩ := hp_
  refine kw_perm (ws' := w5_ ++ w6_) List.perm_append_comm ?_
  refine kb_icmp_eq (tgt := 1035) X dL_law_388 (by decide) (fun _ => ?_) (fun q_ => absurd (e5_.trans e6_.symm) q_)
  exact C _ _ _ _ _ _ _ _ h5_ h6_
set_option maxHeartbeats 4000000 in
set_option maxRecDepth 100000 in
theorem lc_pay (X : kX l g RL code 4 room_1 x) (Sc : kScr b L xs x) (hL : L ≤ 3584) (hi : i + 7 ≤ L) (h5 : XWp g m at_ an ar au adu ak adk as_ ao ado v us ks tf tn s w5) (h6 : RWp g a v us ks tf tn s w6) (C : LCg x g b i m at_ an ar au adu ak adk as_ ao ado a) : kW x 146 3487 393 [(0, .ref b), (1, .ref m), (2, .ref (a 0)), (3, .int (nI i))] [] (w5 ++ w6) := by
  obtain ⟨f5, r5⟩ := h5.at0
  obtain ⟨f6, r6⟩ := h6.at0
  refine kb_aload_n X 1 dL_law_393 rfl rfl ?_
  refine kb_aload_n X 0 dL_law_394 rfl rfl ?_
  refine kb_iload_n X 3 dL_law_395 rfl rfl ?_
  refine kb_iconst (v := (1 : Int32)) X dL_law_396 (by decide) ?_
  refine kn_iadd X i 1 dL_law_397 ?_
  refine kl_ld X Sc (i := i + 1) (by omega) (by omega) dL_law_398 ?_
  refine kb_aload_n X 0 dL_law_399 rfl rfl ?_
  refine kb_iload_n X 3 dL_law_400 rfl rfl ?_
  refine kb_iconst (v := (2 : Int32)) X dL_law_401 (by decide) ?_
  refine kn_iadd X i 2 dL_law_402 ?_
  refine kl_ld X Sc (i := i + 2) (by omega) (by omega) dL_law_403 ?_
  refine kc_Vi X (As := [.int (xs (i + 1)), .int (xs (i + 2))]) (rest := []) (wr := w6) (cw_X5_pay h5 (xs (i + 1)) (xs (i + 2))) dL_law_404 rfl (List.Perm.refl _) mc_X5_pay kl_L_53 mi_X5_pay mv_X5_pay kn_X5 0 r5 rfl rfl (na := 2) (by decide +kernel) rfl ⟨Nat.le_of_ble_eq_true rfl, Nat.le_of_ble_eq_true rfl⟩ ⟨rfl, rfl⟩ ⟨Nat.le_of_ble_eq_true rfl, Nat.le_of_ble_eq_true rfl⟩ (Nat.le_of_ble_eq_true rfl) (fun r5_ w5_ hp_ => ?_)
  obtain ⟨e5_, h5_⟩ := hp_
  refine kb_aload_n X 2 dL_law_407 rfl rfl ?_
  refine kb_aload_n X 0 dL_law_408 rfl rfl ?_
  refine kb_iload_n X 3 dL_law_409 rfl rfl ?_
  refine kb_iconst (v := (1 : Int32)) X dL_law_410 (by decide) ?_
  refine kn_iadd X i 1 dL_law_411 ?_
  refine kl_ld X Sc (i := i + 1) (by omega) (by omega) dL_law_412 ?_
  refine kb_aload_n X 0 dL_law_413 rfl rfl ?_
  refine kb_iload_n X 3 dL_law_414 rfl rfl ?_
  refine kb_iconst (v := (2 : Int32)) X dL_law_415 (by decide) ?_
  refine kn_iadd X i 2 dL_law_416 ?_
  refine kl_ld X Sc (i := i + 2) (by omega) (by omega) dL_law_417 ?_
  refine kc_Vi X (As := [.int (xs (i + 1)), .int (xs (i + 2))]) (rest := [.int r5_]) (wr := w5_) (cw_X6_pay h6 (xs (i + 1)) (xs (i + 2))) dL_law_418 rfl List.perm_append_comm mc_X6_pay kl_L_56 mi_X6_pay mv_X6_pay kn_X6 0 r6 rfl rfl (na := 2) (by decide +kernel) rfl ⟨Nat.le_of_ble_eq_true rfl, Nat.le_of_ble_eq_true rfl⟩ ⟨rfl, rfl⟩ ⟨Nat.le_of_ble_eq_true rfl, Nat.le_of_ble_eq_true rfl⟩ (Nat.le_of_ble_eq_true rfl) (fun r6_ w6_ hp_ => ?_)
  obtain ⟨e6_, h6_⟩ := hp_
  refine kw_perm (ws' := w5_ ++ w6_) List.perm_append_comm ?_
  refine kb_icmp_eq (tgt := 1035) X dL_law_421 (by decide) (fun _ => ?_) (fun q_ => absurd (e5_.trans e6_.symm) q_)
  exact C _ _ _ _ _ _ _ _ h5_ h6_
set_option maxHeartbeats 4000000 in
set_option maxRecDepth 100000 in
theorem lc_die (X : kX l g RL code 4 room_1 x) (Sc : kScr b L xs x) (hL : L ≤ 3584) (hi : i + 7 ≤ L) (h5 : XWp g m at_ an ar au adu ak adk as_ ao ado v us ks tf tn s w5) (h6 : RWp g a v us ks tf tn s w6) (C : LCg x g b i m at_ an ar au adu ak adk as_ ao ado a) : kW x 146 3487 426 [(0, .ref b), (1, .ref m), (2, .ref (a 0)), (3, .int (nI i))] [] (w5 ++ w6) := by
  obtain ⟨f5, r5⟩ := h5.at0
  obtain ⟨f6, r6⟩ := h6.at0
  refine kb_aload_n X 1 dL_law_426 rfl rfl ?_
  refine kb_aload_n X 0 dL_law_427 rfl rfl ?_
  refine kb_iload_n X 3 dL_law_428 rfl rfl ?_
  refine kb_iconst (v := (1 : Int32)) X dL_law_429 (by decide) ?_
  refine kn_iadd X i 1 dL_law_430 ?_
  refine kl_ld X Sc (i := i + 1) (by omega) (by omega) dL_law_431 ?_
  refine kc_Vi X (As := [.int (xs (i + 1))]) (rest := []) (wr := w6) (cw_X5_die h5 (xs (i + 1))) dL_law_432 rfl (List.Perm.refl _) mc_X5_die kl_L_57 mi_X5_die mv_X5_die kn_X5 0 r5 rfl rfl (na := 1) (by decide +kernel) rfl ⟨Nat.le_of_ble_eq_true rfl, Nat.le_of_ble_eq_true rfl⟩ ⟨rfl, rfl⟩ ⟨Nat.le_of_ble_eq_true rfl, Nat.le_of_ble_eq_true rfl⟩ (Nat.le_of_ble_eq_true rfl) (fun r5_ w5_ hp_ => ?_)
  obtain ⟨e5_, h5_⟩ := hp_
  refine kb_aload_n X 2 dL_law_435 rfl rfl ?_
  refine kb_aload_n X 0 dL_law_436 rfl rfl ?_
  refine kb_iload_n X 3 dL_law_437 rfl rfl ?_
  refine kb_iconst (v := (1 : Int32)) X dL_law_438 (by decide) ?_
  refine kn_iadd X i 1 dL_law_439 ?_
  refine kl_ld X Sc (i := i + 1) (by omega) (by omega) dL_law_440 ?_
  refine kc_Vi X (As := [.int (xs (i + 1))]) (rest := [.int r5_]) (wr := w5_) (cw_X6_die h6 (xs (i + 1))) dL_law_441 rfl List.perm_append_comm mc_X6_die kl_L_60 mi_X6_die mv_X6_die kn_X6 0 r6 rfl rfl (na := 1) (by decide +kernel) rfl ⟨Nat.le_of_ble_eq_true rfl, Nat.le_of_ble_eq_true rfl⟩ ⟨rfl, rfl⟩ ⟨Nat.le_of_ble_eq_true rfl, Nat.le_of_ble_eq_true rfl⟩ (Nat.le_of_ble_eq_true rfl) (fun r6_ w6_ hp_ => ?_)
  obtain ⟨e6_, h6_⟩ := hp_
  refine kw_perm (ws' := w5_ ++ w6_) List.perm_append_comm ?_
  refine kb_icmp_eq (tgt := 1035) X dL_law_444 (by decide) (fun _ => ?_) (fun q_ => absurd (e5_.trans e6_.symm) q_)
  exact C _ _ _ _ _ _ _ _ h5_ h6_
set_option maxHeartbeats 4000000 in
set_option maxRecDepth 100000 in
theorem lc_pass (X : kX l g RL code 4 room_1 x) (Sc : kScr b L xs x) (hL : L ≤ 3584) (hi : i + 7 ≤ L) (h5 : XWp g m at_ an ar au adu ak adk as_ ao ado v us ks tf tn s w5) (h6 : RWp g a v us ks tf tn s w6) (C : LCg x g b i m at_ an ar au adu ak adk as_ ao ado a) : kW x 146 3487 449 [(0, .ref b), (1, .ref m), (2, .ref (a 0)), (3, .int (nI i))] [] (w5 ++ w6) := by
  obtain ⟨f5, r5⟩ := h5.at0
  obtain ⟨f6, r6⟩ := h6.at0
  refine kb_aload_n X 1 dL_law_449 rfl rfl ?_
  refine kb_aload_n X 0 dL_law_450 rfl rfl ?_
  refine kb_iload_n X 3 dL_law_451 rfl rfl ?_
  refine kb_iconst (v := (1 : Int32)) X dL_law_452 (by decide) ?_
  refine kn_iadd X i 1 dL_law_453 ?_
  refine kl_ld X Sc (i := i + 1) (by omega) (by omega) dL_law_454 ?_
  refine kc_Vi X (As := [.int (xs (i + 1))]) (rest := []) (wr := w6) (cw_X5_pass h5 (xs (i + 1))) dL_law_455 rfl (List.Perm.refl _) mc_X5_pass kl_L_61 mi_X5_pass mv_X5_pass kn_X5 0 r5 rfl rfl (na := 1) (by decide +kernel) rfl ⟨Nat.le_of_ble_eq_true rfl, Nat.le_of_ble_eq_true rfl⟩ ⟨rfl, rfl⟩ ⟨Nat.le_of_ble_eq_true rfl, Nat.le_of_ble_eq_true rfl⟩ (Nat.le_of_ble_eq_true rfl) (fun r5_ w5_ hp_ => ?_)
  obtain ⟨e5_, h5_⟩ := hp_
  refine kb_aload_n X 2 dL_law_458 rfl rfl ?_
  refine kb_aload_n X 0 dL_law_459 rfl rfl ?_
  refine kb_iload_n X 3 dL_law_460 rfl rfl ?_
  refine kb_iconst (v := (1 : Int32)) X dL_law_461 (by decide) ?_
  refine kn_iadd X i 1 dL_law_462 ?_
  refine kl_ld X Sc (i := i + 1) (by omega) (by omega) dL_law_463 ?_
  refine kc_Vi X (As := [.int (xs (i + 1))]) (rest := [.int r5_]) (wr := w5_) (cw_X6_pass h6 (xs (i + 1))) dL_law_464 rfl List.perm_append_comm mc_X6_pass kl_L_64 mi_X6_pass mv_X6_pass kn_X6 0 r6 rfl rfl (na := 1) (by decide +kernel) rfl ⟨Nat.le_of_ble_eq_true rfl, Nat.le_of_ble_eq_true rfl⟩ ⟨rfl, rfl⟩ ⟨Nat.le_of_ble_eq_true rfl, Nat.le_of_ble_eq_true rfl⟩ (Nat.le_of_ble_eq_true rfl) (fun r6_ w6_ hp_ => ?_)
  obtain ⟨e6_, h6_⟩ := hp_
  refine kw_perm (ws' := w5_ ++ w6_) List.perm_append_comm ?_
  refine kb_icmp_eq (tgt := 1035) X dL_law_467 (by decide) (fun _ => ?_) (fun q_ => absurd (e5_.trans e6_.symm) q_)
  exact C _ _ _ _ _ _ _ _ h5_ h6_
set_option maxHeartbeats 4000000 in
set_option maxRecDepth 100000 in
theorem lc_undo (X : kX l g RL code 4 room_1 x) (Sc : kScr b L xs x) (hL : L ≤ 3584) (hi : i + 7 ≤ L) (h5 : XWp g m at_ an ar au adu ak adk as_ ao ado v us ks tf tn s w5) (h6 : RWp g a v us ks tf tn s w6) (C : LCg x g b i m at_ an ar au adu ak adk as_ ao ado a) : kW x 146 3487 472 [(0, .ref b), (1, .ref m), (2, .ref (a 0)), (3, .int (nI i))] [] (w5 ++ w6) := by
  obtain ⟨f5, r5⟩ := h5.at0
  obtain ⟨f6, r6⟩ := h6.at0
  refine kb_aload_n X 1 dL_law_472 rfl rfl ?_
  refine kc_Vi X (As := []) (rest := []) (wr := w6) (cw_X5_undo h5) dL_law_473 rfl (List.Perm.refl _) mc_X5_undo kl_L_65 mi_X5_undo mv_X5_undo kn_X5 0 r5 rfl rfl (na := 0) (by decide +kernel) rfl ⟨Nat.le_of_ble_eq_true rfl, Nat.le_of_ble_eq_true rfl⟩ ⟨rfl, rfl⟩ ⟨Nat.le_of_ble_eq_true rfl, Nat.le_of_ble_eq_true rfl⟩ (Nat.le_of_ble_eq_true rfl) (fun r5_ w5_ hp_ => ?_)
  obtain ⟨e5_, h5_⟩ := hp_
  refine kb_aload_n X 2 dL_law_476 rfl rfl ?_
  refine kc_Vi X (As := []) (rest := [.int r5_]) (wr := w5_) (cw_X6_undo h6) dL_law_477 rfl List.perm_append_comm mc_X6_undo kl_L_68 mi_X6_undo mv_X6_undo kn_X6 0 r6 rfl rfl (na := 0) (by decide +kernel) rfl ⟨Nat.le_of_ble_eq_true rfl, Nat.le_of_ble_eq_true rfl⟩ ⟨rfl, rfl⟩ ⟨Nat.le_of_ble_eq_true rfl, Nat.le_of_ble_eq_true rfl⟩ (Nat.le_of_ble_eq_true rfl) (fun r6_ w6_ hp_ => ?_)
  obtain ⟨e6_, h6_⟩ := hp_
  refine kw_perm (ws' := w5_ ++ w6_) List.perm_append_comm ?_
  refine kb_icmp_eq (tgt := 1035) X dL_law_480 (by decide) (fun _ => ?_) (fun q_ => absurd (e5_.trans e6_.symm) q_)
  exact C _ _ _ _ _ _ _ _ h5_ h6_
set_option maxHeartbeats 4000000 in
set_option maxRecDepth 100000 in
theorem lc_come (X : kX l g RL code 4 room_1 x) (Sc : kScr b L xs x) (hL : L ≤ 3584) (hi : i + 7 ≤ L) (h5 : XWp g m at_ an ar au adu ak adk as_ ao ado v us ks tf tn s w5) (h6 : RWp g a v us ks tf tn s w6) (C : LCg x g b i m at_ an ar au adu ak adk as_ ao ado a) : kW x 146 3487 485 [(0, .ref b), (1, .ref m), (2, .ref (a 0)), (3, .int (nI i))] [] (w5 ++ w6) := by
  obtain ⟨f5, r5⟩ := h5.at0
  obtain ⟨f6, r6⟩ := h6.at0
  refine kb_aload_n X 1 dL_law_485 rfl rfl ?_
  refine kb_aload_n X 0 dL_law_486 rfl rfl ?_
  refine kb_iload_n X 3 dL_law_487 rfl rfl ?_
  refine kb_iconst (v := (1 : Int32)) X dL_law_488 (by decide) ?_
  refine kn_iadd X i 1 dL_law_489 ?_
  refine kl_ld X Sc (i := i + 1) (by omega) (by omega) dL_law_490 ?_
  refine kb_aload_n X 0 dL_law_491 rfl rfl ?_
  refine kb_iload_n X 3 dL_law_492 rfl rfl ?_
  refine kb_iconst (v := (2 : Int32)) X dL_law_493 (by decide) ?_
  refine kn_iadd X i 2 dL_law_494 ?_
  refine kl_ld X Sc (i := i + 2) (by omega) (by omega) dL_law_495 ?_
  refine kb_aload_n X 0 dL_law_496 rfl rfl ?_
  refine kb_iload_n X 3 dL_law_497 rfl rfl ?_
  refine kb_iconst (v := (3 : Int32)) X dL_law_498 (by decide) ?_
  refine kn_iadd X i 3 dL_law_499 ?_
  refine kl_ld X Sc (i := i + 3) (by omega) (by omega) dL_law_500 ?_
  refine kb_aload_n X 0 dL_law_501 rfl rfl ?_
  refine kb_iload_n X 3 dL_law_502 rfl rfl ?_
  refine kb_iconst (v := (4 : Int32)) X dL_law_503 (by decide) ?_
  refine kn_iadd X i 4 dL_law_504 ?_
  refine kl_ld X Sc (i := i + 4) (by omega) (by omega) dL_law_505 ?_
  refine kc_Vi X (As := [.int (xs (i + 1)), .int (xs (i + 2)), .int (xs (i + 3)), .int (xs (i + 4))]) (rest := []) (wr := w6) (cw_X5_come h5 (xs (i + 1)) (xs (i + 2)) (xs (i + 3)) (xs (i + 4))) dL_law_506 rfl (List.Perm.refl _) mc_X5_come kl_L_69 mi_X5_come mv_X5_come kn_X5 0 r5 rfl rfl (na := 4) (by decide +kernel) rfl ⟨Nat.le_of_ble_eq_true rfl, Nat.le_of_ble_eq_true rfl⟩ ⟨rfl, rfl⟩ ⟨Nat.le_of_ble_eq_true rfl, Nat.le_of_ble_eq_true rfl⟩ (Nat.le_of_ble_eq_true rfl) (fun r5_ w5_ hp_ => ?_)
  obtain ⟨e5_, h5_⟩ := hp_
  refine kb_aload_n X 2 dL_law_509 rfl rfl ?_
  refine kb_aload_n X 0 dL_law_510 rfl rfl ?_
  refine kb_iload_n X 3 dL_law_511 rfl rfl ?_
  refine kb_iconst (v := (1 : Int32)) X dL_law_512 (by decide) ?_
  refine kn_iadd X i 1 dL_law_513 ?_
  refine kl_ld X Sc (i := i + 1) (by omega) (by omega) dL_law_514 ?_
  refine kb_aload_n X 0 dL_law_515 rfl rfl ?_
  refine kb_iload_n X 3 dL_law_516 rfl rfl ?_
  refine kb_iconst (v := (2 : Int32)) X dL_law_517 (by decide) ?_
  refine kn_iadd X i 2 dL_law_518 ?_
  refine kl_ld X Sc (i := i + 2) (by omega) (by omega) dL_law_519 ?_
  refine kb_aload_n X 0 dL_law_520 rfl rfl ?_
  refine kb_iload_n X 3 dL_law_521 rfl rfl ?_
  refine kb_iconst (v := (3 : Int32)) X dL_law_522 (by decide) ?_
  refine kn_iadd X i 3 dL_law_523 ?_
  refine kl_ld X Sc (i := i + 3) (by omega) (by omega) dL_law_524 ?_
  refine kb_aload_n X 0 dL_law_525 rfl rfl ?_
  refine kb_iload_n X 3 dL_law_526 rfl rfl ?_
  refine kb_iconst (v := (4 : Int32)) X dL_law_527 (by decide) ?_
  refine kn_iadd X i 4 dL_law_528 ?_
  refine kl_ld X Sc (i := i + 4) (by omega) (by omega) dL_law_529 ?_
  refine kc_Vi X (As := [.int (xs (i + 1)), .int (xs (i + 2)), .int (xs (i + 3)), .int (xs (i + 4))]) (rest := [.int r5_]) (wr := w5_) (cw_X6_come h6 (xs (i + 1)) (xs (i + 2)) (xs (i + 3)) (xs (i + 4))) dL_law_530 rfl List.perm_append_comm mc_X6_come kl_L_73 mi_X6_come mv_X6_come kn_X6 0 r6 rfl rfl (na := 4) (by decide +kernel) rfl ⟨Nat.le_of_ble_eq_true rfl, Nat.le_of_ble_eq_true rfl⟩ ⟨rfl, rfl⟩ ⟨Nat.le_of_ble_eq_true rfl, Nat.le_of_ble_eq_true rfl⟩ (Nat.le_of_ble_eq_true rfl) (fun r6_ w6_ hp_ => ?_)
  obtain ⟨e6_, h6_⟩ := hp_
  refine kw_perm (ws' := w5_ ++ w6_) List.perm_append_comm ?_
  refine kb_icmp_eq (tgt := 1035) X dL_law_533 (by decide) (fun _ => ?_) (fun q_ => absurd (e5_.trans e6_.symm) q_)
  exact C _ _ _ _ _ _ _ _ h5_ h6_
set_option maxHeartbeats 4000000 in
set_option maxRecDepth 100000 in
theorem lc_cheapest (X : kX l g RL code 4 room_1 x) (Sc : kScr b L xs x) (hL : L ≤ 3584) (hi : i + 7 ≤ L) (h5 : XWp g m at_ an ar au adu ak adk as_ ao ado v us ks tf tn s w5) (h6 : RWp g a v us ks tf tn s w6) (C : LCg x g b i m at_ an ar au adu ak adk as_ ao ado a) : kW x 146 3487 538 [(0, .ref b), (1, .ref m), (2, .ref (a 0)), (3, .int (nI i))] [] (w5 ++ w6) := by
  obtain ⟨f5, r5⟩ := h5.at0
  obtain ⟨f6, r6⟩ := h6.at0
  refine kb_aload_n X 1 dL_law_538 rfl rfl ?_
  refine kb_aload_n X 0 dL_law_539 rfl rfl ?_
  refine kb_iload_n X 3 dL_law_540 rfl rfl ?_
  refine kb_iconst (v := (1 : Int32)) X dL_law_541 (by decide) ?_
  refine kn_iadd X i 1 dL_law_542 ?_
  refine kl_ld X Sc (i := i + 1) (by omega) (by omega) dL_law_543 ?_
  refine kb_aload_n X 0 dL_law_544 rfl rfl ?_
  refine kb_iload_n X 3 dL_law_545 rfl rfl ?_
  refine kb_iconst (v := (2 : Int32)) X dL_law_546 (by decide) ?_
  refine kn_iadd X i 2 dL_law_547 ?_
  refine kl_ld X Sc (i := i + 2) (by omega) (by omega) dL_law_548 ?_
  refine kb_aload_n X 0 dL_law_549 rfl rfl ?_
  refine kb_iload_n X 3 dL_law_550 rfl rfl ?_
  refine kb_iconst (v := (3 : Int32)) X dL_law_551 (by decide) ?_
  refine kn_iadd X i 3 dL_law_552 ?_
  refine kl_ld X Sc (i := i + 3) (by omega) (by omega) dL_law_553 ?_
  refine kc_Vi X (As := [.int (xs (i + 1)), .int (xs (i + 2)), .int (xs (i + 3))]) (rest := []) (wr := w6) (cw_X5_cheapest h5 (xs (i + 1)) (xs (i + 2)) (xs (i + 3))) dL_law_554 rfl (List.Perm.refl _) mc_X5_cheapest kl_L_74 mi_X5_cheapest mv_X5_cheapest kn_X5 0 r5 rfl rfl (na := 3) (by decide +kernel) rfl ⟨Nat.le_of_ble_eq_true rfl, Nat.le_of_ble_eq_true rfl⟩ ⟨rfl, rfl⟩ ⟨Nat.le_of_ble_eq_true rfl, Nat.le_of_ble_eq_true rfl⟩ (Nat.le_of_ble_eq_true rfl) (fun r5_ w5_ hp_ => ?_)
  obtain ⟨e5_, h5_⟩ := hp_
  refine kb_aload_n X 2 dL_law_557 rfl rfl ?_
  refine kb_aload_n X 0 dL_law_558 rfl rfl ?_
  refine kb_iload_n X 3 dL_law_559 rfl rfl ?_
  refine kb_iconst (v := (1 : Int32)) X dL_law_560 (by decide) ?_
  refine kn_iadd X i 1 dL_law_561 ?_
  refine kl_ld X Sc (i := i + 1) (by omega) (by omega) dL_law_562 ?_
  refine kb_aload_n X 0 dL_law_563 rfl rfl ?_
  refine kb_iload_n X 3 dL_law_564 rfl rfl ?_
  refine kb_iconst (v := (2 : Int32)) X dL_law_565 (by decide) ?_
  refine kn_iadd X i 2 dL_law_566 ?_
  refine kl_ld X Sc (i := i + 2) (by omega) (by omega) dL_law_567 ?_
  refine kb_aload_n X 0 dL_law_568 rfl rfl ?_
  refine kb_iload_n X 3 dL_law_569 rfl rfl ?_
  refine kb_iconst (v := (3 : Int32)) X dL_law_570 (by decide) ?_
  refine kn_iadd X i 3 dL_law_571 ?_
  refine kl_ld X Sc (i := i + 3) (by omega) (by omega) dL_law_572 ?_
  refine kc_Vi X (As := [.int (xs (i + 1)), .int (xs (i + 2)), .int (xs (i + 3))]) (rest := [.int r5_]) (wr := w5_) (cw_X6_cheapest h6 (xs (i + 1)) (xs (i + 2)) (xs (i + 3))) dL_law_573 rfl List.perm_append_comm mc_X6_cheapest kl_L_77 mi_X6_cheapest mv_X6_cheapest kn_X6 0 r6 rfl rfl (na := 3) (by decide +kernel) rfl ⟨Nat.le_of_ble_eq_true rfl, Nat.le_of_ble_eq_true rfl⟩ ⟨rfl, rfl⟩ ⟨Nat.le_of_ble_eq_true rfl, Nat.le_of_ble_eq_true rfl⟩ (Nat.le_of_ble_eq_true rfl) (fun r6_ w6_ hp_ => ?_)
  obtain ⟨e6_, h6_⟩ := hp_
  refine kw_perm (ws' := w5_ ++ w6_) List.perm_append_comm ?_
  refine kb_icmp_eq (tgt := 1035) X dL_law_576 (by decide) (fun _ => ?_) (fun q_ => absurd (e5_.trans e6_.symm) q_)
  exact C _ _ _ _ _ _ _ _ h5_ h6_
set_option maxHeartbeats 4000000 in
set_option maxRecDepth 100000 in
theorem lc_gifts (X : kX l g RL code 4 room_1 x) (Sc : kScr b L xs x) (hL : L ≤ 3584) (hi : i + 7 ≤ L) (h5 : XWp g m at_ an ar au adu ak adk as_ ao ado v us ks tf tn s w5) (h6 : RWp g a v us ks tf tn s w6) (C : LCg x g b i m at_ an ar au adu ak adk as_ ao ado a) : kW x 146 3487 581 [(0, .ref b), (1, .ref m), (2, .ref (a 0)), (3, .int (nI i))] [] (w5 ++ w6) := by
  obtain ⟨f5, r5⟩ := h5.at0
  obtain ⟨f6, r6⟩ := h6.at0
  refine kb_aload_n X 1 dL_law_581 rfl rfl ?_
  refine kb_aload_n X 0 dL_law_582 rfl rfl ?_
  refine kb_iload_n X 3 dL_law_583 rfl rfl ?_
  refine kb_iconst (v := (1 : Int32)) X dL_law_584 (by decide) ?_
  refine kn_iadd X i 1 dL_law_585 ?_
  refine kl_ld X Sc (i := i + 1) (by omega) (by omega) dL_law_586 ?_
  refine kb_aload_n X 0 dL_law_587 rfl rfl ?_
  refine kb_iload_n X 3 dL_law_588 rfl rfl ?_
  refine kb_iconst (v := (2 : Int32)) X dL_law_589 (by decide) ?_
  refine kn_iadd X i 2 dL_law_590 ?_
  refine kl_ld X Sc (i := i + 2) (by omega) (by omega) dL_law_591 ?_
  refine kb_aload_n X 0 dL_law_592 rfl rfl ?_
  refine kb_iload_n X 3 dL_law_593 rfl rfl ?_
  refine kb_iconst (v := (3 : Int32)) X dL_law_594 (by decide) ?_
  refine kn_iadd X i 3 dL_law_595 ?_
  refine kl_ld X Sc (i := i + 3) (by omega) (by omega) dL_law_596 ?_
  refine kb_aload_n X 0 dL_law_597 rfl rfl ?_
  refine kb_iload_n X 3 dL_law_598 rfl rfl ?_
  refine kb_iconst (v := (4 : Int32)) X dL_law_599 (by decide) ?_
  refine kn_iadd X i 4 dL_law_600 ?_
  refine kl_ld X Sc (i := i + 4) (by omega) (by omega) dL_law_601 ?_
  refine kc_Vi X (As := [.int (xs (i + 1)), .int (xs (i + 2)), .int (xs (i + 3)), .int (xs (i + 4))]) (rest := []) (wr := w6) (cw_X5_gifts h5 (xs (i + 1)) (xs (i + 2)) (xs (i + 3)) (xs (i + 4))) dL_law_602 rfl (List.Perm.refl _) mc_X5_gifts kl_L_78 mi_X5_gifts mv_X5_gifts kn_X5 0 r5 rfl rfl (na := 4) (by decide +kernel) rfl ⟨Nat.le_of_ble_eq_true rfl, Nat.le_of_ble_eq_true rfl⟩ ⟨rfl, rfl⟩ ⟨Nat.le_of_ble_eq_true rfl, Nat.le_of_ble_eq_true rfl⟩ (Nat.le_of_ble_eq_true rfl) (fun r5_ w5_ hp_ => ?_)
  obtain ⟨e5_, h5_⟩ := hp_
  refine kb_aload_n X 2 dL_law_605 rfl rfl ?_
  refine kb_aload_n X 0 dL_law_606 rfl rfl ?_
  refine kb_iload_n X 3 dL_law_607 rfl rfl ?_
  refine kb_iconst (v := (1 : Int32)) X dL_law_608 (by decide) ?_
  refine kn_iadd X i 1 dL_law_609 ?_
  refine kl_ld X Sc (i := i + 1) (by omega) (by omega) dL_law_610 ?_
  refine kb_aload_n X 0 dL_law_611 rfl rfl ?_
  refine kb_iload_n X 3 dL_law_612 rfl rfl ?_
  refine kb_iconst (v := (2 : Int32)) X dL_law_613 (by decide) ?_
  refine kn_iadd X i 2 dL_law_614 ?_
  refine kl_ld X Sc (i := i + 2) (by omega) (by omega) dL_law_615 ?_
  refine kb_aload_n X 0 dL_law_616 rfl rfl ?_
  refine kb_iload_n X 3 dL_law_617 rfl rfl ?_
  refine kb_iconst (v := (3 : Int32)) X dL_law_618 (by decide) ?_
  refine kn_iadd X i 3 dL_law_619 ?_
  refine kl_ld X Sc (i := i + 3) (by omega) (by omega) dL_law_620 ?_
  refine kb_aload_n X 0 dL_law_621 rfl rfl ?_
  refine kb_iload_n X 3 dL_law_622 rfl rfl ?_
  refine kb_iconst (v := (4 : Int32)) X dL_law_623 (by decide) ?_
  refine kn_iadd X i 4 dL_law_624 ?_
  refine kl_ld X Sc (i := i + 4) (by omega) (by omega) dL_law_625 ?_
  refine kc_Vi X (As := [.int (xs (i + 1)), .int (xs (i + 2)), .int (xs (i + 3)), .int (xs (i + 4))]) (rest := [.int r5_]) (wr := w5_) (cw_X6_gifts h6 (xs (i + 1)) (xs (i + 2)) (xs (i + 3)) (xs (i + 4))) dL_law_626 rfl List.perm_append_comm mc_X6_gifts kl_L_81 mi_X6_gifts mv_X6_gifts kn_X6 0 r6 rfl rfl (na := 4) (by decide +kernel) rfl ⟨Nat.le_of_ble_eq_true rfl, Nat.le_of_ble_eq_true rfl⟩ ⟨rfl, rfl⟩ ⟨Nat.le_of_ble_eq_true rfl, Nat.le_of_ble_eq_true rfl⟩ (Nat.le_of_ble_eq_true rfl) (fun r6_ w6_ hp_ => ?_)
  obtain ⟨e6_, h6_⟩ := hp_
  refine kw_perm (ws' := w5_ ++ w6_) List.perm_append_comm ?_
  refine kb_icmp_eq (tgt := 1035) X dL_law_629 (by decide) (fun _ => ?_) (fun q_ => absurd (e5_.trans e6_.symm) q_)
  exact C _ _ _ _ _ _ _ _ h5_ h6_
set_option maxHeartbeats 4000000 in
set_option maxRecDepth 100000 in
theorem lc_order (X : kX l g RL code 4 room_1 x) (Sc : kScr b L xs x) (hL : L ≤ 3584) (hi : i + 7 ≤ L) (h5 : XWp g m at_ an ar au adu ak adk as_ ao ado v us ks tf tn s w5) (h6 : RWp g a v us ks tf tn s w6) (C : LCg x g b i m at_ an ar au adu ak adk as_ ao ado a) : kW x 146 3487 634 [(0, .ref b), (1, .ref m), (2, .ref (a 0)), (3, .int (nI i))] [] (w5 ++ w6) := by
  obtain ⟨f5, r5⟩ := h5.at0
  obtain ⟨f6, r6⟩ := h6.at0
  refine kb_aload_n X 1 dL_law_634 rfl rfl ?_
  refine kb_aload_n X 0 dL_law_635 rfl rfl ?_
  refine kb_iload_n X 3 dL_law_636 rfl rfl ?_
  refine kb_iconst (v := (1 : Int32)) X dL_law_637 (by decide) ?_
  refine kn_iadd X i 1 dL_law_638 ?_
  refine kl_ld X Sc (i := i + 1) (by omega) (by omega) dL_law_639 ?_
  refine kb_aload_n X 0 dL_law_640 rfl rfl ?_
  refine kb_iload_n X 3 dL_law_641 rfl rfl ?_
  refine kb_iconst (v := (2 : Int32)) X dL_law_642 (by decide) ?_
  refine kn_iadd X i 2 dL_law_643 ?_
  refine kl_ld X Sc (i := i + 2) (by omega) (by omega) dL_law_644 ?_
  refine kb_aload_n X 0 dL_law_645 rfl rfl ?_
  refine kb_iload_n X 3 dL_law_646 rfl rfl ?_
  refine kb_iconst (v := (3 : Int32)) X dL_law_647 (by decide) ?_
  refine kn_iadd X i 3 dL_law_648 ?_
  refine kl_ld X Sc (i := i + 3) (by omega) (by omega) dL_law_649 ?_
  refine kc_Vi X (As := [.int (xs (i + 1)), .int (xs (i + 2)), .int (xs (i + 3))]) (rest := []) (wr := w6) (cw_X5_order h5 (xs (i + 1)) (xs (i + 2)) (xs (i + 3))) dL_law_650 rfl (List.Perm.refl _) mc_X5_order kl_L_82 mi_X5_order mv_X5_order kn_X5 0 r5 rfl rfl (na := 3) (by decide +kernel) rfl ⟨Nat.le_of_ble_eq_true rfl, Nat.le_of_ble_eq_true rfl⟩ ⟨rfl, rfl⟩ ⟨Nat.le_of_ble_eq_true rfl, Nat.le_of_ble_eq_true rfl⟩ (Nat.le_of_ble_eq_true rfl) (fun r5_ w5_ hp_ => ?_)
  obtain ⟨e5_, h5_⟩ := hp_
  refine kb_aload_n X 2 dL_law_653 rfl rfl ?_
  refine kb_aload_n X 0 dL_law_654 rfl rfl ?_
  refine kb_iload_n X 3 dL_law_655 rfl rfl ?_
  refine kb_iconst (v := (1 : Int32)) X dL_law_656 (by decide) ?_
  refine kn_iadd X i 1 dL_law_657 ?_
  refine kl_ld X Sc (i := i + 1) (by omega) (by omega) dL_law_658 ?_
  refine kb_aload_n X 0 dL_law_659 rfl rfl ?_
  refine kb_iload_n X 3 dL_law_660 rfl rfl ?_
  refine kb_iconst (v := (2 : Int32)) X dL_law_661 (by decide) ?_
  refine kn_iadd X i 2 dL_law_662 ?_
  refine kl_ld X Sc (i := i + 2) (by omega) (by omega) dL_law_663 ?_
  refine kb_aload_n X 0 dL_law_664 rfl rfl ?_
  refine kb_iload_n X 3 dL_law_665 rfl rfl ?_
  refine kb_iconst (v := (3 : Int32)) X dL_law_666 (by decide) ?_
  refine kn_iadd X i 3 dL_law_667 ?_
  refine kl_ld X Sc (i := i + 3) (by omega) (by omega) dL_law_668 ?_
  refine kc_Vi X (As := [.int (xs (i + 1)), .int (xs (i + 2)), .int (xs (i + 3))]) (rest := [.int r5_]) (wr := w5_) (cw_X6_order h6 (xs (i + 1)) (xs (i + 2)) (xs (i + 3))) dL_law_669 rfl List.perm_append_comm mc_X6_order kl_L_85 mi_X6_order mv_X6_order kn_X6 0 r6 rfl rfl (na := 3) (by decide +kernel) rfl ⟨Nat.le_of_ble_eq_true rfl, Nat.le_of_ble_eq_true rfl⟩ ⟨rfl, rfl⟩ ⟨Nat.le_of_ble_eq_true rfl, Nat.le_of_ble_eq_true rfl⟩ (Nat.le_of_ble_eq_true rfl) (fun r6_ w6_ hp_ => ?_)
  obtain ⟨e6_, h6_⟩ := hp_
  refine kw_perm (ws' := w5_ ++ w6_) List.perm_append_comm ?_
  refine kb_icmp_eq (tgt := 1035) X dL_law_672 (by decide) (fun _ => ?_) (fun q_ => absurd (e5_.trans e6_.symm) q_)
  exact C _ _ _ _ _ _ _ _ h5_ h6_
set_option maxHeartbeats 4000000 in
set_option maxRecDepth 100000 in
theorem lc_mutual (X : kX l g RL code 4 room_1 x) (Sc : kScr b L xs x) (hL : L ≤ 3584) (hi : i + 7 ≤ L) (h5 : XWp g m at_ an ar au adu ak adk as_ ao ado v us ks tf tn s w5) (h6 : RWp g a v us ks tf tn s w6) (C : LCg x g b i m at_ an ar au adu ak adk as_ ao ado a) : kW x 146 3487 677 [(0, .ref b), (1, .ref m), (2, .ref (a 0)), (3, .int (nI i))] [] (w5 ++ w6) := by
  obtain ⟨f5, r5⟩ := h5.at0
  obtain ⟨f6, r6⟩ := h6.at0
  refine kb_aload_n X 1 dL_law_677 rfl rfl ?_
  refine kb_aload_n X 0 dL_law_678 rfl rfl ?_
  refine kb_iload_n X 3 dL_law_679 rfl rfl ?_
  refine kb_iconst (v := (1 : Int32)) X dL_law_680 (by decide) ?_
  refine kn_iadd X i 1 dL_law_681 ?_
  refine kl_ld X Sc (i := i + 1) (by omega) (by omega) dL_law_682 ?_
  refine kb_aload_n X 0 dL_law_683 rfl rfl ?_
  refine kb_iload_n X 3 dL_law_684 rfl rfl ?_
  refine kb_iconst (v := (2 : Int32)) X dL_law_685 (by decide) ?_
  refine kn_iadd X i 2 dL_law_686 ?_
  refine kl_ld X Sc (i := i + 2) (by omega) (by omega) dL_law_687 ?_
  refine kb_aload_n X 0 dL_law_688 rfl rfl ?_
  refine kb_iload_n X 3 dL_law_689 rfl rfl ?_
  refine kb_iconst (v := (3 : Int32)) X dL_law_690 (by decide) ?_
  refine kn_iadd X i 3 dL_law_691 ?_
  refine kl_ld X Sc (i := i + 3) (by omega) (by omega) dL_law_692 ?_
  refine kc_Vi X (As := [.int (xs (i + 1)), .int (xs (i + 2)), .int (xs (i + 3))]) (rest := []) (wr := w6) (cw_X5_mutual h5 (xs (i + 1)) (xs (i + 2)) (xs (i + 3))) dL_law_693 rfl (List.Perm.refl _) mc_X5_mutual kl_L_86 mi_X5_mutual mv_X5_mutual kn_X5 0 r5 rfl rfl (na := 3) (by decide +kernel) rfl ⟨Nat.le_of_ble_eq_true rfl, Nat.le_of_ble_eq_true rfl⟩ ⟨rfl, rfl⟩ ⟨Nat.le_of_ble_eq_true rfl, Nat.le_of_ble_eq_true rfl⟩ (Nat.le_of_ble_eq_true rfl) (fun r5_ w5_ hp_ => ?_)
  obtain ⟨e5_, h5_⟩ := hp_
  refine kb_aload_n X 2 dL_law_696 rfl rfl ?_
  refine kb_aload_n X 0 dL_law_697 rfl rfl ?_
  refine kb_iload_n X 3 dL_law_698 rfl rfl ?_
  refine kb_iconst (v := (1 : Int32)) X dL_law_699 (by decide) ?_
  refine kn_iadd X i 1 dL_law_700 ?_
  refine kl_ld X Sc (i := i + 1) (by omega) (by omega) dL_law_701 ?_
  refine kb_aload_n X 0 dL_law_702 rfl rfl ?_
  refine kb_iload_n X 3 dL_law_703 rfl rfl ?_
  refine kb_iconst (v := (2 : Int32)) X dL_law_704 (by decide) ?_
  refine kn_iadd X i 2 dL_law_705 ?_
  refine kl_ld X Sc (i := i + 2) (by omega) (by omega) dL_law_706 ?_
  refine kb_aload_n X 0 dL_law_707 rfl rfl ?_
  refine kb_iload_n X 3 dL_law_708 rfl rfl ?_
  refine kb_iconst (v := (3 : Int32)) X dL_law_709 (by decide) ?_
  refine kn_iadd X i 3 dL_law_710 ?_
  refine kl_ld X Sc (i := i + 3) (by omega) (by omega) dL_law_711 ?_
  refine kc_Vi X (As := [.int (xs (i + 1)), .int (xs (i + 2)), .int (xs (i + 3))]) (rest := [.int r5_]) (wr := w5_) (cw_X6_mutual h6 (xs (i + 1)) (xs (i + 2)) (xs (i + 3))) dL_law_712 rfl List.perm_append_comm mc_X6_mutual kl_L_89 mi_X6_mutual mv_X6_mutual kn_X6 0 r6 rfl rfl (na := 3) (by decide +kernel) rfl ⟨Nat.le_of_ble_eq_true rfl, Nat.le_of_ble_eq_true rfl⟩ ⟨rfl, rfl⟩ ⟨Nat.le_of_ble_eq_true rfl, Nat.le_of_ble_eq_true rfl⟩ (Nat.le_of_ble_eq_true rfl) (fun r6_ w6_ hp_ => ?_)
  obtain ⟨e6_, h6_⟩ := hp_
  refine kw_perm (ws' := w5_ ++ w6_) List.perm_append_comm ?_
  refine kb_icmp_eq (tgt := 1035) X dL_law_715 (by decide) (fun _ => ?_) (fun q_ => absurd (e5_.trans e6_.symm) q_)
  exact C _ _ _ _ _ _ _ _ h5_ h6_
set_option maxHeartbeats 4000000 in
set_option maxRecDepth 100000 in
theorem lc_see (X : kX l g RL code 4 room_1 x) (Sc : kScr b L xs x) (hL : L ≤ 3584) (hi : i + 7 ≤ L) (h5 : XWp g m at_ an ar au adu ak adk as_ ao ado v us ks tf tn s w5) (h6 : RWp g a v us ks tf tn s w6) (C : LCg x g b i m at_ an ar au adu ak adk as_ ao ado a) : kW x 146 3487 720 [(0, .ref b), (1, .ref m), (2, .ref (a 0)), (3, .int (nI i))] [] (w5 ++ w6) := by
  obtain ⟨f5, r5⟩ := h5.at0
  obtain ⟨f6, r6⟩ := h6.at0
  by_cases hz : xs (i + 5) = 0
  · skip
    refine kb_aload_n X 1 dL_law_720 rfl rfl ?_
    refine kb_aload_n X 0 dL_law_721 rfl rfl ?_
    refine kb_iload_n X 3 dL_law_722 rfl rfl ?_
    refine kb_iconst (v := (1 : Int32)) X dL_law_723 (by decide) ?_
    refine kn_iadd X i 1 dL_law_724 ?_
    refine kl_ld X Sc (i := i + 1) (by omega) (by omega) dL_law_725 ?_
    refine kb_aload_n X 0 dL_law_726 rfl rfl ?_
    refine kb_iload_n X 3 dL_law_727 rfl rfl ?_
    refine kb_iconst (v := (2 : Int32)) X dL_law_728 (by decide) ?_
    refine kn_iadd X i 2 dL_law_729 ?_
    refine kl_ld X Sc (i := i + 2) (by omega) (by omega) dL_law_730 ?_
    refine kb_aload_n X 0 dL_law_731 rfl rfl ?_
    refine kb_iload_n X 3 dL_law_732 rfl rfl ?_
    refine kb_iconst (v := (3 : Int32)) X dL_law_733 (by decide) ?_
    refine kn_iadd X i 3 dL_law_734 ?_
    refine kl_ld X Sc (i := i + 3) (by omega) (by omega) dL_law_735 ?_
    refine kb_aload_n X 0 dL_law_736 rfl rfl ?_
    refine kb_iload_n X 3 dL_law_737 rfl rfl ?_
    refine kb_iconst (v := (4 : Int32)) X dL_law_738 (by decide) ?_
    refine kn_iadd X i 4 dL_law_739 ?_
    refine kl_ld X Sc (i := i + 4) (by omega) (by omega) dL_law_740 ?_
    refine kb_aload_n X 0 dL_law_741 rfl rfl ?_
    refine kb_iload_n X 3 dL_law_742 rfl rfl ?_
    refine kb_iconst (v := (5 : Int32)) X dL_law_743 (by decide) ?_
    refine kn_iadd X i 5 dL_law_744 ?_
    refine kl_ld X Sc (i := i + 5) (by omega) (by omega) dL_law_745 ?_
    refine kb_if_eq (tgt := 753) X dL_law_746 (by decide) (fun _ => ?_) (fun q_ => absurd hz q_)
    refine kb_iconst (v := (0 : Int32)) X dL_law_753 (by decide) ?_
    refine kc_Vi X (As := [.int (xs (i + 1)), .int (xs (i + 2)), .int (xs (i + 3)), .int (xs (i + 4)), .int (zI false)]) (rest := []) (wr := w6) (cw_X5_see h5 (xs (i + 1)) (xs (i + 2)) (xs (i + 3)) (xs (i + 4)) false) dL_law_754 rfl (List.Perm.refl _) mc_X5_see kl_L_90 mi_X5_see mv_X5_see kn_X5 0 r5 rfl rfl (na := 5) (by decide +kernel) rfl ⟨Nat.le_of_ble_eq_true rfl, Nat.le_of_ble_eq_true rfl⟩ ⟨rfl, rfl⟩ ⟨Nat.le_of_ble_eq_true rfl, Nat.le_of_ble_eq_true rfl⟩ (Nat.le_of_ble_eq_true rfl) (fun r5_ w5_ hp_ => ?_)
    obtain ⟨e5_, h5_⟩ := hp_
    refine kb_aload_n X 2 dL_law_757 rfl rfl ?_
    refine kb_aload_n X 0 dL_law_758 rfl rfl ?_
    refine kb_iload_n X 3 dL_law_759 rfl rfl ?_
    refine kb_iconst (v := (1 : Int32)) X dL_law_760 (by decide) ?_
    refine kn_iadd X i 1 dL_law_761 ?_
    refine kl_ld X Sc (i := i + 1) (by omega) (by omega) dL_law_762 ?_
    refine kb_aload_n X 0 dL_law_763 rfl rfl ?_
    refine kb_iload_n X 3 dL_law_764 rfl rfl ?_
    refine kb_iconst (v := (2 : Int32)) X dL_law_765 (by decide) ?_
    refine kn_iadd X i 2 dL_law_766 ?_
    refine kl_ld X Sc (i := i + 2) (by omega) (by omega) dL_law_767 ?_
    refine kb_aload_n X 0 dL_law_768 rfl rfl ?_
    refine kb_iload_n X 3 dL_law_769 rfl rfl ?_
    refine kb_iconst (v := (3 : Int32)) X dL_law_770 (by decide) ?_
    refine kn_iadd X i 3 dL_law_771 ?_
    refine kl_ld X Sc (i := i + 3) (by omega) (by omega) dL_law_772 ?_
    refine kb_aload_n X 0 dL_law_773 rfl rfl ?_
    refine kb_iload_n X 3 dL_law_774 rfl rfl ?_
    refine kb_iconst (v := (4 : Int32)) X dL_law_775 (by decide) ?_
    refine kn_iadd X i 4 dL_law_776 ?_
    refine kl_ld X Sc (i := i + 4) (by omega) (by omega) dL_law_777 ?_
    refine kb_aload_n X 0 dL_law_778 rfl rfl ?_
    refine kb_iload_n X 3 dL_law_779 rfl rfl ?_
    refine kb_iconst (v := (5 : Int32)) X dL_law_780 (by decide) ?_
    refine kn_iadd X i 5 dL_law_781 ?_
    refine kl_ld X Sc (i := i + 5) (by omega) (by omega) dL_law_782 ?_
    refine kb_if_eq (tgt := 790) X dL_law_783 (by decide) (fun _ => ?_) (fun q_ => absurd hz q_)
    refine kb_iconst (v := (0 : Int32)) X dL_law_790 (by decide) ?_
    refine kc_Vi X (As := [.int (xs (i + 1)), .int (xs (i + 2)), .int (xs (i + 3)), .int (xs (i + 4)), .int (zI false)]) (rest := [.int r5_]) (wr := w5_) (cw_X6_see h6 (xs (i + 1)) (xs (i + 2)) (xs (i + 3)) (xs (i + 4)) false) dL_law_791 rfl List.perm_append_comm mc_X6_see kl_L_94 mi_X6_see mv_X6_see kn_X6 0 r6 rfl rfl (na := 5) (by decide +kernel) rfl ⟨Nat.le_of_ble_eq_true rfl, Nat.le_of_ble_eq_true rfl⟩ ⟨rfl, rfl⟩ ⟨Nat.le_of_ble_eq_true rfl, Nat.le_of_ble_eq_true rfl⟩ (Nat.le_of_ble_eq_true rfl) (fun r6_ w6_ hp_ => ?_)
    obtain ⟨e6_, h6_⟩ := hp_
    refine kw_perm (ws' := w5_ ++ w6_) List.perm_append_comm ?_
    refine kb_icmp_eq (tgt := 1035) X dL_law_794 (by decide) (fun _ => ?_) (fun q_ => absurd (e5_.trans e6_.symm) q_)
    exact C _ _ _ _ _ _ _ _ h5_ h6_
  · skip
    refine kb_aload_n X 1 dL_law_720 rfl rfl ?_
    refine kb_aload_n X 0 dL_law_721 rfl rfl ?_
    refine kb_iload_n X 3 dL_law_722 rfl rfl ?_
    refine kb_iconst (v := (1 : Int32)) X dL_law_723 (by decide) ?_
    refine kn_iadd X i 1 dL_law_724 ?_
    refine kl_ld X Sc (i := i + 1) (by omega) (by omega) dL_law_725 ?_
    refine kb_aload_n X 0 dL_law_726 rfl rfl ?_
    refine kb_iload_n X 3 dL_law_727 rfl rfl ?_
    refine kb_iconst (v := (2 : Int32)) X dL_law_728 (by decide) ?_
    refine kn_iadd X i 2 dL_law_729 ?_
    refine kl_ld X Sc (i := i + 2) (by omega) (by omega) dL_law_730 ?_
    refine kb_aload_n X 0 dL_law_731 rfl rfl ?_
    refine kb_iload_n X 3 dL_law_732 rfl rfl ?_
    refine kb_iconst (v := (3 : Int32)) X dL_law_733 (by decide) ?_
    refine kn_iadd X i 3 dL_law_734 ?_
    refine kl_ld X Sc (i := i + 3) (by omega) (by omega) dL_law_735 ?_
    refine kb_aload_n X 0 dL_law_736 rfl rfl ?_
    refine kb_iload_n X 3 dL_law_737 rfl rfl ?_
    refine kb_iconst (v := (4 : Int32)) X dL_law_738 (by decide) ?_
    refine kn_iadd X i 4 dL_law_739 ?_
    refine kl_ld X Sc (i := i + 4) (by omega) (by omega) dL_law_740 ?_
    refine kb_aload_n X 0 dL_law_741 rfl rfl ?_
    refine kb_iload_n X 3 dL_law_742 rfl rfl ?_
    refine kb_iconst (v := (5 : Int32)) X dL_law_743 (by decide) ?_
    refine kn_iadd X i 5 dL_law_744 ?_
    refine kl_ld X Sc (i := i + 5) (by omega) (by omega) dL_law_745 ?_
    refine kb_if_eq (tgt := 753) X dL_law_746 (by decide) (fun q_ => absurd q_ hz) (fun _ => ?_)
    refine kb_iconst (v := (1 : Int32)) X dL_law_749 (by decide) ?_
    refine kb_goto (tgt := 754) X dL_law_750 (by decide) ?_
    refine kc_Vi X (As := [.int (xs (i + 1)), .int (xs (i + 2)), .int (xs (i + 3)), .int (xs (i + 4)), .int (zI true)]) (rest := []) (wr := w6) (cw_X5_see h5 (xs (i + 1)) (xs (i + 2)) (xs (i + 3)) (xs (i + 4)) true) dL_law_754 rfl (List.Perm.refl _) mc_X5_see kl_L_90 mi_X5_see mv_X5_see kn_X5 0 r5 rfl rfl (na := 5) (by decide +kernel) rfl ⟨Nat.le_of_ble_eq_true rfl, Nat.le_of_ble_eq_true rfl⟩ ⟨rfl, rfl⟩ ⟨Nat.le_of_ble_eq_true rfl, Nat.le_of_ble_eq_true rfl⟩ (Nat.le_of_ble_eq_true rfl) (fun r5_ w5_ hp_ => ?_)
    obtain ⟨e5_, h5_⟩ := hp_
    refine kb_aload_n X 2 dL_law_757 rfl rfl ?_
    refine kb_aload_n X 0 dL_law_758 rfl rfl ?_
    refine kb_iload_n X 3 dL_law_759 rfl rfl ?_
    refine kb_iconst (v := (1 : Int32)) X dL_law_760 (by decide) ?_
    refine kn_iadd X i 1 dL_law_761 ?_
    refine kl_ld X Sc (i := i + 1) (by omega) (by omega) dL_law_762 ?_
    refine kb_aload_n X 0 dL_law_763 rfl rfl ?_
    refine kb_iload_n X 3 dL_law_764 rfl rfl ?_
    refine kb_iconst (v := (2 : Int32)) X dL_law_765 (by decide) ?_
    refine kn_iadd X i 2 dL_law_766 ?_
    refine kl_ld X Sc (i := i + 2) (by omega) (by omega) dL_law_767 ?_
    refine kb_aload_n X 0 dL_law_768 rfl rfl ?_
    refine kb_iload_n X 3 dL_law_769 rfl rfl ?_
    refine kb_iconst (v := (3 : Int32)) X dL_law_770 (by decide) ?_
    refine kn_iadd X i 3 dL_law_771 ?_
    refine kl_ld X Sc (i := i + 3) (by omega) (by omega) dL_law_772 ?_
    refine kb_aload_n X 0 dL_law_773 rfl rfl ?_
    refine kb_iload_n X 3 dL_law_774 rfl rfl ?_
    refine kb_iconst (v := (4 : Int32)) X dL_law_775 (by decide) ?_
    refine kn_iadd X i 4 dL_law_776 ?_
    refine kl_ld X Sc (i := i + 4) (by omega) (by omega) dL_law_777 ?_
    refine kb_aload_n X 0 dL_law_778 rfl rfl ?_
    refine kb_iload_n X 3 dL_law_779 rfl rfl ?_
    refine kb_iconst (v := (5 : Int32)) X dL_law_780 (by decide) ?_
    refine kn_iadd X i 5 dL_law_781 ?_
    refine kl_ld X Sc (i := i + 5) (by omega) (by omega) dL_law_782 ?_
    refine kb_if_eq (tgt := 790) X dL_law_783 (by decide) (fun q_ => absurd q_ hz) (fun _ => ?_)
    refine kb_iconst (v := (1 : Int32)) X dL_law_786 (by decide) ?_
    refine kb_goto (tgt := 791) X dL_law_787 (by decide) ?_
    refine kc_Vi X (As := [.int (xs (i + 1)), .int (xs (i + 2)), .int (xs (i + 3)), .int (xs (i + 4)), .int (zI true)]) (rest := [.int r5_]) (wr := w5_) (cw_X6_see h6 (xs (i + 1)) (xs (i + 2)) (xs (i + 3)) (xs (i + 4)) true) dL_law_791 rfl List.perm_append_comm mc_X6_see kl_L_94 mi_X6_see mv_X6_see kn_X6 0 r6 rfl rfl (na := 5) (by decide +kernel) rfl ⟨Nat.le_of_ble_eq_true rfl, Nat.le_of_ble_eq_true rfl⟩ ⟨rfl, rfl⟩ ⟨Nat.le_of_ble_eq_true rfl, Nat.le_of_ble_eq_true rfl⟩ (Nat.le_of_ble_eq_true rfl) (fun r6_ w6_ hp_ => ?_)
    obtain ⟨e6_, h6_⟩ := hp_
    refine kw_perm (ws' := w5_ ++ w6_) List.perm_append_comm ?_
    refine kb_icmp_eq (tgt := 1035) X dL_law_794 (by decide) (fun _ => ?_) (fun q_ => absurd (e5_.trans e6_.symm) q_)
    exact C _ _ _ _ _ _ _ _ h5_ h6_
set_option maxHeartbeats 4000000 in
set_option maxRecDepth 100000 in
theorem lc_forget (X : kX l g RL code 4 room_1 x) (Sc : kScr b L xs x) (hL : L ≤ 3584) (hi : i + 7 ≤ L) (h5 : XWp g m at_ an ar au adu ak adk as_ ao ado v us ks tf tn s w5) (h6 : RWp g a v us ks tf tn s w6) (C : LCg x g b i m at_ an ar au adu ak adk as_ ao ado a) : kW x 146 3487 799 [(0, .ref b), (1, .ref m), (2, .ref (a 0)), (3, .int (nI i))] [] (w5 ++ w6) := by
  obtain ⟨f5, r5⟩ := h5.at0
  obtain ⟨f6, r6⟩ := h6.at0
  refine kb_aload_n X 1 dL_law_799 rfl rfl ?_
  refine kc_Vi X (As := []) (rest := []) (wr := w6) (cw_X5_forget h5) dL_law_800 rfl (List.Perm.refl _) mc_X5_forget kl_L_95 mi_X5_forget mv_X5_forget kn_X5 0 r5 rfl rfl (na := 0) (by decide +kernel) rfl ⟨Nat.le_of_ble_eq_true rfl, Nat.le_of_ble_eq_true rfl⟩ ⟨rfl, rfl⟩ ⟨Nat.le_of_ble_eq_true rfl, Nat.le_of_ble_eq_true rfl⟩ (Nat.le_of_ble_eq_true rfl) (fun r5_ w5_ hp_ => ?_)
  obtain ⟨e5_, h5_⟩ := hp_
  refine kb_aload_n X 2 dL_law_803 rfl rfl ?_
  refine kc_Vi X (As := []) (rest := [.int r5_]) (wr := w5_) (cw_X6_forget h6) dL_law_804 rfl List.perm_append_comm mc_X6_forget kl_L_98 mi_X6_forget mv_X6_forget kn_X6 0 r6 rfl rfl (na := 0) (by decide +kernel) rfl ⟨Nat.le_of_ble_eq_true rfl, Nat.le_of_ble_eq_true rfl⟩ ⟨rfl, rfl⟩ ⟨Nat.le_of_ble_eq_true rfl, Nat.le_of_ble_eq_true rfl⟩ (Nat.le_of_ble_eq_true rfl) (fun r6_ w6_ hp_ => ?_)
  obtain ⟨e6_, h6_⟩ := hp_
  refine kw_perm (ws' := w5_ ++ w6_) List.perm_append_comm ?_
  refine kb_icmp_eq (tgt := 1035) X dL_law_807 (by decide) (fun _ => ?_) (fun q_ => absurd (e5_.trans e6_.symm) q_)
  exact C _ _ _ _ _ _ _ _ h5_ h6_
set_option maxHeartbeats 4000000 in
set_option maxRecDepth 100000 in
theorem lc_felt (X : kX l g RL code 4 room_1 x) (Sc : kScr b L xs x) (hL : L ≤ 3584) (hi : i + 7 ≤ L) (h5 : XWp g m at_ an ar au adu ak adk as_ ao ado v us ks tf tn s w5) (h6 : RWp g a v us ks tf tn s w6) (C : LCg x g b i m at_ an ar au adu ak adk as_ ao ado a) : kW x 146 3487 812 [(0, .ref b), (1, .ref m), (2, .ref (a 0)), (3, .int (nI i))] [] (w5 ++ w6) := by
  obtain ⟨f5, r5⟩ := h5.at0
  obtain ⟨f6, r6⟩ := h6.at0
  refine kb_aload_n X 1 dL_law_812 rfl rfl ?_
  refine kb_aload_n X 0 dL_law_813 rfl rfl ?_
  refine kb_iload_n X 3 dL_law_814 rfl rfl ?_
  refine kb_iconst (v := (1 : Int32)) X dL_law_815 (by decide) ?_
  refine kn_iadd X i 1 dL_law_816 ?_
  refine kl_ld X Sc (i := i + 1) (by omega) (by omega) dL_law_817 ?_
  refine kb_aload_n X 0 dL_law_818 rfl rfl ?_
  refine kb_iload_n X 3 dL_law_819 rfl rfl ?_
  refine kb_iconst (v := (2 : Int32)) X dL_law_820 (by decide) ?_
  refine kn_iadd X i 2 dL_law_821 ?_
  refine kl_ld X Sc (i := i + 2) (by omega) (by omega) dL_law_822 ?_
  refine kc_Vi X (As := [.int (xs (i + 1)), .int (xs (i + 2))]) (rest := []) (wr := w6) (cw_X5_felt h5 (xs (i + 1)) (xs (i + 2))) dL_law_823 rfl (List.Perm.refl _) mc_X5_felt kl_L_99 mi_X5_felt mv_X5_felt kn_X5 0 r5 rfl rfl (na := 2) (by decide +kernel) rfl ⟨Nat.le_of_ble_eq_true rfl, Nat.le_of_ble_eq_true rfl⟩ ⟨rfl, rfl⟩ ⟨Nat.le_of_ble_eq_true rfl, Nat.le_of_ble_eq_true rfl⟩ (Nat.le_of_ble_eq_true rfl) (fun r5_ w5_ hp_ => ?_)
  obtain ⟨e5_, h5_⟩ := hp_
  refine kb_aload_n X 2 dL_law_826 rfl rfl ?_
  refine kb_aload_n X 0 dL_law_827 rfl rfl ?_
  refine kb_iload_n X 3 dL_law_828 rfl rfl ?_
  refine kb_iconst (v := (1 : Int32)) X dL_law_829 (by decide) ?_
  refine kn_iadd X i 1 dL_law_830 ?_
  refine kl_ld X Sc (i := i + 1) (by omega) (by omega) dL_law_831 ?_
  refine kb_aload_n X 0 dL_law_832 rfl rfl ?_
  refine kb_iload_n X 3 dL_law_833 rfl rfl ?_
  refine kb_iconst (v := (2 : Int32)) X dL_law_834 (by decide) ?_
  refine kn_iadd X i 2 dL_law_835 ?_
  refine kl_ld X Sc (i := i + 2) (by omega) (by omega) dL_law_836 ?_
  refine kc_Vi X (As := [.int (xs (i + 1)), .int (xs (i + 2))]) (rest := [.int r5_]) (wr := w5_) (cw_X6_felt h6 (xs (i + 1)) (xs (i + 2))) dL_law_837 rfl List.perm_append_comm mc_X6_felt kl_L_102 mi_X6_felt mv_X6_felt kn_X6 0 r6 rfl rfl (na := 2) (by decide +kernel) rfl ⟨Nat.le_of_ble_eq_true rfl, Nat.le_of_ble_eq_true rfl⟩ ⟨rfl, rfl⟩ ⟨Nat.le_of_ble_eq_true rfl, Nat.le_of_ble_eq_true rfl⟩ (Nat.le_of_ble_eq_true rfl) (fun r6_ w6_ hp_ => ?_)
  obtain ⟨e6_, h6_⟩ := hp_
  refine kw_perm (ws' := w5_ ++ w6_) List.perm_append_comm ?_
  refine kb_icmp_eq (tgt := 1035) X dL_law_840 (by decide) (fun _ => ?_) (fun q_ => absurd (e5_.trans e6_.symm) q_)
  exact C _ _ _ _ _ _ _ _ h5_ h6_
set_option maxHeartbeats 4000000 in
set_option maxRecDepth 100000 in
theorem lc_kinds (X : kX l g RL code 4 room_1 x) (Sc : kScr b L xs x) (hL : L ≤ 3584) (hi : i + 7 ≤ L) (h5 : XWp g m at_ an ar au adu ak adk as_ ao ado v us ks tf tn s w5) (h6 : RWp g a v us ks tf tn s w6) (C : LCg x g b i m at_ an ar au adu ak adk as_ ao ado a) : kW x 146 3487 845 [(0, .ref b), (1, .ref m), (2, .ref (a 0)), (3, .int (nI i))] [] (w5 ++ w6) := by
  obtain ⟨f5, r5⟩ := h5.at0
  obtain ⟨f6, r6⟩ := h6.at0
  refine kb_aload_n X 1 dL_law_845 rfl rfl ?_
  refine kb_aload_n X 0 dL_law_846 rfl rfl ?_
  refine kb_iload_n X 3 dL_law_847 rfl rfl ?_
  refine kb_iconst (v := (1 : Int32)) X dL_law_848 (by decide) ?_
  refine kn_iadd X i 1 dL_law_849 ?_
  refine kl_ld X Sc (i := i + 1) (by omega) (by omega) dL_law_850 ?_
  refine kc_Vi X (As := [.int (xs (i + 1))]) (rest := []) (wr := w6) (cw_X5_kinds h5 (xs (i + 1))) dL_law_851 rfl (List.Perm.refl _) mc_X5_kinds kl_L_103 mi_X5_kinds mv_X5_kinds kn_X5 0 r5 rfl rfl (na := 1) (by decide +kernel) rfl ⟨Nat.le_of_ble_eq_true rfl, Nat.le_of_ble_eq_true rfl⟩ ⟨rfl, rfl⟩ ⟨Nat.le_of_ble_eq_true rfl, Nat.le_of_ble_eq_true rfl⟩ (Nat.le_of_ble_eq_true rfl) (fun r5_ w5_ hp_ => ?_)
  obtain ⟨e5_, h5_⟩ := hp_
  refine kb_aload_n X 2 dL_law_854 rfl rfl ?_
  refine kb_aload_n X 0 dL_law_855 rfl rfl ?_
  refine kb_iload_n X 3 dL_law_856 rfl rfl ?_
  refine kb_iconst (v := (1 : Int32)) X dL_law_857 (by decide) ?_
  refine kn_iadd X i 1 dL_law_858 ?_
  refine kl_ld X Sc (i := i + 1) (by omega) (by omega) dL_law_859 ?_
  refine kc_Vi X (As := [.int (xs (i + 1))]) (rest := [.int r5_]) (wr := w5_) (cw_X6_kinds h6 (xs (i + 1))) dL_law_860 rfl List.perm_append_comm mc_X6_kinds kl_L_106 mi_X6_kinds mv_X6_kinds kn_X6 0 r6 rfl rfl (na := 1) (by decide +kernel) rfl ⟨Nat.le_of_ble_eq_true rfl, Nat.le_of_ble_eq_true rfl⟩ ⟨rfl, rfl⟩ ⟨Nat.le_of_ble_eq_true rfl, Nat.le_of_ble_eq_true rfl⟩ (Nat.le_of_ble_eq_true rfl) (fun r6_ w6_ hp_ => ?_)
  obtain ⟨e6_, h6_⟩ := hp_
  refine kw_perm (ws' := w5_ ++ w6_) List.perm_append_comm ?_
  refine kb_icmp_eq (tgt := 1035) X dL_law_863 (by decide) (fun _ => ?_) (fun q_ => absurd (e5_.trans e6_.symm) q_)
  exact C _ _ _ _ _ _ _ _ h5_ h6_
set_option maxHeartbeats 4000000 in
set_option maxRecDepth 100000 in
theorem lc_rain (X : kX l g RL code 4 room_1 x) (Sc : kScr b L xs x) (hL : L ≤ 3584) (hi : i + 7 ≤ L) (h5 : XWp g m at_ an ar au adu ak adk as_ ao ado v us ks tf tn s w5) (h6 : RWp g a v us ks tf tn s w6) (C : LCg x g b i m at_ an ar au adu ak adk as_ ao ado a) : kW x 146 3487 868 [(0, .ref b), (1, .ref m), (2, .ref (a 0)), (3, .int (nI i))] [] (w5 ++ w6) := by
  obtain ⟨f5, r5⟩ := h5.at0
  obtain ⟨f6, r6⟩ := h6.at0
  refine kb_aload_n X 1 dL_law_868 rfl rfl ?_
  refine kb_aload_n X 0 dL_law_869 rfl rfl ?_
  refine kb_iload_n X 3 dL_law_870 rfl rfl ?_
  refine kb_iconst (v := (1 : Int32)) X dL_law_871 (by decide) ?_
  refine kn_iadd X i 1 dL_law_872 ?_
  refine kl_ld X Sc (i := i + 1) (by omega) (by omega) dL_law_873 ?_
  refine kb_aload_n X 0 dL_law_874 rfl rfl ?_
  refine kb_iload_n X 3 dL_law_875 rfl rfl ?_
  refine kb_iconst (v := (2 : Int32)) X dL_law_876 (by decide) ?_
  refine kn_iadd X i 2 dL_law_877 ?_
  refine kl_ld X Sc (i := i + 2) (by omega) (by omega) dL_law_878 ?_
  refine kb_aload_n X 0 dL_law_879 rfl rfl ?_
  refine kb_iload_n X 3 dL_law_880 rfl rfl ?_
  refine kb_iconst (v := (3 : Int32)) X dL_law_881 (by decide) ?_
  refine kn_iadd X i 3 dL_law_882 ?_
  refine kl_ld X Sc (i := i + 3) (by omega) (by omega) dL_law_883 ?_
  refine kb_aload_n X 0 dL_law_884 rfl rfl ?_
  refine kb_iload_n X 3 dL_law_885 rfl rfl ?_
  refine kb_iconst (v := (4 : Int32)) X dL_law_886 (by decide) ?_
  refine kn_iadd X i 4 dL_law_887 ?_
  refine kl_ld X Sc (i := i + 4) (by omega) (by omega) dL_law_888 ?_
  refine kb_aload_n X 0 dL_law_889 rfl rfl ?_
  refine kb_iload_n X 3 dL_law_890 rfl rfl ?_
  refine kb_iconst (v := (5 : Int32)) X dL_law_891 (by decide) ?_
  refine kn_iadd X i 5 dL_law_892 ?_
  refine kl_ld X Sc (i := i + 5) (by omega) (by omega) dL_law_893 ?_
  refine kb_aload_n X 0 dL_law_894 rfl rfl ?_
  refine kb_iload_n X 3 dL_law_895 rfl rfl ?_
  refine kb_bipush (v := (6 : Int32)) X dL_law_896 (by decide) ?_
  refine kn_iadd X i 6 dL_law_898 ?_
  refine kl_ld X Sc (i := i + 6) (by omega) (by omega) dL_law_899 ?_
  refine kc_Vi X (As := [.int (xs (i + 1)), .int (xs (i + 2)), .int (xs (i + 3)), .int (xs (i + 4)), .int (xs (i + 5)), .int (xs (i + 6))]) (rest := []) (wr := w6) (cw_X5_rain h5 (xs (i + 1)) (xs (i + 2)) (xs (i + 3)) (xs (i + 4)) (xs (i + 5)) (xs (i + 6))) dL_law_900 rfl (List.Perm.refl _) mc_X5_rain kl_L_107 mi_X5_rain mv_X5_rain kn_X5 0 r5 rfl rfl (na := 6) (by decide +kernel) rfl ⟨Nat.le_of_ble_eq_true rfl, Nat.le_of_ble_eq_true rfl⟩ ⟨rfl, rfl⟩ ⟨Nat.le_of_ble_eq_true rfl, Nat.le_of_ble_eq_true rfl⟩ (Nat.le_of_ble_eq_true rfl) (fun r5_ w5_ hp_ => ?_)
  obtain ⟨e5_, h5_⟩ := hp_
  refine kb_aload_n X 2 dL_law_903 rfl rfl ?_
  refine kb_aload_n X 0 dL_law_904 rfl rfl ?_
  refine kb_iload_n X 3 dL_law_905 rfl rfl ?_
  refine kb_iconst (v := (1 : Int32)) X dL_law_906 (by decide) ?_
  refine kn_iadd X i 1 dL_law_907 ?_
  refine kl_ld X Sc (i := i + 1) (by omega) (by omega) dL_law_908 ?_
  refine kb_aload_n X 0 dL_law_909 rfl rfl ?_
  refine kb_iload_n X 3 dL_law_910 rfl rfl ?_
  refine kb_iconst (v := (2 : Int32)) X dL_law_911 (by decide) ?_
  refine kn_iadd X i 2 dL_law_912 ?_
  refine kl_ld X Sc (i := i + 2) (by omega) (by omega) dL_law_913 ?_
  refine kb_aload_n X 0 dL_law_914 rfl rfl ?_
  refine kb_iload_n X 3 dL_law_915 rfl rfl ?_
  refine kb_iconst (v := (3 : Int32)) X dL_law_916 (by decide) ?_
  refine kn_iadd X i 3 dL_law_917 ?_
  refine kl_ld X Sc (i := i + 3) (by omega) (by omega) dL_law_918 ?_
  refine kb_aload_n X 0 dL_law_919 rfl rfl ?_
  refine kb_iload_n X 3 dL_law_920 rfl rfl ?_
  refine kb_iconst (v := (4 : Int32)) X dL_law_921 (by decide) ?_
  refine kn_iadd X i 4 dL_law_922 ?_
  refine kl_ld X Sc (i := i + 4) (by omega) (by omega) dL_law_923 ?_
  refine kb_aload_n X 0 dL_law_924 rfl rfl ?_
  refine kb_iload_n X 3 dL_law_925 rfl rfl ?_
  refine kb_iconst (v := (5 : Int32)) X dL_law_926 (by decide) ?_
  refine kn_iadd X i 5 dL_law_927 ?_
  refine kl_ld X Sc (i := i + 5) (by omega) (by omega) dL_law_928 ?_
  refine kb_aload_n X 0 dL_law_929 rfl rfl ?_
  refine kb_iload_n X 3 dL_law_930 rfl rfl ?_
  refine kb_bipush (v := (6 : Int32)) X dL_law_931 (by decide) ?_
  refine kn_iadd X i 6 dL_law_933 ?_
  refine kl_ld X Sc (i := i + 6) (by omega) (by omega) dL_law_934 ?_
  refine kc_Vi X (As := [.int (xs (i + 1)), .int (xs (i + 2)), .int (xs (i + 3)), .int (xs (i + 4)), .int (xs (i + 5)), .int (xs (i + 6))]) (rest := [.int r5_]) (wr := w5_) (cw_X6_rain h6 (xs (i + 1)) (xs (i + 2)) (xs (i + 3)) (xs (i + 4)) (xs (i + 5)) (xs (i + 6))) dL_law_935 rfl List.perm_append_comm mc_X6_rain kl_L_111 mi_X6_rain mv_X6_rain kn_X6 0 r6 rfl rfl (na := 6) (by decide +kernel) rfl ⟨Nat.le_of_ble_eq_true rfl, Nat.le_of_ble_eq_true rfl⟩ ⟨rfl, rfl⟩ ⟨Nat.le_of_ble_eq_true rfl, Nat.le_of_ble_eq_true rfl⟩ (Nat.le_of_ble_eq_true rfl) (fun r6_ w6_ hp_ => ?_)
  obtain ⟨e6_, h6_⟩ := hp_
  refine kw_perm (ws' := w5_ ++ w6_) List.perm_append_comm ?_
  refine kb_icmp_eq (tgt := 1035) X dL_law_938 (by decide) (fun _ => ?_) (fun q_ => absurd (e5_.trans e6_.symm) q_)
  exact C _ _ _ _ _ _ _ _ h5_ h6_
set_option maxHeartbeats 4000000 in
set_option maxRecDepth 100000 in
theorem lc_year (X : kX l g RL code 4 room_1 x) (Sc : kScr b L xs x) (hL : L ≤ 3584) (hi : i + 7 ≤ L) (h5 : XWp g m at_ an ar au adu ak adk as_ ao ado v us ks tf tn s w5) (h6 : RWp g a v us ks tf tn s w6) (C : LCg x g b i m at_ an ar au adu ak adk as_ ao ado a) : kW x 146 3487 943 [(0, .ref b), (1, .ref m), (2, .ref (a 0)), (3, .int (nI i))] [] (w5 ++ w6) := by
  obtain ⟨f5, r5⟩ := h5.at0
  obtain ⟨f6, r6⟩ := h6.at0
  refine kb_aload_n X 1 dL_law_943 rfl rfl ?_
  refine kb_aload_n X 0 dL_law_944 rfl rfl ?_
  refine kb_iload_n X 3 dL_law_945 rfl rfl ?_
  refine kb_iconst (v := (1 : Int32)) X dL_law_946 (by decide) ?_
  refine kn_iadd X i 1 dL_law_947 ?_
  refine kl_ld X Sc (i := i + 1) (by omega) (by omega) dL_law_948 ?_
  refine kb_aload_n X 0 dL_law_949 rfl rfl ?_
  refine kb_iload_n X 3 dL_law_950 rfl rfl ?_
  refine kb_iconst (v := (2 : Int32)) X dL_law_951 (by decide) ?_
  refine kn_iadd X i 2 dL_law_952 ?_
  refine kl_ld X Sc (i := i + 2) (by omega) (by omega) dL_law_953 ?_
  refine kb_aload_n X 0 dL_law_954 rfl rfl ?_
  refine kb_iload_n X 3 dL_law_955 rfl rfl ?_
  refine kb_iconst (v := (3 : Int32)) X dL_law_956 (by decide) ?_
  refine kn_iadd X i 3 dL_law_957 ?_
  refine kl_ld X Sc (i := i + 3) (by omega) (by omega) dL_law_958 ?_
  refine kc_Vi X (As := [.int (xs (i + 1)), .int (xs (i + 2)), .int (xs (i + 3))]) (rest := []) (wr := w6) (cw_X5_year h5 (xs (i + 1)) (xs (i + 2)) (xs (i + 3))) dL_law_959 rfl (List.Perm.refl _) mc_X5_year kl_L_112 mi_X5_year mv_X5_year kn_X5 0 r5 rfl rfl (na := 3) (by decide +kernel) rfl ⟨Nat.le_of_ble_eq_true rfl, Nat.le_of_ble_eq_true rfl⟩ ⟨rfl, rfl⟩ ⟨Nat.le_of_ble_eq_true rfl, Nat.le_of_ble_eq_true rfl⟩ (Nat.le_of_ble_eq_true rfl) (fun r5_ w5_ hp_ => ?_)
  obtain ⟨e5_, h5_⟩ := hp_
  refine kb_aload_n X 2 dL_law_962 rfl rfl ?_
  refine kb_aload_n X 0 dL_law_963 rfl rfl ?_
  refine kb_iload_n X 3 dL_law_964 rfl rfl ?_
  refine kb_iconst (v := (1 : Int32)) X dL_law_965 (by decide) ?_
  refine kn_iadd X i 1 dL_law_966 ?_
  refine kl_ld X Sc (i := i + 1) (by omega) (by omega) dL_law_967 ?_
  refine kb_aload_n X 0 dL_law_968 rfl rfl ?_
  refine kb_iload_n X 3 dL_law_969 rfl rfl ?_
  refine kb_iconst (v := (2 : Int32)) X dL_law_970 (by decide) ?_
  refine kn_iadd X i 2 dL_law_971 ?_
  refine kl_ld X Sc (i := i + 2) (by omega) (by omega) dL_law_972 ?_
  refine kb_aload_n X 0 dL_law_973 rfl rfl ?_
  refine kb_iload_n X 3 dL_law_974 rfl rfl ?_
  refine kb_iconst (v := (3 : Int32)) X dL_law_975 (by decide) ?_
  refine kn_iadd X i 3 dL_law_976 ?_
  refine kl_ld X Sc (i := i + 3) (by omega) (by omega) dL_law_977 ?_
  refine kc_Vi X (As := [.int (xs (i + 1)), .int (xs (i + 2)), .int (xs (i + 3))]) (rest := [.int r5_]) (wr := w5_) (cw_X6_year h6 (xs (i + 1)) (xs (i + 2)) (xs (i + 3))) dL_law_978 rfl List.perm_append_comm mc_X6_year kl_L_115 mi_X6_year mv_X6_year kn_X6 0 r6 rfl rfl (na := 3) (by decide +kernel) rfl ⟨Nat.le_of_ble_eq_true rfl, Nat.le_of_ble_eq_true rfl⟩ ⟨rfl, rfl⟩ ⟨Nat.le_of_ble_eq_true rfl, Nat.le_of_ble_eq_true rfl⟩ (Nat.le_of_ble_eq_true rfl) (fun r6_ w6_ hp_ => ?_)
  obtain ⟨e6_, h6_⟩ := hp_
  refine kw_perm (ws' := w5_ ++ w6_) List.perm_append_comm ?_
  refine kb_icmp_eq (tgt := 1035) X dL_law_981 (by decide) (fun _ => ?_) (fun q_ => absurd (e5_.trans e6_.symm) q_)
  exact C _ _ _ _ _ _ _ _ h5_ h6_
set_option maxHeartbeats 4000000 in
set_option maxRecDepth 100000 in
theorem lc_keep (X : kX l g RL code 4 room_1 x) (Sc : kScr b L xs x) (hL : L ≤ 3584) (hi : i + 7 ≤ L) (h5 : XWp g m at_ an ar au adu ak adk as_ ao ado v us ks tf tn s w5) (h6 : RWp g a v us ks tf tn s w6) (C : LCg x g b i m at_ an ar au adu ak adk as_ ao ado a) : kW x 146 3487 986 [(0, .ref b), (1, .ref m), (2, .ref (a 0)), (3, .int (nI i))] [] (w5 ++ w6) := by
  obtain ⟨f5, r5⟩ := h5.at0
  obtain ⟨f6, r6⟩ := h6.at0
  refine kb_aload_n X 1 dL_law_986 rfl rfl ?_
  refine kc_Vi X (As := []) (rest := []) (wr := w6) (cw_X5_keep h5) dL_law_987 rfl (List.Perm.refl _) mc_X5_keep kl_L_116 mi_X5_keep mv_X5_keep kn_X5 0 r5 rfl rfl (na := 0) (by decide +kernel) rfl ⟨Nat.le_of_ble_eq_true rfl, Nat.le_of_ble_eq_true rfl⟩ ⟨rfl, rfl⟩ ⟨Nat.le_of_ble_eq_true rfl, Nat.le_of_ble_eq_true rfl⟩ (Nat.le_of_ble_eq_true rfl) (fun r5_ w5_ hp_ => ?_)
  obtain ⟨e5_, h5_⟩ := hp_
  refine kb_aload_n X 2 dL_law_990 rfl rfl ?_
  refine kc_Vi X (As := []) (rest := [.int r5_]) (wr := w5_) (cw_X6_keep h6) dL_law_991 rfl List.perm_append_comm mc_X6_keep kl_L_119 mi_X6_keep mv_X6_keep kn_X6 0 r6 rfl rfl (na := 0) (by decide +kernel) rfl ⟨Nat.le_of_ble_eq_true rfl, Nat.le_of_ble_eq_true rfl⟩ ⟨rfl, rfl⟩ ⟨Nat.le_of_ble_eq_true rfl, Nat.le_of_ble_eq_true rfl⟩ (Nat.le_of_ble_eq_true rfl) (fun r6_ w6_ hp_ => ?_)
  obtain ⟨e6_, h6_⟩ := hp_
  refine kw_perm (ws' := w5_ ++ w6_) List.perm_append_comm ?_
  refine kb_icmp_eq (tgt := 1035) X dL_law_994 (by decide) (fun _ => ?_) (fun q_ => absurd (e5_.trans e6_.symm) q_)
  exact C _ _ _ _ _ _ _ _ h5_ h6_
set_option maxHeartbeats 4000000 in
set_option maxRecDepth 100000 in
theorem lc_back (X : kX l g RL code 4 room_1 x) (Sc : kScr b L xs x) (hL : L ≤ 3584) (hi : i + 7 ≤ L) (h5 : XWp g m at_ an ar au adu ak adk as_ ao ado v us ks tf tn s w5) (h6 : RWp g a v us ks tf tn s w6) (C : LCg x g b i m at_ an ar au adu ak adk as_ ao ado a) : kW x 146 3487 999 [(0, .ref b), (1, .ref m), (2, .ref (a 0)), (3, .int (nI i))] [] (w5 ++ w6) := by
  obtain ⟨f5, r5⟩ := h5.at0
  obtain ⟨f6, r6⟩ := h6.at0
  refine kb_aload_n X 1 dL_law_999 rfl rfl ?_
  refine kc_Vi X (As := []) (rest := []) (wr := w6) (cw_X5_back h5) dL_law_1000 rfl (List.Perm.refl _) mc_X5_back kl_L_120 mi_X5_back mv_X5_back kn_X5 0 r5 rfl rfl (na := 0) (by decide +kernel) rfl ⟨Nat.le_of_ble_eq_true rfl, Nat.le_of_ble_eq_true rfl⟩ ⟨rfl, rfl⟩ ⟨Nat.le_of_ble_eq_true rfl, Nat.le_of_ble_eq_true rfl⟩ (Nat.le_of_ble_eq_true rfl) (fun r5_ w5_ hp_ => ?_)
  obtain ⟨e5_, h5_⟩ := hp_
  refine kb_aload_n X 2 dL_law_1003 rfl rfl ?_
  refine kc_Vi X (As := []) (rest := [.int r5_]) (wr := w5_) (cw_X6_back h6) dL_law_1004 rfl List.perm_append_comm mc_X6_back kl_L_123 mi_X6_back mv_X6_back kn_X6 0 r6 rfl rfl (na := 0) (by decide +kernel) rfl ⟨Nat.le_of_ble_eq_true rfl, Nat.le_of_ble_eq_true rfl⟩ ⟨rfl, rfl⟩ ⟨Nat.le_of_ble_eq_true rfl, Nat.le_of_ble_eq_true rfl⟩ (Nat.le_of_ble_eq_true rfl) (fun r6_ w6_ hp_ => ?_)
  obtain ⟨e6_, h6_⟩ := hp_
  refine kw_perm (ws' := w5_ ++ w6_) List.perm_append_comm ?_
  refine kb_icmp_eq (tgt := 1035) X dL_law_1007 (by decide) (fun _ => ?_) (fun q_ => absurd (e5_.trans e6_.symm) q_)
  exact C _ _ _ _ _ _ _ _ h5_ h6_
set_option maxHeartbeats 4000000 in
set_option maxRecDepth 100000 in
theorem lc_count (X : kX l g RL code 4 room_1 x) (Sc : kScr b L xs x) (hL : L ≤ 3584) (hi : i + 7 ≤ L) (h5 : XWp g m at_ an ar au adu ak adk as_ ao ado v us ks tf tn s w5) (h6 : RWp g a v us ks tf tn s w6) (C : LCg x g b i m at_ an ar au adu ak adk as_ ao ado a) : kW x 146 3487 1012 [(0, .ref b), (1, .ref m), (2, .ref (a 0)), (3, .int (nI i))] [] (w5 ++ w6) := by
  obtain ⟨f5, r5⟩ := h5.at0
  obtain ⟨f6, r6⟩ := h6.at0
  refine kb_aload_n X 1 dL_law_1012 rfl rfl ?_
  refine kb_aload_n X 0 dL_law_1013 rfl rfl ?_
  refine kb_iload_n X 3 dL_law_1014 rfl rfl ?_
  refine kb_iconst (v := (1 : Int32)) X dL_law_1015 (by decide) ?_
  refine kn_iadd X i 1 dL_law_1016 ?_
  refine kl_ld X Sc (i := i + 1) (by omega) (by omega) dL_law_1017 ?_
  refine kc_Vi X (As := [.int (xs (i + 1))]) (rest := []) (wr := w6) (cw_X5_count h5 (xs (i + 1))) dL_law_1018 rfl (List.Perm.refl _) mc_X5_count kl_L_124 mi_X5_count mv_X5_count kn_X5 0 r5 rfl rfl (na := 1) (by decide +kernel) rfl ⟨Nat.le_of_ble_eq_true rfl, Nat.le_of_ble_eq_true rfl⟩ ⟨rfl, rfl⟩ ⟨Nat.le_of_ble_eq_true rfl, Nat.le_of_ble_eq_true rfl⟩ (Nat.le_of_ble_eq_true rfl) (fun r5_ w5_ hp_ => ?_)
  obtain ⟨e5_, h5_⟩ := hp_
  refine kb_aload_n X 2 dL_law_1021 rfl rfl ?_
  refine kb_aload_n X 0 dL_law_1022 rfl rfl ?_
  refine kb_iload_n X 3 dL_law_1023 rfl rfl ?_
  refine kb_iconst (v := (1 : Int32)) X dL_law_1024 (by decide) ?_
  refine kn_iadd X i 1 dL_law_1025 ?_
  refine kl_ld X Sc (i := i + 1) (by omega) (by omega) dL_law_1026 ?_
  refine kc_Vi X (As := [.int (xs (i + 1))]) (rest := [.int r5_]) (wr := w5_) (cw_X6_count h6 (xs (i + 1))) dL_law_1027 rfl List.perm_append_comm mc_X6_count kl_L_127 mi_X6_count mv_X6_count kn_X6 0 r6 rfl rfl (na := 1) (by decide +kernel) rfl ⟨Nat.le_of_ble_eq_true rfl, Nat.le_of_ble_eq_true rfl⟩ ⟨rfl, rfl⟩ ⟨Nat.le_of_ble_eq_true rfl, Nat.le_of_ble_eq_true rfl⟩ (Nat.le_of_ble_eq_true rfl) (fun r6_ w6_ hp_ => ?_)
  obtain ⟨e6_, h6_⟩ := hp_
  refine kw_perm (ws' := w5_ ++ w6_) List.perm_append_comm ?_
  refine kb_icmp_eq (tgt := 1035) X dL_law_1030 (by decide) (fun _ => ?_) (fun q_ => absurd (e5_.trans e6_.symm) q_)
  exact C _ _ _ _ _ _ _ _ h5_ h6_
end LC
