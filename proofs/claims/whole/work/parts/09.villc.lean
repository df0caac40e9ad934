theorem bc_all : ∀ s, s < 64 → ((((((((nI (s)) - ((((nI (s)).toUInt32 >>> ((1 : Int32).toUInt32 &&& Int32.toUInt32 31)).toInt32) &&& (1431655765 : Int32))) &&& (858993459 : Int32)) + (((((nI (s)) - ((((nI (s)).toUInt32 >>> ((1 : Int32).toUInt32 &&& Int32.toUInt32 31)).toInt32) &&& (1431655765 : Int32))).toUInt32 >>> ((2 : Int32).toUInt32 &&& Int32.toUInt32 31)).toInt32) &&& (858993459 : Int32))) + ((((((nI (s)) - ((((nI (s)).toUInt32 >>> ((1 : Int32).toUInt32 &&& Int32.toUInt32 31)).toInt32) &&& (1431655765 : Int32))) &&& (858993459 : Int32)) + (((((nI (s)) - ((((nI (s)).toUInt32 >>> ((1 : Int32).toUInt32 &&& Int32.toUInt32 31)).toInt32) &&& (1431655765 : Int32))).toUInt32 >>> ((2 : Int32).toUInt32 &&& Int32.toUInt32 31)).toInt32) &&& (858993459 : Int32))).toUInt32 >>> ((4 : Int32).toUInt32 &&& Int32.toUInt32 31)).toInt32)) &&& (252645135 : Int32)) + ((((((((nI (s)) - ((((nI (s)).toUInt32 >>> ((1 : Int32).toUInt32 &&& Int32.toUInt32 31)).toInt32) &&& (1431655765 : Int32))) &&& (858993459 : Int32)) + (((((nI (s)) - ((((nI (s)).toUInt32 >>> ((1 : Int32).toUInt32 &&& Int32.toUInt32 31)).toInt32) &&& (1431655765 : Int32))).toUInt32 >>> ((2 : Int32).toUInt32 &&& Int32.toUInt32 31)).toInt32) &&& (858993459 : Int32))) + ((((((nI (s)) - ((((nI (s)).toUInt32 >>> ((1 : Int32).toUInt32 &&& Int32.toUInt32 31)).toInt32) &&& (1431655765 : Int32))) &&& (858993459 : Int32)) + (((((nI (s)) - ((((nI (s)).toUInt32 >>> ((1 : Int32).toUInt32 &&& Int32.toUInt32 31)).toInt32) &&& (1431655765 : Int32))).toUInt32 >>> ((2 : Int32).toUInt32 &&& Int32.toUInt32 31)).toInt32) &&& (858993459 : Int32))).toUInt32 >>> ((4 : Int32).toUInt32 &&& Int32.toUInt32 31)).toInt32)) &&& (252645135 : Int32)).toUInt32 >>> ((8 : Int32).toUInt32 &&& Int32.toUInt32 31)).toInt32)) + (((((((((nI (s)) - ((((nI (s)).toUInt32 >>> ((1 : Int32).toUInt32 &&& Int32.toUInt32 31)).toInt32) &&& (1431655765 : Int32))) &&& (858993459 : Int32)) + (((((nI (s)) - ((((nI (s)).toUInt32 >>> ((1 : Int32).toUInt32 &&& Int32.toUInt32 31)).toInt32) &&& (1431655765 : Int32))).toUInt32 >>> ((2 : Int32).toUInt32 &&& Int32.toUInt32 31)).toInt32) &&& (858993459 : Int32))) + ((((((nI (s)) - ((((nI (s)).toUInt32 >>> ((1 : Int32).toUInt32 &&& Int32.toUInt32 31)).toInt32) &&& (1431655765 : Int32))) &&& (858993459 : Int32)) + (((((nI (s)) - ((((nI (s)).toUInt32 >>> ((1 : Int32).toUInt32 &&& Int32.toUInt32 31)).toInt32) &&& (1431655765 : Int32))).toUInt32 >>> ((2 : Int32).toUInt32 &&& Int32.toUInt32 31)).toInt32) &&& (858993459 : Int32))).toUInt32 >>> ((4 : Int32).toUInt32 &&& Int32.toUInt32 31)).toInt32)) &&& (252645135 : Int32)) + ((((((((nI (s)) - ((((nI (s)).toUInt32 >>> ((1 : Int32).toUInt32 &&& Int32.toUInt32 31)).toInt32) &&& (1431655765 : Int32))) &&& (858993459 : Int32)) + (((((nI (s)) - ((((nI (s)).toUInt32 >>> ((1 : Int32).toUInt32 &&& Int32.toUInt32 31)).toInt32) &&& (1431655765 : Int32))).toUInt32 >>> ((2 : Int32).toUInt32 &&& Int32.toUInt32 31)).toInt32) &&& (858993459 : Int32))) + ((((((nI (s)) - ((((nI (s)).toUInt32 >>> ((1 : Int32).toUInt32 &&& Int32.toUInt32 31)).toInt32) &&& (1431655765 : Int32))) &&& (858993459 : Int32)) + (((((nI (s)) - ((((nI (s)).toUInt32 >>> ((1 : Int32).toUInt32 &&& Int32.toUInt32 31)).toInt32) &&& (1431655765 : Int32))).toUInt32 >>> ((2 : Int32).toUInt32 &&& Int32.toUInt32 31)).toInt32) &&& (858993459 : Int32))).toUInt32 >>> ((4 : Int32).toUInt32 &&& Int32.toUInt32 31)).toInt32)) &&& (252645135 : Int32)).toUInt32 >>> ((8 : Int32).toUInt32 &&& Int32.toUInt32 31)).toInt32)).toUInt32 >>> ((16 : Int32).toUInt32 &&& Int32.toUInt32 31)).toInt32)) &&& (63 : Int32) = nI (wBits s) := by decide +kernel
set_option maxHeartbeats 4000000 in
set_option maxRecDepth 100000 in
theorem ct_J6_bitCount_0f7a4 (l : Launch) (g : kw_G) (s : Nat) (hs : s < 64) : kMi l g yJ6_bitCount_0f7a4 cJ6_bitCount_0f7a4 1 .int (kw_rm 1 0 0) 0 0 [.int (nI (s))] ([]) (fun r w => r = nI (wBits s) ∧ w = []) := by
  refine kMi_of (by decide +kernel) (Nat.le_of_ble_eq_true rfl) (fun x (X : kX l g RJ6 cJ6_bitCount_0f7a4 1 (kw_rm 1 0 0) x) (Z : kZi .int _ 0 0 x) => ?_)
  show kW x 0 0 0 [(0, .int (nI (s)))] [] []
  refine kb_iload_n X 0 dJ6_bitCount_0f7a4_0 rfl rfl ?_
  refine kb_iload_n X 0 dJ6_bitCount_0f7a4_1 rfl rfl ?_
  refine kb_iconst (v := (1 : Int32)) X dJ6_bitCount_0f7a4_2 (by decide) ?_
  refine kb_iushr (v := ((nI (s)).toUInt32 >>> ((1 : Int32).toUInt32 &&& Int32.toUInt32 31)).toInt32) X dJ6_bitCount_0f7a4_3 rfl ?_
  refine kb_ldcw X kk_J6_265 dJ6_bitCount_0f7a4_4 ?_
  refine kb_iand X dJ6_bitCount_0f7a4_7 ?_
  refine kb_isub X dJ6_bitCount_0f7a4_8 ?_
  refine kb_istore_n X [0] dJ6_bitCount_0f7a4_9 rfl (by decide) (lv' := [(0, .int ((nI (s)) - ((((nI (s)).toUInt32 >>> ((1 : Int32).toUInt32 &&& Int32.toUInt32 31)).toInt32) &&& (1431655765 : Int32))))]) rfl ?_
  refine kb_iload_n X 0 dJ6_bitCount_0f7a4_10 rfl rfl ?_
  refine kb_ldcw X kk_J6_266 dJ6_bitCount_0f7a4_11 ?_
  refine kb_iand X dJ6_bitCount_0f7a4_14 ?_
  refine kb_iload_n X 0 dJ6_bitCount_0f7a4_15 rfl rfl ?_
  refine kb_iconst (v := (2 : Int32)) X dJ6_bitCount_0f7a4_16 (by decide) ?_
  refine kb_iushr (v := (((nI (s)) - ((((nI (s)).toUInt32 >>> ((1 : Int32).toUInt32 &&& Int32.toUInt32 31)).toInt32) &&& (1431655765 : Int32))).toUInt32 >>> ((2 : Int32).toUInt32 &&& Int32.toUInt32 31)).toInt32) X dJ6_bitCount_0f7a4_17 rfl ?_
  refine kb_ldcw X kk_J6_266 dJ6_bitCount_0f7a4_18 ?_
  refine kb_iand X dJ6_bitCount_0f7a4_21 ?_
  refine kb_iadd X dJ6_bitCount_0f7a4_22 ?_
  refine kb_istore_n X [0] dJ6_bitCount_0f7a4_23 rfl (by decide) (lv' := [(0, .int ((((nI (s)) - ((((nI (s)).toUInt32 >>> ((1 : Int32).toUInt32 &&& Int32.toUInt32 31)).toInt32) &&& (1431655765 : Int32))) &&& (858993459 : Int32)) + (((((nI (s)) - ((((nI (s)).toUInt32 >>> ((1 : Int32).toUInt32 &&& Int32.toUInt32 31)).toInt32) &&& (1431655765 : Int32))).toUInt32 >>> ((2 : Int32).toUInt32 &&& Int32.toUInt32 31)).toInt32) &&& (858993459 : Int32))))]) rfl ?_
  refine kb_iload_n X 0 dJ6_bitCount_0f7a4_24 rfl rfl ?_
  refine kb_iload_n X 0 dJ6_bitCount_0f7a4_25 rfl rfl ?_
  refine kb_iconst (v := (4 : Int32)) X dJ6_bitCount_0f7a4_26 (by decide) ?_
  refine kb_iushr (v := (((((nI (s)) - ((((nI (s)).toUInt32 >>> ((1 : Int32).toUInt32 &&& Int32.toUInt32 31)).toInt32) &&& (1431655765 : Int32))) &&& (858993459 : Int32)) + (((((nI (s)) - ((((nI (s)).toUInt32 >>> ((1 : Int32).toUInt32 &&& Int32.toUInt32 31)).toInt32) &&& (1431655765 : Int32))).toUInt32 >>> ((2 : Int32).toUInt32 &&& Int32.toUInt32 31)).toInt32) &&& (858993459 : Int32))).toUInt32 >>> ((4 : Int32).toUInt32 &&& Int32.toUInt32 31)).toInt32) X dJ6_bitCount_0f7a4_27 rfl ?_
  refine kb_iadd X dJ6_bitCount_0f7a4_28 ?_
  refine kb_ldcw X kk_J6_267 dJ6_bitCount_0f7a4_29 ?_
  refine kb_iand X dJ6_bitCount_0f7a4_32 ?_
  refine kb_istore_n X [0] dJ6_bitCount_0f7a4_33 rfl (by decide) (lv' := [(0, .int ((((((nI (s)) - ((((nI (s)).toUInt32 >>> ((1 : Int32).toUInt32 &&& Int32.toUInt32 31)).toInt32) &&& (1431655765 : Int32))) &&& (858993459 : Int32)) + (((((nI (s)) - ((((nI (s)).toUInt32 >>> ((1 : Int32).toUInt32 &&& Int32.toUInt32 31)).toInt32) &&& (1431655765 : Int32))).toUInt32 >>> ((2 : Int32).toUInt32 &&& Int32.toUInt32 31)).toInt32) &&& (858993459 : Int32))) + ((((((nI (s)) - ((((nI (s)).toUInt32 >>> ((1 : Int32).toUInt32 &&& Int32.toUInt32 31)).toInt32) &&& (1431655765 : Int32))) &&& (858993459 : Int32)) + (((((nI (s)) - ((((nI (s)).toUInt32 >>> ((1 : Int32).toUInt32 &&& Int32.toUInt32 31)).toInt32) &&& (1431655765 : Int32))).toUInt32 >>> ((2 : Int32).toUInt32 &&& Int32.toUInt32 31)).toInt32) &&& (858993459 : Int32))).toUInt32 >>> ((4 : Int32).toUInt32 &&& Int32.toUInt32 31)).toInt32)) &&& (252645135 : Int32)))]) rfl ?_
  refine kb_iload_n X 0 dJ6_bitCount_0f7a4_34 rfl rfl ?_
  refine kb_iload_n X 0 dJ6_bitCount_0f7a4_35 rfl rfl ?_
  refine kb_bipush (v := (8 : Int32)) X dJ6_bitCount_0f7a4_36 (by decide) ?_
  refine kb_iushr (v := (((((((nI (s)) - ((((nI (s)).toUInt32 >>> ((1 : Int32).toUInt32 &&& Int32.toUInt32 31)).toInt32) &&& (1431655765 : Int32))) &&& (858993459 : Int32)) + (((((nI (s)) - ((((nI (s)).toUInt32 >>> ((1 : Int32).toUInt32 &&& Int32.toUInt32 31)).toInt32) &&& (1431655765 : Int32))).toUInt32 >>> ((2 : Int32).toUInt32 &&& Int32.toUInt32 31)).toInt32) &&& (858993459 : Int32))) + ((((((nI (s)) - ((((nI (s)).toUInt32 >>> ((1 : Int32).toUInt32 &&& Int32.toUInt32 31)).toInt32) &&& (1431655765 : Int32))) &&& (858993459 : Int32)) + (((((nI (s)) - ((((nI (s)).toUInt32 >>> ((1 : Int32).toUInt32 &&& Int32.toUInt32 31)).toInt32) &&& (1431655765 : Int32))).toUInt32 >>> ((2 : Int32).toUInt32 &&& Int32.toUInt32 31)).toInt32) &&& (858993459 : Int32))).toUInt32 >>> ((4 : Int32).toUInt32 &&& Int32.toUInt32 31)).toInt32)) &&& (252645135 : Int32)).toUInt32 >>> ((8 : Int32).toUInt32 &&& Int32.toUInt32 31)).toInt32) X dJ6_bitCount_0f7a4_38 rfl ?_
  refine kb_iadd X dJ6_bitCount_0f7a4_39 ?_
  refine kb_istore_n X [0] dJ6_bitCount_0f7a4_40 rfl (by decide) (lv' := [(0, .int (((((((nI (s)) - ((((nI (s)).toUInt32 >>> ((1 : Int32).toUInt32 &&& Int32.toUInt32 31)).toInt32) &&& (1431655765 : Int32))) &&& (858993459 : Int32)) + (((((nI (s)) - ((((nI (s)).toUInt32 >>> ((1 : Int32).toUInt32 &&& Int32.toUInt32 31)).toInt32) &&& (1431655765 : Int32))).toUInt32 >>> ((2 : Int32).toUInt32 &&& Int32.toUInt32 31)).toInt32) &&& (858993459 : Int32))) + ((((((nI (s)) - ((((nI (s)).toUInt32 >>> ((1 : Int32).toUInt32 &&& Int32.toUInt32 31)).toInt32) &&& (1431655765 : Int32))) &&& (858993459 : Int32)) + (((((nI (s)) - ((((nI (s)).toUInt32 >>> ((1 : Int32).toUInt32 &&& Int32.toUInt32 31)).toInt32) &&& (1431655765 : Int32))).toUInt32 >>> ((2 : Int32).toUInt32 &&& Int32.toUInt32 31)).toInt32) &&& (858993459 : Int32))).toUInt32 >>> ((4 : Int32).toUInt32 &&& Int32.toUInt32 31)).toInt32)) &&& (252645135 : Int32)) + ((((((((nI (s)) - ((((nI (s)).toUInt32 >>> ((1 : Int32).toUInt32 &&& Int32.toUInt32 31)).toInt32) &&& (1431655765 : Int32))) &&& (858993459 : Int32)) + (((((nI (s)) - ((((nI (s)).toUInt32 >>> ((1 : Int32).toUInt32 &&& Int32.toUInt32 31)).toInt32) &&& (1431655765 : Int32))).toUInt32 >>> ((2 : Int32).toUInt32 &&& Int32.toUInt32 31)).toInt32) &&& (858993459 : Int32))) + ((((((nI (s)) - ((((nI (s)).toUInt32 >>> ((1 : Int32).toUInt32 &&& Int32.toUInt32 31)).toInt32) &&& (1431655765 : Int32))) &&& (858993459 : Int32)) + (((((nI (s)) - ((((nI (s)).toUInt32 >>> ((1 : Int32).toUInt32 &&& Int32.toUInt32 31)).toInt32) &&& (1431655765 : Int32))).toUInt32 >>> ((2 : Int32).toUInt32 &&& Int32.toUInt32 31)).toInt32) &&& (858993459 : Int32))).toUInt32 >>> ((4 : Int32).toUInt32 &&& Int32.toUInt32 31)).toInt32)) &&& (252645135 : Int32)).toUInt32 >>> ((8 : Int32).toUInt32 &&& Int32.toUInt32 31)).toInt32)))]) rfl ?_
  refine kb_iload_n X 0 dJ6_bitCount_0f7a4_41 rfl rfl ?_
  refine kb_iload_n X 0 dJ6_bitCount_0f7a4_42 rfl rfl ?_
  refine kb_bipush (v := (16 : Int32)) X dJ6_bitCount_0f7a4_43 (by decide) ?_
  refine kb_iushr (v := ((((((((nI (s)) - ((((nI (s)).toUInt32 >>> ((1 : Int32).toUInt32 &&& Int32.toUInt32 31)).toInt32) &&& (1431655765 : Int32))) &&& (858993459 : Int32)) + (((((nI (s)) - ((((nI (s)).toUInt32 >>> ((1 : Int32).toUInt32 &&& Int32.toUInt32 31)).toInt32) &&& (1431655765 : Int32))).toUInt32 >>> ((2 : Int32).toUInt32 &&& Int32.toUInt32 31)).toInt32) &&& (858993459 : Int32))) + ((((((nI (s)) - ((((nI (s)).toUInt32 >>> ((1 : Int32).toUInt32 &&& Int32.toUInt32 31)).toInt32) &&& (1431655765 : Int32))) &&& (858993459 : Int32)) + (((((nI (s)) - ((((nI (s)).toUInt32 >>> ((1 : Int32).toUInt32 &&& Int32.toUInt32 31)).toInt32) &&& (1431655765 : Int32))).toUInt32 >>> ((2 : Int32).toUInt32 &&& Int32.toUInt32 31)).toInt32) &&& (858993459 : Int32))).toUInt32 >>> ((4 : Int32).toUInt32 &&& Int32.toUInt32 31)).toInt32)) &&& (252645135 : Int32)) + ((((((((nI (s)) - ((((nI (s)).toUInt32 >>> ((1 : Int32).toUInt32 &&& Int32.toUInt32 31)).toInt32) &&& (1431655765 : Int32))) &&& (858993459 : Int32)) + (((((nI (s)) - ((((nI (s)).toUInt32 >>> ((1 : Int32).toUInt32 &&& Int32.toUInt32 31)).toInt32) &&& (1431655765 : Int32))).toUInt32 >>> ((2 : Int32).toUInt32 &&& Int32.toUInt32 31)).toInt32) &&& (858993459 : Int32))) + ((((((nI (s)) - ((((nI (s)).toUInt32 >>> ((1 : Int32).toUInt32 &&& Int32.toUInt32 31)).toInt32) &&& (1431655765 : Int32))) &&& (858993459 : Int32)) + (((((nI (s)) - ((((nI (s)).toUInt32 >>> ((1 : Int32).toUInt32 &&& Int32.toUInt32 31)).toInt32) &&& (1431655765 : Int32))).toUInt32 >>> ((2 : Int32).toUInt32 &&& Int32.toUInt32 31)).toInt32) &&& (858993459 : Int32))).toUInt32 >>> ((4 : Int32).toUInt32 &&& Int32.toUInt32 31)).toInt32)) &&& (252645135 : Int32)).toUInt32 >>> ((8 : Int32).toUInt32 &&& Int32.toUInt32 31)).toInt32)).toUInt32 >>> ((16 : Int32).toUInt32 &&& Int32.toUInt32 31)).toInt32) X dJ6_bitCount_0f7a4_45 rfl ?_
  refine kb_iadd X dJ6_bitCount_0f7a4_46 ?_
  refine kb_istore_n X [0] dJ6_bitCount_0f7a4_47 rfl (by decide) (lv' := [(0, .int ((((((((nI (s)) - ((((nI (s)).toUInt32 >>> ((1 : Int32).toUInt32 &&& Int32.toUInt32 31)).toInt32) &&& (1431655765 : Int32))) &&& (858993459 : Int32)) + (((((nI (s)) - ((((nI (s)).toUInt32 >>> ((1 : Int32).toUInt32 &&& Int32.toUInt32 31)).toInt32) &&& (1431655765 : Int32))).toUInt32 >>> ((2 : Int32).toUInt32 &&& Int32.toUInt32 31)).toInt32) &&& (858993459 : Int32))) + ((((((nI (s)) - ((((nI (s)).toUInt32 >>> ((1 : Int32).toUInt32 &&& Int32.toUInt32 31)).toInt32) &&& (1431655765 : Int32))) &&& (858993459 : Int32)) + (((((nI (s)) - ((((nI (s)).toUInt32 >>> ((1 : Int32).toUInt32 &&& Int32.toUInt32 31)).toInt32) &&& (1431655765 : Int32))).toUInt32 >>> ((2 : Int32).toUInt32 &&& Int32.toUInt32 31)).toInt32) &&& (858993459 : Int32))).toUInt32 >>> ((4 : Int32).toUInt32 &&& Int32.toUInt32 31)).toInt32)) &&& (252645135 : Int32)) + ((((((((nI (s)) - ((((nI (s)).toUInt32 >>> ((1 : Int32).toUInt32 &&& Int32.toUInt32 31)).toInt32) &&& (1431655765 : Int32))) &&& (858993459 : Int32)) + (((((nI (s)) - ((((nI (s)).toUInt32 >>> ((1 : Int32).toUInt32 &&& Int32.toUInt32 31)).toInt32) &&& (1431655765 : Int32))).toUInt32 >>> ((2 : Int32).toUInt32 &&& Int32.toUInt32 31)).toInt32) &&& (858993459 : Int32))) + ((((((nI (s)) - ((((nI (s)).toUInt32 >>> ((1 : Int32).toUInt32 &&& Int32.toUInt32 31)).toInt32) &&& (1431655765 : Int32))) &&& (858993459 : Int32)) + (((((nI (s)) - ((((nI (s)).toUInt32 >>> ((1 : Int32).toUInt32 &&& Int32.toUInt32 31)).toInt32) &&& (1431655765 : Int32))).toUInt32 >>> ((2 : Int32).toUInt32 &&& Int32.toUInt32 31)).toInt32) &&& (858993459 : Int32))).toUInt32 >>> ((4 : Int32).toUInt32 &&& Int32.toUInt32 31)).toInt32)) &&& (252645135 : Int32)).toUInt32 >>> ((8 : Int32).toUInt32 &&& Int32.toUInt32 31)).toInt32)) + (((((((((nI (s)) - ((((nI (s)).toUInt32 >>> ((1 : Int32).toUInt32 &&& Int32.toUInt32 31)).toInt32) &&& (1431655765 : Int32))) &&& (858993459 : Int32)) + (((((nI (s)) - ((((nI (s)).toUInt32 >>> ((1 : Int32).toUInt32 &&& Int32.toUInt32 31)).toInt32) &&& (1431655765 : Int32))).toUInt32 >>> ((2 : Int32).toUInt32 &&& Int32.toUInt32 31)).toInt32) &&& (858993459 : Int32))) + ((((((nI (s)) - ((((nI (s)).toUInt32 >>> ((1 : Int32).toUInt32 &&& Int32.toUInt32 31)).toInt32) &&& (1431655765 : Int32))) &&& (858993459 : Int32)) + (((((nI (s)) - ((((nI (s)).toUInt32 >>> ((1 : Int32).toUInt32 &&& Int32.toUInt32 31)).toInt32) &&& (1431655765 : Int32))).toUInt32 >>> ((2 : Int32).toUInt32 &&& Int32.toUInt32 31)).toInt32) &&& (858993459 : Int32))).toUInt32 >>> ((4 : Int32).toUInt32 &&& Int32.toUInt32 31)).toInt32)) &&& (252645135 : Int32)) + ((((((((nI (s)) - ((((nI (s)).toUInt32 >>> ((1 : Int32).toUInt32 &&& Int32.toUInt32 31)).toInt32) &&& (1431655765 : Int32))) &&& (858993459 : Int32)) + (((((nI (s)) - ((((nI (s)).toUInt32 >>> ((1 : Int32).toUInt32 &&& Int32.toUInt32 31)).toInt32) &&& (1431655765 : Int32))).toUInt32 >>> ((2 : Int32).toUInt32 &&& Int32.toUInt32 31)).toInt32) &&& (858993459 : Int32))) + ((((((nI (s)) - ((((nI (s)).toUInt32 >>> ((1 : Int32).toUInt32 &&& Int32.toUInt32 31)).toInt32) &&& (1431655765 : Int32))) &&& (858993459 : Int32)) + (((((nI (s)) - ((((nI (s)).toUInt32 >>> ((1 : Int32).toUInt32 &&& Int32.toUInt32 31)).toInt32) &&& (1431655765 : Int32))).toUInt32 >>> ((2 : Int32).toUInt32 &&& Int32.toUInt32 31)).toInt32) &&& (858993459 : Int32))).toUInt32 >>> ((4 : Int32).toUInt32 &&& Int32.toUInt32 31)).toInt32)) &&& (252645135 : Int32)).toUInt32 >>> ((8 : Int32).toUInt32 &&& Int32.toUInt32 31)).toInt32)).toUInt32 >>> ((16 : Int32).toUInt32 &&& Int32.toUInt32 31)).toInt32)))]) rfl ?_
  refine kb_iload_n X 0 dJ6_bitCount_0f7a4_48 rfl rfl ?_
  refine kb_bipush (v := (63 : Int32)) X dJ6_bitCount_0f7a4_49 (by decide) ?_
  refine kb_iand X dJ6_bitCount_0f7a4_51 ?_
  refine ke_i X Z dJ6_bitCount_0f7a4_52 ?_
  exact ⟨bc_all s hs, rfl⟩

set_option maxHeartbeats 4000000 in
set_option maxRecDepth 100000 in
theorem ct_X4_holdTrial (l : Launch) (g : kw_G) (a : Nat → Nat) (v : VS) (hv : VI v) (p : Nat) (b c : Int32) (hp : p < 6) : kMi l g yX4_holdTrial cX4_holdTrial 6 .int (kw_rm 5 0 0) 0 0 [.ref (a 0), .int (nI (p)), .int (b), .int (c)] (wV g a v) (fun r w => r = nI (wGuests v p b c) ∧ w = wV g a (wHold v p b c)) := by
  refine kMi_of (by decide +kernel) (Nat.le_of_ble_eq_true rfl) (fun x (X : kX l g RX4 cX4_holdTrial 6 (kw_rm 5 0 0) x) (Z : kZi .int _ 0 0 x) => ?_)
  show kW x 0 0 0 [(0, .ref (a 0)), (1, .int (nI (p))), (2, .int (b)), (3, .int (c))] [] (wV g a v)
  have h6 := hv.1
  refine kb_aload_n X 0 dX4_holdTrial_0 rfl rfl ?_
  refine kb_iload_n X 1 dX4_holdTrial_1 rfl rfl ?_
  refine kb_iload_n X 2 dX4_holdTrial_2 rfl rfl ?_
  refine kb_iload_n X 3 dX4_holdTrial_3 rfl rfl ?_
  refine kc_Vi X (As := [.int (nI (p)), .int (b), .int (c)]) (rest := []) (wr := []) (ct_X4_guestsOf l g a v hv p b c (by omega)) dX4_holdTrial_4 rfl (kw_pall _) mc_X4_guestsOf kl_X4_97 mi_X4_guestsOf mv_X4_guestsOf kn_X4 0 rfl rfl rfl (na := 3) (by decide +kernel) rfl ⟨Nat.le_of_ble_eq_true rfl, Nat.le_of_ble_eq_true rfl⟩ ⟨rfl, rfl⟩ ⟨Nat.le_of_ble_eq_true rfl, Nat.le_of_ble_eq_true rfl⟩ (Nat.le_of_ble_eq_true rfl) (fun r_ w_ hp_ => ?_)
  obtain ⟨rfl, rfl⟩ := hp_
  refine kw_ws (List.append_nil _) ?_
  refine kb_istore X [1, 2, 3, 4, 0] dX4_holdTrial_7 (by decide) (lv' := [(0, .ref (a 0)), (1, .int (nI (p))), (2, .int (b)), (3, .int (c)), (4, .int (nI (wGuests v p b c)))]) rfl ?_
  refine kb_aload_n X 0 dX4_holdTrial_9 rfl rfl ?_
  refine kb_get (v := .ref (a 3)) (C := RX4) (T := TX4) (N := 11) (ci := 4) X kw_iX4 rfl 0 2 rfl (by decide) kf_X4_18 rfl rfl dX4_holdTrial_10 ?_
  refine kb_iload_n X 1 dX4_holdTrial_13 rfl rfl ?_
  refine kb_dup2 X dX4_holdTrial_14 rfl rfl ?_
  refine kb_iald (i := p) X 3 rfl (by omega) (by decide) dX4_holdTrial_15 ?_
  refine kb_iload_n X 2 dX4_holdTrial_16 rfl rfl ?_
  refine kb_iload_n X 3 dX4_holdTrial_17 rfl rfl ?_
  refine kc_SNi X (As := [.int (b), .int (c)]) (rest := [.int (vC v p), .int (nI (p)), .ref (a 3)]) (wr := (wV g a v)) (ct_X5_costOf l g b c ) dX4_holdTrial_18 rfl (List.Perm.refl _) mc_X5_costOf (by simp [kw_nest]) ms_X5_costOf kn_X5 (na := 2) (by decide +kernel) rfl ⟨Nat.le_of_ble_eq_true rfl, Nat.le_of_ble_eq_true rfl⟩ ⟨rfl, rfl⟩ ⟨Nat.le_of_ble_eq_true rfl, Nat.le_of_ble_eq_true rfl⟩ (Nat.le_of_ble_eq_true rfl) (fun r_ w_ hp_ => ?_)
  obtain ⟨rfl, rfl⟩ := hp_
  refine kw_ws (List.nil_append _) ?_
  refine kb_isub X dX4_holdTrial_21 ?_
  refine kb_iast (i := p) X 3 rfl (by omega) (by decide) dX4_holdTrial_22 (ws' := wV g a (sC v (upd (vC v) p ((vC v p) - (wCost b c))))) rfl ?_
  refine kb_iconst (v := (0 : Int32)) X dX4_holdTrial_23 (by decide) ?_
  refine kb_istore X [1, 2, 3, 4, 5, 0] dX4_holdTrial_24 (by decide) (lv' := [(0, .ref (a 0)), (1, .int (nI (p))), (2, .int (b)), (3, .int (c)), (4, .int (nI (wGuests v p b c))), (5, .int 0)]) rfl ?_
  have L26 : ∀ (K_ i : Nat), i + K_ = vN v → kW x 0 0 26 [(0, .ref (a 0)), (1, .int (nI (p))), (2, .int (b)), (3, .int (c)), (4, .int (nI (wGuests v p b c))), (5, .int (nI (i)))] [] (wV g a (wMeets (sC v (upd (vC v) p (vC v p - wCost b c))) p (wGuests v p b c) i)) := by
    intro K_
    induction K_ with
    | zero =>
      intro i hi
      have hk := wKeep_meets (sC v (upd (vC v) p (vC v p - wCost b c))) p (wGuests v p b c) i
      have hvi := hk.VI hv
      have hN : vN (wMeets (sC v (upd (vC v) p (vC v p - wCost b c))) p (wGuests v p b c) i) = vN v := hk.2.2.1
      have hG := wGuests_lt v p b c h6
      refine kb_iload X 5 dX4_holdTrial_26 rfl ?_
      refine kb_aload_n X 0 dX4_holdTrial_28 rfl rfl ?_
      refine kb_get (v := .int (nI (vN (wMeets (sC v (upd (vC v) p (vC v p - wCost b c))) p (wGuests v p b c) i)))) (C := RX4) (T := TX4) (N := 11) (ci := 4) X kw_iX4 rfl 0 5 rfl (by decide) kf_X4_27 rfl rfl dX4_holdTrial_29 ?_
      refine kn_icmp_ge (a := i) (b := vN (wMeets (sC v (upd (vC v) p (vC v p - wCost b c))) p (wGuests v p b c) i)) (tgt := 70) X (by omega) (by omega) dX4_holdTrial_32 (by decide) (fun c1_ => ?_) (fun c1_ => ?_)
      · skip
        refine kb_aload_n X 0 dX4_holdTrial_70 rfl rfl ?_
        refine kb_dup X dX4_holdTrial_71 rfl ?_
        refine kb_get (v := .int (nI (vH (wMeets (sC v (upd (vC v) p (vC v p - wCost b c))) p (wGuests v p b c) i)))) (C := RX4) (T := TX4) (N := 11) (ci := 4) X kw_iX4 rfl 0 8 rfl (by decide) kf_X4_37 rfl rfl dX4_holdTrial_72 ?_
        refine kb_iconst (v := (1 : Int32)) X dX4_holdTrial_75 (by decide) ?_
        refine kb_iload_n X 1 dX4_holdTrial_76 rfl rfl ?_
        refine kb_ishl X dX4_holdTrial_77 ?_
        refine kb_ior X dX4_holdTrial_78 ?_
        refine kw_top (b := .int (nI (vH (wMeets (sC v (upd (vC v) p (vC v p - wCost b c))) p (wGuests v p b c) i) ||| 2 ^ p))) (by rw [bit_in p (by omega), or_nI]) ?_
        refine kb_put X (C := RX4) (T := TX4) (N := 11) (ci := 4) (ty := .int) kw_iX4 tyX4 tyX4_ok nmX4 rfl 0 8 rfl (by decide) kf_X4_37 rfl rfl (by decide +kernel) rfl rfl (Nat.le_of_ble_eq_true rfl) dX4_holdTrial_79 (ws' := wV g a (sH (wMeets (sC v (upd (vC v) p (vC v p - wCost b c))) p (wGuests v p b c) i) (vH (wMeets (sC v (upd (vC v) p (vC v p - wCost b c))) p (wGuests v p b c) i) ||| 2 ^ p))) rfl ?_
        refine kb_aload_n X 0 dX4_holdTrial_82 rfl rfl ?_
        refine kb_dup X dX4_holdTrial_83 rfl ?_
        refine kb_get (v := .int (vZ (wMeets (sC v (upd (vC v) p (vC v p - wCost b c))) p (wGuests v p b c) i))) (C := RX4) (T := TX4) (N := 11) (ci := 4) X kw_iX4 rfl 0 10 rfl (by decide) kf_X4_43 rfl rfl dX4_holdTrial_84 ?_
        refine kb_iconst (v := (1 : Int32)) X dX4_holdTrial_87 (by decide) ?_
        refine kb_iadd X dX4_holdTrial_88 ?_
        refine kb_put X (C := RX4) (T := TX4) (N := 11) (ci := 4) (ty := .int) kw_iX4 tyX4 tyX4_ok nmX4 rfl 0 10 rfl (by decide) kf_X4_43 rfl rfl (by decide +kernel) rfl rfl (Nat.le_of_ble_eq_true rfl) dX4_holdTrial_89 (ws' := wV g a (sZ (sH (wMeets (sC v (upd (vC v) p (vC v p - wCost b c))) p (wGuests v p b c) i) (vH (wMeets (sC v (upd (vC v) p (vC v p - wCost b c))) p (wGuests v p b c) i) ||| 2 ^ p)) ((vZ (wMeets (sC v (upd (vC v) p (vC v p - wCost b c))) p (wGuests v p b c) i)) + (1 : Int32)))) rfl ?_
        refine kb_iload X 4 dX4_holdTrial_92 rfl ?_
        refine ke_i X Z dX4_holdTrial_94 ?_
        exact ⟨rfl, by rw [wHold, show i = vN v by omega] <;> rfl⟩
      · skip
        omega
    | succ K_ ih =>
      intro i hi
      have hk := wKeep_meets (sC v (upd (vC v) p (vC v p - wCost b c))) p (wGuests v p b c) i
      have hvi := hk.VI hv
      have hN : vN (wMeets (sC v (upd (vC v) p (vC v p - wCost b c))) p (wGuests v p b c) i) = vN v := hk.2.2.1
      have hG := wGuests_lt v p b c h6
      refine kb_iload X 5 dX4_holdTrial_26 rfl ?_
      refine kb_aload_n X 0 dX4_holdTrial_28 rfl rfl ?_
      refine kb_get (v := .int (nI (vN (wMeets (sC v (upd (vC v) p (vC v p - wCost b c))) p (wGuests v p b c) i)))) (C := RX4) (T := TX4) (N := 11) (ci := 4) X kw_iX4 rfl 0 5 rfl (by decide) kf_X4_27 rfl rfl dX4_holdTrial_29 ?_
      refine kn_icmp_ge (a := i) (b := vN (wMeets (sC v (upd (vC v) p (vC v p - wCost b c))) p (wGuests v p b c) i)) (tgt := 70) X (by omega) (by omega) dX4_holdTrial_32 (by decide) (fun c2_ => ?_) (fun c2_ => ?_)
      · skip
        omega
      · skip
        refine kb_iload X 5 dX4_holdTrial_35 rfl ?_
        refine kb_iload_n X 1 dX4_holdTrial_37 rfl rfl ?_
        refine kn_icmp_eq (a := i) (b := p) (tgt := 64) X (by omega) (by omega) dX4_holdTrial_38 (by decide) (fun c3_ => ?_) (fun c3_ => ?_)
        · skip
          refine kb_iinc X 5 [1, 2, 3, 4, 5, 0] (v' := nI (i + 1)) dX4_holdTrial_64 rfl (nI_add _ _) (by decide) (lv' := [(0, .ref (a 0)), (1, .int (nI (p))), (2, .int (b)), (3, .int (c)), (4, .int (nI (wGuests v p b c))), (5, .int (nI (i + 1)))]) rfl ?_
          refine kb_goto (tgt := 26) X dX4_holdTrial_67 (by decide) ?_
          exact kw_to (ih (i + 1) (by omega)) rfl rfl (by simp [wMeets, c2_, c3_])
        · skip
          refine kb_aload_n X 0 dX4_holdTrial_41 rfl rfl ?_
          refine kb_iload X 5 dX4_holdTrial_42 rfl ?_
          refine kc_Vi X (As := [.int (nI (i))]) (rest := []) (wr := []) (ct_X4_lives l g a (wMeets (sC v (upd (vC v) p (vC v p - wCost b c))) p (wGuests v p b c) i) hvi i (by omega)) dX4_holdTrial_44 rfl (kw_pall _) mc_X4_lives kl_X4_71 mi_X4_lives mv_X4_lives kn_X4 0 rfl rfl rfl (na := 1) (by decide +kernel) rfl ⟨Nat.le_of_ble_eq_true rfl, Nat.le_of_ble_eq_true rfl⟩ ⟨rfl, rfl⟩ ⟨Nat.le_of_ble_eq_true rfl, Nat.le_of_ble_eq_true rfl⟩ (Nat.le_of_ble_eq_true rfl) (fun r_ w_ hp_ => ?_)
          obtain ⟨rfl, rfl⟩ := hp_
          refine kw_ws (List.append_nil _) ?_
          refine kz_if_eq (b := wLives (wMeets (sC v (upd (vC v) p (vC v p - wCost b c))) p (wGuests v p b c) i) i) (tgt := 64) X dX4_holdTrial_47 (by decide) (fun c4_ => ?_) (fun c4_ => ?_)
          · skip
            refine kb_iinc X 5 [1, 2, 3, 4, 5, 0] (v' := nI (i + 1)) dX4_holdTrial_64 rfl (nI_add _ _) (by decide) (lv' := [(0, .ref (a 0)), (1, .int (nI (p))), (2, .int (b)), (3, .int (c)), (4, .int (nI (wGuests v p b c))), (5, .int (nI (i + 1)))]) rfl ?_
            refine kb_goto (tgt := 26) X dX4_holdTrial_67 (by decide) ?_
            exact kw_to (ih (i + 1) (by omega)) rfl rfl (by simp [wMeets, c2_, c3_, c4_])
          · skip
            refine kb_aload_n X 0 dX4_holdTrial_50 rfl rfl ?_
            refine kb_iload_n X 1 dX4_holdTrial_51 rfl rfl ?_
            refine kb_iload X 5 dX4_holdTrial_52 rfl ?_
            refine kb_iload X 4 dX4_holdTrial_54 rfl ?_
            refine kb_iload X 5 dX4_holdTrial_56 rfl ?_
            refine kc_SNi X (As := [.int (nI (wGuests v p b c)), .int (nI (i))]) (rest := [.int (nI (i)), .int (nI (p)), .ref (a 0)]) (wr := (wV g a (wMeets (sC v (upd (vC v) p (vC v p - wCost b c))) p (wGuests v p b c) i))) (ct_X5_contains l g (wGuests v p b c) i hG (by omega)) dX4_holdTrial_58 rfl (List.Perm.refl _) mc_X5_contains (by simp [kw_nest]) ms_X5_contains kn_X5 (na := 2) (by decide +kernel) rfl ⟨Nat.le_of_ble_eq_true rfl, Nat.le_of_ble_eq_true rfl⟩ ⟨rfl, rfl⟩ ⟨Nat.le_of_ble_eq_true rfl, Nat.le_of_ble_eq_true rfl⟩ (Nat.le_of_ble_eq_true rfl) (fun r_ w_ hp_ => ?_)
            obtain ⟨rfl, rfl⟩ := hp_
            refine kw_ws (List.nil_append _) ?_
            refine kc_Vv X (As := [.int (nI (p)), .int (nI (i)), .int (zI (Nat.testBit (wGuests v p b c) i))]) (rest := []) (wr := []) (ct_X4_meet l g a (wMeets (sC v (upd (vC v) p (vC v p - wCost b c))) p (wGuests v p b c) i) p i (Nat.testBit (wGuests v p b c) i) (by omega) (by omega)) dX4_holdTrial_61 rfl (kw_pall _) mc_X4_meet kl_X4_101 mi_X4_meet mv_X4_meet kn_X4 0 rfl rfl rfl (na := 3) (by decide +kernel) rfl ⟨Nat.le_of_ble_eq_true rfl, Nat.le_of_ble_eq_true rfl⟩ ⟨rfl, rfl⟩ ⟨Nat.le_of_ble_eq_true rfl, Nat.le_of_ble_eq_true rfl⟩ (Nat.le_of_ble_eq_true rfl) (fun w_ hp_ => ?_)
            obtain rfl := hp_
            refine kw_ws (List.append_nil _) ?_
            refine kb_iinc X 5 [1, 2, 3, 4, 5, 0] (v' := nI (i + 1)) dX4_holdTrial_64 rfl (nI_add _ _) (by decide) (lv' := [(0, .ref (a 0)), (1, .int (nI (p))), (2, .int (b)), (3, .int (c)), (4, .int (nI (wGuests v p b c))), (5, .int (nI (i + 1)))]) rfl ?_
            refine kb_goto (tgt := 26) X dX4_holdTrial_67 (by decide) ?_
            exact kw_to (ih (i + 1) (by omega)) rfl rfl (by simp [wMeets, c2_, c3_, c4_])
  exact kw_to (L26 (vN v) 0 (by omega)) rfl rfl rfl

set_option maxHeartbeats 4000000 in
set_option maxRecDepth 100000 in
theorem ct_X4_bequeath (l : Launch) (g : kw_G) (a : Nat → Nat) (v : VS) (hv : VI v) (p q : Nat) (hp : p < 6) (hq : q < 6) : kMv l g yX4_bequeath cX4_bequeath 4 (kw_rm 3 0 0) 0 0 [.ref (a 0), .int (nI (p)), .int (nI (q))] (wV g a v) (fun w => w = wV g a (wBequeath v p q)) := by
  refine kMv_of (by decide +kernel) (Nat.le_of_ble_eq_true rfl) (fun x (X : kX l g RX4 cX4_bequeath 4 (kw_rm 3 0 0) x) (Z : kZv _ 0 0 x) => ?_)
  show kW x 0 0 0 [(0, .ref (a 0)), (1, .int (nI (p))), (2, .int (nI (q)))] [] (wV g a v)
  have h6 := hv.1
  refine kb_aload_n X 0 dX4_bequeath_0 rfl rfl ?_
  refine kb_iload_n X 2 dX4_bequeath_1 rfl rfl ?_
  refine kb_aload_n X 0 dX4_bequeath_2 rfl rfl ?_
  refine kb_get (v := .ref (a 3)) (C := RX4) (T := TX4) (N := 11) (ci := 4) X kw_iX4 rfl 0 2 rfl (by decide) kf_X4_18 rfl rfl dX4_bequeath_3 ?_
  refine kb_iload_n X 1 dX4_bequeath_6 rfl rfl ?_
  refine kb_iald (i := p) X 3 rfl (by omega) (by decide) dX4_bequeath_7 ?_
  refine kc_Vv X (As := [.int (nI (q)), .int (vC v p)]) (rest := []) (wr := []) (ct_X4_receive l g a v q (vC v p) (by omega)) dX4_bequeath_8 rfl (kw_pall _) mc_X4_receive kl_X4_120 mi_X4_receive mv_X4_receive kn_X4 0 rfl rfl rfl (na := 2) (by decide +kernel) rfl ⟨Nat.le_of_ble_eq_true rfl, Nat.le_of_ble_eq_true rfl⟩ ⟨rfl, rfl⟩ ⟨Nat.le_of_ble_eq_true rfl, Nat.le_of_ble_eq_true rfl⟩ (Nat.le_of_ble_eq_true rfl) (fun w_ hp_ => ?_)
  obtain rfl := hp_
  refine kw_ws (List.append_nil _) ?_
  refine kb_iconst (v := (0 : Int32)) X dX4_bequeath_11 (by decide) ?_
  refine kb_istore_n X [1, 2, 3, 0] dX4_bequeath_12 rfl (by decide) (lv' := [(0, .ref (a 0)), (1, .int (nI (p))), (2, .int (nI (q))), (3, .int 0)]) rfl ?_
  have L13 : ∀ (K_ i : Nat), i + K_ = vN v → kW x 0 0 13 [(0, .ref (a 0)), (1, .int (nI (p))), (2, .int (nI (q))), (3, .int (nI (i)))] [] (wV g a (wBq (wRecv v q (vC v p)) p q i)) := by
    intro K_
    induction K_ with
    | zero =>
      intro i hi
      have hN : vN (wBq (wRecv v q (vC v p)) p q i) = vN v := wBq_N _ _ _ _
      refine kb_iload_n X 3 dX4_bequeath_13 rfl rfl ?_
      refine kb_aload_n X 0 dX4_bequeath_14 rfl rfl ?_
      refine kb_get (v := .int (nI (vN (wBq (wRecv v q (vC v p)) p q i)))) (C := RX4) (T := TX4) (N := 11) (ci := 4) X kw_iX4 rfl 0 5 rfl (by decide) kf_X4_27 rfl rfl dX4_bequeath_15 ?_
      refine kn_icmp_ge (a := i) (b := vN (wBq (wRecv v q (vC v p)) p q i)) (tgt := 52) X (by omega) (by omega) dX4_bequeath_18 (by decide) (fun c1_ => ?_) (fun c1_ => ?_)
      · skip
        refine ke_v X Z dX4_bequeath_52 ?_
        exact (by rw [wBequeath, show i = vN v by omega] <;> rfl)
      · skip
        omega
    | succ K_ ih =>
      intro i hi
      have hN : vN (wBq (wRecv v q (vC v p)) p q i) = vN v := wBq_N _ _ _ _
      refine kb_iload_n X 3 dX4_bequeath_13 rfl rfl ?_
      refine kb_aload_n X 0 dX4_bequeath_14 rfl rfl ?_
      refine kb_get (v := .int (nI (vN (wBq (wRecv v q (vC v p)) p q i)))) (C := RX4) (T := TX4) (N := 11) (ci := 4) X kw_iX4 rfl 0 5 rfl (by decide) kf_X4_27 rfl rfl dX4_bequeath_15 ?_
      refine kn_icmp_ge (a := i) (b := vN (wBq (wRecv v q (vC v p)) p q i)) (tgt := 52) X (by omega) (by omega) dX4_bequeath_18 (by decide) (fun c2_ => ?_) (fun c2_ => ?_)
      · skip
        omega
      · skip
        refine kb_iload_n X 3 dX4_bequeath_21 rfl rfl ?_
        refine kb_iload_n X 2 dX4_bequeath_22 rfl rfl ?_
        refine kn_icmp_eq (a := i) (b := q) (tgt := 46) X (by omega) (by omega) dX4_bequeath_23 (by decide) (fun c3_ => ?_) (fun c3_ => ?_)
        · skip
          refine kb_iinc X 3 [1, 2, 3, 0] (v' := nI (i + 1)) dX4_bequeath_46 rfl (nI_add _ _) (by decide) (lv' := [(0, .ref (a 0)), (1, .int (nI (p))), (2, .int (nI (q))), (3, .int (nI (i + 1)))]) rfl ?_
          refine kb_goto (tgt := 13) X dX4_bequeath_49 (by decide) ?_
          exact kw_to (ih (i + 1) (by omega)) rfl rfl (by simp [wBq, c2_, c3_])
        · skip
          refine kb_aload_n X 0 dX4_bequeath_26 rfl rfl ?_
          refine kb_get (v := .ref (a 5)) (C := RX4) (T := TX4) (N := 11) (ci := 4) X kw_iX4 rfl 0 4 rfl (by decide) kf_X4_24 rfl rfl dX4_bequeath_27 ?_
          refine kb_aload_n X 0 dX4_bequeath_30 rfl rfl ?_
          refine kb_iload_n X 3 dX4_bequeath_31 rfl rfl ?_
          refine kb_iload_n X 2 dX4_bequeath_32 rfl rfl ?_
          refine kc_Vi X (As := [.int (nI (i)), .int (nI (q))]) (rest := [.ref (a 5)]) (wr := []) (ct_X4_cell l g a (wBq (wRecv v q (vC v p)) p q i) i q ) dX4_bequeath_33 rfl (kw_pall _) mc_X4_cell kl_X4_60 mi_X4_cell mv_X4_cell kn_X4 0 rfl rfl rfl (na := 2) (by decide +kernel) rfl ⟨Nat.le_of_ble_eq_true rfl, Nat.le_of_ble_eq_true rfl⟩ ⟨rfl, rfl⟩ ⟨Nat.le_of_ble_eq_true rfl, Nat.le_of_ble_eq_true rfl⟩ (Nat.le_of_ble_eq_true rfl) (fun r_ w_ hp_ => ?_)
          obtain ⟨rfl, rfl⟩ := hp_
          refine kw_ws (List.append_nil _) ?_
          refine kb_dup2 X dX4_bequeath_36 rfl rfl ?_
          refine kb_iald (i := i * 6 + q) X 5 rfl (by omega) (by decide) dX4_bequeath_37 ?_
          refine kb_aload_n X 0 dX4_bequeath_38 rfl rfl ?_
          refine kb_iload_n X 3 dX4_bequeath_39 rfl rfl ?_
          refine kb_iload_n X 1 dX4_bequeath_40 rfl rfl ?_
          refine kc_Vi X (As := [.int (nI (i)), .int (nI (p))]) (rest := [.int (vD (wBq (wRecv v q (vC v p)) p q i) (i * 6 + q)), .int (nI (i * 6 + q)), .ref (a 5)]) (wr := []) (ct_X4_debtOf l g a (wBq (wRecv v q (vC v p)) p q i) i p (by omega) (by omega)) dX4_bequeath_41 rfl (kw_pall _) mc_X4_debtOf kl_X4_74 mi_X4_debtOf mv_X4_debtOf kn_X4 0 rfl rfl rfl (na := 2) (by decide +kernel) rfl ⟨Nat.le_of_ble_eq_true rfl, Nat.le_of_ble_eq_true rfl⟩ ⟨rfl, rfl⟩ ⟨Nat.le_of_ble_eq_true rfl, Nat.le_of_ble_eq_true rfl⟩ (Nat.le_of_ble_eq_true rfl) (fun r_ w_ hp_ => ?_)
          obtain ⟨rfl, rfl⟩ := hp_
          refine kw_ws (List.append_nil _) ?_
          refine kb_iadd X dX4_bequeath_44 ?_
          refine kb_iast (i := i * 6 + q) X 5 rfl (by omega) (by decide) dX4_bequeath_45 (ws' := wV g a (sD (wBq (wRecv v q (vC v p)) p q i) (upd (vD (wBq (wRecv v q (vC v p)) p q i)) (i * 6 + q) ((vD (wBq (wRecv v q (vC v p)) p q i) (i * 6 + q)) + (vD (wBq (wRecv v q (vC v p)) p q i) (i * 6 + p)))))) rfl ?_
          refine kb_iinc X 3 [1, 2, 3, 0] (v' := nI (i + 1)) dX4_bequeath_46 rfl (nI_add _ _) (by decide) (lv' := [(0, .ref (a 0)), (1, .int (nI (p))), (2, .int (nI (q))), (3, .int (nI (i + 1)))]) rfl ?_
          refine kb_goto (tgt := 13) X dX4_bequeath_49 (by decide) ?_
          exact kw_to (ih (i + 1) (by omega)) rfl rfl (by simp [wBq, c2_, c3_])
  exact kw_to (L13 (vN v) 0 (by omega)) rfl rfl rfl

set_option maxHeartbeats 4000000 in
set_option maxRecDepth 100000 in
theorem ct_X4_bury (l : Launch) (g : kw_G) (a : Nat → Nat) (v : VS) (hv : VI v) (p : Nat) (hp : p < 6) : kMi l g yX4_bury cX4_bury 4 .int (kw_rm 4 0 0) 0 0 [.ref (a 0), .int (nI (p))] (wV g a v) (fun r w => r = wHeir v p ∧ w = wV g a (wBury v p)) := by
  refine kMi_of (by decide +kernel) (Nat.le_of_ble_eq_true rfl) (fun x (X : kX l g RX4 cX4_bury 4 (kw_rm 4 0 0) x) (Z : kZi .int _ 0 0 x) => ?_)
  show kW x 0 0 0 [(0, .ref (a 0)), (1, .int (nI (p)))] [] (wV g a v)
  have h6 := hv.1
  refine kb_aload_n X 0 dX4_bury_0 rfl rfl ?_
  refine kb_iload_n X 1 dX4_bury_1 rfl rfl ?_
  refine kc_Vi X (As := [.int (nI (p))]) (rest := []) (wr := []) (ct_X4_heirOf l g a v hv p (by omega)) dX4_bury_2 rfl (kw_pall _) mc_X4_heirOf kl_X4_124 mi_X4_heirOf mv_X4_heirOf kn_X4 0 rfl rfl rfl (na := 1) (by decide +kernel) rfl ⟨Nat.le_of_ble_eq_true rfl, Nat.le_of_ble_eq_true rfl⟩ ⟨rfl, rfl⟩ ⟨Nat.le_of_ble_eq_true rfl, Nat.le_of_ble_eq_true rfl⟩ (Nat.le_of_ble_eq_true rfl) (fun r_ w_ hp_ => ?_)
  obtain ⟨rfl, rfl⟩ := hp_
  refine kw_ws (List.append_nil _) ?_
  refine kb_istore_n X [1, 2, 0] dX4_bury_5 rfl (by decide) (lv' := [(0, .ref (a 0)), (1, .int (nI (p))), (2, .int (wHeir v p))]) rfl ?_
  refine kb_iload_n X 2 dX4_bury_6 rfl rfl ?_
  refine kb_if_lt (tgt := 16) X dX4_bury_7 (by decide) (fun c1_ => ?_) (fun c1_ => ?_)
  · skip
    refine kb_aload_n X 0 dX4_bury_16 rfl rfl ?_
    refine kb_dup X dX4_bury_17 rfl ?_
    refine kb_get (v := .int (nI (vX v))) (C := RX4) (T := TX4) (N := 11) (ci := 4) X kw_iX4 rfl 0 7 rfl (by decide) kf_X4_34 rfl rfl dX4_bury_18 ?_
    refine kb_iconst (v := (1 : Int32)) X dX4_bury_21 (by decide) ?_
    refine kb_iload_n X 1 dX4_bury_22 rfl rfl ?_
    refine kb_ishl X dX4_bury_23 ?_
    refine kb_ior X dX4_bury_24 ?_
    refine kw_top (b := .int (nI (vX v ||| 2 ^ p))) (by rw [bit_in p (by omega), or_nI]) ?_
    refine kb_put X (C := RX4) (T := TX4) (N := 11) (ci := 4) (ty := .int) kw_iX4 tyX4 tyX4_ok nmX4 rfl 0 7 rfl (by decide) kf_X4_34 rfl rfl (by decide +kernel) rfl rfl (Nat.le_of_ble_eq_true rfl) dX4_bury_25 (ws' := wV g a (sX v (vX v ||| 2 ^ p))) rfl ?_
    refine kb_aload_n X 0 dX4_bury_28 rfl rfl ?_
    refine kb_get (v := .ref (a 3)) (C := RX4) (T := TX4) (N := 11) (ci := 4) X kw_iX4 rfl 0 2 rfl (by decide) kf_X4_18 rfl rfl dX4_bury_29 ?_
    refine kb_iload_n X 1 dX4_bury_32 rfl rfl ?_
    refine kb_iconst (v := (0 : Int32)) X dX4_bury_33 (by decide) ?_
    refine kb_iast (i := p) X 3 rfl (by omega) (by decide) dX4_bury_34 (ws' := wV g a (sC (sX v (vX v ||| 2 ^ p)) (upd (vC v) p (0 : Int32)))) rfl ?_
    refine kb_iconst (v := (0 : Int32)) X dX4_bury_35 (by decide) ?_
    refine kb_istore_n X [1, 2, 3, 0] dX4_bury_36 rfl (by decide) (lv' := [(0, .ref (a 0)), (1, .int (nI (p))), (2, .int (wHeir v p)), (3, .int 0)]) rfl ?_
    have L37 : ∀ (K_ i : Nat), i + K_ = vN v → kW x 0 0 37 [(0, .ref (a 0)), (1, .int (nI (p))), (2, .int (wHeir v p)), (3, .int (nI (i)))] [] (wV g a (wClr (sC (sX (v) (vX v ||| 2 ^ p)) (upd (vC (v)) p 0)) p i)) := by
      intro K_
      induction K_ with
      | zero =>
        intro i hi
        have hN : vN (wClr (sC (sX (v) (vX v ||| 2 ^ p)) (upd (vC (v)) p 0)) p i) = vN v := (wClr_N _ _ _).trans rfl
        refine kb_iload_n X 3 dX4_bury_37 rfl rfl ?_
        refine kb_aload_n X 0 dX4_bury_38 rfl rfl ?_
        refine kb_get (v := .int (nI (vN (wClr (sC (sX (v) (vX v ||| 2 ^ p)) (upd (vC (v)) p 0)) p i)))) (C := RX4) (T := TX4) (N := 11) (ci := 4) X kw_iX4 rfl 0 5 rfl (by decide) kf_X4_27 rfl rfl dX4_bury_39 ?_
        refine kn_icmp_ge (a := i) (b := vN (wClr (sC (sX (v) (vX v ||| 2 ^ p)) (upd (vC (v)) p 0)) p i)) (tgt := 75) X (by omega) (by omega) dX4_bury_42 (by decide) (fun c2_ => ?_) (fun c2_ => ?_)
        · skip
          refine kb_iload_n X 2 dX4_bury_75 rfl rfl ?_
          refine ke_i X Z dX4_bury_76 ?_
          exact ⟨rfl, by rw [wBury, if_neg (fun q => absurd c1_ (Int32.not_lt.mpr q)), wBury0, show i = vN v by omega]⟩
        · skip
          omega
      | succ K_ ih =>
        intro i hi
        have hN : vN (wClr (sC (sX (v) (vX v ||| 2 ^ p)) (upd (vC (v)) p 0)) p i) = vN v := (wClr_N _ _ _).trans rfl
        refine kb_iload_n X 3 dX4_bury_37 rfl rfl ?_
        refine kb_aload_n X 0 dX4_bury_38 rfl rfl ?_
        refine kb_get (v := .int (nI (vN (wClr (sC (sX (v) (vX v ||| 2 ^ p)) (upd (vC (v)) p 0)) p i)))) (C := RX4) (T := TX4) (N := 11) (ci := 4) X kw_iX4 rfl 0 5 rfl (by decide) kf_X4_27 rfl rfl dX4_bury_39 ?_
        refine kn_icmp_ge (a := i) (b := vN (wClr (sC (sX (v) (vX v ||| 2 ^ p)) (upd (vC (v)) p 0)) p i)) (tgt := 75) X (by omega) (by omega) dX4_bury_42 (by decide) (fun c3_ => ?_) (fun c3_ => ?_)
        · skip
          omega
        · skip
          refine kb_aload_n X 0 dX4_bury_45 rfl rfl ?_
          refine kb_get (v := .ref (a 5)) (C := RX4) (T := TX4) (N := 11) (ci := 4) X kw_iX4 rfl 0 4 rfl (by decide) kf_X4_24 rfl rfl dX4_bury_46 ?_
          refine kb_aload_n X 0 dX4_bury_49 rfl rfl ?_
          refine kb_iload_n X 3 dX4_bury_50 rfl rfl ?_
          refine kb_iload_n X 1 dX4_bury_51 rfl rfl ?_
          refine kc_Vi X (As := [.int (nI (i)), .int (nI (p))]) (rest := [.ref (a 5)]) (wr := []) (ct_X4_cell l g a (wClr (sC (sX (v) (vX v ||| 2 ^ p)) (upd (vC (v)) p 0)) p i) i p ) dX4_bury_52 rfl (kw_pall _) mc_X4_cell kl_X4_60 mi_X4_cell mv_X4_cell kn_X4 0 rfl rfl rfl (na := 2) (by decide +kernel) rfl ⟨Nat.le_of_ble_eq_true rfl, Nat.le_of_ble_eq_true rfl⟩ ⟨rfl, rfl⟩ ⟨Nat.le_of_ble_eq_true rfl, Nat.le_of_ble_eq_true rfl⟩ (Nat.le_of_ble_eq_true rfl) (fun r_ w_ hp_ => ?_)
          obtain ⟨rfl, rfl⟩ := hp_
          refine kw_ws (List.append_nil _) ?_
          refine kb_iconst (v := (0 : Int32)) X dX4_bury_55 (by decide) ?_
          refine kb_iast (i := i * 6 + p) X 5 rfl (by omega) (by decide) dX4_bury_56 (ws' := wV g a (sD (wClr (sC (sX (v) (vX v ||| 2 ^ p)) (upd (vC (v)) p 0)) p i) (upd (vD (wClr (sC (sX (v) (vX v ||| 2 ^ p)) (upd (vC (v)) p 0)) p i)) (i * 6 + p) (0 : Int32)))) rfl ?_
          refine kb_aload_n X 0 dX4_bury_57 rfl rfl ?_
          refine kb_get (v := .ref (a 5)) (C := RX4) (T := TX4) (N := 11) (ci := 4) X kw_iX4 rfl 0 4 rfl (by decide) kf_X4_24 rfl rfl dX4_bury_58 ?_
          refine kb_aload_n X 0 dX4_bury_61 rfl rfl ?_
          refine kb_iload_n X 1 dX4_bury_62 rfl rfl ?_
          refine kb_iload_n X 3 dX4_bury_63 rfl rfl ?_
          refine kc_Vi X (As := [.int (nI (p)), .int (nI (i))]) (rest := [.ref (a 5)]) (wr := []) (ct_X4_cell l g a (sD (wClr (sC (sX (v) (vX v ||| 2 ^ p)) (upd (vC (v)) p 0)) p i) (upd (vD (wClr (sC (sX (v) (vX v ||| 2 ^ p)) (upd (vC (v)) p 0)) p i)) (i * 6 + p) (0 : Int32))) p i ) dX4_bury_64 rfl (kw_pall _) mc_X4_cell kl_X4_60 mi_X4_cell mv_X4_cell kn_X4 0 rfl rfl rfl (na := 2) (by decide +kernel) rfl ⟨Nat.le_of_ble_eq_true rfl, Nat.le_of_ble_eq_true rfl⟩ ⟨rfl, rfl⟩ ⟨Nat.le_of_ble_eq_true rfl, Nat.le_of_ble_eq_true rfl⟩ (Nat.le_of_ble_eq_true rfl) (fun r_ w_ hp_ => ?_)
          obtain ⟨rfl, rfl⟩ := hp_
          refine kw_ws (List.append_nil _) ?_
          refine kb_iconst (v := (0 : Int32)) X dX4_bury_67 (by decide) ?_
          refine kb_iast (i := p * 6 + i) X 5 rfl (by omega) (by decide) dX4_bury_68 (ws' := wV g a (sD (sD (wClr (sC (sX (v) (vX v ||| 2 ^ p)) (upd (vC (v)) p 0)) p i) (upd (vD (wClr (sC (sX (v) (vX v ||| 2 ^ p)) (upd (vC (v)) p 0)) p i)) (i * 6 + p) (0 : Int32))) (upd (upd (vD (wClr (sC (sX (v) (vX v ||| 2 ^ p)) (upd (vC (v)) p 0)) p i)) (i * 6 + p) (0 : Int32)) (p * 6 + i) (0 : Int32)))) rfl ?_
          refine kb_iinc X 3 [1, 2, 3, 0] (v' := nI (i + 1)) dX4_bury_69 rfl (nI_add _ _) (by decide) (lv' := [(0, .ref (a 0)), (1, .int (nI (p))), (2, .int (wHeir v p)), (3, .int (nI (i + 1)))]) rfl ?_
          refine kb_goto (tgt := 37) X dX4_bury_72 (by decide) ?_
          exact kw_to (ih (i + 1) (by omega)) rfl rfl rfl
    exact kw_to (L37 (vN v) 0 (by omega)) rfl rfl rfl
  · skip
    obtain ⟨h_, hh_, he_⟩ := wHeir_t v p h6 c1_
    refine kw_lv (lv' := [(0, .ref (a 0)), (1, .int (nI (p))), (2, .int (nI (h_)))]) (by rw [he_]) ?_
    refine kb_aload_n X 0 dX4_bury_10 rfl rfl ?_
    refine kb_iload_n X 1 dX4_bury_11 rfl rfl ?_
    refine kb_iload_n X 2 dX4_bury_12 rfl rfl ?_
    refine kc_Vv X (As := [.int (nI (p)), .int (nI (h_))]) (rest := []) (wr := []) (ct_X4_bequeath l g a v hv p h_ (by omega) (by omega)) dX4_bury_13 rfl (kw_pall _) mc_X4_bequeath kl_X4_127 mi_X4_bequeath mv_X4_bequeath kn_X4 0 rfl rfl rfl (na := 2) (by decide +kernel) rfl ⟨Nat.le_of_ble_eq_true rfl, Nat.le_of_ble_eq_true rfl⟩ ⟨rfl, rfl⟩ ⟨Nat.le_of_ble_eq_true rfl, Nat.le_of_ble_eq_true rfl⟩ (Nat.le_of_ble_eq_true rfl) (fun w_ hp_ => ?_)
    obtain rfl := hp_
    refine kw_ws (List.append_nil _) ?_
    refine kb_aload_n X 0 dX4_bury_16 rfl rfl ?_
    refine kb_dup X dX4_bury_17 rfl ?_
    refine kb_get (v := .int (nI (vX (wBequeath v p h_)))) (C := RX4) (T := TX4) (N := 11) (ci := 4) X kw_iX4 rfl 0 7 rfl (by decide) kf_X4_34 rfl rfl dX4_bury_18 ?_
    refine kb_iconst (v := (1 : Int32)) X dX4_bury_21 (by decide) ?_
    refine kb_iload_n X 1 dX4_bury_22 rfl rfl ?_
    refine kb_ishl X dX4_bury_23 ?_
    refine kb_ior X dX4_bury_24 ?_
    refine kw_top (b := .int (nI (vX v ||| 2 ^ p))) (by rw [bit_in p (by omega), or_nI, (wKeepD_bq v p h_).2.2.2.2.1]) ?_
    refine kb_put X (C := RX4) (T := TX4) (N := 11) (ci := 4) (ty := .int) kw_iX4 tyX4 tyX4_ok nmX4 rfl 0 7 rfl (by decide) kf_X4_34 rfl rfl (by decide +kernel) rfl rfl (Nat.le_of_ble_eq_true rfl) dX4_bury_25 (ws' := wV g a (sX (wBequeath v p h_) (vX v ||| 2 ^ p))) rfl ?_
    refine kb_aload_n X 0 dX4_bury_28 rfl rfl ?_
    refine kb_get (v := .ref (a 3)) (C := RX4) (T := TX4) (N := 11) (ci := 4) X kw_iX4 rfl 0 2 rfl (by decide) kf_X4_18 rfl rfl dX4_bury_29 ?_
    refine kb_iload_n X 1 dX4_bury_32 rfl rfl ?_
    refine kb_iconst (v := (0 : Int32)) X dX4_bury_33 (by decide) ?_
    refine kb_iast (i := p) X 3 rfl (by omega) (by decide) dX4_bury_34 (ws' := wV g a (sC (sX (wBequeath v p h_) (vX v ||| 2 ^ p)) (upd (vC (wBequeath v p h_)) p (0 : Int32)))) rfl ?_
    refine kb_iconst (v := (0 : Int32)) X dX4_bury_35 (by decide) ?_
    refine kb_istore_n X [1, 2, 3, 0] dX4_bury_36 rfl (by decide) (lv' := [(0, .ref (a 0)), (1, .int (nI (p))), (2, .int (nI (h_))), (3, .int 0)]) rfl ?_
    have L37 : ∀ (K_ i : Nat), i + K_ = vN v → kW x 0 0 37 [(0, .ref (a 0)), (1, .int (nI (p))), (2, .int (nI (h_))), (3, .int (nI (i)))] [] (wV g a (wClr (sC (sX (wBequeath v p h_) (vX v ||| 2 ^ p)) (upd (vC (wBequeath v p h_)) p 0)) p i)) := by
      intro K_
      induction K_ with
      | zero =>
        intro i hi
        have hN : vN (wClr (sC (sX (wBequeath v p h_) (vX v ||| 2 ^ p)) (upd (vC (wBequeath v p h_)) p 0)) p i) = vN v := (wClr_N _ _ _).trans (wKeepD_bq v p h_).2.2.1
        refine kb_iload_n X 3 dX4_bury_37 rfl rfl ?_
        refine kb_aload_n X 0 dX4_bury_38 rfl rfl ?_
        refine kb_get (v := .int (nI (vN (wClr (sC (sX (wBequeath v p h_) (vX v ||| 2 ^ p)) (upd (vC (wBequeath v p h_)) p 0)) p i)))) (C := RX4) (T := TX4) (N := 11) (ci := 4) X kw_iX4 rfl 0 5 rfl (by decide) kf_X4_27 rfl rfl dX4_bury_39 ?_
        refine kn_icmp_ge (a := i) (b := vN (wClr (sC (sX (wBequeath v p h_) (vX v ||| 2 ^ p)) (upd (vC (wBequeath v p h_)) p 0)) p i)) (tgt := 75) X (by omega) (by omega) dX4_bury_42 (by decide) (fun c4_ => ?_) (fun c4_ => ?_)
        · skip
          refine kb_iload_n X 2 dX4_bury_75 rfl rfl ?_
          refine ke_i X Z dX4_bury_76 ?_
          exact ⟨he_.symm, by rw [wBury, if_pos (by rw [he_]; exact nI_pos' (by omega)), he_, nI_clamp (by omega), wBury0, (wKeepD_bq v p h_).2.2.1, (wKeepD_bq v p h_).2.2.2.2.1, show i = vN v by omega]⟩
        · skip
          omega
      | succ K_ ih =>
        intro i hi
        have hN : vN (wClr (sC (sX (wBequeath v p h_) (vX v ||| 2 ^ p)) (upd (vC (wBequeath v p h_)) p 0)) p i) = vN v := (wClr_N _ _ _).trans (wKeepD_bq v p h_).2.2.1
        refine kb_iload_n X 3 dX4_bury_37 rfl rfl ?_
        refine kb_aload_n X 0 dX4_bury_38 rfl rfl ?_
        refine kb_get (v := .int (nI (vN (wClr (sC (sX (wBequeath v p h_) (vX v ||| 2 ^ p)) (upd (vC (wBequeath v p h_)) p 0)) p i)))) (C := RX4) (T := TX4) (N := 11) (ci := 4) X kw_iX4 rfl 0 5 rfl (by decide) kf_X4_27 rfl rfl dX4_bury_39 ?_
        refine kn_icmp_ge (a := i) (b := vN (wClr (sC (sX (wBequeath v p h_) (vX v ||| 2 ^ p)) (upd (vC (wBequeath v p h_)) p 0)) p i)) (tgt := 75) X (by omega) (by omega) dX4_bury_42 (by decide) (fun c5_ => ?_) (fun c5_ => ?_)
        · skip
          omega
        · skip
          refine kb_aload_n X 0 dX4_bury_45 rfl rfl ?_
          refine kb_get (v := .ref (a 5)) (C := RX4) (T := TX4) (N := 11) (ci := 4) X kw_iX4 rfl 0 4 rfl (by decide) kf_X4_24 rfl rfl dX4_bury_46 ?_
          refine kb_aload_n X 0 dX4_bury_49 rfl rfl ?_
          refine kb_iload_n X 3 dX4_bury_50 rfl rfl ?_
          refine kb_iload_n X 1 dX4_bury_51 rfl rfl ?_
          refine kc_Vi X (As := [.int (nI (i)), .int (nI (p))]) (rest := [.ref (a 5)]) (wr := []) (ct_X4_cell l g a (wClr (sC (sX (wBequeath v p h_) (vX v ||| 2 ^ p)) (upd (vC (wBequeath v p h_)) p 0)) p i) i p ) dX4_bury_52 rfl (kw_pall _) mc_X4_cell kl_X4_60 mi_X4_cell mv_X4_cell kn_X4 0 rfl rfl rfl (na := 2) (by decide +kernel) rfl ⟨Nat.le_of_ble_eq_true rfl, Nat.le_of_ble_eq_true rfl⟩ ⟨rfl, rfl⟩ ⟨Nat.le_of_ble_eq_true rfl, Nat.le_of_ble_eq_true rfl⟩ (Nat.le_of_ble_eq_true rfl) (fun r_ w_ hp_ => ?_)
          obtain ⟨rfl, rfl⟩ := hp_
          refine kw_ws (List.append_nil _) ?_
          refine kb_iconst (v := (0 : Int32)) X dX4_bury_55 (by decide) ?_
          refine kb_iast (i := i * 6 + p) X 5 rfl (by omega) (by decide) dX4_bury_56 (ws' := wV g a (sD (wClr (sC (sX (wBequeath v p h_) (vX v ||| 2 ^ p)) (upd (vC (wBequeath v p h_)) p 0)) p i) (upd (vD (wClr (sC (sX (wBequeath v p h_) (vX v ||| 2 ^ p)) (upd (vC (wBequeath v p h_)) p 0)) p i)) (i * 6 + p) (0 : Int32)))) rfl ?_
          refine kb_aload_n X 0 dX4_bury_57 rfl rfl ?_
          refine kb_get (v := .ref (a 5)) (C := RX4) (T := TX4) (N := 11) (ci := 4) X kw_iX4 rfl 0 4 rfl (by decide) kf_X4_24 rfl rfl dX4_bury_58 ?_
          refine kb_aload_n X 0 dX4_bury_61 rfl rfl ?_
          refine kb_iload_n X 1 dX4_bury_62 rfl rfl ?_
          refine kb_iload_n X 3 dX4_bury_63 rfl rfl ?_
          refine kc_Vi X (As := [.int (nI (p)), .int (nI (i))]) (rest := [.ref (a 5)]) (wr := []) (ct_X4_cell l g a (sD (wClr (sC (sX (wBequeath v p h_) (vX v ||| 2 ^ p)) (upd (vC (wBequeath v p h_)) p 0)) p i) (upd (vD (wClr (sC (sX (wBequeath v p h_) (vX v ||| 2 ^ p)) (upd (vC (wBequeath v p h_)) p 0)) p i)) (i * 6 + p) (0 : Int32))) p i ) dX4_bury_64 rfl (kw_pall _) mc_X4_cell kl_X4_60 mi_X4_cell mv_X4_cell kn_X4 0 rfl rfl rfl (na := 2) (by decide +kernel) rfl ⟨Nat.le_of_ble_eq_true rfl, Nat.le_of_ble_eq_true rfl⟩ ⟨rfl, rfl⟩ ⟨Nat.le_of_ble_eq_true rfl, Nat.le_of_ble_eq_true rfl⟩ (Nat.le_of_ble_eq_true rfl) (fun r_ w_ hp_ => ?_)
          obtain ⟨rfl, rfl⟩ := hp_
          refine kw_ws (List.append_nil _) ?_
          refine kb_iconst (v := (0 : Int32)) X dX4_bury_67 (by decide) ?_
          refine kb_iast (i := p * 6 + i) X 5 rfl (by omega) (by decide) dX4_bury_68 (ws' := wV g a (sD (sD (wClr (sC (sX (wBequeath v p h_) (vX v ||| 2 ^ p)) (upd (vC (wBequeath v p h_)) p 0)) p i) (upd (vD (wClr (sC (sX (wBequeath v p h_) (vX v ||| 2 ^ p)) (upd (vC (wBequeath v p h_)) p 0)) p i)) (i * 6 + p) (0 : Int32))) (upd (upd (vD (wClr (sC (sX (wBequeath v p h_) (vX v ||| 2 ^ p)) (upd (vC (wBequeath v p h_)) p 0)) p i)) (i * 6 + p) (0 : Int32)) (p * 6 + i) (0 : Int32)))) rfl ?_
          refine kb_iinc X 3 [1, 2, 3, 0] (v' := nI (i + 1)) dX4_bury_69 rfl (nI_add _ _) (by decide) (lv' := [(0, .ref (a 0)), (1, .int (nI (p))), (2, .int (nI (h_))), (3, .int (nI (i + 1)))]) rfl ?_
          refine kb_goto (tgt := 37) X dX4_bury_72 (by decide) ?_
          exact kw_to (ih (i + 1) (by omega)) rfl rfl rfl
    exact kw_to (L37 (vN v) 0 (by omega)) rfl rfl rfl

set_option maxHeartbeats 4000000 in
set_option maxRecDepth 100000 in
theorem ct_X4_liveOneDay (l : Launch) (g : kw_G) (a : Nat → Nat) (v : VS) (hv : VI v) (d : Nat) (hd : d < 65521) : kMi l g yX4_liveOneDay cX4_liveOneDay 7 .int (kw_rm 6 0 0) 0 0 [.ref (a 0), .int (nI (d))] (wV g a v) (fun r w => r = nI (if 1 ≤ vN v then wDayC v d else 0) ∧ w = wV g a (if 1 ≤ vN v then wDay v d else v)) := by
  refine kMi_of (by decide +kernel) (Nat.le_of_ble_eq_true rfl) (fun x (X : kX l g RX4 cX4_liveOneDay 7 (kw_rm 6 0 0) x) (Z : kZi .int _ 0 0 x) => ?_)
  show kW x 0 0 0 [(0, .ref (a 0)), (1, .int (nI (d)))] [] (wV g a v)
  have h6 := hv.1
  refine kb_aload_n X 0 dX4_liveOneDay_0 rfl rfl ?_
  refine kb_get (v := .int (nI (vN v))) (C := RX4) (T := TX4) (N := 11) (ci := 4) X kw_iX4 rfl 0 5 rfl (by decide) kf_X4_27 rfl rfl dX4_liveOneDay_1 ?_
  refine kb_iconst (v := (1 : Int32)) X dX4_liveOneDay_4 (by decide) ?_
  refine kn_icmp_ge (a := vN v) (b := 1) (tgt := 10) X (by omega) (by omega) dX4_liveOneDay_5 (by decide) (fun c1_ => ?_) (fun c1_ => ?_)
  · skip
    have hp_ : d % vN v < vN v := Nat.mod_lt _ (by omega)
    have hq_ : d / 128 % vN v < vN v := Nat.mod_lt _ (by omega)
    refine kb_iload_n X 1 dX4_liveOneDay_10 rfl rfl ?_
    refine kb_aload_n X 0 dX4_liveOneDay_11 rfl rfl ?_
    refine kb_get (v := .int (nI (vN v))) (C := RX4) (T := TX4) (N := 11) (ci := 4) X kw_iX4 rfl 0 5 rfl (by decide) kf_X4_27 rfl rfl dX4_liveOneDay_12 ?_
    refine kn_irem X d (vN v) (by omega) (by omega) (by omega) dX4_liveOneDay_15 ?_
    refine kb_istore_n X [1, 2, 0] dX4_liveOneDay_16 rfl (by decide) (lv' := [(0, .ref (a 0)), (1, .int (nI (d))), (2, .int (nI (d % (vN v))))]) rfl ?_
    refine kb_iload_n X 1 dX4_liveOneDay_17 rfl rfl ?_
    refine kb_bipush (v := (8 : Int32)) X dX4_liveOneDay_18 (by decide) ?_
    refine kn_idiv X d 8 (by omega) (by omega) (by omega) dX4_liveOneDay_20 ?_
    refine kb_iconst (v := (4 : Int32)) X dX4_liveOneDay_21 (by decide) ?_
    refine kn_irem X (d / 8) 4 (by omega) (by omega) (by omega) dX4_liveOneDay_22 ?_
    refine kb_istore_n X [1, 2, 3, 0] dX4_liveOneDay_23 rfl (by decide) (lv' := [(0, .ref (a 0)), (1, .int (nI (d))), (2, .int (nI (d % (vN v)))), (3, .int (nI ((d / 8) % 4)))]) rfl ?_
    refine kb_iload_n X 1 dX4_liveOneDay_24 rfl rfl ?_
    refine kb_bipush (v := (32 : Int32)) X dX4_liveOneDay_25 (by decide) ?_
    refine kn_idiv X d 32 (by omega) (by omega) (by omega) dX4_liveOneDay_27 ?_
    refine kb_iconst (v := (4 : Int32)) X dX4_liveOneDay_28 (by decide) ?_
    refine kn_irem X (d / 32) 4 (by omega) (by omega) (by omega) dX4_liveOneDay_29 ?_
    refine kb_istore X [1, 2, 3, 4, 0] dX4_liveOneDay_30 (by decide) (lv' := [(0, .ref (a 0)), (1, .int (nI (d))), (2, .int (nI (d % (vN v)))), (3, .int (nI ((d / 8) % 4))), (4, .int (nI ((d / 32) % 4)))]) rfl ?_
    refine kb_iload_n X 1 dX4_liveOneDay_32 rfl rfl ?_
    refine kb_sipush (v := (128 : Int32)) X dX4_liveOneDay_33 (by decide) ?_
    refine kn_idiv X d 128 (by omega) (by omega) (by omega) dX4_liveOneDay_36 ?_
    refine kb_aload_n X 0 dX4_liveOneDay_37 rfl rfl ?_
    refine kb_get (v := .int (nI (vN v))) (C := RX4) (T := TX4) (N := 11) (ci := 4) X kw_iX4 rfl 0 5 rfl (by decide) kf_X4_27 rfl rfl dX4_liveOneDay_38 ?_
    refine kn_irem X (d / 128) (vN v) (by omega) (by omega) (by omega) dX4_liveOneDay_41 ?_
    refine kb_istore X [1, 2, 3, 4, 5, 0] dX4_liveOneDay_42 (by decide) (lv' := [(0, .ref (a 0)), (1, .int (nI (d))), (2, .int (nI (d % (vN v)))), (3, .int (nI ((d / 8) % 4))), (4, .int (nI ((d / 32) % 4))), (5, .int (nI ((d / 128) % (vN v))))]) rfl ?_
    refine kb_iconst (v := (0 : Int32)) X dX4_liveOneDay_44 (by decide) ?_
    refine kb_istore X [1, 2, 3, 4, 5, 6, 0] dX4_liveOneDay_45 (by decide) (lv' := [(0, .ref (a 0)), (1, .int (nI (d))), (2, .int (nI (d % (vN v)))), (3, .int (nI ((d / 8) % 4))), (4, .int (nI ((d / 32) % 4))), (5, .int (nI ((d / 128) % (vN v)))), (6, .int 0)]) rfl ?_
    refine kb_aload_n X 0 dX4_liveOneDay_47 rfl rfl ?_
    refine kb_iload_n X 2 dX4_liveOneDay_48 rfl rfl ?_
    refine kb_iload_n X 3 dX4_liveOneDay_49 rfl rfl ?_
    refine kb_iload X 4 dX4_liveOneDay_50 rfl ?_
    refine kc_Vi X (As := [.int (nI (d % (vN v))), .int (nI ((d / 8) % 4)), .int (nI ((d / 32) % 4))]) (rest := []) (wr := []) (ct_X4_canHoldTrial l g a v hv (d % (vN v)) (nI ((d / 8) % 4)) (nI ((d / 32) % 4)) (by omega)) dX4_liveOneDay_52 rfl (kw_pall _) mc_X4_canHoldTrial kl_X4_130 mi_X4_canHoldTrial mv_X4_canHoldTrial kn_X4 0 rfl rfl rfl (na := 3) (by decide +kernel) rfl ⟨Nat.le_of_ble_eq_true rfl, Nat.le_of_ble_eq_true rfl⟩ ⟨rfl, rfl⟩ ⟨Nat.le_of_ble_eq_true rfl, Nat.le_of_ble_eq_true rfl⟩ (Nat.le_of_ble_eq_true rfl) (fun r_ w_ hp_ => ?_)
    obtain ⟨rfl, rfl⟩ := hp_
    refine kw_ws (List.append_nil _) ?_
    refine kz_if_eq (b := wCan v (d % (vN v)) (nI ((d / 8) % 4)) (nI ((d / 32) % 4))) (tgt := 74) X dX4_liveOneDay_55 (by decide) (fun c2_ => ?_) (fun c2_ => ?_)
    · skip
      refine kb_iload_n X 2 dX4_liveOneDay_74 rfl rfl ?_
      refine kb_iload X 5 dX4_liveOneDay_75 rfl ?_
      refine kn_icmp_eq (a := d % (vN v)) (b := (d / 128) % (vN v)) (tgt := 97) X (by omega) (by omega) dX4_liveOneDay_77 (by decide) (fun c3_ => ?_) (fun c3_ => ?_)
      · skip
        refine kb_aload_n X 0 dX4_liveOneDay_97 rfl rfl ?_
        refine kb_iconst (v := (1 : Int32)) X dX4_liveOneDay_98 (by decide) ?_
        refine kc_Vv X (As := [.int 1]) (rest := []) (wr := []) (ct_X4_letDaysGoBy l g a v (1 : Int32) ) dX4_liveOneDay_99 rfl (kw_pall _) mc_X4_letDaysGoBy kl_X4_148 mi_X4_letDaysGoBy mv_X4_letDaysGoBy kn_X4 0 rfl rfl rfl (na := 1) (by decide +kernel) rfl ⟨Nat.le_of_ble_eq_true rfl, Nat.le_of_ble_eq_true rfl⟩ ⟨rfl, rfl⟩ ⟨Nat.le_of_ble_eq_true rfl, Nat.le_of_ble_eq_true rfl⟩ (Nat.le_of_ble_eq_true rfl) (fun w_ hp_ => ?_)
        obtain rfl := hp_
        refine kw_ws (List.append_nil _) ?_
        refine kb_iload X 6 dX4_liveOneDay_102 rfl ?_
        refine ke_i X Z dX4_liveOneDay_104 ?_
        exact ⟨by rw [if_pos (by omega)]; simp [wDayC, c1_, c2_, (decide_eq_true c3_)] <;> rfl, by rw [if_pos (by omega)]; simp [wDay, wDayP, c1_, c2_, (decide_eq_true c3_)]⟩
      · skip
        refine kb_aload_n X 0 dX4_liveOneDay_80 rfl rfl ?_
        refine kb_iload_n X 2 dX4_liveOneDay_81 rfl rfl ?_
        refine kb_iload X 5 dX4_liveOneDay_82 rfl ?_
        refine kc_Vi X (As := [.int (nI (d % (vN v))), .int (nI ((d / 128) % (vN v)))]) (rest := []) (wr := []) (ct_X4_canGive l g a v hv (d % (vN v)) ((d / 128) % (vN v)) (by omega) (by omega)) dX4_liveOneDay_84 rfl (kw_pall _) mc_X4_canGive kl_X4_142 mi_X4_canGive mv_X4_canGive kn_X4 0 rfl rfl rfl (na := 2) (by decide +kernel) rfl ⟨Nat.le_of_ble_eq_true rfl, Nat.le_of_ble_eq_true rfl⟩ ⟨rfl, rfl⟩ ⟨Nat.le_of_ble_eq_true rfl, Nat.le_of_ble_eq_true rfl⟩ (Nat.le_of_ble_eq_true rfl) (fun r_ w_ hp_ => ?_)
        obtain ⟨rfl, rfl⟩ := hp_
        refine kw_ws (List.append_nil _) ?_
        refine kz_if_eq (b := wCanGive v (d % (vN v)) ((d / 128) % (vN v))) (tgt := 97) X dX4_liveOneDay_87 (by decide) (fun c4_ => ?_) (fun c4_ => ?_)
        · skip
          refine kb_aload_n X 0 dX4_liveOneDay_97 rfl rfl ?_
          refine kb_iconst (v := (1 : Int32)) X dX4_liveOneDay_98 (by decide) ?_
          refine kc_Vv X (As := [.int 1]) (rest := []) (wr := []) (ct_X4_letDaysGoBy l g a v (1 : Int32) ) dX4_liveOneDay_99 rfl (kw_pall _) mc_X4_letDaysGoBy kl_X4_148 mi_X4_letDaysGoBy mv_X4_letDaysGoBy kn_X4 0 rfl rfl rfl (na := 1) (by decide +kernel) rfl ⟨Nat.le_of_ble_eq_true rfl, Nat.le_of_ble_eq_true rfl⟩ ⟨rfl, rfl⟩ ⟨Nat.le_of_ble_eq_true rfl, Nat.le_of_ble_eq_true rfl⟩ (Nat.le_of_ble_eq_true rfl) (fun w_ hp_ => ?_)
          obtain rfl := hp_
          refine kw_ws (List.append_nil _) ?_
          refine kb_iload X 6 dX4_liveOneDay_102 rfl ?_
          refine ke_i X Z dX4_liveOneDay_104 ?_
          exact ⟨by rw [if_pos (by omega)]; simp [wDayC, c1_, c2_, c3_, c4_] <;> rfl, by rw [if_pos (by omega)]; simp [wDay, wDayP, c1_, c2_, c3_, c4_]⟩
        · skip
          refine kb_aload_n X 0 dX4_liveOneDay_90 rfl rfl ?_
          refine kb_iload_n X 2 dX4_liveOneDay_91 rfl rfl ?_
          refine kb_iload X 5 dX4_liveOneDay_92 rfl ?_
          refine kc_Vv X (As := [.int (nI (d % (vN v))), .int (nI ((d / 128) % (vN v)))]) (rest := []) (wr := []) (ct_X4_give l g a v (d % (vN v)) ((d / 128) % (vN v)) (by omega) (by omega)) dX4_liveOneDay_94 rfl (kw_pall _) mc_X4_give kl_X4_145 mi_X4_give mv_X4_give kn_X4 0 rfl rfl rfl (na := 2) (by decide +kernel) rfl ⟨Nat.le_of_ble_eq_true rfl, Nat.le_of_ble_eq_true rfl⟩ ⟨rfl, rfl⟩ ⟨Nat.le_of_ble_eq_true rfl, Nat.le_of_ble_eq_true rfl⟩ (Nat.le_of_ble_eq_true rfl) (fun w_ hp_ => ?_)
          obtain rfl := hp_
          refine kw_ws (List.append_nil _) ?_
          refine kb_aload_n X 0 dX4_liveOneDay_97 rfl rfl ?_
          refine kb_iconst (v := (1 : Int32)) X dX4_liveOneDay_98 (by decide) ?_
          refine kc_Vv X (As := [.int 1]) (rest := []) (wr := []) (ct_X4_letDaysGoBy l g a (wGive v (d % (vN v)) ((d / 128) % (vN v))) (1 : Int32) ) dX4_liveOneDay_99 rfl (kw_pall _) mc_X4_letDaysGoBy kl_X4_148 mi_X4_letDaysGoBy mv_X4_letDaysGoBy kn_X4 0 rfl rfl rfl (na := 1) (by decide +kernel) rfl ⟨Nat.le_of_ble_eq_true rfl, Nat.le_of_ble_eq_true rfl⟩ ⟨rfl, rfl⟩ ⟨Nat.le_of_ble_eq_true rfl, Nat.le_of_ble_eq_true rfl⟩ (Nat.le_of_ble_eq_true rfl) (fun w_ hp_ => ?_)
          obtain rfl := hp_
          refine kw_ws (List.append_nil _) ?_
          refine kb_iload X 6 dX4_liveOneDay_102 rfl ?_
          refine ke_i X Z dX4_liveOneDay_104 ?_
          exact ⟨by rw [if_pos (by omega)]; simp [wDayC, c1_, c2_, c3_, c4_] <;> rfl, by rw [if_pos (by omega)]; simp [wDay, wDayP, c1_, c2_, c3_, c4_]⟩
    · skip
      refine kb_aload_n X 0 dX4_liveOneDay_58 rfl rfl ?_
      refine kb_iload_n X 2 dX4_liveOneDay_59 rfl rfl ?_
      refine kb_iload_n X 3 dX4_liveOneDay_60 rfl rfl ?_
      refine kb_iload X 4 dX4_liveOneDay_61 rfl ?_
      refine kc_Vi X (As := [.int (nI (d % (vN v))), .int (nI ((d / 8) % 4)), .int (nI ((d / 32) % 4))]) (rest := []) (wr := []) (ct_X4_holdTrial l g a v hv (d % (vN v)) (nI ((d / 8) % 4)) (nI ((d / 32) % 4)) (by omega)) dX4_liveOneDay_63 rfl (kw_pall _) mc_X4_holdTrial kl_X4_134 mi_X4_holdTrial mv_X4_holdTrial kn_X4 0 rfl rfl rfl (na := 3) (by decide +kernel) rfl ⟨Nat.le_of_ble_eq_true rfl, Nat.le_of_ble_eq_true rfl⟩ ⟨rfl, rfl⟩ ⟨Nat.le_of_ble_eq_true rfl, Nat.le_of_ble_eq_true rfl⟩ (Nat.le_of_ble_eq_true rfl) (fun r_ w_ hp_ => ?_)
      obtain ⟨rfl, rfl⟩ := hp_
      refine kw_ws (List.append_nil _) ?_
      refine kc_Si X (As := [.int (nI (wGuests v (d % (vN v)) (nI ((d / 8) % 4)) (nI ((d / 32) % 4))))]) (rest := []) (wr := (wV g a (wHold v (d % (vN v)) (nI ((d / 8) % 4)) (nI ((d / 32) % 4))))) (ct_J6_bitCount_0f7a4 l g (wGuests v (d % (vN v)) (nI ((d / 8) % 4)) (nI ((d / 32) % 4))) (wGuests_lt _ _ _ _ h6)) dX4_liveOneDay_66 rfl (List.Perm.refl _) mc_J6_bitCount_0f7a4 kl_X4_137 ms_J6_bitCount_0f7a4 kn_J6 (na := 1) (by decide +kernel) rfl ⟨Nat.le_of_ble_eq_true rfl, Nat.le_of_ble_eq_true rfl⟩ ⟨rfl, rfl⟩ ⟨Nat.le_of_ble_eq_true rfl, Nat.le_of_ble_eq_true rfl⟩ (Nat.le_of_ble_eq_true rfl) (fun r_ w_ hp_ => ?_)
      obtain ⟨rfl, rfl⟩ := hp_
      refine kw_ws (List.nil_append _) ?_
      refine kb_istore X [1, 2, 3, 4, 5, 6, 0] dX4_liveOneDay_69 (by decide) (lv' := [(0, .ref (a 0)), (1, .int (nI (d))), (2, .int (nI (d % (vN v)))), (3, .int (nI ((d / 8) % 4))), (4, .int (nI ((d / 32) % 4))), (5, .int (nI ((d / 128) % (vN v)))), (6, .int (nI (wBits (wGuests v (d % (vN v)) (nI ((d / 8) % 4)) (nI ((d / 32) % 4))))))]) rfl ?_
      refine kb_goto (tgt := 97) X dX4_liveOneDay_71 (by decide) ?_
      refine kb_aload_n X 0 dX4_liveOneDay_97 rfl rfl ?_
      refine kb_iconst (v := (1 : Int32)) X dX4_liveOneDay_98 (by decide) ?_
      refine kc_Vv X (As := [.int 1]) (rest := []) (wr := []) (ct_X4_letDaysGoBy l g a (wHold v (d % (vN v)) (nI ((d / 8) % 4)) (nI ((d / 32) % 4))) (1 : Int32) ) dX4_liveOneDay_99 rfl (kw_pall _) mc_X4_letDaysGoBy kl_X4_148 mi_X4_letDaysGoBy mv_X4_letDaysGoBy kn_X4 0 rfl rfl rfl (na := 1) (by decide +kernel) rfl ⟨Nat.le_of_ble_eq_true rfl, Nat.le_of_ble_eq_true rfl⟩ ⟨rfl, rfl⟩ ⟨Nat.le_of_ble_eq_true rfl, Nat.le_of_ble_eq_true rfl⟩ (Nat.le_of_ble_eq_true rfl) (fun w_ hp_ => ?_)
      obtain rfl := hp_
      refine kw_ws (List.append_nil _) ?_
      refine kb_iload X 6 dX4_liveOneDay_102 rfl ?_
      refine ke_i X Z dX4_liveOneDay_104 ?_
      exact ⟨by rw [if_pos (by omega)]; simp [wDayC, c1_, c2_] <;> rfl, by rw [if_pos (by omega)]; simp [wDay, wDayP, c1_, c2_]⟩
  · skip
    refine kb_iconst (v := (0 : Int32)) X dX4_liveOneDay_8 (by decide) ?_
    refine ke_i X Z dX4_liveOneDay_9 ?_
    exact ⟨by rw [if_neg (by omega)] <;> rfl, by rw [if_neg (by omega)]⟩
