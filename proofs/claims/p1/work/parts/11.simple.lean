theorem vp_in_w {i : Int32} (h : wth i 0 7) : vp_in i 8 := by
  obtain ⟨j, _, g, rfl⟩ := w_nat (a := 0) (b := 7) (by decide) (by decide) h
  exact vp_in_nI (by omega) (by decide)
theorem dX11_isIn_19 : decode cX11_isIn 19 = .ok (.iconst 1, 1) := by decide +kernel
theorem dX11_isIn_20 : decode cX11_isIn 20 = .ok (.goto 4, 3) := by decide +kernel
set_option maxRecDepth 20000 in
set_option maxHeartbeats 4000000 in
theorem t_isIn (E : xE) (l : Launch) (ws : va_W) (bs pl : Int32) : xI E l yX11_isIn cX11_isIn 2 (some .boolean) 0 [.int bs, .int pl] ws (fun r w => w = ws) := by
  refine xI_start (lv := [(0, .int bs), (1, .int pl)]) RX11 (by decide) rfl (Nat.le_of_ble_eq_true rfl) rfl (fun p e s m below meth c A C hr hlk => ?_)
  refine x_iload_n C dX11_isIn_0 rfl 1 rfl rfl ?_
  refine x_if_lt C (tgt := 23) dX11_isIn_1 (by decide) rfl (fun c1 => ?_) (fun c1 => ?_)
  · skip
    refine x_iconst C (v := 0) dX11_isIn_23 (by decide) rfl ?_
    exact x_zret C hr hlk rfl dX11_isIn_24 rfl
  · skip
    refine x_iload_n C dX11_isIn_4 rfl 1 rfl rfl ?_
    refine x_bipush C (v := 8) dX11_isIn_5 (by decide) rfl ?_
    refine x_icmp_ge C (tgt := 23) dX11_isIn_7 (by decide) rfl (fun c2 => ?_) (fun c2 => ?_)
    · skip
      refine x_iconst C (v := 0) dX11_isIn_23 (by decide) rfl ?_
      exact x_zret C hr hlk rfl dX11_isIn_24 rfl
    · skip
      refine x_iload_n C dX11_isIn_10 rfl 0 rfl rfl ?_
      refine x_iload_n C dX11_isIn_11 rfl 1 rfl rfl ?_
      refine x_ishr C (v := (bs >>> (pl &&& 31))) dX11_isIn_12 rfl rfl ?_
      refine x_iconst C (v := 1) dX11_isIn_13 (by decide) rfl ?_
      refine x_iand C (v := ((bs >>> (pl &&& 31)) &&& (1 : Int32))) dX11_isIn_14 rfl rfl ?_
      refine x_iconst C (v := 1) dX11_isIn_15 (by decide) rfl ?_
      refine x_icmp_ne C (tgt := 23) dX11_isIn_16 (by decide) rfl (fun c3 => ?_) (fun c3 => ?_)
      · skip
        refine x_iconst C (v := 0) dX11_isIn_23 (by decide) rfl ?_
        exact x_zret C hr hlk rfl dX11_isIn_24 rfl
      · skip
        refine x_iconst C (v := 1) dX11_isIn_19 (by decide) rfl ?_
        refine x_goto C (tgt := 24) dX11_isIn_20 (by decide) ?_
        exact x_zret C hr hlk rfl dX11_isIn_24 rfl
theorem dJ6_bitCount_0f7a4_0 : decode cJ6_bitCount_0f7a4 0 = .ok (.iload_n 0, 1) := by decide +kernel
theorem dJ6_bitCount_0f7a4_1 : decode cJ6_bitCount_0f7a4 1 = .ok (.iload_n 0, 1) := by decide +kernel
theorem dJ6_bitCount_0f7a4_2 : decode cJ6_bitCount_0f7a4 2 = .ok (.iconst 1, 1) := by decide +kernel
theorem dJ6_bitCount_0f7a4_3 : decode cJ6_bitCount_0f7a4 3 = .ok (.iushr, 1) := by decide +kernel
theorem dJ6_bitCount_0f7a4_4 : decode cJ6_bitCount_0f7a4 4 = .ok (.ldc_w 265, 3) := by decide +kernel
theorem dJ6_bitCount_0f7a4_7 : decode cJ6_bitCount_0f7a4 7 = .ok (.iand, 1) := by decide +kernel
theorem dJ6_bitCount_0f7a4_8 : decode cJ6_bitCount_0f7a4 8 = .ok (.isub, 1) := by decide +kernel
theorem dJ6_bitCount_0f7a4_9 : decode cJ6_bitCount_0f7a4 9 = .ok (.istore_n 0, 1) := by decide +kernel
theorem dJ6_bitCount_0f7a4_10 : decode cJ6_bitCount_0f7a4 10 = .ok (.iload_n 0, 1) := by decide +kernel
theorem dJ6_bitCount_0f7a4_11 : decode cJ6_bitCount_0f7a4 11 = .ok (.ldc_w 266, 3) := by decide +kernel
theorem dJ6_bitCount_0f7a4_14 : decode cJ6_bitCount_0f7a4 14 = .ok (.iand, 1) := by decide +kernel
theorem dJ6_bitCount_0f7a4_15 : decode cJ6_bitCount_0f7a4 15 = .ok (.iload_n 0, 1) := by decide +kernel
theorem dJ6_bitCount_0f7a4_16 : decode cJ6_bitCount_0f7a4 16 = .ok (.iconst 2, 1) := by decide +kernel
theorem dJ6_bitCount_0f7a4_17 : decode cJ6_bitCount_0f7a4 17 = .ok (.iushr, 1) := by decide +kernel
theorem dJ6_bitCount_0f7a4_18 : decode cJ6_bitCount_0f7a4 18 = .ok (.ldc_w 266, 3) := by decide +kernel
theorem dJ6_bitCount_0f7a4_21 : decode cJ6_bitCount_0f7a4 21 = .ok (.iand, 1) := by decide +kernel
theorem dJ6_bitCount_0f7a4_22 : decode cJ6_bitCount_0f7a4 22 = .ok (.iadd, 1) := by decide +kernel
theorem dJ6_bitCount_0f7a4_23 : decode cJ6_bitCount_0f7a4 23 = .ok (.istore_n 0, 1) := by decide +kernel
theorem dJ6_bitCount_0f7a4_24 : decode cJ6_bitCount_0f7a4 24 = .ok (.iload_n 0, 1) := by decide +kernel
theorem dJ6_bitCount_0f7a4_25 : decode cJ6_bitCount_0f7a4 25 = .ok (.iload_n 0, 1) := by decide +kernel
theorem dJ6_bitCount_0f7a4_26 : decode cJ6_bitCount_0f7a4 26 = .ok (.iconst 4, 1) := by decide +kernel
theorem dJ6_bitCount_0f7a4_27 : decode cJ6_bitCount_0f7a4 27 = .ok (.iushr, 1) := by decide +kernel
theorem dJ6_bitCount_0f7a4_28 : decode cJ6_bitCount_0f7a4 28 = .ok (.iadd, 1) := by decide +kernel
theorem dJ6_bitCount_0f7a4_29 : decode cJ6_bitCount_0f7a4 29 = .ok (.ldc_w 267, 3) := by decide +kernel
theorem dJ6_bitCount_0f7a4_32 : decode cJ6_bitCount_0f7a4 32 = .ok (.iand, 1) := by decide +kernel
theorem dJ6_bitCount_0f7a4_33 : decode cJ6_bitCount_0f7a4 33 = .ok (.istore_n 0, 1) := by decide +kernel
theorem dJ6_bitCount_0f7a4_34 : decode cJ6_bitCount_0f7a4 34 = .ok (.iload_n 0, 1) := by decide +kernel
theorem dJ6_bitCount_0f7a4_35 : decode cJ6_bitCount_0f7a4 35 = .ok (.iload_n 0, 1) := by decide +kernel
theorem dJ6_bitCount_0f7a4_36 : decode cJ6_bitCount_0f7a4 36 = .ok (.bipush 8, 2) := by decide +kernel
theorem dJ6_bitCount_0f7a4_38 : decode cJ6_bitCount_0f7a4 38 = .ok (.iushr, 1) := by decide +kernel
theorem dJ6_bitCount_0f7a4_39 : decode cJ6_bitCount_0f7a4 39 = .ok (.iadd, 1) := by decide +kernel
theorem dJ6_bitCount_0f7a4_40 : decode cJ6_bitCount_0f7a4 40 = .ok (.istore_n 0, 1) := by decide +kernel
theorem dJ6_bitCount_0f7a4_41 : decode cJ6_bitCount_0f7a4 41 = .ok (.iload_n 0, 1) := by decide +kernel
theorem dJ6_bitCount_0f7a4_42 : decode cJ6_bitCount_0f7a4 42 = .ok (.iload_n 0, 1) := by decide +kernel
theorem dJ6_bitCount_0f7a4_43 : decode cJ6_bitCount_0f7a4 43 = .ok (.bipush 16, 2) := by decide +kernel
theorem dJ6_bitCount_0f7a4_45 : decode cJ6_bitCount_0f7a4 45 = .ok (.iushr, 1) := by decide +kernel
theorem dJ6_bitCount_0f7a4_46 : decode cJ6_bitCount_0f7a4 46 = .ok (.iadd, 1) := by decide +kernel
theorem dJ6_bitCount_0f7a4_47 : decode cJ6_bitCount_0f7a4 47 = .ok (.istore_n 0, 1) := by decide +kernel
theorem dJ6_bitCount_0f7a4_48 : decode cJ6_bitCount_0f7a4 48 = .ok (.iload_n 0, 1) := by decide +kernel
theorem dJ6_bitCount_0f7a4_49 : decode cJ6_bitCount_0f7a4 49 = .ok (.bipush 63, 2) := by decide +kernel
theorem dJ6_bitCount_0f7a4_51 : decode cJ6_bitCount_0f7a4 51 = .ok (.iand, 1) := by decide +kernel
theorem dJ6_bitCount_0f7a4_52 : decode cJ6_bitCount_0f7a4 52 = .ok (.ireturn, 1) := by decide +kernel
set_option maxRecDepth 20000 in
set_option maxHeartbeats 4000000 in
theorem t_bitCount (E : xE) (l : Launch) (ws : va_W) (i : Int32) : xI E l yJ6_bitCount_0f7a4 cJ6_bitCount_0f7a4 1 (some .int) 0 [.int i] ws (fun r w => w = ws) := by
  refine xI_start (lv := [(0, .int i)]) RJ6 (by decide) rfl (Nat.le_of_ble_eq_true rfl) rfl (fun p e s m below meth c A C hr hlk => ?_)
  refine x_iload_n C dJ6_bitCount_0f7a4_0 rfl 0 rfl rfl ?_
  refine x_iload_n C dJ6_bitCount_0f7a4_1 rfl 0 rfl rfl ?_
  refine x_iconst C (v := 1) dJ6_bitCount_0f7a4_2 (by decide) rfl ?_
  refine x_iushr C (v := (i.toUInt32 >>> ((1 : Int32).toUInt32 &&& Int32.toUInt32 31)).toInt32) dJ6_bitCount_0f7a4_3 rfl rfl ?_
  refine x_ldcw C w_906 dJ6_bitCount_0f7a4_4 rfl ?_
  refine x_iand C (v := ((i.toUInt32 >>> ((1 : Int32).toUInt32 &&& Int32.toUInt32 31)).toInt32 &&& (1431655765 : Int32))) dJ6_bitCount_0f7a4_7 rfl rfl ?_
  refine x_isub C (v := (i - ((i.toUInt32 >>> ((1 : Int32).toUInt32 &&& Int32.toUInt32 31)).toInt32 &&& (1431655765 : Int32)))) dJ6_bitCount_0f7a4_8 rfl rfl ?_
  refine x_istore_n C (lv' := [(0, .int (i - ((i.toUInt32 >>> ((1 : Int32).toUInt32 &&& Int32.toUInt32 31)).toInt32 &&& (1431655765 : Int32))))]) dJ6_bitCount_0f7a4_9 rfl (by decide) rfl rfl ?_
  refine x_iload_n C dJ6_bitCount_0f7a4_10 rfl 0 rfl rfl ?_
  refine x_ldcw C w_907 dJ6_bitCount_0f7a4_11 rfl ?_
  refine x_iand C (v := ((i - ((i.toUInt32 >>> ((1 : Int32).toUInt32 &&& Int32.toUInt32 31)).toInt32 &&& (1431655765 : Int32))) &&& (858993459 : Int32))) dJ6_bitCount_0f7a4_14 rfl rfl ?_
  refine x_iload_n C dJ6_bitCount_0f7a4_15 rfl 0 rfl rfl ?_
  refine x_iconst C (v := 2) dJ6_bitCount_0f7a4_16 (by decide) rfl ?_
  refine x_iushr C (v := ((i - ((i.toUInt32 >>> ((1 : Int32).toUInt32 &&& Int32.toUInt32 31)).toInt32 &&& (1431655765 : Int32))).toUInt32 >>> ((2 : Int32).toUInt32 &&& Int32.toUInt32 31)).toInt32) dJ6_bitCount_0f7a4_17 rfl rfl ?_
  refine x_ldcw C w_907 dJ6_bitCount_0f7a4_18 rfl ?_
  refine x_iand C (v := (((i - ((i.toUInt32 >>> ((1 : Int32).toUInt32 &&& Int32.toUInt32 31)).toInt32 &&& (1431655765 : Int32))).toUInt32 >>> ((2 : Int32).toUInt32 &&& Int32.toUInt32 31)).toInt32 &&& (858993459 : Int32))) dJ6_bitCount_0f7a4_21 rfl rfl ?_
  refine x_iadd C (v := (((i - ((i.toUInt32 >>> ((1 : Int32).toUInt32 &&& Int32.toUInt32 31)).toInt32 &&& (1431655765 : Int32))) &&& (858993459 : Int32)) + (((i - ((i.toUInt32 >>> ((1 : Int32).toUInt32 &&& Int32.toUInt32 31)).toInt32 &&& (1431655765 : Int32))).toUInt32 >>> ((2 : Int32).toUInt32 &&& Int32.toUInt32 31)).toInt32 &&& (858993459 : Int32)))) dJ6_bitCount_0f7a4_22 rfl rfl ?_
  refine x_istore_n C (lv' := [(0, .int (((i - ((i.toUInt32 >>> ((1 : Int32).toUInt32 &&& Int32.toUInt32 31)).toInt32 &&& (1431655765 : Int32))) &&& (858993459 : Int32)) + (((i - ((i.toUInt32 >>> ((1 : Int32).toUInt32 &&& Int32.toUInt32 31)).toInt32 &&& (1431655765 : Int32))).toUInt32 >>> ((2 : Int32).toUInt32 &&& Int32.toUInt32 31)).toInt32 &&& (858993459 : Int32))))]) dJ6_bitCount_0f7a4_23 rfl (by decide) rfl rfl ?_
  refine x_iload_n C dJ6_bitCount_0f7a4_24 rfl 0 rfl rfl ?_
  refine x_iload_n C dJ6_bitCount_0f7a4_25 rfl 0 rfl rfl ?_
  refine x_iconst C (v := 4) dJ6_bitCount_0f7a4_26 (by decide) rfl ?_
  refine x_iushr C (v := ((((i - ((i.toUInt32 >>> ((1 : Int32).toUInt32 &&& Int32.toUInt32 31)).toInt32 &&& (1431655765 : Int32))) &&& (858993459 : Int32)) + (((i - ((i.toUInt32 >>> ((1 : Int32).toUInt32 &&& Int32.toUInt32 31)).toInt32 &&& (1431655765 : Int32))).toUInt32 >>> ((2 : Int32).toUInt32 &&& Int32.toUInt32 31)).toInt32 &&& (858993459 : Int32))).toUInt32 >>> ((4 : Int32).toUInt32 &&& Int32.toUInt32 31)).toInt32) dJ6_bitCount_0f7a4_27 rfl rfl ?_
  refine x_iadd C (v := ((((i - ((i.toUInt32 >>> ((1 : Int32).toUInt32 &&& Int32.toUInt32 31)).toInt32 &&& (1431655765 : Int32))) &&& (858993459 : Int32)) + (((i - ((i.toUInt32 >>> ((1 : Int32).toUInt32 &&& Int32.toUInt32 31)).toInt32 &&& (1431655765 : Int32))).toUInt32 >>> ((2 : Int32).toUInt32 &&& Int32.toUInt32 31)).toInt32 &&& (858993459 : Int32))) + ((((i - ((i.toUInt32 >>> ((1 : Int32).toUInt32 &&& Int32.toUInt32 31)).toInt32 &&& (1431655765 : Int32))) &&& (858993459 : Int32)) + (((i - ((i.toUInt32 >>> ((1 : Int32).toUInt32 &&& Int32.toUInt32 31)).toInt32 &&& (1431655765 : Int32))).toUInt32 >>> ((2 : Int32).toUInt32 &&& Int32.toUInt32 31)).toInt32 &&& (858993459 : Int32))).toUInt32 >>> ((4 : Int32).toUInt32 &&& Int32.toUInt32 31)).toInt32)) dJ6_bitCount_0f7a4_28 rfl rfl ?_
  refine x_ldcw C w_908 dJ6_bitCount_0f7a4_29 rfl ?_
  refine x_iand C (v := (((((i - ((i.toUInt32 >>> ((1 : Int32).toUInt32 &&& Int32.toUInt32 31)).toInt32 &&& (1431655765 : Int32))) &&& (858993459 : Int32)) + (((i - ((i.toUInt32 >>> ((1 : Int32).toUInt32 &&& Int32.toUInt32 31)).toInt32 &&& (1431655765 : Int32))).toUInt32 >>> ((2 : Int32).toUInt32 &&& Int32.toUInt32 31)).toInt32 &&& (858993459 : Int32))) + ((((i - ((i.toUInt32 >>> ((1 : Int32).toUInt32 &&& Int32.toUInt32 31)).toInt32 &&& (1431655765 : Int32))) &&& (858993459 : Int32)) + (((i - ((i.toUInt32 >>> ((1 : Int32).toUInt32 &&& Int32.toUInt32 31)).toInt32 &&& (1431655765 : Int32))).toUInt32 >>> ((2 : Int32).toUInt32 &&& Int32.toUInt32 31)).toInt32 &&& (858993459 : Int32))).toUInt32 >>> ((4 : Int32).toUInt32 &&& Int32.toUInt32 31)).toInt32) &&& (252645135 : Int32))) dJ6_bitCount_0f7a4_32 rfl rfl ?_
  refine x_istore_n C (lv' := [(0, .int (((((i - ((i.toUInt32 >>> ((1 : Int32).toUInt32 &&& Int32.toUInt32 31)).toInt32 &&& (1431655765 : Int32))) &&& (858993459 : Int32)) + (((i - ((i.toUInt32 >>> ((1 : Int32).toUInt32 &&& Int32.toUInt32 31)).toInt32 &&& (1431655765 : Int32))).toUInt32 >>> ((2 : Int32).toUInt32 &&& Int32.toUInt32 31)).toInt32 &&& (858993459 : Int32))) + ((((i - ((i.toUInt32 >>> ((1 : Int32).toUInt32 &&& Int32.toUInt32 31)).toInt32 &&& (1431655765 : Int32))) &&& (858993459 : Int32)) + (((i - ((i.toUInt32 >>> ((1 : Int32).toUInt32 &&& Int32.toUInt32 31)).toInt32 &&& (1431655765 : Int32))).toUInt32 >>> ((2 : Int32).toUInt32 &&& Int32.toUInt32 31)).toInt32 &&& (858993459 : Int32))).toUInt32 >>> ((4 : Int32).toUInt32 &&& Int32.toUInt32 31)).toInt32) &&& (252645135 : Int32)))]) dJ6_bitCount_0f7a4_33 rfl (by decide) rfl rfl ?_
  refine x_iload_n C dJ6_bitCount_0f7a4_34 rfl 0 rfl rfl ?_
  refine x_iload_n C dJ6_bitCount_0f7a4_35 rfl 0 rfl rfl ?_
  refine x_bipush C (v := 8) dJ6_bitCount_0f7a4_36 (by decide) rfl ?_
  refine x_iushr C (v := ((((((i - ((i.toUInt32 >>> ((1 : Int32).toUInt32 &&& Int32.toUInt32 31)).toInt32 &&& (1431655765 : Int32))) &&& (858993459 : Int32)) + (((i - ((i.toUInt32 >>> ((1 : Int32).toUInt32 &&& Int32.toUInt32 31)).toInt32 &&& (1431655765 : Int32))).toUInt32 >>> ((2 : Int32).toUInt32 &&& Int32.toUInt32 31)).toInt32 &&& (858993459 : Int32))) + ((((i - ((i.toUInt32 >>> ((1 : Int32).toUInt32 &&& Int32.toUInt32 31)).toInt32 &&& (1431655765 : Int32))) &&& (858993459 : Int32)) + (((i - ((i.toUInt32 >>> ((1 : Int32).toUInt32 &&& Int32.toUInt32 31)).toInt32 &&& (1431655765 : Int32))).toUInt32 >>> ((2 : Int32).toUInt32 &&& Int32.toUInt32 31)).toInt32 &&& (858993459 : Int32))).toUInt32 >>> ((4 : Int32).toUInt32 &&& Int32.toUInt32 31)).toInt32) &&& (252645135 : Int32)).toUInt32 >>> ((8 : Int32).toUInt32 &&& Int32.toUInt32 31)).toInt32) dJ6_bitCount_0f7a4_38 rfl rfl ?_
  refine x_iadd C (v := ((((((i - ((i.toUInt32 >>> ((1 : Int32).toUInt32 &&& Int32.toUInt32 31)).toInt32 &&& (1431655765 : Int32))) &&& (858993459 : Int32)) + (((i - ((i.toUInt32 >>> ((1 : Int32).toUInt32 &&& Int32.toUInt32 31)).toInt32 &&& (1431655765 : Int32))).toUInt32 >>> ((2 : Int32).toUInt32 &&& Int32.toUInt32 31)).toInt32 &&& (858993459 : Int32))) + ((((i - ((i.toUInt32 >>> ((1 : Int32).toUInt32 &&& Int32.toUInt32 31)).toInt32 &&& (1431655765 : Int32))) &&& (858993459 : Int32)) + (((i - ((i.toUInt32 >>> ((1 : Int32).toUInt32 &&& Int32.toUInt32 31)).toInt32 &&& (1431655765 : Int32))).toUInt32 >>> ((2 : Int32).toUInt32 &&& Int32.toUInt32 31)).toInt32 &&& (858993459 : Int32))).toUInt32 >>> ((4 : Int32).toUInt32 &&& Int32.toUInt32 31)).toInt32) &&& (252645135 : Int32)) + ((((((i - ((i.toUInt32 >>> ((1 : Int32).toUInt32 &&& Int32.toUInt32 31)).toInt32 &&& (1431655765 : Int32))) &&& (858993459 : Int32)) + (((i - ((i.toUInt32 >>> ((1 : Int32).toUInt32 &&& Int32.toUInt32 31)).toInt32 &&& (1431655765 : Int32))).toUInt32 >>> ((2 : Int32).toUInt32 &&& Int32.toUInt32 31)).toInt32 &&& (858993459 : Int32))) + ((((i - ((i.toUInt32 >>> ((1 : Int32).toUInt32 &&& Int32.toUInt32 31)).toInt32 &&& (1431655765 : Int32))) &&& (858993459 : Int32)) + (((i - ((i.toUInt32 >>> ((1 : Int32).toUInt32 &&& Int32.toUInt32 31)).toInt32 &&& (1431655765 : Int32))).toUInt32 >>> ((2 : Int32).toUInt32 &&& Int32.toUInt32 31)).toInt32 &&& (858993459 : Int32))).toUInt32 >>> ((4 : Int32).toUInt32 &&& Int32.toUInt32 31)).toInt32) &&& (252645135 : Int32)).toUInt32 >>> ((8 : Int32).toUInt32 &&& Int32.toUInt32 31)).toInt32)) dJ6_bitCount_0f7a4_39 rfl rfl ?_
  refine x_istore_n C (lv' := [(0, .int ((((((i - ((i.toUInt32 >>> ((1 : Int32).toUInt32 &&& Int32.toUInt32 31)).toInt32 &&& (1431655765 : Int32))) &&& (858993459 : Int32)) + (((i - ((i.toUInt32 >>> ((1 : Int32).toUInt32 &&& Int32.toUInt32 31)).toInt32 &&& (1431655765 : Int32))).toUInt32 >>> ((2 : Int32).toUInt32 &&& Int32.toUInt32 31)).toInt32 &&& (858993459 : Int32))) + ((((i - ((i.toUInt32 >>> ((1 : Int32).toUInt32 &&& Int32.toUInt32 31)).toInt32 &&& (1431655765 : Int32))) &&& (858993459 : Int32)) + (((i - ((i.toUInt32 >>> ((1 : Int32).toUInt32 &&& Int32.toUInt32 31)).toInt32 &&& (1431655765 : Int32))).toUInt32 >>> ((2 : Int32).toUInt32 &&& Int32.toUInt32 31)).toInt32 &&& (858993459 : Int32))).toUInt32 >>> ((4 : Int32).toUInt32 &&& Int32.toUInt32 31)).toInt32) &&& (252645135 : Int32)) + ((((((i - ((i.toUInt32 >>> ((1 : Int32).toUInt32 &&& Int32.toUInt32 31)).toInt32 &&& (1431655765 : Int32))) &&& (858993459 : Int32)) + (((i - ((i.toUInt32 >>> ((1 : Int32).toUInt32 &&& Int32.toUInt32 31)).toInt32 &&& (1431655765 : Int32))).toUInt32 >>> ((2 : Int32).toUInt32 &&& Int32.toUInt32 31)).toInt32 &&& (858993459 : Int32))) + ((((i - ((i.toUInt32 >>> ((1 : Int32).toUInt32 &&& Int32.toUInt32 31)).toInt32 &&& (1431655765 : Int32))) &&& (858993459 : Int32)) + (((i - ((i.toUInt32 >>> ((1 : Int32).toUInt32 &&& Int32.toUInt32 31)).toInt32 &&& (1431655765 : Int32))).toUInt32 >>> ((2 : Int32).toUInt32 &&& Int32.toUInt32 31)).toInt32 &&& (858993459 : Int32))).toUInt32 >>> ((4 : Int32).toUInt32 &&& Int32.toUInt32 31)).toInt32) &&& (252645135 : Int32)).toUInt32 >>> ((8 : Int32).toUInt32 &&& Int32.toUInt32 31)).toInt32))]) dJ6_bitCount_0f7a4_40 rfl (by decide) rfl rfl ?_
  refine x_iload_n C dJ6_bitCount_0f7a4_41 rfl 0 rfl rfl ?_
  refine x_iload_n C dJ6_bitCount_0f7a4_42 rfl 0 rfl rfl ?_
  refine x_bipush C (v := 16) dJ6_bitCount_0f7a4_43 (by decide) rfl ?_
  refine x_iushr C (v := (((((((i - ((i.toUInt32 >>> ((1 : Int32).toUInt32 &&& Int32.toUInt32 31)).toInt32 &&& (1431655765 : Int32))) &&& (858993459 : Int32)) + (((i - ((i.toUInt32 >>> ((1 : Int32).toUInt32 &&& Int32.toUInt32 31)).toInt32 &&& (1431655765 : Int32))).toUInt32 >>> ((2 : Int32).toUInt32 &&& Int32.toUInt32 31)).toInt32 &&& (858993459 : Int32))) + ((((i - ((i.toUInt32 >>> ((1 : Int32).toUInt32 &&& Int32.toUInt32 31)).toInt32 &&& (1431655765 : Int32))) &&& (858993459 : Int32)) + (((i - ((i.toUInt32 >>> ((1 : Int32).toUInt32 &&& Int32.toUInt32 31)).toInt32 &&& (1431655765 : Int32))).toUInt32 >>> ((2 : Int32).toUInt32 &&& Int32.toUInt32 31)).toInt32 &&& (858993459 : Int32))).toUInt32 >>> ((4 : Int32).toUInt32 &&& Int32.toUInt32 31)).toInt32) &&& (252645135 : Int32)) + ((((((i - ((i.toUInt32 >>> ((1 : Int32).toUInt32 &&& Int32.toUInt32 31)).toInt32 &&& (1431655765 : Int32))) &&& (858993459 : Int32)) + (((i - ((i.toUInt32 >>> ((1 : Int32).toUInt32 &&& Int32.toUInt32 31)).toInt32 &&& (1431655765 : Int32))).toUInt32 >>> ((2 : Int32).toUInt32 &&& Int32.toUInt32 31)).toInt32 &&& (858993459 : Int32))) + ((((i - ((i.toUInt32 >>> ((1 : Int32).toUInt32 &&& Int32.toUInt32 31)).toInt32 &&& (1431655765 : Int32))) &&& (858993459 : Int32)) + (((i - ((i.toUInt32 >>> ((1 : Int32).toUInt32 &&& Int32.toUInt32 31)).toInt32 &&& (1431655765 : Int32))).toUInt32 >>> ((2 : Int32).toUInt32 &&& Int32.toUInt32 31)).toInt32 &&& (858993459 : Int32))).toUInt32 >>> ((4 : Int32).toUInt32 &&& Int32.toUInt32 31)).toInt32) &&& (252645135 : Int32)).toUInt32 >>> ((8 : Int32).toUInt32 &&& Int32.toUInt32 31)).toInt32).toUInt32 >>> ((16 : Int32).toUInt32 &&& Int32.toUInt32 31)).toInt32) dJ6_bitCount_0f7a4_45 rfl rfl ?_
  refine x_iadd C (v := (((((((i - ((i.toUInt32 >>> ((1 : Int32).toUInt32 &&& Int32.toUInt32 31)).toInt32 &&& (1431655765 : Int32))) &&& (858993459 : Int32)) + (((i - ((i.toUInt32 >>> ((1 : Int32).toUInt32 &&& Int32.toUInt32 31)).toInt32 &&& (1431655765 : Int32))).toUInt32 >>> ((2 : Int32).toUInt32 &&& Int32.toUInt32 31)).toInt32 &&& (858993459 : Int32))) + ((((i - ((i.toUInt32 >>> ((1 : Int32).toUInt32 &&& Int32.toUInt32 31)).toInt32 &&& (1431655765 : Int32))) &&& (858993459 : Int32)) + (((i - ((i.toUInt32 >>> ((1 : Int32).toUInt32 &&& Int32.toUInt32 31)).toInt32 &&& (1431655765 : Int32))).toUInt32 >>> ((2 : Int32).toUInt32 &&& Int32.toUInt32 31)).toInt32 &&& (858993459 : Int32))).toUInt32 >>> ((4 : Int32).toUInt32 &&& Int32.toUInt32 31)).toInt32) &&& (252645135 : Int32)) + ((((((i - ((i.toUInt32 >>> ((1 : Int32).toUInt32 &&& Int32.toUInt32 31)).toInt32 &&& (1431655765 : Int32))) &&& (858993459 : Int32)) + (((i - ((i.toUInt32 >>> ((1 : Int32).toUInt32 &&& Int32.toUInt32 31)).toInt32 &&& (1431655765 : Int32))).toUInt32 >>> ((2 : Int32).toUInt32 &&& Int32.toUInt32 31)).toInt32 &&& (858993459 : Int32))) + ((((i - ((i.toUInt32 >>> ((1 : Int32).toUInt32 &&& Int32.toUInt32 31)).toInt32 &&& (1431655765 : Int32))) &&& (858993459 : Int32)) + (((i - ((i.toUInt32 >>> ((1 : Int32).toUInt32 &&& Int32.toUInt32 31)).toInt32 &&& (1431655765 : Int32))).toUInt32 >>> ((2 : Int32).toUInt32 &&& Int32.toUInt32 31)).toInt32 &&& (858993459 : Int32))).toUInt32 >>> ((4 : Int32).toUInt32 &&& Int32.toUInt32 31)).toInt32) &&& (252645135 : Int32)).toUInt32 >>> ((8 : Int32).toUInt32 &&& Int32.toUInt32 31)).toInt32) + (((((((i - ((i.toUInt32 >>> ((1 : Int32).toUInt32 &&& Int32.toUInt32 31)).toInt32 &&& (1431655765 : Int32))) &&& (858993459 : Int32)) + (((i - ((i.toUInt32 >>> ((1 : Int32).toUInt32 &&& Int32.toUInt32 31)).toInt32 &&& (1431655765 : Int32))).toUInt32 >>> ((2 : Int32).toUInt32 &&& Int32.toUInt32 31)).toInt32 &&& (858993459 : Int32))) + ((((i - ((i.toUInt32 >>> ((1 : Int32).toUInt32 &&& Int32.toUInt32 31)).toInt32 &&& (1431655765 : Int32))) &&& (858993459 : Int32)) + (((i - ((i.toUInt32 >>> ((1 : Int32).toUInt32 &&& Int32.toUInt32 31)).toInt32 &&& (1431655765 : Int32))).toUInt32 >>> ((2 : Int32).toUInt32 &&& Int32.toUInt32 31)).toInt32 &&& (858993459 : Int32))).toUInt32 >>> ((4 : Int32).toUInt32 &&& Int32.toUInt32 31)).toInt32) &&& (252645135 : Int32)) + ((((((i - ((i.toUInt32 >>> ((1 : Int32).toUInt32 &&& Int32.toUInt32 31)).toInt32 &&& (1431655765 : Int32))) &&& (858993459 : Int32)) + (((i - ((i.toUInt32 >>> ((1 : Int32).toUInt32 &&& Int32.toUInt32 31)).toInt32 &&& (1431655765 : Int32))).toUInt32 >>> ((2 : Int32).toUInt32 &&& Int32.toUInt32 31)).toInt32 &&& (858993459 : Int32))) + ((((i - ((i.toUInt32 >>> ((1 : Int32).toUInt32 &&& Int32.toUInt32 31)).toInt32 &&& (1431655765 : Int32))) &&& (858993459 : Int32)) + (((i - ((i.toUInt32 >>> ((1 : Int32).toUInt32 &&& Int32.toUInt32 31)).toInt32 &&& (1431655765 : Int32))).toUInt32 >>> ((2 : Int32).toUInt32 &&& Int32.toUInt32 31)).toInt32 &&& (858993459 : Int32))).toUInt32 >>> ((4 : Int32).toUInt32 &&& Int32.toUInt32 31)).toInt32) &&& (252645135 : Int32)).toUInt32 >>> ((8 : Int32).toUInt32 &&& Int32.toUInt32 31)).toInt32).toUInt32 >>> ((16 : Int32).toUInt32 &&& Int32.toUInt32 31)).toInt32)) dJ6_bitCount_0f7a4_46 rfl rfl ?_
  refine x_istore_n C (lv' := [(0, .int (((((((i - ((i.toUInt32 >>> ((1 : Int32).toUInt32 &&& Int32.toUInt32 31)).toInt32 &&& (1431655765 : Int32))) &&& (858993459 : Int32)) + (((i - ((i.toUInt32 >>> ((1 : Int32).toUInt32 &&& Int32.toUInt32 31)).toInt32 &&& (1431655765 : Int32))).toUInt32 >>> ((2 : Int32).toUInt32 &&& Int32.toUInt32 31)).toInt32 &&& (858993459 : Int32))) + ((((i - ((i.toUInt32 >>> ((1 : Int32).toUInt32 &&& Int32.toUInt32 31)).toInt32 &&& (1431655765 : Int32))) &&& (858993459 : Int32)) + (((i - ((i.toUInt32 >>> ((1 : Int32).toUInt32 &&& Int32.toUInt32 31)).toInt32 &&& (1431655765 : Int32))).toUInt32 >>> ((2 : Int32).toUInt32 &&& Int32.toUInt32 31)).toInt32 &&& (858993459 : Int32))).toUInt32 >>> ((4 : Int32).toUInt32 &&& Int32.toUInt32 31)).toInt32) &&& (252645135 : Int32)) + ((((((i - ((i.toUInt32 >>> ((1 : Int32).toUInt32 &&& Int32.toUInt32 31)).toInt32 &&& (1431655765 : Int32))) &&& (858993459 : Int32)) + (((i - ((i.toUInt32 >>> ((1 : Int32).toUInt32 &&& Int32.toUInt32 31)).toInt32 &&& (1431655765 : Int32))).toUInt32 >>> ((2 : Int32).toUInt32 &&& Int32.toUInt32 31)).toInt32 &&& (858993459 : Int32))) + ((((i - ((i.toUInt32 >>> ((1 : Int32).toUInt32 &&& Int32.toUInt32 31)).toInt32 &&& (1431655765 : Int32))) &&& (858993459 : Int32)) + (((i - ((i.toUInt32 >>> ((1 : Int32).toUInt32 &&& Int32.toUInt32 31)).toInt32 &&& (1431655765 : Int32))).toUInt32 >>> ((2 : Int32).toUInt32 &&& Int32.toUInt32 31)).toInt32 &&& (858993459 : Int32))).toUInt32 >>> ((4 : Int32).toUInt32 &&& Int32.toUInt32 31)).toInt32) &&& (252645135 : Int32)).toUInt32 >>> ((8 : Int32).toUInt32 &&& Int32.toUInt32 31)).toInt32) + (((((((i - ((i.toUInt32 >>> ((1 : Int32).toUInt32 &&& Int32.toUInt32 31)).toInt32 &&& (1431655765 : Int32))) &&& (858993459 : Int32)) + (((i - ((i.toUInt32 >>> ((1 : Int32).toUInt32 &&& Int32.toUInt32 31)).toInt32 &&& (1431655765 : Int32))).toUInt32 >>> ((2 : Int32).toUInt32 &&& Int32.toUInt32 31)).toInt32 &&& (858993459 : Int32))) + ((((i - ((i.toUInt32 >>> ((1 : Int32).toUInt32 &&& Int32.toUInt32 31)).toInt32 &&& (1431655765 : Int32))) &&& (858993459 : Int32)) + (((i - ((i.toUInt32 >>> ((1 : Int32).toUInt32 &&& Int32.toUInt32 31)).toInt32 &&& (1431655765 : Int32))).toUInt32 >>> ((2 : Int32).toUInt32 &&& Int32.toUInt32 31)).toInt32 &&& (858993459 : Int32))).toUInt32 >>> ((4 : Int32).toUInt32 &&& Int32.toUInt32 31)).toInt32) &&& (252645135 : Int32)) + ((((((i - ((i.toUInt32 >>> ((1 : Int32).toUInt32 &&& Int32.toUInt32 31)).toInt32 &&& (1431655765 : Int32))) &&& (858993459 : Int32)) + (((i - ((i.toUInt32 >>> ((1 : Int32).toUInt32 &&& Int32.toUInt32 31)).toInt32 &&& (1431655765 : Int32))).toUInt32 >>> ((2 : Int32).toUInt32 &&& Int32.toUInt32 31)).toInt32 &&& (858993459 : Int32))) + ((((i - ((i.toUInt32 >>> ((1 : Int32).toUInt32 &&& Int32.toUInt32 31)).toInt32 &&& (1431655765 : Int32))) &&& (858993459 : Int32)) + (((i - ((i.toUInt32 >>> ((1 : Int32).toUInt32 &&& Int32.toUInt32 31)).toInt32 &&& (1431655765 : Int32))).toUInt32 >>> ((2 : Int32).toUInt32 &&& Int32.toUInt32 31)).toInt32 &&& (858993459 : Int32))).toUInt32 >>> ((4 : Int32).toUInt32 &&& Int32.toUInt32 31)).toInt32) &&& (252645135 : Int32)).toUInt32 >>> ((8 : Int32).toUInt32 &&& Int32.toUInt32 31)).toInt32).toUInt32 >>> ((16 : Int32).toUInt32 &&& Int32.toUInt32 31)).toInt32))]) dJ6_bitCount_0f7a4_47 rfl (by decide) rfl rfl ?_
  refine x_iload_n C dJ6_bitCount_0f7a4_48 rfl 0 rfl rfl ?_
  refine x_bipush C (v := 63) dJ6_bitCount_0f7a4_49 (by decide) rfl ?_
  refine x_iand C (v := ((((((((i - ((i.toUInt32 >>> ((1 : Int32).toUInt32 &&& Int32.toUInt32 31)).toInt32 &&& (1431655765 : Int32))) &&& (858993459 : Int32)) + (((i - ((i.toUInt32 >>> ((1 : Int32).toUInt32 &&& Int32.toUInt32 31)).toInt32 &&& (1431655765 : Int32))).toUInt32 >>> ((2 : Int32).toUInt32 &&& Int32.toUInt32 31)).toInt32 &&& (858993459 : Int32))) + ((((i - ((i.toUInt32 >>> ((1 : Int32).toUInt32 &&& Int32.toUInt32 31)).toInt32 &&& (1431655765 : Int32))) &&& (858993459 : Int32)) + (((i - ((i.toUInt32 >>> ((1 : Int32).toUInt32 &&& Int32.toUInt32 31)).toInt32 &&& (1431655765 : Int32))).toUInt32 >>> ((2 : Int32).toUInt32 &&& Int32.toUInt32 31)).toInt32 &&& (858993459 : Int32))).toUInt32 >>> ((4 : Int32).toUInt32 &&& Int32.toUInt32 31)).toInt32) &&& (252645135 : Int32)) + ((((((i - ((i.toUInt32 >>> ((1 : Int32).toUInt32 &&& Int32.toUInt32 31)).toInt32 &&& (1431655765 : Int32))) &&& (858993459 : Int32)) + (((i - ((i.toUInt32 >>> ((1 : Int32).toUInt32 &&& Int32.toUInt32 31)).toInt32 &&& (1431655765 : Int32))).toUInt32 >>> ((2 : Int32).toUInt32 &&& Int32.toUInt32 31)).toInt32 &&& (858993459 : Int32))) + ((((i - ((i.toUInt32 >>> ((1 : Int32).toUInt32 &&& Int32.toUInt32 31)).toInt32 &&& (1431655765 : Int32))) &&& (858993459 : Int32)) + (((i - ((i.toUInt32 >>> ((1 : Int32).toUInt32 &&& Int32.toUInt32 31)).toInt32 &&& (1431655765 : Int32))).toUInt32 >>> ((2 : Int32).toUInt32 &&& Int32.toUInt32 31)).toInt32 &&& (858993459 : Int32))).toUInt32 >>> ((4 : Int32).toUInt32 &&& Int32.toUInt32 31)).toInt32) &&& (252645135 : Int32)).toUInt32 >>> ((8 : Int32).toUInt32 &&& Int32.toUInt32 31)).toInt32) + (((((((i - ((i.toUInt32 >>> ((1 : Int32).toUInt32 &&& Int32.toUInt32 31)).toInt32 &&& (1431655765 : Int32))) &&& (858993459 : Int32)) + (((i - ((i.toUInt32 >>> ((1 : Int32).toUInt32 &&& Int32.toUInt32 31)).toInt32 &&& (1431655765 : Int32))).toUInt32 >>> ((2 : Int32).toUInt32 &&& Int32.toUInt32 31)).toInt32 &&& (858993459 : Int32))) + ((((i - ((i.toUInt32 >>> ((1 : Int32).toUInt32 &&& Int32.toUInt32 31)).toInt32 &&& (1431655765 : Int32))) &&& (858993459 : Int32)) + (((i - ((i.toUInt32 >>> ((1 : Int32).toUInt32 &&& Int32.toUInt32 31)).toInt32 &&& (1431655765 : Int32))).toUInt32 >>> ((2 : Int32).toUInt32 &&& Int32.toUInt32 31)).toInt32 &&& (858993459 : Int32))).toUInt32 >>> ((4 : Int32).toUInt32 &&& Int32.toUInt32 31)).toInt32) &&& (252645135 : Int32)) + ((((((i - ((i.toUInt32 >>> ((1 : Int32).toUInt32 &&& Int32.toUInt32 31)).toInt32 &&& (1431655765 : Int32))) &&& (858993459 : Int32)) + (((i - ((i.toUInt32 >>> ((1 : Int32).toUInt32 &&& Int32.toUInt32 31)).toInt32 &&& (1431655765 : Int32))).toUInt32 >>> ((2 : Int32).toUInt32 &&& Int32.toUInt32 31)).toInt32 &&& (858993459 : Int32))) + ((((i - ((i.toUInt32 >>> ((1 : Int32).toUInt32 &&& Int32.toUInt32 31)).toInt32 &&& (1431655765 : Int32))) &&& (858993459 : Int32)) + (((i - ((i.toUInt32 >>> ((1 : Int32).toUInt32 &&& Int32.toUInt32 31)).toInt32 &&& (1431655765 : Int32))).toUInt32 >>> ((2 : Int32).toUInt32 &&& Int32.toUInt32 31)).toInt32 &&& (858993459 : Int32))).toUInt32 >>> ((4 : Int32).toUInt32 &&& Int32.toUInt32 31)).toInt32) &&& (252645135 : Int32)).toUInt32 >>> ((8 : Int32).toUInt32 &&& Int32.toUInt32 31)).toInt32).toUInt32 >>> ((16 : Int32).toUInt32 &&& Int32.toUInt32 31)).toInt32) &&& (63 : Int32))) dJ6_bitCount_0f7a4_51 rfl rfl ?_
  exact x_zret C hr hlk rfl dJ6_bitCount_0f7a4_52 rfl
theorem dX11_person_0 : decode cX11_person 0 = .ok (.aload_n 0, 1) := by decide +kernel
theorem dX11_person_1 : decode cX11_person 1 = .ok (.getfield 22, 3) := by decide +kernel
theorem dX11_person_4 : decode cX11_person 4 = .ok (.getfield 92, 3) := by decide +kernel
theorem dX11_person_7 : decode cX11_person 7 = .ok (.iload_n 1, 1) := by decide +kernel
theorem dX11_person_8 : decode cX11_person 8 = .ok (.invokevirtual 96, 3) := by decide +kernel
theorem dX11_person_11 : decode cX11_person 11 = .ok (.ireturn, 1) := by decide +kernel
set_option maxRecDepth 20000 in
set_option maxHeartbeats 4000000 in
theorem t_person (E : xE) (l : Launch) (ws : va_W) {x xt xk xn xp xtr xr xs xl xpl xse ah ald arm ahr ash arw abr aw th tp te tw pl pa pt pb : Nat} {day sx : Int32} (p_0 : Nat) (k_0 : ws[0]? = some (ob x 10 [.ref xt, .ref xk, .ref xn, .ref xp, .ref xtr, .int 0, .ref xr, .ref xs, .ref xl, .ref xpl, .ref xse, .ref ah, .ref ald, .ref arm, .ref ahr, .ref ash, .ref arw, .ref abr, .ref aw])) (p_1 : Nat) (k_1 : ws[5]? = some (ob xn 8 [.int day, .int sx, .ref th, .ref tp, .ref te, .ref tw, .int 0, .int 0, .int 0, .int 0])) (p_2 : Nat) (k_2 : ws[9]? = some (ob tp 4 [.int 0, .ref pl, .ref pa, .ref pt, .ref pb])) (p0 : Int32) : xI E l yX11_person cX11_person 2 (some .boolean) 3 [.ref x, .int p0] ws (fun r w => r = bI (¬ p0 < 0 ∧ ¬ 8 ≤ p0)) := by
  refine xI_start (lv := [(0, .ref x), (1, .int p0)]) RX11 (by decide) rfl (Nat.le_of_ble_eq_true rfl) rfl (fun p e s m below meth c A C hr hlk => ?_)
  refine x_aload_n C dX11_person_0 rfl 0 rfl rfl ?_
  refine x_get C (ci := 10) (k := 2) 0 k_0 rfl in_X11 (by decide) w_387 rfl dX11_person_1 rfl ?_
  refine x_get C (ci := 8) (k := 3) 5 k_1 rfl in_X9 (by decide) w_204 rfl dX11_person_4 rfl ?_
  refine x_iload_n C dX11_person_7 rfl 1 rfl rfl ?_
  refine x_vi C (As := [.int p0]) (rest := []) (t_People_tell0 E l ws 9 k_2 p0) mf_X5_tell w_447 9 k_2 rfl rfl rfl (Nat.le_of_ble_eq_true rfl) ⟨(Nat.le_of_ble_eq_true rfl), (Nat.le_of_ble_eq_true rfl)⟩ ⟨(Nat.le_of_ble_eq_true rfl), (Nat.le_of_ble_eq_true rfl)⟩ dX11_person_8 rfl (fun r2 w3 h1 => ?_)
  refine x_top h1 ?_
  exact x_zret C hr hlk bI_nar dX11_person_11 (by first | rfl | trivial | (simp [bI]; done) | (simp_all [bI]; done))
theorem dX11_hen_0 : decode cX11_hen 0 = .ok (.iload_n 1, 1) := by decide +kernel
theorem dX11_hen_1 : decode cX11_hen 1 = .ok (.iconst 0, 1) := by decide +kernel
theorem dX11_hen_2 : decode cX11_hen 2 = .ok (.bipush 7, 2) := by decide +kernel
theorem dX11_hen_4 : decode cX11_hen 4 = .ok (.invokestatic 102, 3) := by decide +kernel
theorem dX11_hen_7 : decode cX11_hen 7 = .ok (.ifCond .eq 26, 3) := by decide +kernel
theorem dX11_hen_10 : decode cX11_hen 10 = .ok (.iload_n 2, 1) := by decide +kernel
theorem dX11_hen_11 : decode cX11_hen 11 = .ok (.iconst 0, 1) := by decide +kernel
theorem dX11_hen_12 : decode cX11_hen 12 = .ok (.iconst 3, 1) := by decide +kernel
theorem dX11_hen_13 : decode cX11_hen 13 = .ok (.invokestatic 102, 3) := by decide +kernel
theorem dX11_hen_16 : decode cX11_hen 16 = .ok (.ifCond .eq 17, 3) := by decide +kernel
theorem dX11_hen_19 : decode cX11_hen 19 = .ok (.aload_n 0, 1) := by decide +kernel
theorem dX11_hen_20 : decode cX11_hen 20 = .ok (.getfield 22, 3) := by decide +kernel
theorem dX11_hen_23 : decode cX11_hen 23 = .ok (.getfield 92, 3) := by decide +kernel
theorem dX11_hen_26 : decode cX11_hen 26 = .ok (.iload_n 3, 1) := by decide +kernel
theorem dX11_hen_27 : decode cX11_hen 27 = .ok (.invokevirtual 106, 3) := by decide +kernel
theorem dX11_hen_30 : decode cX11_hen 30 = .ok (.ifCond .ne 5, 3) := by decide +kernel
theorem dX11_hen_33 : decode cX11_hen 33 = .ok (.iconst 0, 1) := by decide +kernel
theorem dX11_hen_34 : decode cX11_hen 34 = .ok (.ireturn, 1) := by decide +kernel
set_option maxRecDepth 20000 in
set_option maxHeartbeats 4000000 in
theorem t_hen (E : xE) (l : Launch) (ws : va_W) {x xt xk xn xp xtr xr xs xl xpl xse ah ald arm ahr ash arw abr aw th tp te tw pl pa pt pb : Nat} {day sx : Int32} (p_0 : Nat) (k_0 : ws[0]? = some (ob x 10 [.ref xt, .ref xk, .ref xn, .ref xp, .ref xtr, .int 0, .ref xr, .ref xs, .ref xl, .ref xpl, .ref xse, .ref ah, .ref ald, .ref arm, .ref ahr, .ref ash, .ref arw, .ref abr, .ref aw])) (p_1 : Nat) (k_1 : ws[5]? = some (ob xn 8 [.int day, .int sx, .ref th, .ref tp, .ref te, .ref tw, .int 0, .int 0, .int 0, .int 0])) (p_2 : Nat) (k_2 : ws[9]? = some (ob tp 4 [.int 0, .ref pl, .ref pa, .ref pt, .ref pb])) (y0 kd ow : Int32) : xI E l yX11_hen cX11_hen 4 (some .boolean) 2 [.ref x, .int y0, .int kd, .int ow] ws (fun r w => r = 0) := by
  refine xI_start (lv := [(0, .ref x), (1, .int y0), (2, .int kd), (3, .int ow)]) RX11 (by decide) rfl (Nat.le_of_ble_eq_true rfl) rfl (fun p e s m below meth c A C hr hlk => ?_)
  refine x_iload_n C dX11_hen_0 rfl 1 rfl rfl ?_
  refine x_iconst C (v := 0) dX11_hen_1 (by decide) rfl ?_
  refine x_bipush C (v := 7) dX11_hen_2 (by decide) rfl ?_
  refine x_si C (As := [.int y0, .int 0, .int 7]) (rest := []) (t_isWithin E l ws y0 0 7) mf_X11_isWithin w_462 rfl rfl (Nat.le_of_ble_eq_true rfl) ⟨(Nat.le_of_ble_eq_true rfl), (Nat.le_of_ble_eq_true rfl)⟩ ⟨(Nat.le_of_ble_eq_true rfl), (Nat.le_of_ble_eq_true rfl)⟩ dX11_hen_4 rfl (fun r2 w3 h1 => ?_)
  obtain ⟨e4, g5⟩ := h1
  refine x_top e4 ?_
  refine x_ws g5 ?_
  refine x_if_eq C (tgt := 33) dX11_hen_7 (by decide) rfl (fun c6 => ?_) (fun c6 => ?_)
  · skip
    have b7 := bI_e0 c6
    refine x_iconst C (v := 0) dX11_hen_33 (by decide) rfl ?_
    exact x_zret C hr hlk rfl dX11_hen_34 (by first | rfl | trivial | (simp [bI, b7]; done) | (simp_all [bI]; done))
  · skip
    have b8 := bI_n0 c6
    refine x_iload_n C dX11_hen_10 rfl 2 rfl rfl ?_
    refine x_iconst C (v := 0) dX11_hen_11 (by decide) rfl ?_
    refine x_iconst C (v := 3) dX11_hen_12 (by decide) rfl ?_
    refine x_si C (As := [.int kd, .int 0, .int 3]) (rest := []) (t_isWithin E l ws kd 0 3) mf_X11_isWithin w_462 rfl rfl (Nat.le_of_ble_eq_true rfl) ⟨(Nat.le_of_ble_eq_true rfl), (Nat.le_of_ble_eq_true rfl)⟩ ⟨(Nat.le_of_ble_eq_true rfl), (Nat.le_of_ble_eq_true rfl)⟩ dX11_hen_13 rfl (fun r10 w11 h9 => ?_)
    obtain ⟨e12, g13⟩ := h9
    refine x_top e12 ?_
    refine x_ws g13 ?_
    refine x_if_eq C (tgt := 33) dX11_hen_16 (by decide) rfl (fun c14 => ?_) (fun c14 => ?_)
    · skip
      have b15 := bI_e0 c14
      refine x_iconst C (v := 0) dX11_hen_33 (by decide) rfl ?_
      exact x_zret C hr hlk rfl dX11_hen_34 (by first | rfl | trivial | (simp [bI, b8, b15]; done) | (simp_all [bI]; done))
    · skip
      have b16 := bI_n0 c14
      refine x_aload_n C dX11_hen_19 rfl 0 rfl rfl ?_
      refine x_get C (ci := 10) (k := 2) 0 k_0 rfl in_X11 (by decide) w_387 rfl dX11_hen_20 rfl ?_
      refine x_get C (ci := 8) (k := 3) 5 k_1 rfl in_X9 (by decide) w_204 rfl dX11_hen_23 rfl ?_
      refine x_iload_n C dX11_hen_26 rfl 3 rfl rfl ?_
      refine x_vi C (As := [.int ow]) (rest := []) (t_People_isTold0 E l ws 9 k_2 ow) mf_X5_isTold w_465 9 k_2 rfl rfl rfl (Nat.le_of_ble_eq_true rfl) ⟨(Nat.le_of_ble_eq_true rfl), (Nat.le_of_ble_eq_true rfl)⟩ ⟨(Nat.le_of_ble_eq_true rfl), (Nat.le_of_ble_eq_true rfl)⟩ dX11_hen_27 rfl (fun r18 w19 h17 => ?_)
      obtain ⟨e20, g21⟩ := h17
      refine x_top e20 ?_
      refine x_ws g21 ?_
      refine x_if_ne C (tgt := 35) dX11_hen_30 (by decide) rfl (fun h => absurd h (by decide)) (fun _ => ?_)
      refine x_iconst C (v := 0) dX11_hen_33 (by decide) rfl ?_
      exact x_zret C hr hlk rfl dX11_hen_34 (by first | rfl | trivial | (simp [bI, b8, b16]; done) | (simp_all [bI]; done))
theorem dX11_fox_0 : decode cX11_fox 0 = .ok (.aload_n 0, 1) := by decide +kernel
theorem dX11_fox_1 : decode cX11_fox 1 = .ok (.getfield 22, 3) := by decide +kernel
theorem dX11_fox_4 : decode cX11_fox 4 = .ok (.getfield 109, 3) := by decide +kernel
theorem dX11_fox_7 : decode cX11_fox 7 = .ok (.iload_n 1, 1) := by decide +kernel
theorem dX11_fox_8 : decode cX11_fox 8 = .ok (.invokevirtual 118, 3) := by decide +kernel
theorem dX11_fox_11 : decode cX11_fox 11 = .ok (.ifCond .ne 5, 3) := by decide +kernel
theorem dX11_fox_14 : decode cX11_fox 14 = .ok (.iconst 0, 1) := by decide +kernel
theorem dX11_fox_15 : decode cX11_fox 15 = .ok (.ireturn, 1) := by decide +kernel
set_option maxRecDepth 20000 in
set_option maxHeartbeats 4000000 in
theorem t_fox (E : xE) (l : Launch) (ws : va_W) {x xt xk xn xp xtr xr xs xl xpl xse ah ald arm ahr ash arw abr aw th tp te tw hk ho : Nat} {day sx : Int32} (p_0 : Nat) (k_0 : ws[0]? = some (ob x 10 [.ref xt, .ref xk, .ref xn, .ref xp, .ref xtr, .int 0, .ref xr, .ref xs, .ref xl, .ref xpl, .ref xse, .ref ah, .ref ald, .ref arm, .ref ahr, .ref ash, .ref arw, .ref abr, .ref aw])) (p_1 : Nat) (k_1 : ws[5]? = some (ob xn 8 [.int day, .int sx, .ref th, .ref tp, .ref te, .ref tw, .int 0, .int 0, .int 0, .int 0])) (p_2 : Nat) (k_2 : ws[6]? = some (ob th 2 [.int 0, .ref hk, .ref ho])) (y0 : Int32) : xI E l yX11_fox cX11_fox 2 (some .boolean) 2 [.ref x, .int y0] ws (fun r w => r = 0) := by
  refine xI_start (lv := [(0, .ref x), (1, .int y0)]) RX11 (by decide) rfl (Nat.le_of_ble_eq_true rfl) rfl (fun p e s m below meth c A C hr hlk => ?_)
  refine x_aload_n C dX11_fox_0 rfl 0 rfl rfl ?_
  refine x_get C (ci := 10) (k := 2) 0 k_0 rfl in_X11 (by decide) w_387 rfl dX11_fox_1 rfl ?_
  refine x_get C (ci := 8) (k := 2) 5 k_1 rfl in_X9 (by decide) w_201 rfl dX11_fox_4 rfl ?_
  refine x_iload_n C dX11_fox_7 rfl 1 rfl rfl ?_
  refine x_vi C (As := [.int y0]) (rest := []) (t_Hens_isTold0 E l ws 6 k_2 y0) mf_X2_isTold w_474 6 k_2 rfl rfl rfl (Nat.le_of_ble_eq_true rfl) ⟨(Nat.le_of_ble_eq_true rfl), (Nat.le_of_ble_eq_true rfl)⟩ ⟨(Nat.le_of_ble_eq_true rfl), (Nat.le_of_ble_eq_true rfl)⟩ dX11_fox_8 rfl (fun r2 w3 h1 => ?_)
  obtain ⟨e4, g5⟩ := h1
  refine x_top e4 ?_
  refine x_ws g5 ?_
  refine x_if_ne C (tgt := 16) dX11_fox_11 (by decide) rfl (fun h => absurd h (by decide)) (fun _ => ?_)
  refine x_iconst C (v := 0) dX11_fox_14 (by decide) rfl ?_
  exact x_zret C hr hlk rfl dX11_fox_15 (by first | rfl | trivial | (simp [bI]; done) | (simp_all [bI]; done))
theorem dX10_tell_0 : decode cX10_tell 0 = .ok (.aload_n 0, 1) := by decide +kernel
theorem dX10_tell_1 : decode cX10_tell 1 = .ok (.dup, 1) := by decide +kernel
theorem dX10_tell_2 : decode cX10_tell 2 = .ok (.getfield 9, 3) := by decide +kernel
theorem dX10_tell_5 : decode cX10_tell 5 = .ok (.iconst 1, 1) := by decide +kernel
theorem dX10_tell_6 : decode cX10_tell 6 = .ok (.iload_n 1, 1) := by decide +kernel
theorem dX10_tell_7 : decode cX10_tell 7 = .ok (.ishl, 1) := by decide +kernel
theorem dX10_tell_8 : decode cX10_tell 8 = .ok (.ior, 1) := by decide +kernel
theorem dX10_tell_9 : decode cX10_tell 9 = .ok (.putfield 9, 3) := by decide +kernel
theorem dX10_tell_12 : decode cX10_tell 12 = .ok (.aload_n 0, 1) := by decide +kernel
theorem dX10_tell_13 : decode cX10_tell 13 = .ok (.getfield 15, 3) := by decide +kernel
theorem dX10_tell_16 : decode cX10_tell 16 = .ok (.iload_n 1, 1) := by decide +kernel
theorem dX10_tell_17 : decode cX10_tell 17 = .ok (.iload_n 2, 1) := by decide +kernel
theorem dX10_tell_18 : decode cX10_tell 18 = .ok (.iastore, 1) := by decide +kernel
theorem dX10_tell_19 : decode cX10_tell 19 = .ok (.aload_n 0, 1) := by decide +kernel
theorem dX10_tell_20 : decode cX10_tell 20 = .ok (.getfield 19, 3) := by decide +kernel
theorem dX10_tell_23 : decode cX10_tell 23 = .ok (.iload_n 1, 1) := by decide +kernel
theorem dX10_tell_24 : decode cX10_tell 24 = .ok (.iconst 0, 1) := by decide +kernel
theorem dX10_tell_25 : decode cX10_tell 25 = .ok (.iastore, 1) := by decide +kernel
theorem dX10_tell_26 : decode cX10_tell 26 = .ok (.aload_n 0, 1) := by decide +kernel
theorem dX10_tell_27 : decode cX10_tell 27 = .ok (.getfield 22, 3) := by decide +kernel
theorem dX10_tell_30 : decode cX10_tell 30 = .ok (.iload_n 1, 1) := by decide +kernel
theorem dX10_tell_31 : decode cX10_tell 31 = .ok (.iload_n 3, 1) := by decide +kernel
theorem dX10_tell_32 : decode cX10_tell 32 = .ok (.iastore, 1) := by decide +kernel
theorem dX10_tell_33 : decode cX10_tell 33 = .ok (.aload_n 0, 1) := by decide +kernel
theorem dX10_tell_34 : decode cX10_tell 34 = .ok (.getfield 25, 3) := by decide +kernel
theorem dX10_tell_37 : decode cX10_tell 37 = .ok (.iload_n 1, 1) := by decide +kernel
theorem dX10_tell_38 : decode cX10_tell 38 = .ok (.iload 4, 2) := by decide +kernel
theorem dX10_tell_40 : decode cX10_tell 40 = .ok (.iastore, 1) := by decide +kernel
theorem dX10_tell_41 : decode cX10_tell 41 = .ok (.aload_n 0, 1) := by decide +kernel
theorem dX10_tell_42 : decode cX10_tell 42 = .ok (.getfield 28, 3) := by decide +kernel
theorem dX10_tell_45 : decode cX10_tell 45 = .ok (.iload_n 1, 1) := by decide +kernel
theorem dX10_tell_46 : decode cX10_tell 46 = .ok (.iconst 0, 1) := by decide +kernel
theorem dX10_tell_47 : decode cX10_tell 47 = .ok (.iastore, 1) := by decide +kernel
theorem dX10_tell_48 : decode cX10_tell 48 = .ok (.return_, 1) := by decide +kernel
set_option maxRecDepth 20000 in
set_option maxHeartbeats 4000000 in
theorem t_Works_tell (E : xE) (l : Launch) (ws : va_W) {tw wn wd ww wb wo : Nat} {f1 f2 f3 f4 f5 : Nat → Int32} (p_0 : Nat) (k_0 : ws[21]? = some (ob tw 9 [.int 0, .ref wn, .ref wd, .ref ww, .ref wb, .ref wo])) (p_1 : Nat) (k_1 : ws[22]? = some (iA E wn 8 f1)) (p_2 : Nat) (k_2 : ws[23]? = some (iA E wd 8 f2)) (p_3 : Nat) (k_3 : ws[24]? = some (iA E ww 8 f3)) (p_4 : Nat) (k_4 : ws[25]? = some (iA E wb 8 f4)) (p_5 : Nat) (k_5 : ws[26]? = some (iA E wo 8 f5)) (i0 nd wo0 by0 : Int32) (hi : vp_in i0 8) : xV E l yX10_tell cX10_tell 5 0 0 0 [.ref tw, .int i0, .int nd, .int wo0, .int by0] ws (fun w => True) := by
  refine xV_start (lv := [(0, .ref tw), (1, .int i0), (2, .int nd), (3, .int wo0), (4, .int by0)]) RX10 (by decide) rfl (Nat.le_of_ble_eq_true rfl) rfl (fun p e s m below meth c A C hr hlk hin => ?_)
  refine x_aload_n C dX10_tell_0 rfl 0 rfl rfl ?_
  refine x_dup C dX10_tell_1 rfl rfl ?_
  refine x_get C (ci := 9) (k := 0) 21 k_0 rfl in_X10 (by decide) w_168 rfl dX10_tell_2 rfl ?_
  refine x_iconst C (v := 1) dX10_tell_5 (by decide) rfl ?_
  refine x_iload_n C dX10_tell_6 rfl 1 rfl rfl ?_
  refine x_ishl C (v := ((1 : Int32) <<< (i0 &&& 31))) dX10_tell_7 rfl rfl ?_
  refine x_ior C (v := ((0 : Int32) ||| ((1 : Int32) <<< (i0 &&& 31)))) dX10_tell_8 rfl rfl ?_
  obtain ⟨w1, hw2⟩ : ∃ w : va_W, w = List.set ws 21 (ob tw 9 [.int ((0 : Int32) ||| ((1 : Int32) <<< (i0 &&& 31))), .ref wn, .ref wd, .ref ww, .ref wb, .ref wo]) := ⟨_, rfl⟩
  refine x_put C (ci := 9) (k := 0) (ty := .int) 21 k_0 rfl in_X10 tyX10 tyX10_ok nmX10 (by decide) w_168 rfl rfl rfl rfl (Nat.le_of_ble_eq_true rfl) hw2.symm dX10_tell_9 rfl ?_
  have k3 : w1[21]? = some (ob tw 9 [.int ((0 : Int32) ||| ((1 : Int32) <<< (i0 &&& 31))), .ref wn, .ref wd, .ref ww, .ref wb, .ref wo]) := by rw [hw2]; exact set_eq k_0
  have k4 : w1[22]? = some (iA E wn 8 f1) := by rw [hw2]; exact set_ne k_1 (by decide)
  have k5 : w1[23]? = some (iA E wd 8 f2) := by rw [hw2]; exact set_ne k_2 (by decide)
  have k6 : w1[24]? = some (iA E ww 8 f3) := by rw [hw2]; exact set_ne k_3 (by decide)
  have k7 : w1[25]? = some (iA E wb 8 f4) := by rw [hw2]; exact set_ne k_4 (by decide)
  have k8 : w1[26]? = some (iA E wo 8 f5) := by rw [hw2]; exact set_ne k_5 (by decide)
  refine x_aload_n C dX10_tell_12 rfl 0 rfl rfl ?_
  refine x_get C (ci := 9) (k := 1) 21 k3 rfl in_X10 (by decide) w_170 rfl dX10_tell_13 rfl ?_
  refine x_iload_n C dX10_tell_16 rfl 1 rfl rfl ?_
  refine x_iload_n C dX10_tell_17 rfl 2 rfl rfl ?_
  obtain ⟨w9, hw10⟩ : ∃ w : va_W, w = List.set w1 22 (iA E wn 8 (upd f1 i0.toNatClampNeg nd)) := ⟨_, rfl⟩
  refine x_iast C 22 k4 hi hw10.symm dX10_tell_18 rfl ?_
  have k11 : w9[21]? = some (ob tw 9 [.int ((0 : Int32) ||| ((1 : Int32) <<< (i0 &&& 31))), .ref wn, .ref wd, .ref ww, .ref wb, .ref wo]) := by rw [hw10]; exact set_ne k3 (by decide)
  have k12 : w9[22]? = some (iA E wn 8 (upd f1 i0.toNatClampNeg nd)) := by rw [hw10]; exact set_eq k4
  have k13 : w9[23]? = some (iA E wd 8 f2) := by rw [hw10]; exact set_ne k5 (by decide)
  have k14 : w9[24]? = some (iA E ww 8 f3) := by rw [hw10]; exact set_ne k6 (by decide)
  have k15 : w9[25]? = some (iA E wb 8 f4) := by rw [hw10]; exact set_ne k7 (by decide)
  have k16 : w9[26]? = some (iA E wo 8 f5) := by rw [hw10]; exact set_ne k8 (by decide)
  refine x_aload_n C dX10_tell_19 rfl 0 rfl rfl ?_
  refine x_get C (ci := 9) (k := 2) 21 k11 rfl in_X10 (by decide) w_173 rfl dX10_tell_20 rfl ?_
  refine x_iload_n C dX10_tell_23 rfl 1 rfl rfl ?_
  refine x_iconst C (v := 0) dX10_tell_24 (by decide) rfl ?_
  obtain ⟨w17, hw18⟩ : ∃ w : va_W, w = List.set w9 23 (iA E wd 8 (upd f2 i0.toNatClampNeg 0)) := ⟨_, rfl⟩
  refine x_iast C 23 k13 hi hw18.symm dX10_tell_25 rfl ?_
  have k19 : w17[21]? = some (ob tw 9 [.int ((0 : Int32) ||| ((1 : Int32) <<< (i0 &&& 31))), .ref wn, .ref wd, .ref ww, .ref wb, .ref wo]) := by rw [hw18]; exact set_ne k11 (by decide)
  have k20 : w17[22]? = some (iA E wn 8 (upd f1 i0.toNatClampNeg nd)) := by rw [hw18]; exact set_ne k12 (by decide)
  have k21 : w17[23]? = some (iA E wd 8 (upd f2 i0.toNatClampNeg 0)) := by rw [hw18]; exact set_eq k13
  have k22 : w17[24]? = some (iA E ww 8 f3) := by rw [hw18]; exact set_ne k14 (by decide)
  have k23 : w17[25]? = some (iA E wb 8 f4) := by rw [hw18]; exact set_ne k15 (by decide)
  have k24 : w17[26]? = some (iA E wo 8 f5) := by rw [hw18]; exact set_ne k16 (by decide)
  refine x_aload_n C dX10_tell_26 rfl 0 rfl rfl ?_
  refine x_get C (ci := 9) (k := 3) 21 k19 rfl in_X10 (by decide) w_176 rfl dX10_tell_27 rfl ?_
  refine x_iload_n C dX10_tell_30 rfl 1 rfl rfl ?_
  refine x_iload_n C dX10_tell_31 rfl 3 rfl rfl ?_
  obtain ⟨w25, hw26⟩ : ∃ w : va_W, w = List.set w17 24 (iA E ww 8 (upd f3 i0.toNatClampNeg wo0)) := ⟨_, rfl⟩
  refine x_iast C 24 k22 hi hw26.symm dX10_tell_32 rfl ?_
  have k27 : w25[21]? = some (ob tw 9 [.int ((0 : Int32) ||| ((1 : Int32) <<< (i0 &&& 31))), .ref wn, .ref wd, .ref ww, .ref wb, .ref wo]) := by rw [hw26]; exact set_ne k19 (by decide)
  have k28 : w25[22]? = some (iA E wn 8 (upd f1 i0.toNatClampNeg nd)) := by rw [hw26]; exact set_ne k20 (by decide)
  have k29 : w25[23]? = some (iA E wd 8 (upd f2 i0.toNatClampNeg 0)) := by rw [hw26]; exact set_ne k21 (by decide)
  have k30 : w25[24]? = some (iA E ww 8 (upd f3 i0.toNatClampNeg wo0)) := by rw [hw26]; exact set_eq k22
  have k31 : w25[25]? = some (iA E wb 8 f4) := by rw [hw26]; exact set_ne k23 (by decide)
  have k32 : w25[26]? = some (iA E wo 8 f5) := by rw [hw26]; exact set_ne k24 (by decide)
  refine x_aload_n C dX10_tell_33 rfl 0 rfl rfl ?_
  refine x_get C (ci := 9) (k := 4) 21 k27 rfl in_X10 (by decide) w_179 rfl dX10_tell_34 rfl ?_
  refine x_iload_n C dX10_tell_37 rfl 1 rfl rfl ?_
  refine x_iload C dX10_tell_38 4 rfl rfl ?_
  obtain ⟨w33, hw34⟩ : ∃ w : va_W, w = List.set w25 25 (iA E wb 8 (upd f4 i0.toNatClampNeg by0)) := ⟨_, rfl⟩
  refine x_iast C 25 k31 hi hw34.symm dX10_tell_40 rfl ?_
  have k35 : w33[21]? = some (ob tw 9 [.int ((0 : Int32) ||| ((1 : Int32) <<< (i0 &&& 31))), .ref wn, .ref wd, .ref ww, .ref wb, .ref wo]) := by rw [hw34]; exact set_ne k27 (by decide)
  have k36 : w33[22]? = some (iA E wn 8 (upd f1 i0.toNatClampNeg nd)) := by rw [hw34]; exact set_ne k28 (by decide)
  have k37 : w33[23]? = some (iA E wd 8 (upd f2 i0.toNatClampNeg 0)) := by rw [hw34]; exact set_ne k29 (by decide)
  have k38 : w33[24]? = some (iA E ww 8 (upd f3 i0.toNatClampNeg wo0)) := by rw [hw34]; exact set_ne k30 (by decide)
  have k39 : w33[25]? = some (iA E wb 8 (upd f4 i0.toNatClampNeg by0)) := by rw [hw34]; exact set_eq k31
  have k40 : w33[26]? = some (iA E wo 8 f5) := by rw [hw34]; exact set_ne k32 (by decide)
  refine x_aload_n C dX10_tell_41 rfl 0 rfl rfl ?_
  refine x_get C (ci := 9) (k := 5) 21 k35 rfl in_X10 (by decide) w_181 rfl dX10_tell_42 rfl ?_
  refine x_iload_n C dX10_tell_45 rfl 1 rfl rfl ?_
  refine x_iconst C (v := 0) dX10_tell_46 (by decide) rfl ?_
  obtain ⟨w41, hw42⟩ : ∃ w : va_W, w = List.set w33 26 (iA E wo 8 (upd f5 i0.toNatClampNeg 0)) := ⟨_, rfl⟩
  refine x_iast C 26 k40 hi hw42.symm dX10_tell_47 rfl ?_
  have k43 : w41[21]? = some (ob tw 9 [.int ((0 : Int32) ||| ((1 : Int32) <<< (i0 &&& 31))), .ref wn, .ref wd, .ref ww, .ref wb, .ref wo]) := by rw [hw42]; exact set_ne k35 (by decide)
  have k44 : w41[22]? = some (iA E wn 8 (upd f1 i0.toNatClampNeg nd)) := by rw [hw42]; exact set_ne k36 (by decide)
  have k45 : w41[23]? = some (iA E wd 8 (upd f2 i0.toNatClampNeg 0)) := by rw [hw42]; exact set_ne k37 (by decide)
  have k46 : w41[24]? = some (iA E ww 8 (upd f3 i0.toNatClampNeg wo0)) := by rw [hw42]; exact set_ne k38 (by decide)
  have k47 : w41[25]? = some (iA E wb 8 (upd f4 i0.toNatClampNeg by0)) := by rw [hw42]; exact set_ne k39 (by decide)
  have k48 : w41[26]? = some (iA E wo 8 (upd f5 i0.toNatClampNeg 0)) := by rw [hw42]; exact set_eq k40
  exact x_vret C hr hlk dX10_tell_48 trivial
theorem dX11_work_0 : decode cX11_work 0 = .ok (.iload_n 1, 1) := by decide +kernel
theorem dX11_work_1 : decode cX11_work 1 = .ok (.iconst 0, 1) := by decide +kernel
theorem dX11_work_2 : decode cX11_work 2 = .ok (.bipush 7, 2) := by decide +kernel
theorem dX11_work_4 : decode cX11_work 4 = .ok (.invokestatic 102, 3) := by decide +kernel
theorem dX11_work_7 : decode cX11_work 7 = .ok (.ifCond .eq 37, 3) := by decide +kernel
theorem dX11_work_10 : decode cX11_work 10 = .ok (.iload_n 2, 1) := by decide +kernel
theorem dX11_work_11 : decode cX11_work 11 = .ok (.iconst 1, 1) := by decide +kernel
theorem dX11_work_12 : decode cX11_work 12 = .ok (.sipush 999, 3) := by decide +kernel
theorem dX11_work_15 : decode cX11_work 15 = .ok (.invokestatic 102, 3) := by decide +kernel
theorem dX11_work_18 : decode cX11_work 18 = .ok (.ifCond .eq 26, 3) := by decide +kernel
theorem dX11_work_21 : decode cX11_work 21 = .ok (.iload_n 3, 1) := by decide +kernel
theorem dX11_work_22 : decode cX11_work 22 = .ok (.iconst 0, 1) := by decide +kernel
theorem dX11_work_23 : decode cX11_work 23 = .ok (.sipush 999, 3) := by decide +kernel
theorem dX11_work_26 : decode cX11_work 26 = .ok (.invokestatic 102, 3) := by decide +kernel
theorem dX11_work_29 : decode cX11_work 29 = .ok (.ifCond .eq 15, 3) := by decide +kernel
theorem dX11_work_32 : decode cX11_work 32 = .ok (.iload 4, 2) := by decide +kernel
theorem dX11_work_34 : decode cX11_work 34 = .ok (.iconst 0, 1) := by decide +kernel
theorem dX11_work_35 : decode cX11_work 35 = .ok (.sipush 9999, 3) := by decide +kernel
theorem dX11_work_38 : decode cX11_work 38 = .ok (.invokestatic 102, 3) := by decide +kernel
theorem dX11_work_41 : decode cX11_work 41 = .ok (.ifCond .ne 5, 3) := by decide +kernel
theorem dX11_work_44 : decode cX11_work 44 = .ok (.iconst 0, 1) := by decide +kernel
theorem dX11_work_45 : decode cX11_work 45 = .ok (.ireturn, 1) := by decide +kernel
theorem dX11_work_46 : decode cX11_work 46 = .ok (.aload_n 0, 1) := by decide +kernel
theorem dX11_work_47 : decode cX11_work 47 = .ok (.getfield 22, 3) := by decide +kernel
theorem dX11_work_50 : decode cX11_work 50 = .ok (.getfield 123, 3) := by decide +kernel
theorem dX11_work_53 : decode cX11_work 53 = .ok (.iload_n 1, 1) := by decide +kernel
theorem dX11_work_54 : decode cX11_work 54 = .ok (.iload_n 2, 1) := by decide +kernel
theorem dX11_work_55 : decode cX11_work 55 = .ok (.iload_n 3, 1) := by decide +kernel
theorem dX11_work_56 : decode cX11_work 56 = .ok (.iload 4, 2) := by decide +kernel
theorem dX11_work_58 : decode cX11_work 58 = .ok (.invokevirtual 127, 3) := by decide +kernel
theorem dX11_work_61 : decode cX11_work 61 = .ok (.iconst 1, 1) := by decide +kernel
theorem dX11_work_62 : decode cX11_work 62 = .ok (.ireturn, 1) := by decide +kernel
set_option maxRecDepth 20000 in
set_option maxHeartbeats 4000000 in
theorem t_work (E : xE) (l : Launch) (ws : va_W) {x xt xk xn xp xtr xr xs xl xpl xse ah ald arm ahr ash arw abr aw th tp te tw wn wd ww wb wo : Nat} {day sx : Int32} {f1 f2 f3 f4 f5 : Nat → Int32} (p_0 : Nat) (k_0 : ws[0]? = some (ob x 10 [.ref xt, .ref xk, .ref xn, .ref xp, .ref xtr, .int 0, .ref xr, .ref xs, .ref xl, .ref xpl, .ref xse, .ref ah, .ref ald, .ref arm, .ref ahr, .ref ash, .ref arw, .ref abr, .ref aw])) (p_1 : Nat) (k_1 : ws[5]? = some (ob xn 8 [.int day, .int sx, .ref th, .ref tp, .ref te, .ref tw, .int 0, .int 0, .int 0, .int 0])) (p_2 : Nat) (k_2 : ws[21]? = some (ob tw 9 [.int 0, .ref wn, .ref wd, .ref ww, .ref wb, .ref wo])) (p_3 : Nat) (k_3 : ws[22]? = some (iA E wn 8 f1)) (p_4 : Nat) (k_4 : ws[23]? = some (iA E wd 8 f2)) (p_5 : Nat) (k_5 : ws[24]? = some (iA E ww 8 f3)) (p_6 : Nat) (k_6 : ws[25]? = some (iA E wb 8 f4)) (p_7 : Nat) (k_7 : ws[26]? = some (iA E wo 8 f5)) (i0 nd wo0 by0 : Int32) : xI E l yX11_work cX11_work 5 (some .boolean) 1 [.ref x, .int i0, .int nd, .int wo0, .int by0] ws (fun r w => r = bI (wth i0 0 7 ∧ wth nd 1 999 ∧ wth wo0 0 999 ∧ wth by0 0 9999)) := by
  refine xI_start (lv := [(0, .ref x), (1, .int i0), (2, .int nd), (3, .int wo0), (4, .int by0)]) RX11 (by decide) rfl (Nat.le_of_ble_eq_true rfl) rfl (fun p e s m below meth c A C hr hlk => ?_)
  refine x_iload_n C dX11_work_0 rfl 1 rfl rfl ?_
  refine x_iconst C (v := 0) dX11_work_1 (by decide) rfl ?_
  refine x_bipush C (v := 7) dX11_work_2 (by decide) rfl ?_
  refine x_si C (As := [.int i0, .int 0, .int 7]) (rest := []) (t_isWithin E l ws i0 0 7) mf_X11_isWithin w_462 rfl rfl (Nat.le_of_ble_eq_true rfl) ⟨(Nat.le_of_ble_eq_true rfl), (Nat.le_of_ble_eq_true rfl)⟩ ⟨(Nat.le_of_ble_eq_true rfl), (Nat.le_of_ble_eq_true rfl)⟩ dX11_work_4 rfl (fun r2 w3 h1 => ?_)
  obtain ⟨e4, g5⟩ := h1
  refine x_top e4 ?_
  refine x_ws g5 ?_
  refine x_if_eq C (tgt := 44) dX11_work_7 (by decide) rfl (fun c6 => ?_) (fun c6 => ?_)
  · skip
    have b7 := bI_e0 c6
    refine x_iconst C (v := 0) dX11_work_44 (by decide) rfl ?_
    exact x_zret C hr hlk rfl dX11_work_45 (by simp [bI, b7])
  · skip
    have b8 := bI_n0 c6
    refine x_iload_n C dX11_work_10 rfl 2 rfl rfl ?_
    refine x_iconst C (v := 1) dX11_work_11 (by decide) rfl ?_
    refine x_sipush C (v := 999) dX11_work_12 (by decide) rfl ?_
    refine x_si C (As := [.int nd, .int 1, .int 999]) (rest := []) (t_isWithin E l ws nd 1 999) mf_X11_isWithin w_462 rfl rfl (Nat.le_of_ble_eq_true rfl) ⟨(Nat.le_of_ble_eq_true rfl), (Nat.le_of_ble_eq_true rfl)⟩ ⟨(Nat.le_of_ble_eq_true rfl), (Nat.le_of_ble_eq_true rfl)⟩ dX11_work_15 rfl (fun r10 w11 h9 => ?_)
    obtain ⟨e12, g13⟩ := h9
    refine x_top e12 ?_
    refine x_ws g13 ?_
    refine x_if_eq C (tgt := 44) dX11_work_18 (by decide) rfl (fun c14 => ?_) (fun c14 => ?_)
    · skip
      have b15 := bI_e0 c14
      refine x_iconst C (v := 0) dX11_work_44 (by decide) rfl ?_
      exact x_zret C hr hlk rfl dX11_work_45 (by simp [bI, b8, b15])
    · skip
      have b16 := bI_n0 c14
      refine x_iload_n C dX11_work_21 rfl 3 rfl rfl ?_
      refine x_iconst C (v := 0) dX11_work_22 (by decide) rfl ?_
      refine x_sipush C (v := 999) dX11_work_23 (by decide) rfl ?_
      refine x_si C (As := [.int wo0, .int 0, .int 999]) (rest := []) (t_isWithin E l ws wo0 0 999) mf_X11_isWithin w_462 rfl rfl (Nat.le_of_ble_eq_true rfl) ⟨(Nat.le_of_ble_eq_true rfl), (Nat.le_of_ble_eq_true rfl)⟩ ⟨(Nat.le_of_ble_eq_true rfl), (Nat.le_of_ble_eq_true rfl)⟩ dX11_work_26 rfl (fun r18 w19 h17 => ?_)
      obtain ⟨e20, g21⟩ := h17
      refine x_top e20 ?_
      refine x_ws g21 ?_
      refine x_if_eq C (tgt := 44) dX11_work_29 (by decide) rfl (fun c22 => ?_) (fun c22 => ?_)
      · skip
        have b23 := bI_e0 c22
        refine x_iconst C (v := 0) dX11_work_44 (by decide) rfl ?_
        exact x_zret C hr hlk rfl dX11_work_45 (by simp [bI, b8, b16, b23])
      · skip
        have b24 := bI_n0 c22
        refine x_iload C dX11_work_32 4 rfl rfl ?_
        refine x_iconst C (v := 0) dX11_work_34 (by decide) rfl ?_
        refine x_sipush C (v := 9999) dX11_work_35 (by decide) rfl ?_
        refine x_si C (As := [.int by0, .int 0, .int 9999]) (rest := []) (t_isWithin E l ws by0 0 9999) mf_X11_isWithin w_462 rfl rfl (Nat.le_of_ble_eq_true rfl) ⟨(Nat.le_of_ble_eq_true rfl), (Nat.le_of_ble_eq_true rfl)⟩ ⟨(Nat.le_of_ble_eq_true rfl), (Nat.le_of_ble_eq_true rfl)⟩ dX11_work_38 rfl (fun r26 w27 h25 => ?_)
        obtain ⟨e28, g29⟩ := h25
        refine x_top e28 ?_
        refine x_ws g29 ?_
        refine x_if_ne C (tgt := 46) dX11_work_41 (by decide) rfl (fun c30 => ?_) (fun c30 => ?_)
        · skip
          have b31 := bI_n0 c30
          refine x_aload_n C dX11_work_46 rfl 0 rfl rfl ?_
          refine x_get C (ci := 10) (k := 2) 0 k_0 rfl in_X11 (by decide) w_387 rfl dX11_work_47 rfl ?_
          refine x_get C (ci := 8) (k := 5) 5 k_1 rfl in_X9 (by decide) w_213 rfl dX11_work_50 rfl ?_
          refine x_iload_n C dX11_work_53 rfl 1 rfl rfl ?_
          refine x_iload_n C dX11_work_54 rfl 2 rfl rfl ?_
          refine x_iload_n C dX11_work_55 rfl 3 rfl rfl ?_
          refine x_iload C dX11_work_56 4 rfl rfl ?_
          refine x_vv C (As := [.int i0, .int nd, .int wo0, .int by0]) (rest := []) (t_Works_tell E l ws 21 k_2 22 k_3 23 k_4 24 k_5 25 k_6 26 k_7 i0 nd wo0 by0 (vp_in_w b8)) mf_X10_tell w_483 21 k_2 rfl rfl rfl (Nat.le_of_ble_eq_true rfl) ⟨(Nat.le_of_ble_eq_true rfl), (Nat.le_of_ble_eq_true rfl)⟩ ⟨(Nat.le_of_ble_eq_true rfl), (Nat.le_of_ble_eq_true rfl)⟩ dX11_work_58 rfl (fun w34 h32 => ?_)
          refine x_iconst C (v := 1) dX11_work_61 (by decide) rfl ?_
          exact x_zret C hr hlk rfl dX11_work_62 (by simp [bI, b8, b16, b24, b31])
        · skip
          have b35 := bI_e0 c30
          refine x_iconst C (v := 0) dX11_work_44 (by decide) rfl ?_
          exact x_zret C hr hlk rfl dX11_work_45 (by simp [bI, b8, b16, b24, b35])
theorem dX11_clean_0 : decode cX11_clean 0 = .ok (.aload_n 0, 1) := by decide +kernel
theorem dX11_clean_1 : decode cX11_clean 1 = .ok (.getfield 22, 3) := by decide +kernel
theorem dX11_clean_4 : decode cX11_clean 4 = .ok (.getfield 132, 3) := by decide +kernel
theorem dX11_clean_7 : decode cX11_clean 7 = .ok (.invokevirtual 136, 3) := by decide +kernel
theorem dX11_clean_10 : decode cX11_clean 10 = .ok (.ireturn, 1) := by decide +kernel
set_option maxRecDepth 20000 in
set_option maxHeartbeats 4000000 in
theorem t_clean (E : xE) (l : Launch) (ws : va_W) {x xt xk xn xp xtr xr xs xl xpl xse ah ald arm ahr ash arw abr aw th tp te tw em el ey eo eb es : Nat} {day sx : Int32} (p_0 : Nat) (k_0 : ws[0]? = some (ob x 10 [.ref xt, .ref xk, .ref xn, .ref xp, .ref xtr, .int 0, .ref xr, .ref xs, .ref xl, .ref xpl, .ref xse, .ref ah, .ref ald, .ref arm, .ref ahr, .ref ash, .ref arw, .ref abr, .ref aw])) (p_1 : Nat) (k_1 : ws[5]? = some (ob xn 8 [.int day, .int sx, .ref th, .ref tp, .ref te, .ref tw, .int 0, .int 0, .int 0, .int 0])) (p_2 : Nat) (k_2 : ws[14]? = some (ob te 1 [.int 0, .ref em, .ref el, .ref ey, .ref eo, .ref eb, .ref es])) : xI E l yX11_clean cX11_clean 1 (some .int) 1 [.ref x] ws (fun r w => r = 0) := by
  refine xI_start (lv := [(0, .ref x)]) RX11 (by decide) rfl (Nat.le_of_ble_eq_true rfl) rfl (fun p e s m below meth c A C hr hlk => ?_)
  refine x_aload_n C dX11_clean_0 rfl 0 rfl rfl ?_
  refine x_get C (ci := 10) (k := 2) 0 k_0 rfl in_X11 (by decide) w_387 rfl dX11_clean_1 rfl ?_
  refine x_get C (ci := 8) (k := 4) 5 k_1 rfl in_X9 (by decide) w_209 rfl dX11_clean_4 rfl ?_
  refine x_vi C (As := []) (rest := []) (t_Eggs_sweepOut0 E l ws 14 k_2) mf_X1_sweepOut w_491 14 k_2 rfl rfl rfl (Nat.le_of_ble_eq_true rfl) ⟨(Nat.le_of_ble_eq_true rfl), (Nat.le_of_ble_eq_true rfl)⟩ ⟨(Nat.le_of_ble_eq_true rfl), (Nat.le_of_ble_eq_true rfl)⟩ dX11_clean_7 rfl (fun r2 w3 h1 => ?_)
  refine x_top h1 ?_
  exact x_zret C hr hlk rfl dX11_clean_10 (by first | rfl | trivial | (simp [bI]; done) | (simp_all [bI]; done))
theorem dX8_holds_0 : decode cX8_holds 0 = .ok (.iload_n 1, 1) := by decide +kernel
theorem dX8_holds_1 : decode cX8_holds 1 = .ok (.iload_n 2, 1) := by decide +kernel
theorem dX8_holds_2 : decode cX8_holds 2 = .ok (.if_icmp .lt 23, 3) := by decide +kernel
theorem dX8_holds_5 : decode cX8_holds 5 = .ok (.iload_n 1, 1) := by decide +kernel
theorem dX8_holds_6 : decode cX8_holds 6 = .ok (.iload_n 3, 1) := by decide +kernel
theorem dX8_holds_7 : decode cX8_holds 7 = .ok (.if_icmp .gt 18, 3) := by decide +kernel
theorem dX8_holds_10 : decode cX8_holds 10 = .ok (.iload_n 1, 1) := by decide +kernel
theorem dX8_holds_11 : decode cX8_holds 11 = .ok (.iload 4, 2) := by decide +kernel
theorem dX8_holds_13 : decode cX8_holds 13 = .ok (.imul, 1) := by decide +kernel
theorem dX8_holds_14 : decode cX8_holds 14 = .ok (.aload_n 0, 1) := by decide +kernel
theorem dX8_holds_15 : decode cX8_holds 15 = .ok (.getfield 15, 3) := by decide +kernel
theorem dX8_holds_18 : decode cX8_holds 18 = .ok (.if_icmp .gt 7, 3) := by decide +kernel
theorem dX8_holds_25 : decode cX8_holds 25 = .ok (.iconst 0, 1) := by decide +kernel
theorem dX8_holds_26 : decode cX8_holds 26 = .ok (.ireturn, 1) := by decide +kernel
set_option maxRecDepth 20000 in
set_option maxHeartbeats 4000000 in
theorem t_holds0 (E : xE) (l : Launch) (ws : va_W) {xt tb : Nat} (p_0 : Nat) (k_0 : ws[1]? = some (ob xt 7 [.ref tb, .int 0, .int 0, .int 0, .int 0])) (n lo hi k0 : Int32) (hz : ¬ n < lo → ¬ hi < n → 0 < n * k0) : xI E l yX8_holds cX8_holds 5 (some .boolean) 0 [.ref xt, .int n, .int lo, .int hi, .int k0] ws (fun r w => r = 0 ∧ w = ws) := by
  refine xI_start (lv := [(0, .ref xt), (1, .int n), (2, .int lo), (3, .int hi), (4, .int k0)]) RX8 (by decide) rfl (Nat.le_of_ble_eq_true rfl) rfl (fun p e s m below meth c A C hr hlk => ?_)
  refine x_iload_n C dX8_holds_0 rfl 1 rfl rfl ?_
  refine x_iload_n C dX8_holds_1 rfl 2 rfl rfl ?_
  refine x_icmp_lt C (tgt := 25) dX8_holds_2 (by decide) rfl (fun c1 => ?_) (fun c1 => ?_)
  · skip
    refine x_iconst C (v := 0) dX8_holds_25 (by decide) rfl ?_
    exact x_zret C hr hlk rfl dX8_holds_26 ⟨by first | rfl | (simp [bI, c1]; done) | (simp_all [bI]; done), rfl⟩
  · skip
    refine x_iload_n C dX8_holds_5 rfl 1 rfl rfl ?_
    refine x_iload_n C dX8_holds_6 rfl 3 rfl rfl ?_
    refine x_icmp_gt C (tgt := 25) dX8_holds_7 (by decide) rfl (fun c2 => ?_) (fun c2 => ?_)
    · skip
      refine x_iconst C (v := 0) dX8_holds_25 (by decide) rfl ?_
      exact x_zret C hr hlk rfl dX8_holds_26 ⟨by first | rfl | (simp [bI, c1, c2]; done) | (simp_all [bI]; done), rfl⟩
    · skip
      refine x_iload_n C dX8_holds_10 rfl 1 rfl rfl ?_
      refine x_iload C dX8_holds_11 4 rfl rfl ?_
      refine x_imul C (v := (n * k0)) dX8_holds_13 rfl rfl ?_
      refine x_aload_n C dX8_holds_14 rfl 0 rfl rfl ?_
      refine x_get C (ci := 7) (k := 1) 1 k_0 rfl in_X8 (by decide) w_37 rfl dX8_holds_15 rfl ?_
      refine x_icmp_gt C (tgt := 25) dX8_holds_18 (by decide) rfl (fun _ => ?_) (fun h => absurd (hz c1 c2) h)
      refine x_iconst C (v := 0) dX8_holds_25 (by decide) rfl ?_
      exact x_zret C hr hlk rfl dX8_holds_26 ⟨by first | rfl | (simp [bI, c1, c2]; done) | (simp_all [bI]; done), rfl⟩
theorem dX11_law_0 : decode cX11_law 0 = .ok (.aload_n 0, 1) := by decide +kernel
theorem dX11_law_1 : decode cX11_law 1 = .ok (.getfield 10, 3) := by decide +kernel
theorem dX11_law_4 : decode cX11_law 4 = .ok (.iload_n 1, 1) := by decide +kernel
theorem dX11_law_5 : decode cX11_law 5 = .ok (.iconst 1, 1) := by decide +kernel
theorem dX11_law_6 : decode cX11_law 6 = .ok (.sipush 240, 3) := by decide +kernel
theorem dX11_law_9 : decode cX11_law 9 = .ok (.iconst 1, 1) := by decide +kernel
theorem dX11_law_10 : decode cX11_law 10 = .ok (.invokevirtual 149, 3) := by decide +kernel
theorem dX11_law_13 : decode cX11_law 13 = .ok (.ifCond .ne 5, 3) := by decide +kernel
theorem dX11_law_16 : decode cX11_law 16 = .ok (.iconst (-1), 1) := by decide +kernel
theorem dX11_law_17 : decode cX11_law 17 = .ok (.ireturn, 1) := by decide +kernel
set_option maxRecDepth 20000 in
set_option maxHeartbeats 4000000 in
theorem t_law (E : xE) (l : Launch) (ws : va_W) {x xt xk xn xp xtr xr xs xl xpl xse ah ald arm ahr ash arw abr aw tb : Nat} (p_0 : Nat) (k_0 : ws[0]? = some (ob x 10 [.ref xt, .ref xk, .ref xn, .ref xp, .ref xtr, .int 0, .ref xr, .ref xs, .ref xl, .ref xpl, .ref xse, .ref ah, .ref ald, .ref arm, .ref ahr, .ref ash, .ref arw, .ref abr, .ref aw])) (p_1 : Nat) (k_1 : ws[1]? = some (ob xt 7 [.ref tb, .int 0, .int 0, .int 0, .int 0])) (n : Int32) : xI E l yX11_law cX11_law 4 (some .int) 1 [.ref x, .int n] ws (fun r w => r = -1) := by
  refine xI_start (lv := [(0, .ref x), (1, .int n)]) RX11 (by decide) rfl (Nat.le_of_ble_eq_true rfl) rfl (fun p e s m below meth c A C hr hlk => ?_)
  refine x_aload_n C dX11_law_0 rfl 0 rfl rfl ?_
  refine x_get C (ci := 10) (k := 0) 0 k_0 rfl in_X11 (by decide) w_385 rfl dX11_law_1 rfl ?_
  refine x_iload_n C dX11_law_4 rfl 1 rfl rfl ?_
  refine x_iconst C (v := 1) dX11_law_5 (by decide) rfl ?_
  refine x_sipush C (v := 240) dX11_law_6 (by decide) rfl ?_
  refine x_iconst C (v := 1) dX11_law_9 (by decide) rfl ?_
  refine x_vi C (As := [.int n, .int 1, .int 240, .int 1]) (rest := []) (t_holds0 E l ws 1 k_1 n 1 240 1 (hold0 (a := 1) (b := 240) (by decide) (by decide) (fun j h g => hold1 j (by omega) g))) mf_X8_holds w_507 1 k_1 rfl rfl rfl (Nat.le_of_ble_eq_true rfl) ⟨(Nat.le_of_ble_eq_true rfl), (Nat.le_of_ble_eq_true rfl)⟩ ⟨(Nat.le_of_ble_eq_true rfl), (Nat.le_of_ble_eq_true rfl)⟩ dX11_law_10 rfl (fun r2 w3 h1 => ?_)
  obtain ⟨e4, g5⟩ := h1
  refine x_top e4 ?_
  refine x_ws g5 ?_
  refine x_if_ne C (tgt := 18) dX11_law_13 (by decide) rfl (fun h => absurd h (by decide)) (fun _ => ?_)
  refine x_iconst C (v := (-1)) dX11_law_16 (by decide) rfl ?_
  exact x_zret C hr hlk rfl dX11_law_17 (by first | rfl | trivial | (simp [bI]; done) | (simp_all [bI]; done))
theorem dX11_acts_0 : decode cX11_acts 0 = .ok (.aload_n 0, 1) := by decide +kernel
theorem dX11_acts_1 : decode cX11_acts 1 = .ok (.getfield 10, 3) := by decide +kernel
theorem dX11_acts_4 : decode cX11_acts 4 = .ok (.iload_n 1, 1) := by decide +kernel
theorem dX11_acts_5 : decode cX11_acts 5 = .ok (.iconst 1, 1) := by decide +kernel
theorem dX11_acts_6 : decode cX11_acts 6 = .ok (.sipush 140, 3) := by decide +kernel
theorem dX11_acts_9 : decode cX11_acts 9 = .ok (.iconst 1, 1) := by decide +kernel
theorem dX11_acts_10 : decode cX11_acts 10 = .ok (.invokevirtual 149, 3) := by decide +kernel
theorem dX11_acts_13 : decode cX11_acts 13 = .ok (.ifCond .ne 5, 3) := by decide +kernel
theorem dX11_acts_16 : decode cX11_acts 16 = .ok (.iconst (-1), 1) := by decide +kernel
theorem dX11_acts_17 : decode cX11_acts 17 = .ok (.ireturn, 1) := by decide +kernel
set_option maxRecDepth 20000 in
set_option maxHeartbeats 4000000 in
theorem t_acts (E : xE) (l : Launch) (ws : va_W) {x xt xk xn xp xtr xr xs xl xpl xse ah ald arm ahr ash arw abr aw tb : Nat} (p_0 : Nat) (k_0 : ws[0]? = some (ob x 10 [.ref xt, .ref xk, .ref xn, .ref xp, .ref xtr, .int 0, .ref xr, .ref xs, .ref xl, .ref xpl, .ref xse, .ref ah, .ref ald, .ref arm, .ref ahr, .ref ash, .ref arw, .ref abr, .ref aw])) (p_1 : Nat) (k_1 : ws[1]? = some (ob xt 7 [.ref tb, .int 0, .int 0, .int 0, .int 0])) (n : Int32) : xI E l yX11_acts cX11_acts 4 (some .int) 1 [.ref x, .int n] ws (fun r w => r = -1) := by
  refine xI_start (lv := [(0, .ref x), (1, .int n)]) RX11 (by decide) rfl (Nat.le_of_ble_eq_true rfl) rfl (fun p e s m below meth c A C hr hlk => ?_)
  refine x_aload_n C dX11_acts_0 rfl 0 rfl rfl ?_
  refine x_get C (ci := 10) (k := 0) 0 k_0 rfl in_X11 (by decide) w_385 rfl dX11_acts_1 rfl ?_
  refine x_iload_n C dX11_acts_4 rfl 1 rfl rfl ?_
  refine x_iconst C (v := 1) dX11_acts_5 (by decide) rfl ?_
  refine x_sipush C (v := 140) dX11_acts_6 (by decide) rfl ?_
  refine x_iconst C (v := 1) dX11_acts_9 (by decide) rfl ?_
  refine x_vi C (As := [.int n, .int 1, .int 140, .int 1]) (rest := []) (t_holds0 E l ws 1 k_1 n 1 140 1 (hold0 (a := 1) (b := 140) (by decide) (by decide) (fun j h g => hold1 j (by omega) g))) mf_X8_holds w_507 1 k_1 rfl rfl rfl (Nat.le_of_ble_eq_true rfl) ⟨(Nat.le_of_ble_eq_true rfl), (Nat.le_of_ble_eq_true rfl)⟩ ⟨(Nat.le_of_ble_eq_true rfl), (Nat.le_of_ble_eq_true rfl)⟩ dX11_acts_10 rfl (fun r2 w3 h1 => ?_)
  obtain ⟨e4, g5⟩ := h1
  refine x_top e4 ?_
  refine x_ws g5 ?_
  refine x_if_ne C (tgt := 18) dX11_acts_13 (by decide) rfl (fun h => absurd h (by decide)) (fun _ => ?_)
  refine x_iconst C (v := (-1)) dX11_acts_16 (by decide) rfl ?_
  exact x_zret C hr hlk rfl dX11_acts_17 (by first | rfl | trivial | (simp [bI]; done) | (simp_all [bI]; done))
theorem dX11_judged_0 : decode cX11_judged 0 = .ok (.aload_n 0, 1) := by decide +kernel
theorem dX11_judged_1 : decode cX11_judged 1 = .ok (.getfield 10, 3) := by decide +kernel
theorem dX11_judged_4 : decode cX11_judged 4 = .ok (.iload_n 1, 1) := by decide +kernel
theorem dX11_judged_5 : decode cX11_judged 5 = .ok (.iconst 1, 1) := by decide +kernel
theorem dX11_judged_6 : decode cX11_judged 6 = .ok (.sipush 140, 3) := by decide +kernel
theorem dX11_judged_9 : decode cX11_judged 9 = .ok (.iconst 1, 1) := by decide +kernel
theorem dX11_judged_10 : decode cX11_judged 10 = .ok (.invokevirtual 149, 3) := by decide +kernel
theorem dX11_judged_13 : decode cX11_judged 13 = .ok (.ifCond .ne 5, 3) := by decide +kernel
theorem dX11_judged_16 : decode cX11_judged 16 = .ok (.iconst (-1), 1) := by decide +kernel
theorem dX11_judged_17 : decode cX11_judged 17 = .ok (.ireturn, 1) := by decide +kernel
set_option maxRecDepth 20000 in
set_option maxHeartbeats 4000000 in
theorem t_judged (E : xE) (l : Launch) (ws : va_W) {x xt xk xn xp xtr xr xs xl xpl xse ah ald arm ahr ash arw abr aw tb : Nat} (p_0 : Nat) (k_0 : ws[0]? = some (ob x 10 [.ref xt, .ref xk, .ref xn, .ref xp, .ref xtr, .int 0, .ref xr, .ref xs, .ref xl, .ref xpl, .ref xse, .ref ah, .ref ald, .ref arm, .ref ahr, .ref ash, .ref arw, .ref abr, .ref aw])) (p_1 : Nat) (k_1 : ws[1]? = some (ob xt 7 [.ref tb, .int 0, .int 0, .int 0, .int 0])) (n : Int32) : xI E l yX11_judged cX11_judged 3 (some .int) 1 [.ref x, .int n] ws (fun r w => r = -1) := by
  refine xI_start (lv := [(0, .ref x), (1, .int n)]) RX11 (by decide) rfl (Nat.le_of_ble_eq_true rfl) rfl (fun p e s m below meth c A C hr hlk => ?_)
  refine x_aload_n C dX11_judged_0 rfl 0 rfl rfl ?_
  refine x_get C (ci := 10) (k := 0) 0 k_0 rfl in_X11 (by decide) w_385 rfl dX11_judged_1 rfl ?_
  refine x_iload_n C dX11_judged_4 rfl 1 rfl rfl ?_
  refine x_iconst C (v := 1) dX11_judged_5 (by decide) rfl ?_
  refine x_sipush C (v := 140) dX11_judged_6 (by decide) rfl ?_
  refine x_iconst C (v := 1) dX11_judged_9 (by decide) rfl ?_
  refine x_vi C (As := [.int n, .int 1, .int 140, .int 1]) (rest := []) (t_holds0 E l ws 1 k_1 n 1 140 1 (hold0 (a := 1) (b := 140) (by decide) (by decide) (fun j h g => hold1 j (by omega) g))) mf_X8_holds w_507 1 k_1 rfl rfl rfl (Nat.le_of_ble_eq_true rfl) ⟨(Nat.le_of_ble_eq_true rfl), (Nat.le_of_ble_eq_true rfl)⟩ ⟨(Nat.le_of_ble_eq_true rfl), (Nat.le_of_ble_eq_true rfl)⟩ dX11_judged_10 rfl (fun r2 w3 h1 => ?_)
  obtain ⟨e4, g5⟩ := h1
  refine x_top e4 ?_
  refine x_ws g5 ?_
  refine x_if_ne C (tgt := 18) dX11_judged_13 (by decide) rfl (fun h => absurd h (by decide)) (fun _ => ?_)
  refine x_iconst C (v := (-1)) dX11_judged_16 (by decide) rfl ?_
  exact x_zret C hr hlk rfl dX11_judged_17 (by first | rfl | trivial | (simp [bI]; done) | (simp_all [bI]; done))
theorem dX11_rations_0 : decode cX11_rations 0 = .ok (.aload_n 0, 1) := by decide +kernel
theorem dX11_rations_1 : decode cX11_rations 1 = .ok (.getfield 10, 3) := by decide +kernel
theorem dX11_rations_4 : decode cX11_rations 4 = .ok (.iload_n 1, 1) := by decide +kernel
theorem dX11_rations_5 : decode cX11_rations 5 = .ok (.iconst 1, 1) := by decide +kernel
theorem dX11_rations_6 : decode cX11_rations 6 = .ok (.bipush 8, 2) := by decide +kernel
theorem dX11_rations_8 : decode cX11_rations 8 = .ok (.iconst 1, 1) := by decide +kernel
theorem dX11_rations_9 : decode cX11_rations 9 = .ok (.invokevirtual 149, 3) := by decide +kernel
theorem dX11_rations_12 : decode cX11_rations 12 = .ok (.ifCond .eq 12, 3) := by decide +kernel
theorem dX11_rations_24 : decode cX11_rations 24 = .ok (.iconst (-1), 1) := by decide +kernel
theorem dX11_rations_25 : decode cX11_rations 25 = .ok (.ireturn, 1) := by decide +kernel
set_option maxRecDepth 20000 in
set_option maxHeartbeats 4000000 in
theorem t_rations (E : xE) (l : Launch) (ws : va_W) {x xt xk xn xp xtr xr xs xl xpl xse ah ald arm ahr ash arw abr aw tb : Nat} (p_0 : Nat) (k_0 : ws[0]? = some (ob x 10 [.ref xt, .ref xk, .ref xn, .ref xp, .ref xtr, .int 0, .ref xr, .ref xs, .ref xl, .ref xpl, .ref xse, .ref ah, .ref ald, .ref arm, .ref ahr, .ref ash, .ref arw, .ref abr, .ref aw])) (p_1 : Nat) (k_1 : ws[1]? = some (ob xt 7 [.ref tb, .int 0, .int 0, .int 0, .int 0])) (n m0 wh : Int32) : xI E l yX11_rations cX11_rations 6 (some .int) 1 [.ref x, .int n, .int m0, .int wh] ws (fun r w => r = -1) := by
  refine xI_start (lv := [(0, .ref x), (1, .int n), (2, .int m0), (3, .int wh)]) RX11 (by decide) rfl (Nat.le_of_ble_eq_true rfl) rfl (fun p e s m below meth c A C hr hlk => ?_)
  refine x_aload_n C dX11_rations_0 rfl 0 rfl rfl ?_
  refine x_get C (ci := 10) (k := 0) 0 k_0 rfl in_X11 (by decide) w_385 rfl dX11_rations_1 rfl ?_
  refine x_iload_n C dX11_rations_4 rfl 1 rfl rfl ?_
  refine x_iconst C (v := 1) dX11_rations_5 (by decide) rfl ?_
  refine x_bipush C (v := 8) dX11_rations_6 (by decide) rfl ?_
  refine x_iconst C (v := 1) dX11_rations_8 (by decide) rfl ?_
  refine x_vi C (As := [.int n, .int 1, .int 8, .int 1]) (rest := []) (t_holds0 E l ws 1 k_1 n 1 8 1 (hold0 (a := 1) (b := 8) (by decide) (by decide) (fun j h g => hold1 j (by omega) g))) mf_X8_holds w_507 1 k_1 rfl rfl rfl (Nat.le_of_ble_eq_true rfl) ⟨(Nat.le_of_ble_eq_true rfl), (Nat.le_of_ble_eq_true rfl)⟩ ⟨(Nat.le_of_ble_eq_true rfl), (Nat.le_of_ble_eq_true rfl)⟩ dX11_rations_9 rfl (fun r2 w3 h1 => ?_)
  obtain ⟨e4, g5⟩ := h1
  refine x_top e4 ?_
  refine x_ws g5 ?_
  refine x_if_eq C (tgt := 24) dX11_rations_12 (by decide) rfl (fun _ => ?_) (fun h => absurd h (by decide))
  refine x_iconst C (v := (-1)) dX11_rations_24 (by decide) rfl ?_
  exact x_zret C hr hlk rfl dX11_rations_25 (by first | rfl | trivial | (simp [bI]; done) | (simp_all [bI]; done))
theorem dX11_hoards_0 : decode cX11_hoards 0 = .ok (.aload_n 0, 1) := by decide +kernel
theorem dX11_hoards_1 : decode cX11_hoards 1 = .ok (.getfield 10, 3) := by decide +kernel
theorem dX11_hoards_4 : decode cX11_hoards 4 = .ok (.iload_n 1, 1) := by decide +kernel
theorem dX11_hoards_5 : decode cX11_hoards 5 = .ok (.iconst 2, 1) := by decide +kernel
theorem dX11_hoards_6 : decode cX11_hoards 6 = .ok (.iconst 5, 1) := by decide +kernel
theorem dX11_hoards_7 : decode cX11_hoards 7 = .ok (.iconst 2, 1) := by decide +kernel
theorem dX11_hoards_8 : decode cX11_hoards 8 = .ok (.invokevirtual 149, 3) := by decide +kernel
theorem dX11_hoards_11 : decode cX11_hoards 11 = .ok (.ifCond .eq 12, 3) := by decide +kernel
theorem dX11_hoards_23 : decode cX11_hoards 23 = .ok (.iconst (-1), 1) := by decide +kernel
theorem dX11_hoards_24 : decode cX11_hoards 24 = .ok (.ireturn, 1) := by decide +kernel
set_option maxRecDepth 20000 in
set_option maxHeartbeats 4000000 in
theorem t_hoards (E : xE) (l : Launch) (ws : va_W) {x xt xk xn xp xtr xr xs xl xpl xse ah ald arm ahr ash arw abr aw tb : Nat} (p_0 : Nat) (k_0 : ws[0]? = some (ob x 10 [.ref xt, .ref xk, .ref xn, .ref xp, .ref xtr, .int 0, .ref xr, .ref xs, .ref xl, .ref xpl, .ref xse, .ref ah, .ref ald, .ref arm, .ref ahr, .ref ash, .ref arw, .ref abr, .ref aw])) (p_1 : Nat) (k_1 : ws[1]? = some (ob xt 7 [.ref tb, .int 0, .int 0, .int 0, .int 0])) (n wh : Int32) : xI E l yX11_hoards cX11_hoards 7 (some .int) 1 [.ref x, .int n, .int wh] ws (fun r w => r = -1) := by
  refine xI_start (lv := [(0, .ref x), (1, .int n), (2, .int wh)]) RX11 (by decide) rfl (Nat.le_of_ble_eq_true rfl) rfl (fun p e s m below meth c A C hr hlk => ?_)
  refine x_aload_n C dX11_hoards_0 rfl 0 rfl rfl ?_
  refine x_get C (ci := 10) (k := 0) 0 k_0 rfl in_X11 (by decide) w_385 rfl dX11_hoards_1 rfl ?_
  refine x_iload_n C dX11_hoards_4 rfl 1 rfl rfl ?_
  refine x_iconst C (v := 2) dX11_hoards_5 (by decide) rfl ?_
  refine x_iconst C (v := 5) dX11_hoards_6 (by decide) rfl ?_
  refine x_iconst C (v := 2) dX11_hoards_7 (by decide) rfl ?_
  refine x_vi C (As := [.int n, .int 2, .int 5, .int 2]) (rest := []) (t_holds0 E l ws 1 k_1 n 2 5 2 (hold0 (a := 2) (b := 5) (by decide) (by decide) hold2)) mf_X8_holds w_507 1 k_1 rfl rfl rfl (Nat.le_of_ble_eq_true rfl) ⟨(Nat.le_of_ble_eq_true rfl), (Nat.le_of_ble_eq_true rfl)⟩ ⟨(Nat.le_of_ble_eq_true rfl), (Nat.le_of_ble_eq_true rfl)⟩ dX11_hoards_8 rfl (fun r2 w3 h1 => ?_)
  obtain ⟨e4, g5⟩ := h1
  refine x_top e4 ?_
  refine x_ws g5 ?_
  refine x_if_eq C (tgt := 23) dX11_hoards_11 (by decide) rfl (fun _ => ?_) (fun h => absurd h (by decide))
  refine x_iconst C (v := (-1)) dX11_hoards_23 (by decide) rfl ?_
  exact x_zret C hr hlk rfl dX11_hoards_24 (by first | rfl | trivial | (simp [bI]; done) | (simp_all [bI]; done))
theorem dX11_yolks_0 : decode cX11_yolks 0 = .ok (.aload_n 0, 1) := by decide +kernel
theorem dX11_yolks_1 : decode cX11_yolks 1 = .ok (.getfield 10, 3) := by decide +kernel
theorem dX11_yolks_4 : decode cX11_yolks 4 = .ok (.iload_n 1, 1) := by decide +kernel
theorem dX11_yolks_5 : decode cX11_yolks 5 = .ok (.iconst 1, 1) := by decide +kernel
theorem dX11_yolks_6 : decode cX11_yolks 6 = .ok (.bipush 10, 2) := by decide +kernel
theorem dX11_yolks_8 : decode cX11_yolks 8 = .ok (.iconst 1, 1) := by decide +kernel
theorem dX11_yolks_9 : decode cX11_yolks 9 = .ok (.invokevirtual 149, 3) := by decide +kernel
theorem dX11_yolks_12 : decode cX11_yolks 12 = .ok (.ifCond .eq 23, 3) := by decide +kernel
theorem dX11_yolks_35 : decode cX11_yolks 35 = .ok (.iconst (-1), 1) := by decide +kernel
theorem dX11_yolks_36 : decode cX11_yolks 36 = .ok (.ireturn, 1) := by decide +kernel
set_option maxRecDepth 20000 in
set_option maxHeartbeats 4000000 in
theorem t_yolks (E : xE) (l : Launch) (ws : va_W) {x xt xk xn xp xtr xr xs xl xpl xse ah ald arm ahr ash arw abr aw tb : Nat} (p_0 : Nat) (k_0 : ws[0]? = some (ob x 10 [.ref xt, .ref xk, .ref xn, .ref xp, .ref xtr, .int 0, .ref xr, .ref xs, .ref xl, .ref xpl, .ref xse, .ref ah, .ref ald, .ref arm, .ref ahr, .ref ash, .ref arw, .ref abr, .ref aw])) (p_1 : Nat) (k_1 : ws[1]? = some (ob xt 7 [.ref tb, .int 0, .int 0, .int 0, .int 0])) (n mi wh : Int32) : xI E l yX11_yolks cX11_yolks 6 (some .int) 1 [.ref x, .int n, .int mi, .int wh] ws (fun r w => r = -1) := by
  refine xI_start (lv := [(0, .ref x), (1, .int n), (2, .int mi), (3, .int wh)]) RX11 (by decide) rfl (Nat.le_of_ble_eq_true rfl) rfl (fun p e s m below meth c A C hr hlk => ?_)
  refine x_aload_n C dX11_yolks_0 rfl 0 rfl rfl ?_
  refine x_get C (ci := 10) (k := 0) 0 k_0 rfl in_X11 (by decide) w_385 rfl dX11_yolks_1 rfl ?_
  refine x_iload_n C dX11_yolks_4 rfl 1 rfl rfl ?_
  refine x_iconst C (v := 1) dX11_yolks_5 (by decide) rfl ?_
  refine x_bipush C (v := 10) dX11_yolks_6 (by decide) rfl ?_
  refine x_iconst C (v := 1) dX11_yolks_8 (by decide) rfl ?_
  refine x_vi C (As := [.int n, .int 1, .int 10, .int 1]) (rest := []) (t_holds0 E l ws 1 k_1 n 1 10 1 (hold0 (a := 1) (b := 10) (by decide) (by decide) (fun j h g => hold1 j (by omega) g))) mf_X8_holds w_507 1 k_1 rfl rfl rfl (Nat.le_of_ble_eq_true rfl) ⟨(Nat.le_of_ble_eq_true rfl), (Nat.le_of_ble_eq_true rfl)⟩ ⟨(Nat.le_of_ble_eq_true rfl), (Nat.le_of_ble_eq_true rfl)⟩ dX11_yolks_9 rfl (fun r2 w3 h1 => ?_)
  obtain ⟨e4, g5⟩ := h1
  refine x_top e4 ?_
  refine x_ws g5 ?_
  refine x_if_eq C (tgt := 35) dX11_yolks_12 (by decide) rfl (fun _ => ?_) (fun h => absurd h (by decide))
  refine x_iconst C (v := (-1)) dX11_yolks_35 (by decide) rfl ?_
  exact x_zret C hr hlk rfl dX11_yolks_36 (by first | rfl | trivial | (simp [bI]; done) | (simp_all [bI]; done))
theorem dX11_egg_0 : decode cX11_egg 0 = .ok (.aload_n 0, 1) := by decide +kernel
theorem dX11_egg_1 : decode cX11_egg 1 = .ok (.getfield 22, 3) := by decide +kernel
theorem dX11_egg_4 : decode cX11_egg 4 = .ok (.getfield 132, 3) := by decide +kernel
theorem dX11_egg_7 : decode cX11_egg 7 = .ok (.iload_n 1, 1) := by decide +kernel
theorem dX11_egg_8 : decode cX11_egg 8 = .ok (.invokevirtual 207, 3) := by decide +kernel
theorem dX11_egg_11 : decode cX11_egg 11 = .ok (.ifCond .ne 5, 3) := by decide +kernel
theorem dX11_egg_14 : decode cX11_egg 14 = .ok (.iconst (-1), 1) := by decide +kernel
theorem dX11_egg_15 : decode cX11_egg 15 = .ok (.ireturn, 1) := by decide +kernel
set_option maxRecDepth 20000 in
set_option maxHeartbeats 4000000 in
theorem t_egg (E : xE) (l : Launch) (ws : va_W) {x xt xk xn xp xtr xr xs xl xpl xse ah ald arm ahr ash arw abr aw th tp te tw em el ey eo eb es : Nat} {day sx : Int32} (p_0 : Nat) (k_0 : ws[0]? = some (ob x 10 [.ref xt, .ref xk, .ref xn, .ref xp, .ref xtr, .int 0, .ref xr, .ref xs, .ref xl, .ref xpl, .ref xse, .ref ah, .ref ald, .ref arm, .ref ahr, .ref ash, .ref arw, .ref abr, .ref aw])) (p_1 : Nat) (k_1 : ws[5]? = some (ob xn 8 [.int day, .int sx, .ref th, .ref tp, .ref te, .ref tw, .int 0, .int 0, .int 0, .int 0])) (p_2 : Nat) (k_2 : ws[14]? = some (ob te 1 [.int 0, .ref em, .ref el, .ref ey, .ref eo, .ref eb, .ref es])) (i wh : Int32) : xI E l yX11_egg cX11_egg 3 (some .int) 1 [.ref x, .int i, .int wh] ws (fun r w => r = -1) := by
  refine xI_start (lv := [(0, .ref x), (1, .int i), (2, .int wh)]) RX11 (by decide) rfl (Nat.le_of_ble_eq_true rfl) rfl (fun p e s m below meth c A C hr hlk => ?_)
  refine x_aload_n C dX11_egg_0 rfl 0 rfl rfl ?_
  refine x_get C (ci := 10) (k := 2) 0 k_0 rfl in_X11 (by decide) w_387 rfl dX11_egg_1 rfl ?_
  refine x_get C (ci := 8) (k := 4) 5 k_1 rfl in_X9 (by decide) w_209 rfl dX11_egg_4 rfl ?_
  refine x_iload_n C dX11_egg_7 rfl 1 rfl rfl ?_
  refine x_vi C (As := [.int i]) (rest := []) (t_Eggs_isLaid0 E l ws 14 k_2 i) mf_X1_isLaid w_861 14 k_2 rfl rfl rfl (Nat.le_of_ble_eq_true rfl) ⟨(Nat.le_of_ble_eq_true rfl), (Nat.le_of_ble_eq_true rfl)⟩ ⟨(Nat.le_of_ble_eq_true rfl), (Nat.le_of_ble_eq_true rfl)⟩ dX11_egg_8 rfl (fun r2 w3 h1 => ?_)
  obtain ⟨e4, g5⟩ := h1
  refine x_top e4 ?_
  refine x_ws g5 ?_
  refine x_if_ne C (tgt := 16) dX11_egg_11 (by decide) rfl (fun h => absurd h (by decide)) (fun _ => ?_)
  refine x_iconst C (v := (-1)) dX11_egg_14 (by decide) rfl ?_
  exact x_zret C hr hlk rfl dX11_egg_15 (by first | rfl | trivial | (simp [bI]; done) | (simp_all [bI]; done))
theorem dX11_personIs_0 : decode cX11_personIs 0 = .ok (.aload_n 0, 1) := by decide +kernel
theorem dX11_personIs_1 : decode cX11_personIs 1 = .ok (.getfield 22, 3) := by decide +kernel
theorem dX11_personIs_4 : decode cX11_personIs 4 = .ok (.getfield 92, 3) := by decide +kernel
theorem dX11_personIs_7 : decode cX11_personIs 7 = .ok (.iload_n 1, 1) := by decide +kernel
theorem dX11_personIs_8 : decode cX11_personIs 8 = .ok (.invokevirtual 106, 3) := by decide +kernel
theorem dX11_personIs_11 : decode cX11_personIs 11 = .ok (.ifCond .ne 5, 3) := by decide +kernel
theorem dX11_personIs_14 : decode cX11_personIs 14 = .ok (.iconst (-1), 1) := by decide +kernel
theorem dX11_personIs_15 : decode cX11_personIs 15 = .ok (.ireturn, 1) := by decide +kernel
set_option maxRecDepth 20000 in
set_option maxHeartbeats 4000000 in
theorem t_personIs (E : xE) (l : Launch) (ws : va_W) {x xt xk xn xp xtr xr xs xl xpl xse ah ald arm ahr ash arw abr aw th tp te tw pl pa pt pb : Nat} {day sx : Int32} (p_0 : Nat) (k_0 : ws[0]? = some (ob x 10 [.ref xt, .ref xk, .ref xn, .ref xp, .ref xtr, .int 0, .ref xr, .ref xs, .ref xl, .ref xpl, .ref xse, .ref ah, .ref ald, .ref arm, .ref ahr, .ref ash, .ref arw, .ref abr, .ref aw])) (p_1 : Nat) (k_1 : ws[5]? = some (ob xn 8 [.int day, .int sx, .ref th, .ref tp, .ref te, .ref tw, .int 0, .int 0, .int 0, .int 0])) (p_2 : Nat) (k_2 : ws[9]? = some (ob tp 4 [.int 0, .ref pl, .ref pa, .ref pt, .ref pb])) (p0 wh : Int32) : xI E l yX11_personIs cX11_personIs 3 (some .int) 2 [.ref x, .int p0, .int wh] ws (fun r w => r = -1) := by
  refine xI_start (lv := [(0, .ref x), (1, .int p0), (2, .int wh)]) RX11 (by decide) rfl (Nat.le_of_ble_eq_true rfl) rfl (fun p e s m below meth c A C hr hlk => ?_)
  refine x_aload_n C dX11_personIs_0 rfl 0 rfl rfl ?_
  refine x_get C (ci := 10) (k := 2) 0 k_0 rfl in_X11 (by decide) w_387 rfl dX11_personIs_1 rfl ?_
  refine x_get C (ci := 8) (k := 3) 5 k_1 rfl in_X9 (by decide) w_204 rfl dX11_personIs_4 rfl ?_
  refine x_iload_n C dX11_personIs_7 rfl 1 rfl rfl ?_
  refine x_vi C (As := [.int p0]) (rest := []) (t_People_isTold0 E l ws 9 k_2 p0) mf_X5_isTold w_465 9 k_2 rfl rfl rfl (Nat.le_of_ble_eq_true rfl) ⟨(Nat.le_of_ble_eq_true rfl), (Nat.le_of_ble_eq_true rfl)⟩ ⟨(Nat.le_of_ble_eq_true rfl), (Nat.le_of_ble_eq_true rfl)⟩ dX11_personIs_8 rfl (fun r2 w3 h1 => ?_)
  obtain ⟨e4, g5⟩ := h1
  refine x_top e4 ?_
  refine x_ws g5 ?_
  refine x_if_ne C (tgt := 16) dX11_personIs_11 (by decide) rfl (fun h => absurd h (by decide)) (fun _ => ?_)
  refine x_iconst C (v := (-1)) dX11_personIs_14 (by decide) rfl ?_
  exact x_zret C hr hlk rfl dX11_personIs_15 (by first | rfl | trivial | (simp [bI]; done) | (simp_all [bI]; done))
theorem dX11_workIs_0 : decode cX11_workIs 0 = .ok (.aload_n 0, 1) := by decide +kernel
theorem dX11_workIs_1 : decode cX11_workIs 1 = .ok (.getfield 22, 3) := by decide +kernel
theorem dX11_workIs_4 : decode cX11_workIs 4 = .ok (.getfield 123, 3) := by decide +kernel
theorem dX11_workIs_7 : decode cX11_workIs 7 = .ok (.iload_n 1, 1) := by decide +kernel
theorem dX11_workIs_8 : decode cX11_workIs 8 = .ok (.invokevirtual 257, 3) := by decide +kernel
theorem dX11_workIs_11 : decode cX11_workIs 11 = .ok (.ifCond .ne 5, 3) := by decide +kernel
theorem dX11_workIs_14 : decode cX11_workIs 14 = .ok (.iconst (-1), 1) := by decide +kernel
theorem dX11_workIs_15 : decode cX11_workIs 15 = .ok (.ireturn, 1) := by decide +kernel
set_option maxRecDepth 20000 in
set_option maxHeartbeats 4000000 in
theorem t_workIs (E : xE) (l : Launch) (ws : va_W) {x xt xk xn xp xtr xr xs xl xpl xse ah ald arm ahr ash arw abr aw th tp te tw wn wd ww wb wo : Nat} {day sx : Int32} (p_0 : Nat) (k_0 : ws[0]? = some (ob x 10 [.ref xt, .ref xk, .ref xn, .ref xp, .ref xtr, .int 0, .ref xr, .ref xs, .ref xl, .ref xpl, .ref xse, .ref ah, .ref ald, .ref arm, .ref ahr, .ref ash, .ref arw, .ref abr, .ref aw])) (p_1 : Nat) (k_1 : ws[5]? = some (ob xn 8 [.int day, .int sx, .ref th, .ref tp, .ref te, .ref tw, .int 0, .int 0, .int 0, .int 0])) (p_2 : Nat) (k_2 : ws[21]? = some (ob tw 9 [.int 0, .ref wn, .ref wd, .ref ww, .ref wb, .ref wo])) (i wh : Int32) : xI E l yX11_workIs cX11_workIs 3 (some .int) 2 [.ref x, .int i, .int wh] ws (fun r w => r = -1) := by
  refine xI_start (lv := [(0, .ref x), (1, .int i), (2, .int wh)]) RX11 (by decide) rfl (Nat.le_of_ble_eq_true rfl) rfl (fun p e s m below meth c A C hr hlk => ?_)
  refine x_aload_n C dX11_workIs_0 rfl 0 rfl rfl ?_
  refine x_get C (ci := 10) (k := 2) 0 k_0 rfl in_X11 (by decide) w_387 rfl dX11_workIs_1 rfl ?_
  refine x_get C (ci := 8) (k := 5) 5 k_1 rfl in_X9 (by decide) w_213 rfl dX11_workIs_4 rfl ?_
  refine x_iload_n C dX11_workIs_7 rfl 1 rfl rfl ?_
  refine x_vi C (As := [.int i]) (rest := []) (t_Works_isTold0 E l ws 21 k_2 i) mf_X10_isTold w_893 21 k_2 rfl rfl rfl (Nat.le_of_ble_eq_true rfl) ⟨(Nat.le_of_ble_eq_true rfl), (Nat.le_of_ble_eq_true rfl)⟩ ⟨(Nat.le_of_ble_eq_true rfl), (Nat.le_of_ble_eq_true rfl)⟩ dX11_workIs_8 rfl (fun r2 w3 h1 => ?_)
  obtain ⟨e4, g5⟩ := h1
  refine x_top e4 ?_
  refine x_ws g5 ?_
  refine x_if_ne C (tgt := 16) dX11_workIs_11 (by decide) rfl (fun h => absurd h (by decide)) (fun _ => ?_)
  refine x_iconst C (v := (-1)) dX11_workIs_14 (by decide) rfl ?_
  exact x_zret C hr hlk rfl dX11_workIs_15 (by first | rfl | trivial | (simp [bI]; done) | (simp_all [bI]; done))
theorem dX11_plan_0 : decode cX11_plan 0 = .ok (.aload_n 0, 1) := by decide +kernel
theorem dX11_plan_1 : decode cX11_plan 1 = .ok (.getfield 22, 3) := by decide +kernel
theorem dX11_plan_4 : decode cX11_plan 4 = .ok (.getfield 123, 3) := by decide +kernel
theorem dX11_plan_7 : decode cX11_plan 7 = .ok (.getfield 280, 3) := by decide +kernel
theorem dX11_plan_10 : decode cX11_plan 10 = .ok (.istore 4, 2) := by decide +kernel
theorem dX11_plan_12 : decode cX11_plan 12 = .ok (.iload_n 2, 1) := by decide +kernel
theorem dX11_plan_13 : decode cX11_plan 13 = .ok (.iconst 1, 1) := by decide +kernel
theorem dX11_plan_14 : decode cX11_plan 14 = .ok (.sipush 255, 3) := by decide +kernel
theorem dX11_plan_17 : decode cX11_plan 17 = .ok (.invokestatic 102, 3) := by decide +kernel
theorem dX11_plan_20 : decode cX11_plan 20 = .ok (.ifCond .eq 10, 3) := by decide +kernel
theorem dX11_plan_23 : decode cX11_plan 23 = .ok (.iload_n 2, 1) := by decide +kernel
theorem dX11_plan_24 : decode cX11_plan 24 = .ok (.invokestatic 281, 3) := by decide +kernel
theorem dX11_plan_27 : decode cX11_plan 27 = .ok (.goto 4, 3) := by decide +kernel
theorem dX11_plan_30 : decode cX11_plan 30 = .ok (.iconst 0, 1) := by decide +kernel
theorem dX11_plan_31 : decode cX11_plan 31 = .ok (.istore 5, 2) := by decide +kernel
theorem dX11_plan_33 : decode cX11_plan 33 = .ok (.iload_n 3, 1) := by decide +kernel
theorem dX11_plan_34 : decode cX11_plan 34 = .ok (.bipush 10, 2) := by decide +kernel
theorem dX11_plan_36 : decode cX11_plan 36 = .ok (.bipush 17, 2) := by decide +kernel
theorem dX11_plan_38 : decode cX11_plan 38 = .ok (.invokestatic 102, 3) := by decide +kernel
theorem dX11_plan_41 : decode cX11_plan 41 = .ok (.ifCond .eq 18, 3) := by decide +kernel
theorem dX11_plan_44 : decode cX11_plan 44 = .ok (.iload_n 2, 1) := by decide +kernel
theorem dX11_plan_45 : decode cX11_plan 45 = .ok (.iload_n 3, 1) := by decide +kernel
theorem dX11_plan_46 : decode cX11_plan 46 = .ok (.bipush 10, 2) := by decide +kernel
theorem dX11_plan_48 : decode cX11_plan 48 = .ok (.isub, 1) := by decide +kernel
theorem dX11_plan_49 : decode cX11_plan 49 = .ok (.invokestatic 286, 3) := by decide +kernel
theorem dX11_plan_52 : decode cX11_plan 52 = .ok (.ifCond .eq 7, 3) := by decide +kernel
theorem dX11_plan_55 : decode cX11_plan 55 = .ok (.iconst 1, 1) := by decide +kernel
theorem dX11_plan_56 : decode cX11_plan 56 = .ok (.goto 4, 3) := by decide +kernel
theorem dX11_plan_59 : decode cX11_plan 59 = .ok (.iconst 0, 1) := by decide +kernel
theorem dX11_plan_60 : decode cX11_plan 60 = .ok (.istore 6, 2) := by decide +kernel
theorem dX11_plan_62 : decode cX11_plan 62 = .ok (.aload_n 0, 1) := by decide +kernel
theorem dX11_plan_63 : decode cX11_plan 63 = .ok (.getfield 22, 3) := by decide +kernel
theorem dX11_plan_66 : decode cX11_plan 66 = .ok (.getfield 92, 3) := by decide +kernel
theorem dX11_plan_69 : decode cX11_plan 69 = .ok (.iload_n 1, 1) := by decide +kernel
theorem dX11_plan_70 : decode cX11_plan 70 = .ok (.invokevirtual 106, 3) := by decide +kernel
theorem dX11_plan_73 : decode cX11_plan 73 = .ok (.ifCond .eq 36, 3) := by decide +kernel
theorem dX11_plan_109 : decode cX11_plan 109 = .ok (.iconst (-1), 1) := by decide +kernel
theorem dX11_plan_110 : decode cX11_plan 110 = .ok (.ireturn, 1) := by decide +kernel
set_option maxRecDepth 20000 in
set_option maxHeartbeats 4000000 in
theorem t_plan (E : xE) (l : Launch) (ws : va_W) {x xt xk xn xp xtr xr xs xl xpl xse ah ald arm ahr ash arw abr aw th tp te tw pl pa pt pb wn wd ww wb wo : Nat} {day sx : Int32} (p_0 : Nat) (k_0 : ws[0]? = some (ob x 10 [.ref xt, .ref xk, .ref xn, .ref xp, .ref xtr, .int 0, .ref xr, .ref xs, .ref xl, .ref xpl, .ref xse, .ref ah, .ref ald, .ref arm, .ref ahr, .ref ash, .ref arw, .ref abr, .ref aw])) (p_1 : Nat) (k_1 : ws[5]? = some (ob xn 8 [.int day, .int sx, .ref th, .ref tp, .ref te, .ref tw, .int 0, .int 0, .int 0, .int 0])) (p_2 : Nat) (k_2 : ws[9]? = some (ob tp 4 [.int 0, .ref pl, .ref pa, .ref pt, .ref pb])) (p_3 : Nat) (k_3 : ws[21]? = some (ob tw 9 [.int 0, .ref wn, .ref wd, .ref ww, .ref wb, .ref wo])) (p0 wk wh : Int32) : xI E l yX11_plan cX11_plan 8 (some .int) 2 [.ref x, .int p0, .int wk, .int wh] ws (fun r w => r = -1) := by
  refine xI_start (lv := [(0, .ref x), (1, .int p0), (2, .int wk), (3, .int wh)]) RX11 (by decide) rfl (Nat.le_of_ble_eq_true rfl) rfl (fun p e s m below meth c A C hr hlk => ?_)
  refine x_aload_n C dX11_plan_0 rfl 0 rfl rfl ?_
  refine x_get C (ci := 10) (k := 2) 0 k_0 rfl in_X11 (by decide) w_387 rfl dX11_plan_1 rfl ?_
  refine x_get C (ci := 8) (k := 5) 5 k_1 rfl in_X9 (by decide) w_213 rfl dX11_plan_4 rfl ?_
  refine x_get C (ci := 9) (k := 0) 21 k_3 rfl in_X10 (by decide) w_169 rfl dX11_plan_7 rfl ?_
  refine x_istore C (lv' := [(4, .int 0), (0, .ref x), (1, .int p0), (2, .int wk), (3, .int wh)]) dX11_plan_10 (by decide) rfl rfl ?_
  refine x_iload_n C dX11_plan_12 rfl 3 rfl rfl ?_
  refine x_iconst C (v := 1) dX11_plan_13 (by decide) rfl ?_
  refine x_sipush C (v := 255) dX11_plan_14 (by decide) rfl ?_
  refine x_si C (As := [.int wk, .int 1, .int 255]) (rest := []) (t_isWithin E l ws wk 1 255) mf_X11_isWithin w_462 rfl rfl (Nat.le_of_ble_eq_true rfl) ⟨(Nat.le_of_ble_eq_true rfl), (Nat.le_of_ble_eq_true rfl)⟩ ⟨(Nat.le_of_ble_eq_true rfl), (Nat.le_of_ble_eq_true rfl)⟩ dX11_plan_17 rfl (fun r2 w3 h1 => ?_)
  obtain ⟨e4, g5⟩ := h1
  refine x_top e4 ?_
  refine x_ws g5 ?_
  refine x_if_eq C (tgt := 30) dX11_plan_20 (by decide) rfl (fun c6 => ?_) (fun c6 => ?_)
  · skip
    have b7 := bI_e0 c6
    refine x_iconst C (v := 0) dX11_plan_30 (by decide) rfl ?_
    refine x_istore C (lv' := [(5, .int 0), (4, .int 0), (0, .ref x), (1, .int p0), (2, .int wk), (3, .int wh)]) dX11_plan_31 (by decide) rfl rfl ?_
    refine x_iload_n C dX11_plan_33 rfl 5 rfl rfl ?_
    refine x_bipush C (v := 10) dX11_plan_34 (by decide) rfl ?_
    refine x_bipush C (v := 17) dX11_plan_36 (by decide) rfl ?_
    refine x_si C (As := [.int wh, .int 10, .int 17]) (rest := []) (t_isWithin E l ws wh 10 17) mf_X11_isWithin w_462 rfl rfl (Nat.le_of_ble_eq_true rfl) ⟨(Nat.le_of_ble_eq_true rfl), (Nat.le_of_ble_eq_true rfl)⟩ ⟨(Nat.le_of_ble_eq_true rfl), (Nat.le_of_ble_eq_true rfl)⟩ dX11_plan_38 rfl (fun r9 w10 h8 => ?_)
    obtain ⟨e11, g12⟩ := h8
    refine x_top e11 ?_
    refine x_ws g12 ?_
    refine x_if_eq C (tgt := 59) dX11_plan_41 (by decide) rfl (fun c13 => ?_) (fun c13 => ?_)
    · skip
      have b14 := bI_e0 c13
      refine x_iconst C (v := 0) dX11_plan_59 (by decide) rfl ?_
      refine x_istore C (lv' := [(6, .int 0), (5, .int 0), (4, .int 0), (0, .ref x), (1, .int p0), (2, .int wk), (3, .int wh)]) dX11_plan_60 (by decide) rfl rfl ?_
      refine x_aload_n C dX11_plan_62 rfl 3 rfl rfl ?_
      refine x_get C (ci := 10) (k := 2) 0 k_0 rfl in_X11 (by decide) w_387 rfl dX11_plan_63 rfl ?_
      refine x_get C (ci := 8) (k := 3) 5 k_1 rfl in_X9 (by decide) w_204 rfl dX11_plan_66 rfl ?_
      refine x_iload_n C dX11_plan_69 rfl 4 rfl rfl ?_
      refine x_vi C (As := [.int p0]) (rest := []) (t_People_isTold0 E l ws 9 k_2 p0) mf_X5_isTold w_465 9 k_2 rfl rfl rfl (Nat.le_of_ble_eq_true rfl) ⟨(Nat.le_of_ble_eq_true rfl), (Nat.le_of_ble_eq_true rfl)⟩ ⟨(Nat.le_of_ble_eq_true rfl), (Nat.le_of_ble_eq_true rfl)⟩ dX11_plan_70 rfl (fun r16 w17 h15 => ?_)
      obtain ⟨e18, g19⟩ := h15
      refine x_top e18 ?_
      refine x_ws g19 ?_
      refine x_if_eq C (tgt := 109) dX11_plan_73 (by decide) rfl (fun _ => ?_) (fun h => absurd h (by decide))
      refine x_iconst C (v := (-1)) dX11_plan_109 (by decide) rfl ?_
      exact x_zret C hr hlk rfl dX11_plan_110 (by first | rfl | trivial | (simp [bI, b7, b14]; done) | (simp_all [bI]; done))
    · skip
      have b20 := bI_n0 c13
      refine x_iload_n C dX11_plan_44 rfl 4 rfl rfl ?_
      refine x_iload_n C dX11_plan_45 rfl 5 rfl rfl ?_
      refine x_bipush C (v := 10) dX11_plan_46 (by decide) rfl ?_
      refine x_isub C (v := (wh - (10 : Int32))) dX11_plan_48 rfl rfl ?_
      refine x_si C (As := [.int wk, .int (wh - (10 : Int32))]) (rest := []) (t_isIn E l ws wk ((wh - (10 : Int32)))) mf_X11_isIn w_909 rfl rfl (Nat.le_of_ble_eq_true rfl) ⟨(Nat.le_of_ble_eq_true rfl), (Nat.le_of_ble_eq_true rfl)⟩ ⟨(Nat.le_of_ble_eq_true rfl), (Nat.le_of_ble_eq_true rfl)⟩ dX11_plan_49 rfl (fun r22 w23 h21 => ?_)
      refine x_ws h21 ?_
      refine x_if_eq C (tgt := 59) dX11_plan_52 (by decide) rfl (fun c24 => ?_) (fun c24 => ?_)
      · skip
        refine x_iconst C (v := 0) dX11_plan_59 (by decide) rfl ?_
        refine x_istore C (lv' := [(6, .int 0), (5, .int 0), (4, .int 0), (0, .ref x), (1, .int p0), (2, .int wk), (3, .int wh)]) dX11_plan_60 (by decide) rfl rfl ?_
        refine x_aload_n C dX11_plan_62 rfl 3 rfl rfl ?_
        refine x_get C (ci := 10) (k := 2) 0 k_0 rfl in_X11 (by decide) w_387 rfl dX11_plan_63 rfl ?_
        refine x_get C (ci := 8) (k := 3) 5 k_1 rfl in_X9 (by decide) w_204 rfl dX11_plan_66 rfl ?_
        refine x_iload_n C dX11_plan_69 rfl 4 rfl rfl ?_
        refine x_vi C (As := [.int p0]) (rest := []) (t_People_isTold0 E l ws 9 k_2 p0) mf_X5_isTold w_465 9 k_2 rfl rfl rfl (Nat.le_of_ble_eq_true rfl) ⟨(Nat.le_of_ble_eq_true rfl), (Nat.le_of_ble_eq_true rfl)⟩ ⟨(Nat.le_of_ble_eq_true rfl), (Nat.le_of_ble_eq_true rfl)⟩ dX11_plan_70 rfl (fun r26 w27 h25 => ?_)
        obtain ⟨e28, g29⟩ := h25
        refine x_top e28 ?_
        refine x_ws g29 ?_
        refine x_if_eq C (tgt := 109) dX11_plan_73 (by decide) rfl (fun _ => ?_) (fun h => absurd h (by decide))
        refine x_iconst C (v := (-1)) dX11_plan_109 (by decide) rfl ?_
        exact x_zret C hr hlk rfl dX11_plan_110 (by first | rfl | trivial | (simp [bI, b7, b20, c24]; done) | (simp_all [bI]; done))
      · skip
        refine x_iconst C (v := 1) dX11_plan_55 (by decide) rfl ?_
        refine x_goto C (tgt := 60) dX11_plan_56 (by decide) ?_
        refine x_istore C (lv' := [(6, .int 1), (5, .int 0), (4, .int 0), (0, .ref x), (1, .int p0), (2, .int wk), (3, .int wh)]) dX11_plan_60 (by decide) rfl rfl ?_
        refine x_aload_n C dX11_plan_62 rfl 3 rfl rfl ?_
        refine x_get C (ci := 10) (k := 2) 0 k_0 rfl in_X11 (by decide) w_387 rfl dX11_plan_63 rfl ?_
        refine x_get C (ci := 8) (k := 3) 5 k_1 rfl in_X9 (by decide) w_204 rfl dX11_plan_66 rfl ?_
        refine x_iload_n C dX11_plan_69 rfl 4 rfl rfl ?_
        refine x_vi C (As := [.int p0]) (rest := []) (t_People_isTold0 E l ws 9 k_2 p0) mf_X5_isTold w_465 9 k_2 rfl rfl rfl (Nat.le_of_ble_eq_true rfl) ⟨(Nat.le_of_ble_eq_true rfl), (Nat.le_of_ble_eq_true rfl)⟩ ⟨(Nat.le_of_ble_eq_true rfl), (Nat.le_of_ble_eq_true rfl)⟩ dX11_plan_70 rfl (fun r31 w32 h30 => ?_)
        obtain ⟨e33, g34⟩ := h30
        refine x_top e33 ?_
        refine x_ws g34 ?_
        refine x_if_eq C (tgt := 109) dX11_plan_73 (by decide) rfl (fun _ => ?_) (fun h => absurd h (by decide))
        refine x_iconst C (v := (-1)) dX11_plan_109 (by decide) rfl ?_
        exact x_zret C hr hlk rfl dX11_plan_110 (by first | rfl | trivial | (simp [bI, b7, b20, c24]; done) | (simp_all [bI]; done))
  · skip
    have b35 := bI_n0 c6
    refine x_iload_n C dX11_plan_23 rfl 3 rfl rfl ?_
    refine x_si C (As := [.int wk]) (rest := []) (t_bitCount E l ws wk) mf_J6_bitCount_0f7a4 w_903 rfl rfl (Nat.le_of_ble_eq_true rfl) ⟨(Nat.le_of_ble_eq_true rfl), (Nat.le_of_ble_eq_true rfl)⟩ ⟨(Nat.le_of_ble_eq_true rfl), (Nat.le_of_ble_eq_true rfl)⟩ dX11_plan_24 rfl (fun r37 w38 h36 => ?_)
    refine x_ws h36 ?_
    refine x_goto C (tgt := 31) dX11_plan_27 (by decide) ?_
    refine x_istore C (lv' := [(5, .int r37), (4, .int 0), (0, .ref x), (1, .int p0), (2, .int wk), (3, .int wh)]) dX11_plan_31 (by decide) rfl rfl ?_
    refine x_iload_n C dX11_plan_33 rfl 5 rfl rfl ?_
    refine x_bipush C (v := 10) dX11_plan_34 (by decide) rfl ?_
    refine x_bipush C (v := 17) dX11_plan_36 (by decide) rfl ?_
    refine x_si C (As := [.int wh, .int 10, .int 17]) (rest := []) (t_isWithin E l ws wh 10 17) mf_X11_isWithin w_462 rfl rfl (Nat.le_of_ble_eq_true rfl) ⟨(Nat.le_of_ble_eq_true rfl), (Nat.le_of_ble_eq_true rfl)⟩ ⟨(Nat.le_of_ble_eq_true rfl), (Nat.le_of_ble_eq_true rfl)⟩ dX11_plan_38 rfl (fun r40 w41 h39 => ?_)
    obtain ⟨e42, g43⟩ := h39
    refine x_top e42 ?_
    refine x_ws g43 ?_
    refine x_if_eq C (tgt := 59) dX11_plan_41 (by decide) rfl (fun c44 => ?_) (fun c44 => ?_)
    · skip
      have b45 := bI_e0 c44
      refine x_iconst C (v := 0) dX11_plan_59 (by decide) rfl ?_
      refine x_istore C (lv' := [(6, .int 0), (5, .int r37), (4, .int 0), (0, .ref x), (1, .int p0), (2, .int wk), (3, .int wh)]) dX11_plan_60 (by decide) rfl rfl ?_
      refine x_aload_n C dX11_plan_62 rfl 3 rfl rfl ?_
      refine x_get C (ci := 10) (k := 2) 0 k_0 rfl in_X11 (by decide) w_387 rfl dX11_plan_63 rfl ?_
      refine x_get C (ci := 8) (k := 3) 5 k_1 rfl in_X9 (by decide) w_204 rfl dX11_plan_66 rfl ?_
      refine x_iload_n C dX11_plan_69 rfl 4 rfl rfl ?_
      refine x_vi C (As := [.int p0]) (rest := []) (t_People_isTold0 E l ws 9 k_2 p0) mf_X5_isTold w_465 9 k_2 rfl rfl rfl (Nat.le_of_ble_eq_true rfl) ⟨(Nat.le_of_ble_eq_true rfl), (Nat.le_of_ble_eq_true rfl)⟩ ⟨(Nat.le_of_ble_eq_true rfl), (Nat.le_of_ble_eq_true rfl)⟩ dX11_plan_70 rfl (fun r47 w48 h46 => ?_)
      obtain ⟨e49, g50⟩ := h46
      refine x_top e49 ?_
      refine x_ws g50 ?_
      refine x_if_eq C (tgt := 109) dX11_plan_73 (by decide) rfl (fun _ => ?_) (fun h => absurd h (by decide))
      refine x_iconst C (v := (-1)) dX11_plan_109 (by decide) rfl ?_
      exact x_zret C hr hlk rfl dX11_plan_110 (by first | rfl | trivial | (simp [bI, b35, b45]; done) | (simp_all [bI]; done))
    · skip
      have b51 := bI_n0 c44
      refine x_iload_n C dX11_plan_44 rfl 4 rfl rfl ?_
      refine x_iload_n C dX11_plan_45 rfl 5 rfl rfl ?_
      refine x_bipush C (v := 10) dX11_plan_46 (by decide) rfl ?_
      refine x_isub C (v := (wh - (10 : Int32))) dX11_plan_48 rfl rfl ?_
      refine x_si C (As := [.int wk, .int (wh - (10 : Int32))]) (rest := []) (t_isIn E l ws wk ((wh - (10 : Int32)))) mf_X11_isIn w_909 rfl rfl (Nat.le_of_ble_eq_true rfl) ⟨(Nat.le_of_ble_eq_true rfl), (Nat.le_of_ble_eq_true rfl)⟩ ⟨(Nat.le_of_ble_eq_true rfl), (Nat.le_of_ble_eq_true rfl)⟩ dX11_plan_49 rfl (fun r53 w54 h52 => ?_)
      refine x_ws h52 ?_
      refine x_if_eq C (tgt := 59) dX11_plan_52 (by decide) rfl (fun c55 => ?_) (fun c55 => ?_)
      · skip
        refine x_iconst C (v := 0) dX11_plan_59 (by decide) rfl ?_
        refine x_istore C (lv' := [(6, .int 0), (5, .int r37), (4, .int 0), (0, .ref x), (1, .int p0), (2, .int wk), (3, .int wh)]) dX11_plan_60 (by decide) rfl rfl ?_
        refine x_aload_n C dX11_plan_62 rfl 3 rfl rfl ?_
        refine x_get C (ci := 10) (k := 2) 0 k_0 rfl in_X11 (by decide) w_387 rfl dX11_plan_63 rfl ?_
        refine x_get C (ci := 8) (k := 3) 5 k_1 rfl in_X9 (by decide) w_204 rfl dX11_plan_66 rfl ?_
        refine x_iload_n C dX11_plan_69 rfl 4 rfl rfl ?_
        refine x_vi C (As := [.int p0]) (rest := []) (t_People_isTold0 E l ws 9 k_2 p0) mf_X5_isTold w_465 9 k_2 rfl rfl rfl (Nat.le_of_ble_eq_true rfl) ⟨(Nat.le_of_ble_eq_true rfl), (Nat.le_of_ble_eq_true rfl)⟩ ⟨(Nat.le_of_ble_eq_true rfl), (Nat.le_of_ble_eq_true rfl)⟩ dX11_plan_70 rfl (fun r57 w58 h56 => ?_)
        obtain ⟨e59, g60⟩ := h56
        refine x_top e59 ?_
        refine x_ws g60 ?_
        refine x_if_eq C (tgt := 109) dX11_plan_73 (by decide) rfl (fun _ => ?_) (fun h => absurd h (by decide))
        refine x_iconst C (v := (-1)) dX11_plan_109 (by decide) rfl ?_
        exact x_zret C hr hlk rfl dX11_plan_110 (by first | rfl | trivial | (simp [bI, b35, b51, c55]; done) | (simp_all [bI]; done))
      · skip
        refine x_iconst C (v := 1) dX11_plan_55 (by decide) rfl ?_
        refine x_goto C (tgt := 60) dX11_plan_56 (by decide) ?_
        refine x_istore C (lv' := [(6, .int 1), (5, .int r37), (4, .int 0), (0, .ref x), (1, .int p0), (2, .int wk), (3, .int wh)]) dX11_plan_60 (by decide) rfl rfl ?_
        refine x_aload_n C dX11_plan_62 rfl 3 rfl rfl ?_
        refine x_get C (ci := 10) (k := 2) 0 k_0 rfl in_X11 (by decide) w_387 rfl dX11_plan_63 rfl ?_
        refine x_get C (ci := 8) (k := 3) 5 k_1 rfl in_X9 (by decide) w_204 rfl dX11_plan_66 rfl ?_
        refine x_iload_n C dX11_plan_69 rfl 4 rfl rfl ?_
        refine x_vi C (As := [.int p0]) (rest := []) (t_People_isTold0 E l ws 9 k_2 p0) mf_X5_isTold w_465 9 k_2 rfl rfl rfl (Nat.le_of_ble_eq_true rfl) ⟨(Nat.le_of_ble_eq_true rfl), (Nat.le_of_ble_eq_true rfl)⟩ ⟨(Nat.le_of_ble_eq_true rfl), (Nat.le_of_ble_eq_true rfl)⟩ dX11_plan_70 rfl (fun r62 w63 h61 => ?_)
        obtain ⟨e64, g65⟩ := h61
        refine x_top e64 ?_
        refine x_ws g65 ?_
        refine x_if_eq C (tgt := 109) dX11_plan_73 (by decide) rfl (fun _ => ?_) (fun h => absurd h (by decide))
        refine x_iconst C (v := (-1)) dX11_plan_109 (by decide) rfl ?_
        exact x_zret C hr hlk rfl dX11_plan_110 (by first | rfl | trivial | (simp [bI, b35, b51, c55]; done) | (simp_all [bI]; done))
theorem dX11_before_0 : decode cX11_before 0 = .ok (.aload_n 0, 1) := by decide +kernel
theorem dX11_before_1 : decode cX11_before 1 = .ok (.getfield 22, 3) := by decide +kernel
theorem dX11_before_4 : decode cX11_before 4 = .ok (.getfield 92, 3) := by decide +kernel
theorem dX11_before_7 : decode cX11_before 7 = .ok (.iload_n 1, 1) := by decide +kernel
theorem dX11_before_8 : decode cX11_before 8 = .ok (.invokevirtual 106, 3) := by decide +kernel
theorem dX11_before_11 : decode cX11_before 11 = .ok (.ifCond .eq 23, 3) := by decide +kernel
theorem dX11_before_34 : decode cX11_before 34 = .ok (.iconst (-1), 1) := by decide +kernel
theorem dX11_before_35 : decode cX11_before 35 = .ok (.ireturn, 1) := by decide +kernel
set_option maxRecDepth 20000 in
set_option maxHeartbeats 4000000 in
theorem t_before (E : xE) (l : Launch) (ws : va_W) {x xt xk xn xp xtr xr xs xl xpl xse ah ald arm ahr ash arw abr aw th tp te tw pl pa pt pb : Nat} {day sx : Int32} (p_0 : Nat) (k_0 : ws[0]? = some (ob x 10 [.ref xt, .ref xk, .ref xn, .ref xp, .ref xtr, .int 0, .ref xr, .ref xs, .ref xl, .ref xpl, .ref xse, .ref ah, .ref ald, .ref arm, .ref ahr, .ref ash, .ref arw, .ref abr, .ref aw])) (p_1 : Nat) (k_1 : ws[5]? = some (ob xn 8 [.int day, .int sx, .ref th, .ref tp, .ref te, .ref tw, .int 0, .int 0, .int 0, .int 0])) (p_2 : Nat) (k_2 : ws[9]? = some (ob tp 4 [.int 0, .ref pl, .ref pa, .ref pt, .ref pb])) (p0 ea n : Int32) : xI E l yX11_before cX11_before 8 (some .int) 2 [.ref x, .int p0, .int ea, .int n] ws (fun r w => r = -1) := by
  refine xI_start (lv := [(0, .ref x), (1, .int p0), (2, .int ea), (3, .int n)]) RX11 (by decide) rfl (Nat.le_of_ble_eq_true rfl) rfl (fun p e s m below meth c A C hr hlk => ?_)
  refine x_aload_n C dX11_before_0 rfl 0 rfl rfl ?_
  refine x_get C (ci := 10) (k := 2) 0 k_0 rfl in_X11 (by decide) w_387 rfl dX11_before_1 rfl ?_
  refine x_get C (ci := 8) (k := 3) 5 k_1 rfl in_X9 (by decide) w_204 rfl dX11_before_4 rfl ?_
  refine x_iload_n C dX11_before_7 rfl 1 rfl rfl ?_
  refine x_vi C (As := [.int p0]) (rest := []) (t_People_isTold0 E l ws 9 k_2 p0) mf_X5_isTold w_465 9 k_2 rfl rfl rfl (Nat.le_of_ble_eq_true rfl) ⟨(Nat.le_of_ble_eq_true rfl), (Nat.le_of_ble_eq_true rfl)⟩ ⟨(Nat.le_of_ble_eq_true rfl), (Nat.le_of_ble_eq_true rfl)⟩ dX11_before_8 rfl (fun r2 w3 h1 => ?_)
  obtain ⟨e4, g5⟩ := h1
  refine x_top e4 ?_
  refine x_ws g5 ?_
  refine x_if_eq C (tgt := 34) dX11_before_11 (by decide) rfl (fun _ => ?_) (fun h => absurd h (by decide))
  refine x_iconst C (v := (-1)) dX11_before_34 (by decide) rfl ?_
  exact x_zret C hr hlk rfl dX11_before_35 (by first | rfl | trivial | (simp [bI]; done) | (simp_all [bI]; done))
theorem dX11_baskets_0 : decode cX11_baskets 0 = .ok (.aload_n 0, 1) := by decide +kernel
theorem dX11_baskets_1 : decode cX11_baskets 1 = .ok (.getfield 22, 3) := by decide +kernel
theorem dX11_baskets_4 : decode cX11_baskets 4 = .ok (.getfield 92, 3) := by decide +kernel
theorem dX11_baskets_7 : decode cX11_baskets 7 = .ok (.iload_n 1, 1) := by decide +kernel
theorem dX11_baskets_8 : decode cX11_baskets 8 = .ok (.invokevirtual 106, 3) := by decide +kernel
theorem dX11_baskets_11 : decode cX11_baskets 11 = .ok (.ifCond .eq 23, 3) := by decide +kernel
theorem dX11_baskets_34 : decode cX11_baskets 34 = .ok (.iconst (-1), 1) := by decide +kernel
theorem dX11_baskets_35 : decode cX11_baskets 35 = .ok (.ireturn, 1) := by decide +kernel
set_option maxRecDepth 20000 in
set_option maxHeartbeats 4000000 in
theorem t_baskets (E : xE) (l : Launch) (ws : va_W) {x xt xk xn xp xtr xr xs xl xpl xse ah ald arm ahr ash arw abr aw th tp te tw pl pa pt pb : Nat} {day sx : Int32} (p_0 : Nat) (k_0 : ws[0]? = some (ob x 10 [.ref xt, .ref xk, .ref xn, .ref xp, .ref xtr, .int 0, .ref xr, .ref xs, .ref xl, .ref xpl, .ref xse, .ref ah, .ref ald, .ref arm, .ref ahr, .ref ash, .ref arw, .ref abr, .ref aw])) (p_1 : Nat) (k_1 : ws[5]? = some (ob xn 8 [.int day, .int sx, .ref th, .ref tp, .ref te, .ref tw, .int 0, .int 0, .int 0, .int 0])) (p_2 : Nat) (k_2 : ws[9]? = some (ob tp 4 [.int 0, .ref pl, .ref pa, .ref pt, .ref pb])) (p0 mi wh : Int32) : xI E l yX11_baskets cX11_baskets 5 (some .int) 2 [.ref x, .int p0, .int mi, .int wh] ws (fun r w => r = -1) := by
  refine xI_start (lv := [(0, .ref x), (1, .int p0), (2, .int mi), (3, .int wh)]) RX11 (by decide) rfl (Nat.le_of_ble_eq_true rfl) rfl (fun p e s m below meth c A C hr hlk => ?_)
  refine x_aload_n C dX11_baskets_0 rfl 0 rfl rfl ?_
  refine x_get C (ci := 10) (k := 2) 0 k_0 rfl in_X11 (by decide) w_387 rfl dX11_baskets_1 rfl ?_
  refine x_get C (ci := 8) (k := 3) 5 k_1 rfl in_X9 (by decide) w_204 rfl dX11_baskets_4 rfl ?_
  refine x_iload_n C dX11_baskets_7 rfl 1 rfl rfl ?_
  refine x_vi C (As := [.int p0]) (rest := []) (t_People_isTold0 E l ws 9 k_2 p0) mf_X5_isTold w_465 9 k_2 rfl rfl rfl (Nat.le_of_ble_eq_true rfl) ⟨(Nat.le_of_ble_eq_true rfl), (Nat.le_of_ble_eq_true rfl)⟩ ⟨(Nat.le_of_ble_eq_true rfl), (Nat.le_of_ble_eq_true rfl)⟩ dX11_baskets_8 rfl (fun r2 w3 h1 => ?_)
  obtain ⟨e4, g5⟩ := h1
  refine x_top e4 ?_
  refine x_ws g5 ?_
  refine x_if_eq C (tgt := 34) dX11_baskets_11 (by decide) rfl (fun _ => ?_) (fun h => absurd h (by decide))
  refine x_iconst C (v := (-1)) dX11_baskets_34 (by decide) rfl ?_
  exact x_zret C hr hlk rfl dX11_baskets_35 (by first | rfl | trivial | (simp [bI]; done) | (simp_all [bI]; done))
theorem dX11_latest_0 : decode cX11_latest 0 = .ok (.aload_n 0, 1) := by decide +kernel
theorem dX11_latest_1 : decode cX11_latest 1 = .ok (.getfield 22, 3) := by decide +kernel
theorem dX11_latest_4 : decode cX11_latest 4 = .ok (.getfield 123, 3) := by decide +kernel
theorem dX11_latest_7 : decode cX11_latest 7 = .ok (.iload_n 1, 1) := by decide +kernel
theorem dX11_latest_8 : decode cX11_latest 8 = .ok (.invokevirtual 257, 3) := by decide +kernel
theorem dX11_latest_11 : decode cX11_latest 11 = .ok (.ifCond .eq 14, 3) := by decide +kernel
theorem dX11_latest_25 : decode cX11_latest 25 = .ok (.iconst (-1), 1) := by decide +kernel
theorem dX11_latest_26 : decode cX11_latest 26 = .ok (.ireturn, 1) := by decide +kernel
set_option maxRecDepth 20000 in
set_option maxHeartbeats 4000000 in
theorem t_latest (E : xE) (l : Launch) (ws : va_W) {x xt xk xn xp xtr xr xs xl xpl xse ah ald arm ahr ash arw abr aw th tp te tw wn wd ww wb wo : Nat} {day sx : Int32} (p_0 : Nat) (k_0 : ws[0]? = some (ob x 10 [.ref xt, .ref xk, .ref xn, .ref xp, .ref xtr, .int 0, .ref xr, .ref xs, .ref xl, .ref xpl, .ref xse, .ref ah, .ref ald, .ref arm, .ref ahr, .ref ash, .ref arw, .ref abr, .ref aw])) (p_1 : Nat) (k_1 : ws[5]? = some (ob xn 8 [.int day, .int sx, .ref th, .ref tp, .ref te, .ref tw, .int 0, .int 0, .int 0, .int 0])) (p_2 : Nat) (k_2 : ws[21]? = some (ob tw 9 [.int 0, .ref wn, .ref wd, .ref ww, .ref wb, .ref wo])) (i k : Int32) : xI E l yX11_latest cX11_latest 5 (some .int) 2 [.ref x, .int i, .int k] ws (fun r w => r = -1) := by
  refine xI_start (lv := [(0, .ref x), (1, .int i), (2, .int k)]) RX11 (by decide) rfl (Nat.le_of_ble_eq_true rfl) rfl (fun p e s m below meth c A C hr hlk => ?_)
  refine x_aload_n C dX11_latest_0 rfl 0 rfl rfl ?_
  refine x_get C (ci := 10) (k := 2) 0 k_0 rfl in_X11 (by decide) w_387 rfl dX11_latest_1 rfl ?_
  refine x_get C (ci := 8) (k := 5) 5 k_1 rfl in_X9 (by decide) w_213 rfl dX11_latest_4 rfl ?_
  refine x_iload_n C dX11_latest_7 rfl 1 rfl rfl ?_
  refine x_vi C (As := [.int i]) (rest := []) (t_Works_isTold0 E l ws 21 k_2 i) mf_X10_isTold w_893 21 k_2 rfl rfl rfl (Nat.le_of_ble_eq_true rfl) ⟨(Nat.le_of_ble_eq_true rfl), (Nat.le_of_ble_eq_true rfl)⟩ ⟨(Nat.le_of_ble_eq_true rfl), (Nat.le_of_ble_eq_true rfl)⟩ dX11_latest_8 rfl (fun r2 w3 h1 => ?_)
  obtain ⟨e4, g5⟩ := h1
  refine x_top e4 ?_
  refine x_ws g5 ?_
  refine x_if_eq C (tgt := 25) dX11_latest_11 (by decide) rfl (fun _ => ?_) (fun h => absurd h (by decide))
  refine x_iconst C (v := (-1)) dX11_latest_25 (by decide) rfl ?_
  exact x_zret C hr hlk rfl dX11_latest_26 (by first | rfl | trivial | (simp [bI]; done) | (simp_all [bI]; done))
theorem dX11_soonest_0 : decode cX11_soonest 0 = .ok (.aload_n 0, 1) := by decide +kernel
theorem dX11_soonest_1 : decode cX11_soonest 1 = .ok (.getfield 22, 3) := by decide +kernel
theorem dX11_soonest_4 : decode cX11_soonest 4 = .ok (.getfield 123, 3) := by decide +kernel
theorem dX11_soonest_7 : decode cX11_soonest 7 = .ok (.iload_n 1, 1) := by decide +kernel
theorem dX11_soonest_8 : decode cX11_soonest 8 = .ok (.invokevirtual 257, 3) := by decide +kernel
theorem dX11_soonest_11 : decode cX11_soonest 11 = .ok (.ifCond .eq 23, 3) := by decide +kernel
theorem dX11_soonest_34 : decode cX11_soonest 34 = .ok (.iconst (-1), 1) := by decide +kernel
theorem dX11_soonest_35 : decode cX11_soonest 35 = .ok (.ireturn, 1) := by decide +kernel
set_option maxRecDepth 20000 in
set_option maxHeartbeats 4000000 in
theorem t_soonest (E : xE) (l : Launch) (ws : va_W) {x xt xk xn xp xtr xr xs xl xpl xse ah ald arm ahr ash arw abr aw th tp te tw wn wd ww wb wo : Nat} {day sx : Int32} (p_0 : Nat) (k_0 : ws[0]? = some (ob x 10 [.ref xt, .ref xk, .ref xn, .ref xp, .ref xtr, .int 0, .ref xr, .ref xs, .ref xl, .ref xpl, .ref xse, .ref ah, .ref ald, .ref arm, .ref ahr, .ref ash, .ref arw, .ref abr, .ref aw])) (p_1 : Nat) (k_1 : ws[5]? = some (ob xn 8 [.int day, .int sx, .ref th, .ref tp, .ref te, .ref tw, .int 0, .int 0, .int 0, .int 0])) (p_2 : Nat) (k_2 : ws[21]? = some (ob tw 9 [.int 0, .ref wn, .ref wd, .ref ww, .ref wb, .ref wo])) (i p0 : Int32) : xI E l yX11_soonest cX11_soonest 7 (some .int) 2 [.ref x, .int i, .int p0] ws (fun r w => r = -1) := by
  refine xI_start (lv := [(0, .ref x), (1, .int i), (2, .int p0)]) RX11 (by decide) rfl (Nat.le_of_ble_eq_true rfl) rfl (fun p e s m below meth c A C hr hlk => ?_)
  refine x_aload_n C dX11_soonest_0 rfl 0 rfl rfl ?_
  refine x_get C (ci := 10) (k := 2) 0 k_0 rfl in_X11 (by decide) w_387 rfl dX11_soonest_1 rfl ?_
  refine x_get C (ci := 8) (k := 5) 5 k_1 rfl in_X9 (by decide) w_213 rfl dX11_soonest_4 rfl ?_
  refine x_iload_n C dX11_soonest_7 rfl 1 rfl rfl ?_
  refine x_vi C (As := [.int i]) (rest := []) (t_Works_isTold0 E l ws 21 k_2 i) mf_X10_isTold w_893 21 k_2 rfl rfl rfl (Nat.le_of_ble_eq_true rfl) ⟨(Nat.le_of_ble_eq_true rfl), (Nat.le_of_ble_eq_true rfl)⟩ ⟨(Nat.le_of_ble_eq_true rfl), (Nat.le_of_ble_eq_true rfl)⟩ dX11_soonest_8 rfl (fun r2 w3 h1 => ?_)
  obtain ⟨e4, g5⟩ := h1
  refine x_top e4 ?_
  refine x_ws g5 ?_
  refine x_if_eq C (tgt := 34) dX11_soonest_11 (by decide) rfl (fun _ => ?_) (fun h => absurd h (by decide))
  refine x_iconst C (v := (-1)) dX11_soonest_34 (by decide) rfl ?_
  exact x_zret C hr hlk rfl dX11_soonest_35 (by first | rfl | trivial | (simp [bI]; done) | (simp_all [bI]; done))
theorem dX11_barter_0 : decode cX11_barter 0 = .ok (.aload_n 0, 1) := by decide +kernel
theorem dX11_barter_1 : decode cX11_barter 1 = .ok (.getfield 22, 3) := by decide +kernel
theorem dX11_barter_4 : decode cX11_barter 4 = .ok (.getfield 92, 3) := by decide +kernel
theorem dX11_barter_7 : decode cX11_barter 7 = .ok (.iload_n 1, 1) := by decide +kernel
theorem dX11_barter_8 : decode cX11_barter 8 = .ok (.invokevirtual 106, 3) := by decide +kernel
theorem dX11_barter_11 : decode cX11_barter 11 = .ok (.ifCond .eq 55, 3) := by decide +kernel
theorem dX11_barter_66 : decode cX11_barter 66 = .ok (.iconst (-1), 1) := by decide +kernel
theorem dX11_barter_67 : decode cX11_barter 67 = .ok (.ireturn, 1) := by decide +kernel
set_option maxRecDepth 20000 in
set_option maxHeartbeats 4000000 in
theorem t_barter (E : xE) (l : Launch) (ws : va_W) {x xt xk xn xp xtr xr xs xl xpl xse ah ald arm ahr ash arw abr aw th tp te tw pl pa pt pb : Nat} {day sx : Int32} (p_0 : Nat) (k_0 : ws[0]? = some (ob x 10 [.ref xt, .ref xk, .ref xn, .ref xp, .ref xtr, .int 0, .ref xr, .ref xs, .ref xl, .ref xpl, .ref xse, .ref ah, .ref ald, .ref arm, .ref ahr, .ref ash, .ref arw, .ref abr, .ref aw])) (p_1 : Nat) (k_1 : ws[5]? = some (ob xn 8 [.int day, .int sx, .ref th, .ref tp, .ref te, .ref tw, .int 0, .int 0, .int 0, .int 0])) (p_2 : Nat) (k_2 : ws[9]? = some (ob tp 4 [.int 0, .ref pl, .ref pa, .ref pt, .ref pb])) (a b wa wb0 wh : Int32) : xI E l yX11_barter cX11_barter 13 (some .int) 2 [.ref x, .int a, .int b, .int wa, .int wb0, .int wh] ws (fun r w => r = -1) := by
  refine xI_start (lv := [(0, .ref x), (1, .int a), (2, .int b), (3, .int wa), (4, .int wb0), (5, .int wh)]) RX11 (by decide) rfl (Nat.le_of_ble_eq_true rfl) rfl (fun p e s m below meth c A C hr hlk => ?_)
  refine x_aload_n C dX11_barter_0 rfl 0 rfl rfl ?_
  refine x_get C (ci := 10) (k := 2) 0 k_0 rfl in_X11 (by decide) w_387 rfl dX11_barter_1 rfl ?_
  refine x_get C (ci := 8) (k := 3) 5 k_1 rfl in_X9 (by decide) w_204 rfl dX11_barter_4 rfl ?_
  refine x_iload_n C dX11_barter_7 rfl 1 rfl rfl ?_
  refine x_vi C (As := [.int a]) (rest := []) (t_People_isTold0 E l ws 9 k_2 a) mf_X5_isTold w_465 9 k_2 rfl rfl rfl (Nat.le_of_ble_eq_true rfl) ⟨(Nat.le_of_ble_eq_true rfl), (Nat.le_of_ble_eq_true rfl)⟩ ⟨(Nat.le_of_ble_eq_true rfl), (Nat.le_of_ble_eq_true rfl)⟩ dX11_barter_8 rfl (fun r2 w3 h1 => ?_)
  obtain ⟨e4, g5⟩ := h1
  refine x_top e4 ?_
  refine x_ws g5 ?_
  refine x_if_eq C (tgt := 66) dX11_barter_11 (by decide) rfl (fun _ => ?_) (fun h => absurd h (by decide))
  refine x_iconst C (v := (-1)) dX11_barter_66 (by decide) rfl ?_
  exact x_zret C hr hlk rfl dX11_barter_67 (by first | rfl | trivial | (simp [bI]; done) | (simp_all [bI]; done))
theorem dX11_seed_0 : decode cX11_seed 0 = .ok (.iload_n 1, 1) := by decide +kernel
theorem dX11_seed_1 : decode cX11_seed 1 = .ok (.iconst 0, 1) := by decide +kernel
theorem dX11_seed_2 : decode cX11_seed 2 = .ok (.ldc_w 393, 3) := by decide +kernel
theorem dX11_seed_5 : decode cX11_seed 5 = .ok (.invokestatic 102, 3) := by decide +kernel
theorem dX11_seed_8 : decode cX11_seed 8 = .ok (.ifCond .ne 5, 3) := by decide +kernel
theorem dX11_seed_11 : decode cX11_seed 11 = .ok (.iconst 0, 1) := by decide +kernel
theorem dX11_seed_12 : decode cX11_seed 12 = .ok (.ireturn, 1) := by decide +kernel
theorem dX11_seed_13 : decode cX11_seed 13 = .ok (.aload_n 0, 1) := by decide +kernel
theorem dX11_seed_14 : decode cX11_seed 14 = .ok (.getfield 22, 3) := by decide +kernel
theorem dX11_seed_17 : decode cX11_seed 17 = .ok (.iload_n 1, 1) := by decide +kernel
theorem dX11_seed_18 : decode cX11_seed 18 = .ok (.putfield 394, 3) := by decide +kernel
theorem dX11_seed_21 : decode cX11_seed 21 = .ok (.iconst 1, 1) := by decide +kernel
theorem dX11_seed_22 : decode cX11_seed 22 = .ok (.ireturn, 1) := by decide +kernel
set_option maxRecDepth 20000 in
set_option maxHeartbeats 4000000 in
theorem t_seed (E : xE) (l : Launch) (ws : va_W) {x xt xk xn xp xtr xr xs xl xpl xse ah ald arm ahr ash arw abr aw th tp te tw : Nat} {day sx : Int32} (p_0 : Nat) (k_0 : ws[0]? = some (ob x 10 [.ref xt, .ref xk, .ref xn, .ref xp, .ref xtr, .int 0, .ref xr, .ref xs, .ref xl, .ref xpl, .ref xse, .ref ah, .ref ald, .ref arm, .ref ahr, .ref ash, .ref arw, .ref abr, .ref aw])) (p_1 : Nat) (k_1 : ws[5]? = some (ob xn 8 [.int day, .int sx, .ref th, .ref tp, .ref te, .ref tw, .int 0, .int 0, .int 0, .int 0])) (sd : Int32) : xI E l yX11_seed cX11_seed 2 (some .boolean) 1 [.ref x, .int sd] ws (fun r w => r = bI (wth sd 0 65535)) := by
  refine xI_start (lv := [(0, .ref x), (1, .int sd)]) RX11 (by decide) rfl (Nat.le_of_ble_eq_true rfl) rfl (fun p e s m below meth c A C hr hlk => ?_)
  refine x_iload_n C dX11_seed_0 rfl 1 rfl rfl ?_
  refine x_iconst C (v := 0) dX11_seed_1 (by decide) rfl ?_
  refine x_ldcw C w_1085 dX11_seed_2 rfl ?_
  refine x_si C (As := [.int sd, .int 0, .int 65535]) (rest := []) (t_isWithin E l ws sd 0 65535) mf_X11_isWithin w_462 rfl rfl (Nat.le_of_ble_eq_true rfl) ⟨(Nat.le_of_ble_eq_true rfl), (Nat.le_of_ble_eq_true rfl)⟩ ⟨(Nat.le_of_ble_eq_true rfl), (Nat.le_of_ble_eq_true rfl)⟩ dX11_seed_5 rfl (fun r2 w3 h1 => ?_)
  obtain ⟨e4, g5⟩ := h1
  refine x_top e4 ?_
  refine x_ws g5 ?_
  refine x_if_ne C (tgt := 13) dX11_seed_8 (by decide) rfl (fun c6 => ?_) (fun c6 => ?_)
  · skip
    have b7 := bI_n0 c6
    refine x_aload_n C dX11_seed_13 rfl 0 rfl rfl ?_
    refine x_get C (ci := 10) (k := 2) 0 k_0 rfl in_X11 (by decide) w_387 rfl dX11_seed_14 rfl ?_
    refine x_iload_n C dX11_seed_17 rfl 1 rfl rfl ?_
    obtain ⟨w8, hw9⟩ : ∃ w : va_W, w = List.set ws 5 (ob xn 8 [.int day, .int sd, .ref th, .ref tp, .ref te, .ref tw, .int 0, .int 0, .int 0, .int 0]) := ⟨_, rfl⟩
    refine x_put C (ci := 8) (k := 1) (ty := .int) 5 k_1 rfl in_X9 tyX9 tyX9_ok nmX9 (by decide) w_199 rfl rfl rfl rfl (Nat.le_of_ble_eq_true rfl) hw9.symm dX11_seed_18 rfl ?_
    have k10 : w8[0]? = some (ob x 10 [.ref xt, .ref xk, .ref xn, .ref xp, .ref xtr, .int 0, .ref xr, .ref xs, .ref xl, .ref xpl, .ref xse, .ref ah, .ref ald, .ref arm, .ref ahr, .ref ash, .ref arw, .ref abr, .ref aw]) := by rw [hw9]; exact set_ne k_0 (by decide)
    have k11 : w8[5]? = some (ob xn 8 [.int day, .int sd, .ref th, .ref tp, .ref te, .ref tw, .int 0, .int 0, .int 0, .int 0]) := by rw [hw9]; exact set_eq k_1
    refine x_iconst C (v := 1) dX11_seed_21 (by decide) rfl ?_
    exact x_zret C hr hlk rfl dX11_seed_22 (by first | rfl | trivial | (simp [bI, b7]; done) | (simp_all [bI]; done))
  · skip
    have b12 := bI_e0 c6
    refine x_iconst C (v := 0) dX11_seed_11 (by decide) rfl ?_
    exact x_zret C hr hlk rfl dX11_seed_12 (by first | rfl | trivial | (simp [bI, b12]; done) | (simp_all [bI]; done))
theorem dX11_undo_0 : decode cX11_undo 0 = .ok (.aload_n 0, 1) := by decide +kernel
theorem dX11_undo_1 : decode cX11_undo 1 = .ok (.getfield 32, 3) := by decide +kernel
theorem dX11_undo_4 : decode cX11_undo 4 = .ok (.ifCond .ne 5, 3) := by decide +kernel
theorem dX11_undo_7 : decode cX11_undo 7 = .ok (.iconst 0, 1) := by decide +kernel
theorem dX11_undo_8 : decode cX11_undo 8 = .ok (.ireturn, 1) := by decide +kernel
set_option maxRecDepth 20000 in
set_option maxHeartbeats 4000000 in
theorem t_undo (E : xE) (l : Launch) (ws : va_W) {x xt xk xn xp xtr xr xs xl xpl xse ah ald arm ahr ash arw abr aw : Nat} (p_0 : Nat) (k_0 : ws[0]? = some (ob x 10 [.ref xt, .ref xk, .ref xn, .ref xp, .ref xtr, .int 0, .ref xr, .ref xs, .ref xl, .ref xpl, .ref xse, .ref ah, .ref ald, .ref arm, .ref ahr, .ref ash, .ref arw, .ref abr, .ref aw])) : xI E l yX11_undo cX11_undo 1 (some .boolean) 1 [.ref x] ws (fun r w => r = 0) := by
  refine xI_start (lv := [(0, .ref x)]) RX11 (by decide) rfl (Nat.le_of_ble_eq_true rfl) rfl (fun p e s m below meth c A C hr hlk => ?_)
  refine x_aload_n C dX11_undo_0 rfl 0 rfl rfl ?_
  refine x_get C (ci := 10) (k := 5) 0 k_0 rfl in_X11 (by decide) w_390 rfl dX11_undo_1 rfl ?_
  refine x_if_ne C (tgt := 9) dX11_undo_4 (by decide) rfl (fun h => absurd h (by decide)) (fun _ => ?_)
  refine x_iconst C (v := 0) dX11_undo_7 (by decide) rfl ?_
  exact x_zret C hr hlk rfl dX11_undo_8 (by first | rfl | trivial | (simp [bI]; done) | (simp_all [bI]; done))
theorem dX11_thefts_0 : decode cX11_thefts 0 = .ok (.aload_n 0, 1) := by decide +kernel
theorem dX11_thefts_1 : decode cX11_thefts 1 = .ok (.getfield 22, 3) := by decide +kernel
theorem dX11_thefts_4 : decode cX11_thefts 4 = .ok (.getfield 92, 3) := by decide +kernel
theorem dX11_thefts_7 : decode cX11_thefts 7 = .ok (.iload_n 1, 1) := by decide +kernel
theorem dX11_thefts_8 : decode cX11_thefts 8 = .ok (.invokevirtual 106, 3) := by decide +kernel
theorem dX11_thefts_11 : decode cX11_thefts 11 = .ok (.ifCond .eq 15, 3) := by decide +kernel
theorem dX11_thefts_26 : decode cX11_thefts 26 = .ok (.iload_n 1, 1) := by decide +kernel
theorem dX11_thefts_27 : decode cX11_thefts 27 = .ok (.bipush 10, 2) := by decide +kernel
theorem dX11_thefts_29 : decode cX11_thefts 29 = .ok (.bipush 11, 2) := by decide +kernel
theorem dX11_thefts_31 : decode cX11_thefts 31 = .ok (.invokestatic 102, 3) := by decide +kernel
theorem dX11_thefts_34 : decode cX11_thefts 34 = .ok (.ifCond .ne 7, 3) := by decide +kernel
theorem dX11_thefts_37 : decode cX11_thefts 37 = .ok (.ldc_w 364, 3) := by decide +kernel
theorem dX11_thefts_40 : decode cX11_thefts 40 = .ok (.ireturn, 1) := by decide +kernel
theorem dX11_thefts_41 : decode cX11_thefts 41 = .ok (.iconst 0, 1) := by decide +kernel
theorem dX11_thefts_42 : decode cX11_thefts 42 = .ok (.istore_n 2, 1) := by decide +kernel
theorem dX11_thefts_43 : decode cX11_thefts 43 = .ok (.bipush (-2), 2) := by decide +kernel
theorem dX11_thefts_45 : decode cX11_thefts 45 = .ok (.istore_n 3, 1) := by decide +kernel
theorem dX11_thefts_46 : decode cX11_thefts 46 = .ok (.iconst 0, 1) := by decide +kernel
theorem dX11_thefts_47 : decode cX11_thefts 47 = .ok (.istore 4, 2) := by decide +kernel
theorem dX11_thefts_49 : decode cX11_thefts 49 = .ok (.iconst 0, 1) := by decide +kernel
theorem dX11_thefts_50 : decode cX11_thefts 50 = .ok (.istore 5, 2) := by decide +kernel
theorem dX11_thefts_52 : decode cX11_thefts 52 = .ok (.iload 5, 2) := by decide +kernel
theorem dX11_thefts_54 : decode cX11_thefts 54 = .ok (.bipush 8, 2) := by decide +kernel
theorem dX11_thefts_56 : decode cX11_thefts 56 = .ok (.if_icmp .ge 77, 3) := by decide +kernel
theorem dX11_thefts_59 : decode cX11_thefts 59 = .ok (.aload_n 0, 1) := by decide +kernel
theorem dX11_thefts_60 : decode cX11_thefts 60 = .ok (.getfield 22, 3) := by decide +kernel
theorem dX11_thefts_63 : decode cX11_thefts 63 = .ok (.getfield 92, 3) := by decide +kernel
theorem dX11_thefts_66 : decode cX11_thefts 66 = .ok (.iload 5, 2) := by decide +kernel
theorem dX11_thefts_68 : decode cX11_thefts 68 = .ok (.invokevirtual 106, 3) := by decide +kernel
theorem dX11_thefts_71 : decode cX11_thefts 71 = .ok (.ifCond .eq 18, 3) := by decide +kernel
theorem dX11_thefts_89 : decode cX11_thefts 89 = .ok (.iconst 0, 1) := by decide +kernel
theorem dX11_thefts_90 : decode cX11_thefts 90 = .ok (.istore 6, 2) := by decide +kernel
theorem dX11_thefts_92 : decode cX11_thefts 92 = .ok (.iload 4, 2) := by decide +kernel
theorem dX11_thefts_94 : decode cX11_thefts 94 = .ok (.iload 6, 2) := by decide +kernel
theorem dX11_thefts_96 : decode cX11_thefts 96 = .ok (.ifCond .le 7, 3) := by decide +kernel
theorem dX11_thefts_103 : decode cX11_thefts 103 = .ok (.iconst 0, 1) := by decide +kernel
theorem dX11_thefts_104 : decode cX11_thefts 104 = .ok (.iadd, 1) := by decide +kernel
theorem dX11_thefts_105 : decode cX11_thefts 105 = .ok (.istore 4, 2) := by decide +kernel
theorem dX11_thefts_107 : decode cX11_thefts 107 = .ok (.iload 6, 2) := by decide +kernel
theorem dX11_thefts_109 : decode cX11_thefts 109 = .ok (.iload_n 2, 1) := by decide +kernel
theorem dX11_thefts_110 : decode cX11_thefts 110 = .ok (.if_icmp .le 8, 3) := by decide +kernel
theorem dX11_thefts_118 : decode cX11_thefts 118 = .ok (.iload_n 3, 1) := by decide +kernel
theorem dX11_thefts_119 : decode cX11_thefts 119 = .ok (.istore_n 3, 1) := by decide +kernel
theorem dX11_thefts_120 : decode cX11_thefts 120 = .ok (.iload_n 2, 1) := by decide +kernel
theorem dX11_thefts_121 : decode cX11_thefts 121 = .ok (.iload 6, 2) := by decide +kernel
theorem dX11_thefts_123 : decode cX11_thefts 123 = .ok (.invokestatic 330, 3) := by decide +kernel
theorem dX11_thefts_126 : decode cX11_thefts 126 = .ok (.istore_n 2, 1) := by decide +kernel
theorem dX11_thefts_127 : decode cX11_thefts 127 = .ok (.iinc 5 1, 3) := by decide +kernel
theorem dX11_thefts_130 : decode cX11_thefts 130 = .ok (.goto (-78), 3) := by decide +kernel
theorem dX11_thefts_133 : decode cX11_thefts 133 = .ok (.iload_n 1, 1) := by decide +kernel
theorem dX11_thefts_134 : decode cX11_thefts 134 = .ok (.bipush 10, 2) := by decide +kernel
theorem dX11_thefts_136 : decode cX11_thefts 136 = .ok (.if_icmp .ne 7, 3) := by decide +kernel
theorem dX11_thefts_139 : decode cX11_thefts 139 = .ok (.iload_n 3, 1) := by decide +kernel
theorem dX11_thefts_140 : decode cX11_thefts 140 = .ok (.goto 5, 3) := by decide +kernel
theorem dX11_thefts_143 : decode cX11_thefts 143 = .ok (.iload 4, 2) := by decide +kernel
theorem dX11_thefts_145 : decode cX11_thefts 145 = .ok (.ireturn, 1) := by decide +kernel
set_option maxRecDepth 20000 in
set_option maxHeartbeats 4000000 in
theorem t_thefts (E : xE) (l : Launch) (ws : va_W) {x xt xk xn xp xtr xr xs xl xpl xse ah ald arm ahr ash arw abr aw th tp te tw pl pa pt pb : Nat} {day sx : Int32} (p_0 : Nat) (k_0 : ws[0]? = some (ob x 10 [.ref xt, .ref xk, .ref xn, .ref xp, .ref xtr, .int 0, .ref xr, .ref xs, .ref xl, .ref xpl, .ref xse, .ref ah, .ref ald, .ref arm, .ref ahr, .ref ash, .ref arw, .ref abr, .ref aw])) (p_1 : Nat) (k_1 : ws[5]? = some (ob xn 8 [.int day, .int sx, .ref th, .ref tp, .ref te, .ref tw, .int 0, .int 0, .int 0, .int 0])) (p_2 : Nat) (k_2 : ws[9]? = some (ob tp 4 [.int 0, .ref pl, .ref pa, .ref pt, .ref pb])) (wh : Int32) : xI E l yX11_thefts cX11_thefts 7 (some .int) 2 [.ref x, .int wh] ws (fun r w => r = thf wh) := by
  refine xI_start (lv := [(0, .ref x), (1, .int wh)]) RX11 (by decide) rfl (Nat.le_of_ble_eq_true rfl) rfl (fun p e s m below meth c A C hr hlk => ?_)
  refine x_aload_n C dX11_thefts_0 rfl 0 rfl rfl ?_
  refine x_get C (ci := 10) (k := 2) 0 k_0 rfl in_X11 (by decide) w_387 rfl dX11_thefts_1 rfl ?_
  refine x_get C (ci := 8) (k := 3) 5 k_1 rfl in_X9 (by decide) w_204 rfl dX11_thefts_4 rfl ?_
  refine x_iload_n C dX11_thefts_7 rfl 1 rfl rfl ?_
  refine x_vi C (As := [.int wh]) (rest := []) (t_People_isTold0 E l ws 9 k_2 wh) mf_X5_isTold w_465 9 k_2 rfl rfl rfl (Nat.le_of_ble_eq_true rfl) ⟨(Nat.le_of_ble_eq_true rfl), (Nat.le_of_ble_eq_true rfl)⟩ ⟨(Nat.le_of_ble_eq_true rfl), (Nat.le_of_ble_eq_true rfl)⟩ dX11_thefts_8 rfl (fun r2 w3 h1 => ?_)
  obtain ⟨e4, g5⟩ := h1
  refine x_top e4 ?_
  refine x_ws g5 ?_
  refine x_if_eq C (tgt := 26) dX11_thefts_11 (by decide) rfl (fun _ => ?_) (fun h => absurd h (by decide))
  refine x_iload_n C dX11_thefts_26 rfl 1 rfl rfl ?_
  refine x_bipush C (v := 10) dX11_thefts_27 (by decide) rfl ?_
  refine x_bipush C (v := 11) dX11_thefts_29 (by decide) rfl ?_
  refine x_si C (As := [.int wh, .int 10, .int 11]) (rest := []) (t_isWithin E l ws wh 10 11) mf_X11_isWithin w_462 rfl rfl (Nat.le_of_ble_eq_true rfl) ⟨(Nat.le_of_ble_eq_true rfl), (Nat.le_of_ble_eq_true rfl)⟩ ⟨(Nat.le_of_ble_eq_true rfl), (Nat.le_of_ble_eq_true rfl)⟩ dX11_thefts_31 rfl (fun r7 w8 h6 => ?_)
  obtain ⟨e9, g10⟩ := h6
  refine x_top e9 ?_
  refine x_ws g10 ?_
  refine x_if_ne C (tgt := 41) dX11_thefts_34 (by decide) rfl (fun c11 => ?_) (fun c11 => ?_)
  · skip
    have b12 := bI_n0 c11
    refine x_iconst C (v := 0) dX11_thefts_41 (by decide) rfl ?_
    refine x_istore_n C (lv' := [(2, .int 0), (0, .ref x), (1, .int wh)]) dX11_thefts_42 rfl (by decide) rfl rfl ?_
    refine x_bipush C (v := (-2)) dX11_thefts_43 (by decide) rfl ?_
    refine x_istore_n C (lv' := [(3, .int (-2)), (2, .int 0), (0, .ref x), (1, .int wh)]) dX11_thefts_45 rfl (by decide) rfl rfl ?_
    refine x_iconst C (v := 0) dX11_thefts_46 (by decide) rfl ?_
    refine x_istore C (lv' := [(4, .int 0), (3, .int (-2)), (2, .int 0), (0, .ref x), (1, .int wh)]) dX11_thefts_47 (by decide) rfl rfl ?_
    refine x_iconst C (v := 0) dX11_thefts_49 (by decide) rfl ?_
    refine x_istore C (lv' := [(5, .int 0), (4, .int 0), (3, .int (-2)), (2, .int 0), (0, .ref x), (1, .int wh)]) dX11_thefts_50 (by decide) rfl rfl ?_
    refine x_iload C dX11_thefts_52 0 rfl rfl ?_
    refine x_bipush C (v := 8) dX11_thefts_54 (by decide) rfl ?_
    refine x_icmp_ge C (tgt := 133) dX11_thefts_56 (by decide) rfl (fun h => absurd h (by decide)) (fun _ => ?_)
    refine x_aload_n C dX11_thefts_59 rfl 4 rfl rfl ?_
    refine x_get C (ci := 10) (k := 2) 0 k_0 rfl in_X11 (by decide) w_387 rfl dX11_thefts_60 rfl ?_
    refine x_get C (ci := 8) (k := 3) 5 k_1 rfl in_X9 (by decide) w_204 rfl dX11_thefts_63 rfl ?_
    refine x_iload C dX11_thefts_66 0 rfl rfl ?_
    refine x_vi C (As := [.int 0]) (rest := []) (t_People_isTold0 E l ws 9 k_2 0) mf_X5_isTold w_465 9 k_2 rfl rfl rfl (Nat.le_of_ble_eq_true rfl) ⟨(Nat.le_of_ble_eq_true rfl), (Nat.le_of_ble_eq_true rfl)⟩ ⟨(Nat.le_of_ble_eq_true rfl), (Nat.le_of_ble_eq_true rfl)⟩ dX11_thefts_68 rfl (fun r14 w15 h13 => ?_)
    obtain ⟨e16, g17⟩ := h13
    refine x_top e16 ?_
    refine x_ws g17 ?_
    refine x_if_eq C (tgt := 89) dX11_thefts_71 (by decide) rfl (fun _ => ?_) (fun h => absurd h (by decide))
    refine x_iconst C (v := 0) dX11_thefts_89 (by decide) rfl ?_
    refine x_istore C (lv' := [(6, .int 0), (5, .int 0), (4, .int 0), (3, .int (-2)), (2, .int 0), (0, .ref x), (1, .int wh)]) dX11_thefts_90 (by decide) rfl rfl ?_
    refine x_iload C dX11_thefts_92 2 rfl rfl ?_
    refine x_iload C dX11_thefts_94 0 rfl rfl ?_
    refine x_if_le C (tgt := 103) dX11_thefts_96 (by decide) rfl (fun _ => ?_) (fun h => absurd h (by decide))
    refine x_iconst C (v := 0) dX11_thefts_103 (by decide) rfl ?_
    refine x_iadd C (v := 0) dX11_thefts_104 (by decide) rfl ?_
    refine x_istore C (lv' := [(4, .int 0), (6, .int 0), (5, .int 0), (3, .int (-2)), (2, .int 0), (0, .ref x), (1, .int wh)]) dX11_thefts_105 (by decide) rfl rfl ?_
    refine x_iload C dX11_thefts_107 1 rfl rfl ?_
    refine x_iload_n C dX11_thefts_109 rfl 4 rfl rfl ?_
    refine x_icmp_le C (tgt := 118) dX11_thefts_110 (by decide) rfl (fun _ => ?_) (fun h => absurd h (by decide))
    refine x_iload_n C dX11_thefts_118 rfl 3 rfl rfl ?_
    refine x_istore_n C (lv' := [(3, .int (-2)), (4, .int 0), (6, .int 0), (5, .int 0), (2, .int 0), (0, .ref x), (1, .int wh)]) dX11_thefts_119 rfl (by decide) rfl rfl ?_
    refine x_iload_n C dX11_thefts_120 rfl 4 rfl rfl ?_
    refine x_iload C dX11_thefts_121 2 rfl rfl ?_
    refine x_mmax C (v := 0) w_992 w_558 w_16 w_559 (Nat.le_of_ble_eq_true rfl) (Nat.le_of_ble_eq_true rfl) (Nat.le_of_ble_eq_true rfl) (Nat.le_of_ble_eq_true rfl) (by decide) dX11_thefts_123 rfl ?_
    refine x_istore_n C (lv' := [(2, .int 0), (3, .int (-2)), (4, .int 0), (6, .int 0), (5, .int 0), (0, .ref x), (1, .int wh)]) dX11_thefts_126 rfl (by decide) rfl rfl ?_
    refine x_iinc C (v := 1) (lv' := [(5, .int 1), (2, .int 0), (3, .int (-2)), (4, .int 0), (6, .int 0), (0, .ref x), (1, .int wh)]) dX11_thefts_127 4 rfl (by decide) (by decide) rfl rfl ?_
    refine x_goto C (tgt := 52) dX11_thefts_130 (by decide) ?_
    refine x_iload C dX11_thefts_52 0 rfl rfl ?_
    refine x_bipush C (v := 8) dX11_thefts_54 (by decide) rfl ?_
    refine x_icmp_ge C (tgt := 133) dX11_thefts_56 (by decide) rfl (fun h => absurd h (by decide)) (fun _ => ?_)
    refine x_aload_n C dX11_thefts_59 rfl 5 rfl rfl ?_
    refine x_get C (ci := 10) (k := 2) 0 k_0 rfl in_X11 (by decide) w_387 rfl dX11_thefts_60 rfl ?_
    refine x_get C (ci := 8) (k := 3) 5 k_1 rfl in_X9 (by decide) w_204 rfl dX11_thefts_63 rfl ?_
    refine x_iload C dX11_thefts_66 0 rfl rfl ?_
    refine x_vi C (As := [.int 1]) (rest := []) (t_People_isTold0 E l ws 9 k_2 1) mf_X5_isTold w_465 9 k_2 rfl rfl rfl (Nat.le_of_ble_eq_true rfl) ⟨(Nat.le_of_ble_eq_true rfl), (Nat.le_of_ble_eq_true rfl)⟩ ⟨(Nat.le_of_ble_eq_true rfl), (Nat.le_of_ble_eq_true rfl)⟩ dX11_thefts_68 rfl (fun r19 w20 h18 => ?_)
    obtain ⟨e21, g22⟩ := h18
    refine x_top e21 ?_
    refine x_ws g22 ?_
    refine x_if_eq C (tgt := 89) dX11_thefts_71 (by decide) rfl (fun _ => ?_) (fun h => absurd h (by decide))
    refine x_iconst C (v := 0) dX11_thefts_89 (by decide) rfl ?_
    refine x_istore C (lv' := [(6, .int 0), (5, .int 1), (2, .int 0), (3, .int (-2)), (4, .int 0), (0, .ref x), (1, .int wh)]) dX11_thefts_90 (by decide) rfl rfl ?_
    refine x_iload C dX11_thefts_92 4 rfl rfl ?_
    refine x_iload C dX11_thefts_94 0 rfl rfl ?_
    refine x_if_le C (tgt := 103) dX11_thefts_96 (by decide) rfl (fun _ => ?_) (fun h => absurd h (by decide))
    refine x_iconst C (v := 0) dX11_thefts_103 (by decide) rfl ?_
    refine x_iadd C (v := 0) dX11_thefts_104 (by decide) rfl ?_
    refine x_istore C (lv' := [(4, .int 0), (6, .int 0), (5, .int 1), (2, .int 0), (3, .int (-2)), (0, .ref x), (1, .int wh)]) dX11_thefts_105 (by decide) rfl rfl ?_
    refine x_iload C dX11_thefts_107 1 rfl rfl ?_
    refine x_iload_n C dX11_thefts_109 rfl 3 rfl rfl ?_
    refine x_icmp_le C (tgt := 118) dX11_thefts_110 (by decide) rfl (fun _ => ?_) (fun h => absurd h (by decide))
    refine x_iload_n C dX11_thefts_118 rfl 4 rfl rfl ?_
    refine x_istore_n C (lv' := [(3, .int (-2)), (4, .int 0), (6, .int 0), (5, .int 1), (2, .int 0), (0, .ref x), (1, .int wh)]) dX11_thefts_119 rfl (by decide) rfl rfl ?_
    refine x_iload_n C dX11_thefts_120 rfl 4 rfl rfl ?_
    refine x_iload C dX11_thefts_121 2 rfl rfl ?_
    refine x_mmax C (v := 0) w_992 w_558 w_16 w_559 (Nat.le_of_ble_eq_true rfl) (Nat.le_of_ble_eq_true rfl) (Nat.le_of_ble_eq_true rfl) (Nat.le_of_ble_eq_true rfl) (by decide) dX11_thefts_123 rfl ?_
    refine x_istore_n C (lv' := [(2, .int 0), (3, .int (-2)), (4, .int 0), (6, .int 0), (5, .int 1), (0, .ref x), (1, .int wh)]) dX11_thefts_126 rfl (by decide) rfl rfl ?_
    refine x_iinc C (v := 2) (lv' := [(5, .int 2), (2, .int 0), (3, .int (-2)), (4, .int 0), (6, .int 0), (0, .ref x), (1, .int wh)]) dX11_thefts_127 4 rfl (by decide) (by decide) rfl rfl ?_
    refine x_goto C (tgt := 52) dX11_thefts_130 (by decide) ?_
    refine x_iload C dX11_thefts_52 0 rfl rfl ?_
    refine x_bipush C (v := 8) dX11_thefts_54 (by decide) rfl ?_
    refine x_icmp_ge C (tgt := 133) dX11_thefts_56 (by decide) rfl (fun h => absurd h (by decide)) (fun _ => ?_)
    refine x_aload_n C dX11_thefts_59 rfl 5 rfl rfl ?_
    refine x_get C (ci := 10) (k := 2) 0 k_0 rfl in_X11 (by decide) w_387 rfl dX11_thefts_60 rfl ?_
    refine x_get C (ci := 8) (k := 3) 5 k_1 rfl in_X9 (by decide) w_204 rfl dX11_thefts_63 rfl ?_
    refine x_iload C dX11_thefts_66 0 rfl rfl ?_
    refine x_vi C (As := [.int 2]) (rest := []) (t_People_isTold0 E l ws 9 k_2 2) mf_X5_isTold w_465 9 k_2 rfl rfl rfl (Nat.le_of_ble_eq_true rfl) ⟨(Nat.le_of_ble_eq_true rfl), (Nat.le_of_ble_eq_true rfl)⟩ ⟨(Nat.le_of_ble_eq_true rfl), (Nat.le_of_ble_eq_true rfl)⟩ dX11_thefts_68 rfl (fun r24 w25 h23 => ?_)
    obtain ⟨e26, g27⟩ := h23
    refine x_top e26 ?_
    refine x_ws g27 ?_
    refine x_if_eq C (tgt := 89) dX11_thefts_71 (by decide) rfl (fun _ => ?_) (fun h => absurd h (by decide))
    refine x_iconst C (v := 0) dX11_thefts_89 (by decide) rfl ?_
    refine x_istore C (lv' := [(6, .int 0), (5, .int 2), (2, .int 0), (3, .int (-2)), (4, .int 0), (0, .ref x), (1, .int wh)]) dX11_thefts_90 (by decide) rfl rfl ?_
    refine x_iload C dX11_thefts_92 4 rfl rfl ?_
    refine x_iload C dX11_thefts_94 0 rfl rfl ?_
    refine x_if_le C (tgt := 103) dX11_thefts_96 (by decide) rfl (fun _ => ?_) (fun h => absurd h (by decide))
    refine x_iconst C (v := 0) dX11_thefts_103 (by decide) rfl ?_
    refine x_iadd C (v := 0) dX11_thefts_104 (by decide) rfl ?_
    refine x_istore C (lv' := [(4, .int 0), (6, .int 0), (5, .int 2), (2, .int 0), (3, .int (-2)), (0, .ref x), (1, .int wh)]) dX11_thefts_105 (by decide) rfl rfl ?_
    refine x_iload C dX11_thefts_107 1 rfl rfl ?_
    refine x_iload_n C dX11_thefts_109 rfl 3 rfl rfl ?_
    refine x_icmp_le C (tgt := 118) dX11_thefts_110 (by decide) rfl (fun _ => ?_) (fun h => absurd h (by decide))
    refine x_iload_n C dX11_thefts_118 rfl 4 rfl rfl ?_
    refine x_istore_n C (lv' := [(3, .int (-2)), (4, .int 0), (6, .int 0), (5, .int 2), (2, .int 0), (0, .ref x), (1, .int wh)]) dX11_thefts_119 rfl (by decide) rfl rfl ?_
    refine x_iload_n C dX11_thefts_120 rfl 4 rfl rfl ?_
    refine x_iload C dX11_thefts_121 2 rfl rfl ?_
    refine x_mmax C (v := 0) w_992 w_558 w_16 w_559 (Nat.le_of_ble_eq_true rfl) (Nat.le_of_ble_eq_true rfl) (Nat.le_of_ble_eq_true rfl) (Nat.le_of_ble_eq_true rfl) (by decide) dX11_thefts_123 rfl ?_
    refine x_istore_n C (lv' := [(2, .int 0), (3, .int (-2)), (4, .int 0), (6, .int 0), (5, .int 2), (0, .ref x), (1, .int wh)]) dX11_thefts_126 rfl (by decide) rfl rfl ?_
    refine x_iinc C (v := 3) (lv' := [(5, .int 3), (2, .int 0), (3, .int (-2)), (4, .int 0), (6, .int 0), (0, .ref x), (1, .int wh)]) dX11_thefts_127 4 rfl (by decide) (by decide) rfl rfl ?_
    refine x_goto C (tgt := 52) dX11_thefts_130 (by decide) ?_
    refine x_iload C dX11_thefts_52 0 rfl rfl ?_
    refine x_bipush C (v := 8) dX11_thefts_54 (by decide) rfl ?_
    refine x_icmp_ge C (tgt := 133) dX11_thefts_56 (by decide) rfl (fun h => absurd h (by decide)) (fun _ => ?_)
    refine x_aload_n C dX11_thefts_59 rfl 5 rfl rfl ?_
    refine x_get C (ci := 10) (k := 2) 0 k_0 rfl in_X11 (by decide) w_387 rfl dX11_thefts_60 rfl ?_
    refine x_get C (ci := 8) (k := 3) 5 k_1 rfl in_X9 (by decide) w_204 rfl dX11_thefts_63 rfl ?_
    refine x_iload C dX11_thefts_66 0 rfl rfl ?_
    refine x_vi C (As := [.int 3]) (rest := []) (t_People_isTold0 E l ws 9 k_2 3) mf_X5_isTold w_465 9 k_2 rfl rfl rfl (Nat.le_of_ble_eq_true rfl) ⟨(Nat.le_of_ble_eq_true rfl), (Nat.le_of_ble_eq_true rfl)⟩ ⟨(Nat.le_of_ble_eq_true rfl), (Nat.le_of_ble_eq_true rfl)⟩ dX11_thefts_68 rfl (fun r29 w30 h28 => ?_)
    obtain ⟨e31, g32⟩ := h28
    refine x_top e31 ?_
    refine x_ws g32 ?_
    refine x_if_eq C (tgt := 89) dX11_thefts_71 (by decide) rfl (fun _ => ?_) (fun h => absurd h (by decide))
    refine x_iconst C (v := 0) dX11_thefts_89 (by decide) rfl ?_
    refine x_istore C (lv' := [(6, .int 0), (5, .int 3), (2, .int 0), (3, .int (-2)), (4, .int 0), (0, .ref x), (1, .int wh)]) dX11_thefts_90 (by decide) rfl rfl ?_
    refine x_iload C dX11_thefts_92 4 rfl rfl ?_
    refine x_iload C dX11_thefts_94 0 rfl rfl ?_
    refine x_if_le C (tgt := 103) dX11_thefts_96 (by decide) rfl (fun _ => ?_) (fun h => absurd h (by decide))
    refine x_iconst C (v := 0) dX11_thefts_103 (by decide) rfl ?_
    refine x_iadd C (v := 0) dX11_thefts_104 (by decide) rfl ?_
    refine x_istore C (lv' := [(4, .int 0), (6, .int 0), (5, .int 3), (2, .int 0), (3, .int (-2)), (0, .ref x), (1, .int wh)]) dX11_thefts_105 (by decide) rfl rfl ?_
    refine x_iload C dX11_thefts_107 1 rfl rfl ?_
    refine x_iload_n C dX11_thefts_109 rfl 3 rfl rfl ?_
    refine x_icmp_le C (tgt := 118) dX11_thefts_110 (by decide) rfl (fun _ => ?_) (fun h => absurd h (by decide))
    refine x_iload_n C dX11_thefts_118 rfl 4 rfl rfl ?_
    refine x_istore_n C (lv' := [(3, .int (-2)), (4, .int 0), (6, .int 0), (5, .int 3), (2, .int 0), (0, .ref x), (1, .int wh)]) dX11_thefts_119 rfl (by decide) rfl rfl ?_
    refine x_iload_n C dX11_thefts_120 rfl 4 rfl rfl ?_
    refine x_iload C dX11_thefts_121 2 rfl rfl ?_
    refine x_mmax C (v := 0) w_992 w_558 w_16 w_559 (Nat.le_of_ble_eq_true rfl) (Nat.le_of_ble_eq_true rfl) (Nat.le_of_ble_eq_true rfl) (Nat.le_of_ble_eq_true rfl) (by decide) dX11_thefts_123 rfl ?_
    refine x_istore_n C (lv' := [(2, .int 0), (3, .int (-2)), (4, .int 0), (6, .int 0), (5, .int 3), (0, .ref x), (1, .int wh)]) dX11_thefts_126 rfl (by decide) rfl rfl ?_
    refine x_iinc C (v := 4) (lv' := [(5, .int 4), (2, .int 0), (3, .int (-2)), (4, .int 0), (6, .int 0), (0, .ref x), (1, .int wh)]) dX11_thefts_127 4 rfl (by decide) (by decide) rfl rfl ?_
    refine x_goto C (tgt := 52) dX11_thefts_130 (by decide) ?_
    refine x_iload C dX11_thefts_52 0 rfl rfl ?_
    refine x_bipush C (v := 8) dX11_thefts_54 (by decide) rfl ?_
    refine x_icmp_ge C (tgt := 133) dX11_thefts_56 (by decide) rfl (fun h => absurd h (by decide)) (fun _ => ?_)
    refine x_aload_n C dX11_thefts_59 rfl 5 rfl rfl ?_
    refine x_get C (ci := 10) (k := 2) 0 k_0 rfl in_X11 (by decide) w_387 rfl dX11_thefts_60 rfl ?_
    refine x_get C (ci := 8) (k := 3) 5 k_1 rfl in_X9 (by decide) w_204 rfl dX11_thefts_63 rfl ?_
    refine x_iload C dX11_thefts_66 0 rfl rfl ?_
    refine x_vi C (As := [.int 4]) (rest := []) (t_People_isTold0 E l ws 9 k_2 4) mf_X5_isTold w_465 9 k_2 rfl rfl rfl (Nat.le_of_ble_eq_true rfl) ⟨(Nat.le_of_ble_eq_true rfl), (Nat.le_of_ble_eq_true rfl)⟩ ⟨(Nat.le_of_ble_eq_true rfl), (Nat.le_of_ble_eq_true rfl)⟩ dX11_thefts_68 rfl (fun r34 w35 h33 => ?_)
    obtain ⟨e36, g37⟩ := h33
    refine x_top e36 ?_
    refine x_ws g37 ?_
    refine x_if_eq C (tgt := 89) dX11_thefts_71 (by decide) rfl (fun _ => ?_) (fun h => absurd h (by decide))
    refine x_iconst C (v := 0) dX11_thefts_89 (by decide) rfl ?_
    refine x_istore C (lv' := [(6, .int 0), (5, .int 4), (2, .int 0), (3, .int (-2)), (4, .int 0), (0, .ref x), (1, .int wh)]) dX11_thefts_90 (by decide) rfl rfl ?_
    refine x_iload C dX11_thefts_92 4 rfl rfl ?_
    refine x_iload C dX11_thefts_94 0 rfl rfl ?_
    refine x_if_le C (tgt := 103) dX11_thefts_96 (by decide) rfl (fun _ => ?_) (fun h => absurd h (by decide))
    refine x_iconst C (v := 0) dX11_thefts_103 (by decide) rfl ?_
    refine x_iadd C (v := 0) dX11_thefts_104 (by decide) rfl ?_
    refine x_istore C (lv' := [(4, .int 0), (6, .int 0), (5, .int 4), (2, .int 0), (3, .int (-2)), (0, .ref x), (1, .int wh)]) dX11_thefts_105 (by decide) rfl rfl ?_
    refine x_iload C dX11_thefts_107 1 rfl rfl ?_
    refine x_iload_n C dX11_thefts_109 rfl 3 rfl rfl ?_
    refine x_icmp_le C (tgt := 118) dX11_thefts_110 (by decide) rfl (fun _ => ?_) (fun h => absurd h (by decide))
    refine x_iload_n C dX11_thefts_118 rfl 4 rfl rfl ?_
    refine x_istore_n C (lv' := [(3, .int (-2)), (4, .int 0), (6, .int 0), (5, .int 4), (2, .int 0), (0, .ref x), (1, .int wh)]) dX11_thefts_119 rfl (by decide) rfl rfl ?_
    refine x_iload_n C dX11_thefts_120 rfl 4 rfl rfl ?_
    refine x_iload C dX11_thefts_121 2 rfl rfl ?_
    refine x_mmax C (v := 0) w_992 w_558 w_16 w_559 (Nat.le_of_ble_eq_true rfl) (Nat.le_of_ble_eq_true rfl) (Nat.le_of_ble_eq_true rfl) (Nat.le_of_ble_eq_true rfl) (by decide) dX11_thefts_123 rfl ?_
    refine x_istore_n C (lv' := [(2, .int 0), (3, .int (-2)), (4, .int 0), (6, .int 0), (5, .int 4), (0, .ref x), (1, .int wh)]) dX11_thefts_126 rfl (by decide) rfl rfl ?_
    refine x_iinc C (v := 5) (lv' := [(5, .int 5), (2, .int 0), (3, .int (-2)), (4, .int 0), (6, .int 0), (0, .ref x), (1, .int wh)]) dX11_thefts_127 4 rfl (by decide) (by decide) rfl rfl ?_
    refine x_goto C (tgt := 52) dX11_thefts_130 (by decide) ?_
    refine x_iload C dX11_thefts_52 0 rfl rfl ?_
    refine x_bipush C (v := 8) dX11_thefts_54 (by decide) rfl ?_
    refine x_icmp_ge C (tgt := 133) dX11_thefts_56 (by decide) rfl (fun h => absurd h (by decide)) (fun _ => ?_)
    refine x_aload_n C dX11_thefts_59 rfl 5 rfl rfl ?_
    refine x_get C (ci := 10) (k := 2) 0 k_0 rfl in_X11 (by decide) w_387 rfl dX11_thefts_60 rfl ?_
    refine x_get C (ci := 8) (k := 3) 5 k_1 rfl in_X9 (by decide) w_204 rfl dX11_thefts_63 rfl ?_
    refine x_iload C dX11_thefts_66 0 rfl rfl ?_
    refine x_vi C (As := [.int 5]) (rest := []) (t_People_isTold0 E l ws 9 k_2 5) mf_X5_isTold w_465 9 k_2 rfl rfl rfl (Nat.le_of_ble_eq_true rfl) ⟨(Nat.le_of_ble_eq_true rfl), (Nat.le_of_ble_eq_true rfl)⟩ ⟨(Nat.le_of_ble_eq_true rfl), (Nat.le_of_ble_eq_true rfl)⟩ dX11_thefts_68 rfl (fun r39 w40 h38 => ?_)
    obtain ⟨e41, g42⟩ := h38
    refine x_top e41 ?_
    refine x_ws g42 ?_
    refine x_if_eq C (tgt := 89) dX11_thefts_71 (by decide) rfl (fun _ => ?_) (fun h => absurd h (by decide))
    refine x_iconst C (v := 0) dX11_thefts_89 (by decide) rfl ?_
    refine x_istore C (lv' := [(6, .int 0), (5, .int 5), (2, .int 0), (3, .int (-2)), (4, .int 0), (0, .ref x), (1, .int wh)]) dX11_thefts_90 (by decide) rfl rfl ?_
    refine x_iload C dX11_thefts_92 4 rfl rfl ?_
    refine x_iload C dX11_thefts_94 0 rfl rfl ?_
    refine x_if_le C (tgt := 103) dX11_thefts_96 (by decide) rfl (fun _ => ?_) (fun h => absurd h (by decide))
    refine x_iconst C (v := 0) dX11_thefts_103 (by decide) rfl ?_
    refine x_iadd C (v := 0) dX11_thefts_104 (by decide) rfl ?_
    refine x_istore C (lv' := [(4, .int 0), (6, .int 0), (5, .int 5), (2, .int 0), (3, .int (-2)), (0, .ref x), (1, .int wh)]) dX11_thefts_105 (by decide) rfl rfl ?_
    refine x_iload C dX11_thefts_107 1 rfl rfl ?_
    refine x_iload_n C dX11_thefts_109 rfl 3 rfl rfl ?_
    refine x_icmp_le C (tgt := 118) dX11_thefts_110 (by decide) rfl (fun _ => ?_) (fun h => absurd h (by decide))
    refine x_iload_n C dX11_thefts_118 rfl 4 rfl rfl ?_
    refine x_istore_n C (lv' := [(3, .int (-2)), (4, .int 0), (6, .int 0), (5, .int 5), (2, .int 0), (0, .ref x), (1, .int wh)]) dX11_thefts_119 rfl (by decide) rfl rfl ?_
    refine x_iload_n C dX11_thefts_120 rfl 4 rfl rfl ?_
    refine x_iload C dX11_thefts_121 2 rfl rfl ?_
    refine x_mmax C (v := 0) w_992 w_558 w_16 w_559 (Nat.le_of_ble_eq_true rfl) (Nat.le_of_ble_eq_true rfl) (Nat.le_of_ble_eq_true rfl) (Nat.le_of_ble_eq_true rfl) (by decide) dX11_thefts_123 rfl ?_
    refine x_istore_n C (lv' := [(2, .int 0), (3, .int (-2)), (4, .int 0), (6, .int 0), (5, .int 5), (0, .ref x), (1, .int wh)]) dX11_thefts_126 rfl (by decide) rfl rfl ?_
    refine x_iinc C (v := 6) (lv' := [(5, .int 6), (2, .int 0), (3, .int (-2)), (4, .int 0), (6, .int 0), (0, .ref x), (1, .int wh)]) dX11_thefts_127 4 rfl (by decide) (by decide) rfl rfl ?_
    refine x_goto C (tgt := 52) dX11_thefts_130 (by decide) ?_
    refine x_iload C dX11_thefts_52 0 rfl rfl ?_
    refine x_bipush C (v := 8) dX11_thefts_54 (by decide) rfl ?_
    refine x_icmp_ge C (tgt := 133) dX11_thefts_56 (by decide) rfl (fun h => absurd h (by decide)) (fun _ => ?_)
    refine x_aload_n C dX11_thefts_59 rfl 5 rfl rfl ?_
    refine x_get C (ci := 10) (k := 2) 0 k_0 rfl in_X11 (by decide) w_387 rfl dX11_thefts_60 rfl ?_
    refine x_get C (ci := 8) (k := 3) 5 k_1 rfl in_X9 (by decide) w_204 rfl dX11_thefts_63 rfl ?_
    refine x_iload C dX11_thefts_66 0 rfl rfl ?_
    refine x_vi C (As := [.int 6]) (rest := []) (t_People_isTold0 E l ws 9 k_2 6) mf_X5_isTold w_465 9 k_2 rfl rfl rfl (Nat.le_of_ble_eq_true rfl) ⟨(Nat.le_of_ble_eq_true rfl), (Nat.le_of_ble_eq_true rfl)⟩ ⟨(Nat.le_of_ble_eq_true rfl), (Nat.le_of_ble_eq_true rfl)⟩ dX11_thefts_68 rfl (fun r44 w45 h43 => ?_)
    obtain ⟨e46, g47⟩ := h43
    refine x_top e46 ?_
    refine x_ws g47 ?_
    refine x_if_eq C (tgt := 89) dX11_thefts_71 (by decide) rfl (fun _ => ?_) (fun h => absurd h (by decide))
    refine x_iconst C (v := 0) dX11_thefts_89 (by decide) rfl ?_
    refine x_istore C (lv' := [(6, .int 0), (5, .int 6), (2, .int 0), (3, .int (-2)), (4, .int 0), (0, .ref x), (1, .int wh)]) dX11_thefts_90 (by decide) rfl rfl ?_
    refine x_iload C dX11_thefts_92 4 rfl rfl ?_
    refine x_iload C dX11_thefts_94 0 rfl rfl ?_
    refine x_if_le C (tgt := 103) dX11_thefts_96 (by decide) rfl (fun _ => ?_) (fun h => absurd h (by decide))
    refine x_iconst C (v := 0) dX11_thefts_103 (by decide) rfl ?_
    refine x_iadd C (v := 0) dX11_thefts_104 (by decide) rfl ?_
    refine x_istore C (lv' := [(4, .int 0), (6, .int 0), (5, .int 6), (2, .int 0), (3, .int (-2)), (0, .ref x), (1, .int wh)]) dX11_thefts_105 (by decide) rfl rfl ?_
    refine x_iload C dX11_thefts_107 1 rfl rfl ?_
    refine x_iload_n C dX11_thefts_109 rfl 3 rfl rfl ?_
    refine x_icmp_le C (tgt := 118) dX11_thefts_110 (by decide) rfl (fun _ => ?_) (fun h => absurd h (by decide))
    refine x_iload_n C dX11_thefts_118 rfl 4 rfl rfl ?_
    refine x_istore_n C (lv' := [(3, .int (-2)), (4, .int 0), (6, .int 0), (5, .int 6), (2, .int 0), (0, .ref x), (1, .int wh)]) dX11_thefts_119 rfl (by decide) rfl rfl ?_
    refine x_iload_n C dX11_thefts_120 rfl 4 rfl rfl ?_
    refine x_iload C dX11_thefts_121 2 rfl rfl ?_
    refine x_mmax C (v := 0) w_992 w_558 w_16 w_559 (Nat.le_of_ble_eq_true rfl) (Nat.le_of_ble_eq_true rfl) (Nat.le_of_ble_eq_true rfl) (Nat.le_of_ble_eq_true rfl) (by decide) dX11_thefts_123 rfl ?_
    refine x_istore_n C (lv' := [(2, .int 0), (3, .int (-2)), (4, .int 0), (6, .int 0), (5, .int 6), (0, .ref x), (1, .int wh)]) dX11_thefts_126 rfl (by decide) rfl rfl ?_
    refine x_iinc C (v := 7) (lv' := [(5, .int 7), (2, .int 0), (3, .int (-2)), (4, .int 0), (6, .int 0), (0, .ref x), (1, .int wh)]) dX11_thefts_127 4 rfl (by decide) (by decide) rfl rfl ?_
    refine x_goto C (tgt := 52) dX11_thefts_130 (by decide) ?_
    refine x_iload C dX11_thefts_52 0 rfl rfl ?_
    refine x_bipush C (v := 8) dX11_thefts_54 (by decide) rfl ?_
    refine x_icmp_ge C (tgt := 133) dX11_thefts_56 (by decide) rfl (fun h => absurd h (by decide)) (fun _ => ?_)
    refine x_aload_n C dX11_thefts_59 rfl 5 rfl rfl ?_
    refine x_get C (ci := 10) (k := 2) 0 k_0 rfl in_X11 (by decide) w_387 rfl dX11_thefts_60 rfl ?_
    refine x_get C (ci := 8) (k := 3) 5 k_1 rfl in_X9 (by decide) w_204 rfl dX11_thefts_63 rfl ?_
    refine x_iload C dX11_thefts_66 0 rfl rfl ?_
    refine x_vi C (As := [.int 7]) (rest := []) (t_People_isTold0 E l ws 9 k_2 7) mf_X5_isTold w_465 9 k_2 rfl rfl rfl (Nat.le_of_ble_eq_true rfl) ⟨(Nat.le_of_ble_eq_true rfl), (Nat.le_of_ble_eq_true rfl)⟩ ⟨(Nat.le_of_ble_eq_true rfl), (Nat.le_of_ble_eq_true rfl)⟩ dX11_thefts_68 rfl (fun r49 w50 h48 => ?_)
    obtain ⟨e51, g52⟩ := h48
    refine x_top e51 ?_
    refine x_ws g52 ?_
    refine x_if_eq C (tgt := 89) dX11_thefts_71 (by decide) rfl (fun _ => ?_) (fun h => absurd h (by decide))
    refine x_iconst C (v := 0) dX11_thefts_89 (by decide) rfl ?_
    refine x_istore C (lv' := [(6, .int 0), (5, .int 7), (2, .int 0), (3, .int (-2)), (4, .int 0), (0, .ref x), (1, .int wh)]) dX11_thefts_90 (by decide) rfl rfl ?_
    refine x_iload C dX11_thefts_92 4 rfl rfl ?_
    refine x_iload C dX11_thefts_94 0 rfl rfl ?_
    refine x_if_le C (tgt := 103) dX11_thefts_96 (by decide) rfl (fun _ => ?_) (fun h => absurd h (by decide))
    refine x_iconst C (v := 0) dX11_thefts_103 (by decide) rfl ?_
    refine x_iadd C (v := 0) dX11_thefts_104 (by decide) rfl ?_
    refine x_istore C (lv' := [(4, .int 0), (6, .int 0), (5, .int 7), (2, .int 0), (3, .int (-2)), (0, .ref x), (1, .int wh)]) dX11_thefts_105 (by decide) rfl rfl ?_
    refine x_iload C dX11_thefts_107 1 rfl rfl ?_
    refine x_iload_n C dX11_thefts_109 rfl 3 rfl rfl ?_
    refine x_icmp_le C (tgt := 118) dX11_thefts_110 (by decide) rfl (fun _ => ?_) (fun h => absurd h (by decide))
    refine x_iload_n C dX11_thefts_118 rfl 4 rfl rfl ?_
    refine x_istore_n C (lv' := [(3, .int (-2)), (4, .int 0), (6, .int 0), (5, .int 7), (2, .int 0), (0, .ref x), (1, .int wh)]) dX11_thefts_119 rfl (by decide) rfl rfl ?_
    refine x_iload_n C dX11_thefts_120 rfl 4 rfl rfl ?_
    refine x_iload C dX11_thefts_121 2 rfl rfl ?_
    refine x_mmax C (v := 0) w_992 w_558 w_16 w_559 (Nat.le_of_ble_eq_true rfl) (Nat.le_of_ble_eq_true rfl) (Nat.le_of_ble_eq_true rfl) (Nat.le_of_ble_eq_true rfl) (by decide) dX11_thefts_123 rfl ?_
    refine x_istore_n C (lv' := [(2, .int 0), (3, .int (-2)), (4, .int 0), (6, .int 0), (5, .int 7), (0, .ref x), (1, .int wh)]) dX11_thefts_126 rfl (by decide) rfl rfl ?_
    refine x_iinc C (v := 8) (lv' := [(5, .int 8), (2, .int 0), (3, .int (-2)), (4, .int 0), (6, .int 0), (0, .ref x), (1, .int wh)]) dX11_thefts_127 4 rfl (by decide) (by decide) rfl rfl ?_
    refine x_goto C (tgt := 52) dX11_thefts_130 (by decide) ?_
    refine x_iload C dX11_thefts_52 0 rfl rfl ?_
    refine x_bipush C (v := 8) dX11_thefts_54 (by decide) rfl ?_
    refine x_icmp_ge C (tgt := 133) dX11_thefts_56 (by decide) rfl (fun _ => ?_) (fun h => absurd h (by decide))
    refine x_iload_n C dX11_thefts_133 rfl 6 rfl rfl ?_
    refine x_bipush C (v := 10) dX11_thefts_134 (by decide) rfl ?_
    refine x_icmp_ne C (tgt := 143) dX11_thefts_136 (by decide) rfl (fun c53 => ?_) (fun c53 => ?_)
    · skip
      refine x_iload C dX11_thefts_143 3 rfl rfl ?_
      exact x_zret C hr hlk rfl dX11_thefts_145 (by rw [thf]; simp [b12, c53])
    · skip
      refine x_iload_n C dX11_thefts_139 rfl 2 rfl rfl ?_
      refine x_goto C (tgt := 145) dX11_thefts_140 (by decide) ?_
      exact x_zret C hr hlk rfl dX11_thefts_145 (by rw [thf]; simp [b12, c53])
  · skip
    have b54 := bI_e0 c11
    refine x_ldcw C w_1041 dX11_thefts_37 rfl ?_
    exact x_zret C hr hlk rfl dX11_thefts_40 (by rw [thf]; simp [b54])
theorem dX8_holds_21 : decode cX8_holds 21 = .ok (.iconst 1, 1) := by decide +kernel
theorem dX8_holds_22 : decode cX8_holds 22 = .ok (.goto 4, 3) := by decide +kernel
set_option maxRecDepth 20000 in
set_option maxHeartbeats 4000000 in
theorem t_holds4 (E : xE) (l : Launch) (ws : va_W) {xt tb : Nat} (p_0 : Nat) (k_0 : ws[1]? = some (ob xt 7 [.ref tb, .int 0, .int 0, .int 0, .int 0])) (n : Int32) : xI E l yX8_holds cX8_holds 5 (some .boolean) 0 [.ref xt, .int n, .int 0, .int 48, .int 4] ws (fun r w => r = bI (n = 0) ∧ w = ws) := by
  refine xI_start (lv := [(0, .ref xt), (1, .int n), (2, .int 0), (3, .int 48), (4, .int 4)]) RX8 (by decide) rfl (Nat.le_of_ble_eq_true rfl) rfl (fun p e s m below meth c A C hr hlk => ?_)
  refine x_iload_n C dX8_holds_0 rfl 1 rfl rfl ?_
  refine x_iload_n C dX8_holds_1 rfl 2 rfl rfl ?_
  refine x_icmp_lt C (tgt := 25) dX8_holds_2 (by decide) rfl (fun c1 => ?_) (fun c1 => ?_)
  · skip
    refine x_iconst C (v := 0) dX8_holds_25 (by decide) rfl ?_
    exact x_zret C hr hlk rfl dX8_holds_26 ⟨by first | (simp [bI, c1]; done) | (rw [bI, if_pos (Decidable.byContradiction (fun q => c3 ((hold4' c1 c2).mpr q)))]) | (rw [bI, if_neg ((hold4' c1 c2).mp c3)]) | (rw [bI, if_neg (fun q => by subst q; revert c1; decide)]), rfl⟩
  · skip
    refine x_iload_n C dX8_holds_5 rfl 1 rfl rfl ?_
    refine x_iload_n C dX8_holds_6 rfl 3 rfl rfl ?_
    refine x_icmp_gt C (tgt := 25) dX8_holds_7 (by decide) rfl (fun c2 => ?_) (fun c2 => ?_)
    · skip
      refine x_iconst C (v := 0) dX8_holds_25 (by decide) rfl ?_
      exact x_zret C hr hlk rfl dX8_holds_26 ⟨by first | (simp [bI, c1, c2]; done) | (rw [bI, if_pos (Decidable.byContradiction (fun q => c3 ((hold4' c1 c2).mpr q)))]) | (rw [bI, if_neg ((hold4' c1 c2).mp c3)]) | (rw [bI, if_neg (fun q => by subst q; revert c2; decide)]), rfl⟩
    · skip
      refine x_iload_n C dX8_holds_10 rfl 1 rfl rfl ?_
      refine x_iload C dX8_holds_11 4 rfl rfl ?_
      refine x_imul C (v := (n * (4 : Int32))) dX8_holds_13 rfl rfl ?_
      refine x_aload_n C dX8_holds_14 rfl 0 rfl rfl ?_
      refine x_get C (ci := 7) (k := 1) 1 k_0 rfl in_X8 (by decide) w_37 rfl dX8_holds_15 rfl ?_
      refine x_icmp_gt C (tgt := 25) dX8_holds_18 (by decide) rfl (fun c3 => ?_) (fun c3 => ?_)
      · skip
        refine x_iconst C (v := 0) dX8_holds_25 (by decide) rfl ?_
        exact x_zret C hr hlk rfl dX8_holds_26 ⟨by first | (simp [bI, c1, c2, c3]; done) | (rw [bI, if_pos (Decidable.byContradiction (fun q => c3 ((hold4' c1 c2).mpr q)))]) | (rw [bI, if_neg ((hold4' c1 c2).mp c3)]) | (rw [bI, if_neg (fun q => by subst q; revert c3; decide)]), rfl⟩
      · skip
        refine x_iconst C (v := 1) dX8_holds_21 (by decide) rfl ?_
        refine x_goto C (tgt := 26) dX8_holds_22 (by decide) ?_
        exact x_zret C hr hlk rfl dX8_holds_26 ⟨by first | (simp [bI, c1, c2, c3]; done) | (rw [bI, if_pos (Decidable.byContradiction (fun q => c3 ((hold4' c1 c2).mpr q)))]) | (rw [bI, if_neg ((hold4' c1 c2).mp c3)]) | (rw [bI, if_neg (fun q => by subst q; revert c3; decide)]), rfl⟩
theorem dX11_check_0 : decode cX11_check 0 = .ok (.aload_n 0, 1) := by decide +kernel
theorem dX11_check_1 : decode cX11_check 1 = .ok (.getfield 10, 3) := by decide +kernel
theorem dX11_check_4 : decode cX11_check 4 = .ok (.iload_n 1, 1) := by decide +kernel
theorem dX11_check_5 : decode cX11_check 5 = .ok (.iconst 0, 1) := by decide +kernel
theorem dX11_check_6 : decode cX11_check 6 = .ok (.bipush 48, 2) := by decide +kernel
theorem dX11_check_8 : decode cX11_check 8 = .ok (.iconst 4, 1) := by decide +kernel
theorem dX11_check_9 : decode cX11_check 9 = .ok (.invokevirtual 149, 3) := by decide +kernel
theorem dX11_check_12 : decode cX11_check 12 = .ok (.ifCond .ne 6, 3) := by decide +kernel
theorem dX11_check_15 : decode cX11_check 15 = .ok (.bipush (-2), 2) := by decide +kernel
theorem dX11_check_17 : decode cX11_check 17 = .ok (.ireturn, 1) := by decide +kernel
theorem dX11_check_18 : decode cX11_check 18 = .ok (.iconst (-1), 1) := by decide +kernel
theorem dX11_check_19 : decode cX11_check 19 = .ok (.istore_n 2, 1) := by decide +kernel
theorem dX11_check_20 : decode cX11_check 20 = .ok (.iload_n 1, 1) := by decide +kernel
theorem dX11_check_21 : decode cX11_check 21 = .ok (.iconst 1, 1) := by decide +kernel
theorem dX11_check_22 : decode cX11_check 22 = .ok (.isub, 1) := by decide +kernel
theorem dX11_check_23 : decode cX11_check 23 = .ok (.istore_n 3, 1) := by decide +kernel
theorem dX11_check_24 : decode cX11_check 24 = .ok (.iload_n 3, 1) := by decide +kernel
theorem dX11_check_25 : decode cX11_check 25 = .ok (.ifCond .lt 39, 3) := by decide +kernel
theorem dX11_check_64 : decode cX11_check 64 = .ok (.aload_n 0, 1) := by decide +kernel
theorem dX11_check_65 : decode cX11_check 65 = .ok (.getfield 10, 3) := by decide +kernel
theorem dX11_check_68 : decode cX11_check 68 = .ok (.iconst 0, 1) := by decide +kernel
theorem dX11_check_69 : decode cX11_check 69 = .ok (.putfield 142, 3) := by decide +kernel
theorem dX11_check_72 : decode cX11_check 72 = .ok (.iload_n 2, 1) := by decide +kernel
theorem dX11_check_73 : decode cX11_check 73 = .ok (.ireturn, 1) := by decide +kernel
set_option maxRecDepth 20000 in
set_option maxHeartbeats 4000000 in
theorem t_check (E : xE) (l : Launch) (ws : va_W) {x xt xk xn xp xtr xr xs xl xpl xse ah ald arm ahr ash arw abr aw tb : Nat} (p_0 : Nat) (k_0 : ws[0]? = some (ob x 10 [.ref xt, .ref xk, .ref xn, .ref xp, .ref xtr, .int 0, .ref xr, .ref xs, .ref xl, .ref xpl, .ref xse, .ref ah, .ref ald, .ref arm, .ref ahr, .ref ash, .ref arw, .ref abr, .ref aw])) (p_1 : Nat) (k_1 : ws[1]? = some (ob xt 7 [.ref tb, .int 0, .int 0, .int 0, .int 0])) (n : Int32) : xI E l yX11_check cX11_check 4 (some .int) 1 [.ref x, .int n] ws (fun r w => r = if n = 0 then -1 else -2) := by
  refine xI_start (lv := [(0, .ref x), (1, .int n)]) RX11 (by decide) rfl (Nat.le_of_ble_eq_true rfl) rfl (fun p e s m below meth c A C hr hlk => ?_)
  refine x_aload_n C dX11_check_0 rfl 0 rfl rfl ?_
  refine x_get C (ci := 10) (k := 0) 0 k_0 rfl in_X11 (by decide) w_385 rfl dX11_check_1 rfl ?_
  refine x_iload_n C dX11_check_4 rfl 1 rfl rfl ?_
  refine x_iconst C (v := 0) dX11_check_5 (by decide) rfl ?_
  refine x_bipush C (v := 48) dX11_check_6 (by decide) rfl ?_
  refine x_iconst C (v := 4) dX11_check_8 (by decide) rfl ?_
  refine x_vi C (As := [.int n, .int 0, .int 48, .int 4]) (rest := []) (t_holds4 E l ws 1 k_1 n) mf_X8_holds w_507 1 k_1 rfl rfl rfl (Nat.le_of_ble_eq_true rfl) ⟨(Nat.le_of_ble_eq_true rfl), (Nat.le_of_ble_eq_true rfl)⟩ ⟨(Nat.le_of_ble_eq_true rfl), (Nat.le_of_ble_eq_true rfl)⟩ dX11_check_9 rfl (fun r2 w3 h1 => ?_)
  obtain ⟨e4, g5⟩ := h1
  refine x_top e4 ?_
  refine x_ws g5 ?_
  refine x_if_ne C (tgt := 18) dX11_check_12 (by decide) rfl (fun c6 => ?_) (fun c6 => ?_)
  · skip
    have b7 := bI_n0 c6
    refine x_iconst C (v := (-1)) dX11_check_18 (by decide) rfl ?_
    refine x_istore_n C (lv' := [(2, .int (-1)), (0, .ref x), (1, .int n)]) dX11_check_19 rfl (by decide) rfl rfl ?_
    refine x_iload_n C dX11_check_20 rfl 2 rfl rfl ?_
    refine x_iconst C (v := 1) dX11_check_21 (by decide) rfl ?_
    refine x_isub C (v := (n - (1 : Int32))) dX11_check_22 rfl rfl ?_
    refine x_istore_n C (lv' := [(3, .int (n - (1 : Int32))), (2, .int (-1)), (0, .ref x), (1, .int n)]) dX11_check_23 rfl (by decide) rfl rfl ?_
    refine x_iload_n C dX11_check_24 rfl 0 rfl rfl ?_
    refine x_if_lt C (tgt := 64) dX11_check_25 (by decide) rfl (fun _ => ?_) (fun h => absurd (by rw [b7]; decide) h)
    refine x_aload_n C dX11_check_64 rfl 2 rfl rfl ?_
    refine x_get C (ci := 10) (k := 0) 0 k_0 rfl in_X11 (by decide) w_385 rfl dX11_check_65 rfl ?_
    refine x_iconst C (v := 0) dX11_check_68 (by decide) rfl ?_
    obtain ⟨w8, hw9⟩ : ∃ w : va_W, w = List.set ws 1 (ob xt 7 [.ref tb, .int 0, .int 0, .int 0, .int 0]) := ⟨_, rfl⟩
    refine x_put C (ci := 7) (k := 1) (ty := .int) 1 k_1 rfl in_X8 tyX8 tyX8_ok nmX8 (by decide) w_38 rfl rfl rfl rfl (Nat.le_of_ble_eq_true rfl) hw9.symm dX11_check_69 rfl ?_
    have k10 : w8[0]? = some (ob x 10 [.ref xt, .ref xk, .ref xn, .ref xp, .ref xtr, .int 0, .ref xr, .ref xs, .ref xl, .ref xpl, .ref xse, .ref ah, .ref ald, .ref arm, .ref ahr, .ref ash, .ref arw, .ref abr, .ref aw]) := by rw [hw9]; exact set_ne k_0 (by decide)
    have k11 : w8[1]? = some (ob xt 7 [.ref tb, .int 0, .int 0, .int 0, .int 0]) := by rw [hw9]; exact set_eq k_1
    refine x_iload_n C dX11_check_72 rfl 1 rfl rfl ?_
    exact x_zret C hr hlk rfl dX11_check_73 (by simp [b7])
  · skip
    have b12 := bI_e0 c6
    refine x_bipush C (v := (-2)) dX11_check_15 (by decide) rfl ?_
    exact x_zret C hr hlk rfl dX11_check_17 (by simp [b12])
theorem dX11_count_0 : decode cX11_count 0 = .ok (.iload_n 1, 1) := by decide +kernel
theorem dX11_count_1 : decode cX11_count 1 = .ok (.bipush 20, 2) := by decide +kernel
theorem dX11_count_3 : decode cX11_count 3 = .ok (.bipush 27, 2) := by decide +kernel
theorem dX11_count_5 : decode cX11_count 5 = .ok (.invokestatic 102, 3) := by decide +kernel
theorem dX11_count_8 : decode cX11_count 8 = .ok (.ifCond .eq 40, 3) := by decide +kernel
theorem dX11_count_11 : decode cX11_count 11 = .ok (.aload_n 0, 1) := by decide +kernel
theorem dX11_count_12 : decode cX11_count 12 = .ok (.getfield 22, 3) := by decide +kernel
theorem dX11_count_15 : decode cX11_count 15 = .ok (.getfield 109, 3) := by decide +kernel
theorem dX11_count_18 : decode cX11_count 18 = .ok (.iload_n 1, 1) := by decide +kernel
theorem dX11_count_19 : decode cX11_count 19 = .ok (.bipush 20, 2) := by decide +kernel
theorem dX11_count_21 : decode cX11_count 21 = .ok (.isub, 1) := by decide +kernel
theorem dX11_count_22 : decode cX11_count 22 = .ok (.invokevirtual 118, 3) := by decide +kernel
theorem dX11_count_25 : decode cX11_count 25 = .ok (.ifCond .eq 21, 3) := by decide +kernel
theorem dX11_count_46 : decode cX11_count 46 = .ok (.iconst (-1), 1) := by decide +kernel
theorem dX11_count_47 : decode cX11_count 47 = .ok (.ireturn, 1) := by decide +kernel
theorem dX11_count_48 : decode cX11_count 48 = .ok (.iload_n 1, 1) := by decide +kernel
theorem dX11_count_49 : decode cX11_count 49 = .ok (.bipush 30, 2) := by decide +kernel
theorem dX11_count_51 : decode cX11_count 51 = .ok (.bipush 37, 2) := by decide +kernel
theorem dX11_count_53 : decode cX11_count 53 = .ok (.invokestatic 102, 3) := by decide +kernel
theorem dX11_count_56 : decode cX11_count 56 = .ok (.ifCond .eq 40, 3) := by decide +kernel
theorem dX11_count_59 : decode cX11_count 59 = .ok (.aload_n 0, 1) := by decide +kernel
theorem dX11_count_60 : decode cX11_count 60 = .ok (.getfield 22, 3) := by decide +kernel
theorem dX11_count_63 : decode cX11_count 63 = .ok (.getfield 109, 3) := by decide +kernel
theorem dX11_count_66 : decode cX11_count 66 = .ok (.iload_n 1, 1) := by decide +kernel
theorem dX11_count_67 : decode cX11_count 67 = .ok (.bipush 30, 2) := by decide +kernel
theorem dX11_count_69 : decode cX11_count 69 = .ok (.isub, 1) := by decide +kernel
theorem dX11_count_70 : decode cX11_count 70 = .ok (.invokevirtual 118, 3) := by decide +kernel
theorem dX11_count_73 : decode cX11_count 73 = .ok (.ifCond .eq 21, 3) := by decide +kernel
theorem dX11_count_94 : decode cX11_count 94 = .ok (.iconst (-1), 1) := by decide +kernel
theorem dX11_count_95 : decode cX11_count 95 = .ok (.ireturn, 1) := by decide +kernel
theorem dX11_count_96 : decode cX11_count 96 = .ok (.iload_n 1, 1) := by decide +kernel
theorem dX11_count_97 : decode cX11_count 97 = .ok (.tableswitch 171 0 10 #[59, 67, 78, 90, 102, 114, 122, 130, 138, 149, 160], 59) := by decide +kernel
theorem dX11_count_156 : decode cX11_count 156 = .ok (.aload_n 0, 1) := by decide +kernel
theorem dX11_count_157 : decode cX11_count 157 = .ok (.getfield 22, 3) := by decide +kernel
theorem dX11_count_160 : decode cX11_count 160 = .ok (.getfield 273, 3) := by decide +kernel
theorem dX11_count_163 : decode cX11_count 163 = .ok (.ireturn, 1) := by decide +kernel
theorem dX11_count_164 : decode cX11_count 164 = .ok (.aload_n 0, 1) := by decide +kernel
theorem dX11_count_165 : decode cX11_count 165 = .ok (.getfield 22, 3) := by decide +kernel
theorem dX11_count_168 : decode cX11_count 168 = .ok (.getfield 132, 3) := by decide +kernel
theorem dX11_count_171 : decode cX11_count 171 = .ok (.getfield 383, 3) := by decide +kernel
theorem dX11_count_174 : decode cX11_count 174 = .ok (.ireturn, 1) := by decide +kernel
theorem dX11_count_175 : decode cX11_count 175 = .ok (.aload_n 0, 1) := by decide +kernel
theorem dX11_count_176 : decode cX11_count 176 = .ok (.getfield 22, 3) := by decide +kernel
theorem dX11_count_179 : decode cX11_count 179 = .ok (.getfield 132, 3) := by decide +kernel
theorem dX11_count_182 : decode cX11_count 182 = .ok (.iconst 0, 1) := by decide +kernel
theorem dX11_count_183 : decode cX11_count 183 = .ok (.invokevirtual 203, 3) := by decide +kernel
theorem dX11_count_186 : decode cX11_count 186 = .ok (.ireturn, 1) := by decide +kernel
theorem dX11_count_187 : decode cX11_count 187 = .ok (.aload_n 0, 1) := by decide +kernel
theorem dX11_count_188 : decode cX11_count 188 = .ok (.getfield 22, 3) := by decide +kernel
theorem dX11_count_191 : decode cX11_count 191 = .ok (.getfield 132, 3) := by decide +kernel
theorem dX11_count_194 : decode cX11_count 194 = .ok (.iconst 1, 1) := by decide +kernel
theorem dX11_count_195 : decode cX11_count 195 = .ok (.invokevirtual 203, 3) := by decide +kernel
theorem dX11_count_198 : decode cX11_count 198 = .ok (.ireturn, 1) := by decide +kernel
theorem dX11_count_199 : decode cX11_count 199 = .ok (.aload_n 0, 1) := by decide +kernel
theorem dX11_count_200 : decode cX11_count 200 = .ok (.getfield 22, 3) := by decide +kernel
theorem dX11_count_203 : decode cX11_count 203 = .ok (.getfield 132, 3) := by decide +kernel
theorem dX11_count_206 : decode cX11_count 206 = .ok (.iconst 2, 1) := by decide +kernel
theorem dX11_count_207 : decode cX11_count 207 = .ok (.invokevirtual 203, 3) := by decide +kernel
theorem dX11_count_210 : decode cX11_count 210 = .ok (.ireturn, 1) := by decide +kernel
theorem dX11_count_211 : decode cX11_count 211 = .ok (.aload_n 0, 1) := by decide +kernel
theorem dX11_count_212 : decode cX11_count 212 = .ok (.getfield 39, 3) := by decide +kernel
theorem dX11_count_215 : decode cX11_count 215 = .ok (.getfield 165, 3) := by decide +kernel
theorem dX11_count_218 : decode cX11_count 218 = .ok (.ireturn, 1) := by decide +kernel
theorem dX11_count_219 : decode cX11_count 219 = .ok (.aload_n 0, 1) := by decide +kernel
theorem dX11_count_220 : decode cX11_count 220 = .ok (.getfield 10, 3) := by decide +kernel
theorem dX11_count_223 : decode cX11_count 223 = .ok (.getfield 142, 3) := by decide +kernel
theorem dX11_count_226 : decode cX11_count 226 = .ok (.ireturn, 1) := by decide +kernel
theorem dX11_count_227 : decode cX11_count 227 = .ok (.aload_n 0, 1) := by decide +kernel
theorem dX11_count_228 : decode cX11_count 228 = .ok (.getfield 22, 3) := by decide +kernel
theorem dX11_count_231 : decode cX11_count 231 = .ok (.getfield 394, 3) := by decide +kernel
theorem dX11_count_234 : decode cX11_count 234 = .ok (.ireturn, 1) := by decide +kernel
theorem dX11_count_235 : decode cX11_count 235 = .ok (.aload_n 0, 1) := by decide +kernel
theorem dX11_count_236 : decode cX11_count 236 = .ok (.getfield 22, 3) := by decide +kernel
theorem dX11_count_239 : decode cX11_count 239 = .ok (.getfield 92, 3) := by decide +kernel
theorem dX11_count_242 : decode cX11_count 242 = .ok (.getfield 407, 3) := by decide +kernel
theorem dX11_count_245 : decode cX11_count 245 = .ok (.ireturn, 1) := by decide +kernel
theorem dX11_count_246 : decode cX11_count 246 = .ok (.aload_n 0, 1) := by decide +kernel
theorem dX11_count_247 : decode cX11_count 247 = .ok (.getfield 22, 3) := by decide +kernel
theorem dX11_count_250 : decode cX11_count 250 = .ok (.getfield 109, 3) := by decide +kernel
theorem dX11_count_253 : decode cX11_count 253 = .ok (.getfield 119, 3) := by decide +kernel
theorem dX11_count_256 : decode cX11_count 256 = .ok (.ireturn, 1) := by decide +kernel
theorem dX11_count_257 : decode cX11_count 257 = .ok (.aload_n 0, 1) := by decide +kernel
theorem dX11_count_258 : decode cX11_count 258 = .ok (.getfield 22, 3) := by decide +kernel
theorem dX11_count_261 : decode cX11_count 261 = .ok (.getfield 123, 3) := by decide +kernel
theorem dX11_count_264 : decode cX11_count 264 = .ok (.getfield 280, 3) := by decide +kernel
theorem dX11_count_267 : decode cX11_count 267 = .ok (.ireturn, 1) := by decide +kernel
theorem dX11_count_268 : decode cX11_count 268 = .ok (.iconst (-1), 1) := by decide +kernel
theorem dX11_count_269 : decode cX11_count 269 = .ok (.ireturn, 1) := by decide +kernel
set_option maxRecDepth 20000 in
set_option maxHeartbeats 4000000 in
theorem t_count (E : xE) (l : Launch) (ws : va_W) {x xt xk xn xp xtr xr xs xl xpl xse ah ald arm ahr ash arw abr aw th tp te tw hk ho pl pa pt pb em el ey eo eb es wn wd ww wb wo l1 l2 l3 l4 l5 l6 l7 tb : Nat} (p_0 : Nat) (k_0 : ws[0]? = some (ob x 10 [.ref xt, .ref xk, .ref xn, .ref xp, .ref xtr, .int 0, .ref xr, .ref xs, .ref xl, .ref xpl, .ref xse, .ref ah, .ref ald, .ref arm, .ref ahr, .ref ash, .ref arw, .ref abr, .ref aw])) (p_1 : Nat) (k_1 : ws[5]? = some (ob xn 8 [.int 0, .int 1, .ref th, .ref tp, .ref te, .ref tw, .int 0, .int 0, .int 0, .int 0])) (p_2 : Nat) (k_2 : ws[6]? = some (ob th 2 [.int 0, .ref hk, .ref ho])) (p_3 : Nat) (k_3 : ws[9]? = some (ob tp 4 [.int 0, .ref pl, .ref pa, .ref pt, .ref pb])) (p_4 : Nat) (k_4 : ws[14]? = some (ob te 1 [.int 0, .ref em, .ref el, .ref ey, .ref eo, .ref eb, .ref es])) (p_5 : Nat) (k_5 : ws[21]? = some (ob tw 9 [.int 0, .ref wn, .ref wd, .ref ww, .ref wb, .ref wo])) (p_6 : Nat) (k_6 : ws[71]? = some (ob xr 3 [.int 0, .ref l1, .ref l2, .ref l3, .ref l4, .int 0, .ref l5, .ref l6, .ref l7, .int 0])) (p_7 : Nat) (k_7 : ws[1]? = some (ob xt 7 [.ref tb, .int 0, .int 0, .int 0, .int 0])) (wh : Int32) : xI E l yX11_count cX11_count 2 (some .int) 2 [.ref x, .int wh] ws (fun r w => r = cnt wh) := by
  refine xI_start (lv := [(0, .ref x), (1, .int wh)]) RX11 (by decide) rfl (Nat.le_of_ble_eq_true rfl) rfl (fun p e s m below meth c A C hr hlk => ?_)
  refine x_iload_n C dX11_count_0 rfl 1 rfl rfl ?_
  refine x_bipush C (v := 20) dX11_count_1 (by decide) rfl ?_
  refine x_bipush C (v := 27) dX11_count_3 (by decide) rfl ?_
  refine x_si C (As := [.int wh, .int 20, .int 27]) (rest := []) (t_isWithin E l ws wh 20 27) mf_X11_isWithin w_462 rfl rfl (Nat.le_of_ble_eq_true rfl) ⟨(Nat.le_of_ble_eq_true rfl), (Nat.le_of_ble_eq_true rfl)⟩ ⟨(Nat.le_of_ble_eq_true rfl), (Nat.le_of_ble_eq_true rfl)⟩ dX11_count_5 rfl (fun r2 w3 h1 => ?_)
  obtain ⟨e4, g5⟩ := h1
  refine x_top e4 ?_
  refine x_ws g5 ?_
  refine x_if_eq C (tgt := 48) dX11_count_8 (by decide) rfl (fun c6 => ?_) (fun c6 => ?_)
  · skip
    have b7 := bI_e0 c6
    refine x_iload_n C dX11_count_48 rfl 1 rfl rfl ?_
    refine x_bipush C (v := 30) dX11_count_49 (by decide) rfl ?_
    refine x_bipush C (v := 37) dX11_count_51 (by decide) rfl ?_
    refine x_si C (As := [.int wh, .int 30, .int 37]) (rest := []) (t_isWithin E l ws wh 30 37) mf_X11_isWithin w_462 rfl rfl (Nat.le_of_ble_eq_true rfl) ⟨(Nat.le_of_ble_eq_true rfl), (Nat.le_of_ble_eq_true rfl)⟩ ⟨(Nat.le_of_ble_eq_true rfl), (Nat.le_of_ble_eq_true rfl)⟩ dX11_count_53 rfl (fun r9 w10 h8 => ?_)
    obtain ⟨e11, g12⟩ := h8
    refine x_top e11 ?_
    refine x_ws g12 ?_
    refine x_if_eq C (tgt := 96) dX11_count_56 (by decide) rfl (fun c13 => ?_) (fun c13 => ?_)
    · skip
      have b14 := bI_e0 c13
      refine x_iload_n C dX11_count_96 rfl 1 rfl rfl ?_
      by_cases s15 : (wh).toInt < 0
      · refine x_tabOut C (tgt := 268) dX11_count_97 (Or.inl s15) (by decide) ?_
        have b17 : wh < 0 := sw_lo (by decide) s15
        refine x_iconst C (v := (-1)) dX11_count_268 (by decide) rfl ?_
        exact x_zret C hr hlk rfl dX11_count_269 (by first | (rw [b17]; decide) | (exact (cnt_out (Or.inl b17)).symm) | (exact (cnt_out (Or.inr b17)).symm) | (exact (cnt_out (Or.inr (lt_tr (by decide) b17.1))).symm))
      by_cases s16 : 10 < (wh).toInt
      · refine x_tabOut C (tgt := 268) dX11_count_97 (Or.inr s16) (by decide) ?_
        have b18 : 10 < wh := sw_hi (by decide) s16
        refine x_iconst C (v := (-1)) dX11_count_268 (by decide) rfl ?_
        exact x_zret C hr hlk rfl dX11_count_269 (by first | (rw [b18]; decide) | (exact (cnt_out (Or.inl b18)).symm) | (exact (cnt_out (Or.inr b18)).symm) | (exact (cnt_out (Or.inr (lt_tr (by decide) b18.1))).symm))
      by_cases s19 : wh = 0
      · refine x_tabIn C (tgt := 156) dX11_count_97 (by rw [s19]; decide) (by rw [s19]; decide) (by rw [s19]; rfl) (by decide) ?_
        have zs19 := sw_eq (by decide : (0 : Int32).toInt = 0) s19
        refine x_aload_n C dX11_count_156 rfl 0 rfl rfl ?_
        refine x_get C (ci := 10) (k := 2) 0 k_0 rfl in_X11 (by decide) w_387 rfl dX11_count_157 rfl ?_
        refine x_get C (ci := 8) (k := 0) 5 k_1 rfl in_X9 (by decide) w_197 rfl dX11_count_160 rfl ?_
        exact x_zret C hr hlk rfl dX11_count_163 (by first | (rw [s19]; decide) | (exact (cnt_out (Or.inl s19)).symm) | (exact (cnt_out (Or.inr s19)).symm) | (exact (cnt_out (Or.inr (lt_tr (by decide) s19.1))).symm))
      have zs19 := sw_ne (by decide : (0 : Int32).toInt = 0) s19
      by_cases s20 : wh = 1
      · refine x_tabIn C (tgt := 164) dX11_count_97 (by rw [s20]; decide) (by rw [s20]; decide) (by rw [s20]; rfl) (by decide) ?_
        have zs20 := sw_eq (by decide : (1 : Int32).toInt = 1) s20
        refine x_aload_n C dX11_count_164 rfl 0 rfl rfl ?_
        refine x_get C (ci := 10) (k := 2) 0 k_0 rfl in_X11 (by decide) w_387 rfl dX11_count_165 rfl ?_
        refine x_get C (ci := 8) (k := 4) 5 k_1 rfl in_X9 (by decide) w_209 rfl dX11_count_168 rfl ?_
        refine x_get C (ci := 1) (k := 0) 14 k_4 rfl in_X1 (by decide) w_122 rfl dX11_count_171 rfl ?_
        exact x_zret C hr hlk rfl dX11_count_174 (by first | (rw [s20]; decide) | (exact (cnt_out (Or.inl s20)).symm) | (exact (cnt_out (Or.inr s20)).symm) | (exact (cnt_out (Or.inr (lt_tr (by decide) s20.1))).symm))
      have zs20 := sw_ne (by decide : (1 : Int32).toInt = 1) s20
      by_cases s21 : wh = 2
      · refine x_tabIn C (tgt := 175) dX11_count_97 (by rw [s21]; decide) (by rw [s21]; decide) (by rw [s21]; rfl) (by decide) ?_
        have zs21 := sw_eq (by decide : (2 : Int32).toInt = 2) s21
        refine x_aload_n C dX11_count_175 rfl 0 rfl rfl ?_
        refine x_get C (ci := 10) (k := 2) 0 k_0 rfl in_X11 (by decide) w_387 rfl dX11_count_176 rfl ?_
        refine x_get C (ci := 8) (k := 4) 5 k_1 rfl in_X9 (by decide) w_209 rfl dX11_count_179 rfl ?_
        refine x_iconst C (v := 0) dX11_count_182 (by decide) rfl ?_
        refine x_vi C (As := [.int 0]) (rest := []) (t_Eggs_howMany0 E l ws 14 k_4 0) mf_X1_howMany w_853 14 k_4 rfl rfl rfl (Nat.le_of_ble_eq_true rfl) ⟨(Nat.le_of_ble_eq_true rfl), (Nat.le_of_ble_eq_true rfl)⟩ ⟨(Nat.le_of_ble_eq_true rfl), (Nat.le_of_ble_eq_true rfl)⟩ dX11_count_183 rfl (fun r23 w24 h22 => ?_)
        obtain ⟨e25, g26⟩ := h22
        refine x_top e25 ?_
        refine x_ws g26 ?_
        exact x_zret C hr hlk rfl dX11_count_186 (by first | (rw [s21]; decide) | (exact (cnt_out (Or.inl s21)).symm) | (exact (cnt_out (Or.inr s21)).symm) | (exact (cnt_out (Or.inr (lt_tr (by decide) s21.1))).symm))
      have zs21 := sw_ne (by decide : (2 : Int32).toInt = 2) s21
      by_cases s27 : wh = 3
      · refine x_tabIn C (tgt := 187) dX11_count_97 (by rw [s27]; decide) (by rw [s27]; decide) (by rw [s27]; rfl) (by decide) ?_
        have zs27 := sw_eq (by decide : (3 : Int32).toInt = 3) s27
        refine x_aload_n C dX11_count_187 rfl 0 rfl rfl ?_
        refine x_get C (ci := 10) (k := 2) 0 k_0 rfl in_X11 (by decide) w_387 rfl dX11_count_188 rfl ?_
        refine x_get C (ci := 8) (k := 4) 5 k_1 rfl in_X9 (by decide) w_209 rfl dX11_count_191 rfl ?_
        refine x_iconst C (v := 1) dX11_count_194 (by decide) rfl ?_
        refine x_vi C (As := [.int 1]) (rest := []) (t_Eggs_howMany0 E l ws 14 k_4 1) mf_X1_howMany w_853 14 k_4 rfl rfl rfl (Nat.le_of_ble_eq_true rfl) ⟨(Nat.le_of_ble_eq_true rfl), (Nat.le_of_ble_eq_true rfl)⟩ ⟨(Nat.le_of_ble_eq_true rfl), (Nat.le_of_ble_eq_true rfl)⟩ dX11_count_195 rfl (fun r29 w30 h28 => ?_)
        obtain ⟨e31, g32⟩ := h28
        refine x_top e31 ?_
        refine x_ws g32 ?_
        exact x_zret C hr hlk rfl dX11_count_198 (by first | (rw [s27]; decide) | (exact (cnt_out (Or.inl s27)).symm) | (exact (cnt_out (Or.inr s27)).symm) | (exact (cnt_out (Or.inr (lt_tr (by decide) s27.1))).symm))
      have zs27 := sw_ne (by decide : (3 : Int32).toInt = 3) s27
      by_cases s33 : wh = 4
      · refine x_tabIn C (tgt := 199) dX11_count_97 (by rw [s33]; decide) (by rw [s33]; decide) (by rw [s33]; rfl) (by decide) ?_
        have zs33 := sw_eq (by decide : (4 : Int32).toInt = 4) s33
        refine x_aload_n C dX11_count_199 rfl 0 rfl rfl ?_
        refine x_get C (ci := 10) (k := 2) 0 k_0 rfl in_X11 (by decide) w_387 rfl dX11_count_200 rfl ?_
        refine x_get C (ci := 8) (k := 4) 5 k_1 rfl in_X9 (by decide) w_209 rfl dX11_count_203 rfl ?_
        refine x_iconst C (v := 2) dX11_count_206 (by decide) rfl ?_
        refine x_vi C (As := [.int 2]) (rest := []) (t_Eggs_howMany0 E l ws 14 k_4 2) mf_X1_howMany w_853 14 k_4 rfl rfl rfl (Nat.le_of_ble_eq_true rfl) ⟨(Nat.le_of_ble_eq_true rfl), (Nat.le_of_ble_eq_true rfl)⟩ ⟨(Nat.le_of_ble_eq_true rfl), (Nat.le_of_ble_eq_true rfl)⟩ dX11_count_207 rfl (fun r35 w36 h34 => ?_)
        obtain ⟨e37, g38⟩ := h34
        refine x_top e37 ?_
        refine x_ws g38 ?_
        exact x_zret C hr hlk rfl dX11_count_210 (by first | (rw [s33]; decide) | (exact (cnt_out (Or.inl s33)).symm) | (exact (cnt_out (Or.inr s33)).symm) | (exact (cnt_out (Or.inr (lt_tr (by decide) s33.1))).symm))
      have zs33 := sw_ne (by decide : (4 : Int32).toInt = 4) s33
      by_cases s39 : wh = 5
      · refine x_tabIn C (tgt := 211) dX11_count_97 (by rw [s39]; decide) (by rw [s39]; decide) (by rw [s39]; rfl) (by decide) ?_
        have zs39 := sw_eq (by decide : (5 : Int32).toInt = 5) s39
        refine x_aload_n C dX11_count_211 rfl 0 rfl rfl ?_
        refine x_get C (ci := 10) (k := 6) 0 k_0 rfl in_X11 (by decide) w_391 rfl dX11_count_212 rfl ?_
        refine x_get C (ci := 3) (k := 0) 71 k_6 rfl in_X3 (by decide) w_252 rfl dX11_count_215 rfl ?_
        exact x_zret C hr hlk rfl dX11_count_218 (by first | (rw [s39]; decide) | (exact (cnt_out (Or.inl s39)).symm) | (exact (cnt_out (Or.inr s39)).symm) | (exact (cnt_out (Or.inr (lt_tr (by decide) s39.1))).symm))
      have zs39 := sw_ne (by decide : (5 : Int32).toInt = 5) s39
      by_cases s40 : wh = 6
      · refine x_tabIn C (tgt := 219) dX11_count_97 (by rw [s40]; decide) (by rw [s40]; decide) (by rw [s40]; rfl) (by decide) ?_
        have zs40 := sw_eq (by decide : (6 : Int32).toInt = 6) s40
        refine x_aload_n C dX11_count_219 rfl 0 rfl rfl ?_
        refine x_get C (ci := 10) (k := 0) 0 k_0 rfl in_X11 (by decide) w_385 rfl dX11_count_220 rfl ?_
        refine x_get C (ci := 7) (k := 1) 1 k_7 rfl in_X8 (by decide) w_38 rfl dX11_count_223 rfl ?_
        exact x_zret C hr hlk rfl dX11_count_226 (by first | (rw [s40]; decide) | (exact (cnt_out (Or.inl s40)).symm) | (exact (cnt_out (Or.inr s40)).symm) | (exact (cnt_out (Or.inr (lt_tr (by decide) s40.1))).symm))
      have zs40 := sw_ne (by decide : (6 : Int32).toInt = 6) s40
      by_cases s41 : wh = 7
      · refine x_tabIn C (tgt := 227) dX11_count_97 (by rw [s41]; decide) (by rw [s41]; decide) (by rw [s41]; rfl) (by decide) ?_
        have zs41 := sw_eq (by decide : (7 : Int32).toInt = 7) s41
        refine x_aload_n C dX11_count_227 rfl 0 rfl rfl ?_
        refine x_get C (ci := 10) (k := 2) 0 k_0 rfl in_X11 (by decide) w_387 rfl dX11_count_228 rfl ?_
        refine x_get C (ci := 8) (k := 1) 5 k_1 rfl in_X9 (by decide) w_199 rfl dX11_count_231 rfl ?_
        exact x_zret C hr hlk rfl dX11_count_234 (by first | (rw [s41]; decide) | (exact (cnt_out (Or.inl s41)).symm) | (exact (cnt_out (Or.inr s41)).symm) | (exact (cnt_out (Or.inr (lt_tr (by decide) s41.1))).symm))
      have zs41 := sw_ne (by decide : (7 : Int32).toInt = 7) s41
      by_cases s42 : wh = 8
      · refine x_tabIn C (tgt := 235) dX11_count_97 (by rw [s42]; decide) (by rw [s42]; decide) (by rw [s42]; rfl) (by decide) ?_
        have zs42 := sw_eq (by decide : (8 : Int32).toInt = 8) s42
        refine x_aload_n C dX11_count_235 rfl 0 rfl rfl ?_
        refine x_get C (ci := 10) (k := 2) 0 k_0 rfl in_X11 (by decide) w_387 rfl dX11_count_236 rfl ?_
        refine x_get C (ci := 8) (k := 3) 5 k_1 rfl in_X9 (by decide) w_204 rfl dX11_count_239 rfl ?_
        refine x_get C (ci := 4) (k := 0) 9 k_3 rfl in_X5 (by decide) w_91 rfl dX11_count_242 rfl ?_
        exact x_zret C hr hlk rfl dX11_count_245 (by first | (rw [s42]; decide) | (exact (cnt_out (Or.inl s42)).symm) | (exact (cnt_out (Or.inr s42)).symm) | (exact (cnt_out (Or.inr (lt_tr (by decide) s42.1))).symm))
      have zs42 := sw_ne (by decide : (8 : Int32).toInt = 8) s42
      by_cases s43 : wh = 9
      · refine x_tabIn C (tgt := 246) dX11_count_97 (by rw [s43]; decide) (by rw [s43]; decide) (by rw [s43]; rfl) (by decide) ?_
        have zs43 := sw_eq (by decide : (9 : Int32).toInt = 9) s43
        refine x_aload_n C dX11_count_246 rfl 0 rfl rfl ?_
        refine x_get C (ci := 10) (k := 2) 0 k_0 rfl in_X11 (by decide) w_387 rfl dX11_count_247 rfl ?_
        refine x_get C (ci := 8) (k := 2) 5 k_1 rfl in_X9 (by decide) w_201 rfl dX11_count_250 rfl ?_
        refine x_get C (ci := 2) (k := 0) 6 k_2 rfl in_X2 (by decide) w_69 rfl dX11_count_253 rfl ?_
        exact x_zret C hr hlk rfl dX11_count_256 (by first | (rw [s43]; decide) | (exact (cnt_out (Or.inl s43)).symm) | (exact (cnt_out (Or.inr s43)).symm) | (exact (cnt_out (Or.inr (lt_tr (by decide) s43.1))).symm))
      have zs43 := sw_ne (by decide : (9 : Int32).toInt = 9) s43
      have s44 : wh = 10 := sw_last (n := 10) (by decide) s15 s16 (by omega)
      refine x_tabIn C (tgt := 257) dX11_count_97 (by rw [s44]; decide) (by rw [s44]; decide) (by rw [s44]; rfl) (by decide) ?_
      refine x_aload_n C dX11_count_257 rfl 0 rfl rfl ?_
      refine x_get C (ci := 10) (k := 2) 0 k_0 rfl in_X11 (by decide) w_387 rfl dX11_count_258 rfl ?_
      refine x_get C (ci := 8) (k := 5) 5 k_1 rfl in_X9 (by decide) w_213 rfl dX11_count_261 rfl ?_
      refine x_get C (ci := 9) (k := 0) 21 k_5 rfl in_X10 (by decide) w_169 rfl dX11_count_264 rfl ?_
      exact x_zret C hr hlk rfl dX11_count_267 (by first | (rw [s44]; decide) | (exact (cnt_out (Or.inl s44)).symm) | (exact (cnt_out (Or.inr s44)).symm) | (exact (cnt_out (Or.inr (lt_tr (by decide) s44.1))).symm))
    · skip
      have b45 := bI_n0 c13
      refine x_aload_n C dX11_count_59 rfl 0 rfl rfl ?_
      refine x_get C (ci := 10) (k := 2) 0 k_0 rfl in_X11 (by decide) w_387 rfl dX11_count_60 rfl ?_
      refine x_get C (ci := 8) (k := 2) 5 k_1 rfl in_X9 (by decide) w_201 rfl dX11_count_63 rfl ?_
      refine x_iload_n C dX11_count_66 rfl 1 rfl rfl ?_
      refine x_bipush C (v := 30) dX11_count_67 (by decide) rfl ?_
      refine x_isub C (v := (wh - (30 : Int32))) dX11_count_69 rfl rfl ?_
      refine x_vi C (As := [.int (wh - (30 : Int32))]) (rest := []) (t_Hens_isTold0 E l ws 6 k_2 ((wh - (30 : Int32)))) mf_X2_isTold w_474 6 k_2 rfl rfl rfl (Nat.le_of_ble_eq_true rfl) ⟨(Nat.le_of_ble_eq_true rfl), (Nat.le_of_ble_eq_true rfl)⟩ ⟨(Nat.le_of_ble_eq_true rfl), (Nat.le_of_ble_eq_true rfl)⟩ dX11_count_70 rfl (fun r47 w48 h46 => ?_)
      obtain ⟨e49, g50⟩ := h46
      refine x_top e49 ?_
      refine x_ws g50 ?_
      refine x_if_eq C (tgt := 94) dX11_count_73 (by decide) rfl (fun _ => ?_) (fun h => absurd h (by decide))
      refine x_iconst C (v := (-1)) dX11_count_94 (by decide) rfl ?_
      exact x_zret C hr hlk rfl dX11_count_95 (by first | (rw [b45]; decide) | (exact (cnt_out (Or.inl b45)).symm) | (exact (cnt_out (Or.inr b45)).symm) | (exact (cnt_out (Or.inr (lt_tr (by decide) b45.1))).symm))
  · skip
    have b51 := bI_n0 c6
    refine x_aload_n C dX11_count_11 rfl 0 rfl rfl ?_
    refine x_get C (ci := 10) (k := 2) 0 k_0 rfl in_X11 (by decide) w_387 rfl dX11_count_12 rfl ?_
    refine x_get C (ci := 8) (k := 2) 5 k_1 rfl in_X9 (by decide) w_201 rfl dX11_count_15 rfl ?_
    refine x_iload_n C dX11_count_18 rfl 1 rfl rfl ?_
    refine x_bipush C (v := 20) dX11_count_19 (by decide) rfl ?_
    refine x_isub C (v := (wh - (20 : Int32))) dX11_count_21 rfl rfl ?_
    refine x_vi C (As := [.int (wh - (20 : Int32))]) (rest := []) (t_Hens_isTold0 E l ws 6 k_2 ((wh - (20 : Int32)))) mf_X2_isTold w_474 6 k_2 rfl rfl rfl (Nat.le_of_ble_eq_true rfl) ⟨(Nat.le_of_ble_eq_true rfl), (Nat.le_of_ble_eq_true rfl)⟩ ⟨(Nat.le_of_ble_eq_true rfl), (Nat.le_of_ble_eq_true rfl)⟩ dX11_count_22 rfl (fun r53 w54 h52 => ?_)
    obtain ⟨e55, g56⟩ := h52
    refine x_top e55 ?_
    refine x_ws g56 ?_
    refine x_if_eq C (tgt := 46) dX11_count_25 (by decide) rfl (fun _ => ?_) (fun h => absurd h (by decide))
    refine x_iconst C (v := (-1)) dX11_count_46 (by decide) rfl ?_
    exact x_zret C hr hlk rfl dX11_count_47 (by first | (rw [b51]; decide) | (exact (cnt_out (Or.inl b51)).symm) | (exact (cnt_out (Or.inr b51)).symm) | (exact (cnt_out (Or.inr (lt_tr (by decide) b51.1))).symm))
