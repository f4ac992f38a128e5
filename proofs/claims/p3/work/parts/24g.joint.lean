set_option maxRecDepth 20000 in
set_option maxHeartbeats 4000000 in
theorem c_isInX (E : xE) (l : Launch) (a : Nat → Nat) (ws : va_W) (hW : WX (okX E a) ws) (bs : Int32) (pl : Int32) : xI E l yX11_isIn cX11_isIn 2 (some .boolean) 0 [.int bs, .int pl] ws (fun r w => w = ws ∧ zb r ∧ ((¬ r = 0 ∧ inb bs pl) ∨ (r = 0 ∧ ¬ inb bs pl))) := by
  refine xI_start (lv := [(0, .int bs), (1, .int pl)]) RX11 (by decide) rfl (Nat.le_of_ble_eq_true rfl) rfl (fun p e s m below meth c A C hr hlk => ?_)
  refine x_iload_n C dX11_isIn_0 rfl 1 rfl rfl ?_
  refine x_if_lt C (tgt := 23) dX11_isIn_1 (by decide) rfl (fun c1 => ?_) (fun c1 => ?_)
  · skip
    refine x_iconst C (v := 0) dX11_isIn_23 (by decide) rfl ?_
    exact x_zret C hr hlk rfl dX11_isIn_24 ⟨rfl, (Or.inl rfl), (Or.inr ⟨rfl, fun q => q.1.1 c1⟩)⟩
  · skip
    obtain ⟨j2, hj3, ej4⟩ := nI_of c1
    subst ej4
    refine x_iload_n C dX11_isIn_4 rfl 1 rfl rfl ?_
    refine x_bipush C (v := 8) dX11_isIn_5 (by decide) rfl ?_
    refine x_icmp_ge C (tgt := 23) dX11_isIn_7 (by decide) rfl (fun c5 => ?_) (fun c5 => ?_)
    · skip
      have nf6 := nI_le' (a := 8) (b := j2) c5 (by omega) (by omega)
      refine x_iconst C (v := 0) dX11_isIn_23 (by decide) rfl ?_
      exact x_zret C hr hlk rfl dX11_isIn_24 ⟨rfl, (Or.inl rfl), (Or.inr ⟨rfl, fun q => wth_hi (by omega) (by omega) q.1⟩)⟩
    · skip
      have nf7 := nI_nle' (a := 8) (b := j2) c5 (by omega) (by omega)
      refine x_iload_n C dX11_isIn_10 rfl 0 rfl rfl ?_
      refine x_iload_n C dX11_isIn_11 rfl 1 rfl rfl ?_
      refine x_ishr C (v := (bs >>> ((nI j2) &&& 31))) dX11_isIn_12 rfl rfl ?_
      refine x_iconst C (v := 1) dX11_isIn_13 (by decide) rfl ?_
      refine x_iand C (v := ((bs >>> ((nI j2) &&& 31)) &&& (1 : Int32))) dX11_isIn_14 rfl rfl ?_
      refine x_iconst C (v := 1) dX11_isIn_15 (by decide) rfl ?_
      refine x_icmp_ne C (tgt := 23) dX11_isIn_16 (by decide) rfl (fun c8 => ?_) (fun c8 => ?_)
      · skip
        refine x_iconst C (v := 0) dX11_isIn_23 (by decide) rfl ?_
        exact x_zret C hr hlk rfl dX11_isIn_24 ⟨rfl, (Or.inl rfl), (Or.inr ⟨rfl, fun q => c8 q.2⟩)⟩
      · skip
        refine x_iconst C (v := 1) dX11_isIn_19 (by decide) rfl ?_
        refine x_goto C (tgt := 24) dX11_isIn_20 (by decide) ?_
        exact x_zret C hr hlk rfl dX11_isIn_24 ⟨rfl, (Or.inr rfl), (Or.inl ⟨by decide, wth_lo (by omega), c8⟩)⟩
set_option maxRecDepth 20000 in
set_option maxHeartbeats 4000000 in
theorem c_Hens_isToldX (E : xE) (l : Launch) (a : Nat → Nat) (ws : va_W) (hW : WX (okX E a) ws) (t : Nat) (ht : tb t) (p0 : Int32) (T : Int32) (hT : ws[t + 1]? = some (ob (a (t + 1)) 2 [.int T, .ref (a (t + 2)), .ref (a (t + 3))])) : xI E l yX2_isTold cX2_isTold 2 (some .boolean) 1 [.ref (a (t + 1)), .int p0] ws (fun r w => w = ws ∧ zb r ∧ ((¬ r = 0 ∧ inb T p0) ∨ (r = 0 ∧ ¬ inb T p0))) := by
  refine xI_start (lv := [(0, .ref (a (t + 1))), (1, .int p0)]) RX2 (by decide) rfl (Nat.le_of_ble_eq_true rfl) rfl (fun p e s m below meth c A C hr hlk => ?_)
  have htb := tb_lo ht
  refine x_aload_n C dX2_isTold_0 rfl 0 rfl rfl ?_
  refine x_get C (ci := 2) (k := 0) (t + 1) hT rfl in_X2 (by decide) w_68 rfl dX2_isTold_1 rfl ?_
  refine x_iload_n C dX2_isTold_4 rfl 1 rfl rfl ?_
  refine x_sn C (As := [.int T, .int p0]) (rest := []) (c_isInX E l a ws hW T p0) mf_X11_isIn n_478 rfl rfl (Nat.le_of_ble_eq_true rfl) ⟨(Nat.le_of_ble_eq_true rfl), (Nat.le_of_ble_eq_true rfl)⟩ ⟨(Nat.le_of_ble_eq_true rfl), (Nat.le_of_ble_eq_true rfl)⟩ dX2_isTold_5 rfl (fun r2 w3 h1 => ?_)
  obtain ⟨hW4, zb5, x6⟩ := h1
  refine x_ws hW4 ?_
  exact x_zret C hr hlk (zb_nar zb5) dX2_isTold_8 ⟨rfl, zb5, x6⟩
set_option maxRecDepth 20000 in
set_option maxHeartbeats 4000000 in
theorem c_People_isToldX (E : xE) (l : Launch) (a : Nat → Nat) (ws : va_W) (hW : WX (okX E a) ws) (t : Nat) (ht : tb t) (p0 : Int32) (T : Int32) (hT : ws[t + 4]? = some (ob (a (t + 4)) 4 [.int T, .ref (a (t + 5)), .ref (a (t + 6)), .ref (a (t + 7)), .ref (a (t + 8))])) : xI E l yX5_isTold cX5_isTold 2 (some .boolean) 1 [.ref (a (t + 4)), .int p0] ws (fun r w => w = ws ∧ zb r ∧ ((¬ r = 0 ∧ inb T p0) ∨ (r = 0 ∧ ¬ inb T p0))) := by
  refine xI_start (lv := [(0, .ref (a (t + 4))), (1, .int p0)]) RX5 (by decide) rfl (Nat.le_of_ble_eq_true rfl) rfl (fun p e s m below meth c A C hr hlk => ?_)
  have htb := tb_lo ht
  refine x_aload_n C dX5_isTold_0 rfl 0 rfl rfl ?_
  refine x_get C (ci := 4) (k := 0) (t + 4) hT rfl in_X5 (by decide) w_90 rfl dX5_isTold_1 rfl ?_
  refine x_iload_n C dX5_isTold_4 rfl 1 rfl rfl ?_
  refine x_sn C (As := [.int T, .int p0]) (rest := []) (c_isInX E l a ws hW T p0) mf_X11_isIn n_455 rfl rfl (Nat.le_of_ble_eq_true rfl) ⟨(Nat.le_of_ble_eq_true rfl), (Nat.le_of_ble_eq_true rfl)⟩ ⟨(Nat.le_of_ble_eq_true rfl), (Nat.le_of_ble_eq_true rfl)⟩ dX5_isTold_5 rfl (fun r2 w3 h1 => ?_)
  obtain ⟨hW4, zb5, x6⟩ := h1
  refine x_ws hW4 ?_
  exact x_zret C hr hlk (zb_nar zb5) dX5_isTold_8 ⟨rfl, zb5, x6⟩
set_option maxRecDepth 20000 in
set_option maxHeartbeats 4000000 in
theorem c_isWithinJ (E : xE) (l : Launch) (a : Nat → Nat) (ws : va_W) (hW : WX (okX E a) ws) (v : Int32) (lo : Int32) (hi : Int32) : xI E l yX11_isWithin cX11_isWithin 3 (some .boolean) 0 [.int v, .int lo, .int hi] ws (fun r w => w = ws ∧ zb r ∧ ((¬ r = 0 ∧ wth v lo hi) ∨ (r = 0 ∧ ¬ wth v lo hi))) := by
  refine xI_start (lv := [(0, .int v), (1, .int lo), (2, .int hi)]) RX11 (by decide) rfl (Nat.le_of_ble_eq_true rfl) rfl (fun p e s m below meth c A C hr hlk => ?_)
  refine x_iload_n C dX11_isWithin_0 rfl 0 rfl rfl ?_
  refine x_iload_n C dX11_isWithin_1 rfl 1 rfl rfl ?_
  refine x_icmp_lt C (tgt := 14) dX11_isWithin_2 (by decide) rfl (fun c1 => ?_) (fun c1 => ?_)
  · skip
    refine x_iconst C (v := 0) dX11_isWithin_14 (by decide) rfl ?_
    exact x_zret C hr hlk rfl dX11_isWithin_15 ⟨rfl, (Or.inl rfl), (Or.inr ⟨rfl, fun q => q.1 c1⟩)⟩
  · skip
    refine x_iload_n C dX11_isWithin_5 rfl 0 rfl rfl ?_
    refine x_iload_n C dX11_isWithin_6 rfl 2 rfl rfl ?_
    refine x_icmp_gt C (tgt := 14) dX11_isWithin_7 (by decide) rfl (fun c2 => ?_) (fun c2 => ?_)
    · skip
      refine x_iconst C (v := 0) dX11_isWithin_14 (by decide) rfl ?_
      exact x_zret C hr hlk rfl dX11_isWithin_15 ⟨rfl, (Or.inl rfl), (Or.inr ⟨rfl, fun q => q.2 c2⟩)⟩
    · skip
      refine x_iconst C (v := 1) dX11_isWithin_10 (by decide) rfl ?_
      refine x_goto C (tgt := 15) dX11_isWithin_11 (by decide) ?_
      exact x_zret C hr hlk rfl dX11_isWithin_15 ⟨rfl, (Or.inr rfl), (Or.inl ⟨by decide, ⟨c1, c2⟩⟩)⟩
set_option maxRecDepth 20000 in
set_option maxHeartbeats 4000000 in
theorem c_People_tellX (E : xE) (l : Launch) (a : Nat → Nat) (ws : va_W) (hW : WX (okX E a) ws) (t : Nat) (ht : tb t) (p0 : Int32) (T : Int32) (hT : ws[t + 4]? = some (ob (a (t + 4)) 4 [.int T, .ref (a (t + 5)), .ref (a (t + 6)), .ref (a (t + 7)), .ref (a (t + 8))])) : xI E l yX5_tell cX5_tell 2 (some .boolean) 2 [.ref (a (t + 4)), .int p0] ws (fun r w => WX (okX E a) w ∧ keeps ws w (fun q => q = t + 4) ∧ zb r ∧ (r = bI (pC T p0) ∧ w[t + 4]? = some (ob (a (t + 4)) 4 [.int (pT T p0), .ref (a (t + 5)), .ref (a (t + 6)), .ref (a (t + 7)), .ref (a (t + 8))]))) := by
  refine xI_start (lv := [(0, .ref (a (t + 4))), (1, .int p0)]) RX5 (by decide) rfl (Nat.le_of_ble_eq_true rfl) rfl (fun p e s m below meth c A C hr hlk => ?_)
  have htb := tb_lo ht
  have kp0 : keeps ws ws (fun q => q = t + 4) := keeps_rf
  refine x_iload_n C dX5_tell_0 rfl 1 rfl rfl ?_
  refine x_if_lt C (tgt := 18) dX5_tell_1 (by decide) rfl (fun c1 => ?_) (fun c1 => ?_)
  · skip
    refine x_iconst C (v := 0) dX5_tell_18 (by decide) rfl ?_
    exact x_zret C hr hlk rfl dX5_tell_19 ⟨hW, kp0, (Or.inl rfl), ⟨(bI_f (P := pC T p0) (fun q => q.1.1 c1)).symm, (by rw [pT_f (P := T) (p := p0) (fun q => q.1.1 c1)]; exact hT)⟩⟩
  · skip
    obtain ⟨j2, hj3, ej4⟩ := nI_of c1
    subst ej4
    refine x_iload_n C dX5_tell_4 rfl 1 rfl rfl ?_
    refine x_bipush C (v := 8) dX5_tell_5 (by decide) rfl ?_
    refine x_icmp_ge C (tgt := 18) dX5_tell_7 (by decide) rfl (fun c5 => ?_) (fun c5 => ?_)
    · skip
      have nf6 := nI_le' (a := 8) (b := j2) c5 (by omega) (by omega)
      refine x_iconst C (v := 0) dX5_tell_18 (by decide) rfl ?_
      exact x_zret C hr hlk rfl dX5_tell_19 ⟨hW, kp0, (Or.inl rfl), ⟨(bI_f (P := pC T (nI j2)) (fun q => wth_hi (by omega) (by omega) q.1)).symm, (by rw [pT_f (P := T) (p := (nI j2)) (fun q => wth_hi (by omega) (by omega) q.1)]; exact hT)⟩⟩
    · skip
      have nf7 := nI_nle' (a := 8) (b := j2) c5 (by omega) (by omega)
      refine x_aload_n C dX5_tell_10 rfl 0 rfl rfl ?_
      refine x_iload_n C dX5_tell_11 rfl 1 rfl rfl ?_
      refine x_vi C (As := [.int (nI j2)]) (rest := []) (c_People_isToldX E l a ws hW t ht ((nI j2)) T hT) mf_X5_isTold w_451 (t + 4) hT rfl rfl rfl (Nat.le_of_ble_eq_true rfl) ⟨(Nat.le_of_ble_eq_true rfl), (Nat.le_of_ble_eq_true rfl)⟩ ⟨(Nat.le_of_ble_eq_true rfl), (Nat.le_of_ble_eq_true rfl)⟩ dX5_tell_12 rfl (fun r9 w10 h8 => ?_)
      obtain ⟨hW11, zb12, x13⟩ := h8
      refine x_ws hW11 ?_
      rcases x13 with ⟨hn14, hw15⟩ | ⟨e16, hw17⟩
      · skip
        refine x_if_eq C (tgt := 20) dX5_tell_15 (by decide) rfl (fun h => absurd h hn14) (fun _ => ?_)
        refine x_iconst C (v := 0) dX5_tell_18 (by decide) rfl ?_
        exact x_zret C hr hlk rfl dX5_tell_19 ⟨hW, kp0, (Or.inl rfl), ⟨(bI_f (P := pC T (nI j2)) (fun q => q.2 hw15)).symm, (by rw [pT_f (P := T) (p := (nI j2)) (fun q => q.2 hw15)]; exact hT)⟩⟩
      · refine x_top e16 ?_
        refine x_if_eq C (tgt := 20) dX5_tell_15 (by decide) rfl (fun _ => ?_) (fun h => absurd h (by decide))
        refine x_aload_n C dX5_tell_20 rfl 0 rfl rfl ?_
        refine x_dup C dX5_tell_21 rfl rfl ?_
        refine x_get C (ci := 4) (k := 0) (t + 4) hT rfl in_X5 (by decide) w_90 rfl dX5_tell_22 rfl ?_
        refine x_iconst C (v := 1) dX5_tell_25 (by decide) rfl ?_
        refine x_iload_n C dX5_tell_26 rfl 1 rfl rfl ?_
        refine x_ishl C (v := ((1 : Int32) <<< ((nI j2) &&& 31))) dX5_tell_27 rfl rfl ?_
        refine x_ior C (v := (T ||| ((1 : Int32) <<< ((nI j2) &&& 31)))) dX5_tell_28 rfl rfl ?_
        obtain ⟨w18, hw19⟩ : ∃ w : va_W, w = List.set ws (t + 4) (ob (a (t + 4)) 4 [.int (T ||| ((1 : Int32) <<< ((nI j2) &&& 31))), .ref (a (t + 5)), .ref (a (t + 6)), .ref (a (t + 7)), .ref (a (t + 8))]) := ⟨_, rfl⟩
        refine x_put C (ci := 4) (k := 0) (ty := .int) (t + 4) hT rfl in_X5 tyX5 tyX5_ok nmX5 (by decide) w_90 rfl rfl rfl rfl (Nat.le_of_ble_eq_true rfl) hw19.symm dX5_tell_29 rfl ?_
        have hW20 : WX (okX E a) w18 := by rw [hw19]; exact hW.set (k := (t + 4)) (okX_t ht (j := 4) rfl) ⟨(T ||| ((1 : Int32) <<< ((nI j2) &&& 31))), rfl⟩
        have k21 : w18[t + 4]? = some (ob (a (t + 4)) 4 [.int (T ||| ((1 : Int32) <<< ((nI j2) &&& 31))), .ref (a (t + 5)), .ref (a (t + 6)), .ref (a (t + 7)), .ref (a (t + 8))]) := by rw [hw19]; exact set_eq hT
        have kp22 := keeps_set kp0 hw19 (by first | exact rfl | decide | omega | (dsimp only; omega))
        refine x_iconst C (v := 1) dX5_tell_32 (by decide) rfl ?_
        exact x_zret C hr hlk rfl dX5_tell_33 ⟨hW20, kp22, (Or.inr rfl), ⟨(bI_t (P := pC T (nI j2)) ⟨wth_lo (by omega), hw17⟩).symm, (by rw [pT_t (P := T) (p := (nI j2)) ⟨wth_lo (by omega), hw17⟩]; exact k21)⟩⟩
set_option maxRecDepth 20000 in
set_option maxHeartbeats 4000000 in
theorem c_Hens_tellX (E : xE) (l : Launch) (a : Nat → Nat) (ws : va_W) (hW : WX (okX E a) ws) (t : Nat) (ht : tb t) (y0 : Nat) (kd : Int32) (ow : Nat) (T : Int32) (hT : ws[t + 1]? = some (ob (a (t + 1)) 2 [.int T, .ref (a (t + 2)), .ref (a (t + 3))])) (hy : y0 ≤ 7) (how : ow ≤ 7) : xV E l yX2_tell cX2_tell 4 0 0 0 [.ref (a (t + 1)), .int (nI y0), .int kd, .int (nI ow)] ws (fun w => WX (okX E a) w ∧ keeps ws w (fun q => t + 1 ≤ q ∧ q < t + 4) ∧ (w[t + 1]? = some (ob (a (t + 1)) 2 [.int (T ||| ((1 : Int32) <<< ((nI y0) &&& 31))), .ref (a (t + 2)), .ref (a (t + 3))]))) := by
  refine xV_start (lv := [(0, .ref (a (t + 1))), (1, .int (nI y0)), (2, .int kd), (3, .int (nI ow))]) RX2 (by decide) rfl (Nat.le_of_ble_eq_true rfl) rfl (fun p e s m below meth c A C hr hlk hin => ?_)
  have htb := tb_lo ht
  have kp0 : keeps ws ws (fun q => t + 1 ≤ q ∧ q < t + 4) := keeps_rf
  refine x_aload_n C dX2_tell_0 rfl 0 rfl rfl ?_
  refine x_dup C dX2_tell_1 rfl rfl ?_
  refine x_get C (ci := 2) (k := 0) (t + 1) hT rfl in_X2 (by decide) w_68 rfl dX2_tell_2 rfl ?_
  refine x_iconst C (v := 1) dX2_tell_5 (by decide) rfl ?_
  refine x_iload_n C dX2_tell_6 rfl 1 rfl rfl ?_
  refine x_ishl C (v := ((1 : Int32) <<< ((nI y0) &&& 31))) dX2_tell_7 rfl rfl ?_
  refine x_ior C (v := (T ||| ((1 : Int32) <<< ((nI y0) &&& 31)))) dX2_tell_8 rfl rfl ?_
  obtain ⟨w1, hw2⟩ : ∃ w : va_W, w = List.set ws (t + 1) (ob (a (t + 1)) 2 [.int (T ||| ((1 : Int32) <<< ((nI y0) &&& 31))), .ref (a (t + 2)), .ref (a (t + 3))]) := ⟨_, rfl⟩
  refine x_put C (ci := 2) (k := 0) (ty := .int) (t + 1) hT rfl in_X2 tyX2 tyX2_ok nmX2 (by decide) w_68 rfl rfl rfl rfl (Nat.le_of_ble_eq_true rfl) hw2.symm dX2_tell_9 rfl ?_
  have hW3 : WX (okX E a) w1 := by rw [hw2]; exact hW.set (k := (t + 1)) (okX_t ht (j := 1) rfl) ⟨(T ||| ((1 : Int32) <<< ((nI y0) &&& 31))), rfl⟩
  have k4 : w1[t + 1]? = some (ob (a (t + 1)) 2 [.int (T ||| ((1 : Int32) <<< ((nI y0) &&& 31))), .ref (a (t + 2)), .ref (a (t + 3))]) := by rw [hw2]; exact set_eq hT
  have kp5 := keeps_set kp0 hw2 (by first | exact rfl | decide | omega | (dsimp only; omega))
  refine x_aload_n C dX2_tell_12 rfl 0 rfl rfl ?_
  refine x_get C (ci := 2) (k := 1) (t + 1) k4 rfl in_X2 (by decide) w_70 rfl dX2_tell_13 rfl ?_
  refine x_iload_n C dX2_tell_16 rfl 1 rfl rfl ?_
  refine x_iload_n C dX2_tell_17 rfl 2 rfl rfl ?_
  obtain ⟨_, k6, f7, rfl⟩ := hW3 (t + 2) _ (okX_t ht (j := 2) rfl)
  obtain ⟨w8, hw9⟩ : ∃ w : va_W, w = List.set w1 (t + 2) (iA E (a (t + 2)) 8 (upd f7 (nI y0).toNatClampNeg kd)) := ⟨_, rfl⟩
  refine x_iast C (t + 2) k6 (vp_in_nI (by omega) (by decide)) hw9.symm dX2_tell_18 rfl ?_
  have hW10 : WX (okX E a) w8 := by rw [hw9]; exact hW3.set (k := (t + 2)) (okX_t ht (j := 2) rfl) ⟨_, rfl⟩
  have k11 : w8[t + 1]? = some (ob (a (t + 1)) 2 [.int (T ||| ((1 : Int32) <<< ((nI y0) &&& 31))), .ref (a (t + 2)), .ref (a (t + 3))]) := by rw [hw9]; exact set_ne k4 (by omega)
  have k12 : w8[t + 2]? = some (iA E (a (t + 2)) 8 (upd f7 (nI y0).toNatClampNeg kd)) := by rw [hw9]; exact set_eq k6
  have kp13 := keeps_set kp5 hw9 (by first | exact rfl | decide | omega | (dsimp only; omega))
  refine x_aload_n C dX2_tell_19 rfl 0 rfl rfl ?_
  refine x_get C (ci := 2) (k := 2) (t + 1) k11 rfl in_X2 (by decide) w_73 rfl dX2_tell_20 rfl ?_
  refine x_iload_n C dX2_tell_23 rfl 1 rfl rfl ?_
  refine x_iload_n C dX2_tell_24 rfl 3 rfl rfl ?_
  obtain ⟨_, k14, g15, gb16, rfl⟩ := hW10 (t + 3) _ (okX_t ht (j := 3) rfl)
  have gb17 := updn_le (i := y0) (v := ow) gb16 (by omega)
  obtain ⟨w18, hw19⟩ : ∃ w : va_W, w = List.set w8 (t + 3) (iA E (a (t + 3)) 8 (upd (fun j => nI (g15 j)) y0 (nI ow))) := ⟨_, rfl⟩
  refine x_iask C y0 (nI_clamp (by omega)) (nI_pos (by omega)) (by omega) (t + 3) k14 hw19.symm dX2_tell_25 rfl ?_
  have hW20 : WX (okX E a) w18 := by rw [hw19]; exact hW10.set (k := (t + 3)) (okX_t ht (j := 3) rfl) ⟨_, gb17, iA_n (upd_nI g15 y0 ow)⟩
  have k21 : w18[t + 1]? = some (ob (a (t + 1)) 2 [.int (T ||| ((1 : Int32) <<< ((nI y0) &&& 31))), .ref (a (t + 2)), .ref (a (t + 3))]) := by rw [hw19]; exact set_ne k11 (by omega)
  have k22 : w18[t + 2]? = some (iA E (a (t + 2)) 8 (upd f7 (nI y0).toNatClampNeg kd)) := by rw [hw19]; exact set_ne k12 (by omega)
  have k23 : w18[t + 3]? = some (iA E (a (t + 3)) 8 (upd (fun j => nI (g15 j)) y0 (nI ow))) := by rw [hw19]; exact set_eq k14
  have kp24 := keeps_set kp13 hw19 (by first | exact rfl | decide | omega | (dsimp only; omega))
  have k25 : w18[t + 3]? = some (iA E (a (t + 3)) 8 (fun j => nI ((updn g15 y0 ow) j))) := by rw [← upd_nI]; exact k23
  exact x_vret C hr hlk dX2_tell_26 ⟨hW20, kp24, k21⟩
set_option maxRecDepth 20000 in
set_option maxHeartbeats 4000000 in
theorem c_Hens_copyX (E : xE) (l : Launch) (a : Nat → Nat) (ws : va_W) (hW : WX (okX E a) ws) (t : Nat) (ht : tb t) (u : Nat) (hu : tb u) (htu : t ≠ u) (T : Int32) (hT : ws[u + 1]? = some (ob (a (u + 1)) 2 [.int T, .ref (a (u + 2)), .ref (a (u + 3))])) : xV E l yX2_copyFrom cX2_copyFrom 2 1 0 0 [.ref (a (t + 1)), .ref (a (u + 1))] ws (fun w => WX (okX E a) w ∧ keeps ws w (fun q => t + 1 ≤ q ∧ q < t + 4) ∧ (w[t + 1]? = some (ob (a (t + 1)) 2 [.int T, .ref (a (t + 2)), .ref (a (t + 3))]))) := by
  refine xV_start (lv := [(0, .ref (a (t + 1))), (1, .ref (a (u + 1)))]) RX2 (by decide) rfl (Nat.le_of_ble_eq_true rfl) rfl (fun p e s m below meth c A C hr hlk hin => ?_)
  have htb := tb_lo ht
  have hub := tb_lo hu
  have htu2 := tb_ne ht hu htu
  have kp0 : keeps ws ws (fun q => t + 1 ≤ q ∧ q < t + 4) := keeps_rf
  refine x_aload_n C dX2_copyFrom_0 rfl 0 rfl rfl ?_
  refine x_aload_n C dX2_copyFrom_1 rfl 1 rfl rfl ?_
  refine x_get C (ci := 2) (k := 0) (u + 1) hT rfl in_X2 (by decide) w_68 rfl dX2_copyFrom_2 rfl ?_
  obtain ⟨_, k1, v2, rfl⟩ := hW (t + 1) _ (okX_t ht (j := 1) rfl)
  obtain ⟨w3, hw4⟩ : ∃ w : va_W, w = List.set ws (t + 1) (ob (a (t + 1)) 2 [.int T, .ref (a (t + 2)), .ref (a (t + 3))]) := ⟨_, rfl⟩
  refine x_put C (ci := 2) (k := 0) (ty := .int) (t + 1) k1 rfl in_X2 tyX2 tyX2_ok nmX2 (by decide) w_68 rfl rfl rfl rfl (Nat.le_of_ble_eq_true rfl) hw4.symm dX2_copyFrom_5 rfl ?_
  have hW5 : WX (okX E a) w3 := by rw [hw4]; exact hW.set (k := (t + 1)) (okX_t ht (j := 1) rfl) ⟨T, rfl⟩
  have k6 : w3[u + 1]? = some (ob (a (u + 1)) 2 [.int T, .ref (a (u + 2)), .ref (a (u + 3))]) := by rw [hw4]; exact set_ne hT (by omega)
  have k7 : w3[t + 1]? = some (ob (a (t + 1)) 2 [.int T, .ref (a (t + 2)), .ref (a (t + 3))]) := by rw [hw4]; exact set_eq k1
  have kp8 := keeps_set kp0 hw4 (by first | exact rfl | decide | omega | (dsimp only; omega))
  refine x_aload_n C dX2_copyFrom_8 rfl 1 rfl rfl ?_
  refine x_get C (ci := 2) (k := 1) (u + 1) k6 rfl in_X2 (by decide) w_70 rfl dX2_copyFrom_9 rfl ?_
  refine x_iconst C (v := 0) dX2_copyFrom_12 (by decide) rfl ?_
  refine x_aload_n C dX2_copyFrom_13 rfl 0 rfl rfl ?_
  refine x_get C (ci := 2) (k := 1) (t + 1) k7 rfl in_X2 (by decide) w_70 rfl dX2_copyFrom_14 rfl ?_
  refine x_iconst C (v := 0) dX2_copyFrom_17 (by decide) rfl ?_
  refine x_bipush C (v := 8) dX2_copyFrom_18 (by decide) rfl ?_
  obtain ⟨_, k9, f10, rfl⟩ := hW5 (u + 2) _ (okX_t hu (j := 2) rfl)
  obtain ⟨_, k11, f12, rfl⟩ := hW5 (t + 2) _ (okX_t ht (j := 2) rfl)
  obtain ⟨w13, hw14⟩ : ∃ w : va_W, w = List.set w3 (t + 2) (iA E (a (t + 2)) 8 (va_cpy f10 f12 0 0 8)) := ⟨_, rfl⟩
  refine x_copy C (u + 2) (t + 2) k9 k11 w_796 w_798 w_797 w_20 (by decide) (by decide) (by decide) (by decide) (by decide) (Nat.le_of_ble_eq_true rfl) (Nat.le_of_ble_eq_true rfl) hw14.symm dX2_copyFrom_20 rfl ?_
  have hW15 : WX (okX E a) w13 := by rw [hw14]; exact hW5.set (k := (t + 2)) (okX_t ht (j := 2) rfl) ⟨_, rfl⟩
  have k16 : w13[u + 1]? = some (ob (a (u + 1)) 2 [.int T, .ref (a (u + 2)), .ref (a (u + 3))]) := by rw [hw14]; exact set_ne k6 (by omega)
  have k17 : w13[t + 1]? = some (ob (a (t + 1)) 2 [.int T, .ref (a (t + 2)), .ref (a (t + 3))]) := by rw [hw14]; exact set_ne k7 (by omega)
  have k18 : w13[u + 2]? = some (iA E (a (u + 2)) 8 f10) := by rw [hw14]; exact set_ne k9 (by omega)
  have k19 : w13[t + 2]? = some (iA E (a (t + 2)) 8 (va_cpy f10 f12 0 0 8)) := by rw [hw14]; exact set_eq k11
  have kp20 := keeps_set kp8 hw14 (by first | exact rfl | decide | omega | (dsimp only; omega))
  refine x_aload_n C dX2_copyFrom_23 rfl 1 rfl rfl ?_
  refine x_get C (ci := 2) (k := 2) (u + 1) k16 rfl in_X2 (by decide) w_73 rfl dX2_copyFrom_24 rfl ?_
  refine x_iconst C (v := 0) dX2_copyFrom_27 (by decide) rfl ?_
  refine x_aload_n C dX2_copyFrom_28 rfl 0 rfl rfl ?_
  refine x_get C (ci := 2) (k := 2) (t + 1) k17 rfl in_X2 (by decide) w_73 rfl dX2_copyFrom_29 rfl ?_
  refine x_iconst C (v := 0) dX2_copyFrom_32 (by decide) rfl ?_
  refine x_bipush C (v := 8) dX2_copyFrom_33 (by decide) rfl ?_
  obtain ⟨_, k21, g22, gb23, rfl⟩ := hW15 (u + 3) _ (okX_t hu (j := 3) rfl)
  obtain ⟨_, k24, g25, gb26, rfl⟩ := hW15 (t + 3) _ (okX_t ht (j := 3) rfl)
  have gb27 := cpn_le (n := 8) gb23 gb26
  obtain ⟨w28, hw29⟩ : ∃ w : va_W, w = List.set w13 (t + 3) (iA E (a (t + 3)) 8 (va_cpy (fun j => nI (g22 j)) (fun j => nI (g25 j)) 0 0 8)) := ⟨_, rfl⟩
  refine x_copy C (u + 3) (t + 3) k21 k24 w_796 w_798 w_797 w_20 (by decide) (by decide) (by decide) (by decide) (by decide) (Nat.le_of_ble_eq_true rfl) (Nat.le_of_ble_eq_true rfl) hw29.symm dX2_copyFrom_35 rfl ?_
  have hW30 : WX (okX E a) w28 := by rw [hw29]; exact hW15.set (k := (t + 3)) (okX_t ht (j := 3) rfl) ⟨_, gb27, iA_n (cpy_nI g22 g25 8)⟩
  have k31 : w28[u + 1]? = some (ob (a (u + 1)) 2 [.int T, .ref (a (u + 2)), .ref (a (u + 3))]) := by rw [hw29]; exact set_ne k16 (by omega)
  have k32 : w28[t + 1]? = some (ob (a (t + 1)) 2 [.int T, .ref (a (t + 2)), .ref (a (t + 3))]) := by rw [hw29]; exact set_ne k17 (by omega)
  have k33 : w28[u + 2]? = some (iA E (a (u + 2)) 8 f10) := by rw [hw29]; exact set_ne k18 (by omega)
  have k34 : w28[t + 2]? = some (iA E (a (t + 2)) 8 (va_cpy f10 f12 0 0 8)) := by rw [hw29]; exact set_ne k19 (by omega)
  have k35 : w28[u + 3]? = some (iA E (a (u + 3)) 8 (fun j => nI (g22 j))) := by rw [hw29]; exact set_ne k21 (by omega)
  have k36 : w28[t + 3]? = some (iA E (a (t + 3)) 8 (va_cpy (fun j => nI (g22 j)) (fun j => nI (g25 j)) 0 0 8)) := by rw [hw29]; exact set_eq k24
  have kp37 := keeps_set kp20 hw29 (by first | exact rfl | decide | omega | (dsimp only; omega))
  have k38 : w28[t + 3]? = some (iA E (a (t + 3)) 8 (fun j => nI ((cpn g22 g25 8) j))) := by rw [← cpy_nI]; exact k36
  exact x_vret C hr hlk dX2_copyFrom_38 ⟨hW30, kp37, k32⟩
set_option maxRecDepth 20000 in
set_option maxHeartbeats 4000000 in
theorem c_People_copyX (E : xE) (l : Launch) (a : Nat → Nat) (ws : va_W) (hW : WX (okX E a) ws) (t : Nat) (ht : tb t) (u : Nat) (hu : tb u) (htu : t ≠ u) (T : Int32) (hT : ws[u + 4]? = some (ob (a (u + 4)) 4 [.int T, .ref (a (u + 5)), .ref (a (u + 6)), .ref (a (u + 7)), .ref (a (u + 8))])) : xV E l yX5_copyFrom cX5_copyFrom 2 1 0 0 [.ref (a (t + 4)), .ref (a (u + 4))] ws (fun w => WX (okX E a) w ∧ keeps ws w (fun q => t + 4 ≤ q ∧ q < t + 9) ∧ (w[t + 4]? = some (ob (a (t + 4)) 4 [.int T, .ref (a (t + 5)), .ref (a (t + 6)), .ref (a (t + 7)), .ref (a (t + 8))]))) := by
  refine xV_start (lv := [(0, .ref (a (t + 4))), (1, .ref (a (u + 4)))]) RX5 (by decide) rfl (Nat.le_of_ble_eq_true rfl) rfl (fun p e s m below meth c A C hr hlk hin => ?_)
  have htb := tb_lo ht
  have hub := tb_lo hu
  have htu2 := tb_ne ht hu htu
  have kp0 : keeps ws ws (fun q => t + 4 ≤ q ∧ q < t + 9) := keeps_rf
  refine x_aload_n C dX5_copyFrom_0 rfl 0 rfl rfl ?_
  refine x_aload_n C dX5_copyFrom_1 rfl 1 rfl rfl ?_
  refine x_get C (ci := 4) (k := 0) (u + 4) hT rfl in_X5 (by decide) w_90 rfl dX5_copyFrom_2 rfl ?_
  obtain ⟨_, k1, v2, rfl⟩ := hW (t + 4) _ (okX_t ht (j := 4) rfl)
  obtain ⟨w3, hw4⟩ : ∃ w : va_W, w = List.set ws (t + 4) (ob (a (t + 4)) 4 [.int T, .ref (a (t + 5)), .ref (a (t + 6)), .ref (a (t + 7)), .ref (a (t + 8))]) := ⟨_, rfl⟩
  refine x_put C (ci := 4) (k := 0) (ty := .int) (t + 4) k1 rfl in_X5 tyX5 tyX5_ok nmX5 (by decide) w_90 rfl rfl rfl rfl (Nat.le_of_ble_eq_true rfl) hw4.symm dX5_copyFrom_5 rfl ?_
  have hW5 : WX (okX E a) w3 := by rw [hw4]; exact hW.set (k := (t + 4)) (okX_t ht (j := 4) rfl) ⟨T, rfl⟩
  have k6 : w3[u + 4]? = some (ob (a (u + 4)) 4 [.int T, .ref (a (u + 5)), .ref (a (u + 6)), .ref (a (u + 7)), .ref (a (u + 8))]) := by rw [hw4]; exact set_ne hT (by omega)
  have k7 : w3[t + 4]? = some (ob (a (t + 4)) 4 [.int T, .ref (a (t + 5)), .ref (a (t + 6)), .ref (a (t + 7)), .ref (a (t + 8))]) := by rw [hw4]; exact set_eq k1
  have kp8 := keeps_set kp0 hw4 (by first | exact rfl | decide | omega | (dsimp only; omega))
  refine x_aload_n C dX5_copyFrom_8 rfl 1 rfl rfl ?_
  refine x_get C (ci := 4) (k := 1) (u + 4) k6 rfl in_X5 (by decide) w_92 rfl dX5_copyFrom_9 rfl ?_
  refine x_iconst C (v := 0) dX5_copyFrom_12 (by decide) rfl ?_
  refine x_aload_n C dX5_copyFrom_13 rfl 0 rfl rfl ?_
  refine x_get C (ci := 4) (k := 1) (t + 4) k7 rfl in_X5 (by decide) w_92 rfl dX5_copyFrom_14 rfl ?_
  refine x_iconst C (v := 0) dX5_copyFrom_17 (by decide) rfl ?_
  refine x_bipush C (v := 8) dX5_copyFrom_18 (by decide) rfl ?_
  obtain ⟨_, k9, f10, rfl⟩ := hW5 (u + 5) _ (okX_t hu (j := 5) rfl)
  obtain ⟨_, k11, f12, rfl⟩ := hW5 (t + 5) _ (okX_t ht (j := 5) rfl)
  obtain ⟨w13, hw14⟩ : ∃ w : va_W, w = List.set w3 (t + 5) (iA E (a (t + 5)) 8 (va_cpy f10 f12 0 0 8)) := ⟨_, rfl⟩
  refine x_copy C (u + 5) (t + 5) k9 k11 w_803 w_798 w_797 w_20 (by decide) (by decide) (by decide) (by decide) (by decide) (Nat.le_of_ble_eq_true rfl) (Nat.le_of_ble_eq_true rfl) hw14.symm dX5_copyFrom_20 rfl ?_
  have hW15 : WX (okX E a) w13 := by rw [hw14]; exact hW5.set (k := (t + 5)) (okX_t ht (j := 5) rfl) ⟨_, rfl⟩
  have k16 : w13[u + 4]? = some (ob (a (u + 4)) 4 [.int T, .ref (a (u + 5)), .ref (a (u + 6)), .ref (a (u + 7)), .ref (a (u + 8))]) := by rw [hw14]; exact set_ne k6 (by omega)
  have k17 : w13[t + 4]? = some (ob (a (t + 4)) 4 [.int T, .ref (a (t + 5)), .ref (a (t + 6)), .ref (a (t + 7)), .ref (a (t + 8))]) := by rw [hw14]; exact set_ne k7 (by omega)
  have k18 : w13[u + 5]? = some (iA E (a (u + 5)) 8 f10) := by rw [hw14]; exact set_ne k9 (by omega)
  have k19 : w13[t + 5]? = some (iA E (a (t + 5)) 8 (va_cpy f10 f12 0 0 8)) := by rw [hw14]; exact set_eq k11
  have kp20 := keeps_set kp8 hw14 (by first | exact rfl | decide | omega | (dsimp only; omega))
  refine x_aload_n C dX5_copyFrom_23 rfl 1 rfl rfl ?_
  refine x_get C (ci := 4) (k := 2) (u + 4) k16 rfl in_X5 (by decide) w_94 rfl dX5_copyFrom_24 rfl ?_
  refine x_iconst C (v := 0) dX5_copyFrom_27 (by decide) rfl ?_
  refine x_aload_n C dX5_copyFrom_28 rfl 0 rfl rfl ?_
  refine x_get C (ci := 4) (k := 2) (t + 4) k17 rfl in_X5 (by decide) w_94 rfl dX5_copyFrom_29 rfl ?_
  refine x_iconst C (v := 0) dX5_copyFrom_32 (by decide) rfl ?_
  refine x_bipush C (v := 8) dX5_copyFrom_33 (by decide) rfl ?_
  obtain ⟨_, k21, f22, rfl⟩ := hW15 (u + 6) _ (okX_t hu (j := 6) rfl)
  obtain ⟨_, k23, f24, rfl⟩ := hW15 (t + 6) _ (okX_t ht (j := 6) rfl)
  obtain ⟨w25, hw26⟩ : ∃ w : va_W, w = List.set w13 (t + 6) (iA E (a (t + 6)) 8 (va_cpy f22 f24 0 0 8)) := ⟨_, rfl⟩
  refine x_copy C (u + 6) (t + 6) k21 k23 w_803 w_798 w_797 w_20 (by decide) (by decide) (by decide) (by decide) (by decide) (Nat.le_of_ble_eq_true rfl) (Nat.le_of_ble_eq_true rfl) hw26.symm dX5_copyFrom_35 rfl ?_
  have hW27 : WX (okX E a) w25 := by rw [hw26]; exact hW15.set (k := (t + 6)) (okX_t ht (j := 6) rfl) ⟨_, rfl⟩
  have k28 : w25[u + 4]? = some (ob (a (u + 4)) 4 [.int T, .ref (a (u + 5)), .ref (a (u + 6)), .ref (a (u + 7)), .ref (a (u + 8))]) := by rw [hw26]; exact set_ne k16 (by omega)
  have k29 : w25[t + 4]? = some (ob (a (t + 4)) 4 [.int T, .ref (a (t + 5)), .ref (a (t + 6)), .ref (a (t + 7)), .ref (a (t + 8))]) := by rw [hw26]; exact set_ne k17 (by omega)
  have k30 : w25[u + 5]? = some (iA E (a (u + 5)) 8 f10) := by rw [hw26]; exact set_ne k18 (by omega)
  have k31 : w25[t + 5]? = some (iA E (a (t + 5)) 8 (va_cpy f10 f12 0 0 8)) := by rw [hw26]; exact set_ne k19 (by omega)
  have k32 : w25[u + 6]? = some (iA E (a (u + 6)) 8 f22) := by rw [hw26]; exact set_ne k21 (by omega)
  have k33 : w25[t + 6]? = some (iA E (a (t + 6)) 8 (va_cpy f22 f24 0 0 8)) := by rw [hw26]; exact set_eq k23
  have kp34 := keeps_set kp20 hw26 (by first | exact rfl | decide | omega | (dsimp only; omega))
  refine x_aload_n C dX5_copyFrom_38 rfl 1 rfl rfl ?_
  refine x_get C (ci := 4) (k := 3) (u + 4) k28 rfl in_X5 (by decide) w_97 rfl dX5_copyFrom_39 rfl ?_
  refine x_iconst C (v := 0) dX5_copyFrom_42 (by decide) rfl ?_
  refine x_aload_n C dX5_copyFrom_43 rfl 0 rfl rfl ?_
  refine x_get C (ci := 4) (k := 3) (t + 4) k29 rfl in_X5 (by decide) w_97 rfl dX5_copyFrom_44 rfl ?_
  refine x_iconst C (v := 0) dX5_copyFrom_47 (by decide) rfl ?_
  refine x_bipush C (v := 8) dX5_copyFrom_48 (by decide) rfl ?_
  obtain ⟨_, k35, f36, rfl⟩ := hW27 (u + 7) _ (okX_t hu (j := 7) rfl)
  obtain ⟨_, k37, f38, rfl⟩ := hW27 (t + 7) _ (okX_t ht (j := 7) rfl)
  obtain ⟨w39, hw40⟩ : ∃ w : va_W, w = List.set w25 (t + 7) (iA E (a (t + 7)) 8 (va_cpy f36 f38 0 0 8)) := ⟨_, rfl⟩
  refine x_copy C (u + 7) (t + 7) k35 k37 w_803 w_798 w_797 w_20 (by decide) (by decide) (by decide) (by decide) (by decide) (Nat.le_of_ble_eq_true rfl) (Nat.le_of_ble_eq_true rfl) hw40.symm dX5_copyFrom_50 rfl ?_
  have hW41 : WX (okX E a) w39 := by rw [hw40]; exact hW27.set (k := (t + 7)) (okX_t ht (j := 7) rfl) ⟨_, rfl⟩
  have k42 : w39[u + 4]? = some (ob (a (u + 4)) 4 [.int T, .ref (a (u + 5)), .ref (a (u + 6)), .ref (a (u + 7)), .ref (a (u + 8))]) := by rw [hw40]; exact set_ne k28 (by omega)
  have k43 : w39[t + 4]? = some (ob (a (t + 4)) 4 [.int T, .ref (a (t + 5)), .ref (a (t + 6)), .ref (a (t + 7)), .ref (a (t + 8))]) := by rw [hw40]; exact set_ne k29 (by omega)
  have k44 : w39[u + 5]? = some (iA E (a (u + 5)) 8 f10) := by rw [hw40]; exact set_ne k30 (by omega)
  have k45 : w39[t + 5]? = some (iA E (a (t + 5)) 8 (va_cpy f10 f12 0 0 8)) := by rw [hw40]; exact set_ne k31 (by omega)
  have k46 : w39[u + 6]? = some (iA E (a (u + 6)) 8 f22) := by rw [hw40]; exact set_ne k32 (by omega)
  have k47 : w39[t + 6]? = some (iA E (a (t + 6)) 8 (va_cpy f22 f24 0 0 8)) := by rw [hw40]; exact set_ne k33 (by omega)
  have k48 : w39[u + 7]? = some (iA E (a (u + 7)) 8 f36) := by rw [hw40]; exact set_ne k35 (by omega)
  have k49 : w39[t + 7]? = some (iA E (a (t + 7)) 8 (va_cpy f36 f38 0 0 8)) := by rw [hw40]; exact set_eq k37
  have kp50 := keeps_set kp34 hw40 (by first | exact rfl | decide | omega | (dsimp only; omega))
  refine x_aload_n C dX5_copyFrom_53 rfl 1 rfl rfl ?_
  refine x_get C (ci := 4) (k := 4) (u + 4) k42 rfl in_X5 (by decide) w_100 rfl dX5_copyFrom_54 rfl ?_
  refine x_iconst C (v := 0) dX5_copyFrom_57 (by decide) rfl ?_
  refine x_aload_n C dX5_copyFrom_58 rfl 0 rfl rfl ?_
  refine x_get C (ci := 4) (k := 4) (t + 4) k43 rfl in_X5 (by decide) w_100 rfl dX5_copyFrom_59 rfl ?_
  refine x_iconst C (v := 0) dX5_copyFrom_62 (by decide) rfl ?_
  refine x_bipush C (v := 8) dX5_copyFrom_63 (by decide) rfl ?_
  obtain ⟨_, k51, f52, rfl⟩ := hW41 (u + 8) _ (okX_t hu (j := 8) rfl)
  obtain ⟨_, k53, f54, rfl⟩ := hW41 (t + 8) _ (okX_t ht (j := 8) rfl)
  obtain ⟨w55, hw56⟩ : ∃ w : va_W, w = List.set w39 (t + 8) (iA E (a (t + 8)) 8 (va_cpy f52 f54 0 0 8)) := ⟨_, rfl⟩
  refine x_copy C (u + 8) (t + 8) k51 k53 w_803 w_798 w_797 w_20 (by decide) (by decide) (by decide) (by decide) (by decide) (Nat.le_of_ble_eq_true rfl) (Nat.le_of_ble_eq_true rfl) hw56.symm dX5_copyFrom_65 rfl ?_
  have hW57 : WX (okX E a) w55 := by rw [hw56]; exact hW41.set (k := (t + 8)) (okX_t ht (j := 8) rfl) ⟨_, rfl⟩
  have k58 : w55[u + 4]? = some (ob (a (u + 4)) 4 [.int T, .ref (a (u + 5)), .ref (a (u + 6)), .ref (a (u + 7)), .ref (a (u + 8))]) := by rw [hw56]; exact set_ne k42 (by omega)
  have k59 : w55[t + 4]? = some (ob (a (t + 4)) 4 [.int T, .ref (a (t + 5)), .ref (a (t + 6)), .ref (a (t + 7)), .ref (a (t + 8))]) := by rw [hw56]; exact set_ne k43 (by omega)
  have k60 : w55[u + 5]? = some (iA E (a (u + 5)) 8 f10) := by rw [hw56]; exact set_ne k44 (by omega)
  have k61 : w55[t + 5]? = some (iA E (a (t + 5)) 8 (va_cpy f10 f12 0 0 8)) := by rw [hw56]; exact set_ne k45 (by omega)
  have k62 : w55[u + 6]? = some (iA E (a (u + 6)) 8 f22) := by rw [hw56]; exact set_ne k46 (by omega)
  have k63 : w55[t + 6]? = some (iA E (a (t + 6)) 8 (va_cpy f22 f24 0 0 8)) := by rw [hw56]; exact set_ne k47 (by omega)
  have k64 : w55[u + 7]? = some (iA E (a (u + 7)) 8 f36) := by rw [hw56]; exact set_ne k48 (by omega)
  have k65 : w55[t + 7]? = some (iA E (a (t + 7)) 8 (va_cpy f36 f38 0 0 8)) := by rw [hw56]; exact set_ne k49 (by omega)
  have k66 : w55[u + 8]? = some (iA E (a (u + 8)) 8 f52) := by rw [hw56]; exact set_ne k51 (by omega)
  have k67 : w55[t + 8]? = some (iA E (a (t + 8)) 8 (va_cpy f52 f54 0 0 8)) := by rw [hw56]; exact set_eq k53
  have kp68 := keeps_set kp50 hw56 (by first | exact rfl | decide | omega | (dsimp only; omega))
  exact x_vret C hr hlk dX5_copyFrom_68 ⟨hW57, kp68, k59⟩
set_option maxRecDepth 20000 in
set_option maxHeartbeats 4000000 in
theorem c_Town_copyX (E : xE) (l : Launch) (a : Nat → Nat) (ws : va_W) (hW : WX (okX E a) ws) (t : Nat) (ht : tb t) (u : Nat) (hu : tb u) (htu : t ≠ u) (T : Int32) (hT : ws[u + 1]? = some (ob (a (u + 1)) 2 [.int T, .ref (a (u + 2)), .ref (a (u + 3))])) (T4 : Int32) (hT4 : ws[u + 4]? = some (ob (a (u + 4)) 4 [.int T4, .ref (a (u + 5)), .ref (a (u + 6)), .ref (a (u + 7)), .ref (a (u + 8))])) : xV E l yX9_copyFrom cX9_copyFrom 2 2 0 0 [.ref (a t), .ref (a u)] ws (fun w => WX (okX E a) w ∧ keeps ws w (fun q => t ≤ q ∧ q < t + 22) ∧ (w[t + 1]? = some (ob (a (t + 1)) 2 [.int T, .ref (a (t + 2)), .ref (a (t + 3))]) ∧ w[t + 4]? = some (ob (a (t + 4)) 4 [.int T4, .ref (a (t + 5)), .ref (a (t + 6)), .ref (a (t + 7)), .ref (a (t + 8))]))) := by
  refine xV_start (lv := [(0, .ref (a t)), (1, .ref (a u))]) RX9 (by decide) rfl (Nat.le_of_ble_eq_true rfl) rfl (fun p e s m below meth c A C hr hlk hin => ?_)
  have htb := tb_lo ht
  have hub := tb_lo hu
  have htu2 := tb_ne ht hu htu
  have kp0 : keeps ws ws (fun q => t ≤ q ∧ q < t + 22) := keeps_rf
  refine x_aload_n C dX9_copyFrom_0 rfl 0 rfl rfl ?_
  refine x_aload_n C dX9_copyFrom_1 rfl 1 rfl rfl ?_
  obtain ⟨_, k1, n2, v4, v5, v6, v7, v8, bn3, rfl⟩ := hW (u + 0) _ (okX_t hu (j := 0) rfl)
  refine x_get C (ci := 8) (k := 0) u k1 rfl in_X9 (by decide) w_195 rfl dX9_copyFrom_2 rfl ?_
  obtain ⟨_, k9, n10, v12, v13, v14, v15, v16, bn11, rfl⟩ := hW (t + 0) _ (okX_t ht (j := 0) rfl)
  obtain ⟨w17, hw18⟩ : ∃ w : va_W, w = List.set ws t (ob (a t) 8 [.int (nI n2), .int v12, .ref (a (t + 1)), .ref (a (t + 4)), .ref (a (t + 9)), .ref (a (t + 16)), .int v13, .int v14, .int v15, .int v16]) := ⟨_, rfl⟩
  refine x_put C (ci := 8) (k := 0) (ty := .int) t k9 rfl in_X9 tyX9 tyX9_ok nmX9 (by decide) w_195 rfl rfl rfl rfl (Nat.le_of_ble_eq_true rfl) hw18.symm dX9_copyFrom_5 rfl ?_
  have hW19 : WX (okX E a) w17 := by rw [hw18]; exact hW.set (k := t) (okX_t ht (j := 0) rfl) ⟨n2, v12, v13, v14, v15, v16, by omega, rfl⟩
  have k20 : w17[u + 1]? = some (ob (a (u + 1)) 2 [.int T, .ref (a (u + 2)), .ref (a (u + 3))]) := by rw [hw18]; exact set_ne hT (by omega)
  have k21 : w17[u + 4]? = some (ob (a (u + 4)) 4 [.int T4, .ref (a (u + 5)), .ref (a (u + 6)), .ref (a (u + 7)), .ref (a (u + 8))]) := by rw [hw18]; exact set_ne hT4 (by omega)
  have k22 : w17[u]? = some (ob (a u) 8 [.int (nI n2), .int v4, .ref (a (u + 1)), .ref (a (u + 4)), .ref (a (u + 9)), .ref (a (u + 16)), .int v5, .int v6, .int v7, .int v8]) := by rw [hw18]; exact set_ne k1 (by omega)
  have k23 : w17[t]? = some (ob (a t) 8 [.int (nI n2), .int v12, .ref (a (t + 1)), .ref (a (t + 4)), .ref (a (t + 9)), .ref (a (t + 16)), .int v13, .int v14, .int v15, .int v16]) := by rw [hw18]; exact set_eq k9
  have kp24 := keeps_set kp0 hw18 (by first | exact rfl | decide | omega | (dsimp only; omega))
  refine x_aload_n C dX9_copyFrom_8 rfl 0 rfl rfl ?_
  refine x_aload_n C dX9_copyFrom_9 rfl 1 rfl rfl ?_
  refine x_get C (ci := 8) (k := 1) u k22 rfl in_X9 (by decide) w_198 rfl dX9_copyFrom_10 rfl ?_
  obtain ⟨w25, hw26⟩ : ∃ w : va_W, w = List.set w17 t (ob (a t) 8 [.int (nI n2), .int v4, .ref (a (t + 1)), .ref (a (t + 4)), .ref (a (t + 9)), .ref (a (t + 16)), .int v13, .int v14, .int v15, .int v16]) := ⟨_, rfl⟩
  refine x_put C (ci := 8) (k := 1) (ty := .int) t k23 rfl in_X9 tyX9 tyX9_ok nmX9 (by decide) w_198 rfl rfl rfl rfl (Nat.le_of_ble_eq_true rfl) hw26.symm dX9_copyFrom_13 rfl ?_
  have hW27 : WX (okX E a) w25 := by rw [hw26]; exact hW19.set (k := t) (okX_t ht (j := 0) rfl) ⟨n2, v4, v13, v14, v15, v16, by omega, rfl⟩
  have k28 : w25[u + 1]? = some (ob (a (u + 1)) 2 [.int T, .ref (a (u + 2)), .ref (a (u + 3))]) := by rw [hw26]; exact set_ne k20 (by omega)
  have k29 : w25[u + 4]? = some (ob (a (u + 4)) 4 [.int T4, .ref (a (u + 5)), .ref (a (u + 6)), .ref (a (u + 7)), .ref (a (u + 8))]) := by rw [hw26]; exact set_ne k21 (by omega)
  have k30 : w25[u]? = some (ob (a u) 8 [.int (nI n2), .int v4, .ref (a (u + 1)), .ref (a (u + 4)), .ref (a (u + 9)), .ref (a (u + 16)), .int v5, .int v6, .int v7, .int v8]) := by rw [hw26]; exact set_ne k22 (by omega)
  have k31 : w25[t]? = some (ob (a t) 8 [.int (nI n2), .int v4, .ref (a (t + 1)), .ref (a (t + 4)), .ref (a (t + 9)), .ref (a (t + 16)), .int v13, .int v14, .int v15, .int v16]) := by rw [hw26]; exact set_eq k23
  have kp32 := keeps_set kp24 hw26 (by first | exact rfl | decide | omega | (dsimp only; omega))
  refine x_aload_n C dX9_copyFrom_16 rfl 0 rfl rfl ?_
  refine x_get C (ci := 8) (k := 2) t k31 rfl in_X9 (by decide) w_200 rfl dX9_copyFrom_17 rfl ?_
  refine x_aload_n C dX9_copyFrom_20 rfl 1 rfl rfl ?_
  refine x_get C (ci := 8) (k := 2) u k30 rfl in_X9 (by decide) w_200 rfl dX9_copyFrom_21 rfl ?_
  obtain ⟨_, k33, v34, rfl⟩ := hW27 (t + 1) _ (okX_t ht (j := 1) rfl)
  refine x_vv C (As := [.ref (a (u + 1))]) (rest := []) (c_Hens_copyX E l a w25 hW27 t ht u hu htu T k28) mf_X2_copyFrom w_792 (t + 1) k33 rfl rfl rfl (Nat.le_of_ble_eq_true rfl) ⟨(Nat.le_of_ble_eq_true rfl), (Nat.le_of_ble_eq_true rfl)⟩ ⟨(Nat.le_of_ble_eq_true rfl), (Nat.le_of_ble_eq_true rfl)⟩ dX9_copyFrom_24 rfl (fun w37 h35 => ?_)
  obtain ⟨hW38, kq39, x40⟩ := h35
  have k41 : w37[u + 1]? = some (ob (a (u + 1)) 2 [.int T, .ref (a (u + 2)), .ref (a (u + 3))]) := keeps_at kq39 k28 (by first | decide | omega | (dsimp only; omega))
  have k42 : w37[u + 4]? = some (ob (a (u + 4)) 4 [.int T4, .ref (a (u + 5)), .ref (a (u + 6)), .ref (a (u + 7)), .ref (a (u + 8))]) := keeps_at kq39 k29 (by first | decide | omega | (dsimp only; omega))
  have k43 : w37[u]? = some (ob (a u) 8 [.int (nI n2), .int v4, .ref (a (u + 1)), .ref (a (u + 4)), .ref (a (u + 9)), .ref (a (u + 16)), .int v5, .int v6, .int v7, .int v8]) := keeps_at kq39 k30 (by first | decide | omega | (dsimp only; omega))
  have k44 : w37[t]? = some (ob (a t) 8 [.int (nI n2), .int v4, .ref (a (t + 1)), .ref (a (t + 4)), .ref (a (t + 9)), .ref (a (t + 16)), .int v13, .int v14, .int v15, .int v16]) := keeps_at kq39 k31 (by first | decide | omega | (dsimp only; omega))
  have kp45 := keeps_tr kp32 kq39 (fun q hq => by first | omega | (dsimp only at *; omega))
  have k46 : w37[t + 1]? = some (ob (a (t + 1)) 2 [.int T, .ref (a (t + 2)), .ref (a (t + 3))]) := x40
  refine x_aload_n C dX9_copyFrom_27 rfl 0 rfl rfl ?_
  refine x_get C (ci := 8) (k := 3) t k44 rfl in_X9 (by decide) w_203 rfl dX9_copyFrom_28 rfl ?_
  refine x_aload_n C dX9_copyFrom_31 rfl 1 rfl rfl ?_
  refine x_get C (ci := 8) (k := 3) u k43 rfl in_X9 (by decide) w_203 rfl dX9_copyFrom_32 rfl ?_
  obtain ⟨_, k47, v48, rfl⟩ := hW38 (t + 4) _ (okX_t ht (j := 4) rfl)
  refine x_vv C (As := [.ref (a (u + 4))]) (rest := []) (c_People_copyX E l a w37 hW38 t ht u hu htu T4 k42) mf_X5_copyFrom w_799 (t + 4) k47 rfl rfl rfl (Nat.le_of_ble_eq_true rfl) ⟨(Nat.le_of_ble_eq_true rfl), (Nat.le_of_ble_eq_true rfl)⟩ ⟨(Nat.le_of_ble_eq_true rfl), (Nat.le_of_ble_eq_true rfl)⟩ dX9_copyFrom_35 rfl (fun w51 h49 => ?_)
  obtain ⟨hW52, kq53, x54⟩ := h49
  have k55 : w51[u + 1]? = some (ob (a (u + 1)) 2 [.int T, .ref (a (u + 2)), .ref (a (u + 3))]) := keeps_at kq53 k41 (by first | decide | omega | (dsimp only; omega))
  have k56 : w51[u + 4]? = some (ob (a (u + 4)) 4 [.int T4, .ref (a (u + 5)), .ref (a (u + 6)), .ref (a (u + 7)), .ref (a (u + 8))]) := keeps_at kq53 k42 (by first | decide | omega | (dsimp only; omega))
  have k57 : w51[u]? = some (ob (a u) 8 [.int (nI n2), .int v4, .ref (a (u + 1)), .ref (a (u + 4)), .ref (a (u + 9)), .ref (a (u + 16)), .int v5, .int v6, .int v7, .int v8]) := keeps_at kq53 k43 (by first | decide | omega | (dsimp only; omega))
  have k58 : w51[t]? = some (ob (a t) 8 [.int (nI n2), .int v4, .ref (a (t + 1)), .ref (a (t + 4)), .ref (a (t + 9)), .ref (a (t + 16)), .int v13, .int v14, .int v15, .int v16]) := keeps_at kq53 k44 (by first | decide | omega | (dsimp only; omega))
  have k59 : w51[t + 1]? = some (ob (a (t + 1)) 2 [.int T, .ref (a (t + 2)), .ref (a (t + 3))]) := keeps_at kq53 k46 (by first | decide | omega | (dsimp only; omega))
  have kp60 := keeps_tr kp45 kq53 (fun q hq => by first | omega | (dsimp only at *; omega))
  have k61 : w51[t + 4]? = some (ob (a (t + 4)) 4 [.int T4, .ref (a (t + 5)), .ref (a (t + 6)), .ref (a (t + 7)), .ref (a (t + 8))]) := x54
  refine x_aload_n C dX9_copyFrom_38 rfl 0 rfl rfl ?_
  refine x_get C (ci := 8) (k := 4) t k58 rfl in_X9 (by decide) w_206 rfl dX9_copyFrom_39 rfl ?_
  refine x_aload_n C dX9_copyFrom_42 rfl 1 rfl rfl ?_
  refine x_get C (ci := 8) (k := 4) u k57 rfl in_X9 (by decide) w_206 rfl dX9_copyFrom_43 rfl ?_
  obtain ⟨_, k62, n63, bn64, rfl⟩ := hW52 (t + 9) _ (okX_t ht (j := 9) rfl)
  refine x_vv C (As := [.ref (a (u + 9))]) (rest := []) (c_Eggs_copy E l a w51 hW52 t ht u hu htu) mf_X1_copyFrom w_804 (t + 9) k62 rfl rfl rfl (Nat.le_of_ble_eq_true rfl) ⟨(Nat.le_of_ble_eq_true rfl), (Nat.le_of_ble_eq_true rfl)⟩ ⟨(Nat.le_of_ble_eq_true rfl), (Nat.le_of_ble_eq_true rfl)⟩ dX9_copyFrom_46 rfl (fun w67 h65 => ?_)
  obtain ⟨hW68, kq69⟩ := h65
  have k70 : w67[u + 1]? = some (ob (a (u + 1)) 2 [.int T, .ref (a (u + 2)), .ref (a (u + 3))]) := keeps_at kq69 k55 (by first | decide | omega | (dsimp only; omega))
  have k71 : w67[u + 4]? = some (ob (a (u + 4)) 4 [.int T4, .ref (a (u + 5)), .ref (a (u + 6)), .ref (a (u + 7)), .ref (a (u + 8))]) := keeps_at kq69 k56 (by first | decide | omega | (dsimp only; omega))
  have k72 : w67[u]? = some (ob (a u) 8 [.int (nI n2), .int v4, .ref (a (u + 1)), .ref (a (u + 4)), .ref (a (u + 9)), .ref (a (u + 16)), .int v5, .int v6, .int v7, .int v8]) := keeps_at kq69 k57 (by first | decide | omega | (dsimp only; omega))
  have k73 : w67[t]? = some (ob (a t) 8 [.int (nI n2), .int v4, .ref (a (t + 1)), .ref (a (t + 4)), .ref (a (t + 9)), .ref (a (t + 16)), .int v13, .int v14, .int v15, .int v16]) := keeps_at kq69 k58 (by first | decide | omega | (dsimp only; omega))
  have k74 : w67[t + 1]? = some (ob (a (t + 1)) 2 [.int T, .ref (a (t + 2)), .ref (a (t + 3))]) := keeps_at kq69 k59 (by first | decide | omega | (dsimp only; omega))
  have k75 : w67[t + 4]? = some (ob (a (t + 4)) 4 [.int T4, .ref (a (t + 5)), .ref (a (t + 6)), .ref (a (t + 7)), .ref (a (t + 8))]) := keeps_at kq69 k61 (by first | decide | omega | (dsimp only; omega))
  have kp76 := keeps_tr kp60 kq69 (fun q hq => by first | omega | (dsimp only at *; omega))
  refine x_aload_n C dX9_copyFrom_49 rfl 0 rfl rfl ?_
  refine x_get C (ci := 8) (k := 5) t k73 rfl in_X9 (by decide) w_211 rfl dX9_copyFrom_50 rfl ?_
  refine x_aload_n C dX9_copyFrom_53 rfl 1 rfl rfl ?_
  refine x_get C (ci := 8) (k := 5) u k72 rfl in_X9 (by decide) w_211 rfl dX9_copyFrom_54 rfl ?_
  obtain ⟨_, k77, v78, rfl⟩ := hW68 (t + 16) _ (okX_t ht (j := 16) rfl)
  refine x_vv C (As := [.ref (a (u + 16))]) (rest := []) (c_Works_copy E l a w67 hW68 t ht u hu htu) mf_X10_copyFrom w_809 (t + 16) k77 rfl rfl rfl (Nat.le_of_ble_eq_true rfl) ⟨(Nat.le_of_ble_eq_true rfl), (Nat.le_of_ble_eq_true rfl)⟩ ⟨(Nat.le_of_ble_eq_true rfl), (Nat.le_of_ble_eq_true rfl)⟩ dX9_copyFrom_57 rfl (fun w81 h79 => ?_)
  obtain ⟨hW82, kq83⟩ := h79
  have k84 : w81[u + 1]? = some (ob (a (u + 1)) 2 [.int T, .ref (a (u + 2)), .ref (a (u + 3))]) := keeps_at kq83 k70 (by first | decide | omega | (dsimp only; omega))
  have k85 : w81[u + 4]? = some (ob (a (u + 4)) 4 [.int T4, .ref (a (u + 5)), .ref (a (u + 6)), .ref (a (u + 7)), .ref (a (u + 8))]) := keeps_at kq83 k71 (by first | decide | omega | (dsimp only; omega))
  have k86 : w81[u]? = some (ob (a u) 8 [.int (nI n2), .int v4, .ref (a (u + 1)), .ref (a (u + 4)), .ref (a (u + 9)), .ref (a (u + 16)), .int v5, .int v6, .int v7, .int v8]) := keeps_at kq83 k72 (by first | decide | omega | (dsimp only; omega))
  have k87 : w81[t]? = some (ob (a t) 8 [.int (nI n2), .int v4, .ref (a (t + 1)), .ref (a (t + 4)), .ref (a (t + 9)), .ref (a (t + 16)), .int v13, .int v14, .int v15, .int v16]) := keeps_at kq83 k73 (by first | decide | omega | (dsimp only; omega))
  have k88 : w81[t + 1]? = some (ob (a (t + 1)) 2 [.int T, .ref (a (t + 2)), .ref (a (t + 3))]) := keeps_at kq83 k74 (by first | decide | omega | (dsimp only; omega))
  have k89 : w81[t + 4]? = some (ob (a (t + 4)) 4 [.int T4, .ref (a (t + 5)), .ref (a (t + 6)), .ref (a (t + 7)), .ref (a (t + 8))]) := keeps_at kq83 k75 (by first | decide | omega | (dsimp only; omega))
  have kp90 := keeps_tr kp76 kq83 (fun q hq => by first | omega | (dsimp only at *; omega))
  exact x_vret C hr hlk dX9_copyFrom_60 ⟨hW82, kp90, ⟨k88, k89⟩⟩
set_option maxRecDepth 20000 in
set_option maxHeartbeats 4000000 in
theorem c_personJ (E : xE) (l : Launch) (a : Nat → Nat) (ws : va_W) (hW : WX (okX E a) ws) (p0 : Int32) (k P H Pk Hk : Int32) (hJ : JX a ws k P H Pk Hk) : xI E l yX11_person cX11_person 2 (some .boolean) 8 [.ref (a 0), .int p0] ws (fun r w => WX (okX E a) w ∧ zb r ∧ (JX a w k (pT P p0) H Pk Hk ∧ r = bI (pC P p0))) := by
  refine xI_start (lv := [(0, .ref (a 0)), (1, .int p0)]) RX11 (by decide) rfl (Nat.le_of_ble_eq_true rfl) rfl (fun p e s m below meth c A C hr hlk => ?_)
  refine x_aload_n C dX11_person_0 rfl 0 rfl rfl ?_
  refine x_get C (ci := 10) (k := 2) 0 hJ.1 rfl in_X11 (by decide) w_387 rfl dX11_person_1 rfl ?_
  obtain ⟨_, k1, n2, v4, v5, v6, v7, v8, bn3, rfl⟩ := hW 5 _ rfl
  refine x_get C (ci := 8) (k := 3) 5 k1 rfl in_X9 (by decide) w_204 rfl dX11_person_4 rfl ?_
  refine x_iload_n C dX11_person_7 rfl 1 rfl rfl ?_
  refine x_vi C (As := [.int p0]) (rest := []) (c_People_tellX E l a ws hW 5 (Or.inl rfl) p0 P hJ.2.2.1) mf_X5_tell w_447 9 hJ.2.2.1 rfl rfl rfl (Nat.le_of_ble_eq_true rfl) ⟨(Nat.le_of_ble_eq_true rfl), (Nat.le_of_ble_eq_true rfl)⟩ ⟨(Nat.le_of_ble_eq_true rfl), (Nat.le_of_ble_eq_true rfl)⟩ dX11_person_8 rfl (fun r10 w11 h9 => ?_)
  obtain ⟨hW12, kq13, zb14, x15⟩ := h9
  have k16 : w11[0]? = some (ob (a 0) 10 [.ref (a 1), .ref (a 3), .ref (a 5), .ref (a 27), .ref (a 49), .int k, .ref (a 71), .ref (a 79), .ref (a 87), .ref (a 92), .ref (a 103), .ref (a 105), .ref (a 106), .ref (a 107), .ref (a 108), .ref (a 109), .ref (a 110), .ref (a 111), .ref (a 112)]) := keeps_at kq13 hJ.1 (by first | decide | omega | (dsimp only; omega))
  have k17 : w11[6]? = some (ob (a 6) 2 [.int H, .ref (a 7), .ref (a 8)]) := keeps_at kq13 hJ.2.1 (by first | decide | omega | (dsimp only; omega))
  have k18 : w11[28]? = some (ob (a 28) 2 [.int Hk, .ref (a 29), .ref (a 30)]) := keeps_at kq13 hJ.2.2.2.1 (by first | decide | omega | (dsimp only; omega))
  have k19 : w11[31]? = some (ob (a 31) 4 [.int Pk, .ref (a 32), .ref (a 33), .ref (a 34), .ref (a 35)]) := keeps_at kq13 hJ.2.2.2.2 (by first | decide | omega | (dsimp only; omega))
  have k20 : w11[5]? = some (ob (a 5) 8 [.int (nI n2), .int v4, .ref (a 6), .ref (a 9), .ref (a 14), .ref (a 21), .int v5, .int v6, .int v7, .int v8]) := keeps_at kq13 k1 (by first | decide | omega | (dsimp only; omega))
  have k21 : w11[9]? = some (ob (a 9) 4 [.int (pT P p0), .ref (a 10), .ref (a 11), .ref (a 12), .ref (a 13)]) := x15.2
  exact x_zret C hr hlk (zb_nar zb14) dX11_person_11 ⟨hW12, zb14, ⟨⟨k16, k17, k21, k18, k19⟩, x15.1⟩⟩
set_option maxRecDepth 20000 in
set_option maxHeartbeats 4000000 in
theorem c_henJ (E : xE) (l : Launch) (a : Nat → Nat) (ws : va_W) (hW : WX (okX E a) ws) (p0 : Int32) (p1 : Int32) (p2 : Int32) (k P H Pk Hk : Int32) (hJ : JX a ws k P H Pk Hk) : xI E l yX11_hen cX11_hen 4 (some .boolean) 8 [.ref (a 0), .int p0, .int p1, .int p2] ws (fun r w => WX (okX E a) w ∧ zb r ∧ (JX a w k P (hT P H p0 p1 p2) Pk Hk ∧ r = bI (hC P p0 p1 p2))) := by
  refine xI_start (lv := [(0, .ref (a 0)), (1, .int p0), (2, .int p1), (3, .int p2)]) RX11 (by decide) rfl (Nat.le_of_ble_eq_true rfl) rfl (fun p e s m below meth c A C hr hlk => ?_)
  refine x_iload_n C dX11_hen_0 rfl 1 rfl rfl ?_
  refine x_iconst C (v := 0) dX11_hen_1 (by decide) rfl ?_
  refine x_bipush C (v := 7) dX11_hen_2 (by decide) rfl ?_
  refine x_si C (As := [.int p0, .int 0, .int 7]) (rest := []) (c_isWithinJ E l a ws hW p0 (0 : Int32) (7 : Int32)) mf_X11_isWithin w_462 rfl rfl (Nat.le_of_ble_eq_true rfl) ⟨(Nat.le_of_ble_eq_true rfl), (Nat.le_of_ble_eq_true rfl)⟩ ⟨(Nat.le_of_ble_eq_true rfl), (Nat.le_of_ble_eq_true rfl)⟩ dX11_hen_4 rfl (fun r2 w3 h1 => ?_)
  obtain ⟨hW4, zb5, x6⟩ := h1
  refine x_ws hW4 ?_
  rcases x6 with ⟨hn7, hw8⟩ | ⟨e9, hw10⟩
  · skip
    obtain ⟨j11, hl12, hh13, ej14⟩ := w_nat (a := 0) (b := 7) (by decide) (by decide) hw8
    subst ej14
    refine x_if_eq C (tgt := 33) dX11_hen_7 (by decide) rfl (fun h => absurd h hn7) (fun _ => ?_)
    refine x_iload_n C dX11_hen_10 rfl 2 rfl rfl ?_
    refine x_iconst C (v := 0) dX11_hen_11 (by decide) rfl ?_
    refine x_iconst C (v := 3) dX11_hen_12 (by decide) rfl ?_
    refine x_si C (As := [.int p1, .int 0, .int 3]) (rest := []) (c_isWithinJ E l a ws hW p1 (0 : Int32) (3 : Int32)) mf_X11_isWithin w_462 rfl rfl (Nat.le_of_ble_eq_true rfl) ⟨(Nat.le_of_ble_eq_true rfl), (Nat.le_of_ble_eq_true rfl)⟩ ⟨(Nat.le_of_ble_eq_true rfl), (Nat.le_of_ble_eq_true rfl)⟩ dX11_hen_13 rfl (fun r16 w17 h15 => ?_)
    obtain ⟨hW18, zb19, x20⟩ := h15
    refine x_ws hW18 ?_
    rcases x20 with ⟨hn21, hw22⟩ | ⟨e23, hw24⟩
    · skip
      obtain ⟨j25, hl26, hh27, ej28⟩ := w_nat (a := 0) (b := 3) (by decide) (by decide) hw22
      subst ej28
      refine x_if_eq C (tgt := 33) dX11_hen_16 (by decide) rfl (fun h => absurd h hn21) (fun _ => ?_)
      refine x_aload_n C dX11_hen_19 rfl 0 rfl rfl ?_
      refine x_get C (ci := 10) (k := 2) 0 hJ.1 rfl in_X11 (by decide) w_387 rfl dX11_hen_20 rfl ?_
      obtain ⟨_, k29, n30, v32, v33, v34, v35, v36, bn31, rfl⟩ := hW 5 _ rfl
      refine x_get C (ci := 8) (k := 3) 5 k29 rfl in_X9 (by decide) w_204 rfl dX11_hen_23 rfl ?_
      refine x_iload_n C dX11_hen_26 rfl 3 rfl rfl ?_
      refine x_vi C (As := [.int p2]) (rest := []) (c_People_isToldX E l a ws hW 5 (Or.inl rfl) p2 P hJ.2.2.1) mf_X5_isTold w_465 9 hJ.2.2.1 rfl rfl rfl (Nat.le_of_ble_eq_true rfl) ⟨(Nat.le_of_ble_eq_true rfl), (Nat.le_of_ble_eq_true rfl)⟩ ⟨(Nat.le_of_ble_eq_true rfl), (Nat.le_of_ble_eq_true rfl)⟩ dX11_hen_27 rfl (fun r38 w39 h37 => ?_)
      obtain ⟨hW40, zb41, x42⟩ := h37
      refine x_ws hW40 ?_
      rcases x42 with ⟨hn43, hw44⟩ | ⟨e45, hw46⟩
      · skip
        obtain ⟨j47, hl48, hh49, ej50⟩ := w_nat (a := 0) (b := 7) (by decide) (by decide) hw44.1
        subst ej50
        refine x_if_ne C (tgt := 35) dX11_hen_30 (by decide) rfl (fun _ => ?_) (fun h => absurd h hn43)
        refine x_aload_n C dX11_hen_35 rfl 0 rfl rfl ?_
        refine x_get C (ci := 10) (k := 2) 0 hJ.1 rfl in_X11 (by decide) w_387 rfl dX11_hen_36 rfl ?_
        refine x_get C (ci := 8) (k := 2) 5 k29 rfl in_X9 (by decide) w_201 rfl dX11_hen_39 rfl ?_
        refine x_iload_n C dX11_hen_42 rfl 1 rfl rfl ?_
        refine x_iload_n C dX11_hen_43 rfl 2 rfl rfl ?_
        refine x_iload_n C dX11_hen_44 rfl 3 rfl rfl ?_
        refine x_vv C (As := [.int (nI j11), .int (nI j25), .int (nI j47)]) (rest := []) (c_Hens_tellX E l a ws hW 5 (Or.inl rfl) j11 ((nI j25)) j47 H hJ.2.1 (by omega) (by omega)) mf_X2_tell w_466 6 hJ.2.1 rfl rfl rfl (Nat.le_of_ble_eq_true rfl) ⟨(Nat.le_of_ble_eq_true rfl), (Nat.le_of_ble_eq_true rfl)⟩ ⟨(Nat.le_of_ble_eq_true rfl), (Nat.le_of_ble_eq_true rfl)⟩ dX11_hen_45 rfl (fun w53 h51 => ?_)
        obtain ⟨hW54, kq55, x56⟩ := h51
        have k57 : w53[0]? = some (ob (a 0) 10 [.ref (a 1), .ref (a 3), .ref (a 5), .ref (a 27), .ref (a 49), .int k, .ref (a 71), .ref (a 79), .ref (a 87), .ref (a 92), .ref (a 103), .ref (a 105), .ref (a 106), .ref (a 107), .ref (a 108), .ref (a 109), .ref (a 110), .ref (a 111), .ref (a 112)]) := keeps_at kq55 hJ.1 (by first | decide | omega | (dsimp only; omega))
        have k58 : w53[9]? = some (ob (a 9) 4 [.int P, .ref (a 10), .ref (a 11), .ref (a 12), .ref (a 13)]) := keeps_at kq55 hJ.2.2.1 (by first | decide | omega | (dsimp only; omega))
        have k59 : w53[28]? = some (ob (a 28) 2 [.int Hk, .ref (a 29), .ref (a 30)]) := keeps_at kq55 hJ.2.2.2.1 (by first | decide | omega | (dsimp only; omega))
        have k60 : w53[31]? = some (ob (a 31) 4 [.int Pk, .ref (a 32), .ref (a 33), .ref (a 34), .ref (a 35)]) := keeps_at kq55 hJ.2.2.2.2 (by first | decide | omega | (dsimp only; omega))
        have k61 : w53[5]? = some (ob (a 5) 8 [.int (nI n30), .int v32, .ref (a 6), .ref (a 9), .ref (a 14), .ref (a 21), .int v33, .int v34, .int v35, .int v36]) := keeps_at kq55 k29 (by first | decide | omega | (dsimp only; omega))
        have k62 : w53[6]? = some (ob (a 6) 2 [.int (H ||| ((1 : Int32) <<< ((nI j11) &&& 31))), .ref (a 7), .ref (a 8)]) := x56
        refine x_iconst C (v := 1) dX11_hen_48 (by decide) rfl ?_
        exact x_zret C hr hlk rfl dX11_hen_49 ⟨hW54, (Or.inr rfl), ⟨(by rw [hT_t (P := P) (H := H) (y := (nI j11)) (kd := (nI j25)) (ow := (nI j47)) ⟨hw8, hw22, hw44⟩]; exact ⟨k57, k62, k58, k59, k60⟩), (bI_t (P := hC P (nI j11) (nI j25) (nI j47)) ⟨hw8, hw22, hw44⟩).symm⟩⟩
      · refine x_top e45 ?_
        refine x_if_ne C (tgt := 35) dX11_hen_30 (by decide) rfl (fun h => absurd h (by decide)) (fun _ => ?_)
        refine x_iconst C (v := 0) dX11_hen_33 (by decide) rfl ?_
        exact x_zret C hr hlk rfl dX11_hen_34 ⟨hW, (Or.inl rfl), ⟨(by rw [hT_f (P := P) (H := H) (y := (nI j11)) (kd := (nI j25)) (ow := p2) (fun q => hw46 q.2.2)]; exact ⟨hJ.1, hJ.2.1, hJ.2.2.1, hJ.2.2.2.1, hJ.2.2.2.2⟩), (bI_f (P := hC P (nI j11) (nI j25) p2) (fun q => hw46 q.2.2)).symm⟩⟩
    · refine x_top e23 ?_
      refine x_if_eq C (tgt := 33) dX11_hen_16 (by decide) rfl (fun _ => ?_) (fun h => absurd h (by decide))
      refine x_iconst C (v := 0) dX11_hen_33 (by decide) rfl ?_
      exact x_zret C hr hlk rfl dX11_hen_34 ⟨hW, (Or.inl rfl), ⟨(by rw [hT_f (P := P) (H := H) (y := (nI j11)) (kd := p1) (ow := p2) (fun q => hw24 q.2.1)]; exact ⟨hJ.1, hJ.2.1, hJ.2.2.1, hJ.2.2.2.1, hJ.2.2.2.2⟩), (bI_f (P := hC P (nI j11) p1 p2) (fun q => hw24 q.2.1)).symm⟩⟩
  · refine x_top e9 ?_
    refine x_if_eq C (tgt := 33) dX11_hen_7 (by decide) rfl (fun _ => ?_) (fun h => absurd h (by decide))
    refine x_iconst C (v := 0) dX11_hen_33 (by decide) rfl ?_
    exact x_zret C hr hlk rfl dX11_hen_34 ⟨hW, (Or.inl rfl), ⟨(by rw [hT_f (P := P) (H := H) (y := p0) (kd := p1) (ow := p2) (fun q => hw10 q.1)]; exact ⟨hJ.1, hJ.2.1, hJ.2.2.1, hJ.2.2.2.1, hJ.2.2.2.2⟩), (bI_f (P := hC P p0 p1 p2) (fun q => hw10 q.1)).symm⟩⟩
set_option maxRecDepth 20000 in
set_option maxHeartbeats 4000000 in
theorem c_foxJ (E : xE) (l : Launch) (a : Nat → Nat) (ws : va_W) (hW : WX (okX E a) ws) (p0 : Int32) (k P H Pk Hk : Int32) (hJ : JX a ws k P H Pk Hk) : xI E l yX11_fox cX11_fox 2 (some .boolean) 8 [.ref (a 0), .int p0] ws (fun r w => WX (okX E a) w ∧ zb r ∧ (JX a w k P (fT H p0) Pk Hk ∧ r = bI (inb H p0))) := by
  refine xI_start (lv := [(0, .ref (a 0)), (1, .int p0)]) RX11 (by decide) rfl (Nat.le_of_ble_eq_true rfl) rfl (fun p e s m below meth c A C hr hlk => ?_)
  refine x_aload_n C dX11_fox_0 rfl 0 rfl rfl ?_
  refine x_get C (ci := 10) (k := 2) 0 hJ.1 rfl in_X11 (by decide) w_387 rfl dX11_fox_1 rfl ?_
  obtain ⟨_, k1, n2, v4, v5, v6, v7, v8, bn3, rfl⟩ := hW 5 _ rfl
  refine x_get C (ci := 8) (k := 2) 5 k1 rfl in_X9 (by decide) w_201 rfl dX11_fox_4 rfl ?_
  refine x_iload_n C dX11_fox_7 rfl 1 rfl rfl ?_
  refine x_vi C (As := [.int p0]) (rest := []) (c_Hens_isToldX E l a ws hW 5 (Or.inl rfl) p0 H hJ.2.1) mf_X2_isTold w_474 6 hJ.2.1 rfl rfl rfl (Nat.le_of_ble_eq_true rfl) ⟨(Nat.le_of_ble_eq_true rfl), (Nat.le_of_ble_eq_true rfl)⟩ ⟨(Nat.le_of_ble_eq_true rfl), (Nat.le_of_ble_eq_true rfl)⟩ dX11_fox_8 rfl (fun r10 w11 h9 => ?_)
  obtain ⟨hW12, zb13, x14⟩ := h9
  refine x_ws hW12 ?_
  rcases x14 with ⟨hn15, hw16⟩ | ⟨e17, hw18⟩
  · skip
    obtain ⟨j19, hl20, hh21, ej22⟩ := w_nat (a := 0) (b := 7) (by decide) (by decide) hw16.1
    subst ej22
    refine x_if_ne C (tgt := 16) dX11_fox_11 (by decide) rfl (fun _ => ?_) (fun h => absurd h hn15)
    refine x_aload_n C dX11_fox_16 rfl 0 rfl rfl ?_
    refine x_get C (ci := 10) (k := 2) 0 hJ.1 rfl in_X11 (by decide) w_387 rfl dX11_fox_17 rfl ?_
    refine x_get C (ci := 8) (k := 2) 5 k1 rfl in_X9 (by decide) w_201 rfl dX11_fox_20 rfl ?_
    refine x_dup C dX11_fox_23 rfl rfl ?_
    refine x_get C (ci := 2) (k := 0) 6 hJ.2.1 rfl in_X2 (by decide) w_69 rfl dX11_fox_24 rfl ?_
    refine x_iconst C (v := 1) dX11_fox_27 (by decide) rfl ?_
    refine x_iload_n C dX11_fox_28 rfl 1 rfl rfl ?_
    refine x_ishl C (v := ((1 : Int32) <<< ((nI j19) &&& 31))) dX11_fox_29 rfl rfl ?_
    refine x_iconst C (v := (-1)) dX11_fox_30 (by decide) rfl ?_
    refine x_ixor C (v := (((1 : Int32) <<< ((nI j19) &&& 31)) ^^^ ((-1) : Int32))) dX11_fox_31 rfl rfl ?_
    refine x_iand C (v := (H &&& (((1 : Int32) <<< ((nI j19) &&& 31)) ^^^ ((-1) : Int32)))) dX11_fox_32 rfl rfl ?_
    obtain ⟨w23, hw24⟩ : ∃ w : va_W, w = List.set ws 6 (ob (a 6) 2 [.int (H &&& (((1 : Int32) <<< ((nI j19) &&& 31)) ^^^ ((-1) : Int32))), .ref (a 7), .ref (a 8)]) := ⟨_, rfl⟩
    refine x_put C (ci := 2) (k := 0) (ty := .int) 6 hJ.2.1 rfl in_X2 tyX2 tyX2_ok nmX2 (by decide) w_69 rfl rfl rfl rfl (Nat.le_of_ble_eq_true rfl) hw24.symm dX11_fox_33 rfl ?_
    have hW25 : WX (okX E a) w23 := by rw [hw24]; exact hW.set (k := 6) rfl ⟨(H &&& (((1 : Int32) <<< ((nI j19) &&& 31)) ^^^ ((-1) : Int32))), rfl⟩
    have k26 : w23[0]? = some (ob (a 0) 10 [.ref (a 1), .ref (a 3), .ref (a 5), .ref (a 27), .ref (a 49), .int k, .ref (a 71), .ref (a 79), .ref (a 87), .ref (a 92), .ref (a 103), .ref (a 105), .ref (a 106), .ref (a 107), .ref (a 108), .ref (a 109), .ref (a 110), .ref (a 111), .ref (a 112)]) := by rw [hw24]; exact set_ne hJ.1 (by decide)
    have k27 : w23[6]? = some (ob (a 6) 2 [.int (H &&& (((1 : Int32) <<< ((nI j19) &&& 31)) ^^^ ((-1) : Int32))), .ref (a 7), .ref (a 8)]) := by rw [hw24]; exact set_eq hJ.2.1
    have k28 : w23[9]? = some (ob (a 9) 4 [.int P, .ref (a 10), .ref (a 11), .ref (a 12), .ref (a 13)]) := by rw [hw24]; exact set_ne hJ.2.2.1 (by decide)
    have k29 : w23[28]? = some (ob (a 28) 2 [.int Hk, .ref (a 29), .ref (a 30)]) := by rw [hw24]; exact set_ne hJ.2.2.2.1 (by decide)
    have k30 : w23[31]? = some (ob (a 31) 4 [.int Pk, .ref (a 32), .ref (a 33), .ref (a 34), .ref (a 35)]) := by rw [hw24]; exact set_ne hJ.2.2.2.2 (by decide)
    have k31 : w23[5]? = some (ob (a 5) 8 [.int (nI n2), .int v4, .ref (a 6), .ref (a 9), .ref (a 14), .ref (a 21), .int v5, .int v6, .int v7, .int v8]) := by rw [hw24]; exact set_ne k1 (by decide)
    refine x_iconst C (v := 1) dX11_fox_36 (by decide) rfl ?_
    exact x_zret C hr hlk rfl dX11_fox_37 ⟨hW25, (Or.inr rfl), ⟨(by rw [fT_t (H := H) (y := (nI j19)) hw16]; exact ⟨k26, k27, k28, k29, k30⟩), (bI_t (P := inb H (nI j19)) hw16).symm⟩⟩
  · refine x_top e17 ?_
    refine x_if_ne C (tgt := 16) dX11_fox_11 (by decide) rfl (fun h => absurd h (by decide)) (fun _ => ?_)
    refine x_iconst C (v := 0) dX11_fox_14 (by decide) rfl ?_
    exact x_zret C hr hlk rfl dX11_fox_15 ⟨hW, (Or.inl rfl), ⟨(by rw [fT_f (H := H) (y := p0) hw18]; exact ⟨hJ.1, hJ.2.1, hJ.2.2.1, hJ.2.2.2.1, hJ.2.2.2.2⟩), (bI_f (P := inb H p0) hw18).symm⟩⟩
set_option maxRecDepth 20000 in
set_option maxHeartbeats 4000000 in
theorem c_keepJ (E : xE) (l : Launch) (a : Nat → Nat) (ws : va_W) (hW : WX (okX E a) ws) (k P H Pk Hk : Int32) (hJ : JX a ws k P H Pk Hk) : xI E l yX11_keep cX11_keep 1 (some .int) 8 [.ref (a 0)] ws (fun r w => WX (okX E a) w ∧ (JX a w 1 P H P H)) := by
  refine xI_start (lv := [(0, .ref (a 0))]) RX11 (by decide) rfl (Nat.le_of_ble_eq_true rfl) rfl (fun p e s m below meth c A C hr hlk => ?_)
  refine x_aload_n C dX11_keep_0 rfl 0 rfl rfl ?_
  refine x_get C (ci := 10) (k := 3) 0 hJ.1 rfl in_X11 (by decide) w_388 rfl dX11_keep_1 rfl ?_
  refine x_aload_n C dX11_keep_4 rfl 0 rfl rfl ?_
  refine x_get C (ci := 10) (k := 2) 0 hJ.1 rfl in_X11 (by decide) w_387 rfl dX11_keep_5 rfl ?_
  obtain ⟨_, k1, n2, v4, v5, v6, v7, v8, bn3, rfl⟩ := hW 27 _ rfl
  refine x_vv C (As := [.ref (a 5)]) (rest := []) (c_Town_copyX E l a ws hW 27 (Or.inr (Or.inl rfl)) 5 (Or.inl rfl) (by decide) H hJ.2.1 P hJ.2.2.1) mf_X9_copyFrom w_788 27 k1 rfl rfl rfl (Nat.le_of_ble_eq_true rfl) ⟨(Nat.le_of_ble_eq_true rfl), (Nat.le_of_ble_eq_true rfl)⟩ ⟨(Nat.le_of_ble_eq_true rfl), (Nat.le_of_ble_eq_true rfl)⟩ dX11_keep_8 rfl (fun w11 h9 => ?_)
  obtain ⟨hW12, kq13, x14⟩ := h9
  have k15 : w11[0]? = some (ob (a 0) 10 [.ref (a 1), .ref (a 3), .ref (a 5), .ref (a 27), .ref (a 49), .int k, .ref (a 71), .ref (a 79), .ref (a 87), .ref (a 92), .ref (a 103), .ref (a 105), .ref (a 106), .ref (a 107), .ref (a 108), .ref (a 109), .ref (a 110), .ref (a 111), .ref (a 112)]) := keeps_at kq13 hJ.1 (by first | decide | omega | (dsimp only; omega))
  have k16 : w11[6]? = some (ob (a 6) 2 [.int H, .ref (a 7), .ref (a 8)]) := keeps_at kq13 hJ.2.1 (by first | decide | omega | (dsimp only; omega))
  have k17 : w11[9]? = some (ob (a 9) 4 [.int P, .ref (a 10), .ref (a 11), .ref (a 12), .ref (a 13)]) := keeps_at kq13 hJ.2.2.1 (by first | decide | omega | (dsimp only; omega))
  have k18 : w11[28]? = some (ob (a 28) 2 [.int H, .ref (a 29), .ref (a 30)]) := x14.1
  have k19 : w11[31]? = some (ob (a 31) 4 [.int P, .ref (a 32), .ref (a 33), .ref (a 34), .ref (a 35)]) := x14.2
  refine x_aload_n C dX11_keep_11 rfl 0 rfl rfl ?_
  refine x_get C (ci := 10) (k := 1) 0 k15 rfl in_X11 (by decide) w_386 rfl dX11_keep_12 rfl ?_
  refine x_aload_n C dX11_keep_15 rfl 0 rfl rfl ?_
  refine x_get C (ci := 10) (k := 0) 0 k15 rfl in_X11 (by decide) w_385 rfl dX11_keep_16 rfl ?_
  obtain ⟨_, k20, n21, v23, v24, v25, bn22, rfl⟩ := hW12 3 _ rfl
  refine x_vv C (As := [.ref (a 1)]) (rest := []) (c_Tape_copy31 E l a w11 hW12) mf_X8_copyFrom w_1090 3 k20 rfl rfl rfl (Nat.le_of_ble_eq_true rfl) ⟨(Nat.le_of_ble_eq_true rfl), (Nat.le_of_ble_eq_true rfl)⟩ ⟨(Nat.le_of_ble_eq_true rfl), (Nat.le_of_ble_eq_true rfl)⟩ dX11_keep_19 rfl (fun w28 h26 => ?_)
  obtain ⟨hW29, kq30⟩ := h26
  have k31 : w28[0]? = some (ob (a 0) 10 [.ref (a 1), .ref (a 3), .ref (a 5), .ref (a 27), .ref (a 49), .int k, .ref (a 71), .ref (a 79), .ref (a 87), .ref (a 92), .ref (a 103), .ref (a 105), .ref (a 106), .ref (a 107), .ref (a 108), .ref (a 109), .ref (a 110), .ref (a 111), .ref (a 112)]) := keeps_at kq30 k15 (by first | decide | omega | (dsimp only; omega))
  have k32 : w28[6]? = some (ob (a 6) 2 [.int H, .ref (a 7), .ref (a 8)]) := keeps_at kq30 k16 (by first | decide | omega | (dsimp only; omega))
  have k33 : w28[9]? = some (ob (a 9) 4 [.int P, .ref (a 10), .ref (a 11), .ref (a 12), .ref (a 13)]) := keeps_at kq30 k17 (by first | decide | omega | (dsimp only; omega))
  have k34 : w28[28]? = some (ob (a 28) 2 [.int H, .ref (a 29), .ref (a 30)]) := keeps_at kq30 k18 (by first | decide | omega | (dsimp only; omega))
  have k35 : w28[31]? = some (ob (a 31) 4 [.int P, .ref (a 32), .ref (a 33), .ref (a 34), .ref (a 35)]) := keeps_at kq30 k19 (by first | decide | omega | (dsimp only; omega))
  refine x_aload_n C dX11_keep_22 rfl 0 rfl rfl ?_
  refine x_iconst C (v := 1) dX11_keep_23 (by decide) rfl ?_
  obtain ⟨w36, hw37⟩ : ∃ w : va_W, w = List.set w28 0 (ob (a 0) 10 [.ref (a 1), .ref (a 3), .ref (a 5), .ref (a 27), .ref (a 49), .int 1, .ref (a 71), .ref (a 79), .ref (a 87), .ref (a 92), .ref (a 103), .ref (a 105), .ref (a 106), .ref (a 107), .ref (a 108), .ref (a 109), .ref (a 110), .ref (a 111), .ref (a 112)]) := ⟨_, rfl⟩
  refine x_put C (ci := 10) (k := 5) (ty := .boolean) 0 k31 rfl in_X11 tyX11 tyX11_ok nmX11 (by decide) w_390 rfl rfl rfl rfl (Nat.le_of_ble_eq_true rfl) hw37.symm dX11_keep_24 rfl ?_
  have hW38 : WX (okX E a) w36 := by rw [hw37]; exact hW29.set (k := 0) rfl ⟨(1 : Int32), rfl⟩
  have k39 : w36[0]? = some (ob (a 0) 10 [.ref (a 1), .ref (a 3), .ref (a 5), .ref (a 27), .ref (a 49), .int 1, .ref (a 71), .ref (a 79), .ref (a 87), .ref (a 92), .ref (a 103), .ref (a 105), .ref (a 106), .ref (a 107), .ref (a 108), .ref (a 109), .ref (a 110), .ref (a 111), .ref (a 112)]) := by rw [hw37]; exact set_eq k31
  have k40 : w36[6]? = some (ob (a 6) 2 [.int H, .ref (a 7), .ref (a 8)]) := by rw [hw37]; exact set_ne k32 (by decide)
  have k41 : w36[9]? = some (ob (a 9) 4 [.int P, .ref (a 10), .ref (a 11), .ref (a 12), .ref (a 13)]) := by rw [hw37]; exact set_ne k33 (by decide)
  have k42 : w36[28]? = some (ob (a 28) 2 [.int H, .ref (a 29), .ref (a 30)]) := by rw [hw37]; exact set_ne k34 (by decide)
  have k43 : w36[31]? = some (ob (a 31) 4 [.int P, .ref (a 32), .ref (a 33), .ref (a 34), .ref (a 35)]) := by rw [hw37]; exact set_ne k35 (by decide)
  refine x_aload_n C dX11_keep_27 rfl 0 rfl rfl ?_
  refine x_get C (ci := 10) (k := 2) 0 k39 rfl in_X11 (by decide) w_387 rfl dX11_keep_28 rfl ?_
  obtain ⟨_, k44, n45, v47, v48, v49, v50, v51, bn46, rfl⟩ := hW38 5 _ rfl
  refine x_get C (ci := 8) (k := 4) 5 k44 rfl in_X9 (by decide) w_209 rfl dX11_keep_31 rfl ?_
  refine x_iconst C (v := 0) dX11_keep_34 (by decide) rfl ?_
  obtain ⟨_, k52, n53, bn54, rfl⟩ := hW38 14 _ rfl
  refine x_vi C (As := [.int 0]) (rest := []) (c_Eggs_howMany E l a w36 hW38 5 (Or.inl rfl) (0 : Int32)) mf_X1_howMany w_853 14 k52 rfl rfl rfl (Nat.le_of_ble_eq_true rfl) ⟨(Nat.le_of_ble_eq_true rfl), (Nat.le_of_ble_eq_true rfl)⟩ ⟨(Nat.le_of_ble_eq_true rfl), (Nat.le_of_ble_eq_true rfl)⟩ dX11_keep_35 rfl (fun r56 w57 h55 => ?_)
  have hW58 := h55
  refine x_ws hW58 ?_
  exact x_zret C hr hlk rfl dX11_keep_38 ⟨hW38, ⟨k39, k40, k41, k42, k43⟩⟩
set_option maxRecDepth 20000 in
set_option maxHeartbeats 4000000 in
theorem c_undoJ (E : xE) (l : Launch) (a : Nat → Nat) (ws : va_W) (hW : WX (okX E a) ws) (k P H Pk Hk : Int32) (hJ : JX a ws k P H Pk Hk) : xI E l yX11_undo cX11_undo 1 (some .boolean) 8 [.ref (a 0)] ws (fun r w => WX (okX E a) w ∧ zb r ∧ (JX a w k (uT k P Pk) (uT k H Hk) Pk Hk ∧ r = bI (¬ k = 0))) := by
  refine xI_start (lv := [(0, .ref (a 0))]) RX11 (by decide) rfl (Nat.le_of_ble_eq_true rfl) rfl (fun p e s m below meth c A C hr hlk => ?_)
  refine x_aload_n C dX11_undo_0 rfl 0 rfl rfl ?_
  refine x_get C (ci := 10) (k := 5) 0 hJ.1 rfl in_X11 (by decide) w_390 rfl dX11_undo_1 rfl ?_
  refine x_if_ne C (tgt := 9) dX11_undo_4 (by decide) rfl (fun c1 => ?_) (fun c1 => ?_)
  · skip
    refine x_aload_n C dX11_undo_9 rfl 0 rfl rfl ?_
    refine x_get C (ci := 10) (k := 2) 0 hJ.1 rfl in_X11 (by decide) w_387 rfl dX11_undo_10 rfl ?_
    refine x_aload_n C dX11_undo_13 rfl 0 rfl rfl ?_
    refine x_get C (ci := 10) (k := 3) 0 hJ.1 rfl in_X11 (by decide) w_388 rfl dX11_undo_14 rfl ?_
    obtain ⟨_, k2, n3, v5, v6, v7, v8, v9, bn4, rfl⟩ := hW 5 _ rfl
    refine x_vv C (As := [.ref (a 27)]) (rest := []) (c_Town_copyX E l a ws hW 5 (Or.inl rfl) 27 (Or.inr (Or.inl rfl)) (by decide) Hk hJ.2.2.2.1 Pk hJ.2.2.2.2) mf_X9_copyFrom w_788 5 k2 rfl rfl rfl (Nat.le_of_ble_eq_true rfl) ⟨(Nat.le_of_ble_eq_true rfl), (Nat.le_of_ble_eq_true rfl)⟩ ⟨(Nat.le_of_ble_eq_true rfl), (Nat.le_of_ble_eq_true rfl)⟩ dX11_undo_17 rfl (fun w12 h10 => ?_)
    obtain ⟨hW13, kq14, x15⟩ := h10
    have k16 : w12[0]? = some (ob (a 0) 10 [.ref (a 1), .ref (a 3), .ref (a 5), .ref (a 27), .ref (a 49), .int k, .ref (a 71), .ref (a 79), .ref (a 87), .ref (a 92), .ref (a 103), .ref (a 105), .ref (a 106), .ref (a 107), .ref (a 108), .ref (a 109), .ref (a 110), .ref (a 111), .ref (a 112)]) := keeps_at kq14 hJ.1 (by first | decide | omega | (dsimp only; omega))
    have k17 : w12[28]? = some (ob (a 28) 2 [.int Hk, .ref (a 29), .ref (a 30)]) := keeps_at kq14 hJ.2.2.2.1 (by first | decide | omega | (dsimp only; omega))
    have k18 : w12[31]? = some (ob (a 31) 4 [.int Pk, .ref (a 32), .ref (a 33), .ref (a 34), .ref (a 35)]) := keeps_at kq14 hJ.2.2.2.2 (by first | decide | omega | (dsimp only; omega))
    have k19 : w12[6]? = some (ob (a 6) 2 [.int Hk, .ref (a 7), .ref (a 8)]) := x15.1
    have k20 : w12[9]? = some (ob (a 9) 4 [.int Pk, .ref (a 10), .ref (a 11), .ref (a 12), .ref (a 13)]) := x15.2
    refine x_aload_n C dX11_undo_20 rfl 0 rfl rfl ?_
    refine x_get C (ci := 10) (k := 0) 0 k16 rfl in_X11 (by decide) w_385 rfl dX11_undo_21 rfl ?_
    refine x_aload_n C dX11_undo_24 rfl 0 rfl rfl ?_
    refine x_get C (ci := 10) (k := 1) 0 k16 rfl in_X11 (by decide) w_386 rfl dX11_undo_25 rfl ?_
    obtain ⟨_, k21, n22, v24, v25, v26, bn23, rfl⟩ := hW13 1 _ rfl
    refine x_vv C (As := [.ref (a 3)]) (rest := []) (c_Tape_copy13 E l a w12 hW13) mf_X8_copyFrom w_1090 1 k21 rfl rfl rfl (Nat.le_of_ble_eq_true rfl) ⟨(Nat.le_of_ble_eq_true rfl), (Nat.le_of_ble_eq_true rfl)⟩ ⟨(Nat.le_of_ble_eq_true rfl), (Nat.le_of_ble_eq_true rfl)⟩ dX11_undo_28 rfl (fun w29 h27 => ?_)
    obtain ⟨hW30, kq31⟩ := h27
    have k32 : w29[0]? = some (ob (a 0) 10 [.ref (a 1), .ref (a 3), .ref (a 5), .ref (a 27), .ref (a 49), .int k, .ref (a 71), .ref (a 79), .ref (a 87), .ref (a 92), .ref (a 103), .ref (a 105), .ref (a 106), .ref (a 107), .ref (a 108), .ref (a 109), .ref (a 110), .ref (a 111), .ref (a 112)]) := keeps_at kq31 k16 (by first | decide | omega | (dsimp only; omega))
    have k33 : w29[28]? = some (ob (a 28) 2 [.int Hk, .ref (a 29), .ref (a 30)]) := keeps_at kq31 k17 (by first | decide | omega | (dsimp only; omega))
    have k34 : w29[31]? = some (ob (a 31) 4 [.int Pk, .ref (a 32), .ref (a 33), .ref (a 34), .ref (a 35)]) := keeps_at kq31 k18 (by first | decide | omega | (dsimp only; omega))
    have k35 : w29[6]? = some (ob (a 6) 2 [.int Hk, .ref (a 7), .ref (a 8)]) := keeps_at kq31 k19 (by first | decide | omega | (dsimp only; omega))
    have k36 : w29[9]? = some (ob (a 9) 4 [.int Pk, .ref (a 10), .ref (a 11), .ref (a 12), .ref (a 13)]) := keeps_at kq31 k20 (by first | decide | omega | (dsimp only; omega))
    refine x_iconst C (v := 1) dX11_undo_31 (by decide) rfl ?_
    exact x_zret C hr hlk rfl dX11_undo_32 ⟨hW30, (Or.inr rfl), ⟨(by rw [uT_f (k := k) (x := P) (y := Pk) c1, uT_f (k := k) (x := H) (y := Hk) c1]; exact ⟨k32, k35, k36, k33, k34⟩), (bI_t (P := ¬ k = 0) c1).symm⟩⟩
  · skip
    refine x_iconst C (v := 0) dX11_undo_7 (by decide) rfl ?_
    exact x_zret C hr hlk rfl dX11_undo_8 ⟨hW, (Or.inl rfl), ⟨(by rw [uT_t (k := k) (x := P) (y := Pk) c1, uT_t (k := k) (x := H) (y := Hk) c1]; exact ⟨hJ.1, hJ.2.1, hJ.2.2.1, hJ.2.2.2.1, hJ.2.2.2.2⟩), (bI_f (P := ¬ k = 0) (fun q => q c1)).symm⟩⟩
