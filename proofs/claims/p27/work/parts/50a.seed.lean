set_option maxRecDepth 20000 in
set_option maxHeartbeats 4000000 in
theorem c_isWithinX (E : xE) (l : Launch) (a : Nat → Nat) (ws : va_W) (hW : WX (okX E a) ws) (v : Int32) (lo : Int32) (hi : Int32) : xI E l yX11_isWithin cX11_isWithin 3 (some .boolean) 0 [.int v, .int lo, .int hi] ws (fun r w => w = ws ∧ zb r ∧ ((¬ r = 0 ∧ wth v lo hi) ∨ (r = 0 ∧ ¬ wth v lo hi))) := by
  refine xI_start (lv := [(0, .int v), (1, .int lo), (2, .int hi)]) RX11 (by decide) rfl (Nat.le_of_ble_eq_true rfl) rfl (fun p e s m below meth c A C hr hlk => ?_)
  refine x_iload_n C dX11_isWithin_0 rfl 0 rfl rfl ?_
  refine x_iload_n C dX11_isWithin_1 rfl 1 rfl rfl ?_
  refine x_icmp_lt C (tgt := 14) dX11_isWithin_2 (by decide) rfl (fun c1 => ?_) (fun c1 => ?_)
  · skip
    refine x_iconst C (v := 0) dX11_isWithin_14 (by decide) rfl ?_
    exact x_zret C hr hlk rfl dX11_isWithin_15 ⟨rfl, (Or.inl rfl), (Or.inr ⟨rfl, fun q => q.1 c1⟩)⟩
  · skip
    refine x_iload_n C dX11_isWithin_5 rfl 0 rfl rfl ?_
    refine x_iload_n C dX11_isWithin_6 rfl 2 rfl rfl ?_
    refine x_icmp_gt C (tgt := 14) dX11_isWithin_7 (by decide) rfl (fun c2 => ?_) (fun c2 => ?_)
    · skip
      refine x_iconst C (v := 0) dX11_isWithin_14 (by decide) rfl ?_
      exact x_zret C hr hlk rfl dX11_isWithin_15 ⟨rfl, (Or.inl rfl), (Or.inr ⟨rfl, fun q => q.2 c2⟩)⟩
    · skip
      refine x_iconst C (v := 1) dX11_isWithin_10 (by decide) rfl ?_
      refine x_goto C (tgt := 15) dX11_isWithin_11 (by decide) ?_
      exact x_zret C hr hlk rfl dX11_isWithin_15 ⟨rfl, (Or.inr rfl), (Or.inl ⟨by decide, ⟨c1, c2⟩⟩)⟩
set_option maxRecDepth 20000 in
set_option maxHeartbeats 4000000 in
theorem c_seedX (E : xE) (l : Launch) (a : Nat → Nat) (ws : va_W) (hW : WX (okX E a) ws) (p0 : Int32) : xI E l yX11_seed cX11_seed 2 (some .boolean) 8 [.ref (a 0), .int p0] ws (fun r w => WX (okX E a) w ∧ zb r ∧ (r = bI (wth p0 0 65535))) := by
  refine xI_start (lv := [(0, .ref (a 0)), (1, .int p0)]) RX11 (by decide) rfl (Nat.le_of_ble_eq_true rfl) rfl (fun p e s m below meth c A C hr hlk => ?_)
  refine x_iload_n C dX11_seed_0 rfl 1 rfl rfl ?_
  refine x_iconst C (v := 0) dX11_seed_1 (by decide) rfl ?_
  refine x_ldcw C w_1085 dX11_seed_2 rfl ?_
  refine x_si C (As := [.int p0, .int 0, .int 65535]) (rest := []) (c_isWithinX E l a ws hW p0 (0 : Int32) (65535 : Int32)) mf_X11_isWithin w_462 rfl rfl (Nat.le_of_ble_eq_true rfl) ⟨(Nat.le_of_ble_eq_true rfl), (Nat.le_of_ble_eq_true rfl)⟩ ⟨(Nat.le_of_ble_eq_true rfl), (Nat.le_of_ble_eq_true rfl)⟩ dX11_seed_5 rfl (fun r2 w3 h1 => ?_)
  obtain ⟨hW4, zb5, x6⟩ := h1
  refine x_ws hW4 ?_
  rcases x6 with ⟨hn7, hw8⟩ | ⟨e9, hw10⟩
  · skip
    refine x_if_ne C (tgt := 13) dX11_seed_8 (by decide) rfl (fun _ => ?_) (fun h => absurd h hn7)
    refine x_aload_n C dX11_seed_13 rfl 0 rfl rfl ?_
    obtain ⟨_, k11, v12, rfl⟩ := hW 0 _ rfl
    refine x_get C (ci := 10) (k := 2) 0 k11 rfl in_X11 (by decide) w_387 rfl dX11_seed_14 rfl ?_
    refine x_iload_n C dX11_seed_17 rfl 1 rfl rfl ?_
    obtain ⟨_, k13, n14, v16, v17, v18, v19, v20, bn15, rfl⟩ := hW 5 _ rfl
    obtain ⟨w21, hw22⟩ : ∃ w : va_W, w = List.set ws 5 (ob (a 5) 8 [.int (nI n14), .int p0, .ref (a 6), .ref (a 9), .ref (a 14), .ref (a 21), .int v17, .int v18, .int v19, .int v20]) := ⟨_, rfl⟩
    refine x_put C (ci := 8) (k := 1) (ty := .int) 5 k13 rfl in_X9 tyX9 tyX9_ok nmX9 (by decide) w_199 rfl rfl rfl rfl (Nat.le_of_ble_eq_true rfl) hw22.symm dX11_seed_18 rfl ?_
    have hW23 : WX (okX E a) w21 := by rw [hw22]; exact hW.set (k := 5) rfl ⟨n14, p0, v17, v18, v19, v20, by omega, rfl⟩
    have k24 : w21[0]? = some (ob (a 0) 10 [.ref (a 1), .ref (a 3), .ref (a 5), .ref (a 27), .ref (a 49), .int v12, .ref (a 71), .ref (a 79), .ref (a 87), .ref (a 92), .ref (a 103), .ref (a 105), .ref (a 106), .ref (a 107), .ref (a 108), .ref (a 109), .ref (a 110), .ref (a 111), .ref (a 112)]) := by rw [hw22]; exact set_ne k11 (by decide)
    have k25 : w21[5]? = some (ob (a 5) 8 [.int (nI n14), .int p0, .ref (a 6), .ref (a 9), .ref (a 14), .ref (a 21), .int v17, .int v18, .int v19, .int v20]) := by rw [hw22]; exact set_eq k13
    refine x_iconst C (v := 1) dX11_seed_21 (by decide) rfl ?_
    exact x_zret C hr hlk rfl dX11_seed_22 ⟨hW23, (Or.inr rfl), (bI_t hw8).symm⟩
  · refine x_top e9 ?_
    refine x_if_ne C (tgt := 13) dX11_seed_8 (by decide) rfl (fun h => absurd h (by decide)) (fun _ => ?_)
    refine x_iconst C (v := 0) dX11_seed_11 (by decide) rfl ?_
    exact x_zret C hr hlk rfl dX11_seed_12 ⟨hW, (Or.inl rfl), (bI_f hw10).symm⟩
