theorem dX11_isWithin_0 : decode cX11_isWithin 0 = .ok (.iload_n 0, 1) := by decide +kernel
theorem dX11_isWithin_1 : decode cX11_isWithin 1 = .ok (.iload_n 1, 1) := by decide +kernel
theorem dX11_isWithin_2 : decode cX11_isWithin 2 = .ok (.if_icmp .lt 12, 3) := by decide +kernel
theorem dX11_isWithin_5 : decode cX11_isWithin 5 = .ok (.iload_n 0, 1) := by decide +kernel
theorem dX11_isWithin_6 : decode cX11_isWithin 6 = .ok (.iload_n 2, 1) := by decide +kernel
theorem dX11_isWithin_7 : decode cX11_isWithin 7 = .ok (.if_icmp .gt 7, 3) := by decide +kernel
theorem dX11_isWithin_10 : decode cX11_isWithin 10 = .ok (.iconst 1, 1) := by decide +kernel
theorem dX11_isWithin_11 : decode cX11_isWithin 11 = .ok (.goto 4, 3) := by decide +kernel
theorem dX11_isWithin_14 : decode cX11_isWithin 14 = .ok (.iconst 0, 1) := by decide +kernel
theorem dX11_isWithin_15 : decode cX11_isWithin 15 = .ok (.ireturn, 1) := by decide +kernel
set_option maxRecDepth 20000 in
set_option maxHeartbeats 4000000 in
theorem c_isWithin (E : xE) (l : Launch) (a : Nat → Nat) (ws : va_W) (hW : WX (okX E a) ws) (v : Int32) (lo : Int32) (hi : Int32) : xI E l yX11_isWithin cX11_isWithin 3 (some .boolean) 0 [.int v, .int lo, .int hi] ws (fun r w => w = ws ∧ zb r ∧ (¬ r = 0 → wth v lo hi)) := by
  refine xI_start (lv := [(0, .int v), (1, .int lo), (2, .int hi)]) RX11 (by decide) rfl (Nat.le_of_ble_eq_true rfl) rfl (fun p e s m below meth c A C hr hlk => ?_)
  refine x_iload_n C dX11_isWithin_0 rfl 0 rfl rfl ?_
  refine x_iload_n C dX11_isWithin_1 rfl 1 rfl rfl ?_
  refine x_icmp_lt C (tgt := 14) dX11_isWithin_2 (by decide) rfl (fun c1 => ?_) (fun c1 => ?_)
  · skip
    refine x_iconst C (v := 0) dX11_isWithin_14 (by decide) rfl ?_
    exact x_zret C hr hlk rfl dX11_isWithin_15 ⟨rfl, (Or.inl rfl), (fun q => absurd rfl q)⟩
  · skip
    refine x_iload_n C dX11_isWithin_5 rfl 0 rfl rfl ?_
    refine x_iload_n C dX11_isWithin_6 rfl 2 rfl rfl ?_
    refine x_icmp_gt C (tgt := 14) dX11_isWithin_7 (by decide) rfl (fun c2 => ?_) (fun c2 => ?_)
    · skip
      refine x_iconst C (v := 0) dX11_isWithin_14 (by decide) rfl ?_
      exact x_zret C hr hlk rfl dX11_isWithin_15 ⟨rfl, (Or.inl rfl), (fun q => absurd rfl q)⟩
    · skip
      refine x_iconst C (v := 1) dX11_isWithin_10 (by decide) rfl ?_
      refine x_goto C (tgt := 15) dX11_isWithin_11 (by decide) ?_
      exact x_zret C hr hlk rfl dX11_isWithin_15 ⟨rfl, (Or.inr rfl), (fun _ => ⟨c1, c2⟩)⟩
theorem dX11_isIn_0 : decode cX11_isIn 0 = .ok (.iload_n 1, 1) := by decide +kernel
theorem dX11_isIn_1 : decode cX11_isIn 1 = .ok (.ifCond .lt 22, 3) := by decide +kernel
theorem dX11_isIn_4 : decode cX11_isIn 4 = .ok (.iload_n 1, 1) := by decide +kernel
theorem dX11_isIn_5 : decode cX11_isIn 5 = .ok (.bipush 8, 2) := by decide +kernel
theorem dX11_isIn_7 : decode cX11_isIn 7 = .ok (.if_icmp .ge 16, 3) := by decide +kernel
theorem dX11_isIn_10 : decode cX11_isIn 10 = .ok (.iload_n 0, 1) := by decide +kernel
theorem dX11_isIn_11 : decode cX11_isIn 11 = .ok (.iload_n 1, 1) := by decide +kernel
theorem dX11_isIn_12 : decode cX11_isIn 12 = .ok (.ishr, 1) := by decide +kernel
theorem dX11_isIn_13 : decode cX11_isIn 13 = .ok (.iconst 1, 1) := by decide +kernel
theorem dX11_isIn_14 : decode cX11_isIn 14 = .ok (.iand, 1) := by decide +kernel
theorem dX11_isIn_15 : decode cX11_isIn 15 = .ok (.iconst 1, 1) := by decide +kernel
theorem dX11_isIn_16 : decode cX11_isIn 16 = .ok (.if_icmp .ne 7, 3) := by decide +kernel
theorem dX11_isIn_19 : decode cX11_isIn 19 = .ok (.iconst 1, 1) := by decide +kernel
theorem dX11_isIn_20 : decode cX11_isIn 20 = .ok (.goto 4, 3) := by decide +kernel
theorem dX11_isIn_23 : decode cX11_isIn 23 = .ok (.iconst 0, 1) := by decide +kernel
theorem dX11_isIn_24 : decode cX11_isIn 24 = .ok (.ireturn, 1) := by decide +kernel
set_option maxRecDepth 20000 in
set_option maxHeartbeats 4000000 in
theorem c_isIn (E : xE) (l : Launch) (a : Nat → Nat) (ws : va_W) (hW : WX (okX E a) ws) (bs : Int32) (pl : Int32) : xI E l yX11_isIn cX11_isIn 2 (some .boolean) 0 [.int bs, .int pl] ws (fun r w => w = ws ∧ zb r ∧ (¬ r = 0 → wth pl 0 7)) := by
  refine xI_start (lv := [(0, .int bs), (1, .int pl)]) RX11 (by decide) rfl (Nat.le_of_ble_eq_true rfl) rfl (fun p e s m below meth c A C hr hlk => ?_)
  refine x_iload_n C dX11_isIn_0 rfl 1 rfl rfl ?_
  refine x_if_lt C (tgt := 23) dX11_isIn_1 (by decide) rfl (fun c1 => ?_) (fun c1 => ?_)
  · skip
    refine x_iconst C (v := 0) dX11_isIn_23 (by decide) rfl ?_
    exact x_zret C hr hlk rfl dX11_isIn_24 ⟨rfl, (Or.inl rfl), (fun q => absurd rfl q)⟩
  · skip
    obtain ⟨j2, hj3, ej4⟩ := nI_of c1
    subst ej4
    refine x_iload_n C dX11_isIn_4 rfl 1 rfl rfl ?_
    refine x_bipush C (v := 8) dX11_isIn_5 (by decide) rfl ?_
    refine x_icmp_ge C (tgt := 23) dX11_isIn_7 (by decide) rfl (fun c5 => ?_) (fun c5 => ?_)
    · skip
      have nf6 := nI_le' (a := 8) (b := j2) c5 (by omega) (by omega)
      refine x_iconst C (v := 0) dX11_isIn_23 (by decide) rfl ?_
      exact x_zret C hr hlk rfl dX11_isIn_24 ⟨rfl, (Or.inl rfl), (fun q => absurd rfl q)⟩
    · skip
      have nf7 := nI_nle' (a := 8) (b := j2) c5 (by omega) (by omega)
      refine x_iload_n C dX11_isIn_10 rfl 0 rfl rfl ?_
      refine x_iload_n C dX11_isIn_11 rfl 1 rfl rfl ?_
      refine x_ishr C (v := (bs >>> ((nI j2) &&& 31))) dX11_isIn_12 rfl rfl ?_
      refine x_any (fun v8 => ?_)
      refine x_iconst C (v := 1) dX11_isIn_13 (by decide) rfl ?_
      refine x_iand C (v := (v8 &&& (1 : Int32))) dX11_isIn_14 rfl rfl ?_
      refine x_any (fun v9 => ?_)
      refine x_iconst C (v := 1) dX11_isIn_15 (by decide) rfl ?_
      refine x_icmp_ne C (tgt := 23) dX11_isIn_16 (by decide) rfl (fun c10 => ?_) (fun c10 => ?_)
      · skip
        refine x_iconst C (v := 0) dX11_isIn_23 (by decide) rfl ?_
        exact x_zret C hr hlk rfl dX11_isIn_24 ⟨rfl, (Or.inl rfl), (fun q => absurd rfl q)⟩
      · skip
        refine x_iconst C (v := 1) dX11_isIn_19 (by decide) rfl ?_
        refine x_goto C (tgt := 24) dX11_isIn_20 (by decide) ?_
        exact x_zret C hr hlk rfl dX11_isIn_24 ⟨rfl, (Or.inr rfl), (fun _ => wth_n (by omega) (by omega) (by decide))⟩
theorem dX2_isTold_0 : decode cX2_isTold 0 = .ok (.aload_n 0, 1) := by decide +kernel
theorem dX2_isTold_1 : decode cX2_isTold 1 = .ok (.getfield 9, 3) := by decide +kernel
theorem dX2_isTold_4 : decode cX2_isTold 4 = .ok (.iload_n 1, 1) := by decide +kernel
theorem dX2_isTold_5 : decode cX2_isTold 5 = .ok (.invokestatic 22, 3) := by decide +kernel
theorem dX2_isTold_8 : decode cX2_isTold 8 = .ok (.ireturn, 1) := by decide +kernel
set_option maxRecDepth 20000 in
set_option maxHeartbeats 4000000 in
theorem c_Hens_isTold (E : xE) (l : Launch) (a : Nat → Nat) (ws : va_W) (hW : WX (okX E a) ws) (t : Nat) (ht : tb t) (p0 : Int32) : xI E l yX2_isTold cX2_isTold 2 (some .boolean) 1 [.ref (a (t + 1)), .int p0] ws (fun r w => w = ws ∧ zb r ∧ (¬ r = 0 → wth p0 0 7)) := by
  refine xI_start (lv := [(0, .ref (a (t + 1))), (1, .int p0)]) RX2 (by decide) rfl (Nat.le_of_ble_eq_true rfl) rfl (fun p e s m below meth c A C hr hlk => ?_)
  have htb := tb_lo ht
  refine x_aload_n C dX2_isTold_0 rfl 0 rfl rfl ?_
  obtain ⟨_, k1, v2, rfl⟩ := hW (t + 1) _ (okX_t ht (j := 1) rfl)
  refine x_get C (ci := 2) (k := 0) (t + 1) k1 rfl in_X2 (by decide) w_68 rfl dX2_isTold_1 rfl ?_
  refine x_iload_n C dX2_isTold_4 rfl 1 rfl rfl ?_
  refine x_sn C (As := [.int v2, .int p0]) (rest := []) (c_isIn E l a ws hW v2 p0) mf_X11_isIn n_478 rfl rfl (Nat.le_of_ble_eq_true rfl) ⟨(Nat.le_of_ble_eq_true rfl), (Nat.le_of_ble_eq_true rfl)⟩ ⟨(Nat.le_of_ble_eq_true rfl), (Nat.le_of_ble_eq_true rfl)⟩ dX2_isTold_5 rfl (fun r4 w5 h3 => ?_)
  obtain ⟨hW6, zb7, x8⟩ := h3
  refine x_ws hW6 ?_
  exact x_zret C hr hlk (zb_nar zb7) dX2_isTold_8 ⟨rfl, zb7, x8⟩
theorem dX5_isTold_0 : decode cX5_isTold 0 = .ok (.aload_n 0, 1) := by decide +kernel
theorem dX5_isTold_1 : decode cX5_isTold 1 = .ok (.getfield 9, 3) := by decide +kernel
theorem dX5_isTold_4 : decode cX5_isTold 4 = .ok (.iload_n 1, 1) := by decide +kernel
theorem dX5_isTold_5 : decode cX5_isTold 5 = .ok (.invokestatic 28, 3) := by decide +kernel
theorem dX5_isTold_8 : decode cX5_isTold 8 = .ok (.ireturn, 1) := by decide +kernel
set_option maxRecDepth 20000 in
set_option maxHeartbeats 4000000 in
theorem c_People_isTold (E : xE) (l : Launch) (a : Nat → Nat) (ws : va_W) (hW : WX (okX E a) ws) (t : Nat) (ht : tb t) (p0 : Int32) : xI E l yX5_isTold cX5_isTold 2 (some .boolean) 1 [.ref (a (t + 4)), .int p0] ws (fun r w => w = ws ∧ zb r ∧ (¬ r = 0 → wth p0 0 7)) := by
  refine xI_start (lv := [(0, .ref (a (t + 4))), (1, .int p0)]) RX5 (by decide) rfl (Nat.le_of_ble_eq_true rfl) rfl (fun p e s m below meth c A C hr hlk => ?_)
  have htb := tb_lo ht
  refine x_aload_n C dX5_isTold_0 rfl 0 rfl rfl ?_
  obtain ⟨_, k1, v2, rfl⟩ := hW (t + 4) _ (okX_t ht (j := 4) rfl)
  refine x_get C (ci := 4) (k := 0) (t + 4) k1 rfl in_X5 (by decide) w_90 rfl dX5_isTold_1 rfl ?_
  refine x_iload_n C dX5_isTold_4 rfl 1 rfl rfl ?_
  refine x_sn C (As := [.int v2, .int p0]) (rest := []) (c_isIn E l a ws hW v2 p0) mf_X11_isIn n_455 rfl rfl (Nat.le_of_ble_eq_true rfl) ⟨(Nat.le_of_ble_eq_true rfl), (Nat.le_of_ble_eq_true rfl)⟩ ⟨(Nat.le_of_ble_eq_true rfl), (Nat.le_of_ble_eq_true rfl)⟩ dX5_isTold_5 rfl (fun r4 w5 h3 => ?_)
  obtain ⟨hW6, zb7, x8⟩ := h3
  refine x_ws hW6 ?_
  exact x_zret C hr hlk (zb_nar zb7) dX5_isTold_8 ⟨rfl, zb7, x8⟩
theorem dX10_isTold_0 : decode cX10_isTold 0 = .ok (.aload_n 0, 1) := by decide +kernel
theorem dX10_isTold_1 : decode cX10_isTold 1 = .ok (.getfield 9, 3) := by decide +kernel
theorem dX10_isTold_4 : decode cX10_isTold 4 = .ok (.iload_n 1, 1) := by decide +kernel
theorem dX10_isTold_5 : decode cX10_isTold 5 = .ok (.invokestatic 31, 3) := by decide +kernel
theorem dX10_isTold_8 : decode cX10_isTold 8 = .ok (.ireturn, 1) := by decide +kernel
set_option maxRecDepth 20000 in
set_option maxHeartbeats 4000000 in
theorem c_Works_isTold (E : xE) (l : Launch) (a : Nat → Nat) (ws : va_W) (hW : WX (okX E a) ws) (t : Nat) (ht : tb t) (p0 : Int32) : xI E l yX10_isTold cX10_isTold 2 (some .boolean) 1 [.ref (a (t + 16)), .int p0] ws (fun r w => w = ws ∧ zb r ∧ (¬ r = 0 → wth p0 0 7)) := by
  refine xI_start (lv := [(0, .ref (a (t + 16))), (1, .int p0)]) RX10 (by decide) rfl (Nat.le_of_ble_eq_true rfl) rfl (fun p e s m below meth c A C hr hlk => ?_)
  have htb := tb_lo ht
  refine x_aload_n C dX10_isTold_0 rfl 0 rfl rfl ?_
  obtain ⟨_, k1, v2, rfl⟩ := hW (t + 16) _ (okX_t ht (j := 16) rfl)
  refine x_get C (ci := 9) (k := 0) (t + 16) k1 rfl in_X10 (by decide) w_168 rfl dX10_isTold_1 rfl ?_
  refine x_iload_n C dX10_isTold_4 rfl 1 rfl rfl ?_
  refine x_sn C (As := [.int v2, .int p0]) (rest := []) (c_isIn E l a ws hW v2 p0) mf_X11_isIn n_705 rfl rfl (Nat.le_of_ble_eq_true rfl) ⟨(Nat.le_of_ble_eq_true rfl), (Nat.le_of_ble_eq_true rfl)⟩ ⟨(Nat.le_of_ble_eq_true rfl), (Nat.le_of_ble_eq_true rfl)⟩ dX10_isTold_5 rfl (fun r4 w5 h3 => ?_)
  obtain ⟨hW6, zb7, x8⟩ := h3
  refine x_ws hW6 ?_
  exact x_zret C hr hlk (zb_nar zb7) dX10_isTold_8 ⟨rfl, zb7, x8⟩
theorem dX1_isLaid_0 : decode cX1_isLaid 0 = .ok (.iload_n 1, 1) := by decide +kernel
theorem dX1_isLaid_1 : decode cX1_isLaid 1 = .ok (.ifCond .lt 21, 3) := by decide +kernel
theorem dX1_isLaid_4 : decode cX1_isLaid 4 = .ok (.iload_n 1, 1) := by decide +kernel
theorem dX1_isLaid_5 : decode cX1_isLaid 5 = .ok (.aload_n 0, 1) := by decide +kernel
theorem dX1_isLaid_6 : decode cX1_isLaid 6 = .ok (.getfield 9, 3) := by decide +kernel
theorem dX1_isLaid_9 : decode cX1_isLaid 9 = .ok (.if_icmp .ge 13, 3) := by decide +kernel
theorem dX1_isLaid_12 : decode cX1_isLaid 12 = .ok (.iload_n 1, 1) := by decide +kernel
theorem dX1_isLaid_13 : decode cX1_isLaid 13 = .ok (.bipush 48, 2) := by decide +kernel
theorem dX1_isLaid_15 : decode cX1_isLaid 15 = .ok (.if_icmp .ge 7, 3) := by decide +kernel
theorem dX1_isLaid_18 : decode cX1_isLaid 18 = .ok (.iconst 1, 1) := by decide +kernel
theorem dX1_isLaid_19 : decode cX1_isLaid 19 = .ok (.goto 4, 3) := by decide +kernel
theorem dX1_isLaid_22 : decode cX1_isLaid 22 = .ok (.iconst 0, 1) := by decide +kernel
theorem dX1_isLaid_23 : decode cX1_isLaid 23 = .ok (.ireturn, 1) := by decide +kernel
set_option maxRecDepth 20000 in
set_option maxHeartbeats 4000000 in
theorem c_Eggs_isLaid (E : xE) (l : Launch) (a : Nat → Nat) (ws : va_W) (hW : WX (okX E a) ws) (t : Nat) (ht : tb t) (i0 : Int32) : xI E l yX1_isLaid cX1_isLaid 2 (some .boolean) 0 [.ref (a (t + 9)), .int i0] ws (fun r w => w = ws ∧ zb r ∧ (¬ r = 0 → wth i0 0 47)) := by
  refine xI_start (lv := [(0, .ref (a (t + 9))), (1, .int i0)]) RX1 (by decide) rfl (Nat.le_of_ble_eq_true rfl) rfl (fun p e s m below meth c A C hr hlk => ?_)
  have htb := tb_lo ht
  refine x_iload_n C dX1_isLaid_0 rfl 1 rfl rfl ?_
  refine x_if_lt C (tgt := 22) dX1_isLaid_1 (by decide) rfl (fun c1 => ?_) (fun c1 => ?_)
  · skip
    refine x_iconst C (v := 0) dX1_isLaid_22 (by decide) rfl ?_
    exact x_zret C hr hlk rfl dX1_isLaid_23 ⟨rfl, (Or.inl rfl), (fun q => absurd rfl q)⟩
  · skip
    obtain ⟨j2, hj3, ej4⟩ := nI_of c1
    subst ej4
    refine x_iload_n C dX1_isLaid_4 rfl 1 rfl rfl ?_
    refine x_aload_n C dX1_isLaid_5 rfl 0 rfl rfl ?_
    obtain ⟨_, k5, n6, bn7, rfl⟩ := hW (t + 9) _ (okX_t ht (j := 9) rfl)
    refine x_get C (ci := 1) (k := 0) (t + 9) k5 rfl in_X1 (by decide) w_120 rfl dX1_isLaid_6 rfl ?_
    refine x_icmp_ge C (tgt := 22) dX1_isLaid_9 (by decide) rfl (fun c8 => ?_) (fun c8 => ?_)
    · skip
      have nf9 := nI_le' (a := n6) (b := j2) c8 (by omega) (by omega)
      refine x_iconst C (v := 0) dX1_isLaid_22 (by decide) rfl ?_
      exact x_zret C hr hlk rfl dX1_isLaid_23 ⟨rfl, (Or.inl rfl), (fun q => absurd rfl q)⟩
    · skip
      have nf10 := nI_nle' (a := n6) (b := j2) c8 (by omega) (by omega)
      refine x_iload_n C dX1_isLaid_12 rfl 1 rfl rfl ?_
      refine x_bipush C (v := 48) dX1_isLaid_13 (by decide) rfl ?_
      refine x_icmp_ge C (tgt := 22) dX1_isLaid_15 (by decide) rfl (fun c11 => ?_) (fun c11 => ?_)
      · skip
        have nf12 := nI_le' (a := 48) (b := j2) c11 (by omega) (by omega)
        refine x_iconst C (v := 0) dX1_isLaid_22 (by decide) rfl ?_
        exact x_zret C hr hlk rfl dX1_isLaid_23 ⟨rfl, (Or.inl rfl), (fun q => absurd rfl q)⟩
      · skip
        have nf13 := nI_nle' (a := 48) (b := j2) c11 (by omega) (by omega)
        refine x_iconst C (v := 1) dX1_isLaid_18 (by decide) rfl ?_
        refine x_goto C (tgt := 23) dX1_isLaid_19 (by decide) ?_
        exact x_zret C hr hlk rfl dX1_isLaid_23 ⟨rfl, (Or.inr rfl), (fun _ => wth_n (by omega) (by omega) (by decide))⟩
theorem dX1_isWhole_0 : decode cX1_isWhole 0 = .ok (.aload_n 0, 1) := by decide +kernel
theorem dX1_isWhole_1 : decode cX1_isWhole 1 = .ok (.iload_n 1, 1) := by decide +kernel
theorem dX1_isWhole_2 : decode cX1_isWhole 2 = .ok (.invokevirtual 34, 3) := by decide +kernel
theorem dX1_isWhole_5 : decode cX1_isWhole 5 = .ok (.ifCond .eq 16, 3) := by decide +kernel
theorem dX1_isWhole_8 : decode cX1_isWhole 8 = .ok (.aload_n 0, 1) := by decide +kernel
theorem dX1_isWhole_9 : decode cX1_isWhole 9 = .ok (.getfield 31, 3) := by decide +kernel
theorem dX1_isWhole_12 : decode cX1_isWhole 12 = .ok (.iload_n 1, 1) := by decide +kernel
theorem dX1_isWhole_13 : decode cX1_isWhole 13 = .ok (.iaload, 1) := by decide +kernel
theorem dX1_isWhole_14 : decode cX1_isWhole 14 = .ok (.ifCond .ne 7, 3) := by decide +kernel
theorem dX1_isWhole_17 : decode cX1_isWhole 17 = .ok (.iconst 1, 1) := by decide +kernel
theorem dX1_isWhole_18 : decode cX1_isWhole 18 = .ok (.goto 4, 3) := by decide +kernel
theorem dX1_isWhole_21 : decode cX1_isWhole 21 = .ok (.iconst 0, 1) := by decide +kernel
theorem dX1_isWhole_22 : decode cX1_isWhole 22 = .ok (.ireturn, 1) := by decide +kernel
set_option maxRecDepth 20000 in
set_option maxHeartbeats 4000000 in
theorem c_Eggs_isWhole (E : xE) (l : Launch) (a : Nat → Nat) (ws : va_W) (hW : WX (okX E a) ws) (t : Nat) (ht : tb t) (i0 : Int32) : xI E l yX1_isWhole cX1_isWhole 2 (some .boolean) 1 [.ref (a (t + 9)), .int i0] ws (fun r w => w = ws ∧ zb r ∧ (¬ r = 0 → wth i0 0 47)) := by
  refine xI_start (lv := [(0, .ref (a (t + 9))), (1, .int i0)]) RX1 (by decide) rfl (Nat.le_of_ble_eq_true rfl) rfl (fun p e s m below meth c A C hr hlk => ?_)
  have htb := tb_lo ht
  refine x_aload_n C dX1_isWhole_0 rfl 0 rfl rfl ?_
  refine x_iload_n C dX1_isWhole_1 rfl 1 rfl rfl ?_
  obtain ⟨_, k1, n2, bn3, rfl⟩ := hW (t + 9) _ (okX_t ht (j := 9) rfl)
  refine x_vi C (As := [.int i0]) (rest := []) (c_Eggs_isLaid E l a ws hW t ht i0) mf_X1_isLaid w_715 (t + 9) k1 rfl rfl rfl (Nat.le_of_ble_eq_true rfl) ⟨(Nat.le_of_ble_eq_true rfl), (Nat.le_of_ble_eq_true rfl)⟩ ⟨(Nat.le_of_ble_eq_true rfl), (Nat.le_of_ble_eq_true rfl)⟩ dX1_isWhole_2 rfl (fun r5 w6 h4 => ?_)
  obtain ⟨hW7, zb8, x9⟩ := h4
  refine x_ws hW7 ?_
  refine x_if_eq C (tgt := 21) dX1_isWhole_5 (by decide) rfl (fun c10 => ?_) (fun c10 => ?_)
  · skip
    refine x_iconst C (v := 0) dX1_isWhole_21 (by decide) rfl ?_
    exact x_zret C hr hlk rfl dX1_isWhole_22 ⟨rfl, (Or.inl rfl), (fun q => absurd rfl q)⟩
  · skip
    obtain ⟨j11, hl12, hh13, ej14⟩ := w_nat (a := 0) (b := 47) (by decide) (by decide) (x9 c10)
    subst ej14
    refine x_aload_n C dX1_isWhole_8 rfl 0 rfl rfl ?_
    refine x_get C (ci := 1) (k := 6) (t + 9) k1 rfl in_X1 (by decide) w_144 rfl dX1_isWhole_9 rfl ?_
    refine x_iload_n C dX1_isWhole_12 rfl 1 rfl rfl ?_
    obtain ⟨_, k15, f16, rfl⟩ := hW (t + 15) _ (okX_t ht (j := 15) rfl)
    refine x_iald C (v := (f16 (nI j11).toNatClampNeg)) (t + 15) k15 (vp_in_nI (by omega) (by decide)) rfl dX1_isWhole_13 rfl ?_
    refine x_any (fun v17 => ?_)
    refine x_if_ne C (tgt := 21) dX1_isWhole_14 (by decide) rfl (fun c18 => ?_) (fun c18 => ?_)
    · skip
      refine x_iconst C (v := 0) dX1_isWhole_21 (by decide) rfl ?_
      exact x_zret C hr hlk rfl dX1_isWhole_22 ⟨rfl, (Or.inl rfl), (fun q => absurd rfl q)⟩
    · skip
      refine x_iconst C (v := 1) dX1_isWhole_17 (by decide) rfl ?_
      refine x_goto C (tgt := 22) dX1_isWhole_18 (by decide) ?_
      exact x_zret C hr hlk rfl dX1_isWhole_22 ⟨rfl, (Or.inr rfl), (fun _ => wth_n (by omega) (by omega) (by decide))⟩
theorem dX1_isWholeOf_0 : decode cX1_isWholeOf 0 = .ok (.aload_n 0, 1) := by decide +kernel
theorem dX1_isWholeOf_1 : decode cX1_isWholeOf 1 = .ok (.iload_n 1, 1) := by decide +kernel
theorem dX1_isWholeOf_2 : decode cX1_isWholeOf 2 = .ok (.invokevirtual 38, 3) := by decide +kernel
theorem dX1_isWholeOf_5 : decode cX1_isWholeOf 5 = .ok (.ifCond .eq 17, 3) := by decide +kernel
theorem dX1_isWholeOf_8 : decode cX1_isWholeOf 8 = .ok (.aload_n 0, 1) := by decide +kernel
theorem dX1_isWholeOf_9 : decode cX1_isWholeOf 9 = .ok (.getfield 25, 3) := by decide +kernel
theorem dX1_isWholeOf_12 : decode cX1_isWholeOf 12 = .ok (.iload_n 1, 1) := by decide +kernel
theorem dX1_isWholeOf_13 : decode cX1_isWholeOf 13 = .ok (.iaload, 1) := by decide +kernel
theorem dX1_isWholeOf_14 : decode cX1_isWholeOf 14 = .ok (.iload_n 2, 1) := by decide +kernel
theorem dX1_isWholeOf_15 : decode cX1_isWholeOf 15 = .ok (.if_icmp .ne 7, 3) := by decide +kernel
theorem dX1_isWholeOf_18 : decode cX1_isWholeOf 18 = .ok (.iconst 1, 1) := by decide +kernel
theorem dX1_isWholeOf_19 : decode cX1_isWholeOf 19 = .ok (.goto 4, 3) := by decide +kernel
theorem dX1_isWholeOf_22 : decode cX1_isWholeOf 22 = .ok (.iconst 0, 1) := by decide +kernel
theorem dX1_isWholeOf_23 : decode cX1_isWholeOf 23 = .ok (.ireturn, 1) := by decide +kernel
set_option maxRecDepth 20000 in
set_option maxHeartbeats 4000000 in
theorem c_Eggs_isWholeOf (E : xE) (l : Launch) (a : Nat → Nat) (ws : va_W) (hW : WX (okX E a) ws) (t : Nat) (ht : tb t) (i0 : Int32) (p0 : Int32) : xI E l yX1_isWholeOf cX1_isWholeOf 3 (some .boolean) 2 [.ref (a (t + 9)), .int i0, .int p0] ws (fun r w => w = ws ∧ zb r ∧ (¬ r = 0 → wth i0 0 47)) := by
  refine xI_start (lv := [(0, .ref (a (t + 9))), (1, .int i0), (2, .int p0)]) RX1 (by decide) rfl (Nat.le_of_ble_eq_true rfl) rfl (fun p e s m below meth c A C hr hlk => ?_)
  have htb := tb_lo ht
  refine x_aload_n C dX1_isWholeOf_0 rfl 0 rfl rfl ?_
  refine x_iload_n C dX1_isWholeOf_1 rfl 1 rfl rfl ?_
  obtain ⟨_, k1, n2, bn3, rfl⟩ := hW (t + 9) _ (okX_t ht (j := 9) rfl)
  refine x_vi C (As := [.int i0]) (rest := []) (c_Eggs_isWhole E l a ws hW t ht i0) mf_X1_isWhole w_879 (t + 9) k1 rfl rfl rfl (Nat.le_of_ble_eq_true rfl) ⟨(Nat.le_of_ble_eq_true rfl), (Nat.le_of_ble_eq_true rfl)⟩ ⟨(Nat.le_of_ble_eq_true rfl), (Nat.le_of_ble_eq_true rfl)⟩ dX1_isWholeOf_2 rfl (fun r5 w6 h4 => ?_)
  obtain ⟨hW7, zb8, x9⟩ := h4
  refine x_ws hW7 ?_
  refine x_if_eq C (tgt := 22) dX1_isWholeOf_5 (by decide) rfl (fun c10 => ?_) (fun c10 => ?_)
  · skip
    refine x_iconst C (v := 0) dX1_isWholeOf_22 (by decide) rfl ?_
    exact x_zret C hr hlk rfl dX1_isWholeOf_23 ⟨rfl, (Or.inl rfl), (fun q => absurd rfl q)⟩
  · skip
    obtain ⟨j11, hl12, hh13, ej14⟩ := w_nat (a := 0) (b := 47) (by decide) (by decide) (x9 c10)
    subst ej14
    refine x_aload_n C dX1_isWholeOf_8 rfl 0 rfl rfl ?_
    refine x_get C (ci := 1) (k := 4) (t + 9) k1 rfl in_X1 (by decide) w_134 rfl dX1_isWholeOf_9 rfl ?_
    refine x_iload_n C dX1_isWholeOf_12 rfl 1 rfl rfl ?_
    obtain ⟨_, k15, g16, gb17, rfl⟩ := hW (t + 13) _ (okX_t ht (j := 13) rfl)
    refine x_ialk C (v := nI (g16 j11)) j11 (nI_clamp (by omega)) (nI_pos (by omega)) (by omega) (t + 13) k15 rfl dX1_isWholeOf_13 rfl ?_
    have bx18 := gb17 j11
    refine x_iload_n C dX1_isWholeOf_14 rfl 2 rfl rfl ?_
    refine x_icmp_ne C (tgt := 22) dX1_isWholeOf_15 (by decide) rfl (fun c19 => ?_) (fun c19 => ?_)
    · skip
      refine x_iconst C (v := 0) dX1_isWholeOf_22 (by decide) rfl ?_
      exact x_zret C hr hlk rfl dX1_isWholeOf_23 ⟨rfl, (Or.inl rfl), (fun q => absurd rfl q)⟩
    · skip
      refine x_iconst C (v := 1) dX1_isWholeOf_18 (by decide) rfl ?_
      refine x_goto C (tgt := 23) dX1_isWholeOf_19 (by decide) ?_
      exact x_zret C hr hlk rfl dX1_isWholeOf_23 ⟨rfl, (Or.inr rfl), (fun _ => wth_n (by omega) (by omega) (by decide))⟩
theorem dX1_minutesAt_0 : decode cX1_minutesAt 0 = .ok (.aload_n 0, 1) := by decide +kernel
theorem dX1_minutesAt_1 : decode cX1_minutesAt 1 = .ok (.iload_n 1, 1) := by decide +kernel
theorem dX1_minutesAt_2 : decode cX1_minutesAt 2 = .ok (.invokevirtual 34, 3) := by decide +kernel
theorem dX1_minutesAt_5 : decode cX1_minutesAt 5 = .ok (.ifCond .eq 12, 3) := by decide +kernel
theorem dX1_minutesAt_8 : decode cX1_minutesAt 8 = .ok (.aload_n 0, 1) := by decide +kernel
theorem dX1_minutesAt_9 : decode cX1_minutesAt 9 = .ok (.getfield 15, 3) := by decide +kernel
theorem dX1_minutesAt_12 : decode cX1_minutesAt 12 = .ok (.iload_n 1, 1) := by decide +kernel
theorem dX1_minutesAt_13 : decode cX1_minutesAt 13 = .ok (.iaload, 1) := by decide +kernel
theorem dX1_minutesAt_14 : decode cX1_minutesAt 14 = .ok (.goto 4, 3) := by decide +kernel
theorem dX1_minutesAt_17 : decode cX1_minutesAt 17 = .ok (.iconst 0, 1) := by decide +kernel
theorem dX1_minutesAt_18 : decode cX1_minutesAt 18 = .ok (.ireturn, 1) := by decide +kernel
set_option maxRecDepth 20000 in
set_option maxHeartbeats 4000000 in
theorem c_Eggs_minutesAt (E : xE) (l : Launch) (a : Nat → Nat) (ws : va_W) (hW : WX (okX E a) ws) (t : Nat) (ht : tb t) (i0 : Int32) : xI E l yX1_minutesAt cX1_minutesAt 2 (some .int) 1 [.ref (a (t + 9)), .int i0] ws (fun r w => w = ws) := by
  refine xI_start (lv := [(0, .ref (a (t + 9))), (1, .int i0)]) RX1 (by decide) rfl (Nat.le_of_ble_eq_true rfl) rfl (fun p e s m below meth c A C hr hlk => ?_)
  have htb := tb_lo ht
  refine x_aload_n C dX1_minutesAt_0 rfl 0 rfl rfl ?_
  refine x_iload_n C dX1_minutesAt_1 rfl 1 rfl rfl ?_
  obtain ⟨_, k1, n2, bn3, rfl⟩ := hW (t + 9) _ (okX_t ht (j := 9) rfl)
  refine x_vi C (As := [.int i0]) (rest := []) (c_Eggs_isLaid E l a ws hW t ht i0) mf_X1_isLaid w_715 (t + 9) k1 rfl rfl rfl (Nat.le_of_ble_eq_true rfl) ⟨(Nat.le_of_ble_eq_true rfl), (Nat.le_of_ble_eq_true rfl)⟩ ⟨(Nat.le_of_ble_eq_true rfl), (Nat.le_of_ble_eq_true rfl)⟩ dX1_minutesAt_2 rfl (fun r5 w6 h4 => ?_)
  obtain ⟨hW7, zb8, x9⟩ := h4
  refine x_ws hW7 ?_
  refine x_if_eq C (tgt := 17) dX1_minutesAt_5 (by decide) rfl (fun c10 => ?_) (fun c10 => ?_)
  · skip
    refine x_iconst C (v := 0) dX1_minutesAt_17 (by decide) rfl ?_
    exact x_zret C hr hlk rfl dX1_minutesAt_18 rfl
  · skip
    obtain ⟨j11, hl12, hh13, ej14⟩ := w_nat (a := 0) (b := 47) (by decide) (by decide) (x9 c10)
    subst ej14
    refine x_aload_n C dX1_minutesAt_8 rfl 0 rfl rfl ?_
    refine x_get C (ci := 1) (k := 1) (t + 9) k1 rfl in_X1 (by decide) w_123 rfl dX1_minutesAt_9 rfl ?_
    refine x_iload_n C dX1_minutesAt_12 rfl 1 rfl rfl ?_
    obtain ⟨_, k15, f16, rfl⟩ := hW (t + 10) _ (okX_t ht (j := 10) rfl)
    refine x_iald C (v := (f16 (nI j11).toNatClampNeg)) (t + 10) k15 (vp_in_nI (by omega) (by decide)) rfl dX1_minutesAt_13 rfl ?_
    refine x_any (fun v17 => ?_)
    refine x_goto C (tgt := 18) dX1_minutesAt_14 (by decide) ?_
    exact x_zret C hr hlk rfl dX1_minutesAt_18 rfl
