theorem dX11_isWithin_0 : decode cX11_isWithin 0 = .ok (.iload_n 0, 1) := by decide +kernel
theorem dX11_isWithin_1 : decode cX11_isWithin 1 = .ok (.iload_n 1, 1) := by decide +kernel
theorem dX11_isWithin_2 : decode cX11_isWithin 2 = .ok (.if_icmp .lt 12, 3) := by decide +kernel
theorem dX11_isWithin_5 : decode cX11_isWithin 5 = .ok (.iload_n 0, 1) := by decide +kernel
theorem dX11_isWithin_6 : decode cX11_isWithin 6 = .ok (.iload_n 2, 1) := by decide +kernel
theorem dX11_isWithin_7 : decode cX11_isWithin 7 = .ok (.if_icmp .gt 7, 3) := by decide +kernel
theorem dX11_isWithin_10 : decode cX11_isWithin 10 = .ok (.iconst 1, 1) := by decide +kernel
theorem dX11_isWithin_11 : decode cX11_isWithin 11 = .ok (.goto 4, 3) := by decide +kernel
theorem dX11_isWithin_14 : decode cX11_isWithin 14 = .ok (.iconst 0, 1) := by decide +kernel
theorem dX11_isWithin_15 : decode cX11_isWithin 15 = .ok (.ireturn, 1) := by decide +kernel
set_option maxRecDepth 20000 in
set_option maxHeartbeats 4000000 in
theorem c_isWithin (E : xE) (l : Launch) (a : Nat → Nat) (ws : va_W) (hW : WX (okX E a) ws) (v : Int32) (lo : Int32) (hi : Int32) : xI E l yX11_isWithin cX11_isWithin 3 (some .boolean) 0 [.int v, .int lo, .int hi] ws (fun r w => w = ws ∧ zb r ∧ (¬ r = 0 → wth v lo hi)) := by
  refine xI_start (lv := [(0, .int v), (1, .int lo), (2, .int hi)]) RX11 (by decide) rfl (Nat.le_of_ble_eq_true rfl) rfl (fun p e s m below meth c A C hr hlk => ?_)
  refine x_iload_n C dX11_isWithin_0 rfl 0 rfl rfl ?_
  refine x_iload_n C dX11_isWithin_1 rfl 1 rfl rfl ?_
  refine x_icmp_lt C (tgt := 14) dX11_isWithin_2 (by decide) rfl (fun c1 => ?_) (fun c1 => ?_)
  · skip
    refine x_iconst C (v := 0) dX11_isWithin_14 (by decide) rfl ?_
    exact x_zret C hr hlk rfl dX11_isWithin_15 ⟨rfl, (Or.inl rfl), (fun q => absurd rfl q)⟩
  · skip
    refine x_iload_n C dX11_isWithin_5 rfl 0 rfl rfl ?_
    refine x_iload_n C dX11_isWithin_6 rfl 2 rfl rfl ?_
    refine x_icmp_gt C (tgt := 14) dX11_isWithin_7 (by decide) rfl (fun c2 => ?_) (fun c2 => ?_)
    · skip
      refine x_iconst C (v := 0) dX11_isWithin_14 (by decide) rfl ?_
      exact x_zret C hr hlk rfl dX11_isWithin_15 ⟨rfl, (Or.inl rfl), (fun q => absurd rfl q)⟩
    · skip
      refine x_iconst C (v := 1) dX11_isWithin_10 (by decide) rfl ?_
      refine x_goto C (tgt := 15) dX11_isWithin_11 (by decide) ?_
      exact x_zret C hr hlk rfl dX11_isWithin_15 ⟨rfl, (Or.inr rfl), (fun _ => ⟨c1, c2⟩)⟩
theorem dX11_isIn_0 : decode cX11_isIn 0 = .ok (.iload_n 1, 1) := by decide +kernel
theorem dX11_isIn_1 : decode cX11_isIn 1 = .ok (.ifCond .lt 22, 3) := by decide +kernel
theorem dX11_isIn_4 : decode cX11_isIn 4 = .ok (.iload_n 1, 1) := by decide +kernel
theorem dX11_isIn_5 : decode cX11_isIn 5 = .ok (.bipush 8, 2) := by decide +kernel
theorem dX11_isIn_7 : decode cX11_isIn 7 = .ok (.if_icmp .ge 16, 3) := by decide +kernel
theorem dX11_isIn_10 : decode cX11_isIn 10 = .ok (.iload_n 0, 1) := by decide +kernel
theorem dX11_isIn_11 : decode cX11_isIn 11 = .ok (.iload_n 1, 1) := by decide +kernel
theorem dX11_isIn_12 : decode cX11_isIn 12 = .ok (.ishr, 1) := by decide +kernel
theorem dX11_isIn_13 : decode cX11_isIn 13 = .ok (.iconst 1, 1) := by decide +kernel
theorem dX11_isIn_14 : decode cX11_isIn 14 = .ok (.iand, 1) := by decide +kernel
theorem dX11_isIn_15 : decode cX11_isIn 15 = .ok (.iconst 1, 1) := by decide +kernel
theorem dX11_isIn_16 : decode cX11_isIn 16 = .ok (.if_icmp .ne 7, 3) := by decide +kernel
theorem dX11_isIn_19 : decode cX11_isIn 19 = .ok (.iconst 1, 1) := by decide +kernel
theorem dX11_isIn_20 : decode cX11_isIn 20 = .ok (.goto 4, 3) := by decide +kernel
theorem dX11_isIn_23 : decode cX11_isIn 23 = .ok (.iconst 0, 1) := by decide +kernel
theorem dX11_isIn_24 : decode cX11_isIn 24 = .ok (.ireturn, 1) := by decide +kernel
set_option maxRecDepth 20000 in
set_option maxHeartbeats 4000000 in
theorem c_isIn (E : xE) (l : Launch) (a : Nat → Nat) (ws : va_W) (hW : WX (okX E a) ws) (bs : Int32) (pl : Int32) : xI E l yX11_isIn cX11_isIn 2 (some .boolean) 0 [.int bs, .int pl] ws (fun r w => w = ws ∧ zb r ∧ (¬ r = 0 → wth pl 0 7)) := by
  refine xI_start (lv := [(0, .int bs), (1, .int pl)]) RX11 (by decide) rfl (Nat.le_of_ble_eq_true rfl) rfl (fun p e s m below meth c A C hr hlk => ?_)
  refine x_iload_n C dX11_isIn_0 rfl 1 rfl rfl ?_
  refine x_if_lt C (tgt := 23) dX11_isIn_1 (by decide) rfl (fun c1 => ?_) (fun c1 => ?_)
  · skip
    refine x_iconst C (v := 0) dX11_isIn_23 (by decide) rfl ?_
    exact x_zret C hr hlk rfl dX11_isIn_24 ⟨rfl, (Or.inl rfl), (fun q => absurd rfl q)⟩
  · skip
    obtain ⟨j2, hj3, ej4⟩ := nI_of c1
    subst ej4
    refine x_iload_n C dX11_isIn_4 rfl 1 rfl rfl ?_
    refine x_bipush C (v := 8) dX11_isIn_5 (by decide) rfl ?_
    refine x_icmp_ge C (tgt := 23) dX11_isIn_7 (by decide) rfl (fun c5 => ?_) (fun c5 => ?_)
    · skip
      have nf6 := nI_le' (a := 8) (b := j2) c5 (by omega) (by omega)
      refine x_iconst C (v := 0) dX11_isIn_23 (by decide) rfl ?_
      exact x_zret C hr hlk rfl dX11_isIn_24 ⟨rfl, (Or.inl rfl), (fun q => absurd rfl q)⟩
    · skip
      have nf7 := nI_nle' (a := 8) (b := j2) c5 (by omega) (by omega)
      refine x_iload_n C dX11_isIn_10 rfl 0 rfl rfl ?_
      refine x_iload_n C dX11_isIn_11 rfl 1 rfl rfl ?_
      refine x_ishr C (v := (bs >>> ((nI j2) &&& 31))) dX11_isIn_12 rfl rfl ?_
      refine x_any (fun v8 => ?_)
      refine x_iconst C (v := 1) dX11_isIn_13 (by decide) rfl ?_
      refine x_iand C (v := (v8 &&& (1 : Int32))) dX11_isIn_14 rfl rfl ?_
      refine x_any (fun v9 => ?_)
      refine x_iconst C (v := 1) dX11_isIn_15 (by decide) rfl ?_
      refine x_icmp_ne C (tgt := 23) dX11_isIn_16 (by decide) rfl (fun c10 => ?_) (fun c10 => ?_)
      · skip
        refine x_iconst C (v := 0) dX11_isIn_23 (by decide) rfl ?_
        exact x_zret C hr hlk rfl dX11_isIn_24 ⟨rfl, (Or.inl rfl), (fun q => absurd rfl q)⟩
      · skip
        refine x_iconst C (v := 1) dX11_isIn_19 (by decide) rfl ?_
        refine x_goto C (tgt := 24) dX11_isIn_20 (by decide) ?_
        exact x_zret C hr hlk rfl dX11_isIn_24 ⟨rfl, (Or.inr rfl), (fun _ => wth_n (a := 0) (b := 7) (by omega) (by omega) (by decide))⟩
theorem dX2_isTold_0 : decode cX2_isTold 0 = .ok (.aload_n 0, 1) := by decide +kernel
theorem dX2_isTold_1 : decode cX2_isTold 1 = .ok (.getfield 9, 3) := by decide +kernel
theorem dX2_isTold_4 : decode cX2_isTold 4 = .ok (.iload_n 1, 1) := by decide +kernel
theorem dX2_isTold_5 : decode cX2_isTold 5 = .ok (.invokestatic 22, 3) := by decide +kernel
theorem dX2_isTold_8 : decode cX2_isTold 8 = .ok (.ireturn, 1) := by decide +kernel
set_option maxRecDepth 20000 in
set_option maxHeartbeats 4000000 in
theorem c_Hens_isTold (E : xE) (l : Launch) (a : Nat → Nat) (ws : va_W) (hW : WX (okX E a) ws) (t : Nat) (ht : tb t) (p0 : Int32) : xI E l yX2_isTold cX2_isTold 2 (some .boolean) 1 [.ref (a (t + 1)), .int p0] ws (fun r w => w = ws ∧ zb r ∧ (¬ r = 0 → wth p0 0 7)) := by
  refine xI_start (lv := [(0, .ref (a (t + 1))), (1, .int p0)]) RX2 (by decide) rfl (Nat.le_of_ble_eq_true rfl) rfl (fun p e s m below meth c A C hr hlk => ?_)
  have htb := tb_lo ht
  refine x_aload_n C dX2_isTold_0 rfl 0 rfl rfl ?_
  obtain ⟨_, k1, v2, rfl⟩ := hW (t + 1) _ (okX_t ht (j := 1) rfl)
  refine x_get C (ci := 2) (k := 0) (t + 1) k1 rfl in_X2 (by decide) w_68 rfl dX2_isTold_1 rfl ?_
  refine x_iload_n C dX2_isTold_4 rfl 1 rfl rfl ?_
  refine x_sn C (As := [.int v2, .int p0]) (rest := []) (c_isIn E l a ws hW v2 p0) mf_X11_isIn n_478 rfl rfl (Nat.le_of_ble_eq_true rfl) ⟨(Nat.le_of_ble_eq_true rfl), (Nat.le_of_ble_eq_true rfl)⟩ ⟨(Nat.le_of_ble_eq_true rfl), (Nat.le_of_ble_eq_true rfl)⟩ dX2_isTold_5 rfl (fun r4 w5 h3 => ?_)
  obtain ⟨hW6, zb7, x8⟩ := h3
  refine x_ws hW6 ?_
  exact x_zret C hr hlk (zb_nar zb7) dX2_isTold_8 ⟨rfl, zb7, x8⟩
theorem dX5_isTold_0 : decode cX5_isTold 0 = .ok (.aload_n 0, 1) := by decide +kernel
theorem dX5_isTold_1 : decode cX5_isTold 1 = .ok (.getfield 9, 3) := by decide +kernel
theorem dX5_isTold_4 : decode cX5_isTold 4 = .ok (.iload_n 1, 1) := by decide +kernel
theorem dX5_isTold_5 : decode cX5_isTold 5 = .ok (.invokestatic 28, 3) := by decide +kernel
theorem dX5_isTold_8 : decode cX5_isTold 8 = .ok (.ireturn, 1) := by decide +kernel
set_option maxRecDepth 20000 in
set_option maxHeartbeats 4000000 in
theorem c_People_isTold (E : xE) (l : Launch) (a : Nat → Nat) (ws : va_W) (hW : WX (okX E a) ws) (t : Nat) (ht : tb t) (p0 : Int32) : xI E l yX5_isTold cX5_isTold 2 (some .boolean) 1 [.ref (a (t + 4)), .int p0] ws (fun r w => w = ws ∧ zb r ∧ (¬ r = 0 → wth p0 0 7)) := by
  refine xI_start (lv := [(0, .ref (a (t + 4))), (1, .int p0)]) RX5 (by decide) rfl (Nat.le_of_ble_eq_true rfl) rfl (fun p e s m below meth c A C hr hlk => ?_)
  have htb := tb_lo ht
  refine x_aload_n C dX5_isTold_0 rfl 0 rfl rfl ?_
  obtain ⟨_, k1, v2, rfl⟩ := hW (t + 4) _ (okX_t ht (j := 4) rfl)
  refine x_get C (ci := 4) (k := 0) (t + 4) k1 rfl in_X5 (by decide) w_90 rfl dX5_isTold_1 rfl ?_
  refine x_iload_n C dX5_isTold_4 rfl 1 rfl rfl ?_
  refine x_sn C (As := [.int v2, .int p0]) (rest := []) (c_isIn E l a ws hW v2 p0) mf_X11_isIn n_455 rfl rfl (Nat.le_of_ble_eq_true rfl) ⟨(Nat.le_of_ble_eq_true rfl), (Nat.le_of_ble_eq_true rfl)⟩ ⟨(Nat.le_of_ble_eq_true rfl), (Nat.le_of_ble_eq_true rfl)⟩ dX5_isTold_5 rfl (fun r4 w5 h3 => ?_)
  obtain ⟨hW6, zb7, x8⟩ := h3
  refine x_ws hW6 ?_
  exact x_zret C hr hlk (zb_nar zb7) dX5_isTold_8 ⟨rfl, zb7, x8⟩
theorem dX10_isTold_0 : decode cX10_isTold 0 = .ok (.aload_n 0, 1) := by decide +kernel
theorem dX10_isTold_1 : decode cX10_isTold 1 = .ok (.getfield 9, 3) := by decide +kernel
theorem dX10_isTold_4 : decode cX10_isTold 4 = .ok (.iload_n 1, 1) := by decide +kernel
theorem dX10_isTold_5 : decode cX10_isTold 5 = .ok (.invokestatic 31, 3) := by decide +kernel
theorem dX10_isTold_8 : decode cX10_isTold 8 = .ok (.ireturn, 1) := by decide +kernel
set_option maxRecDepth 20000 in
set_option maxHeartbeats 4000000 in
theorem c_Works_isTold (E : xE) (l : Launch) (a : Nat → Nat) (ws : va_W) (hW : WX (okX E a) ws) (t : Nat) (ht : tb t) (p0 : Int32) : xI E l yX10_isTold cX10_isTold 2 (some .boolean) 1 [.ref (a (t + 16)), .int p0] ws (fun r w => w = ws ∧ zb r ∧ (¬ r = 0 → wth p0 0 7)) := by
  refine xI_start (lv := [(0, .ref (a (t + 16))), (1, .int p0)]) RX10 (by decide) rfl (Nat.le_of_ble_eq_true rfl) rfl (fun p e s m below meth c A C hr hlk => ?_)
  have htb := tb_lo ht
  refine x_aload_n C dX10_isTold_0 rfl 0 rfl rfl ?_
  obtain ⟨_, k1, v2, rfl⟩ := hW (t + 16) _ (okX_t ht (j := 16) rfl)
  refine x_get C (ci := 9) (k := 0) (t + 16) k1 rfl in_X10 (by decide) w_168 rfl dX10_isTold_1 rfl ?_
  refine x_iload_n C dX10_isTold_4 rfl 1 rfl rfl ?_
  refine x_sn C (As := [.int v2, .int p0]) (rest := []) (c_isIn E l a ws hW v2 p0) mf_X11_isIn n_705 rfl rfl (Nat.le_of_ble_eq_true rfl) ⟨(Nat.le_of_ble_eq_true rfl), (Nat.le_of_ble_eq_true rfl)⟩ ⟨(Nat.le_of_ble_eq_true rfl), (Nat.le_of_ble_eq_true rfl)⟩ dX10_isTold_5 rfl (fun r4 w5 h3 => ?_)
  obtain ⟨hW6, zb7, x8⟩ := h3
  refine x_ws hW6 ?_
  exact x_zret C hr hlk (zb_nar zb7) dX10_isTold_8 ⟨rfl, zb7, x8⟩
theorem dX1_isLaid_0 : decode cX1_isLaid 0 = .ok (.iload_n 1, 1) := by decide +kernel
theorem dX1_isLaid_1 : decode cX1_isLaid 1 = .ok (.ifCond .lt 21, 3) := by decide +kernel
theorem dX1_isLaid_4 : decode cX1_isLaid 4 = .ok (.iload_n 1, 1) := by decide +kernel
theorem dX1_isLaid_5 : decode cX1_isLaid 5 = .ok (.aload_n 0, 1) := by decide +kernel
theorem dX1_isLaid_6 : decode cX1_isLaid 6 = .ok (.getfield 9, 3) := by decide +kernel
theorem dX1_isLaid_9 : decode cX1_isLaid 9 = .ok (.if_icmp .ge 13, 3) := by decide +kernel
theorem dX1_isLaid_12 : decode cX1_isLaid 12 = .ok (.iload_n 1, 1) := by decide +kernel
theorem dX1_isLaid_13 : decode cX1_isLaid 13 = .ok (.bipush 48, 2) := by decide +kernel
theorem dX1_isLaid_15 : decode cX1_isLaid 15 = .ok (.if_icmp .ge 7, 3) := by decide +kernel
theorem dX1_isLaid_18 : decode cX1_isLaid 18 = .ok (.iconst 1, 1) := by decide +kernel
theorem dX1_isLaid_19 : decode cX1_isLaid 19 = .ok (.goto 4, 3) := by decide +kernel
theorem dX1_isLaid_22 : decode cX1_isLaid 22 = .ok (.iconst 0, 1) := by decide +kernel
theorem dX1_isLaid_23 : decode cX1_isLaid 23 = .ok (.ireturn, 1) := by decide +kernel
set_option maxRecDepth 20000 in
set_option maxHeartbeats 4000000 in
theorem c_Eggs_isLaid (E : xE) (l : Launch) (a : Nat → Nat) (ws : va_W) (hW : WX (okX E a) ws) (t : Nat) (ht : tb t) (i0 : Int32) : xI E l yX1_isLaid cX1_isLaid 2 (some .boolean) 0 [.ref (a (t + 9)), .int i0] ws (fun r w => w = ws ∧ zb r ∧ (¬ r = 0 → wth i0 0 47)) := by
  refine xI_start (lv := [(0, .ref (a (t + 9))), (1, .int i0)]) RX1 (by decide) rfl (Nat.le_of_ble_eq_true rfl) rfl (fun p e s m below meth c A C hr hlk => ?_)
  have htb := tb_lo ht
  refine x_iload_n C dX1_isLaid_0 rfl 1 rfl rfl ?_
  refine x_if_lt C (tgt := 22) dX1_isLaid_1 (by decide) rfl (fun c1 => ?_) (fun c1 => ?_)
  · skip
    refine x_iconst C (v := 0) dX1_isLaid_22 (by decide) rfl ?_
    exact x_zret C hr hlk rfl dX1_isLaid_23 ⟨rfl, (Or.inl rfl), (fun q => absurd rfl q)⟩
  · skip
    obtain ⟨j2, hj3, ej4⟩ := nI_of c1
    subst ej4
    refine x_iload_n C dX1_isLaid_4 rfl 1 rfl rfl ?_
    refine x_aload_n C dX1_isLaid_5 rfl 0 rfl rfl ?_
    obtain ⟨_, k5, n6, bn7, rfl⟩ := hW (t + 9) _ (okX_t ht (j := 9) rfl)
    refine x_get C (ci := 1) (k := 0) (t + 9) k5 rfl in_X1 (by decide) w_120 rfl dX1_isLaid_6 rfl ?_
    refine x_icmp_ge C (tgt := 22) dX1_isLaid_9 (by decide) rfl (fun c8 => ?_) (fun c8 => ?_)
    · skip
      have nf9 := nI_le' (a := n6) (b := j2) c8 (by omega) (by omega)
      refine x_iconst C (v := 0) dX1_isLaid_22 (by decide) rfl ?_
      exact x_zret C hr hlk rfl dX1_isLaid_23 ⟨rfl, (Or.inl rfl), (fun q => absurd rfl q)⟩
    · skip
      have nf10 := nI_nle' (a := n6) (b := j2) c8 (by omega) (by omega)
      refine x_iload_n C dX1_isLaid_12 rfl 1 rfl rfl ?_
      refine x_bipush C (v := 48) dX1_isLaid_13 (by decide) rfl ?_
      refine x_icmp_ge C (tgt := 22) dX1_isLaid_15 (by decide) rfl (fun c11 => ?_) (fun c11 => ?_)
      · skip
        have nf12 := nI_le' (a := 48) (b := j2) c11 (by omega) (by omega)
        refine x_iconst C (v := 0) dX1_isLaid_22 (by decide) rfl ?_
        exact x_zret C hr hlk rfl dX1_isLaid_23 ⟨rfl, (Or.inl rfl), (fun q => absurd rfl q)⟩
      · skip
        have nf13 := nI_nle' (a := 48) (b := j2) c11 (by omega) (by omega)
        refine x_iconst C (v := 1) dX1_isLaid_18 (by decide) rfl ?_
        refine x_goto C (tgt := 23) dX1_isLaid_19 (by decide) ?_
        exact x_zret C hr hlk rfl dX1_isLaid_23 ⟨rfl, (Or.inr rfl), (fun _ => wth_n (a := 0) (b := 47) (by omega) (by omega) (by decide))⟩
theorem dX1_isWhole_0 : decode cX1_isWhole 0 = .ok (.aload_n 0, 1) := by decide +kernel
theorem dX1_isWhole_1 : decode cX1_isWhole 1 = .ok (.iload_n 1, 1) := by decide +kernel
theorem dX1_isWhole_2 : decode cX1_isWhole 2 = .ok (.invokevirtual 34, 3) := by decide +kernel
theorem dX1_isWhole_5 : decode cX1_isWhole 5 = .ok (.ifCond .eq 16, 3) := by decide +kernel
theorem dX1_isWhole_8 : decode cX1_isWhole 8 = .ok (.aload_n 0, 1) := by decide +kernel
theorem dX1_isWhole_9 : decode cX1_isWhole 9 = .ok (.getfield 31, 3) := by decide +kernel
theorem dX1_isWhole_12 : decode cX1_isWhole 12 = .ok (.iload_n 1, 1) := by decide +kernel
theorem dX1_isWhole_13 : decode cX1_isWhole 13 = .ok (.iaload, 1) := by decide +kernel
theorem dX1_isWhole_14 : decode cX1_isWhole 14 = .ok (.ifCond .ne 7, 3) := by decide +kernel
theorem dX1_isWhole_17 : decode cX1_isWhole 17 = .ok (.iconst 1, 1) := by decide +kernel
theorem dX1_isWhole_18 : decode cX1_isWhole 18 = .ok (.goto 4, 3) := by decide +kernel
theorem dX1_isWhole_21 : decode cX1_isWhole 21 = .ok (.iconst 0, 1) := by decide +kernel
theorem dX1_isWhole_22 : decode cX1_isWhole 22 = .ok (.ireturn, 1) := by decide +kernel
set_option maxRecDepth 20000 in
set_option maxHeartbeats 4000000 in
theorem c_Eggs_isWhole (E : xE) (l : Launch) (a : Nat → Nat) (ws : va_W) (hW : WX (okX E a) ws) (t : Nat) (ht : tb t) (i0 : Int32) : xI E l yX1_isWhole cX1_isWhole 2 (some .boolean) 1 [.ref (a (t + 9)), .int i0] ws (fun r w => w = ws ∧ zb r ∧ (¬ r = 0 → wth i0 0 47)) := by
  refine xI_start (lv := [(0, .ref (a (t + 9))), (1, .int i0)]) RX1 (by decide) rfl (Nat.le_of_ble_eq_true rfl) rfl (fun p e s m below meth c A C hr hlk => ?_)
  have htb := tb_lo ht
  refine x_aload_n C dX1_isWhole_0 rfl 0 rfl rfl ?_
  refine x_iload_n C dX1_isWhole_1 rfl 1 rfl rfl ?_
  obtain ⟨_, k1, n2, bn3, rfl⟩ := hW (t + 9) _ (okX_t ht (j := 9) rfl)
  refine x_vi C (As := [.int i0]) (rest := []) (c_Eggs_isLaid E l a ws hW t ht i0) mf_X1_isLaid w_715 (t + 9) k1 rfl rfl rfl (Nat.le_of_ble_eq_true rfl) ⟨(Nat.le_of_ble_eq_true rfl), (Nat.le_of_ble_eq_true rfl)⟩ ⟨(Nat.le_of_ble_eq_true rfl), (Nat.le_of_ble_eq_true rfl)⟩ dX1_isWhole_2 rfl (fun r5 w6 h4 => ?_)
  obtain ⟨hW7, zb8, x9⟩ := h4
  refine x_ws hW7 ?_
  refine x_if_eq C (tgt := 21) dX1_isWhole_5 (by decide) rfl (fun c10 => ?_) (fun c10 => ?_)
  · skip
    refine x_iconst C (v := 0) dX1_isWhole_21 (by decide) rfl ?_
    exact x_zret C hr hlk rfl dX1_isWhole_22 ⟨rfl, (Or.inl rfl), (fun q => absurd rfl q)⟩
  · skip
    obtain ⟨j11, hl12, hh13, ej14⟩ := w_nat (a := 0) (b := 47) (by decide) (by decide) (x9 c10)
    subst ej14
    refine x_aload_n C dX1_isWhole_8 rfl 0 rfl rfl ?_
    refine x_get C (ci := 1) (k := 6) (t + 9) k1 rfl in_X1 (by decide) w_144 rfl dX1_isWhole_9 rfl ?_
    refine x_iload_n C dX1_isWhole_12 rfl 1 rfl rfl ?_
    obtain ⟨_, k15, f16, rfl⟩ := hW (t + 15) _ (okX_t ht (j := 15) rfl)
    refine x_iald C (v := (f16 (nI j11).toNatClampNeg)) (t + 15) k15 (vp_in_nI (by omega) (by decide)) rfl dX1_isWhole_13 rfl ?_
    refine x_any (fun v17 => ?_)
    refine x_if_ne C (tgt := 21) dX1_isWhole_14 (by decide) rfl (fun c18 => ?_) (fun c18 => ?_)
    · skip
      refine x_iconst C (v := 0) dX1_isWhole_21 (by decide) rfl ?_
      exact x_zret C hr hlk rfl dX1_isWhole_22 ⟨rfl, (Or.inl rfl), (fun q => absurd rfl q)⟩
    · skip
      refine x_iconst C (v := 1) dX1_isWhole_17 (by decide) rfl ?_
      refine x_goto C (tgt := 22) dX1_isWhole_18 (by decide) ?_
      exact x_zret C hr hlk rfl dX1_isWhole_22 ⟨rfl, (Or.inr rfl), (fun _ => wth_n (a := 0) (b := 47) (by omega) (by omega) (by decide))⟩
theorem dX1_isWholeOf_0 : decode cX1_isWholeOf 0 = .ok (.aload_n 0, 1) := by decide +kernel
theorem dX1_isWholeOf_1 : decode cX1_isWholeOf 1 = .ok (.iload_n 1, 1) := by decide +kernel
theorem dX1_isWholeOf_2 : decode cX1_isWholeOf 2 = .ok (.invokevirtual 38, 3) := by decide +kernel
theorem dX1_isWholeOf_5 : decode cX1_isWholeOf 5 = .ok (.ifCond .eq 17, 3) := by decide +kernel
theorem dX1_isWholeOf_8 : decode cX1_isWholeOf 8 = .ok (.aload_n 0, 1) := by decide +kernel
theorem dX1_isWholeOf_9 : decode cX1_isWholeOf 9 = .ok (.getfield 25, 3) := by decide +kernel
theorem dX1_isWholeOf_12 : decode cX1_isWholeOf 12 = .ok (.iload_n 1, 1) := by decide +kernel
theorem dX1_isWholeOf_13 : decode cX1_isWholeOf 13 = .ok (.iaload, 1) := by decide +kernel
theorem dX1_isWholeOf_14 : decode cX1_isWholeOf 14 = .ok (.iload_n 2, 1) := by decide +kernel
theorem dX1_isWholeOf_15 : decode cX1_isWholeOf 15 = .ok (.if_icmp .ne 7, 3) := by decide +kernel
theorem dX1_isWholeOf_18 : decode cX1_isWholeOf 18 = .ok (.iconst 1, 1) := by decide +kernel
theorem dX1_isWholeOf_19 : decode cX1_isWholeOf 19 = .ok (.goto 4, 3) := by decide +kernel
theorem dX1_isWholeOf_22 : decode cX1_isWholeOf 22 = .ok (.iconst 0, 1) := by decide +kernel
theorem dX1_isWholeOf_23 : decode cX1_isWholeOf 23 = .ok (.ireturn, 1) := by decide +kernel
set_option maxRecDepth 20000 in
set_option maxHeartbeats 4000000 in
theorem c_Eggs_isWholeOf (E : xE) (l : Launch) (a : Nat → Nat) (ws : va_W) (hW : WX (okX E a) ws) (t : Nat) (ht : tb t) (i0 : Int32) (p0 : Int32) : xI E l yX1_isWholeOf cX1_isWholeOf 3 (some .boolean) 2 [.ref (a (t + 9)), .int i0, .int p0] ws (fun r w => w = ws ∧ zb r ∧ (¬ r = 0 → wth i0 0 47)) := by
  refine xI_start (lv := [(0, .ref (a (t + 9))), (1, .int i0), (2, .int p0)]) RX1 (by decide) rfl (Nat.le_of_ble_eq_true rfl) rfl (fun p e s m below meth c A C hr hlk => ?_)
  have htb := tb_lo ht
  refine x_aload_n C dX1_isWholeOf_0 rfl 0 rfl rfl ?_
  refine x_iload_n C dX1_isWholeOf_1 rfl 1 rfl rfl ?_
  obtain ⟨_, k1, n2, bn3, rfl⟩ := hW (t + 9) _ (okX_t ht (j := 9) rfl)
  refine x_vi C (As := [.int i0]) (rest := []) (c_Eggs_isWhole E l a ws hW t ht i0) mf_X1_isWhole w_879 (t + 9) k1 rfl rfl rfl (Nat.le_of_ble_eq_true rfl) ⟨(Nat.le_of_ble_eq_true rfl), (Nat.le_of_ble_eq_true rfl)⟩ ⟨(Nat.le_of_ble_eq_true rfl), (Nat.le_of_ble_eq_true rfl)⟩ dX1_isWholeOf_2 rfl (fun r5 w6 h4 => ?_)
  obtain ⟨hW7, zb8, x9⟩ := h4
  refine x_ws hW7 ?_
  refine x_if_eq C (tgt := 22) dX1_isWholeOf_5 (by decide) rfl (fun c10 => ?_) (fun c10 => ?_)
  · skip
    refine x_iconst C (v := 0) dX1_isWholeOf_22 (by decide) rfl ?_
    exact x_zret C hr hlk rfl dX1_isWholeOf_23 ⟨rfl, (Or.inl rfl), (fun q => absurd rfl q)⟩
  · skip
    obtain ⟨j11, hl12, hh13, ej14⟩ := w_nat (a := 0) (b := 47) (by decide) (by decide) (x9 c10)
    subst ej14
    refine x_aload_n C dX1_isWholeOf_8 rfl 0 rfl rfl ?_
    refine x_get C (ci := 1) (k := 4) (t + 9) k1 rfl in_X1 (by decide) w_134 rfl dX1_isWholeOf_9 rfl ?_
    refine x_iload_n C dX1_isWholeOf_12 rfl 1 rfl rfl ?_
    obtain ⟨_, k15, g16, gb17, rfl⟩ := hW (t + 13) _ (okX_t ht (j := 13) rfl)
    refine x_ialk C (v := nI (g16 j11)) j11 (nI_clamp (by omega)) (nI_pos (by omega)) (by omega) (t + 13) k15 rfl dX1_isWholeOf_13 rfl ?_
    have bx18 := gb17 j11
    refine x_iload_n C dX1_isWholeOf_14 rfl 2 rfl rfl ?_
    refine x_icmp_ne C (tgt := 22) dX1_isWholeOf_15 (by decide) rfl (fun c19 => ?_) (fun c19 => ?_)
    · skip
      refine x_iconst C (v := 0) dX1_isWholeOf_22 (by decide) rfl ?_
      exact x_zret C hr hlk rfl dX1_isWholeOf_23 ⟨rfl, (Or.inl rfl), (fun q => absurd rfl q)⟩
    · skip
      refine x_iconst C (v := 1) dX1_isWholeOf_18 (by decide) rfl ?_
      refine x_goto C (tgt := 23) dX1_isWholeOf_19 (by decide) ?_
      exact x_zret C hr hlk rfl dX1_isWholeOf_23 ⟨rfl, (Or.inr rfl), (fun _ => wth_n (a := 0) (b := 47) (by omega) (by omega) (by decide))⟩
theorem dX1_minutesAt_0 : decode cX1_minutesAt 0 = .ok (.aload_n 0, 1) := by decide +kernel
theorem dX1_minutesAt_1 : decode cX1_minutesAt 1 = .ok (.iload_n 1, 1) := by decide +kernel
theorem dX1_minutesAt_2 : decode cX1_minutesAt 2 = .ok (.invokevirtual 34, 3) := by decide +kernel
theorem dX1_minutesAt_5 : decode cX1_minutesAt 5 = .ok (.ifCond .eq 12, 3) := by decide +kernel
theorem dX1_minutesAt_8 : decode cX1_minutesAt 8 = .ok (.aload_n 0, 1) := by decide +kernel
theorem dX1_minutesAt_9 : decode cX1_minutesAt 9 = .ok (.getfield 15, 3) := by decide +kernel
theorem dX1_minutesAt_12 : decode cX1_minutesAt 12 = .ok (.iload_n 1, 1) := by decide +kernel
theorem dX1_minutesAt_13 : decode cX1_minutesAt 13 = .ok (.iaload, 1) := by decide +kernel
theorem dX1_minutesAt_14 : decode cX1_minutesAt 14 = .ok (.goto 4, 3) := by decide +kernel
theorem dX1_minutesAt_17 : decode cX1_minutesAt 17 = .ok (.iconst 0, 1) := by decide +kernel
theorem dX1_minutesAt_18 : decode cX1_minutesAt 18 = .ok (.ireturn, 1) := by decide +kernel
set_option maxRecDepth 20000 in
set_option maxHeartbeats 4000000 in
theorem c_Eggs_minutesAt (E : xE) (l : Launch) (a : Nat → Nat) (ws : va_W) (hW : WX (okX E a) ws) (t : Nat) (ht : tb t) (i0 : Int32) : xI E l yX1_minutesAt cX1_minutesAt 2 (some .int) 1 [.ref (a (t + 9)), .int i0] ws (fun r w => w = ws) := by
  refine xI_start (lv := [(0, .ref (a (t + 9))), (1, .int i0)]) RX1 (by decide) rfl (Nat.le_of_ble_eq_true rfl) rfl (fun p e s m below meth c A C hr hlk => ?_)
  have htb := tb_lo ht
  refine x_aload_n C dX1_minutesAt_0 rfl 0 rfl rfl ?_
  refine x_iload_n C dX1_minutesAt_1 rfl 1 rfl rfl ?_
  obtain ⟨_, k1, n2, bn3, rfl⟩ := hW (t + 9) _ (okX_t ht (j := 9) rfl)
  refine x_vi C (As := [.int i0]) (rest := []) (c_Eggs_isLaid E l a ws hW t ht i0) mf_X1_isLaid w_715 (t + 9) k1 rfl rfl rfl (Nat.le_of_ble_eq_true rfl) ⟨(Nat.le_of_ble_eq_true rfl), (Nat.le_of_ble_eq_true rfl)⟩ ⟨(Nat.le_of_ble_eq_true rfl), (Nat.le_of_ble_eq_true rfl)⟩ dX1_minutesAt_2 rfl (fun r5 w6 h4 => ?_)
  obtain ⟨hW7, zb8, x9⟩ := h4
  refine x_ws hW7 ?_
  refine x_if_eq C (tgt := 17) dX1_minutesAt_5 (by decide) rfl (fun c10 => ?_) (fun c10 => ?_)
  · skip
    refine x_iconst C (v := 0) dX1_minutesAt_17 (by decide) rfl ?_
    exact x_zret C hr hlk rfl dX1_minutesAt_18 rfl
  · skip
    obtain ⟨j11, hl12, hh13, ej14⟩ := w_nat (a := 0) (b := 47) (by decide) (by decide) (x9 c10)
    subst ej14
    refine x_aload_n C dX1_minutesAt_8 rfl 0 rfl rfl ?_
    refine x_get C (ci := 1) (k := 1) (t + 9) k1 rfl in_X1 (by decide) w_123 rfl dX1_minutesAt_9 rfl ?_
    refine x_iload_n C dX1_minutesAt_12 rfl 1 rfl rfl ?_
    obtain ⟨_, k15, f16, rfl⟩ := hW (t + 10) _ (okX_t ht (j := 10) rfl)
    refine x_iald C (v := (f16 (nI j11).toNatClampNeg)) (t + 10) k15 (vp_in_nI (by omega) (by decide)) rfl dX1_minutesAt_13 rfl ?_
    refine x_any (fun v17 => ?_)
    refine x_goto C (tgt := 18) dX1_minutesAt_14 (by decide) ?_
    exact x_zret C hr hlk rfl dX1_minutesAt_18 rfl
theorem dX1_howMany_0 : decode cX1_howMany 0 = .ok (.iconst 0, 1) := by decide +kernel
theorem dX1_howMany_1 : decode cX1_howMany 1 = .ok (.istore_n 2, 1) := by decide +kernel
theorem dX1_howMany_2 : decode cX1_howMany 2 = .ok (.iconst 0, 1) := by decide +kernel
theorem dX1_howMany_3 : decode cX1_howMany 3 = .ok (.istore_n 3, 1) := by decide +kernel
theorem dX1_howMany_4 : decode cX1_howMany 4 = .ok (.iload_n 3, 1) := by decide +kernel
theorem dX1_howMany_5 : decode cX1_howMany 5 = .ok (.aload_n 0, 1) := by decide +kernel
theorem dX1_howMany_6 : decode cX1_howMany 6 = .ok (.getfield 9, 3) := by decide +kernel
theorem dX1_howMany_9 : decode cX1_howMany 9 = .ok (.if_icmp .ge 27, 3) := by decide +kernel
theorem dX1_howMany_12 : decode cX1_howMany 12 = .ok (.iload_n 2, 1) := by decide +kernel
theorem dX1_howMany_13 : decode cX1_howMany 13 = .ok (.aload_n 0, 1) := by decide +kernel
theorem dX1_howMany_14 : decode cX1_howMany 14 = .ok (.getfield 31, 3) := by decide +kernel
theorem dX1_howMany_17 : decode cX1_howMany 17 = .ok (.iload_n 3, 1) := by decide +kernel
theorem dX1_howMany_18 : decode cX1_howMany 18 = .ok (.iaload, 1) := by decide +kernel
theorem dX1_howMany_19 : decode cX1_howMany 19 = .ok (.iload_n 1, 1) := by decide +kernel
theorem dX1_howMany_20 : decode cX1_howMany 20 = .ok (.if_icmp .ne 7, 3) := by decide +kernel
theorem dX1_howMany_23 : decode cX1_howMany 23 = .ok (.iconst 1, 1) := by decide +kernel
theorem dX1_howMany_24 : decode cX1_howMany 24 = .ok (.goto 4, 3) := by decide +kernel
theorem dX1_howMany_27 : decode cX1_howMany 27 = .ok (.iconst 0, 1) := by decide +kernel
theorem dX1_howMany_28 : decode cX1_howMany 28 = .ok (.iadd, 1) := by decide +kernel
theorem dX1_howMany_29 : decode cX1_howMany 29 = .ok (.istore_n 2, 1) := by decide +kernel
theorem dX1_howMany_30 : decode cX1_howMany 30 = .ok (.iinc 3 1, 3) := by decide +kernel
theorem dX1_howMany_33 : decode cX1_howMany 33 = .ok (.goto (-29), 3) := by decide +kernel
theorem dX1_howMany_36 : decode cX1_howMany 36 = .ok (.iload_n 2, 1) := by decide +kernel
theorem dX1_howMany_37 : decode cX1_howMany 37 = .ok (.ireturn, 1) := by decide +kernel
set_option maxRecDepth 20000 in
set_option maxHeartbeats 4000000 in
theorem c_Eggs_howMany (E : xE) (l : Launch) (a : Nat → Nat) (ws : va_W) (hW : WX (okX E a) ws) (t : Nat) (ht : tb t) (of : Int32) : xI E l yX1_howMany cX1_howMany 4 (some .int) 0 [.ref (a (t + 9)), .int of] ws (fun r w => w = ws) := by
  refine xI_start (lv := [(0, .ref (a (t + 9))), (1, .int of)]) RX1 (by decide) rfl (Nat.le_of_ble_eq_true rfl) rfl (fun p e s m below meth c A C hr hlk => ?_)
  have htb := tb_lo ht
  refine x_iconst C (v := 0) dX1_howMany_0 (by decide) rfl ?_
  refine x_istore_n C (lv' := [(2, .int 0), (0, .ref (a (t + 9))), (1, .int of)]) dX1_howMany_1 rfl (by decide) rfl rfl ?_
  refine x_iconst C (v := 0) dX1_howMany_2 (by decide) rfl ?_
  refine x_istore_n C (lv' := [(3, .int 0), (2, .int 0), (0, .ref (a (t + 9))), (1, .int of)]) dX1_howMany_3 rfl (by decide) rfl rfl ?_
  have loop4 : ∀ (fu4 : Nat) (z4_2 : Int32) (i : Nat), True → 48 - i < fu4 → i ≤ 48 → X E p l e (xRm 0 0 0) s m ([.ref (a (t + 9)), .int of] : List Value).toArray below meth c A 4 0 0 (MQ below (va_Qi (fun r w => w = ws) (xB E A) A) ([.ref (a (t + 9)), .int of] : List Value).toArray s 0 0 A) ws 4 [(0, .ref (a (t + 9))), (1, .int of), (2, .int z4_2), (3, .int (nI i))] [] := by
    intro fu4
    induction fu4 with
    | zero => intro z4_2 i _ q; omega
    | succ fu4 ih4 =>
      intro z4_2 i _ me4 iv4_0
      refine x_iload_n C dX1_howMany_4 rfl 3 rfl rfl ?_
      refine x_aload_n C dX1_howMany_5 rfl 0 rfl rfl ?_
      obtain ⟨_, k1, n2, bn3, rfl⟩ := hW (t + 9) _ (okX_t ht (j := 9) rfl)
      refine x_get C (ci := 1) (k := 0) (t + 9) k1 rfl in_X1 (by decide) w_120 rfl dX1_howMany_6 rfl ?_
      refine x_icmp_ge C (tgt := 36) dX1_howMany_9 (by decide) rfl (fun c4 => ?_) (fun c4 => ?_)
      · skip
        have nf5 := nI_le' (a := n2) (b := i) c4 (by omega) (by omega)
        refine x_iload_n C dX1_howMany_36 rfl 2 rfl rfl ?_
        exact x_zret C hr hlk rfl dX1_howMany_37 rfl
      · skip
        have nf6 := nI_nle' (a := n2) (b := i) c4 (by omega) (by omega)
        refine x_iload_n C dX1_howMany_12 rfl 2 rfl rfl ?_
        refine x_aload_n C dX1_howMany_13 rfl 0 rfl rfl ?_
        refine x_get C (ci := 1) (k := 6) (t + 9) k1 rfl in_X1 (by decide) w_144 rfl dX1_howMany_14 rfl ?_
        refine x_iload_n C dX1_howMany_17 rfl 3 rfl rfl ?_
        obtain ⟨_, k7, f8, rfl⟩ := hW (t + 15) _ (okX_t ht (j := 15) rfl)
        refine x_iald C (v := (f8 (nI i).toNatClampNeg)) (t + 15) k7 (vp_in_nI (by omega) (by decide)) rfl dX1_howMany_18 rfl ?_
        refine x_any (fun v9 => ?_)
        refine x_iload_n C dX1_howMany_19 rfl 1 rfl rfl ?_
        refine x_icmp_ne C (tgt := 27) dX1_howMany_20 (by decide) rfl (fun c10 => ?_) (fun c10 => ?_)
        · skip
          refine x_iconst C (v := 0) dX1_howMany_27 (by decide) rfl ?_
          refine x_iadd C (v := (z4_2 + (0 : Int32))) dX1_howMany_28 rfl rfl ?_
          refine x_any (fun v11 => ?_)
          refine x_istore_n C (lv' := [(2, .int v11), (0, .ref (a (t + 9))), (1, .int of), (3, .int (nI i))]) dX1_howMany_29 rfl (by decide) rfl rfl ?_
          refine x_iinc C (v := (nI (i + 1))) (lv' := [(3, .int (nI (i + 1))), (2, .int v11), (0, .ref (a (t + 9))), (1, .int of)]) dX1_howMany_30 3 rfl (nI_add i 1) (by decide) rfl rfl ?_
          refine x_goto C (tgt := 4) dX1_howMany_33 (by decide) ?_
          refine x_lv (lv1 := [(0, .ref (a (t + 9))), (1, .int of), (2, .int v11), (3, .int (nI (i + 1)))]) [2, 3, 1, 0] rfl ?_
          exact ih4 v11 (i + 1) trivial (by omega) (by omega)
        · skip
          refine x_iconst C (v := 1) dX1_howMany_23 (by decide) rfl ?_
          refine x_goto C (tgt := 28) dX1_howMany_24 (by decide) ?_
          refine x_iadd C (v := (z4_2 + (1 : Int32))) dX1_howMany_28 rfl rfl ?_
          refine x_any (fun v12 => ?_)
          refine x_istore_n C (lv' := [(2, .int v12), (0, .ref (a (t + 9))), (1, .int of), (3, .int (nI i))]) dX1_howMany_29 rfl (by decide) rfl rfl ?_
          refine x_iinc C (v := (nI (i + 1))) (lv' := [(3, .int (nI (i + 1))), (2, .int v12), (0, .ref (a (t + 9))), (1, .int of)]) dX1_howMany_30 3 rfl (nI_add i 1) (by decide) rfl rfl ?_
          refine x_goto C (tgt := 4) dX1_howMany_33 (by decide) ?_
          refine x_lv (lv1 := [(0, .ref (a (t + 9))), (1, .int of), (2, .int v12), (3, .int (nI (i + 1)))]) [2, 3, 1, 0] rfl ?_
          exact ih4 v12 (i + 1) trivial (by omega) (by omega)
  refine x_lv (lv1 := [(0, .ref (a (t + 9))), (1, .int of), (2, .int 0), (3, .int 0)]) [2, 3, 1, 0] rfl ?_
  exact loop4 _ (0 : Int32) 0 trivial (Nat.lt_succ_self _) (by omega)
theorem dX1_minutesOf_0 : decode cX1_minutesOf 0 = .ok (.iconst 0, 1) := by decide +kernel
theorem dX1_minutesOf_1 : decode cX1_minutesOf 1 = .ok (.istore_n 2, 1) := by decide +kernel
theorem dX1_minutesOf_2 : decode cX1_minutesOf 2 = .ok (.iconst 0, 1) := by decide +kernel
theorem dX1_minutesOf_3 : decode cX1_minutesOf 3 = .ok (.istore_n 3, 1) := by decide +kernel
theorem dX1_minutesOf_4 : decode cX1_minutesOf 4 = .ok (.iload_n 3, 1) := by decide +kernel
theorem dX1_minutesOf_5 : decode cX1_minutesOf 5 = .ok (.aload_n 0, 1) := by decide +kernel
theorem dX1_minutesOf_6 : decode cX1_minutesOf 6 = .ok (.getfield 9, 3) := by decide +kernel
theorem dX1_minutesOf_9 : decode cX1_minutesOf 9 = .ok (.if_icmp .ge 31, 3) := by decide +kernel
theorem dX1_minutesOf_12 : decode cX1_minutesOf 12 = .ok (.iload_n 2, 1) := by decide +kernel
theorem dX1_minutesOf_13 : decode cX1_minutesOf 13 = .ok (.aload_n 0, 1) := by decide +kernel
theorem dX1_minutesOf_14 : decode cX1_minutesOf 14 = .ok (.iload_n 3, 1) := by decide +kernel
theorem dX1_minutesOf_15 : decode cX1_minutesOf 15 = .ok (.iload_n 1, 1) := by decide +kernel
theorem dX1_minutesOf_16 : decode cX1_minutesOf 16 = .ok (.invokevirtual 41, 3) := by decide +kernel
theorem dX1_minutesOf_19 : decode cX1_minutesOf 19 = .ok (.ifCond .eq 12, 3) := by decide +kernel
theorem dX1_minutesOf_22 : decode cX1_minutesOf 22 = .ok (.aload_n 0, 1) := by decide +kernel
theorem dX1_minutesOf_23 : decode cX1_minutesOf 23 = .ok (.getfield 15, 3) := by decide +kernel
theorem dX1_minutesOf_26 : decode cX1_minutesOf 26 = .ok (.iload_n 3, 1) := by decide +kernel
theorem dX1_minutesOf_27 : decode cX1_minutesOf 27 = .ok (.iaload, 1) := by decide +kernel
theorem dX1_minutesOf_28 : decode cX1_minutesOf 28 = .ok (.goto 4, 3) := by decide +kernel
theorem dX1_minutesOf_31 : decode cX1_minutesOf 31 = .ok (.iconst 0, 1) := by decide +kernel
theorem dX1_minutesOf_32 : decode cX1_minutesOf 32 = .ok (.iadd, 1) := by decide +kernel
theorem dX1_minutesOf_33 : decode cX1_minutesOf 33 = .ok (.istore_n 2, 1) := by decide +kernel
theorem dX1_minutesOf_34 : decode cX1_minutesOf 34 = .ok (.iinc 3 1, 3) := by decide +kernel
theorem dX1_minutesOf_37 : decode cX1_minutesOf 37 = .ok (.goto (-33), 3) := by decide +kernel
theorem dX1_minutesOf_40 : decode cX1_minutesOf 40 = .ok (.iload_n 2, 1) := by decide +kernel
theorem dX1_minutesOf_41 : decode cX1_minutesOf 41 = .ok (.ireturn, 1) := by decide +kernel
set_option maxRecDepth 20000 in
set_option maxHeartbeats 4000000 in
theorem c_Eggs_minutesOf (E : xE) (l : Launch) (a : Nat → Nat) (ws : va_W) (hW : WX (okX E a) ws) (t : Nat) (ht : tb t) (p0 : Int32) : xI E l yX1_minutesOf cX1_minutesOf 4 (some .int) 3 [.ref (a (t + 9)), .int p0] ws (fun r w => w = ws) := by
  refine xI_start (lv := [(0, .ref (a (t + 9))), (1, .int p0)]) RX1 (by decide) rfl (Nat.le_of_ble_eq_true rfl) rfl (fun p e s m below meth c A C hr hlk => ?_)
  have htb := tb_lo ht
  refine x_iconst C (v := 0) dX1_minutesOf_0 (by decide) rfl ?_
  refine x_istore_n C (lv' := [(2, .int 0), (0, .ref (a (t + 9))), (1, .int p0)]) dX1_minutesOf_1 rfl (by decide) rfl rfl ?_
  refine x_iconst C (v := 0) dX1_minutesOf_2 (by decide) rfl ?_
  refine x_istore_n C (lv' := [(3, .int 0), (2, .int 0), (0, .ref (a (t + 9))), (1, .int p0)]) dX1_minutesOf_3 rfl (by decide) rfl rfl ?_
  have loop4 : ∀ (fu4 : Nat) (z4_2 : Int32) (i : Nat), True → 48 - i < fu4 → i ≤ 48 → X E p l e (xRm 3 0 0) s m ([.ref (a (t + 9)), .int p0] : List Value).toArray below meth c A 4 0 0 (MQ below (va_Qi (fun r w => w = ws) (xB E A) A) ([.ref (a (t + 9)), .int p0] : List Value).toArray s 0 0 A) ws 4 [(0, .ref (a (t + 9))), (1, .int p0), (2, .int z4_2), (3, .int (nI i))] [] := by
    intro fu4
    induction fu4 with
    | zero => intro z4_2 i _ q; omega
    | succ fu4 ih4 =>
      intro z4_2 i _ me4 iv4_0
      refine x_iload_n C dX1_minutesOf_4 rfl 3 rfl rfl ?_
      refine x_aload_n C dX1_minutesOf_5 rfl 0 rfl rfl ?_
      obtain ⟨_, k1, n2, bn3, rfl⟩ := hW (t + 9) _ (okX_t ht (j := 9) rfl)
      refine x_get C (ci := 1) (k := 0) (t + 9) k1 rfl in_X1 (by decide) w_120 rfl dX1_minutesOf_6 rfl ?_
      refine x_icmp_ge C (tgt := 40) dX1_minutesOf_9 (by decide) rfl (fun c4 => ?_) (fun c4 => ?_)
      · skip
        have nf5 := nI_le' (a := n2) (b := i) c4 (by omega) (by omega)
        refine x_iload_n C dX1_minutesOf_40 rfl 2 rfl rfl ?_
        exact x_zret C hr hlk rfl dX1_minutesOf_41 rfl
      · skip
        have nf6 := nI_nle' (a := n2) (b := i) c4 (by omega) (by omega)
        refine x_iload_n C dX1_minutesOf_12 rfl 2 rfl rfl ?_
        refine x_aload_n C dX1_minutesOf_13 rfl 0 rfl rfl ?_
        refine x_iload_n C dX1_minutesOf_14 rfl 3 rfl rfl ?_
        refine x_iload_n C dX1_minutesOf_15 rfl 1 rfl rfl ?_
        refine x_vi C (As := [.int (nI i), .int p0]) (rest := [.int z4_2]) (c_Eggs_isWholeOf E l a ws hW t ht ((nI i)) p0) mf_X1_isWholeOf w_875 (t + 9) k1 rfl rfl rfl (Nat.le_of_ble_eq_true rfl) ⟨(Nat.le_of_ble_eq_true rfl), (Nat.le_of_ble_eq_true rfl)⟩ ⟨(Nat.le_of_ble_eq_true rfl), (Nat.le_of_ble_eq_true rfl)⟩ dX1_minutesOf_16 rfl (fun r8 w9 h7 => ?_)
        obtain ⟨hW10, zb11, x12⟩ := h7
        refine x_ws hW10 ?_
        refine x_if_eq C (tgt := 31) dX1_minutesOf_19 (by decide) rfl (fun c13 => ?_) (fun c13 => ?_)
        · skip
          refine x_iconst C (v := 0) dX1_minutesOf_31 (by decide) rfl ?_
          refine x_iadd C (v := (z4_2 + (0 : Int32))) dX1_minutesOf_32 rfl rfl ?_
          refine x_any (fun v14 => ?_)
          refine x_istore_n C (lv' := [(2, .int v14), (0, .ref (a (t + 9))), (1, .int p0), (3, .int (nI i))]) dX1_minutesOf_33 rfl (by decide) rfl rfl ?_
          refine x_iinc C (v := (nI (i + 1))) (lv' := [(3, .int (nI (i + 1))), (2, .int v14), (0, .ref (a (t + 9))), (1, .int p0)]) dX1_minutesOf_34 3 rfl (nI_add i 1) (by decide) rfl rfl ?_
          refine x_goto C (tgt := 4) dX1_minutesOf_37 (by decide) ?_
          refine x_lv (lv1 := [(0, .ref (a (t + 9))), (1, .int p0), (2, .int v14), (3, .int (nI (i + 1)))]) [2, 3, 1, 0] rfl ?_
          exact ih4 v14 (i + 1) trivial (by omega) (by omega)
        · skip
          have wi15 := wth_le (a := 0) (b := 47) (j := i) (x12 c13) (by omega) (by decide) (by decide)
          refine x_aload_n C dX1_minutesOf_22 rfl 0 rfl rfl ?_
          refine x_get C (ci := 1) (k := 1) (t + 9) k1 rfl in_X1 (by decide) w_123 rfl dX1_minutesOf_23 rfl ?_
          refine x_iload_n C dX1_minutesOf_26 rfl 3 rfl rfl ?_
          obtain ⟨_, k16, f17, rfl⟩ := hW (t + 10) _ (okX_t ht (j := 10) rfl)
          refine x_iald C (v := (f17 (nI i).toNatClampNeg)) (t + 10) k16 (vp_in_nI (by omega) (by decide)) rfl dX1_minutesOf_27 rfl ?_
          refine x_any (fun v18 => ?_)
          refine x_goto C (tgt := 32) dX1_minutesOf_28 (by decide) ?_
          refine x_iadd C (v := (z4_2 + v18)) dX1_minutesOf_32 rfl rfl ?_
          refine x_any (fun v19 => ?_)
          refine x_istore_n C (lv' := [(2, .int v19), (0, .ref (a (t + 9))), (1, .int p0), (3, .int (nI i))]) dX1_minutesOf_33 rfl (by decide) rfl rfl ?_
          refine x_iinc C (v := (nI (i + 1))) (lv' := [(3, .int (nI (i + 1))), (2, .int v19), (0, .ref (a (t + 9))), (1, .int p0)]) dX1_minutesOf_34 3 rfl (nI_add i 1) (by decide) rfl rfl ?_
          refine x_goto C (tgt := 4) dX1_minutesOf_37 (by decide) ?_
          refine x_lv (lv1 := [(0, .ref (a (t + 9))), (1, .int p0), (2, .int v19), (3, .int (nI (i + 1)))]) [2, 3, 1, 0] rfl ?_
          exact ih4 v19 (i + 1) trivial (by omega) (by omega)
  refine x_lv (lv1 := [(0, .ref (a (t + 9))), (1, .int p0), (2, .int 0), (3, .int 0)]) [2, 3, 1, 0] rfl ?_
  exact loop4 _ (0 : Int32) 0 trivial (Nat.lt_succ_self _) (by omega)
theorem dX1_lay_0 : decode cX1_lay 0 = .ok (.aload_n 0, 1) := by decide +kernel
theorem dX1_lay_1 : decode cX1_lay 1 = .ok (.getfield 9, 3) := by decide +kernel
theorem dX1_lay_4 : decode cX1_lay 4 = .ok (.bipush 48, 2) := by decide +kernel
theorem dX1_lay_6 : decode cX1_lay 6 = .ok (.if_icmp .ge 74, 3) := by decide +kernel
theorem dX1_lay_9 : decode cX1_lay 9 = .ok (.aload_n 0, 1) := by decide +kernel
theorem dX1_lay_10 : decode cX1_lay 10 = .ok (.getfield 15, 3) := by decide +kernel
theorem dX1_lay_13 : decode cX1_lay 13 = .ok (.aload_n 0, 1) := by decide +kernel
theorem dX1_lay_14 : decode cX1_lay 14 = .ok (.getfield 9, 3) := by decide +kernel
theorem dX1_lay_17 : decode cX1_lay 17 = .ok (.iload_n 1, 1) := by decide +kernel
theorem dX1_lay_18 : decode cX1_lay 18 = .ok (.iastore, 1) := by decide +kernel
theorem dX1_lay_19 : decode cX1_lay 19 = .ok (.aload_n 0, 1) := by decide +kernel
theorem dX1_lay_20 : decode cX1_lay 20 = .ok (.getfield 19, 3) := by decide +kernel
theorem dX1_lay_23 : decode cX1_lay 23 = .ok (.aload_n 0, 1) := by decide +kernel
theorem dX1_lay_24 : decode cX1_lay 24 = .ok (.getfield 9, 3) := by decide +kernel
theorem dX1_lay_27 : decode cX1_lay 27 = .ok (.iload_n 2, 1) := by decide +kernel
theorem dX1_lay_28 : decode cX1_lay 28 = .ok (.iastore, 1) := by decide +kernel
theorem dX1_lay_29 : decode cX1_lay 29 = .ok (.aload_n 0, 1) := by decide +kernel
theorem dX1_lay_30 : decode cX1_lay 30 = .ok (.getfield 22, 3) := by decide +kernel
theorem dX1_lay_33 : decode cX1_lay 33 = .ok (.aload_n 0, 1) := by decide +kernel
theorem dX1_lay_34 : decode cX1_lay 34 = .ok (.getfield 9, 3) := by decide +kernel
theorem dX1_lay_37 : decode cX1_lay 37 = .ok (.iload_n 3, 1) := by decide +kernel
theorem dX1_lay_38 : decode cX1_lay 38 = .ok (.iastore, 1) := by decide +kernel
theorem dX1_lay_39 : decode cX1_lay 39 = .ok (.aload_n 0, 1) := by decide +kernel
theorem dX1_lay_40 : decode cX1_lay 40 = .ok (.getfield 25, 3) := by decide +kernel
theorem dX1_lay_43 : decode cX1_lay 43 = .ok (.aload_n 0, 1) := by decide +kernel
theorem dX1_lay_44 : decode cX1_lay 44 = .ok (.getfield 9, 3) := by decide +kernel
theorem dX1_lay_47 : decode cX1_lay 47 = .ok (.iload 4, 2) := by decide +kernel
theorem dX1_lay_49 : decode cX1_lay 49 = .ok (.iastore, 1) := by decide +kernel
theorem dX1_lay_50 : decode cX1_lay 50 = .ok (.aload_n 0, 1) := by decide +kernel
theorem dX1_lay_51 : decode cX1_lay 51 = .ok (.getfield 28, 3) := by decide +kernel
theorem dX1_lay_54 : decode cX1_lay 54 = .ok (.aload_n 0, 1) := by decide +kernel
theorem dX1_lay_55 : decode cX1_lay 55 = .ok (.getfield 9, 3) := by decide +kernel
theorem dX1_lay_58 : decode cX1_lay 58 = .ok (.iconst 0, 1) := by decide +kernel
theorem dX1_lay_59 : decode cX1_lay 59 = .ok (.iastore, 1) := by decide +kernel
theorem dX1_lay_60 : decode cX1_lay 60 = .ok (.aload_n 0, 1) := by decide +kernel
theorem dX1_lay_61 : decode cX1_lay 61 = .ok (.getfield 31, 3) := by decide +kernel
theorem dX1_lay_64 : decode cX1_lay 64 = .ok (.aload_n 0, 1) := by decide +kernel
theorem dX1_lay_65 : decode cX1_lay 65 = .ok (.getfield 9, 3) := by decide +kernel
theorem dX1_lay_68 : decode cX1_lay 68 = .ok (.iconst 0, 1) := by decide +kernel
theorem dX1_lay_69 : decode cX1_lay 69 = .ok (.iastore, 1) := by decide +kernel
theorem dX1_lay_70 : decode cX1_lay 70 = .ok (.aload_n 0, 1) := by decide +kernel
theorem dX1_lay_71 : decode cX1_lay 71 = .ok (.dup, 1) := by decide +kernel
theorem dX1_lay_72 : decode cX1_lay 72 = .ok (.getfield 9, 3) := by decide +kernel
theorem dX1_lay_75 : decode cX1_lay 75 = .ok (.iconst 1, 1) := by decide +kernel
theorem dX1_lay_76 : decode cX1_lay 76 = .ok (.iadd, 1) := by decide +kernel
theorem dX1_lay_77 : decode cX1_lay 77 = .ok (.putfield 9, 3) := by decide +kernel
theorem dX1_lay_80 : decode cX1_lay 80 = .ok (.return_, 1) := by decide +kernel
set_option maxRecDepth 20000 in
set_option maxHeartbeats 4000000 in
theorem c_Eggs_lay (E : xE) (l : Launch) (a : Nat → Nat) (ws : va_W) (hW : WX (okX E a) ws) (t : Nat) (ht : tb t) (mi : Int32) (dy : Nat) (hn : Int32) (ow : Nat) (hdy : dy ≤ 9999) (how : ow ≤ 7) : xV E l yX1_lay cX1_lay 5 0 0 0 [.ref (a (t + 9)), .int mi, .int (nI dy), .int hn, .int (nI ow)] ws (fun w => WX (okX E a) w ∧ keeps ws w (fun q => t + 9 ≤ q ∧ q < t + 16)) := by
  refine xV_start (lv := [(0, .ref (a (t + 9))), (1, .int mi), (2, .int (nI dy)), (3, .int hn), (4, .int (nI ow))]) RX1 (by decide) rfl (Nat.le_of_ble_eq_true rfl) rfl (fun p e s m below meth c A C hr hlk hin => ?_)
  have htb := tb_lo ht
  have kp0 : keeps ws ws (fun q => t + 9 ≤ q ∧ q < t + 16) := keeps_rf
  refine x_aload_n C dX1_lay_0 rfl 0 rfl rfl ?_
  obtain ⟨_, k1, n2, bn3, rfl⟩ := hW (t + 9) _ (okX_t ht (j := 9) rfl)
  refine x_get C (ci := 1) (k := 0) (t + 9) k1 rfl in_X1 (by decide) w_120 rfl dX1_lay_1 rfl ?_
  refine x_bipush C (v := 48) dX1_lay_4 (by decide) rfl ?_
  refine x_icmp_ge C (tgt := 80) dX1_lay_6 (by decide) rfl (fun c4 => ?_) (fun c4 => ?_)
  · skip
    have nf5 := nI_le' (a := 48) (b := n2) c4 (by omega) (by omega)
    exact x_vret C hr hlk dX1_lay_80 ⟨hW, kp0⟩
  · skip
    have nf6 := nI_nle' (a := 48) (b := n2) c4 (by omega) (by omega)
    refine x_aload_n C dX1_lay_9 rfl 0 rfl rfl ?_
    refine x_get C (ci := 1) (k := 1) (t + 9) k1 rfl in_X1 (by decide) w_123 rfl dX1_lay_10 rfl ?_
    refine x_aload_n C dX1_lay_13 rfl 0 rfl rfl ?_
    refine x_get C (ci := 1) (k := 0) (t + 9) k1 rfl in_X1 (by decide) w_120 rfl dX1_lay_14 rfl ?_
    refine x_iload_n C dX1_lay_17 rfl 1 rfl rfl ?_
    obtain ⟨_, k7, f8, rfl⟩ := hW (t + 10) _ (okX_t ht (j := 10) rfl)
    obtain ⟨w9, hw10⟩ : ∃ w : va_W, w = List.set ws (t + 10) (iA E (a (t + 10)) 48 (upd f8 (nI n2).toNatClampNeg mi)) := ⟨_, rfl⟩
    refine x_iast C (t + 10) k7 (vp_in_nI (by omega) (by decide)) hw10.symm dX1_lay_18 rfl ?_
    have hW11 : WX (okX E a) w9 := by rw [hw10]; exact hW.set (k := (t + 10)) (okX_t ht (j := 10) rfl) ⟨_, rfl⟩
    have k12 : w9[t + 9]? = some (ob (a (t + 9)) 1 [.int (nI n2), .ref (a (t + 10)), .ref (a (t + 11)), .ref (a (t + 12)), .ref (a (t + 13)), .ref (a (t + 14)), .ref (a (t + 15))]) := by rw [hw10]; exact set_ne k1 (by omega)
    have k13 : w9[t + 10]? = some (iA E (a (t + 10)) 48 (upd f8 (nI n2).toNatClampNeg mi)) := by rw [hw10]; exact set_eq k7
    have kp14 := keeps_set kp0 hw10 (by first | exact rfl | decide | omega | (dsimp only; omega))
    refine x_aload_n C dX1_lay_19 rfl 0 rfl rfl ?_
    refine x_get C (ci := 1) (k := 2) (t + 9) k12 rfl in_X1 (by decide) w_127 rfl dX1_lay_20 rfl ?_
    refine x_aload_n C dX1_lay_23 rfl 0 rfl rfl ?_
    refine x_get C (ci := 1) (k := 0) (t + 9) k12 rfl in_X1 (by decide) w_120 rfl dX1_lay_24 rfl ?_
    refine x_iload_n C dX1_lay_27 rfl 2 rfl rfl ?_
    obtain ⟨_, k15, g16, gb17, rfl⟩ := hW11 (t + 11) _ (okX_t ht (j := 11) rfl)
    have gb18 := updn_le (i := n2) (v := dy) gb17 (by omega)
    obtain ⟨w19, hw20⟩ : ∃ w : va_W, w = List.set w9 (t + 11) (iA E (a (t + 11)) 48 (upd (fun j => nI (g16 j)) n2 (nI dy))) := ⟨_, rfl⟩
    refine x_iask C n2 (nI_clamp (by omega)) (nI_pos (by omega)) (by omega) (t + 11) k15 hw20.symm dX1_lay_28 rfl ?_
    have hW21 : WX (okX E a) w19 := by rw [hw20]; exact hW11.set (k := (t + 11)) (okX_t ht (j := 11) rfl) ⟨_, gb18, iA_n (upd_nI g16 n2 dy)⟩
    have k22 : w19[t + 9]? = some (ob (a (t + 9)) 1 [.int (nI n2), .ref (a (t + 10)), .ref (a (t + 11)), .ref (a (t + 12)), .ref (a (t + 13)), .ref (a (t + 14)), .ref (a (t + 15))]) := by rw [hw20]; exact set_ne k12 (by omega)
    have k23 : w19[t + 10]? = some (iA E (a (t + 10)) 48 (upd f8 (nI n2).toNatClampNeg mi)) := by rw [hw20]; exact set_ne k13 (by omega)
    have k24 : w19[t + 11]? = some (iA E (a (t + 11)) 48 (upd (fun j => nI (g16 j)) n2 (nI dy))) := by rw [hw20]; exact set_eq k15
    have kp25 := keeps_set kp14 hw20 (by first | exact rfl | decide | omega | (dsimp only; omega))
    have k26 : w19[t + 11]? = some (iA E (a (t + 11)) 48 (fun j => nI ((updn g16 n2 dy) j))) := by rw [← upd_nI]; exact k24
    refine x_aload_n C dX1_lay_29 rfl 0 rfl rfl ?_
    refine x_get C (ci := 1) (k := 3) (t + 9) k22 rfl in_X1 (by decide) w_131 rfl dX1_lay_30 rfl ?_
    refine x_aload_n C dX1_lay_33 rfl 0 rfl rfl ?_
    refine x_get C (ci := 1) (k := 0) (t + 9) k22 rfl in_X1 (by decide) w_120 rfl dX1_lay_34 rfl ?_
    refine x_iload_n C dX1_lay_37 rfl 3 rfl rfl ?_
    obtain ⟨_, k27, f28, rfl⟩ := hW21 (t + 12) _ (okX_t ht (j := 12) rfl)
    obtain ⟨w29, hw30⟩ : ∃ w : va_W, w = List.set w19 (t + 12) (iA E (a (t + 12)) 48 (upd f28 (nI n2).toNatClampNeg hn)) := ⟨_, rfl⟩
    refine x_iast C (t + 12) k27 (vp_in_nI (by omega) (by decide)) hw30.symm dX1_lay_38 rfl ?_
    have hW31 : WX (okX E a) w29 := by rw [hw30]; exact hW21.set (k := (t + 12)) (okX_t ht (j := 12) rfl) ⟨_, rfl⟩
    have k32 : w29[t + 9]? = some (ob (a (t + 9)) 1 [.int (nI n2), .ref (a (t + 10)), .ref (a (t + 11)), .ref (a (t + 12)), .ref (a (t + 13)), .ref (a (t + 14)), .ref (a (t + 15))]) := by rw [hw30]; exact set_ne k22 (by omega)
    have k33 : w29[t + 10]? = some (iA E (a (t + 10)) 48 (upd f8 (nI n2).toNatClampNeg mi)) := by rw [hw30]; exact set_ne k23 (by omega)
    have k34 : w29[t + 11]? = some (iA E (a (t + 11)) 48 (fun j => nI ((updn g16 n2 dy) j))) := by rw [hw30]; exact set_ne k26 (by omega)
    have k35 : w29[t + 12]? = some (iA E (a (t + 12)) 48 (upd f28 (nI n2).toNatClampNeg hn)) := by rw [hw30]; exact set_eq k27
    have kp36 := keeps_set kp25 hw30 (by first | exact rfl | decide | omega | (dsimp only; omega))
    refine x_aload_n C dX1_lay_39 rfl 0 rfl rfl ?_
    refine x_get C (ci := 1) (k := 4) (t + 9) k32 rfl in_X1 (by decide) w_134 rfl dX1_lay_40 rfl ?_
    refine x_aload_n C dX1_lay_43 rfl 0 rfl rfl ?_
    refine x_get C (ci := 1) (k := 0) (t + 9) k32 rfl in_X1 (by decide) w_120 rfl dX1_lay_44 rfl ?_
    refine x_iload C dX1_lay_47 4 rfl rfl ?_
    obtain ⟨_, k37, g38, gb39, rfl⟩ := hW31 (t + 13) _ (okX_t ht (j := 13) rfl)
    have gb40 := updn_le (i := n2) (v := ow) gb39 (by omega)
    obtain ⟨w41, hw42⟩ : ∃ w : va_W, w = List.set w29 (t + 13) (iA E (a (t + 13)) 48 (upd (fun j => nI (g38 j)) n2 (nI ow))) := ⟨_, rfl⟩
    refine x_iask C n2 (nI_clamp (by omega)) (nI_pos (by omega)) (by omega) (t + 13) k37 hw42.symm dX1_lay_49 rfl ?_
    have hW43 : WX (okX E a) w41 := by rw [hw42]; exact hW31.set (k := (t + 13)) (okX_t ht (j := 13) rfl) ⟨_, gb40, iA_n (upd_nI g38 n2 ow)⟩
    have k44 : w41[t + 9]? = some (ob (a (t + 9)) 1 [.int (nI n2), .ref (a (t + 10)), .ref (a (t + 11)), .ref (a (t + 12)), .ref (a (t + 13)), .ref (a (t + 14)), .ref (a (t + 15))]) := by rw [hw42]; exact set_ne k32 (by omega)
    have k45 : w41[t + 10]? = some (iA E (a (t + 10)) 48 (upd f8 (nI n2).toNatClampNeg mi)) := by rw [hw42]; exact set_ne k33 (by omega)
    have k46 : w41[t + 11]? = some (iA E (a (t + 11)) 48 (fun j => nI ((updn g16 n2 dy) j))) := by rw [hw42]; exact set_ne k34 (by omega)
    have k47 : w41[t + 12]? = some (iA E (a (t + 12)) 48 (upd f28 (nI n2).toNatClampNeg hn)) := by rw [hw42]; exact set_ne k35 (by omega)
    have k48 : w41[t + 13]? = some (iA E (a (t + 13)) 48 (upd (fun j => nI (g38 j)) n2 (nI ow))) := by rw [hw42]; exact set_eq k37
    have kp49 := keeps_set kp36 hw42 (by first | exact rfl | decide | omega | (dsimp only; omega))
    have k50 : w41[t + 13]? = some (iA E (a (t + 13)) 48 (fun j => nI ((updn g38 n2 ow) j))) := by rw [← upd_nI]; exact k48
    refine x_aload_n C dX1_lay_50 rfl 0 rfl rfl ?_
    refine x_get C (ci := 1) (k := 5) (t + 9) k44 rfl in_X1 (by decide) w_139 rfl dX1_lay_51 rfl ?_
    refine x_aload_n C dX1_lay_54 rfl 0 rfl rfl ?_
    refine x_get C (ci := 1) (k := 0) (t + 9) k44 rfl in_X1 (by decide) w_120 rfl dX1_lay_55 rfl ?_
    refine x_iconst C (v := 0) dX1_lay_58 (by decide) rfl ?_
    obtain ⟨_, k51, f52, rfl⟩ := hW43 (t + 14) _ (okX_t ht (j := 14) rfl)
    obtain ⟨w53, hw54⟩ : ∃ w : va_W, w = List.set w41 (t + 14) (iA E (a (t + 14)) 48 (upd f52 (nI n2).toNatClampNeg 0)) := ⟨_, rfl⟩
    refine x_iast C (t + 14) k51 (vp_in_nI (by omega) (by decide)) hw54.symm dX1_lay_59 rfl ?_
    have hW55 : WX (okX E a) w53 := by rw [hw54]; exact hW43.set (k := (t + 14)) (okX_t ht (j := 14) rfl) ⟨_, rfl⟩
    have k56 : w53[t + 9]? = some (ob (a (t + 9)) 1 [.int (nI n2), .ref (a (t + 10)), .ref (a (t + 11)), .ref (a (t + 12)), .ref (a (t + 13)), .ref (a (t + 14)), .ref (a (t + 15))]) := by rw [hw54]; exact set_ne k44 (by omega)
    have k57 : w53[t + 10]? = some (iA E (a (t + 10)) 48 (upd f8 (nI n2).toNatClampNeg mi)) := by rw [hw54]; exact set_ne k45 (by omega)
    have k58 : w53[t + 11]? = some (iA E (a (t + 11)) 48 (fun j => nI ((updn g16 n2 dy) j))) := by rw [hw54]; exact set_ne k46 (by omega)
    have k59 : w53[t + 12]? = some (iA E (a (t + 12)) 48 (upd f28 (nI n2).toNatClampNeg hn)) := by rw [hw54]; exact set_ne k47 (by omega)
    have k60 : w53[t + 13]? = some (iA E (a (t + 13)) 48 (fun j => nI ((updn g38 n2 ow) j))) := by rw [hw54]; exact set_ne k50 (by omega)
    have k61 : w53[t + 14]? = some (iA E (a (t + 14)) 48 (upd f52 (nI n2).toNatClampNeg 0)) := by rw [hw54]; exact set_eq k51
    have kp62 := keeps_set kp49 hw54 (by first | exact rfl | decide | omega | (dsimp only; omega))
    refine x_aload_n C dX1_lay_60 rfl 0 rfl rfl ?_
    refine x_get C (ci := 1) (k := 6) (t + 9) k56 rfl in_X1 (by decide) w_144 rfl dX1_lay_61 rfl ?_
    refine x_aload_n C dX1_lay_64 rfl 0 rfl rfl ?_
    refine x_get C (ci := 1) (k := 0) (t + 9) k56 rfl in_X1 (by decide) w_120 rfl dX1_lay_65 rfl ?_
    refine x_iconst C (v := 0) dX1_lay_68 (by decide) rfl ?_
    obtain ⟨_, k63, f64, rfl⟩ := hW55 (t + 15) _ (okX_t ht (j := 15) rfl)
    obtain ⟨w65, hw66⟩ : ∃ w : va_W, w = List.set w53 (t + 15) (iA E (a (t + 15)) 48 (upd f64 (nI n2).toNatClampNeg 0)) := ⟨_, rfl⟩
    refine x_iast C (t + 15) k63 (vp_in_nI (by omega) (by decide)) hw66.symm dX1_lay_69 rfl ?_
    have hW67 : WX (okX E a) w65 := by rw [hw66]; exact hW55.set (k := (t + 15)) (okX_t ht (j := 15) rfl) ⟨_, rfl⟩
    have k68 : w65[t + 9]? = some (ob (a (t + 9)) 1 [.int (nI n2), .ref (a (t + 10)), .ref (a (t + 11)), .ref (a (t + 12)), .ref (a (t + 13)), .ref (a (t + 14)), .ref (a (t + 15))]) := by rw [hw66]; exact set_ne k56 (by omega)
    have k69 : w65[t + 10]? = some (iA E (a (t + 10)) 48 (upd f8 (nI n2).toNatClampNeg mi)) := by rw [hw66]; exact set_ne k57 (by omega)
    have k70 : w65[t + 11]? = some (iA E (a (t + 11)) 48 (fun j => nI ((updn g16 n2 dy) j))) := by rw [hw66]; exact set_ne k58 (by omega)
    have k71 : w65[t + 12]? = some (iA E (a (t + 12)) 48 (upd f28 (nI n2).toNatClampNeg hn)) := by rw [hw66]; exact set_ne k59 (by omega)
    have k72 : w65[t + 13]? = some (iA E (a (t + 13)) 48 (fun j => nI ((updn g38 n2 ow) j))) := by rw [hw66]; exact set_ne k60 (by omega)
    have k73 : w65[t + 14]? = some (iA E (a (t + 14)) 48 (upd f52 (nI n2).toNatClampNeg 0)) := by rw [hw66]; exact set_ne k61 (by omega)
    have k74 : w65[t + 15]? = some (iA E (a (t + 15)) 48 (upd f64 (nI n2).toNatClampNeg 0)) := by rw [hw66]; exact set_eq k63
    have kp75 := keeps_set kp62 hw66 (by first | exact rfl | decide | omega | (dsimp only; omega))
    refine x_aload_n C dX1_lay_70 rfl 0 rfl rfl ?_
    refine x_dup C dX1_lay_71 rfl rfl ?_
    refine x_get C (ci := 1) (k := 0) (t + 9) k68 rfl in_X1 (by decide) w_120 rfl dX1_lay_72 rfl ?_
    refine x_iconst C (v := 1) dX1_lay_75 (by decide) rfl ?_
    refine x_iadd C (v := (nI (n2 + 1))) dX1_lay_76 (nI_add n2 1) rfl ?_
    obtain ⟨w76, hw77⟩ : ∃ w : va_W, w = List.set w65 (t + 9) (ob (a (t + 9)) 1 [.int (nI (n2 + 1)), .ref (a (t + 10)), .ref (a (t + 11)), .ref (a (t + 12)), .ref (a (t + 13)), .ref (a (t + 14)), .ref (a (t + 15))]) := ⟨_, rfl⟩
    refine x_put C (ci := 1) (k := 0) (ty := .int) (t + 9) k68 rfl in_X1 tyX1 tyX1_ok nmX1 (by decide) w_120 rfl rfl rfl rfl (Nat.le_of_ble_eq_true rfl) hw77.symm dX1_lay_77 rfl ?_
    have hW78 : WX (okX E a) w76 := by rw [hw77]; exact hW67.set (k := (t + 9)) (okX_t ht (j := 9) rfl) ⟨(n2 + 1), by omega, rfl⟩
    have k79 : w76[t + 9]? = some (ob (a (t + 9)) 1 [.int (nI (n2 + 1)), .ref (a (t + 10)), .ref (a (t + 11)), .ref (a (t + 12)), .ref (a (t + 13)), .ref (a (t + 14)), .ref (a (t + 15))]) := by rw [hw77]; exact set_eq k68
    have k80 : w76[t + 10]? = some (iA E (a (t + 10)) 48 (upd f8 (nI n2).toNatClampNeg mi)) := by rw [hw77]; exact set_ne k69 (by omega)
    have k81 : w76[t + 11]? = some (iA E (a (t + 11)) 48 (fun j => nI ((updn g16 n2 dy) j))) := by rw [hw77]; exact set_ne k70 (by omega)
    have k82 : w76[t + 12]? = some (iA E (a (t + 12)) 48 (upd f28 (nI n2).toNatClampNeg hn)) := by rw [hw77]; exact set_ne k71 (by omega)
    have k83 : w76[t + 13]? = some (iA E (a (t + 13)) 48 (fun j => nI ((updn g38 n2 ow) j))) := by rw [hw77]; exact set_ne k72 (by omega)
    have k84 : w76[t + 14]? = some (iA E (a (t + 14)) 48 (upd f52 (nI n2).toNatClampNeg 0)) := by rw [hw77]; exact set_ne k73 (by omega)
    have k85 : w76[t + 15]? = some (iA E (a (t + 15)) 48 (upd f64 (nI n2).toNatClampNeg 0)) := by rw [hw77]; exact set_ne k74 (by omega)
    have kp86 := keeps_set kp75 hw77 (by first | exact rfl | decide | omega | (dsimp only; omega))
    exact x_vret C hr hlk dX1_lay_80 ⟨hW78, kp86⟩
theorem dX1_sweepOut_0 : decode cX1_sweepOut 0 = .ok (.iconst 0, 1) := by decide +kernel
theorem dX1_sweepOut_1 : decode cX1_sweepOut 1 = .ok (.istore_n 1, 1) := by decide +kernel
theorem dX1_sweepOut_2 : decode cX1_sweepOut 2 = .ok (.iconst 0, 1) := by decide +kernel
theorem dX1_sweepOut_3 : decode cX1_sweepOut 3 = .ok (.istore_n 2, 1) := by decide +kernel
theorem dX1_sweepOut_4 : decode cX1_sweepOut 4 = .ok (.iload_n 2, 1) := by decide +kernel
theorem dX1_sweepOut_5 : decode cX1_sweepOut 5 = .ok (.aload_n 0, 1) := by decide +kernel
theorem dX1_sweepOut_6 : decode cX1_sweepOut 6 = .ok (.getfield 9, 3) := by decide +kernel
theorem dX1_sweepOut_9 : decode cX1_sweepOut 9 = .ok (.if_icmp .ge 88, 3) := by decide +kernel
theorem dX1_sweepOut_12 : decode cX1_sweepOut 12 = .ok (.aload_n 0, 1) := by decide +kernel
theorem dX1_sweepOut_13 : decode cX1_sweepOut 13 = .ok (.getfield 31, 3) := by decide +kernel
theorem dX1_sweepOut_16 : decode cX1_sweepOut 16 = .ok (.iload_n 2, 1) := by decide +kernel
theorem dX1_sweepOut_17 : decode cX1_sweepOut 17 = .ok (.iaload, 1) := by decide +kernel
theorem dX1_sweepOut_18 : decode cX1_sweepOut 18 = .ok (.ifCond .ne 73, 3) := by decide +kernel
theorem dX1_sweepOut_21 : decode cX1_sweepOut 21 = .ok (.aload_n 0, 1) := by decide +kernel
theorem dX1_sweepOut_22 : decode cX1_sweepOut 22 = .ok (.getfield 15, 3) := by decide +kernel
theorem dX1_sweepOut_25 : decode cX1_sweepOut 25 = .ok (.iload_n 1, 1) := by decide +kernel
theorem dX1_sweepOut_26 : decode cX1_sweepOut 26 = .ok (.aload_n 0, 1) := by decide +kernel
theorem dX1_sweepOut_27 : decode cX1_sweepOut 27 = .ok (.getfield 15, 3) := by decide +kernel
theorem dX1_sweepOut_30 : decode cX1_sweepOut 30 = .ok (.iload_n 2, 1) := by decide +kernel
theorem dX1_sweepOut_31 : decode cX1_sweepOut 31 = .ok (.iaload, 1) := by decide +kernel
theorem dX1_sweepOut_32 : decode cX1_sweepOut 32 = .ok (.iastore, 1) := by decide +kernel
theorem dX1_sweepOut_33 : decode cX1_sweepOut 33 = .ok (.aload_n 0, 1) := by decide +kernel
theorem dX1_sweepOut_34 : decode cX1_sweepOut 34 = .ok (.getfield 19, 3) := by decide +kernel
theorem dX1_sweepOut_37 : decode cX1_sweepOut 37 = .ok (.iload_n 1, 1) := by decide +kernel
theorem dX1_sweepOut_38 : decode cX1_sweepOut 38 = .ok (.aload_n 0, 1) := by decide +kernel
theorem dX1_sweepOut_39 : decode cX1_sweepOut 39 = .ok (.getfield 19, 3) := by decide +kernel
theorem dX1_sweepOut_42 : decode cX1_sweepOut 42 = .ok (.iload_n 2, 1) := by decide +kernel
theorem dX1_sweepOut_43 : decode cX1_sweepOut 43 = .ok (.iaload, 1) := by decide +kernel
theorem dX1_sweepOut_44 : decode cX1_sweepOut 44 = .ok (.iastore, 1) := by decide +kernel
theorem dX1_sweepOut_45 : decode cX1_sweepOut 45 = .ok (.aload_n 0, 1) := by decide +kernel
theorem dX1_sweepOut_46 : decode cX1_sweepOut 46 = .ok (.getfield 22, 3) := by decide +kernel
theorem dX1_sweepOut_49 : decode cX1_sweepOut 49 = .ok (.iload_n 1, 1) := by decide +kernel
theorem dX1_sweepOut_50 : decode cX1_sweepOut 50 = .ok (.aload_n 0, 1) := by decide +kernel
theorem dX1_sweepOut_51 : decode cX1_sweepOut 51 = .ok (.getfield 22, 3) := by decide +kernel
theorem dX1_sweepOut_54 : decode cX1_sweepOut 54 = .ok (.iload_n 2, 1) := by decide +kernel
theorem dX1_sweepOut_55 : decode cX1_sweepOut 55 = .ok (.iaload, 1) := by decide +kernel
theorem dX1_sweepOut_56 : decode cX1_sweepOut 56 = .ok (.iastore, 1) := by decide +kernel
theorem dX1_sweepOut_57 : decode cX1_sweepOut 57 = .ok (.aload_n 0, 1) := by decide +kernel
theorem dX1_sweepOut_58 : decode cX1_sweepOut 58 = .ok (.getfield 25, 3) := by decide +kernel
theorem dX1_sweepOut_61 : decode cX1_sweepOut 61 = .ok (.iload_n 1, 1) := by decide +kernel
theorem dX1_sweepOut_62 : decode cX1_sweepOut 62 = .ok (.aload_n 0, 1) := by decide +kernel
theorem dX1_sweepOut_63 : decode cX1_sweepOut 63 = .ok (.getfield 25, 3) := by decide +kernel
theorem dX1_sweepOut_66 : decode cX1_sweepOut 66 = .ok (.iload_n 2, 1) := by decide +kernel
theorem dX1_sweepOut_67 : decode cX1_sweepOut 67 = .ok (.iaload, 1) := by decide +kernel
theorem dX1_sweepOut_68 : decode cX1_sweepOut 68 = .ok (.iastore, 1) := by decide +kernel
theorem dX1_sweepOut_69 : decode cX1_sweepOut 69 = .ok (.aload_n 0, 1) := by decide +kernel
theorem dX1_sweepOut_70 : decode cX1_sweepOut 70 = .ok (.getfield 28, 3) := by decide +kernel
theorem dX1_sweepOut_73 : decode cX1_sweepOut 73 = .ok (.iload_n 1, 1) := by decide +kernel
theorem dX1_sweepOut_74 : decode cX1_sweepOut 74 = .ok (.aload_n 0, 1) := by decide +kernel
theorem dX1_sweepOut_75 : decode cX1_sweepOut 75 = .ok (.getfield 28, 3) := by decide +kernel
theorem dX1_sweepOut_78 : decode cX1_sweepOut 78 = .ok (.iload_n 2, 1) := by decide +kernel
theorem dX1_sweepOut_79 : decode cX1_sweepOut 79 = .ok (.iaload, 1) := by decide +kernel
theorem dX1_sweepOut_80 : decode cX1_sweepOut 80 = .ok (.iastore, 1) := by decide +kernel
theorem dX1_sweepOut_81 : decode cX1_sweepOut 81 = .ok (.aload_n 0, 1) := by decide +kernel
theorem dX1_sweepOut_82 : decode cX1_sweepOut 82 = .ok (.getfield 31, 3) := by decide +kernel
theorem dX1_sweepOut_85 : decode cX1_sweepOut 85 = .ok (.iload_n 1, 1) := by decide +kernel
theorem dX1_sweepOut_86 : decode cX1_sweepOut 86 = .ok (.iconst 0, 1) := by decide +kernel
theorem dX1_sweepOut_87 : decode cX1_sweepOut 87 = .ok (.iastore, 1) := by decide +kernel
theorem dX1_sweepOut_88 : decode cX1_sweepOut 88 = .ok (.iinc 1 1, 3) := by decide +kernel
theorem dX1_sweepOut_91 : decode cX1_sweepOut 91 = .ok (.iinc 2 1, 3) := by decide +kernel
theorem dX1_sweepOut_94 : decode cX1_sweepOut 94 = .ok (.goto (-90), 3) := by decide +kernel
theorem dX1_sweepOut_97 : decode cX1_sweepOut 97 = .ok (.aload_n 0, 1) := by decide +kernel
theorem dX1_sweepOut_98 : decode cX1_sweepOut 98 = .ok (.getfield 9, 3) := by decide +kernel
theorem dX1_sweepOut_101 : decode cX1_sweepOut 101 = .ok (.iload_n 1, 1) := by decide +kernel
theorem dX1_sweepOut_102 : decode cX1_sweepOut 102 = .ok (.isub, 1) := by decide +kernel
theorem dX1_sweepOut_103 : decode cX1_sweepOut 103 = .ok (.istore_n 2, 1) := by decide +kernel
theorem dX1_sweepOut_104 : decode cX1_sweepOut 104 = .ok (.aload_n 0, 1) := by decide +kernel
theorem dX1_sweepOut_105 : decode cX1_sweepOut 105 = .ok (.iload_n 1, 1) := by decide +kernel
theorem dX1_sweepOut_106 : decode cX1_sweepOut 106 = .ok (.putfield 9, 3) := by decide +kernel
theorem dX1_sweepOut_109 : decode cX1_sweepOut 109 = .ok (.iload_n 2, 1) := by decide +kernel
theorem dX1_sweepOut_110 : decode cX1_sweepOut 110 = .ok (.ireturn, 1) := by decide +kernel
set_option maxRecDepth 20000 in
set_option maxHeartbeats 4000000 in
theorem c_Eggs_sweepOut (E : xE) (l : Launch) (a : Nat → Nat) (ws : va_W) (hW : WX (okX E a) ws) (t : Nat) (ht : tb t) : xI E l yX1_sweepOut cX1_sweepOut 3 (some .int) 0 [.ref (a (t + 9))] ws (fun r w => WX (okX E a) w ∧ keeps ws w (fun q => t ≤ q ∧ q < t + 22 ∧ q ≠ t + 1 ∧ q ≠ t + 4)) := by
  refine xI_start (lv := [(0, .ref (a (t + 9)))]) RX1 (by decide) rfl (Nat.le_of_ble_eq_true rfl) rfl (fun p e s m below meth c A C hr hlk => ?_)
  have htb := tb_lo ht
  have kp0 : keeps ws ws (fun q => t ≤ q ∧ q < t + 22 ∧ q ≠ t + 1 ∧ q ≠ t + 4) := keeps_rf
  refine x_iconst C (v := 0) dX1_sweepOut_0 (by decide) rfl ?_
  refine x_istore_n C (lv' := [(1, .int 0), (0, .ref (a (t + 9)))]) dX1_sweepOut_1 rfl (by decide) rfl rfl ?_
  refine x_iconst C (v := 0) dX1_sweepOut_2 (by decide) rfl ?_
  refine x_istore_n C (lv' := [(2, .int 0), (1, .int 0), (0, .ref (a (t + 9)))]) dX1_sweepOut_3 rfl (by decide) rfl rfl ?_
  have loop4 : ∀ (fu4 : Nat) (q : Nat) (i : Nat) (wl4 : va_W), WX (okX E a) wl4 → 48 - i < fu4 → q ≤ i → i ≤ 48 → keeps ws wl4 (fun q => t ≤ q ∧ q < t + 22 ∧ q ≠ t + 1 ∧ q ≠ t + 4) → X E p l e (xRm 0 0 0) s m ([.ref (a (t + 9))] : List Value).toArray below meth c A 3 0 0 (MQ below (va_Qi (fun r w => WX (okX E a) w ∧ keeps ws w (fun q => t ≤ q ∧ q < t + 22 ∧ q ≠ t + 1 ∧ q ≠ t + 4)) (xB E A) A) ([.ref (a (t + 9))] : List Value).toArray s 0 0 A) wl4 4 [(0, .ref (a (t + 9))), (1, .int (nI q)), (2, .int (nI i))] [] := by
    intro fu4
    induction fu4 with
    | zero => intro q i wl4 _ q; omega
    | succ fu4 ih4 =>
      intro q i wl4 hWl4 me4 iv4_0 iv4_1 kq4
      refine x_iload_n C dX1_sweepOut_4 rfl 2 rfl rfl ?_
      refine x_aload_n C dX1_sweepOut_5 rfl 0 rfl rfl ?_
      obtain ⟨_, k1, n2, bn3, rfl⟩ := hWl4 (t + 9) _ (okX_t ht (j := 9) rfl)
      refine x_get C (ci := 1) (k := 0) (t + 9) k1 rfl in_X1 (by decide) w_120 rfl dX1_sweepOut_6 rfl ?_
      refine x_icmp_ge C (tgt := 97) dX1_sweepOut_9 (by decide) rfl (fun c4 => ?_) (fun c4 => ?_)
      · skip
        have nf5 := nI_le' (a := n2) (b := i) c4 (by omega) (by omega)
        refine x_aload_n C dX1_sweepOut_97 rfl 0 rfl rfl ?_
        refine x_get C (ci := 1) (k := 0) (t + 9) k1 rfl in_X1 (by decide) w_120 rfl dX1_sweepOut_98 rfl ?_
        refine x_iload_n C dX1_sweepOut_101 rfl 1 rfl rfl ?_
        refine x_isub C (v := ((nI n2) - (nI q))) dX1_sweepOut_102 rfl rfl ?_
        refine x_any (fun v6 => ?_)
        refine x_istore_n C (lv' := [(2, .int v6), (0, .ref (a (t + 9))), (1, .int (nI q))]) dX1_sweepOut_103 rfl (by decide) rfl rfl ?_
        refine x_aload_n C dX1_sweepOut_104 rfl 1 rfl rfl ?_
        refine x_iload_n C dX1_sweepOut_105 rfl 2 rfl rfl ?_
        obtain ⟨w7, hw8⟩ : ∃ w : va_W, w = List.set wl4 (t + 9) (ob (a (t + 9)) 1 [.int (nI q), .ref (a (t + 10)), .ref (a (t + 11)), .ref (a (t + 12)), .ref (a (t + 13)), .ref (a (t + 14)), .ref (a (t + 15))]) := ⟨_, rfl⟩
        refine x_put C (ci := 1) (k := 0) (ty := .int) (t + 9) k1 rfl in_X1 tyX1 tyX1_ok nmX1 (by decide) w_120 rfl rfl rfl rfl (Nat.le_of_ble_eq_true rfl) hw8.symm dX1_sweepOut_106 rfl ?_
        have hW9 : WX (okX E a) w7 := by rw [hw8]; exact hWl4.set (k := (t + 9)) (okX_t ht (j := 9) rfl) ⟨q, by omega, rfl⟩
        have k10 : w7[t + 9]? = some (ob (a (t + 9)) 1 [.int (nI q), .ref (a (t + 10)), .ref (a (t + 11)), .ref (a (t + 12)), .ref (a (t + 13)), .ref (a (t + 14)), .ref (a (t + 15))]) := by rw [hw8]; exact set_eq k1
        have kp11 := keeps_set kq4 hw8 (by first | exact rfl | decide | omega | (dsimp only; omega))
        refine x_iload_n C dX1_sweepOut_109 rfl 0 rfl rfl ?_
        exact x_zret C hr hlk rfl dX1_sweepOut_110 ⟨hW9, kp11⟩
      · skip
        have nf12 := nI_nle' (a := n2) (b := i) c4 (by omega) (by omega)
        refine x_aload_n C dX1_sweepOut_12 rfl 0 rfl rfl ?_
        refine x_get C (ci := 1) (k := 6) (t + 9) k1 rfl in_X1 (by decide) w_144 rfl dX1_sweepOut_13 rfl ?_
        refine x_iload_n C dX1_sweepOut_16 rfl 2 rfl rfl ?_
        obtain ⟨_, k13, f14, rfl⟩ := hWl4 (t + 15) _ (okX_t ht (j := 15) rfl)
        refine x_iald C (v := (f14 (nI i).toNatClampNeg)) (t + 15) k13 (vp_in_nI (by omega) (by decide)) rfl dX1_sweepOut_17 rfl ?_
        refine x_any (fun v15 => ?_)
        refine x_if_ne C (tgt := 91) dX1_sweepOut_18 (by decide) rfl (fun c16 => ?_) (fun c16 => ?_)
        · skip
          refine x_iinc C (v := (nI (i + 1))) (lv' := [(2, .int (nI (i + 1))), (0, .ref (a (t + 9))), (1, .int (nI q))]) dX1_sweepOut_91 2 rfl (nI_add i 1) (by decide) rfl rfl ?_
          refine x_goto C (tgt := 4) dX1_sweepOut_94 (by decide) ?_
          refine x_lv (lv1 := [(0, .ref (a (t + 9))), (1, .int (nI q)), (2, .int (nI (i + 1)))]) [1, 2, 0] rfl ?_
          exact ih4 q (i + 1) wl4 hWl4 (by omega) (by omega) (by omega) kq4
        · skip
          refine x_aload_n C dX1_sweepOut_21 rfl 0 rfl rfl ?_
          refine x_get C (ci := 1) (k := 1) (t + 9) k1 rfl in_X1 (by decide) w_123 rfl dX1_sweepOut_22 rfl ?_
          refine x_iload_n C dX1_sweepOut_25 rfl 1 rfl rfl ?_
          refine x_aload_n C dX1_sweepOut_26 rfl 0 rfl rfl ?_
          refine x_get C (ci := 1) (k := 1) (t + 9) k1 rfl in_X1 (by decide) w_123 rfl dX1_sweepOut_27 rfl ?_
          refine x_iload_n C dX1_sweepOut_30 rfl 2 rfl rfl ?_
          obtain ⟨_, k17, f18, rfl⟩ := hWl4 (t + 10) _ (okX_t ht (j := 10) rfl)
          refine x_iald C (v := (f18 (nI i).toNatClampNeg)) (t + 10) k17 (vp_in_nI (by omega) (by decide)) rfl dX1_sweepOut_31 rfl ?_
          refine x_any (fun v19 => ?_)
          obtain ⟨w20, hw21⟩ : ∃ w : va_W, w = List.set wl4 (t + 10) (iA E (a (t + 10)) 48 (upd f18 (nI q).toNatClampNeg v19)) := ⟨_, rfl⟩
          refine x_iast C (t + 10) k17 (vp_in_nI (by omega) (by decide)) hw21.symm dX1_sweepOut_32 rfl ?_
          have hW22 : WX (okX E a) w20 := by rw [hw21]; exact hWl4.set (k := (t + 10)) (okX_t ht (j := 10) rfl) ⟨_, rfl⟩
          have k23 : w20[t + 9]? = some (ob (a (t + 9)) 1 [.int (nI n2), .ref (a (t + 10)), .ref (a (t + 11)), .ref (a (t + 12)), .ref (a (t + 13)), .ref (a (t + 14)), .ref (a (t + 15))]) := by rw [hw21]; exact set_ne k1 (by omega)
          have k24 : w20[t + 15]? = some (iA E (a (t + 15)) 48 f14) := by rw [hw21]; exact set_ne k13 (by omega)
          have k25 : w20[t + 10]? = some (iA E (a (t + 10)) 48 (upd f18 (nI q).toNatClampNeg v19)) := by rw [hw21]; exact set_eq k17
          have kp26 := keeps_set kq4 hw21 (by first | exact rfl | decide | omega | (dsimp only; omega))
          refine x_aload_n C dX1_sweepOut_33 rfl 0 rfl rfl ?_
          refine x_get C (ci := 1) (k := 2) (t + 9) k23 rfl in_X1 (by decide) w_127 rfl dX1_sweepOut_34 rfl ?_
          refine x_iload_n C dX1_sweepOut_37 rfl 1 rfl rfl ?_
          refine x_aload_n C dX1_sweepOut_38 rfl 0 rfl rfl ?_
          refine x_get C (ci := 1) (k := 2) (t + 9) k23 rfl in_X1 (by decide) w_127 rfl dX1_sweepOut_39 rfl ?_
          refine x_iload_n C dX1_sweepOut_42 rfl 2 rfl rfl ?_
          obtain ⟨_, k27, g28, gb29, rfl⟩ := hW22 (t + 11) _ (okX_t ht (j := 11) rfl)
          refine x_ialk C (v := nI (g28 i)) i (nI_clamp (by omega)) (nI_pos (by omega)) (by omega) (t + 11) k27 rfl dX1_sweepOut_43 rfl ?_
          have bx30 := gb29 i
          have gb31 := updn_le (i := q) (v := (g28 i)) gb29 (by omega)
          obtain ⟨w32, hw33⟩ : ∃ w : va_W, w = List.set w20 (t + 11) (iA E (a (t + 11)) 48 (upd (fun j => nI (g28 j)) q (nI (g28 i)))) := ⟨_, rfl⟩
          refine x_iask C q (nI_clamp (by omega)) (nI_pos (by omega)) (by omega) (t + 11) k27 hw33.symm dX1_sweepOut_44 rfl ?_
          have hW34 : WX (okX E a) w32 := by rw [hw33]; exact hW22.set (k := (t + 11)) (okX_t ht (j := 11) rfl) ⟨_, gb31, iA_n (upd_nI g28 q (g28 i))⟩
          have k35 : w32[t + 9]? = some (ob (a (t + 9)) 1 [.int (nI n2), .ref (a (t + 10)), .ref (a (t + 11)), .ref (a (t + 12)), .ref (a (t + 13)), .ref (a (t + 14)), .ref (a (t + 15))]) := by rw [hw33]; exact set_ne k23 (by omega)
          have k36 : w32[t + 15]? = some (iA E (a (t + 15)) 48 f14) := by rw [hw33]; exact set_ne k24 (by omega)
          have k37 : w32[t + 10]? = some (iA E (a (t + 10)) 48 (upd f18 (nI q).toNatClampNeg v19)) := by rw [hw33]; exact set_ne k25 (by omega)
          have k38 : w32[t + 11]? = some (iA E (a (t + 11)) 48 (upd (fun j => nI (g28 j)) q (nI (g28 i)))) := by rw [hw33]; exact set_eq k27
          have kp39 := keeps_set kp26 hw33 (by first | exact rfl | decide | omega | (dsimp only; omega))
          have k40 : w32[t + 11]? = some (iA E (a (t + 11)) 48 (fun j => nI ((updn g28 q (g28 i)) j))) := by rw [← upd_nI]; exact k38
          refine x_aload_n C dX1_sweepOut_45 rfl 0 rfl rfl ?_
          refine x_get C (ci := 1) (k := 3) (t + 9) k35 rfl in_X1 (by decide) w_131 rfl dX1_sweepOut_46 rfl ?_
          refine x_iload_n C dX1_sweepOut_49 rfl 1 rfl rfl ?_
          refine x_aload_n C dX1_sweepOut_50 rfl 0 rfl rfl ?_
          refine x_get C (ci := 1) (k := 3) (t + 9) k35 rfl in_X1 (by decide) w_131 rfl dX1_sweepOut_51 rfl ?_
          refine x_iload_n C dX1_sweepOut_54 rfl 2 rfl rfl ?_
          obtain ⟨_, k41, f42, rfl⟩ := hW34 (t + 12) _ (okX_t ht (j := 12) rfl)
          refine x_iald C (v := (f42 (nI i).toNatClampNeg)) (t + 12) k41 (vp_in_nI (by omega) (by decide)) rfl dX1_sweepOut_55 rfl ?_
          refine x_any (fun v43 => ?_)
          obtain ⟨w44, hw45⟩ : ∃ w : va_W, w = List.set w32 (t + 12) (iA E (a (t + 12)) 48 (upd f42 (nI q).toNatClampNeg v43)) := ⟨_, rfl⟩
          refine x_iast C (t + 12) k41 (vp_in_nI (by omega) (by decide)) hw45.symm dX1_sweepOut_56 rfl ?_
          have hW46 : WX (okX E a) w44 := by rw [hw45]; exact hW34.set (k := (t + 12)) (okX_t ht (j := 12) rfl) ⟨_, rfl⟩
          have k47 : w44[t + 9]? = some (ob (a (t + 9)) 1 [.int (nI n2), .ref (a (t + 10)), .ref (a (t + 11)), .ref (a (t + 12)), .ref (a (t + 13)), .ref (a (t + 14)), .ref (a (t + 15))]) := by rw [hw45]; exact set_ne k35 (by omega)
          have k48 : w44[t + 15]? = some (iA E (a (t + 15)) 48 f14) := by rw [hw45]; exact set_ne k36 (by omega)
          have k49 : w44[t + 10]? = some (iA E (a (t + 10)) 48 (upd f18 (nI q).toNatClampNeg v19)) := by rw [hw45]; exact set_ne k37 (by omega)
          have k50 : w44[t + 11]? = some (iA E (a (t + 11)) 48 (fun j => nI ((updn g28 q (g28 i)) j))) := by rw [hw45]; exact set_ne k40 (by omega)
          have k51 : w44[t + 12]? = some (iA E (a (t + 12)) 48 (upd f42 (nI q).toNatClampNeg v43)) := by rw [hw45]; exact set_eq k41
          have kp52 := keeps_set kp39 hw45 (by first | exact rfl | decide | omega | (dsimp only; omega))
          refine x_aload_n C dX1_sweepOut_57 rfl 0 rfl rfl ?_
          refine x_get C (ci := 1) (k := 4) (t + 9) k47 rfl in_X1 (by decide) w_134 rfl dX1_sweepOut_58 rfl ?_
          refine x_iload_n C dX1_sweepOut_61 rfl 1 rfl rfl ?_
          refine x_aload_n C dX1_sweepOut_62 rfl 0 rfl rfl ?_
          refine x_get C (ci := 1) (k := 4) (t + 9) k47 rfl in_X1 (by decide) w_134 rfl dX1_sweepOut_63 rfl ?_
          refine x_iload_n C dX1_sweepOut_66 rfl 2 rfl rfl ?_
          obtain ⟨_, k53, g54, gb55, rfl⟩ := hW46 (t + 13) _ (okX_t ht (j := 13) rfl)
          refine x_ialk C (v := nI (g54 i)) i (nI_clamp (by omega)) (nI_pos (by omega)) (by omega) (t + 13) k53 rfl dX1_sweepOut_67 rfl ?_
          have bx56 := gb55 i
          have gb57 := updn_le (i := q) (v := (g54 i)) gb55 (by omega)
          obtain ⟨w58, hw59⟩ : ∃ w : va_W, w = List.set w44 (t + 13) (iA E (a (t + 13)) 48 (upd (fun j => nI (g54 j)) q (nI (g54 i)))) := ⟨_, rfl⟩
          refine x_iask C q (nI_clamp (by omega)) (nI_pos (by omega)) (by omega) (t + 13) k53 hw59.symm dX1_sweepOut_68 rfl ?_
          have hW60 : WX (okX E a) w58 := by rw [hw59]; exact hW46.set (k := (t + 13)) (okX_t ht (j := 13) rfl) ⟨_, gb57, iA_n (upd_nI g54 q (g54 i))⟩
          have k61 : w58[t + 9]? = some (ob (a (t + 9)) 1 [.int (nI n2), .ref (a (t + 10)), .ref (a (t + 11)), .ref (a (t + 12)), .ref (a (t + 13)), .ref (a (t + 14)), .ref (a (t + 15))]) := by rw [hw59]; exact set_ne k47 (by omega)
          have k62 : w58[t + 15]? = some (iA E (a (t + 15)) 48 f14) := by rw [hw59]; exact set_ne k48 (by omega)
          have k63 : w58[t + 10]? = some (iA E (a (t + 10)) 48 (upd f18 (nI q).toNatClampNeg v19)) := by rw [hw59]; exact set_ne k49 (by omega)
          have k64 : w58[t + 11]? = some (iA E (a (t + 11)) 48 (fun j => nI ((updn g28 q (g28 i)) j))) := by rw [hw59]; exact set_ne k50 (by omega)
          have k65 : w58[t + 12]? = some (iA E (a (t + 12)) 48 (upd f42 (nI q).toNatClampNeg v43)) := by rw [hw59]; exact set_ne k51 (by omega)
          have k66 : w58[t + 13]? = some (iA E (a (t + 13)) 48 (upd (fun j => nI (g54 j)) q (nI (g54 i)))) := by rw [hw59]; exact set_eq k53
          have kp67 := keeps_set kp52 hw59 (by first | exact rfl | decide | omega | (dsimp only; omega))
          have k68 : w58[t + 13]? = some (iA E (a (t + 13)) 48 (fun j => nI ((updn g54 q (g54 i)) j))) := by rw [← upd_nI]; exact k66
          refine x_aload_n C dX1_sweepOut_69 rfl 0 rfl rfl ?_
          refine x_get C (ci := 1) (k := 5) (t + 9) k61 rfl in_X1 (by decide) w_139 rfl dX1_sweepOut_70 rfl ?_
          refine x_iload_n C dX1_sweepOut_73 rfl 1 rfl rfl ?_
          refine x_aload_n C dX1_sweepOut_74 rfl 0 rfl rfl ?_
          refine x_get C (ci := 1) (k := 5) (t + 9) k61 rfl in_X1 (by decide) w_139 rfl dX1_sweepOut_75 rfl ?_
          refine x_iload_n C dX1_sweepOut_78 rfl 2 rfl rfl ?_
          obtain ⟨_, k69, f70, rfl⟩ := hW60 (t + 14) _ (okX_t ht (j := 14) rfl)
          refine x_iald C (v := (f70 (nI i).toNatClampNeg)) (t + 14) k69 (vp_in_nI (by omega) (by decide)) rfl dX1_sweepOut_79 rfl ?_
          refine x_any (fun v71 => ?_)
          obtain ⟨w72, hw73⟩ : ∃ w : va_W, w = List.set w58 (t + 14) (iA E (a (t + 14)) 48 (upd f70 (nI q).toNatClampNeg v71)) := ⟨_, rfl⟩
          refine x_iast C (t + 14) k69 (vp_in_nI (by omega) (by decide)) hw73.symm dX1_sweepOut_80 rfl ?_
          have hW74 : WX (okX E a) w72 := by rw [hw73]; exact hW60.set (k := (t + 14)) (okX_t ht (j := 14) rfl) ⟨_, rfl⟩
          have k75 : w72[t + 9]? = some (ob (a (t + 9)) 1 [.int (nI n2), .ref (a (t + 10)), .ref (a (t + 11)), .ref (a (t + 12)), .ref (a (t + 13)), .ref (a (t + 14)), .ref (a (t + 15))]) := by rw [hw73]; exact set_ne k61 (by omega)
          have k76 : w72[t + 15]? = some (iA E (a (t + 15)) 48 f14) := by rw [hw73]; exact set_ne k62 (by omega)
          have k77 : w72[t + 10]? = some (iA E (a (t + 10)) 48 (upd f18 (nI q).toNatClampNeg v19)) := by rw [hw73]; exact set_ne k63 (by omega)
          have k78 : w72[t + 11]? = some (iA E (a (t + 11)) 48 (fun j => nI ((updn g28 q (g28 i)) j))) := by rw [hw73]; exact set_ne k64 (by omega)
          have k79 : w72[t + 12]? = some (iA E (a (t + 12)) 48 (upd f42 (nI q).toNatClampNeg v43)) := by rw [hw73]; exact set_ne k65 (by omega)
          have k80 : w72[t + 13]? = some (iA E (a (t + 13)) 48 (fun j => nI ((updn g54 q (g54 i)) j))) := by rw [hw73]; exact set_ne k68 (by omega)
          have k81 : w72[t + 14]? = some (iA E (a (t + 14)) 48 (upd f70 (nI q).toNatClampNeg v71)) := by rw [hw73]; exact set_eq k69
          have kp82 := keeps_set kp67 hw73 (by first | exact rfl | decide | omega | (dsimp only; omega))
          refine x_aload_n C dX1_sweepOut_81 rfl 0 rfl rfl ?_
          refine x_get C (ci := 1) (k := 6) (t + 9) k75 rfl in_X1 (by decide) w_144 rfl dX1_sweepOut_82 rfl ?_
          refine x_iload_n C dX1_sweepOut_85 rfl 1 rfl rfl ?_
          refine x_iconst C (v := 0) dX1_sweepOut_86 (by decide) rfl ?_
          obtain ⟨w83, hw84⟩ : ∃ w : va_W, w = List.set w72 (t + 15) (iA E (a (t + 15)) 48 (upd f14 (nI q).toNatClampNeg 0)) := ⟨_, rfl⟩
          refine x_iast C (t + 15) k76 (vp_in_nI (by omega) (by decide)) hw84.symm dX1_sweepOut_87 rfl ?_
          have hW85 : WX (okX E a) w83 := by rw [hw84]; exact hW74.set (k := (t + 15)) (okX_t ht (j := 15) rfl) ⟨_, rfl⟩
          have k86 : w83[t + 9]? = some (ob (a (t + 9)) 1 [.int (nI n2), .ref (a (t + 10)), .ref (a (t + 11)), .ref (a (t + 12)), .ref (a (t + 13)), .ref (a (t + 14)), .ref (a (t + 15))]) := by rw [hw84]; exact set_ne k75 (by omega)
          have k87 : w83[t + 15]? = some (iA E (a (t + 15)) 48 (upd f14 (nI q).toNatClampNeg 0)) := by rw [hw84]; exact set_eq k76
          have k88 : w83[t + 10]? = some (iA E (a (t + 10)) 48 (upd f18 (nI q).toNatClampNeg v19)) := by rw [hw84]; exact set_ne k77 (by omega)
          have k89 : w83[t + 11]? = some (iA E (a (t + 11)) 48 (fun j => nI ((updn g28 q (g28 i)) j))) := by rw [hw84]; exact set_ne k78 (by omega)
          have k90 : w83[t + 12]? = some (iA E (a (t + 12)) 48 (upd f42 (nI q).toNatClampNeg v43)) := by rw [hw84]; exact set_ne k79 (by omega)
          have k91 : w83[t + 13]? = some (iA E (a (t + 13)) 48 (fun j => nI ((updn g54 q (g54 i)) j))) := by rw [hw84]; exact set_ne k80 (by omega)
          have k92 : w83[t + 14]? = some (iA E (a (t + 14)) 48 (upd f70 (nI q).toNatClampNeg v71)) := by rw [hw84]; exact set_ne k81 (by omega)
          have kp93 := keeps_set kp82 hw84 (by first | exact rfl | decide | omega | (dsimp only; omega))
          refine x_iinc C (v := (nI (q + 1))) (lv' := [(1, .int (nI (q + 1))), (0, .ref (a (t + 9))), (2, .int (nI i))]) dX1_sweepOut_88 1 rfl (nI_add q 1) (by decide) rfl rfl ?_
          refine x_iinc C (v := (nI (i + 1))) (lv' := [(2, .int (nI (i + 1))), (1, .int (nI (q + 1))), (0, .ref (a (t + 9)))]) dX1_sweepOut_91 2 rfl (nI_add i 1) (by decide) rfl rfl ?_
          refine x_goto C (tgt := 4) dX1_sweepOut_94 (by decide) ?_
          refine x_lv (lv1 := [(0, .ref (a (t + 9))), (1, .int (nI (q + 1))), (2, .int (nI (i + 1)))]) [2, 1, 0] rfl ?_
          exact ih4 (q + 1) (i + 1) w83 hW85 (by omega) (by omega) (by omega) kp93
  refine x_lv (lv1 := [(0, .ref (a (t + 9))), (1, .int 0), (2, .int 0)]) [2, 1, 0] rfl ?_
  exact loop4 _ 0 0 ws hW (Nat.lt_succ_self _) (by omega) (by omega) kp0
theorem dX2_copyFrom_0 : decode cX2_copyFrom 0 = .ok (.aload_n 0, 1) := by decide +kernel
theorem dX2_copyFrom_1 : decode cX2_copyFrom 1 = .ok (.aload_n 1, 1) := by decide +kernel
theorem dX2_copyFrom_2 : decode cX2_copyFrom 2 = .ok (.getfield 9, 3) := by decide +kernel
theorem dX2_copyFrom_5 : decode cX2_copyFrom 5 = .ok (.putfield 9, 3) := by decide +kernel
theorem dX2_copyFrom_8 : decode cX2_copyFrom 8 = .ok (.aload_n 1, 1) := by decide +kernel
theorem dX2_copyFrom_9 : decode cX2_copyFrom 9 = .ok (.getfield 15, 3) := by decide +kernel
theorem dX2_copyFrom_12 : decode cX2_copyFrom 12 = .ok (.iconst 0, 1) := by decide +kernel
theorem dX2_copyFrom_13 : decode cX2_copyFrom 13 = .ok (.aload_n 0, 1) := by decide +kernel
theorem dX2_copyFrom_14 : decode cX2_copyFrom 14 = .ok (.getfield 15, 3) := by decide +kernel
theorem dX2_copyFrom_17 : decode cX2_copyFrom 17 = .ok (.iconst 0, 1) := by decide +kernel
theorem dX2_copyFrom_18 : decode cX2_copyFrom 18 = .ok (.bipush 8, 2) := by decide +kernel
theorem dX2_copyFrom_20 : decode cX2_copyFrom 20 = .ok (.invokestatic 30, 3) := by decide +kernel
theorem dX2_copyFrom_23 : decode cX2_copyFrom 23 = .ok (.aload_n 1, 1) := by decide +kernel
theorem dX2_copyFrom_24 : decode cX2_copyFrom 24 = .ok (.getfield 19, 3) := by decide +kernel
theorem dX2_copyFrom_27 : decode cX2_copyFrom 27 = .ok (.iconst 0, 1) := by decide +kernel
theorem dX2_copyFrom_28 : decode cX2_copyFrom 28 = .ok (.aload_n 0, 1) := by decide +kernel
theorem dX2_copyFrom_29 : decode cX2_copyFrom 29 = .ok (.getfield 19, 3) := by decide +kernel
theorem dX2_copyFrom_32 : decode cX2_copyFrom 32 = .ok (.iconst 0, 1) := by decide +kernel
theorem dX2_copyFrom_33 : decode cX2_copyFrom 33 = .ok (.bipush 8, 2) := by decide +kernel
theorem dX2_copyFrom_35 : decode cX2_copyFrom 35 = .ok (.invokestatic 30, 3) := by decide +kernel
theorem dX2_copyFrom_38 : decode cX2_copyFrom 38 = .ok (.return_, 1) := by decide +kernel
set_option maxRecDepth 20000 in
set_option maxHeartbeats 4000000 in
theorem c_Hens_copy (E : xE) (l : Launch) (a : Nat → Nat) (ws : va_W) (hW : WX (okX E a) ws) (t : Nat) (ht : tb t) (u : Nat) (hu : tb u) (htu : t ≠ u) : xV E l yX2_copyFrom cX2_copyFrom 2 1 0 0 [.ref (a (t + 1)), .ref (a (u + 1))] ws (fun w => WX (okX E a) w ∧ keeps ws w (fun q => t + 1 ≤ q ∧ q < t + 4)) := by
  refine xV_start (lv := [(0, .ref (a (t + 1))), (1, .ref (a (u + 1)))]) RX2 (by decide) rfl (Nat.le_of_ble_eq_true rfl) rfl (fun p e s m below meth c A C hr hlk hin => ?_)
  have htb := tb_lo ht
  have hub := tb_lo hu
  have htu2 := tb_ne ht hu htu
  have kp0 : keeps ws ws (fun q => t + 1 ≤ q ∧ q < t + 4) := keeps_rf
  refine x_aload_n C dX2_copyFrom_0 rfl 0 rfl rfl ?_
  refine x_aload_n C dX2_copyFrom_1 rfl 1 rfl rfl ?_
  obtain ⟨_, k1, v2, rfl⟩ := hW (u + 1) _ (okX_t hu (j := 1) rfl)
  refine x_get C (ci := 2) (k := 0) (u + 1) k1 rfl in_X2 (by decide) w_68 rfl dX2_copyFrom_2 rfl ?_
  obtain ⟨_, k3, v4, rfl⟩ := hW (t + 1) _ (okX_t ht (j := 1) rfl)
  obtain ⟨w5, hw6⟩ : ∃ w : va_W, w = List.set ws (t + 1) (ob (a (t + 1)) 2 [.int v2, .ref (a (t + 2)), .ref (a (t + 3))]) := ⟨_, rfl⟩
  refine x_put C (ci := 2) (k := 0) (ty := .int) (t + 1) k3 rfl in_X2 tyX2 tyX2_ok nmX2 (by decide) w_68 rfl rfl rfl rfl (Nat.le_of_ble_eq_true rfl) hw6.symm dX2_copyFrom_5 rfl ?_
  have hW7 : WX (okX E a) w5 := by rw [hw6]; exact hW.set (k := (t + 1)) (okX_t ht (j := 1) rfl) ⟨v2, rfl⟩
  have k8 : w5[u + 1]? = some (ob (a (u + 1)) 2 [.int v2, .ref (a (u + 2)), .ref (a (u + 3))]) := by rw [hw6]; exact set_ne k1 (by omega)
  have k9 : w5[t + 1]? = some (ob (a (t + 1)) 2 [.int v2, .ref (a (t + 2)), .ref (a (t + 3))]) := by rw [hw6]; exact set_eq k3
  have kp10 := keeps_set kp0 hw6 (by first | exact rfl | decide | omega | (dsimp only; omega))
  refine x_aload_n C dX2_copyFrom_8 rfl 1 rfl rfl ?_
  refine x_get C (ci := 2) (k := 1) (u + 1) k8 rfl in_X2 (by decide) w_70 rfl dX2_copyFrom_9 rfl ?_
  refine x_iconst C (v := 0) dX2_copyFrom_12 (by decide) rfl ?_
  refine x_aload_n C dX2_copyFrom_13 rfl 0 rfl rfl ?_
  refine x_get C (ci := 2) (k := 1) (t + 1) k9 rfl in_X2 (by decide) w_70 rfl dX2_copyFrom_14 rfl ?_
  refine x_iconst C (v := 0) dX2_copyFrom_17 (by decide) rfl ?_
  refine x_bipush C (v := 8) dX2_copyFrom_18 (by decide) rfl ?_
  obtain ⟨_, k11, f12, rfl⟩ := hW7 (u + 2) _ (okX_t hu (j := 2) rfl)
  obtain ⟨_, k13, f14, rfl⟩ := hW7 (t + 2) _ (okX_t ht (j := 2) rfl)
  obtain ⟨w15, hw16⟩ : ∃ w : va_W, w = List.set w5 (t + 2) (iA E (a (t + 2)) 8 (va_cpy f12 f14 0 0 8)) := ⟨_, rfl⟩
  refine x_copy C (u + 2) (t + 2) k11 k13 w_796 w_798 w_797 w_20 (by decide) (by decide) (by decide) (by decide) (by decide) (Nat.le_of_ble_eq_true rfl) (Nat.le_of_ble_eq_true rfl) hw16.symm dX2_copyFrom_20 rfl ?_
  have hW17 : WX (okX E a) w15 := by rw [hw16]; exact hW7.set (k := (t + 2)) (okX_t ht (j := 2) rfl) ⟨_, rfl⟩
  have k18 : w15[u + 1]? = some (ob (a (u + 1)) 2 [.int v2, .ref (a (u + 2)), .ref (a (u + 3))]) := by rw [hw16]; exact set_ne k8 (by omega)
  have k19 : w15[t + 1]? = some (ob (a (t + 1)) 2 [.int v2, .ref (a (t + 2)), .ref (a (t + 3))]) := by rw [hw16]; exact set_ne k9 (by omega)
  have k20 : w15[u + 2]? = some (iA E (a (u + 2)) 8 f12) := by rw [hw16]; exact set_ne k11 (by omega)
  have k21 : w15[t + 2]? = some (iA E (a (t + 2)) 8 (va_cpy f12 f14 0 0 8)) := by rw [hw16]; exact set_eq k13
  have kp22 := keeps_set kp10 hw16 (by first | exact rfl | decide | omega | (dsimp only; omega))
  refine x_aload_n C dX2_copyFrom_23 rfl 1 rfl rfl ?_
  refine x_get C (ci := 2) (k := 2) (u + 1) k18 rfl in_X2 (by decide) w_73 rfl dX2_copyFrom_24 rfl ?_
  refine x_iconst C (v := 0) dX2_copyFrom_27 (by decide) rfl ?_
  refine x_aload_n C dX2_copyFrom_28 rfl 0 rfl rfl ?_
  refine x_get C (ci := 2) (k := 2) (t + 1) k19 rfl in_X2 (by decide) w_73 rfl dX2_copyFrom_29 rfl ?_
  refine x_iconst C (v := 0) dX2_copyFrom_32 (by decide) rfl ?_
  refine x_bipush C (v := 8) dX2_copyFrom_33 (by decide) rfl ?_
  obtain ⟨_, k23, g24, gb25, rfl⟩ := hW17 (u + 3) _ (okX_t hu (j := 3) rfl)
  obtain ⟨_, k26, g27, gb28, rfl⟩ := hW17 (t + 3) _ (okX_t ht (j := 3) rfl)
  have gb29 := cpn_le (n := 8) gb25 gb28
  obtain ⟨w30, hw31⟩ : ∃ w : va_W, w = List.set w15 (t + 3) (iA E (a (t + 3)) 8 (va_cpy (fun j => nI (g24 j)) (fun j => nI (g27 j)) 0 0 8)) := ⟨_, rfl⟩
  refine x_copy C (u + 3) (t + 3) k23 k26 w_796 w_798 w_797 w_20 (by decide) (by decide) (by decide) (by decide) (by decide) (Nat.le_of_ble_eq_true rfl) (Nat.le_of_ble_eq_true rfl) hw31.symm dX2_copyFrom_35 rfl ?_
  have hW32 : WX (okX E a) w30 := by rw [hw31]; exact hW17.set (k := (t + 3)) (okX_t ht (j := 3) rfl) ⟨_, gb29, iA_n (cpy_nI g24 g27 8)⟩
  have k33 : w30[u + 1]? = some (ob (a (u + 1)) 2 [.int v2, .ref (a (u + 2)), .ref (a (u + 3))]) := by rw [hw31]; exact set_ne k18 (by omega)
  have k34 : w30[t + 1]? = some (ob (a (t + 1)) 2 [.int v2, .ref (a (t + 2)), .ref (a (t + 3))]) := by rw [hw31]; exact set_ne k19 (by omega)
  have k35 : w30[u + 2]? = some (iA E (a (u + 2)) 8 f12) := by rw [hw31]; exact set_ne k20 (by omega)
  have k36 : w30[t + 2]? = some (iA E (a (t + 2)) 8 (va_cpy f12 f14 0 0 8)) := by rw [hw31]; exact set_ne k21 (by omega)
  have k37 : w30[u + 3]? = some (iA E (a (u + 3)) 8 (fun j => nI (g24 j))) := by rw [hw31]; exact set_ne k23 (by omega)
  have k38 : w30[t + 3]? = some (iA E (a (t + 3)) 8 (va_cpy (fun j => nI (g24 j)) (fun j => nI (g27 j)) 0 0 8)) := by rw [hw31]; exact set_eq k26
  have kp39 := keeps_set kp22 hw31 (by first | exact rfl | decide | omega | (dsimp only; omega))
  have k40 : w30[t + 3]? = some (iA E (a (t + 3)) 8 (fun j => nI ((cpn g24 g27 8) j))) := by rw [← cpy_nI]; exact k38
  exact x_vret C hr hlk dX2_copyFrom_38 ⟨hW32, kp39⟩
theorem dX5_copyFrom_0 : decode cX5_copyFrom 0 = .ok (.aload_n 0, 1) := by decide +kernel
theorem dX5_copyFrom_1 : decode cX5_copyFrom 1 = .ok (.aload_n 1, 1) := by decide +kernel
theorem dX5_copyFrom_2 : decode cX5_copyFrom 2 = .ok (.getfield 9, 3) := by decide +kernel
theorem dX5_copyFrom_5 : decode cX5_copyFrom 5 = .ok (.putfield 9, 3) := by decide +kernel
theorem dX5_copyFrom_8 : decode cX5_copyFrom 8 = .ok (.aload_n 1, 1) := by decide +kernel
theorem dX5_copyFrom_9 : decode cX5_copyFrom 9 = .ok (.getfield 15, 3) := by decide +kernel
theorem dX5_copyFrom_12 : decode cX5_copyFrom 12 = .ok (.iconst 0, 1) := by decide +kernel
theorem dX5_copyFrom_13 : decode cX5_copyFrom 13 = .ok (.aload_n 0, 1) := by decide +kernel
theorem dX5_copyFrom_14 : decode cX5_copyFrom 14 = .ok (.getfield 15, 3) := by decide +kernel
theorem dX5_copyFrom_17 : decode cX5_copyFrom 17 = .ok (.iconst 0, 1) := by decide +kernel
theorem dX5_copyFrom_18 : decode cX5_copyFrom 18 = .ok (.bipush 8, 2) := by decide +kernel
theorem dX5_copyFrom_20 : decode cX5_copyFrom 20 = .ok (.invokestatic 43, 3) := by decide +kernel
theorem dX5_copyFrom_23 : decode cX5_copyFrom 23 = .ok (.aload_n 1, 1) := by decide +kernel
theorem dX5_copyFrom_24 : decode cX5_copyFrom 24 = .ok (.getfield 19, 3) := by decide +kernel
theorem dX5_copyFrom_27 : decode cX5_copyFrom 27 = .ok (.iconst 0, 1) := by decide +kernel
theorem dX5_copyFrom_28 : decode cX5_copyFrom 28 = .ok (.aload_n 0, 1) := by decide +kernel
theorem dX5_copyFrom_29 : decode cX5_copyFrom 29 = .ok (.getfield 19, 3) := by decide +kernel
theorem dX5_copyFrom_32 : decode cX5_copyFrom 32 = .ok (.iconst 0, 1) := by decide +kernel
theorem dX5_copyFrom_33 : decode cX5_copyFrom 33 = .ok (.bipush 8, 2) := by decide +kernel
theorem dX5_copyFrom_35 : decode cX5_copyFrom 35 = .ok (.invokestatic 43, 3) := by decide +kernel
theorem dX5_copyFrom_38 : decode cX5_copyFrom 38 = .ok (.aload_n 1, 1) := by decide +kernel
theorem dX5_copyFrom_39 : decode cX5_copyFrom 39 = .ok (.getfield 22, 3) := by decide +kernel
theorem dX5_copyFrom_42 : decode cX5_copyFrom 42 = .ok (.iconst 0, 1) := by decide +kernel
theorem dX5_copyFrom_43 : decode cX5_copyFrom 43 = .ok (.aload_n 0, 1) := by decide +kernel
theorem dX5_copyFrom_44 : decode cX5_copyFrom 44 = .ok (.getfield 22, 3) := by decide +kernel
theorem dX5_copyFrom_47 : decode cX5_copyFrom 47 = .ok (.iconst 0, 1) := by decide +kernel
theorem dX5_copyFrom_48 : decode cX5_copyFrom 48 = .ok (.bipush 8, 2) := by decide +kernel
theorem dX5_copyFrom_50 : decode cX5_copyFrom 50 = .ok (.invokestatic 43, 3) := by decide +kernel
theorem dX5_copyFrom_53 : decode cX5_copyFrom 53 = .ok (.aload_n 1, 1) := by decide +kernel
theorem dX5_copyFrom_54 : decode cX5_copyFrom 54 = .ok (.getfield 25, 3) := by decide +kernel
theorem dX5_copyFrom_57 : decode cX5_copyFrom 57 = .ok (.iconst 0, 1) := by decide +kernel
theorem dX5_copyFrom_58 : decode cX5_copyFrom 58 = .ok (.aload_n 0, 1) := by decide +kernel
theorem dX5_copyFrom_59 : decode cX5_copyFrom 59 = .ok (.getfield 25, 3) := by decide +kernel
theorem dX5_copyFrom_62 : decode cX5_copyFrom 62 = .ok (.iconst 0, 1) := by decide +kernel
theorem dX5_copyFrom_63 : decode cX5_copyFrom 63 = .ok (.bipush 8, 2) := by decide +kernel
theorem dX5_copyFrom_65 : decode cX5_copyFrom 65 = .ok (.invokestatic 43, 3) := by decide +kernel
theorem dX5_copyFrom_68 : decode cX5_copyFrom 68 = .ok (.return_, 1) := by decide +kernel
set_option maxRecDepth 20000 in
set_option maxHeartbeats 4000000 in
theorem c_People_copy (E : xE) (l : Launch) (a : Nat → Nat) (ws : va_W) (hW : WX (okX E a) ws) (t : Nat) (ht : tb t) (u : Nat) (hu : tb u) (htu : t ≠ u) : xV E l yX5_copyFrom cX5_copyFrom 2 1 0 0 [.ref (a (t + 4)), .ref (a (u + 4))] ws (fun w => WX (okX E a) w ∧ keeps ws w (fun q => t + 4 ≤ q ∧ q < t + 9)) := by
  refine xV_start (lv := [(0, .ref (a (t + 4))), (1, .ref (a (u + 4)))]) RX5 (by decide) rfl (Nat.le_of_ble_eq_true rfl) rfl (fun p e s m below meth c A C hr hlk hin => ?_)
  have htb := tb_lo ht
  have hub := tb_lo hu
  have htu2 := tb_ne ht hu htu
  have kp0 : keeps ws ws (fun q => t + 4 ≤ q ∧ q < t + 9) := keeps_rf
  refine x_aload_n C dX5_copyFrom_0 rfl 0 rfl rfl ?_
  refine x_aload_n C dX5_copyFrom_1 rfl 1 rfl rfl ?_
  obtain ⟨_, k1, v2, rfl⟩ := hW (u + 4) _ (okX_t hu (j := 4) rfl)
  refine x_get C (ci := 4) (k := 0) (u + 4) k1 rfl in_X5 (by decide) w_90 rfl dX5_copyFrom_2 rfl ?_
  obtain ⟨_, k3, v4, rfl⟩ := hW (t + 4) _ (okX_t ht (j := 4) rfl)
  obtain ⟨w5, hw6⟩ : ∃ w : va_W, w = List.set ws (t + 4) (ob (a (t + 4)) 4 [.int v2, .ref (a (t + 5)), .ref (a (t + 6)), .ref (a (t + 7)), .ref (a (t + 8))]) := ⟨_, rfl⟩
  refine x_put C (ci := 4) (k := 0) (ty := .int) (t + 4) k3 rfl in_X5 tyX5 tyX5_ok nmX5 (by decide) w_90 rfl rfl rfl rfl (Nat.le_of_ble_eq_true rfl) hw6.symm dX5_copyFrom_5 rfl ?_
  have hW7 : WX (okX E a) w5 := by rw [hw6]; exact hW.set (k := (t + 4)) (okX_t ht (j := 4) rfl) ⟨v2, rfl⟩
  have k8 : w5[u + 4]? = some (ob (a (u + 4)) 4 [.int v2, .ref (a (u + 5)), .ref (a (u + 6)), .ref (a (u + 7)), .ref (a (u + 8))]) := by rw [hw6]; exact set_ne k1 (by omega)
  have k9 : w5[t + 4]? = some (ob (a (t + 4)) 4 [.int v2, .ref (a (t + 5)), .ref (a (t + 6)), .ref (a (t + 7)), .ref (a (t + 8))]) := by rw [hw6]; exact set_eq k3
  have kp10 := keeps_set kp0 hw6 (by first | exact rfl | decide | omega | (dsimp only; omega))
  refine x_aload_n C dX5_copyFrom_8 rfl 1 rfl rfl ?_
  refine x_get C (ci := 4) (k := 1) (u + 4) k8 rfl in_X5 (by decide) w_92 rfl dX5_copyFrom_9 rfl ?_
  refine x_iconst C (v := 0) dX5_copyFrom_12 (by decide) rfl ?_
  refine x_aload_n C dX5_copyFrom_13 rfl 0 rfl rfl ?_
  refine x_get C (ci := 4) (k := 1) (t + 4) k9 rfl in_X5 (by decide) w_92 rfl dX5_copyFrom_14 rfl ?_
  refine x_iconst C (v := 0) dX5_copyFrom_17 (by decide) rfl ?_
  refine x_bipush C (v := 8) dX5_copyFrom_18 (by decide) rfl ?_
  obtain ⟨_, k11, f12, rfl⟩ := hW7 (u + 5) _ (okX_t hu (j := 5) rfl)
  obtain ⟨_, k13, f14, rfl⟩ := hW7 (t + 5) _ (okX_t ht (j := 5) rfl)
  obtain ⟨w15, hw16⟩ : ∃ w : va_W, w = List.set w5 (t + 5) (iA E (a (t + 5)) 8 (va_cpy f12 f14 0 0 8)) := ⟨_, rfl⟩
  refine x_copy C (u + 5) (t + 5) k11 k13 w_803 w_798 w_797 w_20 (by decide) (by decide) (by decide) (by decide) (by decide) (Nat.le_of_ble_eq_true rfl) (Nat.le_of_ble_eq_true rfl) hw16.symm dX5_copyFrom_20 rfl ?_
  have hW17 : WX (okX E a) w15 := by rw [hw16]; exact hW7.set (k := (t + 5)) (okX_t ht (j := 5) rfl) ⟨_, rfl⟩
  have k18 : w15[u + 4]? = some (ob (a (u + 4)) 4 [.int v2, .ref (a (u + 5)), .ref (a (u + 6)), .ref (a (u + 7)), .ref (a (u + 8))]) := by rw [hw16]; exact set_ne k8 (by omega)
  have k19 : w15[t + 4]? = some (ob (a (t + 4)) 4 [.int v2, .ref (a (t + 5)), .ref (a (t + 6)), .ref (a (t + 7)), .ref (a (t + 8))]) := by rw [hw16]; exact set_ne k9 (by omega)
  have k20 : w15[u + 5]? = some (iA E (a (u + 5)) 8 f12) := by rw [hw16]; exact set_ne k11 (by omega)
  have k21 : w15[t + 5]? = some (iA E (a (t + 5)) 8 (va_cpy f12 f14 0 0 8)) := by rw [hw16]; exact set_eq k13
  have kp22 := keeps_set kp10 hw16 (by first | exact rfl | decide | omega | (dsimp only; omega))
  refine x_aload_n C dX5_copyFrom_23 rfl 1 rfl rfl ?_
  refine x_get C (ci := 4) (k := 2) (u + 4) k18 rfl in_X5 (by decide) w_94 rfl dX5_copyFrom_24 rfl ?_
  refine x_iconst C (v := 0) dX5_copyFrom_27 (by decide) rfl ?_
  refine x_aload_n C dX5_copyFrom_28 rfl 0 rfl rfl ?_
  refine x_get C (ci := 4) (k := 2) (t + 4) k19 rfl in_X5 (by decide) w_94 rfl dX5_copyFrom_29 rfl ?_
  refine x_iconst C (v := 0) dX5_copyFrom_32 (by decide) rfl ?_
  refine x_bipush C (v := 8) dX5_copyFrom_33 (by decide) rfl ?_
  obtain ⟨_, k23, f24, rfl⟩ := hW17 (u + 6) _ (okX_t hu (j := 6) rfl)
  obtain ⟨_, k25, f26, rfl⟩ := hW17 (t + 6) _ (okX_t ht (j := 6) rfl)
  obtain ⟨w27, hw28⟩ : ∃ w : va_W, w = List.set w15 (t + 6) (iA E (a (t + 6)) 8 (va_cpy f24 f26 0 0 8)) := ⟨_, rfl⟩
  refine x_copy C (u + 6) (t + 6) k23 k25 w_803 w_798 w_797 w_20 (by decide) (by decide) (by decide) (by decide) (by decide) (Nat.le_of_ble_eq_true rfl) (Nat.le_of_ble_eq_true rfl) hw28.symm dX5_copyFrom_35 rfl ?_
  have hW29 : WX (okX E a) w27 := by rw [hw28]; exact hW17.set (k := (t + 6)) (okX_t ht (j := 6) rfl) ⟨_, rfl⟩
  have k30 : w27[u + 4]? = some (ob (a (u + 4)) 4 [.int v2, .ref (a (u + 5)), .ref (a (u + 6)), .ref (a (u + 7)), .ref (a (u + 8))]) := by rw [hw28]; exact set_ne k18 (by omega)
  have k31 : w27[t + 4]? = some (ob (a (t + 4)) 4 [.int v2, .ref (a (t + 5)), .ref (a (t + 6)), .ref (a (t + 7)), .ref (a (t + 8))]) := by rw [hw28]; exact set_ne k19 (by omega)
  have k32 : w27[u + 5]? = some (iA E (a (u + 5)) 8 f12) := by rw [hw28]; exact set_ne k20 (by omega)
  have k33 : w27[t + 5]? = some (iA E (a (t + 5)) 8 (va_cpy f12 f14 0 0 8)) := by rw [hw28]; exact set_ne k21 (by omega)
  have k34 : w27[u + 6]? = some (iA E (a (u + 6)) 8 f24) := by rw [hw28]; exact set_ne k23 (by omega)
  have k35 : w27[t + 6]? = some (iA E (a (t + 6)) 8 (va_cpy f24 f26 0 0 8)) := by rw [hw28]; exact set_eq k25
  have kp36 := keeps_set kp22 hw28 (by first | exact rfl | decide | omega | (dsimp only; omega))
  refine x_aload_n C dX5_copyFrom_38 rfl 1 rfl rfl ?_
  refine x_get C (ci := 4) (k := 3) (u + 4) k30 rfl in_X5 (by decide) w_97 rfl dX5_copyFrom_39 rfl ?_
  refine x_iconst C (v := 0) dX5_copyFrom_42 (by decide) rfl ?_
  refine x_aload_n C dX5_copyFrom_43 rfl 0 rfl rfl ?_
  refine x_get C (ci := 4) (k := 3) (t + 4) k31 rfl in_X5 (by decide) w_97 rfl dX5_copyFrom_44 rfl ?_
  refine x_iconst C (v := 0) dX5_copyFrom_47 (by decide) rfl ?_
  refine x_bipush C (v := 8) dX5_copyFrom_48 (by decide) rfl ?_
  obtain ⟨_, k37, f38, rfl⟩ := hW29 (u + 7) _ (okX_t hu (j := 7) rfl)
  obtain ⟨_, k39, f40, rfl⟩ := hW29 (t + 7) _ (okX_t ht (j := 7) rfl)
  obtain ⟨w41, hw42⟩ : ∃ w : va_W, w = List.set w27 (t + 7) (iA E (a (t + 7)) 8 (va_cpy f38 f40 0 0 8)) := ⟨_, rfl⟩
  refine x_copy C (u + 7) (t + 7) k37 k39 w_803 w_798 w_797 w_20 (by decide) (by decide) (by decide) (by decide) (by decide) (Nat.le_of_ble_eq_true rfl) (Nat.le_of_ble_eq_true rfl) hw42.symm dX5_copyFrom_50 rfl ?_
  have hW43 : WX (okX E a) w41 := by rw [hw42]; exact hW29.set (k := (t + 7)) (okX_t ht (j := 7) rfl) ⟨_, rfl⟩
  have k44 : w41[u + 4]? = some (ob (a (u + 4)) 4 [.int v2, .ref (a (u + 5)), .ref (a (u + 6)), .ref (a (u + 7)), .ref (a (u + 8))]) := by rw [hw42]; exact set_ne k30 (by omega)
  have k45 : w41[t + 4]? = some (ob (a (t + 4)) 4 [.int v2, .ref (a (t + 5)), .ref (a (t + 6)), .ref (a (t + 7)), .ref (a (t + 8))]) := by rw [hw42]; exact set_ne k31 (by omega)
  have k46 : w41[u + 5]? = some (iA E (a (u + 5)) 8 f12) := by rw [hw42]; exact set_ne k32 (by omega)
  have k47 : w41[t + 5]? = some (iA E (a (t + 5)) 8 (va_cpy f12 f14 0 0 8)) := by rw [hw42]; exact set_ne k33 (by omega)
  have k48 : w41[u + 6]? = some (iA E (a (u + 6)) 8 f24) := by rw [hw42]; exact set_ne k34 (by omega)
  have k49 : w41[t + 6]? = some (iA E (a (t + 6)) 8 (va_cpy f24 f26 0 0 8)) := by rw [hw42]; exact set_ne k35 (by omega)
  have k50 : w41[u + 7]? = some (iA E (a (u + 7)) 8 f38) := by rw [hw42]; exact set_ne k37 (by omega)
  have k51 : w41[t + 7]? = some (iA E (a (t + 7)) 8 (va_cpy f38 f40 0 0 8)) := by rw [hw42]; exact set_eq k39
  have kp52 := keeps_set kp36 hw42 (by first | exact rfl | decide | omega | (dsimp only; omega))
  refine x_aload_n C dX5_copyFrom_53 rfl 1 rfl rfl ?_
  refine x_get C (ci := 4) (k := 4) (u + 4) k44 rfl in_X5 (by decide) w_100 rfl dX5_copyFrom_54 rfl ?_
  refine x_iconst C (v := 0) dX5_copyFrom_57 (by decide) rfl ?_
  refine x_aload_n C dX5_copyFrom_58 rfl 0 rfl rfl ?_
  refine x_get C (ci := 4) (k := 4) (t + 4) k45 rfl in_X5 (by decide) w_100 rfl dX5_copyFrom_59 rfl ?_
  refine x_iconst C (v := 0) dX5_copyFrom_62 (by decide) rfl ?_
  refine x_bipush C (v := 8) dX5_copyFrom_63 (by decide) rfl ?_
  obtain ⟨_, k53, f54, rfl⟩ := hW43 (u + 8) _ (okX_t hu (j := 8) rfl)
  obtain ⟨_, k55, f56, rfl⟩ := hW43 (t + 8) _ (okX_t ht (j := 8) rfl)
  obtain ⟨w57, hw58⟩ : ∃ w : va_W, w = List.set w41 (t + 8) (iA E (a (t + 8)) 8 (va_cpy f54 f56 0 0 8)) := ⟨_, rfl⟩
  refine x_copy C (u + 8) (t + 8) k53 k55 w_803 w_798 w_797 w_20 (by decide) (by decide) (by decide) (by decide) (by decide) (Nat.le_of_ble_eq_true rfl) (Nat.le_of_ble_eq_true rfl) hw58.symm dX5_copyFrom_65 rfl ?_
  have hW59 : WX (okX E a) w57 := by rw [hw58]; exact hW43.set (k := (t + 8)) (okX_t ht (j := 8) rfl) ⟨_, rfl⟩
  have k60 : w57[u + 4]? = some (ob (a (u + 4)) 4 [.int v2, .ref (a (u + 5)), .ref (a (u + 6)), .ref (a (u + 7)), .ref (a (u + 8))]) := by rw [hw58]; exact set_ne k44 (by omega)
  have k61 : w57[t + 4]? = some (ob (a (t + 4)) 4 [.int v2, .ref (a (t + 5)), .ref (a (t + 6)), .ref (a (t + 7)), .ref (a (t + 8))]) := by rw [hw58]; exact set_ne k45 (by omega)
  have k62 : w57[u + 5]? = some (iA E (a (u + 5)) 8 f12) := by rw [hw58]; exact set_ne k46 (by omega)
  have k63 : w57[t + 5]? = some (iA E (a (t + 5)) 8 (va_cpy f12 f14 0 0 8)) := by rw [hw58]; exact set_ne k47 (by omega)
  have k64 : w57[u + 6]? = some (iA E (a (u + 6)) 8 f24) := by rw [hw58]; exact set_ne k48 (by omega)
  have k65 : w57[t + 6]? = some (iA E (a (t + 6)) 8 (va_cpy f24 f26 0 0 8)) := by rw [hw58]; exact set_ne k49 (by omega)
  have k66 : w57[u + 7]? = some (iA E (a (u + 7)) 8 f38) := by rw [hw58]; exact set_ne k50 (by omega)
  have k67 : w57[t + 7]? = some (iA E (a (t + 7)) 8 (va_cpy f38 f40 0 0 8)) := by rw [hw58]; exact set_ne k51 (by omega)
  have k68 : w57[u + 8]? = some (iA E (a (u + 8)) 8 f54) := by rw [hw58]; exact set_ne k53 (by omega)
  have k69 : w57[t + 8]? = some (iA E (a (t + 8)) 8 (va_cpy f54 f56 0 0 8)) := by rw [hw58]; exact set_eq k55
  have kp70 := keeps_set kp52 hw58 (by first | exact rfl | decide | omega | (dsimp only; omega))
  exact x_vret C hr hlk dX5_copyFrom_68 ⟨hW59, kp70⟩
theorem dX1_copyFrom_0 : decode cX1_copyFrom 0 = .ok (.aload_n 0, 1) := by decide +kernel
theorem dX1_copyFrom_1 : decode cX1_copyFrom 1 = .ok (.aload_n 1, 1) := by decide +kernel
theorem dX1_copyFrom_2 : decode cX1_copyFrom 2 = .ok (.getfield 9, 3) := by decide +kernel
theorem dX1_copyFrom_5 : decode cX1_copyFrom 5 = .ok (.putfield 9, 3) := by decide +kernel
theorem dX1_copyFrom_8 : decode cX1_copyFrom 8 = .ok (.aload_n 1, 1) := by decide +kernel
theorem dX1_copyFrom_9 : decode cX1_copyFrom 9 = .ok (.getfield 15, 3) := by decide +kernel
theorem dX1_copyFrom_12 : decode cX1_copyFrom 12 = .ok (.iconst 0, 1) := by decide +kernel
theorem dX1_copyFrom_13 : decode cX1_copyFrom 13 = .ok (.aload_n 0, 1) := by decide +kernel
theorem dX1_copyFrom_14 : decode cX1_copyFrom 14 = .ok (.getfield 15, 3) := by decide +kernel
theorem dX1_copyFrom_17 : decode cX1_copyFrom 17 = .ok (.iconst 0, 1) := by decide +kernel
theorem dX1_copyFrom_18 : decode cX1_copyFrom 18 = .ok (.bipush 48, 2) := by decide +kernel
theorem dX1_copyFrom_20 : decode cX1_copyFrom 20 = .ok (.invokestatic 45, 3) := by decide +kernel
theorem dX1_copyFrom_23 : decode cX1_copyFrom 23 = .ok (.aload_n 1, 1) := by decide +kernel
theorem dX1_copyFrom_24 : decode cX1_copyFrom 24 = .ok (.getfield 19, 3) := by decide +kernel
theorem dX1_copyFrom_27 : decode cX1_copyFrom 27 = .ok (.iconst 0, 1) := by decide +kernel
theorem dX1_copyFrom_28 : decode cX1_copyFrom 28 = .ok (.aload_n 0, 1) := by decide +kernel
theorem dX1_copyFrom_29 : decode cX1_copyFrom 29 = .ok (.getfield 19, 3) := by decide +kernel
theorem dX1_copyFrom_32 : decode cX1_copyFrom 32 = .ok (.iconst 0, 1) := by decide +kernel
theorem dX1_copyFrom_33 : decode cX1_copyFrom 33 = .ok (.bipush 48, 2) := by decide +kernel
theorem dX1_copyFrom_35 : decode cX1_copyFrom 35 = .ok (.invokestatic 45, 3) := by decide +kernel
theorem dX1_copyFrom_38 : decode cX1_copyFrom 38 = .ok (.aload_n 1, 1) := by decide +kernel
theorem dX1_copyFrom_39 : decode cX1_copyFrom 39 = .ok (.getfield 22, 3) := by decide +kernel
theorem dX1_copyFrom_42 : decode cX1_copyFrom 42 = .ok (.iconst 0, 1) := by decide +kernel
theorem dX1_copyFrom_43 : decode cX1_copyFrom 43 = .ok (.aload_n 0, 1) := by decide +kernel
theorem dX1_copyFrom_44 : decode cX1_copyFrom 44 = .ok (.getfield 22, 3) := by decide +kernel
theorem dX1_copyFrom_47 : decode cX1_copyFrom 47 = .ok (.iconst 0, 1) := by decide +kernel
theorem dX1_copyFrom_48 : decode cX1_copyFrom 48 = .ok (.bipush 48, 2) := by decide +kernel
theorem dX1_copyFrom_50 : decode cX1_copyFrom 50 = .ok (.invokestatic 45, 3) := by decide +kernel
theorem dX1_copyFrom_53 : decode cX1_copyFrom 53 = .ok (.aload_n 1, 1) := by decide +kernel
theorem dX1_copyFrom_54 : decode cX1_copyFrom 54 = .ok (.getfield 25, 3) := by decide +kernel
theorem dX1_copyFrom_57 : decode cX1_copyFrom 57 = .ok (.iconst 0, 1) := by decide +kernel
theorem dX1_copyFrom_58 : decode cX1_copyFrom 58 = .ok (.aload_n 0, 1) := by decide +kernel
theorem dX1_copyFrom_59 : decode cX1_copyFrom 59 = .ok (.getfield 25, 3) := by decide +kernel
theorem dX1_copyFrom_62 : decode cX1_copyFrom 62 = .ok (.iconst 0, 1) := by decide +kernel
theorem dX1_copyFrom_63 : decode cX1_copyFrom 63 = .ok (.bipush 48, 2) := by decide +kernel
theorem dX1_copyFrom_65 : decode cX1_copyFrom 65 = .ok (.invokestatic 45, 3) := by decide +kernel
theorem dX1_copyFrom_68 : decode cX1_copyFrom 68 = .ok (.aload_n 1, 1) := by decide +kernel
theorem dX1_copyFrom_69 : decode cX1_copyFrom 69 = .ok (.getfield 28, 3) := by decide +kernel
theorem dX1_copyFrom_72 : decode cX1_copyFrom 72 = .ok (.iconst 0, 1) := by decide +kernel
theorem dX1_copyFrom_73 : decode cX1_copyFrom 73 = .ok (.aload_n 0, 1) := by decide +kernel
theorem dX1_copyFrom_74 : decode cX1_copyFrom 74 = .ok (.getfield 28, 3) := by decide +kernel
theorem dX1_copyFrom_77 : decode cX1_copyFrom 77 = .ok (.iconst 0, 1) := by decide +kernel
theorem dX1_copyFrom_78 : decode cX1_copyFrom 78 = .ok (.bipush 48, 2) := by decide +kernel
theorem dX1_copyFrom_80 : decode cX1_copyFrom 80 = .ok (.invokestatic 45, 3) := by decide +kernel
theorem dX1_copyFrom_83 : decode cX1_copyFrom 83 = .ok (.aload_n 1, 1) := by decide +kernel
theorem dX1_copyFrom_84 : decode cX1_copyFrom 84 = .ok (.getfield 31, 3) := by decide +kernel
theorem dX1_copyFrom_87 : decode cX1_copyFrom 87 = .ok (.iconst 0, 1) := by decide +kernel
theorem dX1_copyFrom_88 : decode cX1_copyFrom 88 = .ok (.aload_n 0, 1) := by decide +kernel
theorem dX1_copyFrom_89 : decode cX1_copyFrom 89 = .ok (.getfield 31, 3) := by decide +kernel
theorem dX1_copyFrom_92 : decode cX1_copyFrom 92 = .ok (.iconst 0, 1) := by decide +kernel
theorem dX1_copyFrom_93 : decode cX1_copyFrom 93 = .ok (.bipush 48, 2) := by decide +kernel
theorem dX1_copyFrom_95 : decode cX1_copyFrom 95 = .ok (.invokestatic 45, 3) := by decide +kernel
theorem dX1_copyFrom_98 : decode cX1_copyFrom 98 = .ok (.return_, 1) := by decide +kernel
set_option maxRecDepth 20000 in
set_option maxHeartbeats 4000000 in
theorem c_Eggs_copy (E : xE) (l : Launch) (a : Nat → Nat) (ws : va_W) (hW : WX (okX E a) ws) (t : Nat) (ht : tb t) (u : Nat) (hu : tb u) (htu : t ≠ u) : xV E l yX1_copyFrom cX1_copyFrom 2 1 0 0 [.ref (a (t + 9)), .ref (a (u + 9))] ws (fun w => WX (okX E a) w ∧ keeps ws w (fun q => t + 9 ≤ q ∧ q < t + 16)) := by
  refine xV_start (lv := [(0, .ref (a (t + 9))), (1, .ref (a (u + 9)))]) RX1 (by decide) rfl (Nat.le_of_ble_eq_true rfl) rfl (fun p e s m below meth c A C hr hlk hin => ?_)
  have htb := tb_lo ht
  have hub := tb_lo hu
  have htu2 := tb_ne ht hu htu
  have kp0 : keeps ws ws (fun q => t + 9 ≤ q ∧ q < t + 16) := keeps_rf
  refine x_aload_n C dX1_copyFrom_0 rfl 0 rfl rfl ?_
  refine x_aload_n C dX1_copyFrom_1 rfl 1 rfl rfl ?_
  obtain ⟨_, k1, n2, bn3, rfl⟩ := hW (u + 9) _ (okX_t hu (j := 9) rfl)
  refine x_get C (ci := 1) (k := 0) (u + 9) k1 rfl in_X1 (by decide) w_120 rfl dX1_copyFrom_2 rfl ?_
  obtain ⟨_, k4, n5, bn6, rfl⟩ := hW (t + 9) _ (okX_t ht (j := 9) rfl)
  obtain ⟨w7, hw8⟩ : ∃ w : va_W, w = List.set ws (t + 9) (ob (a (t + 9)) 1 [.int (nI n2), .ref (a (t + 10)), .ref (a (t + 11)), .ref (a (t + 12)), .ref (a (t + 13)), .ref (a (t + 14)), .ref (a (t + 15))]) := ⟨_, rfl⟩
  refine x_put C (ci := 1) (k := 0) (ty := .int) (t + 9) k4 rfl in_X1 tyX1 tyX1_ok nmX1 (by decide) w_120 rfl rfl rfl rfl (Nat.le_of_ble_eq_true rfl) hw8.symm dX1_copyFrom_5 rfl ?_
  have hW9 : WX (okX E a) w7 := by rw [hw8]; exact hW.set (k := (t + 9)) (okX_t ht (j := 9) rfl) ⟨n2, by omega, rfl⟩
  have k10 : w7[u + 9]? = some (ob (a (u + 9)) 1 [.int (nI n2), .ref (a (u + 10)), .ref (a (u + 11)), .ref (a (u + 12)), .ref (a (u + 13)), .ref (a (u + 14)), .ref (a (u + 15))]) := by rw [hw8]; exact set_ne k1 (by omega)
  have k11 : w7[t + 9]? = some (ob (a (t + 9)) 1 [.int (nI n2), .ref (a (t + 10)), .ref (a (t + 11)), .ref (a (t + 12)), .ref (a (t + 13)), .ref (a (t + 14)), .ref (a (t + 15))]) := by rw [hw8]; exact set_eq k4
  have kp12 := keeps_set kp0 hw8 (by first | exact rfl | decide | omega | (dsimp only; omega))
  refine x_aload_n C dX1_copyFrom_8 rfl 1 rfl rfl ?_
  refine x_get C (ci := 1) (k := 1) (u + 9) k10 rfl in_X1 (by decide) w_123 rfl dX1_copyFrom_9 rfl ?_
  refine x_iconst C (v := 0) dX1_copyFrom_12 (by decide) rfl ?_
  refine x_aload_n C dX1_copyFrom_13 rfl 0 rfl rfl ?_
  refine x_get C (ci := 1) (k := 1) (t + 9) k11 rfl in_X1 (by decide) w_123 rfl dX1_copyFrom_14 rfl ?_
  refine x_iconst C (v := 0) dX1_copyFrom_17 (by decide) rfl ?_
  refine x_bipush C (v := 48) dX1_copyFrom_18 (by decide) rfl ?_
  obtain ⟨_, k13, f14, rfl⟩ := hW9 (u + 10) _ (okX_t hu (j := 10) rfl)
  obtain ⟨_, k15, f16, rfl⟩ := hW9 (t + 10) _ (okX_t ht (j := 10) rfl)
  obtain ⟨w17, hw18⟩ : ∃ w : va_W, w = List.set w7 (t + 10) (iA E (a (t + 10)) 48 (va_cpy f14 f16 0 0 48)) := ⟨_, rfl⟩
  refine x_copy C (u + 10) (t + 10) k13 k15 w_808 w_798 w_797 w_20 (by decide) (by decide) (by decide) (by decide) (by decide) (Nat.le_of_ble_eq_true rfl) (Nat.le_of_ble_eq_true rfl) hw18.symm dX1_copyFrom_20 rfl ?_
  have hW19 : WX (okX E a) w17 := by rw [hw18]; exact hW9.set (k := (t + 10)) (okX_t ht (j := 10) rfl) ⟨_, rfl⟩
  have k20 : w17[u + 9]? = some (ob (a (u + 9)) 1 [.int (nI n2), .ref (a (u + 10)), .ref (a (u + 11)), .ref (a (u + 12)), .ref (a (u + 13)), .ref (a (u + 14)), .ref (a (u + 15))]) := by rw [hw18]; exact set_ne k10 (by omega)
  have k21 : w17[t + 9]? = some (ob (a (t + 9)) 1 [.int (nI n2), .ref (a (t + 10)), .ref (a (t + 11)), .ref (a (t + 12)), .ref (a (t + 13)), .ref (a (t + 14)), .ref (a (t + 15))]) := by rw [hw18]; exact set_ne k11 (by omega)
  have k22 : w17[u + 10]? = some (iA E (a (u + 10)) 48 f14) := by rw [hw18]; exact set_ne k13 (by omega)
  have k23 : w17[t + 10]? = some (iA E (a (t + 10)) 48 (va_cpy f14 f16 0 0 48)) := by rw [hw18]; exact set_eq k15
  have kp24 := keeps_set kp12 hw18 (by first | exact rfl | decide | omega | (dsimp only; omega))
  refine x_aload_n C dX1_copyFrom_23 rfl 1 rfl rfl ?_
  refine x_get C (ci := 1) (k := 2) (u + 9) k20 rfl in_X1 (by decide) w_127 rfl dX1_copyFrom_24 rfl ?_
  refine x_iconst C (v := 0) dX1_copyFrom_27 (by decide) rfl ?_
  refine x_aload_n C dX1_copyFrom_28 rfl 0 rfl rfl ?_
  refine x_get C (ci := 1) (k := 2) (t + 9) k21 rfl in_X1 (by decide) w_127 rfl dX1_copyFrom_29 rfl ?_
  refine x_iconst C (v := 0) dX1_copyFrom_32 (by decide) rfl ?_
  refine x_bipush C (v := 48) dX1_copyFrom_33 (by decide) rfl ?_
  obtain ⟨_, k25, g26, gb27, rfl⟩ := hW19 (u + 11) _ (okX_t hu (j := 11) rfl)
  obtain ⟨_, k28, g29, gb30, rfl⟩ := hW19 (t + 11) _ (okX_t ht (j := 11) rfl)
  have gb31 := cpn_le (n := 48) gb27 gb30
  obtain ⟨w32, hw33⟩ : ∃ w : va_W, w = List.set w17 (t + 11) (iA E (a (t + 11)) 48 (va_cpy (fun j => nI (g26 j)) (fun j => nI (g29 j)) 0 0 48)) := ⟨_, rfl⟩
  refine x_copy C (u + 11) (t + 11) k25 k28 w_808 w_798 w_797 w_20 (by decide) (by decide) (by decide) (by decide) (by decide) (Nat.le_of_ble_eq_true rfl) (Nat.le_of_ble_eq_true rfl) hw33.symm dX1_copyFrom_35 rfl ?_
  have hW34 : WX (okX E a) w32 := by rw [hw33]; exact hW19.set (k := (t + 11)) (okX_t ht (j := 11) rfl) ⟨_, gb31, iA_n (cpy_nI g26 g29 48)⟩
  have k35 : w32[u + 9]? = some (ob (a (u + 9)) 1 [.int (nI n2), .ref (a (u + 10)), .ref (a (u + 11)), .ref (a (u + 12)), .ref (a (u + 13)), .ref (a (u + 14)), .ref (a (u + 15))]) := by rw [hw33]; exact set_ne k20 (by omega)
  have k36 : w32[t + 9]? = some (ob (a (t + 9)) 1 [.int (nI n2), .ref (a (t + 10)), .ref (a (t + 11)), .ref (a (t + 12)), .ref (a (t + 13)), .ref (a (t + 14)), .ref (a (t + 15))]) := by rw [hw33]; exact set_ne k21 (by omega)
  have k37 : w32[u + 10]? = some (iA E (a (u + 10)) 48 f14) := by rw [hw33]; exact set_ne k22 (by omega)
  have k38 : w32[t + 10]? = some (iA E (a (t + 10)) 48 (va_cpy f14 f16 0 0 48)) := by rw [hw33]; exact set_ne k23 (by omega)
  have k39 : w32[u + 11]? = some (iA E (a (u + 11)) 48 (fun j => nI (g26 j))) := by rw [hw33]; exact set_ne k25 (by omega)
  have k40 : w32[t + 11]? = some (iA E (a (t + 11)) 48 (va_cpy (fun j => nI (g26 j)) (fun j => nI (g29 j)) 0 0 48)) := by rw [hw33]; exact set_eq k28
  have kp41 := keeps_set kp24 hw33 (by first | exact rfl | decide | omega | (dsimp only; omega))
  have k42 : w32[t + 11]? = some (iA E (a (t + 11)) 48 (fun j => nI ((cpn g26 g29 48) j))) := by rw [← cpy_nI]; exact k40
  refine x_aload_n C dX1_copyFrom_38 rfl 1 rfl rfl ?_
  refine x_get C (ci := 1) (k := 3) (u + 9) k35 rfl in_X1 (by decide) w_131 rfl dX1_copyFrom_39 rfl ?_
  refine x_iconst C (v := 0) dX1_copyFrom_42 (by decide) rfl ?_
  refine x_aload_n C dX1_copyFrom_43 rfl 0 rfl rfl ?_
  refine x_get C (ci := 1) (k := 3) (t + 9) k36 rfl in_X1 (by decide) w_131 rfl dX1_copyFrom_44 rfl ?_
  refine x_iconst C (v := 0) dX1_copyFrom_47 (by decide) rfl ?_
  refine x_bipush C (v := 48) dX1_copyFrom_48 (by decide) rfl ?_
  obtain ⟨_, k43, f44, rfl⟩ := hW34 (u + 12) _ (okX_t hu (j := 12) rfl)
  obtain ⟨_, k45, f46, rfl⟩ := hW34 (t + 12) _ (okX_t ht (j := 12) rfl)
  obtain ⟨w47, hw48⟩ : ∃ w : va_W, w = List.set w32 (t + 12) (iA E (a (t + 12)) 48 (va_cpy f44 f46 0 0 48)) := ⟨_, rfl⟩
  refine x_copy C (u + 12) (t + 12) k43 k45 w_808 w_798 w_797 w_20 (by decide) (by decide) (by decide) (by decide) (by decide) (Nat.le_of_ble_eq_true rfl) (Nat.le_of_ble_eq_true rfl) hw48.symm dX1_copyFrom_50 rfl ?_
  have hW49 : WX (okX E a) w47 := by rw [hw48]; exact hW34.set (k := (t + 12)) (okX_t ht (j := 12) rfl) ⟨_, rfl⟩
  have k50 : w47[u + 9]? = some (ob (a (u + 9)) 1 [.int (nI n2), .ref (a (u + 10)), .ref (a (u + 11)), .ref (a (u + 12)), .ref (a (u + 13)), .ref (a (u + 14)), .ref (a (u + 15))]) := by rw [hw48]; exact set_ne k35 (by omega)
  have k51 : w47[t + 9]? = some (ob (a (t + 9)) 1 [.int (nI n2), .ref (a (t + 10)), .ref (a (t + 11)), .ref (a (t + 12)), .ref (a (t + 13)), .ref (a (t + 14)), .ref (a (t + 15))]) := by rw [hw48]; exact set_ne k36 (by omega)
  have k52 : w47[u + 10]? = some (iA E (a (u + 10)) 48 f14) := by rw [hw48]; exact set_ne k37 (by omega)
  have k53 : w47[t + 10]? = some (iA E (a (t + 10)) 48 (va_cpy f14 f16 0 0 48)) := by rw [hw48]; exact set_ne k38 (by omega)
  have k54 : w47[u + 11]? = some (iA E (a (u + 11)) 48 (fun j => nI (g26 j))) := by rw [hw48]; exact set_ne k39 (by omega)
  have k55 : w47[t + 11]? = some (iA E (a (t + 11)) 48 (fun j => nI ((cpn g26 g29 48) j))) := by rw [hw48]; exact set_ne k42 (by omega)
  have k56 : w47[u + 12]? = some (iA E (a (u + 12)) 48 f44) := by rw [hw48]; exact set_ne k43 (by omega)
  have k57 : w47[t + 12]? = some (iA E (a (t + 12)) 48 (va_cpy f44 f46 0 0 48)) := by rw [hw48]; exact set_eq k45
  have kp58 := keeps_set kp41 hw48 (by first | exact rfl | decide | omega | (dsimp only; omega))
  refine x_aload_n C dX1_copyFrom_53 rfl 1 rfl rfl ?_
  refine x_get C (ci := 1) (k := 4) (u + 9) k50 rfl in_X1 (by decide) w_134 rfl dX1_copyFrom_54 rfl ?_
  refine x_iconst C (v := 0) dX1_copyFrom_57 (by decide) rfl ?_
  refine x_aload_n C dX1_copyFrom_58 rfl 0 rfl rfl ?_
  refine x_get C (ci := 1) (k := 4) (t + 9) k51 rfl in_X1 (by decide) w_134 rfl dX1_copyFrom_59 rfl ?_
  refine x_iconst C (v := 0) dX1_copyFrom_62 (by decide) rfl ?_
  refine x_bipush C (v := 48) dX1_copyFrom_63 (by decide) rfl ?_
  obtain ⟨_, k59, g60, gb61, rfl⟩ := hW49 (u + 13) _ (okX_t hu (j := 13) rfl)
  obtain ⟨_, k62, g63, gb64, rfl⟩ := hW49 (t + 13) _ (okX_t ht (j := 13) rfl)
  have gb65 := cpn_le (n := 48) gb61 gb64
  obtain ⟨w66, hw67⟩ : ∃ w : va_W, w = List.set w47 (t + 13) (iA E (a (t + 13)) 48 (va_cpy (fun j => nI (g60 j)) (fun j => nI (g63 j)) 0 0 48)) := ⟨_, rfl⟩
  refine x_copy C (u + 13) (t + 13) k59 k62 w_808 w_798 w_797 w_20 (by decide) (by decide) (by decide) (by decide) (by decide) (Nat.le_of_ble_eq_true rfl) (Nat.le_of_ble_eq_true rfl) hw67.symm dX1_copyFrom_65 rfl ?_
  have hW68 : WX (okX E a) w66 := by rw [hw67]; exact hW49.set (k := (t + 13)) (okX_t ht (j := 13) rfl) ⟨_, gb65, iA_n (cpy_nI g60 g63 48)⟩
  have k69 : w66[u + 9]? = some (ob (a (u + 9)) 1 [.int (nI n2), .ref (a (u + 10)), .ref (a (u + 11)), .ref (a (u + 12)), .ref (a (u + 13)), .ref (a (u + 14)), .ref (a (u + 15))]) := by rw [hw67]; exact set_ne k50 (by omega)
  have k70 : w66[t + 9]? = some (ob (a (t + 9)) 1 [.int (nI n2), .ref (a (t + 10)), .ref (a (t + 11)), .ref (a (t + 12)), .ref (a (t + 13)), .ref (a (t + 14)), .ref (a (t + 15))]) := by rw [hw67]; exact set_ne k51 (by omega)
  have k71 : w66[u + 10]? = some (iA E (a (u + 10)) 48 f14) := by rw [hw67]; exact set_ne k52 (by omega)
  have k72 : w66[t + 10]? = some (iA E (a (t + 10)) 48 (va_cpy f14 f16 0 0 48)) := by rw [hw67]; exact set_ne k53 (by omega)
  have k73 : w66[u + 11]? = some (iA E (a (u + 11)) 48 (fun j => nI (g26 j))) := by rw [hw67]; exact set_ne k54 (by omega)
  have k74 : w66[t + 11]? = some (iA E (a (t + 11)) 48 (fun j => nI ((cpn g26 g29 48) j))) := by rw [hw67]; exact set_ne k55 (by omega)
  have k75 : w66[u + 12]? = some (iA E (a (u + 12)) 48 f44) := by rw [hw67]; exact set_ne k56 (by omega)
  have k76 : w66[t + 12]? = some (iA E (a (t + 12)) 48 (va_cpy f44 f46 0 0 48)) := by rw [hw67]; exact set_ne k57 (by omega)
  have k77 : w66[u + 13]? = some (iA E (a (u + 13)) 48 (fun j => nI (g60 j))) := by rw [hw67]; exact set_ne k59 (by omega)
  have k78 : w66[t + 13]? = some (iA E (a (t + 13)) 48 (va_cpy (fun j => nI (g60 j)) (fun j => nI (g63 j)) 0 0 48)) := by rw [hw67]; exact set_eq k62
  have kp79 := keeps_set kp58 hw67 (by first | exact rfl | decide | omega | (dsimp only; omega))
  have k80 : w66[t + 13]? = some (iA E (a (t + 13)) 48 (fun j => nI ((cpn g60 g63 48) j))) := by rw [← cpy_nI]; exact k78
  refine x_aload_n C dX1_copyFrom_68 rfl 1 rfl rfl ?_
  refine x_get C (ci := 1) (k := 5) (u + 9) k69 rfl in_X1 (by decide) w_139 rfl dX1_copyFrom_69 rfl ?_
  refine x_iconst C (v := 0) dX1_copyFrom_72 (by decide) rfl ?_
  refine x_aload_n C dX1_copyFrom_73 rfl 0 rfl rfl ?_
  refine x_get C (ci := 1) (k := 5) (t + 9) k70 rfl in_X1 (by decide) w_139 rfl dX1_copyFrom_74 rfl ?_
  refine x_iconst C (v := 0) dX1_copyFrom_77 (by decide) rfl ?_
  refine x_bipush C (v := 48) dX1_copyFrom_78 (by decide) rfl ?_
  obtain ⟨_, k81, f82, rfl⟩ := hW68 (u + 14) _ (okX_t hu (j := 14) rfl)
  obtain ⟨_, k83, f84, rfl⟩ := hW68 (t + 14) _ (okX_t ht (j := 14) rfl)
  obtain ⟨w85, hw86⟩ : ∃ w : va_W, w = List.set w66 (t + 14) (iA E (a (t + 14)) 48 (va_cpy f82 f84 0 0 48)) := ⟨_, rfl⟩
  refine x_copy C (u + 14) (t + 14) k81 k83 w_808 w_798 w_797 w_20 (by decide) (by decide) (by decide) (by decide) (by decide) (Nat.le_of_ble_eq_true rfl) (Nat.le_of_ble_eq_true rfl) hw86.symm dX1_copyFrom_80 rfl ?_
  have hW87 : WX (okX E a) w85 := by rw [hw86]; exact hW68.set (k := (t + 14)) (okX_t ht (j := 14) rfl) ⟨_, rfl⟩
  have k88 : w85[u + 9]? = some (ob (a (u + 9)) 1 [.int (nI n2), .ref (a (u + 10)), .ref (a (u + 11)), .ref (a (u + 12)), .ref (a (u + 13)), .ref (a (u + 14)), .ref (a (u + 15))]) := by rw [hw86]; exact set_ne k69 (by omega)
  have k89 : w85[t + 9]? = some (ob (a (t + 9)) 1 [.int (nI n2), .ref (a (t + 10)), .ref (a (t + 11)), .ref (a (t + 12)), .ref (a (t + 13)), .ref (a (t + 14)), .ref (a (t + 15))]) := by rw [hw86]; exact set_ne k70 (by omega)
  have k90 : w85[u + 10]? = some (iA E (a (u + 10)) 48 f14) := by rw [hw86]; exact set_ne k71 (by omega)
  have k91 : w85[t + 10]? = some (iA E (a (t + 10)) 48 (va_cpy f14 f16 0 0 48)) := by rw [hw86]; exact set_ne k72 (by omega)
  have k92 : w85[u + 11]? = some (iA E (a (u + 11)) 48 (fun j => nI (g26 j))) := by rw [hw86]; exact set_ne k73 (by omega)
  have k93 : w85[t + 11]? = some (iA E (a (t + 11)) 48 (fun j => nI ((cpn g26 g29 48) j))) := by rw [hw86]; exact set_ne k74 (by omega)
  have k94 : w85[u + 12]? = some (iA E (a (u + 12)) 48 f44) := by rw [hw86]; exact set_ne k75 (by omega)
  have k95 : w85[t + 12]? = some (iA E (a (t + 12)) 48 (va_cpy f44 f46 0 0 48)) := by rw [hw86]; exact set_ne k76 (by omega)
  have k96 : w85[u + 13]? = some (iA E (a (u + 13)) 48 (fun j => nI (g60 j))) := by rw [hw86]; exact set_ne k77 (by omega)
  have k97 : w85[t + 13]? = some (iA E (a (t + 13)) 48 (fun j => nI ((cpn g60 g63 48) j))) := by rw [hw86]; exact set_ne k80 (by omega)
  have k98 : w85[u + 14]? = some (iA E (a (u + 14)) 48 f82) := by rw [hw86]; exact set_ne k81 (by omega)
  have k99 : w85[t + 14]? = some (iA E (a (t + 14)) 48 (va_cpy f82 f84 0 0 48)) := by rw [hw86]; exact set_eq k83
  have kp100 := keeps_set kp79 hw86 (by first | exact rfl | decide | omega | (dsimp only; omega))
  refine x_aload_n C dX1_copyFrom_83 rfl 1 rfl rfl ?_
  refine x_get C (ci := 1) (k := 6) (u + 9) k88 rfl in_X1 (by decide) w_144 rfl dX1_copyFrom_84 rfl ?_
  refine x_iconst C (v := 0) dX1_copyFrom_87 (by decide) rfl ?_
  refine x_aload_n C dX1_copyFrom_88 rfl 0 rfl rfl ?_
  refine x_get C (ci := 1) (k := 6) (t + 9) k89 rfl in_X1 (by decide) w_144 rfl dX1_copyFrom_89 rfl ?_
  refine x_iconst C (v := 0) dX1_copyFrom_92 (by decide) rfl ?_
  refine x_bipush C (v := 48) dX1_copyFrom_93 (by decide) rfl ?_
  obtain ⟨_, k101, f102, rfl⟩ := hW87 (u + 15) _ (okX_t hu (j := 15) rfl)
  obtain ⟨_, k103, f104, rfl⟩ := hW87 (t + 15) _ (okX_t ht (j := 15) rfl)
  obtain ⟨w105, hw106⟩ : ∃ w : va_W, w = List.set w85 (t + 15) (iA E (a (t + 15)) 48 (va_cpy f102 f104 0 0 48)) := ⟨_, rfl⟩
  refine x_copy C (u + 15) (t + 15) k101 k103 w_808 w_798 w_797 w_20 (by decide) (by decide) (by decide) (by decide) (by decide) (Nat.le_of_ble_eq_true rfl) (Nat.le_of_ble_eq_true rfl) hw106.symm dX1_copyFrom_95 rfl ?_
  have hW107 : WX (okX E a) w105 := by rw [hw106]; exact hW87.set (k := (t + 15)) (okX_t ht (j := 15) rfl) ⟨_, rfl⟩
  have k108 : w105[u + 9]? = some (ob (a (u + 9)) 1 [.int (nI n2), .ref (a (u + 10)), .ref (a (u + 11)), .ref (a (u + 12)), .ref (a (u + 13)), .ref (a (u + 14)), .ref (a (u + 15))]) := by rw [hw106]; exact set_ne k88 (by omega)
  have k109 : w105[t + 9]? = some (ob (a (t + 9)) 1 [.int (nI n2), .ref (a (t + 10)), .ref (a (t + 11)), .ref (a (t + 12)), .ref (a (t + 13)), .ref (a (t + 14)), .ref (a (t + 15))]) := by rw [hw106]; exact set_ne k89 (by omega)
  have k110 : w105[u + 10]? = some (iA E (a (u + 10)) 48 f14) := by rw [hw106]; exact set_ne k90 (by omega)
  have k111 : w105[t + 10]? = some (iA E (a (t + 10)) 48 (va_cpy f14 f16 0 0 48)) := by rw [hw106]; exact set_ne k91 (by omega)
  have k112 : w105[u + 11]? = some (iA E (a (u + 11)) 48 (fun j => nI (g26 j))) := by rw [hw106]; exact set_ne k92 (by omega)
  have k113 : w105[t + 11]? = some (iA E (a (t + 11)) 48 (fun j => nI ((cpn g26 g29 48) j))) := by rw [hw106]; exact set_ne k93 (by omega)
  have k114 : w105[u + 12]? = some (iA E (a (u + 12)) 48 f44) := by rw [hw106]; exact set_ne k94 (by omega)
  have k115 : w105[t + 12]? = some (iA E (a (t + 12)) 48 (va_cpy f44 f46 0 0 48)) := by rw [hw106]; exact set_ne k95 (by omega)
  have k116 : w105[u + 13]? = some (iA E (a (u + 13)) 48 (fun j => nI (g60 j))) := by rw [hw106]; exact set_ne k96 (by omega)
  have k117 : w105[t + 13]? = some (iA E (a (t + 13)) 48 (fun j => nI ((cpn g60 g63 48) j))) := by rw [hw106]; exact set_ne k97 (by omega)
  have k118 : w105[u + 14]? = some (iA E (a (u + 14)) 48 f82) := by rw [hw106]; exact set_ne k98 (by omega)
  have k119 : w105[t + 14]? = some (iA E (a (t + 14)) 48 (va_cpy f82 f84 0 0 48)) := by rw [hw106]; exact set_ne k99 (by omega)
  have k120 : w105[u + 15]? = some (iA E (a (u + 15)) 48 f102) := by rw [hw106]; exact set_ne k101 (by omega)
  have k121 : w105[t + 15]? = some (iA E (a (t + 15)) 48 (va_cpy f102 f104 0 0 48)) := by rw [hw106]; exact set_eq k103
  have kp122 := keeps_set kp100 hw106 (by first | exact rfl | decide | omega | (dsimp only; omega))
  exact x_vret C hr hlk dX1_copyFrom_98 ⟨hW107, kp122⟩
theorem dX10_copyFrom_0 : decode cX10_copyFrom 0 = .ok (.aload_n 0, 1) := by decide +kernel
theorem dX10_copyFrom_1 : decode cX10_copyFrom 1 = .ok (.aload_n 1, 1) := by decide +kernel
theorem dX10_copyFrom_2 : decode cX10_copyFrom 2 = .ok (.getfield 9, 3) := by decide +kernel
theorem dX10_copyFrom_5 : decode cX10_copyFrom 5 = .ok (.putfield 9, 3) := by decide +kernel
theorem dX10_copyFrom_8 : decode cX10_copyFrom 8 = .ok (.aload_n 1, 1) := by decide +kernel
theorem dX10_copyFrom_9 : decode cX10_copyFrom 9 = .ok (.getfield 15, 3) := by decide +kernel
theorem dX10_copyFrom_12 : decode cX10_copyFrom 12 = .ok (.iconst 0, 1) := by decide +kernel
theorem dX10_copyFrom_13 : decode cX10_copyFrom 13 = .ok (.aload_n 0, 1) := by decide +kernel
theorem dX10_copyFrom_14 : decode cX10_copyFrom 14 = .ok (.getfield 15, 3) := by decide +kernel
theorem dX10_copyFrom_17 : decode cX10_copyFrom 17 = .ok (.iconst 0, 1) := by decide +kernel
theorem dX10_copyFrom_18 : decode cX10_copyFrom 18 = .ok (.bipush 8, 2) := by decide +kernel
theorem dX10_copyFrom_20 : decode cX10_copyFrom 20 = .ok (.invokestatic 48, 3) := by decide +kernel
theorem dX10_copyFrom_23 : decode cX10_copyFrom 23 = .ok (.aload_n 1, 1) := by decide +kernel
theorem dX10_copyFrom_24 : decode cX10_copyFrom 24 = .ok (.getfield 19, 3) := by decide +kernel
theorem dX10_copyFrom_27 : decode cX10_copyFrom 27 = .ok (.iconst 0, 1) := by decide +kernel
theorem dX10_copyFrom_28 : decode cX10_copyFrom 28 = .ok (.aload_n 0, 1) := by decide +kernel
theorem dX10_copyFrom_29 : decode cX10_copyFrom 29 = .ok (.getfield 19, 3) := by decide +kernel
theorem dX10_copyFrom_32 : decode cX10_copyFrom 32 = .ok (.iconst 0, 1) := by decide +kernel
theorem dX10_copyFrom_33 : decode cX10_copyFrom 33 = .ok (.bipush 8, 2) := by decide +kernel
theorem dX10_copyFrom_35 : decode cX10_copyFrom 35 = .ok (.invokestatic 48, 3) := by decide +kernel
theorem dX10_copyFrom_38 : decode cX10_copyFrom 38 = .ok (.aload_n 1, 1) := by decide +kernel
theorem dX10_copyFrom_39 : decode cX10_copyFrom 39 = .ok (.getfield 22, 3) := by decide +kernel
theorem dX10_copyFrom_42 : decode cX10_copyFrom 42 = .ok (.iconst 0, 1) := by decide +kernel
theorem dX10_copyFrom_43 : decode cX10_copyFrom 43 = .ok (.aload_n 0, 1) := by decide +kernel
theorem dX10_copyFrom_44 : decode cX10_copyFrom 44 = .ok (.getfield 22, 3) := by decide +kernel
theorem dX10_copyFrom_47 : decode cX10_copyFrom 47 = .ok (.iconst 0, 1) := by decide +kernel
theorem dX10_copyFrom_48 : decode cX10_copyFrom 48 = .ok (.bipush 8, 2) := by decide +kernel
theorem dX10_copyFrom_50 : decode cX10_copyFrom 50 = .ok (.invokestatic 48, 3) := by decide +kernel
theorem dX10_copyFrom_53 : decode cX10_copyFrom 53 = .ok (.aload_n 1, 1) := by decide +kernel
theorem dX10_copyFrom_54 : decode cX10_copyFrom 54 = .ok (.getfield 25, 3) := by decide +kernel
theorem dX10_copyFrom_57 : decode cX10_copyFrom 57 = .ok (.iconst 0, 1) := by decide +kernel
theorem dX10_copyFrom_58 : decode cX10_copyFrom 58 = .ok (.aload_n 0, 1) := by decide +kernel
theorem dX10_copyFrom_59 : decode cX10_copyFrom 59 = .ok (.getfield 25, 3) := by decide +kernel
theorem dX10_copyFrom_62 : decode cX10_copyFrom 62 = .ok (.iconst 0, 1) := by decide +kernel
theorem dX10_copyFrom_63 : decode cX10_copyFrom 63 = .ok (.bipush 8, 2) := by decide +kernel
theorem dX10_copyFrom_65 : decode cX10_copyFrom 65 = .ok (.invokestatic 48, 3) := by decide +kernel
theorem dX10_copyFrom_68 : decode cX10_copyFrom 68 = .ok (.aload_n 1, 1) := by decide +kernel
theorem dX10_copyFrom_69 : decode cX10_copyFrom 69 = .ok (.getfield 28, 3) := by decide +kernel
theorem dX10_copyFrom_72 : decode cX10_copyFrom 72 = .ok (.iconst 0, 1) := by decide +kernel
theorem dX10_copyFrom_73 : decode cX10_copyFrom 73 = .ok (.aload_n 0, 1) := by decide +kernel
theorem dX10_copyFrom_74 : decode cX10_copyFrom 74 = .ok (.getfield 28, 3) := by decide +kernel
theorem dX10_copyFrom_77 : decode cX10_copyFrom 77 = .ok (.iconst 0, 1) := by decide +kernel
theorem dX10_copyFrom_78 : decode cX10_copyFrom 78 = .ok (.bipush 8, 2) := by decide +kernel
theorem dX10_copyFrom_80 : decode cX10_copyFrom 80 = .ok (.invokestatic 48, 3) := by decide +kernel
theorem dX10_copyFrom_83 : decode cX10_copyFrom 83 = .ok (.return_, 1) := by decide +kernel
set_option maxRecDepth 20000 in
set_option maxHeartbeats 4000000 in
theorem c_Works_copy (E : xE) (l : Launch) (a : Nat → Nat) (ws : va_W) (hW : WX (okX E a) ws) (t : Nat) (ht : tb t) (u : Nat) (hu : tb u) (htu : t ≠ u) : xV E l yX10_copyFrom cX10_copyFrom 2 1 0 0 [.ref (a (t + 16)), .ref (a (u + 16))] ws (fun w => WX (okX E a) w ∧ keeps ws w (fun q => t + 16 ≤ q ∧ q < t + 22)) := by
  refine xV_start (lv := [(0, .ref (a (t + 16))), (1, .ref (a (u + 16)))]) RX10 (by decide) rfl (Nat.le_of_ble_eq_true rfl) rfl (fun p e s m below meth c A C hr hlk hin => ?_)
  have htb := tb_lo ht
  have hub := tb_lo hu
  have htu2 := tb_ne ht hu htu
  have kp0 : keeps ws ws (fun q => t + 16 ≤ q ∧ q < t + 22) := keeps_rf
  refine x_aload_n C dX10_copyFrom_0 rfl 0 rfl rfl ?_
  refine x_aload_n C dX10_copyFrom_1 rfl 1 rfl rfl ?_
  obtain ⟨_, k1, v2, rfl⟩ := hW (u + 16) _ (okX_t hu (j := 16) rfl)
  refine x_get C (ci := 9) (k := 0) (u + 16) k1 rfl in_X10 (by decide) w_168 rfl dX10_copyFrom_2 rfl ?_
  obtain ⟨_, k3, v4, rfl⟩ := hW (t + 16) _ (okX_t ht (j := 16) rfl)
  obtain ⟨w5, hw6⟩ : ∃ w : va_W, w = List.set ws (t + 16) (ob (a (t + 16)) 9 [.int v2, .ref (a (t + 17)), .ref (a (t + 18)), .ref (a (t + 19)), .ref (a (t + 20)), .ref (a (t + 21))]) := ⟨_, rfl⟩
  refine x_put C (ci := 9) (k := 0) (ty := .int) (t + 16) k3 rfl in_X10 tyX10 tyX10_ok nmX10 (by decide) w_168 rfl rfl rfl rfl (Nat.le_of_ble_eq_true rfl) hw6.symm dX10_copyFrom_5 rfl ?_
  have hW7 : WX (okX E a) w5 := by rw [hw6]; exact hW.set (k := (t + 16)) (okX_t ht (j := 16) rfl) ⟨v2, rfl⟩
  have k8 : w5[u + 16]? = some (ob (a (u + 16)) 9 [.int v2, .ref (a (u + 17)), .ref (a (u + 18)), .ref (a (u + 19)), .ref (a (u + 20)), .ref (a (u + 21))]) := by rw [hw6]; exact set_ne k1 (by omega)
  have k9 : w5[t + 16]? = some (ob (a (t + 16)) 9 [.int v2, .ref (a (t + 17)), .ref (a (t + 18)), .ref (a (t + 19)), .ref (a (t + 20)), .ref (a (t + 21))]) := by rw [hw6]; exact set_eq k3
  have kp10 := keeps_set kp0 hw6 (by first | exact rfl | decide | omega | (dsimp only; omega))
  refine x_aload_n C dX10_copyFrom_8 rfl 1 rfl rfl ?_
  refine x_get C (ci := 9) (k := 1) (u + 16) k8 rfl in_X10 (by decide) w_170 rfl dX10_copyFrom_9 rfl ?_
  refine x_iconst C (v := 0) dX10_copyFrom_12 (by decide) rfl ?_
  refine x_aload_n C dX10_copyFrom_13 rfl 0 rfl rfl ?_
  refine x_get C (ci := 9) (k := 1) (t + 16) k9 rfl in_X10 (by decide) w_170 rfl dX10_copyFrom_14 rfl ?_
  refine x_iconst C (v := 0) dX10_copyFrom_17 (by decide) rfl ?_
  refine x_bipush C (v := 8) dX10_copyFrom_18 (by decide) rfl ?_
  obtain ⟨_, k11, f12, rfl⟩ := hW7 (u + 17) _ (okX_t hu (j := 17) rfl)
  obtain ⟨_, k13, f14, rfl⟩ := hW7 (t + 17) _ (okX_t ht (j := 17) rfl)
  obtain ⟨w15, hw16⟩ : ∃ w : va_W, w = List.set w5 (t + 17) (iA E (a (t + 17)) 8 (va_cpy f12 f14 0 0 8)) := ⟨_, rfl⟩
  refine x_copy C (u + 17) (t + 17) k11 k13 w_813 w_798 w_797 w_20 (by decide) (by decide) (by decide) (by decide) (by decide) (Nat.le_of_ble_eq_true rfl) (Nat.le_of_ble_eq_true rfl) hw16.symm dX10_copyFrom_20 rfl ?_
  have hW17 : WX (okX E a) w15 := by rw [hw16]; exact hW7.set (k := (t + 17)) (okX_t ht (j := 17) rfl) ⟨_, rfl⟩
  have k18 : w15[u + 16]? = some (ob (a (u + 16)) 9 [.int v2, .ref (a (u + 17)), .ref (a (u + 18)), .ref (a (u + 19)), .ref (a (u + 20)), .ref (a (u + 21))]) := by rw [hw16]; exact set_ne k8 (by omega)
  have k19 : w15[t + 16]? = some (ob (a (t + 16)) 9 [.int v2, .ref (a (t + 17)), .ref (a (t + 18)), .ref (a (t + 19)), .ref (a (t + 20)), .ref (a (t + 21))]) := by rw [hw16]; exact set_ne k9 (by omega)
  have k20 : w15[u + 17]? = some (iA E (a (u + 17)) 8 f12) := by rw [hw16]; exact set_ne k11 (by omega)
  have k21 : w15[t + 17]? = some (iA E (a (t + 17)) 8 (va_cpy f12 f14 0 0 8)) := by rw [hw16]; exact set_eq k13
  have kp22 := keeps_set kp10 hw16 (by first | exact rfl | decide | omega | (dsimp only; omega))
  refine x_aload_n C dX10_copyFrom_23 rfl 1 rfl rfl ?_
  refine x_get C (ci := 9) (k := 2) (u + 16) k18 rfl in_X10 (by decide) w_173 rfl dX10_copyFrom_24 rfl ?_
  refine x_iconst C (v := 0) dX10_copyFrom_27 (by decide) rfl ?_
  refine x_aload_n C dX10_copyFrom_28 rfl 0 rfl rfl ?_
  refine x_get C (ci := 9) (k := 2) (t + 16) k19 rfl in_X10 (by decide) w_173 rfl dX10_copyFrom_29 rfl ?_
  refine x_iconst C (v := 0) dX10_copyFrom_32 (by decide) rfl ?_
  refine x_bipush C (v := 8) dX10_copyFrom_33 (by decide) rfl ?_
  obtain ⟨_, k23, f24, rfl⟩ := hW17 (u + 18) _ (okX_t hu (j := 18) rfl)
  obtain ⟨_, k25, f26, rfl⟩ := hW17 (t + 18) _ (okX_t ht (j := 18) rfl)
  obtain ⟨w27, hw28⟩ : ∃ w : va_W, w = List.set w15 (t + 18) (iA E (a (t + 18)) 8 (va_cpy f24 f26 0 0 8)) := ⟨_, rfl⟩
  refine x_copy C (u + 18) (t + 18) k23 k25 w_813 w_798 w_797 w_20 (by decide) (by decide) (by decide) (by decide) (by decide) (Nat.le_of_ble_eq_true rfl) (Nat.le_of_ble_eq_true rfl) hw28.symm dX10_copyFrom_35 rfl ?_
  have hW29 : WX (okX E a) w27 := by rw [hw28]; exact hW17.set (k := (t + 18)) (okX_t ht (j := 18) rfl) ⟨_, rfl⟩
  have k30 : w27[u + 16]? = some (ob (a (u + 16)) 9 [.int v2, .ref (a (u + 17)), .ref (a (u + 18)), .ref (a (u + 19)), .ref (a (u + 20)), .ref (a (u + 21))]) := by rw [hw28]; exact set_ne k18 (by omega)
  have k31 : w27[t + 16]? = some (ob (a (t + 16)) 9 [.int v2, .ref (a (t + 17)), .ref (a (t + 18)), .ref (a (t + 19)), .ref (a (t + 20)), .ref (a (t + 21))]) := by rw [hw28]; exact set_ne k19 (by omega)
  have k32 : w27[u + 17]? = some (iA E (a (u + 17)) 8 f12) := by rw [hw28]; exact set_ne k20 (by omega)
  have k33 : w27[t + 17]? = some (iA E (a (t + 17)) 8 (va_cpy f12 f14 0 0 8)) := by rw [hw28]; exact set_ne k21 (by omega)
  have k34 : w27[u + 18]? = some (iA E (a (u + 18)) 8 f24) := by rw [hw28]; exact set_ne k23 (by omega)
  have k35 : w27[t + 18]? = some (iA E (a (t + 18)) 8 (va_cpy f24 f26 0 0 8)) := by rw [hw28]; exact set_eq k25
  have kp36 := keeps_set kp22 hw28 (by first | exact rfl | decide | omega | (dsimp only; omega))
  refine x_aload_n C dX10_copyFrom_38 rfl 1 rfl rfl ?_
  refine x_get C (ci := 9) (k := 3) (u + 16) k30 rfl in_X10 (by decide) w_176 rfl dX10_copyFrom_39 rfl ?_
  refine x_iconst C (v := 0) dX10_copyFrom_42 (by decide) rfl ?_
  refine x_aload_n C dX10_copyFrom_43 rfl 0 rfl rfl ?_
  refine x_get C (ci := 9) (k := 3) (t + 16) k31 rfl in_X10 (by decide) w_176 rfl dX10_copyFrom_44 rfl ?_
  refine x_iconst C (v := 0) dX10_copyFrom_47 (by decide) rfl ?_
  refine x_bipush C (v := 8) dX10_copyFrom_48 (by decide) rfl ?_
  obtain ⟨_, k37, f38, rfl⟩ := hW29 (u + 19) _ (okX_t hu (j := 19) rfl)
  obtain ⟨_, k39, f40, rfl⟩ := hW29 (t + 19) _ (okX_t ht (j := 19) rfl)
  obtain ⟨w41, hw42⟩ : ∃ w : va_W, w = List.set w27 (t + 19) (iA E (a (t + 19)) 8 (va_cpy f38 f40 0 0 8)) := ⟨_, rfl⟩
  refine x_copy C (u + 19) (t + 19) k37 k39 w_813 w_798 w_797 w_20 (by decide) (by decide) (by decide) (by decide) (by decide) (Nat.le_of_ble_eq_true rfl) (Nat.le_of_ble_eq_true rfl) hw42.symm dX10_copyFrom_50 rfl ?_
  have hW43 : WX (okX E a) w41 := by rw [hw42]; exact hW29.set (k := (t + 19)) (okX_t ht (j := 19) rfl) ⟨_, rfl⟩
  have k44 : w41[u + 16]? = some (ob (a (u + 16)) 9 [.int v2, .ref (a (u + 17)), .ref (a (u + 18)), .ref (a (u + 19)), .ref (a (u + 20)), .ref (a (u + 21))]) := by rw [hw42]; exact set_ne k30 (by omega)
  have k45 : w41[t + 16]? = some (ob (a (t + 16)) 9 [.int v2, .ref (a (t + 17)), .ref (a (t + 18)), .ref (a (t + 19)), .ref (a (t + 20)), .ref (a (t + 21))]) := by rw [hw42]; exact set_ne k31 (by omega)
  have k46 : w41[u + 17]? = some (iA E (a (u + 17)) 8 f12) := by rw [hw42]; exact set_ne k32 (by omega)
  have k47 : w41[t + 17]? = some (iA E (a (t + 17)) 8 (va_cpy f12 f14 0 0 8)) := by rw [hw42]; exact set_ne k33 (by omega)
  have k48 : w41[u + 18]? = some (iA E (a (u + 18)) 8 f24) := by rw [hw42]; exact set_ne k34 (by omega)
  have k49 : w41[t + 18]? = some (iA E (a (t + 18)) 8 (va_cpy f24 f26 0 0 8)) := by rw [hw42]; exact set_ne k35 (by omega)
  have k50 : w41[u + 19]? = some (iA E (a (u + 19)) 8 f38) := by rw [hw42]; exact set_ne k37 (by omega)
  have k51 : w41[t + 19]? = some (iA E (a (t + 19)) 8 (va_cpy f38 f40 0 0 8)) := by rw [hw42]; exact set_eq k39
  have kp52 := keeps_set kp36 hw42 (by first | exact rfl | decide | omega | (dsimp only; omega))
  refine x_aload_n C dX10_copyFrom_53 rfl 1 rfl rfl ?_
  refine x_get C (ci := 9) (k := 4) (u + 16) k44 rfl in_X10 (by decide) w_179 rfl dX10_copyFrom_54 rfl ?_
  refine x_iconst C (v := 0) dX10_copyFrom_57 (by decide) rfl ?_
  refine x_aload_n C dX10_copyFrom_58 rfl 0 rfl rfl ?_
  refine x_get C (ci := 9) (k := 4) (t + 16) k45 rfl in_X10 (by decide) w_179 rfl dX10_copyFrom_59 rfl ?_
  refine x_iconst C (v := 0) dX10_copyFrom_62 (by decide) rfl ?_
  refine x_bipush C (v := 8) dX10_copyFrom_63 (by decide) rfl ?_
  obtain ⟨_, k53, f54, rfl⟩ := hW43 (u + 20) _ (okX_t hu (j := 20) rfl)
  obtain ⟨_, k55, f56, rfl⟩ := hW43 (t + 20) _ (okX_t ht (j := 20) rfl)
  obtain ⟨w57, hw58⟩ : ∃ w : va_W, w = List.set w41 (t + 20) (iA E (a (t + 20)) 8 (va_cpy f54 f56 0 0 8)) := ⟨_, rfl⟩
  refine x_copy C (u + 20) (t + 20) k53 k55 w_813 w_798 w_797 w_20 (by decide) (by decide) (by decide) (by decide) (by decide) (Nat.le_of_ble_eq_true rfl) (Nat.le_of_ble_eq_true rfl) hw58.symm dX10_copyFrom_65 rfl ?_
  have hW59 : WX (okX E a) w57 := by rw [hw58]; exact hW43.set (k := (t + 20)) (okX_t ht (j := 20) rfl) ⟨_, rfl⟩
  have k60 : w57[u + 16]? = some (ob (a (u + 16)) 9 [.int v2, .ref (a (u + 17)), .ref (a (u + 18)), .ref (a (u + 19)), .ref (a (u + 20)), .ref (a (u + 21))]) := by rw [hw58]; exact set_ne k44 (by omega)
  have k61 : w57[t + 16]? = some (ob (a (t + 16)) 9 [.int v2, .ref (a (t + 17)), .ref (a (t + 18)), .ref (a (t + 19)), .ref (a (t + 20)), .ref (a (t + 21))]) := by rw [hw58]; exact set_ne k45 (by omega)
  have k62 : w57[u + 17]? = some (iA E (a (u + 17)) 8 f12) := by rw [hw58]; exact set_ne k46 (by omega)
  have k63 : w57[t + 17]? = some (iA E (a (t + 17)) 8 (va_cpy f12 f14 0 0 8)) := by rw [hw58]; exact set_ne k47 (by omega)
  have k64 : w57[u + 18]? = some (iA E (a (u + 18)) 8 f24) := by rw [hw58]; exact set_ne k48 (by omega)
  have k65 : w57[t + 18]? = some (iA E (a (t + 18)) 8 (va_cpy f24 f26 0 0 8)) := by rw [hw58]; exact set_ne k49 (by omega)
  have k66 : w57[u + 19]? = some (iA E (a (u + 19)) 8 f38) := by rw [hw58]; exact set_ne k50 (by omega)
  have k67 : w57[t + 19]? = some (iA E (a (t + 19)) 8 (va_cpy f38 f40 0 0 8)) := by rw [hw58]; exact set_ne k51 (by omega)
  have k68 : w57[u + 20]? = some (iA E (a (u + 20)) 8 f54) := by rw [hw58]; exact set_ne k53 (by omega)
  have k69 : w57[t + 20]? = some (iA E (a (t + 20)) 8 (va_cpy f54 f56 0 0 8)) := by rw [hw58]; exact set_eq k55
  have kp70 := keeps_set kp52 hw58 (by first | exact rfl | decide | omega | (dsimp only; omega))
  refine x_aload_n C dX10_copyFrom_68 rfl 1 rfl rfl ?_
  refine x_get C (ci := 9) (k := 5) (u + 16) k60 rfl in_X10 (by decide) w_181 rfl dX10_copyFrom_69 rfl ?_
  refine x_iconst C (v := 0) dX10_copyFrom_72 (by decide) rfl ?_
  refine x_aload_n C dX10_copyFrom_73 rfl 0 rfl rfl ?_
  refine x_get C (ci := 9) (k := 5) (t + 16) k61 rfl in_X10 (by decide) w_181 rfl dX10_copyFrom_74 rfl ?_
  refine x_iconst C (v := 0) dX10_copyFrom_77 (by decide) rfl ?_
  refine x_bipush C (v := 8) dX10_copyFrom_78 (by decide) rfl ?_
  obtain ⟨_, k71, f72, rfl⟩ := hW59 (u + 21) _ (okX_t hu (j := 21) rfl)
  obtain ⟨_, k73, f74, rfl⟩ := hW59 (t + 21) _ (okX_t ht (j := 21) rfl)
  obtain ⟨w75, hw76⟩ : ∃ w : va_W, w = List.set w57 (t + 21) (iA E (a (t + 21)) 8 (va_cpy f72 f74 0 0 8)) := ⟨_, rfl⟩
  refine x_copy C (u + 21) (t + 21) k71 k73 w_813 w_798 w_797 w_20 (by decide) (by decide) (by decide) (by decide) (by decide) (Nat.le_of_ble_eq_true rfl) (Nat.le_of_ble_eq_true rfl) hw76.symm dX10_copyFrom_80 rfl ?_
  have hW77 : WX (okX E a) w75 := by rw [hw76]; exact hW59.set (k := (t + 21)) (okX_t ht (j := 21) rfl) ⟨_, rfl⟩
  have k78 : w75[u + 16]? = some (ob (a (u + 16)) 9 [.int v2, .ref (a (u + 17)), .ref (a (u + 18)), .ref (a (u + 19)), .ref (a (u + 20)), .ref (a (u + 21))]) := by rw [hw76]; exact set_ne k60 (by omega)
  have k79 : w75[t + 16]? = some (ob (a (t + 16)) 9 [.int v2, .ref (a (t + 17)), .ref (a (t + 18)), .ref (a (t + 19)), .ref (a (t + 20)), .ref (a (t + 21))]) := by rw [hw76]; exact set_ne k61 (by omega)
  have k80 : w75[u + 17]? = some (iA E (a (u + 17)) 8 f12) := by rw [hw76]; exact set_ne k62 (by omega)
  have k81 : w75[t + 17]? = some (iA E (a (t + 17)) 8 (va_cpy f12 f14 0 0 8)) := by rw [hw76]; exact set_ne k63 (by omega)
  have k82 : w75[u + 18]? = some (iA E (a (u + 18)) 8 f24) := by rw [hw76]; exact set_ne k64 (by omega)
  have k83 : w75[t + 18]? = some (iA E (a (t + 18)) 8 (va_cpy f24 f26 0 0 8)) := by rw [hw76]; exact set_ne k65 (by omega)
  have k84 : w75[u + 19]? = some (iA E (a (u + 19)) 8 f38) := by rw [hw76]; exact set_ne k66 (by omega)
  have k85 : w75[t + 19]? = some (iA E (a (t + 19)) 8 (va_cpy f38 f40 0 0 8)) := by rw [hw76]; exact set_ne k67 (by omega)
  have k86 : w75[u + 20]? = some (iA E (a (u + 20)) 8 f54) := by rw [hw76]; exact set_ne k68 (by omega)
  have k87 : w75[t + 20]? = some (iA E (a (t + 20)) 8 (va_cpy f54 f56 0 0 8)) := by rw [hw76]; exact set_ne k69 (by omega)
  have k88 : w75[u + 21]? = some (iA E (a (u + 21)) 8 f72) := by rw [hw76]; exact set_ne k71 (by omega)
  have k89 : w75[t + 21]? = some (iA E (a (t + 21)) 8 (va_cpy f72 f74 0 0 8)) := by rw [hw76]; exact set_eq k73
  have kp90 := keeps_set kp70 hw76 (by first | exact rfl | decide | omega | (dsimp only; omega))
  exact x_vret C hr hlk dX10_copyFrom_83 ⟨hW77, kp90⟩
theorem dX9_copyFrom_0 : decode cX9_copyFrom 0 = .ok (.aload_n 0, 1) := by decide +kernel
theorem dX9_copyFrom_1 : decode cX9_copyFrom 1 = .ok (.aload_n 1, 1) := by decide +kernel
theorem dX9_copyFrom_2 : decode cX9_copyFrom 2 = .ok (.getfield 9, 3) := by decide +kernel
theorem dX9_copyFrom_5 : decode cX9_copyFrom 5 = .ok (.putfield 9, 3) := by decide +kernel
theorem dX9_copyFrom_8 : decode cX9_copyFrom 8 = .ok (.aload_n 0, 1) := by decide +kernel
theorem dX9_copyFrom_9 : decode cX9_copyFrom 9 = .ok (.aload_n 1, 1) := by decide +kernel
theorem dX9_copyFrom_10 : decode cX9_copyFrom 10 = .ok (.getfield 15, 3) := by decide +kernel
theorem dX9_copyFrom_13 : decode cX9_copyFrom 13 = .ok (.putfield 15, 3) := by decide +kernel
theorem dX9_copyFrom_16 : decode cX9_copyFrom 16 = .ok (.aload_n 0, 1) := by decide +kernel
theorem dX9_copyFrom_17 : decode cX9_copyFrom 17 = .ok (.getfield 21, 3) := by decide +kernel
theorem dX9_copyFrom_20 : decode cX9_copyFrom 20 = .ok (.aload_n 1, 1) := by decide +kernel
theorem dX9_copyFrom_21 : decode cX9_copyFrom 21 = .ok (.getfield 21, 3) := by decide +kernel
theorem dX9_copyFrom_24 : decode cX9_copyFrom 24 = .ok (.invokevirtual 58, 3) := by decide +kernel
theorem dX9_copyFrom_27 : decode cX9_copyFrom 27 = .ok (.aload_n 0, 1) := by decide +kernel
theorem dX9_copyFrom_28 : decode cX9_copyFrom 28 = .ok (.getfield 28, 3) := by decide +kernel
theorem dX9_copyFrom_31 : decode cX9_copyFrom 31 = .ok (.aload_n 1, 1) := by decide +kernel
theorem dX9_copyFrom_32 : decode cX9_copyFrom 32 = .ok (.getfield 28, 3) := by decide +kernel
theorem dX9_copyFrom_35 : decode cX9_copyFrom 35 = .ok (.invokevirtual 62, 3) := by decide +kernel
theorem dX9_copyFrom_38 : decode cX9_copyFrom 38 = .ok (.aload_n 0, 1) := by decide +kernel
theorem dX9_copyFrom_39 : decode cX9_copyFrom 39 = .ok (.getfield 35, 3) := by decide +kernel
theorem dX9_copyFrom_42 : decode cX9_copyFrom 42 = .ok (.aload_n 1, 1) := by decide +kernel
theorem dX9_copyFrom_43 : decode cX9_copyFrom 43 = .ok (.getfield 35, 3) := by decide +kernel
theorem dX9_copyFrom_46 : decode cX9_copyFrom 46 = .ok (.invokevirtual 65, 3) := by decide +kernel
theorem dX9_copyFrom_49 : decode cX9_copyFrom 49 = .ok (.aload_n 0, 1) := by decide +kernel
theorem dX9_copyFrom_50 : decode cX9_copyFrom 50 = .ok (.getfield 42, 3) := by decide +kernel
theorem dX9_copyFrom_53 : decode cX9_copyFrom 53 = .ok (.aload_n 1, 1) := by decide +kernel
theorem dX9_copyFrom_54 : decode cX9_copyFrom 54 = .ok (.getfield 42, 3) := by decide +kernel
theorem dX9_copyFrom_57 : decode cX9_copyFrom 57 = .ok (.invokevirtual 68, 3) := by decide +kernel
theorem dX9_copyFrom_60 : decode cX9_copyFrom 60 = .ok (.return_, 1) := by decide +kernel
set_option maxRecDepth 20000 in
set_option maxHeartbeats 4000000 in
theorem c_Town_copy (E : xE) (l : Launch) (a : Nat → Nat) (ws : va_W) (hW : WX (okX E a) ws) (t : Nat) (ht : tb t) (u : Nat) (hu : tb u) (htu : t ≠ u) : xV E l yX9_copyFrom cX9_copyFrom 2 2 0 0 [.ref (a t), .ref (a u)] ws (fun w => WX (okX E a) w ∧ keeps ws w (fun q => t ≤ q ∧ q < t + 22)) := by
  refine xV_start (lv := [(0, .ref (a t)), (1, .ref (a u))]) RX9 (by decide) rfl (Nat.le_of_ble_eq_true rfl) rfl (fun p e s m below meth c A C hr hlk hin => ?_)
  have htb := tb_lo ht
  have hub := tb_lo hu
  have htu2 := tb_ne ht hu htu
  have kp0 : keeps ws ws (fun q => t ≤ q ∧ q < t + 22) := keeps_rf
  refine x_aload_n C dX9_copyFrom_0 rfl 0 rfl rfl ?_
  refine x_aload_n C dX9_copyFrom_1 rfl 1 rfl rfl ?_
  obtain ⟨_, k1, n2, v4, v5, v6, v7, v8, bn3, rfl⟩ := hW (u + 0) _ (okX_t hu (j := 0) rfl)
  refine x_get C (ci := 8) (k := 0) u k1 rfl in_X9 (by decide) w_195 rfl dX9_copyFrom_2 rfl ?_
  obtain ⟨_, k9, n10, v12, v13, v14, v15, v16, bn11, rfl⟩ := hW (t + 0) _ (okX_t ht (j := 0) rfl)
  obtain ⟨w17, hw18⟩ : ∃ w : va_W, w = List.set ws t (ob (a t) 8 [.int (nI n2), .int v12, .ref (a (t + 1)), .ref (a (t + 4)), .ref (a (t + 9)), .ref (a (t + 16)), .int v13, .int v14, .int v15, .int v16]) := ⟨_, rfl⟩
  refine x_put C (ci := 8) (k := 0) (ty := .int) t k9 rfl in_X9 tyX9 tyX9_ok nmX9 (by decide) w_195 rfl rfl rfl rfl (Nat.le_of_ble_eq_true rfl) hw18.symm dX9_copyFrom_5 rfl ?_
  have hW19 : WX (okX E a) w17 := by rw [hw18]; exact hW.set (k := t) (okX_t ht (j := 0) rfl) ⟨n2, v12, v13, v14, v15, v16, by omega, rfl⟩
  have k20 : w17[u]? = some (ob (a u) 8 [.int (nI n2), .int v4, .ref (a (u + 1)), .ref (a (u + 4)), .ref (a (u + 9)), .ref (a (u + 16)), .int v5, .int v6, .int v7, .int v8]) := by rw [hw18]; exact set_ne k1 (by omega)
  have k21 : w17[t]? = some (ob (a t) 8 [.int (nI n2), .int v12, .ref (a (t + 1)), .ref (a (t + 4)), .ref (a (t + 9)), .ref (a (t + 16)), .int v13, .int v14, .int v15, .int v16]) := by rw [hw18]; exact set_eq k9
  have kp22 := keeps_set kp0 hw18 (by first | exact rfl | decide | omega | (dsimp only; omega))
  refine x_aload_n C dX9_copyFrom_8 rfl 0 rfl rfl ?_
  refine x_aload_n C dX9_copyFrom_9 rfl 1 rfl rfl ?_
  refine x_get C (ci := 8) (k := 1) u k20 rfl in_X9 (by decide) w_198 rfl dX9_copyFrom_10 rfl ?_
  obtain ⟨w23, hw24⟩ : ∃ w : va_W, w = List.set w17 t (ob (a t) 8 [.int (nI n2), .int v4, .ref (a (t + 1)), .ref (a (t + 4)), .ref (a (t + 9)), .ref (a (t + 16)), .int v13, .int v14, .int v15, .int v16]) := ⟨_, rfl⟩
  refine x_put C (ci := 8) (k := 1) (ty := .int) t k21 rfl in_X9 tyX9 tyX9_ok nmX9 (by decide) w_198 rfl rfl rfl rfl (Nat.le_of_ble_eq_true rfl) hw24.symm dX9_copyFrom_13 rfl ?_
  have hW25 : WX (okX E a) w23 := by rw [hw24]; exact hW19.set (k := t) (okX_t ht (j := 0) rfl) ⟨n2, v4, v13, v14, v15, v16, by omega, rfl⟩
  have k26 : w23[u]? = some (ob (a u) 8 [.int (nI n2), .int v4, .ref (a (u + 1)), .ref (a (u + 4)), .ref (a (u + 9)), .ref (a (u + 16)), .int v5, .int v6, .int v7, .int v8]) := by rw [hw24]; exact set_ne k20 (by omega)
  have k27 : w23[t]? = some (ob (a t) 8 [.int (nI n2), .int v4, .ref (a (t + 1)), .ref (a (t + 4)), .ref (a (t + 9)), .ref (a (t + 16)), .int v13, .int v14, .int v15, .int v16]) := by rw [hw24]; exact set_eq k21
  have kp28 := keeps_set kp22 hw24 (by first | exact rfl | decide | omega | (dsimp only; omega))
  refine x_aload_n C dX9_copyFrom_16 rfl 0 rfl rfl ?_
  refine x_get C (ci := 8) (k := 2) t k27 rfl in_X9 (by decide) w_200 rfl dX9_copyFrom_17 rfl ?_
  refine x_aload_n C dX9_copyFrom_20 rfl 1 rfl rfl ?_
  refine x_get C (ci := 8) (k := 2) u k26 rfl in_X9 (by decide) w_200 rfl dX9_copyFrom_21 rfl ?_
  obtain ⟨_, k29, v30, rfl⟩ := hW25 (t + 1) _ (okX_t ht (j := 1) rfl)
  refine x_vv C (As := [.ref (a (u + 1))]) (rest := []) (c_Hens_copy E l a w23 hW25 t ht u hu htu) mf_X2_copyFrom w_792 (t + 1) k29 rfl rfl rfl (Nat.le_of_ble_eq_true rfl) ⟨(Nat.le_of_ble_eq_true rfl), (Nat.le_of_ble_eq_true rfl)⟩ ⟨(Nat.le_of_ble_eq_true rfl), (Nat.le_of_ble_eq_true rfl)⟩ dX9_copyFrom_24 rfl (fun w33 h31 => ?_)
  obtain ⟨hW34, kq35⟩ := h31
  have k36 : w33[u]? = some (ob (a u) 8 [.int (nI n2), .int v4, .ref (a (u + 1)), .ref (a (u + 4)), .ref (a (u + 9)), .ref (a (u + 16)), .int v5, .int v6, .int v7, .int v8]) := keeps_at kq35 k26 (by first | decide | omega | (dsimp only; omega))
  have k37 : w33[t]? = some (ob (a t) 8 [.int (nI n2), .int v4, .ref (a (t + 1)), .ref (a (t + 4)), .ref (a (t + 9)), .ref (a (t + 16)), .int v13, .int v14, .int v15, .int v16]) := keeps_at kq35 k27 (by first | decide | omega | (dsimp only; omega))
  have kp38 := keeps_tr kp28 kq35 (fun q hq => by first | omega | (dsimp only at *; omega))
  refine x_aload_n C dX9_copyFrom_27 rfl 0 rfl rfl ?_
  refine x_get C (ci := 8) (k := 3) t k37 rfl in_X9 (by decide) w_203 rfl dX9_copyFrom_28 rfl ?_
  refine x_aload_n C dX9_copyFrom_31 rfl 1 rfl rfl ?_
  refine x_get C (ci := 8) (k := 3) u k36 rfl in_X9 (by decide) w_203 rfl dX9_copyFrom_32 rfl ?_
  obtain ⟨_, k39, v40, rfl⟩ := hW34 (t + 4) _ (okX_t ht (j := 4) rfl)
  refine x_vv C (As := [.ref (a (u + 4))]) (rest := []) (c_People_copy E l a w33 hW34 t ht u hu htu) mf_X5_copyFrom w_799 (t + 4) k39 rfl rfl rfl (Nat.le_of_ble_eq_true rfl) ⟨(Nat.le_of_ble_eq_true rfl), (Nat.le_of_ble_eq_true rfl)⟩ ⟨(Nat.le_of_ble_eq_true rfl), (Nat.le_of_ble_eq_true rfl)⟩ dX9_copyFrom_35 rfl (fun w43 h41 => ?_)
  obtain ⟨hW44, kq45⟩ := h41
  have k46 : w43[u]? = some (ob (a u) 8 [.int (nI n2), .int v4, .ref (a (u + 1)), .ref (a (u + 4)), .ref (a (u + 9)), .ref (a (u + 16)), .int v5, .int v6, .int v7, .int v8]) := keeps_at kq45 k36 (by first | decide | omega | (dsimp only; omega))
  have k47 : w43[t]? = some (ob (a t) 8 [.int (nI n2), .int v4, .ref (a (t + 1)), .ref (a (t + 4)), .ref (a (t + 9)), .ref (a (t + 16)), .int v13, .int v14, .int v15, .int v16]) := keeps_at kq45 k37 (by first | decide | omega | (dsimp only; omega))
  have kp48 := keeps_tr kp38 kq45 (fun q hq => by first | omega | (dsimp only at *; omega))
  refine x_aload_n C dX9_copyFrom_38 rfl 0 rfl rfl ?_
  refine x_get C (ci := 8) (k := 4) t k47 rfl in_X9 (by decide) w_206 rfl dX9_copyFrom_39 rfl ?_
  refine x_aload_n C dX9_copyFrom_42 rfl 1 rfl rfl ?_
  refine x_get C (ci := 8) (k := 4) u k46 rfl in_X9 (by decide) w_206 rfl dX9_copyFrom_43 rfl ?_
  obtain ⟨_, k49, n50, bn51, rfl⟩ := hW44 (t + 9) _ (okX_t ht (j := 9) rfl)
  refine x_vv C (As := [.ref (a (u + 9))]) (rest := []) (c_Eggs_copy E l a w43 hW44 t ht u hu htu) mf_X1_copyFrom w_804 (t + 9) k49 rfl rfl rfl (Nat.le_of_ble_eq_true rfl) ⟨(Nat.le_of_ble_eq_true rfl), (Nat.le_of_ble_eq_true rfl)⟩ ⟨(Nat.le_of_ble_eq_true rfl), (Nat.le_of_ble_eq_true rfl)⟩ dX9_copyFrom_46 rfl (fun w54 h52 => ?_)
  obtain ⟨hW55, kq56⟩ := h52
  have k57 : w54[u]? = some (ob (a u) 8 [.int (nI n2), .int v4, .ref (a (u + 1)), .ref (a (u + 4)), .ref (a (u + 9)), .ref (a (u + 16)), .int v5, .int v6, .int v7, .int v8]) := keeps_at kq56 k46 (by first | decide | omega | (dsimp only; omega))
  have k58 : w54[t]? = some (ob (a t) 8 [.int (nI n2), .int v4, .ref (a (t + 1)), .ref (a (t + 4)), .ref (a (t + 9)), .ref (a (t + 16)), .int v13, .int v14, .int v15, .int v16]) := keeps_at kq56 k47 (by first | decide | omega | (dsimp only; omega))
  have kp59 := keeps_tr kp48 kq56 (fun q hq => by first | omega | (dsimp only at *; omega))
  refine x_aload_n C dX9_copyFrom_49 rfl 0 rfl rfl ?_
  refine x_get C (ci := 8) (k := 5) t k58 rfl in_X9 (by decide) w_211 rfl dX9_copyFrom_50 rfl ?_
  refine x_aload_n C dX9_copyFrom_53 rfl 1 rfl rfl ?_
  refine x_get C (ci := 8) (k := 5) u k57 rfl in_X9 (by decide) w_211 rfl dX9_copyFrom_54 rfl ?_
  obtain ⟨_, k60, v61, rfl⟩ := hW55 (t + 16) _ (okX_t ht (j := 16) rfl)
  refine x_vv C (As := [.ref (a (u + 16))]) (rest := []) (c_Works_copy E l a w54 hW55 t ht u hu htu) mf_X10_copyFrom w_809 (t + 16) k60 rfl rfl rfl (Nat.le_of_ble_eq_true rfl) ⟨(Nat.le_of_ble_eq_true rfl), (Nat.le_of_ble_eq_true rfl)⟩ ⟨(Nat.le_of_ble_eq_true rfl), (Nat.le_of_ble_eq_true rfl)⟩ dX9_copyFrom_57 rfl (fun w64 h62 => ?_)
  obtain ⟨hW65, kq66⟩ := h62
  have k67 : w64[u]? = some (ob (a u) 8 [.int (nI n2), .int v4, .ref (a (u + 1)), .ref (a (u + 4)), .ref (a (u + 9)), .ref (a (u + 16)), .int v5, .int v6, .int v7, .int v8]) := keeps_at kq66 k57 (by first | decide | omega | (dsimp only; omega))
  have k68 : w64[t]? = some (ob (a t) 8 [.int (nI n2), .int v4, .ref (a (t + 1)), .ref (a (t + 4)), .ref (a (t + 9)), .ref (a (t + 16)), .int v13, .int v14, .int v15, .int v16]) := keeps_at kq66 k58 (by first | decide | omega | (dsimp only; omega))
  have kp69 := keeps_tr kp59 kq66 (fun q hq => by first | omega | (dsimp only at *; omega))
  exact x_vret C hr hlk dX9_copyFrom_60 ⟨hW65, kp69⟩
theorem dX2_tell_0 : decode cX2_tell 0 = .ok (.aload_n 0, 1) := by decide +kernel
theorem dX2_tell_1 : decode cX2_tell 1 = .ok (.dup, 1) := by decide +kernel
theorem dX2_tell_2 : decode cX2_tell 2 = .ok (.getfield 9, 3) := by decide +kernel
theorem dX2_tell_5 : decode cX2_tell 5 = .ok (.iconst 1, 1) := by decide +kernel
theorem dX2_tell_6 : decode cX2_tell 6 = .ok (.iload_n 1, 1) := by decide +kernel
theorem dX2_tell_7 : decode cX2_tell 7 = .ok (.ishl, 1) := by decide +kernel
theorem dX2_tell_8 : decode cX2_tell 8 = .ok (.ior, 1) := by decide +kernel
theorem dX2_tell_9 : decode cX2_tell 9 = .ok (.putfield 9, 3) := by decide +kernel
theorem dX2_tell_12 : decode cX2_tell 12 = .ok (.aload_n 0, 1) := by decide +kernel
theorem dX2_tell_13 : decode cX2_tell 13 = .ok (.getfield 15, 3) := by decide +kernel
theorem dX2_tell_16 : decode cX2_tell 16 = .ok (.iload_n 1, 1) := by decide +kernel
theorem dX2_tell_17 : decode cX2_tell 17 = .ok (.iload_n 2, 1) := by decide +kernel
theorem dX2_tell_18 : decode cX2_tell 18 = .ok (.iastore, 1) := by decide +kernel
theorem dX2_tell_19 : decode cX2_tell 19 = .ok (.aload_n 0, 1) := by decide +kernel
theorem dX2_tell_20 : decode cX2_tell 20 = .ok (.getfield 19, 3) := by decide +kernel
theorem dX2_tell_23 : decode cX2_tell 23 = .ok (.iload_n 1, 1) := by decide +kernel
theorem dX2_tell_24 : decode cX2_tell 24 = .ok (.iload_n 3, 1) := by decide +kernel
theorem dX2_tell_25 : decode cX2_tell 25 = .ok (.iastore, 1) := by decide +kernel
theorem dX2_tell_26 : decode cX2_tell 26 = .ok (.return_, 1) := by decide +kernel
set_option maxRecDepth 20000 in
set_option maxHeartbeats 4000000 in
theorem c_Hens_tell (E : xE) (l : Launch) (a : Nat → Nat) (ws : va_W) (hW : WX (okX E a) ws) (t : Nat) (ht : tb t) (y0 : Nat) (kd : Int32) (ow : Nat) (hy : y0 ≤ 7) (how : ow ≤ 7) : xV E l yX2_tell cX2_tell 4 0 0 0 [.ref (a (t + 1)), .int (nI y0), .int kd, .int (nI ow)] ws (fun w => WX (okX E a) w ∧ keeps ws w (fun q => t + 1 ≤ q ∧ q < t + 4)) := by
  refine xV_start (lv := [(0, .ref (a (t + 1))), (1, .int (nI y0)), (2, .int kd), (3, .int (nI ow))]) RX2 (by decide) rfl (Nat.le_of_ble_eq_true rfl) rfl (fun p e s m below meth c A C hr hlk hin => ?_)
  have htb := tb_lo ht
  have kp0 : keeps ws ws (fun q => t + 1 ≤ q ∧ q < t + 4) := keeps_rf
  refine x_aload_n C dX2_tell_0 rfl 0 rfl rfl ?_
  refine x_dup C dX2_tell_1 rfl rfl ?_
  obtain ⟨_, k1, v2, rfl⟩ := hW (t + 1) _ (okX_t ht (j := 1) rfl)
  refine x_get C (ci := 2) (k := 0) (t + 1) k1 rfl in_X2 (by decide) w_68 rfl dX2_tell_2 rfl ?_
  refine x_iconst C (v := 1) dX2_tell_5 (by decide) rfl ?_
  refine x_iload_n C dX2_tell_6 rfl 1 rfl rfl ?_
  refine x_ishl C (v := ((1 : Int32) <<< ((nI y0) &&& 31))) dX2_tell_7 rfl rfl ?_
  refine x_any (fun v3 => ?_)
  refine x_ior C (v := (v2 ||| v3)) dX2_tell_8 rfl rfl ?_
  refine x_any (fun v4 => ?_)
  obtain ⟨w5, hw6⟩ : ∃ w : va_W, w = List.set ws (t + 1) (ob (a (t + 1)) 2 [.int v4, .ref (a (t + 2)), .ref (a (t + 3))]) := ⟨_, rfl⟩
  refine x_put C (ci := 2) (k := 0) (ty := .int) (t + 1) k1 rfl in_X2 tyX2 tyX2_ok nmX2 (by decide) w_68 rfl rfl rfl rfl (Nat.le_of_ble_eq_true rfl) hw6.symm dX2_tell_9 rfl ?_
  have hW7 : WX (okX E a) w5 := by rw [hw6]; exact hW.set (k := (t + 1)) (okX_t ht (j := 1) rfl) ⟨v4, rfl⟩
  have k8 : w5[t + 1]? = some (ob (a (t + 1)) 2 [.int v4, .ref (a (t + 2)), .ref (a (t + 3))]) := by rw [hw6]; exact set_eq k1
  have kp9 := keeps_set kp0 hw6 (by first | exact rfl | decide | omega | (dsimp only; omega))
  refine x_aload_n C dX2_tell_12 rfl 0 rfl rfl ?_
  refine x_get C (ci := 2) (k := 1) (t + 1) k8 rfl in_X2 (by decide) w_70 rfl dX2_tell_13 rfl ?_
  refine x_iload_n C dX2_tell_16 rfl 1 rfl rfl ?_
  refine x_iload_n C dX2_tell_17 rfl 2 rfl rfl ?_
  obtain ⟨_, k10, f11, rfl⟩ := hW7 (t + 2) _ (okX_t ht (j := 2) rfl)
  obtain ⟨w12, hw13⟩ : ∃ w : va_W, w = List.set w5 (t + 2) (iA E (a (t + 2)) 8 (upd f11 (nI y0).toNatClampNeg kd)) := ⟨_, rfl⟩
  refine x_iast C (t + 2) k10 (vp_in_nI (by omega) (by decide)) hw13.symm dX2_tell_18 rfl ?_
  have hW14 : WX (okX E a) w12 := by rw [hw13]; exact hW7.set (k := (t + 2)) (okX_t ht (j := 2) rfl) ⟨_, rfl⟩
  have k15 : w12[t + 1]? = some (ob (a (t + 1)) 2 [.int v4, .ref (a (t + 2)), .ref (a (t + 3))]) := by rw [hw13]; exact set_ne k8 (by omega)
  have k16 : w12[t + 2]? = some (iA E (a (t + 2)) 8 (upd f11 (nI y0).toNatClampNeg kd)) := by rw [hw13]; exact set_eq k10
  have kp17 := keeps_set kp9 hw13 (by first | exact rfl | decide | omega | (dsimp only; omega))
  refine x_aload_n C dX2_tell_19 rfl 0 rfl rfl ?_
  refine x_get C (ci := 2) (k := 2) (t + 1) k15 rfl in_X2 (by decide) w_73 rfl dX2_tell_20 rfl ?_
  refine x_iload_n C dX2_tell_23 rfl 1 rfl rfl ?_
  refine x_iload_n C dX2_tell_24 rfl 3 rfl rfl ?_
  obtain ⟨_, k18, g19, gb20, rfl⟩ := hW14 (t + 3) _ (okX_t ht (j := 3) rfl)
  have gb21 := updn_le (i := y0) (v := ow) gb20 (by omega)
  obtain ⟨w22, hw23⟩ : ∃ w : va_W, w = List.set w12 (t + 3) (iA E (a (t + 3)) 8 (upd (fun j => nI (g19 j)) y0 (nI ow))) := ⟨_, rfl⟩
  refine x_iask C y0 (nI_clamp (by omega)) (nI_pos (by omega)) (by omega) (t + 3) k18 hw23.symm dX2_tell_25 rfl ?_
  have hW24 : WX (okX E a) w22 := by rw [hw23]; exact hW14.set (k := (t + 3)) (okX_t ht (j := 3) rfl) ⟨_, gb21, iA_n (upd_nI g19 y0 ow)⟩
  have k25 : w22[t + 1]? = some (ob (a (t + 1)) 2 [.int v4, .ref (a (t + 2)), .ref (a (t + 3))]) := by rw [hw23]; exact set_ne k15 (by omega)
  have k26 : w22[t + 2]? = some (iA E (a (t + 2)) 8 (upd f11 (nI y0).toNatClampNeg kd)) := by rw [hw23]; exact set_ne k16 (by omega)
  have k27 : w22[t + 3]? = some (iA E (a (t + 3)) 8 (upd (fun j => nI (g19 j)) y0 (nI ow))) := by rw [hw23]; exact set_eq k18
  have kp28 := keeps_set kp17 hw23 (by first | exact rfl | decide | omega | (dsimp only; omega))
  have k29 : w22[t + 3]? = some (iA E (a (t + 3)) 8 (fun j => nI ((updn g19 y0 ow) j))) := by rw [← upd_nI]; exact k27
  exact x_vret C hr hlk dX2_tell_26 ⟨hW24, kp28⟩
theorem dX2_howManyOf_0 : decode cX2_howManyOf 0 = .ok (.iconst 0, 1) := by decide +kernel
theorem dX2_howManyOf_1 : decode cX2_howManyOf 1 = .ok (.istore_n 2, 1) := by decide +kernel
theorem dX2_howManyOf_2 : decode cX2_howManyOf 2 = .ok (.iconst 0, 1) := by decide +kernel
theorem dX2_howManyOf_3 : decode cX2_howManyOf 3 = .ok (.istore_n 3, 1) := by decide +kernel
theorem dX2_howManyOf_4 : decode cX2_howManyOf 4 = .ok (.iload_n 3, 1) := by decide +kernel
theorem dX2_howManyOf_5 : decode cX2_howManyOf 5 = .ok (.bipush 8, 2) := by decide +kernel
theorem dX2_howManyOf_7 : decode cX2_howManyOf 7 = .ok (.if_icmp .ge 35, 3) := by decide +kernel
theorem dX2_howManyOf_10 : decode cX2_howManyOf 10 = .ok (.iload_n 2, 1) := by decide +kernel
theorem dX2_howManyOf_11 : decode cX2_howManyOf 11 = .ok (.aload_n 0, 1) := by decide +kernel
theorem dX2_howManyOf_12 : decode cX2_howManyOf 12 = .ok (.iload_n 3, 1) := by decide +kernel
theorem dX2_howManyOf_13 : decode cX2_howManyOf 13 = .ok (.invokevirtual 26, 3) := by decide +kernel
theorem dX2_howManyOf_16 : decode cX2_howManyOf 16 = .ok (.ifCond .eq 17, 3) := by decide +kernel
theorem dX2_howManyOf_19 : decode cX2_howManyOf 19 = .ok (.aload_n 0, 1) := by decide +kernel
theorem dX2_howManyOf_20 : decode cX2_howManyOf 20 = .ok (.getfield 19, 3) := by decide +kernel
theorem dX2_howManyOf_23 : decode cX2_howManyOf 23 = .ok (.iload_n 3, 1) := by decide +kernel
theorem dX2_howManyOf_24 : decode cX2_howManyOf 24 = .ok (.iaload, 1) := by decide +kernel
theorem dX2_howManyOf_25 : decode cX2_howManyOf 25 = .ok (.iload_n 1, 1) := by decide +kernel
theorem dX2_howManyOf_26 : decode cX2_howManyOf 26 = .ok (.if_icmp .ne 7, 3) := by decide +kernel
theorem dX2_howManyOf_29 : decode cX2_howManyOf 29 = .ok (.iconst 1, 1) := by decide +kernel
theorem dX2_howManyOf_30 : decode cX2_howManyOf 30 = .ok (.goto 4, 3) := by decide +kernel
theorem dX2_howManyOf_33 : decode cX2_howManyOf 33 = .ok (.iconst 0, 1) := by decide +kernel
theorem dX2_howManyOf_34 : decode cX2_howManyOf 34 = .ok (.iadd, 1) := by decide +kernel
theorem dX2_howManyOf_35 : decode cX2_howManyOf 35 = .ok (.istore_n 2, 1) := by decide +kernel
theorem dX2_howManyOf_36 : decode cX2_howManyOf 36 = .ok (.iinc 3 1, 3) := by decide +kernel
theorem dX2_howManyOf_39 : decode cX2_howManyOf 39 = .ok (.goto (-35), 3) := by decide +kernel
theorem dX2_howManyOf_42 : decode cX2_howManyOf 42 = .ok (.iload_n 2, 1) := by decide +kernel
theorem dX2_howManyOf_43 : decode cX2_howManyOf 43 = .ok (.ireturn, 1) := by decide +kernel
set_option maxRecDepth 20000 in
set_option maxHeartbeats 4000000 in
theorem c_Hens_howManyOf (E : xE) (l : Launch) (a : Nat → Nat) (ws : va_W) (hW : WX (okX E a) ws) (t : Nat) (ht : tb t) (p0 : Int32) : xI E l yX2_howManyOf cX2_howManyOf 4 (some .int) 2 [.ref (a (t + 1)), .int p0] ws (fun r w => w = ws) := by
  refine xI_start (lv := [(0, .ref (a (t + 1))), (1, .int p0)]) RX2 (by decide) rfl (Nat.le_of_ble_eq_true rfl) rfl (fun p e s m below meth c A C hr hlk => ?_)
  have htb := tb_lo ht
  refine x_iconst C (v := 0) dX2_howManyOf_0 (by decide) rfl ?_
  refine x_istore_n C (lv' := [(2, .int 0), (0, .ref (a (t + 1))), (1, .int p0)]) dX2_howManyOf_1 rfl (by decide) rfl rfl ?_
  refine x_iconst C (v := 0) dX2_howManyOf_2 (by decide) rfl ?_
  refine x_istore_n C (lv' := [(3, .int 0), (2, .int 0), (0, .ref (a (t + 1))), (1, .int p0)]) dX2_howManyOf_3 rfl (by decide) rfl rfl ?_
  have loop4 : ∀ (fu4 : Nat) (z4_2 : Int32) (i : Nat), True → 8 - i < fu4 → i ≤ 8 → X E p l e (xRm 2 0 0) s m ([.ref (a (t + 1)), .int p0] : List Value).toArray below meth c A 4 0 0 (MQ below (va_Qi (fun r w => w = ws) (xB E A) A) ([.ref (a (t + 1)), .int p0] : List Value).toArray s 0 0 A) ws 4 [(0, .ref (a (t + 1))), (1, .int p0), (2, .int z4_2), (3, .int (nI i))] [] := by
    intro fu4
    induction fu4 with
    | zero => intro z4_2 i _ q; omega
    | succ fu4 ih4 =>
      intro z4_2 i _ me4 iv4_0
      refine x_iload_n C dX2_howManyOf_4 rfl 3 rfl rfl ?_
      refine x_bipush C (v := 8) dX2_howManyOf_5 (by decide) rfl ?_
      refine x_icmp_ge C (tgt := 42) dX2_howManyOf_7 (by decide) rfl (fun c1 => ?_) (fun c1 => ?_)
      · skip
        have nf2 := nI_le' (a := 8) (b := i) c1 (by omega) (by omega)
        refine x_iload_n C dX2_howManyOf_42 rfl 2 rfl rfl ?_
        exact x_zret C hr hlk rfl dX2_howManyOf_43 rfl
      · skip
        have nf3 := nI_nle' (a := 8) (b := i) c1 (by omega) (by omega)
        refine x_iload_n C dX2_howManyOf_10 rfl 2 rfl rfl ?_
        refine x_aload_n C dX2_howManyOf_11 rfl 0 rfl rfl ?_
        refine x_iload_n C dX2_howManyOf_12 rfl 3 rfl rfl ?_
        obtain ⟨_, k4, v5, rfl⟩ := hW (t + 1) _ (okX_t ht (j := 1) rfl)
        refine x_vi C (As := [.int (nI i)]) (rest := [.int z4_2]) (c_Hens_isTold E l a ws hW t ht ((nI i))) mf_X2_isTold w_888 (t + 1) k4 rfl rfl rfl (Nat.le_of_ble_eq_true rfl) ⟨(Nat.le_of_ble_eq_true rfl), (Nat.le_of_ble_eq_true rfl)⟩ ⟨(Nat.le_of_ble_eq_true rfl), (Nat.le_of_ble_eq_true rfl)⟩ dX2_howManyOf_13 rfl (fun r7 w8 h6 => ?_)
        obtain ⟨hW9, zb10, x11⟩ := h6
        refine x_ws hW9 ?_
        refine x_if_eq C (tgt := 33) dX2_howManyOf_16 (by decide) rfl (fun c12 => ?_) (fun c12 => ?_)
        · skip
          refine x_iconst C (v := 0) dX2_howManyOf_33 (by decide) rfl ?_
          refine x_iadd C (v := (z4_2 + (0 : Int32))) dX2_howManyOf_34 rfl rfl ?_
          refine x_any (fun v13 => ?_)
          refine x_istore_n C (lv' := [(2, .int v13), (0, .ref (a (t + 1))), (1, .int p0), (3, .int (nI i))]) dX2_howManyOf_35 rfl (by decide) rfl rfl ?_
          refine x_iinc C (v := (nI (i + 1))) (lv' := [(3, .int (nI (i + 1))), (2, .int v13), (0, .ref (a (t + 1))), (1, .int p0)]) dX2_howManyOf_36 3 rfl (nI_add i 1) (by decide) rfl rfl ?_
          refine x_goto C (tgt := 4) dX2_howManyOf_39 (by decide) ?_
          refine x_lv (lv1 := [(0, .ref (a (t + 1))), (1, .int p0), (2, .int v13), (3, .int (nI (i + 1)))]) [2, 3, 1, 0] rfl ?_
          exact ih4 v13 (i + 1) trivial (by omega) (by omega)
        · skip
          have wi14 := wth_le (a := 0) (b := 7) (j := i) (x11 c12) (by omega) (by decide) (by decide)
          refine x_aload_n C dX2_howManyOf_19 rfl 0 rfl rfl ?_
          refine x_get C (ci := 2) (k := 2) (t + 1) k4 rfl in_X2 (by decide) w_73 rfl dX2_howManyOf_20 rfl ?_
          refine x_iload_n C dX2_howManyOf_23 rfl 3 rfl rfl ?_
          obtain ⟨_, k15, g16, gb17, rfl⟩ := hW (t + 3) _ (okX_t ht (j := 3) rfl)
          refine x_ialk C (v := nI (g16 i)) i (nI_clamp (by omega)) (nI_pos (by omega)) (by omega) (t + 3) k15 rfl dX2_howManyOf_24 rfl ?_
          have bx18 := gb17 i
          refine x_iload_n C dX2_howManyOf_25 rfl 1 rfl rfl ?_
          refine x_icmp_ne C (tgt := 33) dX2_howManyOf_26 (by decide) rfl (fun c19 => ?_) (fun c19 => ?_)
          · skip
            refine x_iconst C (v := 0) dX2_howManyOf_33 (by decide) rfl ?_
            refine x_iadd C (v := (z4_2 + (0 : Int32))) dX2_howManyOf_34 rfl rfl ?_
            refine x_any (fun v20 => ?_)
            refine x_istore_n C (lv' := [(2, .int v20), (0, .ref (a (t + 1))), (1, .int p0), (3, .int (nI i))]) dX2_howManyOf_35 rfl (by decide) rfl rfl ?_
            refine x_iinc C (v := (nI (i + 1))) (lv' := [(3, .int (nI (i + 1))), (2, .int v20), (0, .ref (a (t + 1))), (1, .int p0)]) dX2_howManyOf_36 3 rfl (nI_add i 1) (by decide) rfl rfl ?_
            refine x_goto C (tgt := 4) dX2_howManyOf_39 (by decide) ?_
            refine x_lv (lv1 := [(0, .ref (a (t + 1))), (1, .int p0), (2, .int v20), (3, .int (nI (i + 1)))]) [2, 3, 1, 0] rfl ?_
            exact ih4 v20 (i + 1) trivial (by omega) (by omega)
          · skip
            refine x_iconst C (v := 1) dX2_howManyOf_29 (by decide) rfl ?_
            refine x_goto C (tgt := 34) dX2_howManyOf_30 (by decide) ?_
            refine x_iadd C (v := (z4_2 + (1 : Int32))) dX2_howManyOf_34 rfl rfl ?_
            refine x_any (fun v21 => ?_)
            refine x_istore_n C (lv' := [(2, .int v21), (0, .ref (a (t + 1))), (1, .int p0), (3, .int (nI i))]) dX2_howManyOf_35 rfl (by decide) rfl rfl ?_
            refine x_iinc C (v := (nI (i + 1))) (lv' := [(3, .int (nI (i + 1))), (2, .int v21), (0, .ref (a (t + 1))), (1, .int p0)]) dX2_howManyOf_36 3 rfl (nI_add i 1) (by decide) rfl rfl ?_
            refine x_goto C (tgt := 4) dX2_howManyOf_39 (by decide) ?_
            refine x_lv (lv1 := [(0, .ref (a (t + 1))), (1, .int p0), (2, .int v21), (3, .int (nI (i + 1)))]) [2, 3, 1, 0] rfl ?_
            exact ih4 v21 (i + 1) trivial (by omega) (by omega)
  refine x_lv (lv1 := [(0, .ref (a (t + 1))), (1, .int p0), (2, .int 0), (3, .int 0)]) [2, 3, 1, 0] rfl ?_
  exact loop4 _ (0 : Int32) 0 trivial (Nat.lt_succ_self _) (by omega)
theorem dX5_tell_0 : decode cX5_tell 0 = .ok (.iload_n 1, 1) := by decide +kernel
theorem dX5_tell_1 : decode cX5_tell 1 = .ok (.ifCond .lt 17, 3) := by decide +kernel
theorem dX5_tell_4 : decode cX5_tell 4 = .ok (.iload_n 1, 1) := by decide +kernel
theorem dX5_tell_5 : decode cX5_tell 5 = .ok (.bipush 8, 2) := by decide +kernel
theorem dX5_tell_7 : decode cX5_tell 7 = .ok (.if_icmp .ge 11, 3) := by decide +kernel
theorem dX5_tell_10 : decode cX5_tell 10 = .ok (.aload_n 0, 1) := by decide +kernel
theorem dX5_tell_11 : decode cX5_tell 11 = .ok (.iload_n 1, 1) := by decide +kernel
theorem dX5_tell_12 : decode cX5_tell 12 = .ok (.invokevirtual 32, 3) := by decide +kernel
theorem dX5_tell_15 : decode cX5_tell 15 = .ok (.ifCond .eq 5, 3) := by decide +kernel
theorem dX5_tell_18 : decode cX5_tell 18 = .ok (.iconst 0, 1) := by decide +kernel
theorem dX5_tell_19 : decode cX5_tell 19 = .ok (.ireturn, 1) := by decide +kernel
theorem dX5_tell_20 : decode cX5_tell 20 = .ok (.aload_n 0, 1) := by decide +kernel
theorem dX5_tell_21 : decode cX5_tell 21 = .ok (.dup, 1) := by decide +kernel
theorem dX5_tell_22 : decode cX5_tell 22 = .ok (.getfield 9, 3) := by decide +kernel
theorem dX5_tell_25 : decode cX5_tell 25 = .ok (.iconst 1, 1) := by decide +kernel
theorem dX5_tell_26 : decode cX5_tell 26 = .ok (.iload_n 1, 1) := by decide +kernel
theorem dX5_tell_27 : decode cX5_tell 27 = .ok (.ishl, 1) := by decide +kernel
theorem dX5_tell_28 : decode cX5_tell 28 = .ok (.ior, 1) := by decide +kernel
theorem dX5_tell_29 : decode cX5_tell 29 = .ok (.putfield 9, 3) := by decide +kernel
theorem dX5_tell_32 : decode cX5_tell 32 = .ok (.iconst 1, 1) := by decide +kernel
theorem dX5_tell_33 : decode cX5_tell 33 = .ok (.ireturn, 1) := by decide +kernel
set_option maxRecDepth 20000 in
set_option maxHeartbeats 4000000 in
theorem c_People_tell (E : xE) (l : Launch) (a : Nat → Nat) (ws : va_W) (hW : WX (okX E a) ws) (t : Nat) (ht : tb t) (p0 : Int32) : xI E l yX5_tell cX5_tell 2 (some .boolean) 2 [.ref (a (t + 4)), .int p0] ws (fun r w => WX (okX E a) w ∧ keeps ws w (fun q => q = t + 4) ∧ zb r) := by
  refine xI_start (lv := [(0, .ref (a (t + 4))), (1, .int p0)]) RX5 (by decide) rfl (Nat.le_of_ble_eq_true rfl) rfl (fun p e s m below meth c A C hr hlk => ?_)
  have htb := tb_lo ht
  have kp0 : keeps ws ws (fun q => q = t + 4) := keeps_rf
  refine x_iload_n C dX5_tell_0 rfl 1 rfl rfl ?_
  refine x_if_lt C (tgt := 18) dX5_tell_1 (by decide) rfl (fun c1 => ?_) (fun c1 => ?_)
  · skip
    refine x_iconst C (v := 0) dX5_tell_18 (by decide) rfl ?_
    exact x_zret C hr hlk rfl dX5_tell_19 ⟨hW, kp0, (Or.inl rfl)⟩
  · skip
    obtain ⟨j2, hj3, ej4⟩ := nI_of c1
    subst ej4
    refine x_iload_n C dX5_tell_4 rfl 1 rfl rfl ?_
    refine x_bipush C (v := 8) dX5_tell_5 (by decide) rfl ?_
    refine x_icmp_ge C (tgt := 18) dX5_tell_7 (by decide) rfl (fun c5 => ?_) (fun c5 => ?_)
    · skip
      have nf6 := nI_le' (a := 8) (b := j2) c5 (by omega) (by omega)
      refine x_iconst C (v := 0) dX5_tell_18 (by decide) rfl ?_
      exact x_zret C hr hlk rfl dX5_tell_19 ⟨hW, kp0, (Or.inl rfl)⟩
    · skip
      have nf7 := nI_nle' (a := 8) (b := j2) c5 (by omega) (by omega)
      refine x_aload_n C dX5_tell_10 rfl 0 rfl rfl ?_
      refine x_iload_n C dX5_tell_11 rfl 1 rfl rfl ?_
      obtain ⟨_, k8, v9, rfl⟩ := hW (t + 4) _ (okX_t ht (j := 4) rfl)
      refine x_vi C (As := [.int (nI j2)]) (rest := []) (c_People_isTold E l a ws hW t ht ((nI j2))) mf_X5_isTold w_451 (t + 4) k8 rfl rfl rfl (Nat.le_of_ble_eq_true rfl) ⟨(Nat.le_of_ble_eq_true rfl), (Nat.le_of_ble_eq_true rfl)⟩ ⟨(Nat.le_of_ble_eq_true rfl), (Nat.le_of_ble_eq_true rfl)⟩ dX5_tell_12 rfl (fun r11 w12 h10 => ?_)
      obtain ⟨hW13, zb14, x15⟩ := h10
      refine x_ws hW13 ?_
      refine x_if_eq C (tgt := 20) dX5_tell_15 (by decide) rfl (fun c16 => ?_) (fun c16 => ?_)
      · skip
        refine x_aload_n C dX5_tell_20 rfl 0 rfl rfl ?_
        refine x_dup C dX5_tell_21 rfl rfl ?_
        refine x_get C (ci := 4) (k := 0) (t + 4) k8 rfl in_X5 (by decide) w_90 rfl dX5_tell_22 rfl ?_
        refine x_iconst C (v := 1) dX5_tell_25 (by decide) rfl ?_
        refine x_iload_n C dX5_tell_26 rfl 1 rfl rfl ?_
        refine x_ishl C (v := ((1 : Int32) <<< ((nI j2) &&& 31))) dX5_tell_27 rfl rfl ?_
        refine x_any (fun v17 => ?_)
        refine x_ior C (v := (v9 ||| v17)) dX5_tell_28 rfl rfl ?_
        refine x_any (fun v18 => ?_)
        obtain ⟨w19, hw20⟩ : ∃ w : va_W, w = List.set ws (t + 4) (ob (a (t + 4)) 4 [.int v18, .ref (a (t + 5)), .ref (a (t + 6)), .ref (a (t + 7)), .ref (a (t + 8))]) := ⟨_, rfl⟩
        refine x_put C (ci := 4) (k := 0) (ty := .int) (t + 4) k8 rfl in_X5 tyX5 tyX5_ok nmX5 (by decide) w_90 rfl rfl rfl rfl (Nat.le_of_ble_eq_true rfl) hw20.symm dX5_tell_29 rfl ?_
        have hW21 : WX (okX E a) w19 := by rw [hw20]; exact hW.set (k := (t + 4)) (okX_t ht (j := 4) rfl) ⟨v18, rfl⟩
        have k22 : w19[t + 4]? = some (ob (a (t + 4)) 4 [.int v18, .ref (a (t + 5)), .ref (a (t + 6)), .ref (a (t + 7)), .ref (a (t + 8))]) := by rw [hw20]; exact set_eq k8
        have kp23 := keeps_set kp0 hw20 (by first | exact rfl | decide | omega | (dsimp only; omega))
        refine x_iconst C (v := 1) dX5_tell_32 (by decide) rfl ?_
        exact x_zret C hr hlk rfl dX5_tell_33 ⟨hW21, kp23, (Or.inr rfl)⟩
      · skip
        have wi24 := wth_le (a := 0) (b := 7) (j := j2) (x15 c16) (by omega) (by decide) (by decide)
        refine x_iconst C (v := 0) dX5_tell_18 (by decide) rfl ?_
        exact x_zret C hr hlk rfl dX5_tell_19 ⟨hW, kp0, (Or.inl rfl)⟩
theorem dX5_excess_0 : decode cX5_excess 0 = .ok (.aload_n 0, 1) := by decide +kernel
theorem dX5_excess_1 : decode cX5_excess 1 = .ok (.getfield 15, 3) := by decide +kernel
theorem dX5_excess_4 : decode cX5_excess 4 = .ok (.iload_n 1, 1) := by decide +kernel
theorem dX5_excess_5 : decode cX5_excess 5 = .ok (.iaload, 1) := by decide +kernel
theorem dX5_excess_6 : decode cX5_excess 6 = .ok (.aload_n 0, 1) := by decide +kernel
theorem dX5_excess_7 : decode cX5_excess 7 = .ok (.getfield 19, 3) := by decide +kernel
theorem dX5_excess_10 : decode cX5_excess 10 = .ok (.iload_n 1, 1) := by decide +kernel
theorem dX5_excess_11 : decode cX5_excess 11 = .ok (.iaload, 1) := by decide +kernel
theorem dX5_excess_12 : decode cX5_excess 12 = .ok (.isub, 1) := by decide +kernel
theorem dX5_excess_13 : decode cX5_excess 13 = .ok (.aload_n 0, 1) := by decide +kernel
theorem dX5_excess_14 : decode cX5_excess 14 = .ok (.getfield 22, 3) := by decide +kernel
theorem dX5_excess_17 : decode cX5_excess 17 = .ok (.iload_n 1, 1) := by decide +kernel
theorem dX5_excess_18 : decode cX5_excess 18 = .ok (.iaload, 1) := by decide +kernel
theorem dX5_excess_19 : decode cX5_excess 19 = .ok (.isub, 1) := by decide +kernel
theorem dX5_excess_20 : decode cX5_excess 20 = .ok (.aload_n 0, 1) := by decide +kernel
theorem dX5_excess_21 : decode cX5_excess 21 = .ok (.getfield 25, 3) := by decide +kernel
theorem dX5_excess_24 : decode cX5_excess 24 = .ok (.iload_n 1, 1) := by decide +kernel
theorem dX5_excess_25 : decode cX5_excess 25 = .ok (.iaload, 1) := by decide +kernel
theorem dX5_excess_26 : decode cX5_excess 26 = .ok (.iadd, 1) := by decide +kernel
theorem dX5_excess_27 : decode cX5_excess 27 = .ok (.ireturn, 1) := by decide +kernel
set_option maxRecDepth 20000 in
set_option maxHeartbeats 4000000 in
theorem c_People_excess (E : xE) (l : Launch) (a : Nat → Nat) (ws : va_W) (hW : WX (okX E a) ws) (t : Nat) (ht : tb t) (p0 : Nat) (hp0 : p0 ≤ 7) : xI E l yX5_excess cX5_excess 2 (some .int) 0 [.ref (a (t + 4)), .int (nI p0)] ws (fun r w => w = ws) := by
  refine xI_start (lv := [(0, .ref (a (t + 4))), (1, .int (nI p0))]) RX5 (by decide) rfl (Nat.le_of_ble_eq_true rfl) rfl (fun p e s m below meth c A C hr hlk => ?_)
  have htb := tb_lo ht
  refine x_aload_n C dX5_excess_0 rfl 0 rfl rfl ?_
  obtain ⟨_, k1, v2, rfl⟩ := hW (t + 4) _ (okX_t ht (j := 4) rfl)
  refine x_get C (ci := 4) (k := 1) (t + 4) k1 rfl in_X5 (by decide) w_92 rfl dX5_excess_1 rfl ?_
  refine x_iload_n C dX5_excess_4 rfl 1 rfl rfl ?_
  obtain ⟨_, k3, f4, rfl⟩ := hW (t + 5) _ (okX_t ht (j := 5) rfl)
  refine x_iald C (v := (f4 (nI p0).toNatClampNeg)) (t + 5) k3 (vp_in_nI (by omega) (by decide)) rfl dX5_excess_5 rfl ?_
  refine x_any (fun v5 => ?_)
  refine x_aload_n C dX5_excess_6 rfl 0 rfl rfl ?_
  refine x_get C (ci := 4) (k := 2) (t + 4) k1 rfl in_X5 (by decide) w_94 rfl dX5_excess_7 rfl ?_
  refine x_iload_n C dX5_excess_10 rfl 1 rfl rfl ?_
  obtain ⟨_, k6, f7, rfl⟩ := hW (t + 6) _ (okX_t ht (j := 6) rfl)
  refine x_iald C (v := (f7 (nI p0).toNatClampNeg)) (t + 6) k6 (vp_in_nI (by omega) (by decide)) rfl dX5_excess_11 rfl ?_
  refine x_any (fun v8 => ?_)
  refine x_isub C (v := (v5 - v8)) dX5_excess_12 rfl rfl ?_
  refine x_any (fun v9 => ?_)
  refine x_aload_n C dX5_excess_13 rfl 0 rfl rfl ?_
  refine x_get C (ci := 4) (k := 3) (t + 4) k1 rfl in_X5 (by decide) w_97 rfl dX5_excess_14 rfl ?_
  refine x_iload_n C dX5_excess_17 rfl 1 rfl rfl ?_
  obtain ⟨_, k10, f11, rfl⟩ := hW (t + 7) _ (okX_t ht (j := 7) rfl)
  refine x_iald C (v := (f11 (nI p0).toNatClampNeg)) (t + 7) k10 (vp_in_nI (by omega) (by decide)) rfl dX5_excess_18 rfl ?_
  refine x_any (fun v12 => ?_)
  refine x_isub C (v := (v9 - v12)) dX5_excess_19 rfl rfl ?_
  refine x_any (fun v13 => ?_)
  refine x_aload_n C dX5_excess_20 rfl 0 rfl rfl ?_
  refine x_get C (ci := 4) (k := 4) (t + 4) k1 rfl in_X5 (by decide) w_100 rfl dX5_excess_21 rfl ?_
  refine x_iload_n C dX5_excess_24 rfl 1 rfl rfl ?_
  obtain ⟨_, k14, f15, rfl⟩ := hW (t + 8) _ (okX_t ht (j := 8) rfl)
  refine x_iald C (v := (f15 (nI p0).toNatClampNeg)) (t + 8) k14 (vp_in_nI (by omega) (by decide)) rfl dX5_excess_25 rfl ?_
  refine x_any (fun v16 => ?_)
  refine x_iadd C (v := (v13 + v16)) dX5_excess_26 rfl rfl ?_
  refine x_any (fun v17 => ?_)
  exact x_zret C hr hlk rfl dX5_excess_27 rfl
theorem dX10_tell_0 : decode cX10_tell 0 = .ok (.aload_n 0, 1) := by decide +kernel
theorem dX10_tell_1 : decode cX10_tell 1 = .ok (.dup, 1) := by decide +kernel
theorem dX10_tell_2 : decode cX10_tell 2 = .ok (.getfield 9, 3) := by decide +kernel
theorem dX10_tell_5 : decode cX10_tell 5 = .ok (.iconst 1, 1) := by decide +kernel
theorem dX10_tell_6 : decode cX10_tell 6 = .ok (.iload_n 1, 1) := by decide +kernel
theorem dX10_tell_7 : decode cX10_tell 7 = .ok (.ishl, 1) := by decide +kernel
theorem dX10_tell_8 : decode cX10_tell 8 = .ok (.ior, 1) := by decide +kernel
theorem dX10_tell_9 : decode cX10_tell 9 = .ok (.putfield 9, 3) := by decide +kernel
theorem dX10_tell_12 : decode cX10_tell 12 = .ok (.aload_n 0, 1) := by decide +kernel
theorem dX10_tell_13 : decode cX10_tell 13 = .ok (.getfield 15, 3) := by decide +kernel
theorem dX10_tell_16 : decode cX10_tell 16 = .ok (.iload_n 1, 1) := by decide +kernel
theorem dX10_tell_17 : decode cX10_tell 17 = .ok (.iload_n 2, 1) := by decide +kernel
theorem dX10_tell_18 : decode cX10_tell 18 = .ok (.iastore, 1) := by decide +kernel
theorem dX10_tell_19 : decode cX10_tell 19 = .ok (.aload_n 0, 1) := by decide +kernel
theorem dX10_tell_20 : decode cX10_tell 20 = .ok (.getfield 19, 3) := by decide +kernel
theorem dX10_tell_23 : decode cX10_tell 23 = .ok (.iload_n 1, 1) := by decide +kernel
theorem dX10_tell_24 : decode cX10_tell 24 = .ok (.iconst 0, 1) := by decide +kernel
theorem dX10_tell_25 : decode cX10_tell 25 = .ok (.iastore, 1) := by decide +kernel
theorem dX10_tell_26 : decode cX10_tell 26 = .ok (.aload_n 0, 1) := by decide +kernel
theorem dX10_tell_27 : decode cX10_tell 27 = .ok (.getfield 22, 3) := by decide +kernel
theorem dX10_tell_30 : decode cX10_tell 30 = .ok (.iload_n 1, 1) := by decide +kernel
theorem dX10_tell_31 : decode cX10_tell 31 = .ok (.iload_n 3, 1) := by decide +kernel
theorem dX10_tell_32 : decode cX10_tell 32 = .ok (.iastore, 1) := by decide +kernel
theorem dX10_tell_33 : decode cX10_tell 33 = .ok (.aload_n 0, 1) := by decide +kernel
theorem dX10_tell_34 : decode cX10_tell 34 = .ok (.getfield 25, 3) := by decide +kernel
theorem dX10_tell_37 : decode cX10_tell 37 = .ok (.iload_n 1, 1) := by decide +kernel
theorem dX10_tell_38 : decode cX10_tell 38 = .ok (.iload 4, 2) := by decide +kernel
theorem dX10_tell_40 : decode cX10_tell 40 = .ok (.iastore, 1) := by decide +kernel
theorem dX10_tell_41 : decode cX10_tell 41 = .ok (.aload_n 0, 1) := by decide +kernel
theorem dX10_tell_42 : decode cX10_tell 42 = .ok (.getfield 28, 3) := by decide +kernel
theorem dX10_tell_45 : decode cX10_tell 45 = .ok (.iload_n 1, 1) := by decide +kernel
theorem dX10_tell_46 : decode cX10_tell 46 = .ok (.iconst 0, 1) := by decide +kernel
theorem dX10_tell_47 : decode cX10_tell 47 = .ok (.iastore, 1) := by decide +kernel
theorem dX10_tell_48 : decode cX10_tell 48 = .ok (.return_, 1) := by decide +kernel
set_option maxRecDepth 20000 in
set_option maxHeartbeats 4000000 in
theorem c_Works_tell (E : xE) (l : Launch) (a : Nat → Nat) (ws : va_W) (hW : WX (okX E a) ws) (t : Nat) (ht : tb t) (i0 : Nat) (nd : Int32) (wo : Int32) (by0 : Int32) (hi0 : i0 ≤ 7) : xV E l yX10_tell cX10_tell 5 0 0 0 [.ref (a (t + 16)), .int (nI i0), .int nd, .int wo, .int by0] ws (fun w => WX (okX E a) w ∧ keeps ws w (fun q => t ≤ q ∧ q < t + 22 ∧ q ≠ t + 1 ∧ q ≠ t + 4)) := by
  refine xV_start (lv := [(0, .ref (a (t + 16))), (1, .int (nI i0)), (2, .int nd), (3, .int wo), (4, .int by0)]) RX10 (by decide) rfl (Nat.le_of_ble_eq_true rfl) rfl (fun p e s m below meth c A C hr hlk hin => ?_)
  have htb := tb_lo ht
  have kp0 : keeps ws ws (fun q => t ≤ q ∧ q < t + 22 ∧ q ≠ t + 1 ∧ q ≠ t + 4) := keeps_rf
  refine x_aload_n C dX10_tell_0 rfl 0 rfl rfl ?_
  refine x_dup C dX10_tell_1 rfl rfl ?_
  obtain ⟨_, k1, v2, rfl⟩ := hW (t + 16) _ (okX_t ht (j := 16) rfl)
  refine x_get C (ci := 9) (k := 0) (t + 16) k1 rfl in_X10 (by decide) w_168 rfl dX10_tell_2 rfl ?_
  refine x_iconst C (v := 1) dX10_tell_5 (by decide) rfl ?_
  refine x_iload_n C dX10_tell_6 rfl 1 rfl rfl ?_
  refine x_ishl C (v := ((1 : Int32) <<< ((nI i0) &&& 31))) dX10_tell_7 rfl rfl ?_
  refine x_any (fun v3 => ?_)
  refine x_ior C (v := (v2 ||| v3)) dX10_tell_8 rfl rfl ?_
  refine x_any (fun v4 => ?_)
  obtain ⟨w5, hw6⟩ : ∃ w : va_W, w = List.set ws (t + 16) (ob (a (t + 16)) 9 [.int v4, .ref (a (t + 17)), .ref (a (t + 18)), .ref (a (t + 19)), .ref (a (t + 20)), .ref (a (t + 21))]) := ⟨_, rfl⟩
  refine x_put C (ci := 9) (k := 0) (ty := .int) (t + 16) k1 rfl in_X10 tyX10 tyX10_ok nmX10 (by decide) w_168 rfl rfl rfl rfl (Nat.le_of_ble_eq_true rfl) hw6.symm dX10_tell_9 rfl ?_
  have hW7 : WX (okX E a) w5 := by rw [hw6]; exact hW.set (k := (t + 16)) (okX_t ht (j := 16) rfl) ⟨v4, rfl⟩
  have k8 : w5[t + 16]? = some (ob (a (t + 16)) 9 [.int v4, .ref (a (t + 17)), .ref (a (t + 18)), .ref (a (t + 19)), .ref (a (t + 20)), .ref (a (t + 21))]) := by rw [hw6]; exact set_eq k1
  have kp9 := keeps_set kp0 hw6 (by first | exact rfl | decide | omega | (dsimp only; omega))
  refine x_aload_n C dX10_tell_12 rfl 0 rfl rfl ?_
  refine x_get C (ci := 9) (k := 1) (t + 16) k8 rfl in_X10 (by decide) w_170 rfl dX10_tell_13 rfl ?_
  refine x_iload_n C dX10_tell_16 rfl 1 rfl rfl ?_
  refine x_iload_n C dX10_tell_17 rfl 2 rfl rfl ?_
  obtain ⟨_, k10, f11, rfl⟩ := hW7 (t + 17) _ (okX_t ht (j := 17) rfl)
  obtain ⟨w12, hw13⟩ : ∃ w : va_W, w = List.set w5 (t + 17) (iA E (a (t + 17)) 8 (upd f11 (nI i0).toNatClampNeg nd)) := ⟨_, rfl⟩
  refine x_iast C (t + 17) k10 (vp_in_nI (by omega) (by decide)) hw13.symm dX10_tell_18 rfl ?_
  have hW14 : WX (okX E a) w12 := by rw [hw13]; exact hW7.set (k := (t + 17)) (okX_t ht (j := 17) rfl) ⟨_, rfl⟩
  have k15 : w12[t + 16]? = some (ob (a (t + 16)) 9 [.int v4, .ref (a (t + 17)), .ref (a (t + 18)), .ref (a (t + 19)), .ref (a (t + 20)), .ref (a (t + 21))]) := by rw [hw13]; exact set_ne k8 (by omega)
  have k16 : w12[t + 17]? = some (iA E (a (t + 17)) 8 (upd f11 (nI i0).toNatClampNeg nd)) := by rw [hw13]; exact set_eq k10
  have kp17 := keeps_set kp9 hw13 (by first | exact rfl | decide | omega | (dsimp only; omega))
  refine x_aload_n C dX10_tell_19 rfl 0 rfl rfl ?_
  refine x_get C (ci := 9) (k := 2) (t + 16) k15 rfl in_X10 (by decide) w_173 rfl dX10_tell_20 rfl ?_
  refine x_iload_n C dX10_tell_23 rfl 1 rfl rfl ?_
  refine x_iconst C (v := 0) dX10_tell_24 (by decide) rfl ?_
  obtain ⟨_, k18, f19, rfl⟩ := hW14 (t + 18) _ (okX_t ht (j := 18) rfl)
  obtain ⟨w20, hw21⟩ : ∃ w : va_W, w = List.set w12 (t + 18) (iA E (a (t + 18)) 8 (upd f19 (nI i0).toNatClampNeg 0)) := ⟨_, rfl⟩
  refine x_iast C (t + 18) k18 (vp_in_nI (by omega) (by decide)) hw21.symm dX10_tell_25 rfl ?_
  have hW22 : WX (okX E a) w20 := by rw [hw21]; exact hW14.set (k := (t + 18)) (okX_t ht (j := 18) rfl) ⟨_, rfl⟩
  have k23 : w20[t + 16]? = some (ob (a (t + 16)) 9 [.int v4, .ref (a (t + 17)), .ref (a (t + 18)), .ref (a (t + 19)), .ref (a (t + 20)), .ref (a (t + 21))]) := by rw [hw21]; exact set_ne k15 (by omega)
  have k24 : w20[t + 17]? = some (iA E (a (t + 17)) 8 (upd f11 (nI i0).toNatClampNeg nd)) := by rw [hw21]; exact set_ne k16 (by omega)
  have k25 : w20[t + 18]? = some (iA E (a (t + 18)) 8 (upd f19 (nI i0).toNatClampNeg 0)) := by rw [hw21]; exact set_eq k18
  have kp26 := keeps_set kp17 hw21 (by first | exact rfl | decide | omega | (dsimp only; omega))
  refine x_aload_n C dX10_tell_26 rfl 0 rfl rfl ?_
  refine x_get C (ci := 9) (k := 3) (t + 16) k23 rfl in_X10 (by decide) w_176 rfl dX10_tell_27 rfl ?_
  refine x_iload_n C dX10_tell_30 rfl 1 rfl rfl ?_
  refine x_iload_n C dX10_tell_31 rfl 3 rfl rfl ?_
  obtain ⟨_, k27, f28, rfl⟩ := hW22 (t + 19) _ (okX_t ht (j := 19) rfl)
  obtain ⟨w29, hw30⟩ : ∃ w : va_W, w = List.set w20 (t + 19) (iA E (a (t + 19)) 8 (upd f28 (nI i0).toNatClampNeg wo)) := ⟨_, rfl⟩
  refine x_iast C (t + 19) k27 (vp_in_nI (by omega) (by decide)) hw30.symm dX10_tell_32 rfl ?_
  have hW31 : WX (okX E a) w29 := by rw [hw30]; exact hW22.set (k := (t + 19)) (okX_t ht (j := 19) rfl) ⟨_, rfl⟩
  have k32 : w29[t + 16]? = some (ob (a (t + 16)) 9 [.int v4, .ref (a (t + 17)), .ref (a (t + 18)), .ref (a (t + 19)), .ref (a (t + 20)), .ref (a (t + 21))]) := by rw [hw30]; exact set_ne k23 (by omega)
  have k33 : w29[t + 17]? = some (iA E (a (t + 17)) 8 (upd f11 (nI i0).toNatClampNeg nd)) := by rw [hw30]; exact set_ne k24 (by omega)
  have k34 : w29[t + 18]? = some (iA E (a (t + 18)) 8 (upd f19 (nI i0).toNatClampNeg 0)) := by rw [hw30]; exact set_ne k25 (by omega)
  have k35 : w29[t + 19]? = some (iA E (a (t + 19)) 8 (upd f28 (nI i0).toNatClampNeg wo)) := by rw [hw30]; exact set_eq k27
  have kp36 := keeps_set kp26 hw30 (by first | exact rfl | decide | omega | (dsimp only; omega))
  refine x_aload_n C dX10_tell_33 rfl 0 rfl rfl ?_
  refine x_get C (ci := 9) (k := 4) (t + 16) k32 rfl in_X10 (by decide) w_179 rfl dX10_tell_34 rfl ?_
  refine x_iload_n C dX10_tell_37 rfl 1 rfl rfl ?_
  refine x_iload C dX10_tell_38 4 rfl rfl ?_
  obtain ⟨_, k37, f38, rfl⟩ := hW31 (t + 20) _ (okX_t ht (j := 20) rfl)
  obtain ⟨w39, hw40⟩ : ∃ w : va_W, w = List.set w29 (t + 20) (iA E (a (t + 20)) 8 (upd f38 (nI i0).toNatClampNeg by0)) := ⟨_, rfl⟩
  refine x_iast C (t + 20) k37 (vp_in_nI (by omega) (by decide)) hw40.symm dX10_tell_40 rfl ?_
  have hW41 : WX (okX E a) w39 := by rw [hw40]; exact hW31.set (k := (t + 20)) (okX_t ht (j := 20) rfl) ⟨_, rfl⟩
  have k42 : w39[t + 16]? = some (ob (a (t + 16)) 9 [.int v4, .ref (a (t + 17)), .ref (a (t + 18)), .ref (a (t + 19)), .ref (a (t + 20)), .ref (a (t + 21))]) := by rw [hw40]; exact set_ne k32 (by omega)
  have k43 : w39[t + 17]? = some (iA E (a (t + 17)) 8 (upd f11 (nI i0).toNatClampNeg nd)) := by rw [hw40]; exact set_ne k33 (by omega)
  have k44 : w39[t + 18]? = some (iA E (a (t + 18)) 8 (upd f19 (nI i0).toNatClampNeg 0)) := by rw [hw40]; exact set_ne k34 (by omega)
  have k45 : w39[t + 19]? = some (iA E (a (t + 19)) 8 (upd f28 (nI i0).toNatClampNeg wo)) := by rw [hw40]; exact set_ne k35 (by omega)
  have k46 : w39[t + 20]? = some (iA E (a (t + 20)) 8 (upd f38 (nI i0).toNatClampNeg by0)) := by rw [hw40]; exact set_eq k37
  have kp47 := keeps_set kp36 hw40 (by first | exact rfl | decide | omega | (dsimp only; omega))
  refine x_aload_n C dX10_tell_41 rfl 0 rfl rfl ?_
  refine x_get C (ci := 9) (k := 5) (t + 16) k42 rfl in_X10 (by decide) w_181 rfl dX10_tell_42 rfl ?_
  refine x_iload_n C dX10_tell_45 rfl 1 rfl rfl ?_
  refine x_iconst C (v := 0) dX10_tell_46 (by decide) rfl ?_
  obtain ⟨_, k48, f49, rfl⟩ := hW41 (t + 21) _ (okX_t ht (j := 21) rfl)
  obtain ⟨w50, hw51⟩ : ∃ w : va_W, w = List.set w39 (t + 21) (iA E (a (t + 21)) 8 (upd f49 (nI i0).toNatClampNeg 0)) := ⟨_, rfl⟩
  refine x_iast C (t + 21) k48 (vp_in_nI (by omega) (by decide)) hw51.symm dX10_tell_47 rfl ?_
  have hW52 : WX (okX E a) w50 := by rw [hw51]; exact hW41.set (k := (t + 21)) (okX_t ht (j := 21) rfl) ⟨_, rfl⟩
  have k53 : w50[t + 16]? = some (ob (a (t + 16)) 9 [.int v4, .ref (a (t + 17)), .ref (a (t + 18)), .ref (a (t + 19)), .ref (a (t + 20)), .ref (a (t + 21))]) := by rw [hw51]; exact set_ne k42 (by omega)
  have k54 : w50[t + 17]? = some (iA E (a (t + 17)) 8 (upd f11 (nI i0).toNatClampNeg nd)) := by rw [hw51]; exact set_ne k43 (by omega)
  have k55 : w50[t + 18]? = some (iA E (a (t + 18)) 8 (upd f19 (nI i0).toNatClampNeg 0)) := by rw [hw51]; exact set_ne k44 (by omega)
  have k56 : w50[t + 19]? = some (iA E (a (t + 19)) 8 (upd f28 (nI i0).toNatClampNeg wo)) := by rw [hw51]; exact set_ne k45 (by omega)
  have k57 : w50[t + 20]? = some (iA E (a (t + 20)) 8 (upd f38 (nI i0).toNatClampNeg by0)) := by rw [hw51]; exact set_ne k46 (by omega)
  have k58 : w50[t + 21]? = some (iA E (a (t + 21)) 8 (upd f49 (nI i0).toNatClampNeg 0)) := by rw [hw51]; exact set_eq k48
  have kp59 := keeps_set kp47 hw51 (by first | exact rfl | decide | omega | (dsimp only; omega))
  exact x_vret C hr hlk dX10_tell_48 ⟨hW52, kp59⟩
theorem dX10_isDone_0 : decode cX10_isDone 0 = .ok (.aload_n 0, 1) := by decide +kernel
theorem dX10_isDone_1 : decode cX10_isDone 1 = .ok (.iload_n 1, 1) := by decide +kernel
theorem dX10_isDone_2 : decode cX10_isDone 2 = .ok (.invokevirtual 35, 3) := by decide +kernel
theorem dX10_isDone_5 : decode cX10_isDone 5 = .ok (.ifCond .eq 22, 3) := by decide +kernel
theorem dX10_isDone_8 : decode cX10_isDone 8 = .ok (.aload_n 0, 1) := by decide +kernel
theorem dX10_isDone_9 : decode cX10_isDone 9 = .ok (.getfield 19, 3) := by decide +kernel
theorem dX10_isDone_12 : decode cX10_isDone 12 = .ok (.iload_n 1, 1) := by decide +kernel
theorem dX10_isDone_13 : decode cX10_isDone 13 = .ok (.iaload, 1) := by decide +kernel
theorem dX10_isDone_14 : decode cX10_isDone 14 = .ok (.aload_n 0, 1) := by decide +kernel
theorem dX10_isDone_15 : decode cX10_isDone 15 = .ok (.getfield 15, 3) := by decide +kernel
theorem dX10_isDone_18 : decode cX10_isDone 18 = .ok (.iload_n 1, 1) := by decide +kernel
theorem dX10_isDone_19 : decode cX10_isDone 19 = .ok (.iaload, 1) := by decide +kernel
theorem dX10_isDone_20 : decode cX10_isDone 20 = .ok (.if_icmp .lt 7, 3) := by decide +kernel
theorem dX10_isDone_23 : decode cX10_isDone 23 = .ok (.iconst 1, 1) := by decide +kernel
theorem dX10_isDone_24 : decode cX10_isDone 24 = .ok (.goto 4, 3) := by decide +kernel
theorem dX10_isDone_27 : decode cX10_isDone 27 = .ok (.iconst 0, 1) := by decide +kernel
theorem dX10_isDone_28 : decode cX10_isDone 28 = .ok (.ireturn, 1) := by decide +kernel
set_option maxRecDepth 20000 in
set_option maxHeartbeats 4000000 in
theorem c_Works_isDone (E : xE) (l : Launch) (a : Nat → Nat) (ws : va_W) (hW : WX (okX E a) ws) (t : Nat) (ht : tb t) (i0 : Int32) : xI E l yX10_isDone cX10_isDone 2 (some .boolean) 2 [.ref (a (t + 16)), .int i0] ws (fun r w => w = ws ∧ zb r ∧ (¬ r = 0 → wth i0 0 7)) := by
  refine xI_start (lv := [(0, .ref (a (t + 16))), (1, .int i0)]) RX10 (by decide) rfl (Nat.le_of_ble_eq_true rfl) rfl (fun p e s m below meth c A C hr hlk => ?_)
  have htb := tb_lo ht
  refine x_aload_n C dX10_isDone_0 rfl 0 rfl rfl ?_
  refine x_iload_n C dX10_isDone_1 rfl 1 rfl rfl ?_
  obtain ⟨_, k1, v2, rfl⟩ := hW (t + 16) _ (okX_t ht (j := 16) rfl)
  refine x_vi C (As := [.int i0]) (rest := []) (c_Works_isTold E l a ws hW t ht i0) mf_X10_isTold w_710 (t + 16) k1 rfl rfl rfl (Nat.le_of_ble_eq_true rfl) ⟨(Nat.le_of_ble_eq_true rfl), (Nat.le_of_ble_eq_true rfl)⟩ ⟨(Nat.le_of_ble_eq_true rfl), (Nat.le_of_ble_eq_true rfl)⟩ dX10_isDone_2 rfl (fun r4 w5 h3 => ?_)
  obtain ⟨hW6, zb7, x8⟩ := h3
  refine x_ws hW6 ?_
  refine x_if_eq C (tgt := 27) dX10_isDone_5 (by decide) rfl (fun c9 => ?_) (fun c9 => ?_)
  · skip
    refine x_iconst C (v := 0) dX10_isDone_27 (by decide) rfl ?_
    exact x_zret C hr hlk rfl dX10_isDone_28 ⟨rfl, (Or.inl rfl), (fun q => absurd rfl q)⟩
  · skip
    obtain ⟨j10, hl11, hh12, ej13⟩ := w_nat (a := 0) (b := 7) (by decide) (by decide) (x8 c9)
    subst ej13
    refine x_aload_n C dX10_isDone_8 rfl 0 rfl rfl ?_
    refine x_get C (ci := 9) (k := 2) (t + 16) k1 rfl in_X10 (by decide) w_173 rfl dX10_isDone_9 rfl ?_
    refine x_iload_n C dX10_isDone_12 rfl 1 rfl rfl ?_
    obtain ⟨_, k14, f15, rfl⟩ := hW (t + 18) _ (okX_t ht (j := 18) rfl)
    refine x_iald C (v := (f15 (nI j10).toNatClampNeg)) (t + 18) k14 (vp_in_nI (by omega) (by decide)) rfl dX10_isDone_13 rfl ?_
    refine x_any (fun v16 => ?_)
    refine x_aload_n C dX10_isDone_14 rfl 0 rfl rfl ?_
    refine x_get C (ci := 9) (k := 1) (t + 16) k1 rfl in_X10 (by decide) w_170 rfl dX10_isDone_15 rfl ?_
    refine x_iload_n C dX10_isDone_18 rfl 1 rfl rfl ?_
    obtain ⟨_, k17, f18, rfl⟩ := hW (t + 17) _ (okX_t ht (j := 17) rfl)
    refine x_iald C (v := (f18 (nI j10).toNatClampNeg)) (t + 17) k17 (vp_in_nI (by omega) (by decide)) rfl dX10_isDone_19 rfl ?_
    refine x_any (fun v19 => ?_)
    refine x_icmp_lt C (tgt := 27) dX10_isDone_20 (by decide) rfl (fun c20 => ?_) (fun c20 => ?_)
    · skip
      refine x_iconst C (v := 0) dX10_isDone_27 (by decide) rfl ?_
      exact x_zret C hr hlk rfl dX10_isDone_28 ⟨rfl, (Or.inl rfl), (fun q => absurd rfl q)⟩
    · skip
      refine x_iconst C (v := 1) dX10_isDone_23 (by decide) rfl ?_
      refine x_goto C (tgt := 28) dX10_isDone_24 (by decide) ?_
      exact x_zret C hr hlk rfl dX10_isDone_28 ⟨rfl, (Or.inr rfl), (fun _ => wth_n (a := 0) (b := 7) (by omega) (by omega) (by decide))⟩
