theorem dX9_passDay_0 : decode cX9_passDay 0 = .ok (.aload_n 0, 1) := by decide +kernel
theorem dX9_passDay_1 : decode cX9_passDay 1 = .ok (.getfield 9, 3) := by decide +kernel
theorem dX9_passDay_4 : decode cX9_passDay 4 = .ok (.sipush 9999, 3) := by decide +kernel
theorem dX9_passDay_7 : decode cX9_passDay 7 = .ok (.if_icmp .lt 5, 3) := by decide +kernel
theorem dX9_passDay_12 : decode cX9_passDay 12 = .ok (.iconst 0, 1) := by decide +kernel
theorem dX9_passDay_13 : decode cX9_passDay 13 = .ok (.istore_n 2, 1) := by decide +kernel
theorem dX9_passDay_14 : decode cX9_passDay 14 = .ok (.iload_n 2, 1) := by decide +kernel
theorem dX9_passDay_15 : decode cX9_passDay 15 = .ok (.bipush 8, 2) := by decide +kernel
theorem dX9_passDay_17 : decode cX9_passDay 17 = .ok (.if_icmp .ge 26, 3) := by decide +kernel
theorem dX9_passDay_20 : decode cX9_passDay 20 = .ok (.aload_n 0, 1) := by decide +kernel
theorem dX9_passDay_21 : decode cX9_passDay 21 = .ok (.getfield 21, 3) := by decide +kernel
theorem dX9_passDay_24 : decode cX9_passDay 24 = .ok (.iload_n 2, 1) := by decide +kernel
theorem dX9_passDay_25 : decode cX9_passDay 25 = .ok (.invokevirtual 75, 3) := by decide +kernel
theorem dX9_passDay_28 : decode cX9_passDay 28 = .ok (.ifCond .eq 9, 3) := by decide +kernel
theorem dX9_passDay_37 : decode cX9_passDay 37 = .ok (.iinc 2 1, 3) := by decide +kernel
theorem dX9_passDay_40 : decode cX9_passDay 40 = .ok (.goto (-26), 3) := by decide +kernel
theorem dX9_passDay_43 : decode cX9_passDay 43 = .ok (.iconst 0, 1) := by decide +kernel
theorem dX9_passDay_44 : decode cX9_passDay 44 = .ok (.istore_n 2, 1) := by decide +kernel
theorem dX9_passDay_45 : decode cX9_passDay 45 = .ok (.iload_n 2, 1) := by decide +kernel
theorem dX9_passDay_46 : decode cX9_passDay 46 = .ok (.aload_n 0, 1) := by decide +kernel
theorem dX9_passDay_47 : decode cX9_passDay 47 = .ok (.getfield 35, 3) := by decide +kernel
theorem dX9_passDay_50 : decode cX9_passDay 50 = .ok (.getfield 83, 3) := by decide +kernel
theorem dX9_passDay_53 : decode cX9_passDay 53 = .ok (.if_icmp .ge 26, 3) := by decide +kernel
theorem dX9_passDay_79 : decode cX9_passDay 79 = .ok (.aload_n 0, 1) := by decide +kernel
theorem dX9_passDay_80 : decode cX9_passDay 80 = .ok (.dup, 1) := by decide +kernel
theorem dX9_passDay_81 : decode cX9_passDay 81 = .ok (.getfield 9, 3) := by decide +kernel
theorem dX9_passDay_84 : decode cX9_passDay 84 = .ok (.iconst 1, 1) := by decide +kernel
theorem dX9_passDay_85 : decode cX9_passDay 85 = .ok (.iadd, 1) := by decide +kernel
theorem dX9_passDay_86 : decode cX9_passDay 86 = .ok (.putfield 9, 3) := by decide +kernel
theorem dX9_passDay_89 : decode cX9_passDay 89 = .ok (.iconst 1, 1) := by decide +kernel
theorem dX9_passDay_90 : decode cX9_passDay 90 = .ok (.ireturn, 1) := by decide +kernel
set_option maxRecDepth 20000 in
set_option maxHeartbeats 4000000 in
theorem t_passDay (E : xE) (l : Launch) (ws : va_W) {xn th tp te tw hk ho em el ey eo eb es lw : Nat} {day sx ra rb rc rd : Int32} (a : Nat) (k_0 : ws[a]? = some (ob xn 8 [.int day, .int sx, .ref th, .ref tp, .ref te, .ref tw, .int ra, .int rb, .int rc, .int rd])) (p_1 : Nat) (k_1 : ws[a + 1]? = some (ob th 2 [.int 0, .ref hk, .ref ho])) (p_2 : Nat) (k_2 : ws[a + 9]? = some (ob te 1 [.int 0, .ref em, .ref el, .ref ey, .ref eo, .ref eb, .ref es])) (hd : day < 9999) : xI E l yX9_passDay cX9_passDay 3 (some .boolean) 2 [.ref xn, .ref lw] ws (fun r w => r = 1 ∧ w = ws.set a (ob xn 8 [.int (day + 1), .int sx, .ref th, .ref tp, .ref te, .ref tw, .int ra, .int rb, .int rc, .int rd])) := by
  refine xI_start (lv := [(0, .ref xn), (1, .ref lw)]) RX9 (by decide) rfl (Nat.le_of_ble_eq_true rfl) rfl (fun p e s m below meth c A C hr hlk => ?_)
  refine x_aload_n C dX9_passDay_0 rfl 0 rfl rfl ?_
  refine x_get C (ci := 8) (k := 0) a k_0 rfl in_X9 (by decide) w_195 rfl dX9_passDay_1 rfl ?_
  refine x_sipush C (v := 9999) dX9_passDay_4 (by decide) rfl ?_
  refine x_icmp_lt C (tgt := 12) dX9_passDay_7 (by decide) rfl (fun _ => ?_) (fun h => absurd hd h)
  refine x_iconst C (v := 0) dX9_passDay_12 (by decide) rfl ?_
  refine x_istore_n C (lv' := [(2, .int 0), (0, .ref xn), (1, .ref lw)]) dX9_passDay_13 rfl (by decide) rfl rfl ?_
  refine x_iload_n C dX9_passDay_14 rfl 0 rfl rfl ?_
  refine x_bipush C (v := 8) dX9_passDay_15 (by decide) rfl ?_
  refine x_icmp_ge C (tgt := 43) dX9_passDay_17 (by decide) rfl (fun h => absurd h (by decide)) (fun _ => ?_)
  refine x_aload_n C dX9_passDay_20 rfl 1 rfl rfl ?_
  refine x_get C (ci := 8) (k := 2) a k_0 rfl in_X9 (by decide) w_200 rfl dX9_passDay_21 rfl ?_
  refine x_iload_n C dX9_passDay_24 rfl 0 rfl rfl ?_
  refine x_vi C (As := [.int 0]) (rest := []) (t_Hens_isTold0 E l ws (a + 1) k_1 0) mf_X2_isTold w_826 (a + 1) k_1 rfl rfl rfl (Nat.le_of_ble_eq_true rfl) ⟨(Nat.le_of_ble_eq_true rfl), (Nat.le_of_ble_eq_true rfl)⟩ ⟨(Nat.le_of_ble_eq_true rfl), (Nat.le_of_ble_eq_true rfl)⟩ dX9_passDay_25 rfl (fun r2 w3 h1 => ?_)
  obtain ⟨e4, g5⟩ := h1
  refine x_top e4 ?_
  refine x_ws g5 ?_
  refine x_if_eq C (tgt := 37) dX9_passDay_28 (by decide) rfl (fun _ => ?_) (fun h => absurd h (by decide))
  refine x_iinc C (v := 1) (lv' := [(2, .int 1), (0, .ref xn), (1, .ref lw)]) dX9_passDay_37 0 rfl (by decide) (by decide) rfl rfl ?_
  refine x_goto C (tgt := 14) dX9_passDay_40 (by decide) ?_
  refine x_iload_n C dX9_passDay_14 rfl 0 rfl rfl ?_
  refine x_bipush C (v := 8) dX9_passDay_15 (by decide) rfl ?_
  refine x_icmp_ge C (tgt := 43) dX9_passDay_17 (by decide) rfl (fun h => absurd h (by decide)) (fun _ => ?_)
  refine x_aload_n C dX9_passDay_20 rfl 1 rfl rfl ?_
  refine x_get C (ci := 8) (k := 2) a k_0 rfl in_X9 (by decide) w_200 rfl dX9_passDay_21 rfl ?_
  refine x_iload_n C dX9_passDay_24 rfl 0 rfl rfl ?_
  refine x_vi C (As := [.int 1]) (rest := []) (t_Hens_isTold0 E l ws (a + 1) k_1 1) mf_X2_isTold w_826 (a + 1) k_1 rfl rfl rfl (Nat.le_of_ble_eq_true rfl) ⟨(Nat.le_of_ble_eq_true rfl), (Nat.le_of_ble_eq_true rfl)⟩ ⟨(Nat.le_of_ble_eq_true rfl), (Nat.le_of_ble_eq_true rfl)⟩ dX9_passDay_25 rfl (fun r7 w8 h6 => ?_)
  obtain ⟨e9, g10⟩ := h6
  refine x_top e9 ?_
  refine x_ws g10 ?_
  refine x_if_eq C (tgt := 37) dX9_passDay_28 (by decide) rfl (fun _ => ?_) (fun h => absurd h (by decide))
  refine x_iinc C (v := 2) (lv' := [(2, .int 2), (0, .ref xn), (1, .ref lw)]) dX9_passDay_37 0 rfl (by decide) (by decide) rfl rfl ?_
  refine x_goto C (tgt := 14) dX9_passDay_40 (by decide) ?_
  refine x_iload_n C dX9_passDay_14 rfl 0 rfl rfl ?_
  refine x_bipush C (v := 8) dX9_passDay_15 (by decide) rfl ?_
  refine x_icmp_ge C (tgt := 43) dX9_passDay_17 (by decide) rfl (fun h => absurd h (by decide)) (fun _ => ?_)
  refine x_aload_n C dX9_passDay_20 rfl 1 rfl rfl ?_
  refine x_get C (ci := 8) (k := 2) a k_0 rfl in_X9 (by decide) w_200 rfl dX9_passDay_21 rfl ?_
  refine x_iload_n C dX9_passDay_24 rfl 0 rfl rfl ?_
  refine x_vi C (As := [.int 2]) (rest := []) (t_Hens_isTold0 E l ws (a + 1) k_1 2) mf_X2_isTold w_826 (a + 1) k_1 rfl rfl rfl (Nat.le_of_ble_eq_true rfl) ⟨(Nat.le_of_ble_eq_true rfl), (Nat.le_of_ble_eq_true rfl)⟩ ⟨(Nat.le_of_ble_eq_true rfl), (Nat.le_of_ble_eq_true rfl)⟩ dX9_passDay_25 rfl (fun r12 w13 h11 => ?_)
  obtain ⟨e14, g15⟩ := h11
  refine x_top e14 ?_
  refine x_ws g15 ?_
  refine x_if_eq C (tgt := 37) dX9_passDay_28 (by decide) rfl (fun _ => ?_) (fun h => absurd h (by decide))
  refine x_iinc C (v := 3) (lv' := [(2, .int 3), (0, .ref xn), (1, .ref lw)]) dX9_passDay_37 0 rfl (by decide) (by decide) rfl rfl ?_
  refine x_goto C (tgt := 14) dX9_passDay_40 (by decide) ?_
  refine x_iload_n C dX9_passDay_14 rfl 0 rfl rfl ?_
  refine x_bipush C (v := 8) dX9_passDay_15 (by decide) rfl ?_
  refine x_icmp_ge C (tgt := 43) dX9_passDay_17 (by decide) rfl (fun h => absurd h (by decide)) (fun _ => ?_)
  refine x_aload_n C dX9_passDay_20 rfl 1 rfl rfl ?_
  refine x_get C (ci := 8) (k := 2) a k_0 rfl in_X9 (by decide) w_200 rfl dX9_passDay_21 rfl ?_
  refine x_iload_n C dX9_passDay_24 rfl 0 rfl rfl ?_
  refine x_vi C (As := [.int 3]) (rest := []) (t_Hens_isTold0 E l ws (a + 1) k_1 3) mf_X2_isTold w_826 (a + 1) k_1 rfl rfl rfl (Nat.le_of_ble_eq_true rfl) ⟨(Nat.le_of_ble_eq_true rfl), (Nat.le_of_ble_eq_true rfl)⟩ ⟨(Nat.le_of_ble_eq_true rfl), (Nat.le_of_ble_eq_true rfl)⟩ dX9_passDay_25 rfl (fun r17 w18 h16 => ?_)
  obtain ⟨e19, g20⟩ := h16
  refine x_top e19 ?_
  refine x_ws g20 ?_
  refine x_if_eq C (tgt := 37) dX9_passDay_28 (by decide) rfl (fun _ => ?_) (fun h => absurd h (by decide))
  refine x_iinc C (v := 4) (lv' := [(2, .int 4), (0, .ref xn), (1, .ref lw)]) dX9_passDay_37 0 rfl (by decide) (by decide) rfl rfl ?_
  refine x_goto C (tgt := 14) dX9_passDay_40 (by decide) ?_
  refine x_iload_n C dX9_passDay_14 rfl 0 rfl rfl ?_
  refine x_bipush C (v := 8) dX9_passDay_15 (by decide) rfl ?_
  refine x_icmp_ge C (tgt := 43) dX9_passDay_17 (by decide) rfl (fun h => absurd h (by decide)) (fun _ => ?_)
  refine x_aload_n C dX9_passDay_20 rfl 1 rfl rfl ?_
  refine x_get C (ci := 8) (k := 2) a k_0 rfl in_X9 (by decide) w_200 rfl dX9_passDay_21 rfl ?_
  refine x_iload_n C dX9_passDay_24 rfl 0 rfl rfl ?_
  refine x_vi C (As := [.int 4]) (rest := []) (t_Hens_isTold0 E l ws (a + 1) k_1 4) mf_X2_isTold w_826 (a + 1) k_1 rfl rfl rfl (Nat.le_of_ble_eq_true rfl) ⟨(Nat.le_of_ble_eq_true rfl), (Nat.le_of_ble_eq_true rfl)⟩ ⟨(Nat.le_of_ble_eq_true rfl), (Nat.le_of_ble_eq_true rfl)⟩ dX9_passDay_25 rfl (fun r22 w23 h21 => ?_)
  obtain ⟨e24, g25⟩ := h21
  refine x_top e24 ?_
  refine x_ws g25 ?_
  refine x_if_eq C (tgt := 37) dX9_passDay_28 (by decide) rfl (fun _ => ?_) (fun h => absurd h (by decide))
  refine x_iinc C (v := 5) (lv' := [(2, .int 5), (0, .ref xn), (1, .ref lw)]) dX9_passDay_37 0 rfl (by decide) (by decide) rfl rfl ?_
  refine x_goto C (tgt := 14) dX9_passDay_40 (by decide) ?_
  refine x_iload_n C dX9_passDay_14 rfl 0 rfl rfl ?_
  refine x_bipush C (v := 8) dX9_passDay_15 (by decide) rfl ?_
  refine x_icmp_ge C (tgt := 43) dX9_passDay_17 (by decide) rfl (fun h => absurd h (by decide)) (fun _ => ?_)
  refine x_aload_n C dX9_passDay_20 rfl 1 rfl rfl ?_
  refine x_get C (ci := 8) (k := 2) a k_0 rfl in_X9 (by decide) w_200 rfl dX9_passDay_21 rfl ?_
  refine x_iload_n C dX9_passDay_24 rfl 0 rfl rfl ?_
  refine x_vi C (As := [.int 5]) (rest := []) (t_Hens_isTold0 E l ws (a + 1) k_1 5) mf_X2_isTold w_826 (a + 1) k_1 rfl rfl rfl (Nat.le_of_ble_eq_true rfl) ⟨(Nat.le_of_ble_eq_true rfl), (Nat.le_of_ble_eq_true rfl)⟩ ⟨(Nat.le_of_ble_eq_true rfl), (Nat.le_of_ble_eq_true rfl)⟩ dX9_passDay_25 rfl (fun r27 w28 h26 => ?_)
  obtain ⟨e29, g30⟩ := h26
  refine x_top e29 ?_
  refine x_ws g30 ?_
  refine x_if_eq C (tgt := 37) dX9_passDay_28 (by decide) rfl (fun _ => ?_) (fun h => absurd h (by decide))
  refine x_iinc C (v := 6) (lv' := [(2, .int 6), (0, .ref xn), (1, .ref lw)]) dX9_passDay_37 0 rfl (by decide) (by decide) rfl rfl ?_
  refine x_goto C (tgt := 14) dX9_passDay_40 (by decide) ?_
  refine x_iload_n C dX9_passDay_14 rfl 0 rfl rfl ?_
  refine x_bipush C (v := 8) dX9_passDay_15 (by decide) rfl ?_
  refine x_icmp_ge C (tgt := 43) dX9_passDay_17 (by decide) rfl (fun h => absurd h (by decide)) (fun _ => ?_)
  refine x_aload_n C dX9_passDay_20 rfl 1 rfl rfl ?_
  refine x_get C (ci := 8) (k := 2) a k_0 rfl in_X9 (by decide) w_200 rfl dX9_passDay_21 rfl ?_
  refine x_iload_n C dX9_passDay_24 rfl 0 rfl rfl ?_
  refine x_vi C (As := [.int 6]) (rest := []) (t_Hens_isTold0 E l ws (a + 1) k_1 6) mf_X2_isTold w_826 (a + 1) k_1 rfl rfl rfl (Nat.le_of_ble_eq_true rfl) ⟨(Nat.le_of_ble_eq_true rfl), (Nat.le_of_ble_eq_true rfl)⟩ ⟨(Nat.le_of_ble_eq_true rfl), (Nat.le_of_ble_eq_true rfl)⟩ dX9_passDay_25 rfl (fun r32 w33 h31 => ?_)
  obtain ⟨e34, g35⟩ := h31
  refine x_top e34 ?_
  refine x_ws g35 ?_
  refine x_if_eq C (tgt := 37) dX9_passDay_28 (by decide) rfl (fun _ => ?_) (fun h => absurd h (by decide))
  refine x_iinc C (v := 7) (lv' := [(2, .int 7), (0, .ref xn), (1, .ref lw)]) dX9_passDay_37 0 rfl (by decide) (by decide) rfl rfl ?_
  refine x_goto C (tgt := 14) dX9_passDay_40 (by decide) ?_
  refine x_iload_n C dX9_passDay_14 rfl 0 rfl rfl ?_
  refine x_bipush C (v := 8) dX9_passDay_15 (by decide) rfl ?_
  refine x_icmp_ge C (tgt := 43) dX9_passDay_17 (by decide) rfl (fun h => absurd h (by decide)) (fun _ => ?_)
  refine x_aload_n C dX9_passDay_20 rfl 1 rfl rfl ?_
  refine x_get C (ci := 8) (k := 2) a k_0 rfl in_X9 (by decide) w_200 rfl dX9_passDay_21 rfl ?_
  refine x_iload_n C dX9_passDay_24 rfl 0 rfl rfl ?_
  refine x_vi C (As := [.int 7]) (rest := []) (t_Hens_isTold0 E l ws (a + 1) k_1 7) mf_X2_isTold w_826 (a + 1) k_1 rfl rfl rfl (Nat.le_of_ble_eq_true rfl) ⟨(Nat.le_of_ble_eq_true rfl), (Nat.le_of_ble_eq_true rfl)⟩ ⟨(Nat.le_of_ble_eq_true rfl), (Nat.le_of_ble_eq_true rfl)⟩ dX9_passDay_25 rfl (fun r37 w38 h36 => ?_)
  obtain ⟨e39, g40⟩ := h36
  refine x_top e39 ?_
  refine x_ws g40 ?_
  refine x_if_eq C (tgt := 37) dX9_passDay_28 (by decide) rfl (fun _ => ?_) (fun h => absurd h (by decide))
  refine x_iinc C (v := 8) (lv' := [(2, .int 8), (0, .ref xn), (1, .ref lw)]) dX9_passDay_37 0 rfl (by decide) (by decide) rfl rfl ?_
  refine x_goto C (tgt := 14) dX9_passDay_40 (by decide) ?_
  refine x_iload_n C dX9_passDay_14 rfl 0 rfl rfl ?_
  refine x_bipush C (v := 8) dX9_passDay_15 (by decide) rfl ?_
  refine x_icmp_ge C (tgt := 43) dX9_passDay_17 (by decide) rfl (fun _ => ?_) (fun h => absurd h (by decide))
  refine x_iconst C (v := 0) dX9_passDay_43 (by decide) rfl ?_
  refine x_istore_n C (lv' := [(2, .int 0), (0, .ref xn), (1, .ref lw)]) dX9_passDay_44 rfl (by decide) rfl rfl ?_
  refine x_iload_n C dX9_passDay_45 rfl 0 rfl rfl ?_
  refine x_aload_n C dX9_passDay_46 rfl 1 rfl rfl ?_
  refine x_get C (ci := 8) (k := 4) a k_0 rfl in_X9 (by decide) w_206 rfl dX9_passDay_47 rfl ?_
  refine x_get C (ci := 1) (k := 0) (a + 9) k_2 rfl in_X1 (by decide) w_121 rfl dX9_passDay_50 rfl ?_
  refine x_icmp_ge C (tgt := 79) dX9_passDay_53 (by decide) rfl (fun _ => ?_) (fun h => absurd h (by decide))
  refine x_aload_n C dX9_passDay_79 rfl 1 rfl rfl ?_
  refine x_dup C dX9_passDay_80 rfl rfl ?_
  refine x_get C (ci := 8) (k := 0) a k_0 rfl in_X9 (by decide) w_195 rfl dX9_passDay_81 rfl ?_
  refine x_iconst C (v := 1) dX9_passDay_84 (by decide) rfl ?_
  refine x_iadd C (v := (day + (1 : Int32))) dX9_passDay_85 rfl rfl ?_
  obtain ⟨w41, hw42⟩ : ∃ w : va_W, w = List.set ws a (ob xn 8 [.int (day + (1 : Int32)), .int sx, .ref th, .ref tp, .ref te, .ref tw, .int ra, .int rb, .int rc, .int rd]) := ⟨_, rfl⟩
  refine x_put C (ci := 8) (k := 0) (ty := .int) a k_0 rfl in_X9 tyX9 tyX9_ok nmX9 (by decide) w_195 rfl rfl rfl rfl (Nat.le_of_ble_eq_true rfl) hw42.symm dX9_passDay_86 rfl ?_
  have k43 : w41[a]? = some (ob xn 8 [.int (day + (1 : Int32)), .int sx, .ref th, .ref tp, .ref te, .ref tw, .int ra, .int rb, .int rc, .int rd]) := by rw [hw42]; exact set_eq k_0
  have k44 : w41[a + 1]? = some (ob th 2 [.int 0, .ref hk, .ref ho]) := by rw [hw42]; exact set_ne k_1 (by omega)
  have k45 : w41[a + 9]? = some (ob te 1 [.int 0, .ref em, .ref el, .ref ey, .ref eo, .ref eb, .ref es]) := by rw [hw42]; exact set_ne k_2 (by omega)
  refine x_iconst C (v := 1) dX9_passDay_89 (by decide) rfl ?_
  exact x_zret C hr hlk rfl dX9_passDay_90 ⟨by first | rfl | (simp [bI]; done) | (simp_all [bI]; done), (by rw [hw42])⟩
theorem dX9_passDays_0 : decode cX9_passDays 0 = .ok (.aload_n 0, 1) := by decide +kernel
theorem dX9_passDays_1 : decode cX9_passDays 1 = .ok (.iconst 0, 1) := by decide +kernel
theorem dX9_passDays_2 : decode cX9_passDays 2 = .ok (.putfield 46, 3) := by decide +kernel
theorem dX9_passDays_5 : decode cX9_passDays 5 = .ok (.aload_n 0, 1) := by decide +kernel
theorem dX9_passDays_6 : decode cX9_passDays 6 = .ok (.iconst 0, 1) := by decide +kernel
theorem dX9_passDays_7 : decode cX9_passDays 7 = .ok (.putfield 49, 3) := by decide +kernel
theorem dX9_passDays_10 : decode cX9_passDays 10 = .ok (.aload_n 0, 1) := by decide +kernel
theorem dX9_passDays_11 : decode cX9_passDays 11 = .ok (.iconst 0, 1) := by decide +kernel
theorem dX9_passDays_12 : decode cX9_passDays 12 = .ok (.putfield 52, 3) := by decide +kernel
theorem dX9_passDays_15 : decode cX9_passDays 15 = .ok (.aload_n 0, 1) := by decide +kernel
theorem dX9_passDays_16 : decode cX9_passDays 16 = .ok (.iconst 0, 1) := by decide +kernel
theorem dX9_passDays_17 : decode cX9_passDays 17 = .ok (.putfield 55, 3) := by decide +kernel
theorem dX9_passDays_20 : decode cX9_passDays 20 = .ok (.iconst 0, 1) := by decide +kernel
theorem dX9_passDays_21 : decode cX9_passDays 21 = .ok (.istore_n 3, 1) := by decide +kernel
theorem dX9_passDays_22 : decode cX9_passDays 22 = .ok (.iload_n 3, 1) := by decide +kernel
theorem dX9_passDays_23 : decode cX9_passDays 23 = .ok (.iload_n 1, 1) := by decide +kernel
theorem dX9_passDays_24 : decode cX9_passDays 24 = .ok (.if_icmp .ge 18, 3) := by decide +kernel
theorem dX9_passDays_27 : decode cX9_passDays 27 = .ok (.aload_n 0, 1) := by decide +kernel
theorem dX9_passDays_28 : decode cX9_passDays 28 = .ok (.aload_n 2, 1) := by decide +kernel
theorem dX9_passDays_29 : decode cX9_passDays 29 = .ok (.invokevirtual 71, 3) := by decide +kernel
theorem dX9_passDays_32 : decode cX9_passDays 32 = .ok (.ifCond .ne 4, 3) := by decide +kernel
theorem dX9_passDays_36 : decode cX9_passDays 36 = .ok (.iinc 3 1, 3) := by decide +kernel
theorem dX9_passDays_39 : decode cX9_passDays 39 = .ok (.goto (-17), 3) := by decide +kernel
theorem dX9_passDays_42 : decode cX9_passDays 42 = .ok (.return_, 1) := by decide +kernel
set_option maxRecDepth 20000 in
set_option maxHeartbeats 4000000 in
theorem t_passDays (E : xE) (l : Launch) (ws : va_W) {xn th tp te tw hk ho em el ey eo eb es lw : Nat} {sx ra rb rc rd : Int32} (a : Nat) (k_0 : ws[a]? = some (ob xn 8 [.int 0, .int sx, .ref th, .ref tp, .ref te, .ref tw, .int ra, .int rb, .int rc, .int rd])) (p_1 : Nat) (k_1 : ws[a + 1]? = some (ob th 2 [.int 0, .ref hk, .ref ho])) (p_2 : Nat) (k_2 : ws[a + 9]? = some (ob te 1 [.int 0, .ref em, .ref el, .ref ey, .ref eo, .ref eb, .ref es])) (j : Nat) (hj : j ≤ 60) : xV E l yX9_passDays cX9_passDays 4 3 0 0 [.ref xn, .int (nI j), .ref lw] ws (fun w => keeps ws w (fun q => q = a) ∧ ∃ dd : Int32, w[a]? = some (ob xn 8 [.int dd, .int sx, .ref th, .ref tp, .ref te, .ref tw, .int 0, .int 0, .int 0, .int 0])) := by
  refine xV_start (lv := [(0, .ref xn), (1, .int (nI j)), (2, .ref lw)]) RX9 (by decide) rfl (Nat.le_of_ble_eq_true rfl) rfl (fun p e s m below meth c A C hr hlk hin => ?_)
  have kp0 : keeps ws ws (fun q => q = a) := keeps_rf
  refine x_aload_n C dX9_passDays_0 rfl 0 rfl rfl ?_
  refine x_iconst C (v := 0) dX9_passDays_1 (by decide) rfl ?_
  obtain ⟨w1, hw2⟩ : ∃ w : va_W, w = List.set ws a (ob xn 8 [.int 0, .int sx, .ref th, .ref tp, .ref te, .ref tw, .int 0, .int rb, .int rc, .int rd]) := ⟨_, rfl⟩
  refine x_put C (ci := 8) (k := 6) (ty := .int) a k_0 rfl in_X9 tyX9 tyX9_ok nmX9 (by decide) w_215 rfl rfl rfl rfl (Nat.le_of_ble_eq_true rfl) hw2.symm dX9_passDays_2 rfl ?_
  have k3 : w1[a]? = some (ob xn 8 [.int 0, .int sx, .ref th, .ref tp, .ref te, .ref tw, .int 0, .int rb, .int rc, .int rd]) := by rw [hw2]; exact set_eq k_0
  have k4 : w1[a + 1]? = some (ob th 2 [.int 0, .ref hk, .ref ho]) := by rw [hw2]; exact set_ne k_1 (by omega)
  have k5 : w1[a + 9]? = some (ob te 1 [.int 0, .ref em, .ref el, .ref ey, .ref eo, .ref eb, .ref es]) := by rw [hw2]; exact set_ne k_2 (by omega)
  have kp6 := keeps_set kp0 hw2 (by first | exact rfl | decide | omega | (dsimp only; omega))
  refine x_aload_n C dX9_passDays_5 rfl 0 rfl rfl ?_
  refine x_iconst C (v := 0) dX9_passDays_6 (by decide) rfl ?_
  obtain ⟨w7, hw8⟩ : ∃ w : va_W, w = List.set w1 a (ob xn 8 [.int 0, .int sx, .ref th, .ref tp, .ref te, .ref tw, .int 0, .int 0, .int rc, .int rd]) := ⟨_, rfl⟩
  refine x_put C (ci := 8) (k := 7) (ty := .int) a k3 rfl in_X9 tyX9 tyX9_ok nmX9 (by decide) w_217 rfl rfl rfl rfl (Nat.le_of_ble_eq_true rfl) hw8.symm dX9_passDays_7 rfl ?_
  have k9 : w7[a]? = some (ob xn 8 [.int 0, .int sx, .ref th, .ref tp, .ref te, .ref tw, .int 0, .int 0, .int rc, .int rd]) := by rw [hw8]; exact set_eq k3
  have k10 : w7[a + 1]? = some (ob th 2 [.int 0, .ref hk, .ref ho]) := by rw [hw8]; exact set_ne k4 (by omega)
  have k11 : w7[a + 9]? = some (ob te 1 [.int 0, .ref em, .ref el, .ref ey, .ref eo, .ref eb, .ref es]) := by rw [hw8]; exact set_ne k5 (by omega)
  have kp12 := keeps_set kp6 hw8 (by first | exact rfl | decide | omega | (dsimp only; omega))
  refine x_aload_n C dX9_passDays_10 rfl 0 rfl rfl ?_
  refine x_iconst C (v := 0) dX9_passDays_11 (by decide) rfl ?_
  obtain ⟨w13, hw14⟩ : ∃ w : va_W, w = List.set w7 a (ob xn 8 [.int 0, .int sx, .ref th, .ref tp, .ref te, .ref tw, .int 0, .int 0, .int 0, .int rd]) := ⟨_, rfl⟩
  refine x_put C (ci := 8) (k := 8) (ty := .int) a k9 rfl in_X9 tyX9 tyX9_ok nmX9 (by decide) w_219 rfl rfl rfl rfl (Nat.le_of_ble_eq_true rfl) hw14.symm dX9_passDays_12 rfl ?_
  have k15 : w13[a]? = some (ob xn 8 [.int 0, .int sx, .ref th, .ref tp, .ref te, .ref tw, .int 0, .int 0, .int 0, .int rd]) := by rw [hw14]; exact set_eq k9
  have k16 : w13[a + 1]? = some (ob th 2 [.int 0, .ref hk, .ref ho]) := by rw [hw14]; exact set_ne k10 (by omega)
  have k17 : w13[a + 9]? = some (ob te 1 [.int 0, .ref em, .ref el, .ref ey, .ref eo, .ref eb, .ref es]) := by rw [hw14]; exact set_ne k11 (by omega)
  have kp18 := keeps_set kp12 hw14 (by first | exact rfl | decide | omega | (dsimp only; omega))
  refine x_aload_n C dX9_passDays_15 rfl 0 rfl rfl ?_
  refine x_iconst C (v := 0) dX9_passDays_16 (by decide) rfl ?_
  obtain ⟨w19, hw20⟩ : ∃ w : va_W, w = List.set w13 a (ob xn 8 [.int 0, .int sx, .ref th, .ref tp, .ref te, .ref tw, .int 0, .int 0, .int 0, .int 0]) := ⟨_, rfl⟩
  refine x_put C (ci := 8) (k := 9) (ty := .int) a k15 rfl in_X9 tyX9 tyX9_ok nmX9 (by decide) w_221 rfl rfl rfl rfl (Nat.le_of_ble_eq_true rfl) hw20.symm dX9_passDays_17 rfl ?_
  have k21 : w19[a]? = some (ob xn 8 [.int 0, .int sx, .ref th, .ref tp, .ref te, .ref tw, .int 0, .int 0, .int 0, .int 0]) := by rw [hw20]; exact set_eq k15
  have k22 : w19[a + 1]? = some (ob th 2 [.int 0, .ref hk, .ref ho]) := by rw [hw20]; exact set_ne k16 (by omega)
  have k23 : w19[a + 9]? = some (ob te 1 [.int 0, .ref em, .ref el, .ref ey, .ref eo, .ref eb, .ref es]) := by rw [hw20]; exact set_ne k17 (by omega)
  have kp24 := keeps_set kp18 hw20 (by first | exact rfl | decide | omega | (dsimp only; omega))
  refine x_iconst C (v := 0) dX9_passDays_20 (by decide) rfl ?_
  refine x_istore_n C (lv' := [(3, .int 0), (0, .ref xn), (1, .int (nI j)), (2, .ref lw)]) dX9_passDays_21 rfl (by decide) rfl rfl ?_
  have loop : ∀ (n i : Nat) (w : va_W), i ≤ j → j - i < n → keeps ws w (fun q => q = a) → w[a]? = some (ob xn 8 [.int (nI i), .int sx, .ref th, .ref tp, .ref te, .ref tw, .int 0, .int 0, .int 0, .int 0]) → w[a + 1]? = some (ob th 2 [.int 0, .ref hk, .ref ho]) → w[a + 9]? = some (ob te 1 [.int 0, .ref em, .ref el, .ref ey, .ref eo, .ref eb, .ref es]) → X E p l e (xRm 3 0 0) s m ([.ref xn, .int (nI j), .ref lw] : List Value).toArray below meth c A 4 0 0 (MQ below (va_Qv (fun w => keeps ws w (fun q => q = a) ∧ ∃ dd : Int32, w[a]? = some (ob xn 8 [.int dd, .int sx, .ref th, .ref tp, .ref te, .ref tw, .int 0, .int 0, .int 0, .int 0])) (xB E A) A) ([.ref xn, .int (nI j), .ref lw] : List Value).toArray s 0 0 A) w 22 [(3, .int (nI i)), (0, .ref xn), (1, .int (nI j)), (2, .ref lw)] [] := by
    intro n
    induction n with
    | zero => intro i w _ h; omega
    | succ n ih =>
      intro i w h1 h2 kq m0 m1 m2
      refine x_iload_n C dX9_passDays_22 rfl 0 rfl rfl ?_
      refine x_iload_n C dX9_passDays_23 rfl 2 rfl rfl ?_
      refine x_icmp_ge C (tgt := 42) dX9_passDays_24 (by decide) rfl (fun c25 => ?_) (fun c25 => ?_)
      · skip
        exact x_vret C hr hlk dX9_passDays_42 ⟨kq, ⟨_, m0⟩⟩
      · skip
        have hlt : i + 1 ≤ j := by
          rcases Nat.lt_or_ge i j with q | q
          · exact q
          · exact absurd (nI_le q (by omega)) c25
        have hd : nI i < 9999 := nI_lt (b := 9999) (by omega) (by decide)
        refine x_aload_n C dX9_passDays_27 rfl 1 rfl rfl ?_
        refine x_aload_n C dX9_passDays_28 rfl 3 rfl rfl ?_
        refine x_vi C (As := [.ref lw]) (rest := []) (t_passDay E l w a m0 (a + 1) m1 (a + 9) m2 hd) mf_X9_passDay w_822 a m0 rfl rfl rfl (Nat.le_of_ble_eq_true rfl) ⟨(Nat.le_of_ble_eq_true rfl), (Nat.le_of_ble_eq_true rfl)⟩ ⟨(Nat.le_of_ble_eq_true rfl), (Nat.le_of_ble_eq_true rfl)⟩ dX9_passDays_29 rfl (fun r27 w28 h26 => ?_)
        obtain ⟨e29, g30⟩ := h26
        refine x_top e29 ?_
        have k31 : w28[a]? = some (ob xn 8 [.int ((nI i) + 1), .int sx, .ref th, .ref tp, .ref te, .ref tw, .int 0, .int 0, .int 0, .int 0]) := by rw [g30]; exact (set_eq m0)
        have k32 : w28[a + 1]? = some (ob th 2 [.int 0, .ref hk, .ref ho]) := by rw [g30]; exact (set_ne m1 (by omega))
        have k33 : w28[a + 9]? = some (ob te 1 [.int 0, .ref em, .ref el, .ref ey, .ref eo, .ref eb, .ref es]) := by rw [g30]; exact (set_ne m2 (by omega))
        have kp34 := keeps_set kq g30 (by first | exact rfl | decide | omega | (dsimp only; omega))
        refine x_if_ne C (tgt := 36) dX9_passDays_32 (by decide) rfl (fun _ => ?_) (fun h => absurd h (by decide))
        refine x_iinc C (v := ((nI i) + 1)) (lv' := [(3, .int ((nI i) + 1)), (0, .ref xn), (1, .int (nI j)), (2, .ref lw)]) dX9_passDays_36 0 rfl rfl (by decide) rfl rfl ?_
        refine x_goto C (tgt := 22) dX9_passDays_39 (by decide) ?_
        refine x_lv (lv1 := [(3, .int (nI i + 1)), (0, .ref xn), (1, .int (nI j)), (2, .ref lw)]) [0, 1, 2, 3] rfl ?_
        have ei : nI i + 1 = nI (i + 1) := nI_1 i
        rw [ei]
        exact ih (i + 1) w28 hlt (by omega) kp34 (by rw [← ei]; exact k31) k32 k33
  exact loop (j + 1) 0 w19 (Nat.zero_le _) (by omega) kp24 k21 k22 k23
theorem dX11_days_0 : decode cX11_days 0 = .ok (.iload_n 1, 1) := by decide +kernel
theorem dX11_days_1 : decode cX11_days 1 = .ok (.iconst 1, 1) := by decide +kernel
theorem dX11_days_2 : decode cX11_days 2 = .ok (.bipush 60, 2) := by decide +kernel
theorem dX11_days_4 : decode cX11_days 4 = .ok (.invokestatic 102, 3) := by decide +kernel
theorem dX11_days_7 : decode cX11_days 7 = .ok (.ifCond .ne 5, 3) := by decide +kernel
theorem dX11_days_10 : decode cX11_days 10 = .ok (.iconst (-1), 1) := by decide +kernel
theorem dX11_days_11 : decode cX11_days 11 = .ok (.ireturn, 1) := by decide +kernel
theorem dX11_days_12 : decode cX11_days 12 = .ok (.aload_n 0, 1) := by decide +kernel
theorem dX11_days_13 : decode cX11_days 13 = .ok (.getfield 22, 3) := by decide +kernel
theorem dX11_days_16 : decode cX11_days 16 = .ok (.iload_n 1, 1) := by decide +kernel
theorem dX11_days_17 : decode cX11_days 17 = .ok (.aload_n 0, 1) := by decide +kernel
theorem dX11_days_18 : decode cX11_days 18 = .ok (.getfield 39, 3) := by decide +kernel
theorem dX11_days_21 : decode cX11_days 21 = .ok (.invokevirtual 187, 3) := by decide +kernel
theorem dX11_days_24 : decode cX11_days 24 = .ok (.aload_n 0, 1) := by decide +kernel
theorem dX11_days_25 : decode cX11_days 25 = .ok (.getfield 22, 3) := by decide +kernel
theorem dX11_days_28 : decode cX11_days 28 = .ok (.getfield 191, 3) := by decide +kernel
theorem dX11_days_31 : decode cX11_days 31 = .ok (.ireturn, 1) := by decide +kernel
set_option maxRecDepth 20000 in
set_option maxHeartbeats 4000000 in
theorem t_days (E : xE) (l : Launch) (ws : va_W) {x xt xk xn xp xtr xr xs xl xpl xse ah ald arm ahr ash arw abr aw th tp te tw hk ho em el ey eo eb es : Nat} (p_0 : Nat) (k_0 : ws[0]? = some (ob x 10 [.ref xt, .ref xk, .ref xn, .ref xp, .ref xtr, .int 0, .ref xr, .ref xs, .ref xl, .ref xpl, .ref xse, .ref ah, .ref ald, .ref arm, .ref ahr, .ref ash, .ref arw, .ref abr, .ref aw])) (p_1 : Nat) (k_1 : ws[5]? = some (ob xn 8 [.int 0, .int 1, .ref th, .ref tp, .ref te, .ref tw, .int 0, .int 0, .int 0, .int 0])) (p_2 : Nat) (k_2 : ws[6]? = some (ob th 2 [.int 0, .ref hk, .ref ho])) (p_3 : Nat) (k_3 : ws[14]? = some (ob te 1 [.int 0, .ref em, .ref el, .ref ey, .ref eo, .ref eb, .ref es])) (n : Int32) : xI E l yX11_days cX11_days 2 (some .int) 4 [.ref x, .int n] ws (fun r w => r = if wth n 1 60 then 0 else -1) := by
  refine xI_start (lv := [(0, .ref x), (1, .int n)]) RX11 (by decide) rfl (Nat.le_of_ble_eq_true rfl) rfl (fun p e s m below meth c A C hr hlk => ?_)
  refine x_iload_n C dX11_days_0 rfl 1 rfl rfl ?_
  refine x_iconst C (v := 1) dX11_days_1 (by decide) rfl ?_
  refine x_bipush C (v := 60) dX11_days_2 (by decide) rfl ?_
  refine x_si C (As := [.int n, .int 1, .int 60]) (rest := []) (t_isWithin E l ws n 1 60) mf_X11_isWithin w_462 rfl rfl (Nat.le_of_ble_eq_true rfl) ⟨(Nat.le_of_ble_eq_true rfl), (Nat.le_of_ble_eq_true rfl)⟩ ⟨(Nat.le_of_ble_eq_true rfl), (Nat.le_of_ble_eq_true rfl)⟩ dX11_days_4 rfl (fun r2 w3 h1 => ?_)
  obtain ⟨e4, g5⟩ := h1
  refine x_top e4 ?_
  refine x_ws g5 ?_
  refine x_if_ne C (tgt := 12) dX11_days_7 (by decide) rfl (fun c6 => ?_) (fun c6 => ?_)
  · skip
    have b7 := bI_n0 c6
    obtain ⟨j, hj1, hj, hjn⟩ := w_nat (a := 1) (b := 60) (by decide) (by decide) b7
    subst hjn
    refine x_aload_n C dX11_days_12 rfl 0 rfl rfl ?_
    refine x_get C (ci := 10) (k := 2) 0 k_0 rfl in_X11 (by decide) w_387 rfl dX11_days_13 rfl ?_
    refine x_iload_n C dX11_days_16 rfl 1 rfl rfl ?_
    refine x_aload_n C dX11_days_17 rfl 0 rfl rfl ?_
    refine x_get C (ci := 10) (k := 6) 0 k_0 rfl in_X11 (by decide) w_391 rfl dX11_days_18 rfl ?_
    refine x_vv C (As := [.int (nI j), .ref xr]) (rest := []) (t_passDays E l ws 5 k_1 6 k_2 14 k_3 j hj) mf_X9_passDays w_818 5 k_1 rfl rfl rfl (Nat.le_of_ble_eq_true rfl) ⟨(Nat.le_of_ble_eq_true rfl), (Nat.le_of_ble_eq_true rfl)⟩ ⟨(Nat.le_of_ble_eq_true rfl), (Nat.le_of_ble_eq_true rfl)⟩ dX11_days_21 rfl (fun w8 h9 => ?_)
    obtain ⟨kq10, dd11, k12⟩ := h9
    have k13 : w8[0]? = some (ob x 10 [.ref xt, .ref xk, .ref xn, .ref xp, .ref xtr, .int 0, .ref xr, .ref xs, .ref xl, .ref xpl, .ref xse, .ref ah, .ref ald, .ref arm, .ref ahr, .ref ash, .ref arw, .ref abr, .ref aw]) := keeps_at kq10 k_0 (by first | decide | omega | (dsimp only; omega))
    have k14 : w8[6]? = some (ob th 2 [.int 0, .ref hk, .ref ho]) := keeps_at kq10 k_2 (by first | decide | omega | (dsimp only; omega))
    have k15 : w8[14]? = some (ob te 1 [.int 0, .ref em, .ref el, .ref ey, .ref eo, .ref eb, .ref es]) := keeps_at kq10 k_3 (by first | decide | omega | (dsimp only; omega))
    refine x_aload_n C dX11_days_24 rfl 0 rfl rfl ?_
    refine x_get C (ci := 10) (k := 2) 0 k13 rfl in_X11 (by decide) w_387 rfl dX11_days_25 rfl ?_
    refine x_get C (ci := 8) (k := 6) 5 k12 rfl in_X9 (by decide) w_216 rfl dX11_days_28 rfl ?_
    exact x_zret C hr hlk rfl dX11_days_31 (by rw [if_pos b7])
  · skip
    have b16 := bI_e0 c6
    refine x_iconst C (v := (-1)) dX11_days_10 (by decide) rfl ?_
    exact x_zret C hr hlk rfl dX11_days_11 (by simp [b16])
theorem dX11_tried_0 : decode cX11_tried 0 = .ok (.iload_n 1, 1) := by decide +kernel
theorem dX11_tried_1 : decode cX11_tried 1 = .ok (.iconst 1, 1) := by decide +kernel
theorem dX11_tried_2 : decode cX11_tried 2 = .ok (.bipush 60, 2) := by decide +kernel
theorem dX11_tried_4 : decode cX11_tried 4 = .ok (.invokestatic 102, 3) := by decide +kernel
theorem dX11_tried_7 : decode cX11_tried 7 = .ok (.ifCond .eq 12, 3) := by decide +kernel
theorem dX11_tried_10 : decode cX11_tried 10 = .ok (.iload_n 2, 1) := by decide +kernel
theorem dX11_tried_11 : decode cX11_tried 11 = .ok (.iconst 0, 1) := by decide +kernel
theorem dX11_tried_12 : decode cX11_tried 12 = .ok (.iconst 4, 1) := by decide +kernel
theorem dX11_tried_13 : decode cX11_tried 13 = .ok (.invokestatic 102, 3) := by decide +kernel
theorem dX11_tried_16 : decode cX11_tried 16 = .ok (.ifCond .ne 5, 3) := by decide +kernel
theorem dX11_tried_19 : decode cX11_tried 19 = .ok (.iconst (-1), 1) := by decide +kernel
theorem dX11_tried_20 : decode cX11_tried 20 = .ok (.ireturn, 1) := by decide +kernel
theorem dX11_tried_21 : decode cX11_tried 21 = .ok (.aload_n 0, 1) := by decide +kernel
theorem dX11_tried_22 : decode cX11_tried 22 = .ok (.getfield 29, 3) := by decide +kernel
theorem dX11_tried_25 : decode cX11_tried 25 = .ok (.aload_n 0, 1) := by decide +kernel
theorem dX11_tried_26 : decode cX11_tried 26 = .ok (.getfield 22, 3) := by decide +kernel
theorem dX11_tried_29 : decode cX11_tried 29 = .ok (.invokevirtual 180, 3) := by decide +kernel
theorem dX11_tried_32 : decode cX11_tried 32 = .ok (.aload_n 0, 1) := by decide +kernel
theorem dX11_tried_33 : decode cX11_tried 33 = .ok (.getfield 29, 3) := by decide +kernel
theorem dX11_tried_36 : decode cX11_tried 36 = .ok (.iload_n 1, 1) := by decide +kernel
theorem dX11_tried_37 : decode cX11_tried 37 = .ok (.aload_n 0, 1) := by decide +kernel
theorem dX11_tried_38 : decode cX11_tried 38 = .ok (.getfield 39, 3) := by decide +kernel
theorem dX11_tried_41 : decode cX11_tried 41 = .ok (.invokevirtual 187, 3) := by decide +kernel
theorem dX11_tried_44 : decode cX11_tried 44 = .ok (.iload_n 2, 1) := by decide +kernel
theorem dX11_tried_45 : decode cX11_tried 45 = .ok (.tableswitch 63 0 3 #[31, 39, 47, 55], 31) := by decide +kernel
theorem dX11_tried_76 : decode cX11_tried 76 = .ok (.aload_n 0, 1) := by decide +kernel
theorem dX11_tried_77 : decode cX11_tried 77 = .ok (.getfield 29, 3) := by decide +kernel
theorem dX11_tried_80 : decode cX11_tried 80 = .ok (.getfield 191, 3) := by decide +kernel
theorem dX11_tried_83 : decode cX11_tried 83 = .ok (.ireturn, 1) := by decide +kernel
theorem dX11_tried_84 : decode cX11_tried 84 = .ok (.aload_n 0, 1) := by decide +kernel
theorem dX11_tried_85 : decode cX11_tried 85 = .ok (.getfield 29, 3) := by decide +kernel
theorem dX11_tried_88 : decode cX11_tried 88 = .ok (.getfield 194, 3) := by decide +kernel
theorem dX11_tried_91 : decode cX11_tried 91 = .ok (.ireturn, 1) := by decide +kernel
theorem dX11_tried_92 : decode cX11_tried 92 = .ok (.aload_n 0, 1) := by decide +kernel
theorem dX11_tried_93 : decode cX11_tried 93 = .ok (.getfield 29, 3) := by decide +kernel
theorem dX11_tried_96 : decode cX11_tried 96 = .ok (.getfield 197, 3) := by decide +kernel
theorem dX11_tried_99 : decode cX11_tried 99 = .ok (.ireturn, 1) := by decide +kernel
theorem dX11_tried_100 : decode cX11_tried 100 = .ok (.aload_n 0, 1) := by decide +kernel
theorem dX11_tried_101 : decode cX11_tried 101 = .ok (.getfield 29, 3) := by decide +kernel
theorem dX11_tried_104 : decode cX11_tried 104 = .ok (.getfield 200, 3) := by decide +kernel
theorem dX11_tried_107 : decode cX11_tried 107 = .ok (.ireturn, 1) := by decide +kernel
theorem dX11_tried_108 : decode cX11_tried 108 = .ok (.aload_n 0, 1) := by decide +kernel
theorem dX11_tried_109 : decode cX11_tried 109 = .ok (.getfield 29, 3) := by decide +kernel
theorem dX11_tried_112 : decode cX11_tried 112 = .ok (.getfield 132, 3) := by decide +kernel
theorem dX11_tried_115 : decode cX11_tried 115 = .ok (.iconst 0, 1) := by decide +kernel
theorem dX11_tried_116 : decode cX11_tried 116 = .ok (.invokevirtual 203, 3) := by decide +kernel
theorem dX11_tried_119 : decode cX11_tried 119 = .ok (.ireturn, 1) := by decide +kernel
set_option maxRecDepth 20000 in
set_option maxHeartbeats 4000000 in
theorem t_tried (E : xE) (l : Launch) (ws : va_W) {x xt xk xn xp xtr xr xs xl xpl xse ah ald arm ahr ash arw abr aw nh np ne nw nh1 nh2 np1 np2 np3 np4 ne1 ne2 ne3 ne4 ne5 ne6 nw1 nw2 nw3 nw4 nw5 rh rp re rw rh1 rh2 rp1 rp2 rp3 rp4 re1 re2 re3 re4 re5 re6 rw1 rw2 rw3 rw4 rw5 : Nat} {nfh1 nfh2 nfp1 nfp2 nfp3 nfp4 nfe1 nfe2 nfe3 nfe4 nfe5 nfe6 nfw1 nfw2 nfw3 nfw4 nfw5 rfh1 rfh2 rfp1 rfp2 rfp3 rfp4 rfe1 rfe2 rfe3 rfe4 rfe5 rfe6 rfw1 rfw2 rfw3 rfw4 rfw5 : Nat → Int32} (p_0 : Nat) (k_0 : ws[0]? = some (ob x 10 [.ref xt, .ref xk, .ref xn, .ref xp, .ref xtr, .int 0, .ref xr, .ref xs, .ref xl, .ref xpl, .ref xse, .ref ah, .ref ald, .ref arm, .ref ahr, .ref ash, .ref arw, .ref abr, .ref aw])) (p_1 : Nat) (k_1 : ws[5]? = some (ob xn 8 [.int 0, .int 1, .ref nh, .ref np, .ref ne, .ref nw, .int 0, .int 0, .int 0, .int 0])) (p_2 : Nat) (k_2 : ws[6]? = some (ob nh 2 [.int 0, .ref nh1, .ref nh2])) (p_3 : Nat) (k_3 : ws[7]? = some (iA E nh1 8 nfh1)) (p_4 : Nat) (k_4 : ws[8]? = some (iA E nh2 8 nfh2)) (p_5 : Nat) (k_5 : ws[9]? = some (ob np 4 [.int 0, .ref np1, .ref np2, .ref np3, .ref np4])) (p_6 : Nat) (k_6 : ws[10]? = some (iA E np1 8 nfp1)) (p_7 : Nat) (k_7 : ws[11]? = some (iA E np2 8 nfp2)) (p_8 : Nat) (k_8 : ws[12]? = some (iA E np3 8 nfp3)) (p_9 : Nat) (k_9 : ws[13]? = some (iA E np4 8 nfp4)) (p_10 : Nat) (k_10 : ws[14]? = some (ob ne 1 [.int 0, .ref ne1, .ref ne2, .ref ne3, .ref ne4, .ref ne5, .ref ne6])) (p_11 : Nat) (k_11 : ws[15]? = some (iA E ne1 48 nfe1)) (p_12 : Nat) (k_12 : ws[16]? = some (iA E ne2 48 nfe2)) (p_13 : Nat) (k_13 : ws[17]? = some (iA E ne3 48 nfe3)) (p_14 : Nat) (k_14 : ws[18]? = some (iA E ne4 48 nfe4)) (p_15 : Nat) (k_15 : ws[19]? = some (iA E ne5 48 nfe5)) (p_16 : Nat) (k_16 : ws[20]? = some (iA E ne6 48 nfe6)) (p_17 : Nat) (k_17 : ws[21]? = some (ob nw 9 [.int 0, .ref nw1, .ref nw2, .ref nw3, .ref nw4, .ref nw5])) (p_18 : Nat) (k_18 : ws[22]? = some (iA E nw1 8 nfw1)) (p_19 : Nat) (k_19 : ws[23]? = some (iA E nw2 8 nfw2)) (p_20 : Nat) (k_20 : ws[24]? = some (iA E nw3 8 nfw3)) (p_21 : Nat) (k_21 : ws[25]? = some (iA E nw4 8 nfw4)) (p_22 : Nat) (k_22 : ws[26]? = some (iA E nw5 8 nfw5)) (p_23 : Nat) (k_23 : ws[49]? = some (ob xtr 8 [.int 0, .int 1, .ref rh, .ref rp, .ref re, .ref rw, .int 0, .int 0, .int 0, .int 0])) (p_24 : Nat) (k_24 : ws[50]? = some (ob rh 2 [.int 0, .ref rh1, .ref rh2])) (p_25 : Nat) (k_25 : ws[51]? = some (iA E rh1 8 rfh1)) (p_26 : Nat) (k_26 : ws[52]? = some (iA E rh2 8 rfh2)) (p_27 : Nat) (k_27 : ws[53]? = some (ob rp 4 [.int 0, .ref rp1, .ref rp2, .ref rp3, .ref rp4])) (p_28 : Nat) (k_28 : ws[54]? = some (iA E rp1 8 rfp1)) (p_29 : Nat) (k_29 : ws[55]? = some (iA E rp2 8 rfp2)) (p_30 : Nat) (k_30 : ws[56]? = some (iA E rp3 8 rfp3)) (p_31 : Nat) (k_31 : ws[57]? = some (iA E rp4 8 rfp4)) (p_32 : Nat) (k_32 : ws[58]? = some (ob re 1 [.int 0, .ref re1, .ref re2, .ref re3, .ref re4, .ref re5, .ref re6])) (p_33 : Nat) (k_33 : ws[59]? = some (iA E re1 48 rfe1)) (p_34 : Nat) (k_34 : ws[60]? = some (iA E re2 48 rfe2)) (p_35 : Nat) (k_35 : ws[61]? = some (iA E re3 48 rfe3)) (p_36 : Nat) (k_36 : ws[62]? = some (iA E re4 48 rfe4)) (p_37 : Nat) (k_37 : ws[63]? = some (iA E re5 48 rfe5)) (p_38 : Nat) (k_38 : ws[64]? = some (iA E re6 48 rfe6)) (p_39 : Nat) (k_39 : ws[65]? = some (ob rw 9 [.int 0, .ref rw1, .ref rw2, .ref rw3, .ref rw4, .ref rw5])) (p_40 : Nat) (k_40 : ws[66]? = some (iA E rw1 8 rfw1)) (p_41 : Nat) (k_41 : ws[67]? = some (iA E rw2 8 rfw2)) (p_42 : Nat) (k_42 : ws[68]? = some (iA E rw3 8 rfw3)) (p_43 : Nat) (k_43 : ws[69]? = some (iA E rw4 8 rfw4)) (p_44 : Nat) (k_44 : ws[70]? = some (iA E rw5 8 rfw5)) (n wh : Int32) : xI E l yX11_tried cX11_tried 3 (some .int) 4 [.ref x, .int n, .int wh] ws (fun r w => r = if wth n 1 60 ∧ wth wh 0 4 then 0 else -1) := by
  refine xI_start (lv := [(0, .ref x), (1, .int n), (2, .int wh)]) RX11 (by decide) rfl (Nat.le_of_ble_eq_true rfl) rfl (fun p e s m below meth c A C hr hlk => ?_)
  refine x_iload_n C dX11_tried_0 rfl 1 rfl rfl ?_
  refine x_iconst C (v := 1) dX11_tried_1 (by decide) rfl ?_
  refine x_bipush C (v := 60) dX11_tried_2 (by decide) rfl ?_
  refine x_si C (As := [.int n, .int 1, .int 60]) (rest := []) (t_isWithin E l ws n 1 60) mf_X11_isWithin w_462 rfl rfl (Nat.le_of_ble_eq_true rfl) ⟨(Nat.le_of_ble_eq_true rfl), (Nat.le_of_ble_eq_true rfl)⟩ ⟨(Nat.le_of_ble_eq_true rfl), (Nat.le_of_ble_eq_true rfl)⟩ dX11_tried_4 rfl (fun r2 w3 h1 => ?_)
  obtain ⟨e4, g5⟩ := h1
  refine x_top e4 ?_
  refine x_ws g5 ?_
  refine x_if_eq C (tgt := 19) dX11_tried_7 (by decide) rfl (fun c6 => ?_) (fun c6 => ?_)
  · skip
    have b7 := bI_e0 c6
    refine x_iconst C (v := (-1)) dX11_tried_19 (by decide) rfl ?_
    exact x_zret C hr hlk rfl dX11_tried_20 (by simp [b7])
  · skip
    have b8 := bI_n0 c6
    refine x_iload_n C dX11_tried_10 rfl 2 rfl rfl ?_
    refine x_iconst C (v := 0) dX11_tried_11 (by decide) rfl ?_
    refine x_iconst C (v := 4) dX11_tried_12 (by decide) rfl ?_
    refine x_si C (As := [.int wh, .int 0, .int 4]) (rest := []) (t_isWithin E l ws wh 0 4) mf_X11_isWithin w_462 rfl rfl (Nat.le_of_ble_eq_true rfl) ⟨(Nat.le_of_ble_eq_true rfl), (Nat.le_of_ble_eq_true rfl)⟩ ⟨(Nat.le_of_ble_eq_true rfl), (Nat.le_of_ble_eq_true rfl)⟩ dX11_tried_13 rfl (fun r10 w11 h9 => ?_)
    obtain ⟨e12, g13⟩ := h9
    refine x_top e12 ?_
    refine x_ws g13 ?_
    refine x_if_ne C (tgt := 21) dX11_tried_16 (by decide) rfl (fun c14 => ?_) (fun c14 => ?_)
    · skip
      have b15 := bI_n0 c14
      obtain ⟨j, hj1, hj, hjn⟩ := w_nat (a := 1) (b := 60) (by decide) (by decide) b8
      subst hjn
      refine x_aload_n C dX11_tried_21 rfl 0 rfl rfl ?_
      refine x_get C (ci := 10) (k := 4) 0 k_0 rfl in_X11 (by decide) w_389 rfl dX11_tried_22 rfl ?_
      refine x_aload_n C dX11_tried_25 rfl 0 rfl rfl ?_
      refine x_get C (ci := 10) (k := 2) 0 k_0 rfl in_X11 (by decide) w_387 rfl dX11_tried_26 rfl ?_
      refine x_vv C (As := [.ref xn]) (rest := []) (t_Town_copy E l ws 49 k_23 50 k_24 51 k_25 52 k_26 53 k_27 54 k_28 55 k_29 56 k_30 57 k_31 58 k_32 59 k_33 60 k_34 61 k_35 62 k_36 63 k_37 64 k_38 65 k_39 66 k_40 67 k_41 68 k_42 69 k_43 70 k_44 5 k_1 6 k_2 7 k_3 8 k_4 9 k_5 10 k_6 11 k_7 12 k_8 13 k_9 14 k_10 15 k_11 16 k_12 17 k_13 18 k_14 19 k_15 20 k_16 21 k_17 22 k_18 23 k_19 24 k_20 25 k_21 26 k_22 (by omega)) mf_X9_copyFrom w_788 49 k_23 rfl rfl rfl (Nat.le_of_ble_eq_true rfl) ⟨(Nat.le_of_ble_eq_true rfl), (Nat.le_of_ble_eq_true rfl)⟩ ⟨(Nat.le_of_ble_eq_true rfl), (Nat.le_of_ble_eq_true rfl)⟩ dX11_tried_29 rfl (fun w18 h16 => ?_)
      obtain ⟨g19, g20, g21, g22⟩ := h16
      have k24 : w18[0]? = some (ob x 10 [.ref xt, .ref xk, .ref xn, .ref xp, .ref xtr, .int 0, .ref xr, .ref xs, .ref xl, .ref xpl, .ref xse, .ref ah, .ref ald, .ref arm, .ref ahr, .ref ash, .ref arw, .ref abr, .ref aw]) := keeps_at g19 k_0 (by first | decide | omega | (dsimp only; omega))
      have k25 : w18[5]? = some (ob xn 8 [.int 0, .int 1, .ref nh, .ref np, .ref ne, .ref nw, .int 0, .int 0, .int 0, .int 0]) := keeps_at g19 k_1 (by first | decide | omega | (dsimp only; omega))
      have k26 : w18[6]? = some (ob nh 2 [.int 0, .ref nh1, .ref nh2]) := keeps_at g19 k_2 (by first | decide | omega | (dsimp only; omega))
      have k27 : w18[7]? = some (iA E nh1 8 nfh1) := keeps_at g19 k_3 (by first | decide | omega | (dsimp only; omega))
      have k28 : w18[8]? = some (iA E nh2 8 nfh2) := keeps_at g19 k_4 (by first | decide | omega | (dsimp only; omega))
      have k29 : w18[9]? = some (ob np 4 [.int 0, .ref np1, .ref np2, .ref np3, .ref np4]) := keeps_at g19 k_5 (by first | decide | omega | (dsimp only; omega))
      have k30 : w18[10]? = some (iA E np1 8 nfp1) := keeps_at g19 k_6 (by first | decide | omega | (dsimp only; omega))
      have k31 : w18[11]? = some (iA E np2 8 nfp2) := keeps_at g19 k_7 (by first | decide | omega | (dsimp only; omega))
      have k32 : w18[12]? = some (iA E np3 8 nfp3) := keeps_at g19 k_8 (by first | decide | omega | (dsimp only; omega))
      have k33 : w18[13]? = some (iA E np4 8 nfp4) := keeps_at g19 k_9 (by first | decide | omega | (dsimp only; omega))
      have k34 : w18[14]? = some (ob ne 1 [.int 0, .ref ne1, .ref ne2, .ref ne3, .ref ne4, .ref ne5, .ref ne6]) := keeps_at g19 k_10 (by first | decide | omega | (dsimp only; omega))
      have k35 : w18[15]? = some (iA E ne1 48 nfe1) := keeps_at g19 k_11 (by first | decide | omega | (dsimp only; omega))
      have k36 : w18[16]? = some (iA E ne2 48 nfe2) := keeps_at g19 k_12 (by first | decide | omega | (dsimp only; omega))
      have k37 : w18[17]? = some (iA E ne3 48 nfe3) := keeps_at g19 k_13 (by first | decide | omega | (dsimp only; omega))
      have k38 : w18[18]? = some (iA E ne4 48 nfe4) := keeps_at g19 k_14 (by first | decide | omega | (dsimp only; omega))
      have k39 : w18[19]? = some (iA E ne5 48 nfe5) := keeps_at g19 k_15 (by first | decide | omega | (dsimp only; omega))
      have k40 : w18[20]? = some (iA E ne6 48 nfe6) := keeps_at g19 k_16 (by first | decide | omega | (dsimp only; omega))
      have k41 : w18[21]? = some (ob nw 9 [.int 0, .ref nw1, .ref nw2, .ref nw3, .ref nw4, .ref nw5]) := keeps_at g19 k_17 (by first | decide | omega | (dsimp only; omega))
      have k42 : w18[22]? = some (iA E nw1 8 nfw1) := keeps_at g19 k_18 (by first | decide | omega | (dsimp only; omega))
      have k43 : w18[23]? = some (iA E nw2 8 nfw2) := keeps_at g19 k_19 (by first | decide | omega | (dsimp only; omega))
      have k44 : w18[24]? = some (iA E nw3 8 nfw3) := keeps_at g19 k_20 (by first | decide | omega | (dsimp only; omega))
      have k45 : w18[25]? = some (iA E nw4 8 nfw4) := keeps_at g19 k_21 (by first | decide | omega | (dsimp only; omega))
      have k46 : w18[26]? = some (iA E nw5 8 nfw5) := keeps_at g19 k_22 (by first | decide | omega | (dsimp only; omega))
      refine x_aload_n C dX11_tried_32 rfl 0 rfl rfl ?_
      refine x_get C (ci := 10) (k := 4) 0 k24 rfl in_X11 (by decide) w_389 rfl dX11_tried_33 rfl ?_
      refine x_iload_n C dX11_tried_36 rfl 1 rfl rfl ?_
      refine x_aload_n C dX11_tried_37 rfl 0 rfl rfl ?_
      refine x_get C (ci := 10) (k := 6) 0 k24 rfl in_X11 (by decide) w_391 rfl dX11_tried_38 rfl ?_
      refine x_vv C (As := [.int (nI j), .ref xr]) (rest := []) (t_passDays E l w18 49 g20 50 g21 58 g22 j hj) mf_X9_passDays w_818 49 g20 rfl rfl rfl (Nat.le_of_ble_eq_true rfl) ⟨(Nat.le_of_ble_eq_true rfl), (Nat.le_of_ble_eq_true rfl)⟩ ⟨(Nat.le_of_ble_eq_true rfl), (Nat.le_of_ble_eq_true rfl)⟩ dX11_tried_41 rfl (fun w47 h48 => ?_)
      obtain ⟨kq49, dd50, k51⟩ := h48
      have k52 : w47[0]? = some (ob x 10 [.ref xt, .ref xk, .ref xn, .ref xp, .ref xtr, .int 0, .ref xr, .ref xs, .ref xl, .ref xpl, .ref xse, .ref ah, .ref ald, .ref arm, .ref ahr, .ref ash, .ref arw, .ref abr, .ref aw]) := keeps_at kq49 k24 (by first | decide | omega | (dsimp only; omega))
      have k53 : w47[5]? = some (ob xn 8 [.int 0, .int 1, .ref nh, .ref np, .ref ne, .ref nw, .int 0, .int 0, .int 0, .int 0]) := keeps_at kq49 k25 (by first | decide | omega | (dsimp only; omega))
      have k54 : w47[6]? = some (ob nh 2 [.int 0, .ref nh1, .ref nh2]) := keeps_at kq49 k26 (by first | decide | omega | (dsimp only; omega))
      have k55 : w47[7]? = some (iA E nh1 8 nfh1) := keeps_at kq49 k27 (by first | decide | omega | (dsimp only; omega))
      have k56 : w47[8]? = some (iA E nh2 8 nfh2) := keeps_at kq49 k28 (by first | decide | omega | (dsimp only; omega))
      have k57 : w47[9]? = some (ob np 4 [.int 0, .ref np1, .ref np2, .ref np3, .ref np4]) := keeps_at kq49 k29 (by first | decide | omega | (dsimp only; omega))
      have k58 : w47[10]? = some (iA E np1 8 nfp1) := keeps_at kq49 k30 (by first | decide | omega | (dsimp only; omega))
      have k59 : w47[11]? = some (iA E np2 8 nfp2) := keeps_at kq49 k31 (by first | decide | omega | (dsimp only; omega))
      have k60 : w47[12]? = some (iA E np3 8 nfp3) := keeps_at kq49 k32 (by first | decide | omega | (dsimp only; omega))
      have k61 : w47[13]? = some (iA E np4 8 nfp4) := keeps_at kq49 k33 (by first | decide | omega | (dsimp only; omega))
      have k62 : w47[14]? = some (ob ne 1 [.int 0, .ref ne1, .ref ne2, .ref ne3, .ref ne4, .ref ne5, .ref ne6]) := keeps_at kq49 k34 (by first | decide | omega | (dsimp only; omega))
      have k63 : w47[15]? = some (iA E ne1 48 nfe1) := keeps_at kq49 k35 (by first | decide | omega | (dsimp only; omega))
      have k64 : w47[16]? = some (iA E ne2 48 nfe2) := keeps_at kq49 k36 (by first | decide | omega | (dsimp only; omega))
      have k65 : w47[17]? = some (iA E ne3 48 nfe3) := keeps_at kq49 k37 (by first | decide | omega | (dsimp only; omega))
      have k66 : w47[18]? = some (iA E ne4 48 nfe4) := keeps_at kq49 k38 (by first | decide | omega | (dsimp only; omega))
      have k67 : w47[19]? = some (iA E ne5 48 nfe5) := keeps_at kq49 k39 (by first | decide | omega | (dsimp only; omega))
      have k68 : w47[20]? = some (iA E ne6 48 nfe6) := keeps_at kq49 k40 (by first | decide | omega | (dsimp only; omega))
      have k69 : w47[21]? = some (ob nw 9 [.int 0, .ref nw1, .ref nw2, .ref nw3, .ref nw4, .ref nw5]) := keeps_at kq49 k41 (by first | decide | omega | (dsimp only; omega))
      have k70 : w47[22]? = some (iA E nw1 8 nfw1) := keeps_at kq49 k42 (by first | decide | omega | (dsimp only; omega))
      have k71 : w47[23]? = some (iA E nw2 8 nfw2) := keeps_at kq49 k43 (by first | decide | omega | (dsimp only; omega))
      have k72 : w47[24]? = some (iA E nw3 8 nfw3) := keeps_at kq49 k44 (by first | decide | omega | (dsimp only; omega))
      have k73 : w47[25]? = some (iA E nw4 8 nfw4) := keeps_at kq49 k45 (by first | decide | omega | (dsimp only; omega))
      have k74 : w47[26]? = some (iA E nw5 8 nfw5) := keeps_at kq49 k46 (by first | decide | omega | (dsimp only; omega))
      have k75 : w47[50]? = some (ob rh 2 [.int 0, .ref rh1, .ref rh2]) := keeps_at kq49 g21 (by first | decide | omega | (dsimp only; omega))
      have k76 : w47[58]? = some (ob re 1 [.int 0, .ref re1, .ref re2, .ref re3, .ref re4, .ref re5, .ref re6]) := keeps_at kq49 g22 (by first | decide | omega | (dsimp only; omega))
      refine x_iload_n C dX11_tried_44 rfl 2 rfl rfl ?_
      by_cases s77 : (wh).toInt < 0
      · refine x_tabOut C (tgt := 108) dX11_tried_45 (Or.inl s77) (by decide) ?_
        have b79 : wh < 0 := sw_lo (by decide) s77
        refine x_aload_n C dX11_tried_108 rfl 0 rfl rfl ?_
        refine x_get C (ci := 10) (k := 4) 0 k52 rfl in_X11 (by decide) w_389 rfl dX11_tried_109 rfl ?_
        refine x_get C (ci := 8) (k := 4) 49 k51 rfl in_X9 (by decide) w_209 rfl dX11_tried_112 rfl ?_
        refine x_iconst C (v := 0) dX11_tried_115 (by decide) rfl ?_
        refine x_vi C (As := [.int 0]) (rest := []) (t_Eggs_howMany0 E l w47 58 k76 0) mf_X1_howMany w_853 58 k76 rfl rfl rfl (Nat.le_of_ble_eq_true rfl) ⟨(Nat.le_of_ble_eq_true rfl), (Nat.le_of_ble_eq_true rfl)⟩ ⟨(Nat.le_of_ble_eq_true rfl), (Nat.le_of_ble_eq_true rfl)⟩ dX11_tried_116 rfl (fun r81 w82 h80 => ?_)
        obtain ⟨e83, g84⟩ := h80
        refine x_top e83 ?_
        refine x_ws g84 ?_
        exact x_zret C hr hlk rfl dX11_tried_119 (by rw [if_pos ⟨b8, b15⟩])
      by_cases s78 : 3 < (wh).toInt
      · refine x_tabOut C (tgt := 108) dX11_tried_45 (Or.inr s78) (by decide) ?_
        have b85 : 3 < wh := sw_hi (by decide) s78
        refine x_aload_n C dX11_tried_108 rfl 0 rfl rfl ?_
        refine x_get C (ci := 10) (k := 4) 0 k52 rfl in_X11 (by decide) w_389 rfl dX11_tried_109 rfl ?_
        refine x_get C (ci := 8) (k := 4) 49 k51 rfl in_X9 (by decide) w_209 rfl dX11_tried_112 rfl ?_
        refine x_iconst C (v := 0) dX11_tried_115 (by decide) rfl ?_
        refine x_vi C (As := [.int 0]) (rest := []) (t_Eggs_howMany0 E l w47 58 k76 0) mf_X1_howMany w_853 58 k76 rfl rfl rfl (Nat.le_of_ble_eq_true rfl) ⟨(Nat.le_of_ble_eq_true rfl), (Nat.le_of_ble_eq_true rfl)⟩ ⟨(Nat.le_of_ble_eq_true rfl), (Nat.le_of_ble_eq_true rfl)⟩ dX11_tried_116 rfl (fun r87 w88 h86 => ?_)
        obtain ⟨e89, g90⟩ := h86
        refine x_top e89 ?_
        refine x_ws g90 ?_
        exact x_zret C hr hlk rfl dX11_tried_119 (by rw [if_pos ⟨b8, b15⟩])
      by_cases s91 : wh = 0
      · refine x_tabIn C (tgt := 76) dX11_tried_45 (by rw [s91]; decide) (by rw [s91]; decide) (by rw [s91]; rfl) (by decide) ?_
        have zs91 := sw_eq (by decide : (0 : Int32).toInt = 0) s91
        refine x_aload_n C dX11_tried_76 rfl 0 rfl rfl ?_
        refine x_get C (ci := 10) (k := 4) 0 k52 rfl in_X11 (by decide) w_389 rfl dX11_tried_77 rfl ?_
        refine x_get C (ci := 8) (k := 6) 49 k51 rfl in_X9 (by decide) w_216 rfl dX11_tried_80 rfl ?_
        exact x_zret C hr hlk rfl dX11_tried_83 (by rw [if_pos ⟨b8, b15⟩])
      have zs91 := sw_ne (by decide : (0 : Int32).toInt = 0) s91
      by_cases s92 : wh = 1
      · refine x_tabIn C (tgt := 84) dX11_tried_45 (by rw [s92]; decide) (by rw [s92]; decide) (by rw [s92]; rfl) (by decide) ?_
        have zs92 := sw_eq (by decide : (1 : Int32).toInt = 1) s92
        refine x_aload_n C dX11_tried_84 rfl 0 rfl rfl ?_
        refine x_get C (ci := 10) (k := 4) 0 k52 rfl in_X11 (by decide) w_389 rfl dX11_tried_85 rfl ?_
        refine x_get C (ci := 8) (k := 7) 49 k51 rfl in_X9 (by decide) w_218 rfl dX11_tried_88 rfl ?_
        exact x_zret C hr hlk rfl dX11_tried_91 (by rw [if_pos ⟨b8, b15⟩])
      have zs92 := sw_ne (by decide : (1 : Int32).toInt = 1) s92
      by_cases s93 : wh = 2
      · refine x_tabIn C (tgt := 92) dX11_tried_45 (by rw [s93]; decide) (by rw [s93]; decide) (by rw [s93]; rfl) (by decide) ?_
        have zs93 := sw_eq (by decide : (2 : Int32).toInt = 2) s93
        refine x_aload_n C dX11_tried_92 rfl 0 rfl rfl ?_
        refine x_get C (ci := 10) (k := 4) 0 k52 rfl in_X11 (by decide) w_389 rfl dX11_tried_93 rfl ?_
        refine x_get C (ci := 8) (k := 8) 49 k51 rfl in_X9 (by decide) w_220 rfl dX11_tried_96 rfl ?_
        exact x_zret C hr hlk rfl dX11_tried_99 (by rw [if_pos ⟨b8, b15⟩])
      have zs93 := sw_ne (by decide : (2 : Int32).toInt = 2) s93
      have s94 : wh = 3 := sw_last (n := 3) (by decide) s77 s78 (by omega)
      refine x_tabIn C (tgt := 100) dX11_tried_45 (by rw [s94]; decide) (by rw [s94]; decide) (by rw [s94]; rfl) (by decide) ?_
      refine x_aload_n C dX11_tried_100 rfl 0 rfl rfl ?_
      refine x_get C (ci := 10) (k := 4) 0 k52 rfl in_X11 (by decide) w_389 rfl dX11_tried_101 rfl ?_
      refine x_get C (ci := 8) (k := 9) 49 k51 rfl in_X9 (by decide) w_222 rfl dX11_tried_104 rfl ?_
      exact x_zret C hr hlk rfl dX11_tried_107 (by rw [if_pos ⟨b8, b15⟩])
    · skip
      have b95 := bI_e0 c14
      refine x_iconst C (v := (-1)) dX11_tried_19 (by decide) rfl ?_
      exact x_zret C hr hlk rfl dX11_tried_20 (by simp [b8, b95])
theorem dX8_copyFrom_0 : decode cX8_copyFrom 0 = .ok (.aload_n 1, 1) := by decide +kernel
theorem dX8_copyFrom_1 : decode cX8_copyFrom 1 = .ok (.getfield 9, 3) := by decide +kernel
theorem dX8_copyFrom_4 : decode cX8_copyFrom 4 = .ok (.iconst 0, 1) := by decide +kernel
theorem dX8_copyFrom_5 : decode cX8_copyFrom 5 = .ok (.aload_n 0, 1) := by decide +kernel
theorem dX8_copyFrom_6 : decode cX8_copyFrom 6 = .ok (.getfield 9, 3) := by decide +kernel
theorem dX8_copyFrom_9 : decode cX8_copyFrom 9 = .ok (.iconst 0, 1) := by decide +kernel
theorem dX8_copyFrom_10 : decode cX8_copyFrom 10 = .ok (.sipush 260, 3) := by decide +kernel
theorem dX8_copyFrom_13 : decode cX8_copyFrom 13 = .ok (.invokestatic 43, 3) := by decide +kernel
theorem dX8_copyFrom_16 : decode cX8_copyFrom 16 = .ok (.aload_n 0, 1) := by decide +kernel
theorem dX8_copyFrom_17 : decode cX8_copyFrom 17 = .ok (.aload_n 1, 1) := by decide +kernel
theorem dX8_copyFrom_18 : decode cX8_copyFrom 18 = .ok (.getfield 15, 3) := by decide +kernel
theorem dX8_copyFrom_21 : decode cX8_copyFrom 21 = .ok (.putfield 15, 3) := by decide +kernel
theorem dX8_copyFrom_24 : decode cX8_copyFrom 24 = .ok (.return_, 1) := by decide +kernel
set_option maxRecDepth 20000 in
set_option maxHeartbeats 4000000 in
theorem t_Tape_copy (E : xE) (l : Launch) (ws : va_W) {xk kb xt tb : Nat} {fk fb : Nat → Int32} (p_0 : Nat) (k_0 : ws[3]? = some (ob xk 7 [.ref kb, .int 0, .int 0, .int 0, .int 0])) (p_1 : Nat) (k_1 : ws[4]? = some (iA E kb 260 fk)) (p_2 : Nat) (k_2 : ws[1]? = some (ob xt 7 [.ref tb, .int 0, .int 0, .int 0, .int 0])) (p_3 : Nat) (k_3 : ws[2]? = some (iA E tb 260 fb)) : xV E l yX8_copyFrom cX8_copyFrom 2 1 0 0 [.ref xk, .ref xt] ws (fun w => keeps ws w (fun q => q = 3 ∨ q = 4)) := by
  refine xV_start (lv := [(0, .ref xk), (1, .ref xt)]) RX8 (by decide) rfl (Nat.le_of_ble_eq_true rfl) rfl (fun p e s m below meth c A C hr hlk hin => ?_)
  have kp0 : keeps ws ws (fun q => q = 3 ∨ q = 4) := keeps_rf
  refine x_aload_n C dX8_copyFrom_0 rfl 1 rfl rfl ?_
  refine x_get C (ci := 7) (k := 0) 1 k_2 rfl in_X8 (by decide) w_36 rfl dX8_copyFrom_1 rfl ?_
  refine x_iconst C (v := 0) dX8_copyFrom_4 (by decide) rfl ?_
  refine x_aload_n C dX8_copyFrom_5 rfl 0 rfl rfl ?_
  refine x_get C (ci := 7) (k := 0) 3 k_0 rfl in_X8 (by decide) w_36 rfl dX8_copyFrom_6 rfl ?_
  refine x_iconst C (v := 0) dX8_copyFrom_9 (by decide) rfl ?_
  refine x_sipush C (v := 260) dX8_copyFrom_10 (by decide) rfl ?_
  obtain ⟨w1, hw2⟩ : ∃ w : va_W, w = List.set ws 4 (iA E kb 260 (va_cpy fb fk 0 0 260)) := ⟨_, rfl⟩
  refine x_copy C 2 4 k_3 k_1 w_1094 w_798 w_797 w_20 (by decide) (by decide) (by decide) (by decide) (by decide) (Nat.le_of_ble_eq_true rfl) (Nat.le_of_ble_eq_true rfl) hw2.symm dX8_copyFrom_13 rfl ?_
  have k3 : w1[3]? = some (ob xk 7 [.ref kb, .int 0, .int 0, .int 0, .int 0]) := by rw [hw2]; exact set_ne k_0 (by decide)
  have k4 : w1[4]? = some (iA E kb 260 (va_cpy fb fk 0 0 260)) := by rw [hw2]; exact set_eq k_1
  have k5 : w1[1]? = some (ob xt 7 [.ref tb, .int 0, .int 0, .int 0, .int 0]) := by rw [hw2]; exact set_ne k_2 (by decide)
  have k6 : w1[2]? = some (iA E tb 260 fb) := by rw [hw2]; exact set_ne k_3 (by decide)
  have kp7 := keeps_set kp0 hw2 (by first | exact rfl | decide | omega | (dsimp only; omega))
  refine x_aload_n C dX8_copyFrom_16 rfl 0 rfl rfl ?_
  refine x_aload_n C dX8_copyFrom_17 rfl 1 rfl rfl ?_
  refine x_get C (ci := 7) (k := 1) 1 k5 rfl in_X8 (by decide) w_37 rfl dX8_copyFrom_18 rfl ?_
  obtain ⟨w8, hw9⟩ : ∃ w : va_W, w = List.set w1 3 (ob xk 7 [.ref kb, .int 0, .int 0, .int 0, .int 0]) := ⟨_, rfl⟩
  refine x_put C (ci := 7) (k := 1) (ty := .int) 3 k3 rfl in_X8 tyX8 tyX8_ok nmX8 (by decide) w_37 rfl rfl rfl rfl (Nat.le_of_ble_eq_true rfl) hw9.symm dX8_copyFrom_21 rfl ?_
  have k10 : w8[3]? = some (ob xk 7 [.ref kb, .int 0, .int 0, .int 0, .int 0]) := by rw [hw9]; exact set_eq k3
  have k11 : w8[4]? = some (iA E kb 260 (va_cpy fb fk 0 0 260)) := by rw [hw9]; exact set_ne k4 (by decide)
  have k12 : w8[1]? = some (ob xt 7 [.ref tb, .int 0, .int 0, .int 0, .int 0]) := by rw [hw9]; exact set_ne k5 (by decide)
  have k13 : w8[2]? = some (iA E tb 260 fb) := by rw [hw9]; exact set_ne k6 (by decide)
  have kp14 := keeps_set kp7 hw9 (by first | exact rfl | decide | omega | (dsimp only; omega))
  exact x_vret C hr hlk dX8_copyFrom_24 kp14
theorem dX11_keep_0 : decode cX11_keep 0 = .ok (.aload_n 0, 1) := by decide +kernel
theorem dX11_keep_1 : decode cX11_keep 1 = .ok (.getfield 26, 3) := by decide +kernel
theorem dX11_keep_4 : decode cX11_keep 4 = .ok (.aload_n 0, 1) := by decide +kernel
theorem dX11_keep_5 : decode cX11_keep 5 = .ok (.getfield 22, 3) := by decide +kernel
theorem dX11_keep_8 : decode cX11_keep 8 = .ok (.invokevirtual 180, 3) := by decide +kernel
theorem dX11_keep_11 : decode cX11_keep 11 = .ok (.aload_n 0, 1) := by decide +kernel
theorem dX11_keep_12 : decode cX11_keep 12 = .ok (.getfield 16, 3) := by decide +kernel
theorem dX11_keep_15 : decode cX11_keep 15 = .ok (.aload_n 0, 1) := by decide +kernel
theorem dX11_keep_16 : decode cX11_keep 16 = .ok (.getfield 10, 3) := by decide +kernel
theorem dX11_keep_19 : decode cX11_keep 19 = .ok (.invokevirtual 397, 3) := by decide +kernel
theorem dX11_keep_22 : decode cX11_keep 22 = .ok (.aload_n 0, 1) := by decide +kernel
theorem dX11_keep_23 : decode cX11_keep 23 = .ok (.iconst 1, 1) := by decide +kernel
theorem dX11_keep_24 : decode cX11_keep 24 = .ok (.putfield 32, 3) := by decide +kernel
theorem dX11_keep_27 : decode cX11_keep 27 = .ok (.aload_n 0, 1) := by decide +kernel
theorem dX11_keep_28 : decode cX11_keep 28 = .ok (.getfield 22, 3) := by decide +kernel
theorem dX11_keep_31 : decode cX11_keep 31 = .ok (.getfield 132, 3) := by decide +kernel
theorem dX11_keep_34 : decode cX11_keep 34 = .ok (.iconst 0, 1) := by decide +kernel
theorem dX11_keep_35 : decode cX11_keep 35 = .ok (.invokevirtual 203, 3) := by decide +kernel
theorem dX11_keep_38 : decode cX11_keep 38 = .ok (.ireturn, 1) := by decide +kernel
set_option maxRecDepth 20000 in
set_option maxHeartbeats 4000000 in
theorem t_keep (E : xE) (l : Launch) (ws : va_W) {x xt xk xn xp xtr xr xs xl xpl xse ah ald arm ahr ash arw abr aw nh np ne nw nh1 nh2 np1 np2 np3 np4 ne1 ne2 ne3 ne4 ne5 ne6 nw1 nw2 nw3 nw4 nw5 kh kp ke kw kh1 kh2 kp1 kp2 kp3 kp4 ke1 ke2 ke3 ke4 ke5 ke6 kw1 kw2 kw3 kw4 kw5 kb tb : Nat} {nfh1 nfh2 nfp1 nfp2 nfp3 nfp4 nfe1 nfe2 nfe3 nfe4 nfe5 nfe6 nfw1 nfw2 nfw3 nfw4 nfw5 kfh1 kfh2 kfp1 kfp2 kfp3 kfp4 kfe1 kfe2 kfe3 kfe4 kfe5 kfe6 kfw1 kfw2 kfw3 kfw4 kfw5 fk fb : Nat → Int32} (p_0 : Nat) (k_0 : ws[0]? = some (ob x 10 [.ref xt, .ref xk, .ref xn, .ref xp, .ref xtr, .int 0, .ref xr, .ref xs, .ref xl, .ref xpl, .ref xse, .ref ah, .ref ald, .ref arm, .ref ahr, .ref ash, .ref arw, .ref abr, .ref aw])) (p_1 : Nat) (k_1 : ws[5]? = some (ob xn 8 [.int 0, .int 1, .ref nh, .ref np, .ref ne, .ref nw, .int 0, .int 0, .int 0, .int 0])) (p_2 : Nat) (k_2 : ws[6]? = some (ob nh 2 [.int 0, .ref nh1, .ref nh2])) (p_3 : Nat) (k_3 : ws[7]? = some (iA E nh1 8 nfh1)) (p_4 : Nat) (k_4 : ws[8]? = some (iA E nh2 8 nfh2)) (p_5 : Nat) (k_5 : ws[9]? = some (ob np 4 [.int 0, .ref np1, .ref np2, .ref np3, .ref np4])) (p_6 : Nat) (k_6 : ws[10]? = some (iA E np1 8 nfp1)) (p_7 : Nat) (k_7 : ws[11]? = some (iA E np2 8 nfp2)) (p_8 : Nat) (k_8 : ws[12]? = some (iA E np3 8 nfp3)) (p_9 : Nat) (k_9 : ws[13]? = some (iA E np4 8 nfp4)) (p_10 : Nat) (k_10 : ws[14]? = some (ob ne 1 [.int 0, .ref ne1, .ref ne2, .ref ne3, .ref ne4, .ref ne5, .ref ne6])) (p_11 : Nat) (k_11 : ws[15]? = some (iA E ne1 48 nfe1)) (p_12 : Nat) (k_12 : ws[16]? = some (iA E ne2 48 nfe2)) (p_13 : Nat) (k_13 : ws[17]? = some (iA E ne3 48 nfe3)) (p_14 : Nat) (k_14 : ws[18]? = some (iA E ne4 48 nfe4)) (p_15 : Nat) (k_15 : ws[19]? = some (iA E ne5 48 nfe5)) (p_16 : Nat) (k_16 : ws[20]? = some (iA E ne6 48 nfe6)) (p_17 : Nat) (k_17 : ws[21]? = some (ob nw 9 [.int 0, .ref nw1, .ref nw2, .ref nw3, .ref nw4, .ref nw5])) (p_18 : Nat) (k_18 : ws[22]? = some (iA E nw1 8 nfw1)) (p_19 : Nat) (k_19 : ws[23]? = some (iA E nw2 8 nfw2)) (p_20 : Nat) (k_20 : ws[24]? = some (iA E nw3 8 nfw3)) (p_21 : Nat) (k_21 : ws[25]? = some (iA E nw4 8 nfw4)) (p_22 : Nat) (k_22 : ws[26]? = some (iA E nw5 8 nfw5)) (p_23 : Nat) (k_23 : ws[27]? = some (ob xp 8 [.int 0, .int 1, .ref kh, .ref kp, .ref ke, .ref kw, .int 0, .int 0, .int 0, .int 0])) (p_24 : Nat) (k_24 : ws[28]? = some (ob kh 2 [.int 0, .ref kh1, .ref kh2])) (p_25 : Nat) (k_25 : ws[29]? = some (iA E kh1 8 kfh1)) (p_26 : Nat) (k_26 : ws[30]? = some (iA E kh2 8 kfh2)) (p_27 : Nat) (k_27 : ws[31]? = some (ob kp 4 [.int 0, .ref kp1, .ref kp2, .ref kp3, .ref kp4])) (p_28 : Nat) (k_28 : ws[32]? = some (iA E kp1 8 kfp1)) (p_29 : Nat) (k_29 : ws[33]? = some (iA E kp2 8 kfp2)) (p_30 : Nat) (k_30 : ws[34]? = some (iA E kp3 8 kfp3)) (p_31 : Nat) (k_31 : ws[35]? = some (iA E kp4 8 kfp4)) (p_32 : Nat) (k_32 : ws[36]? = some (ob ke 1 [.int 0, .ref ke1, .ref ke2, .ref ke3, .ref ke4, .ref ke5, .ref ke6])) (p_33 : Nat) (k_33 : ws[37]? = some (iA E ke1 48 kfe1)) (p_34 : Nat) (k_34 : ws[38]? = some (iA E ke2 48 kfe2)) (p_35 : Nat) (k_35 : ws[39]? = some (iA E ke3 48 kfe3)) (p_36 : Nat) (k_36 : ws[40]? = some (iA E ke4 48 kfe4)) (p_37 : Nat) (k_37 : ws[41]? = some (iA E ke5 48 kfe5)) (p_38 : Nat) (k_38 : ws[42]? = some (iA E ke6 48 kfe6)) (p_39 : Nat) (k_39 : ws[43]? = some (ob kw 9 [.int 0, .ref kw1, .ref kw2, .ref kw3, .ref kw4, .ref kw5])) (p_40 : Nat) (k_40 : ws[44]? = some (iA E kw1 8 kfw1)) (p_41 : Nat) (k_41 : ws[45]? = some (iA E kw2 8 kfw2)) (p_42 : Nat) (k_42 : ws[46]? = some (iA E kw3 8 kfw3)) (p_43 : Nat) (k_43 : ws[47]? = some (iA E kw4 8 kfw4)) (p_44 : Nat) (k_44 : ws[48]? = some (iA E kw5 8 kfw5)) (p_45 : Nat) (k_45 : ws[3]? = some (ob xk 7 [.ref kb, .int 0, .int 0, .int 0, .int 0])) (p_46 : Nat) (k_46 : ws[4]? = some (iA E kb 260 fk)) (p_47 : Nat) (k_47 : ws[1]? = some (ob xt 7 [.ref tb, .int 0, .int 0, .int 0, .int 0])) (p_48 : Nat) (k_48 : ws[2]? = some (iA E tb 260 fb)) : xI E l yX11_keep cX11_keep 1 (some .int) 3 [.ref x] ws (fun r w => r = 0) := by
  refine xI_start (lv := [(0, .ref x)]) RX11 (by decide) rfl (Nat.le_of_ble_eq_true rfl) rfl (fun p e s m below meth c A C hr hlk => ?_)
  refine x_aload_n C dX11_keep_0 rfl 0 rfl rfl ?_
  refine x_get C (ci := 10) (k := 3) 0 k_0 rfl in_X11 (by decide) w_388 rfl dX11_keep_1 rfl ?_
  refine x_aload_n C dX11_keep_4 rfl 0 rfl rfl ?_
  refine x_get C (ci := 10) (k := 2) 0 k_0 rfl in_X11 (by decide) w_387 rfl dX11_keep_5 rfl ?_
  refine x_vv C (As := [.ref xn]) (rest := []) (t_Town_copy E l ws 27 k_23 28 k_24 29 k_25 30 k_26 31 k_27 32 k_28 33 k_29 34 k_30 35 k_31 36 k_32 37 k_33 38 k_34 39 k_35 40 k_36 41 k_37 42 k_38 43 k_39 44 k_40 45 k_41 46 k_42 47 k_43 48 k_44 5 k_1 6 k_2 7 k_3 8 k_4 9 k_5 10 k_6 11 k_7 12 k_8 13 k_9 14 k_10 15 k_11 16 k_12 17 k_13 18 k_14 19 k_15 20 k_16 21 k_17 22 k_18 23 k_19 24 k_20 25 k_21 26 k_22 (by omega)) mf_X9_copyFrom w_788 27 k_23 rfl rfl rfl (Nat.le_of_ble_eq_true rfl) ⟨(Nat.le_of_ble_eq_true rfl), (Nat.le_of_ble_eq_true rfl)⟩ ⟨(Nat.le_of_ble_eq_true rfl), (Nat.le_of_ble_eq_true rfl)⟩ dX11_keep_8 rfl (fun w3 h1 => ?_)
  obtain ⟨g4, g5, g6, g7⟩ := h1
  have k9 : w3[0]? = some (ob x 10 [.ref xt, .ref xk, .ref xn, .ref xp, .ref xtr, .int 0, .ref xr, .ref xs, .ref xl, .ref xpl, .ref xse, .ref ah, .ref ald, .ref arm, .ref ahr, .ref ash, .ref arw, .ref abr, .ref aw]) := keeps_at g4 k_0 (by first | decide | omega | (dsimp only; omega))
  have k10 : w3[5]? = some (ob xn 8 [.int 0, .int 1, .ref nh, .ref np, .ref ne, .ref nw, .int 0, .int 0, .int 0, .int 0]) := keeps_at g4 k_1 (by first | decide | omega | (dsimp only; omega))
  have k11 : w3[6]? = some (ob nh 2 [.int 0, .ref nh1, .ref nh2]) := keeps_at g4 k_2 (by first | decide | omega | (dsimp only; omega))
  have k12 : w3[7]? = some (iA E nh1 8 nfh1) := keeps_at g4 k_3 (by first | decide | omega | (dsimp only; omega))
  have k13 : w3[8]? = some (iA E nh2 8 nfh2) := keeps_at g4 k_4 (by first | decide | omega | (dsimp only; omega))
  have k14 : w3[9]? = some (ob np 4 [.int 0, .ref np1, .ref np2, .ref np3, .ref np4]) := keeps_at g4 k_5 (by first | decide | omega | (dsimp only; omega))
  have k15 : w3[10]? = some (iA E np1 8 nfp1) := keeps_at g4 k_6 (by first | decide | omega | (dsimp only; omega))
  have k16 : w3[11]? = some (iA E np2 8 nfp2) := keeps_at g4 k_7 (by first | decide | omega | (dsimp only; omega))
  have k17 : w3[12]? = some (iA E np3 8 nfp3) := keeps_at g4 k_8 (by first | decide | omega | (dsimp only; omega))
  have k18 : w3[13]? = some (iA E np4 8 nfp4) := keeps_at g4 k_9 (by first | decide | omega | (dsimp only; omega))
  have k19 : w3[14]? = some (ob ne 1 [.int 0, .ref ne1, .ref ne2, .ref ne3, .ref ne4, .ref ne5, .ref ne6]) := keeps_at g4 k_10 (by first | decide | omega | (dsimp only; omega))
  have k20 : w3[15]? = some (iA E ne1 48 nfe1) := keeps_at g4 k_11 (by first | decide | omega | (dsimp only; omega))
  have k21 : w3[16]? = some (iA E ne2 48 nfe2) := keeps_at g4 k_12 (by first | decide | omega | (dsimp only; omega))
  have k22 : w3[17]? = some (iA E ne3 48 nfe3) := keeps_at g4 k_13 (by first | decide | omega | (dsimp only; omega))
  have k23 : w3[18]? = some (iA E ne4 48 nfe4) := keeps_at g4 k_14 (by first | decide | omega | (dsimp only; omega))
  have k24 : w3[19]? = some (iA E ne5 48 nfe5) := keeps_at g4 k_15 (by first | decide | omega | (dsimp only; omega))
  have k25 : w3[20]? = some (iA E ne6 48 nfe6) := keeps_at g4 k_16 (by first | decide | omega | (dsimp only; omega))
  have k26 : w3[21]? = some (ob nw 9 [.int 0, .ref nw1, .ref nw2, .ref nw3, .ref nw4, .ref nw5]) := keeps_at g4 k_17 (by first | decide | omega | (dsimp only; omega))
  have k27 : w3[22]? = some (iA E nw1 8 nfw1) := keeps_at g4 k_18 (by first | decide | omega | (dsimp only; omega))
  have k28 : w3[23]? = some (iA E nw2 8 nfw2) := keeps_at g4 k_19 (by first | decide | omega | (dsimp only; omega))
  have k29 : w3[24]? = some (iA E nw3 8 nfw3) := keeps_at g4 k_20 (by first | decide | omega | (dsimp only; omega))
  have k30 : w3[25]? = some (iA E nw4 8 nfw4) := keeps_at g4 k_21 (by first | decide | omega | (dsimp only; omega))
  have k31 : w3[26]? = some (iA E nw5 8 nfw5) := keeps_at g4 k_22 (by first | decide | omega | (dsimp only; omega))
  have k32 : w3[3]? = some (ob xk 7 [.ref kb, .int 0, .int 0, .int 0, .int 0]) := keeps_at g4 k_45 (by first | decide | omega | (dsimp only; omega))
  have k33 : w3[4]? = some (iA E kb 260 fk) := keeps_at g4 k_46 (by first | decide | omega | (dsimp only; omega))
  have k34 : w3[1]? = some (ob xt 7 [.ref tb, .int 0, .int 0, .int 0, .int 0]) := keeps_at g4 k_47 (by first | decide | omega | (dsimp only; omega))
  have k35 : w3[2]? = some (iA E tb 260 fb) := keeps_at g4 k_48 (by first | decide | omega | (dsimp only; omega))
  refine x_aload_n C dX11_keep_11 rfl 0 rfl rfl ?_
  refine x_get C (ci := 10) (k := 1) 0 k9 rfl in_X11 (by decide) w_386 rfl dX11_keep_12 rfl ?_
  refine x_aload_n C dX11_keep_15 rfl 0 rfl rfl ?_
  refine x_get C (ci := 10) (k := 0) 0 k9 rfl in_X11 (by decide) w_385 rfl dX11_keep_16 rfl ?_
  refine x_vv C (As := [.ref xt]) (rest := []) (t_Tape_copy E l w3 3 k32 4 k33 1 k34 2 k35) mf_X8_copyFrom w_1090 3 k32 rfl rfl rfl (Nat.le_of_ble_eq_true rfl) ⟨(Nat.le_of_ble_eq_true rfl), (Nat.le_of_ble_eq_true rfl)⟩ ⟨(Nat.le_of_ble_eq_true rfl), (Nat.le_of_ble_eq_true rfl)⟩ dX11_keep_19 rfl (fun w38 h36 => ?_)
  have g39 := h36
  have k41 : w38[0]? = some (ob x 10 [.ref xt, .ref xk, .ref xn, .ref xp, .ref xtr, .int 0, .ref xr, .ref xs, .ref xl, .ref xpl, .ref xse, .ref ah, .ref ald, .ref arm, .ref ahr, .ref ash, .ref arw, .ref abr, .ref aw]) := keeps_at g39 k9 (by first | decide | omega | (dsimp only; omega))
  have k42 : w38[5]? = some (ob xn 8 [.int 0, .int 1, .ref nh, .ref np, .ref ne, .ref nw, .int 0, .int 0, .int 0, .int 0]) := keeps_at g39 k10 (by first | decide | omega | (dsimp only; omega))
  have k43 : w38[6]? = some (ob nh 2 [.int 0, .ref nh1, .ref nh2]) := keeps_at g39 k11 (by first | decide | omega | (dsimp only; omega))
  have k44 : w38[7]? = some (iA E nh1 8 nfh1) := keeps_at g39 k12 (by first | decide | omega | (dsimp only; omega))
  have k45 : w38[8]? = some (iA E nh2 8 nfh2) := keeps_at g39 k13 (by first | decide | omega | (dsimp only; omega))
  have k46 : w38[9]? = some (ob np 4 [.int 0, .ref np1, .ref np2, .ref np3, .ref np4]) := keeps_at g39 k14 (by first | decide | omega | (dsimp only; omega))
  have k47 : w38[10]? = some (iA E np1 8 nfp1) := keeps_at g39 k15 (by first | decide | omega | (dsimp only; omega))
  have k48 : w38[11]? = some (iA E np2 8 nfp2) := keeps_at g39 k16 (by first | decide | omega | (dsimp only; omega))
  have k49 : w38[12]? = some (iA E np3 8 nfp3) := keeps_at g39 k17 (by first | decide | omega | (dsimp only; omega))
  have k50 : w38[13]? = some (iA E np4 8 nfp4) := keeps_at g39 k18 (by first | decide | omega | (dsimp only; omega))
  have k51 : w38[14]? = some (ob ne 1 [.int 0, .ref ne1, .ref ne2, .ref ne3, .ref ne4, .ref ne5, .ref ne6]) := keeps_at g39 k19 (by first | decide | omega | (dsimp only; omega))
  have k52 : w38[15]? = some (iA E ne1 48 nfe1) := keeps_at g39 k20 (by first | decide | omega | (dsimp only; omega))
  have k53 : w38[16]? = some (iA E ne2 48 nfe2) := keeps_at g39 k21 (by first | decide | omega | (dsimp only; omega))
  have k54 : w38[17]? = some (iA E ne3 48 nfe3) := keeps_at g39 k22 (by first | decide | omega | (dsimp only; omega))
  have k55 : w38[18]? = some (iA E ne4 48 nfe4) := keeps_at g39 k23 (by first | decide | omega | (dsimp only; omega))
  have k56 : w38[19]? = some (iA E ne5 48 nfe5) := keeps_at g39 k24 (by first | decide | omega | (dsimp only; omega))
  have k57 : w38[20]? = some (iA E ne6 48 nfe6) := keeps_at g39 k25 (by first | decide | omega | (dsimp only; omega))
  have k58 : w38[21]? = some (ob nw 9 [.int 0, .ref nw1, .ref nw2, .ref nw3, .ref nw4, .ref nw5]) := keeps_at g39 k26 (by first | decide | omega | (dsimp only; omega))
  have k59 : w38[22]? = some (iA E nw1 8 nfw1) := keeps_at g39 k27 (by first | decide | omega | (dsimp only; omega))
  have k60 : w38[23]? = some (iA E nw2 8 nfw2) := keeps_at g39 k28 (by first | decide | omega | (dsimp only; omega))
  have k61 : w38[24]? = some (iA E nw3 8 nfw3) := keeps_at g39 k29 (by first | decide | omega | (dsimp only; omega))
  have k62 : w38[25]? = some (iA E nw4 8 nfw4) := keeps_at g39 k30 (by first | decide | omega | (dsimp only; omega))
  have k63 : w38[26]? = some (iA E nw5 8 nfw5) := keeps_at g39 k31 (by first | decide | omega | (dsimp only; omega))
  have k64 : w38[27]? = some (ob xp 8 [.int 0, .int 1, .ref kh, .ref kp, .ref ke, .ref kw, .int 0, .int 0, .int 0, .int 0]) := keeps_at g39 g5 (by first | decide | omega | (dsimp only; omega))
  have k65 : w38[28]? = some (ob kh 2 [.int 0, .ref kh1, .ref kh2]) := keeps_at g39 g6 (by first | decide | omega | (dsimp only; omega))
  have k66 : w38[36]? = some (ob ke 1 [.int 0, .ref ke1, .ref ke2, .ref ke3, .ref ke4, .ref ke5, .ref ke6]) := keeps_at g39 g7 (by first | decide | omega | (dsimp only; omega))
  have k67 : w38[1]? = some (ob xt 7 [.ref tb, .int 0, .int 0, .int 0, .int 0]) := keeps_at g39 k34 (by first | decide | omega | (dsimp only; omega))
  have k68 : w38[2]? = some (iA E tb 260 fb) := keeps_at g39 k35 (by first | decide | omega | (dsimp only; omega))
  refine x_aload_n C dX11_keep_22 rfl 0 rfl rfl ?_
  refine x_iconst C (v := 1) dX11_keep_23 (by decide) rfl ?_
  obtain ⟨w69, hw70⟩ : ∃ w : va_W, w = List.set w38 0 (ob x 10 [.ref xt, .ref xk, .ref xn, .ref xp, .ref xtr, .int 1, .ref xr, .ref xs, .ref xl, .ref xpl, .ref xse, .ref ah, .ref ald, .ref arm, .ref ahr, .ref ash, .ref arw, .ref abr, .ref aw]) := ⟨_, rfl⟩
  refine x_put C (ci := 10) (k := 5) (ty := .boolean) 0 k41 rfl in_X11 tyX11 tyX11_ok nmX11 (by decide) w_390 rfl rfl rfl rfl (Nat.le_of_ble_eq_true rfl) hw70.symm dX11_keep_24 rfl ?_
  have k71 : w69[0]? = some (ob x 10 [.ref xt, .ref xk, .ref xn, .ref xp, .ref xtr, .int 1, .ref xr, .ref xs, .ref xl, .ref xpl, .ref xse, .ref ah, .ref ald, .ref arm, .ref ahr, .ref ash, .ref arw, .ref abr, .ref aw]) := by rw [hw70]; exact set_eq k41
  have k72 : w69[5]? = some (ob xn 8 [.int 0, .int 1, .ref nh, .ref np, .ref ne, .ref nw, .int 0, .int 0, .int 0, .int 0]) := by rw [hw70]; exact set_ne k42 (by decide)
  have k73 : w69[6]? = some (ob nh 2 [.int 0, .ref nh1, .ref nh2]) := by rw [hw70]; exact set_ne k43 (by decide)
  have k74 : w69[7]? = some (iA E nh1 8 nfh1) := by rw [hw70]; exact set_ne k44 (by decide)
  have k75 : w69[8]? = some (iA E nh2 8 nfh2) := by rw [hw70]; exact set_ne k45 (by decide)
  have k76 : w69[9]? = some (ob np 4 [.int 0, .ref np1, .ref np2, .ref np3, .ref np4]) := by rw [hw70]; exact set_ne k46 (by decide)
  have k77 : w69[10]? = some (iA E np1 8 nfp1) := by rw [hw70]; exact set_ne k47 (by decide)
  have k78 : w69[11]? = some (iA E np2 8 nfp2) := by rw [hw70]; exact set_ne k48 (by decide)
  have k79 : w69[12]? = some (iA E np3 8 nfp3) := by rw [hw70]; exact set_ne k49 (by decide)
  have k80 : w69[13]? = some (iA E np4 8 nfp4) := by rw [hw70]; exact set_ne k50 (by decide)
  have k81 : w69[14]? = some (ob ne 1 [.int 0, .ref ne1, .ref ne2, .ref ne3, .ref ne4, .ref ne5, .ref ne6]) := by rw [hw70]; exact set_ne k51 (by decide)
  have k82 : w69[15]? = some (iA E ne1 48 nfe1) := by rw [hw70]; exact set_ne k52 (by decide)
  have k83 : w69[16]? = some (iA E ne2 48 nfe2) := by rw [hw70]; exact set_ne k53 (by decide)
  have k84 : w69[17]? = some (iA E ne3 48 nfe3) := by rw [hw70]; exact set_ne k54 (by decide)
  have k85 : w69[18]? = some (iA E ne4 48 nfe4) := by rw [hw70]; exact set_ne k55 (by decide)
  have k86 : w69[19]? = some (iA E ne5 48 nfe5) := by rw [hw70]; exact set_ne k56 (by decide)
  have k87 : w69[20]? = some (iA E ne6 48 nfe6) := by rw [hw70]; exact set_ne k57 (by decide)
  have k88 : w69[21]? = some (ob nw 9 [.int 0, .ref nw1, .ref nw2, .ref nw3, .ref nw4, .ref nw5]) := by rw [hw70]; exact set_ne k58 (by decide)
  have k89 : w69[22]? = some (iA E nw1 8 nfw1) := by rw [hw70]; exact set_ne k59 (by decide)
  have k90 : w69[23]? = some (iA E nw2 8 nfw2) := by rw [hw70]; exact set_ne k60 (by decide)
  have k91 : w69[24]? = some (iA E nw3 8 nfw3) := by rw [hw70]; exact set_ne k61 (by decide)
  have k92 : w69[25]? = some (iA E nw4 8 nfw4) := by rw [hw70]; exact set_ne k62 (by decide)
  have k93 : w69[26]? = some (iA E nw5 8 nfw5) := by rw [hw70]; exact set_ne k63 (by decide)
  have k94 : w69[27]? = some (ob xp 8 [.int 0, .int 1, .ref kh, .ref kp, .ref ke, .ref kw, .int 0, .int 0, .int 0, .int 0]) := by rw [hw70]; exact set_ne k64 (by decide)
  have k95 : w69[28]? = some (ob kh 2 [.int 0, .ref kh1, .ref kh2]) := by rw [hw70]; exact set_ne k65 (by decide)
  have k96 : w69[36]? = some (ob ke 1 [.int 0, .ref ke1, .ref ke2, .ref ke3, .ref ke4, .ref ke5, .ref ke6]) := by rw [hw70]; exact set_ne k66 (by decide)
  have k97 : w69[1]? = some (ob xt 7 [.ref tb, .int 0, .int 0, .int 0, .int 0]) := by rw [hw70]; exact set_ne k67 (by decide)
  have k98 : w69[2]? = some (iA E tb 260 fb) := by rw [hw70]; exact set_ne k68 (by decide)
  refine x_aload_n C dX11_keep_27 rfl 0 rfl rfl ?_
  refine x_get C (ci := 10) (k := 2) 0 k71 rfl in_X11 (by decide) w_387 rfl dX11_keep_28 rfl ?_
  refine x_get C (ci := 8) (k := 4) 5 k72 rfl in_X9 (by decide) w_209 rfl dX11_keep_31 rfl ?_
  refine x_iconst C (v := 0) dX11_keep_34 (by decide) rfl ?_
  refine x_vi C (As := [.int 0]) (rest := []) (t_Eggs_howMany0 E l w69 14 k81 0) mf_X1_howMany w_853 14 k81 rfl rfl rfl (Nat.le_of_ble_eq_true rfl) ⟨(Nat.le_of_ble_eq_true rfl), (Nat.le_of_ble_eq_true rfl)⟩ ⟨(Nat.le_of_ble_eq_true rfl), (Nat.le_of_ble_eq_true rfl)⟩ dX11_keep_35 rfl (fun r100 w101 h99 => ?_)
  obtain ⟨e102, g103⟩ := h99
  refine x_top e102 ?_
  refine x_ws g103 ?_
  exact x_zret C hr hlk rfl dX11_keep_38 (by first | rfl | trivial | (simp [bI]; done) | (simp_all [bI]; done))
