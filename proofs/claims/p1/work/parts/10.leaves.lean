theorem dX11_isWithin_0 : decode cX11_isWithin 0 = .ok (.iload_n 0, 1) := by decide +kernel
theorem dX11_isWithin_1 : decode cX11_isWithin 1 = .ok (.iload_n 1, 1) := by decide +kernel
theorem dX11_isWithin_2 : decode cX11_isWithin 2 = .ok (.if_icmp .lt 12, 3) := by decide +kernel
theorem dX11_isWithin_5 : decode cX11_isWithin 5 = .ok (.iload_n 0, 1) := by decide +kernel
theorem dX11_isWithin_6 : decode cX11_isWithin 6 = .ok (.iload_n 2, 1) := by decide +kernel
theorem dX11_isWithin_7 : decode cX11_isWithin 7 = .ok (.if_icmp .gt 7, 3) := by decide +kernel
theorem dX11_isWithin_10 : decode cX11_isWithin 10 = .ok (.iconst 1, 1) := by decide +kernel
theorem dX11_isWithin_11 : decode cX11_isWithin 11 = .ok (.goto 4, 3) := by decide +kernel
theorem dX11_isWithin_14 : decode cX11_isWithin 14 = .ok (.iconst 0, 1) := by decide +kernel
theorem dX11_isWithin_15 : decode cX11_isWithin 15 = .ok (.ireturn, 1) := by decide +kernel
set_option maxRecDepth 20000 in
set_option maxHeartbeats 4000000 in
theorem t_isWithin (E : xE) (l : Launch) (ws : va_W) (v lo hi : Int32) : xI E l yX11_isWithin cX11_isWithin 3 (some .boolean) 0 [.int v, .int lo, .int hi] ws (fun r w => r = bI (wth v lo hi) ∧ w = ws) := by
  refine xI_start (lv := [(0, .int v), (1, .int lo), (2, .int hi)]) RX11 (by decide) rfl (Nat.le_of_ble_eq_true rfl) rfl (fun p e s m below meth c A C hr hlk => ?_)
  refine x_iload_n C dX11_isWithin_0 rfl 0 rfl rfl ?_
  refine x_iload_n C dX11_isWithin_1 rfl 1 rfl rfl ?_
  refine x_icmp_lt C (tgt := 14) dX11_isWithin_2 (by decide) rfl (fun c1 => ?_) (fun c1 => ?_)
  · skip
    refine x_iconst C (v := 0) dX11_isWithin_14 (by decide) rfl ?_
    exact x_zret C hr hlk rfl dX11_isWithin_15 ⟨by first | rfl | (simp [bI, c1]; done) | (simp_all [bI]; done), rfl⟩
  · skip
    refine x_iload_n C dX11_isWithin_5 rfl 0 rfl rfl ?_
    refine x_iload_n C dX11_isWithin_6 rfl 2 rfl rfl ?_
    refine x_icmp_gt C (tgt := 14) dX11_isWithin_7 (by decide) rfl (fun c2 => ?_) (fun c2 => ?_)
    · skip
      refine x_iconst C (v := 0) dX11_isWithin_14 (by decide) rfl ?_
      exact x_zret C hr hlk rfl dX11_isWithin_15 ⟨by first | rfl | (simp [bI, c1, c2]; done) | (simp_all [bI]; done), rfl⟩
    · skip
      refine x_iconst C (v := 1) dX11_isWithin_10 (by decide) rfl ?_
      refine x_goto C (tgt := 15) dX11_isWithin_11 (by decide) ?_
      exact x_zret C hr hlk rfl dX11_isWithin_15 ⟨by first | rfl | (simp [bI, c1, c2]; done) | (simp_all [bI]; done), rfl⟩
theorem dX11_isIn_0 : decode cX11_isIn 0 = .ok (.iload_n 1, 1) := by decide +kernel
theorem dX11_isIn_1 : decode cX11_isIn 1 = .ok (.ifCond .lt 22, 3) := by decide +kernel
theorem dX11_isIn_4 : decode cX11_isIn 4 = .ok (.iload_n 1, 1) := by decide +kernel
theorem dX11_isIn_5 : decode cX11_isIn 5 = .ok (.bipush 8, 2) := by decide +kernel
theorem dX11_isIn_7 : decode cX11_isIn 7 = .ok (.if_icmp .ge 16, 3) := by decide +kernel
theorem dX11_isIn_10 : decode cX11_isIn 10 = .ok (.iload_n 0, 1) := by decide +kernel
theorem dX11_isIn_11 : decode cX11_isIn 11 = .ok (.iload_n 1, 1) := by decide +kernel
theorem dX11_isIn_12 : decode cX11_isIn 12 = .ok (.ishr, 1) := by decide +kernel
theorem dX11_isIn_13 : decode cX11_isIn 13 = .ok (.iconst 1, 1) := by decide +kernel
theorem dX11_isIn_14 : decode cX11_isIn 14 = .ok (.iand, 1) := by decide +kernel
theorem dX11_isIn_15 : decode cX11_isIn 15 = .ok (.iconst 1, 1) := by decide +kernel
theorem dX11_isIn_16 : decode cX11_isIn 16 = .ok (.if_icmp .ne 7, 3) := by decide +kernel
theorem dX11_isIn_23 : decode cX11_isIn 23 = .ok (.iconst 0, 1) := by decide +kernel
theorem dX11_isIn_24 : decode cX11_isIn 24 = .ok (.ireturn, 1) := by decide +kernel
set_option maxRecDepth 20000 in
set_option maxHeartbeats 4000000 in
theorem t_isIn0 (E : xE) (l : Launch) (ws : va_W) (pl : Int32) : xI E l yX11_isIn cX11_isIn 2 (some .boolean) 0 [.int 0, .int pl] ws (fun r w => r = 0 ∧ w = ws) := by
  refine xI_start (lv := [(0, .int 0), (1, .int pl)]) RX11 (by decide) rfl (Nat.le_of_ble_eq_true rfl) rfl (fun p e s m below meth c A C hr hlk => ?_)
  refine x_iload_n C dX11_isIn_0 rfl 1 rfl rfl ?_
  refine x_if_lt C (tgt := 23) dX11_isIn_1 (by decide) rfl (fun c1 => ?_) (fun c1 => ?_)
  · skip
    refine x_iconst C (v := 0) dX11_isIn_23 (by decide) rfl ?_
    exact x_zret C hr hlk rfl dX11_isIn_24 ⟨by first | rfl | (simp [bI, c1]; done) | (simp_all [bI]; done), rfl⟩
  · skip
    refine x_iload_n C dX11_isIn_4 rfl 1 rfl rfl ?_
    refine x_bipush C (v := 8) dX11_isIn_5 (by decide) rfl ?_
    refine x_icmp_ge C (tgt := 23) dX11_isIn_7 (by decide) rfl (fun c2 => ?_) (fun c2 => ?_)
    · skip
      refine x_iconst C (v := 0) dX11_isIn_23 (by decide) rfl ?_
      exact x_zret C hr hlk rfl dX11_isIn_24 ⟨by first | rfl | (simp [bI, c1, c2]; done) | (simp_all [bI]; done), rfl⟩
    · skip
      refine x_iload_n C dX11_isIn_10 rfl 0 rfl rfl ?_
      refine x_iload_n C dX11_isIn_11 rfl 1 rfl rfl ?_
      refine x_ishr C (v := 0) dX11_isIn_12 (z_shr _) rfl ?_
      refine x_iconst C (v := 1) dX11_isIn_13 (by decide) rfl ?_
      refine x_iand C (v := 0) dX11_isIn_14 (by decide) rfl ?_
      refine x_iconst C (v := 1) dX11_isIn_15 (by decide) rfl ?_
      refine x_icmp_ne C (tgt := 23) dX11_isIn_16 (by decide) rfl (fun _ => ?_) (fun h => absurd h (by decide))
      refine x_iconst C (v := 0) dX11_isIn_23 (by decide) rfl ?_
      exact x_zret C hr hlk rfl dX11_isIn_24 ⟨by first | rfl | (simp [bI, c1, c2]; done) | (simp_all [bI]; done), rfl⟩
theorem dX5_isTold_0 : decode cX5_isTold 0 = .ok (.aload_n 0, 1) := by decide +kernel
theorem dX5_isTold_1 : decode cX5_isTold 1 = .ok (.getfield 9, 3) := by decide +kernel
theorem dX5_isTold_4 : decode cX5_isTold 4 = .ok (.iload_n 1, 1) := by decide +kernel
theorem dX5_isTold_5 : decode cX5_isTold 5 = .ok (.invokestatic 28, 3) := by decide +kernel
theorem dX5_isTold_8 : decode cX5_isTold 8 = .ok (.ireturn, 1) := by decide +kernel
set_option maxRecDepth 20000 in
set_option maxHeartbeats 4000000 in
theorem t_People_isTold0 (E : xE) (l : Launch) (ws : va_W) {h pl pa pt pb : Nat} (q : Nat) (k_0 : ws[q]? = some (ob h 4 [.int 0, .ref pl, .ref pa, .ref pt, .ref pb])) (p0 : Int32) : xI E l yX5_isTold cX5_isTold 2 (some .boolean) 1 [.ref h, .int p0] ws (fun r w => r = 0 ∧ w = ws) := by
  refine xI_start (lv := [(0, .ref h), (1, .int p0)]) RX5 (by decide) rfl (Nat.le_of_ble_eq_true rfl) rfl (fun p e s m below meth c A C hr hlk => ?_)
  refine x_aload_n C dX5_isTold_0 rfl 0 rfl rfl ?_
  refine x_get C (ci := 4) (k := 0) q k_0 rfl in_X5 (by decide) w_90 rfl dX5_isTold_1 rfl ?_
  refine x_iload_n C dX5_isTold_4 rfl 1 rfl rfl ?_
  refine x_sn C (As := [.int 0, .int p0]) (rest := []) (t_isIn0 E l ws p0) mf_X11_isIn n_455 rfl rfl (Nat.le_of_ble_eq_true rfl) ⟨(Nat.le_of_ble_eq_true rfl), (Nat.le_of_ble_eq_true rfl)⟩ ⟨(Nat.le_of_ble_eq_true rfl), (Nat.le_of_ble_eq_true rfl)⟩ dX5_isTold_5 rfl (fun r2 w3 h1 => ?_)
  obtain ⟨e4, g5⟩ := h1
  refine x_top e4 ?_
  refine x_ws g5 ?_
  exact x_zret C hr hlk rfl dX5_isTold_8 ⟨by first | rfl | (simp [bI]; done) | (simp_all [bI]; done), rfl⟩
theorem dX2_isTold_0 : decode cX2_isTold 0 = .ok (.aload_n 0, 1) := by decide +kernel
theorem dX2_isTold_1 : decode cX2_isTold 1 = .ok (.getfield 9, 3) := by decide +kernel
theorem dX2_isTold_4 : decode cX2_isTold 4 = .ok (.iload_n 1, 1) := by decide +kernel
theorem dX2_isTold_5 : decode cX2_isTold 5 = .ok (.invokestatic 22, 3) := by decide +kernel
theorem dX2_isTold_8 : decode cX2_isTold 8 = .ok (.ireturn, 1) := by decide +kernel
set_option maxRecDepth 20000 in
set_option maxHeartbeats 4000000 in
theorem t_Hens_isTold0 (E : xE) (l : Launch) (ws : va_W) {h hk ho : Nat} (q : Nat) (k_0 : ws[q]? = some (ob h 2 [.int 0, .ref hk, .ref ho])) (p0 : Int32) : xI E l yX2_isTold cX2_isTold 2 (some .boolean) 1 [.ref h, .int p0] ws (fun r w => r = 0 ∧ w = ws) := by
  refine xI_start (lv := [(0, .ref h), (1, .int p0)]) RX2 (by decide) rfl (Nat.le_of_ble_eq_true rfl) rfl (fun p e s m below meth c A C hr hlk => ?_)
  refine x_aload_n C dX2_isTold_0 rfl 0 rfl rfl ?_
  refine x_get C (ci := 2) (k := 0) q k_0 rfl in_X2 (by decide) w_68 rfl dX2_isTold_1 rfl ?_
  refine x_iload_n C dX2_isTold_4 rfl 1 rfl rfl ?_
  refine x_sn C (As := [.int 0, .int p0]) (rest := []) (t_isIn0 E l ws p0) mf_X11_isIn n_478 rfl rfl (Nat.le_of_ble_eq_true rfl) ⟨(Nat.le_of_ble_eq_true rfl), (Nat.le_of_ble_eq_true rfl)⟩ ⟨(Nat.le_of_ble_eq_true rfl), (Nat.le_of_ble_eq_true rfl)⟩ dX2_isTold_5 rfl (fun r2 w3 h1 => ?_)
  obtain ⟨e4, g5⟩ := h1
  refine x_top e4 ?_
  refine x_ws g5 ?_
  exact x_zret C hr hlk rfl dX2_isTold_8 ⟨by first | rfl | (simp [bI]; done) | (simp_all [bI]; done), rfl⟩
theorem dX10_isTold_0 : decode cX10_isTold 0 = .ok (.aload_n 0, 1) := by decide +kernel
theorem dX10_isTold_1 : decode cX10_isTold 1 = .ok (.getfield 9, 3) := by decide +kernel
theorem dX10_isTold_4 : decode cX10_isTold 4 = .ok (.iload_n 1, 1) := by decide +kernel
theorem dX10_isTold_5 : decode cX10_isTold 5 = .ok (.invokestatic 31, 3) := by decide +kernel
theorem dX10_isTold_8 : decode cX10_isTold 8 = .ok (.ireturn, 1) := by decide +kernel
set_option maxRecDepth 20000 in
set_option maxHeartbeats 4000000 in
theorem t_Works_isTold0 (E : xE) (l : Launch) (ws : va_W) {h wn wd ww wb wo : Nat} (q : Nat) (k_0 : ws[q]? = some (ob h 9 [.int 0, .ref wn, .ref wd, .ref ww, .ref wb, .ref wo])) (p0 : Int32) : xI E l yX10_isTold cX10_isTold 2 (some .boolean) 1 [.ref h, .int p0] ws (fun r w => r = 0 ∧ w = ws) := by
  refine xI_start (lv := [(0, .ref h), (1, .int p0)]) RX10 (by decide) rfl (Nat.le_of_ble_eq_true rfl) rfl (fun p e s m below meth c A C hr hlk => ?_)
  refine x_aload_n C dX10_isTold_0 rfl 0 rfl rfl ?_
  refine x_get C (ci := 9) (k := 0) q k_0 rfl in_X10 (by decide) w_168 rfl dX10_isTold_1 rfl ?_
  refine x_iload_n C dX10_isTold_4 rfl 1 rfl rfl ?_
  refine x_sn C (As := [.int 0, .int p0]) (rest := []) (t_isIn0 E l ws p0) mf_X11_isIn n_705 rfl rfl (Nat.le_of_ble_eq_true rfl) ⟨(Nat.le_of_ble_eq_true rfl), (Nat.le_of_ble_eq_true rfl)⟩ ⟨(Nat.le_of_ble_eq_true rfl), (Nat.le_of_ble_eq_true rfl)⟩ dX10_isTold_5 rfl (fun r2 w3 h1 => ?_)
  obtain ⟨e4, g5⟩ := h1
  refine x_top e4 ?_
  refine x_ws g5 ?_
  exact x_zret C hr hlk rfl dX10_isTold_8 ⟨by first | rfl | (simp [bI]; done) | (simp_all [bI]; done), rfl⟩
theorem dX5_tell_0 : decode cX5_tell 0 = .ok (.iload_n 1, 1) := by decide +kernel
theorem dX5_tell_1 : decode cX5_tell 1 = .ok (.ifCond .lt 17, 3) := by decide +kernel
theorem dX5_tell_4 : decode cX5_tell 4 = .ok (.iload_n 1, 1) := by decide +kernel
theorem dX5_tell_5 : decode cX5_tell 5 = .ok (.bipush 8, 2) := by decide +kernel
theorem dX5_tell_7 : decode cX5_tell 7 = .ok (.if_icmp .ge 11, 3) := by decide +kernel
theorem dX5_tell_10 : decode cX5_tell 10 = .ok (.aload_n 0, 1) := by decide +kernel
theorem dX5_tell_11 : decode cX5_tell 11 = .ok (.iload_n 1, 1) := by decide +kernel
theorem dX5_tell_12 : decode cX5_tell 12 = .ok (.invokevirtual 32, 3) := by decide +kernel
theorem dX5_tell_15 : decode cX5_tell 15 = .ok (.ifCond .eq 5, 3) := by decide +kernel
theorem dX5_tell_18 : decode cX5_tell 18 = .ok (.iconst 0, 1) := by decide +kernel
theorem dX5_tell_19 : decode cX5_tell 19 = .ok (.ireturn, 1) := by decide +kernel
theorem dX5_tell_20 : decode cX5_tell 20 = .ok (.aload_n 0, 1) := by decide +kernel
theorem dX5_tell_21 : decode cX5_tell 21 = .ok (.dup, 1) := by decide +kernel
theorem dX5_tell_22 : decode cX5_tell 22 = .ok (.getfield 9, 3) := by decide +kernel
theorem dX5_tell_25 : decode cX5_tell 25 = .ok (.iconst 1, 1) := by decide +kernel
theorem dX5_tell_26 : decode cX5_tell 26 = .ok (.iload_n 1, 1) := by decide +kernel
theorem dX5_tell_27 : decode cX5_tell 27 = .ok (.ishl, 1) := by decide +kernel
theorem dX5_tell_28 : decode cX5_tell 28 = .ok (.ior, 1) := by decide +kernel
theorem dX5_tell_29 : decode cX5_tell 29 = .ok (.putfield 9, 3) := by decide +kernel
theorem dX5_tell_32 : decode cX5_tell 32 = .ok (.iconst 1, 1) := by decide +kernel
theorem dX5_tell_33 : decode cX5_tell 33 = .ok (.ireturn, 1) := by decide +kernel
set_option maxRecDepth 20000 in
set_option maxHeartbeats 4000000 in
theorem t_People_tell0 (E : xE) (l : Launch) (ws : va_W) {h pl pa pt pb : Nat} (q : Nat) (k_0 : ws[q]? = some (ob h 4 [.int 0, .ref pl, .ref pa, .ref pt, .ref pb])) (p0 : Int32) : xI E l yX5_tell cX5_tell 2 (some .boolean) 2 [.ref h, .int p0] ws (fun r w => r = bI (¬ p0 < 0 ∧ ¬ 8 ≤ p0)) := by
  refine xI_start (lv := [(0, .ref h), (1, .int p0)]) RX5 (by decide) rfl (Nat.le_of_ble_eq_true rfl) rfl (fun p e s m below meth c A C hr hlk => ?_)
  refine x_iload_n C dX5_tell_0 rfl 1 rfl rfl ?_
  refine x_if_lt C (tgt := 18) dX5_tell_1 (by decide) rfl (fun c1 => ?_) (fun c1 => ?_)
  · skip
    refine x_iconst C (v := 0) dX5_tell_18 (by decide) rfl ?_
    exact x_zret C hr hlk rfl dX5_tell_19 (by first | rfl | trivial | (simp [bI, c1]; done) | (simp_all [bI]; done))
  · skip
    refine x_iload_n C dX5_tell_4 rfl 1 rfl rfl ?_
    refine x_bipush C (v := 8) dX5_tell_5 (by decide) rfl ?_
    refine x_icmp_ge C (tgt := 18) dX5_tell_7 (by decide) rfl (fun c2 => ?_) (fun c2 => ?_)
    · skip
      refine x_iconst C (v := 0) dX5_tell_18 (by decide) rfl ?_
      exact x_zret C hr hlk rfl dX5_tell_19 (by first | rfl | trivial | (simp [bI, c1, c2]; done) | (simp_all [bI]; done))
    · skip
      refine x_aload_n C dX5_tell_10 rfl 0 rfl rfl ?_
      refine x_iload_n C dX5_tell_11 rfl 1 rfl rfl ?_
      refine x_vi C (As := [.int p0]) (rest := []) (t_People_isTold0 E l ws q k_0 p0) mf_X5_isTold w_451 q k_0 rfl rfl rfl (Nat.le_of_ble_eq_true rfl) ⟨(Nat.le_of_ble_eq_true rfl), (Nat.le_of_ble_eq_true rfl)⟩ ⟨(Nat.le_of_ble_eq_true rfl), (Nat.le_of_ble_eq_true rfl)⟩ dX5_tell_12 rfl (fun r4 w5 h3 => ?_)
      obtain ⟨e6, g7⟩ := h3
      refine x_top e6 ?_
      refine x_ws g7 ?_
      refine x_if_eq C (tgt := 20) dX5_tell_15 (by decide) rfl (fun _ => ?_) (fun h => absurd h (by decide))
      refine x_aload_n C dX5_tell_20 rfl 0 rfl rfl ?_
      refine x_dup C dX5_tell_21 rfl rfl ?_
      refine x_get C (ci := 4) (k := 0) q k_0 rfl in_X5 (by decide) w_90 rfl dX5_tell_22 rfl ?_
      refine x_iconst C (v := 1) dX5_tell_25 (by decide) rfl ?_
      refine x_iload_n C dX5_tell_26 rfl 1 rfl rfl ?_
      refine x_ishl C (v := ((1 : Int32) <<< (p0 &&& 31))) dX5_tell_27 rfl rfl ?_
      refine x_ior C (v := ((0 : Int32) ||| ((1 : Int32) <<< (p0 &&& 31)))) dX5_tell_28 rfl rfl ?_
      obtain ⟨w8, hw9⟩ : ∃ w : va_W, w = List.set ws q (ob h 4 [.int ((0 : Int32) ||| ((1 : Int32) <<< (p0 &&& 31))), .ref pl, .ref pa, .ref pt, .ref pb]) := ⟨_, rfl⟩
      refine x_put C (ci := 4) (k := 0) (ty := .int) q k_0 rfl in_X5 tyX5 tyX5_ok nmX5 (by decide) w_90 rfl rfl rfl rfl (Nat.le_of_ble_eq_true rfl) hw9.symm dX5_tell_29 rfl ?_
      have k10 : w8[q]? = some (ob h 4 [.int ((0 : Int32) ||| ((1 : Int32) <<< (p0 &&& 31))), .ref pl, .ref pa, .ref pt, .ref pb]) := by rw [hw9]; exact set_eq k_0
      refine x_iconst C (v := 1) dX5_tell_32 (by decide) rfl ?_
      exact x_zret C hr hlk rfl dX5_tell_33 (by first | rfl | trivial | (simp [bI, c1, c2]; done) | (simp_all [bI]; done))
theorem dX1_isLaid_0 : decode cX1_isLaid 0 = .ok (.iload_n 1, 1) := by decide +kernel
theorem dX1_isLaid_1 : decode cX1_isLaid 1 = .ok (.ifCond .lt 21, 3) := by decide +kernel
theorem dX1_isLaid_4 : decode cX1_isLaid 4 = .ok (.iload_n 1, 1) := by decide +kernel
theorem dX1_isLaid_5 : decode cX1_isLaid 5 = .ok (.aload_n 0, 1) := by decide +kernel
theorem dX1_isLaid_6 : decode cX1_isLaid 6 = .ok (.getfield 9, 3) := by decide +kernel
theorem dX1_isLaid_9 : decode cX1_isLaid 9 = .ok (.if_icmp .ge 13, 3) := by decide +kernel
theorem dX1_isLaid_22 : decode cX1_isLaid 22 = .ok (.iconst 0, 1) := by decide +kernel
theorem dX1_isLaid_23 : decode cX1_isLaid 23 = .ok (.ireturn, 1) := by decide +kernel
set_option maxRecDepth 20000 in
set_option maxHeartbeats 4000000 in
theorem t_Eggs_isLaid0 (E : xE) (l : Launch) (ws : va_W) {h em el ey eo eb es : Nat} (q : Nat) (k_0 : ws[q]? = some (ob h 1 [.int 0, .ref em, .ref el, .ref ey, .ref eo, .ref eb, .ref es])) (i : Int32) : xI E l yX1_isLaid cX1_isLaid 2 (some .boolean) 0 [.ref h, .int i] ws (fun r w => r = 0 ∧ w = ws) := by
  refine xI_start (lv := [(0, .ref h), (1, .int i)]) RX1 (by decide) rfl (Nat.le_of_ble_eq_true rfl) rfl (fun p e s m below meth c A C hr hlk => ?_)
  refine x_iload_n C dX1_isLaid_0 rfl 1 rfl rfl ?_
  refine x_if_lt C (tgt := 22) dX1_isLaid_1 (by decide) rfl (fun c1 => ?_) (fun c1 => ?_)
  · skip
    refine x_iconst C (v := 0) dX1_isLaid_22 (by decide) rfl ?_
    exact x_zret C hr hlk rfl dX1_isLaid_23 ⟨by first | rfl | (simp [bI, c1]; done) | (simp_all [bI]; done), rfl⟩
  · skip
    refine x_iload_n C dX1_isLaid_4 rfl 1 rfl rfl ?_
    refine x_aload_n C dX1_isLaid_5 rfl 0 rfl rfl ?_
    refine x_get C (ci := 1) (k := 0) q k_0 rfl in_X1 (by decide) w_120 rfl dX1_isLaid_6 rfl ?_
    refine x_icmp_ge C (tgt := 22) dX1_isLaid_9 (by decide) rfl (fun _ => ?_) (fun h => absurd (Int32.not_lt.mp c1) h)
    refine x_iconst C (v := 0) dX1_isLaid_22 (by decide) rfl ?_
    exact x_zret C hr hlk rfl dX1_isLaid_23 ⟨by first | rfl | (simp [bI, c1]; done) | (simp_all [bI]; done), rfl⟩
theorem dX1_howMany_0 : decode cX1_howMany 0 = .ok (.iconst 0, 1) := by decide +kernel
theorem dX1_howMany_1 : decode cX1_howMany 1 = .ok (.istore_n 2, 1) := by decide +kernel
theorem dX1_howMany_2 : decode cX1_howMany 2 = .ok (.iconst 0, 1) := by decide +kernel
theorem dX1_howMany_3 : decode cX1_howMany 3 = .ok (.istore_n 3, 1) := by decide +kernel
theorem dX1_howMany_4 : decode cX1_howMany 4 = .ok (.iload_n 3, 1) := by decide +kernel
theorem dX1_howMany_5 : decode cX1_howMany 5 = .ok (.aload_n 0, 1) := by decide +kernel
theorem dX1_howMany_6 : decode cX1_howMany 6 = .ok (.getfield 9, 3) := by decide +kernel
theorem dX1_howMany_9 : decode cX1_howMany 9 = .ok (.if_icmp .ge 27, 3) := by decide +kernel
theorem dX1_howMany_36 : decode cX1_howMany 36 = .ok (.iload_n 2, 1) := by decide +kernel
theorem dX1_howMany_37 : decode cX1_howMany 37 = .ok (.ireturn, 1) := by decide +kernel
set_option maxRecDepth 20000 in
set_option maxHeartbeats 4000000 in
theorem t_Eggs_howMany0 (E : xE) (l : Launch) (ws : va_W) {h em el ey eo eb es : Nat} (q : Nat) (k_0 : ws[q]? = some (ob h 1 [.int 0, .ref em, .ref el, .ref ey, .ref eo, .ref eb, .ref es])) (of : Int32) : xI E l yX1_howMany cX1_howMany 4 (some .int) 0 [.ref h, .int of] ws (fun r w => r = 0 ∧ w = ws) := by
  refine xI_start (lv := [(0, .ref h), (1, .int of)]) RX1 (by decide) rfl (Nat.le_of_ble_eq_true rfl) rfl (fun p e s m below meth c A C hr hlk => ?_)
  refine x_iconst C (v := 0) dX1_howMany_0 (by decide) rfl ?_
  refine x_istore_n C (lv' := [(2, .int 0), (0, .ref h), (1, .int of)]) dX1_howMany_1 rfl (by decide) rfl rfl ?_
  refine x_iconst C (v := 0) dX1_howMany_2 (by decide) rfl ?_
  refine x_istore_n C (lv' := [(3, .int 0), (2, .int 0), (0, .ref h), (1, .int of)]) dX1_howMany_3 rfl (by decide) rfl rfl ?_
  refine x_iload_n C dX1_howMany_4 rfl 0 rfl rfl ?_
  refine x_aload_n C dX1_howMany_5 rfl 2 rfl rfl ?_
  refine x_get C (ci := 1) (k := 0) q k_0 rfl in_X1 (by decide) w_120 rfl dX1_howMany_6 rfl ?_
  refine x_icmp_ge C (tgt := 36) dX1_howMany_9 (by decide) rfl (fun _ => ?_) (fun h => absurd h (by decide))
  refine x_iload_n C dX1_howMany_36 rfl 1 rfl rfl ?_
  exact x_zret C hr hlk rfl dX1_howMany_37 ⟨by first | rfl | (simp [bI]; done) | (simp_all [bI]; done), rfl⟩
theorem dX1_sweepOut_0 : decode cX1_sweepOut 0 = .ok (.iconst 0, 1) := by decide +kernel
theorem dX1_sweepOut_1 : decode cX1_sweepOut 1 = .ok (.istore_n 1, 1) := by decide +kernel
theorem dX1_sweepOut_2 : decode cX1_sweepOut 2 = .ok (.iconst 0, 1) := by decide +kernel
theorem dX1_sweepOut_3 : decode cX1_sweepOut 3 = .ok (.istore_n 2, 1) := by decide +kernel
theorem dX1_sweepOut_4 : decode cX1_sweepOut 4 = .ok (.iload_n 2, 1) := by decide +kernel
theorem dX1_sweepOut_5 : decode cX1_sweepOut 5 = .ok (.aload_n 0, 1) := by decide +kernel
theorem dX1_sweepOut_6 : decode cX1_sweepOut 6 = .ok (.getfield 9, 3) := by decide +kernel
theorem dX1_sweepOut_9 : decode cX1_sweepOut 9 = .ok (.if_icmp .ge 88, 3) := by decide +kernel
theorem dX1_sweepOut_97 : decode cX1_sweepOut 97 = .ok (.aload_n 0, 1) := by decide +kernel
theorem dX1_sweepOut_98 : decode cX1_sweepOut 98 = .ok (.getfield 9, 3) := by decide +kernel
theorem dX1_sweepOut_101 : decode cX1_sweepOut 101 = .ok (.iload_n 1, 1) := by decide +kernel
theorem dX1_sweepOut_102 : decode cX1_sweepOut 102 = .ok (.isub, 1) := by decide +kernel
theorem dX1_sweepOut_103 : decode cX1_sweepOut 103 = .ok (.istore_n 2, 1) := by decide +kernel
theorem dX1_sweepOut_104 : decode cX1_sweepOut 104 = .ok (.aload_n 0, 1) := by decide +kernel
theorem dX1_sweepOut_105 : decode cX1_sweepOut 105 = .ok (.iload_n 1, 1) := by decide +kernel
theorem dX1_sweepOut_106 : decode cX1_sweepOut 106 = .ok (.putfield 9, 3) := by decide +kernel
theorem dX1_sweepOut_109 : decode cX1_sweepOut 109 = .ok (.iload_n 2, 1) := by decide +kernel
theorem dX1_sweepOut_110 : decode cX1_sweepOut 110 = .ok (.ireturn, 1) := by decide +kernel
set_option maxRecDepth 20000 in
set_option maxHeartbeats 4000000 in
theorem t_Eggs_sweepOut0 (E : xE) (l : Launch) (ws : va_W) {h em el ey eo eb es : Nat} (q : Nat) (k_0 : ws[q]? = some (ob h 1 [.int 0, .ref em, .ref el, .ref ey, .ref eo, .ref eb, .ref es])) : xI E l yX1_sweepOut cX1_sweepOut 3 (some .int) 0 [.ref h] ws (fun r w => r = 0) := by
  refine xI_start (lv := [(0, .ref h)]) RX1 (by decide) rfl (Nat.le_of_ble_eq_true rfl) rfl (fun p e s m below meth c A C hr hlk => ?_)
  refine x_iconst C (v := 0) dX1_sweepOut_0 (by decide) rfl ?_
  refine x_istore_n C (lv' := [(1, .int 0), (0, .ref h)]) dX1_sweepOut_1 rfl (by decide) rfl rfl ?_
  refine x_iconst C (v := 0) dX1_sweepOut_2 (by decide) rfl ?_
  refine x_istore_n C (lv' := [(2, .int 0), (1, .int 0), (0, .ref h)]) dX1_sweepOut_3 rfl (by decide) rfl rfl ?_
  refine x_iload_n C dX1_sweepOut_4 rfl 0 rfl rfl ?_
  refine x_aload_n C dX1_sweepOut_5 rfl 2 rfl rfl ?_
  refine x_get C (ci := 1) (k := 0) q k_0 rfl in_X1 (by decide) w_120 rfl dX1_sweepOut_6 rfl ?_
  refine x_icmp_ge C (tgt := 97) dX1_sweepOut_9 (by decide) rfl (fun _ => ?_) (fun h => absurd h (by decide))
  refine x_aload_n C dX1_sweepOut_97 rfl 2 rfl rfl ?_
  refine x_get C (ci := 1) (k := 0) q k_0 rfl in_X1 (by decide) w_120 rfl dX1_sweepOut_98 rfl ?_
  refine x_iload_n C dX1_sweepOut_101 rfl 1 rfl rfl ?_
  refine x_isub C (v := 0) dX1_sweepOut_102 (by decide) rfl ?_
  refine x_istore_n C (lv' := [(2, .int 0), (1, .int 0), (0, .ref h)]) dX1_sweepOut_103 rfl (by decide) rfl rfl ?_
  refine x_aload_n C dX1_sweepOut_104 rfl 2 rfl rfl ?_
  refine x_iload_n C dX1_sweepOut_105 rfl 1 rfl rfl ?_
  obtain ⟨w1, hw2⟩ : ∃ w : va_W, w = List.set ws q (ob h 1 [.int 0, .ref em, .ref el, .ref ey, .ref eo, .ref eb, .ref es]) := ⟨_, rfl⟩
  refine x_put C (ci := 1) (k := 0) (ty := .int) q k_0 rfl in_X1 tyX1 tyX1_ok nmX1 (by decide) w_120 rfl rfl rfl rfl (Nat.le_of_ble_eq_true rfl) hw2.symm dX1_sweepOut_106 rfl ?_
  have k3 : w1[q]? = some (ob h 1 [.int 0, .ref em, .ref el, .ref ey, .ref eo, .ref eb, .ref es]) := by rw [hw2]; exact set_eq k_0
  refine x_iload_n C dX1_sweepOut_109 rfl 0 rfl rfl ?_
  exact x_zret C hr hlk rfl dX1_sweepOut_110 (by first | rfl | trivial | (simp [bI]; done) | (simp_all [bI]; done))
