theorem vp_in_b {i : Int32} (h : wth i 0 7) {k : Int32} (hd : ∀ j : Nat, j ≤ 7 → (k + nI j).toNatClampNeg < 382 ∧ ¬ k + nI j < 0) : vp_in (k + i) 382 := by
  obtain ⟨j, _, g, rfl⟩ := w_nat (a := 0) (b := 7) (by decide) (by decide) h
  exact vp_k rfl (hd j g).2 (hd j g).1
theorem not_le0 {n lo : Int32} (hl : ¬ lo.toInt < 1) (h : ¬ n < lo) : ¬ n ≤ 0 := by
  rw [Int32.lt_iff_toInt_lt] at h
  rw [Int32.le_iff_toInt_le]
  have : (0 : Int32).toInt = 0 := by decide
  omega
theorem not_le0h {n : Int32} (h : wth n 2 5) : ¬ 2 * n ≤ 0 := by
  obtain ⟨j, g1, g2, rfl⟩ := w_nat (a := 2) (b := 5) (by decide) (by decide) h
  exact (by decide +kernel : ∀ j : Nat, j ≤ 5 → 2 ≤ j → ¬ 2 * nI j ≤ 0) j g2 g1
theorem chk_a {n : Int32} (h : wth n 0 48) (h2 : n ≤ 0) : n = 0 := by
  have h1 := h.1
  rw [Int32.lt_iff_toInt_lt] at h1
  rw [Int32.le_iff_toInt_le] at h2
  have h0 : (0 : Int32).toInt = 0 := by decide
  exact Int32.toInt_inj.mp (by omega)
theorem chk_b {n : Int32} (h : ¬ wth n 0 48) : ¬ n = 0 := fun e => h (by rw [e]; decide)
theorem chk_c {n : Int32} (h : ¬ n ≤ 0) : ¬ n = 0 := fun e => h (by rw [e]; decide)
theorem dX12_in_0 : decode cX12_in 0 = .ok (.iload_n 0, 1) := by decide +kernel
theorem dX12_in_1 : decode cX12_in 1 = .ok (.iload_n 1, 1) := by decide +kernel
theorem dX12_in_2 : decode cX12_in 2 = .ok (.if_icmp .lt 12, 3) := by decide +kernel
theorem dX12_in_5 : decode cX12_in 5 = .ok (.iload_n 0, 1) := by decide +kernel
theorem dX12_in_6 : decode cX12_in 6 = .ok (.iload_n 2, 1) := by decide +kernel
theorem dX12_in_7 : decode cX12_in 7 = .ok (.if_icmp .gt 7, 3) := by decide +kernel
theorem dX12_in_10 : decode cX12_in 10 = .ok (.iconst 1, 1) := by decide +kernel
theorem dX12_in_11 : decode cX12_in 11 = .ok (.goto 4, 3) := by decide +kernel
theorem dX12_in_14 : decode cX12_in 14 = .ok (.iconst 0, 1) := by decide +kernel
theorem dX12_in_15 : decode cX12_in 15 = .ok (.ireturn, 1) := by decide +kernel
set_option maxRecDepth 20000 in
set_option maxHeartbeats 4000000 in
theorem e_in (E : xE) (l : Launch) (ws : va_W) (v lo hi : Int32) : xI E l yX12_in cX12_in 3 (some .boolean) 0 [.int v, .int lo, .int hi] ws (fun r w => r = bI (wth v lo hi) ∧ w = ws) := by
  refine xI_start (lv := [(0, .int v), (1, .int lo), (2, .int hi)]) RX12 (by decide) rfl (Nat.le_of_ble_eq_true rfl) rfl (fun p e s m below meth c A C hr hlk => ?_)
  refine x_iload_n C dX12_in_0 rfl 0 rfl rfl ?_
  refine x_iload_n C dX12_in_1 rfl 1 rfl rfl ?_
  refine x_icmp_lt C (tgt := 14) dX12_in_2 (by decide) rfl (fun c1 => ?_) (fun c1 => ?_)
  · skip
    refine x_iconst C (v := 0) dX12_in_14 (by decide) rfl ?_
    exact x_zret C hr hlk rfl dX12_in_15 ⟨by first | rfl | (simp [bI, c1]; done) | (simp_all [bI]; done), rfl⟩
  · skip
    refine x_iload_n C dX12_in_5 rfl 0 rfl rfl ?_
    refine x_iload_n C dX12_in_6 rfl 2 rfl rfl ?_
    refine x_icmp_gt C (tgt := 14) dX12_in_7 (by decide) rfl (fun c2 => ?_) (fun c2 => ?_)
    · skip
      refine x_iconst C (v := 0) dX12_in_14 (by decide) rfl ?_
      exact x_zret C hr hlk rfl dX12_in_15 ⟨by first | rfl | (simp [bI, c1, c2]; done) | (simp_all [bI]; done), rfl⟩
    · skip
      refine x_iconst C (v := 1) dX12_in_10 (by decide) rfl ?_
      refine x_goto C (tgt := 15) dX12_in_11 (by decide) ?_
      exact x_zret C hr hlk rfl dX12_in_15 ⟨by first | rfl | (simp [bI, c1, c2]; done) | (simp_all [bI]; done), rfl⟩
theorem dX12_has_0 : decode cX12_has 0 = .ok (.iload_n 0, 1) := by decide +kernel
theorem dX12_has_1 : decode cX12_has 1 = .ok (.iload_n 1, 1) := by decide +kernel
theorem dX12_has_2 : decode cX12_has 2 = .ok (.ishr, 1) := by decide +kernel
theorem dX12_has_3 : decode cX12_has 3 = .ok (.iconst 1, 1) := by decide +kernel
theorem dX12_has_4 : decode cX12_has 4 = .ok (.iand, 1) := by decide +kernel
theorem dX12_has_5 : decode cX12_has 5 = .ok (.iconst 1, 1) := by decide +kernel
theorem dX12_has_6 : decode cX12_has 6 = .ok (.if_icmp .ne 7, 3) := by decide +kernel
theorem dX12_has_13 : decode cX12_has 13 = .ok (.iconst 0, 1) := by decide +kernel
theorem dX12_has_14 : decode cX12_has 14 = .ok (.ireturn, 1) := by decide +kernel
set_option maxRecDepth 20000 in
set_option maxHeartbeats 4000000 in
theorem e_has0 (E : xE) (l : Launch) (ws : va_W) (k : Int32) : xI E l yX12_has cX12_has 2 (some .boolean) 0 [.int 0, .int k] ws (fun r w => r = 0 ∧ w = ws) := by
  refine xI_start (lv := [(0, .int 0), (1, .int k)]) RX12 (by decide) rfl (Nat.le_of_ble_eq_true rfl) rfl (fun p e s m below meth c A C hr hlk => ?_)
  refine x_iload_n C dX12_has_0 rfl 0 rfl rfl ?_
  refine x_iload_n C dX12_has_1 rfl 1 rfl rfl ?_
  refine x_ishr C (v := 0) dX12_has_2 (z_shr _) rfl ?_
  refine x_iconst C (v := 1) dX12_has_3 (by decide) rfl ?_
  refine x_iand C (v := 0) dX12_has_4 (by decide) rfl ?_
  refine x_iconst C (v := 1) dX12_has_5 (by decide) rfl ?_
  refine x_icmp_ne C (tgt := 13) dX12_has_6 (by decide) rfl (fun _ => ?_) (fun h => absurd h (by decide))
  refine x_iconst C (v := 0) dX12_has_13 (by decide) rfl ?_
  exact x_zret C hr hlk rfl dX12_has_14 ⟨by first | rfl | (simp [bI]; done) | (simp_all [bI]; done), rfl⟩
theorem dX12_isPerson_0 : decode cX12_isPerson 0 = .ok (.iload_n 1, 1) := by decide +kernel
theorem dX12_isPerson_1 : decode cX12_isPerson 1 = .ok (.ifCond .lt 28, 3) := by decide +kernel
theorem dX12_isPerson_4 : decode cX12_isPerson 4 = .ok (.iload_n 1, 1) := by decide +kernel
theorem dX12_isPerson_5 : decode cX12_isPerson 5 = .ok (.bipush 8, 2) := by decide +kernel
theorem dX12_isPerson_7 : decode cX12_isPerson 7 = .ok (.if_icmp .ge 22, 3) := by decide +kernel
theorem dX12_isPerson_10 : decode cX12_isPerson 10 = .ok (.aload_n 0, 1) := by decide +kernel
theorem dX12_isPerson_11 : decode cX12_isPerson 11 = .ok (.getfield 7, 3) := by decide +kernel
theorem dX12_isPerson_14 : decode cX12_isPerson 14 = .ok (.sipush 320, 3) := by decide +kernel
theorem dX12_isPerson_17 : decode cX12_isPerson 17 = .ok (.iaload, 1) := by decide +kernel
theorem dX12_isPerson_18 : decode cX12_isPerson 18 = .ok (.iload_n 1, 1) := by decide +kernel
theorem dX12_isPerson_19 : decode cX12_isPerson 19 = .ok (.invokestatic 101, 3) := by decide +kernel
theorem dX12_isPerson_22 : decode cX12_isPerson 22 = .ok (.ifCond .eq 7, 3) := by decide +kernel
theorem dX12_isPerson_29 : decode cX12_isPerson 29 = .ok (.iconst 0, 1) := by decide +kernel
theorem dX12_isPerson_30 : decode cX12_isPerson 30 = .ok (.ireturn, 1) := by decide +kernel
set_option maxRecDepth 20000 in
set_option maxHeartbeats 4000000 in
theorem e_isPerson (E : xE) (l : Launch) (ws : va_W) {mm m0 m1 m2 m3 m14 m15 m16 m17 m18 m19 m20 m21 m22 m23 m24 m25 m26 m28 m29 m30 m31 m38 m39 m40 m41 m42 m43 m44 m45 m46 : Nat} {fn : Nat → Int32} (p_0 : Nat) (k_0 : ws[0]? = some (ob mm 11 [.ref m0, .ref m1, .ref m2, .ref m3, .int 0, .int 0, .int 0, .int 0, .int 0, .int 0, .int 0, .int 0, .int 0, .int 0, .ref m14, .ref m15, .ref m16, .ref m17, .ref m18, .ref m19, .ref m20, .ref m21, .ref m22, .ref m23, .ref m24, .ref m25, .ref m26, .int 0, .ref m28, .ref m29, .ref m30, .ref m31, .int 0, .int 0, .int 0, .int 0, .int 0, .int 0, .ref m38, .ref m39, .ref m40, .ref m41, .ref m42, .ref m43, .ref m44, .ref m45, .ref m46, .int 0])) (p_1 : Nat) (k_1 : ws[1]? = some (iA E m0 382 fn)) (p0 : Int32) (h320 : fn 320 = 0) : xI E l yX12_isPerson cX12_isPerson 2 (some .boolean) 1 [.ref mm, .int p0] ws (fun r w => r = 0 ∧ w = ws) := by
  refine xI_start (lv := [(0, .ref mm), (1, .int p0)]) RX12 (by decide) rfl (Nat.le_of_ble_eq_true rfl) rfl (fun p e s m below meth c A C hr hlk => ?_)
  refine x_iload_n C dX12_isPerson_0 rfl 1 rfl rfl ?_
  refine x_if_lt C (tgt := 29) dX12_isPerson_1 (by decide) rfl (fun c1 => ?_) (fun c1 => ?_)
  · skip
    refine x_iconst C (v := 0) dX12_isPerson_29 (by decide) rfl ?_
    exact x_zret C hr hlk rfl dX12_isPerson_30 ⟨by first | rfl | (simp [bI, c1]; done) | (simp_all [bI]; done), rfl⟩
  · skip
    refine x_iload_n C dX12_isPerson_4 rfl 1 rfl rfl ?_
    refine x_bipush C (v := 8) dX12_isPerson_5 (by decide) rfl ?_
    refine x_icmp_ge C (tgt := 29) dX12_isPerson_7 (by decide) rfl (fun c2 => ?_) (fun c2 => ?_)
    · skip
      refine x_iconst C (v := 0) dX12_isPerson_29 (by decide) rfl ?_
      exact x_zret C hr hlk rfl dX12_isPerson_30 ⟨by first | rfl | (simp [bI, c1, c2]; done) | (simp_all [bI]; done), rfl⟩
    · skip
      refine x_aload_n C dX12_isPerson_10 rfl 0 rfl rfl ?_
      refine x_get C (ci := 11) (k := 0) 0 k_0 rfl in_X12 (by decide) w_1118 rfl dX12_isPerson_11 rfl ?_
      refine x_sipush C (v := 320) dX12_isPerson_14 (by decide) rfl ?_
      refine x_ialk C (v := 0) 320 (by decide) (by decide) (by decide) 1 k_1 h320 dX12_isPerson_17 rfl ?_
      refine x_iload_n C dX12_isPerson_18 rfl 1 rfl rfl ?_
      refine x_si C (As := [.int 0, .int p0]) (rest := []) (e_has0 E l ws p0) mf_X12_has w_1274 rfl rfl (Nat.le_of_ble_eq_true rfl) ⟨(Nat.le_of_ble_eq_true rfl), (Nat.le_of_ble_eq_true rfl)⟩ ⟨(Nat.le_of_ble_eq_true rfl), (Nat.le_of_ble_eq_true rfl)⟩ dX12_isPerson_19 rfl (fun r4 w5 h3 => ?_)
      obtain ⟨e6, g7⟩ := h3
      refine x_top e6 ?_
      refine x_ws g7 ?_
      refine x_if_eq C (tgt := 29) dX12_isPerson_22 (by decide) rfl (fun _ => ?_) (fun h => absurd h (by decide))
      refine x_iconst C (v := 0) dX12_isPerson_29 (by decide) rfl ?_
      exact x_zret C hr hlk rfl dX12_isPerson_30 ⟨by first | rfl | (simp [bI, c1, c2]; done) | (simp_all [bI]; done), rfl⟩
theorem dX12_isHen_0 : decode cX12_isHen 0 = .ok (.iload_n 1, 1) := by decide +kernel
theorem dX12_isHen_1 : decode cX12_isHen 1 = .ok (.ifCond .lt 28, 3) := by decide +kernel
theorem dX12_isHen_4 : decode cX12_isHen 4 = .ok (.iload_n 1, 1) := by decide +kernel
theorem dX12_isHen_5 : decode cX12_isHen 5 = .ok (.bipush 8, 2) := by decide +kernel
theorem dX12_isHen_7 : decode cX12_isHen 7 = .ok (.if_icmp .ge 22, 3) := by decide +kernel
theorem dX12_isHen_10 : decode cX12_isHen 10 = .ok (.aload_n 0, 1) := by decide +kernel
theorem dX12_isHen_11 : decode cX12_isHen 11 = .ok (.getfield 7, 3) := by decide +kernel
theorem dX12_isHen_14 : decode cX12_isHen 14 = .ok (.sipush 337, 3) := by decide +kernel
theorem dX12_isHen_17 : decode cX12_isHen 17 = .ok (.iaload, 1) := by decide +kernel
theorem dX12_isHen_18 : decode cX12_isHen 18 = .ok (.iload_n 1, 1) := by decide +kernel
theorem dX12_isHen_19 : decode cX12_isHen 19 = .ok (.invokestatic 101, 3) := by decide +kernel
theorem dX12_isHen_22 : decode cX12_isHen 22 = .ok (.ifCond .eq 7, 3) := by decide +kernel
theorem dX12_isHen_29 : decode cX12_isHen 29 = .ok (.iconst 0, 1) := by decide +kernel
theorem dX12_isHen_30 : decode cX12_isHen 30 = .ok (.ireturn, 1) := by decide +kernel
set_option maxRecDepth 20000 in
set_option maxHeartbeats 4000000 in
theorem e_isHen (E : xE) (l : Launch) (ws : va_W) {mm m0 m1 m2 m3 m14 m15 m16 m17 m18 m19 m20 m21 m22 m23 m24 m25 m26 m28 m29 m30 m31 m38 m39 m40 m41 m42 m43 m44 m45 m46 : Nat} {fn : Nat → Int32} (p_0 : Nat) (k_0 : ws[0]? = some (ob mm 11 [.ref m0, .ref m1, .ref m2, .ref m3, .int 0, .int 0, .int 0, .int 0, .int 0, .int 0, .int 0, .int 0, .int 0, .int 0, .ref m14, .ref m15, .ref m16, .ref m17, .ref m18, .ref m19, .ref m20, .ref m21, .ref m22, .ref m23, .ref m24, .ref m25, .ref m26, .int 0, .ref m28, .ref m29, .ref m30, .ref m31, .int 0, .int 0, .int 0, .int 0, .int 0, .int 0, .ref m38, .ref m39, .ref m40, .ref m41, .ref m42, .ref m43, .ref m44, .ref m45, .ref m46, .int 0])) (p_1 : Nat) (k_1 : ws[1]? = some (iA E m0 382 fn)) (y0 : Int32) (h337 : fn 337 = 0) : xI E l yX12_isHen cX12_isHen 2 (some .boolean) 1 [.ref mm, .int y0] ws (fun r w => r = 0 ∧ w = ws) := by
  refine xI_start (lv := [(0, .ref mm), (1, .int y0)]) RX12 (by decide) rfl (Nat.le_of_ble_eq_true rfl) rfl (fun p e s m below meth c A C hr hlk => ?_)
  refine x_iload_n C dX12_isHen_0 rfl 1 rfl rfl ?_
  refine x_if_lt C (tgt := 29) dX12_isHen_1 (by decide) rfl (fun c1 => ?_) (fun c1 => ?_)
  · skip
    refine x_iconst C (v := 0) dX12_isHen_29 (by decide) rfl ?_
    exact x_zret C hr hlk rfl dX12_isHen_30 ⟨by first | rfl | (simp [bI, c1]; done) | (simp_all [bI]; done), rfl⟩
  · skip
    refine x_iload_n C dX12_isHen_4 rfl 1 rfl rfl ?_
    refine x_bipush C (v := 8) dX12_isHen_5 (by decide) rfl ?_
    refine x_icmp_ge C (tgt := 29) dX12_isHen_7 (by decide) rfl (fun c2 => ?_) (fun c2 => ?_)
    · skip
      refine x_iconst C (v := 0) dX12_isHen_29 (by decide) rfl ?_
      exact x_zret C hr hlk rfl dX12_isHen_30 ⟨by first | rfl | (simp [bI, c1, c2]; done) | (simp_all [bI]; done), rfl⟩
    · skip
      refine x_aload_n C dX12_isHen_10 rfl 0 rfl rfl ?_
      refine x_get C (ci := 11) (k := 0) 0 k_0 rfl in_X12 (by decide) w_1118 rfl dX12_isHen_11 rfl ?_
      refine x_sipush C (v := 337) dX12_isHen_14 (by decide) rfl ?_
      refine x_ialk C (v := 0) 337 (by decide) (by decide) (by decide) 1 k_1 h337 dX12_isHen_17 rfl ?_
      refine x_iload_n C dX12_isHen_18 rfl 1 rfl rfl ?_
      refine x_si C (As := [.int 0, .int y0]) (rest := []) (e_has0 E l ws y0) mf_X12_has w_1274 rfl rfl (Nat.le_of_ble_eq_true rfl) ⟨(Nat.le_of_ble_eq_true rfl), (Nat.le_of_ble_eq_true rfl)⟩ ⟨(Nat.le_of_ble_eq_true rfl), (Nat.le_of_ble_eq_true rfl)⟩ dX12_isHen_19 rfl (fun r4 w5 h3 => ?_)
      obtain ⟨e6, g7⟩ := h3
      refine x_top e6 ?_
      refine x_ws g7 ?_
      refine x_if_eq C (tgt := 29) dX12_isHen_22 (by decide) rfl (fun _ => ?_) (fun h => absurd h (by decide))
      refine x_iconst C (v := 0) dX12_isHen_29 (by decide) rfl ?_
      exact x_zret C hr hlk rfl dX12_isHen_30 ⟨by first | rfl | (simp [bI, c1, c2]; done) | (simp_all [bI]; done), rfl⟩
theorem dX12_isWork_0 : decode cX12_isWork 0 = .ok (.iload_n 1, 1) := by decide +kernel
theorem dX12_isWork_1 : decode cX12_isWork 1 = .ok (.ifCond .lt 28, 3) := by decide +kernel
theorem dX12_isWork_4 : decode cX12_isWork 4 = .ok (.iload_n 1, 1) := by decide +kernel
theorem dX12_isWork_5 : decode cX12_isWork 5 = .ok (.bipush 8, 2) := by decide +kernel
theorem dX12_isWork_7 : decode cX12_isWork 7 = .ok (.if_icmp .ge 22, 3) := by decide +kernel
theorem dX12_isWork_10 : decode cX12_isWork 10 = .ok (.aload_n 0, 1) := by decide +kernel
theorem dX12_isWork_11 : decode cX12_isWork 11 = .ok (.getfield 7, 3) := by decide +kernel
theorem dX12_isWork_14 : decode cX12_isWork 14 = .ok (.sipush 378, 3) := by decide +kernel
theorem dX12_isWork_17 : decode cX12_isWork 17 = .ok (.iaload, 1) := by decide +kernel
theorem dX12_isWork_18 : decode cX12_isWork 18 = .ok (.iload_n 1, 1) := by decide +kernel
theorem dX12_isWork_19 : decode cX12_isWork 19 = .ok (.invokestatic 101, 3) := by decide +kernel
theorem dX12_isWork_22 : decode cX12_isWork 22 = .ok (.ifCond .eq 7, 3) := by decide +kernel
theorem dX12_isWork_29 : decode cX12_isWork 29 = .ok (.iconst 0, 1) := by decide +kernel
theorem dX12_isWork_30 : decode cX12_isWork 30 = .ok (.ireturn, 1) := by decide +kernel
set_option maxRecDepth 20000 in
set_option maxHeartbeats 4000000 in
theorem e_isWork (E : xE) (l : Launch) (ws : va_W) {mm m0 m1 m2 m3 m14 m15 m16 m17 m18 m19 m20 m21 m22 m23 m24 m25 m26 m28 m29 m30 m31 m38 m39 m40 m41 m42 m43 m44 m45 m46 : Nat} {fn : Nat → Int32} (p_0 : Nat) (k_0 : ws[0]? = some (ob mm 11 [.ref m0, .ref m1, .ref m2, .ref m3, .int 0, .int 0, .int 0, .int 0, .int 0, .int 0, .int 0, .int 0, .int 0, .int 0, .ref m14, .ref m15, .ref m16, .ref m17, .ref m18, .ref m19, .ref m20, .ref m21, .ref m22, .ref m23, .ref m24, .ref m25, .ref m26, .int 0, .ref m28, .ref m29, .ref m30, .ref m31, .int 0, .int 0, .int 0, .int 0, .int 0, .int 0, .ref m38, .ref m39, .ref m40, .ref m41, .ref m42, .ref m43, .ref m44, .ref m45, .ref m46, .int 0])) (p_1 : Nat) (k_1 : ws[1]? = some (iA E m0 382 fn)) (i0 : Int32) (h378 : fn 378 = 0) : xI E l yX12_isWork cX12_isWork 2 (some .boolean) 1 [.ref mm, .int i0] ws (fun r w => r = 0 ∧ w = ws) := by
  refine xI_start (lv := [(0, .ref mm), (1, .int i0)]) RX12 (by decide) rfl (Nat.le_of_ble_eq_true rfl) rfl (fun p e s m below meth c A C hr hlk => ?_)
  refine x_iload_n C dX12_isWork_0 rfl 1 rfl rfl ?_
  refine x_if_lt C (tgt := 29) dX12_isWork_1 (by decide) rfl (fun c1 => ?_) (fun c1 => ?_)
  · skip
    refine x_iconst C (v := 0) dX12_isWork_29 (by decide) rfl ?_
    exact x_zret C hr hlk rfl dX12_isWork_30 ⟨by first | rfl | (simp [bI, c1]; done) | (simp_all [bI]; done), rfl⟩
  · skip
    refine x_iload_n C dX12_isWork_4 rfl 1 rfl rfl ?_
    refine x_bipush C (v := 8) dX12_isWork_5 (by decide) rfl ?_
    refine x_icmp_ge C (tgt := 29) dX12_isWork_7 (by decide) rfl (fun c2 => ?_) (fun c2 => ?_)
    · skip
      refine x_iconst C (v := 0) dX12_isWork_29 (by decide) rfl ?_
      exact x_zret C hr hlk rfl dX12_isWork_30 ⟨by first | rfl | (simp [bI, c1, c2]; done) | (simp_all [bI]; done), rfl⟩
    · skip
      refine x_aload_n C dX12_isWork_10 rfl 0 rfl rfl ?_
      refine x_get C (ci := 11) (k := 0) 0 k_0 rfl in_X12 (by decide) w_1118 rfl dX12_isWork_11 rfl ?_
      refine x_sipush C (v := 378) dX12_isWork_14 (by decide) rfl ?_
      refine x_ialk C (v := 0) 378 (by decide) (by decide) (by decide) 1 k_1 h378 dX12_isWork_17 rfl ?_
      refine x_iload_n C dX12_isWork_18 rfl 1 rfl rfl ?_
      refine x_si C (As := [.int 0, .int i0]) (rest := []) (e_has0 E l ws i0) mf_X12_has w_1274 rfl rfl (Nat.le_of_ble_eq_true rfl) ⟨(Nat.le_of_ble_eq_true rfl), (Nat.le_of_ble_eq_true rfl)⟩ ⟨(Nat.le_of_ble_eq_true rfl), (Nat.le_of_ble_eq_true rfl)⟩ dX12_isWork_19 rfl (fun r4 w5 h3 => ?_)
      obtain ⟨e6, g7⟩ := h3
      refine x_top e6 ?_
      refine x_ws g7 ?_
      refine x_if_eq C (tgt := 29) dX12_isWork_22 (by decide) rfl (fun _ => ?_) (fun h => absurd h (by decide))
      refine x_iconst C (v := 0) dX12_isWork_29 (by decide) rfl ?_
      exact x_zret C hr hlk rfl dX12_isWork_30 ⟨by first | rfl | (simp [bI, c1, c2]; done) | (simp_all [bI]; done), rfl⟩
theorem dX12_isEgg_0 : decode cX12_isEgg 0 = .ok (.iload_n 1, 1) := by decide +kernel
theorem dX12_isEgg_1 : decode cX12_isEgg 1 = .ok (.ifCond .lt 19, 3) := by decide +kernel
theorem dX12_isEgg_4 : decode cX12_isEgg 4 = .ok (.iload_n 1, 1) := by decide +kernel
theorem dX12_isEgg_5 : decode cX12_isEgg 5 = .ok (.aload_n 0, 1) := by decide +kernel
theorem dX12_isEgg_6 : decode cX12_isEgg 6 = .ok (.getfield 7, 3) := by decide +kernel
theorem dX12_isEgg_9 : decode cX12_isEgg 9 = .ok (.sipush 381, 3) := by decide +kernel
theorem dX12_isEgg_12 : decode cX12_isEgg 12 = .ok (.iaload, 1) := by decide +kernel
theorem dX12_isEgg_13 : decode cX12_isEgg 13 = .ok (.if_icmp .ge 7, 3) := by decide +kernel
theorem dX12_isEgg_16 : decode cX12_isEgg 16 = .ok (.iconst 1, 1) := by decide +kernel
theorem dX12_isEgg_17 : decode cX12_isEgg 17 = .ok (.goto 4, 3) := by decide +kernel
theorem dX12_isEgg_20 : decode cX12_isEgg 20 = .ok (.iconst 0, 1) := by decide +kernel
theorem dX12_isEgg_21 : decode cX12_isEgg 21 = .ok (.ireturn, 1) := by decide +kernel
set_option maxRecDepth 20000 in
set_option maxHeartbeats 4000000 in
theorem e_isEgg (E : xE) (l : Launch) (ws : va_W) {mm m0 m1 m2 m3 m14 m15 m16 m17 m18 m19 m20 m21 m22 m23 m24 m25 m26 m28 m29 m30 m31 m38 m39 m40 m41 m42 m43 m44 m45 m46 : Nat} {fn : Nat → Int32} (p_0 : Nat) (k_0 : ws[0]? = some (ob mm 11 [.ref m0, .ref m1, .ref m2, .ref m3, .int 0, .int 0, .int 0, .int 0, .int 0, .int 0, .int 0, .int 0, .int 0, .int 0, .ref m14, .ref m15, .ref m16, .ref m17, .ref m18, .ref m19, .ref m20, .ref m21, .ref m22, .ref m23, .ref m24, .ref m25, .ref m26, .int 0, .ref m28, .ref m29, .ref m30, .ref m31, .int 0, .int 0, .int 0, .int 0, .int 0, .int 0, .ref m38, .ref m39, .ref m40, .ref m41, .ref m42, .ref m43, .ref m44, .ref m45, .ref m46, .int 0])) (p_1 : Nat) (k_1 : ws[1]? = some (iA E m0 382 fn)) (i0 : Int32) (h381 : fn 381 = 0) : xI E l yX12_isEgg cX12_isEgg 2 (some .boolean) 0 [.ref mm, .int i0] ws (fun r w => r = 0 ∧ w = ws) := by
  refine xI_start (lv := [(0, .ref mm), (1, .int i0)]) RX12 (by decide) rfl (Nat.le_of_ble_eq_true rfl) rfl (fun p e s m below meth c A C hr hlk => ?_)
  refine x_iload_n C dX12_isEgg_0 rfl 1 rfl rfl ?_
  refine x_if_lt C (tgt := 20) dX12_isEgg_1 (by decide) rfl (fun c1 => ?_) (fun c1 => ?_)
  · skip
    refine x_iconst C (v := 0) dX12_isEgg_20 (by decide) rfl ?_
    exact x_zret C hr hlk rfl dX12_isEgg_21 ⟨by first | rfl | (simp [bI, c1]; done) | (simp_all [bI]; done), rfl⟩
  · skip
    refine x_iload_n C dX12_isEgg_4 rfl 1 rfl rfl ?_
    refine x_aload_n C dX12_isEgg_5 rfl 0 rfl rfl ?_
    refine x_get C (ci := 11) (k := 0) 0 k_0 rfl in_X12 (by decide) w_1118 rfl dX12_isEgg_6 rfl ?_
    refine x_sipush C (v := 381) dX12_isEgg_9 (by decide) rfl ?_
    refine x_ialk C (v := 0) 381 (by decide) (by decide) (by decide) 1 k_1 h381 dX12_isEgg_12 rfl ?_
    refine x_icmp_ge C (tgt := 20) dX12_isEgg_13 (by decide) rfl (fun c2 => ?_) (fun c2 => ?_)
    · skip
      refine x_iconst C (v := 0) dX12_isEgg_20 (by decide) rfl ?_
      exact x_zret C hr hlk rfl dX12_isEgg_21 ⟨by first | rfl | (simp [bI, c1, c2]; done) | (simp_all [bI]; done), rfl⟩
    · skip
      refine x_iconst C (v := 1) dX12_isEgg_16 (by decide) rfl ?_
      refine x_goto C (tgt := 21) dX12_isEgg_17 (by decide) ?_
      exact x_zret C hr hlk rfl dX12_isEgg_21 ⟨by first | rfl | (simp [bI, c1, c2]; done) | (simp_all [bI]; done), rfl⟩
theorem dX12_howMany_0 : decode cX12_howMany 0 = .ok (.iconst 0, 1) := by decide +kernel
theorem dX12_howMany_1 : decode cX12_howMany 1 = .ok (.istore_n 2, 1) := by decide +kernel
theorem dX12_howMany_2 : decode cX12_howMany 2 = .ok (.iconst 0, 1) := by decide +kernel
theorem dX12_howMany_3 : decode cX12_howMany 3 = .ok (.istore_n 3, 1) := by decide +kernel
theorem dX12_howMany_4 : decode cX12_howMany 4 = .ok (.iload_n 3, 1) := by decide +kernel
theorem dX12_howMany_5 : decode cX12_howMany 5 = .ok (.aload_n 0, 1) := by decide +kernel
theorem dX12_howMany_6 : decode cX12_howMany 6 = .ok (.getfield 7, 3) := by decide +kernel
theorem dX12_howMany_9 : decode cX12_howMany 9 = .ok (.sipush 381, 3) := by decide +kernel
theorem dX12_howMany_12 : decode cX12_howMany 12 = .ok (.iaload, 1) := by decide +kernel
theorem dX12_howMany_13 : decode cX12_howMany 13 = .ok (.if_icmp .ge 31, 3) := by decide +kernel
theorem dX12_howMany_44 : decode cX12_howMany 44 = .ok (.iload_n 2, 1) := by decide +kernel
theorem dX12_howMany_45 : decode cX12_howMany 45 = .ok (.ireturn, 1) := by decide +kernel
set_option maxRecDepth 20000 in
set_option maxHeartbeats 4000000 in
theorem e_howMany (E : xE) (l : Launch) (ws : va_W) {mm m0 m1 m2 m3 m14 m15 m16 m17 m18 m19 m20 m21 m22 m23 m24 m25 m26 m28 m29 m30 m31 m38 m39 m40 m41 m42 m43 m44 m45 m46 : Nat} {ik : Int32} {fn : Nat → Int32} (p_0 : Nat) (k_0 : ws[0]? = some (ob mm 11 [.ref m0, .ref m1, .ref m2, .ref m3, .int 0, .int 0, .int 0, .int 0, .int 0, .int 0, .int 0, .int 0, .int 0, .int 0, .ref m14, .ref m15, .ref m16, .ref m17, .ref m18, .ref m19, .ref m20, .ref m21, .ref m22, .ref m23, .ref m24, .ref m25, .ref m26, .int 0, .ref m28, .ref m29, .ref m30, .ref m31, .int 0, .int 0, .int 0, .int 0, .int 0, .int 0, .ref m38, .ref m39, .ref m40, .ref m41, .ref m42, .ref m43, .ref m44, .ref m45, .ref m46, .int ik])) (p_1 : Nat) (k_1 : ws[1]? = some (iA E m0 382 fn)) (of : Int32) (h381 : fn 381 = 0) : xI E l yX12_howMany cX12_howMany 4 (some .int) 0 [.ref mm, .int of] ws (fun r w => r = 0 ∧ w = ws) := by
  refine xI_start (lv := [(0, .ref mm), (1, .int of)]) RX12 (by decide) rfl (Nat.le_of_ble_eq_true rfl) rfl (fun p e s m below meth c A C hr hlk => ?_)
  refine x_iconst C (v := 0) dX12_howMany_0 (by decide) rfl ?_
  refine x_istore_n C (lv' := [(2, .int 0), (0, .ref mm), (1, .int of)]) dX12_howMany_1 rfl (by decide) rfl rfl ?_
  refine x_iconst C (v := 0) dX12_howMany_2 (by decide) rfl ?_
  refine x_istore_n C (lv' := [(3, .int 0), (2, .int 0), (0, .ref mm), (1, .int of)]) dX12_howMany_3 rfl (by decide) rfl rfl ?_
  refine x_iload_n C dX12_howMany_4 rfl 0 rfl rfl ?_
  refine x_aload_n C dX12_howMany_5 rfl 2 rfl rfl ?_
  refine x_get C (ci := 11) (k := 0) 0 k_0 rfl in_X12 (by decide) w_1118 rfl dX12_howMany_6 rfl ?_
  refine x_sipush C (v := 381) dX12_howMany_9 (by decide) rfl ?_
  refine x_ialk C (v := 0) 381 (by decide) (by decide) (by decide) 1 k_1 h381 dX12_howMany_12 rfl ?_
  refine x_icmp_ge C (tgt := 44) dX12_howMany_13 (by decide) rfl (fun _ => ?_) (fun h => absurd h (by decide))
  refine x_iload_n C dX12_howMany_44 rfl 1 rfl rfl ?_
  exact x_zret C hr hlk rfl dX12_howMany_45 ⟨by first | rfl | (simp [bI]; done) | (simp_all [bI]; done), rfl⟩
theorem dX12_person_0 : decode cX12_person 0 = .ok (.iload_n 1, 1) := by decide +kernel
theorem dX12_person_1 : decode cX12_person 1 = .ok (.iconst 0, 1) := by decide +kernel
theorem dX12_person_2 : decode cX12_person 2 = .ok (.bipush 7, 2) := by decide +kernel
theorem dX12_person_4 : decode cX12_person 4 = .ok (.invokestatic 109, 3) := by decide +kernel
theorem dX12_person_7 : decode cX12_person 7 = .ok (.ifCond .eq 11, 3) := by decide +kernel
theorem dX12_person_10 : decode cX12_person 10 = .ok (.aload_n 0, 1) := by decide +kernel
theorem dX12_person_11 : decode cX12_person 11 = .ok (.iload_n 1, 1) := by decide +kernel
theorem dX12_person_12 : decode cX12_person 12 = .ok (.invokevirtual 113, 3) := by decide +kernel
theorem dX12_person_15 : decode cX12_person 15 = .ok (.ifCond .eq 5, 3) := by decide +kernel
theorem dX12_person_18 : decode cX12_person 18 = .ok (.iconst 0, 1) := by decide +kernel
theorem dX12_person_19 : decode cX12_person 19 = .ok (.ireturn, 1) := by decide +kernel
theorem dX12_person_20 : decode cX12_person 20 = .ok (.aload_n 0, 1) := by decide +kernel
theorem dX12_person_21 : decode cX12_person 21 = .ok (.getfield 7, 3) := by decide +kernel
theorem dX12_person_24 : decode cX12_person 24 = .ok (.sipush 320, 3) := by decide +kernel
theorem dX12_person_27 : decode cX12_person 27 = .ok (.aload_n 0, 1) := by decide +kernel
theorem dX12_person_28 : decode cX12_person 28 = .ok (.getfield 7, 3) := by decide +kernel
theorem dX12_person_31 : decode cX12_person 31 = .ok (.sipush 320, 3) := by decide +kernel
theorem dX12_person_34 : decode cX12_person 34 = .ok (.iaload, 1) := by decide +kernel
theorem dX12_person_35 : decode cX12_person 35 = .ok (.iconst 1, 1) := by decide +kernel
theorem dX12_person_36 : decode cX12_person 36 = .ok (.iload_n 1, 1) := by decide +kernel
theorem dX12_person_37 : decode cX12_person 37 = .ok (.ishl, 1) := by decide +kernel
theorem dX12_person_38 : decode cX12_person 38 = .ok (.ior, 1) := by decide +kernel
theorem dX12_person_39 : decode cX12_person 39 = .ok (.iastore, 1) := by decide +kernel
theorem dX12_person_40 : decode cX12_person 40 = .ok (.iconst 1, 1) := by decide +kernel
theorem dX12_person_41 : decode cX12_person 41 = .ok (.ireturn, 1) := by decide +kernel
set_option maxRecDepth 20000 in
set_option maxHeartbeats 4000000 in
theorem e_person (E : xE) (l : Launch) (ws : va_W) {mm m0 m1 m2 m3 m14 m15 m16 m17 m18 m19 m20 m21 m22 m23 m24 m25 m26 m28 m29 m30 m31 m38 m39 m40 m41 m42 m43 m44 m45 m46 : Nat} {fn : Nat → Int32} (p_0 : Nat) (k_0 : ws[0]? = some (ob mm 11 [.ref m0, .ref m1, .ref m2, .ref m3, .int 0, .int 0, .int 0, .int 0, .int 0, .int 0, .int 0, .int 0, .int 0, .int 0, .ref m14, .ref m15, .ref m16, .ref m17, .ref m18, .ref m19, .ref m20, .ref m21, .ref m22, .ref m23, .ref m24, .ref m25, .ref m26, .int 0, .ref m28, .ref m29, .ref m30, .ref m31, .int 0, .int 0, .int 0, .int 0, .int 0, .int 0, .ref m38, .ref m39, .ref m40, .ref m41, .ref m42, .ref m43, .ref m44, .ref m45, .ref m46, .int 0])) (p_1 : Nat) (k_1 : ws[1]? = some (iA E m0 382 fn)) (p0 : Int32) (h320 : fn 320 = 0) : xI E l yX12_person cX12_person 2 (some .boolean) 2 [.ref mm, .int p0] ws (fun r w => r = bI (wth p0 0 7)) := by
  refine xI_start (lv := [(0, .ref mm), (1, .int p0)]) RX12 (by decide) rfl (Nat.le_of_ble_eq_true rfl) rfl (fun p e s m below meth c A C hr hlk => ?_)
  refine x_iload_n C dX12_person_0 rfl 1 rfl rfl ?_
  refine x_iconst C (v := 0) dX12_person_1 (by decide) rfl ?_
  refine x_bipush C (v := 7) dX12_person_2 (by decide) rfl ?_
  refine x_si C (As := [.int p0, .int 0, .int 7]) (rest := []) (e_in E l ws p0 0 7) mf_X12_in w_1267 rfl rfl (Nat.le_of_ble_eq_true rfl) ⟨(Nat.le_of_ble_eq_true rfl), (Nat.le_of_ble_eq_true rfl)⟩ ⟨(Nat.le_of_ble_eq_true rfl), (Nat.le_of_ble_eq_true rfl)⟩ dX12_person_4 rfl (fun r2 w3 h1 => ?_)
  obtain ⟨e4, g5⟩ := h1
  refine x_top e4 ?_
  refine x_ws g5 ?_
  refine x_if_eq C (tgt := 18) dX12_person_7 (by decide) rfl (fun c6 => ?_) (fun c6 => ?_)
  · skip
    have b7 := bI_e0 c6
    refine x_iconst C (v := 0) dX12_person_18 (by decide) rfl ?_
    exact x_zret C hr hlk rfl dX12_person_19 (by first | rfl | trivial | (simp [bI, b7]; done) | (simp_all [bI]; done))
  · skip
    have b8 := bI_n0 c6
    refine x_aload_n C dX12_person_10 rfl 0 rfl rfl ?_
    refine x_iload_n C dX12_person_11 rfl 1 rfl rfl ?_
    refine x_vi C (As := [.int p0]) (rest := []) (e_isPerson E l ws 0 k_0 1 k_1 p0 h320) mf_X12_isPerson w_1270 0 k_0 rfl rfl rfl (Nat.le_of_ble_eq_true rfl) ⟨(Nat.le_of_ble_eq_true rfl), (Nat.le_of_ble_eq_true rfl)⟩ ⟨(Nat.le_of_ble_eq_true rfl), (Nat.le_of_ble_eq_true rfl)⟩ dX12_person_12 rfl (fun r10 w11 h9 => ?_)
    obtain ⟨e12, g13⟩ := h9
    refine x_top e12 ?_
    refine x_ws g13 ?_
    refine x_if_eq C (tgt := 20) dX12_person_15 (by decide) rfl (fun _ => ?_) (fun h => absurd h (by decide))
    refine x_aload_n C dX12_person_20 rfl 0 rfl rfl ?_
    refine x_get C (ci := 11) (k := 0) 0 k_0 rfl in_X12 (by decide) w_1118 rfl dX12_person_21 rfl ?_
    refine x_sipush C (v := 320) dX12_person_24 (by decide) rfl ?_
    refine x_aload_n C dX12_person_27 rfl 0 rfl rfl ?_
    refine x_get C (ci := 11) (k := 0) 0 k_0 rfl in_X12 (by decide) w_1118 rfl dX12_person_28 rfl ?_
    refine x_sipush C (v := 320) dX12_person_31 (by decide) rfl ?_
    refine x_ialk C (v := 0) 320 (by decide) (by decide) (by decide) 1 k_1 h320 dX12_person_34 rfl ?_
    refine x_iconst C (v := 1) dX12_person_35 (by decide) rfl ?_
    refine x_iload_n C dX12_person_36 rfl 1 rfl rfl ?_
    refine x_ishl C (v := ((1 : Int32) <<< (p0 &&& 31))) dX12_person_37 rfl rfl ?_
    refine x_ior C (v := ((0 : Int32) ||| ((1 : Int32) <<< (p0 &&& 31)))) dX12_person_38 rfl rfl ?_
    obtain ⟨w14, hw15⟩ : ∃ w : va_W, w = List.set ws 1 (iA E m0 382 (upd fn 320 ((0 : Int32) ||| ((1 : Int32) <<< (p0 &&& 31))))) := ⟨_, rfl⟩
    refine x_iask C 320 (by decide) (by decide) (by decide) 1 k_1 hw15.symm dX12_person_39 rfl ?_
    have k16 : w14[0]? = some (ob mm 11 [.ref m0, .ref m1, .ref m2, .ref m3, .int 0, .int 0, .int 0, .int 0, .int 0, .int 0, .int 0, .int 0, .int 0, .int 0, .ref m14, .ref m15, .ref m16, .ref m17, .ref m18, .ref m19, .ref m20, .ref m21, .ref m22, .ref m23, .ref m24, .ref m25, .ref m26, .int 0, .ref m28, .ref m29, .ref m30, .ref m31, .int 0, .int 0, .int 0, .int 0, .int 0, .int 0, .ref m38, .ref m39, .ref m40, .ref m41, .ref m42, .ref m43, .ref m44, .ref m45, .ref m46, .int 0]) := by rw [hw15]; exact set_ne k_0 (by decide)
    have k17 : w14[1]? = some (iA E m0 382 (upd fn 320 ((0 : Int32) ||| ((1 : Int32) <<< (p0 &&& 31))))) := by rw [hw15]; exact set_eq k_1
    refine x_iconst C (v := 1) dX12_person_40 (by decide) rfl ?_
    exact x_zret C hr hlk rfl dX12_person_41 (by first | rfl | trivial | (simp [bI, b8]; done) | (simp_all [bI]; done))
theorem dX12_hen_0 : decode cX12_hen 0 = .ok (.iload_n 1, 1) := by decide +kernel
theorem dX12_hen_1 : decode cX12_hen 1 = .ok (.iconst 0, 1) := by decide +kernel
theorem dX12_hen_2 : decode cX12_hen 2 = .ok (.bipush 7, 2) := by decide +kernel
theorem dX12_hen_4 : decode cX12_hen 4 = .ok (.invokestatic 109, 3) := by decide +kernel
theorem dX12_hen_7 : decode cX12_hen 7 = .ok (.ifCond .eq 20, 3) := by decide +kernel
theorem dX12_hen_10 : decode cX12_hen 10 = .ok (.iload_n 2, 1) := by decide +kernel
theorem dX12_hen_11 : decode cX12_hen 11 = .ok (.iconst 0, 1) := by decide +kernel
theorem dX12_hen_12 : decode cX12_hen 12 = .ok (.iconst 3, 1) := by decide +kernel
theorem dX12_hen_13 : decode cX12_hen 13 = .ok (.invokestatic 109, 3) := by decide +kernel
theorem dX12_hen_16 : decode cX12_hen 16 = .ok (.ifCond .eq 11, 3) := by decide +kernel
theorem dX12_hen_19 : decode cX12_hen 19 = .ok (.aload_n 0, 1) := by decide +kernel
theorem dX12_hen_20 : decode cX12_hen 20 = .ok (.iload_n 3, 1) := by decide +kernel
theorem dX12_hen_21 : decode cX12_hen 21 = .ok (.invokevirtual 113, 3) := by decide +kernel
theorem dX12_hen_24 : decode cX12_hen 24 = .ok (.ifCond .ne 5, 3) := by decide +kernel
theorem dX12_hen_27 : decode cX12_hen 27 = .ok (.iconst 0, 1) := by decide +kernel
theorem dX12_hen_28 : decode cX12_hen 28 = .ok (.ireturn, 1) := by decide +kernel
set_option maxRecDepth 20000 in
set_option maxHeartbeats 4000000 in
theorem e_hen (E : xE) (l : Launch) (ws : va_W) {mm m0 m1 m2 m3 m14 m15 m16 m17 m18 m19 m20 m21 m22 m23 m24 m25 m26 m28 m29 m30 m31 m38 m39 m40 m41 m42 m43 m44 m45 m46 : Nat} {fn : Nat → Int32} (p_0 : Nat) (k_0 : ws[0]? = some (ob mm 11 [.ref m0, .ref m1, .ref m2, .ref m3, .int 0, .int 0, .int 0, .int 0, .int 0, .int 0, .int 0, .int 0, .int 0, .int 0, .ref m14, .ref m15, .ref m16, .ref m17, .ref m18, .ref m19, .ref m20, .ref m21, .ref m22, .ref m23, .ref m24, .ref m25, .ref m26, .int 0, .ref m28, .ref m29, .ref m30, .ref m31, .int 0, .int 0, .int 0, .int 0, .int 0, .int 0, .ref m38, .ref m39, .ref m40, .ref m41, .ref m42, .ref m43, .ref m44, .ref m45, .ref m46, .int 0])) (p_1 : Nat) (k_1 : ws[1]? = some (iA E m0 382 fn)) (y0 kd ow : Int32) (h320 : fn 320 = 0) : xI E l yX12_hen cX12_hen 4 (some .boolean) 2 [.ref mm, .int y0, .int kd, .int ow] ws (fun r w => r = 0) := by
  refine xI_start (lv := [(0, .ref mm), (1, .int y0), (2, .int kd), (3, .int ow)]) RX12 (by decide) rfl (Nat.le_of_ble_eq_true rfl) rfl (fun p e s m below meth c A C hr hlk => ?_)
  refine x_iload_n C dX12_hen_0 rfl 1 rfl rfl ?_
  refine x_iconst C (v := 0) dX12_hen_1 (by decide) rfl ?_
  refine x_bipush C (v := 7) dX12_hen_2 (by decide) rfl ?_
  refine x_si C (As := [.int y0, .int 0, .int 7]) (rest := []) (e_in E l ws y0 0 7) mf_X12_in w_1267 rfl rfl (Nat.le_of_ble_eq_true rfl) ⟨(Nat.le_of_ble_eq_true rfl), (Nat.le_of_ble_eq_true rfl)⟩ ⟨(Nat.le_of_ble_eq_true rfl), (Nat.le_of_ble_eq_true rfl)⟩ dX12_hen_4 rfl (fun r2 w3 h1 => ?_)
  obtain ⟨e4, g5⟩ := h1
  refine x_top e4 ?_
  refine x_ws g5 ?_
  refine x_if_eq C (tgt := 27) dX12_hen_7 (by decide) rfl (fun c6 => ?_) (fun c6 => ?_)
  · skip
    have b7 := bI_e0 c6
    refine x_iconst C (v := 0) dX12_hen_27 (by decide) rfl ?_
    exact x_zret C hr hlk rfl dX12_hen_28 (by first | rfl | trivial | (simp [bI, b7]; done) | (simp_all [bI]; done))
  · skip
    have b8 := bI_n0 c6
    refine x_iload_n C dX12_hen_10 rfl 2 rfl rfl ?_
    refine x_iconst C (v := 0) dX12_hen_11 (by decide) rfl ?_
    refine x_iconst C (v := 3) dX12_hen_12 (by decide) rfl ?_
    refine x_si C (As := [.int kd, .int 0, .int 3]) (rest := []) (e_in E l ws kd 0 3) mf_X12_in w_1267 rfl rfl (Nat.le_of_ble_eq_true rfl) ⟨(Nat.le_of_ble_eq_true rfl), (Nat.le_of_ble_eq_true rfl)⟩ ⟨(Nat.le_of_ble_eq_true rfl), (Nat.le_of_ble_eq_true rfl)⟩ dX12_hen_13 rfl (fun r10 w11 h9 => ?_)
    obtain ⟨e12, g13⟩ := h9
    refine x_top e12 ?_
    refine x_ws g13 ?_
    refine x_if_eq C (tgt := 27) dX12_hen_16 (by decide) rfl (fun c14 => ?_) (fun c14 => ?_)
    · skip
      have b15 := bI_e0 c14
      refine x_iconst C (v := 0) dX12_hen_27 (by decide) rfl ?_
      exact x_zret C hr hlk rfl dX12_hen_28 (by first | rfl | trivial | (simp [bI, b8, b15]; done) | (simp_all [bI]; done))
    · skip
      have b16 := bI_n0 c14
      refine x_aload_n C dX12_hen_19 rfl 0 rfl rfl ?_
      refine x_iload_n C dX12_hen_20 rfl 3 rfl rfl ?_
      refine x_vi C (As := [.int ow]) (rest := []) (e_isPerson E l ws 0 k_0 1 k_1 ow h320) mf_X12_isPerson w_1270 0 k_0 rfl rfl rfl (Nat.le_of_ble_eq_true rfl) ⟨(Nat.le_of_ble_eq_true rfl), (Nat.le_of_ble_eq_true rfl)⟩ ⟨(Nat.le_of_ble_eq_true rfl), (Nat.le_of_ble_eq_true rfl)⟩ dX12_hen_21 rfl (fun r18 w19 h17 => ?_)
      obtain ⟨e20, g21⟩ := h17
      refine x_top e20 ?_
      refine x_ws g21 ?_
      refine x_if_ne C (tgt := 29) dX12_hen_24 (by decide) rfl (fun h => absurd h (by decide)) (fun _ => ?_)
      refine x_iconst C (v := 0) dX12_hen_27 (by decide) rfl ?_
      exact x_zret C hr hlk rfl dX12_hen_28 (by first | rfl | trivial | (simp [bI, b8, b16]; done) | (simp_all [bI]; done))
theorem dX12_fox_0 : decode cX12_fox 0 = .ok (.aload_n 0, 1) := by decide +kernel
theorem dX12_fox_1 : decode cX12_fox 1 = .ok (.iload_n 1, 1) := by decide +kernel
theorem dX12_fox_2 : decode cX12_fox 2 = .ok (.invokevirtual 116, 3) := by decide +kernel
theorem dX12_fox_5 : decode cX12_fox 5 = .ok (.ifCond .ne 5, 3) := by decide +kernel
theorem dX12_fox_8 : decode cX12_fox 8 = .ok (.iconst 0, 1) := by decide +kernel
theorem dX12_fox_9 : decode cX12_fox 9 = .ok (.ireturn, 1) := by decide +kernel
set_option maxRecDepth 20000 in
set_option maxHeartbeats 4000000 in
theorem e_fox (E : xE) (l : Launch) (ws : va_W) {mm m0 m1 m2 m3 m14 m15 m16 m17 m18 m19 m20 m21 m22 m23 m24 m25 m26 m28 m29 m30 m31 m38 m39 m40 m41 m42 m43 m44 m45 m46 : Nat} {fn : Nat → Int32} (p_0 : Nat) (k_0 : ws[0]? = some (ob mm 11 [.ref m0, .ref m1, .ref m2, .ref m3, .int 0, .int 0, .int 0, .int 0, .int 0, .int 0, .int 0, .int 0, .int 0, .int 0, .ref m14, .ref m15, .ref m16, .ref m17, .ref m18, .ref m19, .ref m20, .ref m21, .ref m22, .ref m23, .ref m24, .ref m25, .ref m26, .int 0, .ref m28, .ref m29, .ref m30, .ref m31, .int 0, .int 0, .int 0, .int 0, .int 0, .int 0, .ref m38, .ref m39, .ref m40, .ref m41, .ref m42, .ref m43, .ref m44, .ref m45, .ref m46, .int 0])) (p_1 : Nat) (k_1 : ws[1]? = some (iA E m0 382 fn)) (y0 : Int32) (h337 : fn 337 = 0) : xI E l yX12_fox cX12_fox 2 (some .boolean) 2 [.ref mm, .int y0] ws (fun r w => r = 0) := by
  refine xI_start (lv := [(0, .ref mm), (1, .int y0)]) RX12 (by decide) rfl (Nat.le_of_ble_eq_true rfl) rfl (fun p e s m below meth c A C hr hlk => ?_)
  refine x_aload_n C dX12_fox_0 rfl 0 rfl rfl ?_
  refine x_iload_n C dX12_fox_1 rfl 1 rfl rfl ?_
  refine x_vi C (As := [.int y0]) (rest := []) (e_isHen E l ws 0 k_0 1 k_1 y0 h337) mf_X12_isHen w_1285 0 k_0 rfl rfl rfl (Nat.le_of_ble_eq_true rfl) ⟨(Nat.le_of_ble_eq_true rfl), (Nat.le_of_ble_eq_true rfl)⟩ ⟨(Nat.le_of_ble_eq_true rfl), (Nat.le_of_ble_eq_true rfl)⟩ dX12_fox_2 rfl (fun r2 w3 h1 => ?_)
  obtain ⟨e4, g5⟩ := h1
  refine x_top e4 ?_
  refine x_ws g5 ?_
  refine x_if_ne C (tgt := 10) dX12_fox_5 (by decide) rfl (fun h => absurd h (by decide)) (fun _ => ?_)
  refine x_iconst C (v := 0) dX12_fox_8 (by decide) rfl ?_
  exact x_zret C hr hlk rfl dX12_fox_9 (by first | rfl | trivial | (simp [bI]; done) | (simp_all [bI]; done))
theorem dX12_work_0 : decode cX12_work 0 = .ok (.iload_n 1, 1) := by decide +kernel
theorem dX12_work_1 : decode cX12_work 1 = .ok (.iconst 0, 1) := by decide +kernel
theorem dX12_work_2 : decode cX12_work 2 = .ok (.bipush 7, 2) := by decide +kernel
theorem dX12_work_4 : decode cX12_work 4 = .ok (.invokestatic 109, 3) := by decide +kernel
theorem dX12_work_7 : decode cX12_work 7 = .ok (.ifCond .eq 37, 3) := by decide +kernel
theorem dX12_work_10 : decode cX12_work 10 = .ok (.iload_n 2, 1) := by decide +kernel
theorem dX12_work_11 : decode cX12_work 11 = .ok (.iconst 1, 1) := by decide +kernel
theorem dX12_work_12 : decode cX12_work 12 = .ok (.sipush 999, 3) := by decide +kernel
theorem dX12_work_15 : decode cX12_work 15 = .ok (.invokestatic 109, 3) := by decide +kernel
theorem dX12_work_18 : decode cX12_work 18 = .ok (.ifCond .eq 26, 3) := by decide +kernel
theorem dX12_work_21 : decode cX12_work 21 = .ok (.iload_n 3, 1) := by decide +kernel
theorem dX12_work_22 : decode cX12_work 22 = .ok (.iconst 0, 1) := by decide +kernel
theorem dX12_work_23 : decode cX12_work 23 = .ok (.sipush 999, 3) := by decide +kernel
theorem dX12_work_26 : decode cX12_work 26 = .ok (.invokestatic 109, 3) := by decide +kernel
theorem dX12_work_29 : decode cX12_work 29 = .ok (.ifCond .eq 15, 3) := by decide +kernel
theorem dX12_work_32 : decode cX12_work 32 = .ok (.iload 4, 2) := by decide +kernel
theorem dX12_work_34 : decode cX12_work 34 = .ok (.iconst 0, 1) := by decide +kernel
theorem dX12_work_35 : decode cX12_work 35 = .ok (.sipush 9999, 3) := by decide +kernel
theorem dX12_work_38 : decode cX12_work 38 = .ok (.invokestatic 109, 3) := by decide +kernel
theorem dX12_work_41 : decode cX12_work 41 = .ok (.ifCond .ne 5, 3) := by decide +kernel
theorem dX12_work_44 : decode cX12_work 44 = .ok (.iconst 0, 1) := by decide +kernel
theorem dX12_work_45 : decode cX12_work 45 = .ok (.ireturn, 1) := by decide +kernel
theorem dX12_work_46 : decode cX12_work 46 = .ok (.aload_n 0, 1) := by decide +kernel
theorem dX12_work_47 : decode cX12_work 47 = .ok (.getfield 7, 3) := by decide +kernel
theorem dX12_work_50 : decode cX12_work 50 = .ok (.sipush 378, 3) := by decide +kernel
theorem dX12_work_53 : decode cX12_work 53 = .ok (.aload_n 0, 1) := by decide +kernel
theorem dX12_work_54 : decode cX12_work 54 = .ok (.getfield 7, 3) := by decide +kernel
theorem dX12_work_57 : decode cX12_work 57 = .ok (.sipush 378, 3) := by decide +kernel
theorem dX12_work_60 : decode cX12_work 60 = .ok (.iaload, 1) := by decide +kernel
theorem dX12_work_61 : decode cX12_work 61 = .ok (.iconst 1, 1) := by decide +kernel
theorem dX12_work_62 : decode cX12_work 62 = .ok (.iload_n 1, 1) := by decide +kernel
theorem dX12_work_63 : decode cX12_work 63 = .ok (.ishl, 1) := by decide +kernel
theorem dX12_work_64 : decode cX12_work 64 = .ok (.ior, 1) := by decide +kernel
theorem dX12_work_65 : decode cX12_work 65 = .ok (.iastore, 1) := by decide +kernel
theorem dX12_work_66 : decode cX12_work 66 = .ok (.aload_n 0, 1) := by decide +kernel
theorem dX12_work_67 : decode cX12_work 67 = .ok (.getfield 7, 3) := by decide +kernel
theorem dX12_work_70 : decode cX12_work 70 = .ok (.sipush 338, 3) := by decide +kernel
theorem dX12_work_73 : decode cX12_work 73 = .ok (.iload_n 1, 1) := by decide +kernel
theorem dX12_work_74 : decode cX12_work 74 = .ok (.iadd, 1) := by decide +kernel
theorem dX12_work_75 : decode cX12_work 75 = .ok (.iload_n 2, 1) := by decide +kernel
theorem dX12_work_76 : decode cX12_work 76 = .ok (.iastore, 1) := by decide +kernel
theorem dX12_work_77 : decode cX12_work 77 = .ok (.aload_n 0, 1) := by decide +kernel
theorem dX12_work_78 : decode cX12_work 78 = .ok (.getfield 7, 3) := by decide +kernel
theorem dX12_work_81 : decode cX12_work 81 = .ok (.sipush 346, 3) := by decide +kernel
theorem dX12_work_84 : decode cX12_work 84 = .ok (.iload_n 1, 1) := by decide +kernel
theorem dX12_work_85 : decode cX12_work 85 = .ok (.iadd, 1) := by decide +kernel
theorem dX12_work_86 : decode cX12_work 86 = .ok (.iconst 0, 1) := by decide +kernel
theorem dX12_work_87 : decode cX12_work 87 = .ok (.iastore, 1) := by decide +kernel
theorem dX12_work_88 : decode cX12_work 88 = .ok (.aload_n 0, 1) := by decide +kernel
theorem dX12_work_89 : decode cX12_work 89 = .ok (.getfield 7, 3) := by decide +kernel
theorem dX12_work_92 : decode cX12_work 92 = .ok (.sipush 354, 3) := by decide +kernel
theorem dX12_work_95 : decode cX12_work 95 = .ok (.iload_n 1, 1) := by decide +kernel
theorem dX12_work_96 : decode cX12_work 96 = .ok (.iadd, 1) := by decide +kernel
theorem dX12_work_97 : decode cX12_work 97 = .ok (.iload_n 3, 1) := by decide +kernel
theorem dX12_work_98 : decode cX12_work 98 = .ok (.iastore, 1) := by decide +kernel
theorem dX12_work_99 : decode cX12_work 99 = .ok (.aload_n 0, 1) := by decide +kernel
theorem dX12_work_100 : decode cX12_work 100 = .ok (.getfield 7, 3) := by decide +kernel
theorem dX12_work_103 : decode cX12_work 103 = .ok (.sipush 362, 3) := by decide +kernel
theorem dX12_work_106 : decode cX12_work 106 = .ok (.iload_n 1, 1) := by decide +kernel
theorem dX12_work_107 : decode cX12_work 107 = .ok (.iadd, 1) := by decide +kernel
theorem dX12_work_108 : decode cX12_work 108 = .ok (.iload 4, 2) := by decide +kernel
theorem dX12_work_110 : decode cX12_work 110 = .ok (.iastore, 1) := by decide +kernel
theorem dX12_work_111 : decode cX12_work 111 = .ok (.iconst 1, 1) := by decide +kernel
theorem dX12_work_112 : decode cX12_work 112 = .ok (.ireturn, 1) := by decide +kernel
set_option maxRecDepth 20000 in
set_option maxHeartbeats 4000000 in
theorem e_work (E : xE) (l : Launch) (ws : va_W) {mm m0 m1 m2 m3 m14 m15 m16 m17 m18 m19 m20 m21 m22 m23 m24 m25 m26 m28 m29 m30 m31 m38 m39 m40 m41 m42 m43 m44 m45 m46 : Nat} {fn : Nat → Int32} (p_0 : Nat) (k_0 : ws[0]? = some (ob mm 11 [.ref m0, .ref m1, .ref m2, .ref m3, .int 0, .int 0, .int 0, .int 0, .int 0, .int 0, .int 0, .int 0, .int 0, .int 0, .ref m14, .ref m15, .ref m16, .ref m17, .ref m18, .ref m19, .ref m20, .ref m21, .ref m22, .ref m23, .ref m24, .ref m25, .ref m26, .int 0, .ref m28, .ref m29, .ref m30, .ref m31, .int 0, .int 0, .int 0, .int 0, .int 0, .int 0, .ref m38, .ref m39, .ref m40, .ref m41, .ref m42, .ref m43, .ref m44, .ref m45, .ref m46, .int 0])) (p_1 : Nat) (k_1 : ws[1]? = some (iA E m0 382 fn)) (i0 nd wo0 by0 : Int32) (h378 : fn 378 = 0) : xI E l yX12_work cX12_work 5 (some .boolean) 1 [.ref mm, .int i0, .int nd, .int wo0, .int by0] ws (fun r w => r = bI (wth i0 0 7 ∧ wth nd 1 999 ∧ wth wo0 0 999 ∧ wth by0 0 9999)) := by
  refine xI_start (lv := [(0, .ref mm), (1, .int i0), (2, .int nd), (3, .int wo0), (4, .int by0)]) RX12 (by decide) rfl (Nat.le_of_ble_eq_true rfl) rfl (fun p e s m below meth c A C hr hlk => ?_)
  refine x_iload_n C dX12_work_0 rfl 1 rfl rfl ?_
  refine x_iconst C (v := 0) dX12_work_1 (by decide) rfl ?_
  refine x_bipush C (v := 7) dX12_work_2 (by decide) rfl ?_
  refine x_si C (As := [.int i0, .int 0, .int 7]) (rest := []) (e_in E l ws i0 0 7) mf_X12_in w_1267 rfl rfl (Nat.le_of_ble_eq_true rfl) ⟨(Nat.le_of_ble_eq_true rfl), (Nat.le_of_ble_eq_true rfl)⟩ ⟨(Nat.le_of_ble_eq_true rfl), (Nat.le_of_ble_eq_true rfl)⟩ dX12_work_4 rfl (fun r2 w3 h1 => ?_)
  obtain ⟨e4, g5⟩ := h1
  refine x_top e4 ?_
  refine x_ws g5 ?_
  refine x_if_eq C (tgt := 44) dX12_work_7 (by decide) rfl (fun c6 => ?_) (fun c6 => ?_)
  · skip
    have b7 := bI_e0 c6
    refine x_iconst C (v := 0) dX12_work_44 (by decide) rfl ?_
    exact x_zret C hr hlk rfl dX12_work_45 (by simp [bI, b7])
  · skip
    have b8 := bI_n0 c6
    refine x_iload_n C dX12_work_10 rfl 2 rfl rfl ?_
    refine x_iconst C (v := 1) dX12_work_11 (by decide) rfl ?_
    refine x_sipush C (v := 999) dX12_work_12 (by decide) rfl ?_
    refine x_si C (As := [.int nd, .int 1, .int 999]) (rest := []) (e_in E l ws nd 1 999) mf_X12_in w_1267 rfl rfl (Nat.le_of_ble_eq_true rfl) ⟨(Nat.le_of_ble_eq_true rfl), (Nat.le_of_ble_eq_true rfl)⟩ ⟨(Nat.le_of_ble_eq_true rfl), (Nat.le_of_ble_eq_true rfl)⟩ dX12_work_15 rfl (fun r10 w11 h9 => ?_)
    obtain ⟨e12, g13⟩ := h9
    refine x_top e12 ?_
    refine x_ws g13 ?_
    refine x_if_eq C (tgt := 44) dX12_work_18 (by decide) rfl (fun c14 => ?_) (fun c14 => ?_)
    · skip
      have b15 := bI_e0 c14
      refine x_iconst C (v := 0) dX12_work_44 (by decide) rfl ?_
      exact x_zret C hr hlk rfl dX12_work_45 (by simp [bI, b8, b15])
    · skip
      have b16 := bI_n0 c14
      refine x_iload_n C dX12_work_21 rfl 3 rfl rfl ?_
      refine x_iconst C (v := 0) dX12_work_22 (by decide) rfl ?_
      refine x_sipush C (v := 999) dX12_work_23 (by decide) rfl ?_
      refine x_si C (As := [.int wo0, .int 0, .int 999]) (rest := []) (e_in E l ws wo0 0 999) mf_X12_in w_1267 rfl rfl (Nat.le_of_ble_eq_true rfl) ⟨(Nat.le_of_ble_eq_true rfl), (Nat.le_of_ble_eq_true rfl)⟩ ⟨(Nat.le_of_ble_eq_true rfl), (Nat.le_of_ble_eq_true rfl)⟩ dX12_work_26 rfl (fun r18 w19 h17 => ?_)
      obtain ⟨e20, g21⟩ := h17
      refine x_top e20 ?_
      refine x_ws g21 ?_
      refine x_if_eq C (tgt := 44) dX12_work_29 (by decide) rfl (fun c22 => ?_) (fun c22 => ?_)
      · skip
        have b23 := bI_e0 c22
        refine x_iconst C (v := 0) dX12_work_44 (by decide) rfl ?_
        exact x_zret C hr hlk rfl dX12_work_45 (by simp [bI, b8, b16, b23])
      · skip
        have b24 := bI_n0 c22
        refine x_iload C dX12_work_32 4 rfl rfl ?_
        refine x_iconst C (v := 0) dX12_work_34 (by decide) rfl ?_
        refine x_sipush C (v := 9999) dX12_work_35 (by decide) rfl ?_
        refine x_si C (As := [.int by0, .int 0, .int 9999]) (rest := []) (e_in E l ws by0 0 9999) mf_X12_in w_1267 rfl rfl (Nat.le_of_ble_eq_true rfl) ⟨(Nat.le_of_ble_eq_true rfl), (Nat.le_of_ble_eq_true rfl)⟩ ⟨(Nat.le_of_ble_eq_true rfl), (Nat.le_of_ble_eq_true rfl)⟩ dX12_work_38 rfl (fun r26 w27 h25 => ?_)
        obtain ⟨e28, g29⟩ := h25
        refine x_top e28 ?_
        refine x_ws g29 ?_
        refine x_if_ne C (tgt := 46) dX12_work_41 (by decide) rfl (fun c30 => ?_) (fun c30 => ?_)
        · skip
          have b31 := bI_n0 c30
          refine x_aload_n C dX12_work_46 rfl 0 rfl rfl ?_
          refine x_get C (ci := 11) (k := 0) 0 k_0 rfl in_X12 (by decide) w_1118 rfl dX12_work_47 rfl ?_
          refine x_sipush C (v := 378) dX12_work_50 (by decide) rfl ?_
          refine x_aload_n C dX12_work_53 rfl 0 rfl rfl ?_
          refine x_get C (ci := 11) (k := 0) 0 k_0 rfl in_X12 (by decide) w_1118 rfl dX12_work_54 rfl ?_
          refine x_sipush C (v := 378) dX12_work_57 (by decide) rfl ?_
          refine x_ialk C (v := 0) 378 (by decide) (by decide) (by decide) 1 k_1 h378 dX12_work_60 rfl ?_
          refine x_iconst C (v := 1) dX12_work_61 (by decide) rfl ?_
          refine x_iload_n C dX12_work_62 rfl 1 rfl rfl ?_
          refine x_ishl C (v := ((1 : Int32) <<< (i0 &&& 31))) dX12_work_63 rfl rfl ?_
          refine x_ior C (v := ((0 : Int32) ||| ((1 : Int32) <<< (i0 &&& 31)))) dX12_work_64 rfl rfl ?_
          obtain ⟨w32, hw33⟩ : ∃ w : va_W, w = List.set ws 1 (iA E m0 382 (upd fn 378 ((0 : Int32) ||| ((1 : Int32) <<< (i0 &&& 31))))) := ⟨_, rfl⟩
          refine x_iask C 378 (by decide) (by decide) (by decide) 1 k_1 hw33.symm dX12_work_65 rfl ?_
          have k34 : w32[0]? = some (ob mm 11 [.ref m0, .ref m1, .ref m2, .ref m3, .int 0, .int 0, .int 0, .int 0, .int 0, .int 0, .int 0, .int 0, .int 0, .int 0, .ref m14, .ref m15, .ref m16, .ref m17, .ref m18, .ref m19, .ref m20, .ref m21, .ref m22, .ref m23, .ref m24, .ref m25, .ref m26, .int 0, .ref m28, .ref m29, .ref m30, .ref m31, .int 0, .int 0, .int 0, .int 0, .int 0, .int 0, .ref m38, .ref m39, .ref m40, .ref m41, .ref m42, .ref m43, .ref m44, .ref m45, .ref m46, .int 0]) := by rw [hw33]; exact set_ne k_0 (by decide)
          have k35 : w32[1]? = some (iA E m0 382 (upd fn 378 ((0 : Int32) ||| ((1 : Int32) <<< (i0 &&& 31))))) := by rw [hw33]; exact set_eq k_1
          refine x_aload_n C dX12_work_66 rfl 0 rfl rfl ?_
          refine x_get C (ci := 11) (k := 0) 0 k34 rfl in_X12 (by decide) w_1118 rfl dX12_work_67 rfl ?_
          refine x_sipush C (v := 338) dX12_work_70 (by decide) rfl ?_
          refine x_iload_n C dX12_work_73 rfl 1 rfl rfl ?_
          refine x_iadd C (v := ((338 : Int32) + i0)) dX12_work_74 rfl rfl ?_
          refine x_iload_n C dX12_work_75 rfl 2 rfl rfl ?_
          obtain ⟨w36, hw37⟩ : ∃ w : va_W, w = List.set w32 1 (iA E m0 382 (upd (upd fn 378 ((0 : Int32) ||| ((1 : Int32) <<< (i0 &&& 31)))) ((338 : Int32) + i0).toNatClampNeg nd)) := ⟨_, rfl⟩
          refine x_iast C 1 k35 (vp_in_b b8 (by decide +kernel)) hw37.symm dX12_work_76 rfl ?_
          have k38 : w36[0]? = some (ob mm 11 [.ref m0, .ref m1, .ref m2, .ref m3, .int 0, .int 0, .int 0, .int 0, .int 0, .int 0, .int 0, .int 0, .int 0, .int 0, .ref m14, .ref m15, .ref m16, .ref m17, .ref m18, .ref m19, .ref m20, .ref m21, .ref m22, .ref m23, .ref m24, .ref m25, .ref m26, .int 0, .ref m28, .ref m29, .ref m30, .ref m31, .int 0, .int 0, .int 0, .int 0, .int 0, .int 0, .ref m38, .ref m39, .ref m40, .ref m41, .ref m42, .ref m43, .ref m44, .ref m45, .ref m46, .int 0]) := by rw [hw37]; exact set_ne k34 (by decide)
          have k39 : w36[1]? = some (iA E m0 382 (upd (upd fn 378 ((0 : Int32) ||| ((1 : Int32) <<< (i0 &&& 31)))) ((338 : Int32) + i0).toNatClampNeg nd)) := by rw [hw37]; exact set_eq k35
          refine x_aload_n C dX12_work_77 rfl 0 rfl rfl ?_
          refine x_get C (ci := 11) (k := 0) 0 k38 rfl in_X12 (by decide) w_1118 rfl dX12_work_78 rfl ?_
          refine x_sipush C (v := 346) dX12_work_81 (by decide) rfl ?_
          refine x_iload_n C dX12_work_84 rfl 1 rfl rfl ?_
          refine x_iadd C (v := ((346 : Int32) + i0)) dX12_work_85 rfl rfl ?_
          refine x_iconst C (v := 0) dX12_work_86 (by decide) rfl ?_
          obtain ⟨w40, hw41⟩ : ∃ w : va_W, w = List.set w36 1 (iA E m0 382 (upd (upd (upd fn 378 ((0 : Int32) ||| ((1 : Int32) <<< (i0 &&& 31)))) ((338 : Int32) + i0).toNatClampNeg nd) ((346 : Int32) + i0).toNatClampNeg 0)) := ⟨_, rfl⟩
          refine x_iast C 1 k39 (vp_in_b b8 (by decide +kernel)) hw41.symm dX12_work_87 rfl ?_
          have k42 : w40[0]? = some (ob mm 11 [.ref m0, .ref m1, .ref m2, .ref m3, .int 0, .int 0, .int 0, .int 0, .int 0, .int 0, .int 0, .int 0, .int 0, .int 0, .ref m14, .ref m15, .ref m16, .ref m17, .ref m18, .ref m19, .ref m20, .ref m21, .ref m22, .ref m23, .ref m24, .ref m25, .ref m26, .int 0, .ref m28, .ref m29, .ref m30, .ref m31, .int 0, .int 0, .int 0, .int 0, .int 0, .int 0, .ref m38, .ref m39, .ref m40, .ref m41, .ref m42, .ref m43, .ref m44, .ref m45, .ref m46, .int 0]) := by rw [hw41]; exact set_ne k38 (by decide)
          have k43 : w40[1]? = some (iA E m0 382 (upd (upd (upd fn 378 ((0 : Int32) ||| ((1 : Int32) <<< (i0 &&& 31)))) ((338 : Int32) + i0).toNatClampNeg nd) ((346 : Int32) + i0).toNatClampNeg 0)) := by rw [hw41]; exact set_eq k39
          refine x_aload_n C dX12_work_88 rfl 0 rfl rfl ?_
          refine x_get C (ci := 11) (k := 0) 0 k42 rfl in_X12 (by decide) w_1118 rfl dX12_work_89 rfl ?_
          refine x_sipush C (v := 354) dX12_work_92 (by decide) rfl ?_
          refine x_iload_n C dX12_work_95 rfl 1 rfl rfl ?_
          refine x_iadd C (v := ((354 : Int32) + i0)) dX12_work_96 rfl rfl ?_
          refine x_iload_n C dX12_work_97 rfl 3 rfl rfl ?_
          obtain ⟨w44, hw45⟩ : ∃ w : va_W, w = List.set w40 1 (iA E m0 382 (upd (upd (upd (upd fn 378 ((0 : Int32) ||| ((1 : Int32) <<< (i0 &&& 31)))) ((338 : Int32) + i0).toNatClampNeg nd) ((346 : Int32) + i0).toNatClampNeg 0) ((354 : Int32) + i0).toNatClampNeg wo0)) := ⟨_, rfl⟩
          refine x_iast C 1 k43 (vp_in_b b8 (by decide +kernel)) hw45.symm dX12_work_98 rfl ?_
          have k46 : w44[0]? = some (ob mm 11 [.ref m0, .ref m1, .ref m2, .ref m3, .int 0, .int 0, .int 0, .int 0, .int 0, .int 0, .int 0, .int 0, .int 0, .int 0, .ref m14, .ref m15, .ref m16, .ref m17, .ref m18, .ref m19, .ref m20, .ref m21, .ref m22, .ref m23, .ref m24, .ref m25, .ref m26, .int 0, .ref m28, .ref m29, .ref m30, .ref m31, .int 0, .int 0, .int 0, .int 0, .int 0, .int 0, .ref m38, .ref m39, .ref m40, .ref m41, .ref m42, .ref m43, .ref m44, .ref m45, .ref m46, .int 0]) := by rw [hw45]; exact set_ne k42 (by decide)
          have k47 : w44[1]? = some (iA E m0 382 (upd (upd (upd (upd fn 378 ((0 : Int32) ||| ((1 : Int32) <<< (i0 &&& 31)))) ((338 : Int32) + i0).toNatClampNeg nd) ((346 : Int32) + i0).toNatClampNeg 0) ((354 : Int32) + i0).toNatClampNeg wo0)) := by rw [hw45]; exact set_eq k43
          refine x_aload_n C dX12_work_99 rfl 0 rfl rfl ?_
          refine x_get C (ci := 11) (k := 0) 0 k46 rfl in_X12 (by decide) w_1118 rfl dX12_work_100 rfl ?_
          refine x_sipush C (v := 362) dX12_work_103 (by decide) rfl ?_
          refine x_iload_n C dX12_work_106 rfl 1 rfl rfl ?_
          refine x_iadd C (v := ((362 : Int32) + i0)) dX12_work_107 rfl rfl ?_
          refine x_iload C dX12_work_108 4 rfl rfl ?_
          obtain ⟨w48, hw49⟩ : ∃ w : va_W, w = List.set w44 1 (iA E m0 382 (upd (upd (upd (upd (upd fn 378 ((0 : Int32) ||| ((1 : Int32) <<< (i0 &&& 31)))) ((338 : Int32) + i0).toNatClampNeg nd) ((346 : Int32) + i0).toNatClampNeg 0) ((354 : Int32) + i0).toNatClampNeg wo0) ((362 : Int32) + i0).toNatClampNeg by0)) := ⟨_, rfl⟩
          refine x_iast C 1 k47 (vp_in_b b8 (by decide +kernel)) hw49.symm dX12_work_110 rfl ?_
          have k50 : w48[0]? = some (ob mm 11 [.ref m0, .ref m1, .ref m2, .ref m3, .int 0, .int 0, .int 0, .int 0, .int 0, .int 0, .int 0, .int 0, .int 0, .int 0, .ref m14, .ref m15, .ref m16, .ref m17, .ref m18, .ref m19, .ref m20, .ref m21, .ref m22, .ref m23, .ref m24, .ref m25, .ref m26, .int 0, .ref m28, .ref m29, .ref m30, .ref m31, .int 0, .int 0, .int 0, .int 0, .int 0, .int 0, .ref m38, .ref m39, .ref m40, .ref m41, .ref m42, .ref m43, .ref m44, .ref m45, .ref m46, .int 0]) := by rw [hw49]; exact set_ne k46 (by decide)
          have k51 : w48[1]? = some (iA E m0 382 (upd (upd (upd (upd (upd fn 378 ((0 : Int32) ||| ((1 : Int32) <<< (i0 &&& 31)))) ((338 : Int32) + i0).toNatClampNeg nd) ((346 : Int32) + i0).toNatClampNeg 0) ((354 : Int32) + i0).toNatClampNeg wo0) ((362 : Int32) + i0).toNatClampNeg by0)) := by rw [hw49]; exact set_eq k47
          refine x_iconst C (v := 1) dX12_work_111 (by decide) rfl ?_
          exact x_zret C hr hlk rfl dX12_work_112 (by simp [bI, b8, b16, b24, b31])
        · skip
          have b52 := bI_e0 c30
          refine x_iconst C (v := 0) dX12_work_44 (by decide) rfl ?_
          exact x_zret C hr hlk rfl dX12_work_45 (by simp [bI, b8, b16, b24, b52])
theorem dX12_clean_0 : decode cX12_clean 0 = .ok (.iconst 0, 1) := by decide +kernel
theorem dX12_clean_1 : decode cX12_clean 1 = .ok (.istore_n 1, 1) := by decide +kernel
theorem dX12_clean_2 : decode cX12_clean 2 = .ok (.iconst 0, 1) := by decide +kernel
theorem dX12_clean_3 : decode cX12_clean 3 = .ok (.istore_n 2, 1) := by decide +kernel
theorem dX12_clean_4 : decode cX12_clean 4 = .ok (.iload_n 2, 1) := by decide +kernel
theorem dX12_clean_5 : decode cX12_clean 5 = .ok (.aload_n 0, 1) := by decide +kernel
theorem dX12_clean_6 : decode cX12_clean 6 = .ok (.getfield 7, 3) := by decide +kernel
theorem dX12_clean_9 : decode cX12_clean 9 = .ok (.sipush 381, 3) := by decide +kernel
theorem dX12_clean_12 : decode cX12_clean 12 = .ok (.iaload, 1) := by decide +kernel
theorem dX12_clean_13 : decode cX12_clean 13 = .ok (.if_icmp .ge 35, 3) := by decide +kernel
theorem dX12_clean_48 : decode cX12_clean 48 = .ok (.aload_n 0, 1) := by decide +kernel
theorem dX12_clean_49 : decode cX12_clean 49 = .ok (.getfield 7, 3) := by decide +kernel
theorem dX12_clean_52 : decode cX12_clean 52 = .ok (.sipush 381, 3) := by decide +kernel
theorem dX12_clean_55 : decode cX12_clean 55 = .ok (.iaload, 1) := by decide +kernel
theorem dX12_clean_56 : decode cX12_clean 56 = .ok (.iload_n 1, 1) := by decide +kernel
theorem dX12_clean_57 : decode cX12_clean 57 = .ok (.isub, 1) := by decide +kernel
theorem dX12_clean_58 : decode cX12_clean 58 = .ok (.istore_n 2, 1) := by decide +kernel
theorem dX12_clean_59 : decode cX12_clean 59 = .ok (.aload_n 0, 1) := by decide +kernel
theorem dX12_clean_60 : decode cX12_clean 60 = .ok (.getfield 7, 3) := by decide +kernel
theorem dX12_clean_63 : decode cX12_clean 63 = .ok (.sipush 381, 3) := by decide +kernel
theorem dX12_clean_66 : decode cX12_clean 66 = .ok (.iload_n 1, 1) := by decide +kernel
theorem dX12_clean_67 : decode cX12_clean 67 = .ok (.iastore, 1) := by decide +kernel
theorem dX12_clean_68 : decode cX12_clean 68 = .ok (.iload_n 2, 1) := by decide +kernel
theorem dX12_clean_69 : decode cX12_clean 69 = .ok (.ireturn, 1) := by decide +kernel
set_option maxRecDepth 20000 in
set_option maxHeartbeats 4000000 in
theorem e_clean (E : xE) (l : Launch) (ws : va_W) {mm m0 m1 m2 m3 m14 m15 m16 m17 m18 m19 m20 m21 m22 m23 m24 m25 m26 m28 m29 m30 m31 m38 m39 m40 m41 m42 m43 m44 m45 m46 : Nat} {fn : Nat → Int32} (p_0 : Nat) (k_0 : ws[0]? = some (ob mm 11 [.ref m0, .ref m1, .ref m2, .ref m3, .int 0, .int 0, .int 0, .int 0, .int 0, .int 0, .int 0, .int 0, .int 0, .int 0, .ref m14, .ref m15, .ref m16, .ref m17, .ref m18, .ref m19, .ref m20, .ref m21, .ref m22, .ref m23, .ref m24, .ref m25, .ref m26, .int 0, .ref m28, .ref m29, .ref m30, .ref m31, .int 0, .int 0, .int 0, .int 0, .int 0, .int 0, .ref m38, .ref m39, .ref m40, .ref m41, .ref m42, .ref m43, .ref m44, .ref m45, .ref m46, .int 0])) (p_1 : Nat) (k_1 : ws[1]? = some (iA E m0 382 fn)) (h381 : fn 381 = 0) : xI E l yX12_clean cX12_clean 3 (some .int) 0 [.ref mm] ws (fun r w => r = 0) := by
  refine xI_start (lv := [(0, .ref mm)]) RX12 (by decide) rfl (Nat.le_of_ble_eq_true rfl) rfl (fun p e s m below meth c A C hr hlk => ?_)
  refine x_iconst C (v := 0) dX12_clean_0 (by decide) rfl ?_
  refine x_istore_n C (lv' := [(1, .int 0), (0, .ref mm)]) dX12_clean_1 rfl (by decide) rfl rfl ?_
  refine x_iconst C (v := 0) dX12_clean_2 (by decide) rfl ?_
  refine x_istore_n C (lv' := [(2, .int 0), (1, .int 0), (0, .ref mm)]) dX12_clean_3 rfl (by decide) rfl rfl ?_
  refine x_iload_n C dX12_clean_4 rfl 0 rfl rfl ?_
  refine x_aload_n C dX12_clean_5 rfl 2 rfl rfl ?_
  refine x_get C (ci := 11) (k := 0) 0 k_0 rfl in_X12 (by decide) w_1118 rfl dX12_clean_6 rfl ?_
  refine x_sipush C (v := 381) dX12_clean_9 (by decide) rfl ?_
  refine x_ialk C (v := 0) 381 (by decide) (by decide) (by decide) 1 k_1 h381 dX12_clean_12 rfl ?_
  refine x_icmp_ge C (tgt := 48) dX12_clean_13 (by decide) rfl (fun _ => ?_) (fun h => absurd h (by decide))
  refine x_aload_n C dX12_clean_48 rfl 2 rfl rfl ?_
  refine x_get C (ci := 11) (k := 0) 0 k_0 rfl in_X12 (by decide) w_1118 rfl dX12_clean_49 rfl ?_
  refine x_sipush C (v := 381) dX12_clean_52 (by decide) rfl ?_
  refine x_ialk C (v := 0) 381 (by decide) (by decide) (by decide) 1 k_1 h381 dX12_clean_55 rfl ?_
  refine x_iload_n C dX12_clean_56 rfl 1 rfl rfl ?_
  refine x_isub C (v := 0) dX12_clean_57 (by decide) rfl ?_
  refine x_istore_n C (lv' := [(2, .int 0), (1, .int 0), (0, .ref mm)]) dX12_clean_58 rfl (by decide) rfl rfl ?_
  refine x_aload_n C dX12_clean_59 rfl 2 rfl rfl ?_
  refine x_get C (ci := 11) (k := 0) 0 k_0 rfl in_X12 (by decide) w_1118 rfl dX12_clean_60 rfl ?_
  refine x_sipush C (v := 381) dX12_clean_63 (by decide) rfl ?_
  refine x_iload_n C dX12_clean_66 rfl 1 rfl rfl ?_
  obtain ⟨w1, hw2⟩ : ∃ w : va_W, w = List.set ws 1 (iA E m0 382 (upd fn 381 0)) := ⟨_, rfl⟩
  refine x_iask C 381 (by decide) (by decide) (by decide) 1 k_1 hw2.symm dX12_clean_67 rfl ?_
  have k3 : w1[0]? = some (ob mm 11 [.ref m0, .ref m1, .ref m2, .ref m3, .int 0, .int 0, .int 0, .int 0, .int 0, .int 0, .int 0, .int 0, .int 0, .int 0, .ref m14, .ref m15, .ref m16, .ref m17, .ref m18, .ref m19, .ref m20, .ref m21, .ref m22, .ref m23, .ref m24, .ref m25, .ref m26, .int 0, .ref m28, .ref m29, .ref m30, .ref m31, .int 0, .int 0, .int 0, .int 0, .int 0, .int 0, .ref m38, .ref m39, .ref m40, .ref m41, .ref m42, .ref m43, .ref m44, .ref m45, .ref m46, .int 0]) := by rw [hw2]; exact set_ne k_0 (by decide)
  have k4 : w1[1]? = some (iA E m0 382 (upd fn 381 0)) := by rw [hw2]; exact set_eq k_1
  refine x_iload_n C dX12_clean_68 rfl 0 rfl rfl ?_
  exact x_zret C hr hlk rfl dX12_clean_69 (by first | rfl | trivial | (simp [bI]; done) | (simp_all [bI]; done))
theorem dX12_types_0 : decode cX12_types 0 = .ok (.iconst 3, 1) := by decide +kernel
theorem dX12_types_1 : decode cX12_types 1 = .ok (.istore_n 2, 1) := by decide +kernel
theorem dX12_types_2 : decode cX12_types 2 = .ok (.iload_n 2, 1) := by decide +kernel
theorem dX12_types_3 : decode cX12_types 3 = .ok (.ifCond .lt 35, 3) := by decide +kernel
theorem dX12_types_6 : decode cX12_types 6 = .ok (.aload_n 0, 1) := by decide +kernel
theorem dX12_types_7 : decode cX12_types 7 = .ok (.getfield 19, 3) := by decide +kernel
theorem dX12_types_10 : decode cX12_types 10 = .ok (.aload_n 0, 1) := by decide +kernel
theorem dX12_types_11 : decode cX12_types 11 = .ok (.getfield 123, 3) := by decide +kernel
theorem dX12_types_14 : decode cX12_types 14 = .ok (.iload_n 1, 1) := by decide +kernel
theorem dX12_types_15 : decode cX12_types 15 = .ok (.bipush 8, 2) := by decide +kernel
theorem dX12_types_17 : decode cX12_types 17 = .ok (.iload_n 2, 1) := by decide +kernel
theorem dX12_types_18 : decode cX12_types 18 = .ok (.imul, 1) := by decide +kernel
theorem dX12_types_19 : decode cX12_types 19 = .ok (.ishr, 1) := by decide +kernel
theorem dX12_types_20 : decode cX12_types 20 = .ok (.i2b, 1) := by decide +kernel
theorem dX12_types_21 : decode cX12_types 21 = .ok (.bastore, 1) := by decide +kernel
theorem dX12_types_22 : decode cX12_types 22 = .ok (.aload_n 0, 1) := by decide +kernel
theorem dX12_types_23 : decode cX12_types 23 = .ok (.aload_n 0, 1) := by decide +kernel
theorem dX12_types_24 : decode cX12_types 24 = .ok (.getfield 123, 3) := by decide +kernel
theorem dX12_types_27 : decode cX12_types 27 = .ok (.iconst 1, 1) := by decide +kernel
theorem dX12_types_28 : decode cX12_types 28 = .ok (.iadd, 1) := by decide +kernel
theorem dX12_types_29 : decode cX12_types 29 = .ok (.putfield 123, 3) := by decide +kernel
theorem dX12_types_32 : decode cX12_types 32 = .ok (.iinc 2 (-1), 3) := by decide +kernel
theorem dX12_types_35 : decode cX12_types 35 = .ok (.goto (-33), 3) := by decide +kernel
theorem dX12_types_38 : decode cX12_types 38 = .ok (.return_, 1) := by decide +kernel
set_option maxRecDepth 20000 in
set_option maxHeartbeats 4000000 in
theorem e_types_0 (E : xE) (l : Launch) (ws : va_W) {mm m0 m1 m2 m3 m14 m15 m16 m17 m18 m19 m20 m21 m22 m23 m24 m25 m26 m28 m29 m30 m31 m38 m39 m40 m41 m42 m43 m44 m45 m46 : Nat} {ft : Nat → Int32} (p_0 : Nat) (k_0 : ws[0]? = some (ob mm 11 [.ref m0, .ref m1, .ref m2, .ref m3, .int 0, .int 0, .int 0, .int 0, .int 0, .int 0, .int 0, .int 0, .int 0, .int 0, .ref m14, .ref m15, .ref m16, .ref m17, .ref m18, .ref m19, .ref m20, .ref m21, .ref m22, .ref m23, .ref m24, .ref m25, .ref m26, .int 0, .ref m28, .ref m29, .ref m30, .ref m31, .int 0, .int 0, .int 0, .int 0, .int 0, .int 0, .ref m38, .ref m39, .ref m40, .ref m41, .ref m42, .ref m43, .ref m44, .ref m45, .ref m46, .int 0])) (p_1 : Nat) (k_1 : ws[4]? = some (bA E m3 260 ft)) (v : Int32) : xV E l yX12_types cX12_types 3 0 0 0 [.ref mm, .int v] ws (fun w => keeps ws w (fun q => q = 0 ∨ q = 4) ∧ w[0]? = some (ob mm 11 [.ref m0, .ref m1, .ref m2, .ref m3, .int 4, .int 0, .int 0, .int 0, .int 0, .int 0, .int 0, .int 0, .int 0, .int 0, .ref m14, .ref m15, .ref m16, .ref m17, .ref m18, .ref m19, .ref m20, .ref m21, .ref m22, .ref m23, .ref m24, .ref m25, .ref m26, .int 0, .ref m28, .ref m29, .ref m30, .ref m31, .int 0, .int 0, .int 0, .int 0, .int 0, .int 0, .ref m38, .ref m39, .ref m40, .ref m41, .ref m42, .ref m43, .ref m44, .ref m45, .ref m46, .int 0]) ∧ (∃ fg : Nat → Int32, w[4]? = some (bA E m3 260 fg))) := by
  refine xV_start (lv := [(0, .ref mm), (1, .int v)]) RX12 (by decide) rfl (Nat.le_of_ble_eq_true rfl) rfl (fun p e s m below meth c A C hr hlk hin => ?_)
  have kp0 : keeps ws ws (fun q => q = 0 ∨ q = 4) := keeps_rf
  refine x_iconst C (v := 3) dX12_types_0 (by decide) rfl ?_
  refine x_istore_n C (lv' := [(2, .int 3), (0, .ref mm), (1, .int v)]) dX12_types_1 rfl (by decide) rfl rfl ?_
  refine x_iload_n C dX12_types_2 rfl 0 rfl rfl ?_
  refine x_if_lt C (tgt := 38) dX12_types_3 (by decide) rfl (fun h => absurd h (by decide)) (fun _ => ?_)
  refine x_aload_n C dX12_types_6 rfl 1 rfl rfl ?_
  refine x_get C (ci := 11) (k := 3) 0 k_0 rfl in_X12 (by decide) w_1121 rfl dX12_types_7 rfl ?_
  refine x_aload_n C dX12_types_10 rfl 1 rfl rfl ?_
  refine x_get C (ci := 11) (k := 4) 0 k_0 rfl in_X12 (by decide) w_1122 rfl dX12_types_11 rfl ?_
  refine x_iload_n C dX12_types_14 rfl 2 rfl rfl ?_
  refine x_bipush C (v := 8) dX12_types_15 (by decide) rfl ?_
  refine x_iload_n C dX12_types_17 rfl 0 rfl rfl ?_
  refine x_imul C (v := 24) dX12_types_18 (by decide) rfl ?_
  refine x_ishr C (v := (v >>> ((24 : Int32) &&& 31))) dX12_types_19 rfl rfl ?_
  refine x_i2b C (v := (v >>> ((24 : Int32) &&& 31)).toInt8.toInt32) dX12_types_20 rfl rfl ?_
  obtain ⟨w1, hw2⟩ : ∃ w : va_W, w = List.set ws 4 (bA E m3 260 (upd ft 0 (vp_nar .byte (v >>> ((24 : Int32) &&& 31)).toInt8.toInt32))) := ⟨_, rfl⟩
  refine x_bask C 0 (by decide) (by decide) (by decide) 4 k_1 hw2.symm dX12_types_21 rfl ?_
  have k3 : w1[0]? = some (ob mm 11 [.ref m0, .ref m1, .ref m2, .ref m3, .int 0, .int 0, .int 0, .int 0, .int 0, .int 0, .int 0, .int 0, .int 0, .int 0, .ref m14, .ref m15, .ref m16, .ref m17, .ref m18, .ref m19, .ref m20, .ref m21, .ref m22, .ref m23, .ref m24, .ref m25, .ref m26, .int 0, .ref m28, .ref m29, .ref m30, .ref m31, .int 0, .int 0, .int 0, .int 0, .int 0, .int 0, .ref m38, .ref m39, .ref m40, .ref m41, .ref m42, .ref m43, .ref m44, .ref m45, .ref m46, .int 0]) := by rw [hw2]; exact set_ne k_0 (by decide)
  have k4 : w1[4]? = some (bA E m3 260 (upd ft 0 (vp_nar .byte (v >>> ((24 : Int32) &&& 31)).toInt8.toInt32))) := by rw [hw2]; exact set_eq k_1
  have kp5 := keeps_set kp0 hw2 (by first | exact rfl | decide | omega | (dsimp only; omega))
  refine x_aload_n C dX12_types_22 rfl 1 rfl rfl ?_
  refine x_aload_n C dX12_types_23 rfl 1 rfl rfl ?_
  refine x_get C (ci := 11) (k := 4) 0 k3 rfl in_X12 (by decide) w_1122 rfl dX12_types_24 rfl ?_
  refine x_iconst C (v := 1) dX12_types_27 (by decide) rfl ?_
  refine x_iadd C (v := 1) dX12_types_28 (by decide) rfl ?_
  obtain ⟨w6, hw7⟩ : ∃ w : va_W, w = List.set w1 0 (ob mm 11 [.ref m0, .ref m1, .ref m2, .ref m3, .int 1, .int 0, .int 0, .int 0, .int 0, .int 0, .int 0, .int 0, .int 0, .int 0, .ref m14, .ref m15, .ref m16, .ref m17, .ref m18, .ref m19, .ref m20, .ref m21, .ref m22, .ref m23, .ref m24, .ref m25, .ref m26, .int 0, .ref m28, .ref m29, .ref m30, .ref m31, .int 0, .int 0, .int 0, .int 0, .int 0, .int 0, .ref m38, .ref m39, .ref m40, .ref m41, .ref m42, .ref m43, .ref m44, .ref m45, .ref m46, .int 0]) := ⟨_, rfl⟩
  refine x_put C (ci := 11) (k := 4) (ty := .int) 0 k3 rfl in_X12 tyX12 tyX12_ok nmX12 (by decide) w_1122 rfl rfl rfl rfl (Nat.le_of_ble_eq_true rfl) hw7.symm dX12_types_29 rfl ?_
  have k8 : w6[0]? = some (ob mm 11 [.ref m0, .ref m1, .ref m2, .ref m3, .int 1, .int 0, .int 0, .int 0, .int 0, .int 0, .int 0, .int 0, .int 0, .int 0, .ref m14, .ref m15, .ref m16, .ref m17, .ref m18, .ref m19, .ref m20, .ref m21, .ref m22, .ref m23, .ref m24, .ref m25, .ref m26, .int 0, .ref m28, .ref m29, .ref m30, .ref m31, .int 0, .int 0, .int 0, .int 0, .int 0, .int 0, .ref m38, .ref m39, .ref m40, .ref m41, .ref m42, .ref m43, .ref m44, .ref m45, .ref m46, .int 0]) := by rw [hw7]; exact set_eq k3
  have k9 : w6[4]? = some (bA E m3 260 (upd ft 0 (vp_nar .byte (v >>> ((24 : Int32) &&& 31)).toInt8.toInt32))) := by rw [hw7]; exact set_ne k4 (by decide)
  have kp10 := keeps_set kp5 hw7 (by first | exact rfl | decide | omega | (dsimp only; omega))
  refine x_iinc C (v := 2) (lv' := [(2, .int 2), (0, .ref mm), (1, .int v)]) dX12_types_32 0 rfl (by decide) (by decide) rfl rfl ?_
  refine x_goto C (tgt := 2) dX12_types_35 (by decide) ?_
  refine x_iload_n C dX12_types_2 rfl 0 rfl rfl ?_
  refine x_if_lt C (tgt := 38) dX12_types_3 (by decide) rfl (fun h => absurd h (by decide)) (fun _ => ?_)
  refine x_aload_n C dX12_types_6 rfl 1 rfl rfl ?_
  refine x_get C (ci := 11) (k := 3) 0 k8 rfl in_X12 (by decide) w_1121 rfl dX12_types_7 rfl ?_
  refine x_aload_n C dX12_types_10 rfl 1 rfl rfl ?_
  refine x_get C (ci := 11) (k := 4) 0 k8 rfl in_X12 (by decide) w_1122 rfl dX12_types_11 rfl ?_
  refine x_iload_n C dX12_types_14 rfl 2 rfl rfl ?_
  refine x_bipush C (v := 8) dX12_types_15 (by decide) rfl ?_
  refine x_iload_n C dX12_types_17 rfl 0 rfl rfl ?_
  refine x_imul C (v := 16) dX12_types_18 (by decide) rfl ?_
  refine x_ishr C (v := (v >>> ((16 : Int32) &&& 31))) dX12_types_19 rfl rfl ?_
  refine x_i2b C (v := (v >>> ((16 : Int32) &&& 31)).toInt8.toInt32) dX12_types_20 rfl rfl ?_
  obtain ⟨w11, hw12⟩ : ∃ w : va_W, w = List.set w6 4 (bA E m3 260 (upd (upd ft 0 (vp_nar .byte (v >>> ((24 : Int32) &&& 31)).toInt8.toInt32)) 1 (vp_nar .byte (v >>> ((16 : Int32) &&& 31)).toInt8.toInt32))) := ⟨_, rfl⟩
  refine x_bask C 1 (by decide) (by decide) (by decide) 4 k9 hw12.symm dX12_types_21 rfl ?_
  have k13 : w11[0]? = some (ob mm 11 [.ref m0, .ref m1, .ref m2, .ref m3, .int 1, .int 0, .int 0, .int 0, .int 0, .int 0, .int 0, .int 0, .int 0, .int 0, .ref m14, .ref m15, .ref m16, .ref m17, .ref m18, .ref m19, .ref m20, .ref m21, .ref m22, .ref m23, .ref m24, .ref m25, .ref m26, .int 0, .ref m28, .ref m29, .ref m30, .ref m31, .int 0, .int 0, .int 0, .int 0, .int 0, .int 0, .ref m38, .ref m39, .ref m40, .ref m41, .ref m42, .ref m43, .ref m44, .ref m45, .ref m46, .int 0]) := by rw [hw12]; exact set_ne k8 (by decide)
  have k14 : w11[4]? = some (bA E m3 260 (upd (upd ft 0 (vp_nar .byte (v >>> ((24 : Int32) &&& 31)).toInt8.toInt32)) 1 (vp_nar .byte (v >>> ((16 : Int32) &&& 31)).toInt8.toInt32))) := by rw [hw12]; exact set_eq k9
  have kp15 := keeps_set kp10 hw12 (by first | exact rfl | decide | omega | (dsimp only; omega))
  refine x_aload_n C dX12_types_22 rfl 1 rfl rfl ?_
  refine x_aload_n C dX12_types_23 rfl 1 rfl rfl ?_
  refine x_get C (ci := 11) (k := 4) 0 k13 rfl in_X12 (by decide) w_1122 rfl dX12_types_24 rfl ?_
  refine x_iconst C (v := 1) dX12_types_27 (by decide) rfl ?_
  refine x_iadd C (v := 2) dX12_types_28 (by decide) rfl ?_
  obtain ⟨w16, hw17⟩ : ∃ w : va_W, w = List.set w11 0 (ob mm 11 [.ref m0, .ref m1, .ref m2, .ref m3, .int 2, .int 0, .int 0, .int 0, .int 0, .int 0, .int 0, .int 0, .int 0, .int 0, .ref m14, .ref m15, .ref m16, .ref m17, .ref m18, .ref m19, .ref m20, .ref m21, .ref m22, .ref m23, .ref m24, .ref m25, .ref m26, .int 0, .ref m28, .ref m29, .ref m30, .ref m31, .int 0, .int 0, .int 0, .int 0, .int 0, .int 0, .ref m38, .ref m39, .ref m40, .ref m41, .ref m42, .ref m43, .ref m44, .ref m45, .ref m46, .int 0]) := ⟨_, rfl⟩
  refine x_put C (ci := 11) (k := 4) (ty := .int) 0 k13 rfl in_X12 tyX12 tyX12_ok nmX12 (by decide) w_1122 rfl rfl rfl rfl (Nat.le_of_ble_eq_true rfl) hw17.symm dX12_types_29 rfl ?_
  have k18 : w16[0]? = some (ob mm 11 [.ref m0, .ref m1, .ref m2, .ref m3, .int 2, .int 0, .int 0, .int 0, .int 0, .int 0, .int 0, .int 0, .int 0, .int 0, .ref m14, .ref m15, .ref m16, .ref m17, .ref m18, .ref m19, .ref m20, .ref m21, .ref m22, .ref m23, .ref m24, .ref m25, .ref m26, .int 0, .ref m28, .ref m29, .ref m30, .ref m31, .int 0, .int 0, .int 0, .int 0, .int 0, .int 0, .ref m38, .ref m39, .ref m40, .ref m41, .ref m42, .ref m43, .ref m44, .ref m45, .ref m46, .int 0]) := by rw [hw17]; exact set_eq k13
  have k19 : w16[4]? = some (bA E m3 260 (upd (upd ft 0 (vp_nar .byte (v >>> ((24 : Int32) &&& 31)).toInt8.toInt32)) 1 (vp_nar .byte (v >>> ((16 : Int32) &&& 31)).toInt8.toInt32))) := by rw [hw17]; exact set_ne k14 (by decide)
  have kp20 := keeps_set kp15 hw17 (by first | exact rfl | decide | omega | (dsimp only; omega))
  refine x_iinc C (v := 1) (lv' := [(2, .int 1), (0, .ref mm), (1, .int v)]) dX12_types_32 0 rfl (by decide) (by decide) rfl rfl ?_
  refine x_goto C (tgt := 2) dX12_types_35 (by decide) ?_
  refine x_iload_n C dX12_types_2 rfl 0 rfl rfl ?_
  refine x_if_lt C (tgt := 38) dX12_types_3 (by decide) rfl (fun h => absurd h (by decide)) (fun _ => ?_)
  refine x_aload_n C dX12_types_6 rfl 1 rfl rfl ?_
  refine x_get C (ci := 11) (k := 3) 0 k18 rfl in_X12 (by decide) w_1121 rfl dX12_types_7 rfl ?_
  refine x_aload_n C dX12_types_10 rfl 1 rfl rfl ?_
  refine x_get C (ci := 11) (k := 4) 0 k18 rfl in_X12 (by decide) w_1122 rfl dX12_types_11 rfl ?_
  refine x_iload_n C dX12_types_14 rfl 2 rfl rfl ?_
  refine x_bipush C (v := 8) dX12_types_15 (by decide) rfl ?_
  refine x_iload_n C dX12_types_17 rfl 0 rfl rfl ?_
  refine x_imul C (v := 8) dX12_types_18 (by decide) rfl ?_
  refine x_ishr C (v := (v >>> ((8 : Int32) &&& 31))) dX12_types_19 rfl rfl ?_
  refine x_i2b C (v := (v >>> ((8 : Int32) &&& 31)).toInt8.toInt32) dX12_types_20 rfl rfl ?_
  obtain ⟨w21, hw22⟩ : ∃ w : va_W, w = List.set w16 4 (bA E m3 260 (upd (upd (upd ft 0 (vp_nar .byte (v >>> ((24 : Int32) &&& 31)).toInt8.toInt32)) 1 (vp_nar .byte (v >>> ((16 : Int32) &&& 31)).toInt8.toInt32)) 2 (vp_nar .byte (v >>> ((8 : Int32) &&& 31)).toInt8.toInt32))) := ⟨_, rfl⟩
  refine x_bask C 2 (by decide) (by decide) (by decide) 4 k19 hw22.symm dX12_types_21 rfl ?_
  have k23 : w21[0]? = some (ob mm 11 [.ref m0, .ref m1, .ref m2, .ref m3, .int 2, .int 0, .int 0, .int 0, .int 0, .int 0, .int 0, .int 0, .int 0, .int 0, .ref m14, .ref m15, .ref m16, .ref m17, .ref m18, .ref m19, .ref m20, .ref m21, .ref m22, .ref m23, .ref m24, .ref m25, .ref m26, .int 0, .ref m28, .ref m29, .ref m30, .ref m31, .int 0, .int 0, .int 0, .int 0, .int 0, .int 0, .ref m38, .ref m39, .ref m40, .ref m41, .ref m42, .ref m43, .ref m44, .ref m45, .ref m46, .int 0]) := by rw [hw22]; exact set_ne k18 (by decide)
  have k24 : w21[4]? = some (bA E m3 260 (upd (upd (upd ft 0 (vp_nar .byte (v >>> ((24 : Int32) &&& 31)).toInt8.toInt32)) 1 (vp_nar .byte (v >>> ((16 : Int32) &&& 31)).toInt8.toInt32)) 2 (vp_nar .byte (v >>> ((8 : Int32) &&& 31)).toInt8.toInt32))) := by rw [hw22]; exact set_eq k19
  have kp25 := keeps_set kp20 hw22 (by first | exact rfl | decide | omega | (dsimp only; omega))
  refine x_aload_n C dX12_types_22 rfl 1 rfl rfl ?_
  refine x_aload_n C dX12_types_23 rfl 1 rfl rfl ?_
  refine x_get C (ci := 11) (k := 4) 0 k23 rfl in_X12 (by decide) w_1122 rfl dX12_types_24 rfl ?_
  refine x_iconst C (v := 1) dX12_types_27 (by decide) rfl ?_
  refine x_iadd C (v := 3) dX12_types_28 (by decide) rfl ?_
  obtain ⟨w26, hw27⟩ : ∃ w : va_W, w = List.set w21 0 (ob mm 11 [.ref m0, .ref m1, .ref m2, .ref m3, .int 3, .int 0, .int 0, .int 0, .int 0, .int 0, .int 0, .int 0, .int 0, .int 0, .ref m14, .ref m15, .ref m16, .ref m17, .ref m18, .ref m19, .ref m20, .ref m21, .ref m22, .ref m23, .ref m24, .ref m25, .ref m26, .int 0, .ref m28, .ref m29, .ref m30, .ref m31, .int 0, .int 0, .int 0, .int 0, .int 0, .int 0, .ref m38, .ref m39, .ref m40, .ref m41, .ref m42, .ref m43, .ref m44, .ref m45, .ref m46, .int 0]) := ⟨_, rfl⟩
  refine x_put C (ci := 11) (k := 4) (ty := .int) 0 k23 rfl in_X12 tyX12 tyX12_ok nmX12 (by decide) w_1122 rfl rfl rfl rfl (Nat.le_of_ble_eq_true rfl) hw27.symm dX12_types_29 rfl ?_
  have k28 : w26[0]? = some (ob mm 11 [.ref m0, .ref m1, .ref m2, .ref m3, .int 3, .int 0, .int 0, .int 0, .int 0, .int 0, .int 0, .int 0, .int 0, .int 0, .ref m14, .ref m15, .ref m16, .ref m17, .ref m18, .ref m19, .ref m20, .ref m21, .ref m22, .ref m23, .ref m24, .ref m25, .ref m26, .int 0, .ref m28, .ref m29, .ref m30, .ref m31, .int 0, .int 0, .int 0, .int 0, .int 0, .int 0, .ref m38, .ref m39, .ref m40, .ref m41, .ref m42, .ref m43, .ref m44, .ref m45, .ref m46, .int 0]) := by rw [hw27]; exact set_eq k23
  have k29 : w26[4]? = some (bA E m3 260 (upd (upd (upd ft 0 (vp_nar .byte (v >>> ((24 : Int32) &&& 31)).toInt8.toInt32)) 1 (vp_nar .byte (v >>> ((16 : Int32) &&& 31)).toInt8.toInt32)) 2 (vp_nar .byte (v >>> ((8 : Int32) &&& 31)).toInt8.toInt32))) := by rw [hw27]; exact set_ne k24 (by decide)
  have kp30 := keeps_set kp25 hw27 (by first | exact rfl | decide | omega | (dsimp only; omega))
  refine x_iinc C (v := 0) (lv' := [(2, .int 0), (0, .ref mm), (1, .int v)]) dX12_types_32 0 rfl (by decide) (by decide) rfl rfl ?_
  refine x_goto C (tgt := 2) dX12_types_35 (by decide) ?_
  refine x_iload_n C dX12_types_2 rfl 0 rfl rfl ?_
  refine x_if_lt C (tgt := 38) dX12_types_3 (by decide) rfl (fun h => absurd h (by decide)) (fun _ => ?_)
  refine x_aload_n C dX12_types_6 rfl 1 rfl rfl ?_
  refine x_get C (ci := 11) (k := 3) 0 k28 rfl in_X12 (by decide) w_1121 rfl dX12_types_7 rfl ?_
  refine x_aload_n C dX12_types_10 rfl 1 rfl rfl ?_
  refine x_get C (ci := 11) (k := 4) 0 k28 rfl in_X12 (by decide) w_1122 rfl dX12_types_11 rfl ?_
  refine x_iload_n C dX12_types_14 rfl 2 rfl rfl ?_
  refine x_bipush C (v := 8) dX12_types_15 (by decide) rfl ?_
  refine x_iload_n C dX12_types_17 rfl 0 rfl rfl ?_
  refine x_imul C (v := 0) dX12_types_18 (by decide) rfl ?_
  refine x_ishr C (v := (v >>> ((0 : Int32) &&& 31))) dX12_types_19 rfl rfl ?_
  refine x_i2b C (v := (v >>> ((0 : Int32) &&& 31)).toInt8.toInt32) dX12_types_20 rfl rfl ?_
  obtain ⟨w31, hw32⟩ : ∃ w : va_W, w = List.set w26 4 (bA E m3 260 (upd (upd (upd (upd ft 0 (vp_nar .byte (v >>> ((24 : Int32) &&& 31)).toInt8.toInt32)) 1 (vp_nar .byte (v >>> ((16 : Int32) &&& 31)).toInt8.toInt32)) 2 (vp_nar .byte (v >>> ((8 : Int32) &&& 31)).toInt8.toInt32)) 3 (vp_nar .byte (v >>> ((0 : Int32) &&& 31)).toInt8.toInt32))) := ⟨_, rfl⟩
  refine x_bask C 3 (by decide) (by decide) (by decide) 4 k29 hw32.symm dX12_types_21 rfl ?_
  have k33 : w31[0]? = some (ob mm 11 [.ref m0, .ref m1, .ref m2, .ref m3, .int 3, .int 0, .int 0, .int 0, .int 0, .int 0, .int 0, .int 0, .int 0, .int 0, .ref m14, .ref m15, .ref m16, .ref m17, .ref m18, .ref m19, .ref m20, .ref m21, .ref m22, .ref m23, .ref m24, .ref m25, .ref m26, .int 0, .ref m28, .ref m29, .ref m30, .ref m31, .int 0, .int 0, .int 0, .int 0, .int 0, .int 0, .ref m38, .ref m39, .ref m40, .ref m41, .ref m42, .ref m43, .ref m44, .ref m45, .ref m46, .int 0]) := by rw [hw32]; exact set_ne k28 (by decide)
  have k34 : w31[4]? = some (bA E m3 260 (upd (upd (upd (upd ft 0 (vp_nar .byte (v >>> ((24 : Int32) &&& 31)).toInt8.toInt32)) 1 (vp_nar .byte (v >>> ((16 : Int32) &&& 31)).toInt8.toInt32)) 2 (vp_nar .byte (v >>> ((8 : Int32) &&& 31)).toInt8.toInt32)) 3 (vp_nar .byte (v >>> ((0 : Int32) &&& 31)).toInt8.toInt32))) := by rw [hw32]; exact set_eq k29
  have kp35 := keeps_set kp30 hw32 (by first | exact rfl | decide | omega | (dsimp only; omega))
  refine x_aload_n C dX12_types_22 rfl 1 rfl rfl ?_
  refine x_aload_n C dX12_types_23 rfl 1 rfl rfl ?_
  refine x_get C (ci := 11) (k := 4) 0 k33 rfl in_X12 (by decide) w_1122 rfl dX12_types_24 rfl ?_
  refine x_iconst C (v := 1) dX12_types_27 (by decide) rfl ?_
  refine x_iadd C (v := 4) dX12_types_28 (by decide) rfl ?_
  obtain ⟨w36, hw37⟩ : ∃ w : va_W, w = List.set w31 0 (ob mm 11 [.ref m0, .ref m1, .ref m2, .ref m3, .int 4, .int 0, .int 0, .int 0, .int 0, .int 0, .int 0, .int 0, .int 0, .int 0, .ref m14, .ref m15, .ref m16, .ref m17, .ref m18, .ref m19, .ref m20, .ref m21, .ref m22, .ref m23, .ref m24, .ref m25, .ref m26, .int 0, .ref m28, .ref m29, .ref m30, .ref m31, .int 0, .int 0, .int 0, .int 0, .int 0, .int 0, .ref m38, .ref m39, .ref m40, .ref m41, .ref m42, .ref m43, .ref m44, .ref m45, .ref m46, .int 0]) := ⟨_, rfl⟩
  refine x_put C (ci := 11) (k := 4) (ty := .int) 0 k33 rfl in_X12 tyX12 tyX12_ok nmX12 (by decide) w_1122 rfl rfl rfl rfl (Nat.le_of_ble_eq_true rfl) hw37.symm dX12_types_29 rfl ?_
  have k38 : w36[0]? = some (ob mm 11 [.ref m0, .ref m1, .ref m2, .ref m3, .int 4, .int 0, .int 0, .int 0, .int 0, .int 0, .int 0, .int 0, .int 0, .int 0, .ref m14, .ref m15, .ref m16, .ref m17, .ref m18, .ref m19, .ref m20, .ref m21, .ref m22, .ref m23, .ref m24, .ref m25, .ref m26, .int 0, .ref m28, .ref m29, .ref m30, .ref m31, .int 0, .int 0, .int 0, .int 0, .int 0, .int 0, .ref m38, .ref m39, .ref m40, .ref m41, .ref m42, .ref m43, .ref m44, .ref m45, .ref m46, .int 0]) := by rw [hw37]; exact set_eq k33
  have k39 : w36[4]? = some (bA E m3 260 (upd (upd (upd (upd ft 0 (vp_nar .byte (v >>> ((24 : Int32) &&& 31)).toInt8.toInt32)) 1 (vp_nar .byte (v >>> ((16 : Int32) &&& 31)).toInt8.toInt32)) 2 (vp_nar .byte (v >>> ((8 : Int32) &&& 31)).toInt8.toInt32)) 3 (vp_nar .byte (v >>> ((0 : Int32) &&& 31)).toInt8.toInt32))) := by rw [hw37]; exact set_ne k34 (by decide)
  have kp40 := keeps_set kp35 hw37 (by first | exact rfl | decide | omega | (dsimp only; omega))
  refine x_iinc C (v := (-1)) (lv' := [(2, .int (-1)), (0, .ref mm), (1, .int v)]) dX12_types_32 0 rfl (by decide) (by decide) rfl rfl ?_
  refine x_goto C (tgt := 2) dX12_types_35 (by decide) ?_
  refine x_iload_n C dX12_types_2 rfl 0 rfl rfl ?_
  refine x_if_lt C (tgt := 38) dX12_types_3 (by decide) rfl (fun _ => ?_) (fun h => absurd h (by decide))
  exact x_vret C hr hlk dX12_types_38 ⟨kp40, k38, ⟨_, k39⟩⟩
set_option maxRecDepth 20000 in
set_option maxHeartbeats 4000000 in
theorem e_types_4 (E : xE) (l : Launch) (ws : va_W) {mm m0 m1 m2 m3 m14 m15 m16 m17 m18 m19 m20 m21 m22 m23 m24 m25 m26 m28 m29 m30 m31 m38 m39 m40 m41 m42 m43 m44 m45 m46 : Nat} {ft : Nat → Int32} (p_0 : Nat) (k_0 : ws[0]? = some (ob mm 11 [.ref m0, .ref m1, .ref m2, .ref m3, .int 4, .int 0, .int 0, .int 0, .int 0, .int 0, .int 0, .int 0, .int 0, .int 0, .ref m14, .ref m15, .ref m16, .ref m17, .ref m18, .ref m19, .ref m20, .ref m21, .ref m22, .ref m23, .ref m24, .ref m25, .ref m26, .int 0, .ref m28, .ref m29, .ref m30, .ref m31, .int 0, .int 0, .int 0, .int 0, .int 0, .int 0, .ref m38, .ref m39, .ref m40, .ref m41, .ref m42, .ref m43, .ref m44, .ref m45, .ref m46, .int 0])) (p_1 : Nat) (k_1 : ws[4]? = some (bA E m3 260 ft)) (v : Int32) : xV E l yX12_types cX12_types 3 0 0 0 [.ref mm, .int v] ws (fun w => keeps ws w (fun q => q = 0 ∨ q = 4) ∧ w[0]? = some (ob mm 11 [.ref m0, .ref m1, .ref m2, .ref m3, .int 8, .int 0, .int 0, .int 0, .int 0, .int 0, .int 0, .int 0, .int 0, .int 0, .ref m14, .ref m15, .ref m16, .ref m17, .ref m18, .ref m19, .ref m20, .ref m21, .ref m22, .ref m23, .ref m24, .ref m25, .ref m26, .int 0, .ref m28, .ref m29, .ref m30, .ref m31, .int 0, .int 0, .int 0, .int 0, .int 0, .int 0, .ref m38, .ref m39, .ref m40, .ref m41, .ref m42, .ref m43, .ref m44, .ref m45, .ref m46, .int 0]) ∧ (∃ fg : Nat → Int32, w[4]? = some (bA E m3 260 fg))) := by
  refine xV_start (lv := [(0, .ref mm), (1, .int v)]) RX12 (by decide) rfl (Nat.le_of_ble_eq_true rfl) rfl (fun p e s m below meth c A C hr hlk hin => ?_)
  have kp0 : keeps ws ws (fun q => q = 0 ∨ q = 4) := keeps_rf
  refine x_iconst C (v := 3) dX12_types_0 (by decide) rfl ?_
  refine x_istore_n C (lv' := [(2, .int 3), (0, .ref mm), (1, .int v)]) dX12_types_1 rfl (by decide) rfl rfl ?_
  refine x_iload_n C dX12_types_2 rfl 0 rfl rfl ?_
  refine x_if_lt C (tgt := 38) dX12_types_3 (by decide) rfl (fun h => absurd h (by decide)) (fun _ => ?_)
  refine x_aload_n C dX12_types_6 rfl 1 rfl rfl ?_
  refine x_get C (ci := 11) (k := 3) 0 k_0 rfl in_X12 (by decide) w_1121 rfl dX12_types_7 rfl ?_
  refine x_aload_n C dX12_types_10 rfl 1 rfl rfl ?_
  refine x_get C (ci := 11) (k := 4) 0 k_0 rfl in_X12 (by decide) w_1122 rfl dX12_types_11 rfl ?_
  refine x_iload_n C dX12_types_14 rfl 2 rfl rfl ?_
  refine x_bipush C (v := 8) dX12_types_15 (by decide) rfl ?_
  refine x_iload_n C dX12_types_17 rfl 0 rfl rfl ?_
  refine x_imul C (v := 24) dX12_types_18 (by decide) rfl ?_
  refine x_ishr C (v := (v >>> ((24 : Int32) &&& 31))) dX12_types_19 rfl rfl ?_
  refine x_i2b C (v := (v >>> ((24 : Int32) &&& 31)).toInt8.toInt32) dX12_types_20 rfl rfl ?_
  obtain ⟨w1, hw2⟩ : ∃ w : va_W, w = List.set ws 4 (bA E m3 260 (upd ft 4 (vp_nar .byte (v >>> ((24 : Int32) &&& 31)).toInt8.toInt32))) := ⟨_, rfl⟩
  refine x_bask C 4 (by decide) (by decide) (by decide) 4 k_1 hw2.symm dX12_types_21 rfl ?_
  have k3 : w1[0]? = some (ob mm 11 [.ref m0, .ref m1, .ref m2, .ref m3, .int 4, .int 0, .int 0, .int 0, .int 0, .int 0, .int 0, .int 0, .int 0, .int 0, .ref m14, .ref m15, .ref m16, .ref m17, .ref m18, .ref m19, .ref m20, .ref m21, .ref m22, .ref m23, .ref m24, .ref m25, .ref m26, .int 0, .ref m28, .ref m29, .ref m30, .ref m31, .int 0, .int 0, .int 0, .int 0, .int 0, .int 0, .ref m38, .ref m39, .ref m40, .ref m41, .ref m42, .ref m43, .ref m44, .ref m45, .ref m46, .int 0]) := by rw [hw2]; exact set_ne k_0 (by decide)
  have k4 : w1[4]? = some (bA E m3 260 (upd ft 4 (vp_nar .byte (v >>> ((24 : Int32) &&& 31)).toInt8.toInt32))) := by rw [hw2]; exact set_eq k_1
  have kp5 := keeps_set kp0 hw2 (by first | exact rfl | decide | omega | (dsimp only; omega))
  refine x_aload_n C dX12_types_22 rfl 1 rfl rfl ?_
  refine x_aload_n C dX12_types_23 rfl 1 rfl rfl ?_
  refine x_get C (ci := 11) (k := 4) 0 k3 rfl in_X12 (by decide) w_1122 rfl dX12_types_24 rfl ?_
  refine x_iconst C (v := 1) dX12_types_27 (by decide) rfl ?_
  refine x_iadd C (v := 5) dX12_types_28 (by decide) rfl ?_
  obtain ⟨w6, hw7⟩ : ∃ w : va_W, w = List.set w1 0 (ob mm 11 [.ref m0, .ref m1, .ref m2, .ref m3, .int 5, .int 0, .int 0, .int 0, .int 0, .int 0, .int 0, .int 0, .int 0, .int 0, .ref m14, .ref m15, .ref m16, .ref m17, .ref m18, .ref m19, .ref m20, .ref m21, .ref m22, .ref m23, .ref m24, .ref m25, .ref m26, .int 0, .ref m28, .ref m29, .ref m30, .ref m31, .int 0, .int 0, .int 0, .int 0, .int 0, .int 0, .ref m38, .ref m39, .ref m40, .ref m41, .ref m42, .ref m43, .ref m44, .ref m45, .ref m46, .int 0]) := ⟨_, rfl⟩
  refine x_put C (ci := 11) (k := 4) (ty := .int) 0 k3 rfl in_X12 tyX12 tyX12_ok nmX12 (by decide) w_1122 rfl rfl rfl rfl (Nat.le_of_ble_eq_true rfl) hw7.symm dX12_types_29 rfl ?_
  have k8 : w6[0]? = some (ob mm 11 [.ref m0, .ref m1, .ref m2, .ref m3, .int 5, .int 0, .int 0, .int 0, .int 0, .int 0, .int 0, .int 0, .int 0, .int 0, .ref m14, .ref m15, .ref m16, .ref m17, .ref m18, .ref m19, .ref m20, .ref m21, .ref m22, .ref m23, .ref m24, .ref m25, .ref m26, .int 0, .ref m28, .ref m29, .ref m30, .ref m31, .int 0, .int 0, .int 0, .int 0, .int 0, .int 0, .ref m38, .ref m39, .ref m40, .ref m41, .ref m42, .ref m43, .ref m44, .ref m45, .ref m46, .int 0]) := by rw [hw7]; exact set_eq k3
  have k9 : w6[4]? = some (bA E m3 260 (upd ft 4 (vp_nar .byte (v >>> ((24 : Int32) &&& 31)).toInt8.toInt32))) := by rw [hw7]; exact set_ne k4 (by decide)
  have kp10 := keeps_set kp5 hw7 (by first | exact rfl | decide | omega | (dsimp only; omega))
  refine x_iinc C (v := 2) (lv' := [(2, .int 2), (0, .ref mm), (1, .int v)]) dX12_types_32 0 rfl (by decide) (by decide) rfl rfl ?_
  refine x_goto C (tgt := 2) dX12_types_35 (by decide) ?_
  refine x_iload_n C dX12_types_2 rfl 0 rfl rfl ?_
  refine x_if_lt C (tgt := 38) dX12_types_3 (by decide) rfl (fun h => absurd h (by decide)) (fun _ => ?_)
  refine x_aload_n C dX12_types_6 rfl 1 rfl rfl ?_
  refine x_get C (ci := 11) (k := 3) 0 k8 rfl in_X12 (by decide) w_1121 rfl dX12_types_7 rfl ?_
  refine x_aload_n C dX12_types_10 rfl 1 rfl rfl ?_
  refine x_get C (ci := 11) (k := 4) 0 k8 rfl in_X12 (by decide) w_1122 rfl dX12_types_11 rfl ?_
  refine x_iload_n C dX12_types_14 rfl 2 rfl rfl ?_
  refine x_bipush C (v := 8) dX12_types_15 (by decide) rfl ?_
  refine x_iload_n C dX12_types_17 rfl 0 rfl rfl ?_
  refine x_imul C (v := 16) dX12_types_18 (by decide) rfl ?_
  refine x_ishr C (v := (v >>> ((16 : Int32) &&& 31))) dX12_types_19 rfl rfl ?_
  refine x_i2b C (v := (v >>> ((16 : Int32) &&& 31)).toInt8.toInt32) dX12_types_20 rfl rfl ?_
  obtain ⟨w11, hw12⟩ : ∃ w : va_W, w = List.set w6 4 (bA E m3 260 (upd (upd ft 4 (vp_nar .byte (v >>> ((24 : Int32) &&& 31)).toInt8.toInt32)) 5 (vp_nar .byte (v >>> ((16 : Int32) &&& 31)).toInt8.toInt32))) := ⟨_, rfl⟩
  refine x_bask C 5 (by decide) (by decide) (by decide) 4 k9 hw12.symm dX12_types_21 rfl ?_
  have k13 : w11[0]? = some (ob mm 11 [.ref m0, .ref m1, .ref m2, .ref m3, .int 5, .int 0, .int 0, .int 0, .int 0, .int 0, .int 0, .int 0, .int 0, .int 0, .ref m14, .ref m15, .ref m16, .ref m17, .ref m18, .ref m19, .ref m20, .ref m21, .ref m22, .ref m23, .ref m24, .ref m25, .ref m26, .int 0, .ref m28, .ref m29, .ref m30, .ref m31, .int 0, .int 0, .int 0, .int 0, .int 0, .int 0, .ref m38, .ref m39, .ref m40, .ref m41, .ref m42, .ref m43, .ref m44, .ref m45, .ref m46, .int 0]) := by rw [hw12]; exact set_ne k8 (by decide)
  have k14 : w11[4]? = some (bA E m3 260 (upd (upd ft 4 (vp_nar .byte (v >>> ((24 : Int32) &&& 31)).toInt8.toInt32)) 5 (vp_nar .byte (v >>> ((16 : Int32) &&& 31)).toInt8.toInt32))) := by rw [hw12]; exact set_eq k9
  have kp15 := keeps_set kp10 hw12 (by first | exact rfl | decide | omega | (dsimp only; omega))
  refine x_aload_n C dX12_types_22 rfl 1 rfl rfl ?_
  refine x_aload_n C dX12_types_23 rfl 1 rfl rfl ?_
  refine x_get C (ci := 11) (k := 4) 0 k13 rfl in_X12 (by decide) w_1122 rfl dX12_types_24 rfl ?_
  refine x_iconst C (v := 1) dX12_types_27 (by decide) rfl ?_
  refine x_iadd C (v := 6) dX12_types_28 (by decide) rfl ?_
  obtain ⟨w16, hw17⟩ : ∃ w : va_W, w = List.set w11 0 (ob mm 11 [.ref m0, .ref m1, .ref m2, .ref m3, .int 6, .int 0, .int 0, .int 0, .int 0, .int 0, .int 0, .int 0, .int 0, .int 0, .ref m14, .ref m15, .ref m16, .ref m17, .ref m18, .ref m19, .ref m20, .ref m21, .ref m22, .ref m23, .ref m24, .ref m25, .ref m26, .int 0, .ref m28, .ref m29, .ref m30, .ref m31, .int 0, .int 0, .int 0, .int 0, .int 0, .int 0, .ref m38, .ref m39, .ref m40, .ref m41, .ref m42, .ref m43, .ref m44, .ref m45, .ref m46, .int 0]) := ⟨_, rfl⟩
  refine x_put C (ci := 11) (k := 4) (ty := .int) 0 k13 rfl in_X12 tyX12 tyX12_ok nmX12 (by decide) w_1122 rfl rfl rfl rfl (Nat.le_of_ble_eq_true rfl) hw17.symm dX12_types_29 rfl ?_
  have k18 : w16[0]? = some (ob mm 11 [.ref m0, .ref m1, .ref m2, .ref m3, .int 6, .int 0, .int 0, .int 0, .int 0, .int 0, .int 0, .int 0, .int 0, .int 0, .ref m14, .ref m15, .ref m16, .ref m17, .ref m18, .ref m19, .ref m20, .ref m21, .ref m22, .ref m23, .ref m24, .ref m25, .ref m26, .int 0, .ref m28, .ref m29, .ref m30, .ref m31, .int 0, .int 0, .int 0, .int 0, .int 0, .int 0, .ref m38, .ref m39, .ref m40, .ref m41, .ref m42, .ref m43, .ref m44, .ref m45, .ref m46, .int 0]) := by rw [hw17]; exact set_eq k13
  have k19 : w16[4]? = some (bA E m3 260 (upd (upd ft 4 (vp_nar .byte (v >>> ((24 : Int32) &&& 31)).toInt8.toInt32)) 5 (vp_nar .byte (v >>> ((16 : Int32) &&& 31)).toInt8.toInt32))) := by rw [hw17]; exact set_ne k14 (by decide)
  have kp20 := keeps_set kp15 hw17 (by first | exact rfl | decide | omega | (dsimp only; omega))
  refine x_iinc C (v := 1) (lv' := [(2, .int 1), (0, .ref mm), (1, .int v)]) dX12_types_32 0 rfl (by decide) (by decide) rfl rfl ?_
  refine x_goto C (tgt := 2) dX12_types_35 (by decide) ?_
  refine x_iload_n C dX12_types_2 rfl 0 rfl rfl ?_
  refine x_if_lt C (tgt := 38) dX12_types_3 (by decide) rfl (fun h => absurd h (by decide)) (fun _ => ?_)
  refine x_aload_n C dX12_types_6 rfl 1 rfl rfl ?_
  refine x_get C (ci := 11) (k := 3) 0 k18 rfl in_X12 (by decide) w_1121 rfl dX12_types_7 rfl ?_
  refine x_aload_n C dX12_types_10 rfl 1 rfl rfl ?_
  refine x_get C (ci := 11) (k := 4) 0 k18 rfl in_X12 (by decide) w_1122 rfl dX12_types_11 rfl ?_
  refine x_iload_n C dX12_types_14 rfl 2 rfl rfl ?_
  refine x_bipush C (v := 8) dX12_types_15 (by decide) rfl ?_
  refine x_iload_n C dX12_types_17 rfl 0 rfl rfl ?_
  refine x_imul C (v := 8) dX12_types_18 (by decide) rfl ?_
  refine x_ishr C (v := (v >>> ((8 : Int32) &&& 31))) dX12_types_19 rfl rfl ?_
  refine x_i2b C (v := (v >>> ((8 : Int32) &&& 31)).toInt8.toInt32) dX12_types_20 rfl rfl ?_
  obtain ⟨w21, hw22⟩ : ∃ w : va_W, w = List.set w16 4 (bA E m3 260 (upd (upd (upd ft 4 (vp_nar .byte (v >>> ((24 : Int32) &&& 31)).toInt8.toInt32)) 5 (vp_nar .byte (v >>> ((16 : Int32) &&& 31)).toInt8.toInt32)) 6 (vp_nar .byte (v >>> ((8 : Int32) &&& 31)).toInt8.toInt32))) := ⟨_, rfl⟩
  refine x_bask C 6 (by decide) (by decide) (by decide) 4 k19 hw22.symm dX12_types_21 rfl ?_
  have k23 : w21[0]? = some (ob mm 11 [.ref m0, .ref m1, .ref m2, .ref m3, .int 6, .int 0, .int 0, .int 0, .int 0, .int 0, .int 0, .int 0, .int 0, .int 0, .ref m14, .ref m15, .ref m16, .ref m17, .ref m18, .ref m19, .ref m20, .ref m21, .ref m22, .ref m23, .ref m24, .ref m25, .ref m26, .int 0, .ref m28, .ref m29, .ref m30, .ref m31, .int 0, .int 0, .int 0, .int 0, .int 0, .int 0, .ref m38, .ref m39, .ref m40, .ref m41, .ref m42, .ref m43, .ref m44, .ref m45, .ref m46, .int 0]) := by rw [hw22]; exact set_ne k18 (by decide)
  have k24 : w21[4]? = some (bA E m3 260 (upd (upd (upd ft 4 (vp_nar .byte (v >>> ((24 : Int32) &&& 31)).toInt8.toInt32)) 5 (vp_nar .byte (v >>> ((16 : Int32) &&& 31)).toInt8.toInt32)) 6 (vp_nar .byte (v >>> ((8 : Int32) &&& 31)).toInt8.toInt32))) := by rw [hw22]; exact set_eq k19
  have kp25 := keeps_set kp20 hw22 (by first | exact rfl | decide | omega | (dsimp only; omega))
  refine x_aload_n C dX12_types_22 rfl 1 rfl rfl ?_
  refine x_aload_n C dX12_types_23 rfl 1 rfl rfl ?_
  refine x_get C (ci := 11) (k := 4) 0 k23 rfl in_X12 (by decide) w_1122 rfl dX12_types_24 rfl ?_
  refine x_iconst C (v := 1) dX12_types_27 (by decide) rfl ?_
  refine x_iadd C (v := 7) dX12_types_28 (by decide) rfl ?_
  obtain ⟨w26, hw27⟩ : ∃ w : va_W, w = List.set w21 0 (ob mm 11 [.ref m0, .ref m1, .ref m2, .ref m3, .int 7, .int 0, .int 0, .int 0, .int 0, .int 0, .int 0, .int 0, .int 0, .int 0, .ref m14, .ref m15, .ref m16, .ref m17, .ref m18, .ref m19, .ref m20, .ref m21, .ref m22, .ref m23, .ref m24, .ref m25, .ref m26, .int 0, .ref m28, .ref m29, .ref m30, .ref m31, .int 0, .int 0, .int 0, .int 0, .int 0, .int 0, .ref m38, .ref m39, .ref m40, .ref m41, .ref m42, .ref m43, .ref m44, .ref m45, .ref m46, .int 0]) := ⟨_, rfl⟩
  refine x_put C (ci := 11) (k := 4) (ty := .int) 0 k23 rfl in_X12 tyX12 tyX12_ok nmX12 (by decide) w_1122 rfl rfl rfl rfl (Nat.le_of_ble_eq_true rfl) hw27.symm dX12_types_29 rfl ?_
  have k28 : w26[0]? = some (ob mm 11 [.ref m0, .ref m1, .ref m2, .ref m3, .int 7, .int 0, .int 0, .int 0, .int 0, .int 0, .int 0, .int 0, .int 0, .int 0, .ref m14, .ref m15, .ref m16, .ref m17, .ref m18, .ref m19, .ref m20, .ref m21, .ref m22, .ref m23, .ref m24, .ref m25, .ref m26, .int 0, .ref m28, .ref m29, .ref m30, .ref m31, .int 0, .int 0, .int 0, .int 0, .int 0, .int 0, .ref m38, .ref m39, .ref m40, .ref m41, .ref m42, .ref m43, .ref m44, .ref m45, .ref m46, .int 0]) := by rw [hw27]; exact set_eq k23
  have k29 : w26[4]? = some (bA E m3 260 (upd (upd (upd ft 4 (vp_nar .byte (v >>> ((24 : Int32) &&& 31)).toInt8.toInt32)) 5 (vp_nar .byte (v >>> ((16 : Int32) &&& 31)).toInt8.toInt32)) 6 (vp_nar .byte (v >>> ((8 : Int32) &&& 31)).toInt8.toInt32))) := by rw [hw27]; exact set_ne k24 (by decide)
  have kp30 := keeps_set kp25 hw27 (by first | exact rfl | decide | omega | (dsimp only; omega))
  refine x_iinc C (v := 0) (lv' := [(2, .int 0), (0, .ref mm), (1, .int v)]) dX12_types_32 0 rfl (by decide) (by decide) rfl rfl ?_
  refine x_goto C (tgt := 2) dX12_types_35 (by decide) ?_
  refine x_iload_n C dX12_types_2 rfl 0 rfl rfl ?_
  refine x_if_lt C (tgt := 38) dX12_types_3 (by decide) rfl (fun h => absurd h (by decide)) (fun _ => ?_)
  refine x_aload_n C dX12_types_6 rfl 1 rfl rfl ?_
  refine x_get C (ci := 11) (k := 3) 0 k28 rfl in_X12 (by decide) w_1121 rfl dX12_types_7 rfl ?_
  refine x_aload_n C dX12_types_10 rfl 1 rfl rfl ?_
  refine x_get C (ci := 11) (k := 4) 0 k28 rfl in_X12 (by decide) w_1122 rfl dX12_types_11 rfl ?_
  refine x_iload_n C dX12_types_14 rfl 2 rfl rfl ?_
  refine x_bipush C (v := 8) dX12_types_15 (by decide) rfl ?_
  refine x_iload_n C dX12_types_17 rfl 0 rfl rfl ?_
  refine x_imul C (v := 0) dX12_types_18 (by decide) rfl ?_
  refine x_ishr C (v := (v >>> ((0 : Int32) &&& 31))) dX12_types_19 rfl rfl ?_
  refine x_i2b C (v := (v >>> ((0 : Int32) &&& 31)).toInt8.toInt32) dX12_types_20 rfl rfl ?_
  obtain ⟨w31, hw32⟩ : ∃ w : va_W, w = List.set w26 4 (bA E m3 260 (upd (upd (upd (upd ft 4 (vp_nar .byte (v >>> ((24 : Int32) &&& 31)).toInt8.toInt32)) 5 (vp_nar .byte (v >>> ((16 : Int32) &&& 31)).toInt8.toInt32)) 6 (vp_nar .byte (v >>> ((8 : Int32) &&& 31)).toInt8.toInt32)) 7 (vp_nar .byte (v >>> ((0 : Int32) &&& 31)).toInt8.toInt32))) := ⟨_, rfl⟩
  refine x_bask C 7 (by decide) (by decide) (by decide) 4 k29 hw32.symm dX12_types_21 rfl ?_
  have k33 : w31[0]? = some (ob mm 11 [.ref m0, .ref m1, .ref m2, .ref m3, .int 7, .int 0, .int 0, .int 0, .int 0, .int 0, .int 0, .int 0, .int 0, .int 0, .ref m14, .ref m15, .ref m16, .ref m17, .ref m18, .ref m19, .ref m20, .ref m21, .ref m22, .ref m23, .ref m24, .ref m25, .ref m26, .int 0, .ref m28, .ref m29, .ref m30, .ref m31, .int 0, .int 0, .int 0, .int 0, .int 0, .int 0, .ref m38, .ref m39, .ref m40, .ref m41, .ref m42, .ref m43, .ref m44, .ref m45, .ref m46, .int 0]) := by rw [hw32]; exact set_ne k28 (by decide)
  have k34 : w31[4]? = some (bA E m3 260 (upd (upd (upd (upd ft 4 (vp_nar .byte (v >>> ((24 : Int32) &&& 31)).toInt8.toInt32)) 5 (vp_nar .byte (v >>> ((16 : Int32) &&& 31)).toInt8.toInt32)) 6 (vp_nar .byte (v >>> ((8 : Int32) &&& 31)).toInt8.toInt32)) 7 (vp_nar .byte (v >>> ((0 : Int32) &&& 31)).toInt8.toInt32))) := by rw [hw32]; exact set_eq k29
  have kp35 := keeps_set kp30 hw32 (by first | exact rfl | decide | omega | (dsimp only; omega))
  refine x_aload_n C dX12_types_22 rfl 1 rfl rfl ?_
  refine x_aload_n C dX12_types_23 rfl 1 rfl rfl ?_
  refine x_get C (ci := 11) (k := 4) 0 k33 rfl in_X12 (by decide) w_1122 rfl dX12_types_24 rfl ?_
  refine x_iconst C (v := 1) dX12_types_27 (by decide) rfl ?_
  refine x_iadd C (v := 8) dX12_types_28 (by decide) rfl ?_
  obtain ⟨w36, hw37⟩ : ∃ w : va_W, w = List.set w31 0 (ob mm 11 [.ref m0, .ref m1, .ref m2, .ref m3, .int 8, .int 0, .int 0, .int 0, .int 0, .int 0, .int 0, .int 0, .int 0, .int 0, .ref m14, .ref m15, .ref m16, .ref m17, .ref m18, .ref m19, .ref m20, .ref m21, .ref m22, .ref m23, .ref m24, .ref m25, .ref m26, .int 0, .ref m28, .ref m29, .ref m30, .ref m31, .int 0, .int 0, .int 0, .int 0, .int 0, .int 0, .ref m38, .ref m39, .ref m40, .ref m41, .ref m42, .ref m43, .ref m44, .ref m45, .ref m46, .int 0]) := ⟨_, rfl⟩
  refine x_put C (ci := 11) (k := 4) (ty := .int) 0 k33 rfl in_X12 tyX12 tyX12_ok nmX12 (by decide) w_1122 rfl rfl rfl rfl (Nat.le_of_ble_eq_true rfl) hw37.symm dX12_types_29 rfl ?_
  have k38 : w36[0]? = some (ob mm 11 [.ref m0, .ref m1, .ref m2, .ref m3, .int 8, .int 0, .int 0, .int 0, .int 0, .int 0, .int 0, .int 0, .int 0, .int 0, .ref m14, .ref m15, .ref m16, .ref m17, .ref m18, .ref m19, .ref m20, .ref m21, .ref m22, .ref m23, .ref m24, .ref m25, .ref m26, .int 0, .ref m28, .ref m29, .ref m30, .ref m31, .int 0, .int 0, .int 0, .int 0, .int 0, .int 0, .ref m38, .ref m39, .ref m40, .ref m41, .ref m42, .ref m43, .ref m44, .ref m45, .ref m46, .int 0]) := by rw [hw37]; exact set_eq k33
  have k39 : w36[4]? = some (bA E m3 260 (upd (upd (upd (upd ft 4 (vp_nar .byte (v >>> ((24 : Int32) &&& 31)).toInt8.toInt32)) 5 (vp_nar .byte (v >>> ((16 : Int32) &&& 31)).toInt8.toInt32)) 6 (vp_nar .byte (v >>> ((8 : Int32) &&& 31)).toInt8.toInt32)) 7 (vp_nar .byte (v >>> ((0 : Int32) &&& 31)).toInt8.toInt32))) := by rw [hw37]; exact set_ne k34 (by decide)
  have kp40 := keeps_set kp35 hw37 (by first | exact rfl | decide | omega | (dsimp only; omega))
  refine x_iinc C (v := (-1)) (lv' := [(2, .int (-1)), (0, .ref mm), (1, .int v)]) dX12_types_32 0 rfl (by decide) (by decide) rfl rfl ?_
  refine x_goto C (tgt := 2) dX12_types_35 (by decide) ?_
  refine x_iload_n C dX12_types_2 rfl 0 rfl rfl ?_
  refine x_if_lt C (tgt := 38) dX12_types_3 (by decide) rfl (fun _ => ?_) (fun h => absurd h (by decide))
  exact x_vret C hr hlk dX12_types_38 ⟨kp40, k38, ⟨_, k39⟩⟩
set_option maxRecDepth 20000 in
set_option maxHeartbeats 4000000 in
theorem e_types_8 (E : xE) (l : Launch) (ws : va_W) {mm m0 m1 m2 m3 m14 m15 m16 m17 m18 m19 m20 m21 m22 m23 m24 m25 m26 m28 m29 m30 m31 m38 m39 m40 m41 m42 m43 m44 m45 m46 : Nat} {ft : Nat → Int32} (p_0 : Nat) (k_0 : ws[0]? = some (ob mm 11 [.ref m0, .ref m1, .ref m2, .ref m3, .int 8, .int 0, .int 0, .int 0, .int 0, .int 0, .int 0, .int 0, .int 0, .int 0, .ref m14, .ref m15, .ref m16, .ref m17, .ref m18, .ref m19, .ref m20, .ref m21, .ref m22, .ref m23, .ref m24, .ref m25, .ref m26, .int 0, .ref m28, .ref m29, .ref m30, .ref m31, .int 0, .int 0, .int 0, .int 0, .int 0, .int 0, .ref m38, .ref m39, .ref m40, .ref m41, .ref m42, .ref m43, .ref m44, .ref m45, .ref m46, .int 0])) (p_1 : Nat) (k_1 : ws[4]? = some (bA E m3 260 ft)) (v : Int32) : xV E l yX12_types cX12_types 3 0 0 0 [.ref mm, .int v] ws (fun w => keeps ws w (fun q => q = 0 ∨ q = 4) ∧ w[0]? = some (ob mm 11 [.ref m0, .ref m1, .ref m2, .ref m3, .int 12, .int 0, .int 0, .int 0, .int 0, .int 0, .int 0, .int 0, .int 0, .int 0, .ref m14, .ref m15, .ref m16, .ref m17, .ref m18, .ref m19, .ref m20, .ref m21, .ref m22, .ref m23, .ref m24, .ref m25, .ref m26, .int 0, .ref m28, .ref m29, .ref m30, .ref m31, .int 0, .int 0, .int 0, .int 0, .int 0, .int 0, .ref m38, .ref m39, .ref m40, .ref m41, .ref m42, .ref m43, .ref m44, .ref m45, .ref m46, .int 0]) ∧ (∃ fg : Nat → Int32, w[4]? = some (bA E m3 260 fg))) := by
  refine xV_start (lv := [(0, .ref mm), (1, .int v)]) RX12 (by decide) rfl (Nat.le_of_ble_eq_true rfl) rfl (fun p e s m below meth c A C hr hlk hin => ?_)
  have kp0 : keeps ws ws (fun q => q = 0 ∨ q = 4) := keeps_rf
  refine x_iconst C (v := 3) dX12_types_0 (by decide) rfl ?_
  refine x_istore_n C (lv' := [(2, .int 3), (0, .ref mm), (1, .int v)]) dX12_types_1 rfl (by decide) rfl rfl ?_
  refine x_iload_n C dX12_types_2 rfl 0 rfl rfl ?_
  refine x_if_lt C (tgt := 38) dX12_types_3 (by decide) rfl (fun h => absurd h (by decide)) (fun _ => ?_)
  refine x_aload_n C dX12_types_6 rfl 1 rfl rfl ?_
  refine x_get C (ci := 11) (k := 3) 0 k_0 rfl in_X12 (by decide) w_1121 rfl dX12_types_7 rfl ?_
  refine x_aload_n C dX12_types_10 rfl 1 rfl rfl ?_
  refine x_get C (ci := 11) (k := 4) 0 k_0 rfl in_X12 (by decide) w_1122 rfl dX12_types_11 rfl ?_
  refine x_iload_n C dX12_types_14 rfl 2 rfl rfl ?_
  refine x_bipush C (v := 8) dX12_types_15 (by decide) rfl ?_
  refine x_iload_n C dX12_types_17 rfl 0 rfl rfl ?_
  refine x_imul C (v := 24) dX12_types_18 (by decide) rfl ?_
  refine x_ishr C (v := (v >>> ((24 : Int32) &&& 31))) dX12_types_19 rfl rfl ?_
  refine x_i2b C (v := (v >>> ((24 : Int32) &&& 31)).toInt8.toInt32) dX12_types_20 rfl rfl ?_
  obtain ⟨w1, hw2⟩ : ∃ w : va_W, w = List.set ws 4 (bA E m3 260 (upd ft 8 (vp_nar .byte (v >>> ((24 : Int32) &&& 31)).toInt8.toInt32))) := ⟨_, rfl⟩
  refine x_bask C 8 (by decide) (by decide) (by decide) 4 k_1 hw2.symm dX12_types_21 rfl ?_
  have k3 : w1[0]? = some (ob mm 11 [.ref m0, .ref m1, .ref m2, .ref m3, .int 8, .int 0, .int 0, .int 0, .int 0, .int 0, .int 0, .int 0, .int 0, .int 0, .ref m14, .ref m15, .ref m16, .ref m17, .ref m18, .ref m19, .ref m20, .ref m21, .ref m22, .ref m23, .ref m24, .ref m25, .ref m26, .int 0, .ref m28, .ref m29, .ref m30, .ref m31, .int 0, .int 0, .int 0, .int 0, .int 0, .int 0, .ref m38, .ref m39, .ref m40, .ref m41, .ref m42, .ref m43, .ref m44, .ref m45, .ref m46, .int 0]) := by rw [hw2]; exact set_ne k_0 (by decide)
  have k4 : w1[4]? = some (bA E m3 260 (upd ft 8 (vp_nar .byte (v >>> ((24 : Int32) &&& 31)).toInt8.toInt32))) := by rw [hw2]; exact set_eq k_1
  have kp5 := keeps_set kp0 hw2 (by first | exact rfl | decide | omega | (dsimp only; omega))
  refine x_aload_n C dX12_types_22 rfl 1 rfl rfl ?_
  refine x_aload_n C dX12_types_23 rfl 1 rfl rfl ?_
  refine x_get C (ci := 11) (k := 4) 0 k3 rfl in_X12 (by decide) w_1122 rfl dX12_types_24 rfl ?_
  refine x_iconst C (v := 1) dX12_types_27 (by decide) rfl ?_
  refine x_iadd C (v := 9) dX12_types_28 (by decide) rfl ?_
  obtain ⟨w6, hw7⟩ : ∃ w : va_W, w = List.set w1 0 (ob mm 11 [.ref m0, .ref m1, .ref m2, .ref m3, .int 9, .int 0, .int 0, .int 0, .int 0, .int 0, .int 0, .int 0, .int 0, .int 0, .ref m14, .ref m15, .ref m16, .ref m17, .ref m18, .ref m19, .ref m20, .ref m21, .ref m22, .ref m23, .ref m24, .ref m25, .ref m26, .int 0, .ref m28, .ref m29, .ref m30, .ref m31, .int 0, .int 0, .int 0, .int 0, .int 0, .int 0, .ref m38, .ref m39, .ref m40, .ref m41, .ref m42, .ref m43, .ref m44, .ref m45, .ref m46, .int 0]) := ⟨_, rfl⟩
  refine x_put C (ci := 11) (k := 4) (ty := .int) 0 k3 rfl in_X12 tyX12 tyX12_ok nmX12 (by decide) w_1122 rfl rfl rfl rfl (Nat.le_of_ble_eq_true rfl) hw7.symm dX12_types_29 rfl ?_
  have k8 : w6[0]? = some (ob mm 11 [.ref m0, .ref m1, .ref m2, .ref m3, .int 9, .int 0, .int 0, .int 0, .int 0, .int 0, .int 0, .int 0, .int 0, .int 0, .ref m14, .ref m15, .ref m16, .ref m17, .ref m18, .ref m19, .ref m20, .ref m21, .ref m22, .ref m23, .ref m24, .ref m25, .ref m26, .int 0, .ref m28, .ref m29, .ref m30, .ref m31, .int 0, .int 0, .int 0, .int 0, .int 0, .int 0, .ref m38, .ref m39, .ref m40, .ref m41, .ref m42, .ref m43, .ref m44, .ref m45, .ref m46, .int 0]) := by rw [hw7]; exact set_eq k3
  have k9 : w6[4]? = some (bA E m3 260 (upd ft 8 (vp_nar .byte (v >>> ((24 : Int32) &&& 31)).toInt8.toInt32))) := by rw [hw7]; exact set_ne k4 (by decide)
  have kp10 := keeps_set kp5 hw7 (by first | exact rfl | decide | omega | (dsimp only; omega))
  refine x_iinc C (v := 2) (lv' := [(2, .int 2), (0, .ref mm), (1, .int v)]) dX12_types_32 0 rfl (by decide) (by decide) rfl rfl ?_
  refine x_goto C (tgt := 2) dX12_types_35 (by decide) ?_
  refine x_iload_n C dX12_types_2 rfl 0 rfl rfl ?_
  refine x_if_lt C (tgt := 38) dX12_types_3 (by decide) rfl (fun h => absurd h (by decide)) (fun _ => ?_)
  refine x_aload_n C dX12_types_6 rfl 1 rfl rfl ?_
  refine x_get C (ci := 11) (k := 3) 0 k8 rfl in_X12 (by decide) w_1121 rfl dX12_types_7 rfl ?_
  refine x_aload_n C dX12_types_10 rfl 1 rfl rfl ?_
  refine x_get C (ci := 11) (k := 4) 0 k8 rfl in_X12 (by decide) w_1122 rfl dX12_types_11 rfl ?_
  refine x_iload_n C dX12_types_14 rfl 2 rfl rfl ?_
  refine x_bipush C (v := 8) dX12_types_15 (by decide) rfl ?_
  refine x_iload_n C dX12_types_17 rfl 0 rfl rfl ?_
  refine x_imul C (v := 16) dX12_types_18 (by decide) rfl ?_
  refine x_ishr C (v := (v >>> ((16 : Int32) &&& 31))) dX12_types_19 rfl rfl ?_
  refine x_i2b C (v := (v >>> ((16 : Int32) &&& 31)).toInt8.toInt32) dX12_types_20 rfl rfl ?_
  obtain ⟨w11, hw12⟩ : ∃ w : va_W, w = List.set w6 4 (bA E m3 260 (upd (upd ft 8 (vp_nar .byte (v >>> ((24 : Int32) &&& 31)).toInt8.toInt32)) 9 (vp_nar .byte (v >>> ((16 : Int32) &&& 31)).toInt8.toInt32))) := ⟨_, rfl⟩
  refine x_bask C 9 (by decide) (by decide) (by decide) 4 k9 hw12.symm dX12_types_21 rfl ?_
  have k13 : w11[0]? = some (ob mm 11 [.ref m0, .ref m1, .ref m2, .ref m3, .int 9, .int 0, .int 0, .int 0, .int 0, .int 0, .int 0, .int 0, .int 0, .int 0, .ref m14, .ref m15, .ref m16, .ref m17, .ref m18, .ref m19, .ref m20, .ref m21, .ref m22, .ref m23, .ref m24, .ref m25, .ref m26, .int 0, .ref m28, .ref m29, .ref m30, .ref m31, .int 0, .int 0, .int 0, .int 0, .int 0, .int 0, .ref m38, .ref m39, .ref m40, .ref m41, .ref m42, .ref m43, .ref m44, .ref m45, .ref m46, .int 0]) := by rw [hw12]; exact set_ne k8 (by decide)
  have k14 : w11[4]? = some (bA E m3 260 (upd (upd ft 8 (vp_nar .byte (v >>> ((24 : Int32) &&& 31)).toInt8.toInt32)) 9 (vp_nar .byte (v >>> ((16 : Int32) &&& 31)).toInt8.toInt32))) := by rw [hw12]; exact set_eq k9
  have kp15 := keeps_set kp10 hw12 (by first | exact rfl | decide | omega | (dsimp only; omega))
  refine x_aload_n C dX12_types_22 rfl 1 rfl rfl ?_
  refine x_aload_n C dX12_types_23 rfl 1 rfl rfl ?_
  refine x_get C (ci := 11) (k := 4) 0 k13 rfl in_X12 (by decide) w_1122 rfl dX12_types_24 rfl ?_
  refine x_iconst C (v := 1) dX12_types_27 (by decide) rfl ?_
  refine x_iadd C (v := 10) dX12_types_28 (by decide) rfl ?_
  obtain ⟨w16, hw17⟩ : ∃ w : va_W, w = List.set w11 0 (ob mm 11 [.ref m0, .ref m1, .ref m2, .ref m3, .int 10, .int 0, .int 0, .int 0, .int 0, .int 0, .int 0, .int 0, .int 0, .int 0, .ref m14, .ref m15, .ref m16, .ref m17, .ref m18, .ref m19, .ref m20, .ref m21, .ref m22, .ref m23, .ref m24, .ref m25, .ref m26, .int 0, .ref m28, .ref m29, .ref m30, .ref m31, .int 0, .int 0, .int 0, .int 0, .int 0, .int 0, .ref m38, .ref m39, .ref m40, .ref m41, .ref m42, .ref m43, .ref m44, .ref m45, .ref m46, .int 0]) := ⟨_, rfl⟩
  refine x_put C (ci := 11) (k := 4) (ty := .int) 0 k13 rfl in_X12 tyX12 tyX12_ok nmX12 (by decide) w_1122 rfl rfl rfl rfl (Nat.le_of_ble_eq_true rfl) hw17.symm dX12_types_29 rfl ?_
  have k18 : w16[0]? = some (ob mm 11 [.ref m0, .ref m1, .ref m2, .ref m3, .int 10, .int 0, .int 0, .int 0, .int 0, .int 0, .int 0, .int 0, .int 0, .int 0, .ref m14, .ref m15, .ref m16, .ref m17, .ref m18, .ref m19, .ref m20, .ref m21, .ref m22, .ref m23, .ref m24, .ref m25, .ref m26, .int 0, .ref m28, .ref m29, .ref m30, .ref m31, .int 0, .int 0, .int 0, .int 0, .int 0, .int 0, .ref m38, .ref m39, .ref m40, .ref m41, .ref m42, .ref m43, .ref m44, .ref m45, .ref m46, .int 0]) := by rw [hw17]; exact set_eq k13
  have k19 : w16[4]? = some (bA E m3 260 (upd (upd ft 8 (vp_nar .byte (v >>> ((24 : Int32) &&& 31)).toInt8.toInt32)) 9 (vp_nar .byte (v >>> ((16 : Int32) &&& 31)).toInt8.toInt32))) := by rw [hw17]; exact set_ne k14 (by decide)
  have kp20 := keeps_set kp15 hw17 (by first | exact rfl | decide | omega | (dsimp only; omega))
  refine x_iinc C (v := 1) (lv' := [(2, .int 1), (0, .ref mm), (1, .int v)]) dX12_types_32 0 rfl (by decide) (by decide) rfl rfl ?_
  refine x_goto C (tgt := 2) dX12_types_35 (by decide) ?_
  refine x_iload_n C dX12_types_2 rfl 0 rfl rfl ?_
  refine x_if_lt C (tgt := 38) dX12_types_3 (by decide) rfl (fun h => absurd h (by decide)) (fun _ => ?_)
  refine x_aload_n C dX12_types_6 rfl 1 rfl rfl ?_
  refine x_get C (ci := 11) (k := 3) 0 k18 rfl in_X12 (by decide) w_1121 rfl dX12_types_7 rfl ?_
  refine x_aload_n C dX12_types_10 rfl 1 rfl rfl ?_
  refine x_get C (ci := 11) (k := 4) 0 k18 rfl in_X12 (by decide) w_1122 rfl dX12_types_11 rfl ?_
  refine x_iload_n C dX12_types_14 rfl 2 rfl rfl ?_
  refine x_bipush C (v := 8) dX12_types_15 (by decide) rfl ?_
  refine x_iload_n C dX12_types_17 rfl 0 rfl rfl ?_
  refine x_imul C (v := 8) dX12_types_18 (by decide) rfl ?_
  refine x_ishr C (v := (v >>> ((8 : Int32) &&& 31))) dX12_types_19 rfl rfl ?_
  refine x_i2b C (v := (v >>> ((8 : Int32) &&& 31)).toInt8.toInt32) dX12_types_20 rfl rfl ?_
  obtain ⟨w21, hw22⟩ : ∃ w : va_W, w = List.set w16 4 (bA E m3 260 (upd (upd (upd ft 8 (vp_nar .byte (v >>> ((24 : Int32) &&& 31)).toInt8.toInt32)) 9 (vp_nar .byte (v >>> ((16 : Int32) &&& 31)).toInt8.toInt32)) 10 (vp_nar .byte (v >>> ((8 : Int32) &&& 31)).toInt8.toInt32))) := ⟨_, rfl⟩
  refine x_bask C 10 (by decide) (by decide) (by decide) 4 k19 hw22.symm dX12_types_21 rfl ?_
  have k23 : w21[0]? = some (ob mm 11 [.ref m0, .ref m1, .ref m2, .ref m3, .int 10, .int 0, .int 0, .int 0, .int 0, .int 0, .int 0, .int 0, .int 0, .int 0, .ref m14, .ref m15, .ref m16, .ref m17, .ref m18, .ref m19, .ref m20, .ref m21, .ref m22, .ref m23, .ref m24, .ref m25, .ref m26, .int 0, .ref m28, .ref m29, .ref m30, .ref m31, .int 0, .int 0, .int 0, .int 0, .int 0, .int 0, .ref m38, .ref m39, .ref m40, .ref m41, .ref m42, .ref m43, .ref m44, .ref m45, .ref m46, .int 0]) := by rw [hw22]; exact set_ne k18 (by decide)
  have k24 : w21[4]? = some (bA E m3 260 (upd (upd (upd ft 8 (vp_nar .byte (v >>> ((24 : Int32) &&& 31)).toInt8.toInt32)) 9 (vp_nar .byte (v >>> ((16 : Int32) &&& 31)).toInt8.toInt32)) 10 (vp_nar .byte (v >>> ((8 : Int32) &&& 31)).toInt8.toInt32))) := by rw [hw22]; exact set_eq k19
  have kp25 := keeps_set kp20 hw22 (by first | exact rfl | decide | omega | (dsimp only; omega))
  refine x_aload_n C dX12_types_22 rfl 1 rfl rfl ?_
  refine x_aload_n C dX12_types_23 rfl 1 rfl rfl ?_
  refine x_get C (ci := 11) (k := 4) 0 k23 rfl in_X12 (by decide) w_1122 rfl dX12_types_24 rfl ?_
  refine x_iconst C (v := 1) dX12_types_27 (by decide) rfl ?_
  refine x_iadd C (v := 11) dX12_types_28 (by decide) rfl ?_
  obtain ⟨w26, hw27⟩ : ∃ w : va_W, w = List.set w21 0 (ob mm 11 [.ref m0, .ref m1, .ref m2, .ref m3, .int 11, .int 0, .int 0, .int 0, .int 0, .int 0, .int 0, .int 0, .int 0, .int 0, .ref m14, .ref m15, .ref m16, .ref m17, .ref m18, .ref m19, .ref m20, .ref m21, .ref m22, .ref m23, .ref m24, .ref m25, .ref m26, .int 0, .ref m28, .ref m29, .ref m30, .ref m31, .int 0, .int 0, .int 0, .int 0, .int 0, .int 0, .ref m38, .ref m39, .ref m40, .ref m41, .ref m42, .ref m43, .ref m44, .ref m45, .ref m46, .int 0]) := ⟨_, rfl⟩
  refine x_put C (ci := 11) (k := 4) (ty := .int) 0 k23 rfl in_X12 tyX12 tyX12_ok nmX12 (by decide) w_1122 rfl rfl rfl rfl (Nat.le_of_ble_eq_true rfl) hw27.symm dX12_types_29 rfl ?_
  have k28 : w26[0]? = some (ob mm 11 [.ref m0, .ref m1, .ref m2, .ref m3, .int 11, .int 0, .int 0, .int 0, .int 0, .int 0, .int 0, .int 0, .int 0, .int 0, .ref m14, .ref m15, .ref m16, .ref m17, .ref m18, .ref m19, .ref m20, .ref m21, .ref m22, .ref m23, .ref m24, .ref m25, .ref m26, .int 0, .ref m28, .ref m29, .ref m30, .ref m31, .int 0, .int 0, .int 0, .int 0, .int 0, .int 0, .ref m38, .ref m39, .ref m40, .ref m41, .ref m42, .ref m43, .ref m44, .ref m45, .ref m46, .int 0]) := by rw [hw27]; exact set_eq k23
  have k29 : w26[4]? = some (bA E m3 260 (upd (upd (upd ft 8 (vp_nar .byte (v >>> ((24 : Int32) &&& 31)).toInt8.toInt32)) 9 (vp_nar .byte (v >>> ((16 : Int32) &&& 31)).toInt8.toInt32)) 10 (vp_nar .byte (v >>> ((8 : Int32) &&& 31)).toInt8.toInt32))) := by rw [hw27]; exact set_ne k24 (by decide)
  have kp30 := keeps_set kp25 hw27 (by first | exact rfl | decide | omega | (dsimp only; omega))
  refine x_iinc C (v := 0) (lv' := [(2, .int 0), (0, .ref mm), (1, .int v)]) dX12_types_32 0 rfl (by decide) (by decide) rfl rfl ?_
  refine x_goto C (tgt := 2) dX12_types_35 (by decide) ?_
  refine x_iload_n C dX12_types_2 rfl 0 rfl rfl ?_
  refine x_if_lt C (tgt := 38) dX12_types_3 (by decide) rfl (fun h => absurd h (by decide)) (fun _ => ?_)
  refine x_aload_n C dX12_types_6 rfl 1 rfl rfl ?_
  refine x_get C (ci := 11) (k := 3) 0 k28 rfl in_X12 (by decide) w_1121 rfl dX12_types_7 rfl ?_
  refine x_aload_n C dX12_types_10 rfl 1 rfl rfl ?_
  refine x_get C (ci := 11) (k := 4) 0 k28 rfl in_X12 (by decide) w_1122 rfl dX12_types_11 rfl ?_
  refine x_iload_n C dX12_types_14 rfl 2 rfl rfl ?_
  refine x_bipush C (v := 8) dX12_types_15 (by decide) rfl ?_
  refine x_iload_n C dX12_types_17 rfl 0 rfl rfl ?_
  refine x_imul C (v := 0) dX12_types_18 (by decide) rfl ?_
  refine x_ishr C (v := (v >>> ((0 : Int32) &&& 31))) dX12_types_19 rfl rfl ?_
  refine x_i2b C (v := (v >>> ((0 : Int32) &&& 31)).toInt8.toInt32) dX12_types_20 rfl rfl ?_
  obtain ⟨w31, hw32⟩ : ∃ w : va_W, w = List.set w26 4 (bA E m3 260 (upd (upd (upd (upd ft 8 (vp_nar .byte (v >>> ((24 : Int32) &&& 31)).toInt8.toInt32)) 9 (vp_nar .byte (v >>> ((16 : Int32) &&& 31)).toInt8.toInt32)) 10 (vp_nar .byte (v >>> ((8 : Int32) &&& 31)).toInt8.toInt32)) 11 (vp_nar .byte (v >>> ((0 : Int32) &&& 31)).toInt8.toInt32))) := ⟨_, rfl⟩
  refine x_bask C 11 (by decide) (by decide) (by decide) 4 k29 hw32.symm dX12_types_21 rfl ?_
  have k33 : w31[0]? = some (ob mm 11 [.ref m0, .ref m1, .ref m2, .ref m3, .int 11, .int 0, .int 0, .int 0, .int 0, .int 0, .int 0, .int 0, .int 0, .int 0, .ref m14, .ref m15, .ref m16, .ref m17, .ref m18, .ref m19, .ref m20, .ref m21, .ref m22, .ref m23, .ref m24, .ref m25, .ref m26, .int 0, .ref m28, .ref m29, .ref m30, .ref m31, .int 0, .int 0, .int 0, .int 0, .int 0, .int 0, .ref m38, .ref m39, .ref m40, .ref m41, .ref m42, .ref m43, .ref m44, .ref m45, .ref m46, .int 0]) := by rw [hw32]; exact set_ne k28 (by decide)
  have k34 : w31[4]? = some (bA E m3 260 (upd (upd (upd (upd ft 8 (vp_nar .byte (v >>> ((24 : Int32) &&& 31)).toInt8.toInt32)) 9 (vp_nar .byte (v >>> ((16 : Int32) &&& 31)).toInt8.toInt32)) 10 (vp_nar .byte (v >>> ((8 : Int32) &&& 31)).toInt8.toInt32)) 11 (vp_nar .byte (v >>> ((0 : Int32) &&& 31)).toInt8.toInt32))) := by rw [hw32]; exact set_eq k29
  have kp35 := keeps_set kp30 hw32 (by first | exact rfl | decide | omega | (dsimp only; omega))
  refine x_aload_n C dX12_types_22 rfl 1 rfl rfl ?_
  refine x_aload_n C dX12_types_23 rfl 1 rfl rfl ?_
  refine x_get C (ci := 11) (k := 4) 0 k33 rfl in_X12 (by decide) w_1122 rfl dX12_types_24 rfl ?_
  refine x_iconst C (v := 1) dX12_types_27 (by decide) rfl ?_
  refine x_iadd C (v := 12) dX12_types_28 (by decide) rfl ?_
  obtain ⟨w36, hw37⟩ : ∃ w : va_W, w = List.set w31 0 (ob mm 11 [.ref m0, .ref m1, .ref m2, .ref m3, .int 12, .int 0, .int 0, .int 0, .int 0, .int 0, .int 0, .int 0, .int 0, .int 0, .ref m14, .ref m15, .ref m16, .ref m17, .ref m18, .ref m19, .ref m20, .ref m21, .ref m22, .ref m23, .ref m24, .ref m25, .ref m26, .int 0, .ref m28, .ref m29, .ref m30, .ref m31, .int 0, .int 0, .int 0, .int 0, .int 0, .int 0, .ref m38, .ref m39, .ref m40, .ref m41, .ref m42, .ref m43, .ref m44, .ref m45, .ref m46, .int 0]) := ⟨_, rfl⟩
  refine x_put C (ci := 11) (k := 4) (ty := .int) 0 k33 rfl in_X12 tyX12 tyX12_ok nmX12 (by decide) w_1122 rfl rfl rfl rfl (Nat.le_of_ble_eq_true rfl) hw37.symm dX12_types_29 rfl ?_
  have k38 : w36[0]? = some (ob mm 11 [.ref m0, .ref m1, .ref m2, .ref m3, .int 12, .int 0, .int 0, .int 0, .int 0, .int 0, .int 0, .int 0, .int 0, .int 0, .ref m14, .ref m15, .ref m16, .ref m17, .ref m18, .ref m19, .ref m20, .ref m21, .ref m22, .ref m23, .ref m24, .ref m25, .ref m26, .int 0, .ref m28, .ref m29, .ref m30, .ref m31, .int 0, .int 0, .int 0, .int 0, .int 0, .int 0, .ref m38, .ref m39, .ref m40, .ref m41, .ref m42, .ref m43, .ref m44, .ref m45, .ref m46, .int 0]) := by rw [hw37]; exact set_eq k33
  have k39 : w36[4]? = some (bA E m3 260 (upd (upd (upd (upd ft 8 (vp_nar .byte (v >>> ((24 : Int32) &&& 31)).toInt8.toInt32)) 9 (vp_nar .byte (v >>> ((16 : Int32) &&& 31)).toInt8.toInt32)) 10 (vp_nar .byte (v >>> ((8 : Int32) &&& 31)).toInt8.toInt32)) 11 (vp_nar .byte (v >>> ((0 : Int32) &&& 31)).toInt8.toInt32))) := by rw [hw37]; exact set_ne k34 (by decide)
  have kp40 := keeps_set kp35 hw37 (by first | exact rfl | decide | omega | (dsimp only; omega))
  refine x_iinc C (v := (-1)) (lv' := [(2, .int (-1)), (0, .ref mm), (1, .int v)]) dX12_types_32 0 rfl (by decide) (by decide) rfl rfl ?_
  refine x_goto C (tgt := 2) dX12_types_35 (by decide) ?_
  refine x_iload_n C dX12_types_2 rfl 0 rfl rfl ?_
  refine x_if_lt C (tgt := 38) dX12_types_3 (by decide) rfl (fun _ => ?_) (fun h => absurd h (by decide))
  exact x_vret C hr hlk dX12_types_38 ⟨kp40, k38, ⟨_, k39⟩⟩
set_option maxRecDepth 20000 in
set_option maxHeartbeats 4000000 in
theorem e_types_12 (E : xE) (l : Launch) (ws : va_W) {mm m0 m1 m2 m3 m14 m15 m16 m17 m18 m19 m20 m21 m22 m23 m24 m25 m26 m28 m29 m30 m31 m38 m39 m40 m41 m42 m43 m44 m45 m46 : Nat} {ft : Nat → Int32} (p_0 : Nat) (k_0 : ws[0]? = some (ob mm 11 [.ref m0, .ref m1, .ref m2, .ref m3, .int 12, .int 0, .int 0, .int 0, .int 0, .int 0, .int 0, .int 0, .int 0, .int 0, .ref m14, .ref m15, .ref m16, .ref m17, .ref m18, .ref m19, .ref m20, .ref m21, .ref m22, .ref m23, .ref m24, .ref m25, .ref m26, .int 0, .ref m28, .ref m29, .ref m30, .ref m31, .int 0, .int 0, .int 0, .int 0, .int 0, .int 0, .ref m38, .ref m39, .ref m40, .ref m41, .ref m42, .ref m43, .ref m44, .ref m45, .ref m46, .int 0])) (p_1 : Nat) (k_1 : ws[4]? = some (bA E m3 260 ft)) (v : Int32) : xV E l yX12_types cX12_types 3 0 0 0 [.ref mm, .int v] ws (fun w => keeps ws w (fun q => q = 0 ∨ q = 4) ∧ w[0]? = some (ob mm 11 [.ref m0, .ref m1, .ref m2, .ref m3, .int 16, .int 0, .int 0, .int 0, .int 0, .int 0, .int 0, .int 0, .int 0, .int 0, .ref m14, .ref m15, .ref m16, .ref m17, .ref m18, .ref m19, .ref m20, .ref m21, .ref m22, .ref m23, .ref m24, .ref m25, .ref m26, .int 0, .ref m28, .ref m29, .ref m30, .ref m31, .int 0, .int 0, .int 0, .int 0, .int 0, .int 0, .ref m38, .ref m39, .ref m40, .ref m41, .ref m42, .ref m43, .ref m44, .ref m45, .ref m46, .int 0]) ∧ (∃ fg : Nat → Int32, w[4]? = some (bA E m3 260 fg))) := by
  refine xV_start (lv := [(0, .ref mm), (1, .int v)]) RX12 (by decide) rfl (Nat.le_of_ble_eq_true rfl) rfl (fun p e s m below meth c A C hr hlk hin => ?_)
  have kp0 : keeps ws ws (fun q => q = 0 ∨ q = 4) := keeps_rf
  refine x_iconst C (v := 3) dX12_types_0 (by decide) rfl ?_
  refine x_istore_n C (lv' := [(2, .int 3), (0, .ref mm), (1, .int v)]) dX12_types_1 rfl (by decide) rfl rfl ?_
  refine x_iload_n C dX12_types_2 rfl 0 rfl rfl ?_
  refine x_if_lt C (tgt := 38) dX12_types_3 (by decide) rfl (fun h => absurd h (by decide)) (fun _ => ?_)
  refine x_aload_n C dX12_types_6 rfl 1 rfl rfl ?_
  refine x_get C (ci := 11) (k := 3) 0 k_0 rfl in_X12 (by decide) w_1121 rfl dX12_types_7 rfl ?_
  refine x_aload_n C dX12_types_10 rfl 1 rfl rfl ?_
  refine x_get C (ci := 11) (k := 4) 0 k_0 rfl in_X12 (by decide) w_1122 rfl dX12_types_11 rfl ?_
  refine x_iload_n C dX12_types_14 rfl 2 rfl rfl ?_
  refine x_bipush C (v := 8) dX12_types_15 (by decide) rfl ?_
  refine x_iload_n C dX12_types_17 rfl 0 rfl rfl ?_
  refine x_imul C (v := 24) dX12_types_18 (by decide) rfl ?_
  refine x_ishr C (v := (v >>> ((24 : Int32) &&& 31))) dX12_types_19 rfl rfl ?_
  refine x_i2b C (v := (v >>> ((24 : Int32) &&& 31)).toInt8.toInt32) dX12_types_20 rfl rfl ?_
  obtain ⟨w1, hw2⟩ : ∃ w : va_W, w = List.set ws 4 (bA E m3 260 (upd ft 12 (vp_nar .byte (v >>> ((24 : Int32) &&& 31)).toInt8.toInt32))) := ⟨_, rfl⟩
  refine x_bask C 12 (by decide) (by decide) (by decide) 4 k_1 hw2.symm dX12_types_21 rfl ?_
  have k3 : w1[0]? = some (ob mm 11 [.ref m0, .ref m1, .ref m2, .ref m3, .int 12, .int 0, .int 0, .int 0, .int 0, .int 0, .int 0, .int 0, .int 0, .int 0, .ref m14, .ref m15, .ref m16, .ref m17, .ref m18, .ref m19, .ref m20, .ref m21, .ref m22, .ref m23, .ref m24, .ref m25, .ref m26, .int 0, .ref m28, .ref m29, .ref m30, .ref m31, .int 0, .int 0, .int 0, .int 0, .int 0, .int 0, .ref m38, .ref m39, .ref m40, .ref m41, .ref m42, .ref m43, .ref m44, .ref m45, .ref m46, .int 0]) := by rw [hw2]; exact set_ne k_0 (by decide)
  have k4 : w1[4]? = some (bA E m3 260 (upd ft 12 (vp_nar .byte (v >>> ((24 : Int32) &&& 31)).toInt8.toInt32))) := by rw [hw2]; exact set_eq k_1
  have kp5 := keeps_set kp0 hw2 (by first | exact rfl | decide | omega | (dsimp only; omega))
  refine x_aload_n C dX12_types_22 rfl 1 rfl rfl ?_
  refine x_aload_n C dX12_types_23 rfl 1 rfl rfl ?_
  refine x_get C (ci := 11) (k := 4) 0 k3 rfl in_X12 (by decide) w_1122 rfl dX12_types_24 rfl ?_
  refine x_iconst C (v := 1) dX12_types_27 (by decide) rfl ?_
  refine x_iadd C (v := 13) dX12_types_28 (by decide) rfl ?_
  obtain ⟨w6, hw7⟩ : ∃ w : va_W, w = List.set w1 0 (ob mm 11 [.ref m0, .ref m1, .ref m2, .ref m3, .int 13, .int 0, .int 0, .int 0, .int 0, .int 0, .int 0, .int 0, .int 0, .int 0, .ref m14, .ref m15, .ref m16, .ref m17, .ref m18, .ref m19, .ref m20, .ref m21, .ref m22, .ref m23, .ref m24, .ref m25, .ref m26, .int 0, .ref m28, .ref m29, .ref m30, .ref m31, .int 0, .int 0, .int 0, .int 0, .int 0, .int 0, .ref m38, .ref m39, .ref m40, .ref m41, .ref m42, .ref m43, .ref m44, .ref m45, .ref m46, .int 0]) := ⟨_, rfl⟩
  refine x_put C (ci := 11) (k := 4) (ty := .int) 0 k3 rfl in_X12 tyX12 tyX12_ok nmX12 (by decide) w_1122 rfl rfl rfl rfl (Nat.le_of_ble_eq_true rfl) hw7.symm dX12_types_29 rfl ?_
  have k8 : w6[0]? = some (ob mm 11 [.ref m0, .ref m1, .ref m2, .ref m3, .int 13, .int 0, .int 0, .int 0, .int 0, .int 0, .int 0, .int 0, .int 0, .int 0, .ref m14, .ref m15, .ref m16, .ref m17, .ref m18, .ref m19, .ref m20, .ref m21, .ref m22, .ref m23, .ref m24, .ref m25, .ref m26, .int 0, .ref m28, .ref m29, .ref m30, .ref m31, .int 0, .int 0, .int 0, .int 0, .int 0, .int 0, .ref m38, .ref m39, .ref m40, .ref m41, .ref m42, .ref m43, .ref m44, .ref m45, .ref m46, .int 0]) := by rw [hw7]; exact set_eq k3
  have k9 : w6[4]? = some (bA E m3 260 (upd ft 12 (vp_nar .byte (v >>> ((24 : Int32) &&& 31)).toInt8.toInt32))) := by rw [hw7]; exact set_ne k4 (by decide)
  have kp10 := keeps_set kp5 hw7 (by first | exact rfl | decide | omega | (dsimp only; omega))
  refine x_iinc C (v := 2) (lv' := [(2, .int 2), (0, .ref mm), (1, .int v)]) dX12_types_32 0 rfl (by decide) (by decide) rfl rfl ?_
  refine x_goto C (tgt := 2) dX12_types_35 (by decide) ?_
  refine x_iload_n C dX12_types_2 rfl 0 rfl rfl ?_
  refine x_if_lt C (tgt := 38) dX12_types_3 (by decide) rfl (fun h => absurd h (by decide)) (fun _ => ?_)
  refine x_aload_n C dX12_types_6 rfl 1 rfl rfl ?_
  refine x_get C (ci := 11) (k := 3) 0 k8 rfl in_X12 (by decide) w_1121 rfl dX12_types_7 rfl ?_
  refine x_aload_n C dX12_types_10 rfl 1 rfl rfl ?_
  refine x_get C (ci := 11) (k := 4) 0 k8 rfl in_X12 (by decide) w_1122 rfl dX12_types_11 rfl ?_
  refine x_iload_n C dX12_types_14 rfl 2 rfl rfl ?_
  refine x_bipush C (v := 8) dX12_types_15 (by decide) rfl ?_
  refine x_iload_n C dX12_types_17 rfl 0 rfl rfl ?_
  refine x_imul C (v := 16) dX12_types_18 (by decide) rfl ?_
  refine x_ishr C (v := (v >>> ((16 : Int32) &&& 31))) dX12_types_19 rfl rfl ?_
  refine x_i2b C (v := (v >>> ((16 : Int32) &&& 31)).toInt8.toInt32) dX12_types_20 rfl rfl ?_
  obtain ⟨w11, hw12⟩ : ∃ w : va_W, w = List.set w6 4 (bA E m3 260 (upd (upd ft 12 (vp_nar .byte (v >>> ((24 : Int32) &&& 31)).toInt8.toInt32)) 13 (vp_nar .byte (v >>> ((16 : Int32) &&& 31)).toInt8.toInt32))) := ⟨_, rfl⟩
  refine x_bask C 13 (by decide) (by decide) (by decide) 4 k9 hw12.symm dX12_types_21 rfl ?_
  have k13 : w11[0]? = some (ob mm 11 [.ref m0, .ref m1, .ref m2, .ref m3, .int 13, .int 0, .int 0, .int 0, .int 0, .int 0, .int 0, .int 0, .int 0, .int 0, .ref m14, .ref m15, .ref m16, .ref m17, .ref m18, .ref m19, .ref m20, .ref m21, .ref m22, .ref m23, .ref m24, .ref m25, .ref m26, .int 0, .ref m28, .ref m29, .ref m30, .ref m31, .int 0, .int 0, .int 0, .int 0, .int 0, .int 0, .ref m38, .ref m39, .ref m40, .ref m41, .ref m42, .ref m43, .ref m44, .ref m45, .ref m46, .int 0]) := by rw [hw12]; exact set_ne k8 (by decide)
  have k14 : w11[4]? = some (bA E m3 260 (upd (upd ft 12 (vp_nar .byte (v >>> ((24 : Int32) &&& 31)).toInt8.toInt32)) 13 (vp_nar .byte (v >>> ((16 : Int32) &&& 31)).toInt8.toInt32))) := by rw [hw12]; exact set_eq k9
  have kp15 := keeps_set kp10 hw12 (by first | exact rfl | decide | omega | (dsimp only; omega))
  refine x_aload_n C dX12_types_22 rfl 1 rfl rfl ?_
  refine x_aload_n C dX12_types_23 rfl 1 rfl rfl ?_
  refine x_get C (ci := 11) (k := 4) 0 k13 rfl in_X12 (by decide) w_1122 rfl dX12_types_24 rfl ?_
  refine x_iconst C (v := 1) dX12_types_27 (by decide) rfl ?_
  refine x_iadd C (v := 14) dX12_types_28 (by decide) rfl ?_
  obtain ⟨w16, hw17⟩ : ∃ w : va_W, w = List.set w11 0 (ob mm 11 [.ref m0, .ref m1, .ref m2, .ref m3, .int 14, .int 0, .int 0, .int 0, .int 0, .int 0, .int 0, .int 0, .int 0, .int 0, .ref m14, .ref m15, .ref m16, .ref m17, .ref m18, .ref m19, .ref m20, .ref m21, .ref m22, .ref m23, .ref m24, .ref m25, .ref m26, .int 0, .ref m28, .ref m29, .ref m30, .ref m31, .int 0, .int 0, .int 0, .int 0, .int 0, .int 0, .ref m38, .ref m39, .ref m40, .ref m41, .ref m42, .ref m43, .ref m44, .ref m45, .ref m46, .int 0]) := ⟨_, rfl⟩
  refine x_put C (ci := 11) (k := 4) (ty := .int) 0 k13 rfl in_X12 tyX12 tyX12_ok nmX12 (by decide) w_1122 rfl rfl rfl rfl (Nat.le_of_ble_eq_true rfl) hw17.symm dX12_types_29 rfl ?_
  have k18 : w16[0]? = some (ob mm 11 [.ref m0, .ref m1, .ref m2, .ref m3, .int 14, .int 0, .int 0, .int 0, .int 0, .int 0, .int 0, .int 0, .int 0, .int 0, .ref m14, .ref m15, .ref m16, .ref m17, .ref m18, .ref m19, .ref m20, .ref m21, .ref m22, .ref m23, .ref m24, .ref m25, .ref m26, .int 0, .ref m28, .ref m29, .ref m30, .ref m31, .int 0, .int 0, .int 0, .int 0, .int 0, .int 0, .ref m38, .ref m39, .ref m40, .ref m41, .ref m42, .ref m43, .ref m44, .ref m45, .ref m46, .int 0]) := by rw [hw17]; exact set_eq k13
  have k19 : w16[4]? = some (bA E m3 260 (upd (upd ft 12 (vp_nar .byte (v >>> ((24 : Int32) &&& 31)).toInt8.toInt32)) 13 (vp_nar .byte (v >>> ((16 : Int32) &&& 31)).toInt8.toInt32))) := by rw [hw17]; exact set_ne k14 (by decide)
  have kp20 := keeps_set kp15 hw17 (by first | exact rfl | decide | omega | (dsimp only; omega))
  refine x_iinc C (v := 1) (lv' := [(2, .int 1), (0, .ref mm), (1, .int v)]) dX12_types_32 0 rfl (by decide) (by decide) rfl rfl ?_
  refine x_goto C (tgt := 2) dX12_types_35 (by decide) ?_
  refine x_iload_n C dX12_types_2 rfl 0 rfl rfl ?_
  refine x_if_lt C (tgt := 38) dX12_types_3 (by decide) rfl (fun h => absurd h (by decide)) (fun _ => ?_)
  refine x_aload_n C dX12_types_6 rfl 1 rfl rfl ?_
  refine x_get C (ci := 11) (k := 3) 0 k18 rfl in_X12 (by decide) w_1121 rfl dX12_types_7 rfl ?_
  refine x_aload_n C dX12_types_10 rfl 1 rfl rfl ?_
  refine x_get C (ci := 11) (k := 4) 0 k18 rfl in_X12 (by decide) w_1122 rfl dX12_types_11 rfl ?_
  refine x_iload_n C dX12_types_14 rfl 2 rfl rfl ?_
  refine x_bipush C (v := 8) dX12_types_15 (by decide) rfl ?_
  refine x_iload_n C dX12_types_17 rfl 0 rfl rfl ?_
  refine x_imul C (v := 8) dX12_types_18 (by decide) rfl ?_
  refine x_ishr C (v := (v >>> ((8 : Int32) &&& 31))) dX12_types_19 rfl rfl ?_
  refine x_i2b C (v := (v >>> ((8 : Int32) &&& 31)).toInt8.toInt32) dX12_types_20 rfl rfl ?_
  obtain ⟨w21, hw22⟩ : ∃ w : va_W, w = List.set w16 4 (bA E m3 260 (upd (upd (upd ft 12 (vp_nar .byte (v >>> ((24 : Int32) &&& 31)).toInt8.toInt32)) 13 (vp_nar .byte (v >>> ((16 : Int32) &&& 31)).toInt8.toInt32)) 14 (vp_nar .byte (v >>> ((8 : Int32) &&& 31)).toInt8.toInt32))) := ⟨_, rfl⟩
  refine x_bask C 14 (by decide) (by decide) (by decide) 4 k19 hw22.symm dX12_types_21 rfl ?_
  have k23 : w21[0]? = some (ob mm 11 [.ref m0, .ref m1, .ref m2, .ref m3, .int 14, .int 0, .int 0, .int 0, .int 0, .int 0, .int 0, .int 0, .int 0, .int 0, .ref m14, .ref m15, .ref m16, .ref m17, .ref m18, .ref m19, .ref m20, .ref m21, .ref m22, .ref m23, .ref m24, .ref m25, .ref m26, .int 0, .ref m28, .ref m29, .ref m30, .ref m31, .int 0, .int 0, .int 0, .int 0, .int 0, .int 0, .ref m38, .ref m39, .ref m40, .ref m41, .ref m42, .ref m43, .ref m44, .ref m45, .ref m46, .int 0]) := by rw [hw22]; exact set_ne k18 (by decide)
  have k24 : w21[4]? = some (bA E m3 260 (upd (upd (upd ft 12 (vp_nar .byte (v >>> ((24 : Int32) &&& 31)).toInt8.toInt32)) 13 (vp_nar .byte (v >>> ((16 : Int32) &&& 31)).toInt8.toInt32)) 14 (vp_nar .byte (v >>> ((8 : Int32) &&& 31)).toInt8.toInt32))) := by rw [hw22]; exact set_eq k19
  have kp25 := keeps_set kp20 hw22 (by first | exact rfl | decide | omega | (dsimp only; omega))
  refine x_aload_n C dX12_types_22 rfl 1 rfl rfl ?_
  refine x_aload_n C dX12_types_23 rfl 1 rfl rfl ?_
  refine x_get C (ci := 11) (k := 4) 0 k23 rfl in_X12 (by decide) w_1122 rfl dX12_types_24 rfl ?_
  refine x_iconst C (v := 1) dX12_types_27 (by decide) rfl ?_
  refine x_iadd C (v := 15) dX12_types_28 (by decide) rfl ?_
  obtain ⟨w26, hw27⟩ : ∃ w : va_W, w = List.set w21 0 (ob mm 11 [.ref m0, .ref m1, .ref m2, .ref m3, .int 15, .int 0, .int 0, .int 0, .int 0, .int 0, .int 0, .int 0, .int 0, .int 0, .ref m14, .ref m15, .ref m16, .ref m17, .ref m18, .ref m19, .ref m20, .ref m21, .ref m22, .ref m23, .ref m24, .ref m25, .ref m26, .int 0, .ref m28, .ref m29, .ref m30, .ref m31, .int 0, .int 0, .int 0, .int 0, .int 0, .int 0, .ref m38, .ref m39, .ref m40, .ref m41, .ref m42, .ref m43, .ref m44, .ref m45, .ref m46, .int 0]) := ⟨_, rfl⟩
  refine x_put C (ci := 11) (k := 4) (ty := .int) 0 k23 rfl in_X12 tyX12 tyX12_ok nmX12 (by decide) w_1122 rfl rfl rfl rfl (Nat.le_of_ble_eq_true rfl) hw27.symm dX12_types_29 rfl ?_
  have k28 : w26[0]? = some (ob mm 11 [.ref m0, .ref m1, .ref m2, .ref m3, .int 15, .int 0, .int 0, .int 0, .int 0, .int 0, .int 0, .int 0, .int 0, .int 0, .ref m14, .ref m15, .ref m16, .ref m17, .ref m18, .ref m19, .ref m20, .ref m21, .ref m22, .ref m23, .ref m24, .ref m25, .ref m26, .int 0, .ref m28, .ref m29, .ref m30, .ref m31, .int 0, .int 0, .int 0, .int 0, .int 0, .int 0, .ref m38, .ref m39, .ref m40, .ref m41, .ref m42, .ref m43, .ref m44, .ref m45, .ref m46, .int 0]) := by rw [hw27]; exact set_eq k23
  have k29 : w26[4]? = some (bA E m3 260 (upd (upd (upd ft 12 (vp_nar .byte (v >>> ((24 : Int32) &&& 31)).toInt8.toInt32)) 13 (vp_nar .byte (v >>> ((16 : Int32) &&& 31)).toInt8.toInt32)) 14 (vp_nar .byte (v >>> ((8 : Int32) &&& 31)).toInt8.toInt32))) := by rw [hw27]; exact set_ne k24 (by decide)
  have kp30 := keeps_set kp25 hw27 (by first | exact rfl | decide | omega | (dsimp only; omega))
  refine x_iinc C (v := 0) (lv' := [(2, .int 0), (0, .ref mm), (1, .int v)]) dX12_types_32 0 rfl (by decide) (by decide) rfl rfl ?_
  refine x_goto C (tgt := 2) dX12_types_35 (by decide) ?_
  refine x_iload_n C dX12_types_2 rfl 0 rfl rfl ?_
  refine x_if_lt C (tgt := 38) dX12_types_3 (by decide) rfl (fun h => absurd h (by decide)) (fun _ => ?_)
  refine x_aload_n C dX12_types_6 rfl 1 rfl rfl ?_
  refine x_get C (ci := 11) (k := 3) 0 k28 rfl in_X12 (by decide) w_1121 rfl dX12_types_7 rfl ?_
  refine x_aload_n C dX12_types_10 rfl 1 rfl rfl ?_
  refine x_get C (ci := 11) (k := 4) 0 k28 rfl in_X12 (by decide) w_1122 rfl dX12_types_11 rfl ?_
  refine x_iload_n C dX12_types_14 rfl 2 rfl rfl ?_
  refine x_bipush C (v := 8) dX12_types_15 (by decide) rfl ?_
  refine x_iload_n C dX12_types_17 rfl 0 rfl rfl ?_
  refine x_imul C (v := 0) dX12_types_18 (by decide) rfl ?_
  refine x_ishr C (v := (v >>> ((0 : Int32) &&& 31))) dX12_types_19 rfl rfl ?_
  refine x_i2b C (v := (v >>> ((0 : Int32) &&& 31)).toInt8.toInt32) dX12_types_20 rfl rfl ?_
  obtain ⟨w31, hw32⟩ : ∃ w : va_W, w = List.set w26 4 (bA E m3 260 (upd (upd (upd (upd ft 12 (vp_nar .byte (v >>> ((24 : Int32) &&& 31)).toInt8.toInt32)) 13 (vp_nar .byte (v >>> ((16 : Int32) &&& 31)).toInt8.toInt32)) 14 (vp_nar .byte (v >>> ((8 : Int32) &&& 31)).toInt8.toInt32)) 15 (vp_nar .byte (v >>> ((0 : Int32) &&& 31)).toInt8.toInt32))) := ⟨_, rfl⟩
  refine x_bask C 15 (by decide) (by decide) (by decide) 4 k29 hw32.symm dX12_types_21 rfl ?_
  have k33 : w31[0]? = some (ob mm 11 [.ref m0, .ref m1, .ref m2, .ref m3, .int 15, .int 0, .int 0, .int 0, .int 0, .int 0, .int 0, .int 0, .int 0, .int 0, .ref m14, .ref m15, .ref m16, .ref m17, .ref m18, .ref m19, .ref m20, .ref m21, .ref m22, .ref m23, .ref m24, .ref m25, .ref m26, .int 0, .ref m28, .ref m29, .ref m30, .ref m31, .int 0, .int 0, .int 0, .int 0, .int 0, .int 0, .ref m38, .ref m39, .ref m40, .ref m41, .ref m42, .ref m43, .ref m44, .ref m45, .ref m46, .int 0]) := by rw [hw32]; exact set_ne k28 (by decide)
  have k34 : w31[4]? = some (bA E m3 260 (upd (upd (upd (upd ft 12 (vp_nar .byte (v >>> ((24 : Int32) &&& 31)).toInt8.toInt32)) 13 (vp_nar .byte (v >>> ((16 : Int32) &&& 31)).toInt8.toInt32)) 14 (vp_nar .byte (v >>> ((8 : Int32) &&& 31)).toInt8.toInt32)) 15 (vp_nar .byte (v >>> ((0 : Int32) &&& 31)).toInt8.toInt32))) := by rw [hw32]; exact set_eq k29
  have kp35 := keeps_set kp30 hw32 (by first | exact rfl | decide | omega | (dsimp only; omega))
  refine x_aload_n C dX12_types_22 rfl 1 rfl rfl ?_
  refine x_aload_n C dX12_types_23 rfl 1 rfl rfl ?_
  refine x_get C (ci := 11) (k := 4) 0 k33 rfl in_X12 (by decide) w_1122 rfl dX12_types_24 rfl ?_
  refine x_iconst C (v := 1) dX12_types_27 (by decide) rfl ?_
  refine x_iadd C (v := 16) dX12_types_28 (by decide) rfl ?_
  obtain ⟨w36, hw37⟩ : ∃ w : va_W, w = List.set w31 0 (ob mm 11 [.ref m0, .ref m1, .ref m2, .ref m3, .int 16, .int 0, .int 0, .int 0, .int 0, .int 0, .int 0, .int 0, .int 0, .int 0, .ref m14, .ref m15, .ref m16, .ref m17, .ref m18, .ref m19, .ref m20, .ref m21, .ref m22, .ref m23, .ref m24, .ref m25, .ref m26, .int 0, .ref m28, .ref m29, .ref m30, .ref m31, .int 0, .int 0, .int 0, .int 0, .int 0, .int 0, .ref m38, .ref m39, .ref m40, .ref m41, .ref m42, .ref m43, .ref m44, .ref m45, .ref m46, .int 0]) := ⟨_, rfl⟩
  refine x_put C (ci := 11) (k := 4) (ty := .int) 0 k33 rfl in_X12 tyX12 tyX12_ok nmX12 (by decide) w_1122 rfl rfl rfl rfl (Nat.le_of_ble_eq_true rfl) hw37.symm dX12_types_29 rfl ?_
  have k38 : w36[0]? = some (ob mm 11 [.ref m0, .ref m1, .ref m2, .ref m3, .int 16, .int 0, .int 0, .int 0, .int 0, .int 0, .int 0, .int 0, .int 0, .int 0, .ref m14, .ref m15, .ref m16, .ref m17, .ref m18, .ref m19, .ref m20, .ref m21, .ref m22, .ref m23, .ref m24, .ref m25, .ref m26, .int 0, .ref m28, .ref m29, .ref m30, .ref m31, .int 0, .int 0, .int 0, .int 0, .int 0, .int 0, .ref m38, .ref m39, .ref m40, .ref m41, .ref m42, .ref m43, .ref m44, .ref m45, .ref m46, .int 0]) := by rw [hw37]; exact set_eq k33
  have k39 : w36[4]? = some (bA E m3 260 (upd (upd (upd (upd ft 12 (vp_nar .byte (v >>> ((24 : Int32) &&& 31)).toInt8.toInt32)) 13 (vp_nar .byte (v >>> ((16 : Int32) &&& 31)).toInt8.toInt32)) 14 (vp_nar .byte (v >>> ((8 : Int32) &&& 31)).toInt8.toInt32)) 15 (vp_nar .byte (v >>> ((0 : Int32) &&& 31)).toInt8.toInt32))) := by rw [hw37]; exact set_ne k34 (by decide)
  have kp40 := keeps_set kp35 hw37 (by first | exact rfl | decide | omega | (dsimp only; omega))
  refine x_iinc C (v := (-1)) (lv' := [(2, .int (-1)), (0, .ref mm), (1, .int v)]) dX12_types_32 0 rfl (by decide) (by decide) rfl rfl ?_
  refine x_goto C (tgt := 2) dX12_types_35 (by decide) ?_
  refine x_iload_n C dX12_types_2 rfl 0 rfl rfl ?_
  refine x_if_lt C (tgt := 38) dX12_types_3 (by decide) rfl (fun _ => ?_) (fun h => absurd h (by decide))
  exact x_vret C hr hlk dX12_types_38 ⟨kp40, k38, ⟨_, k39⟩⟩
set_option maxRecDepth 20000 in
set_option maxHeartbeats 4000000 in
theorem e_types_16 (E : xE) (l : Launch) (ws : va_W) {mm m0 m1 m2 m3 m14 m15 m16 m17 m18 m19 m20 m21 m22 m23 m24 m25 m26 m28 m29 m30 m31 m38 m39 m40 m41 m42 m43 m44 m45 m46 : Nat} {ft : Nat → Int32} (p_0 : Nat) (k_0 : ws[0]? = some (ob mm 11 [.ref m0, .ref m1, .ref m2, .ref m3, .int 16, .int 0, .int 0, .int 0, .int 0, .int 0, .int 0, .int 0, .int 0, .int 0, .ref m14, .ref m15, .ref m16, .ref m17, .ref m18, .ref m19, .ref m20, .ref m21, .ref m22, .ref m23, .ref m24, .ref m25, .ref m26, .int 0, .ref m28, .ref m29, .ref m30, .ref m31, .int 0, .int 0, .int 0, .int 0, .int 0, .int 0, .ref m38, .ref m39, .ref m40, .ref m41, .ref m42, .ref m43, .ref m44, .ref m45, .ref m46, .int 0])) (p_1 : Nat) (k_1 : ws[4]? = some (bA E m3 260 ft)) (v : Int32) : xV E l yX12_types cX12_types 3 0 0 0 [.ref mm, .int v] ws (fun w => keeps ws w (fun q => q = 0 ∨ q = 4) ∧ w[0]? = some (ob mm 11 [.ref m0, .ref m1, .ref m2, .ref m3, .int 20, .int 0, .int 0, .int 0, .int 0, .int 0, .int 0, .int 0, .int 0, .int 0, .ref m14, .ref m15, .ref m16, .ref m17, .ref m18, .ref m19, .ref m20, .ref m21, .ref m22, .ref m23, .ref m24, .ref m25, .ref m26, .int 0, .ref m28, .ref m29, .ref m30, .ref m31, .int 0, .int 0, .int 0, .int 0, .int 0, .int 0, .ref m38, .ref m39, .ref m40, .ref m41, .ref m42, .ref m43, .ref m44, .ref m45, .ref m46, .int 0]) ∧ (∃ fg : Nat → Int32, w[4]? = some (bA E m3 260 fg))) := by
  refine xV_start (lv := [(0, .ref mm), (1, .int v)]) RX12 (by decide) rfl (Nat.le_of_ble_eq_true rfl) rfl (fun p e s m below meth c A C hr hlk hin => ?_)
  have kp0 : keeps ws ws (fun q => q = 0 ∨ q = 4) := keeps_rf
  refine x_iconst C (v := 3) dX12_types_0 (by decide) rfl ?_
  refine x_istore_n C (lv' := [(2, .int 3), (0, .ref mm), (1, .int v)]) dX12_types_1 rfl (by decide) rfl rfl ?_
  refine x_iload_n C dX12_types_2 rfl 0 rfl rfl ?_
  refine x_if_lt C (tgt := 38) dX12_types_3 (by decide) rfl (fun h => absurd h (by decide)) (fun _ => ?_)
  refine x_aload_n C dX12_types_6 rfl 1 rfl rfl ?_
  refine x_get C (ci := 11) (k := 3) 0 k_0 rfl in_X12 (by decide) w_1121 rfl dX12_types_7 rfl ?_
  refine x_aload_n C dX12_types_10 rfl 1 rfl rfl ?_
  refine x_get C (ci := 11) (k := 4) 0 k_0 rfl in_X12 (by decide) w_1122 rfl dX12_types_11 rfl ?_
  refine x_iload_n C dX12_types_14 rfl 2 rfl rfl ?_
  refine x_bipush C (v := 8) dX12_types_15 (by decide) rfl ?_
  refine x_iload_n C dX12_types_17 rfl 0 rfl rfl ?_
  refine x_imul C (v := 24) dX12_types_18 (by decide) rfl ?_
  refine x_ishr C (v := (v >>> ((24 : Int32) &&& 31))) dX12_types_19 rfl rfl ?_
  refine x_i2b C (v := (v >>> ((24 : Int32) &&& 31)).toInt8.toInt32) dX12_types_20 rfl rfl ?_
  obtain ⟨w1, hw2⟩ : ∃ w : va_W, w = List.set ws 4 (bA E m3 260 (upd ft 16 (vp_nar .byte (v >>> ((24 : Int32) &&& 31)).toInt8.toInt32))) := ⟨_, rfl⟩
  refine x_bask C 16 (by decide) (by decide) (by decide) 4 k_1 hw2.symm dX12_types_21 rfl ?_
  have k3 : w1[0]? = some (ob mm 11 [.ref m0, .ref m1, .ref m2, .ref m3, .int 16, .int 0, .int 0, .int 0, .int 0, .int 0, .int 0, .int 0, .int 0, .int 0, .ref m14, .ref m15, .ref m16, .ref m17, .ref m18, .ref m19, .ref m20, .ref m21, .ref m22, .ref m23, .ref m24, .ref m25, .ref m26, .int 0, .ref m28, .ref m29, .ref m30, .ref m31, .int 0, .int 0, .int 0, .int 0, .int 0, .int 0, .ref m38, .ref m39, .ref m40, .ref m41, .ref m42, .ref m43, .ref m44, .ref m45, .ref m46, .int 0]) := by rw [hw2]; exact set_ne k_0 (by decide)
  have k4 : w1[4]? = some (bA E m3 260 (upd ft 16 (vp_nar .byte (v >>> ((24 : Int32) &&& 31)).toInt8.toInt32))) := by rw [hw2]; exact set_eq k_1
  have kp5 := keeps_set kp0 hw2 (by first | exact rfl | decide | omega | (dsimp only; omega))
  refine x_aload_n C dX12_types_22 rfl 1 rfl rfl ?_
  refine x_aload_n C dX12_types_23 rfl 1 rfl rfl ?_
  refine x_get C (ci := 11) (k := 4) 0 k3 rfl in_X12 (by decide) w_1122 rfl dX12_types_24 rfl ?_
  refine x_iconst C (v := 1) dX12_types_27 (by decide) rfl ?_
  refine x_iadd C (v := 17) dX12_types_28 (by decide) rfl ?_
  obtain ⟨w6, hw7⟩ : ∃ w : va_W, w = List.set w1 0 (ob mm 11 [.ref m0, .ref m1, .ref m2, .ref m3, .int 17, .int 0, .int 0, .int 0, .int 0, .int 0, .int 0, .int 0, .int 0, .int 0, .ref m14, .ref m15, .ref m16, .ref m17, .ref m18, .ref m19, .ref m20, .ref m21, .ref m22, .ref m23, .ref m24, .ref m25, .ref m26, .int 0, .ref m28, .ref m29, .ref m30, .ref m31, .int 0, .int 0, .int 0, .int 0, .int 0, .int 0, .ref m38, .ref m39, .ref m40, .ref m41, .ref m42, .ref m43, .ref m44, .ref m45, .ref m46, .int 0]) := ⟨_, rfl⟩
  refine x_put C (ci := 11) (k := 4) (ty := .int) 0 k3 rfl in_X12 tyX12 tyX12_ok nmX12 (by decide) w_1122 rfl rfl rfl rfl (Nat.le_of_ble_eq_true rfl) hw7.symm dX12_types_29 rfl ?_
  have k8 : w6[0]? = some (ob mm 11 [.ref m0, .ref m1, .ref m2, .ref m3, .int 17, .int 0, .int 0, .int 0, .int 0, .int 0, .int 0, .int 0, .int 0, .int 0, .ref m14, .ref m15, .ref m16, .ref m17, .ref m18, .ref m19, .ref m20, .ref m21, .ref m22, .ref m23, .ref m24, .ref m25, .ref m26, .int 0, .ref m28, .ref m29, .ref m30, .ref m31, .int 0, .int 0, .int 0, .int 0, .int 0, .int 0, .ref m38, .ref m39, .ref m40, .ref m41, .ref m42, .ref m43, .ref m44, .ref m45, .ref m46, .int 0]) := by rw [hw7]; exact set_eq k3
  have k9 : w6[4]? = some (bA E m3 260 (upd ft 16 (vp_nar .byte (v >>> ((24 : Int32) &&& 31)).toInt8.toInt32))) := by rw [hw7]; exact set_ne k4 (by decide)
  have kp10 := keeps_set kp5 hw7 (by first | exact rfl | decide | omega | (dsimp only; omega))
  refine x_iinc C (v := 2) (lv' := [(2, .int 2), (0, .ref mm), (1, .int v)]) dX12_types_32 0 rfl (by decide) (by decide) rfl rfl ?_
  refine x_goto C (tgt := 2) dX12_types_35 (by decide) ?_
  refine x_iload_n C dX12_types_2 rfl 0 rfl rfl ?_
  refine x_if_lt C (tgt := 38) dX12_types_3 (by decide) rfl (fun h => absurd h (by decide)) (fun _ => ?_)
  refine x_aload_n C dX12_types_6 rfl 1 rfl rfl ?_
  refine x_get C (ci := 11) (k := 3) 0 k8 rfl in_X12 (by decide) w_1121 rfl dX12_types_7 rfl ?_
  refine x_aload_n C dX12_types_10 rfl 1 rfl rfl ?_
  refine x_get C (ci := 11) (k := 4) 0 k8 rfl in_X12 (by decide) w_1122 rfl dX12_types_11 rfl ?_
  refine x_iload_n C dX12_types_14 rfl 2 rfl rfl ?_
  refine x_bipush C (v := 8) dX12_types_15 (by decide) rfl ?_
  refine x_iload_n C dX12_types_17 rfl 0 rfl rfl ?_
  refine x_imul C (v := 16) dX12_types_18 (by decide) rfl ?_
  refine x_ishr C (v := (v >>> ((16 : Int32) &&& 31))) dX12_types_19 rfl rfl ?_
  refine x_i2b C (v := (v >>> ((16 : Int32) &&& 31)).toInt8.toInt32) dX12_types_20 rfl rfl ?_
  obtain ⟨w11, hw12⟩ : ∃ w : va_W, w = List.set w6 4 (bA E m3 260 (upd (upd ft 16 (vp_nar .byte (v >>> ((24 : Int32) &&& 31)).toInt8.toInt32)) 17 (vp_nar .byte (v >>> ((16 : Int32) &&& 31)).toInt8.toInt32))) := ⟨_, rfl⟩
  refine x_bask C 17 (by decide) (by decide) (by decide) 4 k9 hw12.symm dX12_types_21 rfl ?_
  have k13 : w11[0]? = some (ob mm 11 [.ref m0, .ref m1, .ref m2, .ref m3, .int 17, .int 0, .int 0, .int 0, .int 0, .int 0, .int 0, .int 0, .int 0, .int 0, .ref m14, .ref m15, .ref m16, .ref m17, .ref m18, .ref m19, .ref m20, .ref m21, .ref m22, .ref m23, .ref m24, .ref m25, .ref m26, .int 0, .ref m28, .ref m29, .ref m30, .ref m31, .int 0, .int 0, .int 0, .int 0, .int 0, .int 0, .ref m38, .ref m39, .ref m40, .ref m41, .ref m42, .ref m43, .ref m44, .ref m45, .ref m46, .int 0]) := by rw [hw12]; exact set_ne k8 (by decide)
  have k14 : w11[4]? = some (bA E m3 260 (upd (upd ft 16 (vp_nar .byte (v >>> ((24 : Int32) &&& 31)).toInt8.toInt32)) 17 (vp_nar .byte (v >>> ((16 : Int32) &&& 31)).toInt8.toInt32))) := by rw [hw12]; exact set_eq k9
  have kp15 := keeps_set kp10 hw12 (by first | exact rfl | decide | omega | (dsimp only; omega))
  refine x_aload_n C dX12_types_22 rfl 1 rfl rfl ?_
  refine x_aload_n C dX12_types_23 rfl 1 rfl rfl ?_
  refine x_get C (ci := 11) (k := 4) 0 k13 rfl in_X12 (by decide) w_1122 rfl dX12_types_24 rfl ?_
  refine x_iconst C (v := 1) dX12_types_27 (by decide) rfl ?_
  refine x_iadd C (v := 18) dX12_types_28 (by decide) rfl ?_
  obtain ⟨w16, hw17⟩ : ∃ w : va_W, w = List.set w11 0 (ob mm 11 [.ref m0, .ref m1, .ref m2, .ref m3, .int 18, .int 0, .int 0, .int 0, .int 0, .int 0, .int 0, .int 0, .int 0, .int 0, .ref m14, .ref m15, .ref m16, .ref m17, .ref m18, .ref m19, .ref m20, .ref m21, .ref m22, .ref m23, .ref m24, .ref m25, .ref m26, .int 0, .ref m28, .ref m29, .ref m30, .ref m31, .int 0, .int 0, .int 0, .int 0, .int 0, .int 0, .ref m38, .ref m39, .ref m40, .ref m41, .ref m42, .ref m43, .ref m44, .ref m45, .ref m46, .int 0]) := ⟨_, rfl⟩
  refine x_put C (ci := 11) (k := 4) (ty := .int) 0 k13 rfl in_X12 tyX12 tyX12_ok nmX12 (by decide) w_1122 rfl rfl rfl rfl (Nat.le_of_ble_eq_true rfl) hw17.symm dX12_types_29 rfl ?_
  have k18 : w16[0]? = some (ob mm 11 [.ref m0, .ref m1, .ref m2, .ref m3, .int 18, .int 0, .int 0, .int 0, .int 0, .int 0, .int 0, .int 0, .int 0, .int 0, .ref m14, .ref m15, .ref m16, .ref m17, .ref m18, .ref m19, .ref m20, .ref m21, .ref m22, .ref m23, .ref m24, .ref m25, .ref m26, .int 0, .ref m28, .ref m29, .ref m30, .ref m31, .int 0, .int 0, .int 0, .int 0, .int 0, .int 0, .ref m38, .ref m39, .ref m40, .ref m41, .ref m42, .ref m43, .ref m44, .ref m45, .ref m46, .int 0]) := by rw [hw17]; exact set_eq k13
  have k19 : w16[4]? = some (bA E m3 260 (upd (upd ft 16 (vp_nar .byte (v >>> ((24 : Int32) &&& 31)).toInt8.toInt32)) 17 (vp_nar .byte (v >>> ((16 : Int32) &&& 31)).toInt8.toInt32))) := by rw [hw17]; exact set_ne k14 (by decide)
  have kp20 := keeps_set kp15 hw17 (by first | exact rfl | decide | omega | (dsimp only; omega))
  refine x_iinc C (v := 1) (lv' := [(2, .int 1), (0, .ref mm), (1, .int v)]) dX12_types_32 0 rfl (by decide) (by decide) rfl rfl ?_
  refine x_goto C (tgt := 2) dX12_types_35 (by decide) ?_
  refine x_iload_n C dX12_types_2 rfl 0 rfl rfl ?_
  refine x_if_lt C (tgt := 38) dX12_types_3 (by decide) rfl (fun h => absurd h (by decide)) (fun _ => ?_)
  refine x_aload_n C dX12_types_6 rfl 1 rfl rfl ?_
  refine x_get C (ci := 11) (k := 3) 0 k18 rfl in_X12 (by decide) w_1121 rfl dX12_types_7 rfl ?_
  refine x_aload_n C dX12_types_10 rfl 1 rfl rfl ?_
  refine x_get C (ci := 11) (k := 4) 0 k18 rfl in_X12 (by decide) w_1122 rfl dX12_types_11 rfl ?_
  refine x_iload_n C dX12_types_14 rfl 2 rfl rfl ?_
  refine x_bipush C (v := 8) dX12_types_15 (by decide) rfl ?_
  refine x_iload_n C dX12_types_17 rfl 0 rfl rfl ?_
  refine x_imul C (v := 8) dX12_types_18 (by decide) rfl ?_
  refine x_ishr C (v := (v >>> ((8 : Int32) &&& 31))) dX12_types_19 rfl rfl ?_
  refine x_i2b C (v := (v >>> ((8 : Int32) &&& 31)).toInt8.toInt32) dX12_types_20 rfl rfl ?_
  obtain ⟨w21, hw22⟩ : ∃ w : va_W, w = List.set w16 4 (bA E m3 260 (upd (upd (upd ft 16 (vp_nar .byte (v >>> ((24 : Int32) &&& 31)).toInt8.toInt32)) 17 (vp_nar .byte (v >>> ((16 : Int32) &&& 31)).toInt8.toInt32)) 18 (vp_nar .byte (v >>> ((8 : Int32) &&& 31)).toInt8.toInt32))) := ⟨_, rfl⟩
  refine x_bask C 18 (by decide) (by decide) (by decide) 4 k19 hw22.symm dX12_types_21 rfl ?_
  have k23 : w21[0]? = some (ob mm 11 [.ref m0, .ref m1, .ref m2, .ref m3, .int 18, .int 0, .int 0, .int 0, .int 0, .int 0, .int 0, .int 0, .int 0, .int 0, .ref m14, .ref m15, .ref m16, .ref m17, .ref m18, .ref m19, .ref m20, .ref m21, .ref m22, .ref m23, .ref m24, .ref m25, .ref m26, .int 0, .ref m28, .ref m29, .ref m30, .ref m31, .int 0, .int 0, .int 0, .int 0, .int 0, .int 0, .ref m38, .ref m39, .ref m40, .ref m41, .ref m42, .ref m43, .ref m44, .ref m45, .ref m46, .int 0]) := by rw [hw22]; exact set_ne k18 (by decide)
  have k24 : w21[4]? = some (bA E m3 260 (upd (upd (upd ft 16 (vp_nar .byte (v >>> ((24 : Int32) &&& 31)).toInt8.toInt32)) 17 (vp_nar .byte (v >>> ((16 : Int32) &&& 31)).toInt8.toInt32)) 18 (vp_nar .byte (v >>> ((8 : Int32) &&& 31)).toInt8.toInt32))) := by rw [hw22]; exact set_eq k19
  have kp25 := keeps_set kp20 hw22 (by first | exact rfl | decide | omega | (dsimp only; omega))
  refine x_aload_n C dX12_types_22 rfl 1 rfl rfl ?_
  refine x_aload_n C dX12_types_23 rfl 1 rfl rfl ?_
  refine x_get C (ci := 11) (k := 4) 0 k23 rfl in_X12 (by decide) w_1122 rfl dX12_types_24 rfl ?_
  refine x_iconst C (v := 1) dX12_types_27 (by decide) rfl ?_
  refine x_iadd C (v := 19) dX12_types_28 (by decide) rfl ?_
  obtain ⟨w26, hw27⟩ : ∃ w : va_W, w = List.set w21 0 (ob mm 11 [.ref m0, .ref m1, .ref m2, .ref m3, .int 19, .int 0, .int 0, .int 0, .int 0, .int 0, .int 0, .int 0, .int 0, .int 0, .ref m14, .ref m15, .ref m16, .ref m17, .ref m18, .ref m19, .ref m20, .ref m21, .ref m22, .ref m23, .ref m24, .ref m25, .ref m26, .int 0, .ref m28, .ref m29, .ref m30, .ref m31, .int 0, .int 0, .int 0, .int 0, .int 0, .int 0, .ref m38, .ref m39, .ref m40, .ref m41, .ref m42, .ref m43, .ref m44, .ref m45, .ref m46, .int 0]) := ⟨_, rfl⟩
  refine x_put C (ci := 11) (k := 4) (ty := .int) 0 k23 rfl in_X12 tyX12 tyX12_ok nmX12 (by decide) w_1122 rfl rfl rfl rfl (Nat.le_of_ble_eq_true rfl) hw27.symm dX12_types_29 rfl ?_
  have k28 : w26[0]? = some (ob mm 11 [.ref m0, .ref m1, .ref m2, .ref m3, .int 19, .int 0, .int 0, .int 0, .int 0, .int 0, .int 0, .int 0, .int 0, .int 0, .ref m14, .ref m15, .ref m16, .ref m17, .ref m18, .ref m19, .ref m20, .ref m21, .ref m22, .ref m23, .ref m24, .ref m25, .ref m26, .int 0, .ref m28, .ref m29, .ref m30, .ref m31, .int 0, .int 0, .int 0, .int 0, .int 0, .int 0, .ref m38, .ref m39, .ref m40, .ref m41, .ref m42, .ref m43, .ref m44, .ref m45, .ref m46, .int 0]) := by rw [hw27]; exact set_eq k23
  have k29 : w26[4]? = some (bA E m3 260 (upd (upd (upd ft 16 (vp_nar .byte (v >>> ((24 : Int32) &&& 31)).toInt8.toInt32)) 17 (vp_nar .byte (v >>> ((16 : Int32) &&& 31)).toInt8.toInt32)) 18 (vp_nar .byte (v >>> ((8 : Int32) &&& 31)).toInt8.toInt32))) := by rw [hw27]; exact set_ne k24 (by decide)
  have kp30 := keeps_set kp25 hw27 (by first | exact rfl | decide | omega | (dsimp only; omega))
  refine x_iinc C (v := 0) (lv' := [(2, .int 0), (0, .ref mm), (1, .int v)]) dX12_types_32 0 rfl (by decide) (by decide) rfl rfl ?_
  refine x_goto C (tgt := 2) dX12_types_35 (by decide) ?_
  refine x_iload_n C dX12_types_2 rfl 0 rfl rfl ?_
  refine x_if_lt C (tgt := 38) dX12_types_3 (by decide) rfl (fun h => absurd h (by decide)) (fun _ => ?_)
  refine x_aload_n C dX12_types_6 rfl 1 rfl rfl ?_
  refine x_get C (ci := 11) (k := 3) 0 k28 rfl in_X12 (by decide) w_1121 rfl dX12_types_7 rfl ?_
  refine x_aload_n C dX12_types_10 rfl 1 rfl rfl ?_
  refine x_get C (ci := 11) (k := 4) 0 k28 rfl in_X12 (by decide) w_1122 rfl dX12_types_11 rfl ?_
  refine x_iload_n C dX12_types_14 rfl 2 rfl rfl ?_
  refine x_bipush C (v := 8) dX12_types_15 (by decide) rfl ?_
  refine x_iload_n C dX12_types_17 rfl 0 rfl rfl ?_
  refine x_imul C (v := 0) dX12_types_18 (by decide) rfl ?_
  refine x_ishr C (v := (v >>> ((0 : Int32) &&& 31))) dX12_types_19 rfl rfl ?_
  refine x_i2b C (v := (v >>> ((0 : Int32) &&& 31)).toInt8.toInt32) dX12_types_20 rfl rfl ?_
  obtain ⟨w31, hw32⟩ : ∃ w : va_W, w = List.set w26 4 (bA E m3 260 (upd (upd (upd (upd ft 16 (vp_nar .byte (v >>> ((24 : Int32) &&& 31)).toInt8.toInt32)) 17 (vp_nar .byte (v >>> ((16 : Int32) &&& 31)).toInt8.toInt32)) 18 (vp_nar .byte (v >>> ((8 : Int32) &&& 31)).toInt8.toInt32)) 19 (vp_nar .byte (v >>> ((0 : Int32) &&& 31)).toInt8.toInt32))) := ⟨_, rfl⟩
  refine x_bask C 19 (by decide) (by decide) (by decide) 4 k29 hw32.symm dX12_types_21 rfl ?_
  have k33 : w31[0]? = some (ob mm 11 [.ref m0, .ref m1, .ref m2, .ref m3, .int 19, .int 0, .int 0, .int 0, .int 0, .int 0, .int 0, .int 0, .int 0, .int 0, .ref m14, .ref m15, .ref m16, .ref m17, .ref m18, .ref m19, .ref m20, .ref m21, .ref m22, .ref m23, .ref m24, .ref m25, .ref m26, .int 0, .ref m28, .ref m29, .ref m30, .ref m31, .int 0, .int 0, .int 0, .int 0, .int 0, .int 0, .ref m38, .ref m39, .ref m40, .ref m41, .ref m42, .ref m43, .ref m44, .ref m45, .ref m46, .int 0]) := by rw [hw32]; exact set_ne k28 (by decide)
  have k34 : w31[4]? = some (bA E m3 260 (upd (upd (upd (upd ft 16 (vp_nar .byte (v >>> ((24 : Int32) &&& 31)).toInt8.toInt32)) 17 (vp_nar .byte (v >>> ((16 : Int32) &&& 31)).toInt8.toInt32)) 18 (vp_nar .byte (v >>> ((8 : Int32) &&& 31)).toInt8.toInt32)) 19 (vp_nar .byte (v >>> ((0 : Int32) &&& 31)).toInt8.toInt32))) := by rw [hw32]; exact set_eq k29
  have kp35 := keeps_set kp30 hw32 (by first | exact rfl | decide | omega | (dsimp only; omega))
  refine x_aload_n C dX12_types_22 rfl 1 rfl rfl ?_
  refine x_aload_n C dX12_types_23 rfl 1 rfl rfl ?_
  refine x_get C (ci := 11) (k := 4) 0 k33 rfl in_X12 (by decide) w_1122 rfl dX12_types_24 rfl ?_
  refine x_iconst C (v := 1) dX12_types_27 (by decide) rfl ?_
  refine x_iadd C (v := 20) dX12_types_28 (by decide) rfl ?_
  obtain ⟨w36, hw37⟩ : ∃ w : va_W, w = List.set w31 0 (ob mm 11 [.ref m0, .ref m1, .ref m2, .ref m3, .int 20, .int 0, .int 0, .int 0, .int 0, .int 0, .int 0, .int 0, .int 0, .int 0, .ref m14, .ref m15, .ref m16, .ref m17, .ref m18, .ref m19, .ref m20, .ref m21, .ref m22, .ref m23, .ref m24, .ref m25, .ref m26, .int 0, .ref m28, .ref m29, .ref m30, .ref m31, .int 0, .int 0, .int 0, .int 0, .int 0, .int 0, .ref m38, .ref m39, .ref m40, .ref m41, .ref m42, .ref m43, .ref m44, .ref m45, .ref m46, .int 0]) := ⟨_, rfl⟩
  refine x_put C (ci := 11) (k := 4) (ty := .int) 0 k33 rfl in_X12 tyX12 tyX12_ok nmX12 (by decide) w_1122 rfl rfl rfl rfl (Nat.le_of_ble_eq_true rfl) hw37.symm dX12_types_29 rfl ?_
  have k38 : w36[0]? = some (ob mm 11 [.ref m0, .ref m1, .ref m2, .ref m3, .int 20, .int 0, .int 0, .int 0, .int 0, .int 0, .int 0, .int 0, .int 0, .int 0, .ref m14, .ref m15, .ref m16, .ref m17, .ref m18, .ref m19, .ref m20, .ref m21, .ref m22, .ref m23, .ref m24, .ref m25, .ref m26, .int 0, .ref m28, .ref m29, .ref m30, .ref m31, .int 0, .int 0, .int 0, .int 0, .int 0, .int 0, .ref m38, .ref m39, .ref m40, .ref m41, .ref m42, .ref m43, .ref m44, .ref m45, .ref m46, .int 0]) := by rw [hw37]; exact set_eq k33
  have k39 : w36[4]? = some (bA E m3 260 (upd (upd (upd (upd ft 16 (vp_nar .byte (v >>> ((24 : Int32) &&& 31)).toInt8.toInt32)) 17 (vp_nar .byte (v >>> ((16 : Int32) &&& 31)).toInt8.toInt32)) 18 (vp_nar .byte (v >>> ((8 : Int32) &&& 31)).toInt8.toInt32)) 19 (vp_nar .byte (v >>> ((0 : Int32) &&& 31)).toInt8.toInt32))) := by rw [hw37]; exact set_ne k34 (by decide)
  have kp40 := keeps_set kp35 hw37 (by first | exact rfl | decide | omega | (dsimp only; omega))
  refine x_iinc C (v := (-1)) (lv' := [(2, .int (-1)), (0, .ref mm), (1, .int v)]) dX12_types_32 0 rfl (by decide) (by decide) rfl rfl ?_
  refine x_goto C (tgt := 2) dX12_types_35 (by decide) ?_
  refine x_iload_n C dX12_types_2 rfl 0 rfl rfl ?_
  refine x_if_lt C (tgt := 38) dX12_types_3 (by decide) rfl (fun _ => ?_) (fun h => absurd h (by decide))
  exact x_vret C hr hlk dX12_types_38 ⟨kp40, k38, ⟨_, k39⟩⟩
theorem dX12_feed_0 : decode cX12_feed 0 = .ok (.aload_n 0, 1) := by decide +kernel
theorem dX12_feed_1 : decode cX12_feed 1 = .ok (.getfield 123, 3) := by decide +kernel
theorem dX12_feed_4 : decode cX12_feed 4 = .ok (.bipush 20, 2) := by decide +kernel
theorem dX12_feed_6 : decode cX12_feed 6 = .ok (.iadd, 1) := by decide +kernel
theorem dX12_feed_7 : decode cX12_feed 7 = .ok (.sipush 260, 3) := by decide +kernel
theorem dX12_feed_10 : decode cX12_feed 10 = .ok (.if_icmp .le 5, 3) := by decide +kernel
theorem dX12_feed_15 : decode cX12_feed 15 = .ok (.aload_n 0, 1) := by decide +kernel
theorem dX12_feed_16 : decode cX12_feed 16 = .ok (.iload_n 1, 1) := by decide +kernel
theorem dX12_feed_17 : decode cX12_feed 17 = .ok (.invokevirtual 127, 3) := by decide +kernel
theorem dX12_feed_20 : decode cX12_feed 20 = .ok (.aload_n 0, 1) := by decide +kernel
theorem dX12_feed_21 : decode cX12_feed 21 = .ok (.iload_n 2, 1) := by decide +kernel
theorem dX12_feed_22 : decode cX12_feed 22 = .ok (.invokevirtual 127, 3) := by decide +kernel
theorem dX12_feed_25 : decode cX12_feed 25 = .ok (.aload_n 0, 1) := by decide +kernel
theorem dX12_feed_26 : decode cX12_feed 26 = .ok (.iload_n 3, 1) := by decide +kernel
theorem dX12_feed_27 : decode cX12_feed 27 = .ok (.invokevirtual 127, 3) := by decide +kernel
theorem dX12_feed_30 : decode cX12_feed 30 = .ok (.aload_n 0, 1) := by decide +kernel
theorem dX12_feed_31 : decode cX12_feed 31 = .ok (.iload 4, 2) := by decide +kernel
theorem dX12_feed_33 : decode cX12_feed 33 = .ok (.invokevirtual 127, 3) := by decide +kernel
theorem dX12_feed_36 : decode cX12_feed 36 = .ok (.aload_n 0, 1) := by decide +kernel
theorem dX12_feed_37 : decode cX12_feed 37 = .ok (.iload 5, 2) := by decide +kernel
theorem dX12_feed_39 : decode cX12_feed 39 = .ok (.invokevirtual 127, 3) := by decide +kernel
theorem dX12_feed_42 : decode cX12_feed 42 = .ok (.aload_n 0, 1) := by decide +kernel
theorem dX12_feed_43 : decode cX12_feed 43 = .ok (.getfield 123, 3) := by decide +kernel
theorem dX12_feed_46 : decode cX12_feed 46 = .ok (.ireturn, 1) := by decide +kernel
set_option maxRecDepth 20000 in
set_option maxHeartbeats 4000000 in
theorem e_feed (E : xE) (l : Launch) (ws : va_W) {mm m0 m1 m2 m3 m14 m15 m16 m17 m18 m19 m20 m21 m22 m23 m24 m25 m26 m28 m29 m30 m31 m38 m39 m40 m41 m42 m43 m44 m45 m46 : Nat} {ft : Nat → Int32} (p_0 : Nat) (k_0 : ws[0]? = some (ob mm 11 [.ref m0, .ref m1, .ref m2, .ref m3, .int 0, .int 0, .int 0, .int 0, .int 0, .int 0, .int 0, .int 0, .int 0, .int 0, .ref m14, .ref m15, .ref m16, .ref m17, .ref m18, .ref m19, .ref m20, .ref m21, .ref m22, .ref m23, .ref m24, .ref m25, .ref m26, .int 0, .ref m28, .ref m29, .ref m30, .ref m31, .int 0, .int 0, .int 0, .int 0, .int 0, .int 0, .ref m38, .ref m39, .ref m40, .ref m41, .ref m42, .ref m43, .ref m44, .ref m45, .ref m46, .int 0])) (p_1 : Nat) (k_1 : ws[4]? = some (bA E m3 260 ft)) (a b c0 d e0 : Int32) : xI E l yX12_feed cX12_feed 6 (some .int) 1 [.ref mm, .int a, .int b, .int c0, .int d, .int e0] ws (fun r w => r = 20) := by
  refine xI_start (lv := [(0, .ref mm), (1, .int a), (2, .int b), (3, .int c0), (4, .int d), (5, .int e0)]) RX12 (by decide) rfl (Nat.le_of_ble_eq_true rfl) rfl (fun p e s m below meth c A C hr hlk => ?_)
  refine x_aload_n C dX12_feed_0 rfl 0 rfl rfl ?_
  refine x_get C (ci := 11) (k := 4) 0 k_0 rfl in_X12 (by decide) w_1122 rfl dX12_feed_1 rfl ?_
  refine x_bipush C (v := 20) dX12_feed_4 (by decide) rfl ?_
  refine x_iadd C (v := 20) dX12_feed_6 (by decide) rfl ?_
  refine x_sipush C (v := 260) dX12_feed_7 (by decide) rfl ?_
  refine x_icmp_le C (tgt := 15) dX12_feed_10 (by decide) rfl (fun _ => ?_) (fun h => absurd h (by decide))
  refine x_aload_n C dX12_feed_15 rfl 0 rfl rfl ?_
  refine x_iload_n C dX12_feed_16 rfl 1 rfl rfl ?_
  refine x_vv C (As := [.int a]) (rest := []) (e_types_0 E l ws 0 k_0 4 k_1 a) mf_X12_types w_1305 0 k_0 rfl rfl rfl (Nat.le_of_ble_eq_true rfl) ⟨(Nat.le_of_ble_eq_true rfl), (Nat.le_of_ble_eq_true rfl)⟩ ⟨(Nat.le_of_ble_eq_true rfl), (Nat.le_of_ble_eq_true rfl)⟩ dX12_feed_17 rfl (fun w3 h1 => ?_)
  obtain ⟨g4, g5, ⟨fx8, g6⟩⟩ := h1
  refine x_aload_n C dX12_feed_20 rfl 0 rfl rfl ?_
  refine x_iload_n C dX12_feed_21 rfl 2 rfl rfl ?_
  refine x_vv C (As := [.int b]) (rest := []) (e_types_4 E l w3 0 g5 4 g6 b) mf_X12_types w_1305 0 g5 rfl rfl rfl (Nat.le_of_ble_eq_true rfl) ⟨(Nat.le_of_ble_eq_true rfl), (Nat.le_of_ble_eq_true rfl)⟩ ⟨(Nat.le_of_ble_eq_true rfl), (Nat.le_of_ble_eq_true rfl)⟩ dX12_feed_22 rfl (fun w11 h9 => ?_)
  obtain ⟨g12, g13, ⟨fx16, g14⟩⟩ := h9
  refine x_aload_n C dX12_feed_25 rfl 0 rfl rfl ?_
  refine x_iload_n C dX12_feed_26 rfl 3 rfl rfl ?_
  refine x_vv C (As := [.int c0]) (rest := []) (e_types_8 E l w11 0 g13 4 g14 c0) mf_X12_types w_1305 0 g13 rfl rfl rfl (Nat.le_of_ble_eq_true rfl) ⟨(Nat.le_of_ble_eq_true rfl), (Nat.le_of_ble_eq_true rfl)⟩ ⟨(Nat.le_of_ble_eq_true rfl), (Nat.le_of_ble_eq_true rfl)⟩ dX12_feed_27 rfl (fun w19 h17 => ?_)
  obtain ⟨g20, g21, ⟨fx24, g22⟩⟩ := h17
  refine x_aload_n C dX12_feed_30 rfl 0 rfl rfl ?_
  refine x_iload C dX12_feed_31 4 rfl rfl ?_
  refine x_vv C (As := [.int d]) (rest := []) (e_types_12 E l w19 0 g21 4 g22 d) mf_X12_types w_1305 0 g21 rfl rfl rfl (Nat.le_of_ble_eq_true rfl) ⟨(Nat.le_of_ble_eq_true rfl), (Nat.le_of_ble_eq_true rfl)⟩ ⟨(Nat.le_of_ble_eq_true rfl), (Nat.le_of_ble_eq_true rfl)⟩ dX12_feed_33 rfl (fun w27 h25 => ?_)
  obtain ⟨g28, g29, ⟨fx32, g30⟩⟩ := h25
  refine x_aload_n C dX12_feed_36 rfl 0 rfl rfl ?_
  refine x_iload C dX12_feed_37 5 rfl rfl ?_
  refine x_vv C (As := [.int e0]) (rest := []) (e_types_16 E l w27 0 g29 4 g30 e0) mf_X12_types w_1305 0 g29 rfl rfl rfl (Nat.le_of_ble_eq_true rfl) ⟨(Nat.le_of_ble_eq_true rfl), (Nat.le_of_ble_eq_true rfl)⟩ ⟨(Nat.le_of_ble_eq_true rfl), (Nat.le_of_ble_eq_true rfl)⟩ dX12_feed_39 rfl (fun w35 h33 => ?_)
  obtain ⟨g36, g37, ⟨fx40, g38⟩⟩ := h33
  refine x_aload_n C dX12_feed_42 rfl 0 rfl rfl ?_
  refine x_get C (ci := 11) (k := 4) 0 g37 rfl in_X12 (by decide) w_1122 rfl dX12_feed_43 rfl ?_
  exact x_zret C hr hlk rfl dX12_feed_46 (by first | rfl | trivial | (simp [bI]; done) | (simp_all [bI]; done))
theorem dX12_law_0 : decode cX12_law 0 = .ok (.iload_n 1, 1) := by decide +kernel
theorem dX12_law_1 : decode cX12_law 1 = .ok (.iconst 1, 1) := by decide +kernel
theorem dX12_law_2 : decode cX12_law 2 = .ok (.sipush 240, 3) := by decide +kernel
theorem dX12_law_5 : decode cX12_law 5 = .ok (.invokestatic 109, 3) := by decide +kernel
theorem dX12_law_8 : decode cX12_law 8 = .ok (.ifCond .eq 11, 3) := by decide +kernel
theorem dX12_law_11 : decode cX12_law 11 = .ok (.iload_n 1, 1) := by decide +kernel
theorem dX12_law_12 : decode cX12_law 12 = .ok (.aload_n 0, 1) := by decide +kernel
theorem dX12_law_13 : decode cX12_law 13 = .ok (.getfield 123, 3) := by decide +kernel
theorem dX12_law_16 : decode cX12_law 16 = .ok (.if_icmp .le 5, 3) := by decide +kernel
theorem dX12_law_19 : decode cX12_law 19 = .ok (.iconst (-1), 1) := by decide +kernel
theorem dX12_law_20 : decode cX12_law 20 = .ok (.ireturn, 1) := by decide +kernel
set_option maxRecDepth 20000 in
set_option maxHeartbeats 4000000 in
theorem e_law (E : xE) (l : Launch) (ws : va_W) {mm m0 m1 m2 m3 m14 m15 m16 m17 m18 m19 m20 m21 m22 m23 m24 m25 m26 m28 m29 m30 m31 m38 m39 m40 m41 m42 m43 m44 m45 m46 : Nat} (p_0 : Nat) (k_0 : ws[0]? = some (ob mm 11 [.ref m0, .ref m1, .ref m2, .ref m3, .int 0, .int 0, .int 0, .int 0, .int 0, .int 0, .int 0, .int 0, .int 0, .int 0, .ref m14, .ref m15, .ref m16, .ref m17, .ref m18, .ref m19, .ref m20, .ref m21, .ref m22, .ref m23, .ref m24, .ref m25, .ref m26, .int 0, .ref m28, .ref m29, .ref m30, .ref m31, .int 0, .int 0, .int 0, .int 0, .int 0, .int 0, .ref m38, .ref m39, .ref m40, .ref m41, .ref m42, .ref m43, .ref m44, .ref m45, .ref m46, .int 0])) (n : Int32) : xI E l yX12_law cX12_law 4 (some .int) 1 [.ref mm, .int n] ws (fun r w => r = -1) := by
  refine xI_start (lv := [(0, .ref mm), (1, .int n)]) RX12 (by decide) rfl (Nat.le_of_ble_eq_true rfl) rfl (fun p e s m below meth c A C hr hlk => ?_)
  refine x_iload_n C dX12_law_0 rfl 1 rfl rfl ?_
  refine x_iconst C (v := 1) dX12_law_1 (by decide) rfl ?_
  refine x_sipush C (v := 240) dX12_law_2 (by decide) rfl ?_
  refine x_si C (As := [.int n, .int 1, .int 240]) (rest := []) (e_in E l ws n 1 240) mf_X12_in w_1267 rfl rfl (Nat.le_of_ble_eq_true rfl) ⟨(Nat.le_of_ble_eq_true rfl), (Nat.le_of_ble_eq_true rfl)⟩ ⟨(Nat.le_of_ble_eq_true rfl), (Nat.le_of_ble_eq_true rfl)⟩ dX12_law_5 rfl (fun r2 w3 h1 => ?_)
  obtain ⟨e4, g5⟩ := h1
  refine x_top e4 ?_
  refine x_ws g5 ?_
  refine x_if_eq C (tgt := 19) dX12_law_8 (by decide) rfl (fun c6 => ?_) (fun c6 => ?_)
  · skip
    have b7 := bI_e0 c6
    refine x_iconst C (v := (-1)) dX12_law_19 (by decide) rfl ?_
    exact x_zret C hr hlk rfl dX12_law_20 (by first | rfl | trivial | (simp [bI, b7]; done) | (simp_all [bI]; done))
  · skip
    have b8 := bI_n0 c6
    refine x_iload_n C dX12_law_11 rfl 1 rfl rfl ?_
    refine x_aload_n C dX12_law_12 rfl 0 rfl rfl ?_
    refine x_get C (ci := 11) (k := 4) 0 k_0 rfl in_X12 (by decide) w_1122 rfl dX12_law_13 rfl ?_
    refine x_icmp_le C (tgt := 21) dX12_law_16 (by decide) rfl (fun h => absurd h (not_le0 (lo := 1) (by decide) b8.1)) (fun _ => ?_)
    refine x_iconst C (v := (-1)) dX12_law_19 (by decide) rfl ?_
    exact x_zret C hr hlk rfl dX12_law_20 (by first | rfl | trivial | (simp [bI, b8]; done) | (simp_all [bI]; done))
theorem dX12_acts_0 : decode cX12_acts 0 = .ok (.iload_n 1, 1) := by decide +kernel
theorem dX12_acts_1 : decode cX12_acts 1 = .ok (.iconst 1, 1) := by decide +kernel
theorem dX12_acts_2 : decode cX12_acts 2 = .ok (.sipush 140, 3) := by decide +kernel
theorem dX12_acts_5 : decode cX12_acts 5 = .ok (.invokestatic 109, 3) := by decide +kernel
theorem dX12_acts_8 : decode cX12_acts 8 = .ok (.ifCond .eq 11, 3) := by decide +kernel
theorem dX12_acts_11 : decode cX12_acts 11 = .ok (.iload_n 1, 1) := by decide +kernel
theorem dX12_acts_12 : decode cX12_acts 12 = .ok (.aload_n 0, 1) := by decide +kernel
theorem dX12_acts_13 : decode cX12_acts 13 = .ok (.getfield 123, 3) := by decide +kernel
theorem dX12_acts_16 : decode cX12_acts 16 = .ok (.if_icmp .le 5, 3) := by decide +kernel
theorem dX12_acts_19 : decode cX12_acts 19 = .ok (.iconst (-1), 1) := by decide +kernel
theorem dX12_acts_20 : decode cX12_acts 20 = .ok (.ireturn, 1) := by decide +kernel
set_option maxRecDepth 20000 in
set_option maxHeartbeats 4000000 in
theorem e_acts (E : xE) (l : Launch) (ws : va_W) {mm m0 m1 m2 m3 m14 m15 m16 m17 m18 m19 m20 m21 m22 m23 m24 m25 m26 m28 m29 m30 m31 m38 m39 m40 m41 m42 m43 m44 m45 m46 : Nat} (p_0 : Nat) (k_0 : ws[0]? = some (ob mm 11 [.ref m0, .ref m1, .ref m2, .ref m3, .int 0, .int 0, .int 0, .int 0, .int 0, .int 0, .int 0, .int 0, .int 0, .int 0, .ref m14, .ref m15, .ref m16, .ref m17, .ref m18, .ref m19, .ref m20, .ref m21, .ref m22, .ref m23, .ref m24, .ref m25, .ref m26, .int 0, .ref m28, .ref m29, .ref m30, .ref m31, .int 0, .int 0, .int 0, .int 0, .int 0, .int 0, .ref m38, .ref m39, .ref m40, .ref m41, .ref m42, .ref m43, .ref m44, .ref m45, .ref m46, .int 0])) (n : Int32) : xI E l yX12_acts cX12_acts 4 (some .int) 1 [.ref mm, .int n] ws (fun r w => r = -1) := by
  refine xI_start (lv := [(0, .ref mm), (1, .int n)]) RX12 (by decide) rfl (Nat.le_of_ble_eq_true rfl) rfl (fun p e s m below meth c A C hr hlk => ?_)
  refine x_iload_n C dX12_acts_0 rfl 1 rfl rfl ?_
  refine x_iconst C (v := 1) dX12_acts_1 (by decide) rfl ?_
  refine x_sipush C (v := 140) dX12_acts_2 (by decide) rfl ?_
  refine x_si C (As := [.int n, .int 1, .int 140]) (rest := []) (e_in E l ws n 1 140) mf_X12_in w_1267 rfl rfl (Nat.le_of_ble_eq_true rfl) ⟨(Nat.le_of_ble_eq_true rfl), (Nat.le_of_ble_eq_true rfl)⟩ ⟨(Nat.le_of_ble_eq_true rfl), (Nat.le_of_ble_eq_true rfl)⟩ dX12_acts_5 rfl (fun r2 w3 h1 => ?_)
  obtain ⟨e4, g5⟩ := h1
  refine x_top e4 ?_
  refine x_ws g5 ?_
  refine x_if_eq C (tgt := 19) dX12_acts_8 (by decide) rfl (fun c6 => ?_) (fun c6 => ?_)
  · skip
    have b7 := bI_e0 c6
    refine x_iconst C (v := (-1)) dX12_acts_19 (by decide) rfl ?_
    exact x_zret C hr hlk rfl dX12_acts_20 (by first | rfl | trivial | (simp [bI, b7]; done) | (simp_all [bI]; done))
  · skip
    have b8 := bI_n0 c6
    refine x_iload_n C dX12_acts_11 rfl 1 rfl rfl ?_
    refine x_aload_n C dX12_acts_12 rfl 0 rfl rfl ?_
    refine x_get C (ci := 11) (k := 4) 0 k_0 rfl in_X12 (by decide) w_1122 rfl dX12_acts_13 rfl ?_
    refine x_icmp_le C (tgt := 21) dX12_acts_16 (by decide) rfl (fun h => absurd h (not_le0 (lo := 1) (by decide) b8.1)) (fun _ => ?_)
    refine x_iconst C (v := (-1)) dX12_acts_19 (by decide) rfl ?_
    exact x_zret C hr hlk rfl dX12_acts_20 (by first | rfl | trivial | (simp [bI, b8]; done) | (simp_all [bI]; done))
theorem dX12_judged_0 : decode cX12_judged 0 = .ok (.iload_n 1, 1) := by decide +kernel
theorem dX12_judged_1 : decode cX12_judged 1 = .ok (.iconst 1, 1) := by decide +kernel
theorem dX12_judged_2 : decode cX12_judged 2 = .ok (.sipush 140, 3) := by decide +kernel
theorem dX12_judged_5 : decode cX12_judged 5 = .ok (.invokestatic 109, 3) := by decide +kernel
theorem dX12_judged_8 : decode cX12_judged 8 = .ok (.ifCond .eq 11, 3) := by decide +kernel
theorem dX12_judged_11 : decode cX12_judged 11 = .ok (.iload_n 1, 1) := by decide +kernel
theorem dX12_judged_12 : decode cX12_judged 12 = .ok (.aload_n 0, 1) := by decide +kernel
theorem dX12_judged_13 : decode cX12_judged 13 = .ok (.getfield 123, 3) := by decide +kernel
theorem dX12_judged_16 : decode cX12_judged 16 = .ok (.if_icmp .le 5, 3) := by decide +kernel
theorem dX12_judged_19 : decode cX12_judged 19 = .ok (.iconst (-1), 1) := by decide +kernel
theorem dX12_judged_20 : decode cX12_judged 20 = .ok (.ireturn, 1) := by decide +kernel
set_option maxRecDepth 20000 in
set_option maxHeartbeats 4000000 in
theorem e_judged (E : xE) (l : Launch) (ws : va_W) {mm m0 m1 m2 m3 m14 m15 m16 m17 m18 m19 m20 m21 m22 m23 m24 m25 m26 m28 m29 m30 m31 m38 m39 m40 m41 m42 m43 m44 m45 m46 : Nat} (p_0 : Nat) (k_0 : ws[0]? = some (ob mm 11 [.ref m0, .ref m1, .ref m2, .ref m3, .int 0, .int 0, .int 0, .int 0, .int 0, .int 0, .int 0, .int 0, .int 0, .int 0, .ref m14, .ref m15, .ref m16, .ref m17, .ref m18, .ref m19, .ref m20, .ref m21, .ref m22, .ref m23, .ref m24, .ref m25, .ref m26, .int 0, .ref m28, .ref m29, .ref m30, .ref m31, .int 0, .int 0, .int 0, .int 0, .int 0, .int 0, .ref m38, .ref m39, .ref m40, .ref m41, .ref m42, .ref m43, .ref m44, .ref m45, .ref m46, .int 0])) (n : Int32) : xI E l yX12_judged cX12_judged 3 (some .int) 1 [.ref mm, .int n] ws (fun r w => r = -1) := by
  refine xI_start (lv := [(0, .ref mm), (1, .int n)]) RX12 (by decide) rfl (Nat.le_of_ble_eq_true rfl) rfl (fun p e s m below meth c A C hr hlk => ?_)
  refine x_iload_n C dX12_judged_0 rfl 1 rfl rfl ?_
  refine x_iconst C (v := 1) dX12_judged_1 (by decide) rfl ?_
  refine x_sipush C (v := 140) dX12_judged_2 (by decide) rfl ?_
  refine x_si C (As := [.int n, .int 1, .int 140]) (rest := []) (e_in E l ws n 1 140) mf_X12_in w_1267 rfl rfl (Nat.le_of_ble_eq_true rfl) ⟨(Nat.le_of_ble_eq_true rfl), (Nat.le_of_ble_eq_true rfl)⟩ ⟨(Nat.le_of_ble_eq_true rfl), (Nat.le_of_ble_eq_true rfl)⟩ dX12_judged_5 rfl (fun r2 w3 h1 => ?_)
  obtain ⟨e4, g5⟩ := h1
  refine x_top e4 ?_
  refine x_ws g5 ?_
  refine x_if_eq C (tgt := 19) dX12_judged_8 (by decide) rfl (fun c6 => ?_) (fun c6 => ?_)
  · skip
    have b7 := bI_e0 c6
    refine x_iconst C (v := (-1)) dX12_judged_19 (by decide) rfl ?_
    exact x_zret C hr hlk rfl dX12_judged_20 (by first | rfl | trivial | (simp [bI, b7]; done) | (simp_all [bI]; done))
  · skip
    have b8 := bI_n0 c6
    refine x_iload_n C dX12_judged_11 rfl 1 rfl rfl ?_
    refine x_aload_n C dX12_judged_12 rfl 0 rfl rfl ?_
    refine x_get C (ci := 11) (k := 4) 0 k_0 rfl in_X12 (by decide) w_1122 rfl dX12_judged_13 rfl ?_
    refine x_icmp_le C (tgt := 21) dX12_judged_16 (by decide) rfl (fun h => absurd h (not_le0 (lo := 1) (by decide) b8.1)) (fun _ => ?_)
    refine x_iconst C (v := (-1)) dX12_judged_19 (by decide) rfl ?_
    exact x_zret C hr hlk rfl dX12_judged_20 (by first | rfl | trivial | (simp [bI, b8]; done) | (simp_all [bI]; done))
theorem dX12_rations_0 : decode cX12_rations 0 = .ok (.iload_n 1, 1) := by decide +kernel
theorem dX12_rations_1 : decode cX12_rations 1 = .ok (.iconst 1, 1) := by decide +kernel
theorem dX12_rations_2 : decode cX12_rations 2 = .ok (.bipush 8, 2) := by decide +kernel
theorem dX12_rations_4 : decode cX12_rations 4 = .ok (.invokestatic 109, 3) := by decide +kernel
theorem dX12_rations_7 : decode cX12_rations 7 = .ok (.ifCond .eq 20, 3) := by decide +kernel
theorem dX12_rations_10 : decode cX12_rations 10 = .ok (.iload_n 2, 1) := by decide +kernel
theorem dX12_rations_11 : decode cX12_rations 11 = .ok (.iconst 2, 1) := by decide +kernel
theorem dX12_rations_12 : decode cX12_rations 12 = .ok (.iconst 3, 1) := by decide +kernel
theorem dX12_rations_13 : decode cX12_rations 13 = .ok (.invokestatic 109, 3) := by decide +kernel
theorem dX12_rations_16 : decode cX12_rations 16 = .ok (.ifCond .eq 11, 3) := by decide +kernel
theorem dX12_rations_19 : decode cX12_rations 19 = .ok (.iload_n 1, 1) := by decide +kernel
theorem dX12_rations_20 : decode cX12_rations 20 = .ok (.aload_n 0, 1) := by decide +kernel
theorem dX12_rations_21 : decode cX12_rations 21 = .ok (.getfield 123, 3) := by decide +kernel
theorem dX12_rations_24 : decode cX12_rations 24 = .ok (.if_icmp .le 5, 3) := by decide +kernel
theorem dX12_rations_27 : decode cX12_rations 27 = .ok (.iconst (-1), 1) := by decide +kernel
theorem dX12_rations_28 : decode cX12_rations 28 = .ok (.ireturn, 1) := by decide +kernel
set_option maxRecDepth 20000 in
set_option maxHeartbeats 4000000 in
theorem e_rations (E : xE) (l : Launch) (ws : va_W) {mm m0 m1 m2 m3 m14 m15 m16 m17 m18 m19 m20 m21 m22 m23 m24 m25 m26 m28 m29 m30 m31 m38 m39 m40 m41 m42 m43 m44 m45 m46 : Nat} (p_0 : Nat) (k_0 : ws[0]? = some (ob mm 11 [.ref m0, .ref m1, .ref m2, .ref m3, .int 0, .int 0, .int 0, .int 0, .int 0, .int 0, .int 0, .int 0, .int 0, .int 0, .ref m14, .ref m15, .ref m16, .ref m17, .ref m18, .ref m19, .ref m20, .ref m21, .ref m22, .ref m23, .ref m24, .ref m25, .ref m26, .int 0, .ref m28, .ref m29, .ref m30, .ref m31, .int 0, .int 0, .int 0, .int 0, .int 0, .int 0, .ref m38, .ref m39, .ref m40, .ref m41, .ref m42, .ref m43, .ref m44, .ref m45, .ref m46, .int 0])) (n m0 wh : Int32) : xI E l yX12_rations cX12_rations 9 (some .int) 1 [.ref mm, .int n, .int m0, .int wh] ws (fun r w => r = -1) := by
  refine xI_start (lv := [(0, .ref mm), (1, .int n), (2, .int m0), (3, .int wh)]) RX12 (by decide) rfl (Nat.le_of_ble_eq_true rfl) rfl (fun p e s m below meth c A C hr hlk => ?_)
  refine x_iload_n C dX12_rations_0 rfl 1 rfl rfl ?_
  refine x_iconst C (v := 1) dX12_rations_1 (by decide) rfl ?_
  refine x_bipush C (v := 8) dX12_rations_2 (by decide) rfl ?_
  refine x_si C (As := [.int n, .int 1, .int 8]) (rest := []) (e_in E l ws n 1 8) mf_X12_in w_1267 rfl rfl (Nat.le_of_ble_eq_true rfl) ⟨(Nat.le_of_ble_eq_true rfl), (Nat.le_of_ble_eq_true rfl)⟩ ⟨(Nat.le_of_ble_eq_true rfl), (Nat.le_of_ble_eq_true rfl)⟩ dX12_rations_4 rfl (fun r2 w3 h1 => ?_)
  obtain ⟨e4, g5⟩ := h1
  refine x_top e4 ?_
  refine x_ws g5 ?_
  refine x_if_eq C (tgt := 27) dX12_rations_7 (by decide) rfl (fun c6 => ?_) (fun c6 => ?_)
  · skip
    have b7 := bI_e0 c6
    refine x_iconst C (v := (-1)) dX12_rations_27 (by decide) rfl ?_
    exact x_zret C hr hlk rfl dX12_rations_28 (by first | rfl | trivial | (simp [bI, b7]; done) | (simp_all [bI]; done))
  · skip
    have b8 := bI_n0 c6
    refine x_iload_n C dX12_rations_10 rfl 2 rfl rfl ?_
    refine x_iconst C (v := 2) dX12_rations_11 (by decide) rfl ?_
    refine x_iconst C (v := 3) dX12_rations_12 (by decide) rfl ?_
    refine x_si C (As := [.int m0, .int 2, .int 3]) (rest := []) (e_in E l ws m0 2 3) mf_X12_in w_1267 rfl rfl (Nat.le_of_ble_eq_true rfl) ⟨(Nat.le_of_ble_eq_true rfl), (Nat.le_of_ble_eq_true rfl)⟩ ⟨(Nat.le_of_ble_eq_true rfl), (Nat.le_of_ble_eq_true rfl)⟩ dX12_rations_13 rfl (fun r10 w11 h9 => ?_)
    obtain ⟨e12, g13⟩ := h9
    refine x_top e12 ?_
    refine x_ws g13 ?_
    refine x_if_eq C (tgt := 27) dX12_rations_16 (by decide) rfl (fun c14 => ?_) (fun c14 => ?_)
    · skip
      have b15 := bI_e0 c14
      refine x_iconst C (v := (-1)) dX12_rations_27 (by decide) rfl ?_
      exact x_zret C hr hlk rfl dX12_rations_28 (by first | rfl | trivial | (simp [bI, b8, b15]; done) | (simp_all [bI]; done))
    · skip
      have b16 := bI_n0 c14
      refine x_iload_n C dX12_rations_19 rfl 1 rfl rfl ?_
      refine x_aload_n C dX12_rations_20 rfl 0 rfl rfl ?_
      refine x_get C (ci := 11) (k := 4) 0 k_0 rfl in_X12 (by decide) w_1122 rfl dX12_rations_21 rfl ?_
      refine x_icmp_le C (tgt := 29) dX12_rations_24 (by decide) rfl (fun h => absurd h (not_le0 (lo := 1) (by decide) b8.1)) (fun _ => ?_)
      refine x_iconst C (v := (-1)) dX12_rations_27 (by decide) rfl ?_
      exact x_zret C hr hlk rfl dX12_rations_28 (by first | rfl | trivial | (simp [bI, b8, b16]; done) | (simp_all [bI]; done))
theorem dX12_yolks_0 : decode cX12_yolks 0 = .ok (.iload_n 1, 1) := by decide +kernel
theorem dX12_yolks_1 : decode cX12_yolks 1 = .ok (.iconst 1, 1) := by decide +kernel
theorem dX12_yolks_2 : decode cX12_yolks 2 = .ok (.bipush 10, 2) := by decide +kernel
theorem dX12_yolks_4 : decode cX12_yolks 4 = .ok (.invokestatic 109, 3) := by decide +kernel
theorem dX12_yolks_7 : decode cX12_yolks 7 = .ok (.ifCond .eq 31, 3) := by decide +kernel
theorem dX12_yolks_10 : decode cX12_yolks 10 = .ok (.iload_n 2, 1) := by decide +kernel
theorem dX12_yolks_11 : decode cX12_yolks 11 = .ok (.iconst 0, 1) := by decide +kernel
theorem dX12_yolks_12 : decode cX12_yolks 12 = .ok (.sipush 9999, 3) := by decide +kernel
theorem dX12_yolks_15 : decode cX12_yolks 15 = .ok (.invokestatic 109, 3) := by decide +kernel
theorem dX12_yolks_18 : decode cX12_yolks 18 = .ok (.ifCond .eq 20, 3) := by decide +kernel
theorem dX12_yolks_21 : decode cX12_yolks 21 = .ok (.iload_n 3, 1) := by decide +kernel
theorem dX12_yolks_22 : decode cX12_yolks 22 = .ok (.iconst 0, 1) := by decide +kernel
theorem dX12_yolks_23 : decode cX12_yolks 23 = .ok (.iconst 1, 1) := by decide +kernel
theorem dX12_yolks_24 : decode cX12_yolks 24 = .ok (.invokestatic 109, 3) := by decide +kernel
theorem dX12_yolks_27 : decode cX12_yolks 27 = .ok (.ifCond .eq 11, 3) := by decide +kernel
theorem dX12_yolks_30 : decode cX12_yolks 30 = .ok (.iload_n 1, 1) := by decide +kernel
theorem dX12_yolks_31 : decode cX12_yolks 31 = .ok (.aload_n 0, 1) := by decide +kernel
theorem dX12_yolks_32 : decode cX12_yolks 32 = .ok (.getfield 123, 3) := by decide +kernel
theorem dX12_yolks_35 : decode cX12_yolks 35 = .ok (.if_icmp .le 5, 3) := by decide +kernel
theorem dX12_yolks_38 : decode cX12_yolks 38 = .ok (.iconst (-1), 1) := by decide +kernel
theorem dX12_yolks_39 : decode cX12_yolks 39 = .ok (.ireturn, 1) := by decide +kernel
set_option maxRecDepth 20000 in
set_option maxHeartbeats 4000000 in
theorem e_yolks (E : xE) (l : Launch) (ws : va_W) {mm m0 m1 m2 m3 m14 m15 m16 m17 m18 m19 m20 m21 m22 m23 m24 m25 m26 m28 m29 m30 m31 m38 m39 m40 m41 m42 m43 m44 m45 m46 : Nat} (p_0 : Nat) (k_0 : ws[0]? = some (ob mm 11 [.ref m0, .ref m1, .ref m2, .ref m3, .int 0, .int 0, .int 0, .int 0, .int 0, .int 0, .int 0, .int 0, .int 0, .int 0, .ref m14, .ref m15, .ref m16, .ref m17, .ref m18, .ref m19, .ref m20, .ref m21, .ref m22, .ref m23, .ref m24, .ref m25, .ref m26, .int 0, .ref m28, .ref m29, .ref m30, .ref m31, .int 0, .int 0, .int 0, .int 0, .int 0, .int 0, .ref m38, .ref m39, .ref m40, .ref m41, .ref m42, .ref m43, .ref m44, .ref m45, .ref m46, .int 0])) (n mi wh : Int32) : xI E l yX12_yolks cX12_yolks 9 (some .int) 1 [.ref mm, .int n, .int mi, .int wh] ws (fun r w => r = -1) := by
  refine xI_start (lv := [(0, .ref mm), (1, .int n), (2, .int mi), (3, .int wh)]) RX12 (by decide) rfl (Nat.le_of_ble_eq_true rfl) rfl (fun p e s m below meth c A C hr hlk => ?_)
  refine x_iload_n C dX12_yolks_0 rfl 1 rfl rfl ?_
  refine x_iconst C (v := 1) dX12_yolks_1 (by decide) rfl ?_
  refine x_bipush C (v := 10) dX12_yolks_2 (by decide) rfl ?_
  refine x_si C (As := [.int n, .int 1, .int 10]) (rest := []) (e_in E l ws n 1 10) mf_X12_in w_1267 rfl rfl (Nat.le_of_ble_eq_true rfl) ⟨(Nat.le_of_ble_eq_true rfl), (Nat.le_of_ble_eq_true rfl)⟩ ⟨(Nat.le_of_ble_eq_true rfl), (Nat.le_of_ble_eq_true rfl)⟩ dX12_yolks_4 rfl (fun r2 w3 h1 => ?_)
  obtain ⟨e4, g5⟩ := h1
  refine x_top e4 ?_
  refine x_ws g5 ?_
  refine x_if_eq C (tgt := 38) dX12_yolks_7 (by decide) rfl (fun c6 => ?_) (fun c6 => ?_)
  · skip
    have b7 := bI_e0 c6
    refine x_iconst C (v := (-1)) dX12_yolks_38 (by decide) rfl ?_
    exact x_zret C hr hlk rfl dX12_yolks_39 (by first | rfl | trivial | (simp [bI, b7]; done) | (simp_all [bI]; done))
  · skip
    have b8 := bI_n0 c6
    refine x_iload_n C dX12_yolks_10 rfl 2 rfl rfl ?_
    refine x_iconst C (v := 0) dX12_yolks_11 (by decide) rfl ?_
    refine x_sipush C (v := 9999) dX12_yolks_12 (by decide) rfl ?_
    refine x_si C (As := [.int mi, .int 0, .int 9999]) (rest := []) (e_in E l ws mi 0 9999) mf_X12_in w_1267 rfl rfl (Nat.le_of_ble_eq_true rfl) ⟨(Nat.le_of_ble_eq_true rfl), (Nat.le_of_ble_eq_true rfl)⟩ ⟨(Nat.le_of_ble_eq_true rfl), (Nat.le_of_ble_eq_true rfl)⟩ dX12_yolks_15 rfl (fun r10 w11 h9 => ?_)
    obtain ⟨e12, g13⟩ := h9
    refine x_top e12 ?_
    refine x_ws g13 ?_
    refine x_if_eq C (tgt := 38) dX12_yolks_18 (by decide) rfl (fun c14 => ?_) (fun c14 => ?_)
    · skip
      have b15 := bI_e0 c14
      refine x_iconst C (v := (-1)) dX12_yolks_38 (by decide) rfl ?_
      exact x_zret C hr hlk rfl dX12_yolks_39 (by first | rfl | trivial | (simp [bI, b8, b15]; done) | (simp_all [bI]; done))
    · skip
      have b16 := bI_n0 c14
      refine x_iload_n C dX12_yolks_21 rfl 3 rfl rfl ?_
      refine x_iconst C (v := 0) dX12_yolks_22 (by decide) rfl ?_
      refine x_iconst C (v := 1) dX12_yolks_23 (by decide) rfl ?_
      refine x_si C (As := [.int wh, .int 0, .int 1]) (rest := []) (e_in E l ws wh 0 1) mf_X12_in w_1267 rfl rfl (Nat.le_of_ble_eq_true rfl) ⟨(Nat.le_of_ble_eq_true rfl), (Nat.le_of_ble_eq_true rfl)⟩ ⟨(Nat.le_of_ble_eq_true rfl), (Nat.le_of_ble_eq_true rfl)⟩ dX12_yolks_24 rfl (fun r18 w19 h17 => ?_)
      obtain ⟨e20, g21⟩ := h17
      refine x_top e20 ?_
      refine x_ws g21 ?_
      refine x_if_eq C (tgt := 38) dX12_yolks_27 (by decide) rfl (fun c22 => ?_) (fun c22 => ?_)
      · skip
        have b23 := bI_e0 c22
        refine x_iconst C (v := (-1)) dX12_yolks_38 (by decide) rfl ?_
        exact x_zret C hr hlk rfl dX12_yolks_39 (by first | rfl | trivial | (simp [bI, b8, b16, b23]; done) | (simp_all [bI]; done))
      · skip
        have b24 := bI_n0 c22
        refine x_iload_n C dX12_yolks_30 rfl 1 rfl rfl ?_
        refine x_aload_n C dX12_yolks_31 rfl 0 rfl rfl ?_
        refine x_get C (ci := 11) (k := 4) 0 k_0 rfl in_X12 (by decide) w_1122 rfl dX12_yolks_32 rfl ?_
        refine x_icmp_le C (tgt := 40) dX12_yolks_35 (by decide) rfl (fun h => absurd h (not_le0 (lo := 1) (by decide) b8.1)) (fun _ => ?_)
        refine x_iconst C (v := (-1)) dX12_yolks_38 (by decide) rfl ?_
        exact x_zret C hr hlk rfl dX12_yolks_39 (by first | rfl | trivial | (simp [bI, b8, b16, b24]; done) | (simp_all [bI]; done))
theorem dX12_hoards_0 : decode cX12_hoards 0 = .ok (.iload_n 1, 1) := by decide +kernel
theorem dX12_hoards_1 : decode cX12_hoards 1 = .ok (.iconst 2, 1) := by decide +kernel
theorem dX12_hoards_2 : decode cX12_hoards 2 = .ok (.iconst 5, 1) := by decide +kernel
theorem dX12_hoards_3 : decode cX12_hoards 3 = .ok (.invokestatic 109, 3) := by decide +kernel
theorem dX12_hoards_6 : decode cX12_hoards 6 = .ok (.ifCond .eq 22, 3) := by decide +kernel
theorem dX12_hoards_9 : decode cX12_hoards 9 = .ok (.iload_n 2, 1) := by decide +kernel
theorem dX12_hoards_10 : decode cX12_hoards 10 = .ok (.iconst 0, 1) := by decide +kernel
theorem dX12_hoards_11 : decode cX12_hoards 11 = .ok (.iconst 1, 1) := by decide +kernel
theorem dX12_hoards_12 : decode cX12_hoards 12 = .ok (.invokestatic 109, 3) := by decide +kernel
theorem dX12_hoards_15 : decode cX12_hoards 15 = .ok (.ifCond .eq 13, 3) := by decide +kernel
theorem dX12_hoards_18 : decode cX12_hoards 18 = .ok (.iconst 2, 1) := by decide +kernel
theorem dX12_hoards_19 : decode cX12_hoards 19 = .ok (.iload_n 1, 1) := by decide +kernel
theorem dX12_hoards_20 : decode cX12_hoards 20 = .ok (.imul, 1) := by decide +kernel
theorem dX12_hoards_21 : decode cX12_hoards 21 = .ok (.aload_n 0, 1) := by decide +kernel
theorem dX12_hoards_22 : decode cX12_hoards 22 = .ok (.getfield 123, 3) := by decide +kernel
theorem dX12_hoards_25 : decode cX12_hoards 25 = .ok (.if_icmp .le 5, 3) := by decide +kernel
theorem dX12_hoards_28 : decode cX12_hoards 28 = .ok (.iconst (-1), 1) := by decide +kernel
theorem dX12_hoards_29 : decode cX12_hoards 29 = .ok (.ireturn, 1) := by decide +kernel
set_option maxRecDepth 20000 in
set_option maxHeartbeats 4000000 in
theorem e_hoards (E : xE) (l : Launch) (ws : va_W) {mm m0 m1 m2 m3 m14 m15 m16 m17 m18 m19 m20 m21 m22 m23 m24 m25 m26 m28 m29 m30 m31 m38 m39 m40 m41 m42 m43 m44 m45 m46 : Nat} (p_0 : Nat) (k_0 : ws[0]? = some (ob mm 11 [.ref m0, .ref m1, .ref m2, .ref m3, .int 0, .int 0, .int 0, .int 0, .int 0, .int 0, .int 0, .int 0, .int 0, .int 0, .ref m14, .ref m15, .ref m16, .ref m17, .ref m18, .ref m19, .ref m20, .ref m21, .ref m22, .ref m23, .ref m24, .ref m25, .ref m26, .int 0, .ref m28, .ref m29, .ref m30, .ref m31, .int 0, .int 0, .int 0, .int 0, .int 0, .int 0, .ref m38, .ref m39, .ref m40, .ref m41, .ref m42, .ref m43, .ref m44, .ref m45, .ref m46, .int 0])) (n wh : Int32) : xI E l yX12_hoards cX12_hoards 6 (some .int) 1 [.ref mm, .int n, .int wh] ws (fun r w => r = -1) := by
  refine xI_start (lv := [(0, .ref mm), (1, .int n), (2, .int wh)]) RX12 (by decide) rfl (Nat.le_of_ble_eq_true rfl) rfl (fun p e s m below meth c A C hr hlk => ?_)
  refine x_iload_n C dX12_hoards_0 rfl 1 rfl rfl ?_
  refine x_iconst C (v := 2) dX12_hoards_1 (by decide) rfl ?_
  refine x_iconst C (v := 5) dX12_hoards_2 (by decide) rfl ?_
  refine x_si C (As := [.int n, .int 2, .int 5]) (rest := []) (e_in E l ws n 2 5) mf_X12_in w_1267 rfl rfl (Nat.le_of_ble_eq_true rfl) ⟨(Nat.le_of_ble_eq_true rfl), (Nat.le_of_ble_eq_true rfl)⟩ ⟨(Nat.le_of_ble_eq_true rfl), (Nat.le_of_ble_eq_true rfl)⟩ dX12_hoards_3 rfl (fun r2 w3 h1 => ?_)
  obtain ⟨e4, g5⟩ := h1
  refine x_top e4 ?_
  refine x_ws g5 ?_
  refine x_if_eq C (tgt := 28) dX12_hoards_6 (by decide) rfl (fun c6 => ?_) (fun c6 => ?_)
  · skip
    have b7 := bI_e0 c6
    refine x_iconst C (v := (-1)) dX12_hoards_28 (by decide) rfl ?_
    exact x_zret C hr hlk rfl dX12_hoards_29 (by first | rfl | trivial | (simp [bI, b7]; done) | (simp_all [bI]; done))
  · skip
    have b8 := bI_n0 c6
    refine x_iload_n C dX12_hoards_9 rfl 2 rfl rfl ?_
    refine x_iconst C (v := 0) dX12_hoards_10 (by decide) rfl ?_
    refine x_iconst C (v := 1) dX12_hoards_11 (by decide) rfl ?_
    refine x_si C (As := [.int wh, .int 0, .int 1]) (rest := []) (e_in E l ws wh 0 1) mf_X12_in w_1267 rfl rfl (Nat.le_of_ble_eq_true rfl) ⟨(Nat.le_of_ble_eq_true rfl), (Nat.le_of_ble_eq_true rfl)⟩ ⟨(Nat.le_of_ble_eq_true rfl), (Nat.le_of_ble_eq_true rfl)⟩ dX12_hoards_12 rfl (fun r10 w11 h9 => ?_)
    obtain ⟨e12, g13⟩ := h9
    refine x_top e12 ?_
    refine x_ws g13 ?_
    refine x_if_eq C (tgt := 28) dX12_hoards_15 (by decide) rfl (fun c14 => ?_) (fun c14 => ?_)
    · skip
      have b15 := bI_e0 c14
      refine x_iconst C (v := (-1)) dX12_hoards_28 (by decide) rfl ?_
      exact x_zret C hr hlk rfl dX12_hoards_29 (by first | rfl | trivial | (simp [bI, b8, b15]; done) | (simp_all [bI]; done))
    · skip
      have b16 := bI_n0 c14
      refine x_iconst C (v := 2) dX12_hoards_18 (by decide) rfl ?_
      refine x_iload_n C dX12_hoards_19 rfl 1 rfl rfl ?_
      refine x_imul C (v := ((2 : Int32) * n)) dX12_hoards_20 rfl rfl ?_
      refine x_aload_n C dX12_hoards_21 rfl 0 rfl rfl ?_
      refine x_get C (ci := 11) (k := 4) 0 k_0 rfl in_X12 (by decide) w_1122 rfl dX12_hoards_22 rfl ?_
      refine x_icmp_le C (tgt := 30) dX12_hoards_25 (by decide) rfl (fun h => absurd h (not_le0h b8)) (fun _ => ?_)
      refine x_iconst C (v := (-1)) dX12_hoards_28 (by decide) rfl ?_
      exact x_zret C hr hlk rfl dX12_hoards_29 (by first | rfl | trivial | (simp [bI, b8, b16]; done) | (simp_all [bI]; done))
theorem dX12_egg_0 : decode cX12_egg 0 = .ok (.aload_n 0, 1) := by decide +kernel
theorem dX12_egg_1 : decode cX12_egg 1 = .ok (.iload_n 1, 1) := by decide +kernel
theorem dX12_egg_2 : decode cX12_egg 2 = .ok (.invokevirtual 105, 3) := by decide +kernel
theorem dX12_egg_5 : decode cX12_egg 5 = .ok (.ifCond .ne 5, 3) := by decide +kernel
theorem dX12_egg_8 : decode cX12_egg 8 = .ok (.iconst (-1), 1) := by decide +kernel
theorem dX12_egg_9 : decode cX12_egg 9 = .ok (.ireturn, 1) := by decide +kernel
set_option maxRecDepth 20000 in
set_option maxHeartbeats 4000000 in
theorem e_egg (E : xE) (l : Launch) (ws : va_W) {mm m0 m1 m2 m3 m14 m15 m16 m17 m18 m19 m20 m21 m22 m23 m24 m25 m26 m28 m29 m30 m31 m38 m39 m40 m41 m42 m43 m44 m45 m46 : Nat} {fn : Nat → Int32} (p_0 : Nat) (k_0 : ws[0]? = some (ob mm 11 [.ref m0, .ref m1, .ref m2, .ref m3, .int 0, .int 0, .int 0, .int 0, .int 0, .int 0, .int 0, .int 0, .int 0, .int 0, .ref m14, .ref m15, .ref m16, .ref m17, .ref m18, .ref m19, .ref m20, .ref m21, .ref m22, .ref m23, .ref m24, .ref m25, .ref m26, .int 0, .ref m28, .ref m29, .ref m30, .ref m31, .int 0, .int 0, .int 0, .int 0, .int 0, .int 0, .ref m38, .ref m39, .ref m40, .ref m41, .ref m42, .ref m43, .ref m44, .ref m45, .ref m46, .int 0])) (p_1 : Nat) (k_1 : ws[1]? = some (iA E m0 382 fn)) (i wh : Int32) (h381 : fn 381 = 0) : xI E l yX12_egg cX12_egg 3 (some .int) 1 [.ref mm, .int i, .int wh] ws (fun r w => r = -1) := by
  refine xI_start (lv := [(0, .ref mm), (1, .int i), (2, .int wh)]) RX12 (by decide) rfl (Nat.le_of_ble_eq_true rfl) rfl (fun p e s m below meth c A C hr hlk => ?_)
  refine x_aload_n C dX12_egg_0 rfl 0 rfl rfl ?_
  refine x_iload_n C dX12_egg_1 rfl 1 rfl rfl ?_
  refine x_vi C (As := [.int i]) (rest := []) (e_isEgg E l ws 0 k_0 1 k_1 i h381) mf_X12_isEgg w_1439 0 k_0 rfl rfl rfl (Nat.le_of_ble_eq_true rfl) ⟨(Nat.le_of_ble_eq_true rfl), (Nat.le_of_ble_eq_true rfl)⟩ ⟨(Nat.le_of_ble_eq_true rfl), (Nat.le_of_ble_eq_true rfl)⟩ dX12_egg_2 rfl (fun r2 w3 h1 => ?_)
  obtain ⟨e4, g5⟩ := h1
  refine x_top e4 ?_
  refine x_ws g5 ?_
  refine x_if_ne C (tgt := 10) dX12_egg_5 (by decide) rfl (fun h => absurd h (by decide)) (fun _ => ?_)
  refine x_iconst C (v := (-1)) dX12_egg_8 (by decide) rfl ?_
  exact x_zret C hr hlk rfl dX12_egg_9 (by first | rfl | trivial | (simp [bI]; done) | (simp_all [bI]; done))
theorem dX12_personIs_0 : decode cX12_personIs 0 = .ok (.aload_n 0, 1) := by decide +kernel
theorem dX12_personIs_1 : decode cX12_personIs 1 = .ok (.iload_n 1, 1) := by decide +kernel
theorem dX12_personIs_2 : decode cX12_personIs 2 = .ok (.invokevirtual 113, 3) := by decide +kernel
theorem dX12_personIs_5 : decode cX12_personIs 5 = .ok (.ifCond .ne 5, 3) := by decide +kernel
theorem dX12_personIs_8 : decode cX12_personIs 8 = .ok (.iconst (-1), 1) := by decide +kernel
theorem dX12_personIs_9 : decode cX12_personIs 9 = .ok (.ireturn, 1) := by decide +kernel
set_option maxRecDepth 20000 in
set_option maxHeartbeats 4000000 in
theorem e_personIs (E : xE) (l : Launch) (ws : va_W) {mm m0 m1 m2 m3 m14 m15 m16 m17 m18 m19 m20 m21 m22 m23 m24 m25 m26 m28 m29 m30 m31 m38 m39 m40 m41 m42 m43 m44 m45 m46 : Nat} {fn : Nat → Int32} (p_0 : Nat) (k_0 : ws[0]? = some (ob mm 11 [.ref m0, .ref m1, .ref m2, .ref m3, .int 0, .int 0, .int 0, .int 0, .int 0, .int 0, .int 0, .int 0, .int 0, .int 0, .ref m14, .ref m15, .ref m16, .ref m17, .ref m18, .ref m19, .ref m20, .ref m21, .ref m22, .ref m23, .ref m24, .ref m25, .ref m26, .int 0, .ref m28, .ref m29, .ref m30, .ref m31, .int 0, .int 0, .int 0, .int 0, .int 0, .int 0, .ref m38, .ref m39, .ref m40, .ref m41, .ref m42, .ref m43, .ref m44, .ref m45, .ref m46, .int 0])) (p_1 : Nat) (k_1 : ws[1]? = some (iA E m0 382 fn)) (p0 wh : Int32) (h320 : fn 320 = 0) : xI E l yX12_personIs cX12_personIs 3 (some .int) 2 [.ref mm, .int p0, .int wh] ws (fun r w => r = -1) := by
  refine xI_start (lv := [(0, .ref mm), (1, .int p0), (2, .int wh)]) RX12 (by decide) rfl (Nat.le_of_ble_eq_true rfl) rfl (fun p e s m below meth c A C hr hlk => ?_)
  refine x_aload_n C dX12_personIs_0 rfl 0 rfl rfl ?_
  refine x_iload_n C dX12_personIs_1 rfl 1 rfl rfl ?_
  refine x_vi C (As := [.int p0]) (rest := []) (e_isPerson E l ws 0 k_0 1 k_1 p0 h320) mf_X12_isPerson w_1270 0 k_0 rfl rfl rfl (Nat.le_of_ble_eq_true rfl) ⟨(Nat.le_of_ble_eq_true rfl), (Nat.le_of_ble_eq_true rfl)⟩ ⟨(Nat.le_of_ble_eq_true rfl), (Nat.le_of_ble_eq_true rfl)⟩ dX12_personIs_2 rfl (fun r2 w3 h1 => ?_)
  obtain ⟨e4, g5⟩ := h1
  refine x_top e4 ?_
  refine x_ws g5 ?_
  refine x_if_ne C (tgt := 10) dX12_personIs_5 (by decide) rfl (fun h => absurd h (by decide)) (fun _ => ?_)
  refine x_iconst C (v := (-1)) dX12_personIs_8 (by decide) rfl ?_
  exact x_zret C hr hlk rfl dX12_personIs_9 (by first | rfl | trivial | (simp [bI]; done) | (simp_all [bI]; done))
theorem dX12_workIs_0 : decode cX12_workIs 0 = .ok (.aload_n 0, 1) := by decide +kernel
theorem dX12_workIs_1 : decode cX12_workIs 1 = .ok (.iload_n 1, 1) := by decide +kernel
theorem dX12_workIs_2 : decode cX12_workIs 2 = .ok (.invokevirtual 262, 3) := by decide +kernel
theorem dX12_workIs_5 : decode cX12_workIs 5 = .ok (.ifCond .ne 5, 3) := by decide +kernel
theorem dX12_workIs_8 : decode cX12_workIs 8 = .ok (.iconst (-1), 1) := by decide +kernel
theorem dX12_workIs_9 : decode cX12_workIs 9 = .ok (.ireturn, 1) := by decide +kernel
set_option maxRecDepth 20000 in
set_option maxHeartbeats 4000000 in
theorem e_workIs (E : xE) (l : Launch) (ws : va_W) {mm m0 m1 m2 m3 m14 m15 m16 m17 m18 m19 m20 m21 m22 m23 m24 m25 m26 m28 m29 m30 m31 m38 m39 m40 m41 m42 m43 m44 m45 m46 : Nat} {fn : Nat → Int32} (p_0 : Nat) (k_0 : ws[0]? = some (ob mm 11 [.ref m0, .ref m1, .ref m2, .ref m3, .int 0, .int 0, .int 0, .int 0, .int 0, .int 0, .int 0, .int 0, .int 0, .int 0, .ref m14, .ref m15, .ref m16, .ref m17, .ref m18, .ref m19, .ref m20, .ref m21, .ref m22, .ref m23, .ref m24, .ref m25, .ref m26, .int 0, .ref m28, .ref m29, .ref m30, .ref m31, .int 0, .int 0, .int 0, .int 0, .int 0, .int 0, .ref m38, .ref m39, .ref m40, .ref m41, .ref m42, .ref m43, .ref m44, .ref m45, .ref m46, .int 0])) (p_1 : Nat) (k_1 : ws[1]? = some (iA E m0 382 fn)) (i wh : Int32) (h378 : fn 378 = 0) : xI E l yX12_workIs cX12_workIs 3 (some .int) 2 [.ref mm, .int i, .int wh] ws (fun r w => r = -1) := by
  refine xI_start (lv := [(0, .ref mm), (1, .int i), (2, .int wh)]) RX12 (by decide) rfl (Nat.le_of_ble_eq_true rfl) rfl (fun p e s m below meth c A C hr hlk => ?_)
  refine x_aload_n C dX12_workIs_0 rfl 0 rfl rfl ?_
  refine x_iload_n C dX12_workIs_1 rfl 1 rfl rfl ?_
  refine x_vi C (As := [.int i]) (rest := []) (e_isWork E l ws 0 k_0 1 k_1 i h378) mf_X12_isWork w_1427 0 k_0 rfl rfl rfl (Nat.le_of_ble_eq_true rfl) ⟨(Nat.le_of_ble_eq_true rfl), (Nat.le_of_ble_eq_true rfl)⟩ ⟨(Nat.le_of_ble_eq_true rfl), (Nat.le_of_ble_eq_true rfl)⟩ dX12_workIs_2 rfl (fun r2 w3 h1 => ?_)
  obtain ⟨e4, g5⟩ := h1
  refine x_top e4 ?_
  refine x_ws g5 ?_
  refine x_if_ne C (tgt := 10) dX12_workIs_5 (by decide) rfl (fun h => absurd h (by decide)) (fun _ => ?_)
  refine x_iconst C (v := (-1)) dX12_workIs_8 (by decide) rfl ?_
  exact x_zret C hr hlk rfl dX12_workIs_9 (by first | rfl | trivial | (simp [bI]; done) | (simp_all [bI]; done))
theorem dX12_plan_0 : decode cX12_plan 0 = .ok (.aload_n 0, 1) := by decide +kernel
theorem dX12_plan_1 : decode cX12_plan 1 = .ok (.iload_n 1, 1) := by decide +kernel
theorem dX12_plan_2 : decode cX12_plan 2 = .ok (.invokevirtual 113, 3) := by decide +kernel
theorem dX12_plan_5 : decode cX12_plan 5 = .ok (.ifCond .eq 37, 3) := by decide +kernel
theorem dX12_plan_42 : decode cX12_plan 42 = .ok (.iconst (-1), 1) := by decide +kernel
theorem dX12_plan_43 : decode cX12_plan 43 = .ok (.ireturn, 1) := by decide +kernel
set_option maxRecDepth 20000 in
set_option maxHeartbeats 4000000 in
theorem e_plan (E : xE) (l : Launch) (ws : va_W) {mm m0 m1 m2 m3 m14 m15 m16 m17 m18 m19 m20 m21 m22 m23 m24 m25 m26 m28 m29 m30 m31 m38 m39 m40 m41 m42 m43 m44 m45 m46 : Nat} {fn : Nat → Int32} (p_0 : Nat) (k_0 : ws[0]? = some (ob mm 11 [.ref m0, .ref m1, .ref m2, .ref m3, .int 0, .int 0, .int 0, .int 0, .int 0, .int 0, .int 0, .int 0, .int 0, .int 0, .ref m14, .ref m15, .ref m16, .ref m17, .ref m18, .ref m19, .ref m20, .ref m21, .ref m22, .ref m23, .ref m24, .ref m25, .ref m26, .int 0, .ref m28, .ref m29, .ref m30, .ref m31, .int 0, .int 0, .int 0, .int 0, .int 0, .int 0, .ref m38, .ref m39, .ref m40, .ref m41, .ref m42, .ref m43, .ref m44, .ref m45, .ref m46, .int 0])) (p_1 : Nat) (k_1 : ws[1]? = some (iA E m0 382 fn)) (p0 wk wh : Int32) (h320 : fn 320 = 0) : xI E l yX12_plan cX12_plan 6 (some .int) 2 [.ref mm, .int p0, .int wk, .int wh] ws (fun r w => r = -1) := by
  refine xI_start (lv := [(0, .ref mm), (1, .int p0), (2, .int wk), (3, .int wh)]) RX12 (by decide) rfl (Nat.le_of_ble_eq_true rfl) rfl (fun p e s m below meth c A C hr hlk => ?_)
  refine x_aload_n C dX12_plan_0 rfl 0 rfl rfl ?_
  refine x_iload_n C dX12_plan_1 rfl 1 rfl rfl ?_
  refine x_vi C (As := [.int p0]) (rest := []) (e_isPerson E l ws 0 k_0 1 k_1 p0 h320) mf_X12_isPerson w_1270 0 k_0 rfl rfl rfl (Nat.le_of_ble_eq_true rfl) ⟨(Nat.le_of_ble_eq_true rfl), (Nat.le_of_ble_eq_true rfl)⟩ ⟨(Nat.le_of_ble_eq_true rfl), (Nat.le_of_ble_eq_true rfl)⟩ dX12_plan_2 rfl (fun r2 w3 h1 => ?_)
  obtain ⟨e4, g5⟩ := h1
  refine x_top e4 ?_
  refine x_ws g5 ?_
  refine x_if_eq C (tgt := 42) dX12_plan_5 (by decide) rfl (fun _ => ?_) (fun h => absurd h (by decide))
  refine x_iconst C (v := (-1)) dX12_plan_42 (by decide) rfl ?_
  exact x_zret C hr hlk rfl dX12_plan_43 (by first | rfl | trivial | (simp [bI]; done) | (simp_all [bI]; done))
theorem dX12_before_0 : decode cX12_before 0 = .ok (.aload_n 0, 1) := by decide +kernel
theorem dX12_before_1 : decode cX12_before 1 = .ok (.iload_n 1, 1) := by decide +kernel
theorem dX12_before_2 : decode cX12_before 2 = .ok (.invokevirtual 113, 3) := by decide +kernel
theorem dX12_before_5 : decode cX12_before 5 = .ok (.ifCond .eq 23, 3) := by decide +kernel
theorem dX12_before_28 : decode cX12_before 28 = .ok (.iconst (-1), 1) := by decide +kernel
theorem dX12_before_29 : decode cX12_before 29 = .ok (.ireturn, 1) := by decide +kernel
set_option maxRecDepth 20000 in
set_option maxHeartbeats 4000000 in
theorem e_before (E : xE) (l : Launch) (ws : va_W) {mm m0 m1 m2 m3 m14 m15 m16 m17 m18 m19 m20 m21 m22 m23 m24 m25 m26 m28 m29 m30 m31 m38 m39 m40 m41 m42 m43 m44 m45 m46 : Nat} {fn : Nat → Int32} (p_0 : Nat) (k_0 : ws[0]? = some (ob mm 11 [.ref m0, .ref m1, .ref m2, .ref m3, .int 0, .int 0, .int 0, .int 0, .int 0, .int 0, .int 0, .int 0, .int 0, .int 0, .ref m14, .ref m15, .ref m16, .ref m17, .ref m18, .ref m19, .ref m20, .ref m21, .ref m22, .ref m23, .ref m24, .ref m25, .ref m26, .int 0, .ref m28, .ref m29, .ref m30, .ref m31, .int 0, .int 0, .int 0, .int 0, .int 0, .int 0, .ref m38, .ref m39, .ref m40, .ref m41, .ref m42, .ref m43, .ref m44, .ref m45, .ref m46, .int 0])) (p_1 : Nat) (k_1 : ws[1]? = some (iA E m0 382 fn)) (p0 ea n : Int32) (h320 : fn 320 = 0) : xI E l yX12_before cX12_before 9 (some .int) 2 [.ref mm, .int p0, .int ea, .int n] ws (fun r w => r = -1) := by
  refine xI_start (lv := [(0, .ref mm), (1, .int p0), (2, .int ea), (3, .int n)]) RX12 (by decide) rfl (Nat.le_of_ble_eq_true rfl) rfl (fun p e s m below meth c A C hr hlk => ?_)
  refine x_aload_n C dX12_before_0 rfl 0 rfl rfl ?_
  refine x_iload_n C dX12_before_1 rfl 1 rfl rfl ?_
  refine x_vi C (As := [.int p0]) (rest := []) (e_isPerson E l ws 0 k_0 1 k_1 p0 h320) mf_X12_isPerson w_1270 0 k_0 rfl rfl rfl (Nat.le_of_ble_eq_true rfl) ⟨(Nat.le_of_ble_eq_true rfl), (Nat.le_of_ble_eq_true rfl)⟩ ⟨(Nat.le_of_ble_eq_true rfl), (Nat.le_of_ble_eq_true rfl)⟩ dX12_before_2 rfl (fun r2 w3 h1 => ?_)
  obtain ⟨e4, g5⟩ := h1
  refine x_top e4 ?_
  refine x_ws g5 ?_
  refine x_if_eq C (tgt := 28) dX12_before_5 (by decide) rfl (fun _ => ?_) (fun h => absurd h (by decide))
  refine x_iconst C (v := (-1)) dX12_before_28 (by decide) rfl ?_
  exact x_zret C hr hlk rfl dX12_before_29 (by first | rfl | trivial | (simp [bI]; done) | (simp_all [bI]; done))
theorem dX12_baskets_0 : decode cX12_baskets 0 = .ok (.aload_n 0, 1) := by decide +kernel
theorem dX12_baskets_1 : decode cX12_baskets 1 = .ok (.iload_n 1, 1) := by decide +kernel
theorem dX12_baskets_2 : decode cX12_baskets 2 = .ok (.invokevirtual 113, 3) := by decide +kernel
theorem dX12_baskets_5 : decode cX12_baskets 5 = .ok (.ifCond .eq 23, 3) := by decide +kernel
theorem dX12_baskets_28 : decode cX12_baskets 28 = .ok (.iconst (-1), 1) := by decide +kernel
theorem dX12_baskets_29 : decode cX12_baskets 29 = .ok (.ireturn, 1) := by decide +kernel
set_option maxRecDepth 20000 in
set_option maxHeartbeats 4000000 in
theorem e_baskets (E : xE) (l : Launch) (ws : va_W) {mm m0 m1 m2 m3 m14 m15 m16 m17 m18 m19 m20 m21 m22 m23 m24 m25 m26 m28 m29 m30 m31 m38 m39 m40 m41 m42 m43 m44 m45 m46 : Nat} {fn : Nat → Int32} (p_0 : Nat) (k_0 : ws[0]? = some (ob mm 11 [.ref m0, .ref m1, .ref m2, .ref m3, .int 0, .int 0, .int 0, .int 0, .int 0, .int 0, .int 0, .int 0, .int 0, .int 0, .ref m14, .ref m15, .ref m16, .ref m17, .ref m18, .ref m19, .ref m20, .ref m21, .ref m22, .ref m23, .ref m24, .ref m25, .ref m26, .int 0, .ref m28, .ref m29, .ref m30, .ref m31, .int 0, .int 0, .int 0, .int 0, .int 0, .int 0, .ref m38, .ref m39, .ref m40, .ref m41, .ref m42, .ref m43, .ref m44, .ref m45, .ref m46, .int 0])) (p_1 : Nat) (k_1 : ws[1]? = some (iA E m0 382 fn)) (p0 mi wh : Int32) (h320 : fn 320 = 0) : xI E l yX12_baskets cX12_baskets 9 (some .int) 2 [.ref mm, .int p0, .int mi, .int wh] ws (fun r w => r = -1) := by
  refine xI_start (lv := [(0, .ref mm), (1, .int p0), (2, .int mi), (3, .int wh)]) RX12 (by decide) rfl (Nat.le_of_ble_eq_true rfl) rfl (fun p e s m below meth c A C hr hlk => ?_)
  refine x_aload_n C dX12_baskets_0 rfl 0 rfl rfl ?_
  refine x_iload_n C dX12_baskets_1 rfl 1 rfl rfl ?_
  refine x_vi C (As := [.int p0]) (rest := []) (e_isPerson E l ws 0 k_0 1 k_1 p0 h320) mf_X12_isPerson w_1270 0 k_0 rfl rfl rfl (Nat.le_of_ble_eq_true rfl) ⟨(Nat.le_of_ble_eq_true rfl), (Nat.le_of_ble_eq_true rfl)⟩ ⟨(Nat.le_of_ble_eq_true rfl), (Nat.le_of_ble_eq_true rfl)⟩ dX12_baskets_2 rfl (fun r2 w3 h1 => ?_)
  obtain ⟨e4, g5⟩ := h1
  refine x_top e4 ?_
  refine x_ws g5 ?_
  refine x_if_eq C (tgt := 28) dX12_baskets_5 (by decide) rfl (fun _ => ?_) (fun h => absurd h (by decide))
  refine x_iconst C (v := (-1)) dX12_baskets_28 (by decide) rfl ?_
  exact x_zret C hr hlk rfl dX12_baskets_29 (by first | rfl | trivial | (simp [bI]; done) | (simp_all [bI]; done))
theorem dX12_latest_0 : decode cX12_latest 0 = .ok (.aload_n 0, 1) := by decide +kernel
theorem dX12_latest_1 : decode cX12_latest 1 = .ok (.iload_n 1, 1) := by decide +kernel
theorem dX12_latest_2 : decode cX12_latest 2 = .ok (.invokevirtual 262, 3) := by decide +kernel
theorem dX12_latest_5 : decode cX12_latest 5 = .ok (.ifCond .eq 14, 3) := by decide +kernel
theorem dX12_latest_19 : decode cX12_latest 19 = .ok (.iconst (-1), 1) := by decide +kernel
theorem dX12_latest_20 : decode cX12_latest 20 = .ok (.ireturn, 1) := by decide +kernel
set_option maxRecDepth 20000 in
set_option maxHeartbeats 4000000 in
theorem e_latest (E : xE) (l : Launch) (ws : va_W) {mm m0 m1 m2 m3 m14 m15 m16 m17 m18 m19 m20 m21 m22 m23 m24 m25 m26 m28 m29 m30 m31 m38 m39 m40 m41 m42 m43 m44 m45 m46 : Nat} {fn : Nat → Int32} (p_0 : Nat) (k_0 : ws[0]? = some (ob mm 11 [.ref m0, .ref m1, .ref m2, .ref m3, .int 0, .int 0, .int 0, .int 0, .int 0, .int 0, .int 0, .int 0, .int 0, .int 0, .ref m14, .ref m15, .ref m16, .ref m17, .ref m18, .ref m19, .ref m20, .ref m21, .ref m22, .ref m23, .ref m24, .ref m25, .ref m26, .int 0, .ref m28, .ref m29, .ref m30, .ref m31, .int 0, .int 0, .int 0, .int 0, .int 0, .int 0, .ref m38, .ref m39, .ref m40, .ref m41, .ref m42, .ref m43, .ref m44, .ref m45, .ref m46, .int 0])) (p_1 : Nat) (k_1 : ws[1]? = some (iA E m0 382 fn)) (i k : Int32) (h378 : fn 378 = 0) : xI E l yX12_latest cX12_latest 5 (some .int) 2 [.ref mm, .int i, .int k] ws (fun r w => r = -1) := by
  refine xI_start (lv := [(0, .ref mm), (1, .int i), (2, .int k)]) RX12 (by decide) rfl (Nat.le_of_ble_eq_true rfl) rfl (fun p e s m below meth c A C hr hlk => ?_)
  refine x_aload_n C dX12_latest_0 rfl 0 rfl rfl ?_
  refine x_iload_n C dX12_latest_1 rfl 1 rfl rfl ?_
  refine x_vi C (As := [.int i]) (rest := []) (e_isWork E l ws 0 k_0 1 k_1 i h378) mf_X12_isWork w_1427 0 k_0 rfl rfl rfl (Nat.le_of_ble_eq_true rfl) ⟨(Nat.le_of_ble_eq_true rfl), (Nat.le_of_ble_eq_true rfl)⟩ ⟨(Nat.le_of_ble_eq_true rfl), (Nat.le_of_ble_eq_true rfl)⟩ dX12_latest_2 rfl (fun r2 w3 h1 => ?_)
  obtain ⟨e4, g5⟩ := h1
  refine x_top e4 ?_
  refine x_ws g5 ?_
  refine x_if_eq C (tgt := 19) dX12_latest_5 (by decide) rfl (fun _ => ?_) (fun h => absurd h (by decide))
  refine x_iconst C (v := (-1)) dX12_latest_19 (by decide) rfl ?_
  exact x_zret C hr hlk rfl dX12_latest_20 (by first | rfl | trivial | (simp [bI]; done) | (simp_all [bI]; done))
theorem dX12_soonest_0 : decode cX12_soonest 0 = .ok (.aload_n 0, 1) := by decide +kernel
theorem dX12_soonest_1 : decode cX12_soonest 1 = .ok (.iload_n 1, 1) := by decide +kernel
theorem dX12_soonest_2 : decode cX12_soonest 2 = .ok (.invokevirtual 262, 3) := by decide +kernel
theorem dX12_soonest_5 : decode cX12_soonest 5 = .ok (.ifCond .eq 17, 3) := by decide +kernel
theorem dX12_soonest_22 : decode cX12_soonest 22 = .ok (.iconst (-1), 1) := by decide +kernel
theorem dX12_soonest_23 : decode cX12_soonest 23 = .ok (.ireturn, 1) := by decide +kernel
set_option maxRecDepth 20000 in
set_option maxHeartbeats 4000000 in
theorem e_soonest (E : xE) (l : Launch) (ws : va_W) {mm m0 m1 m2 m3 m14 m15 m16 m17 m18 m19 m20 m21 m22 m23 m24 m25 m26 m28 m29 m30 m31 m38 m39 m40 m41 m42 m43 m44 m45 m46 : Nat} {fn : Nat → Int32} (p_0 : Nat) (k_0 : ws[0]? = some (ob mm 11 [.ref m0, .ref m1, .ref m2, .ref m3, .int 0, .int 0, .int 0, .int 0, .int 0, .int 0, .int 0, .int 0, .int 0, .int 0, .ref m14, .ref m15, .ref m16, .ref m17, .ref m18, .ref m19, .ref m20, .ref m21, .ref m22, .ref m23, .ref m24, .ref m25, .ref m26, .int 0, .ref m28, .ref m29, .ref m30, .ref m31, .int 0, .int 0, .int 0, .int 0, .int 0, .int 0, .ref m38, .ref m39, .ref m40, .ref m41, .ref m42, .ref m43, .ref m44, .ref m45, .ref m46, .int 0])) (p_1 : Nat) (k_1 : ws[1]? = some (iA E m0 382 fn)) (i p0 : Int32) (h378 : fn 378 = 0) : xI E l yX12_soonest cX12_soonest 6 (some .int) 2 [.ref mm, .int i, .int p0] ws (fun r w => r = -1) := by
  refine xI_start (lv := [(0, .ref mm), (1, .int i), (2, .int p0)]) RX12 (by decide) rfl (Nat.le_of_ble_eq_true rfl) rfl (fun p e s m below meth c A C hr hlk => ?_)
  refine x_aload_n C dX12_soonest_0 rfl 0 rfl rfl ?_
  refine x_iload_n C dX12_soonest_1 rfl 1 rfl rfl ?_
  refine x_vi C (As := [.int i]) (rest := []) (e_isWork E l ws 0 k_0 1 k_1 i h378) mf_X12_isWork w_1427 0 k_0 rfl rfl rfl (Nat.le_of_ble_eq_true rfl) ⟨(Nat.le_of_ble_eq_true rfl), (Nat.le_of_ble_eq_true rfl)⟩ ⟨(Nat.le_of_ble_eq_true rfl), (Nat.le_of_ble_eq_true rfl)⟩ dX12_soonest_2 rfl (fun r2 w3 h1 => ?_)
  obtain ⟨e4, g5⟩ := h1
  refine x_top e4 ?_
  refine x_ws g5 ?_
  refine x_if_eq C (tgt := 22) dX12_soonest_5 (by decide) rfl (fun _ => ?_) (fun h => absurd h (by decide))
  refine x_iconst C (v := (-1)) dX12_soonest_22 (by decide) rfl ?_
  exact x_zret C hr hlk rfl dX12_soonest_23 (by first | rfl | trivial | (simp [bI]; done) | (simp_all [bI]; done))
theorem dX12_barter_0 : decode cX12_barter 0 = .ok (.aload_n 0, 1) := by decide +kernel
theorem dX12_barter_1 : decode cX12_barter 1 = .ok (.iload_n 1, 1) := by decide +kernel
theorem dX12_barter_2 : decode cX12_barter 2 = .ok (.invokevirtual 113, 3) := by decide +kernel
theorem dX12_barter_5 : decode cX12_barter 5 = .ok (.ifCond .eq 49, 3) := by decide +kernel
theorem dX12_barter_54 : decode cX12_barter 54 = .ok (.iconst (-1), 1) := by decide +kernel
theorem dX12_barter_55 : decode cX12_barter 55 = .ok (.ireturn, 1) := by decide +kernel
set_option maxRecDepth 20000 in
set_option maxHeartbeats 4000000 in
theorem e_barter (E : xE) (l : Launch) (ws : va_W) {mm m0 m1 m2 m3 m14 m15 m16 m17 m18 m19 m20 m21 m22 m23 m24 m25 m26 m28 m29 m30 m31 m38 m39 m40 m41 m42 m43 m44 m45 m46 : Nat} {fn : Nat → Int32} (p_0 : Nat) (k_0 : ws[0]? = some (ob mm 11 [.ref m0, .ref m1, .ref m2, .ref m3, .int 0, .int 0, .int 0, .int 0, .int 0, .int 0, .int 0, .int 0, .int 0, .int 0, .ref m14, .ref m15, .ref m16, .ref m17, .ref m18, .ref m19, .ref m20, .ref m21, .ref m22, .ref m23, .ref m24, .ref m25, .ref m26, .int 0, .ref m28, .ref m29, .ref m30, .ref m31, .int 0, .int 0, .int 0, .int 0, .int 0, .int 0, .ref m38, .ref m39, .ref m40, .ref m41, .ref m42, .ref m43, .ref m44, .ref m45, .ref m46, .int 0])) (p_1 : Nat) (k_1 : ws[1]? = some (iA E m0 382 fn)) (a b wa wb0 wh : Int32) (h320 : fn 320 = 0) : xI E l yX12_barter cX12_barter 13 (some .int) 2 [.ref mm, .int a, .int b, .int wa, .int wb0, .int wh] ws (fun r w => r = -1) := by
  refine xI_start (lv := [(0, .ref mm), (1, .int a), (2, .int b), (3, .int wa), (4, .int wb0), (5, .int wh)]) RX12 (by decide) rfl (Nat.le_of_ble_eq_true rfl) rfl (fun p e s m below meth c A C hr hlk => ?_)
  refine x_aload_n C dX12_barter_0 rfl 0 rfl rfl ?_
  refine x_iload_n C dX12_barter_1 rfl 1 rfl rfl ?_
  refine x_vi C (As := [.int a]) (rest := []) (e_isPerson E l ws 0 k_0 1 k_1 a h320) mf_X12_isPerson w_1270 0 k_0 rfl rfl rfl (Nat.le_of_ble_eq_true rfl) ⟨(Nat.le_of_ble_eq_true rfl), (Nat.le_of_ble_eq_true rfl)⟩ ⟨(Nat.le_of_ble_eq_true rfl), (Nat.le_of_ble_eq_true rfl)⟩ dX12_barter_2 rfl (fun r2 w3 h1 => ?_)
  obtain ⟨e4, g5⟩ := h1
  refine x_top e4 ?_
  refine x_ws g5 ?_
  refine x_if_eq C (tgt := 54) dX12_barter_5 (by decide) rfl (fun _ => ?_) (fun h => absurd h (by decide))
  refine x_iconst C (v := (-1)) dX12_barter_54 (by decide) rfl ?_
  exact x_zret C hr hlk rfl dX12_barter_55 (by first | rfl | trivial | (simp [bI]; done) | (simp_all [bI]; done))
theorem dX12_seed_0 : decode cX12_seed 0 = .ok (.iload_n 1, 1) := by decide +kernel
theorem dX12_seed_1 : decode cX12_seed 1 = .ok (.iconst 0, 1) := by decide +kernel
theorem dX12_seed_2 : decode cX12_seed 2 = .ok (.ldc_w 402, 3) := by decide +kernel
theorem dX12_seed_5 : decode cX12_seed 5 = .ok (.invokestatic 109, 3) := by decide +kernel
theorem dX12_seed_8 : decode cX12_seed 8 = .ok (.ifCond .ne 5, 3) := by decide +kernel
theorem dX12_seed_11 : decode cX12_seed 11 = .ok (.iconst 0, 1) := by decide +kernel
theorem dX12_seed_12 : decode cX12_seed 12 = .ok (.ireturn, 1) := by decide +kernel
theorem dX12_seed_13 : decode cX12_seed 13 = .ok (.aload_n 0, 1) := by decide +kernel
theorem dX12_seed_14 : decode cX12_seed 14 = .ok (.getfield 7, 3) := by decide +kernel
theorem dX12_seed_17 : decode cX12_seed 17 = .ok (.sipush 380, 3) := by decide +kernel
theorem dX12_seed_20 : decode cX12_seed 20 = .ok (.iload_n 1, 1) := by decide +kernel
theorem dX12_seed_21 : decode cX12_seed 21 = .ok (.iastore, 1) := by decide +kernel
theorem dX12_seed_22 : decode cX12_seed 22 = .ok (.iconst 1, 1) := by decide +kernel
theorem dX12_seed_23 : decode cX12_seed 23 = .ok (.ireturn, 1) := by decide +kernel
set_option maxRecDepth 20000 in
set_option maxHeartbeats 4000000 in
theorem e_seed (E : xE) (l : Launch) (ws : va_W) {mm m0 m1 m2 m3 m14 m15 m16 m17 m18 m19 m20 m21 m22 m23 m24 m25 m26 m28 m29 m30 m31 m38 m39 m40 m41 m42 m43 m44 m45 m46 : Nat} {fn : Nat → Int32} (p_0 : Nat) (k_0 : ws[0]? = some (ob mm 11 [.ref m0, .ref m1, .ref m2, .ref m3, .int 0, .int 0, .int 0, .int 0, .int 0, .int 0, .int 0, .int 0, .int 0, .int 0, .ref m14, .ref m15, .ref m16, .ref m17, .ref m18, .ref m19, .ref m20, .ref m21, .ref m22, .ref m23, .ref m24, .ref m25, .ref m26, .int 0, .ref m28, .ref m29, .ref m30, .ref m31, .int 0, .int 0, .int 0, .int 0, .int 0, .int 0, .ref m38, .ref m39, .ref m40, .ref m41, .ref m42, .ref m43, .ref m44, .ref m45, .ref m46, .int 0])) (p_1 : Nat) (k_1 : ws[1]? = some (iA E m0 382 fn)) (sd : Int32) : xI E l yX12_seed cX12_seed 2 (some .boolean) 1 [.ref mm, .int sd] ws (fun r w => r = bI (wth sd 0 65535)) := by
  refine xI_start (lv := [(0, .ref mm), (1, .int sd)]) RX12 (by decide) rfl (Nat.le_of_ble_eq_true rfl) rfl (fun p e s m below meth c A C hr hlk => ?_)
  refine x_iload_n C dX12_seed_0 rfl 1 rfl rfl ?_
  refine x_iconst C (v := 0) dX12_seed_1 (by decide) rfl ?_
  refine x_ldcw C w_1669 dX12_seed_2 rfl ?_
  refine x_si C (As := [.int sd, .int 0, .int 65535]) (rest := []) (e_in E l ws sd 0 65535) mf_X12_in w_1267 rfl rfl (Nat.le_of_ble_eq_true rfl) ⟨(Nat.le_of_ble_eq_true rfl), (Nat.le_of_ble_eq_true rfl)⟩ ⟨(Nat.le_of_ble_eq_true rfl), (Nat.le_of_ble_eq_true rfl)⟩ dX12_seed_5 rfl (fun r2 w3 h1 => ?_)
  obtain ⟨e4, g5⟩ := h1
  refine x_top e4 ?_
  refine x_ws g5 ?_
  refine x_if_ne C (tgt := 13) dX12_seed_8 (by decide) rfl (fun c6 => ?_) (fun c6 => ?_)
  · skip
    have b7 := bI_n0 c6
    refine x_aload_n C dX12_seed_13 rfl 0 rfl rfl ?_
    refine x_get C (ci := 11) (k := 0) 0 k_0 rfl in_X12 (by decide) w_1118 rfl dX12_seed_14 rfl ?_
    refine x_sipush C (v := 380) dX12_seed_17 (by decide) rfl ?_
    refine x_iload_n C dX12_seed_20 rfl 1 rfl rfl ?_
    obtain ⟨w8, hw9⟩ : ∃ w : va_W, w = List.set ws 1 (iA E m0 382 (upd fn 380 sd)) := ⟨_, rfl⟩
    refine x_iask C 380 (by decide) (by decide) (by decide) 1 k_1 hw9.symm dX12_seed_21 rfl ?_
    have k10 : w8[0]? = some (ob mm 11 [.ref m0, .ref m1, .ref m2, .ref m3, .int 0, .int 0, .int 0, .int 0, .int 0, .int 0, .int 0, .int 0, .int 0, .int 0, .ref m14, .ref m15, .ref m16, .ref m17, .ref m18, .ref m19, .ref m20, .ref m21, .ref m22, .ref m23, .ref m24, .ref m25, .ref m26, .int 0, .ref m28, .ref m29, .ref m30, .ref m31, .int 0, .int 0, .int 0, .int 0, .int 0, .int 0, .ref m38, .ref m39, .ref m40, .ref m41, .ref m42, .ref m43, .ref m44, .ref m45, .ref m46, .int 0]) := by rw [hw9]; exact set_ne k_0 (by decide)
    have k11 : w8[1]? = some (iA E m0 382 (upd fn 380 sd)) := by rw [hw9]; exact set_eq k_1
    refine x_iconst C (v := 1) dX12_seed_22 (by decide) rfl ?_
    exact x_zret C hr hlk rfl dX12_seed_23 (by first | rfl | trivial | (simp [bI, b7]; done) | (simp_all [bI]; done))
  · skip
    have b12 := bI_e0 c6
    refine x_iconst C (v := 0) dX12_seed_11 (by decide) rfl ?_
    exact x_zret C hr hlk rfl dX12_seed_12 (by first | rfl | trivial | (simp [bI, b12]; done) | (simp_all [bI]; done))
theorem dX12_undo_0 : decode cX12_undo 0 = .ok (.aload_n 0, 1) := by decide +kernel
theorem dX12_undo_1 : decode cX12_undo 1 = .ok (.getfield 403, 3) := by decide +kernel
theorem dX12_undo_4 : decode cX12_undo 4 = .ok (.ifCond .ne 5, 3) := by decide +kernel
theorem dX12_undo_7 : decode cX12_undo 7 = .ok (.iconst 0, 1) := by decide +kernel
theorem dX12_undo_8 : decode cX12_undo 8 = .ok (.ireturn, 1) := by decide +kernel
set_option maxRecDepth 20000 in
set_option maxHeartbeats 4000000 in
theorem e_undo (E : xE) (l : Launch) (ws : va_W) {mm m0 m1 m2 m3 m14 m15 m16 m17 m18 m19 m20 m21 m22 m23 m24 m25 m26 m28 m29 m30 m31 m38 m39 m40 m41 m42 m43 m44 m45 m46 : Nat} (p_0 : Nat) (k_0 : ws[0]? = some (ob mm 11 [.ref m0, .ref m1, .ref m2, .ref m3, .int 0, .int 0, .int 0, .int 0, .int 0, .int 0, .int 0, .int 0, .int 0, .int 0, .ref m14, .ref m15, .ref m16, .ref m17, .ref m18, .ref m19, .ref m20, .ref m21, .ref m22, .ref m23, .ref m24, .ref m25, .ref m26, .int 0, .ref m28, .ref m29, .ref m30, .ref m31, .int 0, .int 0, .int 0, .int 0, .int 0, .int 0, .ref m38, .ref m39, .ref m40, .ref m41, .ref m42, .ref m43, .ref m44, .ref m45, .ref m46, .int 0])) : xI E l yX12_undo cX12_undo 1 (some .boolean) 1 [.ref mm] ws (fun r w => r = 0) := by
  refine xI_start (lv := [(0, .ref mm)]) RX12 (by decide) rfl (Nat.le_of_ble_eq_true rfl) rfl (fun p e s m below meth c A C hr hlk => ?_)
  refine x_aload_n C dX12_undo_0 rfl 0 rfl rfl ?_
  refine x_get C (ci := 11) (k := 47) 0 k_0 rfl in_X12 (by decide) w_1165 rfl dX12_undo_1 rfl ?_
  refine x_if_ne C (tgt := 9) dX12_undo_4 (by decide) rfl (fun h => absurd h (by decide)) (fun _ => ?_)
  refine x_iconst C (v := 0) dX12_undo_7 (by decide) rfl ?_
  exact x_zret C hr hlk rfl dX12_undo_8 (by first | rfl | trivial | (simp [bI]; done) | (simp_all [bI]; done))
theorem dX12_thefts_0 : decode cX12_thefts 0 = .ok (.aload_n 0, 1) := by decide +kernel
theorem dX12_thefts_1 : decode cX12_thefts 1 = .ok (.iload_n 1, 1) := by decide +kernel
theorem dX12_thefts_2 : decode cX12_thefts 2 = .ok (.invokevirtual 113, 3) := by decide +kernel
theorem dX12_thefts_5 : decode cX12_thefts 5 = .ok (.ifCond .eq 9, 3) := by decide +kernel
theorem dX12_thefts_14 : decode cX12_thefts 14 = .ok (.iload_n 1, 1) := by decide +kernel
theorem dX12_thefts_15 : decode cX12_thefts 15 = .ok (.bipush 10, 2) := by decide +kernel
theorem dX12_thefts_17 : decode cX12_thefts 17 = .ok (.bipush 11, 2) := by decide +kernel
theorem dX12_thefts_19 : decode cX12_thefts 19 = .ok (.invokestatic 109, 3) := by decide +kernel
theorem dX12_thefts_22 : decode cX12_thefts 22 = .ok (.ifCond .ne 7, 3) := by decide +kernel
theorem dX12_thefts_25 : decode cX12_thefts 25 = .ok (.ldc_w 392, 3) := by decide +kernel
theorem dX12_thefts_28 : decode cX12_thefts 28 = .ok (.ireturn, 1) := by decide +kernel
theorem dX12_thefts_29 : decode cX12_thefts 29 = .ok (.bipush (-2), 2) := by decide +kernel
theorem dX12_thefts_31 : decode cX12_thefts 31 = .ok (.istore_n 2, 1) := by decide +kernel
theorem dX12_thefts_32 : decode cX12_thefts 32 = .ok (.iconst 0, 1) := by decide +kernel
theorem dX12_thefts_33 : decode cX12_thefts 33 = .ok (.istore_n 3, 1) := by decide +kernel
theorem dX12_thefts_34 : decode cX12_thefts 34 = .ok (.iconst 0, 1) := by decide +kernel
theorem dX12_thefts_35 : decode cX12_thefts 35 = .ok (.istore 4, 2) := by decide +kernel
theorem dX12_thefts_37 : decode cX12_thefts 37 = .ok (.iload 4, 2) := by decide +kernel
theorem dX12_thefts_39 : decode cX12_thefts 39 = .ok (.bipush 8, 2) := by decide +kernel
theorem dX12_thefts_41 : decode cX12_thefts 41 = .ok (.if_icmp .ge 57, 3) := by decide +kernel
theorem dX12_thefts_44 : decode cX12_thefts 44 = .ok (.aload_n 0, 1) := by decide +kernel
theorem dX12_thefts_45 : decode cX12_thefts 45 = .ok (.iload 4, 2) := by decide +kernel
theorem dX12_thefts_47 : decode cX12_thefts 47 = .ok (.invokevirtual 113, 3) := by decide +kernel
theorem dX12_thefts_50 : decode cX12_thefts 50 = .ok (.ifCond .eq 42, 3) := by decide +kernel
theorem dX12_thefts_92 : decode cX12_thefts 92 = .ok (.iinc 4 1, 3) := by decide +kernel
theorem dX12_thefts_95 : decode cX12_thefts 95 = .ok (.goto (-58), 3) := by decide +kernel
theorem dX12_thefts_98 : decode cX12_thefts 98 = .ok (.iload_n 1, 1) := by decide +kernel
theorem dX12_thefts_99 : decode cX12_thefts 99 = .ok (.bipush 10, 2) := by decide +kernel
theorem dX12_thefts_101 : decode cX12_thefts 101 = .ok (.if_icmp .ne 7, 3) := by decide +kernel
theorem dX12_thefts_104 : decode cX12_thefts 104 = .ok (.iload_n 2, 1) := by decide +kernel
theorem dX12_thefts_105 : decode cX12_thefts 105 = .ok (.goto 4, 3) := by decide +kernel
theorem dX12_thefts_108 : decode cX12_thefts 108 = .ok (.iload_n 3, 1) := by decide +kernel
theorem dX12_thefts_109 : decode cX12_thefts 109 = .ok (.ireturn, 1) := by decide +kernel
set_option maxRecDepth 20000 in
set_option maxHeartbeats 4000000 in
theorem e_thefts (E : xE) (l : Launch) (ws : va_W) {mm m0 m1 m2 m3 m14 m15 m16 m17 m18 m19 m20 m21 m22 m23 m24 m25 m26 m28 m29 m30 m31 m38 m39 m40 m41 m42 m43 m44 m45 m46 : Nat} {fn : Nat → Int32} (p_0 : Nat) (k_0 : ws[0]? = some (ob mm 11 [.ref m0, .ref m1, .ref m2, .ref m3, .int 0, .int 0, .int 0, .int 0, .int 0, .int 0, .int 0, .int 0, .int 0, .int 0, .ref m14, .ref m15, .ref m16, .ref m17, .ref m18, .ref m19, .ref m20, .ref m21, .ref m22, .ref m23, .ref m24, .ref m25, .ref m26, .int 0, .ref m28, .ref m29, .ref m30, .ref m31, .int 0, .int 0, .int 0, .int 0, .int 0, .int 0, .ref m38, .ref m39, .ref m40, .ref m41, .ref m42, .ref m43, .ref m44, .ref m45, .ref m46, .int 0])) (p_1 : Nat) (k_1 : ws[1]? = some (iA E m0 382 fn)) (wh : Int32) (h320 : fn 320 = 0) : xI E l yX12_thefts cX12_thefts 5 (some .int) 2 [.ref mm, .int wh] ws (fun r w => r = thf wh) := by
  refine xI_start (lv := [(0, .ref mm), (1, .int wh)]) RX12 (by decide) rfl (Nat.le_of_ble_eq_true rfl) rfl (fun p e s m below meth c A C hr hlk => ?_)
  refine x_aload_n C dX12_thefts_0 rfl 0 rfl rfl ?_
  refine x_iload_n C dX12_thefts_1 rfl 1 rfl rfl ?_
  refine x_vi C (As := [.int wh]) (rest := []) (e_isPerson E l ws 0 k_0 1 k_1 wh h320) mf_X12_isPerson w_1270 0 k_0 rfl rfl rfl (Nat.le_of_ble_eq_true rfl) ⟨(Nat.le_of_ble_eq_true rfl), (Nat.le_of_ble_eq_true rfl)⟩ ⟨(Nat.le_of_ble_eq_true rfl), (Nat.le_of_ble_eq_true rfl)⟩ dX12_thefts_2 rfl (fun r2 w3 h1 => ?_)
  obtain ⟨e4, g5⟩ := h1
  refine x_top e4 ?_
  refine x_ws g5 ?_
  refine x_if_eq C (tgt := 14) dX12_thefts_5 (by decide) rfl (fun _ => ?_) (fun h => absurd h (by decide))
  refine x_iload_n C dX12_thefts_14 rfl 1 rfl rfl ?_
  refine x_bipush C (v := 10) dX12_thefts_15 (by decide) rfl ?_
  refine x_bipush C (v := 11) dX12_thefts_17 (by decide) rfl ?_
  refine x_si C (As := [.int wh, .int 10, .int 11]) (rest := []) (e_in E l ws wh 10 11) mf_X12_in w_1267 rfl rfl (Nat.le_of_ble_eq_true rfl) ⟨(Nat.le_of_ble_eq_true rfl), (Nat.le_of_ble_eq_true rfl)⟩ ⟨(Nat.le_of_ble_eq_true rfl), (Nat.le_of_ble_eq_true rfl)⟩ dX12_thefts_19 rfl (fun r7 w8 h6 => ?_)
  obtain ⟨e9, g10⟩ := h6
  refine x_top e9 ?_
  refine x_ws g10 ?_
  refine x_if_ne C (tgt := 29) dX12_thefts_22 (by decide) rfl (fun c11 => ?_) (fun c11 => ?_)
  · skip
    have b12 := bI_n0 c11
    refine x_bipush C (v := (-2)) dX12_thefts_29 (by decide) rfl ?_
    refine x_istore_n C (lv' := [(2, .int (-2)), (0, .ref mm), (1, .int wh)]) dX12_thefts_31 rfl (by decide) rfl rfl ?_
    refine x_iconst C (v := 0) dX12_thefts_32 (by decide) rfl ?_
    refine x_istore_n C (lv' := [(3, .int 0), (2, .int (-2)), (0, .ref mm), (1, .int wh)]) dX12_thefts_33 rfl (by decide) rfl rfl ?_
    refine x_iconst C (v := 0) dX12_thefts_34 (by decide) rfl ?_
    refine x_istore C (lv' := [(4, .int 0), (3, .int 0), (2, .int (-2)), (0, .ref mm), (1, .int wh)]) dX12_thefts_35 (by decide) rfl rfl ?_
    refine x_iload C dX12_thefts_37 0 rfl rfl ?_
    refine x_bipush C (v := 8) dX12_thefts_39 (by decide) rfl ?_
    refine x_icmp_ge C (tgt := 98) dX12_thefts_41 (by decide) rfl (fun h => absurd h (by decide)) (fun _ => ?_)
    refine x_aload_n C dX12_thefts_44 rfl 3 rfl rfl ?_
    refine x_iload C dX12_thefts_45 0 rfl rfl ?_
    refine x_vi C (As := [.int 0]) (rest := []) (e_isPerson E l ws 0 k_0 1 k_1 0 h320) mf_X12_isPerson w_1270 0 k_0 rfl rfl rfl (Nat.le_of_ble_eq_true rfl) ⟨(Nat.le_of_ble_eq_true rfl), (Nat.le_of_ble_eq_true rfl)⟩ ⟨(Nat.le_of_ble_eq_true rfl), (Nat.le_of_ble_eq_true rfl)⟩ dX12_thefts_47 rfl (fun r14 w15 h13 => ?_)
    obtain ⟨e16, g17⟩ := h13
    refine x_top e16 ?_
    refine x_ws g17 ?_
    refine x_if_eq C (tgt := 92) dX12_thefts_50 (by decide) rfl (fun _ => ?_) (fun h => absurd h (by decide))
    refine x_iinc C (v := 1) (lv' := [(4, .int 1), (3, .int 0), (2, .int (-2)), (0, .ref mm), (1, .int wh)]) dX12_thefts_92 0 rfl (by decide) (by decide) rfl rfl ?_
    refine x_goto C (tgt := 37) dX12_thefts_95 (by decide) ?_
    refine x_iload C dX12_thefts_37 0 rfl rfl ?_
    refine x_bipush C (v := 8) dX12_thefts_39 (by decide) rfl ?_
    refine x_icmp_ge C (tgt := 98) dX12_thefts_41 (by decide) rfl (fun h => absurd h (by decide)) (fun _ => ?_)
    refine x_aload_n C dX12_thefts_44 rfl 3 rfl rfl ?_
    refine x_iload C dX12_thefts_45 0 rfl rfl ?_
    refine x_vi C (As := [.int 1]) (rest := []) (e_isPerson E l ws 0 k_0 1 k_1 1 h320) mf_X12_isPerson w_1270 0 k_0 rfl rfl rfl (Nat.le_of_ble_eq_true rfl) ⟨(Nat.le_of_ble_eq_true rfl), (Nat.le_of_ble_eq_true rfl)⟩ ⟨(Nat.le_of_ble_eq_true rfl), (Nat.le_of_ble_eq_true rfl)⟩ dX12_thefts_47 rfl (fun r19 w20 h18 => ?_)
    obtain ⟨e21, g22⟩ := h18
    refine x_top e21 ?_
    refine x_ws g22 ?_
    refine x_if_eq C (tgt := 92) dX12_thefts_50 (by decide) rfl (fun _ => ?_) (fun h => absurd h (by decide))
    refine x_iinc C (v := 2) (lv' := [(4, .int 2), (3, .int 0), (2, .int (-2)), (0, .ref mm), (1, .int wh)]) dX12_thefts_92 0 rfl (by decide) (by decide) rfl rfl ?_
    refine x_goto C (tgt := 37) dX12_thefts_95 (by decide) ?_
    refine x_iload C dX12_thefts_37 0 rfl rfl ?_
    refine x_bipush C (v := 8) dX12_thefts_39 (by decide) rfl ?_
    refine x_icmp_ge C (tgt := 98) dX12_thefts_41 (by decide) rfl (fun h => absurd h (by decide)) (fun _ => ?_)
    refine x_aload_n C dX12_thefts_44 rfl 3 rfl rfl ?_
    refine x_iload C dX12_thefts_45 0 rfl rfl ?_
    refine x_vi C (As := [.int 2]) (rest := []) (e_isPerson E l ws 0 k_0 1 k_1 2 h320) mf_X12_isPerson w_1270 0 k_0 rfl rfl rfl (Nat.le_of_ble_eq_true rfl) ⟨(Nat.le_of_ble_eq_true rfl), (Nat.le_of_ble_eq_true rfl)⟩ ⟨(Nat.le_of_ble_eq_true rfl), (Nat.le_of_ble_eq_true rfl)⟩ dX12_thefts_47 rfl (fun r24 w25 h23 => ?_)
    obtain ⟨e26, g27⟩ := h23
    refine x_top e26 ?_
    refine x_ws g27 ?_
    refine x_if_eq C (tgt := 92) dX12_thefts_50 (by decide) rfl (fun _ => ?_) (fun h => absurd h (by decide))
    refine x_iinc C (v := 3) (lv' := [(4, .int 3), (3, .int 0), (2, .int (-2)), (0, .ref mm), (1, .int wh)]) dX12_thefts_92 0 rfl (by decide) (by decide) rfl rfl ?_
    refine x_goto C (tgt := 37) dX12_thefts_95 (by decide) ?_
    refine x_iload C dX12_thefts_37 0 rfl rfl ?_
    refine x_bipush C (v := 8) dX12_thefts_39 (by decide) rfl ?_
    refine x_icmp_ge C (tgt := 98) dX12_thefts_41 (by decide) rfl (fun h => absurd h (by decide)) (fun _ => ?_)
    refine x_aload_n C dX12_thefts_44 rfl 3 rfl rfl ?_
    refine x_iload C dX12_thefts_45 0 rfl rfl ?_
    refine x_vi C (As := [.int 3]) (rest := []) (e_isPerson E l ws 0 k_0 1 k_1 3 h320) mf_X12_isPerson w_1270 0 k_0 rfl rfl rfl (Nat.le_of_ble_eq_true rfl) ⟨(Nat.le_of_ble_eq_true rfl), (Nat.le_of_ble_eq_true rfl)⟩ ⟨(Nat.le_of_ble_eq_true rfl), (Nat.le_of_ble_eq_true rfl)⟩ dX12_thefts_47 rfl (fun r29 w30 h28 => ?_)
    obtain ⟨e31, g32⟩ := h28
    refine x_top e31 ?_
    refine x_ws g32 ?_
    refine x_if_eq C (tgt := 92) dX12_thefts_50 (by decide) rfl (fun _ => ?_) (fun h => absurd h (by decide))
    refine x_iinc C (v := 4) (lv' := [(4, .int 4), (3, .int 0), (2, .int (-2)), (0, .ref mm), (1, .int wh)]) dX12_thefts_92 0 rfl (by decide) (by decide) rfl rfl ?_
    refine x_goto C (tgt := 37) dX12_thefts_95 (by decide) ?_
    refine x_iload C dX12_thefts_37 0 rfl rfl ?_
    refine x_bipush C (v := 8) dX12_thefts_39 (by decide) rfl ?_
    refine x_icmp_ge C (tgt := 98) dX12_thefts_41 (by decide) rfl (fun h => absurd h (by decide)) (fun _ => ?_)
    refine x_aload_n C dX12_thefts_44 rfl 3 rfl rfl ?_
    refine x_iload C dX12_thefts_45 0 rfl rfl ?_
    refine x_vi C (As := [.int 4]) (rest := []) (e_isPerson E l ws 0 k_0 1 k_1 4 h320) mf_X12_isPerson w_1270 0 k_0 rfl rfl rfl (Nat.le_of_ble_eq_true rfl) ⟨(Nat.le_of_ble_eq_true rfl), (Nat.le_of_ble_eq_true rfl)⟩ ⟨(Nat.le_of_ble_eq_true rfl), (Nat.le_of_ble_eq_true rfl)⟩ dX12_thefts_47 rfl (fun r34 w35 h33 => ?_)
    obtain ⟨e36, g37⟩ := h33
    refine x_top e36 ?_
    refine x_ws g37 ?_
    refine x_if_eq C (tgt := 92) dX12_thefts_50 (by decide) rfl (fun _ => ?_) (fun h => absurd h (by decide))
    refine x_iinc C (v := 5) (lv' := [(4, .int 5), (3, .int 0), (2, .int (-2)), (0, .ref mm), (1, .int wh)]) dX12_thefts_92 0 rfl (by decide) (by decide) rfl rfl ?_
    refine x_goto C (tgt := 37) dX12_thefts_95 (by decide) ?_
    refine x_iload C dX12_thefts_37 0 rfl rfl ?_
    refine x_bipush C (v := 8) dX12_thefts_39 (by decide) rfl ?_
    refine x_icmp_ge C (tgt := 98) dX12_thefts_41 (by decide) rfl (fun h => absurd h (by decide)) (fun _ => ?_)
    refine x_aload_n C dX12_thefts_44 rfl 3 rfl rfl ?_
    refine x_iload C dX12_thefts_45 0 rfl rfl ?_
    refine x_vi C (As := [.int 5]) (rest := []) (e_isPerson E l ws 0 k_0 1 k_1 5 h320) mf_X12_isPerson w_1270 0 k_0 rfl rfl rfl (Nat.le_of_ble_eq_true rfl) ⟨(Nat.le_of_ble_eq_true rfl), (Nat.le_of_ble_eq_true rfl)⟩ ⟨(Nat.le_of_ble_eq_true rfl), (Nat.le_of_ble_eq_true rfl)⟩ dX12_thefts_47 rfl (fun r39 w40 h38 => ?_)
    obtain ⟨e41, g42⟩ := h38
    refine x_top e41 ?_
    refine x_ws g42 ?_
    refine x_if_eq C (tgt := 92) dX12_thefts_50 (by decide) rfl (fun _ => ?_) (fun h => absurd h (by decide))
    refine x_iinc C (v := 6) (lv' := [(4, .int 6), (3, .int 0), (2, .int (-2)), (0, .ref mm), (1, .int wh)]) dX12_thefts_92 0 rfl (by decide) (by decide) rfl rfl ?_
    refine x_goto C (tgt := 37) dX12_thefts_95 (by decide) ?_
    refine x_iload C dX12_thefts_37 0 rfl rfl ?_
    refine x_bipush C (v := 8) dX12_thefts_39 (by decide) rfl ?_
    refine x_icmp_ge C (tgt := 98) dX12_thefts_41 (by decide) rfl (fun h => absurd h (by decide)) (fun _ => ?_)
    refine x_aload_n C dX12_thefts_44 rfl 3 rfl rfl ?_
    refine x_iload C dX12_thefts_45 0 rfl rfl ?_
    refine x_vi C (As := [.int 6]) (rest := []) (e_isPerson E l ws 0 k_0 1 k_1 6 h320) mf_X12_isPerson w_1270 0 k_0 rfl rfl rfl (Nat.le_of_ble_eq_true rfl) ⟨(Nat.le_of_ble_eq_true rfl), (Nat.le_of_ble_eq_true rfl)⟩ ⟨(Nat.le_of_ble_eq_true rfl), (Nat.le_of_ble_eq_true rfl)⟩ dX12_thefts_47 rfl (fun r44 w45 h43 => ?_)
    obtain ⟨e46, g47⟩ := h43
    refine x_top e46 ?_
    refine x_ws g47 ?_
    refine x_if_eq C (tgt := 92) dX12_thefts_50 (by decide) rfl (fun _ => ?_) (fun h => absurd h (by decide))
    refine x_iinc C (v := 7) (lv' := [(4, .int 7), (3, .int 0), (2, .int (-2)), (0, .ref mm), (1, .int wh)]) dX12_thefts_92 0 rfl (by decide) (by decide) rfl rfl ?_
    refine x_goto C (tgt := 37) dX12_thefts_95 (by decide) ?_
    refine x_iload C dX12_thefts_37 0 rfl rfl ?_
    refine x_bipush C (v := 8) dX12_thefts_39 (by decide) rfl ?_
    refine x_icmp_ge C (tgt := 98) dX12_thefts_41 (by decide) rfl (fun h => absurd h (by decide)) (fun _ => ?_)
    refine x_aload_n C dX12_thefts_44 rfl 3 rfl rfl ?_
    refine x_iload C dX12_thefts_45 0 rfl rfl ?_
    refine x_vi C (As := [.int 7]) (rest := []) (e_isPerson E l ws 0 k_0 1 k_1 7 h320) mf_X12_isPerson w_1270 0 k_0 rfl rfl rfl (Nat.le_of_ble_eq_true rfl) ⟨(Nat.le_of_ble_eq_true rfl), (Nat.le_of_ble_eq_true rfl)⟩ ⟨(Nat.le_of_ble_eq_true rfl), (Nat.le_of_ble_eq_true rfl)⟩ dX12_thefts_47 rfl (fun r49 w50 h48 => ?_)
    obtain ⟨e51, g52⟩ := h48
    refine x_top e51 ?_
    refine x_ws g52 ?_
    refine x_if_eq C (tgt := 92) dX12_thefts_50 (by decide) rfl (fun _ => ?_) (fun h => absurd h (by decide))
    refine x_iinc C (v := 8) (lv' := [(4, .int 8), (3, .int 0), (2, .int (-2)), (0, .ref mm), (1, .int wh)]) dX12_thefts_92 0 rfl (by decide) (by decide) rfl rfl ?_
    refine x_goto C (tgt := 37) dX12_thefts_95 (by decide) ?_
    refine x_iload C dX12_thefts_37 0 rfl rfl ?_
    refine x_bipush C (v := 8) dX12_thefts_39 (by decide) rfl ?_
    refine x_icmp_ge C (tgt := 98) dX12_thefts_41 (by decide) rfl (fun _ => ?_) (fun h => absurd h (by decide))
    refine x_iload_n C dX12_thefts_98 rfl 4 rfl rfl ?_
    refine x_bipush C (v := 10) dX12_thefts_99 (by decide) rfl ?_
    refine x_icmp_ne C (tgt := 108) dX12_thefts_101 (by decide) rfl (fun c53 => ?_) (fun c53 => ?_)
    · skip
      refine x_iload_n C dX12_thefts_108 rfl 1 rfl rfl ?_
      exact x_zret C hr hlk rfl dX12_thefts_109 (by rw [thf]; simp [b12, c53])
    · skip
      refine x_iload_n C dX12_thefts_104 rfl 2 rfl rfl ?_
      refine x_goto C (tgt := 109) dX12_thefts_105 (by decide) ?_
      exact x_zret C hr hlk rfl dX12_thefts_109 (by rw [thf]; simp [b12, c53])
  · skip
    have b54 := bI_e0 c11
    refine x_ldcw C w_1637 dX12_thefts_25 rfl ?_
    exact x_zret C hr hlk rfl dX12_thefts_28 (by rw [thf]; simp [b54])
theorem dX12_check_0 : decode cX12_check 0 = .ok (.iload_n 1, 1) := by decide +kernel
theorem dX12_check_1 : decode cX12_check 1 = .ok (.iconst 0, 1) := by decide +kernel
theorem dX12_check_2 : decode cX12_check 2 = .ok (.bipush 48, 2) := by decide +kernel
theorem dX12_check_4 : decode cX12_check 4 = .ok (.invokestatic 109, 3) := by decide +kernel
theorem dX12_check_7 : decode cX12_check 7 = .ok (.ifCond .eq 13, 3) := by decide +kernel
theorem dX12_check_10 : decode cX12_check 10 = .ok (.iload_n 1, 1) := by decide +kernel
theorem dX12_check_11 : decode cX12_check 11 = .ok (.aload_n 0, 1) := by decide +kernel
theorem dX12_check_12 : decode cX12_check 12 = .ok (.getfield 123, 3) := by decide +kernel
theorem dX12_check_15 : decode cX12_check 15 = .ok (.iconst 4, 1) := by decide +kernel
theorem dX12_check_16 : decode cX12_check 16 = .ok (.idiv, 1) := by decide +kernel
theorem dX12_check_17 : decode cX12_check 17 = .ok (.if_icmp .le 6, 3) := by decide +kernel
theorem dX12_check_20 : decode cX12_check 20 = .ok (.bipush (-2), 2) := by decide +kernel
theorem dX12_check_22 : decode cX12_check 22 = .ok (.ireturn, 1) := by decide +kernel
theorem dX12_check_23 : decode cX12_check 23 = .ok (.aload_n 0, 1) := by decide +kernel
theorem dX12_check_24 : decode cX12_check 24 = .ok (.iconst 0, 1) := by decide +kernel
theorem dX12_check_25 : decode cX12_check 25 = .ok (.putfield 123, 3) := by decide +kernel
theorem dX12_check_28 : decode cX12_check 28 = .ok (.iconst 0, 1) := by decide +kernel
theorem dX12_check_29 : decode cX12_check 29 = .ok (.istore_n 2, 1) := by decide +kernel
theorem dX12_check_30 : decode cX12_check 30 = .ok (.iload_n 2, 1) := by decide +kernel
theorem dX12_check_31 : decode cX12_check 31 = .ok (.iload_n 1, 1) := by decide +kernel
theorem dX12_check_32 : decode cX12_check 32 = .ok (.if_icmp .ge 39, 3) := by decide +kernel
theorem dX12_check_71 : decode cX12_check 71 = .ok (.iconst (-1), 1) := by decide +kernel
theorem dX12_check_72 : decode cX12_check 72 = .ok (.ireturn, 1) := by decide +kernel
set_option maxRecDepth 20000 in
set_option maxHeartbeats 4000000 in
theorem e_check (E : xE) (l : Launch) (ws : va_W) {mm m0 m1 m2 m3 m14 m15 m16 m17 m18 m19 m20 m21 m22 m23 m24 m25 m26 m28 m29 m30 m31 m38 m39 m40 m41 m42 m43 m44 m45 m46 : Nat} (p_0 : Nat) (k_0 : ws[0]? = some (ob mm 11 [.ref m0, .ref m1, .ref m2, .ref m3, .int 0, .int 0, .int 0, .int 0, .int 0, .int 0, .int 0, .int 0, .int 0, .int 0, .ref m14, .ref m15, .ref m16, .ref m17, .ref m18, .ref m19, .ref m20, .ref m21, .ref m22, .ref m23, .ref m24, .ref m25, .ref m26, .int 0, .ref m28, .ref m29, .ref m30, .ref m31, .int 0, .int 0, .int 0, .int 0, .int 0, .int 0, .ref m38, .ref m39, .ref m40, .ref m41, .ref m42, .ref m43, .ref m44, .ref m45, .ref m46, .int 0])) (n : Int32) : xI E l yX12_check cX12_check 3 (some .int) 1 [.ref mm, .int n] ws (fun r w => r = if n = 0 then -1 else -2) := by
  refine xI_start (lv := [(0, .ref mm), (1, .int n)]) RX12 (by decide) rfl (Nat.le_of_ble_eq_true rfl) rfl (fun p e s m below meth c A C hr hlk => ?_)
  refine x_iload_n C dX12_check_0 rfl 1 rfl rfl ?_
  refine x_iconst C (v := 0) dX12_check_1 (by decide) rfl ?_
  refine x_bipush C (v := 48) dX12_check_2 (by decide) rfl ?_
  refine x_si C (As := [.int n, .int 0, .int 48]) (rest := []) (e_in E l ws n 0 48) mf_X12_in w_1267 rfl rfl (Nat.le_of_ble_eq_true rfl) ⟨(Nat.le_of_ble_eq_true rfl), (Nat.le_of_ble_eq_true rfl)⟩ ⟨(Nat.le_of_ble_eq_true rfl), (Nat.le_of_ble_eq_true rfl)⟩ dX12_check_4 rfl (fun r2 w3 h1 => ?_)
  obtain ⟨e4, g5⟩ := h1
  refine x_top e4 ?_
  refine x_ws g5 ?_
  refine x_if_eq C (tgt := 20) dX12_check_7 (by decide) rfl (fun c6 => ?_) (fun c6 => ?_)
  · skip
    have b7 := bI_e0 c6
    refine x_bipush C (v := (-2)) dX12_check_20 (by decide) rfl ?_
    exact x_zret C hr hlk rfl dX12_check_22 (by rw [if_neg (chk_b b7)])
  · skip
    have b8 := bI_n0 c6
    refine x_iload_n C dX12_check_10 rfl 1 rfl rfl ?_
    refine x_aload_n C dX12_check_11 rfl 0 rfl rfl ?_
    refine x_get C (ci := 11) (k := 4) 0 k_0 rfl in_X12 (by decide) w_1122 rfl dX12_check_12 rfl ?_
    refine x_iconst C (v := 4) dX12_check_15 (by decide) rfl ?_
    refine x_idiv C (v := 0) dX12_check_16 (by decide) (by decide) rfl ?_
    refine x_icmp_le C (tgt := 23) dX12_check_17 (by decide) rfl (fun c9 => ?_) (fun c9 => ?_)
    · skip
      refine x_aload_n C dX12_check_23 rfl 0 rfl rfl ?_
      refine x_iconst C (v := 0) dX12_check_24 (by decide) rfl ?_
      obtain ⟨w10, hw11⟩ : ∃ w : va_W, w = List.set ws 0 (ob mm 11 [.ref m0, .ref m1, .ref m2, .ref m3, .int 0, .int 0, .int 0, .int 0, .int 0, .int 0, .int 0, .int 0, .int 0, .int 0, .ref m14, .ref m15, .ref m16, .ref m17, .ref m18, .ref m19, .ref m20, .ref m21, .ref m22, .ref m23, .ref m24, .ref m25, .ref m26, .int 0, .ref m28, .ref m29, .ref m30, .ref m31, .int 0, .int 0, .int 0, .int 0, .int 0, .int 0, .ref m38, .ref m39, .ref m40, .ref m41, .ref m42, .ref m43, .ref m44, .ref m45, .ref m46, .int 0]) := ⟨_, rfl⟩
      refine x_put C (ci := 11) (k := 4) (ty := .int) 0 k_0 rfl in_X12 tyX12 tyX12_ok nmX12 (by decide) w_1122 rfl rfl rfl rfl (Nat.le_of_ble_eq_true rfl) hw11.symm dX12_check_25 rfl ?_
      have k12 : w10[0]? = some (ob mm 11 [.ref m0, .ref m1, .ref m2, .ref m3, .int 0, .int 0, .int 0, .int 0, .int 0, .int 0, .int 0, .int 0, .int 0, .int 0, .ref m14, .ref m15, .ref m16, .ref m17, .ref m18, .ref m19, .ref m20, .ref m21, .ref m22, .ref m23, .ref m24, .ref m25, .ref m26, .int 0, .ref m28, .ref m29, .ref m30, .ref m31, .int 0, .int 0, .int 0, .int 0, .int 0, .int 0, .ref m38, .ref m39, .ref m40, .ref m41, .ref m42, .ref m43, .ref m44, .ref m45, .ref m46, .int 0]) := by rw [hw11]; exact set_eq k_0
      refine x_iconst C (v := 0) dX12_check_28 (by decide) rfl ?_
      refine x_istore_n C (lv' := [(2, .int 0), (0, .ref mm), (1, .int n)]) dX12_check_29 rfl (by decide) rfl rfl ?_
      refine x_iload_n C dX12_check_30 rfl 0 rfl rfl ?_
      refine x_iload_n C dX12_check_31 rfl 2 rfl rfl ?_
      refine x_icmp_ge C (tgt := 71) dX12_check_32 (by decide) rfl (fun _ => ?_) (fun h => absurd c9 h)
      refine x_iconst C (v := (-1)) dX12_check_71 (by decide) rfl ?_
      exact x_zret C hr hlk rfl dX12_check_72 (by rw [if_pos (chk_a b8 c9)])
    · skip
      refine x_bipush C (v := (-2)) dX12_check_20 (by decide) rfl ?_
      exact x_zret C hr hlk rfl dX12_check_22 (by rw [if_neg (chk_c c9)])
theorem dX12_count_0 : decode cX12_count 0 = .ok (.iload_n 1, 1) := by decide +kernel
theorem dX12_count_1 : decode cX12_count 1 = .ok (.tableswitch 141 0 10 #[59, 68, 77, 83, 89, 95, 100, 105, 114, 123, 132], 59) := by decide +kernel
theorem dX12_count_60 : decode cX12_count 60 = .ok (.aload_n 0, 1) := by decide +kernel
theorem dX12_count_61 : decode cX12_count 61 = .ok (.getfield 7, 3) := by decide +kernel
theorem dX12_count_64 : decode cX12_count 64 = .ok (.sipush 379, 3) := by decide +kernel
theorem dX12_count_67 : decode cX12_count 67 = .ok (.iaload, 1) := by decide +kernel
theorem dX12_count_68 : decode cX12_count 68 = .ok (.ireturn, 1) := by decide +kernel
theorem dX12_count_69 : decode cX12_count 69 = .ok (.aload_n 0, 1) := by decide +kernel
theorem dX12_count_70 : decode cX12_count 70 = .ok (.getfield 7, 3) := by decide +kernel
theorem dX12_count_73 : decode cX12_count 73 = .ok (.sipush 381, 3) := by decide +kernel
theorem dX12_count_76 : decode cX12_count 76 = .ok (.iaload, 1) := by decide +kernel
theorem dX12_count_77 : decode cX12_count 77 = .ok (.ireturn, 1) := by decide +kernel
theorem dX12_count_78 : decode cX12_count 78 = .ok (.aload_n 0, 1) := by decide +kernel
theorem dX12_count_79 : decode cX12_count 79 = .ok (.iconst 0, 1) := by decide +kernel
theorem dX12_count_80 : decode cX12_count 80 = .ok (.invokevirtual 331, 3) := by decide +kernel
theorem dX12_count_83 : decode cX12_count 83 = .ok (.ireturn, 1) := by decide +kernel
theorem dX12_count_84 : decode cX12_count 84 = .ok (.aload_n 0, 1) := by decide +kernel
theorem dX12_count_85 : decode cX12_count 85 = .ok (.iconst 1, 1) := by decide +kernel
theorem dX12_count_86 : decode cX12_count 86 = .ok (.invokevirtual 331, 3) := by decide +kernel
theorem dX12_count_89 : decode cX12_count 89 = .ok (.ireturn, 1) := by decide +kernel
theorem dX12_count_90 : decode cX12_count 90 = .ok (.aload_n 0, 1) := by decide +kernel
theorem dX12_count_91 : decode cX12_count 91 = .ok (.iconst 2, 1) := by decide +kernel
theorem dX12_count_92 : decode cX12_count 92 = .ok (.invokevirtual 331, 3) := by decide +kernel
theorem dX12_count_95 : decode cX12_count 95 = .ok (.ireturn, 1) := by decide +kernel
theorem dX12_count_96 : decode cX12_count 96 = .ok (.aload_n 0, 1) := by decide +kernel
theorem dX12_count_97 : decode cX12_count 97 = .ok (.getfield 223, 3) := by decide +kernel
theorem dX12_count_100 : decode cX12_count 100 = .ok (.ireturn, 1) := by decide +kernel
theorem dX12_count_101 : decode cX12_count 101 = .ok (.aload_n 0, 1) := by decide +kernel
theorem dX12_count_102 : decode cX12_count 102 = .ok (.getfield 123, 3) := by decide +kernel
theorem dX12_count_105 : decode cX12_count 105 = .ok (.ireturn, 1) := by decide +kernel
theorem dX12_count_106 : decode cX12_count 106 = .ok (.aload_n 0, 1) := by decide +kernel
theorem dX12_count_107 : decode cX12_count 107 = .ok (.getfield 7, 3) := by decide +kernel
theorem dX12_count_110 : decode cX12_count 110 = .ok (.sipush 380, 3) := by decide +kernel
theorem dX12_count_113 : decode cX12_count 113 = .ok (.iaload, 1) := by decide +kernel
theorem dX12_count_114 : decode cX12_count 114 = .ok (.ireturn, 1) := by decide +kernel
theorem dX12_count_115 : decode cX12_count 115 = .ok (.aload_n 0, 1) := by decide +kernel
theorem dX12_count_116 : decode cX12_count 116 = .ok (.getfield 7, 3) := by decide +kernel
theorem dX12_count_119 : decode cX12_count 119 = .ok (.sipush 320, 3) := by decide +kernel
theorem dX12_count_122 : decode cX12_count 122 = .ok (.iaload, 1) := by decide +kernel
theorem dX12_count_123 : decode cX12_count 123 = .ok (.ireturn, 1) := by decide +kernel
theorem dX12_count_124 : decode cX12_count 124 = .ok (.aload_n 0, 1) := by decide +kernel
theorem dX12_count_125 : decode cX12_count 125 = .ok (.getfield 7, 3) := by decide +kernel
theorem dX12_count_128 : decode cX12_count 128 = .ok (.sipush 337, 3) := by decide +kernel
theorem dX12_count_131 : decode cX12_count 131 = .ok (.iaload, 1) := by decide +kernel
theorem dX12_count_132 : decode cX12_count 132 = .ok (.ireturn, 1) := by decide +kernel
theorem dX12_count_133 : decode cX12_count 133 = .ok (.aload_n 0, 1) := by decide +kernel
theorem dX12_count_134 : decode cX12_count 134 = .ok (.getfield 7, 3) := by decide +kernel
theorem dX12_count_137 : decode cX12_count 137 = .ok (.sipush 378, 3) := by decide +kernel
theorem dX12_count_140 : decode cX12_count 140 = .ok (.iaload, 1) := by decide +kernel
theorem dX12_count_141 : decode cX12_count 141 = .ok (.ireturn, 1) := by decide +kernel
theorem dX12_count_142 : decode cX12_count 142 = .ok (.iload_n 1, 1) := by decide +kernel
theorem dX12_count_143 : decode cX12_count 143 = .ok (.bipush 20, 2) := by decide +kernel
theorem dX12_count_145 : decode cX12_count 145 = .ok (.bipush 27, 2) := by decide +kernel
theorem dX12_count_147 : decode cX12_count 147 = .ok (.invokestatic 109, 3) := by decide +kernel
theorem dX12_count_150 : decode cX12_count 150 = .ok (.ifCond .eq 28, 3) := by decide +kernel
theorem dX12_count_153 : decode cX12_count 153 = .ok (.aload_n 0, 1) := by decide +kernel
theorem dX12_count_154 : decode cX12_count 154 = .ok (.iload_n 1, 1) := by decide +kernel
theorem dX12_count_155 : decode cX12_count 155 = .ok (.bipush 20, 2) := by decide +kernel
theorem dX12_count_157 : decode cX12_count 157 = .ok (.isub, 1) := by decide +kernel
theorem dX12_count_158 : decode cX12_count 158 = .ok (.invokevirtual 116, 3) := by decide +kernel
theorem dX12_count_161 : decode cX12_count 161 = .ok (.ifCond .eq 17, 3) := by decide +kernel
theorem dX12_count_178 : decode cX12_count 178 = .ok (.iload_n 1, 1) := by decide +kernel
theorem dX12_count_179 : decode cX12_count 179 = .ok (.bipush 30, 2) := by decide +kernel
theorem dX12_count_181 : decode cX12_count 181 = .ok (.bipush 37, 2) := by decide +kernel
theorem dX12_count_183 : decode cX12_count 183 = .ok (.invokestatic 109, 3) := by decide +kernel
theorem dX12_count_186 : decode cX12_count 186 = .ok (.ifCond .eq 30, 3) := by decide +kernel
theorem dX12_count_189 : decode cX12_count 189 = .ok (.aload_n 0, 1) := by decide +kernel
theorem dX12_count_190 : decode cX12_count 190 = .ok (.iload_n 1, 1) := by decide +kernel
theorem dX12_count_191 : decode cX12_count 191 = .ok (.bipush 30, 2) := by decide +kernel
theorem dX12_count_193 : decode cX12_count 193 = .ok (.isub, 1) := by decide +kernel
theorem dX12_count_194 : decode cX12_count 194 = .ok (.invokevirtual 116, 3) := by decide +kernel
theorem dX12_count_197 : decode cX12_count 197 = .ok (.ifCond .eq 19, 3) := by decide +kernel
theorem dX12_count_216 : decode cX12_count 216 = .ok (.iconst (-1), 1) := by decide +kernel
theorem dX12_count_217 : decode cX12_count 217 = .ok (.ireturn, 1) := by decide +kernel
set_option maxRecDepth 20000 in
set_option maxHeartbeats 4000000 in
theorem e_count (E : xE) (l : Launch) (ws : va_W) {mm m0 m1 m2 m3 m14 m15 m16 m17 m18 m19 m20 m21 m22 m23 m24 m25 m26 m28 m29 m30 m31 m38 m39 m40 m41 m42 m43 m44 m45 m46 : Nat} {fn : Nat → Int32} (p_0 : Nat) (k_0 : ws[0]? = some (ob mm 11 [.ref m0, .ref m1, .ref m2, .ref m3, .int 0, .int 0, .int 0, .int 0, .int 0, .int 0, .int 0, .int 0, .int 0, .int 0, .ref m14, .ref m15, .ref m16, .ref m17, .ref m18, .ref m19, .ref m20, .ref m21, .ref m22, .ref m23, .ref m24, .ref m25, .ref m26, .int 0, .ref m28, .ref m29, .ref m30, .ref m31, .int 0, .int 0, .int 0, .int 0, .int 0, .int 0, .ref m38, .ref m39, .ref m40, .ref m41, .ref m42, .ref m43, .ref m44, .ref m45, .ref m46, .int 0])) (p_1 : Nat) (k_1 : ws[1]? = some (iA E m0 382 fn)) (wh : Int32) (h320 : fn 320 = 0) (h337 : fn 337 = 0) (h378 : fn 378 = 0) (h379 : fn 379 = 0) (h380 : fn 380 = 1) (h381 : fn 381 = 0) : xI E l yX12_count cX12_count 2 (some .int) 2 [.ref mm, .int wh] ws (fun r w => r = cnt wh) := by
  refine xI_start (lv := [(0, .ref mm), (1, .int wh)]) RX12 (by decide) rfl (Nat.le_of_ble_eq_true rfl) rfl (fun p e s m below meth c A C hr hlk => ?_)
  refine x_iload_n C dX12_count_0 rfl 1 rfl rfl ?_
  by_cases s1 : (wh).toInt < 0
  · refine x_tabOut C (tgt := 142) dX12_count_1 (Or.inl s1) (by decide) ?_
    have b3 : wh < 0 := sw_lo (by decide) s1
    refine x_iload_n C dX12_count_142 rfl 1 rfl rfl ?_
    refine x_bipush C (v := 20) dX12_count_143 (by decide) rfl ?_
    refine x_bipush C (v := 27) dX12_count_145 (by decide) rfl ?_
    refine x_si C (As := [.int wh, .int 20, .int 27]) (rest := []) (e_in E l ws wh 20 27) mf_X12_in w_1267 rfl rfl (Nat.le_of_ble_eq_true rfl) ⟨(Nat.le_of_ble_eq_true rfl), (Nat.le_of_ble_eq_true rfl)⟩ ⟨(Nat.le_of_ble_eq_true rfl), (Nat.le_of_ble_eq_true rfl)⟩ dX12_count_147 rfl (fun r5 w6 h4 => ?_)
    obtain ⟨e7, g8⟩ := h4
    refine x_top e7 ?_
    refine x_ws g8 ?_
    refine x_if_eq C (tgt := 178) dX12_count_150 (by decide) rfl (fun c9 => ?_) (fun c9 => ?_)
    · skip
      have b10 := bI_e0 c9
      refine x_iload_n C dX12_count_178 rfl 1 rfl rfl ?_
      refine x_bipush C (v := 30) dX12_count_179 (by decide) rfl ?_
      refine x_bipush C (v := 37) dX12_count_181 (by decide) rfl ?_
      refine x_si C (As := [.int wh, .int 30, .int 37]) (rest := []) (e_in E l ws wh 30 37) mf_X12_in w_1267 rfl rfl (Nat.le_of_ble_eq_true rfl) ⟨(Nat.le_of_ble_eq_true rfl), (Nat.le_of_ble_eq_true rfl)⟩ ⟨(Nat.le_of_ble_eq_true rfl), (Nat.le_of_ble_eq_true rfl)⟩ dX12_count_183 rfl (fun r12 w13 h11 => ?_)
      obtain ⟨e14, g15⟩ := h11
      refine x_top e14 ?_
      refine x_ws g15 ?_
      refine x_if_eq C (tgt := 216) dX12_count_186 (by decide) rfl (fun c16 => ?_) (fun c16 => ?_)
      · skip
        have b17 := bI_e0 c16
        refine x_iconst C (v := (-1)) dX12_count_216 (by decide) rfl ?_
        exact x_zret C hr hlk rfl dX12_count_217 (by first | (rw [b3]; decide) | (exact (cnt_out (Or.inl b3)).symm) | (exact (cnt_out (Or.inr b3)).symm))
      · skip
        have b18 := bI_n0 c16
        refine x_aload_n C dX12_count_189 rfl 0 rfl rfl ?_
        refine x_iload_n C dX12_count_190 rfl 1 rfl rfl ?_
        refine x_bipush C (v := 30) dX12_count_191 (by decide) rfl ?_
        refine x_isub C (v := (wh - (30 : Int32))) dX12_count_193 rfl rfl ?_
        refine x_vi C (As := [.int (wh - (30 : Int32))]) (rest := []) (e_isHen E l ws 0 k_0 1 k_1 ((wh - (30 : Int32))) h337) mf_X12_isHen w_1285 0 k_0 rfl rfl rfl (Nat.le_of_ble_eq_true rfl) ⟨(Nat.le_of_ble_eq_true rfl), (Nat.le_of_ble_eq_true rfl)⟩ ⟨(Nat.le_of_ble_eq_true rfl), (Nat.le_of_ble_eq_true rfl)⟩ dX12_count_194 rfl (fun r20 w21 h19 => ?_)
        obtain ⟨e22, g23⟩ := h19
        refine x_top e22 ?_
        refine x_ws g23 ?_
        refine x_if_eq C (tgt := 216) dX12_count_197 (by decide) rfl (fun _ => ?_) (fun h => absurd h (by decide))
        refine x_iconst C (v := (-1)) dX12_count_216 (by decide) rfl ?_
        exact x_zret C hr hlk rfl dX12_count_217 (by first | (rw [b3]; decide) | (exact (cnt_out (Or.inl b3)).symm) | (exact (cnt_out (Or.inr b3)).symm))
    · skip
      have b24 := bI_n0 c9
      refine x_aload_n C dX12_count_153 rfl 0 rfl rfl ?_
      refine x_iload_n C dX12_count_154 rfl 1 rfl rfl ?_
      refine x_bipush C (v := 20) dX12_count_155 (by decide) rfl ?_
      refine x_isub C (v := (wh - (20 : Int32))) dX12_count_157 rfl rfl ?_
      refine x_vi C (As := [.int (wh - (20 : Int32))]) (rest := []) (e_isHen E l ws 0 k_0 1 k_1 ((wh - (20 : Int32))) h337) mf_X12_isHen w_1285 0 k_0 rfl rfl rfl (Nat.le_of_ble_eq_true rfl) ⟨(Nat.le_of_ble_eq_true rfl), (Nat.le_of_ble_eq_true rfl)⟩ ⟨(Nat.le_of_ble_eq_true rfl), (Nat.le_of_ble_eq_true rfl)⟩ dX12_count_158 rfl (fun r26 w27 h25 => ?_)
      obtain ⟨e28, g29⟩ := h25
      refine x_top e28 ?_
      refine x_ws g29 ?_
      refine x_if_eq C (tgt := 178) dX12_count_161 (by decide) rfl (fun _ => ?_) (fun h => absurd h (by decide))
      refine x_iload_n C dX12_count_178 rfl 1 rfl rfl ?_
      refine x_bipush C (v := 30) dX12_count_179 (by decide) rfl ?_
      refine x_bipush C (v := 37) dX12_count_181 (by decide) rfl ?_
      refine x_si C (As := [.int wh, .int 30, .int 37]) (rest := []) (e_in E l ws wh 30 37) mf_X12_in w_1267 rfl rfl (Nat.le_of_ble_eq_true rfl) ⟨(Nat.le_of_ble_eq_true rfl), (Nat.le_of_ble_eq_true rfl)⟩ ⟨(Nat.le_of_ble_eq_true rfl), (Nat.le_of_ble_eq_true rfl)⟩ dX12_count_183 rfl (fun r31 w32 h30 => ?_)
      obtain ⟨e33, g34⟩ := h30
      refine x_top e33 ?_
      refine x_ws g34 ?_
      refine x_if_eq C (tgt := 216) dX12_count_186 (by decide) rfl (fun c35 => ?_) (fun c35 => ?_)
      · skip
        have b36 := bI_e0 c35
        refine x_iconst C (v := (-1)) dX12_count_216 (by decide) rfl ?_
        exact x_zret C hr hlk rfl dX12_count_217 (by first | (rw [b3]; decide) | (exact (cnt_out (Or.inl b3)).symm) | (exact (cnt_out (Or.inr b3)).symm))
      · skip
        have b37 := bI_n0 c35
        refine x_aload_n C dX12_count_189 rfl 0 rfl rfl ?_
        refine x_iload_n C dX12_count_190 rfl 1 rfl rfl ?_
        refine x_bipush C (v := 30) dX12_count_191 (by decide) rfl ?_
        refine x_isub C (v := (wh - (30 : Int32))) dX12_count_193 rfl rfl ?_
        refine x_vi C (As := [.int (wh - (30 : Int32))]) (rest := []) (e_isHen E l ws 0 k_0 1 k_1 ((wh - (30 : Int32))) h337) mf_X12_isHen w_1285 0 k_0 rfl rfl rfl (Nat.le_of_ble_eq_true rfl) ⟨(Nat.le_of_ble_eq_true rfl), (Nat.le_of_ble_eq_true rfl)⟩ ⟨(Nat.le_of_ble_eq_true rfl), (Nat.le_of_ble_eq_true rfl)⟩ dX12_count_194 rfl (fun r39 w40 h38 => ?_)
        obtain ⟨e41, g42⟩ := h38
        refine x_top e41 ?_
        refine x_ws g42 ?_
        refine x_if_eq C (tgt := 216) dX12_count_197 (by decide) rfl (fun _ => ?_) (fun h => absurd h (by decide))
        refine x_iconst C (v := (-1)) dX12_count_216 (by decide) rfl ?_
        exact x_zret C hr hlk rfl dX12_count_217 (by first | (rw [b3]; decide) | (exact (cnt_out (Or.inl b3)).symm) | (exact (cnt_out (Or.inr b3)).symm))
  by_cases s2 : 10 < (wh).toInt
  · refine x_tabOut C (tgt := 142) dX12_count_1 (Or.inr s2) (by decide) ?_
    have b43 : 10 < wh := sw_hi (by decide) s2
    refine x_iload_n C dX12_count_142 rfl 1 rfl rfl ?_
    refine x_bipush C (v := 20) dX12_count_143 (by decide) rfl ?_
    refine x_bipush C (v := 27) dX12_count_145 (by decide) rfl ?_
    refine x_si C (As := [.int wh, .int 20, .int 27]) (rest := []) (e_in E l ws wh 20 27) mf_X12_in w_1267 rfl rfl (Nat.le_of_ble_eq_true rfl) ⟨(Nat.le_of_ble_eq_true rfl), (Nat.le_of_ble_eq_true rfl)⟩ ⟨(Nat.le_of_ble_eq_true rfl), (Nat.le_of_ble_eq_true rfl)⟩ dX12_count_147 rfl (fun r45 w46 h44 => ?_)
    obtain ⟨e47, g48⟩ := h44
    refine x_top e47 ?_
    refine x_ws g48 ?_
    refine x_if_eq C (tgt := 178) dX12_count_150 (by decide) rfl (fun c49 => ?_) (fun c49 => ?_)
    · skip
      have b50 := bI_e0 c49
      refine x_iload_n C dX12_count_178 rfl 1 rfl rfl ?_
      refine x_bipush C (v := 30) dX12_count_179 (by decide) rfl ?_
      refine x_bipush C (v := 37) dX12_count_181 (by decide) rfl ?_
      refine x_si C (As := [.int wh, .int 30, .int 37]) (rest := []) (e_in E l ws wh 30 37) mf_X12_in w_1267 rfl rfl (Nat.le_of_ble_eq_true rfl) ⟨(Nat.le_of_ble_eq_true rfl), (Nat.le_of_ble_eq_true rfl)⟩ ⟨(Nat.le_of_ble_eq_true rfl), (Nat.le_of_ble_eq_true rfl)⟩ dX12_count_183 rfl (fun r52 w53 h51 => ?_)
      obtain ⟨e54, g55⟩ := h51
      refine x_top e54 ?_
      refine x_ws g55 ?_
      refine x_if_eq C (tgt := 216) dX12_count_186 (by decide) rfl (fun c56 => ?_) (fun c56 => ?_)
      · skip
        have b57 := bI_e0 c56
        refine x_iconst C (v := (-1)) dX12_count_216 (by decide) rfl ?_
        exact x_zret C hr hlk rfl dX12_count_217 (by first | (rw [b43]; decide) | (exact (cnt_out (Or.inl b43)).symm) | (exact (cnt_out (Or.inr b43)).symm))
      · skip
        have b58 := bI_n0 c56
        refine x_aload_n C dX12_count_189 rfl 0 rfl rfl ?_
        refine x_iload_n C dX12_count_190 rfl 1 rfl rfl ?_
        refine x_bipush C (v := 30) dX12_count_191 (by decide) rfl ?_
        refine x_isub C (v := (wh - (30 : Int32))) dX12_count_193 rfl rfl ?_
        refine x_vi C (As := [.int (wh - (30 : Int32))]) (rest := []) (e_isHen E l ws 0 k_0 1 k_1 ((wh - (30 : Int32))) h337) mf_X12_isHen w_1285 0 k_0 rfl rfl rfl (Nat.le_of_ble_eq_true rfl) ⟨(Nat.le_of_ble_eq_true rfl), (Nat.le_of_ble_eq_true rfl)⟩ ⟨(Nat.le_of_ble_eq_true rfl), (Nat.le_of_ble_eq_true rfl)⟩ dX12_count_194 rfl (fun r60 w61 h59 => ?_)
        obtain ⟨e62, g63⟩ := h59
        refine x_top e62 ?_
        refine x_ws g63 ?_
        refine x_if_eq C (tgt := 216) dX12_count_197 (by decide) rfl (fun _ => ?_) (fun h => absurd h (by decide))
        refine x_iconst C (v := (-1)) dX12_count_216 (by decide) rfl ?_
        exact x_zret C hr hlk rfl dX12_count_217 (by first | (rw [b43]; decide) | (exact (cnt_out (Or.inl b43)).symm) | (exact (cnt_out (Or.inr b43)).symm))
    · skip
      have b64 := bI_n0 c49
      refine x_aload_n C dX12_count_153 rfl 0 rfl rfl ?_
      refine x_iload_n C dX12_count_154 rfl 1 rfl rfl ?_
      refine x_bipush C (v := 20) dX12_count_155 (by decide) rfl ?_
      refine x_isub C (v := (wh - (20 : Int32))) dX12_count_157 rfl rfl ?_
      refine x_vi C (As := [.int (wh - (20 : Int32))]) (rest := []) (e_isHen E l ws 0 k_0 1 k_1 ((wh - (20 : Int32))) h337) mf_X12_isHen w_1285 0 k_0 rfl rfl rfl (Nat.le_of_ble_eq_true rfl) ⟨(Nat.le_of_ble_eq_true rfl), (Nat.le_of_ble_eq_true rfl)⟩ ⟨(Nat.le_of_ble_eq_true rfl), (Nat.le_of_ble_eq_true rfl)⟩ dX12_count_158 rfl (fun r66 w67 h65 => ?_)
      obtain ⟨e68, g69⟩ := h65
      refine x_top e68 ?_
      refine x_ws g69 ?_
      refine x_if_eq C (tgt := 178) dX12_count_161 (by decide) rfl (fun _ => ?_) (fun h => absurd h (by decide))
      refine x_iload_n C dX12_count_178 rfl 1 rfl rfl ?_
      refine x_bipush C (v := 30) dX12_count_179 (by decide) rfl ?_
      refine x_bipush C (v := 37) dX12_count_181 (by decide) rfl ?_
      refine x_si C (As := [.int wh, .int 30, .int 37]) (rest := []) (e_in E l ws wh 30 37) mf_X12_in w_1267 rfl rfl (Nat.le_of_ble_eq_true rfl) ⟨(Nat.le_of_ble_eq_true rfl), (Nat.le_of_ble_eq_true rfl)⟩ ⟨(Nat.le_of_ble_eq_true rfl), (Nat.le_of_ble_eq_true rfl)⟩ dX12_count_183 rfl (fun r71 w72 h70 => ?_)
      obtain ⟨e73, g74⟩ := h70
      refine x_top e73 ?_
      refine x_ws g74 ?_
      refine x_if_eq C (tgt := 216) dX12_count_186 (by decide) rfl (fun c75 => ?_) (fun c75 => ?_)
      · skip
        have b76 := bI_e0 c75
        refine x_iconst C (v := (-1)) dX12_count_216 (by decide) rfl ?_
        exact x_zret C hr hlk rfl dX12_count_217 (by first | (rw [b43]; decide) | (exact (cnt_out (Or.inl b43)).symm) | (exact (cnt_out (Or.inr b43)).symm))
      · skip
        have b77 := bI_n0 c75
        refine x_aload_n C dX12_count_189 rfl 0 rfl rfl ?_
        refine x_iload_n C dX12_count_190 rfl 1 rfl rfl ?_
        refine x_bipush C (v := 30) dX12_count_191 (by decide) rfl ?_
        refine x_isub C (v := (wh - (30 : Int32))) dX12_count_193 rfl rfl ?_
        refine x_vi C (As := [.int (wh - (30 : Int32))]) (rest := []) (e_isHen E l ws 0 k_0 1 k_1 ((wh - (30 : Int32))) h337) mf_X12_isHen w_1285 0 k_0 rfl rfl rfl (Nat.le_of_ble_eq_true rfl) ⟨(Nat.le_of_ble_eq_true rfl), (Nat.le_of_ble_eq_true rfl)⟩ ⟨(Nat.le_of_ble_eq_true rfl), (Nat.le_of_ble_eq_true rfl)⟩ dX12_count_194 rfl (fun r79 w80 h78 => ?_)
        obtain ⟨e81, g82⟩ := h78
        refine x_top e81 ?_
        refine x_ws g82 ?_
        refine x_if_eq C (tgt := 216) dX12_count_197 (by decide) rfl (fun _ => ?_) (fun h => absurd h (by decide))
        refine x_iconst C (v := (-1)) dX12_count_216 (by decide) rfl ?_
        exact x_zret C hr hlk rfl dX12_count_217 (by first | (rw [b43]; decide) | (exact (cnt_out (Or.inl b43)).symm) | (exact (cnt_out (Or.inr b43)).symm))
  by_cases s83 : wh = 0
  · refine x_tabIn C (tgt := 60) dX12_count_1 (by rw [s83]; decide) (by rw [s83]; decide) (by rw [s83]; rfl) (by decide) ?_
    have zs83 := sw_eq (by decide : (0 : Int32).toInt = 0) s83
    refine x_aload_n C dX12_count_60 rfl 0 rfl rfl ?_
    refine x_get C (ci := 11) (k := 0) 0 k_0 rfl in_X12 (by decide) w_1118 rfl dX12_count_61 rfl ?_
    refine x_sipush C (v := 379) dX12_count_64 (by decide) rfl ?_
    refine x_ialk C (v := 0) 379 (by decide) (by decide) (by decide) 1 k_1 h379 dX12_count_67 rfl ?_
    exact x_zret C hr hlk rfl dX12_count_68 (by first | (rw [s83]; decide) | (exact (cnt_out (Or.inl s83)).symm) | (exact (cnt_out (Or.inr s83)).symm))
  have zs83 := sw_ne (by decide : (0 : Int32).toInt = 0) s83
  by_cases s84 : wh = 1
  · refine x_tabIn C (tgt := 69) dX12_count_1 (by rw [s84]; decide) (by rw [s84]; decide) (by rw [s84]; rfl) (by decide) ?_
    have zs84 := sw_eq (by decide : (1 : Int32).toInt = 1) s84
    refine x_aload_n C dX12_count_69 rfl 0 rfl rfl ?_
    refine x_get C (ci := 11) (k := 0) 0 k_0 rfl in_X12 (by decide) w_1118 rfl dX12_count_70 rfl ?_
    refine x_sipush C (v := 381) dX12_count_73 (by decide) rfl ?_
    refine x_ialk C (v := 0) 381 (by decide) (by decide) (by decide) 1 k_1 h381 dX12_count_76 rfl ?_
    exact x_zret C hr hlk rfl dX12_count_77 (by first | (rw [s84]; decide) | (exact (cnt_out (Or.inl s84)).symm) | (exact (cnt_out (Or.inr s84)).symm))
  have zs84 := sw_ne (by decide : (1 : Int32).toInt = 1) s84
  by_cases s85 : wh = 2
  · refine x_tabIn C (tgt := 78) dX12_count_1 (by rw [s85]; decide) (by rw [s85]; decide) (by rw [s85]; rfl) (by decide) ?_
    have zs85 := sw_eq (by decide : (2 : Int32).toInt = 2) s85
    refine x_aload_n C dX12_count_78 rfl 0 rfl rfl ?_
    refine x_iconst C (v := 0) dX12_count_79 (by decide) rfl ?_
    refine x_vi C (As := [.int 0]) (rest := []) (e_howMany E l ws 0 k_0 1 k_1 0 h381) mf_X12_howMany w_1526 0 k_0 rfl rfl rfl (Nat.le_of_ble_eq_true rfl) ⟨(Nat.le_of_ble_eq_true rfl), (Nat.le_of_ble_eq_true rfl)⟩ ⟨(Nat.le_of_ble_eq_true rfl), (Nat.le_of_ble_eq_true rfl)⟩ dX12_count_80 rfl (fun r87 w88 h86 => ?_)
    obtain ⟨e89, g90⟩ := h86
    refine x_top e89 ?_
    refine x_ws g90 ?_
    exact x_zret C hr hlk rfl dX12_count_83 (by first | (rw [s85]; decide) | (exact (cnt_out (Or.inl s85)).symm) | (exact (cnt_out (Or.inr s85)).symm))
  have zs85 := sw_ne (by decide : (2 : Int32).toInt = 2) s85
  by_cases s91 : wh = 3
  · refine x_tabIn C (tgt := 84) dX12_count_1 (by rw [s91]; decide) (by rw [s91]; decide) (by rw [s91]; rfl) (by decide) ?_
    have zs91 := sw_eq (by decide : (3 : Int32).toInt = 3) s91
    refine x_aload_n C dX12_count_84 rfl 0 rfl rfl ?_
    refine x_iconst C (v := 1) dX12_count_85 (by decide) rfl ?_
    refine x_vi C (As := [.int 1]) (rest := []) (e_howMany E l ws 0 k_0 1 k_1 1 h381) mf_X12_howMany w_1526 0 k_0 rfl rfl rfl (Nat.le_of_ble_eq_true rfl) ⟨(Nat.le_of_ble_eq_true rfl), (Nat.le_of_ble_eq_true rfl)⟩ ⟨(Nat.le_of_ble_eq_true rfl), (Nat.le_of_ble_eq_true rfl)⟩ dX12_count_86 rfl (fun r93 w94 h92 => ?_)
    obtain ⟨e95, g96⟩ := h92
    refine x_top e95 ?_
    refine x_ws g96 ?_
    exact x_zret C hr hlk rfl dX12_count_89 (by first | (rw [s91]; decide) | (exact (cnt_out (Or.inl s91)).symm) | (exact (cnt_out (Or.inr s91)).symm))
  have zs91 := sw_ne (by decide : (3 : Int32).toInt = 3) s91
  by_cases s97 : wh = 4
  · refine x_tabIn C (tgt := 90) dX12_count_1 (by rw [s97]; decide) (by rw [s97]; decide) (by rw [s97]; rfl) (by decide) ?_
    have zs97 := sw_eq (by decide : (4 : Int32).toInt = 4) s97
    refine x_aload_n C dX12_count_90 rfl 0 rfl rfl ?_
    refine x_iconst C (v := 2) dX12_count_91 (by decide) rfl ?_
    refine x_vi C (As := [.int 2]) (rest := []) (e_howMany E l ws 0 k_0 1 k_1 2 h381) mf_X12_howMany w_1526 0 k_0 rfl rfl rfl (Nat.le_of_ble_eq_true rfl) ⟨(Nat.le_of_ble_eq_true rfl), (Nat.le_of_ble_eq_true rfl)⟩ ⟨(Nat.le_of_ble_eq_true rfl), (Nat.le_of_ble_eq_true rfl)⟩ dX12_count_92 rfl (fun r99 w100 h98 => ?_)
    obtain ⟨e101, g102⟩ := h98
    refine x_top e101 ?_
    refine x_ws g102 ?_
    exact x_zret C hr hlk rfl dX12_count_95 (by first | (rw [s97]; decide) | (exact (cnt_out (Or.inl s97)).symm) | (exact (cnt_out (Or.inr s97)).symm))
  have zs97 := sw_ne (by decide : (4 : Int32).toInt = 4) s97
  by_cases s103 : wh = 5
  · refine x_tabIn C (tgt := 96) dX12_count_1 (by rw [s103]; decide) (by rw [s103]; decide) (by rw [s103]; rfl) (by decide) ?_
    have zs103 := sw_eq (by decide : (5 : Int32).toInt = 5) s103
    refine x_aload_n C dX12_count_96 rfl 0 rfl rfl ?_
    refine x_get C (ci := 11) (k := 13) 0 k_0 rfl in_X12 (by decide) w_1131 rfl dX12_count_97 rfl ?_
    exact x_zret C hr hlk rfl dX12_count_100 (by first | (rw [s103]; decide) | (exact (cnt_out (Or.inl s103)).symm) | (exact (cnt_out (Or.inr s103)).symm))
  have zs103 := sw_ne (by decide : (5 : Int32).toInt = 5) s103
  by_cases s104 : wh = 6
  · refine x_tabIn C (tgt := 101) dX12_count_1 (by rw [s104]; decide) (by rw [s104]; decide) (by rw [s104]; rfl) (by decide) ?_
    have zs104 := sw_eq (by decide : (6 : Int32).toInt = 6) s104
    refine x_aload_n C dX12_count_101 rfl 0 rfl rfl ?_
    refine x_get C (ci := 11) (k := 4) 0 k_0 rfl in_X12 (by decide) w_1122 rfl dX12_count_102 rfl ?_
    exact x_zret C hr hlk rfl dX12_count_105 (by first | (rw [s104]; decide) | (exact (cnt_out (Or.inl s104)).symm) | (exact (cnt_out (Or.inr s104)).symm))
  have zs104 := sw_ne (by decide : (6 : Int32).toInt = 6) s104
  by_cases s105 : wh = 7
  · refine x_tabIn C (tgt := 106) dX12_count_1 (by rw [s105]; decide) (by rw [s105]; decide) (by rw [s105]; rfl) (by decide) ?_
    have zs105 := sw_eq (by decide : (7 : Int32).toInt = 7) s105
    refine x_aload_n C dX12_count_106 rfl 0 rfl rfl ?_
    refine x_get C (ci := 11) (k := 0) 0 k_0 rfl in_X12 (by decide) w_1118 rfl dX12_count_107 rfl ?_
    refine x_sipush C (v := 380) dX12_count_110 (by decide) rfl ?_
    refine x_ialk C (v := 1) 380 (by decide) (by decide) (by decide) 1 k_1 h380 dX12_count_113 rfl ?_
    exact x_zret C hr hlk rfl dX12_count_114 (by first | (rw [s105]; decide) | (exact (cnt_out (Or.inl s105)).symm) | (exact (cnt_out (Or.inr s105)).symm))
  have zs105 := sw_ne (by decide : (7 : Int32).toInt = 7) s105
  by_cases s106 : wh = 8
  · refine x_tabIn C (tgt := 115) dX12_count_1 (by rw [s106]; decide) (by rw [s106]; decide) (by rw [s106]; rfl) (by decide) ?_
    have zs106 := sw_eq (by decide : (8 : Int32).toInt = 8) s106
    refine x_aload_n C dX12_count_115 rfl 0 rfl rfl ?_
    refine x_get C (ci := 11) (k := 0) 0 k_0 rfl in_X12 (by decide) w_1118 rfl dX12_count_116 rfl ?_
    refine x_sipush C (v := 320) dX12_count_119 (by decide) rfl ?_
    refine x_ialk C (v := 0) 320 (by decide) (by decide) (by decide) 1 k_1 h320 dX12_count_122 rfl ?_
    exact x_zret C hr hlk rfl dX12_count_123 (by first | (rw [s106]; decide) | (exact (cnt_out (Or.inl s106)).symm) | (exact (cnt_out (Or.inr s106)).symm))
  have zs106 := sw_ne (by decide : (8 : Int32).toInt = 8) s106
  by_cases s107 : wh = 9
  · refine x_tabIn C (tgt := 124) dX12_count_1 (by rw [s107]; decide) (by rw [s107]; decide) (by rw [s107]; rfl) (by decide) ?_
    have zs107 := sw_eq (by decide : (9 : Int32).toInt = 9) s107
    refine x_aload_n C dX12_count_124 rfl 0 rfl rfl ?_
    refine x_get C (ci := 11) (k := 0) 0 k_0 rfl in_X12 (by decide) w_1118 rfl dX12_count_125 rfl ?_
    refine x_sipush C (v := 337) dX12_count_128 (by decide) rfl ?_
    refine x_ialk C (v := 0) 337 (by decide) (by decide) (by decide) 1 k_1 h337 dX12_count_131 rfl ?_
    exact x_zret C hr hlk rfl dX12_count_132 (by first | (rw [s107]; decide) | (exact (cnt_out (Or.inl s107)).symm) | (exact (cnt_out (Or.inr s107)).symm))
  have zs107 := sw_ne (by decide : (9 : Int32).toInt = 9) s107
  have s108 : wh = 10 := sw_last (n := 10) (by decide) s1 s2 (by omega)
  refine x_tabIn C (tgt := 133) dX12_count_1 (by rw [s108]; decide) (by rw [s108]; decide) (by rw [s108]; rfl) (by decide) ?_
  refine x_aload_n C dX12_count_133 rfl 0 rfl rfl ?_
  refine x_get C (ci := 11) (k := 0) 0 k_0 rfl in_X12 (by decide) w_1118 rfl dX12_count_134 rfl ?_
  refine x_sipush C (v := 378) dX12_count_137 (by decide) rfl ?_
  refine x_ialk C (v := 0) 378 (by decide) (by decide) (by decide) 1 k_1 h378 dX12_count_140 rfl ?_
  exact x_zret C hr hlk rfl dX12_count_141 (by first | (rw [s108]; decide) | (exact (cnt_out (Or.inl s108)).symm) | (exact (cnt_out (Or.inr s108)).symm))
