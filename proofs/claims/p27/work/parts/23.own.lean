theorem dX11_person_0 : decode cX11_person 0 = .ok (.aload_n 0, 1) := by decide +kernel
theorem dX11_person_1 : decode cX11_person 1 = .ok (.getfield 22, 3) := by decide +kernel
theorem dX11_person_4 : decode cX11_person 4 = .ok (.getfield 92, 3) := by decide +kernel
theorem dX11_person_7 : decode cX11_person 7 = .ok (.iload_n 1, 1) := by decide +kernel
theorem dX11_person_8 : decode cX11_person 8 = .ok (.invokevirtual 96, 3) := by decide +kernel
theorem dX11_person_11 : decode cX11_person 11 = .ok (.ireturn, 1) := by decide +kernel
set_option maxRecDepth 20000 in
set_option maxHeartbeats 4000000 in
theorem c_person (E : xE) (l : Launch) (a : Nat → Nat) (ws : va_W) (hW : WX (okX E a) ws) (p0 : Int32) : xI E l yX11_person cX11_person 2 (some .boolean) 8 [.ref (a 0), .int p0] ws (fun r w => WX (okX E a) w ∧ zb r) := by
  refine xI_start (lv := [(0, .ref (a 0)), (1, .int p0)]) RX11 (by decide) rfl (Nat.le_of_ble_eq_true rfl) rfl (fun p e s m below meth c A C hr hlk => ?_)
  refine x_aload_n C dX11_person_0 rfl 0 rfl rfl ?_
  obtain ⟨_, k1, v2, rfl⟩ := hW 0 _ rfl
  refine x_get C (ci := 10) (k := 2) 0 k1 rfl in_X11 (by decide) w_387 rfl dX11_person_1 rfl ?_
  obtain ⟨_, k3, v4, v5, v6, v7, v8, v9, rfl⟩ := hW 5 _ rfl
  refine x_get C (ci := 8) (k := 3) 5 k3 rfl in_X9 (by decide) w_204 rfl dX11_person_4 rfl ?_
  refine x_iload_n C dX11_person_7 rfl 1 rfl rfl ?_
  obtain ⟨_, k10, v11, rfl⟩ := hW 9 _ rfl
  refine x_vi C (As := [.int p0]) (rest := []) (c_People_tell E l a ws hW 5 (Or.inl rfl) p0) mf_X5_tell w_447 9 k10 rfl rfl rfl (Nat.le_of_ble_eq_true rfl) ⟨(Nat.le_of_ble_eq_true rfl), (Nat.le_of_ble_eq_true rfl)⟩ ⟨(Nat.le_of_ble_eq_true rfl), (Nat.le_of_ble_eq_true rfl)⟩ dX11_person_8 rfl (fun r13 w14 h12 => ?_)
  obtain ⟨hW15, kq16, zb17⟩ := h12
  have k18 : w14[0]? = some (ob (a 0) 10 [.ref (a 1), .ref (a 3), .ref (a 5), .ref (a 27), .ref (a 49), .int v2, .ref (a 71), .ref (a 79), .ref (a 87), .ref (a 92), .ref (a 103), .ref (a 105), .ref (a 106), .ref (a 107), .ref (a 108), .ref (a 109), .ref (a 110), .ref (a 111), .ref (a 112)]) := keeps_at kq16 k1 (by first | decide | omega | (dsimp only; omega))
  exact x_zret C hr hlk (zb_nar zb17) dX11_person_11 ⟨hW15, zb17⟩
theorem dX11_clean_0 : decode cX11_clean 0 = .ok (.aload_n 0, 1) := by decide +kernel
theorem dX11_clean_1 : decode cX11_clean 1 = .ok (.getfield 22, 3) := by decide +kernel
theorem dX11_clean_4 : decode cX11_clean 4 = .ok (.getfield 132, 3) := by decide +kernel
theorem dX11_clean_7 : decode cX11_clean 7 = .ok (.invokevirtual 136, 3) := by decide +kernel
theorem dX11_clean_10 : decode cX11_clean 10 = .ok (.ireturn, 1) := by decide +kernel
set_option maxRecDepth 20000 in
set_option maxHeartbeats 4000000 in
theorem c_clean (E : xE) (l : Launch) (a : Nat → Nat) (ws : va_W) (hW : WX (okX E a) ws) : xI E l yX11_clean cX11_clean 1 (some .int) 8 [.ref (a 0)] ws (fun r w => WX (okX E a) w) := by
  refine xI_start (lv := [(0, .ref (a 0))]) RX11 (by decide) rfl (Nat.le_of_ble_eq_true rfl) rfl (fun p e s m below meth c A C hr hlk => ?_)
  refine x_aload_n C dX11_clean_0 rfl 0 rfl rfl ?_
  obtain ⟨_, k1, v2, rfl⟩ := hW 0 _ rfl
  refine x_get C (ci := 10) (k := 2) 0 k1 rfl in_X11 (by decide) w_387 rfl dX11_clean_1 rfl ?_
  obtain ⟨_, k3, v4, v5, v6, v7, v8, v9, rfl⟩ := hW 5 _ rfl
  refine x_get C (ci := 8) (k := 4) 5 k3 rfl in_X9 (by decide) w_209 rfl dX11_clean_4 rfl ?_
  obtain ⟨_, k10, n11, bn12, rfl⟩ := hW 14 _ rfl
  refine x_vi C (As := []) (rest := []) (c_Eggs_sweepOut E l a ws hW 5 (Or.inl rfl)) mf_X1_sweepOut w_491 14 k10 rfl rfl rfl (Nat.le_of_ble_eq_true rfl) ⟨(Nat.le_of_ble_eq_true rfl), (Nat.le_of_ble_eq_true rfl)⟩ ⟨(Nat.le_of_ble_eq_true rfl), (Nat.le_of_ble_eq_true rfl)⟩ dX11_clean_7 rfl (fun r14 w15 h13 => ?_)
  obtain ⟨hW16, kq17⟩ := h13
  have k18 : w15[0]? = some (ob (a 0) 10 [.ref (a 1), .ref (a 3), .ref (a 5), .ref (a 27), .ref (a 49), .int v2, .ref (a 71), .ref (a 79), .ref (a 87), .ref (a 92), .ref (a 103), .ref (a 105), .ref (a 106), .ref (a 107), .ref (a 108), .ref (a 109), .ref (a 110), .ref (a 111), .ref (a 112)]) := keeps_at kq17 k1 (by first | decide | omega | (dsimp only; omega))
  exact x_zret C hr hlk rfl dX11_clean_10 hW16
theorem dX11_seed_0 : decode cX11_seed 0 = .ok (.iload_n 1, 1) := by decide +kernel
theorem dX11_seed_1 : decode cX11_seed 1 = .ok (.iconst 0, 1) := by decide +kernel
theorem dX11_seed_2 : decode cX11_seed 2 = .ok (.ldc_w 393, 3) := by decide +kernel
theorem dX11_seed_5 : decode cX11_seed 5 = .ok (.invokestatic 102, 3) := by decide +kernel
theorem dX11_seed_8 : decode cX11_seed 8 = .ok (.ifCond .ne 5, 3) := by decide +kernel
theorem dX11_seed_11 : decode cX11_seed 11 = .ok (.iconst 0, 1) := by decide +kernel
theorem dX11_seed_12 : decode cX11_seed 12 = .ok (.ireturn, 1) := by decide +kernel
theorem dX11_seed_13 : decode cX11_seed 13 = .ok (.aload_n 0, 1) := by decide +kernel
theorem dX11_seed_14 : decode cX11_seed 14 = .ok (.getfield 22, 3) := by decide +kernel
theorem dX11_seed_17 : decode cX11_seed 17 = .ok (.iload_n 1, 1) := by decide +kernel
theorem dX11_seed_18 : decode cX11_seed 18 = .ok (.putfield 394, 3) := by decide +kernel
theorem dX11_seed_21 : decode cX11_seed 21 = .ok (.iconst 1, 1) := by decide +kernel
theorem dX11_seed_22 : decode cX11_seed 22 = .ok (.ireturn, 1) := by decide +kernel
set_option maxRecDepth 20000 in
set_option maxHeartbeats 4000000 in
theorem c_seed (E : xE) (l : Launch) (a : Nat → Nat) (ws : va_W) (hW : WX (okX E a) ws) (p0 : Int32) : xI E l yX11_seed cX11_seed 2 (some .boolean) 8 [.ref (a 0), .int p0] ws (fun r w => WX (okX E a) w ∧ zb r) := by
  refine xI_start (lv := [(0, .ref (a 0)), (1, .int p0)]) RX11 (by decide) rfl (Nat.le_of_ble_eq_true rfl) rfl (fun p e s m below meth c A C hr hlk => ?_)
  refine x_iload_n C dX11_seed_0 rfl 1 rfl rfl ?_
  refine x_iconst C (v := 0) dX11_seed_1 (by decide) rfl ?_
  refine x_ldcw C w_1085 dX11_seed_2 rfl ?_
  refine x_si C (As := [.int p0, .int 0, .int 65535]) (rest := []) (c_isWithin E l a ws hW p0 (0 : Int32) (65535 : Int32)) mf_X11_isWithin w_462 rfl rfl (Nat.le_of_ble_eq_true rfl) ⟨(Nat.le_of_ble_eq_true rfl), (Nat.le_of_ble_eq_true rfl)⟩ ⟨(Nat.le_of_ble_eq_true rfl), (Nat.le_of_ble_eq_true rfl)⟩ dX11_seed_5 rfl (fun r2 w3 h1 => ?_)
  obtain ⟨hW4, zb5, x6⟩ := h1
  refine x_ws hW4 ?_
  refine x_if_ne C (tgt := 13) dX11_seed_8 (by decide) rfl (fun c7 => ?_) (fun c7 => ?_)
  · skip
    obtain ⟨j8, hl9, hh10, ej11⟩ := w_nat (a := 0) (b := 65535) (by decide) (by decide) (x6 c7)
    subst ej11
    refine x_aload_n C dX11_seed_13 rfl 0 rfl rfl ?_
    obtain ⟨_, k12, v13, rfl⟩ := hW 0 _ rfl
    refine x_get C (ci := 10) (k := 2) 0 k12 rfl in_X11 (by decide) w_387 rfl dX11_seed_14 rfl ?_
    refine x_iload_n C dX11_seed_17 rfl 1 rfl rfl ?_
    obtain ⟨_, k14, v15, v16, v17, v18, v19, v20, rfl⟩ := hW 5 _ rfl
    obtain ⟨w21, hw22⟩ : ∃ w : va_W, w = List.set ws 5 (ob (a 5) 8 [.int v15, .int (nI j8), .ref (a 6), .ref (a 9), .ref (a 14), .ref (a 21), .int v17, .int v18, .int v19, .int v20]) := ⟨_, rfl⟩
    refine x_put C (ci := 8) (k := 1) (ty := .int) 5 k14 rfl in_X9 tyX9 tyX9_ok nmX9 (by decide) w_199 rfl rfl rfl rfl (Nat.le_of_ble_eq_true rfl) hw22.symm dX11_seed_18 rfl ?_
    have hW23 : WX (okX E a) w21 := by rw [hw22]; exact hW.set (k := 5) rfl ⟨v15, (nI j8), v17, v18, v19, v20, rfl⟩
    have k24 : w21[0]? = some (ob (a 0) 10 [.ref (a 1), .ref (a 3), .ref (a 5), .ref (a 27), .ref (a 49), .int v13, .ref (a 71), .ref (a 79), .ref (a 87), .ref (a 92), .ref (a 103), .ref (a 105), .ref (a 106), .ref (a 107), .ref (a 108), .ref (a 109), .ref (a 110), .ref (a 111), .ref (a 112)]) := by rw [hw22]; exact set_ne k12 (by decide)
    have k25 : w21[5]? = some (ob (a 5) 8 [.int v15, .int (nI j8), .ref (a 6), .ref (a 9), .ref (a 14), .ref (a 21), .int v17, .int v18, .int v19, .int v20]) := by rw [hw22]; exact set_eq k14
    refine x_iconst C (v := 1) dX11_seed_21 (by decide) rfl ?_
    exact x_zret C hr hlk rfl dX11_seed_22 ⟨hW23, (Or.inr rfl)⟩
  · skip
    refine x_iconst C (v := 0) dX11_seed_11 (by decide) rfl ?_
    exact x_zret C hr hlk rfl dX11_seed_12 ⟨hW, (Or.inl rfl)⟩
theorem dX11_keep_0 : decode cX11_keep 0 = .ok (.aload_n 0, 1) := by decide +kernel
theorem dX11_keep_1 : decode cX11_keep 1 = .ok (.getfield 26, 3) := by decide +kernel
theorem dX11_keep_4 : decode cX11_keep 4 = .ok (.aload_n 0, 1) := by decide +kernel
theorem dX11_keep_5 : decode cX11_keep 5 = .ok (.getfield 22, 3) := by decide +kernel
theorem dX11_keep_8 : decode cX11_keep 8 = .ok (.invokevirtual 180, 3) := by decide +kernel
theorem dX11_keep_11 : decode cX11_keep 11 = .ok (.aload_n 0, 1) := by decide +kernel
theorem dX11_keep_12 : decode cX11_keep 12 = .ok (.getfield 16, 3) := by decide +kernel
theorem dX11_keep_15 : decode cX11_keep 15 = .ok (.aload_n 0, 1) := by decide +kernel
theorem dX11_keep_16 : decode cX11_keep 16 = .ok (.getfield 10, 3) := by decide +kernel
theorem dX11_keep_19 : decode cX11_keep 19 = .ok (.invokevirtual 397, 3) := by decide +kernel
theorem dX11_keep_22 : decode cX11_keep 22 = .ok (.aload_n 0, 1) := by decide +kernel
theorem dX11_keep_23 : decode cX11_keep 23 = .ok (.iconst 1, 1) := by decide +kernel
theorem dX11_keep_24 : decode cX11_keep 24 = .ok (.putfield 32, 3) := by decide +kernel
theorem dX11_keep_27 : decode cX11_keep 27 = .ok (.aload_n 0, 1) := by decide +kernel
theorem dX11_keep_28 : decode cX11_keep 28 = .ok (.getfield 22, 3) := by decide +kernel
theorem dX11_keep_31 : decode cX11_keep 31 = .ok (.getfield 132, 3) := by decide +kernel
theorem dX11_keep_34 : decode cX11_keep 34 = .ok (.iconst 0, 1) := by decide +kernel
theorem dX11_keep_35 : decode cX11_keep 35 = .ok (.invokevirtual 203, 3) := by decide +kernel
theorem dX11_keep_38 : decode cX11_keep 38 = .ok (.ireturn, 1) := by decide +kernel
set_option maxRecDepth 20000 in
set_option maxHeartbeats 4000000 in
theorem c_keep (E : xE) (l : Launch) (a : Nat → Nat) (ws : va_W) (hW : WX (okX E a) ws) : xI E l yX11_keep cX11_keep 1 (some .int) 8 [.ref (a 0)] ws (fun r w => WX (okX E a) w) := by
  refine xI_start (lv := [(0, .ref (a 0))]) RX11 (by decide) rfl (Nat.le_of_ble_eq_true rfl) rfl (fun p e s m below meth c A C hr hlk => ?_)
  refine x_aload_n C dX11_keep_0 rfl 0 rfl rfl ?_
  obtain ⟨_, k1, v2, rfl⟩ := hW 0 _ rfl
  refine x_get C (ci := 10) (k := 3) 0 k1 rfl in_X11 (by decide) w_388 rfl dX11_keep_1 rfl ?_
  refine x_aload_n C dX11_keep_4 rfl 0 rfl rfl ?_
  refine x_get C (ci := 10) (k := 2) 0 k1 rfl in_X11 (by decide) w_387 rfl dX11_keep_5 rfl ?_
  obtain ⟨_, k3, v4, v5, v6, v7, v8, v9, rfl⟩ := hW 27 _ rfl
  refine x_vv C (As := [.ref (a 5)]) (rest := []) (c_Town_copy E l a ws hW 27 (Or.inr (Or.inl rfl)) 5 (Or.inl rfl) (by decide)) mf_X9_copyFrom w_788 27 k3 rfl rfl rfl (Nat.le_of_ble_eq_true rfl) ⟨(Nat.le_of_ble_eq_true rfl), (Nat.le_of_ble_eq_true rfl)⟩ ⟨(Nat.le_of_ble_eq_true rfl), (Nat.le_of_ble_eq_true rfl)⟩ dX11_keep_8 rfl (fun w12 h10 => ?_)
  obtain ⟨hW13, kq14⟩ := h10
  have k15 : w12[0]? = some (ob (a 0) 10 [.ref (a 1), .ref (a 3), .ref (a 5), .ref (a 27), .ref (a 49), .int v2, .ref (a 71), .ref (a 79), .ref (a 87), .ref (a 92), .ref (a 103), .ref (a 105), .ref (a 106), .ref (a 107), .ref (a 108), .ref (a 109), .ref (a 110), .ref (a 111), .ref (a 112)]) := keeps_at kq14 k1 (by first | decide | omega | (dsimp only; omega))
  refine x_aload_n C dX11_keep_11 rfl 0 rfl rfl ?_
  refine x_get C (ci := 10) (k := 1) 0 k15 rfl in_X11 (by decide) w_386 rfl dX11_keep_12 rfl ?_
  refine x_aload_n C dX11_keep_15 rfl 0 rfl rfl ?_
  refine x_get C (ci := 10) (k := 0) 0 k15 rfl in_X11 (by decide) w_385 rfl dX11_keep_16 rfl ?_
  obtain ⟨_, k16, n17, v19, v20, v21, bn18, rfl⟩ := hW13 3 _ rfl
  refine x_vv C (As := [.ref (a 1)]) (rest := []) (c_Tape_copy31 E l a w12 hW13) mf_X8_copyFrom w_1090 3 k16 rfl rfl rfl (Nat.le_of_ble_eq_true rfl) ⟨(Nat.le_of_ble_eq_true rfl), (Nat.le_of_ble_eq_true rfl)⟩ ⟨(Nat.le_of_ble_eq_true rfl), (Nat.le_of_ble_eq_true rfl)⟩ dX11_keep_19 rfl (fun w24 h22 => ?_)
  obtain ⟨hW25, kq26⟩ := h22
  have k27 : w24[0]? = some (ob (a 0) 10 [.ref (a 1), .ref (a 3), .ref (a 5), .ref (a 27), .ref (a 49), .int v2, .ref (a 71), .ref (a 79), .ref (a 87), .ref (a 92), .ref (a 103), .ref (a 105), .ref (a 106), .ref (a 107), .ref (a 108), .ref (a 109), .ref (a 110), .ref (a 111), .ref (a 112)]) := keeps_at kq26 k15 (by first | decide | omega | (dsimp only; omega))
  refine x_aload_n C dX11_keep_22 rfl 0 rfl rfl ?_
  refine x_iconst C (v := 1) dX11_keep_23 (by decide) rfl ?_
  obtain ⟨w28, hw29⟩ : ∃ w : va_W, w = List.set w24 0 (ob (a 0) 10 [.ref (a 1), .ref (a 3), .ref (a 5), .ref (a 27), .ref (a 49), .int 1, .ref (a 71), .ref (a 79), .ref (a 87), .ref (a 92), .ref (a 103), .ref (a 105), .ref (a 106), .ref (a 107), .ref (a 108), .ref (a 109), .ref (a 110), .ref (a 111), .ref (a 112)]) := ⟨_, rfl⟩
  refine x_put C (ci := 10) (k := 5) (ty := .boolean) 0 k27 rfl in_X11 tyX11 tyX11_ok nmX11 (by decide) w_390 rfl rfl rfl rfl (Nat.le_of_ble_eq_true rfl) hw29.symm dX11_keep_24 rfl ?_
  have hW30 : WX (okX E a) w28 := by rw [hw29]; exact hW25.set (k := 0) rfl ⟨(1 : Int32), rfl⟩
  have k31 : w28[0]? = some (ob (a 0) 10 [.ref (a 1), .ref (a 3), .ref (a 5), .ref (a 27), .ref (a 49), .int 1, .ref (a 71), .ref (a 79), .ref (a 87), .ref (a 92), .ref (a 103), .ref (a 105), .ref (a 106), .ref (a 107), .ref (a 108), .ref (a 109), .ref (a 110), .ref (a 111), .ref (a 112)]) := by rw [hw29]; exact set_eq k27
  refine x_aload_n C dX11_keep_27 rfl 0 rfl rfl ?_
  refine x_get C (ci := 10) (k := 2) 0 k31 rfl in_X11 (by decide) w_387 rfl dX11_keep_28 rfl ?_
  obtain ⟨_, k32, v33, v34, v35, v36, v37, v38, rfl⟩ := hW30 5 _ rfl
  refine x_get C (ci := 8) (k := 4) 5 k32 rfl in_X9 (by decide) w_209 rfl dX11_keep_31 rfl ?_
  refine x_iconst C (v := 0) dX11_keep_34 (by decide) rfl ?_
  obtain ⟨_, k39, n40, bn41, rfl⟩ := hW30 14 _ rfl
  refine x_vi C (As := [.int 0]) (rest := []) (c_Eggs_howMany E l a w28 hW30 5 (Or.inl rfl) (0 : Int32)) mf_X1_howMany w_853 14 k39 rfl rfl rfl (Nat.le_of_ble_eq_true rfl) ⟨(Nat.le_of_ble_eq_true rfl), (Nat.le_of_ble_eq_true rfl)⟩ ⟨(Nat.le_of_ble_eq_true rfl), (Nat.le_of_ble_eq_true rfl)⟩ dX11_keep_35 rfl (fun r43 w44 h42 => ?_)
  have hW45 := h42
  refine x_ws hW45 ?_
  exact x_zret C hr hlk rfl dX11_keep_38 hW30
theorem dX11_undo_0 : decode cX11_undo 0 = .ok (.aload_n 0, 1) := by decide +kernel
theorem dX11_undo_1 : decode cX11_undo 1 = .ok (.getfield 32, 3) := by decide +kernel
theorem dX11_undo_4 : decode cX11_undo 4 = .ok (.ifCond .ne 5, 3) := by decide +kernel
theorem dX11_undo_7 : decode cX11_undo 7 = .ok (.iconst 0, 1) := by decide +kernel
theorem dX11_undo_8 : decode cX11_undo 8 = .ok (.ireturn, 1) := by decide +kernel
theorem dX11_undo_9 : decode cX11_undo 9 = .ok (.aload_n 0, 1) := by decide +kernel
theorem dX11_undo_10 : decode cX11_undo 10 = .ok (.getfield 22, 3) := by decide +kernel
theorem dX11_undo_13 : decode cX11_undo 13 = .ok (.aload_n 0, 1) := by decide +kernel
theorem dX11_undo_14 : decode cX11_undo 14 = .ok (.getfield 26, 3) := by decide +kernel
theorem dX11_undo_17 : decode cX11_undo 17 = .ok (.invokevirtual 180, 3) := by decide +kernel
theorem dX11_undo_20 : decode cX11_undo 20 = .ok (.aload_n 0, 1) := by decide +kernel
theorem dX11_undo_21 : decode cX11_undo 21 = .ok (.getfield 10, 3) := by decide +kernel
theorem dX11_undo_24 : decode cX11_undo 24 = .ok (.aload_n 0, 1) := by decide +kernel
theorem dX11_undo_25 : decode cX11_undo 25 = .ok (.getfield 16, 3) := by decide +kernel
theorem dX11_undo_28 : decode cX11_undo 28 = .ok (.invokevirtual 397, 3) := by decide +kernel
theorem dX11_undo_31 : decode cX11_undo 31 = .ok (.iconst 1, 1) := by decide +kernel
theorem dX11_undo_32 : decode cX11_undo 32 = .ok (.ireturn, 1) := by decide +kernel
set_option maxRecDepth 20000 in
set_option maxHeartbeats 4000000 in
theorem c_undo (E : xE) (l : Launch) (a : Nat → Nat) (ws : va_W) (hW : WX (okX E a) ws) : xI E l yX11_undo cX11_undo 1 (some .boolean) 8 [.ref (a 0)] ws (fun r w => WX (okX E a) w ∧ zb r) := by
  refine xI_start (lv := [(0, .ref (a 0))]) RX11 (by decide) rfl (Nat.le_of_ble_eq_true rfl) rfl (fun p e s m below meth c A C hr hlk => ?_)
  refine x_aload_n C dX11_undo_0 rfl 0 rfl rfl ?_
  obtain ⟨_, k1, v2, rfl⟩ := hW 0 _ rfl
  refine x_get C (ci := 10) (k := 5) 0 k1 rfl in_X11 (by decide) w_390 rfl dX11_undo_1 rfl ?_
  refine x_if_ne C (tgt := 9) dX11_undo_4 (by decide) rfl (fun c3 => ?_) (fun c3 => ?_)
  · skip
    refine x_aload_n C dX11_undo_9 rfl 0 rfl rfl ?_
    refine x_get C (ci := 10) (k := 2) 0 k1 rfl in_X11 (by decide) w_387 rfl dX11_undo_10 rfl ?_
    refine x_aload_n C dX11_undo_13 rfl 0 rfl rfl ?_
    refine x_get C (ci := 10) (k := 3) 0 k1 rfl in_X11 (by decide) w_388 rfl dX11_undo_14 rfl ?_
    obtain ⟨_, k4, v5, v6, v7, v8, v9, v10, rfl⟩ := hW 5 _ rfl
    refine x_vv C (As := [.ref (a 27)]) (rest := []) (c_Town_copy E l a ws hW 5 (Or.inl rfl) 27 (Or.inr (Or.inl rfl)) (by decide)) mf_X9_copyFrom w_788 5 k4 rfl rfl rfl (Nat.le_of_ble_eq_true rfl) ⟨(Nat.le_of_ble_eq_true rfl), (Nat.le_of_ble_eq_true rfl)⟩ ⟨(Nat.le_of_ble_eq_true rfl), (Nat.le_of_ble_eq_true rfl)⟩ dX11_undo_17 rfl (fun w13 h11 => ?_)
    obtain ⟨hW14, kq15⟩ := h11
    have k16 : w13[0]? = some (ob (a 0) 10 [.ref (a 1), .ref (a 3), .ref (a 5), .ref (a 27), .ref (a 49), .int v2, .ref (a 71), .ref (a 79), .ref (a 87), .ref (a 92), .ref (a 103), .ref (a 105), .ref (a 106), .ref (a 107), .ref (a 108), .ref (a 109), .ref (a 110), .ref (a 111), .ref (a 112)]) := keeps_at kq15 k1 (by first | decide | omega | (dsimp only; omega))
    refine x_aload_n C dX11_undo_20 rfl 0 rfl rfl ?_
    refine x_get C (ci := 10) (k := 0) 0 k16 rfl in_X11 (by decide) w_385 rfl dX11_undo_21 rfl ?_
    refine x_aload_n C dX11_undo_24 rfl 0 rfl rfl ?_
    refine x_get C (ci := 10) (k := 1) 0 k16 rfl in_X11 (by decide) w_386 rfl dX11_undo_25 rfl ?_
    obtain ⟨_, k17, n18, v20, v21, v22, bn19, rfl⟩ := hW14 1 _ rfl
    refine x_vv C (As := [.ref (a 3)]) (rest := []) (c_Tape_copy13 E l a w13 hW14) mf_X8_copyFrom w_1090 1 k17 rfl rfl rfl (Nat.le_of_ble_eq_true rfl) ⟨(Nat.le_of_ble_eq_true rfl), (Nat.le_of_ble_eq_true rfl)⟩ ⟨(Nat.le_of_ble_eq_true rfl), (Nat.le_of_ble_eq_true rfl)⟩ dX11_undo_28 rfl (fun w25 h23 => ?_)
    obtain ⟨hW26, kq27⟩ := h23
    have k28 : w25[0]? = some (ob (a 0) 10 [.ref (a 1), .ref (a 3), .ref (a 5), .ref (a 27), .ref (a 49), .int v2, .ref (a 71), .ref (a 79), .ref (a 87), .ref (a 92), .ref (a 103), .ref (a 105), .ref (a 106), .ref (a 107), .ref (a 108), .ref (a 109), .ref (a 110), .ref (a 111), .ref (a 112)]) := keeps_at kq27 k16 (by first | decide | omega | (dsimp only; omega))
    refine x_iconst C (v := 1) dX11_undo_31 (by decide) rfl ?_
    exact x_zret C hr hlk rfl dX11_undo_32 ⟨hW26, (Or.inr rfl)⟩
  · skip
    refine x_iconst C (v := 0) dX11_undo_7 (by decide) rfl ?_
    exact x_zret C hr hlk rfl dX11_undo_8 ⟨hW, (Or.inl rfl)⟩
theorem dX11_hen_0 : decode cX11_hen 0 = .ok (.iload_n 1, 1) := by decide +kernel
theorem dX11_hen_1 : decode cX11_hen 1 = .ok (.iconst 0, 1) := by decide +kernel
theorem dX11_hen_2 : decode cX11_hen 2 = .ok (.bipush 7, 2) := by decide +kernel
theorem dX11_hen_4 : decode cX11_hen 4 = .ok (.invokestatic 102, 3) := by decide +kernel
theorem dX11_hen_7 : decode cX11_hen 7 = .ok (.ifCond .eq 26, 3) := by decide +kernel
theorem dX11_hen_10 : decode cX11_hen 10 = .ok (.iload_n 2, 1) := by decide +kernel
theorem dX11_hen_11 : decode cX11_hen 11 = .ok (.iconst 0, 1) := by decide +kernel
theorem dX11_hen_12 : decode cX11_hen 12 = .ok (.iconst 3, 1) := by decide +kernel
theorem dX11_hen_13 : decode cX11_hen 13 = .ok (.invokestatic 102, 3) := by decide +kernel
theorem dX11_hen_16 : decode cX11_hen 16 = .ok (.ifCond .eq 17, 3) := by decide +kernel
theorem dX11_hen_19 : decode cX11_hen 19 = .ok (.aload_n 0, 1) := by decide +kernel
theorem dX11_hen_20 : decode cX11_hen 20 = .ok (.getfield 22, 3) := by decide +kernel
theorem dX11_hen_23 : decode cX11_hen 23 = .ok (.getfield 92, 3) := by decide +kernel
theorem dX11_hen_26 : decode cX11_hen 26 = .ok (.iload_n 3, 1) := by decide +kernel
theorem dX11_hen_27 : decode cX11_hen 27 = .ok (.invokevirtual 106, 3) := by decide +kernel
theorem dX11_hen_30 : decode cX11_hen 30 = .ok (.ifCond .ne 5, 3) := by decide +kernel
theorem dX11_hen_33 : decode cX11_hen 33 = .ok (.iconst 0, 1) := by decide +kernel
theorem dX11_hen_34 : decode cX11_hen 34 = .ok (.ireturn, 1) := by decide +kernel
theorem dX11_hen_35 : decode cX11_hen 35 = .ok (.aload_n 0, 1) := by decide +kernel
theorem dX11_hen_36 : decode cX11_hen 36 = .ok (.getfield 22, 3) := by decide +kernel
theorem dX11_hen_39 : decode cX11_hen 39 = .ok (.getfield 109, 3) := by decide +kernel
theorem dX11_hen_42 : decode cX11_hen 42 = .ok (.iload_n 1, 1) := by decide +kernel
theorem dX11_hen_43 : decode cX11_hen 43 = .ok (.iload_n 2, 1) := by decide +kernel
theorem dX11_hen_44 : decode cX11_hen 44 = .ok (.iload_n 3, 1) := by decide +kernel
theorem dX11_hen_45 : decode cX11_hen 45 = .ok (.invokevirtual 113, 3) := by decide +kernel
theorem dX11_hen_48 : decode cX11_hen 48 = .ok (.iconst 1, 1) := by decide +kernel
theorem dX11_hen_49 : decode cX11_hen 49 = .ok (.ireturn, 1) := by decide +kernel
set_option maxRecDepth 20000 in
set_option maxHeartbeats 4000000 in
theorem c_hen (E : xE) (l : Launch) (a : Nat → Nat) (ws : va_W) (hW : WX (okX E a) ws) (p0 : Int32) (p1 : Int32) (p2 : Int32) : xI E l yX11_hen cX11_hen 4 (some .boolean) 8 [.ref (a 0), .int p0, .int p1, .int p2] ws (fun r w => WX (okX E a) w ∧ zb r) := by
  refine xI_start (lv := [(0, .ref (a 0)), (1, .int p0), (2, .int p1), (3, .int p2)]) RX11 (by decide) rfl (Nat.le_of_ble_eq_true rfl) rfl (fun p e s m below meth c A C hr hlk => ?_)
  refine x_iload_n C dX11_hen_0 rfl 1 rfl rfl ?_
  refine x_iconst C (v := 0) dX11_hen_1 (by decide) rfl ?_
  refine x_bipush C (v := 7) dX11_hen_2 (by decide) rfl ?_
  refine x_si C (As := [.int p0, .int 0, .int 7]) (rest := []) (c_isWithin E l a ws hW p0 (0 : Int32) (7 : Int32)) mf_X11_isWithin w_462 rfl rfl (Nat.le_of_ble_eq_true rfl) ⟨(Nat.le_of_ble_eq_true rfl), (Nat.le_of_ble_eq_true rfl)⟩ ⟨(Nat.le_of_ble_eq_true rfl), (Nat.le_of_ble_eq_true rfl)⟩ dX11_hen_4 rfl (fun r2 w3 h1 => ?_)
  obtain ⟨hW4, zb5, x6⟩ := h1
  refine x_ws hW4 ?_
  refine x_if_eq C (tgt := 33) dX11_hen_7 (by decide) rfl (fun c7 => ?_) (fun c7 => ?_)
  · skip
    refine x_iconst C (v := 0) dX11_hen_33 (by decide) rfl ?_
    exact x_zret C hr hlk rfl dX11_hen_34 ⟨hW, (Or.inl rfl)⟩
  · skip
    obtain ⟨j8, hl9, hh10, ej11⟩ := w_nat (a := 0) (b := 7) (by decide) (by decide) (x6 c7)
    subst ej11
    refine x_iload_n C dX11_hen_10 rfl 2 rfl rfl ?_
    refine x_iconst C (v := 0) dX11_hen_11 (by decide) rfl ?_
    refine x_iconst C (v := 3) dX11_hen_12 (by decide) rfl ?_
    refine x_si C (As := [.int p1, .int 0, .int 3]) (rest := []) (c_isWithin E l a ws hW p1 (0 : Int32) (3 : Int32)) mf_X11_isWithin w_462 rfl rfl (Nat.le_of_ble_eq_true rfl) ⟨(Nat.le_of_ble_eq_true rfl), (Nat.le_of_ble_eq_true rfl)⟩ ⟨(Nat.le_of_ble_eq_true rfl), (Nat.le_of_ble_eq_true rfl)⟩ dX11_hen_13 rfl (fun r13 w14 h12 => ?_)
    obtain ⟨hW15, zb16, x17⟩ := h12
    refine x_ws hW15 ?_
    refine x_if_eq C (tgt := 33) dX11_hen_16 (by decide) rfl (fun c18 => ?_) (fun c18 => ?_)
    · skip
      refine x_iconst C (v := 0) dX11_hen_33 (by decide) rfl ?_
      exact x_zret C hr hlk rfl dX11_hen_34 ⟨hW, (Or.inl rfl)⟩
    · skip
      obtain ⟨j19, hl20, hh21, ej22⟩ := w_nat (a := 0) (b := 3) (by decide) (by decide) (x17 c18)
      subst ej22
      refine x_aload_n C dX11_hen_19 rfl 0 rfl rfl ?_
      obtain ⟨_, k23, v24, rfl⟩ := hW 0 _ rfl
      refine x_get C (ci := 10) (k := 2) 0 k23 rfl in_X11 (by decide) w_387 rfl dX11_hen_20 rfl ?_
      obtain ⟨_, k25, v26, v27, v28, v29, v30, v31, rfl⟩ := hW 5 _ rfl
      refine x_get C (ci := 8) (k := 3) 5 k25 rfl in_X9 (by decide) w_204 rfl dX11_hen_23 rfl ?_
      refine x_iload_n C dX11_hen_26 rfl 3 rfl rfl ?_
      obtain ⟨_, k32, v33, rfl⟩ := hW 9 _ rfl
      refine x_vi C (As := [.int p2]) (rest := []) (c_People_isTold E l a ws hW 5 (Or.inl rfl) p2) mf_X5_isTold w_465 9 k32 rfl rfl rfl (Nat.le_of_ble_eq_true rfl) ⟨(Nat.le_of_ble_eq_true rfl), (Nat.le_of_ble_eq_true rfl)⟩ ⟨(Nat.le_of_ble_eq_true rfl), (Nat.le_of_ble_eq_true rfl)⟩ dX11_hen_27 rfl (fun r35 w36 h34 => ?_)
      obtain ⟨hW37, zb38, x39⟩ := h34
      refine x_ws hW37 ?_
      refine x_if_ne C (tgt := 35) dX11_hen_30 (by decide) rfl (fun c40 => ?_) (fun c40 => ?_)
      · skip
        obtain ⟨j41, hl42, hh43, ej44⟩ := w_nat (a := 0) (b := 7) (by decide) (by decide) (x39 c40)
        subst ej44
        refine x_aload_n C dX11_hen_35 rfl 0 rfl rfl ?_
        refine x_get C (ci := 10) (k := 2) 0 k23 rfl in_X11 (by decide) w_387 rfl dX11_hen_36 rfl ?_
        refine x_get C (ci := 8) (k := 2) 5 k25 rfl in_X9 (by decide) w_201 rfl dX11_hen_39 rfl ?_
        refine x_iload_n C dX11_hen_42 rfl 1 rfl rfl ?_
        refine x_iload_n C dX11_hen_43 rfl 2 rfl rfl ?_
        refine x_iload_n C dX11_hen_44 rfl 3 rfl rfl ?_
        obtain ⟨_, k45, v46, rfl⟩ := hW 6 _ rfl
        refine x_vv C (As := [.int (nI j8), .int (nI j19), .int (nI j41)]) (rest := []) (c_Hens_tell E l a ws hW 5 (Or.inl rfl) j8 ((nI j19)) j41 (by omega) (by omega)) mf_X2_tell w_466 6 k45 rfl rfl rfl (Nat.le_of_ble_eq_true rfl) ⟨(Nat.le_of_ble_eq_true rfl), (Nat.le_of_ble_eq_true rfl)⟩ ⟨(Nat.le_of_ble_eq_true rfl), (Nat.le_of_ble_eq_true rfl)⟩ dX11_hen_45 rfl (fun w49 h47 => ?_)
        obtain ⟨hW50, kq51⟩ := h47
        have k52 : w49[0]? = some (ob (a 0) 10 [.ref (a 1), .ref (a 3), .ref (a 5), .ref (a 27), .ref (a 49), .int v24, .ref (a 71), .ref (a 79), .ref (a 87), .ref (a 92), .ref (a 103), .ref (a 105), .ref (a 106), .ref (a 107), .ref (a 108), .ref (a 109), .ref (a 110), .ref (a 111), .ref (a 112)]) := keeps_at kq51 k23 (by first | decide | omega | (dsimp only; omega))
        refine x_iconst C (v := 1) dX11_hen_48 (by decide) rfl ?_
        exact x_zret C hr hlk rfl dX11_hen_49 ⟨hW50, (Or.inr rfl)⟩
      · skip
        refine x_iconst C (v := 0) dX11_hen_33 (by decide) rfl ?_
        exact x_zret C hr hlk rfl dX11_hen_34 ⟨hW, (Or.inl rfl)⟩
theorem dX11_fox_0 : decode cX11_fox 0 = .ok (.aload_n 0, 1) := by decide +kernel
theorem dX11_fox_1 : decode cX11_fox 1 = .ok (.getfield 22, 3) := by decide +kernel
theorem dX11_fox_4 : decode cX11_fox 4 = .ok (.getfield 109, 3) := by decide +kernel
theorem dX11_fox_7 : decode cX11_fox 7 = .ok (.iload_n 1, 1) := by decide +kernel
theorem dX11_fox_8 : decode cX11_fox 8 = .ok (.invokevirtual 118, 3) := by decide +kernel
theorem dX11_fox_11 : decode cX11_fox 11 = .ok (.ifCond .ne 5, 3) := by decide +kernel
theorem dX11_fox_14 : decode cX11_fox 14 = .ok (.iconst 0, 1) := by decide +kernel
theorem dX11_fox_15 : decode cX11_fox 15 = .ok (.ireturn, 1) := by decide +kernel
theorem dX11_fox_16 : decode cX11_fox 16 = .ok (.aload_n 0, 1) := by decide +kernel
theorem dX11_fox_17 : decode cX11_fox 17 = .ok (.getfield 22, 3) := by decide +kernel
theorem dX11_fox_20 : decode cX11_fox 20 = .ok (.getfield 109, 3) := by decide +kernel
theorem dX11_fox_23 : decode cX11_fox 23 = .ok (.dup, 1) := by decide +kernel
theorem dX11_fox_24 : decode cX11_fox 24 = .ok (.getfield 119, 3) := by decide +kernel
theorem dX11_fox_27 : decode cX11_fox 27 = .ok (.iconst 1, 1) := by decide +kernel
theorem dX11_fox_28 : decode cX11_fox 28 = .ok (.iload_n 1, 1) := by decide +kernel
theorem dX11_fox_29 : decode cX11_fox 29 = .ok (.ishl, 1) := by decide +kernel
theorem dX11_fox_30 : decode cX11_fox 30 = .ok (.iconst (-1), 1) := by decide +kernel
theorem dX11_fox_31 : decode cX11_fox 31 = .ok (.ixor, 1) := by decide +kernel
theorem dX11_fox_32 : decode cX11_fox 32 = .ok (.iand, 1) := by decide +kernel
theorem dX11_fox_33 : decode cX11_fox 33 = .ok (.putfield 119, 3) := by decide +kernel
theorem dX11_fox_36 : decode cX11_fox 36 = .ok (.iconst 1, 1) := by decide +kernel
theorem dX11_fox_37 : decode cX11_fox 37 = .ok (.ireturn, 1) := by decide +kernel
set_option maxRecDepth 20000 in
set_option maxHeartbeats 4000000 in
theorem c_fox (E : xE) (l : Launch) (a : Nat → Nat) (ws : va_W) (hW : WX (okX E a) ws) (p0 : Int32) : xI E l yX11_fox cX11_fox 2 (some .boolean) 8 [.ref (a 0), .int p0] ws (fun r w => WX (okX E a) w ∧ zb r) := by
  refine xI_start (lv := [(0, .ref (a 0)), (1, .int p0)]) RX11 (by decide) rfl (Nat.le_of_ble_eq_true rfl) rfl (fun p e s m below meth c A C hr hlk => ?_)
  refine x_aload_n C dX11_fox_0 rfl 0 rfl rfl ?_
  obtain ⟨_, k1, v2, rfl⟩ := hW 0 _ rfl
  refine x_get C (ci := 10) (k := 2) 0 k1 rfl in_X11 (by decide) w_387 rfl dX11_fox_1 rfl ?_
  obtain ⟨_, k3, v4, v5, v6, v7, v8, v9, rfl⟩ := hW 5 _ rfl
  refine x_get C (ci := 8) (k := 2) 5 k3 rfl in_X9 (by decide) w_201 rfl dX11_fox_4 rfl ?_
  refine x_iload_n C dX11_fox_7 rfl 1 rfl rfl ?_
  obtain ⟨_, k10, v11, rfl⟩ := hW 6 _ rfl
  refine x_vi C (As := [.int p0]) (rest := []) (c_Hens_isTold E l a ws hW 5 (Or.inl rfl) p0) mf_X2_isTold w_474 6 k10 rfl rfl rfl (Nat.le_of_ble_eq_true rfl) ⟨(Nat.le_of_ble_eq_true rfl), (Nat.le_of_ble_eq_true rfl)⟩ ⟨(Nat.le_of_ble_eq_true rfl), (Nat.le_of_ble_eq_true rfl)⟩ dX11_fox_8 rfl (fun r13 w14 h12 => ?_)
  obtain ⟨hW15, zb16, x17⟩ := h12
  refine x_ws hW15 ?_
  refine x_if_ne C (tgt := 16) dX11_fox_11 (by decide) rfl (fun c18 => ?_) (fun c18 => ?_)
  · skip
    obtain ⟨j19, hl20, hh21, ej22⟩ := w_nat (a := 0) (b := 7) (by decide) (by decide) (x17 c18)
    subst ej22
    refine x_aload_n C dX11_fox_16 rfl 0 rfl rfl ?_
    refine x_get C (ci := 10) (k := 2) 0 k1 rfl in_X11 (by decide) w_387 rfl dX11_fox_17 rfl ?_
    refine x_get C (ci := 8) (k := 2) 5 k3 rfl in_X9 (by decide) w_201 rfl dX11_fox_20 rfl ?_
    refine x_dup C dX11_fox_23 rfl rfl ?_
    refine x_get C (ci := 2) (k := 0) 6 k10 rfl in_X2 (by decide) w_69 rfl dX11_fox_24 rfl ?_
    refine x_iconst C (v := 1) dX11_fox_27 (by decide) rfl ?_
    refine x_iload_n C dX11_fox_28 rfl 1 rfl rfl ?_
    refine x_ishl C (v := ((1 : Int32) <<< ((nI j19) &&& 31))) dX11_fox_29 rfl rfl ?_
    refine x_any (fun v23 => ?_)
    refine x_iconst C (v := (-1)) dX11_fox_30 (by decide) rfl ?_
    refine x_ixor C (v := (v23 ^^^ ((-1) : Int32))) dX11_fox_31 rfl rfl ?_
    refine x_any (fun v24 => ?_)
    refine x_iand C (v := (v11 &&& v24)) dX11_fox_32 rfl rfl ?_
    refine x_any (fun v25 => ?_)
    obtain ⟨w26, hw27⟩ : ∃ w : va_W, w = List.set ws 6 (ob (a 6) 2 [.int v25, .ref (a 7), .ref (a 8)]) := ⟨_, rfl⟩
    refine x_put C (ci := 2) (k := 0) (ty := .int) 6 k10 rfl in_X2 tyX2 tyX2_ok nmX2 (by decide) w_69 rfl rfl rfl rfl (Nat.le_of_ble_eq_true rfl) hw27.symm dX11_fox_33 rfl ?_
    have hW28 : WX (okX E a) w26 := by rw [hw27]; exact hW.set (k := 6) rfl ⟨v25, rfl⟩
    have k29 : w26[0]? = some (ob (a 0) 10 [.ref (a 1), .ref (a 3), .ref (a 5), .ref (a 27), .ref (a 49), .int v2, .ref (a 71), .ref (a 79), .ref (a 87), .ref (a 92), .ref (a 103), .ref (a 105), .ref (a 106), .ref (a 107), .ref (a 108), .ref (a 109), .ref (a 110), .ref (a 111), .ref (a 112)]) := by rw [hw27]; exact set_ne k1 (by decide)
    have k30 : w26[5]? = some (ob (a 5) 8 [.int v4, .int v5, .ref (a 6), .ref (a 9), .ref (a 14), .ref (a 21), .int v6, .int v7, .int v8, .int v9]) := by rw [hw27]; exact set_ne k3 (by decide)
    have k31 : w26[6]? = some (ob (a 6) 2 [.int v25, .ref (a 7), .ref (a 8)]) := by rw [hw27]; exact set_eq k10
    refine x_iconst C (v := 1) dX11_fox_36 (by decide) rfl ?_
    exact x_zret C hr hlk rfl dX11_fox_37 ⟨hW28, (Or.inr rfl)⟩
  · skip
    refine x_iconst C (v := 0) dX11_fox_14 (by decide) rfl ?_
    exact x_zret C hr hlk rfl dX11_fox_15 ⟨hW, (Or.inl rfl)⟩
theorem dX11_work_0 : decode cX11_work 0 = .ok (.iload_n 1, 1) := by decide +kernel
theorem dX11_work_1 : decode cX11_work 1 = .ok (.iconst 0, 1) := by decide +kernel
theorem dX11_work_2 : decode cX11_work 2 = .ok (.bipush 7, 2) := by decide +kernel
theorem dX11_work_4 : decode cX11_work 4 = .ok (.invokestatic 102, 3) := by decide +kernel
theorem dX11_work_7 : decode cX11_work 7 = .ok (.ifCond .eq 37, 3) := by decide +kernel
theorem dX11_work_10 : decode cX11_work 10 = .ok (.iload_n 2, 1) := by decide +kernel
theorem dX11_work_11 : decode cX11_work 11 = .ok (.iconst 1, 1) := by decide +kernel
theorem dX11_work_12 : decode cX11_work 12 = .ok (.sipush 999, 3) := by decide +kernel
theorem dX11_work_15 : decode cX11_work 15 = .ok (.invokestatic 102, 3) := by decide +kernel
theorem dX11_work_18 : decode cX11_work 18 = .ok (.ifCond .eq 26, 3) := by decide +kernel
theorem dX11_work_21 : decode cX11_work 21 = .ok (.iload_n 3, 1) := by decide +kernel
theorem dX11_work_22 : decode cX11_work 22 = .ok (.iconst 0, 1) := by decide +kernel
theorem dX11_work_23 : decode cX11_work 23 = .ok (.sipush 999, 3) := by decide +kernel
theorem dX11_work_26 : decode cX11_work 26 = .ok (.invokestatic 102, 3) := by decide +kernel
theorem dX11_work_29 : decode cX11_work 29 = .ok (.ifCond .eq 15, 3) := by decide +kernel
theorem dX11_work_32 : decode cX11_work 32 = .ok (.iload 4, 2) := by decide +kernel
theorem dX11_work_34 : decode cX11_work 34 = .ok (.iconst 0, 1) := by decide +kernel
theorem dX11_work_35 : decode cX11_work 35 = .ok (.sipush 9999, 3) := by decide +kernel
theorem dX11_work_38 : decode cX11_work 38 = .ok (.invokestatic 102, 3) := by decide +kernel
theorem dX11_work_41 : decode cX11_work 41 = .ok (.ifCond .ne 5, 3) := by decide +kernel
theorem dX11_work_44 : decode cX11_work 44 = .ok (.iconst 0, 1) := by decide +kernel
theorem dX11_work_45 : decode cX11_work 45 = .ok (.ireturn, 1) := by decide +kernel
theorem dX11_work_46 : decode cX11_work 46 = .ok (.aload_n 0, 1) := by decide +kernel
theorem dX11_work_47 : decode cX11_work 47 = .ok (.getfield 22, 3) := by decide +kernel
theorem dX11_work_50 : decode cX11_work 50 = .ok (.getfield 123, 3) := by decide +kernel
theorem dX11_work_53 : decode cX11_work 53 = .ok (.iload_n 1, 1) := by decide +kernel
theorem dX11_work_54 : decode cX11_work 54 = .ok (.iload_n 2, 1) := by decide +kernel
theorem dX11_work_55 : decode cX11_work 55 = .ok (.iload_n 3, 1) := by decide +kernel
theorem dX11_work_56 : decode cX11_work 56 = .ok (.iload 4, 2) := by decide +kernel
theorem dX11_work_58 : decode cX11_work 58 = .ok (.invokevirtual 127, 3) := by decide +kernel
theorem dX11_work_61 : decode cX11_work 61 = .ok (.iconst 1, 1) := by decide +kernel
theorem dX11_work_62 : decode cX11_work 62 = .ok (.ireturn, 1) := by decide +kernel
set_option maxRecDepth 20000 in
set_option maxHeartbeats 4000000 in
theorem c_work (E : xE) (l : Launch) (a : Nat → Nat) (ws : va_W) (hW : WX (okX E a) ws) (p0 : Int32) (p1 : Int32) (p2 : Int32) (p3 : Int32) : xI E l yX11_work cX11_work 5 (some .boolean) 8 [.ref (a 0), .int p0, .int p1, .int p2, .int p3] ws (fun r w => WX (okX E a) w ∧ zb r) := by
  refine xI_start (lv := [(0, .ref (a 0)), (1, .int p0), (2, .int p1), (3, .int p2), (4, .int p3)]) RX11 (by decide) rfl (Nat.le_of_ble_eq_true rfl) rfl (fun p e s m below meth c A C hr hlk => ?_)
  refine x_iload_n C dX11_work_0 rfl 1 rfl rfl ?_
  refine x_iconst C (v := 0) dX11_work_1 (by decide) rfl ?_
  refine x_bipush C (v := 7) dX11_work_2 (by decide) rfl ?_
  refine x_si C (As := [.int p0, .int 0, .int 7]) (rest := []) (c_isWithin E l a ws hW p0 (0 : Int32) (7 : Int32)) mf_X11_isWithin w_462 rfl rfl (Nat.le_of_ble_eq_true rfl) ⟨(Nat.le_of_ble_eq_true rfl), (Nat.le_of_ble_eq_true rfl)⟩ ⟨(Nat.le_of_ble_eq_true rfl), (Nat.le_of_ble_eq_true rfl)⟩ dX11_work_4 rfl (fun r2 w3 h1 => ?_)
  obtain ⟨hW4, zb5, x6⟩ := h1
  refine x_ws hW4 ?_
  refine x_if_eq C (tgt := 44) dX11_work_7 (by decide) rfl (fun c7 => ?_) (fun c7 => ?_)
  · skip
    refine x_iconst C (v := 0) dX11_work_44 (by decide) rfl ?_
    exact x_zret C hr hlk rfl dX11_work_45 ⟨hW, (Or.inl rfl)⟩
  · skip
    obtain ⟨j8, hl9, hh10, ej11⟩ := w_nat (a := 0) (b := 7) (by decide) (by decide) (x6 c7)
    subst ej11
    refine x_iload_n C dX11_work_10 rfl 2 rfl rfl ?_
    refine x_iconst C (v := 1) dX11_work_11 (by decide) rfl ?_
    refine x_sipush C (v := 999) dX11_work_12 (by decide) rfl ?_
    refine x_si C (As := [.int p1, .int 1, .int 999]) (rest := []) (c_isWithin E l a ws hW p1 (1 : Int32) (999 : Int32)) mf_X11_isWithin w_462 rfl rfl (Nat.le_of_ble_eq_true rfl) ⟨(Nat.le_of_ble_eq_true rfl), (Nat.le_of_ble_eq_true rfl)⟩ ⟨(Nat.le_of_ble_eq_true rfl), (Nat.le_of_ble_eq_true rfl)⟩ dX11_work_15 rfl (fun r13 w14 h12 => ?_)
    obtain ⟨hW15, zb16, x17⟩ := h12
    refine x_ws hW15 ?_
    refine x_if_eq C (tgt := 44) dX11_work_18 (by decide) rfl (fun c18 => ?_) (fun c18 => ?_)
    · skip
      refine x_iconst C (v := 0) dX11_work_44 (by decide) rfl ?_
      exact x_zret C hr hlk rfl dX11_work_45 ⟨hW, (Or.inl rfl)⟩
    · skip
      obtain ⟨j19, hl20, hh21, ej22⟩ := w_nat (a := 1) (b := 999) (by decide) (by decide) (x17 c18)
      subst ej22
      refine x_iload_n C dX11_work_21 rfl 3 rfl rfl ?_
      refine x_iconst C (v := 0) dX11_work_22 (by decide) rfl ?_
      refine x_sipush C (v := 999) dX11_work_23 (by decide) rfl ?_
      refine x_si C (As := [.int p2, .int 0, .int 999]) (rest := []) (c_isWithin E l a ws hW p2 (0 : Int32) (999 : Int32)) mf_X11_isWithin w_462 rfl rfl (Nat.le_of_ble_eq_true rfl) ⟨(Nat.le_of_ble_eq_true rfl), (Nat.le_of_ble_eq_true rfl)⟩ ⟨(Nat.le_of_ble_eq_true rfl), (Nat.le_of_ble_eq_true rfl)⟩ dX11_work_26 rfl (fun r24 w25 h23 => ?_)
      obtain ⟨hW26, zb27, x28⟩ := h23
      refine x_ws hW26 ?_
      refine x_if_eq C (tgt := 44) dX11_work_29 (by decide) rfl (fun c29 => ?_) (fun c29 => ?_)
      · skip
        refine x_iconst C (v := 0) dX11_work_44 (by decide) rfl ?_
        exact x_zret C hr hlk rfl dX11_work_45 ⟨hW, (Or.inl rfl)⟩
      · skip
        obtain ⟨j30, hl31, hh32, ej33⟩ := w_nat (a := 0) (b := 999) (by decide) (by decide) (x28 c29)
        subst ej33
        refine x_iload C dX11_work_32 4 rfl rfl ?_
        refine x_iconst C (v := 0) dX11_work_34 (by decide) rfl ?_
        refine x_sipush C (v := 9999) dX11_work_35 (by decide) rfl ?_
        refine x_si C (As := [.int p3, .int 0, .int 9999]) (rest := []) (c_isWithin E l a ws hW p3 (0 : Int32) (9999 : Int32)) mf_X11_isWithin w_462 rfl rfl (Nat.le_of_ble_eq_true rfl) ⟨(Nat.le_of_ble_eq_true rfl), (Nat.le_of_ble_eq_true rfl)⟩ ⟨(Nat.le_of_ble_eq_true rfl), (Nat.le_of_ble_eq_true rfl)⟩ dX11_work_38 rfl (fun r35 w36 h34 => ?_)
        obtain ⟨hW37, zb38, x39⟩ := h34
        refine x_ws hW37 ?_
        refine x_if_ne C (tgt := 46) dX11_work_41 (by decide) rfl (fun c40 => ?_) (fun c40 => ?_)
        · skip
          obtain ⟨j41, hl42, hh43, ej44⟩ := w_nat (a := 0) (b := 9999) (by decide) (by decide) (x39 c40)
          subst ej44
          refine x_aload_n C dX11_work_46 rfl 0 rfl rfl ?_
          obtain ⟨_, k45, v46, rfl⟩ := hW 0 _ rfl
          refine x_get C (ci := 10) (k := 2) 0 k45 rfl in_X11 (by decide) w_387 rfl dX11_work_47 rfl ?_
          obtain ⟨_, k47, v48, v49, v50, v51, v52, v53, rfl⟩ := hW 5 _ rfl
          refine x_get C (ci := 8) (k := 5) 5 k47 rfl in_X9 (by decide) w_213 rfl dX11_work_50 rfl ?_
          refine x_iload_n C dX11_work_53 rfl 1 rfl rfl ?_
          refine x_iload_n C dX11_work_54 rfl 2 rfl rfl ?_
          refine x_iload_n C dX11_work_55 rfl 3 rfl rfl ?_
          refine x_iload C dX11_work_56 4 rfl rfl ?_
          obtain ⟨_, k54, v55, rfl⟩ := hW 21 _ rfl
          refine x_vv C (As := [.int (nI j8), .int (nI j19), .int (nI j30), .int (nI j41)]) (rest := []) (c_Works_tell E l a ws hW 5 (Or.inl rfl) j8 ((nI j19)) ((nI j30)) ((nI j41)) (by omega)) mf_X10_tell w_483 21 k54 rfl rfl rfl (Nat.le_of_ble_eq_true rfl) ⟨(Nat.le_of_ble_eq_true rfl), (Nat.le_of_ble_eq_true rfl)⟩ ⟨(Nat.le_of_ble_eq_true rfl), (Nat.le_of_ble_eq_true rfl)⟩ dX11_work_58 rfl (fun w58 h56 => ?_)
          obtain ⟨hW59, kq60⟩ := h56
          have k61 : w58[0]? = some (ob (a 0) 10 [.ref (a 1), .ref (a 3), .ref (a 5), .ref (a 27), .ref (a 49), .int v46, .ref (a 71), .ref (a 79), .ref (a 87), .ref (a 92), .ref (a 103), .ref (a 105), .ref (a 106), .ref (a 107), .ref (a 108), .ref (a 109), .ref (a 110), .ref (a 111), .ref (a 112)]) := keeps_at kq60 k45 (by first | decide | omega | (dsimp only; omega))
          refine x_iconst C (v := 1) dX11_work_61 (by decide) rfl ?_
          exact x_zret C hr hlk rfl dX11_work_62 ⟨hW59, (Or.inr rfl)⟩
        · skip
          refine x_iconst C (v := 0) dX11_work_44 (by decide) rfl ?_
          exact x_zret C hr hlk rfl dX11_work_45 ⟨hW, (Or.inl rfl)⟩
