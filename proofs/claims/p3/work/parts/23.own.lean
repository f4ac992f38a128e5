theorem dX11_person_0 : decode cX11_person 0 = .ok (.aload_n 0, 1) := by decide +kernel
theorem dX11_person_1 : decode cX11_person 1 = .ok (.getfield 22, 3) := by decide +kernel
theorem dX11_person_4 : decode cX11_person 4 = .ok (.getfield 92, 3) := by decide +kernel
theorem dX11_person_7 : decode cX11_person 7 = .ok (.iload_n 1, 1) := by decide +kernel
theorem dX11_person_8 : decode cX11_person 8 = .ok (.invokevirtual 96, 3) := by decide +kernel
theorem dX11_person_11 : decode cX11_person 11 = .ok (.ireturn, 1) := by decide +kernel
set_option maxRecDepth 20000 in
set_option maxHeartbeats 4000000 in
theorem c_person (E : xE) (l : Launch) (a : Nat → Nat) (ws : va_W) (hW : WX (okX E a) ws) (p0 : Int32) : xI E l yX11_person cX11_person 2 (some .boolean) 8 [.ref (a 0), .int p0] ws (fun r w => WX (okX E a) w ∧ zb r) := by
  refine xI_start (lv := [(0, .ref (a 0)), (1, .int p0)]) RX11 (by decide) rfl (Nat.le_of_ble_eq_true rfl) rfl (fun p e s m below meth c A C hr hlk => ?_)
  refine x_aload_n C dX11_person_0 rfl 0 rfl rfl ?_
  obtain ⟨_, k1, v2, rfl⟩ := hW 0 _ rfl
  refine x_get C (ci := 10) (k := 2) 0 k1 rfl in_X11 (by decide) w_387 rfl dX11_person_1 rfl ?_
  obtain ⟨_, k3, n4, v6, v7, v8, v9, v10, bn5, rfl⟩ := hW 5 _ rfl
  refine x_get C (ci := 8) (k := 3) 5 k3 rfl in_X9 (by decide) w_204 rfl dX11_person_4 rfl ?_
  refine x_iload_n C dX11_person_7 rfl 1 rfl rfl ?_
  obtain ⟨_, k11, v12, rfl⟩ := hW 9 _ rfl
  refine x_vi C (As := [.int p0]) (rest := []) (c_People_tell E l a ws hW 5 (Or.inl rfl) p0) mf_X5_tell w_447 9 k11 rfl rfl rfl (Nat.le_of_ble_eq_true rfl) ⟨(Nat.le_of_ble_eq_true rfl), (Nat.le_of_ble_eq_true rfl)⟩ ⟨(Nat.le_of_ble_eq_true rfl), (Nat.le_of_ble_eq_true rfl)⟩ dX11_person_8 rfl (fun r14 w15 h13 => ?_)
  obtain ⟨hW16, kq17, zb18⟩ := h13
  have k19 : w15[0]? = some (ob (a 0) 10 [.ref (a 1), .ref (a 3), .ref (a 5), .ref (a 27), .ref (a 49), .int v2, .ref (a 71), .ref (a 79), .ref (a 87), .ref (a 92), .ref (a 103), .ref (a 105), .ref (a 106), .ref (a 107), .ref (a 108), .ref (a 109), .ref (a 110), .ref (a 111), .ref (a 112)]) := keeps_at kq17 k1 (by first | decide | omega | (dsimp only; omega))
  have k20 : w15[5]? = some (ob (a 5) 8 [.int (nI n4), .int v6, .ref (a 6), .ref (a 9), .ref (a 14), .ref (a 21), .int v7, .int v8, .int v9, .int v10]) := keeps_at kq17 k3 (by first | decide | omega | (dsimp only; omega))
  exact x_zret C hr hlk (zb_nar zb18) dX11_person_11 ⟨hW16, zb18⟩
theorem dX11_clean_0 : decode cX11_clean 0 = .ok (.aload_n 0, 1) := by decide +kernel
theorem dX11_clean_1 : decode cX11_clean 1 = .ok (.getfield 22, 3) := by decide +kernel
theorem dX11_clean_4 : decode cX11_clean 4 = .ok (.getfield 132, 3) := by decide +kernel
theorem dX11_clean_7 : decode cX11_clean 7 = .ok (.invokevirtual 136, 3) := by decide +kernel
theorem dX11_clean_10 : decode cX11_clean 10 = .ok (.ireturn, 1) := by decide +kernel
set_option maxRecDepth 20000 in
set_option maxHeartbeats 4000000 in
theorem c_clean (E : xE) (l : Launch) (a : Nat → Nat) (ws : va_W) (hW : WX (okX E a) ws) : xI E l yX11_clean cX11_clean 1 (some .int) 8 [.ref (a 0)] ws (fun r w => WX (okX E a) w ∧ keeps ws w (fun q => ¬ (q = 0 ∨ q = 6 ∨ q = 9 ∨ q = 28 ∨ q = 31))) := by
  refine xI_start (lv := [(0, .ref (a 0))]) RX11 (by decide) rfl (Nat.le_of_ble_eq_true rfl) rfl (fun p e s m below meth c A C hr hlk => ?_)
  have kp0 : keeps ws ws (fun q => ¬ (q = 0 ∨ q = 6 ∨ q = 9 ∨ q = 28 ∨ q = 31)) := keeps_rf
  refine x_aload_n C dX11_clean_0 rfl 0 rfl rfl ?_
  obtain ⟨_, k1, v2, rfl⟩ := hW 0 _ rfl
  refine x_get C (ci := 10) (k := 2) 0 k1 rfl in_X11 (by decide) w_387 rfl dX11_clean_1 rfl ?_
  obtain ⟨_, k3, n4, v6, v7, v8, v9, v10, bn5, rfl⟩ := hW 5 _ rfl
  refine x_get C (ci := 8) (k := 4) 5 k3 rfl in_X9 (by decide) w_209 rfl dX11_clean_4 rfl ?_
  obtain ⟨_, k11, n12, bn13, rfl⟩ := hW 14 _ rfl
  refine x_vi C (As := []) (rest := []) (c_Eggs_sweepOut E l a ws hW 5 (Or.inl rfl)) mf_X1_sweepOut w_491 14 k11 rfl rfl rfl (Nat.le_of_ble_eq_true rfl) ⟨(Nat.le_of_ble_eq_true rfl), (Nat.le_of_ble_eq_true rfl)⟩ ⟨(Nat.le_of_ble_eq_true rfl), (Nat.le_of_ble_eq_true rfl)⟩ dX11_clean_7 rfl (fun r15 w16 h14 => ?_)
  obtain ⟨hW17, kq18⟩ := h14
  have k19 : w16[0]? = some (ob (a 0) 10 [.ref (a 1), .ref (a 3), .ref (a 5), .ref (a 27), .ref (a 49), .int v2, .ref (a 71), .ref (a 79), .ref (a 87), .ref (a 92), .ref (a 103), .ref (a 105), .ref (a 106), .ref (a 107), .ref (a 108), .ref (a 109), .ref (a 110), .ref (a 111), .ref (a 112)]) := keeps_at kq18 k1 (by first | decide | omega | (dsimp only; omega))
  have kp20 := keeps_tr kp0 kq18 (fun q hq => by first | omega | (dsimp only at *; omega))
  exact x_zret C hr hlk rfl dX11_clean_10 ⟨hW17, kp20⟩
theorem dX11_seed_0 : decode cX11_seed 0 = .ok (.iload_n 1, 1) := by decide +kernel
theorem dX11_seed_1 : decode cX11_seed 1 = .ok (.iconst 0, 1) := by decide +kernel
theorem dX11_seed_2 : decode cX11_seed 2 = .ok (.ldc_w 393, 3) := by decide +kernel
theorem dX11_seed_5 : decode cX11_seed 5 = .ok (.invokestatic 102, 3) := by decide +kernel
theorem dX11_seed_8 : decode cX11_seed 8 = .ok (.ifCond .ne 5, 3) := by decide +kernel
theorem dX11_seed_11 : decode cX11_seed 11 = .ok (.iconst 0, 1) := by decide +kernel
theorem dX11_seed_12 : decode cX11_seed 12 = .ok (.ireturn, 1) := by decide +kernel
theorem dX11_seed_13 : decode cX11_seed 13 = .ok (.aload_n 0, 1) := by decide +kernel
theorem dX11_seed_14 : decode cX11_seed 14 = .ok (.getfield 22, 3) := by decide +kernel
theorem dX11_seed_17 : decode cX11_seed 17 = .ok (.iload_n 1, 1) := by decide +kernel
theorem dX11_seed_18 : decode cX11_seed 18 = .ok (.putfield 394, 3) := by decide +kernel
theorem dX11_seed_21 : decode cX11_seed 21 = .ok (.iconst 1, 1) := by decide +kernel
theorem dX11_seed_22 : decode cX11_seed 22 = .ok (.ireturn, 1) := by decide +kernel
set_option maxRecDepth 20000 in
set_option maxHeartbeats 4000000 in
theorem c_seed (E : xE) (l : Launch) (a : Nat → Nat) (ws : va_W) (hW : WX (okX E a) ws) (p0 : Int32) : xI E l yX11_seed cX11_seed 2 (some .boolean) 8 [.ref (a 0), .int p0] ws (fun r w => WX (okX E a) w ∧ keeps ws w (fun q => ¬ (q = 0 ∨ q = 6 ∨ q = 9 ∨ q = 28 ∨ q = 31)) ∧ zb r) := by
  refine xI_start (lv := [(0, .ref (a 0)), (1, .int p0)]) RX11 (by decide) rfl (Nat.le_of_ble_eq_true rfl) rfl (fun p e s m below meth c A C hr hlk => ?_)
  have kp0 : keeps ws ws (fun q => ¬ (q = 0 ∨ q = 6 ∨ q = 9 ∨ q = 28 ∨ q = 31)) := keeps_rf
  refine x_iload_n C dX11_seed_0 rfl 1 rfl rfl ?_
  refine x_iconst C (v := 0) dX11_seed_1 (by decide) rfl ?_
  refine x_ldcw C w_1085 dX11_seed_2 rfl ?_
  refine x_si C (As := [.int p0, .int 0, .int 65535]) (rest := []) (c_isWithin E l a ws hW p0 (0 : Int32) (65535 : Int32)) mf_X11_isWithin w_462 rfl rfl (Nat.le_of_ble_eq_true rfl) ⟨(Nat.le_of_ble_eq_true rfl), (Nat.le_of_ble_eq_true rfl)⟩ ⟨(Nat.le_of_ble_eq_true rfl), (Nat.le_of_ble_eq_true rfl)⟩ dX11_seed_5 rfl (fun r2 w3 h1 => ?_)
  obtain ⟨hW4, zb5, x6⟩ := h1
  refine x_ws hW4 ?_
  refine x_if_ne C (tgt := 13) dX11_seed_8 (by decide) rfl (fun c7 => ?_) (fun c7 => ?_)
  · skip
    obtain ⟨j8, hl9, hh10, ej11⟩ := w_nat (a := 0) (b := 65535) (by decide) (by decide) (x6 c7)
    subst ej11
    refine x_aload_n C dX11_seed_13 rfl 0 rfl rfl ?_
    obtain ⟨_, k12, v13, rfl⟩ := hW 0 _ rfl
    refine x_get C (ci := 10) (k := 2) 0 k12 rfl in_X11 (by decide) w_387 rfl dX11_seed_14 rfl ?_
    refine x_iload_n C dX11_seed_17 rfl 1 rfl rfl ?_
    obtain ⟨_, k14, n15, v17, v18, v19, v20, v21, bn16, rfl⟩ := hW 5 _ rfl
    obtain ⟨w22, hw23⟩ : ∃ w : va_W, w = List.set ws 5 (ob (a 5) 8 [.int (nI n15), .int (nI j8), .ref (a 6), .ref (a 9), .ref (a 14), .ref (a 21), .int v18, .int v19, .int v20, .int v21]) := ⟨_, rfl⟩
    refine x_put C (ci := 8) (k := 1) (ty := .int) 5 k14 rfl in_X9 tyX9 tyX9_ok nmX9 (by decide) w_199 rfl rfl rfl rfl (Nat.le_of_ble_eq_true rfl) hw23.symm dX11_seed_18 rfl ?_
    have hW24 : WX (okX E a) w22 := by rw [hw23]; exact hW.set (k := 5) rfl ⟨n15, (nI j8), v18, v19, v20, v21, by omega, rfl⟩
    have k25 : w22[0]? = some (ob (a 0) 10 [.ref (a 1), .ref (a 3), .ref (a 5), .ref (a 27), .ref (a 49), .int v13, .ref (a 71), .ref (a 79), .ref (a 87), .ref (a 92), .ref (a 103), .ref (a 105), .ref (a 106), .ref (a 107), .ref (a 108), .ref (a 109), .ref (a 110), .ref (a 111), .ref (a 112)]) := by rw [hw23]; exact set_ne k12 (by decide)
    have k26 : w22[5]? = some (ob (a 5) 8 [.int (nI n15), .int (nI j8), .ref (a 6), .ref (a 9), .ref (a 14), .ref (a 21), .int v18, .int v19, .int v20, .int v21]) := by rw [hw23]; exact set_eq k14
    have kp27 := keeps_set kp0 hw23 (by first | exact rfl | decide | omega | (dsimp only; omega))
    refine x_iconst C (v := 1) dX11_seed_21 (by decide) rfl ?_
    exact x_zret C hr hlk rfl dX11_seed_22 ⟨hW24, kp27, (Or.inr rfl)⟩
  · skip
    refine x_iconst C (v := 0) dX11_seed_11 (by decide) rfl ?_
    exact x_zret C hr hlk rfl dX11_seed_12 ⟨hW, kp0, (Or.inl rfl)⟩
theorem dX11_keep_0 : decode cX11_keep 0 = .ok (.aload_n 0, 1) := by decide +kernel
theorem dX11_keep_1 : decode cX11_keep 1 = .ok (.getfield 26, 3) := by decide +kernel
theorem dX11_keep_4 : decode cX11_keep 4 = .ok (.aload_n 0, 1) := by decide +kernel
theorem dX11_keep_5 : decode cX11_keep 5 = .ok (.getfield 22, 3) := by decide +kernel
theorem dX11_keep_8 : decode cX11_keep 8 = .ok (.invokevirtual 180, 3) := by decide +kernel
theorem dX11_keep_11 : decode cX11_keep 11 = .ok (.aload_n 0, 1) := by decide +kernel
theorem dX11_keep_12 : decode cX11_keep 12 = .ok (.getfield 16, 3) := by decide +kernel
theorem dX11_keep_15 : decode cX11_keep 15 = .ok (.aload_n 0, 1) := by decide +kernel
theorem dX11_keep_16 : decode cX11_keep 16 = .ok (.getfield 10, 3) := by decide +kernel
theorem dX11_keep_19 : decode cX11_keep 19 = .ok (.invokevirtual 397, 3) := by decide +kernel
theorem dX11_keep_22 : decode cX11_keep 22 = .ok (.aload_n 0, 1) := by decide +kernel
theorem dX11_keep_23 : decode cX11_keep 23 = .ok (.iconst 1, 1) := by decide +kernel
theorem dX11_keep_24 : decode cX11_keep 24 = .ok (.putfield 32, 3) := by decide +kernel
theorem dX11_keep_27 : decode cX11_keep 27 = .ok (.aload_n 0, 1) := by decide +kernel
theorem dX11_keep_28 : decode cX11_keep 28 = .ok (.getfield 22, 3) := by decide +kernel
theorem dX11_keep_31 : decode cX11_keep 31 = .ok (.getfield 132, 3) := by decide +kernel
theorem dX11_keep_34 : decode cX11_keep 34 = .ok (.iconst 0, 1) := by decide +kernel
theorem dX11_keep_35 : decode cX11_keep 35 = .ok (.invokevirtual 203, 3) := by decide +kernel
theorem dX11_keep_38 : decode cX11_keep 38 = .ok (.ireturn, 1) := by decide +kernel
set_option maxRecDepth 20000 in
set_option maxHeartbeats 4000000 in
theorem c_keep (E : xE) (l : Launch) (a : Nat → Nat) (ws : va_W) (hW : WX (okX E a) ws) : xI E l yX11_keep cX11_keep 1 (some .int) 8 [.ref (a 0)] ws (fun r w => WX (okX E a) w) := by
  refine xI_start (lv := [(0, .ref (a 0))]) RX11 (by decide) rfl (Nat.le_of_ble_eq_true rfl) rfl (fun p e s m below meth c A C hr hlk => ?_)
  refine x_aload_n C dX11_keep_0 rfl 0 rfl rfl ?_
  obtain ⟨_, k1, v2, rfl⟩ := hW 0 _ rfl
  refine x_get C (ci := 10) (k := 3) 0 k1 rfl in_X11 (by decide) w_388 rfl dX11_keep_1 rfl ?_
  refine x_aload_n C dX11_keep_4 rfl 0 rfl rfl ?_
  refine x_get C (ci := 10) (k := 2) 0 k1 rfl in_X11 (by decide) w_387 rfl dX11_keep_5 rfl ?_
  obtain ⟨_, k3, n4, v6, v7, v8, v9, v10, bn5, rfl⟩ := hW 27 _ rfl
  refine x_vv C (As := [.ref (a 5)]) (rest := []) (c_Town_copy E l a ws hW 27 (Or.inr (Or.inl rfl)) 5 (Or.inl rfl) (by decide)) mf_X9_copyFrom w_788 27 k3 rfl rfl rfl (Nat.le_of_ble_eq_true rfl) ⟨(Nat.le_of_ble_eq_true rfl), (Nat.le_of_ble_eq_true rfl)⟩ ⟨(Nat.le_of_ble_eq_true rfl), (Nat.le_of_ble_eq_true rfl)⟩ dX11_keep_8 rfl (fun w13 h11 => ?_)
  obtain ⟨hW14, kq15⟩ := h11
  have k16 : w13[0]? = some (ob (a 0) 10 [.ref (a 1), .ref (a 3), .ref (a 5), .ref (a 27), .ref (a 49), .int v2, .ref (a 71), .ref (a 79), .ref (a 87), .ref (a 92), .ref (a 103), .ref (a 105), .ref (a 106), .ref (a 107), .ref (a 108), .ref (a 109), .ref (a 110), .ref (a 111), .ref (a 112)]) := keeps_at kq15 k1 (by first | decide | omega | (dsimp only; omega))
  refine x_aload_n C dX11_keep_11 rfl 0 rfl rfl ?_
  refine x_get C (ci := 10) (k := 1) 0 k16 rfl in_X11 (by decide) w_386 rfl dX11_keep_12 rfl ?_
  refine x_aload_n C dX11_keep_15 rfl 0 rfl rfl ?_
  refine x_get C (ci := 10) (k := 0) 0 k16 rfl in_X11 (by decide) w_385 rfl dX11_keep_16 rfl ?_
  obtain ⟨_, k17, n18, v20, v21, v22, bn19, rfl⟩ := hW14 3 _ rfl
  refine x_vv C (As := [.ref (a 1)]) (rest := []) (c_Tape_copy31 E l a w13 hW14) mf_X8_copyFrom w_1090 3 k17 rfl rfl rfl (Nat.le_of_ble_eq_true rfl) ⟨(Nat.le_of_ble_eq_true rfl), (Nat.le_of_ble_eq_true rfl)⟩ ⟨(Nat.le_of_ble_eq_true rfl), (Nat.le_of_ble_eq_true rfl)⟩ dX11_keep_19 rfl (fun w25 h23 => ?_)
  obtain ⟨hW26, kq27⟩ := h23
  have k28 : w25[0]? = some (ob (a 0) 10 [.ref (a 1), .ref (a 3), .ref (a 5), .ref (a 27), .ref (a 49), .int v2, .ref (a 71), .ref (a 79), .ref (a 87), .ref (a 92), .ref (a 103), .ref (a 105), .ref (a 106), .ref (a 107), .ref (a 108), .ref (a 109), .ref (a 110), .ref (a 111), .ref (a 112)]) := keeps_at kq27 k16 (by first | decide | omega | (dsimp only; omega))
  refine x_aload_n C dX11_keep_22 rfl 0 rfl rfl ?_
  refine x_iconst C (v := 1) dX11_keep_23 (by decide) rfl ?_
  obtain ⟨w29, hw30⟩ : ∃ w : va_W, w = List.set w25 0 (ob (a 0) 10 [.ref (a 1), .ref (a 3), .ref (a 5), .ref (a 27), .ref (a 49), .int 1, .ref (a 71), .ref (a 79), .ref (a 87), .ref (a 92), .ref (a 103), .ref (a 105), .ref (a 106), .ref (a 107), .ref (a 108), .ref (a 109), .ref (a 110), .ref (a 111), .ref (a 112)]) := ⟨_, rfl⟩
  refine x_put C (ci := 10) (k := 5) (ty := .boolean) 0 k28 rfl in_X11 tyX11 tyX11_ok nmX11 (by decide) w_390 rfl rfl rfl rfl (Nat.le_of_ble_eq_true rfl) hw30.symm dX11_keep_24 rfl ?_
  have hW31 : WX (okX E a) w29 := by rw [hw30]; exact hW26.set (k := 0) rfl ⟨(1 : Int32), rfl⟩
  have k32 : w29[0]? = some (ob (a 0) 10 [.ref (a 1), .ref (a 3), .ref (a 5), .ref (a 27), .ref (a 49), .int 1, .ref (a 71), .ref (a 79), .ref (a 87), .ref (a 92), .ref (a 103), .ref (a 105), .ref (a 106), .ref (a 107), .ref (a 108), .ref (a 109), .ref (a 110), .ref (a 111), .ref (a 112)]) := by rw [hw30]; exact set_eq k28
  refine x_aload_n C dX11_keep_27 rfl 0 rfl rfl ?_
  refine x_get C (ci := 10) (k := 2) 0 k32 rfl in_X11 (by decide) w_387 rfl dX11_keep_28 rfl ?_
  obtain ⟨_, k33, n34, v36, v37, v38, v39, v40, bn35, rfl⟩ := hW31 5 _ rfl
  refine x_get C (ci := 8) (k := 4) 5 k33 rfl in_X9 (by decide) w_209 rfl dX11_keep_31 rfl ?_
  refine x_iconst C (v := 0) dX11_keep_34 (by decide) rfl ?_
  obtain ⟨_, k41, n42, bn43, rfl⟩ := hW31 14 _ rfl
  refine x_vi C (As := [.int 0]) (rest := []) (c_Eggs_howMany E l a w29 hW31 5 (Or.inl rfl) (0 : Int32)) mf_X1_howMany w_853 14 k41 rfl rfl rfl (Nat.le_of_ble_eq_true rfl) ⟨(Nat.le_of_ble_eq_true rfl), (Nat.le_of_ble_eq_true rfl)⟩ ⟨(Nat.le_of_ble_eq_true rfl), (Nat.le_of_ble_eq_true rfl)⟩ dX11_keep_35 rfl (fun r45 w46 h44 => ?_)
  have hW47 := h44
  refine x_ws hW47 ?_
  exact x_zret C hr hlk rfl dX11_keep_38 hW31
theorem dX11_undo_0 : decode cX11_undo 0 = .ok (.aload_n 0, 1) := by decide +kernel
theorem dX11_undo_1 : decode cX11_undo 1 = .ok (.getfield 32, 3) := by decide +kernel
theorem dX11_undo_4 : decode cX11_undo 4 = .ok (.ifCond .ne 5, 3) := by decide +kernel
theorem dX11_undo_7 : decode cX11_undo 7 = .ok (.iconst 0, 1) := by decide +kernel
theorem dX11_undo_8 : decode cX11_undo 8 = .ok (.ireturn, 1) := by decide +kernel
theorem dX11_undo_9 : decode cX11_undo 9 = .ok (.aload_n 0, 1) := by decide +kernel
theorem dX11_undo_10 : decode cX11_undo 10 = .ok (.getfield 22, 3) := by decide +kernel
theorem dX11_undo_13 : decode cX11_undo 13 = .ok (.aload_n 0, 1) := by decide +kernel
theorem dX11_undo_14 : decode cX11_undo 14 = .ok (.getfield 26, 3) := by decide +kernel
theorem dX11_undo_17 : decode cX11_undo 17 = .ok (.invokevirtual 180, 3) := by decide +kernel
theorem dX11_undo_20 : decode cX11_undo 20 = .ok (.aload_n 0, 1) := by decide +kernel
theorem dX11_undo_21 : decode cX11_undo 21 = .ok (.getfield 10, 3) := by decide +kernel
theorem dX11_undo_24 : decode cX11_undo 24 = .ok (.aload_n 0, 1) := by decide +kernel
theorem dX11_undo_25 : decode cX11_undo 25 = .ok (.getfield 16, 3) := by decide +kernel
theorem dX11_undo_28 : decode cX11_undo 28 = .ok (.invokevirtual 397, 3) := by decide +kernel
theorem dX11_undo_31 : decode cX11_undo 31 = .ok (.iconst 1, 1) := by decide +kernel
theorem dX11_undo_32 : decode cX11_undo 32 = .ok (.ireturn, 1) := by decide +kernel
set_option maxRecDepth 20000 in
set_option maxHeartbeats 4000000 in
theorem c_undo (E : xE) (l : Launch) (a : Nat → Nat) (ws : va_W) (hW : WX (okX E a) ws) : xI E l yX11_undo cX11_undo 1 (some .boolean) 8 [.ref (a 0)] ws (fun r w => WX (okX E a) w ∧ zb r) := by
  refine xI_start (lv := [(0, .ref (a 0))]) RX11 (by decide) rfl (Nat.le_of_ble_eq_true rfl) rfl (fun p e s m below meth c A C hr hlk => ?_)
  refine x_aload_n C dX11_undo_0 rfl 0 rfl rfl ?_
  obtain ⟨_, k1, v2, rfl⟩ := hW 0 _ rfl
  refine x_get C (ci := 10) (k := 5) 0 k1 rfl in_X11 (by decide) w_390 rfl dX11_undo_1 rfl ?_
  refine x_if_ne C (tgt := 9) dX11_undo_4 (by decide) rfl (fun c3 => ?_) (fun c3 => ?_)
  · skip
    refine x_aload_n C dX11_undo_9 rfl 0 rfl rfl ?_
    refine x_get C (ci := 10) (k := 2) 0 k1 rfl in_X11 (by decide) w_387 rfl dX11_undo_10 rfl ?_
    refine x_aload_n C dX11_undo_13 rfl 0 rfl rfl ?_
    refine x_get C (ci := 10) (k := 3) 0 k1 rfl in_X11 (by decide) w_388 rfl dX11_undo_14 rfl ?_
    obtain ⟨_, k4, n5, v7, v8, v9, v10, v11, bn6, rfl⟩ := hW 5 _ rfl
    refine x_vv C (As := [.ref (a 27)]) (rest := []) (c_Town_copy E l a ws hW 5 (Or.inl rfl) 27 (Or.inr (Or.inl rfl)) (by decide)) mf_X9_copyFrom w_788 5 k4 rfl rfl rfl (Nat.le_of_ble_eq_true rfl) ⟨(Nat.le_of_ble_eq_true rfl), (Nat.le_of_ble_eq_true rfl)⟩ ⟨(Nat.le_of_ble_eq_true rfl), (Nat.le_of_ble_eq_true rfl)⟩ dX11_undo_17 rfl (fun w14 h12 => ?_)
    obtain ⟨hW15, kq16⟩ := h12
    have k17 : w14[0]? = some (ob (a 0) 10 [.ref (a 1), .ref (a 3), .ref (a 5), .ref (a 27), .ref (a 49), .int v2, .ref (a 71), .ref (a 79), .ref (a 87), .ref (a 92), .ref (a 103), .ref (a 105), .ref (a 106), .ref (a 107), .ref (a 108), .ref (a 109), .ref (a 110), .ref (a 111), .ref (a 112)]) := keeps_at kq16 k1 (by first | decide | omega | (dsimp only; omega))
    refine x_aload_n C dX11_undo_20 rfl 0 rfl rfl ?_
    refine x_get C (ci := 10) (k := 0) 0 k17 rfl in_X11 (by decide) w_385 rfl dX11_undo_21 rfl ?_
    refine x_aload_n C dX11_undo_24 rfl 0 rfl rfl ?_
    refine x_get C (ci := 10) (k := 1) 0 k17 rfl in_X11 (by decide) w_386 rfl dX11_undo_25 rfl ?_
    obtain ⟨_, k18, n19, v21, v22, v23, bn20, rfl⟩ := hW15 1 _ rfl
    refine x_vv C (As := [.ref (a 3)]) (rest := []) (c_Tape_copy13 E l a w14 hW15) mf_X8_copyFrom w_1090 1 k18 rfl rfl rfl (Nat.le_of_ble_eq_true rfl) ⟨(Nat.le_of_ble_eq_true rfl), (Nat.le_of_ble_eq_true rfl)⟩ ⟨(Nat.le_of_ble_eq_true rfl), (Nat.le_of_ble_eq_true rfl)⟩ dX11_undo_28 rfl (fun w26 h24 => ?_)
    obtain ⟨hW27, kq28⟩ := h24
    have k29 : w26[0]? = some (ob (a 0) 10 [.ref (a 1), .ref (a 3), .ref (a 5), .ref (a 27), .ref (a 49), .int v2, .ref (a 71), .ref (a 79), .ref (a 87), .ref (a 92), .ref (a 103), .ref (a 105), .ref (a 106), .ref (a 107), .ref (a 108), .ref (a 109), .ref (a 110), .ref (a 111), .ref (a 112)]) := keeps_at kq28 k17 (by first | decide | omega | (dsimp only; omega))
    refine x_iconst C (v := 1) dX11_undo_31 (by decide) rfl ?_
    exact x_zret C hr hlk rfl dX11_undo_32 ⟨hW27, (Or.inr rfl)⟩
  · skip
    refine x_iconst C (v := 0) dX11_undo_7 (by decide) rfl ?_
    exact x_zret C hr hlk rfl dX11_undo_8 ⟨hW, (Or.inl rfl)⟩
theorem dX11_hen_0 : decode cX11_hen 0 = .ok (.iload_n 1, 1) := by decide +kernel
theorem dX11_hen_1 : decode cX11_hen 1 = .ok (.iconst 0, 1) := by decide +kernel
theorem dX11_hen_2 : decode cX11_hen 2 = .ok (.bipush 7, 2) := by decide +kernel
theorem dX11_hen_4 : decode cX11_hen 4 = .ok (.invokestatic 102, 3) := by decide +kernel
theorem dX11_hen_7 : decode cX11_hen 7 = .ok (.ifCond .eq 26, 3) := by decide +kernel
theorem dX11_hen_10 : decode cX11_hen 10 = .ok (.iload_n 2, 1) := by decide +kernel
theorem dX11_hen_11 : decode cX11_hen 11 = .ok (.iconst 0, 1) := by decide +kernel
theorem dX11_hen_12 : decode cX11_hen 12 = .ok (.iconst 3, 1) := by decide +kernel
theorem dX11_hen_13 : decode cX11_hen 13 = .ok (.invokestatic 102, 3) := by decide +kernel
theorem dX11_hen_16 : decode cX11_hen 16 = .ok (.ifCond .eq 17, 3) := by decide +kernel
theorem dX11_hen_19 : decode cX11_hen 19 = .ok (.aload_n 0, 1) := by decide +kernel
theorem dX11_hen_20 : decode cX11_hen 20 = .ok (.getfield 22, 3) := by decide +kernel
theorem dX11_hen_23 : decode cX11_hen 23 = .ok (.getfield 92, 3) := by decide +kernel
theorem dX11_hen_26 : decode cX11_hen 26 = .ok (.iload_n 3, 1) := by decide +kernel
theorem dX11_hen_27 : decode cX11_hen 27 = .ok (.invokevirtual 106, 3) := by decide +kernel
theorem dX11_hen_30 : decode cX11_hen 30 = .ok (.ifCond .ne 5, 3) := by decide +kernel
theorem dX11_hen_33 : decode cX11_hen 33 = .ok (.iconst 0, 1) := by decide +kernel
theorem dX11_hen_34 : decode cX11_hen 34 = .ok (.ireturn, 1) := by decide +kernel
theorem dX11_hen_35 : decode cX11_hen 35 = .ok (.aload_n 0, 1) := by decide +kernel
theorem dX11_hen_36 : decode cX11_hen 36 = .ok (.getfield 22, 3) := by decide +kernel
theorem dX11_hen_39 : decode cX11_hen 39 = .ok (.getfield 109, 3) := by decide +kernel
theorem dX11_hen_42 : decode cX11_hen 42 = .ok (.iload_n 1, 1) := by decide +kernel
theorem dX11_hen_43 : decode cX11_hen 43 = .ok (.iload_n 2, 1) := by decide +kernel
theorem dX11_hen_44 : decode cX11_hen 44 = .ok (.iload_n 3, 1) := by decide +kernel
theorem dX11_hen_45 : decode cX11_hen 45 = .ok (.invokevirtual 113, 3) := by decide +kernel
theorem dX11_hen_48 : decode cX11_hen 48 = .ok (.iconst 1, 1) := by decide +kernel
theorem dX11_hen_49 : decode cX11_hen 49 = .ok (.ireturn, 1) := by decide +kernel
set_option maxRecDepth 20000 in
set_option maxHeartbeats 4000000 in
theorem c_hen (E : xE) (l : Launch) (a : Nat → Nat) (ws : va_W) (hW : WX (okX E a) ws) (p0 : Int32) (p1 : Int32) (p2 : Int32) : xI E l yX11_hen cX11_hen 4 (some .boolean) 8 [.ref (a 0), .int p0, .int p1, .int p2] ws (fun r w => WX (okX E a) w ∧ zb r) := by
  refine xI_start (lv := [(0, .ref (a 0)), (1, .int p0), (2, .int p1), (3, .int p2)]) RX11 (by decide) rfl (Nat.le_of_ble_eq_true rfl) rfl (fun p e s m below meth c A C hr hlk => ?_)
  refine x_iload_n C dX11_hen_0 rfl 1 rfl rfl ?_
  refine x_iconst C (v := 0) dX11_hen_1 (by decide) rfl ?_
  refine x_bipush C (v := 7) dX11_hen_2 (by decide) rfl ?_
  refine x_si C (As := [.int p0, .int 0, .int 7]) (rest := []) (c_isWithin E l a ws hW p0 (0 : Int32) (7 : Int32)) mf_X11_isWithin w_462 rfl rfl (Nat.le_of_ble_eq_true rfl) ⟨(Nat.le_of_ble_eq_true rfl), (Nat.le_of_ble_eq_true rfl)⟩ ⟨(Nat.le_of_ble_eq_true rfl), (Nat.le_of_ble_eq_true rfl)⟩ dX11_hen_4 rfl (fun r2 w3 h1 => ?_)
  obtain ⟨hW4, zb5, x6⟩ := h1
  refine x_ws hW4 ?_
  refine x_if_eq C (tgt := 33) dX11_hen_7 (by decide) rfl (fun c7 => ?_) (fun c7 => ?_)
  · skip
    refine x_iconst C (v := 0) dX11_hen_33 (by decide) rfl ?_
    exact x_zret C hr hlk rfl dX11_hen_34 ⟨hW, (Or.inl rfl)⟩
  · skip
    obtain ⟨j8, hl9, hh10, ej11⟩ := w_nat (a := 0) (b := 7) (by decide) (by decide) (x6 c7)
    subst ej11
    refine x_iload_n C dX11_hen_10 rfl 2 rfl rfl ?_
    refine x_iconst C (v := 0) dX11_hen_11 (by decide) rfl ?_
    refine x_iconst C (v := 3) dX11_hen_12 (by decide) rfl ?_
    refine x_si C (As := [.int p1, .int 0, .int 3]) (rest := []) (c_isWithin E l a ws hW p1 (0 : Int32) (3 : Int32)) mf_X11_isWithin w_462 rfl rfl (Nat.le_of_ble_eq_true rfl) ⟨(Nat.le_of_ble_eq_true rfl), (Nat.le_of_ble_eq_true rfl)⟩ ⟨(Nat.le_of_ble_eq_true rfl), (Nat.le_of_ble_eq_true rfl)⟩ dX11_hen_13 rfl (fun r13 w14 h12 => ?_)
    obtain ⟨hW15, zb16, x17⟩ := h12
    refine x_ws hW15 ?_
    refine x_if_eq C (tgt := 33) dX11_hen_16 (by decide) rfl (fun c18 => ?_) (fun c18 => ?_)
    · skip
      refine x_iconst C (v := 0) dX11_hen_33 (by decide) rfl ?_
      exact x_zret C hr hlk rfl dX11_hen_34 ⟨hW, (Or.inl rfl)⟩
    · skip
      obtain ⟨j19, hl20, hh21, ej22⟩ := w_nat (a := 0) (b := 3) (by decide) (by decide) (x17 c18)
      subst ej22
      refine x_aload_n C dX11_hen_19 rfl 0 rfl rfl ?_
      obtain ⟨_, k23, v24, rfl⟩ := hW 0 _ rfl
      refine x_get C (ci := 10) (k := 2) 0 k23 rfl in_X11 (by decide) w_387 rfl dX11_hen_20 rfl ?_
      obtain ⟨_, k25, n26, v28, v29, v30, v31, v32, bn27, rfl⟩ := hW 5 _ rfl
      refine x_get C (ci := 8) (k := 3) 5 k25 rfl in_X9 (by decide) w_204 rfl dX11_hen_23 rfl ?_
      refine x_iload_n C dX11_hen_26 rfl 3 rfl rfl ?_
      obtain ⟨_, k33, v34, rfl⟩ := hW 9 _ rfl
      refine x_vi C (As := [.int p2]) (rest := []) (c_People_isTold E l a ws hW 5 (Or.inl rfl) p2) mf_X5_isTold w_465 9 k33 rfl rfl rfl (Nat.le_of_ble_eq_true rfl) ⟨(Nat.le_of_ble_eq_true rfl), (Nat.le_of_ble_eq_true rfl)⟩ ⟨(Nat.le_of_ble_eq_true rfl), (Nat.le_of_ble_eq_true rfl)⟩ dX11_hen_27 rfl (fun r36 w37 h35 => ?_)
      obtain ⟨hW38, zb39, x40⟩ := h35
      refine x_ws hW38 ?_
      refine x_if_ne C (tgt := 35) dX11_hen_30 (by decide) rfl (fun c41 => ?_) (fun c41 => ?_)
      · skip
        obtain ⟨j42, hl43, hh44, ej45⟩ := w_nat (a := 0) (b := 7) (by decide) (by decide) (x40 c41)
        subst ej45
        refine x_aload_n C dX11_hen_35 rfl 0 rfl rfl ?_
        refine x_get C (ci := 10) (k := 2) 0 k23 rfl in_X11 (by decide) w_387 rfl dX11_hen_36 rfl ?_
        refine x_get C (ci := 8) (k := 2) 5 k25 rfl in_X9 (by decide) w_201 rfl dX11_hen_39 rfl ?_
        refine x_iload_n C dX11_hen_42 rfl 1 rfl rfl ?_
        refine x_iload_n C dX11_hen_43 rfl 2 rfl rfl ?_
        refine x_iload_n C dX11_hen_44 rfl 3 rfl rfl ?_
        obtain ⟨_, k46, v47, rfl⟩ := hW 6 _ rfl
        refine x_vv C (As := [.int (nI j8), .int (nI j19), .int (nI j42)]) (rest := []) (c_Hens_tell E l a ws hW 5 (Or.inl rfl) j8 ((nI j19)) j42 (by omega) (by omega)) mf_X2_tell w_466 6 k46 rfl rfl rfl (Nat.le_of_ble_eq_true rfl) ⟨(Nat.le_of_ble_eq_true rfl), (Nat.le_of_ble_eq_true rfl)⟩ ⟨(Nat.le_of_ble_eq_true rfl), (Nat.le_of_ble_eq_true rfl)⟩ dX11_hen_45 rfl (fun w50 h48 => ?_)
        obtain ⟨hW51, kq52⟩ := h48
        have k53 : w50[0]? = some (ob (a 0) 10 [.ref (a 1), .ref (a 3), .ref (a 5), .ref (a 27), .ref (a 49), .int v24, .ref (a 71), .ref (a 79), .ref (a 87), .ref (a 92), .ref (a 103), .ref (a 105), .ref (a 106), .ref (a 107), .ref (a 108), .ref (a 109), .ref (a 110), .ref (a 111), .ref (a 112)]) := keeps_at kq52 k23 (by first | decide | omega | (dsimp only; omega))
        have k54 : w50[5]? = some (ob (a 5) 8 [.int (nI n26), .int v28, .ref (a 6), .ref (a 9), .ref (a 14), .ref (a 21), .int v29, .int v30, .int v31, .int v32]) := keeps_at kq52 k25 (by first | decide | omega | (dsimp only; omega))
        have k55 : w50[9]? = some (ob (a 9) 4 [.int v34, .ref (a 10), .ref (a 11), .ref (a 12), .ref (a 13)]) := keeps_at kq52 k33 (by first | decide | omega | (dsimp only; omega))
        refine x_iconst C (v := 1) dX11_hen_48 (by decide) rfl ?_
        exact x_zret C hr hlk rfl dX11_hen_49 ⟨hW51, (Or.inr rfl)⟩
      · skip
        refine x_iconst C (v := 0) dX11_hen_33 (by decide) rfl ?_
        exact x_zret C hr hlk rfl dX11_hen_34 ⟨hW, (Or.inl rfl)⟩
theorem dX11_fox_0 : decode cX11_fox 0 = .ok (.aload_n 0, 1) := by decide +kernel
theorem dX11_fox_1 : decode cX11_fox 1 = .ok (.getfield 22, 3) := by decide +kernel
theorem dX11_fox_4 : decode cX11_fox 4 = .ok (.getfield 109, 3) := by decide +kernel
theorem dX11_fox_7 : decode cX11_fox 7 = .ok (.iload_n 1, 1) := by decide +kernel
theorem dX11_fox_8 : decode cX11_fox 8 = .ok (.invokevirtual 118, 3) := by decide +kernel
theorem dX11_fox_11 : decode cX11_fox 11 = .ok (.ifCond .ne 5, 3) := by decide +kernel
theorem dX11_fox_14 : decode cX11_fox 14 = .ok (.iconst 0, 1) := by decide +kernel
theorem dX11_fox_15 : decode cX11_fox 15 = .ok (.ireturn, 1) := by decide +kernel
theorem dX11_fox_16 : decode cX11_fox 16 = .ok (.aload_n 0, 1) := by decide +kernel
theorem dX11_fox_17 : decode cX11_fox 17 = .ok (.getfield 22, 3) := by decide +kernel
theorem dX11_fox_20 : decode cX11_fox 20 = .ok (.getfield 109, 3) := by decide +kernel
theorem dX11_fox_23 : decode cX11_fox 23 = .ok (.dup, 1) := by decide +kernel
theorem dX11_fox_24 : decode cX11_fox 24 = .ok (.getfield 119, 3) := by decide +kernel
theorem dX11_fox_27 : decode cX11_fox 27 = .ok (.iconst 1, 1) := by decide +kernel
theorem dX11_fox_28 : decode cX11_fox 28 = .ok (.iload_n 1, 1) := by decide +kernel
theorem dX11_fox_29 : decode cX11_fox 29 = .ok (.ishl, 1) := by decide +kernel
theorem dX11_fox_30 : decode cX11_fox 30 = .ok (.iconst (-1), 1) := by decide +kernel
theorem dX11_fox_31 : decode cX11_fox 31 = .ok (.ixor, 1) := by decide +kernel
theorem dX11_fox_32 : decode cX11_fox 32 = .ok (.iand, 1) := by decide +kernel
theorem dX11_fox_33 : decode cX11_fox 33 = .ok (.putfield 119, 3) := by decide +kernel
theorem dX11_fox_36 : decode cX11_fox 36 = .ok (.iconst 1, 1) := by decide +kernel
theorem dX11_fox_37 : decode cX11_fox 37 = .ok (.ireturn, 1) := by decide +kernel
set_option maxRecDepth 20000 in
set_option maxHeartbeats 4000000 in
theorem c_fox (E : xE) (l : Launch) (a : Nat → Nat) (ws : va_W) (hW : WX (okX E a) ws) (p0 : Int32) : xI E l yX11_fox cX11_fox 2 (some .boolean) 8 [.ref (a 0), .int p0] ws (fun r w => WX (okX E a) w ∧ zb r) := by
  refine xI_start (lv := [(0, .ref (a 0)), (1, .int p0)]) RX11 (by decide) rfl (Nat.le_of_ble_eq_true rfl) rfl (fun p e s m below meth c A C hr hlk => ?_)
  refine x_aload_n C dX11_fox_0 rfl 0 rfl rfl ?_
  obtain ⟨_, k1, v2, rfl⟩ := hW 0 _ rfl
  refine x_get C (ci := 10) (k := 2) 0 k1 rfl in_X11 (by decide) w_387 rfl dX11_fox_1 rfl ?_
  obtain ⟨_, k3, n4, v6, v7, v8, v9, v10, bn5, rfl⟩ := hW 5 _ rfl
  refine x_get C (ci := 8) (k := 2) 5 k3 rfl in_X9 (by decide) w_201 rfl dX11_fox_4 rfl ?_
  refine x_iload_n C dX11_fox_7 rfl 1 rfl rfl ?_
  obtain ⟨_, k11, v12, rfl⟩ := hW 6 _ rfl
  refine x_vi C (As := [.int p0]) (rest := []) (c_Hens_isTold E l a ws hW 5 (Or.inl rfl) p0) mf_X2_isTold w_474 6 k11 rfl rfl rfl (Nat.le_of_ble_eq_true rfl) ⟨(Nat.le_of_ble_eq_true rfl), (Nat.le_of_ble_eq_true rfl)⟩ ⟨(Nat.le_of_ble_eq_true rfl), (Nat.le_of_ble_eq_true rfl)⟩ dX11_fox_8 rfl (fun r14 w15 h13 => ?_)
  obtain ⟨hW16, zb17, x18⟩ := h13
  refine x_ws hW16 ?_
  refine x_if_ne C (tgt := 16) dX11_fox_11 (by decide) rfl (fun c19 => ?_) (fun c19 => ?_)
  · skip
    obtain ⟨j20, hl21, hh22, ej23⟩ := w_nat (a := 0) (b := 7) (by decide) (by decide) (x18 c19)
    subst ej23
    refine x_aload_n C dX11_fox_16 rfl 0 rfl rfl ?_
    refine x_get C (ci := 10) (k := 2) 0 k1 rfl in_X11 (by decide) w_387 rfl dX11_fox_17 rfl ?_
    refine x_get C (ci := 8) (k := 2) 5 k3 rfl in_X9 (by decide) w_201 rfl dX11_fox_20 rfl ?_
    refine x_dup C dX11_fox_23 rfl rfl ?_
    refine x_get C (ci := 2) (k := 0) 6 k11 rfl in_X2 (by decide) w_69 rfl dX11_fox_24 rfl ?_
    refine x_iconst C (v := 1) dX11_fox_27 (by decide) rfl ?_
    refine x_iload_n C dX11_fox_28 rfl 1 rfl rfl ?_
    refine x_ishl C (v := ((1 : Int32) <<< ((nI j20) &&& 31))) dX11_fox_29 rfl rfl ?_
    refine x_any (fun v24 => ?_)
    refine x_iconst C (v := (-1)) dX11_fox_30 (by decide) rfl ?_
    refine x_ixor C (v := (v24 ^^^ ((-1) : Int32))) dX11_fox_31 rfl rfl ?_
    refine x_any (fun v25 => ?_)
    refine x_iand C (v := (v12 &&& v25)) dX11_fox_32 rfl rfl ?_
    refine x_any (fun v26 => ?_)
    obtain ⟨w27, hw28⟩ : ∃ w : va_W, w = List.set ws 6 (ob (a 6) 2 [.int v26, .ref (a 7), .ref (a 8)]) := ⟨_, rfl⟩
    refine x_put C (ci := 2) (k := 0) (ty := .int) 6 k11 rfl in_X2 tyX2 tyX2_ok nmX2 (by decide) w_69 rfl rfl rfl rfl (Nat.le_of_ble_eq_true rfl) hw28.symm dX11_fox_33 rfl ?_
    have hW29 : WX (okX E a) w27 := by rw [hw28]; exact hW.set (k := 6) rfl ⟨v26, rfl⟩
    have k30 : w27[0]? = some (ob (a 0) 10 [.ref (a 1), .ref (a 3), .ref (a 5), .ref (a 27), .ref (a 49), .int v2, .ref (a 71), .ref (a 79), .ref (a 87), .ref (a 92), .ref (a 103), .ref (a 105), .ref (a 106), .ref (a 107), .ref (a 108), .ref (a 109), .ref (a 110), .ref (a 111), .ref (a 112)]) := by rw [hw28]; exact set_ne k1 (by decide)
    have k31 : w27[5]? = some (ob (a 5) 8 [.int (nI n4), .int v6, .ref (a 6), .ref (a 9), .ref (a 14), .ref (a 21), .int v7, .int v8, .int v9, .int v10]) := by rw [hw28]; exact set_ne k3 (by decide)
    have k32 : w27[6]? = some (ob (a 6) 2 [.int v26, .ref (a 7), .ref (a 8)]) := by rw [hw28]; exact set_eq k11
    refine x_iconst C (v := 1) dX11_fox_36 (by decide) rfl ?_
    exact x_zret C hr hlk rfl dX11_fox_37 ⟨hW29, (Or.inr rfl)⟩
  · skip
    refine x_iconst C (v := 0) dX11_fox_14 (by decide) rfl ?_
    exact x_zret C hr hlk rfl dX11_fox_15 ⟨hW, (Or.inl rfl)⟩
theorem dX11_work_0 : decode cX11_work 0 = .ok (.iload_n 1, 1) := by decide +kernel
theorem dX11_work_1 : decode cX11_work 1 = .ok (.iconst 0, 1) := by decide +kernel
theorem dX11_work_2 : decode cX11_work 2 = .ok (.bipush 7, 2) := by decide +kernel
theorem dX11_work_4 : decode cX11_work 4 = .ok (.invokestatic 102, 3) := by decide +kernel
theorem dX11_work_7 : decode cX11_work 7 = .ok (.ifCond .eq 37, 3) := by decide +kernel
theorem dX11_work_10 : decode cX11_work 10 = .ok (.iload_n 2, 1) := by decide +kernel
theorem dX11_work_11 : decode cX11_work 11 = .ok (.iconst 1, 1) := by decide +kernel
theorem dX11_work_12 : decode cX11_work 12 = .ok (.sipush 999, 3) := by decide +kernel
theorem dX11_work_15 : decode cX11_work 15 = .ok (.invokestatic 102, 3) := by decide +kernel
theorem dX11_work_18 : decode cX11_work 18 = .ok (.ifCond .eq 26, 3) := by decide +kernel
theorem dX11_work_21 : decode cX11_work 21 = .ok (.iload_n 3, 1) := by decide +kernel
theorem dX11_work_22 : decode cX11_work 22 = .ok (.iconst 0, 1) := by decide +kernel
theorem dX11_work_23 : decode cX11_work 23 = .ok (.sipush 999, 3) := by decide +kernel
theorem dX11_work_26 : decode cX11_work 26 = .ok (.invokestatic 102, 3) := by decide +kernel
theorem dX11_work_29 : decode cX11_work 29 = .ok (.ifCond .eq 15, 3) := by decide +kernel
theorem dX11_work_32 : decode cX11_work 32 = .ok (.iload 4, 2) := by decide +kernel
theorem dX11_work_34 : decode cX11_work 34 = .ok (.iconst 0, 1) := by decide +kernel
theorem dX11_work_35 : decode cX11_work 35 = .ok (.sipush 9999, 3) := by decide +kernel
theorem dX11_work_38 : decode cX11_work 38 = .ok (.invokestatic 102, 3) := by decide +kernel
theorem dX11_work_41 : decode cX11_work 41 = .ok (.ifCond .ne 5, 3) := by decide +kernel
theorem dX11_work_44 : decode cX11_work 44 = .ok (.iconst 0, 1) := by decide +kernel
theorem dX11_work_45 : decode cX11_work 45 = .ok (.ireturn, 1) := by decide +kernel
theorem dX11_work_46 : decode cX11_work 46 = .ok (.aload_n 0, 1) := by decide +kernel
theorem dX11_work_47 : decode cX11_work 47 = .ok (.getfield 22, 3) := by decide +kernel
theorem dX11_work_50 : decode cX11_work 50 = .ok (.getfield 123, 3) := by decide +kernel
theorem dX11_work_53 : decode cX11_work 53 = .ok (.iload_n 1, 1) := by decide +kernel
theorem dX11_work_54 : decode cX11_work 54 = .ok (.iload_n 2, 1) := by decide +kernel
theorem dX11_work_55 : decode cX11_work 55 = .ok (.iload_n 3, 1) := by decide +kernel
theorem dX11_work_56 : decode cX11_work 56 = .ok (.iload 4, 2) := by decide +kernel
theorem dX11_work_58 : decode cX11_work 58 = .ok (.invokevirtual 127, 3) := by decide +kernel
theorem dX11_work_61 : decode cX11_work 61 = .ok (.iconst 1, 1) := by decide +kernel
theorem dX11_work_62 : decode cX11_work 62 = .ok (.ireturn, 1) := by decide +kernel
set_option maxRecDepth 20000 in
set_option maxHeartbeats 4000000 in
theorem c_work (E : xE) (l : Launch) (a : Nat → Nat) (ws : va_W) (hW : WX (okX E a) ws) (p0 : Int32) (p1 : Int32) (p2 : Int32) (p3 : Int32) : xI E l yX11_work cX11_work 5 (some .boolean) 8 [.ref (a 0), .int p0, .int p1, .int p2, .int p3] ws (fun r w => WX (okX E a) w ∧ keeps ws w (fun q => ¬ (q = 0 ∨ q = 6 ∨ q = 9 ∨ q = 28 ∨ q = 31)) ∧ zb r) := by
  refine xI_start (lv := [(0, .ref (a 0)), (1, .int p0), (2, .int p1), (3, .int p2), (4, .int p3)]) RX11 (by decide) rfl (Nat.le_of_ble_eq_true rfl) rfl (fun p e s m below meth c A C hr hlk => ?_)
  have kp0 : keeps ws ws (fun q => ¬ (q = 0 ∨ q = 6 ∨ q = 9 ∨ q = 28 ∨ q = 31)) := keeps_rf
  refine x_iload_n C dX11_work_0 rfl 1 rfl rfl ?_
  refine x_iconst C (v := 0) dX11_work_1 (by decide) rfl ?_
  refine x_bipush C (v := 7) dX11_work_2 (by decide) rfl ?_
  refine x_si C (As := [.int p0, .int 0, .int 7]) (rest := []) (c_isWithin E l a ws hW p0 (0 : Int32) (7 : Int32)) mf_X11_isWithin w_462 rfl rfl (Nat.le_of_ble_eq_true rfl) ⟨(Nat.le_of_ble_eq_true rfl), (Nat.le_of_ble_eq_true rfl)⟩ ⟨(Nat.le_of_ble_eq_true rfl), (Nat.le_of_ble_eq_true rfl)⟩ dX11_work_4 rfl (fun r2 w3 h1 => ?_)
  obtain ⟨hW4, zb5, x6⟩ := h1
  refine x_ws hW4 ?_
  refine x_if_eq C (tgt := 44) dX11_work_7 (by decide) rfl (fun c7 => ?_) (fun c7 => ?_)
  · skip
    refine x_iconst C (v := 0) dX11_work_44 (by decide) rfl ?_
    exact x_zret C hr hlk rfl dX11_work_45 ⟨hW, kp0, (Or.inl rfl)⟩
  · skip
    obtain ⟨j8, hl9, hh10, ej11⟩ := w_nat (a := 0) (b := 7) (by decide) (by decide) (x6 c7)
    subst ej11
    refine x_iload_n C dX11_work_10 rfl 2 rfl rfl ?_
    refine x_iconst C (v := 1) dX11_work_11 (by decide) rfl ?_
    refine x_sipush C (v := 999) dX11_work_12 (by decide) rfl ?_
    refine x_si C (As := [.int p1, .int 1, .int 999]) (rest := []) (c_isWithin E l a ws hW p1 (1 : Int32) (999 : Int32)) mf_X11_isWithin w_462 rfl rfl (Nat.le_of_ble_eq_true rfl) ⟨(Nat.le_of_ble_eq_true rfl), (Nat.le_of_ble_eq_true rfl)⟩ ⟨(Nat.le_of_ble_eq_true rfl), (Nat.le_of_ble_eq_true rfl)⟩ dX11_work_15 rfl (fun r13 w14 h12 => ?_)
    obtain ⟨hW15, zb16, x17⟩ := h12
    refine x_ws hW15 ?_
    refine x_if_eq C (tgt := 44) dX11_work_18 (by decide) rfl (fun c18 => ?_) (fun c18 => ?_)
    · skip
      refine x_iconst C (v := 0) dX11_work_44 (by decide) rfl ?_
      exact x_zret C hr hlk rfl dX11_work_45 ⟨hW, kp0, (Or.inl rfl)⟩
    · skip
      obtain ⟨j19, hl20, hh21, ej22⟩ := w_nat (a := 1) (b := 999) (by decide) (by decide) (x17 c18)
      subst ej22
      refine x_iload_n C dX11_work_21 rfl 3 rfl rfl ?_
      refine x_iconst C (v := 0) dX11_work_22 (by decide) rfl ?_
      refine x_sipush C (v := 999) dX11_work_23 (by decide) rfl ?_
      refine x_si C (As := [.int p2, .int 0, .int 999]) (rest := []) (c_isWithin E l a ws hW p2 (0 : Int32) (999 : Int32)) mf_X11_isWithin w_462 rfl rfl (Nat.le_of_ble_eq_true rfl) ⟨(Nat.le_of_ble_eq_true rfl), (Nat.le_of_ble_eq_true rfl)⟩ ⟨(Nat.le_of_ble_eq_true rfl), (Nat.le_of_ble_eq_true rfl)⟩ dX11_work_26 rfl (fun r24 w25 h23 => ?_)
      obtain ⟨hW26, zb27, x28⟩ := h23
      refine x_ws hW26 ?_
      refine x_if_eq C (tgt := 44) dX11_work_29 (by decide) rfl (fun c29 => ?_) (fun c29 => ?_)
      · skip
        refine x_iconst C (v := 0) dX11_work_44 (by decide) rfl ?_
        exact x_zret C hr hlk rfl dX11_work_45 ⟨hW, kp0, (Or.inl rfl)⟩
      · skip
        obtain ⟨j30, hl31, hh32, ej33⟩ := w_nat (a := 0) (b := 999) (by decide) (by decide) (x28 c29)
        subst ej33
        refine x_iload C dX11_work_32 4 rfl rfl ?_
        refine x_iconst C (v := 0) dX11_work_34 (by decide) rfl ?_
        refine x_sipush C (v := 9999) dX11_work_35 (by decide) rfl ?_
        refine x_si C (As := [.int p3, .int 0, .int 9999]) (rest := []) (c_isWithin E l a ws hW p3 (0 : Int32) (9999 : Int32)) mf_X11_isWithin w_462 rfl rfl (Nat.le_of_ble_eq_true rfl) ⟨(Nat.le_of_ble_eq_true rfl), (Nat.le_of_ble_eq_true rfl)⟩ ⟨(Nat.le_of_ble_eq_true rfl), (Nat.le_of_ble_eq_true rfl)⟩ dX11_work_38 rfl (fun r35 w36 h34 => ?_)
        obtain ⟨hW37, zb38, x39⟩ := h34
        refine x_ws hW37 ?_
        refine x_if_ne C (tgt := 46) dX11_work_41 (by decide) rfl (fun c40 => ?_) (fun c40 => ?_)
        · skip
          obtain ⟨j41, hl42, hh43, ej44⟩ := w_nat (a := 0) (b := 9999) (by decide) (by decide) (x39 c40)
          subst ej44
          refine x_aload_n C dX11_work_46 rfl 0 rfl rfl ?_
          obtain ⟨_, k45, v46, rfl⟩ := hW 0 _ rfl
          refine x_get C (ci := 10) (k := 2) 0 k45 rfl in_X11 (by decide) w_387 rfl dX11_work_47 rfl ?_
          obtain ⟨_, k47, n48, v50, v51, v52, v53, v54, bn49, rfl⟩ := hW 5 _ rfl
          refine x_get C (ci := 8) (k := 5) 5 k47 rfl in_X9 (by decide) w_213 rfl dX11_work_50 rfl ?_
          refine x_iload_n C dX11_work_53 rfl 1 rfl rfl ?_
          refine x_iload_n C dX11_work_54 rfl 2 rfl rfl ?_
          refine x_iload_n C dX11_work_55 rfl 3 rfl rfl ?_
          refine x_iload C dX11_work_56 4 rfl rfl ?_
          obtain ⟨_, k55, v56, rfl⟩ := hW 21 _ rfl
          refine x_vv C (As := [.int (nI j8), .int (nI j19), .int (nI j30), .int (nI j41)]) (rest := []) (c_Works_tell E l a ws hW 5 (Or.inl rfl) j8 ((nI j19)) ((nI j30)) ((nI j41)) (by omega)) mf_X10_tell w_483 21 k55 rfl rfl rfl (Nat.le_of_ble_eq_true rfl) ⟨(Nat.le_of_ble_eq_true rfl), (Nat.le_of_ble_eq_true rfl)⟩ ⟨(Nat.le_of_ble_eq_true rfl), (Nat.le_of_ble_eq_true rfl)⟩ dX11_work_58 rfl (fun w59 h57 => ?_)
          obtain ⟨hW60, kq61⟩ := h57
          have k62 : w59[0]? = some (ob (a 0) 10 [.ref (a 1), .ref (a 3), .ref (a 5), .ref (a 27), .ref (a 49), .int v46, .ref (a 71), .ref (a 79), .ref (a 87), .ref (a 92), .ref (a 103), .ref (a 105), .ref (a 106), .ref (a 107), .ref (a 108), .ref (a 109), .ref (a 110), .ref (a 111), .ref (a 112)]) := keeps_at kq61 k45 (by first | decide | omega | (dsimp only; omega))
          have kp63 := keeps_tr kp0 kq61 (fun q hq => by first | omega | (dsimp only at *; omega))
          refine x_iconst C (v := 1) dX11_work_61 (by decide) rfl ?_
          exact x_zret C hr hlk rfl dX11_work_62 ⟨hW60, kp63, (Or.inr rfl)⟩
        · skip
          refine x_iconst C (v := 0) dX11_work_44 (by decide) rfl ?_
          exact x_zret C hr hlk rfl dX11_work_45 ⟨hW, kp0, (Or.inl rfl)⟩
theorem dX11_feed_0 : decode cX11_feed 0 = .ok (.aload_n 0, 1) := by decide +kernel
theorem dX11_feed_1 : decode cX11_feed 1 = .ok (.getfield 10, 3) := by decide +kernel
theorem dX11_feed_4 : decode cX11_feed 4 = .ok (.getfield 142, 3) := by decide +kernel
theorem dX11_feed_7 : decode cX11_feed 7 = .ok (.bipush 20, 2) := by decide +kernel
theorem dX11_feed_9 : decode cX11_feed 9 = .ok (.iadd, 1) := by decide +kernel
theorem dX11_feed_10 : decode cX11_feed 10 = .ok (.sipush 260, 3) := by decide +kernel
theorem dX11_feed_13 : decode cX11_feed 13 = .ok (.if_icmp .le 5, 3) := by decide +kernel
theorem dX11_feed_16 : decode cX11_feed 16 = .ok (.iconst (-1), 1) := by decide +kernel
theorem dX11_feed_17 : decode cX11_feed 17 = .ok (.ireturn, 1) := by decide +kernel
theorem dX11_feed_18 : decode cX11_feed 18 = .ok (.aload_n 0, 1) := by decide +kernel
theorem dX11_feed_19 : decode cX11_feed 19 = .ok (.getfield 10, 3) := by decide +kernel
theorem dX11_feed_22 : decode cX11_feed 22 = .ok (.iload_n 1, 1) := by decide +kernel
theorem dX11_feed_23 : decode cX11_feed 23 = .ok (.invokevirtual 145, 3) := by decide +kernel
theorem dX11_feed_26 : decode cX11_feed 26 = .ok (.aload_n 0, 1) := by decide +kernel
theorem dX11_feed_27 : decode cX11_feed 27 = .ok (.getfield 10, 3) := by decide +kernel
theorem dX11_feed_30 : decode cX11_feed 30 = .ok (.iload_n 2, 1) := by decide +kernel
theorem dX11_feed_31 : decode cX11_feed 31 = .ok (.invokevirtual 145, 3) := by decide +kernel
theorem dX11_feed_34 : decode cX11_feed 34 = .ok (.aload_n 0, 1) := by decide +kernel
theorem dX11_feed_35 : decode cX11_feed 35 = .ok (.getfield 10, 3) := by decide +kernel
theorem dX11_feed_38 : decode cX11_feed 38 = .ok (.iload_n 3, 1) := by decide +kernel
theorem dX11_feed_39 : decode cX11_feed 39 = .ok (.invokevirtual 145, 3) := by decide +kernel
theorem dX11_feed_42 : decode cX11_feed 42 = .ok (.aload_n 0, 1) := by decide +kernel
theorem dX11_feed_43 : decode cX11_feed 43 = .ok (.getfield 10, 3) := by decide +kernel
theorem dX11_feed_46 : decode cX11_feed 46 = .ok (.iload 4, 2) := by decide +kernel
theorem dX11_feed_48 : decode cX11_feed 48 = .ok (.invokevirtual 145, 3) := by decide +kernel
theorem dX11_feed_51 : decode cX11_feed 51 = .ok (.aload_n 0, 1) := by decide +kernel
theorem dX11_feed_52 : decode cX11_feed 52 = .ok (.getfield 10, 3) := by decide +kernel
theorem dX11_feed_55 : decode cX11_feed 55 = .ok (.iload 5, 2) := by decide +kernel
theorem dX11_feed_57 : decode cX11_feed 57 = .ok (.invokevirtual 145, 3) := by decide +kernel
theorem dX11_feed_60 : decode cX11_feed 60 = .ok (.aload_n 0, 1) := by decide +kernel
theorem dX11_feed_61 : decode cX11_feed 61 = .ok (.getfield 10, 3) := by decide +kernel
theorem dX11_feed_64 : decode cX11_feed 64 = .ok (.getfield 142, 3) := by decide +kernel
theorem dX11_feed_67 : decode cX11_feed 67 = .ok (.ireturn, 1) := by decide +kernel
set_option maxRecDepth 20000 in
set_option maxHeartbeats 4000000 in
theorem c_feed (E : xE) (l : Launch) (a : Nat → Nat) (ws : va_W) (hW : WX (okX E a) ws) (p0 : Int32) (p1 : Int32) (p2 : Int32) (p3 : Int32) (p4 : Int32) : xI E l yX11_feed cX11_feed 6 (some .int) 8 [.ref (a 0), .int p0, .int p1, .int p2, .int p3, .int p4] ws (fun r w => WX (okX E a) w ∧ keeps ws w (fun q => ¬ (q = 0 ∨ q = 6 ∨ q = 9 ∨ q = 28 ∨ q = 31))) := by
  refine xI_start (lv := [(0, .ref (a 0)), (1, .int p0), (2, .int p1), (3, .int p2), (4, .int p3), (5, .int p4)]) RX11 (by decide) rfl (Nat.le_of_ble_eq_true rfl) rfl (fun p e s m below meth c A C hr hlk => ?_)
  have kp0 : keeps ws ws (fun q => ¬ (q = 0 ∨ q = 6 ∨ q = 9 ∨ q = 28 ∨ q = 31)) := keeps_rf
  refine x_aload_n C dX11_feed_0 rfl 0 rfl rfl ?_
  obtain ⟨_, k1, v2, rfl⟩ := hW 0 _ rfl
  refine x_get C (ci := 10) (k := 0) 0 k1 rfl in_X11 (by decide) w_385 rfl dX11_feed_1 rfl ?_
  obtain ⟨_, k3, n4, v6, v7, v8, bn5, rfl⟩ := hW 1 _ rfl
  refine x_get C (ci := 7) (k := 1) 1 k3 rfl in_X8 (by decide) w_38 rfl dX11_feed_4 rfl ?_
  refine x_bipush C (v := 20) dX11_feed_7 (by decide) rfl ?_
  refine x_iadd C (v := (nI (n4 + 20))) dX11_feed_9 (nI_add n4 20) rfl ?_
  refine x_sipush C (v := 260) dX11_feed_10 (by decide) rfl ?_
  refine x_icmp_le C (tgt := 18) dX11_feed_13 (by decide) rfl (fun c9 => ?_) (fun c9 => ?_)
  · skip
    have nf10 := nI_le' (a := (n4 + 20)) (b := 260) c9 (by omega) (by omega)
    refine x_aload_n C dX11_feed_18 rfl 0 rfl rfl ?_
    refine x_get C (ci := 10) (k := 0) 0 k1 rfl in_X11 (by decide) w_385 rfl dX11_feed_19 rfl ?_
    refine x_iload_n C dX11_feed_22 rfl 1 rfl rfl ?_
    refine x_vv C (As := [.int p0]) (rest := []) (c_addWord E l a ws hW p0) mf_X8_addWord w_499 1 k3 rfl rfl rfl (Nat.le_of_ble_eq_true rfl) ⟨(Nat.le_of_ble_eq_true rfl), (Nat.le_of_ble_eq_true rfl)⟩ ⟨(Nat.le_of_ble_eq_true rfl), (Nat.le_of_ble_eq_true rfl)⟩ dX11_feed_23 rfl (fun w13 h11 => ?_)
    obtain ⟨hW14, kq15⟩ := h11
    have k16 : w13[0]? = some (ob (a 0) 10 [.ref (a 1), .ref (a 3), .ref (a 5), .ref (a 27), .ref (a 49), .int v2, .ref (a 71), .ref (a 79), .ref (a 87), .ref (a 92), .ref (a 103), .ref (a 105), .ref (a 106), .ref (a 107), .ref (a 108), .ref (a 109), .ref (a 110), .ref (a 111), .ref (a 112)]) := keeps_at kq15 k1 (by first | decide | omega | (dsimp only; omega))
    have kp17 := keeps_tr kp0 kq15 (fun q hq => by first | omega | (dsimp only at *; omega))
    refine x_aload_n C dX11_feed_26 rfl 0 rfl rfl ?_
    refine x_get C (ci := 10) (k := 0) 0 k16 rfl in_X11 (by decide) w_385 rfl dX11_feed_27 rfl ?_
    refine x_iload_n C dX11_feed_30 rfl 2 rfl rfl ?_
    obtain ⟨_, k18, n19, v21, v22, v23, bn20, rfl⟩ := hW14 1 _ rfl
    refine x_vv C (As := [.int p1]) (rest := []) (c_addWord E l a w13 hW14 p1) mf_X8_addWord w_499 1 k18 rfl rfl rfl (Nat.le_of_ble_eq_true rfl) ⟨(Nat.le_of_ble_eq_true rfl), (Nat.le_of_ble_eq_true rfl)⟩ ⟨(Nat.le_of_ble_eq_true rfl), (Nat.le_of_ble_eq_true rfl)⟩ dX11_feed_31 rfl (fun w26 h24 => ?_)
    obtain ⟨hW27, kq28⟩ := h24
    have k29 : w26[0]? = some (ob (a 0) 10 [.ref (a 1), .ref (a 3), .ref (a 5), .ref (a 27), .ref (a 49), .int v2, .ref (a 71), .ref (a 79), .ref (a 87), .ref (a 92), .ref (a 103), .ref (a 105), .ref (a 106), .ref (a 107), .ref (a 108), .ref (a 109), .ref (a 110), .ref (a 111), .ref (a 112)]) := keeps_at kq28 k16 (by first | decide | omega | (dsimp only; omega))
    have kp30 := keeps_tr kp17 kq28 (fun q hq => by first | omega | (dsimp only at *; omega))
    refine x_aload_n C dX11_feed_34 rfl 0 rfl rfl ?_
    refine x_get C (ci := 10) (k := 0) 0 k29 rfl in_X11 (by decide) w_385 rfl dX11_feed_35 rfl ?_
    refine x_iload_n C dX11_feed_38 rfl 3 rfl rfl ?_
    obtain ⟨_, k31, n32, v34, v35, v36, bn33, rfl⟩ := hW27 1 _ rfl
    refine x_vv C (As := [.int p2]) (rest := []) (c_addWord E l a w26 hW27 p2) mf_X8_addWord w_499 1 k31 rfl rfl rfl (Nat.le_of_ble_eq_true rfl) ⟨(Nat.le_of_ble_eq_true rfl), (Nat.le_of_ble_eq_true rfl)⟩ ⟨(Nat.le_of_ble_eq_true rfl), (Nat.le_of_ble_eq_true rfl)⟩ dX11_feed_39 rfl (fun w39 h37 => ?_)
    obtain ⟨hW40, kq41⟩ := h37
    have k42 : w39[0]? = some (ob (a 0) 10 [.ref (a 1), .ref (a 3), .ref (a 5), .ref (a 27), .ref (a 49), .int v2, .ref (a 71), .ref (a 79), .ref (a 87), .ref (a 92), .ref (a 103), .ref (a 105), .ref (a 106), .ref (a 107), .ref (a 108), .ref (a 109), .ref (a 110), .ref (a 111), .ref (a 112)]) := keeps_at kq41 k29 (by first | decide | omega | (dsimp only; omega))
    have kp43 := keeps_tr kp30 kq41 (fun q hq => by first | omega | (dsimp only at *; omega))
    refine x_aload_n C dX11_feed_42 rfl 0 rfl rfl ?_
    refine x_get C (ci := 10) (k := 0) 0 k42 rfl in_X11 (by decide) w_385 rfl dX11_feed_43 rfl ?_
    refine x_iload C dX11_feed_46 4 rfl rfl ?_
    obtain ⟨_, k44, n45, v47, v48, v49, bn46, rfl⟩ := hW40 1 _ rfl
    refine x_vv C (As := [.int p3]) (rest := []) (c_addWord E l a w39 hW40 p3) mf_X8_addWord w_499 1 k44 rfl rfl rfl (Nat.le_of_ble_eq_true rfl) ⟨(Nat.le_of_ble_eq_true rfl), (Nat.le_of_ble_eq_true rfl)⟩ ⟨(Nat.le_of_ble_eq_true rfl), (Nat.le_of_ble_eq_true rfl)⟩ dX11_feed_48 rfl (fun w52 h50 => ?_)
    obtain ⟨hW53, kq54⟩ := h50
    have k55 : w52[0]? = some (ob (a 0) 10 [.ref (a 1), .ref (a 3), .ref (a 5), .ref (a 27), .ref (a 49), .int v2, .ref (a 71), .ref (a 79), .ref (a 87), .ref (a 92), .ref (a 103), .ref (a 105), .ref (a 106), .ref (a 107), .ref (a 108), .ref (a 109), .ref (a 110), .ref (a 111), .ref (a 112)]) := keeps_at kq54 k42 (by first | decide | omega | (dsimp only; omega))
    have kp56 := keeps_tr kp43 kq54 (fun q hq => by first | omega | (dsimp only at *; omega))
    refine x_aload_n C dX11_feed_51 rfl 0 rfl rfl ?_
    refine x_get C (ci := 10) (k := 0) 0 k55 rfl in_X11 (by decide) w_385 rfl dX11_feed_52 rfl ?_
    refine x_iload C dX11_feed_55 5 rfl rfl ?_
    obtain ⟨_, k57, n58, v60, v61, v62, bn59, rfl⟩ := hW53 1 _ rfl
    refine x_vv C (As := [.int p4]) (rest := []) (c_addWord E l a w52 hW53 p4) mf_X8_addWord w_499 1 k57 rfl rfl rfl (Nat.le_of_ble_eq_true rfl) ⟨(Nat.le_of_ble_eq_true rfl), (Nat.le_of_ble_eq_true rfl)⟩ ⟨(Nat.le_of_ble_eq_true rfl), (Nat.le_of_ble_eq_true rfl)⟩ dX11_feed_57 rfl (fun w65 h63 => ?_)
    obtain ⟨hW66, kq67⟩ := h63
    have k68 : w65[0]? = some (ob (a 0) 10 [.ref (a 1), .ref (a 3), .ref (a 5), .ref (a 27), .ref (a 49), .int v2, .ref (a 71), .ref (a 79), .ref (a 87), .ref (a 92), .ref (a 103), .ref (a 105), .ref (a 106), .ref (a 107), .ref (a 108), .ref (a 109), .ref (a 110), .ref (a 111), .ref (a 112)]) := keeps_at kq67 k55 (by first | decide | omega | (dsimp only; omega))
    have kp69 := keeps_tr kp56 kq67 (fun q hq => by first | omega | (dsimp only at *; omega))
    refine x_aload_n C dX11_feed_60 rfl 0 rfl rfl ?_
    refine x_get C (ci := 10) (k := 0) 0 k68 rfl in_X11 (by decide) w_385 rfl dX11_feed_61 rfl ?_
    obtain ⟨_, k70, n71, v73, v74, v75, bn72, rfl⟩ := hW66 1 _ rfl
    refine x_get C (ci := 7) (k := 1) 1 k70 rfl in_X8 (by decide) w_38 rfl dX11_feed_64 rfl ?_
    exact x_zret C hr hlk rfl dX11_feed_67 ⟨hW66, kp69⟩
  · skip
    have nf76 := nI_nle' (a := (n4 + 20)) (b := 260) c9 (by omega) (by omega)
    refine x_iconst C (v := (-1)) dX11_feed_16 (by decide) rfl ?_
    exact x_zret C hr hlk rfl dX11_feed_17 ⟨hW, kp0⟩
theorem dX11_days_0 : decode cX11_days 0 = .ok (.iload_n 1, 1) := by decide +kernel
theorem dX11_days_1 : decode cX11_days 1 = .ok (.iconst 1, 1) := by decide +kernel
theorem dX11_days_2 : decode cX11_days 2 = .ok (.bipush 60, 2) := by decide +kernel
theorem dX11_days_4 : decode cX11_days 4 = .ok (.invokestatic 102, 3) := by decide +kernel
theorem dX11_days_7 : decode cX11_days 7 = .ok (.ifCond .ne 5, 3) := by decide +kernel
theorem dX11_days_10 : decode cX11_days 10 = .ok (.iconst (-1), 1) := by decide +kernel
theorem dX11_days_11 : decode cX11_days 11 = .ok (.ireturn, 1) := by decide +kernel
theorem dX11_days_12 : decode cX11_days 12 = .ok (.aload_n 0, 1) := by decide +kernel
theorem dX11_days_13 : decode cX11_days 13 = .ok (.getfield 22, 3) := by decide +kernel
theorem dX11_days_16 : decode cX11_days 16 = .ok (.iload_n 1, 1) := by decide +kernel
theorem dX11_days_17 : decode cX11_days 17 = .ok (.aload_n 0, 1) := by decide +kernel
theorem dX11_days_18 : decode cX11_days 18 = .ok (.getfield 39, 3) := by decide +kernel
theorem dX11_days_21 : decode cX11_days 21 = .ok (.invokevirtual 187, 3) := by decide +kernel
theorem dX11_days_24 : decode cX11_days 24 = .ok (.aload_n 0, 1) := by decide +kernel
theorem dX11_days_25 : decode cX11_days 25 = .ok (.getfield 22, 3) := by decide +kernel
theorem dX11_days_28 : decode cX11_days 28 = .ok (.getfield 191, 3) := by decide +kernel
theorem dX11_days_31 : decode cX11_days 31 = .ok (.ireturn, 1) := by decide +kernel
set_option maxRecDepth 20000 in
set_option maxHeartbeats 4000000 in
theorem c_days (E : xE) (l : Launch) (a : Nat → Nat) (ws : va_W) (hW : WX (okX E a) ws) (p0 : Int32) : xI E l yX11_days cX11_days 2 (some .int) 8 [.ref (a 0), .int p0] ws (fun r w => WX (okX E a) w ∧ keeps ws w (fun q => ¬ (q = 0 ∨ q = 6 ∨ q = 9 ∨ q = 28 ∨ q = 31))) := by
  refine xI_start (lv := [(0, .ref (a 0)), (1, .int p0)]) RX11 (by decide) rfl (Nat.le_of_ble_eq_true rfl) rfl (fun p e s m below meth c A C hr hlk => ?_)
  have kp0 : keeps ws ws (fun q => ¬ (q = 0 ∨ q = 6 ∨ q = 9 ∨ q = 28 ∨ q = 31)) := keeps_rf
  refine x_iload_n C dX11_days_0 rfl 1 rfl rfl ?_
  refine x_iconst C (v := 1) dX11_days_1 (by decide) rfl ?_
  refine x_bipush C (v := 60) dX11_days_2 (by decide) rfl ?_
  refine x_si C (As := [.int p0, .int 1, .int 60]) (rest := []) (c_isWithin E l a ws hW p0 (1 : Int32) (60 : Int32)) mf_X11_isWithin w_462 rfl rfl (Nat.le_of_ble_eq_true rfl) ⟨(Nat.le_of_ble_eq_true rfl), (Nat.le_of_ble_eq_true rfl)⟩ ⟨(Nat.le_of_ble_eq_true rfl), (Nat.le_of_ble_eq_true rfl)⟩ dX11_days_4 rfl (fun r2 w3 h1 => ?_)
  obtain ⟨hW4, zb5, x6⟩ := h1
  refine x_ws hW4 ?_
  refine x_if_ne C (tgt := 12) dX11_days_7 (by decide) rfl (fun c7 => ?_) (fun c7 => ?_)
  · skip
    obtain ⟨j8, hl9, hh10, ej11⟩ := w_nat (a := 1) (b := 60) (by decide) (by decide) (x6 c7)
    subst ej11
    refine x_aload_n C dX11_days_12 rfl 0 rfl rfl ?_
    obtain ⟨_, k12, v13, rfl⟩ := hW 0 _ rfl
    refine x_get C (ci := 10) (k := 2) 0 k12 rfl in_X11 (by decide) w_387 rfl dX11_days_13 rfl ?_
    refine x_iload_n C dX11_days_16 rfl 1 rfl rfl ?_
    refine x_aload_n C dX11_days_17 rfl 0 rfl rfl ?_
    refine x_get C (ci := 10) (k := 6) 0 k12 rfl in_X11 (by decide) w_391 rfl dX11_days_18 rfl ?_
    obtain ⟨_, k14, n15, v17, v18, v19, v20, v21, bn16, rfl⟩ := hW 5 _ rfl
    refine x_vv C (As := [.int (nI j8), .ref (a 71)]) (rest := []) (c_passDays E l a ws hW 5 (Or.inl rfl) j8 (by omega)) mf_X9_passDays w_818 5 k14 rfl rfl rfl (Nat.le_of_ble_eq_true rfl) ⟨(Nat.le_of_ble_eq_true rfl), (Nat.le_of_ble_eq_true rfl)⟩ ⟨(Nat.le_of_ble_eq_true rfl), (Nat.le_of_ble_eq_true rfl)⟩ dX11_days_21 rfl (fun w24 h22 => ?_)
    obtain ⟨hW25, kq26⟩ := h22
    have k27 : w24[0]? = some (ob (a 0) 10 [.ref (a 1), .ref (a 3), .ref (a 5), .ref (a 27), .ref (a 49), .int v13, .ref (a 71), .ref (a 79), .ref (a 87), .ref (a 92), .ref (a 103), .ref (a 105), .ref (a 106), .ref (a 107), .ref (a 108), .ref (a 109), .ref (a 110), .ref (a 111), .ref (a 112)]) := keeps_at kq26 k12 (by first | decide | omega | (dsimp only; omega))
    have kp28 := keeps_tr kp0 kq26 (fun q hq => by first | omega | (dsimp only at *; omega))
    refine x_aload_n C dX11_days_24 rfl 0 rfl rfl ?_
    refine x_get C (ci := 10) (k := 2) 0 k27 rfl in_X11 (by decide) w_387 rfl dX11_days_25 rfl ?_
    obtain ⟨_, k29, n30, v32, v33, v34, v35, v36, bn31, rfl⟩ := hW25 5 _ rfl
    refine x_get C (ci := 8) (k := 6) 5 k29 rfl in_X9 (by decide) w_216 rfl dX11_days_28 rfl ?_
    exact x_zret C hr hlk rfl dX11_days_31 ⟨hW25, kp28⟩
  · skip
    refine x_iconst C (v := (-1)) dX11_days_10 (by decide) rfl ?_
    exact x_zret C hr hlk rfl dX11_days_11 ⟨hW, kp0⟩
theorem dX11_tried_0 : decode cX11_tried 0 = .ok (.iload_n 1, 1) := by decide +kernel
theorem dX11_tried_1 : decode cX11_tried 1 = .ok (.iconst 1, 1) := by decide +kernel
theorem dX11_tried_2 : decode cX11_tried 2 = .ok (.bipush 60, 2) := by decide +kernel
theorem dX11_tried_4 : decode cX11_tried 4 = .ok (.invokestatic 102, 3) := by decide +kernel
theorem dX11_tried_7 : decode cX11_tried 7 = .ok (.ifCond .eq 12, 3) := by decide +kernel
theorem dX11_tried_10 : decode cX11_tried 10 = .ok (.iload_n 2, 1) := by decide +kernel
theorem dX11_tried_11 : decode cX11_tried 11 = .ok (.iconst 0, 1) := by decide +kernel
theorem dX11_tried_12 : decode cX11_tried 12 = .ok (.iconst 4, 1) := by decide +kernel
theorem dX11_tried_13 : decode cX11_tried 13 = .ok (.invokestatic 102, 3) := by decide +kernel
theorem dX11_tried_16 : decode cX11_tried 16 = .ok (.ifCond .ne 5, 3) := by decide +kernel
theorem dX11_tried_19 : decode cX11_tried 19 = .ok (.iconst (-1), 1) := by decide +kernel
theorem dX11_tried_20 : decode cX11_tried 20 = .ok (.ireturn, 1) := by decide +kernel
theorem dX11_tried_21 : decode cX11_tried 21 = .ok (.aload_n 0, 1) := by decide +kernel
theorem dX11_tried_22 : decode cX11_tried 22 = .ok (.getfield 29, 3) := by decide +kernel
theorem dX11_tried_25 : decode cX11_tried 25 = .ok (.aload_n 0, 1) := by decide +kernel
theorem dX11_tried_26 : decode cX11_tried 26 = .ok (.getfield 22, 3) := by decide +kernel
theorem dX11_tried_29 : decode cX11_tried 29 = .ok (.invokevirtual 180, 3) := by decide +kernel
theorem dX11_tried_32 : decode cX11_tried 32 = .ok (.aload_n 0, 1) := by decide +kernel
theorem dX11_tried_33 : decode cX11_tried 33 = .ok (.getfield 29, 3) := by decide +kernel
theorem dX11_tried_36 : decode cX11_tried 36 = .ok (.iload_n 1, 1) := by decide +kernel
theorem dX11_tried_37 : decode cX11_tried 37 = .ok (.aload_n 0, 1) := by decide +kernel
theorem dX11_tried_38 : decode cX11_tried 38 = .ok (.getfield 39, 3) := by decide +kernel
theorem dX11_tried_41 : decode cX11_tried 41 = .ok (.invokevirtual 187, 3) := by decide +kernel
theorem dX11_tried_44 : decode cX11_tried 44 = .ok (.iload_n 2, 1) := by decide +kernel
theorem dX11_tried_45 : decode cX11_tried 45 = .ok (.tableswitch 63 0 3 #[31, 39, 47, 55], 31) := by decide +kernel
theorem dX11_tried_76 : decode cX11_tried 76 = .ok (.aload_n 0, 1) := by decide +kernel
theorem dX11_tried_77 : decode cX11_tried 77 = .ok (.getfield 29, 3) := by decide +kernel
theorem dX11_tried_80 : decode cX11_tried 80 = .ok (.getfield 191, 3) := by decide +kernel
theorem dX11_tried_83 : decode cX11_tried 83 = .ok (.ireturn, 1) := by decide +kernel
theorem dX11_tried_84 : decode cX11_tried 84 = .ok (.aload_n 0, 1) := by decide +kernel
theorem dX11_tried_85 : decode cX11_tried 85 = .ok (.getfield 29, 3) := by decide +kernel
theorem dX11_tried_88 : decode cX11_tried 88 = .ok (.getfield 194, 3) := by decide +kernel
theorem dX11_tried_91 : decode cX11_tried 91 = .ok (.ireturn, 1) := by decide +kernel
theorem dX11_tried_92 : decode cX11_tried 92 = .ok (.aload_n 0, 1) := by decide +kernel
theorem dX11_tried_93 : decode cX11_tried 93 = .ok (.getfield 29, 3) := by decide +kernel
theorem dX11_tried_96 : decode cX11_tried 96 = .ok (.getfield 197, 3) := by decide +kernel
theorem dX11_tried_99 : decode cX11_tried 99 = .ok (.ireturn, 1) := by decide +kernel
theorem dX11_tried_100 : decode cX11_tried 100 = .ok (.aload_n 0, 1) := by decide +kernel
theorem dX11_tried_101 : decode cX11_tried 101 = .ok (.getfield 29, 3) := by decide +kernel
theorem dX11_tried_104 : decode cX11_tried 104 = .ok (.getfield 200, 3) := by decide +kernel
theorem dX11_tried_107 : decode cX11_tried 107 = .ok (.ireturn, 1) := by decide +kernel
theorem dX11_tried_108 : decode cX11_tried 108 = .ok (.aload_n 0, 1) := by decide +kernel
theorem dX11_tried_109 : decode cX11_tried 109 = .ok (.getfield 29, 3) := by decide +kernel
theorem dX11_tried_112 : decode cX11_tried 112 = .ok (.getfield 132, 3) := by decide +kernel
theorem dX11_tried_115 : decode cX11_tried 115 = .ok (.iconst 0, 1) := by decide +kernel
theorem dX11_tried_116 : decode cX11_tried 116 = .ok (.invokevirtual 203, 3) := by decide +kernel
theorem dX11_tried_119 : decode cX11_tried 119 = .ok (.ireturn, 1) := by decide +kernel
set_option maxRecDepth 20000 in
set_option maxHeartbeats 4000000 in
theorem c_tried (E : xE) (l : Launch) (a : Nat → Nat) (ws : va_W) (hW : WX (okX E a) ws) (p0 : Int32) (p1 : Int32) : xI E l yX11_tried cX11_tried 3 (some .int) 8 [.ref (a 0), .int p0, .int p1] ws (fun r w => WX (okX E a) w ∧ keeps ws w (fun q => ¬ (q = 0 ∨ q = 6 ∨ q = 9 ∨ q = 28 ∨ q = 31))) := by
  refine xI_start (lv := [(0, .ref (a 0)), (1, .int p0), (2, .int p1)]) RX11 (by decide) rfl (Nat.le_of_ble_eq_true rfl) rfl (fun p e s m below meth c A C hr hlk => ?_)
  have kp0 : keeps ws ws (fun q => ¬ (q = 0 ∨ q = 6 ∨ q = 9 ∨ q = 28 ∨ q = 31)) := keeps_rf
  refine x_iload_n C dX11_tried_0 rfl 1 rfl rfl ?_
  refine x_iconst C (v := 1) dX11_tried_1 (by decide) rfl ?_
  refine x_bipush C (v := 60) dX11_tried_2 (by decide) rfl ?_
  refine x_si C (As := [.int p0, .int 1, .int 60]) (rest := []) (c_isWithin E l a ws hW p0 (1 : Int32) (60 : Int32)) mf_X11_isWithin w_462 rfl rfl (Nat.le_of_ble_eq_true rfl) ⟨(Nat.le_of_ble_eq_true rfl), (Nat.le_of_ble_eq_true rfl)⟩ ⟨(Nat.le_of_ble_eq_true rfl), (Nat.le_of_ble_eq_true rfl)⟩ dX11_tried_4 rfl (fun r2 w3 h1 => ?_)
  obtain ⟨hW4, zb5, x6⟩ := h1
  refine x_ws hW4 ?_
  refine x_if_eq C (tgt := 19) dX11_tried_7 (by decide) rfl (fun c7 => ?_) (fun c7 => ?_)
  · skip
    refine x_iconst C (v := (-1)) dX11_tried_19 (by decide) rfl ?_
    exact x_zret C hr hlk rfl dX11_tried_20 ⟨hW, kp0⟩
  · skip
    obtain ⟨j8, hl9, hh10, ej11⟩ := w_nat (a := 1) (b := 60) (by decide) (by decide) (x6 c7)
    subst ej11
    refine x_iload_n C dX11_tried_10 rfl 2 rfl rfl ?_
    refine x_iconst C (v := 0) dX11_tried_11 (by decide) rfl ?_
    refine x_iconst C (v := 4) dX11_tried_12 (by decide) rfl ?_
    refine x_si C (As := [.int p1, .int 0, .int 4]) (rest := []) (c_isWithin E l a ws hW p1 (0 : Int32) (4 : Int32)) mf_X11_isWithin w_462 rfl rfl (Nat.le_of_ble_eq_true rfl) ⟨(Nat.le_of_ble_eq_true rfl), (Nat.le_of_ble_eq_true rfl)⟩ ⟨(Nat.le_of_ble_eq_true rfl), (Nat.le_of_ble_eq_true rfl)⟩ dX11_tried_13 rfl (fun r13 w14 h12 => ?_)
    obtain ⟨hW15, zb16, x17⟩ := h12
    refine x_ws hW15 ?_
    refine x_if_ne C (tgt := 21) dX11_tried_16 (by decide) rfl (fun c18 => ?_) (fun c18 => ?_)
    · skip
      obtain ⟨j19, hl20, hh21, ej22⟩ := w_nat (a := 0) (b := 4) (by decide) (by decide) (x17 c18)
      subst ej22
      refine x_aload_n C dX11_tried_21 rfl 0 rfl rfl ?_
      obtain ⟨_, k23, v24, rfl⟩ := hW 0 _ rfl
      refine x_get C (ci := 10) (k := 4) 0 k23 rfl in_X11 (by decide) w_389 rfl dX11_tried_22 rfl ?_
      refine x_aload_n C dX11_tried_25 rfl 0 rfl rfl ?_
      refine x_get C (ci := 10) (k := 2) 0 k23 rfl in_X11 (by decide) w_387 rfl dX11_tried_26 rfl ?_
      obtain ⟨_, k25, n26, v28, v29, v30, v31, v32, bn27, rfl⟩ := hW 49 _ rfl
      refine x_vv C (As := [.ref (a 5)]) (rest := []) (c_Town_copy E l a ws hW 49 (Or.inr (Or.inr rfl)) 5 (Or.inl rfl) (by decide)) mf_X9_copyFrom w_788 49 k25 rfl rfl rfl (Nat.le_of_ble_eq_true rfl) ⟨(Nat.le_of_ble_eq_true rfl), (Nat.le_of_ble_eq_true rfl)⟩ ⟨(Nat.le_of_ble_eq_true rfl), (Nat.le_of_ble_eq_true rfl)⟩ dX11_tried_29 rfl (fun w35 h33 => ?_)
      obtain ⟨hW36, kq37⟩ := h33
      have k38 : w35[0]? = some (ob (a 0) 10 [.ref (a 1), .ref (a 3), .ref (a 5), .ref (a 27), .ref (a 49), .int v24, .ref (a 71), .ref (a 79), .ref (a 87), .ref (a 92), .ref (a 103), .ref (a 105), .ref (a 106), .ref (a 107), .ref (a 108), .ref (a 109), .ref (a 110), .ref (a 111), .ref (a 112)]) := keeps_at kq37 k23 (by first | decide | omega | (dsimp only; omega))
      have kp39 := keeps_tr kp0 kq37 (fun q hq => by first | omega | (dsimp only at *; omega))
      refine x_aload_n C dX11_tried_32 rfl 0 rfl rfl ?_
      refine x_get C (ci := 10) (k := 4) 0 k38 rfl in_X11 (by decide) w_389 rfl dX11_tried_33 rfl ?_
      refine x_iload_n C dX11_tried_36 rfl 1 rfl rfl ?_
      refine x_aload_n C dX11_tried_37 rfl 0 rfl rfl ?_
      refine x_get C (ci := 10) (k := 6) 0 k38 rfl in_X11 (by decide) w_391 rfl dX11_tried_38 rfl ?_
      obtain ⟨_, k40, n41, v43, v44, v45, v46, v47, bn42, rfl⟩ := hW36 49 _ rfl
      refine x_vv C (As := [.int (nI j8), .ref (a 71)]) (rest := []) (c_passDays E l a w35 hW36 49 (Or.inr (Or.inr rfl)) j8 (by omega)) mf_X9_passDays w_818 49 k40 rfl rfl rfl (Nat.le_of_ble_eq_true rfl) ⟨(Nat.le_of_ble_eq_true rfl), (Nat.le_of_ble_eq_true rfl)⟩ ⟨(Nat.le_of_ble_eq_true rfl), (Nat.le_of_ble_eq_true rfl)⟩ dX11_tried_41 rfl (fun w50 h48 => ?_)
      obtain ⟨hW51, kq52⟩ := h48
      have k53 : w50[0]? = some (ob (a 0) 10 [.ref (a 1), .ref (a 3), .ref (a 5), .ref (a 27), .ref (a 49), .int v24, .ref (a 71), .ref (a 79), .ref (a 87), .ref (a 92), .ref (a 103), .ref (a 105), .ref (a 106), .ref (a 107), .ref (a 108), .ref (a 109), .ref (a 110), .ref (a 111), .ref (a 112)]) := keeps_at kq52 k38 (by first | decide | omega | (dsimp only; omega))
      have kp54 := keeps_tr kp39 kq52 (fun q hq => by first | omega | (dsimp only at *; omega))
      refine x_iload_n C dX11_tried_44 rfl 2 rfl rfl ?_
      by_cases s55 : ((nI j19)).toInt < 0
      · refine x_tabOut C (tgt := 108) dX11_tried_45 (Or.inl s55) (by decide) ?_
        refine x_aload_n C dX11_tried_108 rfl 0 rfl rfl ?_
        refine x_get C (ci := 10) (k := 4) 0 k53 rfl in_X11 (by decide) w_389 rfl dX11_tried_109 rfl ?_
        obtain ⟨_, k57, n58, v60, v61, v62, v63, v64, bn59, rfl⟩ := hW51 49 _ rfl
        refine x_get C (ci := 8) (k := 4) 49 k57 rfl in_X9 (by decide) w_209 rfl dX11_tried_112 rfl ?_
        refine x_iconst C (v := 0) dX11_tried_115 (by decide) rfl ?_
        obtain ⟨_, k65, n66, bn67, rfl⟩ := hW51 58 _ rfl
        refine x_vi C (As := [.int 0]) (rest := []) (c_Eggs_howMany E l a w50 hW51 49 (Or.inr (Or.inr rfl)) (0 : Int32)) mf_X1_howMany w_853 58 k65 rfl rfl rfl (Nat.le_of_ble_eq_true rfl) ⟨(Nat.le_of_ble_eq_true rfl), (Nat.le_of_ble_eq_true rfl)⟩ ⟨(Nat.le_of_ble_eq_true rfl), (Nat.le_of_ble_eq_true rfl)⟩ dX11_tried_116 rfl (fun r69 w70 h68 => ?_)
        have hW71 := h68
        refine x_ws hW71 ?_
        exact x_zret C hr hlk rfl dX11_tried_119 ⟨hW51, kp54⟩
      by_cases s56 : 3 < ((nI j19)).toInt
      · refine x_tabOut C (tgt := 108) dX11_tried_45 (Or.inr s56) (by decide) ?_
        refine x_aload_n C dX11_tried_108 rfl 0 rfl rfl ?_
        refine x_get C (ci := 10) (k := 4) 0 k53 rfl in_X11 (by decide) w_389 rfl dX11_tried_109 rfl ?_
        obtain ⟨_, k72, n73, v75, v76, v77, v78, v79, bn74, rfl⟩ := hW51 49 _ rfl
        refine x_get C (ci := 8) (k := 4) 49 k72 rfl in_X9 (by decide) w_209 rfl dX11_tried_112 rfl ?_
        refine x_iconst C (v := 0) dX11_tried_115 (by decide) rfl ?_
        obtain ⟨_, k80, n81, bn82, rfl⟩ := hW51 58 _ rfl
        refine x_vi C (As := [.int 0]) (rest := []) (c_Eggs_howMany E l a w50 hW51 49 (Or.inr (Or.inr rfl)) (0 : Int32)) mf_X1_howMany w_853 58 k80 rfl rfl rfl (Nat.le_of_ble_eq_true rfl) ⟨(Nat.le_of_ble_eq_true rfl), (Nat.le_of_ble_eq_true rfl)⟩ ⟨(Nat.le_of_ble_eq_true rfl), (Nat.le_of_ble_eq_true rfl)⟩ dX11_tried_116 rfl (fun r84 w85 h83 => ?_)
        have hW86 := h83
        refine x_ws hW86 ?_
        exact x_zret C hr hlk rfl dX11_tried_119 ⟨hW51, kp54⟩
      by_cases s87 : (nI j19) = 0
      · refine x_tabIn C (tgt := 76) dX11_tried_45 (by rw [s87]; decide) (by rw [s87]; decide) (by rw [s87]; rfl) (by decide) ?_
        refine x_aload_n C dX11_tried_76 rfl 0 rfl rfl ?_
        refine x_get C (ci := 10) (k := 4) 0 k53 rfl in_X11 (by decide) w_389 rfl dX11_tried_77 rfl ?_
        obtain ⟨_, k88, n89, v91, v92, v93, v94, v95, bn90, rfl⟩ := hW51 49 _ rfl
        refine x_get C (ci := 8) (k := 6) 49 k88 rfl in_X9 (by decide) w_216 rfl dX11_tried_80 rfl ?_
        exact x_zret C hr hlk rfl dX11_tried_83 ⟨hW51, kp54⟩
      have zs87 := sw_ne (by decide : (0 : Int32).toInt = 0) s87
      by_cases s96 : (nI j19) = 1
      · refine x_tabIn C (tgt := 84) dX11_tried_45 (by rw [s96]; decide) (by rw [s96]; decide) (by rw [s96]; rfl) (by decide) ?_
        refine x_aload_n C dX11_tried_84 rfl 0 rfl rfl ?_
        refine x_get C (ci := 10) (k := 4) 0 k53 rfl in_X11 (by decide) w_389 rfl dX11_tried_85 rfl ?_
        obtain ⟨_, k97, n98, v100, v101, v102, v103, v104, bn99, rfl⟩ := hW51 49 _ rfl
        refine x_get C (ci := 8) (k := 7) 49 k97 rfl in_X9 (by decide) w_218 rfl dX11_tried_88 rfl ?_
        exact x_zret C hr hlk rfl dX11_tried_91 ⟨hW51, kp54⟩
      have zs96 := sw_ne (by decide : (1 : Int32).toInt = 1) s96
      by_cases s105 : (nI j19) = 2
      · refine x_tabIn C (tgt := 92) dX11_tried_45 (by rw [s105]; decide) (by rw [s105]; decide) (by rw [s105]; rfl) (by decide) ?_
        refine x_aload_n C dX11_tried_92 rfl 0 rfl rfl ?_
        refine x_get C (ci := 10) (k := 4) 0 k53 rfl in_X11 (by decide) w_389 rfl dX11_tried_93 rfl ?_
        obtain ⟨_, k106, n107, v109, v110, v111, v112, v113, bn108, rfl⟩ := hW51 49 _ rfl
        refine x_get C (ci := 8) (k := 8) 49 k106 rfl in_X9 (by decide) w_220 rfl dX11_tried_96 rfl ?_
        exact x_zret C hr hlk rfl dX11_tried_99 ⟨hW51, kp54⟩
      have zs105 := sw_ne (by decide : (2 : Int32).toInt = 2) s105
      have s114 : (nI j19) = 3 := sw_last (n := 3) (by decide) s55 s56 (by omega)
      refine x_tabIn C (tgt := 100) dX11_tried_45 (by rw [s114]; decide) (by rw [s114]; decide) (by rw [s114]; rfl) (by decide) ?_
      refine x_aload_n C dX11_tried_100 rfl 0 rfl rfl ?_
      refine x_get C (ci := 10) (k := 4) 0 k53 rfl in_X11 (by decide) w_389 rfl dX11_tried_101 rfl ?_
      obtain ⟨_, k115, n116, v118, v119, v120, v121, v122, bn117, rfl⟩ := hW51 49 _ rfl
      refine x_get C (ci := 8) (k := 9) 49 k115 rfl in_X9 (by decide) w_222 rfl dX11_tried_104 rfl ?_
      exact x_zret C hr hlk rfl dX11_tried_107 ⟨hW51, kp54⟩
    · skip
      refine x_iconst C (v := (-1)) dX11_tried_19 (by decide) rfl ?_
      exact x_zret C hr hlk rfl dX11_tried_20 ⟨hW, kp0⟩
theorem dX11_personIs_0 : decode cX11_personIs 0 = .ok (.aload_n 0, 1) := by decide +kernel
theorem dX11_personIs_1 : decode cX11_personIs 1 = .ok (.getfield 22, 3) := by decide +kernel
theorem dX11_personIs_4 : decode cX11_personIs 4 = .ok (.getfield 92, 3) := by decide +kernel
theorem dX11_personIs_7 : decode cX11_personIs 7 = .ok (.iload_n 1, 1) := by decide +kernel
theorem dX11_personIs_8 : decode cX11_personIs 8 = .ok (.invokevirtual 106, 3) := by decide +kernel
theorem dX11_personIs_11 : decode cX11_personIs 11 = .ok (.ifCond .ne 5, 3) := by decide +kernel
theorem dX11_personIs_14 : decode cX11_personIs 14 = .ok (.iconst (-1), 1) := by decide +kernel
theorem dX11_personIs_15 : decode cX11_personIs 15 = .ok (.ireturn, 1) := by decide +kernel
theorem dX11_personIs_16 : decode cX11_personIs 16 = .ok (.iload_n 2, 1) := by decide +kernel
theorem dX11_personIs_17 : decode cX11_personIs 17 = .ok (.tableswitch 137 0 6 #[43, 56, 69, 82, 95, 113, 125], 43) := by decide +kernel
theorem dX11_personIs_60 : decode cX11_personIs 60 = .ok (.aload_n 0, 1) := by decide +kernel
theorem dX11_personIs_61 : decode cX11_personIs 61 = .ok (.getfield 22, 3) := by decide +kernel
theorem dX11_personIs_64 : decode cX11_personIs 64 = .ok (.getfield 92, 3) := by decide +kernel
theorem dX11_personIs_67 : decode cX11_personIs 67 = .ok (.getfield 235, 3) := by decide +kernel
theorem dX11_personIs_70 : decode cX11_personIs 70 = .ok (.iload_n 1, 1) := by decide +kernel
theorem dX11_personIs_71 : decode cX11_personIs 71 = .ok (.iaload, 1) := by decide +kernel
theorem dX11_personIs_72 : decode cX11_personIs 72 = .ok (.ireturn, 1) := by decide +kernel
theorem dX11_personIs_73 : decode cX11_personIs 73 = .ok (.aload_n 0, 1) := by decide +kernel
theorem dX11_personIs_74 : decode cX11_personIs 74 = .ok (.getfield 22, 3) := by decide +kernel
theorem dX11_personIs_77 : decode cX11_personIs 77 = .ok (.getfield 92, 3) := by decide +kernel
theorem dX11_personIs_80 : decode cX11_personIs 80 = .ok (.getfield 238, 3) := by decide +kernel
theorem dX11_personIs_83 : decode cX11_personIs 83 = .ok (.iload_n 1, 1) := by decide +kernel
theorem dX11_personIs_84 : decode cX11_personIs 84 = .ok (.iaload, 1) := by decide +kernel
theorem dX11_personIs_85 : decode cX11_personIs 85 = .ok (.ireturn, 1) := by decide +kernel
theorem dX11_personIs_86 : decode cX11_personIs 86 = .ok (.aload_n 0, 1) := by decide +kernel
theorem dX11_personIs_87 : decode cX11_personIs 87 = .ok (.getfield 22, 3) := by decide +kernel
theorem dX11_personIs_90 : decode cX11_personIs 90 = .ok (.getfield 92, 3) := by decide +kernel
theorem dX11_personIs_93 : decode cX11_personIs 93 = .ok (.getfield 241, 3) := by decide +kernel
theorem dX11_personIs_96 : decode cX11_personIs 96 = .ok (.iload_n 1, 1) := by decide +kernel
theorem dX11_personIs_97 : decode cX11_personIs 97 = .ok (.iaload, 1) := by decide +kernel
theorem dX11_personIs_98 : decode cX11_personIs 98 = .ok (.ireturn, 1) := by decide +kernel
theorem dX11_personIs_99 : decode cX11_personIs 99 = .ok (.aload_n 0, 1) := by decide +kernel
theorem dX11_personIs_100 : decode cX11_personIs 100 = .ok (.getfield 22, 3) := by decide +kernel
theorem dX11_personIs_103 : decode cX11_personIs 103 = .ok (.getfield 92, 3) := by decide +kernel
theorem dX11_personIs_106 : decode cX11_personIs 106 = .ok (.getfield 244, 3) := by decide +kernel
theorem dX11_personIs_109 : decode cX11_personIs 109 = .ok (.iload_n 1, 1) := by decide +kernel
theorem dX11_personIs_110 : decode cX11_personIs 110 = .ok (.iaload, 1) := by decide +kernel
theorem dX11_personIs_111 : decode cX11_personIs 111 = .ok (.ireturn, 1) := by decide +kernel
theorem dX11_personIs_112 : decode cX11_personIs 112 = .ok (.aload_n 0, 1) := by decide +kernel
theorem dX11_personIs_113 : decode cX11_personIs 113 = .ok (.getfield 22, 3) := by decide +kernel
theorem dX11_personIs_116 : decode cX11_personIs 116 = .ok (.getfield 132, 3) := by decide +kernel
theorem dX11_personIs_119 : decode cX11_personIs 119 = .ok (.iload_n 1, 1) := by decide +kernel
theorem dX11_personIs_120 : decode cX11_personIs 120 = .ok (.aload_n 0, 1) := by decide +kernel
theorem dX11_personIs_121 : decode cX11_personIs 121 = .ok (.getfield 67, 3) := by decide +kernel
theorem dX11_personIs_124 : decode cX11_personIs 124 = .ok (.bipush 48, 2) := by decide +kernel
theorem dX11_personIs_126 : decode cX11_personIs 126 = .ok (.invokevirtual 247, 3) := by decide +kernel
theorem dX11_personIs_129 : decode cX11_personIs 129 = .ok (.ireturn, 1) := by decide +kernel
theorem dX11_personIs_130 : decode cX11_personIs 130 = .ok (.aload_n 0, 1) := by decide +kernel
theorem dX11_personIs_131 : decode cX11_personIs 131 = .ok (.getfield 22, 3) := by decide +kernel
theorem dX11_personIs_134 : decode cX11_personIs 134 = .ok (.getfield 132, 3) := by decide +kernel
theorem dX11_personIs_137 : decode cX11_personIs 137 = .ok (.iload_n 1, 1) := by decide +kernel
theorem dX11_personIs_138 : decode cX11_personIs 138 = .ok (.invokevirtual 251, 3) := by decide +kernel
theorem dX11_personIs_141 : decode cX11_personIs 141 = .ok (.ireturn, 1) := by decide +kernel
theorem dX11_personIs_142 : decode cX11_personIs 142 = .ok (.aload_n 0, 1) := by decide +kernel
theorem dX11_personIs_143 : decode cX11_personIs 143 = .ok (.getfield 22, 3) := by decide +kernel
theorem dX11_personIs_146 : decode cX11_personIs 146 = .ok (.getfield 109, 3) := by decide +kernel
theorem dX11_personIs_149 : decode cX11_personIs 149 = .ok (.iload_n 1, 1) := by decide +kernel
theorem dX11_personIs_150 : decode cX11_personIs 150 = .ok (.invokevirtual 254, 3) := by decide +kernel
theorem dX11_personIs_153 : decode cX11_personIs 153 = .ok (.ireturn, 1) := by decide +kernel
theorem dX11_personIs_154 : decode cX11_personIs 154 = .ok (.iconst (-1), 1) := by decide +kernel
theorem dX11_personIs_155 : decode cX11_personIs 155 = .ok (.ireturn, 1) := by decide +kernel
set_option maxRecDepth 20000 in
set_option maxHeartbeats 4000000 in
theorem c_personIs (E : xE) (l : Launch) (a : Nat → Nat) (ws : va_W) (hW : WX (okX E a) ws) (p0 : Int32) (p1 : Int32) : xI E l yX11_personIs cX11_personIs 3 (some .int) 8 [.ref (a 0), .int p0, .int p1] ws (fun r w => WX (okX E a) w ∧ keeps ws w (fun q => ¬ (q = 0 ∨ q = 6 ∨ q = 9 ∨ q = 28 ∨ q = 31))) := by
  refine xI_start (lv := [(0, .ref (a 0)), (1, .int p0), (2, .int p1)]) RX11 (by decide) rfl (Nat.le_of_ble_eq_true rfl) rfl (fun p e s m below meth c A C hr hlk => ?_)
  have kp0 : keeps ws ws (fun q => ¬ (q = 0 ∨ q = 6 ∨ q = 9 ∨ q = 28 ∨ q = 31)) := keeps_rf
  refine x_aload_n C dX11_personIs_0 rfl 0 rfl rfl ?_
  obtain ⟨_, k1, v2, rfl⟩ := hW 0 _ rfl
  refine x_get C (ci := 10) (k := 2) 0 k1 rfl in_X11 (by decide) w_387 rfl dX11_personIs_1 rfl ?_
  obtain ⟨_, k3, n4, v6, v7, v8, v9, v10, bn5, rfl⟩ := hW 5 _ rfl
  refine x_get C (ci := 8) (k := 3) 5 k3 rfl in_X9 (by decide) w_204 rfl dX11_personIs_4 rfl ?_
  refine x_iload_n C dX11_personIs_7 rfl 1 rfl rfl ?_
  obtain ⟨_, k11, v12, rfl⟩ := hW 9 _ rfl
  refine x_vi C (As := [.int p0]) (rest := []) (c_People_isTold E l a ws hW 5 (Or.inl rfl) p0) mf_X5_isTold w_465 9 k11 rfl rfl rfl (Nat.le_of_ble_eq_true rfl) ⟨(Nat.le_of_ble_eq_true rfl), (Nat.le_of_ble_eq_true rfl)⟩ ⟨(Nat.le_of_ble_eq_true rfl), (Nat.le_of_ble_eq_true rfl)⟩ dX11_personIs_8 rfl (fun r14 w15 h13 => ?_)
  obtain ⟨hW16, zb17, x18⟩ := h13
  refine x_ws hW16 ?_
  refine x_if_ne C (tgt := 16) dX11_personIs_11 (by decide) rfl (fun c19 => ?_) (fun c19 => ?_)
  · skip
    obtain ⟨j20, hl21, hh22, ej23⟩ := w_nat (a := 0) (b := 7) (by decide) (by decide) (x18 c19)
    subst ej23
    refine x_iload_n C dX11_personIs_16 rfl 2 rfl rfl ?_
    by_cases s24 : (p1).toInt < 0
    · refine x_tabOut C (tgt := 154) dX11_personIs_17 (Or.inl s24) (by decide) ?_
      refine x_iconst C (v := (-1)) dX11_personIs_154 (by decide) rfl ?_
      exact x_zret C hr hlk rfl dX11_personIs_155 ⟨hW, kp0⟩
    by_cases s25 : 6 < (p1).toInt
    · refine x_tabOut C (tgt := 154) dX11_personIs_17 (Or.inr s25) (by decide) ?_
      refine x_iconst C (v := (-1)) dX11_personIs_154 (by decide) rfl ?_
      exact x_zret C hr hlk rfl dX11_personIs_155 ⟨hW, kp0⟩
    by_cases s26 : p1 = 0
    · refine x_tabIn C (tgt := 60) dX11_personIs_17 (by rw [s26]; decide) (by rw [s26]; decide) (by rw [s26]; rfl) (by decide) ?_
      refine x_aload_n C dX11_personIs_60 rfl 0 rfl rfl ?_
      refine x_get C (ci := 10) (k := 2) 0 k1 rfl in_X11 (by decide) w_387 rfl dX11_personIs_61 rfl ?_
      refine x_get C (ci := 8) (k := 3) 5 k3 rfl in_X9 (by decide) w_204 rfl dX11_personIs_64 rfl ?_
      refine x_get C (ci := 4) (k := 1) 9 k11 rfl in_X5 (by decide) w_93 rfl dX11_personIs_67 rfl ?_
      refine x_iload_n C dX11_personIs_70 rfl 1 rfl rfl ?_
      obtain ⟨_, k27, f28, rfl⟩ := hW 10 _ rfl
      refine x_iald C (v := (f28 (nI j20).toNatClampNeg)) 10 k27 (vp_in_nI (by omega) (by decide)) rfl dX11_personIs_71 rfl ?_
      refine x_any (fun v29 => ?_)
      exact x_zret C hr hlk rfl dX11_personIs_72 ⟨hW, kp0⟩
    have zs26 := sw_ne (by decide : (0 : Int32).toInt = 0) s26
    by_cases s30 : p1 = 1
    · refine x_tabIn C (tgt := 73) dX11_personIs_17 (by rw [s30]; decide) (by rw [s30]; decide) (by rw [s30]; rfl) (by decide) ?_
      refine x_aload_n C dX11_personIs_73 rfl 0 rfl rfl ?_
      refine x_get C (ci := 10) (k := 2) 0 k1 rfl in_X11 (by decide) w_387 rfl dX11_personIs_74 rfl ?_
      refine x_get C (ci := 8) (k := 3) 5 k3 rfl in_X9 (by decide) w_204 rfl dX11_personIs_77 rfl ?_
      refine x_get C (ci := 4) (k := 2) 9 k11 rfl in_X5 (by decide) w_96 rfl dX11_personIs_80 rfl ?_
      refine x_iload_n C dX11_personIs_83 rfl 1 rfl rfl ?_
      obtain ⟨_, k31, f32, rfl⟩ := hW 11 _ rfl
      refine x_iald C (v := (f32 (nI j20).toNatClampNeg)) 11 k31 (vp_in_nI (by omega) (by decide)) rfl dX11_personIs_84 rfl ?_
      refine x_any (fun v33 => ?_)
      exact x_zret C hr hlk rfl dX11_personIs_85 ⟨hW, kp0⟩
    have zs30 := sw_ne (by decide : (1 : Int32).toInt = 1) s30
    by_cases s34 : p1 = 2
    · refine x_tabIn C (tgt := 86) dX11_personIs_17 (by rw [s34]; decide) (by rw [s34]; decide) (by rw [s34]; rfl) (by decide) ?_
      refine x_aload_n C dX11_personIs_86 rfl 0 rfl rfl ?_
      refine x_get C (ci := 10) (k := 2) 0 k1 rfl in_X11 (by decide) w_387 rfl dX11_personIs_87 rfl ?_
      refine x_get C (ci := 8) (k := 3) 5 k3 rfl in_X9 (by decide) w_204 rfl dX11_personIs_90 rfl ?_
      refine x_get C (ci := 4) (k := 3) 9 k11 rfl in_X5 (by decide) w_99 rfl dX11_personIs_93 rfl ?_
      refine x_iload_n C dX11_personIs_96 rfl 1 rfl rfl ?_
      obtain ⟨_, k35, f36, rfl⟩ := hW 12 _ rfl
      refine x_iald C (v := (f36 (nI j20).toNatClampNeg)) 12 k35 (vp_in_nI (by omega) (by decide)) rfl dX11_personIs_97 rfl ?_
      refine x_any (fun v37 => ?_)
      exact x_zret C hr hlk rfl dX11_personIs_98 ⟨hW, kp0⟩
    have zs34 := sw_ne (by decide : (2 : Int32).toInt = 2) s34
    by_cases s38 : p1 = 3
    · refine x_tabIn C (tgt := 99) dX11_personIs_17 (by rw [s38]; decide) (by rw [s38]; decide) (by rw [s38]; rfl) (by decide) ?_
      refine x_aload_n C dX11_personIs_99 rfl 0 rfl rfl ?_
      refine x_get C (ci := 10) (k := 2) 0 k1 rfl in_X11 (by decide) w_387 rfl dX11_personIs_100 rfl ?_
      refine x_get C (ci := 8) (k := 3) 5 k3 rfl in_X9 (by decide) w_204 rfl dX11_personIs_103 rfl ?_
      refine x_get C (ci := 4) (k := 4) 9 k11 rfl in_X5 (by decide) w_102 rfl dX11_personIs_106 rfl ?_
      refine x_iload_n C dX11_personIs_109 rfl 1 rfl rfl ?_
      obtain ⟨_, k39, f40, rfl⟩ := hW 13 _ rfl
      refine x_iald C (v := (f40 (nI j20).toNatClampNeg)) 13 k39 (vp_in_nI (by omega) (by decide)) rfl dX11_personIs_110 rfl ?_
      refine x_any (fun v41 => ?_)
      exact x_zret C hr hlk rfl dX11_personIs_111 ⟨hW, kp0⟩
    have zs38 := sw_ne (by decide : (3 : Int32).toInt = 3) s38
    by_cases s42 : p1 = 4
    · refine x_tabIn C (tgt := 112) dX11_personIs_17 (by rw [s42]; decide) (by rw [s42]; decide) (by rw [s42]; rfl) (by decide) ?_
      refine x_aload_n C dX11_personIs_112 rfl 0 rfl rfl ?_
      refine x_get C (ci := 10) (k := 2) 0 k1 rfl in_X11 (by decide) w_387 rfl dX11_personIs_113 rfl ?_
      refine x_get C (ci := 8) (k := 4) 5 k3 rfl in_X9 (by decide) w_209 rfl dX11_personIs_116 rfl ?_
      refine x_iload_n C dX11_personIs_119 rfl 1 rfl rfl ?_
      refine x_aload_n C dX11_personIs_120 rfl 0 rfl rfl ?_
      refine x_get C (ci := 10) (k := 11) 0 k1 rfl in_X11 (by decide) w_396 rfl dX11_personIs_121 rfl ?_
      refine x_bipush C (v := 48) dX11_personIs_124 (by decide) rfl ?_
      obtain ⟨_, k43, n44, bn45, rfl⟩ := hW 14 _ rfl
      refine x_vi C (As := [.int (nI j20), .ref (a 105), .int 48]) (rest := []) (c_wholeOfB48 E l a ws hW 5 (Or.inl rfl) ((nI j20))) mf_X1_wholeOf w_871 14 k43 rfl rfl rfl (Nat.le_of_ble_eq_true rfl) ⟨(Nat.le_of_ble_eq_true rfl), (Nat.le_of_ble_eq_true rfl)⟩ ⟨(Nat.le_of_ble_eq_true rfl), (Nat.le_of_ble_eq_true rfl)⟩ dX11_personIs_126 rfl (fun r47 w48 h46 => ?_)
      obtain ⟨hW49, kq50, ⟨m52, bm53, e51⟩⟩ := h46
      refine x_top e51 ?_
      have k54 : w48[0]? = some (ob (a 0) 10 [.ref (a 1), .ref (a 3), .ref (a 5), .ref (a 27), .ref (a 49), .int v2, .ref (a 71), .ref (a 79), .ref (a 87), .ref (a 92), .ref (a 103), .ref (a 105), .ref (a 106), .ref (a 107), .ref (a 108), .ref (a 109), .ref (a 110), .ref (a 111), .ref (a 112)]) := keeps_at kq50 k1 (by first | decide | omega | (dsimp only; omega))
      have k55 : w48[5]? = some (ob (a 5) 8 [.int (nI n4), .int v6, .ref (a 6), .ref (a 9), .ref (a 14), .ref (a 21), .int v7, .int v8, .int v9, .int v10]) := keeps_at kq50 k3 (by first | decide | omega | (dsimp only; omega))
      have k56 : w48[9]? = some (ob (a 9) 4 [.int v12, .ref (a 10), .ref (a 11), .ref (a 12), .ref (a 13)]) := keeps_at kq50 k11 (by first | decide | omega | (dsimp only; omega))
      have k57 : w48[14]? = some (ob (a 14) 1 [.int (nI n44), .ref (a 15), .ref (a 16), .ref (a 17), .ref (a 18), .ref (a 19), .ref (a 20)]) := keeps_at kq50 k43 (by first | decide | omega | (dsimp only; omega))
      have kp58 := keeps_tr kp0 kq50 (fun q hq => by first | omega | (dsimp only at *; omega))
      exact x_zret C hr hlk rfl dX11_personIs_129 ⟨hW49, kp58⟩
    have zs42 := sw_ne (by decide : (4 : Int32).toInt = 4) s42
    by_cases s59 : p1 = 5
    · refine x_tabIn C (tgt := 130) dX11_personIs_17 (by rw [s59]; decide) (by rw [s59]; decide) (by rw [s59]; rfl) (by decide) ?_
      refine x_aload_n C dX11_personIs_130 rfl 0 rfl rfl ?_
      refine x_get C (ci := 10) (k := 2) 0 k1 rfl in_X11 (by decide) w_387 rfl dX11_personIs_131 rfl ?_
      refine x_get C (ci := 8) (k := 4) 5 k3 rfl in_X9 (by decide) w_209 rfl dX11_personIs_134 rfl ?_
      refine x_iload_n C dX11_personIs_137 rfl 1 rfl rfl ?_
      obtain ⟨_, k60, n61, bn62, rfl⟩ := hW 14 _ rfl
      refine x_vi C (As := [.int (nI j20)]) (rest := []) (c_Eggs_minutesOf E l a ws hW 5 (Or.inl rfl) ((nI j20))) mf_X1_minutesOf w_880 14 k60 rfl rfl rfl (Nat.le_of_ble_eq_true rfl) ⟨(Nat.le_of_ble_eq_true rfl), (Nat.le_of_ble_eq_true rfl)⟩ ⟨(Nat.le_of_ble_eq_true rfl), (Nat.le_of_ble_eq_true rfl)⟩ dX11_personIs_138 rfl (fun r64 w65 h63 => ?_)
      have hW66 := h63
      refine x_ws hW66 ?_
      exact x_zret C hr hlk rfl dX11_personIs_141 ⟨hW, kp0⟩
    have zs59 := sw_ne (by decide : (5 : Int32).toInt = 5) s59
    have s67 : p1 = 6 := sw_last (n := 6) (by decide) s24 s25 (by omega)
    refine x_tabIn C (tgt := 142) dX11_personIs_17 (by rw [s67]; decide) (by rw [s67]; decide) (by rw [s67]; rfl) (by decide) ?_
    refine x_aload_n C dX11_personIs_142 rfl 0 rfl rfl ?_
    refine x_get C (ci := 10) (k := 2) 0 k1 rfl in_X11 (by decide) w_387 rfl dX11_personIs_143 rfl ?_
    refine x_get C (ci := 8) (k := 2) 5 k3 rfl in_X9 (by decide) w_201 rfl dX11_personIs_146 rfl ?_
    refine x_iload_n C dX11_personIs_149 rfl 1 rfl rfl ?_
    obtain ⟨_, k68, v69, rfl⟩ := hW 6 _ rfl
    refine x_vi C (As := [.int (nI j20)]) (rest := []) (c_Hens_howManyOf E l a ws hW 5 (Or.inl rfl) ((nI j20))) mf_X2_howManyOf w_884 6 k68 rfl rfl rfl (Nat.le_of_ble_eq_true rfl) ⟨(Nat.le_of_ble_eq_true rfl), (Nat.le_of_ble_eq_true rfl)⟩ ⟨(Nat.le_of_ble_eq_true rfl), (Nat.le_of_ble_eq_true rfl)⟩ dX11_personIs_150 rfl (fun r71 w72 h70 => ?_)
    have hW73 := h70
    refine x_ws hW73 ?_
    exact x_zret C hr hlk rfl dX11_personIs_153 ⟨hW, kp0⟩
  · skip
    refine x_iconst C (v := (-1)) dX11_personIs_14 (by decide) rfl ?_
    exact x_zret C hr hlk rfl dX11_personIs_15 ⟨hW, kp0⟩
theorem dX11_workIs_0 : decode cX11_workIs 0 = .ok (.aload_n 0, 1) := by decide +kernel
theorem dX11_workIs_1 : decode cX11_workIs 1 = .ok (.getfield 22, 3) := by decide +kernel
theorem dX11_workIs_4 : decode cX11_workIs 4 = .ok (.getfield 123, 3) := by decide +kernel
theorem dX11_workIs_7 : decode cX11_workIs 7 = .ok (.iload_n 1, 1) := by decide +kernel
theorem dX11_workIs_8 : decode cX11_workIs 8 = .ok (.invokevirtual 257, 3) := by decide +kernel
theorem dX11_workIs_11 : decode cX11_workIs 11 = .ok (.ifCond .ne 5, 3) := by decide +kernel
theorem dX11_workIs_14 : decode cX11_workIs 14 = .ok (.iconst (-1), 1) := by decide +kernel
theorem dX11_workIs_15 : decode cX11_workIs 15 = .ok (.ireturn, 1) := by decide +kernel
theorem dX11_workIs_16 : decode cX11_workIs 16 = .ok (.iload_n 2, 1) := by decide +kernel
theorem dX11_workIs_17 : decode cX11_workIs 17 = .ok (.tableswitch 138 0 5 #[39, 52, 65, 78, 91, 111], 39) := by decide +kernel
theorem dX11_workIs_56 : decode cX11_workIs 56 = .ok (.aload_n 0, 1) := by decide +kernel
theorem dX11_workIs_57 : decode cX11_workIs 57 = .ok (.getfield 22, 3) := by decide +kernel
theorem dX11_workIs_60 : decode cX11_workIs 60 = .ok (.getfield 123, 3) := by decide +kernel
theorem dX11_workIs_63 : decode cX11_workIs 63 = .ok (.getfield 258, 3) := by decide +kernel
theorem dX11_workIs_66 : decode cX11_workIs 66 = .ok (.iload_n 1, 1) := by decide +kernel
theorem dX11_workIs_67 : decode cX11_workIs 67 = .ok (.iaload, 1) := by decide +kernel
theorem dX11_workIs_68 : decode cX11_workIs 68 = .ok (.ireturn, 1) := by decide +kernel
theorem dX11_workIs_69 : decode cX11_workIs 69 = .ok (.aload_n 0, 1) := by decide +kernel
theorem dX11_workIs_70 : decode cX11_workIs 70 = .ok (.getfield 22, 3) := by decide +kernel
theorem dX11_workIs_73 : decode cX11_workIs 73 = .ok (.getfield 123, 3) := by decide +kernel
theorem dX11_workIs_76 : decode cX11_workIs 76 = .ok (.getfield 261, 3) := by decide +kernel
theorem dX11_workIs_79 : decode cX11_workIs 79 = .ok (.iload_n 1, 1) := by decide +kernel
theorem dX11_workIs_80 : decode cX11_workIs 80 = .ok (.iaload, 1) := by decide +kernel
theorem dX11_workIs_81 : decode cX11_workIs 81 = .ok (.ireturn, 1) := by decide +kernel
theorem dX11_workIs_82 : decode cX11_workIs 82 = .ok (.aload_n 0, 1) := by decide +kernel
theorem dX11_workIs_83 : decode cX11_workIs 83 = .ok (.getfield 22, 3) := by decide +kernel
theorem dX11_workIs_86 : decode cX11_workIs 86 = .ok (.getfield 123, 3) := by decide +kernel
theorem dX11_workIs_89 : decode cX11_workIs 89 = .ok (.getfield 264, 3) := by decide +kernel
theorem dX11_workIs_92 : decode cX11_workIs 92 = .ok (.iload_n 1, 1) := by decide +kernel
theorem dX11_workIs_93 : decode cX11_workIs 93 = .ok (.iaload, 1) := by decide +kernel
theorem dX11_workIs_94 : decode cX11_workIs 94 = .ok (.ireturn, 1) := by decide +kernel
theorem dX11_workIs_95 : decode cX11_workIs 95 = .ok (.aload_n 0, 1) := by decide +kernel
theorem dX11_workIs_96 : decode cX11_workIs 96 = .ok (.getfield 22, 3) := by decide +kernel
theorem dX11_workIs_99 : decode cX11_workIs 99 = .ok (.getfield 123, 3) := by decide +kernel
theorem dX11_workIs_102 : decode cX11_workIs 102 = .ok (.getfield 267, 3) := by decide +kernel
theorem dX11_workIs_105 : decode cX11_workIs 105 = .ok (.iload_n 1, 1) := by decide +kernel
theorem dX11_workIs_106 : decode cX11_workIs 106 = .ok (.iaload, 1) := by decide +kernel
theorem dX11_workIs_107 : decode cX11_workIs 107 = .ok (.ireturn, 1) := by decide +kernel
theorem dX11_workIs_108 : decode cX11_workIs 108 = .ok (.aload_n 0, 1) := by decide +kernel
theorem dX11_workIs_109 : decode cX11_workIs 109 = .ok (.getfield 22, 3) := by decide +kernel
theorem dX11_workIs_112 : decode cX11_workIs 112 = .ok (.getfield 123, 3) := by decide +kernel
theorem dX11_workIs_115 : decode cX11_workIs 115 = .ok (.iload_n 1, 1) := by decide +kernel
theorem dX11_workIs_116 : decode cX11_workIs 116 = .ok (.invokevirtual 270, 3) := by decide +kernel
theorem dX11_workIs_119 : decode cX11_workIs 119 = .ok (.ifCond .eq 7, 3) := by decide +kernel
theorem dX11_workIs_122 : decode cX11_workIs 122 = .ok (.iconst 1, 1) := by decide +kernel
theorem dX11_workIs_123 : decode cX11_workIs 123 = .ok (.goto 4, 3) := by decide +kernel
theorem dX11_workIs_126 : decode cX11_workIs 126 = .ok (.iconst 0, 1) := by decide +kernel
theorem dX11_workIs_127 : decode cX11_workIs 127 = .ok (.ireturn, 1) := by decide +kernel
theorem dX11_workIs_128 : decode cX11_workIs 128 = .ok (.aload_n 0, 1) := by decide +kernel
theorem dX11_workIs_129 : decode cX11_workIs 129 = .ok (.getfield 22, 3) := by decide +kernel
theorem dX11_workIs_132 : decode cX11_workIs 132 = .ok (.getfield 123, 3) := by decide +kernel
theorem dX11_workIs_135 : decode cX11_workIs 135 = .ok (.iload_n 1, 1) := by decide +kernel
theorem dX11_workIs_136 : decode cX11_workIs 136 = .ok (.aload_n 0, 1) := by decide +kernel
theorem dX11_workIs_137 : decode cX11_workIs 137 = .ok (.getfield 22, 3) := by decide +kernel
theorem dX11_workIs_140 : decode cX11_workIs 140 = .ok (.getfield 273, 3) := by decide +kernel
theorem dX11_workIs_143 : decode cX11_workIs 143 = .ok (.invokevirtual 276, 3) := by decide +kernel
theorem dX11_workIs_146 : decode cX11_workIs 146 = .ok (.ifCond .eq 7, 3) := by decide +kernel
theorem dX11_workIs_149 : decode cX11_workIs 149 = .ok (.iconst 1, 1) := by decide +kernel
theorem dX11_workIs_150 : decode cX11_workIs 150 = .ok (.goto 4, 3) := by decide +kernel
theorem dX11_workIs_153 : decode cX11_workIs 153 = .ok (.iconst 0, 1) := by decide +kernel
theorem dX11_workIs_154 : decode cX11_workIs 154 = .ok (.ireturn, 1) := by decide +kernel
theorem dX11_workIs_155 : decode cX11_workIs 155 = .ok (.iconst (-1), 1) := by decide +kernel
theorem dX11_workIs_156 : decode cX11_workIs 156 = .ok (.ireturn, 1) := by decide +kernel
set_option maxRecDepth 20000 in
set_option maxHeartbeats 4000000 in
theorem c_workIs (E : xE) (l : Launch) (a : Nat → Nat) (ws : va_W) (hW : WX (okX E a) ws) (p0 : Int32) (p1 : Int32) : xI E l yX11_workIs cX11_workIs 3 (some .int) 8 [.ref (a 0), .int p0, .int p1] ws (fun r w => WX (okX E a) w ∧ keeps ws w (fun q => ¬ (q = 0 ∨ q = 6 ∨ q = 9 ∨ q = 28 ∨ q = 31))) := by
  refine xI_start (lv := [(0, .ref (a 0)), (1, .int p0), (2, .int p1)]) RX11 (by decide) rfl (Nat.le_of_ble_eq_true rfl) rfl (fun p e s m below meth c A C hr hlk => ?_)
  have kp0 : keeps ws ws (fun q => ¬ (q = 0 ∨ q = 6 ∨ q = 9 ∨ q = 28 ∨ q = 31)) := keeps_rf
  refine x_aload_n C dX11_workIs_0 rfl 0 rfl rfl ?_
  obtain ⟨_, k1, v2, rfl⟩ := hW 0 _ rfl
  refine x_get C (ci := 10) (k := 2) 0 k1 rfl in_X11 (by decide) w_387 rfl dX11_workIs_1 rfl ?_
  obtain ⟨_, k3, n4, v6, v7, v8, v9, v10, bn5, rfl⟩ := hW 5 _ rfl
  refine x_get C (ci := 8) (k := 5) 5 k3 rfl in_X9 (by decide) w_213 rfl dX11_workIs_4 rfl ?_
  refine x_iload_n C dX11_workIs_7 rfl 1 rfl rfl ?_
  obtain ⟨_, k11, v12, rfl⟩ := hW 21 _ rfl
  refine x_vi C (As := [.int p0]) (rest := []) (c_Works_isTold E l a ws hW 5 (Or.inl rfl) p0) mf_X10_isTold w_893 21 k11 rfl rfl rfl (Nat.le_of_ble_eq_true rfl) ⟨(Nat.le_of_ble_eq_true rfl), (Nat.le_of_ble_eq_true rfl)⟩ ⟨(Nat.le_of_ble_eq_true rfl), (Nat.le_of_ble_eq_true rfl)⟩ dX11_workIs_8 rfl (fun r14 w15 h13 => ?_)
  obtain ⟨hW16, zb17, x18⟩ := h13
  refine x_ws hW16 ?_
  refine x_if_ne C (tgt := 16) dX11_workIs_11 (by decide) rfl (fun c19 => ?_) (fun c19 => ?_)
  · skip
    obtain ⟨j20, hl21, hh22, ej23⟩ := w_nat (a := 0) (b := 7) (by decide) (by decide) (x18 c19)
    subst ej23
    refine x_iload_n C dX11_workIs_16 rfl 2 rfl rfl ?_
    by_cases s24 : (p1).toInt < 0
    · refine x_tabOut C (tgt := 155) dX11_workIs_17 (Or.inl s24) (by decide) ?_
      refine x_iconst C (v := (-1)) dX11_workIs_155 (by decide) rfl ?_
      exact x_zret C hr hlk rfl dX11_workIs_156 ⟨hW, kp0⟩
    by_cases s25 : 5 < (p1).toInt
    · refine x_tabOut C (tgt := 155) dX11_workIs_17 (Or.inr s25) (by decide) ?_
      refine x_iconst C (v := (-1)) dX11_workIs_155 (by decide) rfl ?_
      exact x_zret C hr hlk rfl dX11_workIs_156 ⟨hW, kp0⟩
    by_cases s26 : p1 = 0
    · refine x_tabIn C (tgt := 56) dX11_workIs_17 (by rw [s26]; decide) (by rw [s26]; decide) (by rw [s26]; rfl) (by decide) ?_
      refine x_aload_n C dX11_workIs_56 rfl 0 rfl rfl ?_
      refine x_get C (ci := 10) (k := 2) 0 k1 rfl in_X11 (by decide) w_387 rfl dX11_workIs_57 rfl ?_
      refine x_get C (ci := 8) (k := 5) 5 k3 rfl in_X9 (by decide) w_213 rfl dX11_workIs_60 rfl ?_
      refine x_get C (ci := 9) (k := 1) 21 k11 rfl in_X10 (by decide) w_172 rfl dX11_workIs_63 rfl ?_
      refine x_iload_n C dX11_workIs_66 rfl 1 rfl rfl ?_
      obtain ⟨_, k27, f28, rfl⟩ := hW 22 _ rfl
      refine x_iald C (v := (f28 (nI j20).toNatClampNeg)) 22 k27 (vp_in_nI (by omega) (by decide)) rfl dX11_workIs_67 rfl ?_
      refine x_any (fun v29 => ?_)
      exact x_zret C hr hlk rfl dX11_workIs_68 ⟨hW, kp0⟩
    have zs26 := sw_ne (by decide : (0 : Int32).toInt = 0) s26
    by_cases s30 : p1 = 1
    · refine x_tabIn C (tgt := 69) dX11_workIs_17 (by rw [s30]; decide) (by rw [s30]; decide) (by rw [s30]; rfl) (by decide) ?_
      refine x_aload_n C dX11_workIs_69 rfl 0 rfl rfl ?_
      refine x_get C (ci := 10) (k := 2) 0 k1 rfl in_X11 (by decide) w_387 rfl dX11_workIs_70 rfl ?_
      refine x_get C (ci := 8) (k := 5) 5 k3 rfl in_X9 (by decide) w_213 rfl dX11_workIs_73 rfl ?_
      refine x_get C (ci := 9) (k := 2) 21 k11 rfl in_X10 (by decide) w_175 rfl dX11_workIs_76 rfl ?_
      refine x_iload_n C dX11_workIs_79 rfl 1 rfl rfl ?_
      obtain ⟨_, k31, f32, rfl⟩ := hW 23 _ rfl
      refine x_iald C (v := (f32 (nI j20).toNatClampNeg)) 23 k31 (vp_in_nI (by omega) (by decide)) rfl dX11_workIs_80 rfl ?_
      refine x_any (fun v33 => ?_)
      exact x_zret C hr hlk rfl dX11_workIs_81 ⟨hW, kp0⟩
    have zs30 := sw_ne (by decide : (1 : Int32).toInt = 1) s30
    by_cases s34 : p1 = 2
    · refine x_tabIn C (tgt := 82) dX11_workIs_17 (by rw [s34]; decide) (by rw [s34]; decide) (by rw [s34]; rfl) (by decide) ?_
      refine x_aload_n C dX11_workIs_82 rfl 0 rfl rfl ?_
      refine x_get C (ci := 10) (k := 2) 0 k1 rfl in_X11 (by decide) w_387 rfl dX11_workIs_83 rfl ?_
      refine x_get C (ci := 8) (k := 5) 5 k3 rfl in_X9 (by decide) w_213 rfl dX11_workIs_86 rfl ?_
      refine x_get C (ci := 9) (k := 3) 21 k11 rfl in_X10 (by decide) w_178 rfl dX11_workIs_89 rfl ?_
      refine x_iload_n C dX11_workIs_92 rfl 1 rfl rfl ?_
      obtain ⟨_, k35, f36, rfl⟩ := hW 24 _ rfl
      refine x_iald C (v := (f36 (nI j20).toNatClampNeg)) 24 k35 (vp_in_nI (by omega) (by decide)) rfl dX11_workIs_93 rfl ?_
      refine x_any (fun v37 => ?_)
      exact x_zret C hr hlk rfl dX11_workIs_94 ⟨hW, kp0⟩
    have zs34 := sw_ne (by decide : (2 : Int32).toInt = 2) s34
    by_cases s38 : p1 = 3
    · refine x_tabIn C (tgt := 95) dX11_workIs_17 (by rw [s38]; decide) (by rw [s38]; decide) (by rw [s38]; rfl) (by decide) ?_
      refine x_aload_n C dX11_workIs_95 rfl 0 rfl rfl ?_
      refine x_get C (ci := 10) (k := 2) 0 k1 rfl in_X11 (by decide) w_387 rfl dX11_workIs_96 rfl ?_
      refine x_get C (ci := 8) (k := 5) 5 k3 rfl in_X9 (by decide) w_213 rfl dX11_workIs_99 rfl ?_
      refine x_get C (ci := 9) (k := 4) 21 k11 rfl in_X10 (by decide) w_180 rfl dX11_workIs_102 rfl ?_
      refine x_iload_n C dX11_workIs_105 rfl 1 rfl rfl ?_
      obtain ⟨_, k39, f40, rfl⟩ := hW 25 _ rfl
      refine x_iald C (v := (f40 (nI j20).toNatClampNeg)) 25 k39 (vp_in_nI (by omega) (by decide)) rfl dX11_workIs_106 rfl ?_
      refine x_any (fun v41 => ?_)
      exact x_zret C hr hlk rfl dX11_workIs_107 ⟨hW, kp0⟩
    have zs38 := sw_ne (by decide : (3 : Int32).toInt = 3) s38
    by_cases s42 : p1 = 4
    · refine x_tabIn C (tgt := 108) dX11_workIs_17 (by rw [s42]; decide) (by rw [s42]; decide) (by rw [s42]; rfl) (by decide) ?_
      refine x_aload_n C dX11_workIs_108 rfl 0 rfl rfl ?_
      refine x_get C (ci := 10) (k := 2) 0 k1 rfl in_X11 (by decide) w_387 rfl dX11_workIs_109 rfl ?_
      refine x_get C (ci := 8) (k := 5) 5 k3 rfl in_X9 (by decide) w_213 rfl dX11_workIs_112 rfl ?_
      refine x_iload_n C dX11_workIs_115 rfl 1 rfl rfl ?_
      refine x_vi C (As := [.int (nI j20)]) (rest := []) (c_Works_isDone E l a ws hW 5 (Or.inl rfl) ((nI j20))) mf_X10_isDone w_894 21 k11 rfl rfl rfl (Nat.le_of_ble_eq_true rfl) ⟨(Nat.le_of_ble_eq_true rfl), (Nat.le_of_ble_eq_true rfl)⟩ ⟨(Nat.le_of_ble_eq_true rfl), (Nat.le_of_ble_eq_true rfl)⟩ dX11_workIs_116 rfl (fun r44 w45 h43 => ?_)
      obtain ⟨hW46, zb47, x48⟩ := h43
      refine x_ws hW46 ?_
      refine x_if_eq C (tgt := 126) dX11_workIs_119 (by decide) rfl (fun c49 => ?_) (fun c49 => ?_)
      · skip
        refine x_iconst C (v := 0) dX11_workIs_126 (by decide) rfl ?_
        exact x_zret C hr hlk rfl dX11_workIs_127 ⟨hW, kp0⟩
      · skip
        have wi50 := wth_le (a := 0) (b := 7) (j := j20) (x48 c49) (by omega) (by decide) (by decide)
        refine x_iconst C (v := 1) dX11_workIs_122 (by decide) rfl ?_
        refine x_goto C (tgt := 127) dX11_workIs_123 (by decide) ?_
        exact x_zret C hr hlk rfl dX11_workIs_127 ⟨hW, kp0⟩
    have zs42 := sw_ne (by decide : (4 : Int32).toInt = 4) s42
    have s51 : p1 = 5 := sw_last (n := 5) (by decide) s24 s25 (by omega)
    refine x_tabIn C (tgt := 128) dX11_workIs_17 (by rw [s51]; decide) (by rw [s51]; decide) (by rw [s51]; rfl) (by decide) ?_
    refine x_aload_n C dX11_workIs_128 rfl 0 rfl rfl ?_
    refine x_get C (ci := 10) (k := 2) 0 k1 rfl in_X11 (by decide) w_387 rfl dX11_workIs_129 rfl ?_
    refine x_get C (ci := 8) (k := 5) 5 k3 rfl in_X9 (by decide) w_213 rfl dX11_workIs_132 rfl ?_
    refine x_iload_n C dX11_workIs_135 rfl 1 rfl rfl ?_
    refine x_aload_n C dX11_workIs_136 rfl 0 rfl rfl ?_
    refine x_get C (ci := 10) (k := 2) 0 k1 rfl in_X11 (by decide) w_387 rfl dX11_workIs_137 rfl ?_
    refine x_get C (ci := 8) (k := 0) 5 k3 rfl in_X9 (by decide) w_197 rfl dX11_workIs_140 rfl ?_
    refine x_vi C (As := [.int (nI j20), .int (nI n4)]) (rest := []) (c_isInTime E l a ws hW 5 (Or.inl rfl) j20 ((nI n4)) (by omega)) mf_X10_isInTime w_895 21 k11 rfl rfl rfl (Nat.le_of_ble_eq_true rfl) ⟨(Nat.le_of_ble_eq_true rfl), (Nat.le_of_ble_eq_true rfl)⟩ ⟨(Nat.le_of_ble_eq_true rfl), (Nat.le_of_ble_eq_true rfl)⟩ dX11_workIs_143 rfl (fun r53 w54 h52 => ?_)
    obtain ⟨hW55, zb56⟩ := h52
    refine x_ws hW55 ?_
    refine x_if_eq C (tgt := 153) dX11_workIs_146 (by decide) rfl (fun c57 => ?_) (fun c57 => ?_)
    · skip
      refine x_iconst C (v := 0) dX11_workIs_153 (by decide) rfl ?_
      exact x_zret C hr hlk rfl dX11_workIs_154 ⟨hW, kp0⟩
    · skip
      refine x_iconst C (v := 1) dX11_workIs_149 (by decide) rfl ?_
      refine x_goto C (tgt := 154) dX11_workIs_150 (by decide) ?_
      exact x_zret C hr hlk rfl dX11_workIs_154 ⟨hW, kp0⟩
  · skip
    refine x_iconst C (v := (-1)) dX11_workIs_14 (by decide) rfl ?_
    exact x_zret C hr hlk rfl dX11_workIs_15 ⟨hW, kp0⟩
theorem dX11_readActs_0 : decode cX11_readActs 0 = .ok (.aload_n 0, 1) := by decide +kernel
theorem dX11_readActs_1 : decode cX11_readActs 1 = .ok (.getfield 10, 3) := by decide +kernel
theorem dX11_readActs_4 : decode cX11_readActs 4 = .ok (.iload_n 1, 1) := by decide +kernel
theorem dX11_readActs_5 : decode cX11_readActs 5 = .ok (.invokevirtual 153, 3) := by decide +kernel
theorem dX11_readActs_8 : decode cX11_readActs 8 = .ok (.aload_n 0, 1) := by decide +kernel
theorem dX11_readActs_9 : decode cX11_readActs 9 = .ok (.getfield 49, 3) := by decide +kernel
theorem dX11_readActs_12 : decode cX11_readActs 12 = .ok (.aload_n 0, 1) := by decide +kernel
theorem dX11_readActs_13 : decode cX11_readActs 13 = .ok (.getfield 10, 3) := by decide +kernel
theorem dX11_readActs_16 : decode cX11_readActs 16 = .ok (.invokevirtual 184, 3) := by decide +kernel
theorem dX11_readActs_19 : decode cX11_readActs 19 = .ok (.istore_n 2, 1) := by decide +kernel
theorem dX11_readActs_20 : decode cX11_readActs 20 = .ok (.aload_n 0, 1) := by decide +kernel
theorem dX11_readActs_21 : decode cX11_readActs 21 = .ok (.getfield 10, 3) := by decide +kernel
theorem dX11_readActs_24 : decode cX11_readActs 24 = .ok (.iconst 0, 1) := by decide +kernel
theorem dX11_readActs_25 : decode cX11_readActs 25 = .ok (.putfield 142, 3) := by decide +kernel
theorem dX11_readActs_28 : decode cX11_readActs 28 = .ok (.iload_n 2, 1) := by decide +kernel
theorem dX11_readActs_29 : decode cX11_readActs 29 = .ok (.ireturn, 1) := by decide +kernel
set_option maxRecDepth 20000 in
set_option maxHeartbeats 4000000 in
theorem c_readActs (E : xE) (l : Launch) (a : Nat → Nat) (ws : va_W) (hW : WX (okX E a) ws) (p0 : Int32) : xI E l yX11_readActs cX11_readActs 3 (some .boolean) 12 [.ref (a 0), .int p0] ws (fun r w => WX (okX E a) w ∧ keeps ws w (fun q => ¬ (q = 0 ∨ q = 6 ∨ q = 9 ∨ q = 28 ∨ q = 31)) ∧ zb r) := by
  refine xI_start (lv := [(0, .ref (a 0)), (1, .int p0)]) RX11 (by decide) rfl (Nat.le_of_ble_eq_true rfl) rfl (fun p e s m below meth c A C hr hlk => ?_)
  have kp0 : keeps ws ws (fun q => ¬ (q = 0 ∨ q = 6 ∨ q = 9 ∨ q = 28 ∨ q = 31)) := keeps_rf
  refine x_aload_n C dX11_readActs_0 rfl 0 rfl rfl ?_
  obtain ⟨_, k1, v2, rfl⟩ := hW 0 _ rfl
  refine x_get C (ci := 10) (k := 0) 0 k1 rfl in_X11 (by decide) w_385 rfl dX11_readActs_1 rfl ?_
  refine x_iload_n C dX11_readActs_4 rfl 1 rfl rfl ?_
  obtain ⟨_, k3, n4, v6, v7, v8, bn5, rfl⟩ := hW 1 _ rfl
  refine x_vv C (As := [.int p0]) (rest := []) (c_startText E l a ws hW p0) mf_X8_startText w_511 1 k3 rfl rfl rfl (Nat.le_of_ble_eq_true rfl) ⟨(Nat.le_of_ble_eq_true rfl), (Nat.le_of_ble_eq_true rfl)⟩ ⟨(Nat.le_of_ble_eq_true rfl), (Nat.le_of_ble_eq_true rfl)⟩ dX11_readActs_5 rfl (fun w11 h9 => ?_)
  obtain ⟨hW12, kq13⟩ := h9
  have k14 : w11[0]? = some (ob (a 0) 10 [.ref (a 1), .ref (a 3), .ref (a 5), .ref (a 27), .ref (a 49), .int v2, .ref (a 71), .ref (a 79), .ref (a 87), .ref (a 92), .ref (a 103), .ref (a 105), .ref (a 106), .ref (a 107), .ref (a 108), .ref (a 109), .ref (a 110), .ref (a 111), .ref (a 112)]) := keeps_at kq13 k1 (by first | decide | omega | (dsimp only; omega))
  have kp15 := keeps_tr kp0 kq13 (fun q hq => by first | omega | (dsimp only at *; omega))
  refine x_aload_n C dX11_readActs_8 rfl 0 rfl rfl ?_
  refine x_get C (ci := 10) (k := 8) 0 k14 rfl in_X11 (by decide) w_393 rfl dX11_readActs_9 rfl ?_
  refine x_aload_n C dX11_readActs_12 rfl 0 rfl rfl ?_
  refine x_get C (ci := 10) (k := 0) 0 k14 rfl in_X11 (by decide) w_385 rfl dX11_readActs_13 rfl ?_
  obtain ⟨_, k16, n17, n19, bn18, bn20, rfl⟩ := hW12 87 _ rfl
  refine x_vi C (As := [.ref (a 1)]) (rest := []) (c_Acts_read E l a w11 hW12) mf_X0_read w_668 87 k16 rfl rfl rfl (Nat.le_of_ble_eq_true rfl) ⟨(Nat.le_of_ble_eq_true rfl), (Nat.le_of_ble_eq_true rfl)⟩ ⟨(Nat.le_of_ble_eq_true rfl), (Nat.le_of_ble_eq_true rfl)⟩ dX11_readActs_16 rfl (fun r22 w23 h21 => ?_)
  obtain ⟨hW24, kq25, zb26⟩ := h21
  have k27 : w23[0]? = some (ob (a 0) 10 [.ref (a 1), .ref (a 3), .ref (a 5), .ref (a 27), .ref (a 49), .int v2, .ref (a 71), .ref (a 79), .ref (a 87), .ref (a 92), .ref (a 103), .ref (a 105), .ref (a 106), .ref (a 107), .ref (a 108), .ref (a 109), .ref (a 110), .ref (a 111), .ref (a 112)]) := keeps_at kq25 k14 (by first | decide | omega | (dsimp only; omega))
  have kp28 := keeps_tr kp15 kq25 (fun q hq => by first | omega | (dsimp only at *; omega))
  refine x_istore_n C (lv' := [(2, .int r22), (0, .ref (a 0)), (1, .int p0)]) dX11_readActs_19 rfl (by decide) rfl rfl ?_
  refine x_aload_n C dX11_readActs_20 rfl 1 rfl rfl ?_
  refine x_get C (ci := 10) (k := 0) 0 k27 rfl in_X11 (by decide) w_385 rfl dX11_readActs_21 rfl ?_
  refine x_iconst C (v := 0) dX11_readActs_24 (by decide) rfl ?_
  obtain ⟨_, k29, n30, v32, v33, v34, bn31, rfl⟩ := hW24 1 _ rfl
  obtain ⟨w35, hw36⟩ : ∃ w : va_W, w = List.set w23 1 (ob (a 1) 7 [.ref (a 2), .int 0, .int v32, .int v33, .int v34]) := ⟨_, rfl⟩
  refine x_put C (ci := 7) (k := 1) (ty := .int) 1 k29 rfl in_X8 tyX8 tyX8_ok nmX8 (by decide) w_38 rfl rfl rfl rfl (Nat.le_of_ble_eq_true rfl) hw36.symm dX11_readActs_25 rfl ?_
  have hW37 : WX (okX E a) w35 := by rw [hw36]; exact hW24.set (k := 1) rfl ⟨0, v32, v33, v34, by omega, rfl⟩
  have k38 : w35[0]? = some (ob (a 0) 10 [.ref (a 1), .ref (a 3), .ref (a 5), .ref (a 27), .ref (a 49), .int v2, .ref (a 71), .ref (a 79), .ref (a 87), .ref (a 92), .ref (a 103), .ref (a 105), .ref (a 106), .ref (a 107), .ref (a 108), .ref (a 109), .ref (a 110), .ref (a 111), .ref (a 112)]) := by rw [hw36]; exact set_ne k27 (by decide)
  have k39 : w35[1]? = some (ob (a 1) 7 [.ref (a 2), .int 0, .int v32, .int v33, .int v34]) := by rw [hw36]; exact set_eq k29
  have kp40 := keeps_set kp28 hw36 (by first | exact rfl | decide | omega | (dsimp only; omega))
  refine x_iload_n C dX11_readActs_28 rfl 0 rfl rfl ?_
  exact x_zret C hr hlk (zb_nar zb26) dX11_readActs_29 ⟨hW37, kp40, zb26⟩
