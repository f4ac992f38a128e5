def SumC (E : xE) (l : Launch) (a : Nat → Nat) (n : Nat) : Prop := ∀ (ws : va_W), WX (okX E a) ws → ∀ (o : Nat), o ≤ 6 → 6 - o ≤ n → xI E l yX4_sum cX4_sum 6 (some .boolean) (9 + 3 * n) [.ref (a 1), .ref (a 79), .int (nI o)] ws (fun r w => WX (okX E a) w ∧ keeps ws w (fun q => (q = 1 ∨ q = 2) ∨ (79 ≤ q ∧ q < 87)) ∧ zb r)
def FacC (E : xE) (l : Launch) (a : Nat → Nat) (n : Nat) : Prop := ∀ (ws : va_W), WX (okX E a) ws → ∀ (o : Nat), o ≤ 6 → 6 - o ≤ n → xI E l yX4_factor cX4_factor 5 (some .boolean) (8 + 3 * n) [.ref (a 1), .ref (a 79), .int (nI o)] ws (fun r w => WX (okX E a) w ∧ keeps ws w (fun q => (q = 1 ∨ q = 2) ∨ (79 ≤ q ∧ q < 87)) ∧ zb r)
def PieC (E : xE) (l : Launch) (a : Nat → Nat) (n : Nat) : Prop := ∀ (ws : va_W), WX (okX E a) ws → ∀ (o : Nat), o ≤ 6 → 6 - o ≤ n → xI E l yX4_piece cX4_piece 4 (some .boolean) (29 + 2 * n) [.ref (a 1), .ref (a 79), .int (nI o)] ws (fun r w => WX (okX E a) w ∧ keeps ws w (fun q => (q = 1 ∨ q = 2) ∨ (79 ≤ q ∧ q < 87)) ∧ zb r)
def ConC (E : xE) (l : Launch) (a : Nat → Nat) (n : Nat) : Prop := ∀ (ws : va_W), WX (okX E a) ws → ∀ (o : Nat), o ≤ 6 → 6 - o ≤ n → xI E l yX4_condition cX4_condition 7 (some .boolean) (30 + 2 * n) [.ref (a 1), .ref (a 79), .int (nI o)] ws (fun r w => WX (okX E a) w ∧ keeps ws w (fun q => (q = 1 ∨ q = 2) ∨ (79 ≤ q ∧ q < 87)) ∧ zb r)
theorem dX4_number_0 : decode cX4_number 0 = .ok (.iconst 0, 1) := by decide +kernel
theorem dX4_number_1 : decode cX4_number 1 = .ok (.istore_n 2, 1) := by decide +kernel
theorem dX4_number_2 : decode cX4_number 2 = .ok (.iconst 0, 1) := by decide +kernel
theorem dX4_number_3 : decode cX4_number 3 = .ok (.istore_n 3, 1) := by decide +kernel
theorem dX4_number_4 : decode cX4_number 4 = .ok (.iload_n 3, 1) := by decide +kernel
theorem dX4_number_5 : decode cX4_number 5 = .ok (.iconst 5, 1) := by decide +kernel
theorem dX4_number_6 : decode cX4_number 6 = .ok (.if_icmp .ge 42, 3) := by decide +kernel
theorem dX4_number_9 : decode cX4_number 9 = .ok (.aload_n 0, 1) := by decide +kernel
theorem dX4_number_10 : decode cX4_number 10 = .ok (.invokevirtual 24, 3) := by decide +kernel
theorem dX4_number_13 : decode cX4_number 13 = .ok (.invokestatic 82, 3) := by decide +kernel
theorem dX4_number_16 : decode cX4_number 16 = .ok (.ifCond .eq 32, 3) := by decide +kernel
theorem dX4_number_19 : decode cX4_number 19 = .ok (.bipush 10, 2) := by decide +kernel
theorem dX4_number_21 : decode cX4_number 21 = .ok (.iload_n 2, 1) := by decide +kernel
theorem dX4_number_22 : decode cX4_number 22 = .ok (.imul, 1) := by decide +kernel
theorem dX4_number_23 : decode cX4_number 23 = .ok (.aload_n 0, 1) := by decide +kernel
theorem dX4_number_24 : decode cX4_number 24 = .ok (.invokevirtual 24, 3) := by decide +kernel
theorem dX4_number_27 : decode cX4_number 27 = .ok (.iadd, 1) := by decide +kernel
theorem dX4_number_28 : decode cX4_number 28 = .ok (.bipush 48, 2) := by decide +kernel
theorem dX4_number_30 : decode cX4_number 30 = .ok (.isub, 1) := by decide +kernel
theorem dX4_number_31 : decode cX4_number 31 = .ok (.istore_n 2, 1) := by decide +kernel
theorem dX4_number_32 : decode cX4_number 32 = .ok (.aload_n 0, 1) := by decide +kernel
theorem dX4_number_33 : decode cX4_number 33 = .ok (.dup, 1) := by decide +kernel
theorem dX4_number_34 : decode cX4_number 34 = .ok (.getfield 43, 3) := by decide +kernel
theorem dX4_number_37 : decode cX4_number 37 = .ok (.iconst 1, 1) := by decide +kernel
theorem dX4_number_38 : decode cX4_number 38 = .ok (.iadd, 1) := by decide +kernel
theorem dX4_number_39 : decode cX4_number 39 = .ok (.putfield 43, 3) := by decide +kernel
theorem dX4_number_42 : decode cX4_number 42 = .ok (.iinc 3 1, 3) := by decide +kernel
theorem dX4_number_45 : decode cX4_number 45 = .ok (.goto (-41), 3) := by decide +kernel
theorem dX4_number_48 : decode cX4_number 48 = .ok (.aload_n 0, 1) := by decide +kernel
theorem dX4_number_49 : decode cX4_number 49 = .ok (.invokevirtual 24, 3) := by decide +kernel
theorem dX4_number_52 : decode cX4_number 52 = .ok (.invokestatic 82, 3) := by decide +kernel
theorem dX4_number_55 : decode cX4_number 55 = .ok (.ifCond .eq 9, 3) := by decide +kernel
theorem dX4_number_58 : decode cX4_number 58 = .ok (.aload_n 0, 1) := by decide +kernel
theorem dX4_number_59 : decode cX4_number 59 = .ok (.iconst 2, 1) := by decide +kernel
theorem dX4_number_60 : decode cX4_number 60 = .ok (.invokevirtual 34, 3) := by decide +kernel
theorem dX4_number_63 : decode cX4_number 63 = .ok (.ireturn, 1) := by decide +kernel
theorem dX4_number_64 : decode cX4_number 64 = .ok (.aload_n 1, 1) := by decide +kernel
theorem dX4_number_65 : decode cX4_number 65 = .ok (.bipush 35, 2) := by decide +kernel
theorem dX4_number_67 : decode cX4_number 67 = .ok (.iload_n 2, 1) := by decide +kernel
theorem dX4_number_68 : decode cX4_number 68 = .ok (.invokevirtual 72, 3) := by decide +kernel
theorem dX4_number_71 : decode cX4_number 71 = .ok (.iconst 1, 1) := by decide +kernel
theorem dX4_number_72 : decode cX4_number 72 = .ok (.ireturn, 1) := by decide +kernel
set_option maxRecDepth 20000 in
set_option maxHeartbeats 4000000 in
theorem c_number (E : xE) (l : Launch) (a : Nat → Nat) (ws : va_W) (hW : WX (okX E a) ws) : xI E l yX4_number cX4_number 4 (some .boolean) 2 [.ref (a 1), .ref (a 79)] ws (fun r w => WX (okX E a) w ∧ keeps ws w (fun q => (q = 1 ∨ q = 2) ∨ (79 ≤ q ∧ q < 87)) ∧ zb r) := by
  refine xI_start (lv := [(0, .ref (a 1)), (1, .ref (a 79))]) RX4 (by decide) rfl (Nat.le_of_ble_eq_true rfl) rfl (fun p e s m below meth c A C hr hlk => ?_)
  have kp0 : keeps ws ws (fun q => (q = 1 ∨ q = 2) ∨ (79 ≤ q ∧ q < 87)) := keeps_rf
  refine x_iconst C (v := 0) dX4_number_0 (by decide) rfl ?_
  refine x_istore_n C (lv' := [(2, .int 0), (0, .ref (a 1)), (1, .ref (a 79))]) dX4_number_1 rfl (by decide) rfl rfl ?_
  refine x_iconst C (v := 0) dX4_number_2 (by decide) rfl ?_
  refine x_istore_n C (lv' := [(3, .int 0), (2, .int 0), (0, .ref (a 1)), (1, .ref (a 79))]) dX4_number_3 rfl (by decide) rfl rfl ?_
  have loop4 : ∀ (fu4 : Nat) (z4_2 : Int32) (k : Nat) (wl4 : va_W), WX (okX E a) wl4 → 5 - k < fu4 → k ≤ 5 → keeps ws wl4 (fun q => (q = 1 ∨ q = 2) ∨ (79 ≤ q ∧ q < 87)) → X E p l e (xRm 2 0 0) s m ([.ref (a 1), .ref (a 79)] : List Value).toArray below meth c A 4 0 0 (MQ below (va_Qi (fun r w => WX (okX E a) w ∧ keeps ws w (fun q => (q = 1 ∨ q = 2) ∨ (79 ≤ q ∧ q < 87)) ∧ zb r) (xB E A) A) ([.ref (a 1), .ref (a 79)] : List Value).toArray s 0 0 A) wl4 4 [(0, .ref (a 1)), (1, .ref (a 79)), (2, .int z4_2), (3, .int (nI k))] [] := by
    intro fu4
    induction fu4 with
    | zero => intro z4_2 k wl4 _ q; omega
    | succ fu4 ih4 =>
      intro z4_2 k wl4 hWl4 me4 iv4_0 kq4
      refine x_iload_n C dX4_number_4 rfl 3 rfl rfl ?_
      refine x_iconst C (v := 5) dX4_number_5 (by decide) rfl ?_
      refine x_icmp_ge C (tgt := 48) dX4_number_6 (by decide) rfl (fun c1 => ?_) (fun c1 => ?_)
      · skip
        have nf2 := nI_le' (a := 5) (b := k) c1 (by omega) (by omega)
        refine x_aload_n C dX4_number_48 rfl 0 rfl rfl ?_
        obtain ⟨_, k3, n4, v6, v7, v8, bn5, rfl⟩ := hWl4 1 _ rfl
        refine x_vi C (As := []) (rest := []) (c_sign E l a wl4 hWl4) mf_X8_sign w_522 1 k3 rfl rfl rfl (Nat.le_of_ble_eq_true rfl) ⟨(Nat.le_of_ble_eq_true rfl), (Nat.le_of_ble_eq_true rfl)⟩ ⟨(Nat.le_of_ble_eq_true rfl), (Nat.le_of_ble_eq_true rfl)⟩ dX4_number_49 rfl (fun r10 w11 h9 => ?_)
        have hW12 := h9
        refine x_ws hW12 ?_
        refine x_sn C (As := [.int r10]) (rest := []) (c_isDigit E l a wl4 hWl4 r10) mf_X11_isDigit n_625 rfl rfl (Nat.le_of_ble_eq_true rfl) ⟨(Nat.le_of_ble_eq_true rfl), (Nat.le_of_ble_eq_true rfl)⟩ ⟨(Nat.le_of_ble_eq_true rfl), (Nat.le_of_ble_eq_true rfl)⟩ dX4_number_52 rfl (fun r14 w15 h13 => ?_)
        obtain ⟨hW16, zb17⟩ := h13
        refine x_ws hW16 ?_
        refine x_if_eq C (tgt := 64) dX4_number_55 (by decide) rfl (fun c18 => ?_) (fun c18 => ?_)
        · skip
          refine x_aload_n C dX4_number_64 rfl 1 rfl rfl ?_
          refine x_bipush C (v := 35) dX4_number_65 (by decide) rfl ?_
          refine x_iload_n C dX4_number_67 rfl 2 rfl rfl ?_
          obtain ⟨_, k19, v20, n21, n23, bn22, bn24, rfl⟩ := hWl4 79 _ rfl
          refine x_vv C (As := [.int 35, .int z4_2]) (rest := []) (c_emit E l a wl4 hWl4 (35 : Int32) z4_2) mf_X3_emit w_631 79 k19 rfl rfl rfl (Nat.le_of_ble_eq_true rfl) ⟨(Nat.le_of_ble_eq_true rfl), (Nat.le_of_ble_eq_true rfl)⟩ ⟨(Nat.le_of_ble_eq_true rfl), (Nat.le_of_ble_eq_true rfl)⟩ dX4_number_68 rfl (fun w27 h25 => ?_)
          obtain ⟨hW28, kq29⟩ := h25
          have k30 : w27[1]? = some (ob (a 1) 7 [.ref (a 2), .int (nI n4), .int v6, .int v7, .int v8]) := keeps_at kq29 k3 (by first | decide | omega | (dsimp only; omega))
          have kp31 := keeps_tr kq4 kq29 (fun q hq => by first | omega | (dsimp only at *; omega))
          refine x_iconst C (v := 1) dX4_number_71 (by decide) rfl ?_
          exact x_zret C hr hlk rfl dX4_number_72 ⟨hW28, kp31, (Or.inr rfl)⟩
        · skip
          refine x_aload_n C dX4_number_58 rfl 0 rfl rfl ?_
          refine x_iconst C (v := 2) dX4_number_59 (by decide) rfl ?_
          refine x_vi C (As := [.int 2]) (rest := []) (c_fails E l a wl4 hWl4 (2 : Int32)) mf_X8_fails w_615 1 k3 rfl rfl rfl (Nat.le_of_ble_eq_true rfl) ⟨(Nat.le_of_ble_eq_true rfl), (Nat.le_of_ble_eq_true rfl)⟩ ⟨(Nat.le_of_ble_eq_true rfl), (Nat.le_of_ble_eq_true rfl)⟩ dX4_number_60 rfl (fun r33 w34 h32 => ?_)
          obtain ⟨hW35, kq36, zb37⟩ := h32
          have kp38 := keeps_tr kq4 kq36 (fun q hq => by first | omega | (dsimp only at *; omega))
          exact x_zret C hr hlk (zb_nar zb37) dX4_number_63 ⟨hW35, kp38, zb37⟩
      · skip
        have nf39 := nI_nle' (a := 5) (b := k) c1 (by omega) (by omega)
        refine x_aload_n C dX4_number_9 rfl 0 rfl rfl ?_
        obtain ⟨_, k40, n41, v43, v44, v45, bn42, rfl⟩ := hWl4 1 _ rfl
        refine x_vi C (As := []) (rest := []) (c_sign E l a wl4 hWl4) mf_X8_sign w_522 1 k40 rfl rfl rfl (Nat.le_of_ble_eq_true rfl) ⟨(Nat.le_of_ble_eq_true rfl), (Nat.le_of_ble_eq_true rfl)⟩ ⟨(Nat.le_of_ble_eq_true rfl), (Nat.le_of_ble_eq_true rfl)⟩ dX4_number_10 rfl (fun r47 w48 h46 => ?_)
        have hW49 := h46
        refine x_ws hW49 ?_
        refine x_sn C (As := [.int r47]) (rest := []) (c_isDigit E l a wl4 hWl4 r47) mf_X11_isDigit n_625 rfl rfl (Nat.le_of_ble_eq_true rfl) ⟨(Nat.le_of_ble_eq_true rfl), (Nat.le_of_ble_eq_true rfl)⟩ ⟨(Nat.le_of_ble_eq_true rfl), (Nat.le_of_ble_eq_true rfl)⟩ dX4_number_13 rfl (fun r51 w52 h50 => ?_)
        obtain ⟨hW53, zb54⟩ := h50
        refine x_ws hW53 ?_
        refine x_if_eq C (tgt := 48) dX4_number_16 (by decide) rfl (fun c55 => ?_) (fun c55 => ?_)
        · skip
          refine x_aload_n C dX4_number_48 rfl 0 rfl rfl ?_
          refine x_vi C (As := []) (rest := []) (c_sign E l a wl4 hWl4) mf_X8_sign w_522 1 k40 rfl rfl rfl (Nat.le_of_ble_eq_true rfl) ⟨(Nat.le_of_ble_eq_true rfl), (Nat.le_of_ble_eq_true rfl)⟩ ⟨(Nat.le_of_ble_eq_true rfl), (Nat.le_of_ble_eq_true rfl)⟩ dX4_number_49 rfl (fun r57 w58 h56 => ?_)
          have hW59 := h56
          refine x_ws hW59 ?_
          refine x_sn C (As := [.int r57]) (rest := []) (c_isDigit E l a wl4 hWl4 r57) mf_X11_isDigit n_625 rfl rfl (Nat.le_of_ble_eq_true rfl) ⟨(Nat.le_of_ble_eq_true rfl), (Nat.le_of_ble_eq_true rfl)⟩ ⟨(Nat.le_of_ble_eq_true rfl), (Nat.le_of_ble_eq_true rfl)⟩ dX4_number_52 rfl (fun r61 w62 h60 => ?_)
          obtain ⟨hW63, zb64⟩ := h60
          refine x_ws hW63 ?_
          refine x_if_eq C (tgt := 64) dX4_number_55 (by decide) rfl (fun c65 => ?_) (fun c65 => ?_)
          · skip
            refine x_aload_n C dX4_number_64 rfl 1 rfl rfl ?_
            refine x_bipush C (v := 35) dX4_number_65 (by decide) rfl ?_
            refine x_iload_n C dX4_number_67 rfl 2 rfl rfl ?_
            obtain ⟨_, k66, v67, n68, n70, bn69, bn71, rfl⟩ := hWl4 79 _ rfl
            refine x_vv C (As := [.int 35, .int z4_2]) (rest := []) (c_emit E l a wl4 hWl4 (35 : Int32) z4_2) mf_X3_emit w_631 79 k66 rfl rfl rfl (Nat.le_of_ble_eq_true rfl) ⟨(Nat.le_of_ble_eq_true rfl), (Nat.le_of_ble_eq_true rfl)⟩ ⟨(Nat.le_of_ble_eq_true rfl), (Nat.le_of_ble_eq_true rfl)⟩ dX4_number_68 rfl (fun w74 h72 => ?_)
            obtain ⟨hW75, kq76⟩ := h72
            have k77 : w74[1]? = some (ob (a 1) 7 [.ref (a 2), .int (nI n41), .int v43, .int v44, .int v45]) := keeps_at kq76 k40 (by first | decide | omega | (dsimp only; omega))
            have kp78 := keeps_tr kq4 kq76 (fun q hq => by first | omega | (dsimp only at *; omega))
            refine x_iconst C (v := 1) dX4_number_71 (by decide) rfl ?_
            exact x_zret C hr hlk rfl dX4_number_72 ⟨hW75, kp78, (Or.inr rfl)⟩
          · skip
            refine x_aload_n C dX4_number_58 rfl 0 rfl rfl ?_
            refine x_iconst C (v := 2) dX4_number_59 (by decide) rfl ?_
            refine x_vi C (As := [.int 2]) (rest := []) (c_fails E l a wl4 hWl4 (2 : Int32)) mf_X8_fails w_615 1 k40 rfl rfl rfl (Nat.le_of_ble_eq_true rfl) ⟨(Nat.le_of_ble_eq_true rfl), (Nat.le_of_ble_eq_true rfl)⟩ ⟨(Nat.le_of_ble_eq_true rfl), (Nat.le_of_ble_eq_true rfl)⟩ dX4_number_60 rfl (fun r80 w81 h79 => ?_)
            obtain ⟨hW82, kq83, zb84⟩ := h79
            have kp85 := keeps_tr kq4 kq83 (fun q hq => by first | omega | (dsimp only at *; omega))
            exact x_zret C hr hlk (zb_nar zb84) dX4_number_63 ⟨hW82, kp85, zb84⟩
        · skip
          refine x_bipush C (v := 10) dX4_number_19 (by decide) rfl ?_
          refine x_iload_n C dX4_number_21 rfl 2 rfl rfl ?_
          refine x_imul C (v := ((10 : Int32) * z4_2)) dX4_number_22 rfl rfl ?_
          refine x_any (fun v86 => ?_)
          refine x_aload_n C dX4_number_23 rfl 0 rfl rfl ?_
          refine x_vi C (As := []) (rest := [.int v86]) (c_sign E l a wl4 hWl4) mf_X8_sign w_522 1 k40 rfl rfl rfl (Nat.le_of_ble_eq_true rfl) ⟨(Nat.le_of_ble_eq_true rfl), (Nat.le_of_ble_eq_true rfl)⟩ ⟨(Nat.le_of_ble_eq_true rfl), (Nat.le_of_ble_eq_true rfl)⟩ dX4_number_24 rfl (fun r88 w89 h87 => ?_)
          have hW90 := h87
          refine x_ws hW90 ?_
          refine x_iadd C (v := (v86 + r88)) dX4_number_27 rfl rfl ?_
          refine x_any (fun v91 => ?_)
          refine x_bipush C (v := 48) dX4_number_28 (by decide) rfl ?_
          refine x_isub C (v := (v91 - (48 : Int32))) dX4_number_30 rfl rfl ?_
          refine x_any (fun v92 => ?_)
          refine x_istore_n C (lv' := [(2, .int v92), (0, .ref (a 1)), (1, .ref (a 79)), (3, .int (nI k))]) dX4_number_31 rfl (by decide) rfl rfl ?_
          refine x_aload_n C dX4_number_32 rfl 1 rfl rfl ?_
          refine x_dup C dX4_number_33 rfl rfl ?_
          refine x_get C (ci := 7) (k := 3) 1 k40 rfl in_X8 (by decide) w_41 rfl dX4_number_34 rfl ?_
          refine x_iconst C (v := 1) dX4_number_37 (by decide) rfl ?_
          refine x_iadd C (v := (v44 + (1 : Int32))) dX4_number_38 rfl rfl ?_
          refine x_any (fun v93 => ?_)
          obtain ⟨w94, hw95⟩ : ∃ w : va_W, w = List.set wl4 1 (ob (a 1) 7 [.ref (a 2), .int (nI n41), .int v43, .int v93, .int v45]) := ⟨_, rfl⟩
          refine x_put C (ci := 7) (k := 3) (ty := .int) 1 k40 rfl in_X8 tyX8 tyX8_ok nmX8 (by decide) w_41 rfl rfl rfl rfl (Nat.le_of_ble_eq_true rfl) hw95.symm dX4_number_39 rfl ?_
          have hW96 : WX (okX E a) w94 := by rw [hw95]; exact hWl4.set (k := 1) rfl ⟨n41, v43, v93, v45, by omega, rfl⟩
          have k97 : w94[1]? = some (ob (a 1) 7 [.ref (a 2), .int (nI n41), .int v43, .int v93, .int v45]) := by rw [hw95]; exact set_eq k40
          have kp98 := keeps_set kq4 hw95 (by first | exact rfl | decide | omega | (dsimp only; omega))
          refine x_iinc C (v := (nI (k + 1))) (lv' := [(3, .int (nI (k + 1))), (2, .int v92), (0, .ref (a 1)), (1, .ref (a 79))]) dX4_number_42 3 rfl (nI_add k 1) (by decide) rfl rfl ?_
          refine x_goto C (tgt := 4) dX4_number_45 (by decide) ?_
          refine x_lv (lv1 := [(0, .ref (a 1)), (1, .ref (a 79)), (2, .int v92), (3, .int (nI (k + 1)))]) [2, 3, 1, 0] rfl ?_
          exact ih4 v92 (k + 1) w94 hW96 (by omega) (by omega) kp98
  refine x_lv (lv1 := [(0, .ref (a 1)), (1, .ref (a 79)), (2, .int 0), (3, .int 0)]) [2, 3, 1, 0] rfl ?_
  exact loop4 _ (0 : Int32) 0 ws hW (Nat.lt_succ_self _) (by omega) kp0
theorem dX4_factor_0 : decode cX4_factor 0 = .ok (.aload_n 0, 1) := by decide +kernel
theorem dX4_factor_1 : decode cX4_factor 1 = .ok (.invokevirtual 24, 3) := by decide +kernel
theorem dX4_factor_4 : decode cX4_factor 4 = .ok (.istore_n 3, 1) := by decide +kernel
theorem dX4_factor_5 : decode cX4_factor 5 = .ok (.iload_n 3, 1) := by decide +kernel
theorem dX4_factor_6 : decode cX4_factor 6 = .ok (.invokestatic 82, 3) := by decide +kernel
theorem dX4_factor_9 : decode cX4_factor 9 = .ok (.ifCond .eq 9, 3) := by decide +kernel
theorem dX4_factor_12 : decode cX4_factor 12 = .ok (.aload_n 0, 1) := by decide +kernel
theorem dX4_factor_13 : decode cX4_factor 13 = .ok (.aload_n 1, 1) := by decide +kernel
theorem dX4_factor_14 : decode cX4_factor 14 = .ok (.invokestatic 85, 3) := by decide +kernel
theorem dX4_factor_17 : decode cX4_factor 17 = .ok (.ireturn, 1) := by decide +kernel
theorem dX4_factor_18 : decode cX4_factor 18 = .ok (.iload_n 3, 1) := by decide +kernel
theorem dX4_factor_19 : decode cX4_factor 19 = .ok (.bipush 91, 2) := by decide +kernel
theorem dX4_factor_21 : decode cX4_factor 21 = .ok (.if_icmp .ne 51, 3) := by decide +kernel
theorem dX4_factor_24 : decode cX4_factor 24 = .ok (.iload_n 2, 1) := by decide +kernel
theorem dX4_factor_25 : decode cX4_factor 25 = .ok (.bipush 6, 2) := by decide +kernel
theorem dX4_factor_27 : decode cX4_factor 27 = .ok (.if_icmp .lt 9, 3) := by decide +kernel
theorem dX4_factor_30 : decode cX4_factor 30 = .ok (.aload_n 0, 1) := by decide +kernel
theorem dX4_factor_31 : decode cX4_factor 31 = .ok (.iconst 5, 1) := by decide +kernel
theorem dX4_factor_32 : decode cX4_factor 32 = .ok (.invokevirtual 34, 3) := by decide +kernel
theorem dX4_factor_35 : decode cX4_factor 35 = .ok (.ireturn, 1) := by decide +kernel
theorem dX4_factor_36 : decode cX4_factor 36 = .ok (.aload_n 0, 1) := by decide +kernel
theorem dX4_factor_37 : decode cX4_factor 37 = .ok (.dup, 1) := by decide +kernel
theorem dX4_factor_38 : decode cX4_factor 38 = .ok (.getfield 43, 3) := by decide +kernel
theorem dX4_factor_41 : decode cX4_factor 41 = .ok (.iconst 1, 1) := by decide +kernel
theorem dX4_factor_42 : decode cX4_factor 42 = .ok (.iadd, 1) := by decide +kernel
theorem dX4_factor_43 : decode cX4_factor 43 = .ok (.putfield 43, 3) := by decide +kernel
theorem dX4_factor_46 : decode cX4_factor 46 = .ok (.aload_n 0, 1) := by decide +kernel
theorem dX4_factor_47 : decode cX4_factor 47 = .ok (.aload_n 1, 1) := by decide +kernel
theorem dX4_factor_48 : decode cX4_factor 48 = .ok (.iload_n 2, 1) := by decide +kernel
theorem dX4_factor_49 : decode cX4_factor 49 = .ok (.iconst 1, 1) := by decide +kernel
theorem dX4_factor_50 : decode cX4_factor 50 = .ok (.iadd, 1) := by decide +kernel
theorem dX4_factor_51 : decode cX4_factor 51 = .ok (.invokestatic 53, 3) := by decide +kernel
theorem dX4_factor_54 : decode cX4_factor 54 = .ok (.ifCond .eq 16, 3) := by decide +kernel
theorem dX4_factor_57 : decode cX4_factor 57 = .ok (.aload_n 0, 1) := by decide +kernel
theorem dX4_factor_58 : decode cX4_factor 58 = .ok (.bipush 93, 2) := by decide +kernel
theorem dX4_factor_60 : decode cX4_factor 60 = .ok (.invokevirtual 30, 3) := by decide +kernel
theorem dX4_factor_63 : decode cX4_factor 63 = .ok (.ifCond .eq 7, 3) := by decide +kernel
theorem dX4_factor_66 : decode cX4_factor 66 = .ok (.iconst 1, 1) := by decide +kernel
theorem dX4_factor_67 : decode cX4_factor 67 = .ok (.goto 4, 3) := by decide +kernel
theorem dX4_factor_70 : decode cX4_factor 70 = .ok (.iconst 0, 1) := by decide +kernel
theorem dX4_factor_71 : decode cX4_factor 71 = .ok (.ireturn, 1) := by decide +kernel
theorem dX4_factor_72 : decode cX4_factor 72 = .ok (.ldc 89, 2) := by decide +kernel
theorem dX4_factor_74 : decode cX4_factor 74 = .ok (.iload_n 3, 1) := by decide +kernel
theorem dX4_factor_75 : decode cX4_factor 75 = .ok (.invokestatic 39, 3) := by decide +kernel
theorem dX4_factor_78 : decode cX4_factor 78 = .ok (.istore 4, 2) := by decide +kernel
theorem dX4_factor_80 : decode cX4_factor 80 = .ok (.iload 4, 2) := by decide +kernel
theorem dX4_factor_82 : decode cX4_factor 82 = .ok (.ifCond .ge 9, 3) := by decide +kernel
theorem dX4_factor_85 : decode cX4_factor 85 = .ok (.aload_n 0, 1) := by decide +kernel
theorem dX4_factor_86 : decode cX4_factor 86 = .ok (.iconst 1, 1) := by decide +kernel
theorem dX4_factor_87 : decode cX4_factor 87 = .ok (.invokevirtual 34, 3) := by decide +kernel
theorem dX4_factor_90 : decode cX4_factor 90 = .ok (.ireturn, 1) := by decide +kernel
theorem dX4_factor_91 : decode cX4_factor 91 = .ok (.aload_n 0, 1) := by decide +kernel
theorem dX4_factor_92 : decode cX4_factor 92 = .ok (.dup, 1) := by decide +kernel
theorem dX4_factor_93 : decode cX4_factor 93 = .ok (.getfield 43, 3) := by decide +kernel
theorem dX4_factor_96 : decode cX4_factor 96 = .ok (.iconst 1, 1) := by decide +kernel
theorem dX4_factor_97 : decode cX4_factor 97 = .ok (.iadd, 1) := by decide +kernel
theorem dX4_factor_98 : decode cX4_factor 98 = .ok (.putfield 43, 3) := by decide +kernel
theorem dX4_factor_101 : decode cX4_factor 101 = .ok (.aload_n 1, 1) := by decide +kernel
theorem dX4_factor_102 : decode cX4_factor 102 = .ok (.bipush 36, 2) := by decide +kernel
theorem dX4_factor_104 : decode cX4_factor 104 = .ok (.iload 4, 2) := by decide +kernel
theorem dX4_factor_106 : decode cX4_factor 106 = .ok (.invokevirtual 72, 3) := by decide +kernel
theorem dX4_factor_109 : decode cX4_factor 109 = .ok (.iconst 1, 1) := by decide +kernel
theorem dX4_factor_110 : decode cX4_factor 110 = .ok (.ireturn, 1) := by decide +kernel
set_option maxRecDepth 20000 in
set_option maxHeartbeats 4000000 in
theorem c_factor (E : xE) (l : Launch) (a : Nat → Nat) (ws : va_W) (hW : WX (okX E a) ws) (o : Nat) (ho : o ≤ 6) (n : Nat) (hn : 6 - o ≤ n) (hs : ∀ k, k + 1 = n → SumC E l a k) : xI E l yX4_factor cX4_factor 5 (some .boolean) (8 + 3 * n) [.ref (a 1), .ref (a 79), .int (nI o)] ws (fun r w => WX (okX E a) w ∧ keeps ws w (fun q => (q = 1 ∨ q = 2) ∨ (79 ≤ q ∧ q < 87)) ∧ zb r) := by
  refine xI_start (lv := [(0, .ref (a 1)), (1, .ref (a 79)), (2, .int (nI o))]) RX4 (by decide) rfl (Nat.le_of_ble_eq_true rfl) rfl (fun p e s m below meth c A C hr hlk => ?_)
  have kp0 : keeps ws ws (fun q => (q = 1 ∨ q = 2) ∨ (79 ≤ q ∧ q < 87)) := keeps_rf
  refine x_aload_n C dX4_factor_0 rfl 0 rfl rfl ?_
  obtain ⟨_, k1, n2, v4, v5, v6, bn3, rfl⟩ := hW 1 _ rfl
  refine x_vi C (As := []) (rest := []) (c_sign E l a ws hW) mf_X8_sign w_522 1 k1 rfl rfl rfl (Nat.le_of_ble_eq_true rfl) ⟨(by dsimp only [xRm]; omega), (by dsimp only [xRm]; omega)⟩ ⟨(Nat.le_of_ble_eq_true rfl), (Nat.le_of_ble_eq_true rfl)⟩ dX4_factor_1 rfl (fun r8 w9 h7 => ?_)
  have hW10 := h7
  refine x_ws hW10 ?_
  refine x_istore_n C (lv' := [(3, .int r8), (0, .ref (a 1)), (1, .ref (a 79)), (2, .int (nI o))]) dX4_factor_4 rfl (by decide) rfl rfl ?_
  refine x_iload_n C dX4_factor_5 rfl 0 rfl rfl ?_
  refine x_sn C (As := [.int r8]) (rest := []) (c_isDigit E l a ws hW r8) mf_X11_isDigit n_625 rfl rfl (Nat.le_of_ble_eq_true rfl) ⟨(by dsimp only [xRm]; omega), (by dsimp only [xRm]; omega)⟩ ⟨(Nat.le_of_ble_eq_true rfl), (Nat.le_of_ble_eq_true rfl)⟩ dX4_factor_6 rfl (fun r12 w13 h11 => ?_)
  obtain ⟨hW14, zb15⟩ := h11
  refine x_ws hW14 ?_
  refine x_if_eq C (tgt := 18) dX4_factor_9 (by decide) rfl (fun c16 => ?_) (fun c16 => ?_)
  · skip
    refine x_iload_n C dX4_factor_18 rfl 0 rfl rfl ?_
    refine x_bipush C (v := 91) dX4_factor_19 (by decide) rfl ?_
    refine x_icmp_ne C (tgt := 72) dX4_factor_21 (by decide) rfl (fun c17 => ?_) (fun c17 => ?_)
    · skip
      refine x_ldcS C C.2.2.2.2.2.2.2.2.2.2.2.2.2 dX4_factor_72 rfl ?_
      refine x_iload_n C dX4_factor_74 rfl 0 rfl rfl ?_
      refine x_si C (As := [.ref (sK E 1), .int r8]) (rest := []) (c_placeIn E l a ws hW r8 1 (by decide)) mf_X4_placeIn w_526 rfl rfl (Nat.le_of_ble_eq_true rfl) ⟨(by dsimp only [xRm]; omega), (by dsimp only [xRm]; omega)⟩ ⟨(Nat.le_of_ble_eq_true rfl), (Nat.le_of_ble_eq_true rfl)⟩ dX4_factor_75 rfl (fun r18 w19 h20 => ?_)
      refine x_ws h20 ?_
      refine x_istore C (lv' := [(4, .int r18), (3, .int r8), (0, .ref (a 1)), (1, .ref (a 79)), (2, .int (nI o))]) dX4_factor_78 (by decide) rfl rfl ?_
      refine x_iload C dX4_factor_80 0 rfl rfl ?_
      refine x_if_ge C (tgt := 91) dX4_factor_82 (by decide) rfl (fun c21 => ?_) (fun c21 => ?_)
      · skip
        obtain ⟨j22, hj23, ej24⟩ := nI_of (Int32.not_lt.mpr c21)
        subst ej24
        refine x_aload_n C dX4_factor_91 rfl 2 rfl rfl ?_
        refine x_dup C dX4_factor_92 rfl rfl ?_
        refine x_get C (ci := 7) (k := 3) 1 k1 rfl in_X8 (by decide) w_41 rfl dX4_factor_93 rfl ?_
        refine x_iconst C (v := 1) dX4_factor_96 (by decide) rfl ?_
        refine x_iadd C (v := (v5 + (1 : Int32))) dX4_factor_97 rfl rfl ?_
        refine x_any (fun v25 => ?_)
        obtain ⟨w26, hw27⟩ : ∃ w : va_W, w = List.set ws 1 (ob (a 1) 7 [.ref (a 2), .int (nI n2), .int v4, .int v25, .int v6]) := ⟨_, rfl⟩
        refine x_put C (ci := 7) (k := 3) (ty := .int) 1 k1 rfl in_X8 tyX8 tyX8_ok nmX8 (by decide) w_41 rfl rfl rfl rfl (Nat.le_of_ble_eq_true rfl) hw27.symm dX4_factor_98 rfl ?_
        have hW28 : WX (okX E a) w26 := by rw [hw27]; exact hW.set (k := 1) rfl ⟨n2, v4, v25, v6, by omega, rfl⟩
        have k29 : w26[1]? = some (ob (a 1) 7 [.ref (a 2), .int (nI n2), .int v4, .int v25, .int v6]) := by rw [hw27]; exact set_eq k1
        have kp30 := keeps_set kp0 hw27 (by first | exact rfl | decide | omega | (dsimp only; omega))
        refine x_aload_n C dX4_factor_101 rfl 3 rfl rfl ?_
        refine x_bipush C (v := 36) dX4_factor_102 (by decide) rfl ?_
        refine x_iload C dX4_factor_104 0 rfl rfl ?_
        obtain ⟨_, k31, v32, n33, n35, bn34, bn36, rfl⟩ := hW28 79 _ rfl
        refine x_vv C (As := [.int 36, .int (nI j22)]) (rest := []) (c_emit E l a w26 hW28 (36 : Int32) ((nI j22))) mf_X3_emit w_631 79 k31 rfl rfl rfl (Nat.le_of_ble_eq_true rfl) ⟨(by dsimp only [xRm]; omega), (by dsimp only [xRm]; omega)⟩ ⟨(Nat.le_of_ble_eq_true rfl), (Nat.le_of_ble_eq_true rfl)⟩ dX4_factor_106 rfl (fun w39 h37 => ?_)
        obtain ⟨hW40, kq41⟩ := h37
        have k42 : w39[1]? = some (ob (a 1) 7 [.ref (a 2), .int (nI n2), .int v4, .int v25, .int v6]) := keeps_at kq41 k29 (by first | decide | omega | (dsimp only; omega))
        have kp43 := keeps_tr kp30 kq41 (fun q hq => by first | omega | (dsimp only at *; omega))
        refine x_iconst C (v := 1) dX4_factor_109 (by decide) rfl ?_
        exact x_zret C hr hlk rfl dX4_factor_110 ⟨hW40, kp43, (Or.inr rfl)⟩
      · skip
        refine x_aload_n C dX4_factor_85 rfl 2 rfl rfl ?_
        refine x_iconst C (v := 1) dX4_factor_86 (by decide) rfl ?_
        refine x_vi C (As := [.int 1]) (rest := []) (c_fails E l a ws hW (1 : Int32)) mf_X8_fails w_615 1 k1 rfl rfl rfl (Nat.le_of_ble_eq_true rfl) ⟨(by dsimp only [xRm]; omega), (by dsimp only [xRm]; omega)⟩ ⟨(Nat.le_of_ble_eq_true rfl), (Nat.le_of_ble_eq_true rfl)⟩ dX4_factor_87 rfl (fun r45 w46 h44 => ?_)
        obtain ⟨hW47, kq48, zb49⟩ := h44
        have kp50 := keeps_tr kp0 kq48 (fun q hq => by first | omega | (dsimp only at *; omega))
        exact x_zret C hr hlk (zb_nar zb49) dX4_factor_90 ⟨hW47, kp50, zb49⟩
    · skip
      refine x_iload_n C dX4_factor_24 rfl 3 rfl rfl ?_
      refine x_bipush C (v := 6) dX4_factor_25 (by decide) rfl ?_
      refine x_icmp_lt C (tgt := 36) dX4_factor_27 (by decide) rfl (fun c51 => ?_) (fun c51 => ?_)
      · skip
        have nf52 := nI_lt' (a := o) (b := 6) c51 (by omega) (by omega)
        obtain ⟨kk, hkk⟩ : ∃ kk, kk + 1 = n := ⟨n - 1, by omega⟩
        refine x_aload_n C dX4_factor_36 rfl 1 rfl rfl ?_
        refine x_dup C dX4_factor_37 rfl rfl ?_
        refine x_get C (ci := 7) (k := 3) 1 k1 rfl in_X8 (by decide) w_41 rfl dX4_factor_38 rfl ?_
        refine x_iconst C (v := 1) dX4_factor_41 (by decide) rfl ?_
        refine x_iadd C (v := (v5 + (1 : Int32))) dX4_factor_42 rfl rfl ?_
        refine x_any (fun v53 => ?_)
        obtain ⟨w54, hw55⟩ : ∃ w : va_W, w = List.set ws 1 (ob (a 1) 7 [.ref (a 2), .int (nI n2), .int v4, .int v53, .int v6]) := ⟨_, rfl⟩
        refine x_put C (ci := 7) (k := 3) (ty := .int) 1 k1 rfl in_X8 tyX8 tyX8_ok nmX8 (by decide) w_41 rfl rfl rfl rfl (Nat.le_of_ble_eq_true rfl) hw55.symm dX4_factor_43 rfl ?_
        have hW56 : WX (okX E a) w54 := by rw [hw55]; exact hW.set (k := 1) rfl ⟨n2, v4, v53, v6, by omega, rfl⟩
        have k57 : w54[1]? = some (ob (a 1) 7 [.ref (a 2), .int (nI n2), .int v4, .int v53, .int v6]) := by rw [hw55]; exact set_eq k1
        have kp58 := keeps_set kp0 hw55 (by first | exact rfl | decide | omega | (dsimp only; omega))
        refine x_aload_n C dX4_factor_46 rfl 1 rfl rfl ?_
        refine x_aload_n C dX4_factor_47 rfl 2 rfl rfl ?_
        refine x_iload_n C dX4_factor_48 rfl 3 rfl rfl ?_
        refine x_iconst C (v := 1) dX4_factor_49 (by decide) rfl ?_
        refine x_iadd C (v := (nI (o + 1))) dX4_factor_50 (nI_add o 1) rfl ?_
        refine x_si C (As := [.ref (a 1), .ref (a 79), .int (nI (o + 1))]) (rest := []) ((hs kk hkk) w54 hW56 (o + 1) (by omega) (by omega)) mf_X4_sum w_619 rfl rfl (Nat.le_of_ble_eq_true rfl) ⟨(by dsimp only [xRm]; omega), (by dsimp only [xRm]; omega)⟩ ⟨(Nat.le_of_ble_eq_true rfl), (Nat.le_of_ble_eq_true rfl)⟩ dX4_factor_51 rfl (fun r60 w61 h59 => ?_)
        obtain ⟨hW62, kq63, zb64⟩ := h59
        have kp65 := keeps_tr kp58 kq63 (fun q hq => by first | omega | (dsimp only at *; omega))
        refine x_if_eq C (tgt := 70) dX4_factor_54 (by decide) rfl (fun c66 => ?_) (fun c66 => ?_)
        · skip
          refine x_iconst C (v := 0) dX4_factor_70 (by decide) rfl ?_
          exact x_zret C hr hlk rfl dX4_factor_71 ⟨hW62, kp65, (Or.inl rfl)⟩
        · skip
          refine x_aload_n C dX4_factor_57 rfl 1 rfl rfl ?_
          refine x_bipush C (v := 93) dX4_factor_58 (by decide) rfl ?_
          obtain ⟨_, k67, n68, v70, v71, v72, bn69, rfl⟩ := hW62 1 _ rfl
          refine x_vi C (As := [.int 93]) (rest := []) (c_takes E l a w61 hW62 (93 : Int32)) mf_X8_takes w_635 1 k67 rfl rfl rfl (Nat.le_of_ble_eq_true rfl) ⟨(by dsimp only [xRm]; omega), (by dsimp only [xRm]; omega)⟩ ⟨(Nat.le_of_ble_eq_true rfl), (Nat.le_of_ble_eq_true rfl)⟩ dX4_factor_60 rfl (fun r74 w75 h73 => ?_)
          obtain ⟨hW76, kq77, zb78⟩ := h73
          have kp79 := keeps_tr kp65 kq77 (fun q hq => by first | omega | (dsimp only at *; omega))
          refine x_if_eq C (tgt := 70) dX4_factor_63 (by decide) rfl (fun c80 => ?_) (fun c80 => ?_)
          · skip
            refine x_iconst C (v := 0) dX4_factor_70 (by decide) rfl ?_
            exact x_zret C hr hlk rfl dX4_factor_71 ⟨hW76, kp79, (Or.inl rfl)⟩
          · skip
            refine x_iconst C (v := 1) dX4_factor_66 (by decide) rfl ?_
            refine x_goto C (tgt := 71) dX4_factor_67 (by decide) ?_
            exact x_zret C hr hlk rfl dX4_factor_71 ⟨hW76, kp79, (Or.inr rfl)⟩
      · skip
        have nf81 := nI_nlt' (a := o) (b := 6) c51 (by omega) (by omega)
        refine x_aload_n C dX4_factor_30 rfl 1 rfl rfl ?_
        refine x_iconst C (v := 5) dX4_factor_31 (by decide) rfl ?_
        refine x_vi C (As := [.int 5]) (rest := []) (c_fails E l a ws hW (5 : Int32)) mf_X8_fails w_615 1 k1 rfl rfl rfl (Nat.le_of_ble_eq_true rfl) ⟨(by dsimp only [xRm]; omega), (by dsimp only [xRm]; omega)⟩ ⟨(Nat.le_of_ble_eq_true rfl), (Nat.le_of_ble_eq_true rfl)⟩ dX4_factor_32 rfl (fun r83 w84 h82 => ?_)
        obtain ⟨hW85, kq86, zb87⟩ := h82
        have kp88 := keeps_tr kp0 kq86 (fun q hq => by first | omega | (dsimp only at *; omega))
        exact x_zret C hr hlk (zb_nar zb87) dX4_factor_35 ⟨hW85, kp88, zb87⟩
  · skip
    refine x_aload_n C dX4_factor_12 rfl 1 rfl rfl ?_
    refine x_aload_n C dX4_factor_13 rfl 2 rfl rfl ?_
    refine x_si C (As := [.ref (a 1), .ref (a 79)]) (rest := []) (c_number E l a ws hW) mf_X4_number w_628 rfl rfl (Nat.le_of_ble_eq_true rfl) ⟨(by dsimp only [xRm]; omega), (by dsimp only [xRm]; omega)⟩ ⟨(Nat.le_of_ble_eq_true rfl), (Nat.le_of_ble_eq_true rfl)⟩ dX4_factor_14 rfl (fun r90 w91 h89 => ?_)
    obtain ⟨hW92, kq93, zb94⟩ := h89
    have kp95 := keeps_tr kp0 kq93 (fun q hq => by first | omega | (dsimp only at *; omega))
    exact x_zret C hr hlk (zb_nar zb94) dX4_factor_17 ⟨hW92, kp95, zb94⟩
theorem dX4_sum_0 : decode cX4_sum 0 = .ok (.iconst (-1), 1) := by decide +kernel
theorem dX4_sum_1 : decode cX4_sum 1 = .ok (.istore_n 3, 1) := by decide +kernel
theorem dX4_sum_2 : decode cX4_sum 2 = .ok (.iconst (-1), 1) := by decide +kernel
theorem dX4_sum_3 : decode cX4_sum 3 = .ok (.istore 4, 2) := by decide +kernel
theorem dX4_sum_5 : decode cX4_sum 5 = .ok (.iconst 0, 1) := by decide +kernel
theorem dX4_sum_6 : decode cX4_sum 6 = .ok (.istore 5, 2) := by decide +kernel
theorem dX4_sum_8 : decode cX4_sum 8 = .ok (.iload 5, 2) := by decide +kernel
theorem dX4_sum_10 : decode cX4_sum 10 = .ok (.sipush 240, 3) := by decide +kernel
theorem dX4_sum_13 : decode cX4_sum 13 = .ok (.if_icmp .ge 115, 3) := by decide +kernel
theorem dX4_sum_16 : decode cX4_sum 16 = .ok (.aload_n 0, 1) := by decide +kernel
theorem dX4_sum_17 : decode cX4_sum 17 = .ok (.aload_n 1, 1) := by decide +kernel
theorem dX4_sum_18 : decode cX4_sum 18 = .ok (.iload_n 2, 1) := by decide +kernel
theorem dX4_sum_19 : decode cX4_sum 19 = .ok (.invokestatic 79, 3) := by decide +kernel
theorem dX4_sum_22 : decode cX4_sum 22 = .ok (.ifCond .ne 5, 3) := by decide +kernel
theorem dX4_sum_25 : decode cX4_sum 25 = .ok (.iconst 0, 1) := by decide +kernel
theorem dX4_sum_26 : decode cX4_sum 26 = .ok (.ireturn, 1) := by decide +kernel
theorem dX4_sum_27 : decode cX4_sum 27 = .ok (.iload 4, 2) := by decide +kernel
theorem dX4_sum_29 : decode cX4_sum 29 = .ok (.bipush 42, 2) := by decide +kernel
theorem dX4_sum_31 : decode cX4_sum 31 = .ok (.if_icmp .eq 17, 3) := by decide +kernel
theorem dX4_sum_34 : decode cX4_sum 34 = .ok (.iload 4, 2) := by decide +kernel
theorem dX4_sum_36 : decode cX4_sum 36 = .ok (.bipush 47, 2) := by decide +kernel
theorem dX4_sum_38 : decode cX4_sum 38 = .ok (.if_icmp .eq 10, 3) := by decide +kernel
theorem dX4_sum_41 : decode cX4_sum 41 = .ok (.iload 4, 2) := by decide +kernel
theorem dX4_sum_43 : decode cX4_sum 43 = .ok (.bipush 37, 2) := by decide +kernel
theorem dX4_sum_45 : decode cX4_sum 45 = .ok (.if_icmp .ne 10, 3) := by decide +kernel
theorem dX4_sum_48 : decode cX4_sum 48 = .ok (.aload_n 1, 1) := by decide +kernel
theorem dX4_sum_49 : decode cX4_sum 49 = .ok (.iload 4, 2) := by decide +kernel
theorem dX4_sum_51 : decode cX4_sum 51 = .ok (.iconst 0, 1) := by decide +kernel
theorem dX4_sum_52 : decode cX4_sum 52 = .ok (.invokevirtual 72, 3) := by decide +kernel
theorem dX4_sum_55 : decode cX4_sum 55 = .ok (.aload_n 0, 1) := by decide +kernel
theorem dX4_sum_56 : decode cX4_sum 56 = .ok (.invokevirtual 24, 3) := by decide +kernel
theorem dX4_sum_59 : decode cX4_sum 59 = .ok (.istore 4, 2) := by decide +kernel
theorem dX4_sum_61 : decode cX4_sum 61 = .ok (.iload 4, 2) := by decide +kernel
theorem dX4_sum_63 : decode cX4_sum 63 = .ok (.bipush 42, 2) := by decide +kernel
theorem dX4_sum_65 : decode cX4_sum 65 = .ok (.if_icmp .eq 47, 3) := by decide +kernel
theorem dX4_sum_68 : decode cX4_sum 68 = .ok (.iload 4, 2) := by decide +kernel
theorem dX4_sum_70 : decode cX4_sum 70 = .ok (.bipush 47, 2) := by decide +kernel
theorem dX4_sum_72 : decode cX4_sum 72 = .ok (.if_icmp .eq 40, 3) := by decide +kernel
theorem dX4_sum_75 : decode cX4_sum 75 = .ok (.iload 4, 2) := by decide +kernel
theorem dX4_sum_77 : decode cX4_sum 77 = .ok (.bipush 37, 2) := by decide +kernel
theorem dX4_sum_79 : decode cX4_sum 79 = .ok (.if_icmp .eq 33, 3) := by decide +kernel
theorem dX4_sum_82 : decode cX4_sum 82 = .ok (.iload_n 3, 1) := by decide +kernel
theorem dX4_sum_83 : decode cX4_sum 83 = .ok (.iconst (-1), 1) := by decide +kernel
theorem dX4_sum_84 : decode cX4_sum 84 = .ok (.if_icmp .eq 9, 3) := by decide +kernel
theorem dX4_sum_87 : decode cX4_sum 87 = .ok (.aload_n 1, 1) := by decide +kernel
theorem dX4_sum_88 : decode cX4_sum 88 = .ok (.iload_n 3, 1) := by decide +kernel
theorem dX4_sum_89 : decode cX4_sum 89 = .ok (.iconst 0, 1) := by decide +kernel
theorem dX4_sum_90 : decode cX4_sum 90 = .ok (.invokevirtual 72, 3) := by decide +kernel
theorem dX4_sum_93 : decode cX4_sum 93 = .ok (.iload 4, 2) := by decide +kernel
theorem dX4_sum_95 : decode cX4_sum 95 = .ok (.bipush 43, 2) := by decide +kernel
theorem dX4_sum_97 : decode cX4_sum 97 = .ok (.if_icmp .eq 12, 3) := by decide +kernel
theorem dX4_sum_100 : decode cX4_sum 100 = .ok (.iload 4, 2) := by decide +kernel
theorem dX4_sum_102 : decode cX4_sum 102 = .ok (.bipush 45, 2) := by decide +kernel
theorem dX4_sum_104 : decode cX4_sum 104 = .ok (.if_icmp .eq 5, 3) := by decide +kernel
theorem dX4_sum_107 : decode cX4_sum 107 = .ok (.iconst 1, 1) := by decide +kernel
theorem dX4_sum_108 : decode cX4_sum 108 = .ok (.ireturn, 1) := by decide +kernel
theorem dX4_sum_109 : decode cX4_sum 109 = .ok (.iload 4, 2) := by decide +kernel
theorem dX4_sum_111 : decode cX4_sum 111 = .ok (.istore_n 3, 1) := by decide +kernel
theorem dX4_sum_112 : decode cX4_sum 112 = .ok (.aload_n 0, 1) := by decide +kernel
theorem dX4_sum_113 : decode cX4_sum 113 = .ok (.dup, 1) := by decide +kernel
theorem dX4_sum_114 : decode cX4_sum 114 = .ok (.getfield 43, 3) := by decide +kernel
theorem dX4_sum_117 : decode cX4_sum 117 = .ok (.iconst 1, 1) := by decide +kernel
theorem dX4_sum_118 : decode cX4_sum 118 = .ok (.iadd, 1) := by decide +kernel
theorem dX4_sum_119 : decode cX4_sum 119 = .ok (.putfield 43, 3) := by decide +kernel
theorem dX4_sum_122 : decode cX4_sum 122 = .ok (.iinc 5 1, 3) := by decide +kernel
theorem dX4_sum_125 : decode cX4_sum 125 = .ok (.goto (-117), 3) := by decide +kernel
theorem dX4_sum_128 : decode cX4_sum 128 = .ok (.aload_n 0, 1) := by decide +kernel
theorem dX4_sum_129 : decode cX4_sum 129 = .ok (.iconst 1, 1) := by decide +kernel
theorem dX4_sum_130 : decode cX4_sum 130 = .ok (.invokevirtual 34, 3) := by decide +kernel
theorem dX4_sum_133 : decode cX4_sum 133 = .ok (.ireturn, 1) := by decide +kernel
set_option maxRecDepth 20000 in
set_option maxHeartbeats 4000000 in
theorem c_sum (E : xE) (l : Launch) (a : Nat → Nat) (ws : va_W) (hW : WX (okX E a) ws) (o : Nat) (ho : o ≤ 6) (n : Nat) (hn : 6 - o ≤ n) (hfc : FacC E l a n) : xI E l yX4_sum cX4_sum 6 (some .boolean) (9 + 3 * n) [.ref (a 1), .ref (a 79), .int (nI o)] ws (fun r w => WX (okX E a) w ∧ keeps ws w (fun q => (q = 1 ∨ q = 2) ∨ (79 ≤ q ∧ q < 87)) ∧ zb r) := by
  refine xI_start (lv := [(0, .ref (a 1)), (1, .ref (a 79)), (2, .int (nI o))]) RX4 (by decide) rfl (Nat.le_of_ble_eq_true rfl) rfl (fun p e s m below meth c A C hr hlk => ?_)
  have kp0 : keeps ws ws (fun q => (q = 1 ∨ q = 2) ∨ (79 ≤ q ∧ q < 87)) := keeps_rf
  refine x_iconst C (v := (-1)) dX4_sum_0 (by decide) rfl ?_
  refine x_istore_n C (lv' := [(3, .int (-1)), (0, .ref (a 1)), (1, .ref (a 79)), (2, .int (nI o))]) dX4_sum_1 rfl (by decide) rfl rfl ?_
  refine x_iconst C (v := (-1)) dX4_sum_2 (by decide) rfl ?_
  refine x_istore C (lv' := [(4, .int (-1)), (3, .int (-1)), (0, .ref (a 1)), (1, .ref (a 79)), (2, .int (nI o))]) dX4_sum_3 (by decide) rfl rfl ?_
  refine x_iconst C (v := 0) dX4_sum_5 (by decide) rfl ?_
  refine x_istore C (lv' := [(5, .int 0), (4, .int (-1)), (3, .int (-1)), (0, .ref (a 1)), (1, .ref (a 79)), (2, .int (nI o))]) dX4_sum_6 (by decide) rfl rfl ?_
  have loop8 : ∀ (fu8 : Nat) (z8_3 : Int32) (z8_4 : Int32) (k : Nat) (wl8 : va_W), WX (okX E a) wl8 → 240 - k < fu8 → k ≤ 240 → keeps ws wl8 (fun q => (q = 1 ∨ q = 2) ∨ (79 ≤ q ∧ q < 87)) → X E p l e (xRm ((9 + 3 * n)) 0 0) s m ([.ref (a 1), .ref (a 79), .int (nI o)] : List Value).toArray below meth c A 6 0 0 (MQ below (va_Qi (fun r w => WX (okX E a) w ∧ keeps ws w (fun q => (q = 1 ∨ q = 2) ∨ (79 ≤ q ∧ q < 87)) ∧ zb r) (xB E A) A) ([.ref (a 1), .ref (a 79), .int (nI o)] : List Value).toArray s 0 0 A) wl8 8 [(0, .ref (a 1)), (1, .ref (a 79)), (2, .int (nI o)), (3, .int z8_3), (4, .int z8_4), (5, .int (nI k))] [] := by
    intro fu8
    induction fu8 with
    | zero => intro z8_3 z8_4 k wl8 _ q; omega
    | succ fu8 ih8 =>
      intro z8_3 z8_4 k wl8 hWl8 me8 iv8_0 kq8
      refine x_iload C dX4_sum_8 5 rfl rfl ?_
      refine x_sipush C (v := 240) dX4_sum_10 (by decide) rfl ?_
      refine x_icmp_ge C (tgt := 128) dX4_sum_13 (by decide) rfl (fun c1 => ?_) (fun c1 => ?_)
      · skip
        have nf2 := nI_le' (a := 240) (b := k) c1 (by omega) (by omega)
        refine x_aload_n C dX4_sum_128 rfl 0 rfl rfl ?_
        refine x_iconst C (v := 1) dX4_sum_129 (by decide) rfl ?_
        obtain ⟨_, k3, n4, v6, v7, v8, bn5, rfl⟩ := hWl8 1 _ rfl
        refine x_vi C (As := [.int 1]) (rest := []) (c_fails E l a wl8 hWl8 (1 : Int32)) mf_X8_fails w_615 1 k3 rfl rfl rfl (Nat.le_of_ble_eq_true rfl) ⟨(by dsimp only [xRm]; omega), (by dsimp only [xRm]; omega)⟩ ⟨(Nat.le_of_ble_eq_true rfl), (Nat.le_of_ble_eq_true rfl)⟩ dX4_sum_130 rfl (fun r10 w11 h9 => ?_)
        obtain ⟨hW12, kq13, zb14⟩ := h9
        have kp15 := keeps_tr kq8 kq13 (fun q hq => by first | omega | (dsimp only at *; omega))
        exact x_zret C hr hlk (zb_nar zb14) dX4_sum_133 ⟨hW12, kp15, zb14⟩
      · skip
        have nf16 := nI_nle' (a := 240) (b := k) c1 (by omega) (by omega)
        refine x_aload_n C dX4_sum_16 rfl 0 rfl rfl ?_
        refine x_aload_n C dX4_sum_17 rfl 1 rfl rfl ?_
        refine x_iload_n C dX4_sum_18 rfl 2 rfl rfl ?_
        refine x_si C (As := [.ref (a 1), .ref (a 79), .int (nI o)]) (rest := []) (hfc wl8 hWl8 o (by omega) (by omega)) mf_X4_factor w_622 rfl rfl (Nat.le_of_ble_eq_true rfl) ⟨(by dsimp only [xRm]; omega), (by dsimp only [xRm]; omega)⟩ ⟨(Nat.le_of_ble_eq_true rfl), (Nat.le_of_ble_eq_true rfl)⟩ dX4_sum_19 rfl (fun r18 w19 h17 => ?_)
        obtain ⟨hW20, kq21, zb22⟩ := h17
        have kp23 := keeps_tr kq8 kq21 (fun q hq => by first | omega | (dsimp only at *; omega))
        refine x_if_ne C (tgt := 27) dX4_sum_22 (by decide) rfl (fun c24 => ?_) (fun c24 => ?_)
        · skip
          refine x_iload C dX4_sum_27 4 rfl rfl ?_
          refine x_bipush C (v := 42) dX4_sum_29 (by decide) rfl ?_
          refine x_icmp_eq C (tgt := 48) dX4_sum_31 (by decide) rfl (fun c25 => ?_) (fun c25 => ?_)
          · skip
            refine x_aload_n C dX4_sum_48 rfl 1 rfl rfl ?_
            refine x_iload C dX4_sum_49 4 rfl rfl ?_
            refine x_iconst C (v := 0) dX4_sum_51 (by decide) rfl ?_
            obtain ⟨_, k26, v27, n28, n30, bn29, bn31, rfl⟩ := hW20 79 _ rfl
            refine x_vv C (As := [.int z8_4, .int 0]) (rest := []) (c_emit E l a w19 hW20 z8_4 (0 : Int32)) mf_X3_emit w_631 79 k26 rfl rfl rfl (Nat.le_of_ble_eq_true rfl) ⟨(by dsimp only [xRm]; omega), (by dsimp only [xRm]; omega)⟩ ⟨(Nat.le_of_ble_eq_true rfl), (Nat.le_of_ble_eq_true rfl)⟩ dX4_sum_52 rfl (fun w34 h32 => ?_)
            obtain ⟨hW35, kq36⟩ := h32
            have kp37 := keeps_tr kp23 kq36 (fun q hq => by first | omega | (dsimp only at *; omega))
            refine x_aload_n C dX4_sum_55 rfl 0 rfl rfl ?_
            obtain ⟨_, k38, n39, v41, v42, v43, bn40, rfl⟩ := hW35 1 _ rfl
            refine x_vi C (As := []) (rest := []) (c_sign E l a w34 hW35) mf_X8_sign w_522 1 k38 rfl rfl rfl (Nat.le_of_ble_eq_true rfl) ⟨(by dsimp only [xRm]; omega), (by dsimp only [xRm]; omega)⟩ ⟨(Nat.le_of_ble_eq_true rfl), (Nat.le_of_ble_eq_true rfl)⟩ dX4_sum_56 rfl (fun r45 w46 h44 => ?_)
            have hW47 := h44
            refine x_ws hW47 ?_
            refine x_istore C (lv' := [(4, .int r45), (0, .ref (a 1)), (1, .ref (a 79)), (2, .int (nI o)), (3, .int z8_3), (5, .int (nI k))]) dX4_sum_59 (by decide) rfl rfl ?_
            refine x_iload C dX4_sum_61 0 rfl rfl ?_
            refine x_bipush C (v := 42) dX4_sum_63 (by decide) rfl ?_
            refine x_icmp_eq C (tgt := 112) dX4_sum_65 (by decide) rfl (fun c48 => ?_) (fun c48 => ?_)
            · skip
              refine x_aload_n C dX4_sum_112 rfl 1 rfl rfl ?_
              refine x_dup C dX4_sum_113 rfl rfl ?_
              refine x_get C (ci := 7) (k := 3) 1 k38 rfl in_X8 (by decide) w_41 rfl dX4_sum_114 rfl ?_
              refine x_iconst C (v := 1) dX4_sum_117 (by decide) rfl ?_
              refine x_iadd C (v := (v42 + (1 : Int32))) dX4_sum_118 rfl rfl ?_
              refine x_any (fun v49 => ?_)
              obtain ⟨w50, hw51⟩ : ∃ w : va_W, w = List.set w34 1 (ob (a 1) 7 [.ref (a 2), .int (nI n39), .int v41, .int v49, .int v43]) := ⟨_, rfl⟩
              refine x_put C (ci := 7) (k := 3) (ty := .int) 1 k38 rfl in_X8 tyX8 tyX8_ok nmX8 (by decide) w_41 rfl rfl rfl rfl (Nat.le_of_ble_eq_true rfl) hw51.symm dX4_sum_119 rfl ?_
              have hW52 : WX (okX E a) w50 := by rw [hw51]; exact hW35.set (k := 1) rfl ⟨n39, v41, v49, v43, by omega, rfl⟩
              have k53 : w50[1]? = some (ob (a 1) 7 [.ref (a 2), .int (nI n39), .int v41, .int v49, .int v43]) := by rw [hw51]; exact set_eq k38
              have kp54 := keeps_set kp37 hw51 (by first | exact rfl | decide | omega | (dsimp only; omega))
              refine x_iinc C (v := (nI (k + 1))) (lv' := [(5, .int (nI (k + 1))), (4, .int r45), (0, .ref (a 1)), (1, .ref (a 79)), (2, .int (nI o)), (3, .int z8_3)]) dX4_sum_122 5 rfl (nI_add k 1) (by decide) rfl rfl ?_
              refine x_goto C (tgt := 8) dX4_sum_125 (by decide) ?_
              refine x_lv (lv1 := [(0, .ref (a 1)), (1, .ref (a 79)), (2, .int (nI o)), (3, .int z8_3), (4, .int r45), (5, .int (nI (k + 1)))]) [2, 3, 4, 5, 1, 0] rfl ?_
              exact ih8 z8_3 r45 (k + 1) w50 hW52 (by omega) (by omega) kp54
            · skip
              refine x_iload C dX4_sum_68 0 rfl rfl ?_
              refine x_bipush C (v := 47) dX4_sum_70 (by decide) rfl ?_
              refine x_icmp_eq C (tgt := 112) dX4_sum_72 (by decide) rfl (fun c55 => ?_) (fun c55 => ?_)
              · skip
                refine x_aload_n C dX4_sum_112 rfl 1 rfl rfl ?_
                refine x_dup C dX4_sum_113 rfl rfl ?_
                refine x_get C (ci := 7) (k := 3) 1 k38 rfl in_X8 (by decide) w_41 rfl dX4_sum_114 rfl ?_
                refine x_iconst C (v := 1) dX4_sum_117 (by decide) rfl ?_
                refine x_iadd C (v := (v42 + (1 : Int32))) dX4_sum_118 rfl rfl ?_
                refine x_any (fun v56 => ?_)
                obtain ⟨w57, hw58⟩ : ∃ w : va_W, w = List.set w34 1 (ob (a 1) 7 [.ref (a 2), .int (nI n39), .int v41, .int v56, .int v43]) := ⟨_, rfl⟩
                refine x_put C (ci := 7) (k := 3) (ty := .int) 1 k38 rfl in_X8 tyX8 tyX8_ok nmX8 (by decide) w_41 rfl rfl rfl rfl (Nat.le_of_ble_eq_true rfl) hw58.symm dX4_sum_119 rfl ?_
                have hW59 : WX (okX E a) w57 := by rw [hw58]; exact hW35.set (k := 1) rfl ⟨n39, v41, v56, v43, by omega, rfl⟩
                have k60 : w57[1]? = some (ob (a 1) 7 [.ref (a 2), .int (nI n39), .int v41, .int v56, .int v43]) := by rw [hw58]; exact set_eq k38
                have kp61 := keeps_set kp37 hw58 (by first | exact rfl | decide | omega | (dsimp only; omega))
                refine x_iinc C (v := (nI (k + 1))) (lv' := [(5, .int (nI (k + 1))), (4, .int r45), (0, .ref (a 1)), (1, .ref (a 79)), (2, .int (nI o)), (3, .int z8_3)]) dX4_sum_122 5 rfl (nI_add k 1) (by decide) rfl rfl ?_
                refine x_goto C (tgt := 8) dX4_sum_125 (by decide) ?_
                refine x_lv (lv1 := [(0, .ref (a 1)), (1, .ref (a 79)), (2, .int (nI o)), (3, .int z8_3), (4, .int r45), (5, .int (nI (k + 1)))]) [2, 3, 4, 5, 1, 0] rfl ?_
                exact ih8 z8_3 r45 (k + 1) w57 hW59 (by omega) (by omega) kp61
              · skip
                refine x_iload C dX4_sum_75 0 rfl rfl ?_
                refine x_bipush C (v := 37) dX4_sum_77 (by decide) rfl ?_
                refine x_icmp_eq C (tgt := 112) dX4_sum_79 (by decide) rfl (fun c62 => ?_) (fun c62 => ?_)
                · skip
                  refine x_aload_n C dX4_sum_112 rfl 1 rfl rfl ?_
                  refine x_dup C dX4_sum_113 rfl rfl ?_
                  refine x_get C (ci := 7) (k := 3) 1 k38 rfl in_X8 (by decide) w_41 rfl dX4_sum_114 rfl ?_
                  refine x_iconst C (v := 1) dX4_sum_117 (by decide) rfl ?_
                  refine x_iadd C (v := (v42 + (1 : Int32))) dX4_sum_118 rfl rfl ?_
                  refine x_any (fun v63 => ?_)
                  obtain ⟨w64, hw65⟩ : ∃ w : va_W, w = List.set w34 1 (ob (a 1) 7 [.ref (a 2), .int (nI n39), .int v41, .int v63, .int v43]) := ⟨_, rfl⟩
                  refine x_put C (ci := 7) (k := 3) (ty := .int) 1 k38 rfl in_X8 tyX8 tyX8_ok nmX8 (by decide) w_41 rfl rfl rfl rfl (Nat.le_of_ble_eq_true rfl) hw65.symm dX4_sum_119 rfl ?_
                  have hW66 : WX (okX E a) w64 := by rw [hw65]; exact hW35.set (k := 1) rfl ⟨n39, v41, v63, v43, by omega, rfl⟩
                  have k67 : w64[1]? = some (ob (a 1) 7 [.ref (a 2), .int (nI n39), .int v41, .int v63, .int v43]) := by rw [hw65]; exact set_eq k38
                  have kp68 := keeps_set kp37 hw65 (by first | exact rfl | decide | omega | (dsimp only; omega))
                  refine x_iinc C (v := (nI (k + 1))) (lv' := [(5, .int (nI (k + 1))), (4, .int r45), (0, .ref (a 1)), (1, .ref (a 79)), (2, .int (nI o)), (3, .int z8_3)]) dX4_sum_122 5 rfl (nI_add k 1) (by decide) rfl rfl ?_
                  refine x_goto C (tgt := 8) dX4_sum_125 (by decide) ?_
                  refine x_lv (lv1 := [(0, .ref (a 1)), (1, .ref (a 79)), (2, .int (nI o)), (3, .int z8_3), (4, .int r45), (5, .int (nI (k + 1)))]) [2, 3, 4, 5, 1, 0] rfl ?_
                  exact ih8 z8_3 r45 (k + 1) w64 hW66 (by omega) (by omega) kp68
                · skip
                  refine x_iload_n C dX4_sum_82 rfl 4 rfl rfl ?_
                  refine x_iconst C (v := (-1)) dX4_sum_83 (by decide) rfl ?_
                  refine x_icmp_eq C (tgt := 93) dX4_sum_84 (by decide) rfl (fun c69 => ?_) (fun c69 => ?_)
                  · skip
                    refine x_iload C dX4_sum_93 0 rfl rfl ?_
                    refine x_bipush C (v := 43) dX4_sum_95 (by decide) rfl ?_
                    refine x_icmp_eq C (tgt := 109) dX4_sum_97 (by decide) rfl (fun c70 => ?_) (fun c70 => ?_)
                    · skip
                      refine x_iload C dX4_sum_109 0 rfl rfl ?_
                      refine x_istore_n C (lv' := [(3, .int r45), (4, .int r45), (0, .ref (a 1)), (1, .ref (a 79)), (2, .int (nI o)), (5, .int (nI k))]) dX4_sum_111 rfl (by decide) rfl rfl ?_
                      refine x_aload_n C dX4_sum_112 rfl 2 rfl rfl ?_
                      refine x_dup C dX4_sum_113 rfl rfl ?_
                      refine x_get C (ci := 7) (k := 3) 1 k38 rfl in_X8 (by decide) w_41 rfl dX4_sum_114 rfl ?_
                      refine x_iconst C (v := 1) dX4_sum_117 (by decide) rfl ?_
                      refine x_iadd C (v := (v42 + (1 : Int32))) dX4_sum_118 rfl rfl ?_
                      refine x_any (fun v71 => ?_)
                      obtain ⟨w72, hw73⟩ : ∃ w : va_W, w = List.set w34 1 (ob (a 1) 7 [.ref (a 2), .int (nI n39), .int v41, .int v71, .int v43]) := ⟨_, rfl⟩
                      refine x_put C (ci := 7) (k := 3) (ty := .int) 1 k38 rfl in_X8 tyX8 tyX8_ok nmX8 (by decide) w_41 rfl rfl rfl rfl (Nat.le_of_ble_eq_true rfl) hw73.symm dX4_sum_119 rfl ?_
                      have hW74 : WX (okX E a) w72 := by rw [hw73]; exact hW35.set (k := 1) rfl ⟨n39, v41, v71, v43, by omega, rfl⟩
                      have k75 : w72[1]? = some (ob (a 1) 7 [.ref (a 2), .int (nI n39), .int v41, .int v71, .int v43]) := by rw [hw73]; exact set_eq k38
                      have kp76 := keeps_set kp37 hw73 (by first | exact rfl | decide | omega | (dsimp only; omega))
                      refine x_iinc C (v := (nI (k + 1))) (lv' := [(5, .int (nI (k + 1))), (3, .int r45), (4, .int r45), (0, .ref (a 1)), (1, .ref (a 79)), (2, .int (nI o))]) dX4_sum_122 5 rfl (nI_add k 1) (by decide) rfl rfl ?_
                      refine x_goto C (tgt := 8) dX4_sum_125 (by decide) ?_
                      refine x_lv (lv1 := [(0, .ref (a 1)), (1, .ref (a 79)), (2, .int (nI o)), (3, .int r45), (4, .int r45), (5, .int (nI (k + 1)))]) [3, 4, 5, 1, 2, 0] rfl ?_
                      exact ih8 r45 r45 (k + 1) w72 hW74 (by omega) (by omega) kp76
                    · skip
                      refine x_iload C dX4_sum_100 0 rfl rfl ?_
                      refine x_bipush C (v := 45) dX4_sum_102 (by decide) rfl ?_
                      refine x_icmp_eq C (tgt := 109) dX4_sum_104 (by decide) rfl (fun c77 => ?_) (fun c77 => ?_)
                      · skip
                        refine x_iload C dX4_sum_109 0 rfl rfl ?_
                        refine x_istore_n C (lv' := [(3, .int r45), (4, .int r45), (0, .ref (a 1)), (1, .ref (a 79)), (2, .int (nI o)), (5, .int (nI k))]) dX4_sum_111 rfl (by decide) rfl rfl ?_
                        refine x_aload_n C dX4_sum_112 rfl 2 rfl rfl ?_
                        refine x_dup C dX4_sum_113 rfl rfl ?_
                        refine x_get C (ci := 7) (k := 3) 1 k38 rfl in_X8 (by decide) w_41 rfl dX4_sum_114 rfl ?_
                        refine x_iconst C (v := 1) dX4_sum_117 (by decide) rfl ?_
                        refine x_iadd C (v := (v42 + (1 : Int32))) dX4_sum_118 rfl rfl ?_
                        refine x_any (fun v78 => ?_)
                        obtain ⟨w79, hw80⟩ : ∃ w : va_W, w = List.set w34 1 (ob (a 1) 7 [.ref (a 2), .int (nI n39), .int v41, .int v78, .int v43]) := ⟨_, rfl⟩
                        refine x_put C (ci := 7) (k := 3) (ty := .int) 1 k38 rfl in_X8 tyX8 tyX8_ok nmX8 (by decide) w_41 rfl rfl rfl rfl (Nat.le_of_ble_eq_true rfl) hw80.symm dX4_sum_119 rfl ?_
                        have hW81 : WX (okX E a) w79 := by rw [hw80]; exact hW35.set (k := 1) rfl ⟨n39, v41, v78, v43, by omega, rfl⟩
                        have k82 : w79[1]? = some (ob (a 1) 7 [.ref (a 2), .int (nI n39), .int v41, .int v78, .int v43]) := by rw [hw80]; exact set_eq k38
                        have kp83 := keeps_set kp37 hw80 (by first | exact rfl | decide | omega | (dsimp only; omega))
                        refine x_iinc C (v := (nI (k + 1))) (lv' := [(5, .int (nI (k + 1))), (3, .int r45), (4, .int r45), (0, .ref (a 1)), (1, .ref (a 79)), (2, .int (nI o))]) dX4_sum_122 5 rfl (nI_add k 1) (by decide) rfl rfl ?_
                        refine x_goto C (tgt := 8) dX4_sum_125 (by decide) ?_
                        refine x_lv (lv1 := [(0, .ref (a 1)), (1, .ref (a 79)), (2, .int (nI o)), (3, .int r45), (4, .int r45), (5, .int (nI (k + 1)))]) [3, 4, 5, 1, 2, 0] rfl ?_
                        exact ih8 r45 r45 (k + 1) w79 hW81 (by omega) (by omega) kp83
                      · skip
                        refine x_iconst C (v := 1) dX4_sum_107 (by decide) rfl ?_
                        exact x_zret C hr hlk rfl dX4_sum_108 ⟨hW35, kp37, (Or.inr rfl)⟩
                  · skip
                    refine x_aload_n C dX4_sum_87 rfl 2 rfl rfl ?_
                    refine x_iload_n C dX4_sum_88 rfl 4 rfl rfl ?_
                    refine x_iconst C (v := 0) dX4_sum_89 (by decide) rfl ?_
                    obtain ⟨_, k84, v85, n86, n88, bn87, bn89, rfl⟩ := hW35 79 _ rfl
                    refine x_vv C (As := [.int z8_3, .int 0]) (rest := []) (c_emit E l a w34 hW35 z8_3 (0 : Int32)) mf_X3_emit w_631 79 k84 rfl rfl rfl (Nat.le_of_ble_eq_true rfl) ⟨(by dsimp only [xRm]; omega), (by dsimp only [xRm]; omega)⟩ ⟨(Nat.le_of_ble_eq_true rfl), (Nat.le_of_ble_eq_true rfl)⟩ dX4_sum_90 rfl (fun w92 h90 => ?_)
                    obtain ⟨hW93, kq94⟩ := h90
                    have k95 : w92[1]? = some (ob (a 1) 7 [.ref (a 2), .int (nI n39), .int v41, .int v42, .int v43]) := keeps_at kq94 k38 (by first | decide | omega | (dsimp only; omega))
                    have kp96 := keeps_tr kp37 kq94 (fun q hq => by first | omega | (dsimp only at *; omega))
                    refine x_iload C dX4_sum_93 0 rfl rfl ?_
                    refine x_bipush C (v := 43) dX4_sum_95 (by decide) rfl ?_
                    refine x_icmp_eq C (tgt := 109) dX4_sum_97 (by decide) rfl (fun c97 => ?_) (fun c97 => ?_)
                    · skip
                      refine x_iload C dX4_sum_109 0 rfl rfl ?_
                      refine x_istore_n C (lv' := [(3, .int r45), (4, .int r45), (0, .ref (a 1)), (1, .ref (a 79)), (2, .int (nI o)), (5, .int (nI k))]) dX4_sum_111 rfl (by decide) rfl rfl ?_
                      refine x_aload_n C dX4_sum_112 rfl 2 rfl rfl ?_
                      refine x_dup C dX4_sum_113 rfl rfl ?_
                      refine x_get C (ci := 7) (k := 3) 1 k95 rfl in_X8 (by decide) w_41 rfl dX4_sum_114 rfl ?_
                      refine x_iconst C (v := 1) dX4_sum_117 (by decide) rfl ?_
                      refine x_iadd C (v := (v42 + (1 : Int32))) dX4_sum_118 rfl rfl ?_
                      refine x_any (fun v98 => ?_)
                      obtain ⟨w99, hw100⟩ : ∃ w : va_W, w = List.set w92 1 (ob (a 1) 7 [.ref (a 2), .int (nI n39), .int v41, .int v98, .int v43]) := ⟨_, rfl⟩
                      refine x_put C (ci := 7) (k := 3) (ty := .int) 1 k95 rfl in_X8 tyX8 tyX8_ok nmX8 (by decide) w_41 rfl rfl rfl rfl (Nat.le_of_ble_eq_true rfl) hw100.symm dX4_sum_119 rfl ?_
                      have hW101 : WX (okX E a) w99 := by rw [hw100]; exact hW93.set (k := 1) rfl ⟨n39, v41, v98, v43, by omega, rfl⟩
                      have k102 : w99[1]? = some (ob (a 1) 7 [.ref (a 2), .int (nI n39), .int v41, .int v98, .int v43]) := by rw [hw100]; exact set_eq k95
                      have kp103 := keeps_set kp96 hw100 (by first | exact rfl | decide | omega | (dsimp only; omega))
                      refine x_iinc C (v := (nI (k + 1))) (lv' := [(5, .int (nI (k + 1))), (3, .int r45), (4, .int r45), (0, .ref (a 1)), (1, .ref (a 79)), (2, .int (nI o))]) dX4_sum_122 5 rfl (nI_add k 1) (by decide) rfl rfl ?_
                      refine x_goto C (tgt := 8) dX4_sum_125 (by decide) ?_
                      refine x_lv (lv1 := [(0, .ref (a 1)), (1, .ref (a 79)), (2, .int (nI o)), (3, .int r45), (4, .int r45), (5, .int (nI (k + 1)))]) [3, 4, 5, 1, 2, 0] rfl ?_
                      exact ih8 r45 r45 (k + 1) w99 hW101 (by omega) (by omega) kp103
                    · skip
                      refine x_iload C dX4_sum_100 0 rfl rfl ?_
                      refine x_bipush C (v := 45) dX4_sum_102 (by decide) rfl ?_
                      refine x_icmp_eq C (tgt := 109) dX4_sum_104 (by decide) rfl (fun c104 => ?_) (fun c104 => ?_)
                      · skip
                        refine x_iload C dX4_sum_109 0 rfl rfl ?_
                        refine x_istore_n C (lv' := [(3, .int r45), (4, .int r45), (0, .ref (a 1)), (1, .ref (a 79)), (2, .int (nI o)), (5, .int (nI k))]) dX4_sum_111 rfl (by decide) rfl rfl ?_
                        refine x_aload_n C dX4_sum_112 rfl 2 rfl rfl ?_
                        refine x_dup C dX4_sum_113 rfl rfl ?_
                        refine x_get C (ci := 7) (k := 3) 1 k95 rfl in_X8 (by decide) w_41 rfl dX4_sum_114 rfl ?_
                        refine x_iconst C (v := 1) dX4_sum_117 (by decide) rfl ?_
                        refine x_iadd C (v := (v42 + (1 : Int32))) dX4_sum_118 rfl rfl ?_
                        refine x_any (fun v105 => ?_)
                        obtain ⟨w106, hw107⟩ : ∃ w : va_W, w = List.set w92 1 (ob (a 1) 7 [.ref (a 2), .int (nI n39), .int v41, .int v105, .int v43]) := ⟨_, rfl⟩
                        refine x_put C (ci := 7) (k := 3) (ty := .int) 1 k95 rfl in_X8 tyX8 tyX8_ok nmX8 (by decide) w_41 rfl rfl rfl rfl (Nat.le_of_ble_eq_true rfl) hw107.symm dX4_sum_119 rfl ?_
                        have hW108 : WX (okX E a) w106 := by rw [hw107]; exact hW93.set (k := 1) rfl ⟨n39, v41, v105, v43, by omega, rfl⟩
                        have k109 : w106[1]? = some (ob (a 1) 7 [.ref (a 2), .int (nI n39), .int v41, .int v105, .int v43]) := by rw [hw107]; exact set_eq k95
                        have kp110 := keeps_set kp96 hw107 (by first | exact rfl | decide | omega | (dsimp only; omega))
                        refine x_iinc C (v := (nI (k + 1))) (lv' := [(5, .int (nI (k + 1))), (3, .int r45), (4, .int r45), (0, .ref (a 1)), (1, .ref (a 79)), (2, .int (nI o))]) dX4_sum_122 5 rfl (nI_add k 1) (by decide) rfl rfl ?_
                        refine x_goto C (tgt := 8) dX4_sum_125 (by decide) ?_
                        refine x_lv (lv1 := [(0, .ref (a 1)), (1, .ref (a 79)), (2, .int (nI o)), (3, .int r45), (4, .int r45), (5, .int (nI (k + 1)))]) [3, 4, 5, 1, 2, 0] rfl ?_
                        exact ih8 r45 r45 (k + 1) w106 hW108 (by omega) (by omega) kp110
                      · skip
                        refine x_iconst C (v := 1) dX4_sum_107 (by decide) rfl ?_
                        exact x_zret C hr hlk rfl dX4_sum_108 ⟨hW93, kp96, (Or.inr rfl)⟩
          · skip
            refine x_iload C dX4_sum_34 4 rfl rfl ?_
            refine x_bipush C (v := 47) dX4_sum_36 (by decide) rfl ?_
            refine x_icmp_eq C (tgt := 48) dX4_sum_38 (by decide) rfl (fun c111 => ?_) (fun c111 => ?_)
            · skip
              refine x_aload_n C dX4_sum_48 rfl 1 rfl rfl ?_
              refine x_iload C dX4_sum_49 4 rfl rfl ?_
              refine x_iconst C (v := 0) dX4_sum_51 (by decide) rfl ?_
              obtain ⟨_, k112, v113, n114, n116, bn115, bn117, rfl⟩ := hW20 79 _ rfl
              refine x_vv C (As := [.int z8_4, .int 0]) (rest := []) (c_emit E l a w19 hW20 z8_4 (0 : Int32)) mf_X3_emit w_631 79 k112 rfl rfl rfl (Nat.le_of_ble_eq_true rfl) ⟨(by dsimp only [xRm]; omega), (by dsimp only [xRm]; omega)⟩ ⟨(Nat.le_of_ble_eq_true rfl), (Nat.le_of_ble_eq_true rfl)⟩ dX4_sum_52 rfl (fun w120 h118 => ?_)
              obtain ⟨hW121, kq122⟩ := h118
              have kp123 := keeps_tr kp23 kq122 (fun q hq => by first | omega | (dsimp only at *; omega))
              refine x_aload_n C dX4_sum_55 rfl 0 rfl rfl ?_
              obtain ⟨_, k124, n125, v127, v128, v129, bn126, rfl⟩ := hW121 1 _ rfl
              refine x_vi C (As := []) (rest := []) (c_sign E l a w120 hW121) mf_X8_sign w_522 1 k124 rfl rfl rfl (Nat.le_of_ble_eq_true rfl) ⟨(by dsimp only [xRm]; omega), (by dsimp only [xRm]; omega)⟩ ⟨(Nat.le_of_ble_eq_true rfl), (Nat.le_of_ble_eq_true rfl)⟩ dX4_sum_56 rfl (fun r131 w132 h130 => ?_)
              have hW133 := h130
              refine x_ws hW133 ?_
              refine x_istore C (lv' := [(4, .int r131), (0, .ref (a 1)), (1, .ref (a 79)), (2, .int (nI o)), (3, .int z8_3), (5, .int (nI k))]) dX4_sum_59 (by decide) rfl rfl ?_
              refine x_iload C dX4_sum_61 0 rfl rfl ?_
              refine x_bipush C (v := 42) dX4_sum_63 (by decide) rfl ?_
              refine x_icmp_eq C (tgt := 112) dX4_sum_65 (by decide) rfl (fun c134 => ?_) (fun c134 => ?_)
              · skip
                refine x_aload_n C dX4_sum_112 rfl 1 rfl rfl ?_
                refine x_dup C dX4_sum_113 rfl rfl ?_
                refine x_get C (ci := 7) (k := 3) 1 k124 rfl in_X8 (by decide) w_41 rfl dX4_sum_114 rfl ?_
                refine x_iconst C (v := 1) dX4_sum_117 (by decide) rfl ?_
                refine x_iadd C (v := (v128 + (1 : Int32))) dX4_sum_118 rfl rfl ?_
                refine x_any (fun v135 => ?_)
                obtain ⟨w136, hw137⟩ : ∃ w : va_W, w = List.set w120 1 (ob (a 1) 7 [.ref (a 2), .int (nI n125), .int v127, .int v135, .int v129]) := ⟨_, rfl⟩
                refine x_put C (ci := 7) (k := 3) (ty := .int) 1 k124 rfl in_X8 tyX8 tyX8_ok nmX8 (by decide) w_41 rfl rfl rfl rfl (Nat.le_of_ble_eq_true rfl) hw137.symm dX4_sum_119 rfl ?_
                have hW138 : WX (okX E a) w136 := by rw [hw137]; exact hW121.set (k := 1) rfl ⟨n125, v127, v135, v129, by omega, rfl⟩
                have k139 : w136[1]? = some (ob (a 1) 7 [.ref (a 2), .int (nI n125), .int v127, .int v135, .int v129]) := by rw [hw137]; exact set_eq k124
                have kp140 := keeps_set kp123 hw137 (by first | exact rfl | decide | omega | (dsimp only; omega))
                refine x_iinc C (v := (nI (k + 1))) (lv' := [(5, .int (nI (k + 1))), (4, .int r131), (0, .ref (a 1)), (1, .ref (a 79)), (2, .int (nI o)), (3, .int z8_3)]) dX4_sum_122 5 rfl (nI_add k 1) (by decide) rfl rfl ?_
                refine x_goto C (tgt := 8) dX4_sum_125 (by decide) ?_
                refine x_lv (lv1 := [(0, .ref (a 1)), (1, .ref (a 79)), (2, .int (nI o)), (3, .int z8_3), (4, .int r131), (5, .int (nI (k + 1)))]) [2, 3, 4, 5, 1, 0] rfl ?_
                exact ih8 z8_3 r131 (k + 1) w136 hW138 (by omega) (by omega) kp140
              · skip
                refine x_iload C dX4_sum_68 0 rfl rfl ?_
                refine x_bipush C (v := 47) dX4_sum_70 (by decide) rfl ?_
                refine x_icmp_eq C (tgt := 112) dX4_sum_72 (by decide) rfl (fun c141 => ?_) (fun c141 => ?_)
                · skip
                  refine x_aload_n C dX4_sum_112 rfl 1 rfl rfl ?_
                  refine x_dup C dX4_sum_113 rfl rfl ?_
                  refine x_get C (ci := 7) (k := 3) 1 k124 rfl in_X8 (by decide) w_41 rfl dX4_sum_114 rfl ?_
                  refine x_iconst C (v := 1) dX4_sum_117 (by decide) rfl ?_
                  refine x_iadd C (v := (v128 + (1 : Int32))) dX4_sum_118 rfl rfl ?_
                  refine x_any (fun v142 => ?_)
                  obtain ⟨w143, hw144⟩ : ∃ w : va_W, w = List.set w120 1 (ob (a 1) 7 [.ref (a 2), .int (nI n125), .int v127, .int v142, .int v129]) := ⟨_, rfl⟩
                  refine x_put C (ci := 7) (k := 3) (ty := .int) 1 k124 rfl in_X8 tyX8 tyX8_ok nmX8 (by decide) w_41 rfl rfl rfl rfl (Nat.le_of_ble_eq_true rfl) hw144.symm dX4_sum_119 rfl ?_
                  have hW145 : WX (okX E a) w143 := by rw [hw144]; exact hW121.set (k := 1) rfl ⟨n125, v127, v142, v129, by omega, rfl⟩
                  have k146 : w143[1]? = some (ob (a 1) 7 [.ref (a 2), .int (nI n125), .int v127, .int v142, .int v129]) := by rw [hw144]; exact set_eq k124
                  have kp147 := keeps_set kp123 hw144 (by first | exact rfl | decide | omega | (dsimp only; omega))
                  refine x_iinc C (v := (nI (k + 1))) (lv' := [(5, .int (nI (k + 1))), (4, .int r131), (0, .ref (a 1)), (1, .ref (a 79)), (2, .int (nI o)), (3, .int z8_3)]) dX4_sum_122 5 rfl (nI_add k 1) (by decide) rfl rfl ?_
                  refine x_goto C (tgt := 8) dX4_sum_125 (by decide) ?_
                  refine x_lv (lv1 := [(0, .ref (a 1)), (1, .ref (a 79)), (2, .int (nI o)), (3, .int z8_3), (4, .int r131), (5, .int (nI (k + 1)))]) [2, 3, 4, 5, 1, 0] rfl ?_
                  exact ih8 z8_3 r131 (k + 1) w143 hW145 (by omega) (by omega) kp147
                · skip
                  refine x_iload C dX4_sum_75 0 rfl rfl ?_
                  refine x_bipush C (v := 37) dX4_sum_77 (by decide) rfl ?_
                  refine x_icmp_eq C (tgt := 112) dX4_sum_79 (by decide) rfl (fun c148 => ?_) (fun c148 => ?_)
                  · skip
                    refine x_aload_n C dX4_sum_112 rfl 1 rfl rfl ?_
                    refine x_dup C dX4_sum_113 rfl rfl ?_
                    refine x_get C (ci := 7) (k := 3) 1 k124 rfl in_X8 (by decide) w_41 rfl dX4_sum_114 rfl ?_
                    refine x_iconst C (v := 1) dX4_sum_117 (by decide) rfl ?_
                    refine x_iadd C (v := (v128 + (1 : Int32))) dX4_sum_118 rfl rfl ?_
                    refine x_any (fun v149 => ?_)
                    obtain ⟨w150, hw151⟩ : ∃ w : va_W, w = List.set w120 1 (ob (a 1) 7 [.ref (a 2), .int (nI n125), .int v127, .int v149, .int v129]) := ⟨_, rfl⟩
                    refine x_put C (ci := 7) (k := 3) (ty := .int) 1 k124 rfl in_X8 tyX8 tyX8_ok nmX8 (by decide) w_41 rfl rfl rfl rfl (Nat.le_of_ble_eq_true rfl) hw151.symm dX4_sum_119 rfl ?_
                    have hW152 : WX (okX E a) w150 := by rw [hw151]; exact hW121.set (k := 1) rfl ⟨n125, v127, v149, v129, by omega, rfl⟩
                    have k153 : w150[1]? = some (ob (a 1) 7 [.ref (a 2), .int (nI n125), .int v127, .int v149, .int v129]) := by rw [hw151]; exact set_eq k124
                    have kp154 := keeps_set kp123 hw151 (by first | exact rfl | decide | omega | (dsimp only; omega))
                    refine x_iinc C (v := (nI (k + 1))) (lv' := [(5, .int (nI (k + 1))), (4, .int r131), (0, .ref (a 1)), (1, .ref (a 79)), (2, .int (nI o)), (3, .int z8_3)]) dX4_sum_122 5 rfl (nI_add k 1) (by decide) rfl rfl ?_
                    refine x_goto C (tgt := 8) dX4_sum_125 (by decide) ?_
                    refine x_lv (lv1 := [(0, .ref (a 1)), (1, .ref (a 79)), (2, .int (nI o)), (3, .int z8_3), (4, .int r131), (5, .int (nI (k + 1)))]) [2, 3, 4, 5, 1, 0] rfl ?_
                    exact ih8 z8_3 r131 (k + 1) w150 hW152 (by omega) (by omega) kp154
                  · skip
                    refine x_iload_n C dX4_sum_82 rfl 4 rfl rfl ?_
                    refine x_iconst C (v := (-1)) dX4_sum_83 (by decide) rfl ?_
                    refine x_icmp_eq C (tgt := 93) dX4_sum_84 (by decide) rfl (fun c155 => ?_) (fun c155 => ?_)
                    · skip
                      refine x_iload C dX4_sum_93 0 rfl rfl ?_
                      refine x_bipush C (v := 43) dX4_sum_95 (by decide) rfl ?_
                      refine x_icmp_eq C (tgt := 109) dX4_sum_97 (by decide) rfl (fun c156 => ?_) (fun c156 => ?_)
                      · skip
                        refine x_iload C dX4_sum_109 0 rfl rfl ?_
                        refine x_istore_n C (lv' := [(3, .int r131), (4, .int r131), (0, .ref (a 1)), (1, .ref (a 79)), (2, .int (nI o)), (5, .int (nI k))]) dX4_sum_111 rfl (by decide) rfl rfl ?_
                        refine x_aload_n C dX4_sum_112 rfl 2 rfl rfl ?_
                        refine x_dup C dX4_sum_113 rfl rfl ?_
                        refine x_get C (ci := 7) (k := 3) 1 k124 rfl in_X8 (by decide) w_41 rfl dX4_sum_114 rfl ?_
                        refine x_iconst C (v := 1) dX4_sum_117 (by decide) rfl ?_
                        refine x_iadd C (v := (v128 + (1 : Int32))) dX4_sum_118 rfl rfl ?_
                        refine x_any (fun v157 => ?_)
                        obtain ⟨w158, hw159⟩ : ∃ w : va_W, w = List.set w120 1 (ob (a 1) 7 [.ref (a 2), .int (nI n125), .int v127, .int v157, .int v129]) := ⟨_, rfl⟩
                        refine x_put C (ci := 7) (k := 3) (ty := .int) 1 k124 rfl in_X8 tyX8 tyX8_ok nmX8 (by decide) w_41 rfl rfl rfl rfl (Nat.le_of_ble_eq_true rfl) hw159.symm dX4_sum_119 rfl ?_
                        have hW160 : WX (okX E a) w158 := by rw [hw159]; exact hW121.set (k := 1) rfl ⟨n125, v127, v157, v129, by omega, rfl⟩
                        have k161 : w158[1]? = some (ob (a 1) 7 [.ref (a 2), .int (nI n125), .int v127, .int v157, .int v129]) := by rw [hw159]; exact set_eq k124
                        have kp162 := keeps_set kp123 hw159 (by first | exact rfl | decide | omega | (dsimp only; omega))
                        refine x_iinc C (v := (nI (k + 1))) (lv' := [(5, .int (nI (k + 1))), (3, .int r131), (4, .int r131), (0, .ref (a 1)), (1, .ref (a 79)), (2, .int (nI o))]) dX4_sum_122 5 rfl (nI_add k 1) (by decide) rfl rfl ?_
                        refine x_goto C (tgt := 8) dX4_sum_125 (by decide) ?_
                        refine x_lv (lv1 := [(0, .ref (a 1)), (1, .ref (a 79)), (2, .int (nI o)), (3, .int r131), (4, .int r131), (5, .int (nI (k + 1)))]) [3, 4, 5, 1, 2, 0] rfl ?_
                        exact ih8 r131 r131 (k + 1) w158 hW160 (by omega) (by omega) kp162
                      · skip
                        refine x_iload C dX4_sum_100 0 rfl rfl ?_
                        refine x_bipush C (v := 45) dX4_sum_102 (by decide) rfl ?_
                        refine x_icmp_eq C (tgt := 109) dX4_sum_104 (by decide) rfl (fun c163 => ?_) (fun c163 => ?_)
                        · skip
                          refine x_iload C dX4_sum_109 0 rfl rfl ?_
                          refine x_istore_n C (lv' := [(3, .int r131), (4, .int r131), (0, .ref (a 1)), (1, .ref (a 79)), (2, .int (nI o)), (5, .int (nI k))]) dX4_sum_111 rfl (by decide) rfl rfl ?_
                          refine x_aload_n C dX4_sum_112 rfl 2 rfl rfl ?_
                          refine x_dup C dX4_sum_113 rfl rfl ?_
                          refine x_get C (ci := 7) (k := 3) 1 k124 rfl in_X8 (by decide) w_41 rfl dX4_sum_114 rfl ?_
                          refine x_iconst C (v := 1) dX4_sum_117 (by decide) rfl ?_
                          refine x_iadd C (v := (v128 + (1 : Int32))) dX4_sum_118 rfl rfl ?_
                          refine x_any (fun v164 => ?_)
                          obtain ⟨w165, hw166⟩ : ∃ w : va_W, w = List.set w120 1 (ob (a 1) 7 [.ref (a 2), .int (nI n125), .int v127, .int v164, .int v129]) := ⟨_, rfl⟩
                          refine x_put C (ci := 7) (k := 3) (ty := .int) 1 k124 rfl in_X8 tyX8 tyX8_ok nmX8 (by decide) w_41 rfl rfl rfl rfl (Nat.le_of_ble_eq_true rfl) hw166.symm dX4_sum_119 rfl ?_
                          have hW167 : WX (okX E a) w165 := by rw [hw166]; exact hW121.set (k := 1) rfl ⟨n125, v127, v164, v129, by omega, rfl⟩
                          have k168 : w165[1]? = some (ob (a 1) 7 [.ref (a 2), .int (nI n125), .int v127, .int v164, .int v129]) := by rw [hw166]; exact set_eq k124
                          have kp169 := keeps_set kp123 hw166 (by first | exact rfl | decide | omega | (dsimp only; omega))
                          refine x_iinc C (v := (nI (k + 1))) (lv' := [(5, .int (nI (k + 1))), (3, .int r131), (4, .int r131), (0, .ref (a 1)), (1, .ref (a 79)), (2, .int (nI o))]) dX4_sum_122 5 rfl (nI_add k 1) (by decide) rfl rfl ?_
                          refine x_goto C (tgt := 8) dX4_sum_125 (by decide) ?_
                          refine x_lv (lv1 := [(0, .ref (a 1)), (1, .ref (a 79)), (2, .int (nI o)), (3, .int r131), (4, .int r131), (5, .int (nI (k + 1)))]) [3, 4, 5, 1, 2, 0] rfl ?_
                          exact ih8 r131 r131 (k + 1) w165 hW167 (by omega) (by omega) kp169
                        · skip
                          refine x_iconst C (v := 1) dX4_sum_107 (by decide) rfl ?_
                          exact x_zret C hr hlk rfl dX4_sum_108 ⟨hW121, kp123, (Or.inr rfl)⟩
                    · skip
                      refine x_aload_n C dX4_sum_87 rfl 2 rfl rfl ?_
                      refine x_iload_n C dX4_sum_88 rfl 4 rfl rfl ?_
                      refine x_iconst C (v := 0) dX4_sum_89 (by decide) rfl ?_
                      obtain ⟨_, k170, v171, n172, n174, bn173, bn175, rfl⟩ := hW121 79 _ rfl
                      refine x_vv C (As := [.int z8_3, .int 0]) (rest := []) (c_emit E l a w120 hW121 z8_3 (0 : Int32)) mf_X3_emit w_631 79 k170 rfl rfl rfl (Nat.le_of_ble_eq_true rfl) ⟨(by dsimp only [xRm]; omega), (by dsimp only [xRm]; omega)⟩ ⟨(Nat.le_of_ble_eq_true rfl), (Nat.le_of_ble_eq_true rfl)⟩ dX4_sum_90 rfl (fun w178 h176 => ?_)
                      obtain ⟨hW179, kq180⟩ := h176
                      have k181 : w178[1]? = some (ob (a 1) 7 [.ref (a 2), .int (nI n125), .int v127, .int v128, .int v129]) := keeps_at kq180 k124 (by first | decide | omega | (dsimp only; omega))
                      have kp182 := keeps_tr kp123 kq180 (fun q hq => by first | omega | (dsimp only at *; omega))
                      refine x_iload C dX4_sum_93 0 rfl rfl ?_
                      refine x_bipush C (v := 43) dX4_sum_95 (by decide) rfl ?_
                      refine x_icmp_eq C (tgt := 109) dX4_sum_97 (by decide) rfl (fun c183 => ?_) (fun c183 => ?_)
                      · skip
                        refine x_iload C dX4_sum_109 0 rfl rfl ?_
                        refine x_istore_n C (lv' := [(3, .int r131), (4, .int r131), (0, .ref (a 1)), (1, .ref (a 79)), (2, .int (nI o)), (5, .int (nI k))]) dX4_sum_111 rfl (by decide) rfl rfl ?_
                        refine x_aload_n C dX4_sum_112 rfl 2 rfl rfl ?_
                        refine x_dup C dX4_sum_113 rfl rfl ?_
                        refine x_get C (ci := 7) (k := 3) 1 k181 rfl in_X8 (by decide) w_41 rfl dX4_sum_114 rfl ?_
                        refine x_iconst C (v := 1) dX4_sum_117 (by decide) rfl ?_
                        refine x_iadd C (v := (v128 + (1 : Int32))) dX4_sum_118 rfl rfl ?_
                        refine x_any (fun v184 => ?_)
                        obtain ⟨w185, hw186⟩ : ∃ w : va_W, w = List.set w178 1 (ob (a 1) 7 [.ref (a 2), .int (nI n125), .int v127, .int v184, .int v129]) := ⟨_, rfl⟩
                        refine x_put C (ci := 7) (k := 3) (ty := .int) 1 k181 rfl in_X8 tyX8 tyX8_ok nmX8 (by decide) w_41 rfl rfl rfl rfl (Nat.le_of_ble_eq_true rfl) hw186.symm dX4_sum_119 rfl ?_
                        have hW187 : WX (okX E a) w185 := by rw [hw186]; exact hW179.set (k := 1) rfl ⟨n125, v127, v184, v129, by omega, rfl⟩
                        have k188 : w185[1]? = some (ob (a 1) 7 [.ref (a 2), .int (nI n125), .int v127, .int v184, .int v129]) := by rw [hw186]; exact set_eq k181
                        have kp189 := keeps_set kp182 hw186 (by first | exact rfl | decide | omega | (dsimp only; omega))
                        refine x_iinc C (v := (nI (k + 1))) (lv' := [(5, .int (nI (k + 1))), (3, .int r131), (4, .int r131), (0, .ref (a 1)), (1, .ref (a 79)), (2, .int (nI o))]) dX4_sum_122 5 rfl (nI_add k 1) (by decide) rfl rfl ?_
                        refine x_goto C (tgt := 8) dX4_sum_125 (by decide) ?_
                        refine x_lv (lv1 := [(0, .ref (a 1)), (1, .ref (a 79)), (2, .int (nI o)), (3, .int r131), (4, .int r131), (5, .int (nI (k + 1)))]) [3, 4, 5, 1, 2, 0] rfl ?_
                        exact ih8 r131 r131 (k + 1) w185 hW187 (by omega) (by omega) kp189
                      · skip
                        refine x_iload C dX4_sum_100 0 rfl rfl ?_
                        refine x_bipush C (v := 45) dX4_sum_102 (by decide) rfl ?_
                        refine x_icmp_eq C (tgt := 109) dX4_sum_104 (by decide) rfl (fun c190 => ?_) (fun c190 => ?_)
                        · skip
                          refine x_iload C dX4_sum_109 0 rfl rfl ?_
                          refine x_istore_n C (lv' := [(3, .int r131), (4, .int r131), (0, .ref (a 1)), (1, .ref (a 79)), (2, .int (nI o)), (5, .int (nI k))]) dX4_sum_111 rfl (by decide) rfl rfl ?_
                          refine x_aload_n C dX4_sum_112 rfl 2 rfl rfl ?_
                          refine x_dup C dX4_sum_113 rfl rfl ?_
                          refine x_get C (ci := 7) (k := 3) 1 k181 rfl in_X8 (by decide) w_41 rfl dX4_sum_114 rfl ?_
                          refine x_iconst C (v := 1) dX4_sum_117 (by decide) rfl ?_
                          refine x_iadd C (v := (v128 + (1 : Int32))) dX4_sum_118 rfl rfl ?_
                          refine x_any (fun v191 => ?_)
                          obtain ⟨w192, hw193⟩ : ∃ w : va_W, w = List.set w178 1 (ob (a 1) 7 [.ref (a 2), .int (nI n125), .int v127, .int v191, .int v129]) := ⟨_, rfl⟩
                          refine x_put C (ci := 7) (k := 3) (ty := .int) 1 k181 rfl in_X8 tyX8 tyX8_ok nmX8 (by decide) w_41 rfl rfl rfl rfl (Nat.le_of_ble_eq_true rfl) hw193.symm dX4_sum_119 rfl ?_
                          have hW194 : WX (okX E a) w192 := by rw [hw193]; exact hW179.set (k := 1) rfl ⟨n125, v127, v191, v129, by omega, rfl⟩
                          have k195 : w192[1]? = some (ob (a 1) 7 [.ref (a 2), .int (nI n125), .int v127, .int v191, .int v129]) := by rw [hw193]; exact set_eq k181
                          have kp196 := keeps_set kp182 hw193 (by first | exact rfl | decide | omega | (dsimp only; omega))
                          refine x_iinc C (v := (nI (k + 1))) (lv' := [(5, .int (nI (k + 1))), (3, .int r131), (4, .int r131), (0, .ref (a 1)), (1, .ref (a 79)), (2, .int (nI o))]) dX4_sum_122 5 rfl (nI_add k 1) (by decide) rfl rfl ?_
                          refine x_goto C (tgt := 8) dX4_sum_125 (by decide) ?_
                          refine x_lv (lv1 := [(0, .ref (a 1)), (1, .ref (a 79)), (2, .int (nI o)), (3, .int r131), (4, .int r131), (5, .int (nI (k + 1)))]) [3, 4, 5, 1, 2, 0] rfl ?_
                          exact ih8 r131 r131 (k + 1) w192 hW194 (by omega) (by omega) kp196
                        · skip
                          refine x_iconst C (v := 1) dX4_sum_107 (by decide) rfl ?_
                          exact x_zret C hr hlk rfl dX4_sum_108 ⟨hW179, kp182, (Or.inr rfl)⟩
            · skip
              refine x_iload C dX4_sum_41 4 rfl rfl ?_
              refine x_bipush C (v := 37) dX4_sum_43 (by decide) rfl ?_
              refine x_icmp_ne C (tgt := 55) dX4_sum_45 (by decide) rfl (fun c197 => ?_) (fun c197 => ?_)
              · skip
                refine x_aload_n C dX4_sum_55 rfl 0 rfl rfl ?_
                obtain ⟨_, k198, n199, v201, v202, v203, bn200, rfl⟩ := hW20 1 _ rfl
                refine x_vi C (As := []) (rest := []) (c_sign E l a w19 hW20) mf_X8_sign w_522 1 k198 rfl rfl rfl (Nat.le_of_ble_eq_true rfl) ⟨(by dsimp only [xRm]; omega), (by dsimp only [xRm]; omega)⟩ ⟨(Nat.le_of_ble_eq_true rfl), (Nat.le_of_ble_eq_true rfl)⟩ dX4_sum_56 rfl (fun r205 w206 h204 => ?_)
                have hW207 := h204
                refine x_ws hW207 ?_
                refine x_istore C (lv' := [(4, .int r205), (0, .ref (a 1)), (1, .ref (a 79)), (2, .int (nI o)), (3, .int z8_3), (5, .int (nI k))]) dX4_sum_59 (by decide) rfl rfl ?_
                refine x_iload C dX4_sum_61 0 rfl rfl ?_
                refine x_bipush C (v := 42) dX4_sum_63 (by decide) rfl ?_
                refine x_icmp_eq C (tgt := 112) dX4_sum_65 (by decide) rfl (fun c208 => ?_) (fun c208 => ?_)
                · skip
                  refine x_aload_n C dX4_sum_112 rfl 1 rfl rfl ?_
                  refine x_dup C dX4_sum_113 rfl rfl ?_
                  refine x_get C (ci := 7) (k := 3) 1 k198 rfl in_X8 (by decide) w_41 rfl dX4_sum_114 rfl ?_
                  refine x_iconst C (v := 1) dX4_sum_117 (by decide) rfl ?_
                  refine x_iadd C (v := (v202 + (1 : Int32))) dX4_sum_118 rfl rfl ?_
                  refine x_any (fun v209 => ?_)
                  obtain ⟨w210, hw211⟩ : ∃ w : va_W, w = List.set w19 1 (ob (a 1) 7 [.ref (a 2), .int (nI n199), .int v201, .int v209, .int v203]) := ⟨_, rfl⟩
                  refine x_put C (ci := 7) (k := 3) (ty := .int) 1 k198 rfl in_X8 tyX8 tyX8_ok nmX8 (by decide) w_41 rfl rfl rfl rfl (Nat.le_of_ble_eq_true rfl) hw211.symm dX4_sum_119 rfl ?_
                  have hW212 : WX (okX E a) w210 := by rw [hw211]; exact hW20.set (k := 1) rfl ⟨n199, v201, v209, v203, by omega, rfl⟩
                  have k213 : w210[1]? = some (ob (a 1) 7 [.ref (a 2), .int (nI n199), .int v201, .int v209, .int v203]) := by rw [hw211]; exact set_eq k198
                  have kp214 := keeps_set kp23 hw211 (by first | exact rfl | decide | omega | (dsimp only; omega))
                  refine x_iinc C (v := (nI (k + 1))) (lv' := [(5, .int (nI (k + 1))), (4, .int r205), (0, .ref (a 1)), (1, .ref (a 79)), (2, .int (nI o)), (3, .int z8_3)]) dX4_sum_122 5 rfl (nI_add k 1) (by decide) rfl rfl ?_
                  refine x_goto C (tgt := 8) dX4_sum_125 (by decide) ?_
                  refine x_lv (lv1 := [(0, .ref (a 1)), (1, .ref (a 79)), (2, .int (nI o)), (3, .int z8_3), (4, .int r205), (5, .int (nI (k + 1)))]) [2, 3, 4, 5, 1, 0] rfl ?_
                  exact ih8 z8_3 r205 (k + 1) w210 hW212 (by omega) (by omega) kp214
                · skip
                  refine x_iload C dX4_sum_68 0 rfl rfl ?_
                  refine x_bipush C (v := 47) dX4_sum_70 (by decide) rfl ?_
                  refine x_icmp_eq C (tgt := 112) dX4_sum_72 (by decide) rfl (fun c215 => ?_) (fun c215 => ?_)
                  · skip
                    refine x_aload_n C dX4_sum_112 rfl 1 rfl rfl ?_
                    refine x_dup C dX4_sum_113 rfl rfl ?_
                    refine x_get C (ci := 7) (k := 3) 1 k198 rfl in_X8 (by decide) w_41 rfl dX4_sum_114 rfl ?_
                    refine x_iconst C (v := 1) dX4_sum_117 (by decide) rfl ?_
                    refine x_iadd C (v := (v202 + (1 : Int32))) dX4_sum_118 rfl rfl ?_
                    refine x_any (fun v216 => ?_)
                    obtain ⟨w217, hw218⟩ : ∃ w : va_W, w = List.set w19 1 (ob (a 1) 7 [.ref (a 2), .int (nI n199), .int v201, .int v216, .int v203]) := ⟨_, rfl⟩
                    refine x_put C (ci := 7) (k := 3) (ty := .int) 1 k198 rfl in_X8 tyX8 tyX8_ok nmX8 (by decide) w_41 rfl rfl rfl rfl (Nat.le_of_ble_eq_true rfl) hw218.symm dX4_sum_119 rfl ?_
                    have hW219 : WX (okX E a) w217 := by rw [hw218]; exact hW20.set (k := 1) rfl ⟨n199, v201, v216, v203, by omega, rfl⟩
                    have k220 : w217[1]? = some (ob (a 1) 7 [.ref (a 2), .int (nI n199), .int v201, .int v216, .int v203]) := by rw [hw218]; exact set_eq k198
                    have kp221 := keeps_set kp23 hw218 (by first | exact rfl | decide | omega | (dsimp only; omega))
                    refine x_iinc C (v := (nI (k + 1))) (lv' := [(5, .int (nI (k + 1))), (4, .int r205), (0, .ref (a 1)), (1, .ref (a 79)), (2, .int (nI o)), (3, .int z8_3)]) dX4_sum_122 5 rfl (nI_add k 1) (by decide) rfl rfl ?_
                    refine x_goto C (tgt := 8) dX4_sum_125 (by decide) ?_
                    refine x_lv (lv1 := [(0, .ref (a 1)), (1, .ref (a 79)), (2, .int (nI o)), (3, .int z8_3), (4, .int r205), (5, .int (nI (k + 1)))]) [2, 3, 4, 5, 1, 0] rfl ?_
                    exact ih8 z8_3 r205 (k + 1) w217 hW219 (by omega) (by omega) kp221
                  · skip
                    refine x_iload C dX4_sum_75 0 rfl rfl ?_
                    refine x_bipush C (v := 37) dX4_sum_77 (by decide) rfl ?_
                    refine x_icmp_eq C (tgt := 112) dX4_sum_79 (by decide) rfl (fun c222 => ?_) (fun c222 => ?_)
                    · skip
                      refine x_aload_n C dX4_sum_112 rfl 1 rfl rfl ?_
                      refine x_dup C dX4_sum_113 rfl rfl ?_
                      refine x_get C (ci := 7) (k := 3) 1 k198 rfl in_X8 (by decide) w_41 rfl dX4_sum_114 rfl ?_
                      refine x_iconst C (v := 1) dX4_sum_117 (by decide) rfl ?_
                      refine x_iadd C (v := (v202 + (1 : Int32))) dX4_sum_118 rfl rfl ?_
                      refine x_any (fun v223 => ?_)
                      obtain ⟨w224, hw225⟩ : ∃ w : va_W, w = List.set w19 1 (ob (a 1) 7 [.ref (a 2), .int (nI n199), .int v201, .int v223, .int v203]) := ⟨_, rfl⟩
                      refine x_put C (ci := 7) (k := 3) (ty := .int) 1 k198 rfl in_X8 tyX8 tyX8_ok nmX8 (by decide) w_41 rfl rfl rfl rfl (Nat.le_of_ble_eq_true rfl) hw225.symm dX4_sum_119 rfl ?_
                      have hW226 : WX (okX E a) w224 := by rw [hw225]; exact hW20.set (k := 1) rfl ⟨n199, v201, v223, v203, by omega, rfl⟩
                      have k227 : w224[1]? = some (ob (a 1) 7 [.ref (a 2), .int (nI n199), .int v201, .int v223, .int v203]) := by rw [hw225]; exact set_eq k198
                      have kp228 := keeps_set kp23 hw225 (by first | exact rfl | decide | omega | (dsimp only; omega))
                      refine x_iinc C (v := (nI (k + 1))) (lv' := [(5, .int (nI (k + 1))), (4, .int r205), (0, .ref (a 1)), (1, .ref (a 79)), (2, .int (nI o)), (3, .int z8_3)]) dX4_sum_122 5 rfl (nI_add k 1) (by decide) rfl rfl ?_
                      refine x_goto C (tgt := 8) dX4_sum_125 (by decide) ?_
                      refine x_lv (lv1 := [(0, .ref (a 1)), (1, .ref (a 79)), (2, .int (nI o)), (3, .int z8_3), (4, .int r205), (5, .int (nI (k + 1)))]) [2, 3, 4, 5, 1, 0] rfl ?_
                      exact ih8 z8_3 r205 (k + 1) w224 hW226 (by omega) (by omega) kp228
                    · skip
                      refine x_iload_n C dX4_sum_82 rfl 4 rfl rfl ?_
                      refine x_iconst C (v := (-1)) dX4_sum_83 (by decide) rfl ?_
                      refine x_icmp_eq C (tgt := 93) dX4_sum_84 (by decide) rfl (fun c229 => ?_) (fun c229 => ?_)
                      · skip
                        refine x_iload C dX4_sum_93 0 rfl rfl ?_
                        refine x_bipush C (v := 43) dX4_sum_95 (by decide) rfl ?_
                        refine x_icmp_eq C (tgt := 109) dX4_sum_97 (by decide) rfl (fun c230 => ?_) (fun c230 => ?_)
                        · skip
                          refine x_iload C dX4_sum_109 0 rfl rfl ?_
                          refine x_istore_n C (lv' := [(3, .int r205), (4, .int r205), (0, .ref (a 1)), (1, .ref (a 79)), (2, .int (nI o)), (5, .int (nI k))]) dX4_sum_111 rfl (by decide) rfl rfl ?_
                          refine x_aload_n C dX4_sum_112 rfl 2 rfl rfl ?_
                          refine x_dup C dX4_sum_113 rfl rfl ?_
                          refine x_get C (ci := 7) (k := 3) 1 k198 rfl in_X8 (by decide) w_41 rfl dX4_sum_114 rfl ?_
                          refine x_iconst C (v := 1) dX4_sum_117 (by decide) rfl ?_
                          refine x_iadd C (v := (v202 + (1 : Int32))) dX4_sum_118 rfl rfl ?_
                          refine x_any (fun v231 => ?_)
                          obtain ⟨w232, hw233⟩ : ∃ w : va_W, w = List.set w19 1 (ob (a 1) 7 [.ref (a 2), .int (nI n199), .int v201, .int v231, .int v203]) := ⟨_, rfl⟩
                          refine x_put C (ci := 7) (k := 3) (ty := .int) 1 k198 rfl in_X8 tyX8 tyX8_ok nmX8 (by decide) w_41 rfl rfl rfl rfl (Nat.le_of_ble_eq_true rfl) hw233.symm dX4_sum_119 rfl ?_
                          have hW234 : WX (okX E a) w232 := by rw [hw233]; exact hW20.set (k := 1) rfl ⟨n199, v201, v231, v203, by omega, rfl⟩
                          have k235 : w232[1]? = some (ob (a 1) 7 [.ref (a 2), .int (nI n199), .int v201, .int v231, .int v203]) := by rw [hw233]; exact set_eq k198
                          have kp236 := keeps_set kp23 hw233 (by first | exact rfl | decide | omega | (dsimp only; omega))
                          refine x_iinc C (v := (nI (k + 1))) (lv' := [(5, .int (nI (k + 1))), (3, .int r205), (4, .int r205), (0, .ref (a 1)), (1, .ref (a 79)), (2, .int (nI o))]) dX4_sum_122 5 rfl (nI_add k 1) (by decide) rfl rfl ?_
                          refine x_goto C (tgt := 8) dX4_sum_125 (by decide) ?_
                          refine x_lv (lv1 := [(0, .ref (a 1)), (1, .ref (a 79)), (2, .int (nI o)), (3, .int r205), (4, .int r205), (5, .int (nI (k + 1)))]) [3, 4, 5, 1, 2, 0] rfl ?_
                          exact ih8 r205 r205 (k + 1) w232 hW234 (by omega) (by omega) kp236
                        · skip
                          refine x_iload C dX4_sum_100 0 rfl rfl ?_
                          refine x_bipush C (v := 45) dX4_sum_102 (by decide) rfl ?_
                          refine x_icmp_eq C (tgt := 109) dX4_sum_104 (by decide) rfl (fun c237 => ?_) (fun c237 => ?_)
                          · skip
                            refine x_iload C dX4_sum_109 0 rfl rfl ?_
                            refine x_istore_n C (lv' := [(3, .int r205), (4, .int r205), (0, .ref (a 1)), (1, .ref (a 79)), (2, .int (nI o)), (5, .int (nI k))]) dX4_sum_111 rfl (by decide) rfl rfl ?_
                            refine x_aload_n C dX4_sum_112 rfl 2 rfl rfl ?_
                            refine x_dup C dX4_sum_113 rfl rfl ?_
                            refine x_get C (ci := 7) (k := 3) 1 k198 rfl in_X8 (by decide) w_41 rfl dX4_sum_114 rfl ?_
                            refine x_iconst C (v := 1) dX4_sum_117 (by decide) rfl ?_
                            refine x_iadd C (v := (v202 + (1 : Int32))) dX4_sum_118 rfl rfl ?_
                            refine x_any (fun v238 => ?_)
                            obtain ⟨w239, hw240⟩ : ∃ w : va_W, w = List.set w19 1 (ob (a 1) 7 [.ref (a 2), .int (nI n199), .int v201, .int v238, .int v203]) := ⟨_, rfl⟩
                            refine x_put C (ci := 7) (k := 3) (ty := .int) 1 k198 rfl in_X8 tyX8 tyX8_ok nmX8 (by decide) w_41 rfl rfl rfl rfl (Nat.le_of_ble_eq_true rfl) hw240.symm dX4_sum_119 rfl ?_
                            have hW241 : WX (okX E a) w239 := by rw [hw240]; exact hW20.set (k := 1) rfl ⟨n199, v201, v238, v203, by omega, rfl⟩
                            have k242 : w239[1]? = some (ob (a 1) 7 [.ref (a 2), .int (nI n199), .int v201, .int v238, .int v203]) := by rw [hw240]; exact set_eq k198
                            have kp243 := keeps_set kp23 hw240 (by first | exact rfl | decide | omega | (dsimp only; omega))
                            refine x_iinc C (v := (nI (k + 1))) (lv' := [(5, .int (nI (k + 1))), (3, .int r205), (4, .int r205), (0, .ref (a 1)), (1, .ref (a 79)), (2, .int (nI o))]) dX4_sum_122 5 rfl (nI_add k 1) (by decide) rfl rfl ?_
                            refine x_goto C (tgt := 8) dX4_sum_125 (by decide) ?_
                            refine x_lv (lv1 := [(0, .ref (a 1)), (1, .ref (a 79)), (2, .int (nI o)), (3, .int r205), (4, .int r205), (5, .int (nI (k + 1)))]) [3, 4, 5, 1, 2, 0] rfl ?_
                            exact ih8 r205 r205 (k + 1) w239 hW241 (by omega) (by omega) kp243
                          · skip
                            refine x_iconst C (v := 1) dX4_sum_107 (by decide) rfl ?_
                            exact x_zret C hr hlk rfl dX4_sum_108 ⟨hW20, kp23, (Or.inr rfl)⟩
                      · skip
                        refine x_aload_n C dX4_sum_87 rfl 2 rfl rfl ?_
                        refine x_iload_n C dX4_sum_88 rfl 4 rfl rfl ?_
                        refine x_iconst C (v := 0) dX4_sum_89 (by decide) rfl ?_
                        obtain ⟨_, k244, v245, n246, n248, bn247, bn249, rfl⟩ := hW20 79 _ rfl
                        refine x_vv C (As := [.int z8_3, .int 0]) (rest := []) (c_emit E l a w19 hW20 z8_3 (0 : Int32)) mf_X3_emit w_631 79 k244 rfl rfl rfl (Nat.le_of_ble_eq_true rfl) ⟨(by dsimp only [xRm]; omega), (by dsimp only [xRm]; omega)⟩ ⟨(Nat.le_of_ble_eq_true rfl), (Nat.le_of_ble_eq_true rfl)⟩ dX4_sum_90 rfl (fun w252 h250 => ?_)
                        obtain ⟨hW253, kq254⟩ := h250
                        have k255 : w252[1]? = some (ob (a 1) 7 [.ref (a 2), .int (nI n199), .int v201, .int v202, .int v203]) := keeps_at kq254 k198 (by first | decide | omega | (dsimp only; omega))
                        have kp256 := keeps_tr kp23 kq254 (fun q hq => by first | omega | (dsimp only at *; omega))
                        refine x_iload C dX4_sum_93 0 rfl rfl ?_
                        refine x_bipush C (v := 43) dX4_sum_95 (by decide) rfl ?_
                        refine x_icmp_eq C (tgt := 109) dX4_sum_97 (by decide) rfl (fun c257 => ?_) (fun c257 => ?_)
                        · skip
                          refine x_iload C dX4_sum_109 0 rfl rfl ?_
                          refine x_istore_n C (lv' := [(3, .int r205), (4, .int r205), (0, .ref (a 1)), (1, .ref (a 79)), (2, .int (nI o)), (5, .int (nI k))]) dX4_sum_111 rfl (by decide) rfl rfl ?_
                          refine x_aload_n C dX4_sum_112 rfl 2 rfl rfl ?_
                          refine x_dup C dX4_sum_113 rfl rfl ?_
                          refine x_get C (ci := 7) (k := 3) 1 k255 rfl in_X8 (by decide) w_41 rfl dX4_sum_114 rfl ?_
                          refine x_iconst C (v := 1) dX4_sum_117 (by decide) rfl ?_
                          refine x_iadd C (v := (v202 + (1 : Int32))) dX4_sum_118 rfl rfl ?_
                          refine x_any (fun v258 => ?_)
                          obtain ⟨w259, hw260⟩ : ∃ w : va_W, w = List.set w252 1 (ob (a 1) 7 [.ref (a 2), .int (nI n199), .int v201, .int v258, .int v203]) := ⟨_, rfl⟩
                          refine x_put C (ci := 7) (k := 3) (ty := .int) 1 k255 rfl in_X8 tyX8 tyX8_ok nmX8 (by decide) w_41 rfl rfl rfl rfl (Nat.le_of_ble_eq_true rfl) hw260.symm dX4_sum_119 rfl ?_
                          have hW261 : WX (okX E a) w259 := by rw [hw260]; exact hW253.set (k := 1) rfl ⟨n199, v201, v258, v203, by omega, rfl⟩
                          have k262 : w259[1]? = some (ob (a 1) 7 [.ref (a 2), .int (nI n199), .int v201, .int v258, .int v203]) := by rw [hw260]; exact set_eq k255
                          have kp263 := keeps_set kp256 hw260 (by first | exact rfl | decide | omega | (dsimp only; omega))
                          refine x_iinc C (v := (nI (k + 1))) (lv' := [(5, .int (nI (k + 1))), (3, .int r205), (4, .int r205), (0, .ref (a 1)), (1, .ref (a 79)), (2, .int (nI o))]) dX4_sum_122 5 rfl (nI_add k 1) (by decide) rfl rfl ?_
                          refine x_goto C (tgt := 8) dX4_sum_125 (by decide) ?_
                          refine x_lv (lv1 := [(0, .ref (a 1)), (1, .ref (a 79)), (2, .int (nI o)), (3, .int r205), (4, .int r205), (5, .int (nI (k + 1)))]) [3, 4, 5, 1, 2, 0] rfl ?_
                          exact ih8 r205 r205 (k + 1) w259 hW261 (by omega) (by omega) kp263
                        · skip
                          refine x_iload C dX4_sum_100 0 rfl rfl ?_
                          refine x_bipush C (v := 45) dX4_sum_102 (by decide) rfl ?_
                          refine x_icmp_eq C (tgt := 109) dX4_sum_104 (by decide) rfl (fun c264 => ?_) (fun c264 => ?_)
                          · skip
                            refine x_iload C dX4_sum_109 0 rfl rfl ?_
                            refine x_istore_n C (lv' := [(3, .int r205), (4, .int r205), (0, .ref (a 1)), (1, .ref (a 79)), (2, .int (nI o)), (5, .int (nI k))]) dX4_sum_111 rfl (by decide) rfl rfl ?_
                            refine x_aload_n C dX4_sum_112 rfl 2 rfl rfl ?_
                            refine x_dup C dX4_sum_113 rfl rfl ?_
                            refine x_get C (ci := 7) (k := 3) 1 k255 rfl in_X8 (by decide) w_41 rfl dX4_sum_114 rfl ?_
                            refine x_iconst C (v := 1) dX4_sum_117 (by decide) rfl ?_
                            refine x_iadd C (v := (v202 + (1 : Int32))) dX4_sum_118 rfl rfl ?_
                            refine x_any (fun v265 => ?_)
                            obtain ⟨w266, hw267⟩ : ∃ w : va_W, w = List.set w252 1 (ob (a 1) 7 [.ref (a 2), .int (nI n199), .int v201, .int v265, .int v203]) := ⟨_, rfl⟩
                            refine x_put C (ci := 7) (k := 3) (ty := .int) 1 k255 rfl in_X8 tyX8 tyX8_ok nmX8 (by decide) w_41 rfl rfl rfl rfl (Nat.le_of_ble_eq_true rfl) hw267.symm dX4_sum_119 rfl ?_
                            have hW268 : WX (okX E a) w266 := by rw [hw267]; exact hW253.set (k := 1) rfl ⟨n199, v201, v265, v203, by omega, rfl⟩
                            have k269 : w266[1]? = some (ob (a 1) 7 [.ref (a 2), .int (nI n199), .int v201, .int v265, .int v203]) := by rw [hw267]; exact set_eq k255
                            have kp270 := keeps_set kp256 hw267 (by first | exact rfl | decide | omega | (dsimp only; omega))
                            refine x_iinc C (v := (nI (k + 1))) (lv' := [(5, .int (nI (k + 1))), (3, .int r205), (4, .int r205), (0, .ref (a 1)), (1, .ref (a 79)), (2, .int (nI o))]) dX4_sum_122 5 rfl (nI_add k 1) (by decide) rfl rfl ?_
                            refine x_goto C (tgt := 8) dX4_sum_125 (by decide) ?_
                            refine x_lv (lv1 := [(0, .ref (a 1)), (1, .ref (a 79)), (2, .int (nI o)), (3, .int r205), (4, .int r205), (5, .int (nI (k + 1)))]) [3, 4, 5, 1, 2, 0] rfl ?_
                            exact ih8 r205 r205 (k + 1) w266 hW268 (by omega) (by omega) kp270
                          · skip
                            refine x_iconst C (v := 1) dX4_sum_107 (by decide) rfl ?_
                            exact x_zret C hr hlk rfl dX4_sum_108 ⟨hW253, kp256, (Or.inr rfl)⟩
              · skip
                refine x_aload_n C dX4_sum_48 rfl 1 rfl rfl ?_
                refine x_iload C dX4_sum_49 4 rfl rfl ?_
                refine x_iconst C (v := 0) dX4_sum_51 (by decide) rfl ?_
                obtain ⟨_, k271, v272, n273, n275, bn274, bn276, rfl⟩ := hW20 79 _ rfl
                refine x_vv C (As := [.int z8_4, .int 0]) (rest := []) (c_emit E l a w19 hW20 z8_4 (0 : Int32)) mf_X3_emit w_631 79 k271 rfl rfl rfl (Nat.le_of_ble_eq_true rfl) ⟨(by dsimp only [xRm]; omega), (by dsimp only [xRm]; omega)⟩ ⟨(Nat.le_of_ble_eq_true rfl), (Nat.le_of_ble_eq_true rfl)⟩ dX4_sum_52 rfl (fun w279 h277 => ?_)
                obtain ⟨hW280, kq281⟩ := h277
                have kp282 := keeps_tr kp23 kq281 (fun q hq => by first | omega | (dsimp only at *; omega))
                refine x_aload_n C dX4_sum_55 rfl 0 rfl rfl ?_
                obtain ⟨_, k283, n284, v286, v287, v288, bn285, rfl⟩ := hW280 1 _ rfl
                refine x_vi C (As := []) (rest := []) (c_sign E l a w279 hW280) mf_X8_sign w_522 1 k283 rfl rfl rfl (Nat.le_of_ble_eq_true rfl) ⟨(by dsimp only [xRm]; omega), (by dsimp only [xRm]; omega)⟩ ⟨(Nat.le_of_ble_eq_true rfl), (Nat.le_of_ble_eq_true rfl)⟩ dX4_sum_56 rfl (fun r290 w291 h289 => ?_)
                have hW292 := h289
                refine x_ws hW292 ?_
                refine x_istore C (lv' := [(4, .int r290), (0, .ref (a 1)), (1, .ref (a 79)), (2, .int (nI o)), (3, .int z8_3), (5, .int (nI k))]) dX4_sum_59 (by decide) rfl rfl ?_
                refine x_iload C dX4_sum_61 0 rfl rfl ?_
                refine x_bipush C (v := 42) dX4_sum_63 (by decide) rfl ?_
                refine x_icmp_eq C (tgt := 112) dX4_sum_65 (by decide) rfl (fun c293 => ?_) (fun c293 => ?_)
                · skip
                  refine x_aload_n C dX4_sum_112 rfl 1 rfl rfl ?_
                  refine x_dup C dX4_sum_113 rfl rfl ?_
                  refine x_get C (ci := 7) (k := 3) 1 k283 rfl in_X8 (by decide) w_41 rfl dX4_sum_114 rfl ?_
                  refine x_iconst C (v := 1) dX4_sum_117 (by decide) rfl ?_
                  refine x_iadd C (v := (v287 + (1 : Int32))) dX4_sum_118 rfl rfl ?_
                  refine x_any (fun v294 => ?_)
                  obtain ⟨w295, hw296⟩ : ∃ w : va_W, w = List.set w279 1 (ob (a 1) 7 [.ref (a 2), .int (nI n284), .int v286, .int v294, .int v288]) := ⟨_, rfl⟩
                  refine x_put C (ci := 7) (k := 3) (ty := .int) 1 k283 rfl in_X8 tyX8 tyX8_ok nmX8 (by decide) w_41 rfl rfl rfl rfl (Nat.le_of_ble_eq_true rfl) hw296.symm dX4_sum_119 rfl ?_
                  have hW297 : WX (okX E a) w295 := by rw [hw296]; exact hW280.set (k := 1) rfl ⟨n284, v286, v294, v288, by omega, rfl⟩
                  have k298 : w295[1]? = some (ob (a 1) 7 [.ref (a 2), .int (nI n284), .int v286, .int v294, .int v288]) := by rw [hw296]; exact set_eq k283
                  have kp299 := keeps_set kp282 hw296 (by first | exact rfl | decide | omega | (dsimp only; omega))
                  refine x_iinc C (v := (nI (k + 1))) (lv' := [(5, .int (nI (k + 1))), (4, .int r290), (0, .ref (a 1)), (1, .ref (a 79)), (2, .int (nI o)), (3, .int z8_3)]) dX4_sum_122 5 rfl (nI_add k 1) (by decide) rfl rfl ?_
                  refine x_goto C (tgt := 8) dX4_sum_125 (by decide) ?_
                  refine x_lv (lv1 := [(0, .ref (a 1)), (1, .ref (a 79)), (2, .int (nI o)), (3, .int z8_3), (4, .int r290), (5, .int (nI (k + 1)))]) [2, 3, 4, 5, 1, 0] rfl ?_
                  exact ih8 z8_3 r290 (k + 1) w295 hW297 (by omega) (by omega) kp299
                · skip
                  refine x_iload C dX4_sum_68 0 rfl rfl ?_
                  refine x_bipush C (v := 47) dX4_sum_70 (by decide) rfl ?_
                  refine x_icmp_eq C (tgt := 112) dX4_sum_72 (by decide) rfl (fun c300 => ?_) (fun c300 => ?_)
                  · skip
                    refine x_aload_n C dX4_sum_112 rfl 1 rfl rfl ?_
                    refine x_dup C dX4_sum_113 rfl rfl ?_
                    refine x_get C (ci := 7) (k := 3) 1 k283 rfl in_X8 (by decide) w_41 rfl dX4_sum_114 rfl ?_
                    refine x_iconst C (v := 1) dX4_sum_117 (by decide) rfl ?_
                    refine x_iadd C (v := (v287 + (1 : Int32))) dX4_sum_118 rfl rfl ?_
                    refine x_any (fun v301 => ?_)
                    obtain ⟨w302, hw303⟩ : ∃ w : va_W, w = List.set w279 1 (ob (a 1) 7 [.ref (a 2), .int (nI n284), .int v286, .int v301, .int v288]) := ⟨_, rfl⟩
                    refine x_put C (ci := 7) (k := 3) (ty := .int) 1 k283 rfl in_X8 tyX8 tyX8_ok nmX8 (by decide) w_41 rfl rfl rfl rfl (Nat.le_of_ble_eq_true rfl) hw303.symm dX4_sum_119 rfl ?_
                    have hW304 : WX (okX E a) w302 := by rw [hw303]; exact hW280.set (k := 1) rfl ⟨n284, v286, v301, v288, by omega, rfl⟩
                    have k305 : w302[1]? = some (ob (a 1) 7 [.ref (a 2), .int (nI n284), .int v286, .int v301, .int v288]) := by rw [hw303]; exact set_eq k283
                    have kp306 := keeps_set kp282 hw303 (by first | exact rfl | decide | omega | (dsimp only; omega))
                    refine x_iinc C (v := (nI (k + 1))) (lv' := [(5, .int (nI (k + 1))), (4, .int r290), (0, .ref (a 1)), (1, .ref (a 79)), (2, .int (nI o)), (3, .int z8_3)]) dX4_sum_122 5 rfl (nI_add k 1) (by decide) rfl rfl ?_
                    refine x_goto C (tgt := 8) dX4_sum_125 (by decide) ?_
                    refine x_lv (lv1 := [(0, .ref (a 1)), (1, .ref (a 79)), (2, .int (nI o)), (3, .int z8_3), (4, .int r290), (5, .int (nI (k + 1)))]) [2, 3, 4, 5, 1, 0] rfl ?_
                    exact ih8 z8_3 r290 (k + 1) w302 hW304 (by omega) (by omega) kp306
                  · skip
                    refine x_iload C dX4_sum_75 0 rfl rfl ?_
                    refine x_bipush C (v := 37) dX4_sum_77 (by decide) rfl ?_
                    refine x_icmp_eq C (tgt := 112) dX4_sum_79 (by decide) rfl (fun c307 => ?_) (fun c307 => ?_)
                    · skip
                      refine x_aload_n C dX4_sum_112 rfl 1 rfl rfl ?_
                      refine x_dup C dX4_sum_113 rfl rfl ?_
                      refine x_get C (ci := 7) (k := 3) 1 k283 rfl in_X8 (by decide) w_41 rfl dX4_sum_114 rfl ?_
                      refine x_iconst C (v := 1) dX4_sum_117 (by decide) rfl ?_
                      refine x_iadd C (v := (v287 + (1 : Int32))) dX4_sum_118 rfl rfl ?_
                      refine x_any (fun v308 => ?_)
                      obtain ⟨w309, hw310⟩ : ∃ w : va_W, w = List.set w279 1 (ob (a 1) 7 [.ref (a 2), .int (nI n284), .int v286, .int v308, .int v288]) := ⟨_, rfl⟩
                      refine x_put C (ci := 7) (k := 3) (ty := .int) 1 k283 rfl in_X8 tyX8 tyX8_ok nmX8 (by decide) w_41 rfl rfl rfl rfl (Nat.le_of_ble_eq_true rfl) hw310.symm dX4_sum_119 rfl ?_
                      have hW311 : WX (okX E a) w309 := by rw [hw310]; exact hW280.set (k := 1) rfl ⟨n284, v286, v308, v288, by omega, rfl⟩
                      have k312 : w309[1]? = some (ob (a 1) 7 [.ref (a 2), .int (nI n284), .int v286, .int v308, .int v288]) := by rw [hw310]; exact set_eq k283
                      have kp313 := keeps_set kp282 hw310 (by first | exact rfl | decide | omega | (dsimp only; omega))
                      refine x_iinc C (v := (nI (k + 1))) (lv' := [(5, .int (nI (k + 1))), (4, .int r290), (0, .ref (a 1)), (1, .ref (a 79)), (2, .int (nI o)), (3, .int z8_3)]) dX4_sum_122 5 rfl (nI_add k 1) (by decide) rfl rfl ?_
                      refine x_goto C (tgt := 8) dX4_sum_125 (by decide) ?_
                      refine x_lv (lv1 := [(0, .ref (a 1)), (1, .ref (a 79)), (2, .int (nI o)), (3, .int z8_3), (4, .int r290), (5, .int (nI (k + 1)))]) [2, 3, 4, 5, 1, 0] rfl ?_
                      exact ih8 z8_3 r290 (k + 1) w309 hW311 (by omega) (by omega) kp313
                    · skip
                      refine x_iload_n C dX4_sum_82 rfl 4 rfl rfl ?_
                      refine x_iconst C (v := (-1)) dX4_sum_83 (by decide) rfl ?_
                      refine x_icmp_eq C (tgt := 93) dX4_sum_84 (by decide) rfl (fun c314 => ?_) (fun c314 => ?_)
                      · skip
                        refine x_iload C dX4_sum_93 0 rfl rfl ?_
                        refine x_bipush C (v := 43) dX4_sum_95 (by decide) rfl ?_
                        refine x_icmp_eq C (tgt := 109) dX4_sum_97 (by decide) rfl (fun c315 => ?_) (fun c315 => ?_)
                        · skip
                          refine x_iload C dX4_sum_109 0 rfl rfl ?_
                          refine x_istore_n C (lv' := [(3, .int r290), (4, .int r290), (0, .ref (a 1)), (1, .ref (a 79)), (2, .int (nI o)), (5, .int (nI k))]) dX4_sum_111 rfl (by decide) rfl rfl ?_
                          refine x_aload_n C dX4_sum_112 rfl 2 rfl rfl ?_
                          refine x_dup C dX4_sum_113 rfl rfl ?_
                          refine x_get C (ci := 7) (k := 3) 1 k283 rfl in_X8 (by decide) w_41 rfl dX4_sum_114 rfl ?_
                          refine x_iconst C (v := 1) dX4_sum_117 (by decide) rfl ?_
                          refine x_iadd C (v := (v287 + (1 : Int32))) dX4_sum_118 rfl rfl ?_
                          refine x_any (fun v316 => ?_)
                          obtain ⟨w317, hw318⟩ : ∃ w : va_W, w = List.set w279 1 (ob (a 1) 7 [.ref (a 2), .int (nI n284), .int v286, .int v316, .int v288]) := ⟨_, rfl⟩
                          refine x_put C (ci := 7) (k := 3) (ty := .int) 1 k283 rfl in_X8 tyX8 tyX8_ok nmX8 (by decide) w_41 rfl rfl rfl rfl (Nat.le_of_ble_eq_true rfl) hw318.symm dX4_sum_119 rfl ?_
                          have hW319 : WX (okX E a) w317 := by rw [hw318]; exact hW280.set (k := 1) rfl ⟨n284, v286, v316, v288, by omega, rfl⟩
                          have k320 : w317[1]? = some (ob (a 1) 7 [.ref (a 2), .int (nI n284), .int v286, .int v316, .int v288]) := by rw [hw318]; exact set_eq k283
                          have kp321 := keeps_set kp282 hw318 (by first | exact rfl | decide | omega | (dsimp only; omega))
                          refine x_iinc C (v := (nI (k + 1))) (lv' := [(5, .int (nI (k + 1))), (3, .int r290), (4, .int r290), (0, .ref (a 1)), (1, .ref (a 79)), (2, .int (nI o))]) dX4_sum_122 5 rfl (nI_add k 1) (by decide) rfl rfl ?_
                          refine x_goto C (tgt := 8) dX4_sum_125 (by decide) ?_
                          refine x_lv (lv1 := [(0, .ref (a 1)), (1, .ref (a 79)), (2, .int (nI o)), (3, .int r290), (4, .int r290), (5, .int (nI (k + 1)))]) [3, 4, 5, 1, 2, 0] rfl ?_
                          exact ih8 r290 r290 (k + 1) w317 hW319 (by omega) (by omega) kp321
                        · skip
                          refine x_iload C dX4_sum_100 0 rfl rfl ?_
                          refine x_bipush C (v := 45) dX4_sum_102 (by decide) rfl ?_
                          refine x_icmp_eq C (tgt := 109) dX4_sum_104 (by decide) rfl (fun c322 => ?_) (fun c322 => ?_)
                          · skip
                            refine x_iload C dX4_sum_109 0 rfl rfl ?_
                            refine x_istore_n C (lv' := [(3, .int r290), (4, .int r290), (0, .ref (a 1)), (1, .ref (a 79)), (2, .int (nI o)), (5, .int (nI k))]) dX4_sum_111 rfl (by decide) rfl rfl ?_
                            refine x_aload_n C dX4_sum_112 rfl 2 rfl rfl ?_
                            refine x_dup C dX4_sum_113 rfl rfl ?_
                            refine x_get C (ci := 7) (k := 3) 1 k283 rfl in_X8 (by decide) w_41 rfl dX4_sum_114 rfl ?_
                            refine x_iconst C (v := 1) dX4_sum_117 (by decide) rfl ?_
                            refine x_iadd C (v := (v287 + (1 : Int32))) dX4_sum_118 rfl rfl ?_
                            refine x_any (fun v323 => ?_)
                            obtain ⟨w324, hw325⟩ : ∃ w : va_W, w = List.set w279 1 (ob (a 1) 7 [.ref (a 2), .int (nI n284), .int v286, .int v323, .int v288]) := ⟨_, rfl⟩
                            refine x_put C (ci := 7) (k := 3) (ty := .int) 1 k283 rfl in_X8 tyX8 tyX8_ok nmX8 (by decide) w_41 rfl rfl rfl rfl (Nat.le_of_ble_eq_true rfl) hw325.symm dX4_sum_119 rfl ?_
                            have hW326 : WX (okX E a) w324 := by rw [hw325]; exact hW280.set (k := 1) rfl ⟨n284, v286, v323, v288, by omega, rfl⟩
                            have k327 : w324[1]? = some (ob (a 1) 7 [.ref (a 2), .int (nI n284), .int v286, .int v323, .int v288]) := by rw [hw325]; exact set_eq k283
                            have kp328 := keeps_set kp282 hw325 (by first | exact rfl | decide | omega | (dsimp only; omega))
                            refine x_iinc C (v := (nI (k + 1))) (lv' := [(5, .int (nI (k + 1))), (3, .int r290), (4, .int r290), (0, .ref (a 1)), (1, .ref (a 79)), (2, .int (nI o))]) dX4_sum_122 5 rfl (nI_add k 1) (by decide) rfl rfl ?_
                            refine x_goto C (tgt := 8) dX4_sum_125 (by decide) ?_
                            refine x_lv (lv1 := [(0, .ref (a 1)), (1, .ref (a 79)), (2, .int (nI o)), (3, .int r290), (4, .int r290), (5, .int (nI (k + 1)))]) [3, 4, 5, 1, 2, 0] rfl ?_
                            exact ih8 r290 r290 (k + 1) w324 hW326 (by omega) (by omega) kp328
                          · skip
                            refine x_iconst C (v := 1) dX4_sum_107 (by decide) rfl ?_
                            exact x_zret C hr hlk rfl dX4_sum_108 ⟨hW280, kp282, (Or.inr rfl)⟩
                      · skip
                        refine x_aload_n C dX4_sum_87 rfl 2 rfl rfl ?_
                        refine x_iload_n C dX4_sum_88 rfl 4 rfl rfl ?_
                        refine x_iconst C (v := 0) dX4_sum_89 (by decide) rfl ?_
                        obtain ⟨_, k329, v330, n331, n333, bn332, bn334, rfl⟩ := hW280 79 _ rfl
                        refine x_vv C (As := [.int z8_3, .int 0]) (rest := []) (c_emit E l a w279 hW280 z8_3 (0 : Int32)) mf_X3_emit w_631 79 k329 rfl rfl rfl (Nat.le_of_ble_eq_true rfl) ⟨(by dsimp only [xRm]; omega), (by dsimp only [xRm]; omega)⟩ ⟨(Nat.le_of_ble_eq_true rfl), (Nat.le_of_ble_eq_true rfl)⟩ dX4_sum_90 rfl (fun w337 h335 => ?_)
                        obtain ⟨hW338, kq339⟩ := h335
                        have k340 : w337[1]? = some (ob (a 1) 7 [.ref (a 2), .int (nI n284), .int v286, .int v287, .int v288]) := keeps_at kq339 k283 (by first | decide | omega | (dsimp only; omega))
                        have kp341 := keeps_tr kp282 kq339 (fun q hq => by first | omega | (dsimp only at *; omega))
                        refine x_iload C dX4_sum_93 0 rfl rfl ?_
                        refine x_bipush C (v := 43) dX4_sum_95 (by decide) rfl ?_
                        refine x_icmp_eq C (tgt := 109) dX4_sum_97 (by decide) rfl (fun c342 => ?_) (fun c342 => ?_)
                        · skip
                          refine x_iload C dX4_sum_109 0 rfl rfl ?_
                          refine x_istore_n C (lv' := [(3, .int r290), (4, .int r290), (0, .ref (a 1)), (1, .ref (a 79)), (2, .int (nI o)), (5, .int (nI k))]) dX4_sum_111 rfl (by decide) rfl rfl ?_
                          refine x_aload_n C dX4_sum_112 rfl 2 rfl rfl ?_
                          refine x_dup C dX4_sum_113 rfl rfl ?_
                          refine x_get C (ci := 7) (k := 3) 1 k340 rfl in_X8 (by decide) w_41 rfl dX4_sum_114 rfl ?_
                          refine x_iconst C (v := 1) dX4_sum_117 (by decide) rfl ?_
                          refine x_iadd C (v := (v287 + (1 : Int32))) dX4_sum_118 rfl rfl ?_
                          refine x_any (fun v343 => ?_)
                          obtain ⟨w344, hw345⟩ : ∃ w : va_W, w = List.set w337 1 (ob (a 1) 7 [.ref (a 2), .int (nI n284), .int v286, .int v343, .int v288]) := ⟨_, rfl⟩
                          refine x_put C (ci := 7) (k := 3) (ty := .int) 1 k340 rfl in_X8 tyX8 tyX8_ok nmX8 (by decide) w_41 rfl rfl rfl rfl (Nat.le_of_ble_eq_true rfl) hw345.symm dX4_sum_119 rfl ?_
                          have hW346 : WX (okX E a) w344 := by rw [hw345]; exact hW338.set (k := 1) rfl ⟨n284, v286, v343, v288, by omega, rfl⟩
                          have k347 : w344[1]? = some (ob (a 1) 7 [.ref (a 2), .int (nI n284), .int v286, .int v343, .int v288]) := by rw [hw345]; exact set_eq k340
                          have kp348 := keeps_set kp341 hw345 (by first | exact rfl | decide | omega | (dsimp only; omega))
                          refine x_iinc C (v := (nI (k + 1))) (lv' := [(5, .int (nI (k + 1))), (3, .int r290), (4, .int r290), (0, .ref (a 1)), (1, .ref (a 79)), (2, .int (nI o))]) dX4_sum_122 5 rfl (nI_add k 1) (by decide) rfl rfl ?_
                          refine x_goto C (tgt := 8) dX4_sum_125 (by decide) ?_
                          refine x_lv (lv1 := [(0, .ref (a 1)), (1, .ref (a 79)), (2, .int (nI o)), (3, .int r290), (4, .int r290), (5, .int (nI (k + 1)))]) [3, 4, 5, 1, 2, 0] rfl ?_
                          exact ih8 r290 r290 (k + 1) w344 hW346 (by omega) (by omega) kp348
                        · skip
                          refine x_iload C dX4_sum_100 0 rfl rfl ?_
                          refine x_bipush C (v := 45) dX4_sum_102 (by decide) rfl ?_
                          refine x_icmp_eq C (tgt := 109) dX4_sum_104 (by decide) rfl (fun c349 => ?_) (fun c349 => ?_)
                          · skip
                            refine x_iload C dX4_sum_109 0 rfl rfl ?_
                            refine x_istore_n C (lv' := [(3, .int r290), (4, .int r290), (0, .ref (a 1)), (1, .ref (a 79)), (2, .int (nI o)), (5, .int (nI k))]) dX4_sum_111 rfl (by decide) rfl rfl ?_
                            refine x_aload_n C dX4_sum_112 rfl 2 rfl rfl ?_
                            refine x_dup C dX4_sum_113 rfl rfl ?_
                            refine x_get C (ci := 7) (k := 3) 1 k340 rfl in_X8 (by decide) w_41 rfl dX4_sum_114 rfl ?_
                            refine x_iconst C (v := 1) dX4_sum_117 (by decide) rfl ?_
                            refine x_iadd C (v := (v287 + (1 : Int32))) dX4_sum_118 rfl rfl ?_
                            refine x_any (fun v350 => ?_)
                            obtain ⟨w351, hw352⟩ : ∃ w : va_W, w = List.set w337 1 (ob (a 1) 7 [.ref (a 2), .int (nI n284), .int v286, .int v350, .int v288]) := ⟨_, rfl⟩
                            refine x_put C (ci := 7) (k := 3) (ty := .int) 1 k340 rfl in_X8 tyX8 tyX8_ok nmX8 (by decide) w_41 rfl rfl rfl rfl (Nat.le_of_ble_eq_true rfl) hw352.symm dX4_sum_119 rfl ?_
                            have hW353 : WX (okX E a) w351 := by rw [hw352]; exact hW338.set (k := 1) rfl ⟨n284, v286, v350, v288, by omega, rfl⟩
                            have k354 : w351[1]? = some (ob (a 1) 7 [.ref (a 2), .int (nI n284), .int v286, .int v350, .int v288]) := by rw [hw352]; exact set_eq k340
                            have kp355 := keeps_set kp341 hw352 (by first | exact rfl | decide | omega | (dsimp only; omega))
                            refine x_iinc C (v := (nI (k + 1))) (lv' := [(5, .int (nI (k + 1))), (3, .int r290), (4, .int r290), (0, .ref (a 1)), (1, .ref (a 79)), (2, .int (nI o))]) dX4_sum_122 5 rfl (nI_add k 1) (by decide) rfl rfl ?_
                            refine x_goto C (tgt := 8) dX4_sum_125 (by decide) ?_
                            refine x_lv (lv1 := [(0, .ref (a 1)), (1, .ref (a 79)), (2, .int (nI o)), (3, .int r290), (4, .int r290), (5, .int (nI (k + 1)))]) [3, 4, 5, 1, 2, 0] rfl ?_
                            exact ih8 r290 r290 (k + 1) w351 hW353 (by omega) (by omega) kp355
                          · skip
                            refine x_iconst C (v := 1) dX4_sum_107 (by decide) rfl ?_
                            exact x_zret C hr hlk rfl dX4_sum_108 ⟨hW338, kp341, (Or.inr rfl)⟩
        · skip
          refine x_iconst C (v := 0) dX4_sum_25 (by decide) rfl ?_
          exact x_zret C hr hlk rfl dX4_sum_26 ⟨hW20, kp23, (Or.inl rfl)⟩
  refine x_lv (lv1 := [(0, .ref (a 1)), (1, .ref (a 79)), (2, .int (nI o)), (3, .int (-1)), (4, .int (-1)), (5, .int 0)]) [3, 4, 5, 2, 1, 0] rfl ?_
  exact loop8 _ ((-1) : Int32) ((-1) : Int32) 0 ws hW (Nat.lt_succ_self _) (by omega) kp0
theorem sum_all (E : xE) (l : Launch) (a : Nat → Nat) : ∀ n, SumC E l a n := by
  intro n
  induction n with
  | zero =>
    have h1 : FacC E l a 0 := fun ws hW o ho hn => c_factor E l a ws hW o ho 0 hn (fun k hk => by omega)
    exact fun ws hW o ho hn => c_sum E l a ws hW o ho 0 hn h1
  | succ n ih =>
    have h1 : FacC E l a (n + 1) := fun ws hW o ho hn => c_factor E l a ws hW o ho (n + 1) hn (fun k hk => by
      have : k = n := by omega
      subst this; exact ih)
    exact fun ws hW o ho hn => c_sum E l a ws hW o ho (n + 1) hn h1
theorem dX4_comparison_0 : decode cX4_comparison 0 = .ok (.aload_n 0, 1) := by decide +kernel
theorem dX4_comparison_1 : decode cX4_comparison 1 = .ok (.aload_n 1, 1) := by decide +kernel
theorem dX4_comparison_2 : decode cX4_comparison 2 = .ok (.iload_n 2, 1) := by decide +kernel
theorem dX4_comparison_3 : decode cX4_comparison 3 = .ok (.invokestatic 53, 3) := by decide +kernel
theorem dX4_comparison_6 : decode cX4_comparison 6 = .ok (.ifCond .ne 5, 3) := by decide +kernel
theorem dX4_comparison_9 : decode cX4_comparison 9 = .ok (.iconst 0, 1) := by decide +kernel
theorem dX4_comparison_10 : decode cX4_comparison 10 = .ok (.ireturn, 1) := by decide +kernel
theorem dX4_comparison_11 : decode cX4_comparison 11 = .ok (.aload_n 0, 1) := by decide +kernel
theorem dX4_comparison_12 : decode cX4_comparison 12 = .ok (.invokevirtual 24, 3) := by decide +kernel
theorem dX4_comparison_15 : decode cX4_comparison 15 = .ok (.istore_n 3, 1) := by decide +kernel
theorem dX4_comparison_16 : decode cX4_comparison 16 = .ok (.iload_n 3, 1) := by decide +kernel
theorem dX4_comparison_17 : decode cX4_comparison 17 = .ok (.bipush 60, 2) := by decide +kernel
theorem dX4_comparison_19 : decode cX4_comparison 19 = .ok (.if_icmp .eq 21, 3) := by decide +kernel
theorem dX4_comparison_22 : decode cX4_comparison 22 = .ok (.iload_n 3, 1) := by decide +kernel
theorem dX4_comparison_23 : decode cX4_comparison 23 = .ok (.bipush 62, 2) := by decide +kernel
theorem dX4_comparison_25 : decode cX4_comparison 25 = .ok (.if_icmp .eq 15, 3) := by decide +kernel
theorem dX4_comparison_28 : decode cX4_comparison 28 = .ok (.iload_n 3, 1) := by decide +kernel
theorem dX4_comparison_29 : decode cX4_comparison 29 = .ok (.bipush 61, 2) := by decide +kernel
theorem dX4_comparison_31 : decode cX4_comparison 31 = .ok (.if_icmp .eq 9, 3) := by decide +kernel
theorem dX4_comparison_34 : decode cX4_comparison 34 = .ok (.aload_n 0, 1) := by decide +kernel
theorem dX4_comparison_35 : decode cX4_comparison 35 = .ok (.iconst 1, 1) := by decide +kernel
theorem dX4_comparison_36 : decode cX4_comparison 36 = .ok (.invokevirtual 34, 3) := by decide +kernel
theorem dX4_comparison_39 : decode cX4_comparison 39 = .ok (.ireturn, 1) := by decide +kernel
theorem dX4_comparison_40 : decode cX4_comparison 40 = .ok (.aload_n 0, 1) := by decide +kernel
theorem dX4_comparison_41 : decode cX4_comparison 41 = .ok (.dup, 1) := by decide +kernel
theorem dX4_comparison_42 : decode cX4_comparison 42 = .ok (.getfield 43, 3) := by decide +kernel
theorem dX4_comparison_45 : decode cX4_comparison 45 = .ok (.iconst 1, 1) := by decide +kernel
theorem dX4_comparison_46 : decode cX4_comparison 46 = .ok (.iadd, 1) := by decide +kernel
theorem dX4_comparison_47 : decode cX4_comparison 47 = .ok (.putfield 43, 3) := by decide +kernel
theorem dX4_comparison_50 : decode cX4_comparison 50 = .ok (.aload_n 0, 1) := by decide +kernel
theorem dX4_comparison_51 : decode cX4_comparison 51 = .ok (.aload_n 1, 1) := by decide +kernel
theorem dX4_comparison_52 : decode cX4_comparison 52 = .ok (.iload_n 2, 1) := by decide +kernel
theorem dX4_comparison_53 : decode cX4_comparison 53 = .ok (.invokestatic 53, 3) := by decide +kernel
theorem dX4_comparison_56 : decode cX4_comparison 56 = .ok (.ifCond .ne 5, 3) := by decide +kernel
theorem dX4_comparison_59 : decode cX4_comparison 59 = .ok (.iconst 0, 1) := by decide +kernel
theorem dX4_comparison_60 : decode cX4_comparison 60 = .ok (.ireturn, 1) := by decide +kernel
theorem dX4_comparison_61 : decode cX4_comparison 61 = .ok (.aload_n 1, 1) := by decide +kernel
theorem dX4_comparison_62 : decode cX4_comparison 62 = .ok (.iload_n 3, 1) := by decide +kernel
theorem dX4_comparison_63 : decode cX4_comparison 63 = .ok (.iconst 0, 1) := by decide +kernel
theorem dX4_comparison_64 : decode cX4_comparison 64 = .ok (.invokevirtual 72, 3) := by decide +kernel
theorem dX4_comparison_67 : decode cX4_comparison 67 = .ok (.iconst 1, 1) := by decide +kernel
theorem dX4_comparison_68 : decode cX4_comparison 68 = .ok (.ireturn, 1) := by decide +kernel
set_option maxRecDepth 20000 in
set_option maxHeartbeats 4000000 in
theorem c_comparison (E : xE) (l : Launch) (a : Nat → Nat) (ws : va_W) (hW : WX (okX E a) ws) (o : Nat) (ho : o ≤ 6) : xI E l yX4_comparison cX4_comparison 4 (some .boolean) 28 [.ref (a 1), .ref (a 79), .int (nI o)] ws (fun r w => WX (okX E a) w ∧ keeps ws w (fun q => (q = 1 ∨ q = 2) ∨ (79 ≤ q ∧ q < 87)) ∧ zb r) := by
  refine xI_start (lv := [(0, .ref (a 1)), (1, .ref (a 79)), (2, .int (nI o))]) RX4 (by decide) rfl (Nat.le_of_ble_eq_true rfl) rfl (fun p e s m below meth c A C hr hlk => ?_)
  have kp0 : keeps ws ws (fun q => (q = 1 ∨ q = 2) ∨ (79 ≤ q ∧ q < 87)) := keeps_rf
  refine x_aload_n C dX4_comparison_0 rfl 0 rfl rfl ?_
  refine x_aload_n C dX4_comparison_1 rfl 1 rfl rfl ?_
  refine x_iload_n C dX4_comparison_2 rfl 2 rfl rfl ?_
  refine x_si C (As := [.ref (a 1), .ref (a 79), .int (nI o)]) (rest := []) (sum_all E l a 6 ws hW o (by omega) (by omega)) mf_X4_sum w_619 rfl rfl (Nat.le_of_ble_eq_true rfl) ⟨(Nat.le_of_ble_eq_true rfl), (Nat.le_of_ble_eq_true rfl)⟩ ⟨(Nat.le_of_ble_eq_true rfl), (Nat.le_of_ble_eq_true rfl)⟩ dX4_comparison_3 rfl (fun r2 w3 h1 => ?_)
  obtain ⟨hW4, kq5, zb6⟩ := h1
  have kp7 := keeps_tr kp0 kq5 (fun q hq => by first | omega | (dsimp only at *; omega))
  refine x_if_ne C (tgt := 11) dX4_comparison_6 (by decide) rfl (fun c8 => ?_) (fun c8 => ?_)
  · skip
    refine x_aload_n C dX4_comparison_11 rfl 0 rfl rfl ?_
    obtain ⟨_, k9, n10, v12, v13, v14, bn11, rfl⟩ := hW4 1 _ rfl
    refine x_vi C (As := []) (rest := []) (c_sign E l a w3 hW4) mf_X8_sign w_522 1 k9 rfl rfl rfl (Nat.le_of_ble_eq_true rfl) ⟨(Nat.le_of_ble_eq_true rfl), (Nat.le_of_ble_eq_true rfl)⟩ ⟨(Nat.le_of_ble_eq_true rfl), (Nat.le_of_ble_eq_true rfl)⟩ dX4_comparison_12 rfl (fun r16 w17 h15 => ?_)
    have hW18 := h15
    refine x_ws hW18 ?_
    refine x_istore_n C (lv' := [(3, .int r16), (0, .ref (a 1)), (1, .ref (a 79)), (2, .int (nI o))]) dX4_comparison_15 rfl (by decide) rfl rfl ?_
    refine x_iload_n C dX4_comparison_16 rfl 0 rfl rfl ?_
    refine x_bipush C (v := 60) dX4_comparison_17 (by decide) rfl ?_
    refine x_icmp_eq C (tgt := 40) dX4_comparison_19 (by decide) rfl (fun c19 => ?_) (fun c19 => ?_)
    · skip
      refine x_aload_n C dX4_comparison_40 rfl 1 rfl rfl ?_
      refine x_dup C dX4_comparison_41 rfl rfl ?_
      refine x_get C (ci := 7) (k := 3) 1 k9 rfl in_X8 (by decide) w_41 rfl dX4_comparison_42 rfl ?_
      refine x_iconst C (v := 1) dX4_comparison_45 (by decide) rfl ?_
      refine x_iadd C (v := (v13 + (1 : Int32))) dX4_comparison_46 rfl rfl ?_
      refine x_any (fun v20 => ?_)
      obtain ⟨w21, hw22⟩ : ∃ w : va_W, w = List.set w3 1 (ob (a 1) 7 [.ref (a 2), .int (nI n10), .int v12, .int v20, .int v14]) := ⟨_, rfl⟩
      refine x_put C (ci := 7) (k := 3) (ty := .int) 1 k9 rfl in_X8 tyX8 tyX8_ok nmX8 (by decide) w_41 rfl rfl rfl rfl (Nat.le_of_ble_eq_true rfl) hw22.symm dX4_comparison_47 rfl ?_
      have hW23 : WX (okX E a) w21 := by rw [hw22]; exact hW4.set (k := 1) rfl ⟨n10, v12, v20, v14, by omega, rfl⟩
      have k24 : w21[1]? = some (ob (a 1) 7 [.ref (a 2), .int (nI n10), .int v12, .int v20, .int v14]) := by rw [hw22]; exact set_eq k9
      have kp25 := keeps_set kp7 hw22 (by first | exact rfl | decide | omega | (dsimp only; omega))
      refine x_aload_n C dX4_comparison_50 rfl 1 rfl rfl ?_
      refine x_aload_n C dX4_comparison_51 rfl 2 rfl rfl ?_
      refine x_iload_n C dX4_comparison_52 rfl 3 rfl rfl ?_
      refine x_si C (As := [.ref (a 1), .ref (a 79), .int (nI o)]) (rest := []) (sum_all E l a 6 w21 hW23 o (by omega) (by omega)) mf_X4_sum w_619 rfl rfl (Nat.le_of_ble_eq_true rfl) ⟨(Nat.le_of_ble_eq_true rfl), (Nat.le_of_ble_eq_true rfl)⟩ ⟨(Nat.le_of_ble_eq_true rfl), (Nat.le_of_ble_eq_true rfl)⟩ dX4_comparison_53 rfl (fun r27 w28 h26 => ?_)
      obtain ⟨hW29, kq30, zb31⟩ := h26
      have kp32 := keeps_tr kp25 kq30 (fun q hq => by first | omega | (dsimp only at *; omega))
      refine x_if_ne C (tgt := 61) dX4_comparison_56 (by decide) rfl (fun c33 => ?_) (fun c33 => ?_)
      · skip
        refine x_aload_n C dX4_comparison_61 rfl 2 rfl rfl ?_
        refine x_iload_n C dX4_comparison_62 rfl 0 rfl rfl ?_
        refine x_iconst C (v := 0) dX4_comparison_63 (by decide) rfl ?_
        obtain ⟨_, k34, v35, n36, n38, bn37, bn39, rfl⟩ := hW29 79 _ rfl
        refine x_vv C (As := [.int r16, .int 0]) (rest := []) (c_emit E l a w28 hW29 r16 (0 : Int32)) mf_X3_emit w_631 79 k34 rfl rfl rfl (Nat.le_of_ble_eq_true rfl) ⟨(Nat.le_of_ble_eq_true rfl), (Nat.le_of_ble_eq_true rfl)⟩ ⟨(Nat.le_of_ble_eq_true rfl), (Nat.le_of_ble_eq_true rfl)⟩ dX4_comparison_64 rfl (fun w42 h40 => ?_)
        obtain ⟨hW43, kq44⟩ := h40
        have kp45 := keeps_tr kp32 kq44 (fun q hq => by first | omega | (dsimp only at *; omega))
        refine x_iconst C (v := 1) dX4_comparison_67 (by decide) rfl ?_
        exact x_zret C hr hlk rfl dX4_comparison_68 ⟨hW43, kp45, (Or.inr rfl)⟩
      · skip
        refine x_iconst C (v := 0) dX4_comparison_59 (by decide) rfl ?_
        exact x_zret C hr hlk rfl dX4_comparison_60 ⟨hW29, kp32, (Or.inl rfl)⟩
    · skip
      refine x_iload_n C dX4_comparison_22 rfl 0 rfl rfl ?_
      refine x_bipush C (v := 62) dX4_comparison_23 (by decide) rfl ?_
      refine x_icmp_eq C (tgt := 40) dX4_comparison_25 (by decide) rfl (fun c46 => ?_) (fun c46 => ?_)
      · skip
        refine x_aload_n C dX4_comparison_40 rfl 1 rfl rfl ?_
        refine x_dup C dX4_comparison_41 rfl rfl ?_
        refine x_get C (ci := 7) (k := 3) 1 k9 rfl in_X8 (by decide) w_41 rfl dX4_comparison_42 rfl ?_
        refine x_iconst C (v := 1) dX4_comparison_45 (by decide) rfl ?_
        refine x_iadd C (v := (v13 + (1 : Int32))) dX4_comparison_46 rfl rfl ?_
        refine x_any (fun v47 => ?_)
        obtain ⟨w48, hw49⟩ : ∃ w : va_W, w = List.set w3 1 (ob (a 1) 7 [.ref (a 2), .int (nI n10), .int v12, .int v47, .int v14]) := ⟨_, rfl⟩
        refine x_put C (ci := 7) (k := 3) (ty := .int) 1 k9 rfl in_X8 tyX8 tyX8_ok nmX8 (by decide) w_41 rfl rfl rfl rfl (Nat.le_of_ble_eq_true rfl) hw49.symm dX4_comparison_47 rfl ?_
        have hW50 : WX (okX E a) w48 := by rw [hw49]; exact hW4.set (k := 1) rfl ⟨n10, v12, v47, v14, by omega, rfl⟩
        have k51 : w48[1]? = some (ob (a 1) 7 [.ref (a 2), .int (nI n10), .int v12, .int v47, .int v14]) := by rw [hw49]; exact set_eq k9
        have kp52 := keeps_set kp7 hw49 (by first | exact rfl | decide | omega | (dsimp only; omega))
        refine x_aload_n C dX4_comparison_50 rfl 1 rfl rfl ?_
        refine x_aload_n C dX4_comparison_51 rfl 2 rfl rfl ?_
        refine x_iload_n C dX4_comparison_52 rfl 3 rfl rfl ?_
        refine x_si C (As := [.ref (a 1), .ref (a 79), .int (nI o)]) (rest := []) (sum_all E l a 6 w48 hW50 o (by omega) (by omega)) mf_X4_sum w_619 rfl rfl (Nat.le_of_ble_eq_true rfl) ⟨(Nat.le_of_ble_eq_true rfl), (Nat.le_of_ble_eq_true rfl)⟩ ⟨(Nat.le_of_ble_eq_true rfl), (Nat.le_of_ble_eq_true rfl)⟩ dX4_comparison_53 rfl (fun r54 w55 h53 => ?_)
        obtain ⟨hW56, kq57, zb58⟩ := h53
        have kp59 := keeps_tr kp52 kq57 (fun q hq => by first | omega | (dsimp only at *; omega))
        refine x_if_ne C (tgt := 61) dX4_comparison_56 (by decide) rfl (fun c60 => ?_) (fun c60 => ?_)
        · skip
          refine x_aload_n C dX4_comparison_61 rfl 2 rfl rfl ?_
          refine x_iload_n C dX4_comparison_62 rfl 0 rfl rfl ?_
          refine x_iconst C (v := 0) dX4_comparison_63 (by decide) rfl ?_
          obtain ⟨_, k61, v62, n63, n65, bn64, bn66, rfl⟩ := hW56 79 _ rfl
          refine x_vv C (As := [.int r16, .int 0]) (rest := []) (c_emit E l a w55 hW56 r16 (0 : Int32)) mf_X3_emit w_631 79 k61 rfl rfl rfl (Nat.le_of_ble_eq_true rfl) ⟨(Nat.le_of_ble_eq_true rfl), (Nat.le_of_ble_eq_true rfl)⟩ ⟨(Nat.le_of_ble_eq_true rfl), (Nat.le_of_ble_eq_true rfl)⟩ dX4_comparison_64 rfl (fun w69 h67 => ?_)
          obtain ⟨hW70, kq71⟩ := h67
          have kp72 := keeps_tr kp59 kq71 (fun q hq => by first | omega | (dsimp only at *; omega))
          refine x_iconst C (v := 1) dX4_comparison_67 (by decide) rfl ?_
          exact x_zret C hr hlk rfl dX4_comparison_68 ⟨hW70, kp72, (Or.inr rfl)⟩
        · skip
          refine x_iconst C (v := 0) dX4_comparison_59 (by decide) rfl ?_
          exact x_zret C hr hlk rfl dX4_comparison_60 ⟨hW56, kp59, (Or.inl rfl)⟩
      · skip
        refine x_iload_n C dX4_comparison_28 rfl 0 rfl rfl ?_
        refine x_bipush C (v := 61) dX4_comparison_29 (by decide) rfl ?_
        refine x_icmp_eq C (tgt := 40) dX4_comparison_31 (by decide) rfl (fun c73 => ?_) (fun c73 => ?_)
        · skip
          refine x_aload_n C dX4_comparison_40 rfl 1 rfl rfl ?_
          refine x_dup C dX4_comparison_41 rfl rfl ?_
          refine x_get C (ci := 7) (k := 3) 1 k9 rfl in_X8 (by decide) w_41 rfl dX4_comparison_42 rfl ?_
          refine x_iconst C (v := 1) dX4_comparison_45 (by decide) rfl ?_
          refine x_iadd C (v := (v13 + (1 : Int32))) dX4_comparison_46 rfl rfl ?_
          refine x_any (fun v74 => ?_)
          obtain ⟨w75, hw76⟩ : ∃ w : va_W, w = List.set w3 1 (ob (a 1) 7 [.ref (a 2), .int (nI n10), .int v12, .int v74, .int v14]) := ⟨_, rfl⟩
          refine x_put C (ci := 7) (k := 3) (ty := .int) 1 k9 rfl in_X8 tyX8 tyX8_ok nmX8 (by decide) w_41 rfl rfl rfl rfl (Nat.le_of_ble_eq_true rfl) hw76.symm dX4_comparison_47 rfl ?_
          have hW77 : WX (okX E a) w75 := by rw [hw76]; exact hW4.set (k := 1) rfl ⟨n10, v12, v74, v14, by omega, rfl⟩
          have k78 : w75[1]? = some (ob (a 1) 7 [.ref (a 2), .int (nI n10), .int v12, .int v74, .int v14]) := by rw [hw76]; exact set_eq k9
          have kp79 := keeps_set kp7 hw76 (by first | exact rfl | decide | omega | (dsimp only; omega))
          refine x_aload_n C dX4_comparison_50 rfl 1 rfl rfl ?_
          refine x_aload_n C dX4_comparison_51 rfl 2 rfl rfl ?_
          refine x_iload_n C dX4_comparison_52 rfl 3 rfl rfl ?_
          refine x_si C (As := [.ref (a 1), .ref (a 79), .int (nI o)]) (rest := []) (sum_all E l a 6 w75 hW77 o (by omega) (by omega)) mf_X4_sum w_619 rfl rfl (Nat.le_of_ble_eq_true rfl) ⟨(Nat.le_of_ble_eq_true rfl), (Nat.le_of_ble_eq_true rfl)⟩ ⟨(Nat.le_of_ble_eq_true rfl), (Nat.le_of_ble_eq_true rfl)⟩ dX4_comparison_53 rfl (fun r81 w82 h80 => ?_)
          obtain ⟨hW83, kq84, zb85⟩ := h80
          have kp86 := keeps_tr kp79 kq84 (fun q hq => by first | omega | (dsimp only at *; omega))
          refine x_if_ne C (tgt := 61) dX4_comparison_56 (by decide) rfl (fun c87 => ?_) (fun c87 => ?_)
          · skip
            refine x_aload_n C dX4_comparison_61 rfl 2 rfl rfl ?_
            refine x_iload_n C dX4_comparison_62 rfl 0 rfl rfl ?_
            refine x_iconst C (v := 0) dX4_comparison_63 (by decide) rfl ?_
            obtain ⟨_, k88, v89, n90, n92, bn91, bn93, rfl⟩ := hW83 79 _ rfl
            refine x_vv C (As := [.int r16, .int 0]) (rest := []) (c_emit E l a w82 hW83 r16 (0 : Int32)) mf_X3_emit w_631 79 k88 rfl rfl rfl (Nat.le_of_ble_eq_true rfl) ⟨(Nat.le_of_ble_eq_true rfl), (Nat.le_of_ble_eq_true rfl)⟩ ⟨(Nat.le_of_ble_eq_true rfl), (Nat.le_of_ble_eq_true rfl)⟩ dX4_comparison_64 rfl (fun w96 h94 => ?_)
            obtain ⟨hW97, kq98⟩ := h94
            have kp99 := keeps_tr kp86 kq98 (fun q hq => by first | omega | (dsimp only at *; omega))
            refine x_iconst C (v := 1) dX4_comparison_67 (by decide) rfl ?_
            exact x_zret C hr hlk rfl dX4_comparison_68 ⟨hW97, kp99, (Or.inr rfl)⟩
          · skip
            refine x_iconst C (v := 0) dX4_comparison_59 (by decide) rfl ?_
            exact x_zret C hr hlk rfl dX4_comparison_60 ⟨hW83, kp86, (Or.inl rfl)⟩
        · skip
          refine x_aload_n C dX4_comparison_34 rfl 1 rfl rfl ?_
          refine x_iconst C (v := 1) dX4_comparison_35 (by decide) rfl ?_
          refine x_vi C (As := [.int 1]) (rest := []) (c_fails E l a w3 hW4 (1 : Int32)) mf_X8_fails w_615 1 k9 rfl rfl rfl (Nat.le_of_ble_eq_true rfl) ⟨(Nat.le_of_ble_eq_true rfl), (Nat.le_of_ble_eq_true rfl)⟩ ⟨(Nat.le_of_ble_eq_true rfl), (Nat.le_of_ble_eq_true rfl)⟩ dX4_comparison_36 rfl (fun r101 w102 h100 => ?_)
          obtain ⟨hW103, kq104, zb105⟩ := h100
          have kp106 := keeps_tr kp7 kq104 (fun q hq => by first | omega | (dsimp only at *; omega))
          exact x_zret C hr hlk (zb_nar zb105) dX4_comparison_39 ⟨hW103, kp106, zb105⟩
  · skip
    refine x_iconst C (v := 0) dX4_comparison_9 (by decide) rfl ?_
    exact x_zret C hr hlk rfl dX4_comparison_10 ⟨hW4, kp7, (Or.inl rfl)⟩
theorem dX4_piece_0 : decode cX4_piece 0 = .ok (.aload_n 0, 1) := by decide +kernel
theorem dX4_piece_1 : decode cX4_piece 1 = .ok (.invokevirtual 24, 3) := by decide +kernel
theorem dX4_piece_4 : decode cX4_piece 4 = .ok (.istore_n 3, 1) := by decide +kernel
theorem dX4_piece_5 : decode cX4_piece 5 = .ok (.iload_n 3, 1) := by decide +kernel
theorem dX4_piece_6 : decode cX4_piece 6 = .ok (.bipush 33, 2) := by decide +kernel
theorem dX4_piece_8 : decode cX4_piece 8 = .ok (.if_icmp .eq 16, 3) := by decide +kernel
theorem dX4_piece_11 : decode cX4_piece 11 = .ok (.iload_n 3, 1) := by decide +kernel
theorem dX4_piece_12 : decode cX4_piece 12 = .ok (.bipush 40, 2) := by decide +kernel
theorem dX4_piece_14 : decode cX4_piece 14 = .ok (.if_icmp .eq 10, 3) := by decide +kernel
theorem dX4_piece_17 : decode cX4_piece 17 = .ok (.aload_n 0, 1) := by decide +kernel
theorem dX4_piece_18 : decode cX4_piece 18 = .ok (.aload_n 1, 1) := by decide +kernel
theorem dX4_piece_19 : decode cX4_piece 19 = .ok (.iload_n 2, 1) := by decide +kernel
theorem dX4_piece_20 : decode cX4_piece 20 = .ok (.invokestatic 76, 3) := by decide +kernel
theorem dX4_piece_23 : decode cX4_piece 23 = .ok (.ireturn, 1) := by decide +kernel
theorem dX4_piece_24 : decode cX4_piece 24 = .ok (.iload_n 2, 1) := by decide +kernel
theorem dX4_piece_25 : decode cX4_piece 25 = .ok (.bipush 6, 2) := by decide +kernel
theorem dX4_piece_27 : decode cX4_piece 27 = .ok (.if_icmp .lt 9, 3) := by decide +kernel
theorem dX4_piece_30 : decode cX4_piece 30 = .ok (.aload_n 0, 1) := by decide +kernel
theorem dX4_piece_31 : decode cX4_piece 31 = .ok (.iconst 5, 1) := by decide +kernel
theorem dX4_piece_32 : decode cX4_piece 32 = .ok (.invokevirtual 34, 3) := by decide +kernel
theorem dX4_piece_35 : decode cX4_piece 35 = .ok (.ireturn, 1) := by decide +kernel
theorem dX4_piece_36 : decode cX4_piece 36 = .ok (.aload_n 0, 1) := by decide +kernel
theorem dX4_piece_37 : decode cX4_piece 37 = .ok (.dup, 1) := by decide +kernel
theorem dX4_piece_38 : decode cX4_piece 38 = .ok (.getfield 43, 3) := by decide +kernel
theorem dX4_piece_41 : decode cX4_piece 41 = .ok (.iconst 1, 1) := by decide +kernel
theorem dX4_piece_42 : decode cX4_piece 42 = .ok (.iadd, 1) := by decide +kernel
theorem dX4_piece_43 : decode cX4_piece 43 = .ok (.putfield 43, 3) := by decide +kernel
theorem dX4_piece_46 : decode cX4_piece 46 = .ok (.iload_n 3, 1) := by decide +kernel
theorem dX4_piece_47 : decode cX4_piece 47 = .ok (.bipush 40, 2) := by decide +kernel
theorem dX4_piece_49 : decode cX4_piece 49 = .ok (.if_icmp .ne 29, 3) := by decide +kernel
theorem dX4_piece_52 : decode cX4_piece 52 = .ok (.aload_n 0, 1) := by decide +kernel
theorem dX4_piece_53 : decode cX4_piece 53 = .ok (.aload_n 1, 1) := by decide +kernel
theorem dX4_piece_54 : decode cX4_piece 54 = .ok (.iload_n 2, 1) := by decide +kernel
theorem dX4_piece_55 : decode cX4_piece 55 = .ok (.iconst 1, 1) := by decide +kernel
theorem dX4_piece_56 : decode cX4_piece 56 = .ok (.iadd, 1) := by decide +kernel
theorem dX4_piece_57 : decode cX4_piece 57 = .ok (.invokestatic 59, 3) := by decide +kernel
theorem dX4_piece_60 : decode cX4_piece 60 = .ok (.ifCond .eq 16, 3) := by decide +kernel
theorem dX4_piece_63 : decode cX4_piece 63 = .ok (.aload_n 0, 1) := by decide +kernel
theorem dX4_piece_64 : decode cX4_piece 64 = .ok (.bipush 41, 2) := by decide +kernel
theorem dX4_piece_66 : decode cX4_piece 66 = .ok (.invokevirtual 30, 3) := by decide +kernel
theorem dX4_piece_69 : decode cX4_piece 69 = .ok (.ifCond .eq 7, 3) := by decide +kernel
theorem dX4_piece_72 : decode cX4_piece 72 = .ok (.iconst 1, 1) := by decide +kernel
theorem dX4_piece_73 : decode cX4_piece 73 = .ok (.goto 4, 3) := by decide +kernel
theorem dX4_piece_76 : decode cX4_piece 76 = .ok (.iconst 0, 1) := by decide +kernel
theorem dX4_piece_77 : decode cX4_piece 77 = .ok (.ireturn, 1) := by decide +kernel
theorem dX4_piece_78 : decode cX4_piece 78 = .ok (.aload_n 0, 1) := by decide +kernel
theorem dX4_piece_79 : decode cX4_piece 79 = .ok (.aload_n 1, 1) := by decide +kernel
theorem dX4_piece_80 : decode cX4_piece 80 = .ok (.iload_n 2, 1) := by decide +kernel
theorem dX4_piece_81 : decode cX4_piece 81 = .ok (.iconst 1, 1) := by decide +kernel
theorem dX4_piece_82 : decode cX4_piece 82 = .ok (.iadd, 1) := by decide +kernel
theorem dX4_piece_83 : decode cX4_piece 83 = .ok (.invokestatic 65, 3) := by decide +kernel
theorem dX4_piece_86 : decode cX4_piece 86 = .ok (.ifCond .ne 5, 3) := by decide +kernel
theorem dX4_piece_89 : decode cX4_piece 89 = .ok (.iconst 0, 1) := by decide +kernel
theorem dX4_piece_90 : decode cX4_piece 90 = .ok (.ireturn, 1) := by decide +kernel
theorem dX4_piece_91 : decode cX4_piece 91 = .ok (.aload_n 1, 1) := by decide +kernel
theorem dX4_piece_92 : decode cX4_piece 92 = .ok (.bipush 33, 2) := by decide +kernel
theorem dX4_piece_94 : decode cX4_piece 94 = .ok (.iconst 0, 1) := by decide +kernel
theorem dX4_piece_95 : decode cX4_piece 95 = .ok (.invokevirtual 72, 3) := by decide +kernel
theorem dX4_piece_98 : decode cX4_piece 98 = .ok (.iconst 1, 1) := by decide +kernel
theorem dX4_piece_99 : decode cX4_piece 99 = .ok (.ireturn, 1) := by decide +kernel
set_option maxRecDepth 20000 in
set_option maxHeartbeats 4000000 in
theorem c_piece (E : xE) (l : Launch) (a : Nat → Nat) (ws : va_W) (hW : WX (okX E a) ws) (o : Nat) (ho : o ≤ 6) (n : Nat) (hn : 6 - o ≤ n) (hc : ∀ k, k + 1 = n → ConC E l a k) (hp : ∀ k, k + 1 = n → PieC E l a k) : xI E l yX4_piece cX4_piece 4 (some .boolean) (29 + 2 * n) [.ref (a 1), .ref (a 79), .int (nI o)] ws (fun r w => WX (okX E a) w ∧ keeps ws w (fun q => (q = 1 ∨ q = 2) ∨ (79 ≤ q ∧ q < 87)) ∧ zb r) := by
  refine xI_start (lv := [(0, .ref (a 1)), (1, .ref (a 79)), (2, .int (nI o))]) RX4 (by decide) rfl (Nat.le_of_ble_eq_true rfl) rfl (fun p e s m below meth c A C hr hlk => ?_)
  have kp0 : keeps ws ws (fun q => (q = 1 ∨ q = 2) ∨ (79 ≤ q ∧ q < 87)) := keeps_rf
  refine x_aload_n C dX4_piece_0 rfl 0 rfl rfl ?_
  obtain ⟨_, k1, n2, v4, v5, v6, bn3, rfl⟩ := hW 1 _ rfl
  refine x_vi C (As := []) (rest := []) (c_sign E l a ws hW) mf_X8_sign w_522 1 k1 rfl rfl rfl (Nat.le_of_ble_eq_true rfl) ⟨(by dsimp only [xRm]; omega), (by dsimp only [xRm]; omega)⟩ ⟨(Nat.le_of_ble_eq_true rfl), (Nat.le_of_ble_eq_true rfl)⟩ dX4_piece_1 rfl (fun r8 w9 h7 => ?_)
  have hW10 := h7
  refine x_ws hW10 ?_
  refine x_istore_n C (lv' := [(3, .int r8), (0, .ref (a 1)), (1, .ref (a 79)), (2, .int (nI o))]) dX4_piece_4 rfl (by decide) rfl rfl ?_
  refine x_iload_n C dX4_piece_5 rfl 0 rfl rfl ?_
  refine x_bipush C (v := 33) dX4_piece_6 (by decide) rfl ?_
  refine x_icmp_eq C (tgt := 24) dX4_piece_8 (by decide) rfl (fun c11 => ?_) (fun c11 => ?_)
  · skip
    refine x_iload_n C dX4_piece_24 rfl 3 rfl rfl ?_
    refine x_bipush C (v := 6) dX4_piece_25 (by decide) rfl ?_
    refine x_icmp_lt C (tgt := 36) dX4_piece_27 (by decide) rfl (fun c12 => ?_) (fun c12 => ?_)
    · skip
      have nf13 := nI_lt' (a := o) (b := 6) c12 (by omega) (by omega)
      obtain ⟨kk, hkk⟩ : ∃ kk, kk + 1 = n := ⟨n - 1, by omega⟩
      refine x_aload_n C dX4_piece_36 rfl 1 rfl rfl ?_
      refine x_dup C dX4_piece_37 rfl rfl ?_
      refine x_get C (ci := 7) (k := 3) 1 k1 rfl in_X8 (by decide) w_41 rfl dX4_piece_38 rfl ?_
      refine x_iconst C (v := 1) dX4_piece_41 (by decide) rfl ?_
      refine x_iadd C (v := (v5 + (1 : Int32))) dX4_piece_42 rfl rfl ?_
      refine x_any (fun v14 => ?_)
      obtain ⟨w15, hw16⟩ : ∃ w : va_W, w = List.set ws 1 (ob (a 1) 7 [.ref (a 2), .int (nI n2), .int v4, .int v14, .int v6]) := ⟨_, rfl⟩
      refine x_put C (ci := 7) (k := 3) (ty := .int) 1 k1 rfl in_X8 tyX8 tyX8_ok nmX8 (by decide) w_41 rfl rfl rfl rfl (Nat.le_of_ble_eq_true rfl) hw16.symm dX4_piece_43 rfl ?_
      have hW17 : WX (okX E a) w15 := by rw [hw16]; exact hW.set (k := 1) rfl ⟨n2, v4, v14, v6, by omega, rfl⟩
      have k18 : w15[1]? = some (ob (a 1) 7 [.ref (a 2), .int (nI n2), .int v4, .int v14, .int v6]) := by rw [hw16]; exact set_eq k1
      have kp19 := keeps_set kp0 hw16 (by first | exact rfl | decide | omega | (dsimp only; omega))
      refine x_iload_n C dX4_piece_46 rfl 0 rfl rfl ?_
      refine x_bipush C (v := 40) dX4_piece_47 (by decide) rfl ?_
      refine x_icmp_ne C (tgt := 78) dX4_piece_49 (by decide) rfl (fun c20 => ?_) (fun c20 => ?_)
      · skip
        refine x_aload_n C dX4_piece_78 rfl 1 rfl rfl ?_
        refine x_aload_n C dX4_piece_79 rfl 2 rfl rfl ?_
        refine x_iload_n C dX4_piece_80 rfl 3 rfl rfl ?_
        refine x_iconst C (v := 1) dX4_piece_81 (by decide) rfl ?_
        refine x_iadd C (v := (nI (o + 1))) dX4_piece_82 (nI_add o 1) rfl ?_
        refine x_si C (As := [.ref (a 1), .ref (a 79), .int (nI (o + 1))]) (rest := []) ((hp kk hkk) w15 hW17 (o + 1) (by omega) (by omega)) mf_X4_piece w_645 rfl rfl (Nat.le_of_ble_eq_true rfl) ⟨(by dsimp only [xRm]; omega), (by dsimp only [xRm]; omega)⟩ ⟨(Nat.le_of_ble_eq_true rfl), (Nat.le_of_ble_eq_true rfl)⟩ dX4_piece_83 rfl (fun r22 w23 h21 => ?_)
        obtain ⟨hW24, kq25, zb26⟩ := h21
        have kp27 := keeps_tr kp19 kq25 (fun q hq => by first | omega | (dsimp only at *; omega))
        refine x_if_ne C (tgt := 91) dX4_piece_86 (by decide) rfl (fun c28 => ?_) (fun c28 => ?_)
        · skip
          refine x_aload_n C dX4_piece_91 rfl 2 rfl rfl ?_
          refine x_bipush C (v := 33) dX4_piece_92 (by decide) rfl ?_
          refine x_iconst C (v := 0) dX4_piece_94 (by decide) rfl ?_
          obtain ⟨_, k29, v30, n31, n33, bn32, bn34, rfl⟩ := hW24 79 _ rfl
          refine x_vv C (As := [.int 33, .int 0]) (rest := []) (c_emit E l a w23 hW24 (33 : Int32) (0 : Int32)) mf_X3_emit w_631 79 k29 rfl rfl rfl (Nat.le_of_ble_eq_true rfl) ⟨(by dsimp only [xRm]; omega), (by dsimp only [xRm]; omega)⟩ ⟨(Nat.le_of_ble_eq_true rfl), (Nat.le_of_ble_eq_true rfl)⟩ dX4_piece_95 rfl (fun w37 h35 => ?_)
          obtain ⟨hW38, kq39⟩ := h35
          have kp40 := keeps_tr kp27 kq39 (fun q hq => by first | omega | (dsimp only at *; omega))
          refine x_iconst C (v := 1) dX4_piece_98 (by decide) rfl ?_
          exact x_zret C hr hlk rfl dX4_piece_99 ⟨hW38, kp40, (Or.inr rfl)⟩
        · skip
          refine x_iconst C (v := 0) dX4_piece_89 (by decide) rfl ?_
          exact x_zret C hr hlk rfl dX4_piece_90 ⟨hW24, kp27, (Or.inl rfl)⟩
      · skip
        refine x_aload_n C dX4_piece_52 rfl 1 rfl rfl ?_
        refine x_aload_n C dX4_piece_53 rfl 2 rfl rfl ?_
        refine x_iload_n C dX4_piece_54 rfl 3 rfl rfl ?_
        refine x_iconst C (v := 1) dX4_piece_55 (by decide) rfl ?_
        refine x_iadd C (v := (nI (o + 1))) dX4_piece_56 (nI_add o 1) rfl ?_
        refine x_si C (As := [.ref (a 1), .ref (a 79), .int (nI (o + 1))]) (rest := []) ((hc kk hkk) w15 hW17 (o + 1) (by omega) (by omega)) mf_X4_condition w_642 rfl rfl (Nat.le_of_ble_eq_true rfl) ⟨(by dsimp only [xRm]; omega), (by dsimp only [xRm]; omega)⟩ ⟨(Nat.le_of_ble_eq_true rfl), (Nat.le_of_ble_eq_true rfl)⟩ dX4_piece_57 rfl (fun r42 w43 h41 => ?_)
        obtain ⟨hW44, kq45, zb46⟩ := h41
        have kp47 := keeps_tr kp19 kq45 (fun q hq => by first | omega | (dsimp only at *; omega))
        refine x_if_eq C (tgt := 76) dX4_piece_60 (by decide) rfl (fun c48 => ?_) (fun c48 => ?_)
        · skip
          refine x_iconst C (v := 0) dX4_piece_76 (by decide) rfl ?_
          exact x_zret C hr hlk rfl dX4_piece_77 ⟨hW44, kp47, (Or.inl rfl)⟩
        · skip
          refine x_aload_n C dX4_piece_63 rfl 1 rfl rfl ?_
          refine x_bipush C (v := 41) dX4_piece_64 (by decide) rfl ?_
          obtain ⟨_, k49, n50, v52, v53, v54, bn51, rfl⟩ := hW44 1 _ rfl
          refine x_vi C (As := [.int 41]) (rest := []) (c_takes E l a w43 hW44 (41 : Int32)) mf_X8_takes w_635 1 k49 rfl rfl rfl (Nat.le_of_ble_eq_true rfl) ⟨(by dsimp only [xRm]; omega), (by dsimp only [xRm]; omega)⟩ ⟨(Nat.le_of_ble_eq_true rfl), (Nat.le_of_ble_eq_true rfl)⟩ dX4_piece_66 rfl (fun r56 w57 h55 => ?_)
          obtain ⟨hW58, kq59, zb60⟩ := h55
          have kp61 := keeps_tr kp47 kq59 (fun q hq => by first | omega | (dsimp only at *; omega))
          refine x_if_eq C (tgt := 76) dX4_piece_69 (by decide) rfl (fun c62 => ?_) (fun c62 => ?_)
          · skip
            refine x_iconst C (v := 0) dX4_piece_76 (by decide) rfl ?_
            exact x_zret C hr hlk rfl dX4_piece_77 ⟨hW58, kp61, (Or.inl rfl)⟩
          · skip
            refine x_iconst C (v := 1) dX4_piece_72 (by decide) rfl ?_
            refine x_goto C (tgt := 77) dX4_piece_73 (by decide) ?_
            exact x_zret C hr hlk rfl dX4_piece_77 ⟨hW58, kp61, (Or.inr rfl)⟩
    · skip
      have nf63 := nI_nlt' (a := o) (b := 6) c12 (by omega) (by omega)
      refine x_aload_n C dX4_piece_30 rfl 1 rfl rfl ?_
      refine x_iconst C (v := 5) dX4_piece_31 (by decide) rfl ?_
      refine x_vi C (As := [.int 5]) (rest := []) (c_fails E l a ws hW (5 : Int32)) mf_X8_fails w_615 1 k1 rfl rfl rfl (Nat.le_of_ble_eq_true rfl) ⟨(by dsimp only [xRm]; omega), (by dsimp only [xRm]; omega)⟩ ⟨(Nat.le_of_ble_eq_true rfl), (Nat.le_of_ble_eq_true rfl)⟩ dX4_piece_32 rfl (fun r65 w66 h64 => ?_)
      obtain ⟨hW67, kq68, zb69⟩ := h64
      have kp70 := keeps_tr kp0 kq68 (fun q hq => by first | omega | (dsimp only at *; omega))
      exact x_zret C hr hlk (zb_nar zb69) dX4_piece_35 ⟨hW67, kp70, zb69⟩
  · skip
    refine x_iload_n C dX4_piece_11 rfl 0 rfl rfl ?_
    refine x_bipush C (v := 40) dX4_piece_12 (by decide) rfl ?_
    refine x_icmp_eq C (tgt := 24) dX4_piece_14 (by decide) rfl (fun c71 => ?_) (fun c71 => ?_)
    · skip
      refine x_iload_n C dX4_piece_24 rfl 3 rfl rfl ?_
      refine x_bipush C (v := 6) dX4_piece_25 (by decide) rfl ?_
      refine x_icmp_lt C (tgt := 36) dX4_piece_27 (by decide) rfl (fun c72 => ?_) (fun c72 => ?_)
      · skip
        have nf73 := nI_lt' (a := o) (b := 6) c72 (by omega) (by omega)
        obtain ⟨kk, hkk⟩ : ∃ kk, kk + 1 = n := ⟨n - 1, by omega⟩
        refine x_aload_n C dX4_piece_36 rfl 1 rfl rfl ?_
        refine x_dup C dX4_piece_37 rfl rfl ?_
        refine x_get C (ci := 7) (k := 3) 1 k1 rfl in_X8 (by decide) w_41 rfl dX4_piece_38 rfl ?_
        refine x_iconst C (v := 1) dX4_piece_41 (by decide) rfl ?_
        refine x_iadd C (v := (v5 + (1 : Int32))) dX4_piece_42 rfl rfl ?_
        refine x_any (fun v74 => ?_)
        obtain ⟨w75, hw76⟩ : ∃ w : va_W, w = List.set ws 1 (ob (a 1) 7 [.ref (a 2), .int (nI n2), .int v4, .int v74, .int v6]) := ⟨_, rfl⟩
        refine x_put C (ci := 7) (k := 3) (ty := .int) 1 k1 rfl in_X8 tyX8 tyX8_ok nmX8 (by decide) w_41 rfl rfl rfl rfl (Nat.le_of_ble_eq_true rfl) hw76.symm dX4_piece_43 rfl ?_
        have hW77 : WX (okX E a) w75 := by rw [hw76]; exact hW.set (k := 1) rfl ⟨n2, v4, v74, v6, by omega, rfl⟩
        have k78 : w75[1]? = some (ob (a 1) 7 [.ref (a 2), .int (nI n2), .int v4, .int v74, .int v6]) := by rw [hw76]; exact set_eq k1
        have kp79 := keeps_set kp0 hw76 (by first | exact rfl | decide | omega | (dsimp only; omega))
        refine x_iload_n C dX4_piece_46 rfl 0 rfl rfl ?_
        refine x_bipush C (v := 40) dX4_piece_47 (by decide) rfl ?_
        refine x_icmp_ne C (tgt := 78) dX4_piece_49 (by decide) rfl (fun c80 => ?_) (fun c80 => ?_)
        · skip
          refine x_aload_n C dX4_piece_78 rfl 1 rfl rfl ?_
          refine x_aload_n C dX4_piece_79 rfl 2 rfl rfl ?_
          refine x_iload_n C dX4_piece_80 rfl 3 rfl rfl ?_
          refine x_iconst C (v := 1) dX4_piece_81 (by decide) rfl ?_
          refine x_iadd C (v := (nI (o + 1))) dX4_piece_82 (nI_add o 1) rfl ?_
          refine x_si C (As := [.ref (a 1), .ref (a 79), .int (nI (o + 1))]) (rest := []) ((hp kk hkk) w75 hW77 (o + 1) (by omega) (by omega)) mf_X4_piece w_645 rfl rfl (Nat.le_of_ble_eq_true rfl) ⟨(by dsimp only [xRm]; omega), (by dsimp only [xRm]; omega)⟩ ⟨(Nat.le_of_ble_eq_true rfl), (Nat.le_of_ble_eq_true rfl)⟩ dX4_piece_83 rfl (fun r82 w83 h81 => ?_)
          obtain ⟨hW84, kq85, zb86⟩ := h81
          have kp87 := keeps_tr kp79 kq85 (fun q hq => by first | omega | (dsimp only at *; omega))
          refine x_if_ne C (tgt := 91) dX4_piece_86 (by decide) rfl (fun c88 => ?_) (fun c88 => ?_)
          · skip
            refine x_aload_n C dX4_piece_91 rfl 2 rfl rfl ?_
            refine x_bipush C (v := 33) dX4_piece_92 (by decide) rfl ?_
            refine x_iconst C (v := 0) dX4_piece_94 (by decide) rfl ?_
            obtain ⟨_, k89, v90, n91, n93, bn92, bn94, rfl⟩ := hW84 79 _ rfl
            refine x_vv C (As := [.int 33, .int 0]) (rest := []) (c_emit E l a w83 hW84 (33 : Int32) (0 : Int32)) mf_X3_emit w_631 79 k89 rfl rfl rfl (Nat.le_of_ble_eq_true rfl) ⟨(by dsimp only [xRm]; omega), (by dsimp only [xRm]; omega)⟩ ⟨(Nat.le_of_ble_eq_true rfl), (Nat.le_of_ble_eq_true rfl)⟩ dX4_piece_95 rfl (fun w97 h95 => ?_)
            obtain ⟨hW98, kq99⟩ := h95
            have kp100 := keeps_tr kp87 kq99 (fun q hq => by first | omega | (dsimp only at *; omega))
            refine x_iconst C (v := 1) dX4_piece_98 (by decide) rfl ?_
            exact x_zret C hr hlk rfl dX4_piece_99 ⟨hW98, kp100, (Or.inr rfl)⟩
          · skip
            refine x_iconst C (v := 0) dX4_piece_89 (by decide) rfl ?_
            exact x_zret C hr hlk rfl dX4_piece_90 ⟨hW84, kp87, (Or.inl rfl)⟩
        · skip
          refine x_aload_n C dX4_piece_52 rfl 1 rfl rfl ?_
          refine x_aload_n C dX4_piece_53 rfl 2 rfl rfl ?_
          refine x_iload_n C dX4_piece_54 rfl 3 rfl rfl ?_
          refine x_iconst C (v := 1) dX4_piece_55 (by decide) rfl ?_
          refine x_iadd C (v := (nI (o + 1))) dX4_piece_56 (nI_add o 1) rfl ?_
          refine x_si C (As := [.ref (a 1), .ref (a 79), .int (nI (o + 1))]) (rest := []) ((hc kk hkk) w75 hW77 (o + 1) (by omega) (by omega)) mf_X4_condition w_642 rfl rfl (Nat.le_of_ble_eq_true rfl) ⟨(by dsimp only [xRm]; omega), (by dsimp only [xRm]; omega)⟩ ⟨(Nat.le_of_ble_eq_true rfl), (Nat.le_of_ble_eq_true rfl)⟩ dX4_piece_57 rfl (fun r102 w103 h101 => ?_)
          obtain ⟨hW104, kq105, zb106⟩ := h101
          have kp107 := keeps_tr kp79 kq105 (fun q hq => by first | omega | (dsimp only at *; omega))
          refine x_if_eq C (tgt := 76) dX4_piece_60 (by decide) rfl (fun c108 => ?_) (fun c108 => ?_)
          · skip
            refine x_iconst C (v := 0) dX4_piece_76 (by decide) rfl ?_
            exact x_zret C hr hlk rfl dX4_piece_77 ⟨hW104, kp107, (Or.inl rfl)⟩
          · skip
            refine x_aload_n C dX4_piece_63 rfl 1 rfl rfl ?_
            refine x_bipush C (v := 41) dX4_piece_64 (by decide) rfl ?_
            obtain ⟨_, k109, n110, v112, v113, v114, bn111, rfl⟩ := hW104 1 _ rfl
            refine x_vi C (As := [.int 41]) (rest := []) (c_takes E l a w103 hW104 (41 : Int32)) mf_X8_takes w_635 1 k109 rfl rfl rfl (Nat.le_of_ble_eq_true rfl) ⟨(by dsimp only [xRm]; omega), (by dsimp only [xRm]; omega)⟩ ⟨(Nat.le_of_ble_eq_true rfl), (Nat.le_of_ble_eq_true rfl)⟩ dX4_piece_66 rfl (fun r116 w117 h115 => ?_)
            obtain ⟨hW118, kq119, zb120⟩ := h115
            have kp121 := keeps_tr kp107 kq119 (fun q hq => by first | omega | (dsimp only at *; omega))
            refine x_if_eq C (tgt := 76) dX4_piece_69 (by decide) rfl (fun c122 => ?_) (fun c122 => ?_)
            · skip
              refine x_iconst C (v := 0) dX4_piece_76 (by decide) rfl ?_
              exact x_zret C hr hlk rfl dX4_piece_77 ⟨hW118, kp121, (Or.inl rfl)⟩
            · skip
              refine x_iconst C (v := 1) dX4_piece_72 (by decide) rfl ?_
              refine x_goto C (tgt := 77) dX4_piece_73 (by decide) ?_
              exact x_zret C hr hlk rfl dX4_piece_77 ⟨hW118, kp121, (Or.inr rfl)⟩
      · skip
        have nf123 := nI_nlt' (a := o) (b := 6) c72 (by omega) (by omega)
        refine x_aload_n C dX4_piece_30 rfl 1 rfl rfl ?_
        refine x_iconst C (v := 5) dX4_piece_31 (by decide) rfl ?_
        refine x_vi C (As := [.int 5]) (rest := []) (c_fails E l a ws hW (5 : Int32)) mf_X8_fails w_615 1 k1 rfl rfl rfl (Nat.le_of_ble_eq_true rfl) ⟨(by dsimp only [xRm]; omega), (by dsimp only [xRm]; omega)⟩ ⟨(Nat.le_of_ble_eq_true rfl), (Nat.le_of_ble_eq_true rfl)⟩ dX4_piece_32 rfl (fun r125 w126 h124 => ?_)
        obtain ⟨hW127, kq128, zb129⟩ := h124
        have kp130 := keeps_tr kp0 kq128 (fun q hq => by first | omega | (dsimp only at *; omega))
        exact x_zret C hr hlk (zb_nar zb129) dX4_piece_35 ⟨hW127, kp130, zb129⟩
    · skip
      refine x_aload_n C dX4_piece_17 rfl 1 rfl rfl ?_
      refine x_aload_n C dX4_piece_18 rfl 2 rfl rfl ?_
      refine x_iload_n C dX4_piece_19 rfl 3 rfl rfl ?_
      refine x_si C (As := [.ref (a 1), .ref (a 79), .int (nI o)]) (rest := []) (c_comparison E l a ws hW o (by omega)) mf_X4_comparison w_648 rfl rfl (Nat.le_of_ble_eq_true rfl) ⟨(by dsimp only [xRm]; omega), (by dsimp only [xRm]; omega)⟩ ⟨(Nat.le_of_ble_eq_true rfl), (Nat.le_of_ble_eq_true rfl)⟩ dX4_piece_20 rfl (fun r132 w133 h131 => ?_)
      obtain ⟨hW134, kq135, zb136⟩ := h131
      have kp137 := keeps_tr kp0 kq135 (fun q hq => by first | omega | (dsimp only at *; omega))
      exact x_zret C hr hlk (zb_nar zb136) dX4_piece_23 ⟨hW134, kp137, zb136⟩
theorem dX4_condition_0 : decode cX4_condition 0 = .ok (.iconst (-1), 1) := by decide +kernel
theorem dX4_condition_1 : decode cX4_condition 1 = .ok (.istore_n 3, 1) := by decide +kernel
theorem dX4_condition_2 : decode cX4_condition 2 = .ok (.iconst (-1), 1) := by decide +kernel
theorem dX4_condition_3 : decode cX4_condition 3 = .ok (.istore 4, 2) := by decide +kernel
theorem dX4_condition_5 : decode cX4_condition 5 = .ok (.iconst 0, 1) := by decide +kernel
theorem dX4_condition_6 : decode cX4_condition 6 = .ok (.istore 5, 2) := by decide +kernel
theorem dX4_condition_8 : decode cX4_condition 8 = .ok (.iload 5, 2) := by decide +kernel
theorem dX4_condition_10 : decode cX4_condition 10 = .ok (.sipush 240, 3) := by decide +kernel
theorem dX4_condition_13 : decode cX4_condition 13 = .ok (.if_icmp .ge 86, 3) := by decide +kernel
theorem dX4_condition_16 : decode cX4_condition 16 = .ok (.aload_n 0, 1) := by decide +kernel
theorem dX4_condition_17 : decode cX4_condition 17 = .ok (.aload_n 1, 1) := by decide +kernel
theorem dX4_condition_18 : decode cX4_condition 18 = .ok (.iload_n 2, 1) := by decide +kernel
theorem dX4_condition_19 : decode cX4_condition 19 = .ok (.invokestatic 65, 3) := by decide +kernel
theorem dX4_condition_22 : decode cX4_condition 22 = .ok (.ifCond .ne 5, 3) := by decide +kernel
theorem dX4_condition_25 : decode cX4_condition 25 = .ok (.iconst 0, 1) := by decide +kernel
theorem dX4_condition_26 : decode cX4_condition 26 = .ok (.ireturn, 1) := by decide +kernel
theorem dX4_condition_27 : decode cX4_condition 27 = .ok (.aload_n 1, 1) := by decide +kernel
theorem dX4_condition_28 : decode cX4_condition 28 = .ok (.iload_n 3, 1) := by decide +kernel
theorem dX4_condition_29 : decode cX4_condition 29 = .ok (.invokevirtual 68, 3) := by decide +kernel
theorem dX4_condition_32 : decode cX4_condition 32 = .ok (.aload_n 0, 1) := by decide +kernel
theorem dX4_condition_33 : decode cX4_condition 33 = .ok (.invokevirtual 24, 3) := by decide +kernel
theorem dX4_condition_36 : decode cX4_condition 36 = .ok (.istore 6, 2) := by decide +kernel
theorem dX4_condition_38 : decode cX4_condition 38 = .ok (.iload 6, 2) := by decide +kernel
theorem dX4_condition_40 : decode cX4_condition 40 = .ok (.bipush 38, 2) := by decide +kernel
theorem dX4_condition_42 : decode cX4_condition 42 = .ok (.if_icmp .ne 11, 3) := by decide +kernel
theorem dX4_condition_45 : decode cX4_condition 45 = .ok (.aload_n 1, 1) := by decide +kernel
theorem dX4_condition_46 : decode cX4_condition 46 = .ok (.getfield 15, 3) := by decide +kernel
theorem dX4_condition_49 : decode cX4_condition 49 = .ok (.istore_n 3, 1) := by decide +kernel
theorem dX4_condition_50 : decode cX4_condition 50 = .ok (.goto 26, 3) := by decide +kernel
theorem dX4_condition_53 : decode cX4_condition 53 = .ok (.aload_n 1, 1) := by decide +kernel
theorem dX4_condition_54 : decode cX4_condition 54 = .ok (.iload 4, 2) := by decide +kernel
theorem dX4_condition_56 : decode cX4_condition 56 = .ok (.invokevirtual 68, 3) := by decide +kernel
theorem dX4_condition_59 : decode cX4_condition 59 = .ok (.iload 6, 2) := by decide +kernel
theorem dX4_condition_61 : decode cX4_condition 61 = .ok (.bipush 124, 2) := by decide +kernel
theorem dX4_condition_63 : decode cX4_condition 63 = .ok (.if_icmp .eq 5, 3) := by decide +kernel
theorem dX4_condition_66 : decode cX4_condition 66 = .ok (.iconst 1, 1) := by decide +kernel
theorem dX4_condition_67 : decode cX4_condition 67 = .ok (.ireturn, 1) := by decide +kernel
theorem dX4_condition_68 : decode cX4_condition 68 = .ok (.iconst (-1), 1) := by decide +kernel
theorem dX4_condition_69 : decode cX4_condition 69 = .ok (.istore_n 3, 1) := by decide +kernel
theorem dX4_condition_70 : decode cX4_condition 70 = .ok (.aload_n 1, 1) := by decide +kernel
theorem dX4_condition_71 : decode cX4_condition 71 = .ok (.getfield 15, 3) := by decide +kernel
theorem dX4_condition_74 : decode cX4_condition 74 = .ok (.istore 4, 2) := by decide +kernel
theorem dX4_condition_76 : decode cX4_condition 76 = .ok (.aload_n 0, 1) := by decide +kernel
theorem dX4_condition_77 : decode cX4_condition 77 = .ok (.dup, 1) := by decide +kernel
theorem dX4_condition_78 : decode cX4_condition 78 = .ok (.getfield 43, 3) := by decide +kernel
theorem dX4_condition_81 : decode cX4_condition 81 = .ok (.iconst 1, 1) := by decide +kernel
theorem dX4_condition_82 : decode cX4_condition 82 = .ok (.iadd, 1) := by decide +kernel
theorem dX4_condition_83 : decode cX4_condition 83 = .ok (.putfield 43, 3) := by decide +kernel
theorem dX4_condition_86 : decode cX4_condition 86 = .ok (.aload_n 1, 1) := by decide +kernel
theorem dX4_condition_87 : decode cX4_condition 87 = .ok (.iload 6, 2) := by decide +kernel
theorem dX4_condition_89 : decode cX4_condition 89 = .ok (.iconst 0, 1) := by decide +kernel
theorem dX4_condition_90 : decode cX4_condition 90 = .ok (.invokevirtual 72, 3) := by decide +kernel
theorem dX4_condition_93 : decode cX4_condition 93 = .ok (.iinc 5 1, 3) := by decide +kernel
theorem dX4_condition_96 : decode cX4_condition 96 = .ok (.goto (-88), 3) := by decide +kernel
theorem dX4_condition_99 : decode cX4_condition 99 = .ok (.aload_n 0, 1) := by decide +kernel
theorem dX4_condition_100 : decode cX4_condition 100 = .ok (.iconst 1, 1) := by decide +kernel
theorem dX4_condition_101 : decode cX4_condition 101 = .ok (.invokevirtual 34, 3) := by decide +kernel
theorem dX4_condition_104 : decode cX4_condition 104 = .ok (.ireturn, 1) := by decide +kernel
set_option maxRecDepth 20000 in
set_option maxHeartbeats 4000000 in
theorem c_condition (E : xE) (l : Launch) (a : Nat → Nat) (ws : va_W) (hW : WX (okX E a) ws) (o : Nat) (ho : o ≤ 6) (n : Nat) (hn : 6 - o ≤ n) (hp : PieC E l a n) : xI E l yX4_condition cX4_condition 7 (some .boolean) (30 + 2 * n) [.ref (a 1), .ref (a 79), .int (nI o)] ws (fun r w => WX (okX E a) w ∧ keeps ws w (fun q => (q = 1 ∨ q = 2) ∨ (79 ≤ q ∧ q < 87)) ∧ zb r) := by
  refine xI_start (lv := [(0, .ref (a 1)), (1, .ref (a 79)), (2, .int (nI o))]) RX4 (by decide) rfl (Nat.le_of_ble_eq_true rfl) rfl (fun p e s m below meth c A C hr hlk => ?_)
  have kp0 : keeps ws ws (fun q => (q = 1 ∨ q = 2) ∨ (79 ≤ q ∧ q < 87)) := keeps_rf
  refine x_iconst C (v := (-1)) dX4_condition_0 (by decide) rfl ?_
  refine x_istore_n C (lv' := [(3, .int (-1)), (0, .ref (a 1)), (1, .ref (a 79)), (2, .int (nI o))]) dX4_condition_1 rfl (by decide) rfl rfl ?_
  refine x_iconst C (v := (-1)) dX4_condition_2 (by decide) rfl ?_
  refine x_istore C (lv' := [(4, .int (-1)), (3, .int (-1)), (0, .ref (a 1)), (1, .ref (a 79)), (2, .int (nI o))]) dX4_condition_3 (by decide) rfl rfl ?_
  refine x_iconst C (v := 0) dX4_condition_5 (by decide) rfl ?_
  refine x_istore C (lv' := [(5, .int 0), (4, .int (-1)), (3, .int (-1)), (0, .ref (a 1)), (1, .ref (a 79)), (2, .int (nI o))]) dX4_condition_6 (by decide) rfl rfl ?_
  have loop8 : ∀ (fu8 : Nat) (z8_3 : Int32) (z8_4 : Int32) (k : Nat) (wl8 : va_W), WX (okX E a) wl8 → 240 - k < fu8 → k ≤ 240 → keeps ws wl8 (fun q => (q = 1 ∨ q = 2) ∨ (79 ≤ q ∧ q < 87)) → X E p l e (xRm ((30 + 2 * n)) 0 0) s m ([.ref (a 1), .ref (a 79), .int (nI o)] : List Value).toArray below meth c A 7 0 0 (MQ below (va_Qi (fun r w => WX (okX E a) w ∧ keeps ws w (fun q => (q = 1 ∨ q = 2) ∨ (79 ≤ q ∧ q < 87)) ∧ zb r) (xB E A) A) ([.ref (a 1), .ref (a 79), .int (nI o)] : List Value).toArray s 0 0 A) wl8 8 [(0, .ref (a 1)), (1, .ref (a 79)), (2, .int (nI o)), (3, .int z8_3), (4, .int z8_4), (5, .int (nI k))] [] := by
    intro fu8
    induction fu8 with
    | zero => intro z8_3 z8_4 k wl8 _ q; omega
    | succ fu8 ih8 =>
      intro z8_3 z8_4 k wl8 hWl8 me8 iv8_0 kq8
      refine x_iload C dX4_condition_8 5 rfl rfl ?_
      refine x_sipush C (v := 240) dX4_condition_10 (by decide) rfl ?_
      refine x_icmp_ge C (tgt := 99) dX4_condition_13 (by decide) rfl (fun c1 => ?_) (fun c1 => ?_)
      · skip
        have nf2 := nI_le' (a := 240) (b := k) c1 (by omega) (by omega)
        refine x_aload_n C dX4_condition_99 rfl 0 rfl rfl ?_
        refine x_iconst C (v := 1) dX4_condition_100 (by decide) rfl ?_
        obtain ⟨_, k3, n4, v6, v7, v8, bn5, rfl⟩ := hWl8 1 _ rfl
        refine x_vi C (As := [.int 1]) (rest := []) (c_fails E l a wl8 hWl8 (1 : Int32)) mf_X8_fails w_615 1 k3 rfl rfl rfl (Nat.le_of_ble_eq_true rfl) ⟨(by dsimp only [xRm]; omega), (by dsimp only [xRm]; omega)⟩ ⟨(Nat.le_of_ble_eq_true rfl), (Nat.le_of_ble_eq_true rfl)⟩ dX4_condition_101 rfl (fun r10 w11 h9 => ?_)
        obtain ⟨hW12, kq13, zb14⟩ := h9
        have kp15 := keeps_tr kq8 kq13 (fun q hq => by first | omega | (dsimp only at *; omega))
        exact x_zret C hr hlk (zb_nar zb14) dX4_condition_104 ⟨hW12, kp15, zb14⟩
      · skip
        have nf16 := nI_nle' (a := 240) (b := k) c1 (by omega) (by omega)
        refine x_aload_n C dX4_condition_16 rfl 0 rfl rfl ?_
        refine x_aload_n C dX4_condition_17 rfl 1 rfl rfl ?_
        refine x_iload_n C dX4_condition_18 rfl 2 rfl rfl ?_
        refine x_si C (As := [.ref (a 1), .ref (a 79), .int (nI o)]) (rest := []) (hp wl8 hWl8 o (by omega) (by omega)) mf_X4_piece w_645 rfl rfl (Nat.le_of_ble_eq_true rfl) ⟨(by dsimp only [xRm]; omega), (by dsimp only [xRm]; omega)⟩ ⟨(Nat.le_of_ble_eq_true rfl), (Nat.le_of_ble_eq_true rfl)⟩ dX4_condition_19 rfl (fun r18 w19 h17 => ?_)
        obtain ⟨hW20, kq21, zb22⟩ := h17
        have kp23 := keeps_tr kq8 kq21 (fun q hq => by first | omega | (dsimp only at *; omega))
        refine x_if_ne C (tgt := 27) dX4_condition_22 (by decide) rfl (fun c24 => ?_) (fun c24 => ?_)
        · skip
          refine x_aload_n C dX4_condition_27 rfl 1 rfl rfl ?_
          refine x_iload_n C dX4_condition_28 rfl 3 rfl rfl ?_
          obtain ⟨_, k25, v26, n27, n29, bn28, bn30, rfl⟩ := hW20 79 _ rfl
          refine x_vv C (As := [.int z8_3]) (rest := []) (c_aim E l a w19 hW20 z8_3) mf_X3_aim w_651 79 k25 rfl rfl rfl (Nat.le_of_ble_eq_true rfl) ⟨(by dsimp only [xRm]; omega), (by dsimp only [xRm]; omega)⟩ ⟨(Nat.le_of_ble_eq_true rfl), (Nat.le_of_ble_eq_true rfl)⟩ dX4_condition_29 rfl (fun w33 h31 => ?_)
          obtain ⟨hW34, kq35⟩ := h31
          have kp36 := keeps_tr kp23 kq35 (fun q hq => by first | omega | (dsimp only at *; omega))
          refine x_aload_n C dX4_condition_32 rfl 0 rfl rfl ?_
          obtain ⟨_, k37, n38, v40, v41, v42, bn39, rfl⟩ := hW34 1 _ rfl
          refine x_vi C (As := []) (rest := []) (c_sign E l a w33 hW34) mf_X8_sign w_522 1 k37 rfl rfl rfl (Nat.le_of_ble_eq_true rfl) ⟨(by dsimp only [xRm]; omega), (by dsimp only [xRm]; omega)⟩ ⟨(Nat.le_of_ble_eq_true rfl), (Nat.le_of_ble_eq_true rfl)⟩ dX4_condition_33 rfl (fun r44 w45 h43 => ?_)
          have hW46 := h43
          refine x_ws hW46 ?_
          refine x_istore C (lv' := [(6, .int r44), (0, .ref (a 1)), (1, .ref (a 79)), (2, .int (nI o)), (3, .int z8_3), (4, .int z8_4), (5, .int (nI k))]) dX4_condition_36 (by decide) rfl rfl ?_
          refine x_iload C dX4_condition_38 0 rfl rfl ?_
          refine x_bipush C (v := 38) dX4_condition_40 (by decide) rfl ?_
          refine x_icmp_ne C (tgt := 53) dX4_condition_42 (by decide) rfl (fun c47 => ?_) (fun c47 => ?_)
          · skip
            refine x_aload_n C dX4_condition_53 rfl 2 rfl rfl ?_
            refine x_iload C dX4_condition_54 5 rfl rfl ?_
            obtain ⟨_, k48, v49, n50, n52, bn51, bn53, rfl⟩ := hW34 79 _ rfl
            refine x_vv C (As := [.int z8_4]) (rest := []) (c_aim E l a w33 hW34 z8_4) mf_X3_aim w_651 79 k48 rfl rfl rfl (Nat.le_of_ble_eq_true rfl) ⟨(by dsimp only [xRm]; omega), (by dsimp only [xRm]; omega)⟩ ⟨(Nat.le_of_ble_eq_true rfl), (Nat.le_of_ble_eq_true rfl)⟩ dX4_condition_56 rfl (fun w56 h54 => ?_)
            obtain ⟨hW57, kq58⟩ := h54
            have k59 : w56[1]? = some (ob (a 1) 7 [.ref (a 2), .int (nI n38), .int v40, .int v41, .int v42]) := keeps_at kq58 k37 (by first | decide | omega | (dsimp only; omega))
            have kp60 := keeps_tr kp36 kq58 (fun q hq => by first | omega | (dsimp only at *; omega))
            refine x_iload C dX4_condition_59 0 rfl rfl ?_
            refine x_bipush C (v := 124) dX4_condition_61 (by decide) rfl ?_
            refine x_icmp_eq C (tgt := 68) dX4_condition_63 (by decide) rfl (fun c61 => ?_) (fun c61 => ?_)
            · skip
              refine x_iconst C (v := (-1)) dX4_condition_68 (by decide) rfl ?_
              refine x_istore_n C (lv' := [(3, .int (-1)), (6, .int r44), (0, .ref (a 1)), (1, .ref (a 79)), (2, .int (nI o)), (4, .int z8_4), (5, .int (nI k))]) dX4_condition_69 rfl (by decide) rfl rfl ?_
              refine x_aload_n C dX4_condition_70 rfl 3 rfl rfl ?_
              obtain ⟨_, k62, v63, n64, n66, bn65, bn67, rfl⟩ := hW57 79 _ rfl
              refine x_get C (ci := 3) (k := 5) 79 k62 rfl in_X3 (by decide) w_262 rfl dX4_condition_71 rfl ?_
              refine x_istore C (lv' := [(4, .int (nI n64)), (3, .int (-1)), (6, .int r44), (0, .ref (a 1)), (1, .ref (a 79)), (2, .int (nI o)), (5, .int (nI k))]) dX4_condition_74 (by decide) rfl rfl ?_
              refine x_aload_n C dX4_condition_76 rfl 3 rfl rfl ?_
              refine x_dup C dX4_condition_77 rfl rfl ?_
              refine x_get C (ci := 7) (k := 3) 1 k59 rfl in_X8 (by decide) w_41 rfl dX4_condition_78 rfl ?_
              refine x_iconst C (v := 1) dX4_condition_81 (by decide) rfl ?_
              refine x_iadd C (v := (v41 + (1 : Int32))) dX4_condition_82 rfl rfl ?_
              refine x_any (fun v68 => ?_)
              obtain ⟨w69, hw70⟩ : ∃ w : va_W, w = List.set w56 1 (ob (a 1) 7 [.ref (a 2), .int (nI n38), .int v40, .int v68, .int v42]) := ⟨_, rfl⟩
              refine x_put C (ci := 7) (k := 3) (ty := .int) 1 k59 rfl in_X8 tyX8 tyX8_ok nmX8 (by decide) w_41 rfl rfl rfl rfl (Nat.le_of_ble_eq_true rfl) hw70.symm dX4_condition_83 rfl ?_
              have hW71 : WX (okX E a) w69 := by rw [hw70]; exact hW57.set (k := 1) rfl ⟨n38, v40, v68, v42, by omega, rfl⟩
              have k72 : w69[1]? = some (ob (a 1) 7 [.ref (a 2), .int (nI n38), .int v40, .int v68, .int v42]) := by rw [hw70]; exact set_eq k59
              have k73 : w69[79]? = some (ob (a 79) 3 [.int v63, .ref (a 80), .ref (a 81), .ref (a 82), .ref (a 83), .int (nI n64), .ref (a 84), .ref (a 85), .ref (a 86), .int (nI n66)]) := by rw [hw70]; exact set_ne k62 (by decide)
              have kp74 := keeps_set kp60 hw70 (by first | exact rfl | decide | omega | (dsimp only; omega))
              refine x_aload_n C dX4_condition_86 rfl 4 rfl rfl ?_
              refine x_iload C dX4_condition_87 2 rfl rfl ?_
              refine x_iconst C (v := 0) dX4_condition_89 (by decide) rfl ?_
              refine x_vv C (As := [.int r44, .int 0]) (rest := []) (c_emit E l a w69 hW71 r44 (0 : Int32)) mf_X3_emit w_631 79 k73 rfl rfl rfl (Nat.le_of_ble_eq_true rfl) ⟨(by dsimp only [xRm]; omega), (by dsimp only [xRm]; omega)⟩ ⟨(Nat.le_of_ble_eq_true rfl), (Nat.le_of_ble_eq_true rfl)⟩ dX4_condition_90 rfl (fun w77 h75 => ?_)
              obtain ⟨hW78, kq79⟩ := h75
              have k80 : w77[1]? = some (ob (a 1) 7 [.ref (a 2), .int (nI n38), .int v40, .int v68, .int v42]) := keeps_at kq79 k72 (by first | decide | omega | (dsimp only; omega))
              have kp81 := keeps_tr kp74 kq79 (fun q hq => by first | omega | (dsimp only at *; omega))
              refine x_iinc C (v := (nI (k + 1))) (lv' := [(5, .int (nI (k + 1))), (4, .int (nI n64)), (3, .int (-1)), (6, .int r44), (0, .ref (a 1)), (1, .ref (a 79)), (2, .int (nI o))]) dX4_condition_93 6 rfl (nI_add k 1) (by decide) rfl rfl ?_
              refine x_goto C (tgt := 8) dX4_condition_96 (by decide) ?_
              refine x_lv (lv1 := [(0, .ref (a 1)), (1, .ref (a 79)), (2, .int (nI o)), (3, .int (-1)), (4, .int (nI n64)), (5, .int (nI (k + 1)))]) [4, 5, 6, 2, 1, 0] rfl ?_
              exact ih8 ((-1) : Int32) ((nI n64)) (k + 1) w77 hW78 (by omega) (by omega) kp81
            · skip
              refine x_iconst C (v := 1) dX4_condition_66 (by decide) rfl ?_
              exact x_zret C hr hlk rfl dX4_condition_67 ⟨hW57, kp60, (Or.inr rfl)⟩
          · skip
            refine x_aload_n C dX4_condition_45 rfl 2 rfl rfl ?_
            obtain ⟨_, k82, v83, n84, n86, bn85, bn87, rfl⟩ := hW34 79 _ rfl
            refine x_get C (ci := 3) (k := 5) 79 k82 rfl in_X3 (by decide) w_262 rfl dX4_condition_46 rfl ?_
            refine x_istore_n C (lv' := [(3, .int (nI n84)), (6, .int r44), (0, .ref (a 1)), (1, .ref (a 79)), (2, .int (nI o)), (4, .int z8_4), (5, .int (nI k))]) dX4_condition_49 rfl (by decide) rfl rfl ?_
            refine x_goto C (tgt := 76) dX4_condition_50 (by decide) ?_
            refine x_aload_n C dX4_condition_76 rfl 2 rfl rfl ?_
            refine x_dup C dX4_condition_77 rfl rfl ?_
            refine x_get C (ci := 7) (k := 3) 1 k37 rfl in_X8 (by decide) w_41 rfl dX4_condition_78 rfl ?_
            refine x_iconst C (v := 1) dX4_condition_81 (by decide) rfl ?_
            refine x_iadd C (v := (v41 + (1 : Int32))) dX4_condition_82 rfl rfl ?_
            refine x_any (fun v88 => ?_)
            obtain ⟨w89, hw90⟩ : ∃ w : va_W, w = List.set w33 1 (ob (a 1) 7 [.ref (a 2), .int (nI n38), .int v40, .int v88, .int v42]) := ⟨_, rfl⟩
            refine x_put C (ci := 7) (k := 3) (ty := .int) 1 k37 rfl in_X8 tyX8 tyX8_ok nmX8 (by decide) w_41 rfl rfl rfl rfl (Nat.le_of_ble_eq_true rfl) hw90.symm dX4_condition_83 rfl ?_
            have hW91 : WX (okX E a) w89 := by rw [hw90]; exact hW34.set (k := 1) rfl ⟨n38, v40, v88, v42, by omega, rfl⟩
            have k92 : w89[1]? = some (ob (a 1) 7 [.ref (a 2), .int (nI n38), .int v40, .int v88, .int v42]) := by rw [hw90]; exact set_eq k37
            have k93 : w89[79]? = some (ob (a 79) 3 [.int v83, .ref (a 80), .ref (a 81), .ref (a 82), .ref (a 83), .int (nI n84), .ref (a 84), .ref (a 85), .ref (a 86), .int (nI n86)]) := by rw [hw90]; exact set_ne k82 (by decide)
            have kp94 := keeps_set kp36 hw90 (by first | exact rfl | decide | omega | (dsimp only; omega))
            refine x_aload_n C dX4_condition_86 rfl 3 rfl rfl ?_
            refine x_iload C dX4_condition_87 1 rfl rfl ?_
            refine x_iconst C (v := 0) dX4_condition_89 (by decide) rfl ?_
            refine x_vv C (As := [.int r44, .int 0]) (rest := []) (c_emit E l a w89 hW91 r44 (0 : Int32)) mf_X3_emit w_631 79 k93 rfl rfl rfl (Nat.le_of_ble_eq_true rfl) ⟨(by dsimp only [xRm]; omega), (by dsimp only [xRm]; omega)⟩ ⟨(Nat.le_of_ble_eq_true rfl), (Nat.le_of_ble_eq_true rfl)⟩ dX4_condition_90 rfl (fun w97 h95 => ?_)
            obtain ⟨hW98, kq99⟩ := h95
            have k100 : w97[1]? = some (ob (a 1) 7 [.ref (a 2), .int (nI n38), .int v40, .int v88, .int v42]) := keeps_at kq99 k92 (by first | decide | omega | (dsimp only; omega))
            have kp101 := keeps_tr kp94 kq99 (fun q hq => by first | omega | (dsimp only at *; omega))
            refine x_iinc C (v := (nI (k + 1))) (lv' := [(5, .int (nI (k + 1))), (3, .int (nI n84)), (6, .int r44), (0, .ref (a 1)), (1, .ref (a 79)), (2, .int (nI o)), (4, .int z8_4)]) dX4_condition_93 6 rfl (nI_add k 1) (by decide) rfl rfl ?_
            refine x_goto C (tgt := 8) dX4_condition_96 (by decide) ?_
            refine x_lv (lv1 := [(0, .ref (a 1)), (1, .ref (a 79)), (2, .int (nI o)), (3, .int (nI n84)), (4, .int z8_4), (5, .int (nI (k + 1)))]) [3, 4, 5, 1, 6, 0] rfl ?_
            exact ih8 ((nI n84)) z8_4 (k + 1) w97 hW98 (by omega) (by omega) kp101
        · skip
          refine x_iconst C (v := 0) dX4_condition_25 (by decide) rfl ?_
          exact x_zret C hr hlk rfl dX4_condition_26 ⟨hW20, kp23, (Or.inl rfl)⟩
  refine x_lv (lv1 := [(0, .ref (a 1)), (1, .ref (a 79)), (2, .int (nI o)), (3, .int (-1)), (4, .int (-1)), (5, .int 0)]) [3, 4, 5, 2, 1, 0] rfl ?_
  exact loop8 _ ((-1) : Int32) ((-1) : Int32) 0 ws hW (Nat.lt_succ_self _) (by omega) kp0
theorem con_all (E : xE) (l : Launch) (a : Nat → Nat) : ∀ n, PieC E l a n ∧ ConC E l a n := by
  intro n
  induction n with
  | zero =>
    have h1 : PieC E l a 0 := fun ws hW o ho hn => c_piece E l a ws hW o ho 0 hn (fun k hk => by omega) (fun k hk => by omega)
    exact ⟨h1, fun ws hW o ho hn => c_condition E l a ws hW o ho 0 hn h1⟩
  | succ n ih =>
    have h1 : PieC E l a (n + 1) := fun ws hW o ho hn => c_piece E l a ws hW o ho (n + 1) hn (fun k hk => by
      have : k = n := by omega
      subst this; exact ih.2) (fun k hk => by
      have : k = n := by omega
      subst this; exact ih.1)
    exact ⟨h1, fun ws hW o ho hn => c_condition E l a ws hW o ho (n + 1) hn h1⟩
theorem dX4_clause_0 : decode cX4_clause 0 = .ok (.ldc 37, 2) := by decide +kernel
theorem dX4_clause_2 : decode cX4_clause 2 = .ok (.aload_n 0, 1) := by decide +kernel
theorem dX4_clause_3 : decode cX4_clause 3 = .ok (.invokevirtual 24, 3) := by decide +kernel
theorem dX4_clause_6 : decode cX4_clause 6 = .ok (.invokestatic 39, 3) := by decide +kernel
theorem dX4_clause_9 : decode cX4_clause 9 = .ok (.istore_n 3, 1) := by decide +kernel
theorem dX4_clause_10 : decode cX4_clause 10 = .ok (.iload_n 3, 1) := by decide +kernel
theorem dX4_clause_11 : decode cX4_clause 11 = .ok (.ifCond .ge 9, 3) := by decide +kernel
theorem dX4_clause_14 : decode cX4_clause 14 = .ok (.aload_n 0, 1) := by decide +kernel
theorem dX4_clause_15 : decode cX4_clause 15 = .ok (.iconst 1, 1) := by decide +kernel
theorem dX4_clause_16 : decode cX4_clause 16 = .ok (.invokevirtual 34, 3) := by decide +kernel
theorem dX4_clause_19 : decode cX4_clause 19 = .ok (.ireturn, 1) := by decide +kernel
theorem dX4_clause_20 : decode cX4_clause 20 = .ok (.iload_n 2, 1) := by decide +kernel
theorem dX4_clause_21 : decode cX4_clause 21 = .ok (.ifCond .lt 9, 3) := by decide +kernel
theorem dX4_clause_24 : decode cX4_clause 24 = .ok (.iload_n 2, 1) := by decide +kernel
theorem dX4_clause_25 : decode cX4_clause 25 = .ok (.bipush 16, 2) := by decide +kernel
theorem dX4_clause_27 : decode cX4_clause 27 = .ok (.if_icmp .lt 9, 3) := by decide +kernel
theorem dX4_clause_30 : decode cX4_clause 30 = .ok (.aload_n 0, 1) := by decide +kernel
theorem dX4_clause_31 : decode cX4_clause 31 = .ok (.iconst 4, 1) := by decide +kernel
theorem dX4_clause_32 : decode cX4_clause 32 = .ok (.invokevirtual 34, 3) := by decide +kernel
theorem dX4_clause_35 : decode cX4_clause 35 = .ok (.ireturn, 1) := by decide +kernel
theorem dX4_clause_36 : decode cX4_clause 36 = .ok (.aload_n 0, 1) := by decide +kernel
theorem dX4_clause_37 : decode cX4_clause 37 = .ok (.dup, 1) := by decide +kernel
theorem dX4_clause_38 : decode cX4_clause 38 = .ok (.getfield 43, 3) := by decide +kernel
theorem dX4_clause_41 : decode cX4_clause 41 = .ok (.iconst 1, 1) := by decide +kernel
theorem dX4_clause_42 : decode cX4_clause 42 = .ok (.iadd, 1) := by decide +kernel
theorem dX4_clause_43 : decode cX4_clause 43 = .ok (.putfield 43, 3) := by decide +kernel
theorem dX4_clause_46 : decode cX4_clause 46 = .ok (.aload_n 1, 1) := by decide +kernel
theorem dX4_clause_47 : decode cX4_clause 47 = .ok (.getfield 46, 3) := by decide +kernel
theorem dX4_clause_50 : decode cX4_clause 50 = .ok (.iload_n 2, 1) := by decide +kernel
theorem dX4_clause_51 : decode cX4_clause 51 = .ok (.iload_n 3, 1) := by decide +kernel
theorem dX4_clause_52 : decode cX4_clause 52 = .ok (.iastore, 1) := by decide +kernel
theorem dX4_clause_53 : decode cX4_clause 53 = .ok (.aload_n 1, 1) := by decide +kernel
theorem dX4_clause_54 : decode cX4_clause 54 = .ok (.getfield 50, 3) := by decide +kernel
theorem dX4_clause_57 : decode cX4_clause 57 = .ok (.iload_n 2, 1) := by decide +kernel
theorem dX4_clause_58 : decode cX4_clause 58 = .ok (.aload_n 1, 1) := by decide +kernel
theorem dX4_clause_59 : decode cX4_clause 59 = .ok (.getfield 15, 3) := by decide +kernel
theorem dX4_clause_62 : decode cX4_clause 62 = .ok (.iastore, 1) := by decide +kernel
theorem dX4_clause_63 : decode cX4_clause 63 = .ok (.aload_n 0, 1) := by decide +kernel
theorem dX4_clause_64 : decode cX4_clause 64 = .ok (.aload_n 1, 1) := by decide +kernel
theorem dX4_clause_65 : decode cX4_clause 65 = .ok (.iconst 0, 1) := by decide +kernel
theorem dX4_clause_66 : decode cX4_clause 66 = .ok (.invokestatic 53, 3) := by decide +kernel
theorem dX4_clause_69 : decode cX4_clause 69 = .ok (.ifCond .ne 5, 3) := by decide +kernel
theorem dX4_clause_72 : decode cX4_clause 72 = .ok (.iconst 0, 1) := by decide +kernel
theorem dX4_clause_73 : decode cX4_clause 73 = .ok (.ireturn, 1) := by decide +kernel
theorem dX4_clause_74 : decode cX4_clause 74 = .ok (.aload_n 1, 1) := by decide +kernel
theorem dX4_clause_75 : decode cX4_clause 75 = .ok (.getfield 56, 3) := by decide +kernel
theorem dX4_clause_78 : decode cX4_clause 78 = .ok (.iload_n 2, 1) := by decide +kernel
theorem dX4_clause_79 : decode cX4_clause 79 = .ok (.aload_n 1, 1) := by decide +kernel
theorem dX4_clause_80 : decode cX4_clause 80 = .ok (.getfield 15, 3) := by decide +kernel
theorem dX4_clause_83 : decode cX4_clause 83 = .ok (.iastore, 1) := by decide +kernel
theorem dX4_clause_84 : decode cX4_clause 84 = .ok (.aload_n 0, 1) := by decide +kernel
theorem dX4_clause_85 : decode cX4_clause 85 = .ok (.bipush 40, 2) := by decide +kernel
theorem dX4_clause_87 : decode cX4_clause 87 = .ok (.invokevirtual 30, 3) := by decide +kernel
theorem dX4_clause_90 : decode cX4_clause 90 = .ok (.ifCond .eq 21, 3) := by decide +kernel
theorem dX4_clause_93 : decode cX4_clause 93 = .ok (.aload_n 0, 1) := by decide +kernel
theorem dX4_clause_94 : decode cX4_clause 94 = .ok (.aload_n 1, 1) := by decide +kernel
theorem dX4_clause_95 : decode cX4_clause 95 = .ok (.iconst 1, 1) := by decide +kernel
theorem dX4_clause_96 : decode cX4_clause 96 = .ok (.invokestatic 59, 3) := by decide +kernel
theorem dX4_clause_99 : decode cX4_clause 99 = .ok (.ifCond .eq 12, 3) := by decide +kernel
theorem dX4_clause_102 : decode cX4_clause 102 = .ok (.aload_n 0, 1) := by decide +kernel
theorem dX4_clause_103 : decode cX4_clause 103 = .ok (.bipush 41, 2) := by decide +kernel
theorem dX4_clause_105 : decode cX4_clause 105 = .ok (.invokevirtual 30, 3) := by decide +kernel
theorem dX4_clause_108 : decode cX4_clause 108 = .ok (.ifCond .ne 5, 3) := by decide +kernel
theorem dX4_clause_111 : decode cX4_clause 111 = .ok (.iconst 0, 1) := by decide +kernel
theorem dX4_clause_112 : decode cX4_clause 112 = .ok (.ireturn, 1) := by decide +kernel
theorem dX4_clause_113 : decode cX4_clause 113 = .ok (.aload_n 1, 1) := by decide +kernel
theorem dX4_clause_114 : decode cX4_clause 114 = .ok (.getfield 62, 3) := by decide +kernel
theorem dX4_clause_117 : decode cX4_clause 117 = .ok (.iload_n 2, 1) := by decide +kernel
theorem dX4_clause_118 : decode cX4_clause 118 = .ok (.aload_n 1, 1) := by decide +kernel
theorem dX4_clause_119 : decode cX4_clause 119 = .ok (.getfield 15, 3) := by decide +kernel
theorem dX4_clause_122 : decode cX4_clause 122 = .ok (.iastore, 1) := by decide +kernel
theorem dX4_clause_123 : decode cX4_clause 123 = .ok (.aload_n 1, 1) := by decide +kernel
theorem dX4_clause_124 : decode cX4_clause 124 = .ok (.iload_n 2, 1) := by decide +kernel
theorem dX4_clause_125 : decode cX4_clause 125 = .ok (.iconst 1, 1) := by decide +kernel
theorem dX4_clause_126 : decode cX4_clause 126 = .ok (.iadd, 1) := by decide +kernel
theorem dX4_clause_127 : decode cX4_clause 127 = .ok (.putfield 9, 3) := by decide +kernel
theorem dX4_clause_130 : decode cX4_clause 130 = .ok (.iconst 1, 1) := by decide +kernel
theorem dX4_clause_131 : decode cX4_clause 131 = .ok (.ireturn, 1) := by decide +kernel
set_option maxRecDepth 20000 in
set_option maxHeartbeats 4000000 in
theorem c_clause (E : xE) (l : Launch) (a : Nat → Nat) (ws : va_W) (hW : WX (okX E a) ws) (k : Int32) : xI E l yX4_clause cX4_clause 4 (some .boolean) 43 [.ref (a 1), .ref (a 79), .int k] ws (fun r w => WX (okX E a) w ∧ keeps ws w (fun q => (q = 1 ∨ q = 2) ∨ (79 ≤ q ∧ q < 87)) ∧ zb r) := by
  refine xI_start (lv := [(0, .ref (a 1)), (1, .ref (a 79)), (2, .int k)]) RX4 (by decide) rfl (Nat.le_of_ble_eq_true rfl) rfl (fun p e s m below meth c A C hr hlk => ?_)
  have kp0 : keeps ws ws (fun q => (q = 1 ∨ q = 2) ∨ (79 ≤ q ∧ q < 87)) := keeps_rf
  refine x_ldcS C C.2.2.2.2.2.2.2.2.2.2.2.2.1 dX4_clause_0 rfl ?_
  refine x_aload_n C dX4_clause_2 rfl 0 rfl rfl ?_
  obtain ⟨_, k1, n2, v4, v5, v6, bn3, rfl⟩ := hW 1 _ rfl
  refine x_vi C (As := []) (rest := [.ref (sK E 0)]) (c_sign E l a ws hW) mf_X8_sign w_522 1 k1 rfl rfl rfl (Nat.le_of_ble_eq_true rfl) ⟨(Nat.le_of_ble_eq_true rfl), (Nat.le_of_ble_eq_true rfl)⟩ ⟨(Nat.le_of_ble_eq_true rfl), (Nat.le_of_ble_eq_true rfl)⟩ dX4_clause_3 rfl (fun r8 w9 h7 => ?_)
  have hW10 := h7
  refine x_ws hW10 ?_
  refine x_si C (As := [.ref (sK E 0), .int r8]) (rest := []) (c_placeIn E l a ws hW r8 0 (by decide)) mf_X4_placeIn w_526 rfl rfl (Nat.le_of_ble_eq_true rfl) ⟨(Nat.le_of_ble_eq_true rfl), (Nat.le_of_ble_eq_true rfl)⟩ ⟨(Nat.le_of_ble_eq_true rfl), (Nat.le_of_ble_eq_true rfl)⟩ dX4_clause_6 rfl (fun r11 w12 h13 => ?_)
  refine x_ws h13 ?_
  refine x_istore_n C (lv' := [(3, .int r11), (0, .ref (a 1)), (1, .ref (a 79)), (2, .int k)]) dX4_clause_9 rfl (by decide) rfl rfl ?_
  refine x_iload_n C dX4_clause_10 rfl 0 rfl rfl ?_
  refine x_if_ge C (tgt := 20) dX4_clause_11 (by decide) rfl (fun c14 => ?_) (fun c14 => ?_)
  · skip
    obtain ⟨j15, hj16, ej17⟩ := nI_of (Int32.not_lt.mpr c14)
    subst ej17
    refine x_iload_n C dX4_clause_20 rfl 3 rfl rfl ?_
    refine x_if_lt C (tgt := 30) dX4_clause_21 (by decide) rfl (fun c18 => ?_) (fun c18 => ?_)
    · skip
      refine x_aload_n C dX4_clause_30 rfl 1 rfl rfl ?_
      refine x_iconst C (v := 4) dX4_clause_31 (by decide) rfl ?_
      refine x_vi C (As := [.int 4]) (rest := []) (c_fails E l a ws hW (4 : Int32)) mf_X8_fails w_615 1 k1 rfl rfl rfl (Nat.le_of_ble_eq_true rfl) ⟨(Nat.le_of_ble_eq_true rfl), (Nat.le_of_ble_eq_true rfl)⟩ ⟨(Nat.le_of_ble_eq_true rfl), (Nat.le_of_ble_eq_true rfl)⟩ dX4_clause_32 rfl (fun r20 w21 h19 => ?_)
      obtain ⟨hW22, kq23, zb24⟩ := h19
      have kp25 := keeps_tr kp0 kq23 (fun q hq => by first | omega | (dsimp only at *; omega))
      exact x_zret C hr hlk (zb_nar zb24) dX4_clause_35 ⟨hW22, kp25, zb24⟩
    · skip
      obtain ⟨j26, hj27, ej28⟩ := nI_of c18
      subst ej28
      refine x_iload_n C dX4_clause_24 rfl 3 rfl rfl ?_
      refine x_bipush C (v := 16) dX4_clause_25 (by decide) rfl ?_
      refine x_icmp_lt C (tgt := 36) dX4_clause_27 (by decide) rfl (fun c29 => ?_) (fun c29 => ?_)
      · skip
        have nf30 := nI_lt' (a := j26) (b := 16) c29 (by omega) (by omega)
        refine x_aload_n C dX4_clause_36 rfl 1 rfl rfl ?_
        refine x_dup C dX4_clause_37 rfl rfl ?_
        refine x_get C (ci := 7) (k := 3) 1 k1 rfl in_X8 (by decide) w_41 rfl dX4_clause_38 rfl ?_
        refine x_iconst C (v := 1) dX4_clause_41 (by decide) rfl ?_
        refine x_iadd C (v := (v5 + (1 : Int32))) dX4_clause_42 rfl rfl ?_
        refine x_any (fun v31 => ?_)
        obtain ⟨w32, hw33⟩ : ∃ w : va_W, w = List.set ws 1 (ob (a 1) 7 [.ref (a 2), .int (nI n2), .int v4, .int v31, .int v6]) := ⟨_, rfl⟩
        refine x_put C (ci := 7) (k := 3) (ty := .int) 1 k1 rfl in_X8 tyX8 tyX8_ok nmX8 (by decide) w_41 rfl rfl rfl rfl (Nat.le_of_ble_eq_true rfl) hw33.symm dX4_clause_43 rfl ?_
        have hW34 : WX (okX E a) w32 := by rw [hw33]; exact hW.set (k := 1) rfl ⟨n2, v4, v31, v6, by omega, rfl⟩
        have k35 : w32[1]? = some (ob (a 1) 7 [.ref (a 2), .int (nI n2), .int v4, .int v31, .int v6]) := by rw [hw33]; exact set_eq k1
        have kp36 := keeps_set kp0 hw33 (by first | exact rfl | decide | omega | (dsimp only; omega))
        refine x_aload_n C dX4_clause_46 rfl 2 rfl rfl ?_
        obtain ⟨_, k37, v38, n39, n41, bn40, bn42, rfl⟩ := hW34 79 _ rfl
        refine x_get C (ci := 3) (k := 1) 79 k37 rfl in_X3 (by decide) w_254 rfl dX4_clause_47 rfl ?_
        refine x_iload_n C dX4_clause_50 rfl 3 rfl rfl ?_
        refine x_iload_n C dX4_clause_51 rfl 0 rfl rfl ?_
        obtain ⟨_, k43, f44, rfl⟩ := hW34 80 _ rfl
        obtain ⟨w45, hw46⟩ : ∃ w : va_W, w = List.set w32 80 (iA E (a 80) 16 (upd f44 (nI j26).toNatClampNeg (nI j15))) := ⟨_, rfl⟩
        refine x_iast C 80 k43 (vp_in_nI (by omega) (by decide)) hw46.symm dX4_clause_52 rfl ?_
        have hW47 : WX (okX E a) w45 := by rw [hw46]; exact hW34.set (k := 80) rfl ⟨_, rfl⟩
        have k48 : w45[1]? = some (ob (a 1) 7 [.ref (a 2), .int (nI n2), .int v4, .int v31, .int v6]) := by rw [hw46]; exact set_ne k35 (by decide)
        have k49 : w45[79]? = some (ob (a 79) 3 [.int v38, .ref (a 80), .ref (a 81), .ref (a 82), .ref (a 83), .int (nI n39), .ref (a 84), .ref (a 85), .ref (a 86), .int (nI n41)]) := by rw [hw46]; exact set_ne k37 (by decide)
        have k50 : w45[80]? = some (iA E (a 80) 16 (upd f44 (nI j26).toNatClampNeg (nI j15))) := by rw [hw46]; exact set_eq k43
        have kp51 := keeps_set kp36 hw46 (by first | exact rfl | decide | omega | (dsimp only; omega))
        refine x_aload_n C dX4_clause_53 rfl 2 rfl rfl ?_
        refine x_get C (ci := 3) (k := 2) 79 k49 rfl in_X3 (by decide) w_256 rfl dX4_clause_54 rfl ?_
        refine x_iload_n C dX4_clause_57 rfl 3 rfl rfl ?_
        refine x_aload_n C dX4_clause_58 rfl 2 rfl rfl ?_
        refine x_get C (ci := 3) (k := 5) 79 k49 rfl in_X3 (by decide) w_262 rfl dX4_clause_59 rfl ?_
        obtain ⟨_, k52, f53, rfl⟩ := hW47 81 _ rfl
        obtain ⟨w54, hw55⟩ : ∃ w : va_W, w = List.set w45 81 (iA E (a 81) 16 (upd f53 (nI j26).toNatClampNeg (nI n39))) := ⟨_, rfl⟩
        refine x_iast C 81 k52 (vp_in_nI (by omega) (by decide)) hw55.symm dX4_clause_62 rfl ?_
        have hW56 : WX (okX E a) w54 := by rw [hw55]; exact hW47.set (k := 81) rfl ⟨_, rfl⟩
        have k57 : w54[1]? = some (ob (a 1) 7 [.ref (a 2), .int (nI n2), .int v4, .int v31, .int v6]) := by rw [hw55]; exact set_ne k48 (by decide)
        have k58 : w54[79]? = some (ob (a 79) 3 [.int v38, .ref (a 80), .ref (a 81), .ref (a 82), .ref (a 83), .int (nI n39), .ref (a 84), .ref (a 85), .ref (a 86), .int (nI n41)]) := by rw [hw55]; exact set_ne k49 (by decide)
        have k59 : w54[80]? = some (iA E (a 80) 16 (upd f44 (nI j26).toNatClampNeg (nI j15))) := by rw [hw55]; exact set_ne k50 (by decide)
        have k60 : w54[81]? = some (iA E (a 81) 16 (upd f53 (nI j26).toNatClampNeg (nI n39))) := by rw [hw55]; exact set_eq k52
        have kp61 := keeps_set kp51 hw55 (by first | exact rfl | decide | omega | (dsimp only; omega))
        refine x_aload_n C dX4_clause_63 rfl 1 rfl rfl ?_
        refine x_aload_n C dX4_clause_64 rfl 2 rfl rfl ?_
        refine x_iconst C (v := 0) dX4_clause_65 (by decide) rfl ?_
        refine x_si C (As := [.ref (a 1), .ref (a 79), .int 0]) (rest := []) (sum_all E l a 6 w54 hW56 0 (by omega) (by omega)) mf_X4_sum w_619 rfl rfl (Nat.le_of_ble_eq_true rfl) ⟨(Nat.le_of_ble_eq_true rfl), (Nat.le_of_ble_eq_true rfl)⟩ ⟨(Nat.le_of_ble_eq_true rfl), (Nat.le_of_ble_eq_true rfl)⟩ dX4_clause_66 rfl (fun r63 w64 h62 => ?_)
        obtain ⟨hW65, kq66, zb67⟩ := h62
        have kp68 := keeps_tr kp61 kq66 (fun q hq => by first | omega | (dsimp only at *; omega))
        refine x_if_ne C (tgt := 74) dX4_clause_69 (by decide) rfl (fun c69 => ?_) (fun c69 => ?_)
        · skip
          refine x_aload_n C dX4_clause_74 rfl 2 rfl rfl ?_
          obtain ⟨_, k70, v71, n72, n74, bn73, bn75, rfl⟩ := hW65 79 _ rfl
          refine x_get C (ci := 3) (k := 3) 79 k70 rfl in_X3 (by decide) w_258 rfl dX4_clause_75 rfl ?_
          refine x_iload_n C dX4_clause_78 rfl 3 rfl rfl ?_
          refine x_aload_n C dX4_clause_79 rfl 2 rfl rfl ?_
          refine x_get C (ci := 3) (k := 5) 79 k70 rfl in_X3 (by decide) w_262 rfl dX4_clause_80 rfl ?_
          obtain ⟨_, k76, f77, rfl⟩ := hW65 82 _ rfl
          obtain ⟨w78, hw79⟩ : ∃ w : va_W, w = List.set w64 82 (iA E (a 82) 16 (upd f77 (nI j26).toNatClampNeg (nI n72))) := ⟨_, rfl⟩
          refine x_iast C 82 k76 (vp_in_nI (by omega) (by decide)) hw79.symm dX4_clause_83 rfl ?_
          have hW80 : WX (okX E a) w78 := by rw [hw79]; exact hW65.set (k := 82) rfl ⟨_, rfl⟩
          have k81 : w78[79]? = some (ob (a 79) 3 [.int v71, .ref (a 80), .ref (a 81), .ref (a 82), .ref (a 83), .int (nI n72), .ref (a 84), .ref (a 85), .ref (a 86), .int (nI n74)]) := by rw [hw79]; exact set_ne k70 (by decide)
          have k82 : w78[82]? = some (iA E (a 82) 16 (upd f77 (nI j26).toNatClampNeg (nI n72))) := by rw [hw79]; exact set_eq k76
          have kp83 := keeps_set kp68 hw79 (by first | exact rfl | decide | omega | (dsimp only; omega))
          refine x_aload_n C dX4_clause_84 rfl 1 rfl rfl ?_
          refine x_bipush C (v := 40) dX4_clause_85 (by decide) rfl ?_
          obtain ⟨_, k84, n85, v87, v88, v89, bn86, rfl⟩ := hW80 1 _ rfl
          refine x_vi C (As := [.int 40]) (rest := []) (c_takes E l a w78 hW80 (40 : Int32)) mf_X8_takes w_635 1 k84 rfl rfl rfl (Nat.le_of_ble_eq_true rfl) ⟨(Nat.le_of_ble_eq_true rfl), (Nat.le_of_ble_eq_true rfl)⟩ ⟨(Nat.le_of_ble_eq_true rfl), (Nat.le_of_ble_eq_true rfl)⟩ dX4_clause_87 rfl (fun r91 w92 h90 => ?_)
          obtain ⟨hW93, kq94, zb95⟩ := h90
          have k96 : w92[79]? = some (ob (a 79) 3 [.int v71, .ref (a 80), .ref (a 81), .ref (a 82), .ref (a 83), .int (nI n72), .ref (a 84), .ref (a 85), .ref (a 86), .int (nI n74)]) := keeps_at kq94 k81 (by first | decide | omega | (dsimp only; omega))
          have k97 : w92[82]? = some (iA E (a 82) 16 (upd f77 (nI j26).toNatClampNeg (nI n72))) := keeps_at kq94 k82 (by first | decide | omega | (dsimp only; omega))
          have kp98 := keeps_tr kp83 kq94 (fun q hq => by first | omega | (dsimp only at *; omega))
          refine x_if_eq C (tgt := 111) dX4_clause_90 (by decide) rfl (fun c99 => ?_) (fun c99 => ?_)
          · skip
            refine x_iconst C (v := 0) dX4_clause_111 (by decide) rfl ?_
            exact x_zret C hr hlk rfl dX4_clause_112 ⟨hW93, kp98, (Or.inl rfl)⟩
          · skip
            refine x_aload_n C dX4_clause_93 rfl 1 rfl rfl ?_
            refine x_aload_n C dX4_clause_94 rfl 2 rfl rfl ?_
            refine x_iconst C (v := 1) dX4_clause_95 (by decide) rfl ?_
            refine x_si C (As := [.ref (a 1), .ref (a 79), .int 1]) (rest := []) ((con_all E l a 6).2 w92 hW93 1 (by omega) (by omega)) mf_X4_condition w_642 rfl rfl (Nat.le_of_ble_eq_true rfl) ⟨(Nat.le_of_ble_eq_true rfl), (Nat.le_of_ble_eq_true rfl)⟩ ⟨(Nat.le_of_ble_eq_true rfl), (Nat.le_of_ble_eq_true rfl)⟩ dX4_clause_96 rfl (fun r101 w102 h100 => ?_)
            obtain ⟨hW103, kq104, zb105⟩ := h100
            have kp106 := keeps_tr kp98 kq104 (fun q hq => by first | omega | (dsimp only at *; omega))
            refine x_if_eq C (tgt := 111) dX4_clause_99 (by decide) rfl (fun c107 => ?_) (fun c107 => ?_)
            · skip
              refine x_iconst C (v := 0) dX4_clause_111 (by decide) rfl ?_
              exact x_zret C hr hlk rfl dX4_clause_112 ⟨hW103, kp106, (Or.inl rfl)⟩
            · skip
              refine x_aload_n C dX4_clause_102 rfl 1 rfl rfl ?_
              refine x_bipush C (v := 41) dX4_clause_103 (by decide) rfl ?_
              obtain ⟨_, k108, n109, v111, v112, v113, bn110, rfl⟩ := hW103 1 _ rfl
              refine x_vi C (As := [.int 41]) (rest := []) (c_takes E l a w102 hW103 (41 : Int32)) mf_X8_takes w_635 1 k108 rfl rfl rfl (Nat.le_of_ble_eq_true rfl) ⟨(Nat.le_of_ble_eq_true rfl), (Nat.le_of_ble_eq_true rfl)⟩ ⟨(Nat.le_of_ble_eq_true rfl), (Nat.le_of_ble_eq_true rfl)⟩ dX4_clause_105 rfl (fun r115 w116 h114 => ?_)
              obtain ⟨hW117, kq118, zb119⟩ := h114
              have kp120 := keeps_tr kp106 kq118 (fun q hq => by first | omega | (dsimp only at *; omega))
              refine x_if_ne C (tgt := 113) dX4_clause_108 (by decide) rfl (fun c121 => ?_) (fun c121 => ?_)
              · skip
                refine x_aload_n C dX4_clause_113 rfl 2 rfl rfl ?_
                obtain ⟨_, k122, v123, n124, n126, bn125, bn127, rfl⟩ := hW117 79 _ rfl
                refine x_get C (ci := 3) (k := 4) 79 k122 rfl in_X3 (by decide) w_260 rfl dX4_clause_114 rfl ?_
                refine x_iload_n C dX4_clause_117 rfl 3 rfl rfl ?_
                refine x_aload_n C dX4_clause_118 rfl 2 rfl rfl ?_
                refine x_get C (ci := 3) (k := 5) 79 k122 rfl in_X3 (by decide) w_262 rfl dX4_clause_119 rfl ?_
                obtain ⟨_, k128, f129, rfl⟩ := hW117 83 _ rfl
                obtain ⟨w130, hw131⟩ : ∃ w : va_W, w = List.set w116 83 (iA E (a 83) 16 (upd f129 (nI j26).toNatClampNeg (nI n124))) := ⟨_, rfl⟩
                refine x_iast C 83 k128 (vp_in_nI (by omega) (by decide)) hw131.symm dX4_clause_122 rfl ?_
                have hW132 : WX (okX E a) w130 := by rw [hw131]; exact hW117.set (k := 83) rfl ⟨_, rfl⟩
                have k133 : w130[79]? = some (ob (a 79) 3 [.int v123, .ref (a 80), .ref (a 81), .ref (a 82), .ref (a 83), .int (nI n124), .ref (a 84), .ref (a 85), .ref (a 86), .int (nI n126)]) := by rw [hw131]; exact set_ne k122 (by decide)
                have k134 : w130[83]? = some (iA E (a 83) 16 (upd f129 (nI j26).toNatClampNeg (nI n124))) := by rw [hw131]; exact set_eq k128
                have kp135 := keeps_set kp120 hw131 (by first | exact rfl | decide | omega | (dsimp only; omega))
                refine x_aload_n C dX4_clause_123 rfl 2 rfl rfl ?_
                refine x_iload_n C dX4_clause_124 rfl 3 rfl rfl ?_
                refine x_iconst C (v := 1) dX4_clause_125 (by decide) rfl ?_
                refine x_iadd C (v := (nI (j26 + 1))) dX4_clause_126 (nI_add j26 1) rfl ?_
                obtain ⟨w136, hw137⟩ : ∃ w : va_W, w = List.set w130 79 (ob (a 79) 3 [.int (nI (j26 + 1)), .ref (a 80), .ref (a 81), .ref (a 82), .ref (a 83), .int (nI n124), .ref (a 84), .ref (a 85), .ref (a 86), .int (nI n126)]) := ⟨_, rfl⟩
                refine x_put C (ci := 3) (k := 0) (ty := .int) 79 k133 rfl in_X3 tyX3 tyX3_ok nmX3 (by decide) w_251 rfl rfl rfl rfl (Nat.le_of_ble_eq_true rfl) hw137.symm dX4_clause_127 rfl ?_
                have hW138 : WX (okX E a) w136 := by rw [hw137]; exact hW132.set (k := 79) rfl ⟨(nI (j26 + 1)), n124, n126, by omega, by omega, rfl⟩
                have k139 : w136[79]? = some (ob (a 79) 3 [.int (nI (j26 + 1)), .ref (a 80), .ref (a 81), .ref (a 82), .ref (a 83), .int (nI n124), .ref (a 84), .ref (a 85), .ref (a 86), .int (nI n126)]) := by rw [hw137]; exact set_eq k133
                have k140 : w136[83]? = some (iA E (a 83) 16 (upd f129 (nI j26).toNatClampNeg (nI n124))) := by rw [hw137]; exact set_ne k134 (by decide)
                have kp141 := keeps_set kp135 hw137 (by first | exact rfl | decide | omega | (dsimp only; omega))
                refine x_iconst C (v := 1) dX4_clause_130 (by decide) rfl ?_
                exact x_zret C hr hlk rfl dX4_clause_131 ⟨hW138, kp141, (Or.inr rfl)⟩
              · skip
                refine x_iconst C (v := 0) dX4_clause_111 (by decide) rfl ?_
                exact x_zret C hr hlk rfl dX4_clause_112 ⟨hW117, kp120, (Or.inl rfl)⟩
        · skip
          refine x_iconst C (v := 0) dX4_clause_72 (by decide) rfl ?_
          exact x_zret C hr hlk rfl dX4_clause_73 ⟨hW65, kp68, (Or.inl rfl)⟩
      · skip
        have nf142 := nI_nlt' (a := j26) (b := 16) c29 (by omega) (by omega)
        refine x_aload_n C dX4_clause_30 rfl 1 rfl rfl ?_
        refine x_iconst C (v := 4) dX4_clause_31 (by decide) rfl ?_
        refine x_vi C (As := [.int 4]) (rest := []) (c_fails E l a ws hW (4 : Int32)) mf_X8_fails w_615 1 k1 rfl rfl rfl (Nat.le_of_ble_eq_true rfl) ⟨(Nat.le_of_ble_eq_true rfl), (Nat.le_of_ble_eq_true rfl)⟩ ⟨(Nat.le_of_ble_eq_true rfl), (Nat.le_of_ble_eq_true rfl)⟩ dX4_clause_32 rfl (fun r144 w145 h143 => ?_)
        obtain ⟨hW146, kq147, zb148⟩ := h143
        have kp149 := keeps_tr kp0 kq147 (fun q hq => by first | omega | (dsimp only at *; omega))
        exact x_zret C hr hlk (zb_nar zb148) dX4_clause_35 ⟨hW146, kp149, zb148⟩
  · skip
    refine x_aload_n C dX4_clause_14 rfl 1 rfl rfl ?_
    refine x_iconst C (v := 1) dX4_clause_15 (by decide) rfl ?_
    refine x_vi C (As := [.int 1]) (rest := []) (c_fails E l a ws hW (1 : Int32)) mf_X8_fails w_615 1 k1 rfl rfl rfl (Nat.le_of_ble_eq_true rfl) ⟨(Nat.le_of_ble_eq_true rfl), (Nat.le_of_ble_eq_true rfl)⟩ ⟨(Nat.le_of_ble_eq_true rfl), (Nat.le_of_ble_eq_true rfl)⟩ dX4_clause_16 rfl (fun r151 w152 h150 => ?_)
    obtain ⟨hW153, kq154, zb155⟩ := h150
    have kp156 := keeps_tr kp0 kq154 (fun q hq => by first | omega | (dsimp only at *; omega))
    exact x_zret C hr hlk (zb_nar zb155) dX4_clause_19 ⟨hW153, kp156, zb155⟩
theorem dX4_read_0 : decode cX4_read 0 = .ok (.aload_n 1, 1) := by decide +kernel
theorem dX4_read_1 : decode cX4_read 1 = .ok (.iconst 0, 1) := by decide +kernel
theorem dX4_read_2 : decode cX4_read 2 = .ok (.putfield 9, 3) := by decide +kernel
theorem dX4_read_5 : decode cX4_read 5 = .ok (.aload_n 1, 1) := by decide +kernel
theorem dX4_read_6 : decode cX4_read 6 = .ok (.iconst 0, 1) := by decide +kernel
theorem dX4_read_7 : decode cX4_read 7 = .ok (.putfield 15, 3) := by decide +kernel
theorem dX4_read_10 : decode cX4_read 10 = .ok (.iconst 0, 1) := by decide +kernel
theorem dX4_read_11 : decode cX4_read 11 = .ok (.istore_n 2, 1) := by decide +kernel
theorem dX4_read_12 : decode cX4_read 12 = .ok (.iload_n 2, 1) := by decide +kernel
theorem dX4_read_13 : decode cX4_read 13 = .ok (.bipush 16, 2) := by decide +kernel
theorem dX4_read_15 : decode cX4_read 15 = .ok (.if_icmp .gt 41, 3) := by decide +kernel
theorem dX4_read_18 : decode cX4_read 18 = .ok (.aload_n 0, 1) := by decide +kernel
theorem dX4_read_19 : decode cX4_read 19 = .ok (.aload_n 1, 1) := by decide +kernel
theorem dX4_read_20 : decode cX4_read 20 = .ok (.iload_n 2, 1) := by decide +kernel
theorem dX4_read_21 : decode cX4_read 21 = .ok (.invokestatic 18, 3) := by decide +kernel
theorem dX4_read_24 : decode cX4_read 24 = .ok (.ifCond .ne 5, 3) := by decide +kernel
theorem dX4_read_27 : decode cX4_read 27 = .ok (.iconst 0, 1) := by decide +kernel
theorem dX4_read_28 : decode cX4_read 28 = .ok (.ireturn, 1) := by decide +kernel
theorem dX4_read_29 : decode cX4_read 29 = .ok (.aload_n 0, 1) := by decide +kernel
theorem dX4_read_30 : decode cX4_read 30 = .ok (.invokevirtual 24, 3) := by decide +kernel
theorem dX4_read_33 : decode cX4_read 33 = .ok (.iconst (-1), 1) := by decide +kernel
theorem dX4_read_34 : decode cX4_read 34 = .ok (.if_icmp .ne 5, 3) := by decide +kernel
theorem dX4_read_37 : decode cX4_read 37 = .ok (.iconst 1, 1) := by decide +kernel
theorem dX4_read_38 : decode cX4_read 38 = .ok (.ireturn, 1) := by decide +kernel
theorem dX4_read_39 : decode cX4_read 39 = .ok (.aload_n 0, 1) := by decide +kernel
theorem dX4_read_40 : decode cX4_read 40 = .ok (.bipush 59, 2) := by decide +kernel
theorem dX4_read_42 : decode cX4_read 42 = .ok (.invokevirtual 30, 3) := by decide +kernel
theorem dX4_read_45 : decode cX4_read 45 = .ok (.ifCond .ne 5, 3) := by decide +kernel
theorem dX4_read_48 : decode cX4_read 48 = .ok (.iconst 0, 1) := by decide +kernel
theorem dX4_read_49 : decode cX4_read 49 = .ok (.ireturn, 1) := by decide +kernel
theorem dX4_read_50 : decode cX4_read 50 = .ok (.iinc 2 1, 3) := by decide +kernel
theorem dX4_read_53 : decode cX4_read 53 = .ok (.goto (-41), 3) := by decide +kernel
theorem dX4_read_56 : decode cX4_read 56 = .ok (.aload_n 0, 1) := by decide +kernel
theorem dX4_read_57 : decode cX4_read 57 = .ok (.iconst 4, 1) := by decide +kernel
theorem dX4_read_58 : decode cX4_read 58 = .ok (.invokevirtual 34, 3) := by decide +kernel
theorem dX4_read_61 : decode cX4_read 61 = .ok (.ireturn, 1) := by decide +kernel
set_option maxRecDepth 20000 in
set_option maxHeartbeats 4000000 in
theorem c_read (E : xE) (l : Launch) (a : Nat → Nat) (ws : va_W) (hW : WX (okX E a) ws) : xI E l yX4_read cX4_read 3 (some .boolean) 44 [.ref (a 1), .ref (a 79)] ws (fun r w => WX (okX E a) w ∧ keeps ws w (fun q => (q = 1 ∨ q = 2) ∨ (79 ≤ q ∧ q < 87)) ∧ zb r) := by
  refine xI_start (lv := [(0, .ref (a 1)), (1, .ref (a 79))]) RX4 (by decide) rfl (Nat.le_of_ble_eq_true rfl) rfl (fun p e s m below meth c A C hr hlk => ?_)
  have kp0 : keeps ws ws (fun q => (q = 1 ∨ q = 2) ∨ (79 ≤ q ∧ q < 87)) := keeps_rf
  refine x_aload_n C dX4_read_0 rfl 1 rfl rfl ?_
  refine x_iconst C (v := 0) dX4_read_1 (by decide) rfl ?_
  obtain ⟨_, k1, v2, n3, n5, bn4, bn6, rfl⟩ := hW 79 _ rfl
  obtain ⟨w7, hw8⟩ : ∃ w : va_W, w = List.set ws 79 (ob (a 79) 3 [.int 0, .ref (a 80), .ref (a 81), .ref (a 82), .ref (a 83), .int (nI n3), .ref (a 84), .ref (a 85), .ref (a 86), .int (nI n5)]) := ⟨_, rfl⟩
  refine x_put C (ci := 3) (k := 0) (ty := .int) 79 k1 rfl in_X3 tyX3 tyX3_ok nmX3 (by decide) w_251 rfl rfl rfl rfl (Nat.le_of_ble_eq_true rfl) hw8.symm dX4_read_2 rfl ?_
  have hW9 : WX (okX E a) w7 := by rw [hw8]; exact hW.set (k := 79) rfl ⟨(0 : Int32), n3, n5, by omega, by omega, rfl⟩
  have k10 : w7[79]? = some (ob (a 79) 3 [.int 0, .ref (a 80), .ref (a 81), .ref (a 82), .ref (a 83), .int (nI n3), .ref (a 84), .ref (a 85), .ref (a 86), .int (nI n5)]) := by rw [hw8]; exact set_eq k1
  have kp11 := keeps_set kp0 hw8 (by first | exact rfl | decide | omega | (dsimp only; omega))
  refine x_aload_n C dX4_read_5 rfl 1 rfl rfl ?_
  refine x_iconst C (v := 0) dX4_read_6 (by decide) rfl ?_
  obtain ⟨w12, hw13⟩ : ∃ w : va_W, w = List.set w7 79 (ob (a 79) 3 [.int 0, .ref (a 80), .ref (a 81), .ref (a 82), .ref (a 83), .int 0, .ref (a 84), .ref (a 85), .ref (a 86), .int (nI n5)]) := ⟨_, rfl⟩
  refine x_put C (ci := 3) (k := 5) (ty := .int) 79 k10 rfl in_X3 tyX3 tyX3_ok nmX3 (by decide) w_262 rfl rfl rfl rfl (Nat.le_of_ble_eq_true rfl) hw13.symm dX4_read_7 rfl ?_
  have hW14 : WX (okX E a) w12 := by rw [hw13]; exact hW9.set (k := 79) rfl ⟨(0 : Int32), 0, n5, by omega, by omega, rfl⟩
  have k15 : w12[79]? = some (ob (a 79) 3 [.int 0, .ref (a 80), .ref (a 81), .ref (a 82), .ref (a 83), .int 0, .ref (a 84), .ref (a 85), .ref (a 86), .int (nI n5)]) := by rw [hw13]; exact set_eq k10
  have kp16 := keeps_set kp11 hw13 (by first | exact rfl | decide | omega | (dsimp only; omega))
  refine x_iconst C (v := 0) dX4_read_10 (by decide) rfl ?_
  refine x_istore_n C (lv' := [(2, .int 0), (0, .ref (a 1)), (1, .ref (a 79))]) dX4_read_11 rfl (by decide) rfl rfl ?_
  have loop12 : ∀ (fu12 : Nat) (k : Nat) (wl12 : va_W), WX (okX E a) wl12 → 17 - k < fu12 → k ≤ 17 → keeps ws wl12 (fun q => (q = 1 ∨ q = 2) ∨ (79 ≤ q ∧ q < 87)) → X E p l e (xRm 44 0 0) s m ([.ref (a 1), .ref (a 79)] : List Value).toArray below meth c A 3 0 0 (MQ below (va_Qi (fun r w => WX (okX E a) w ∧ keeps ws w (fun q => (q = 1 ∨ q = 2) ∨ (79 ≤ q ∧ q < 87)) ∧ zb r) (xB E A) A) ([.ref (a 1), .ref (a 79)] : List Value).toArray s 0 0 A) wl12 12 [(0, .ref (a 1)), (1, .ref (a 79)), (2, .int (nI k))] [] := by
    intro fu12
    induction fu12 with
    | zero => intro k wl12 _ q; omega
    | succ fu12 ih12 =>
      intro k wl12 hWl12 me12 iv12_0 kq12
      refine x_iload_n C dX4_read_12 rfl 2 rfl rfl ?_
      refine x_bipush C (v := 16) dX4_read_13 (by decide) rfl ?_
      refine x_icmp_gt C (tgt := 56) dX4_read_15 (by decide) rfl (fun c17 => ?_) (fun c17 => ?_)
      · skip
        have nf18 := nI_lt' (a := 16) (b := k) c17 (by omega) (by omega)
        refine x_aload_n C dX4_read_56 rfl 0 rfl rfl ?_
        refine x_iconst C (v := 4) dX4_read_57 (by decide) rfl ?_
        obtain ⟨_, k19, n20, v22, v23, v24, bn21, rfl⟩ := hWl12 1 _ rfl
        refine x_vi C (As := [.int 4]) (rest := []) (c_fails E l a wl12 hWl12 (4 : Int32)) mf_X8_fails w_615 1 k19 rfl rfl rfl (Nat.le_of_ble_eq_true rfl) ⟨(Nat.le_of_ble_eq_true rfl), (Nat.le_of_ble_eq_true rfl)⟩ ⟨(Nat.le_of_ble_eq_true rfl), (Nat.le_of_ble_eq_true rfl)⟩ dX4_read_58 rfl (fun r26 w27 h25 => ?_)
        obtain ⟨hW28, kq29, zb30⟩ := h25
        have kp31 := keeps_tr kq12 kq29 (fun q hq => by first | omega | (dsimp only at *; omega))
        exact x_zret C hr hlk (zb_nar zb30) dX4_read_61 ⟨hW28, kp31, zb30⟩
      · skip
        have nf32 := nI_nlt' (a := 16) (b := k) c17 (by omega) (by omega)
        refine x_aload_n C dX4_read_18 rfl 0 rfl rfl ?_
        refine x_aload_n C dX4_read_19 rfl 1 rfl rfl ?_
        refine x_iload_n C dX4_read_20 rfl 2 rfl rfl ?_
        refine x_si C (As := [.ref (a 1), .ref (a 79), .int (nI k)]) (rest := []) (c_clause E l a wl12 hWl12 ((nI k))) mf_X4_clause w_518 rfl rfl (Nat.le_of_ble_eq_true rfl) ⟨(Nat.le_of_ble_eq_true rfl), (Nat.le_of_ble_eq_true rfl)⟩ ⟨(Nat.le_of_ble_eq_true rfl), (Nat.le_of_ble_eq_true rfl)⟩ dX4_read_21 rfl (fun r34 w35 h33 => ?_)
        obtain ⟨hW36, kq37, zb38⟩ := h33
        have kp39 := keeps_tr kq12 kq37 (fun q hq => by first | omega | (dsimp only at *; omega))
        refine x_if_ne C (tgt := 29) dX4_read_24 (by decide) rfl (fun c40 => ?_) (fun c40 => ?_)
        · skip
          refine x_aload_n C dX4_read_29 rfl 0 rfl rfl ?_
          obtain ⟨_, k41, n42, v44, v45, v46, bn43, rfl⟩ := hW36 1 _ rfl
          refine x_vi C (As := []) (rest := []) (c_sign E l a w35 hW36) mf_X8_sign w_522 1 k41 rfl rfl rfl (Nat.le_of_ble_eq_true rfl) ⟨(Nat.le_of_ble_eq_true rfl), (Nat.le_of_ble_eq_true rfl)⟩ ⟨(Nat.le_of_ble_eq_true rfl), (Nat.le_of_ble_eq_true rfl)⟩ dX4_read_30 rfl (fun r48 w49 h47 => ?_)
          have hW50 := h47
          refine x_ws hW50 ?_
          refine x_iconst C (v := (-1)) dX4_read_33 (by decide) rfl ?_
          refine x_icmp_ne C (tgt := 39) dX4_read_34 (by decide) rfl (fun c51 => ?_) (fun c51 => ?_)
          · skip
            refine x_aload_n C dX4_read_39 rfl 0 rfl rfl ?_
            refine x_bipush C (v := 59) dX4_read_40 (by decide) rfl ?_
            refine x_vi C (As := [.int 59]) (rest := []) (c_takes E l a w35 hW36 (59 : Int32)) mf_X8_takes w_635 1 k41 rfl rfl rfl (Nat.le_of_ble_eq_true rfl) ⟨(Nat.le_of_ble_eq_true rfl), (Nat.le_of_ble_eq_true rfl)⟩ ⟨(Nat.le_of_ble_eq_true rfl), (Nat.le_of_ble_eq_true rfl)⟩ dX4_read_42 rfl (fun r53 w54 h52 => ?_)
            obtain ⟨hW55, kq56, zb57⟩ := h52
            have kp58 := keeps_tr kp39 kq56 (fun q hq => by first | omega | (dsimp only at *; omega))
            refine x_if_ne C (tgt := 50) dX4_read_45 (by decide) rfl (fun c59 => ?_) (fun c59 => ?_)
            · skip
              refine x_iinc C (v := (nI (k + 1))) (lv' := [(2, .int (nI (k + 1))), (0, .ref (a 1)), (1, .ref (a 79))]) dX4_read_50 2 rfl (nI_add k 1) (by decide) rfl rfl ?_
              refine x_goto C (tgt := 12) dX4_read_53 (by decide) ?_
              refine x_lv (lv1 := [(0, .ref (a 1)), (1, .ref (a 79)), (2, .int (nI (k + 1)))]) [1, 2, 0] rfl ?_
              exact ih12 (k + 1) w54 hW55 (by omega) (by omega) kp58
            · skip
              refine x_iconst C (v := 0) dX4_read_48 (by decide) rfl ?_
              exact x_zret C hr hlk rfl dX4_read_49 ⟨hW55, kp58, (Or.inl rfl)⟩
          · skip
            refine x_iconst C (v := 1) dX4_read_37 (by decide) rfl ?_
            exact x_zret C hr hlk rfl dX4_read_38 ⟨hW36, kp39, (Or.inr rfl)⟩
        · skip
          refine x_iconst C (v := 0) dX4_read_27 (by decide) rfl ?_
          exact x_zret C hr hlk rfl dX4_read_28 ⟨hW36, kp39, (Or.inl rfl)⟩
  refine x_lv (lv1 := [(0, .ref (a 1)), (1, .ref (a 79)), (2, .int 0)]) [1, 2, 0] rfl ?_
  exact loop12 _ 0 w12 hW14 (Nat.lt_succ_self _) (by omega) kp16
