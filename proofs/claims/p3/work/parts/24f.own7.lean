theorem dX11_daysTillDone_0 : decode cX11_daysTillDone 0 = .ok (.aload_n 0, 1) := by decide +kernel
theorem dX11_daysTillDone_1 : decode cX11_daysTillDone 1 = .ok (.getfield 29, 3) := by decide +kernel
theorem dX11_daysTillDone_4 : decode cX11_daysTillDone 4 = .ok (.aload_n 0, 1) := by decide +kernel
theorem dX11_daysTillDone_5 : decode cX11_daysTillDone 5 = .ok (.getfield 22, 3) := by decide +kernel
theorem dX11_daysTillDone_8 : decode cX11_daysTillDone 8 = .ok (.invokevirtual 180, 3) := by decide +kernel
theorem dX11_daysTillDone_11 : decode cX11_daysTillDone 11 = .ok (.iconst 0, 1) := by decide +kernel
theorem dX11_daysTillDone_12 : decode cX11_daysTillDone 12 = .ok (.istore 4, 2) := by decide +kernel
theorem dX11_daysTillDone_14 : decode cX11_daysTillDone 14 = .ok (.iload 4, 2) := by decide +kernel
theorem dX11_daysTillDone_16 : decode cX11_daysTillDone 16 = .ok (.iload_n 3, 1) := by decide +kernel
theorem dX11_daysTillDone_17 : decode cX11_daysTillDone 17 = .ok (.if_icmp .gt 73, 3) := by decide +kernel
theorem dX11_daysTillDone_90 : decode cX11_daysTillDone 90 = .ok (.bipush (-2), 2) := by decide +kernel
theorem dX11_daysTillDone_92 : decode cX11_daysTillDone 92 = .ok (.ireturn, 1) := by decide +kernel
set_option maxRecDepth 20000 in
set_option maxHeartbeats 4000000 in
theorem c_daysM (E : xE) (l : Launch) (a : Nat → Nat) (ws : va_W) (hW : WX (okX E a) ws) (i0 : Nat) (p1 : Int32) (hi0 : i0 ≤ 7) : xI E l yX11_daysTillDone cX11_daysTillDone 5 (some .int) 7 [.ref (a 0), .int (nI i0), .int p1, .int (-1)] ws (fun r w => WX (okX E a) w ∧ keeps ws w (fun q => ¬ (q = 0 ∨ q = 6 ∨ q = 9 ∨ q = 28 ∨ q = 31)) ∧ r = (-2)) := by
  refine xI_start (lv := [(0, .ref (a 0)), (1, .int (nI i0)), (2, .int p1), (3, .int (-1))]) RX11 (by decide) rfl (Nat.le_of_ble_eq_true rfl) rfl (fun p e s m below meth c A C hr hlk => ?_)
  have kp0 : keeps ws ws (fun q => ¬ (q = 0 ∨ q = 6 ∨ q = 9 ∨ q = 28 ∨ q = 31)) := keeps_rf
  refine x_aload_n C dX11_daysTillDone_0 rfl 0 rfl rfl ?_
  obtain ⟨_, k1, v2, rfl⟩ := hW 0 _ rfl
  refine x_get C (ci := 10) (k := 4) 0 k1 rfl in_X11 (by decide) w_389 rfl dX11_daysTillDone_1 rfl ?_
  refine x_aload_n C dX11_daysTillDone_4 rfl 0 rfl rfl ?_
  refine x_get C (ci := 10) (k := 2) 0 k1 rfl in_X11 (by decide) w_387 rfl dX11_daysTillDone_5 rfl ?_
  obtain ⟨_, k3, n4, v6, v7, v8, v9, v10, bn5, rfl⟩ := hW 49 _ rfl
  refine x_vv C (As := [.ref (a 5)]) (rest := []) (c_Town_copy E l a ws hW 49 (Or.inr (Or.inr rfl)) 5 (Or.inl rfl) (by decide)) mf_X9_copyFrom w_788 49 k3 rfl rfl rfl (Nat.le_of_ble_eq_true rfl) ⟨(Nat.le_of_ble_eq_true rfl), (Nat.le_of_ble_eq_true rfl)⟩ ⟨(Nat.le_of_ble_eq_true rfl), (Nat.le_of_ble_eq_true rfl)⟩ dX11_daysTillDone_8 rfl (fun w13 h11 => ?_)
  obtain ⟨hW14, kq15⟩ := h11
  have k16 : w13[0]? = some (ob (a 0) 10 [.ref (a 1), .ref (a 3), .ref (a 5), .ref (a 27), .ref (a 49), .int v2, .ref (a 71), .ref (a 79), .ref (a 87), .ref (a 92), .ref (a 103), .ref (a 105), .ref (a 106), .ref (a 107), .ref (a 108), .ref (a 109), .ref (a 110), .ref (a 111), .ref (a 112)]) := keeps_at kq15 k1 (by first | decide | omega | (dsimp only; omega))
  have kp17 := keeps_tr kp0 kq15 (fun q hq => by first | omega | (dsimp only at *; omega))
  refine x_iconst C (v := 0) dX11_daysTillDone_11 (by decide) rfl ?_
  refine x_istore C (lv' := [(4, .int 0), (0, .ref (a 0)), (1, .int (nI i0)), (2, .int p1), (3, .int (-1))]) dX11_daysTillDone_12 (by decide) rfl rfl ?_
  refine x_iload C dX11_daysTillDone_14 0 rfl rfl ?_
  refine x_iload_n C dX11_daysTillDone_16 rfl 4 rfl rfl ?_
  refine x_icmp_gt C (tgt := 90) dX11_daysTillDone_17 (by decide) rfl (fun _ => ?_) (fun h => absurd h (by decide))
  refine x_bipush C (v := (-2)) dX11_daysTillDone_90 (by decide) rfl ?_
  exact x_zret C hr hlk rfl dX11_daysTillDone_92 ⟨hW14, kp17, rfl⟩
theorem dX11_daysTillDone_20 : decode cX11_daysTillDone 20 = .ok (.aload_n 0, 1) := by decide +kernel
theorem dX11_daysTillDone_21 : decode cX11_daysTillDone 21 = .ok (.getfield 29, 3) := by decide +kernel
theorem dX11_daysTillDone_24 : decode cX11_daysTillDone 24 = .ok (.iload_n 1, 1) := by decide +kernel
theorem dX11_daysTillDone_25 : decode cX11_daysTillDone 25 = .ok (.iload_n 2, 1) := by decide +kernel
theorem dX11_daysTillDone_26 : decode cX11_daysTillDone 26 = .ok (.aload_n 0, 1) := by decide +kernel
theorem dX11_daysTillDone_27 : decode cX11_daysTillDone 27 = .ok (.getfield 39, 3) := by decide +kernel
theorem dX11_daysTillDone_30 : decode cX11_daysTillDone 30 = .ok (.invokevirtual 372, 3) := by decide +kernel
theorem dX11_daysTillDone_33 : decode cX11_daysTillDone 33 = .ok (.aload_n 0, 1) := by decide +kernel
theorem dX11_daysTillDone_34 : decode cX11_daysTillDone 34 = .ok (.getfield 29, 3) := by decide +kernel
theorem dX11_daysTillDone_37 : decode cX11_daysTillDone 37 = .ok (.getfield 123, 3) := by decide +kernel
theorem dX11_daysTillDone_40 : decode cX11_daysTillDone 40 = .ok (.iload_n 1, 1) := by decide +kernel
theorem dX11_daysTillDone_41 : decode cX11_daysTillDone 41 = .ok (.invokevirtual 270, 3) := by decide +kernel
theorem dX11_daysTillDone_44 : decode cX11_daysTillDone 44 = .ok (.ifCond .eq 6, 3) := by decide +kernel
theorem dX11_daysTillDone_47 : decode cX11_daysTillDone 47 = .ok (.iload 4, 2) := by decide +kernel
theorem dX11_daysTillDone_49 : decode cX11_daysTillDone 49 = .ok (.ireturn, 1) := by decide +kernel
theorem dX11_daysTillDone_50 : decode cX11_daysTillDone 50 = .ok (.aload_n 0, 1) := by decide +kernel
theorem dX11_daysTillDone_51 : decode cX11_daysTillDone 51 = .ok (.getfield 29, 3) := by decide +kernel
theorem dX11_daysTillDone_54 : decode cX11_daysTillDone 54 = .ok (.iload_n 2, 1) := by decide +kernel
theorem dX11_daysTillDone_55 : decode cX11_daysTillDone 55 = .ok (.invokevirtual 376, 3) := by decide +kernel
theorem dX11_daysTillDone_58 : decode cX11_daysTillDone 58 = .ok (.ifCond .eq 23, 3) := by decide +kernel
theorem dX11_daysTillDone_61 : decode cX11_daysTillDone 61 = .ok (.iload 4, 2) := by decide +kernel
theorem dX11_daysTillDone_63 : decode cX11_daysTillDone 63 = .ok (.iload_n 3, 1) := by decide +kernel
theorem dX11_daysTillDone_64 : decode cX11_daysTillDone 64 = .ok (.if_icmp .ge 20, 3) := by decide +kernel
theorem dX11_daysTillDone_67 : decode cX11_daysTillDone 67 = .ok (.aload_n 0, 1) := by decide +kernel
theorem dX11_daysTillDone_68 : decode cX11_daysTillDone 68 = .ok (.getfield 29, 3) := by decide +kernel
theorem dX11_daysTillDone_71 : decode cX11_daysTillDone 71 = .ok (.aload_n 0, 1) := by decide +kernel
theorem dX11_daysTillDone_72 : decode cX11_daysTillDone 72 = .ok (.getfield 39, 3) := by decide +kernel
theorem dX11_daysTillDone_75 : decode cX11_daysTillDone 75 = .ok (.invokevirtual 379, 3) := by decide +kernel
theorem dX11_daysTillDone_78 : decode cX11_daysTillDone 78 = .ok (.ifCond .ne 6, 3) := by decide +kernel
theorem dX11_daysTillDone_81 : decode cX11_daysTillDone 81 = .ok (.bipush (-2), 2) := by decide +kernel
theorem dX11_daysTillDone_83 : decode cX11_daysTillDone 83 = .ok (.ireturn, 1) := by decide +kernel
theorem dX11_daysTillDone_84 : decode cX11_daysTillDone 84 = .ok (.iinc 4 1, 3) := by decide +kernel
theorem dX11_daysTillDone_87 : decode cX11_daysTillDone 87 = .ok (.goto (-73), 3) := by decide +kernel
set_option maxRecDepth 20000 in
set_option maxHeartbeats 4000000 in
theorem c_daysTill (E : xE) (l : Launch) (a : Nat → Nat) (ws : va_W) (hW : WX (okX E a) ws) (i0 : Nat) (p1 : Int32) (m0 : Nat) (hi0 : i0 ≤ 7) (hm0 : m0 ≤ 60) : xI E l yX11_daysTillDone cX11_daysTillDone 5 (some .int) 7 [.ref (a 0), .int (nI i0), .int p1, .int (nI m0)] ws (fun r w => WX (okX E a) w ∧ keeps ws w (fun q => ¬ (q = 0 ∨ q = 6 ∨ q = 9 ∨ q = 28 ∨ q = 31)) ∧ (r = -2 ∨ ∃ n : Nat, n ≤ m0 ∧ r = nI n)) := by
  refine xI_start (lv := [(0, .ref (a 0)), (1, .int (nI i0)), (2, .int p1), (3, .int (nI m0))]) RX11 (by decide) rfl (Nat.le_of_ble_eq_true rfl) rfl (fun p e s m below meth c A C hr hlk => ?_)
  have kp0 : keeps ws ws (fun q => ¬ (q = 0 ∨ q = 6 ∨ q = 9 ∨ q = 28 ∨ q = 31)) := keeps_rf
  refine x_aload_n C dX11_daysTillDone_0 rfl 0 rfl rfl ?_
  obtain ⟨_, k1, v2, rfl⟩ := hW 0 _ rfl
  refine x_get C (ci := 10) (k := 4) 0 k1 rfl in_X11 (by decide) w_389 rfl dX11_daysTillDone_1 rfl ?_
  refine x_aload_n C dX11_daysTillDone_4 rfl 0 rfl rfl ?_
  refine x_get C (ci := 10) (k := 2) 0 k1 rfl in_X11 (by decide) w_387 rfl dX11_daysTillDone_5 rfl ?_
  obtain ⟨_, k3, n4, v6, v7, v8, v9, v10, bn5, rfl⟩ := hW 49 _ rfl
  refine x_vv C (As := [.ref (a 5)]) (rest := []) (c_Town_copy E l a ws hW 49 (Or.inr (Or.inr rfl)) 5 (Or.inl rfl) (by decide)) mf_X9_copyFrom w_788 49 k3 rfl rfl rfl (Nat.le_of_ble_eq_true rfl) ⟨(Nat.le_of_ble_eq_true rfl), (Nat.le_of_ble_eq_true rfl)⟩ ⟨(Nat.le_of_ble_eq_true rfl), (Nat.le_of_ble_eq_true rfl)⟩ dX11_daysTillDone_8 rfl (fun w13 h11 => ?_)
  obtain ⟨hW14, kq15⟩ := h11
  have k16 : w13[0]? = some (ob (a 0) 10 [.ref (a 1), .ref (a 3), .ref (a 5), .ref (a 27), .ref (a 49), .int v2, .ref (a 71), .ref (a 79), .ref (a 87), .ref (a 92), .ref (a 103), .ref (a 105), .ref (a 106), .ref (a 107), .ref (a 108), .ref (a 109), .ref (a 110), .ref (a 111), .ref (a 112)]) := keeps_at kq15 k1 (by first | decide | omega | (dsimp only; omega))
  have kp17 := keeps_tr kp0 kq15 (fun q hq => by first | omega | (dsimp only at *; omega))
  refine x_iconst C (v := 0) dX11_daysTillDone_11 (by decide) rfl ?_
  refine x_istore C (lv' := [(4, .int 0), (0, .ref (a 0)), (1, .int (nI i0)), (2, .int p1), (3, .int (nI m0))]) dX11_daysTillDone_12 (by decide) rfl rfl ?_
  have loop14 : ∀ (fu14 : Nat) (dd : Nat) (wl14 : va_W), WX (okX E a) wl14 → 61 - dd < fu14 → dd ≤ 61 → keeps ws wl14 (fun q => ¬ (q = 0 ∨ q = 6 ∨ q = 9 ∨ q = 28 ∨ q = 31)) → X E p l e (xRm 7 0 0) s m ([.ref (a 0), .int (nI i0), .int p1, .int (nI m0)] : List Value).toArray below meth c A 5 0 0 (MQ below (va_Qi (fun r w => WX (okX E a) w ∧ keeps ws w (fun q => ¬ (q = 0 ∨ q = 6 ∨ q = 9 ∨ q = 28 ∨ q = 31)) ∧ (r = -2 ∨ ∃ n : Nat, n ≤ m0 ∧ r = nI n)) (xB E A) A) ([.ref (a 0), .int (nI i0), .int p1, .int (nI m0)] : List Value).toArray s 0 0 A) wl14 14 [(0, .ref (a 0)), (1, .int (nI i0)), (2, .int p1), (3, .int (nI m0)), (4, .int (nI dd))] [] := by
    intro fu14
    induction fu14 with
    | zero => intro dd wl14 _ q; omega
    | succ fu14 ih14 =>
      intro dd wl14 hWl14 me14 iv14_0 kq14
      refine x_iload C dX11_daysTillDone_14 4 rfl rfl ?_
      refine x_iload_n C dX11_daysTillDone_16 rfl 3 rfl rfl ?_
      refine x_icmp_gt C (tgt := 90) dX11_daysTillDone_17 (by decide) rfl (fun c18 => ?_) (fun c18 => ?_)
      · skip
        have nf19 := nI_lt' (a := m0) (b := dd) c18 (by omega) (by omega)
        refine x_bipush C (v := (-2)) dX11_daysTillDone_90 (by decide) rfl ?_
        exact x_zret C hr hlk rfl dX11_daysTillDone_92 ⟨hWl14, kq14, (Or.inl rfl)⟩
      · skip
        have nf20 := nI_nlt' (a := m0) (b := dd) c18 (by omega) (by omega)
        refine x_aload_n C dX11_daysTillDone_20 rfl 0 rfl rfl ?_
        obtain ⟨_, k21, v22, rfl⟩ := hWl14 0 _ rfl
        refine x_get C (ci := 10) (k := 4) 0 k21 rfl in_X11 (by decide) w_389 rfl dX11_daysTillDone_21 rfl ?_
        refine x_iload_n C dX11_daysTillDone_24 rfl 1 rfl rfl ?_
        refine x_iload_n C dX11_daysTillDone_25 rfl 2 rfl rfl ?_
        refine x_aload_n C dX11_daysTillDone_26 rfl 0 rfl rfl ?_
        refine x_get C (ci := 10) (k := 6) 0 k21 rfl in_X11 (by decide) w_391 rfl dX11_daysTillDone_27 rfl ?_
        obtain ⟨_, k23, n24, v26, v27, v28, v29, v30, bn25, rfl⟩ := hWl14 49 _ rfl
        refine x_vv C (As := [.int (nI i0), .int p1, .ref (a 71)]) (rest := []) (c_breakAllFor E l a wl14 hWl14 49 (Or.inr (Or.inr rfl)) i0 p1 (by omega)) mf_X9_breakAllFor w_1058 49 k23 rfl rfl rfl (Nat.le_of_ble_eq_true rfl) ⟨(Nat.le_of_ble_eq_true rfl), (Nat.le_of_ble_eq_true rfl)⟩ ⟨(Nat.le_of_ble_eq_true rfl), (Nat.le_of_ble_eq_true rfl)⟩ dX11_daysTillDone_30 rfl (fun w33 h31 => ?_)
        obtain ⟨hW34, kq35⟩ := h31
        have k36 : w33[0]? = some (ob (a 0) 10 [.ref (a 1), .ref (a 3), .ref (a 5), .ref (a 27), .ref (a 49), .int v22, .ref (a 71), .ref (a 79), .ref (a 87), .ref (a 92), .ref (a 103), .ref (a 105), .ref (a 106), .ref (a 107), .ref (a 108), .ref (a 109), .ref (a 110), .ref (a 111), .ref (a 112)]) := keeps_at kq35 k21 (by first | decide | omega | (dsimp only; omega))
        have kp37 := keeps_tr kq14 kq35 (fun q hq => by first | omega | (dsimp only at *; omega))
        refine x_aload_n C dX11_daysTillDone_33 rfl 0 rfl rfl ?_
        refine x_get C (ci := 10) (k := 4) 0 k36 rfl in_X11 (by decide) w_389 rfl dX11_daysTillDone_34 rfl ?_
        obtain ⟨_, k38, n39, v41, v42, v43, v44, v45, bn40, rfl⟩ := hW34 49 _ rfl
        refine x_get C (ci := 8) (k := 5) 49 k38 rfl in_X9 (by decide) w_213 rfl dX11_daysTillDone_37 rfl ?_
        refine x_iload_n C dX11_daysTillDone_40 rfl 1 rfl rfl ?_
        obtain ⟨_, k46, v47, rfl⟩ := hW34 65 _ rfl
        refine x_vi C (As := [.int (nI i0)]) (rest := []) (c_Works_isDone E l a w33 hW34 49 (Or.inr (Or.inr rfl)) ((nI i0))) mf_X10_isDone w_894 65 k46 rfl rfl rfl (Nat.le_of_ble_eq_true rfl) ⟨(Nat.le_of_ble_eq_true rfl), (Nat.le_of_ble_eq_true rfl)⟩ ⟨(Nat.le_of_ble_eq_true rfl), (Nat.le_of_ble_eq_true rfl)⟩ dX11_daysTillDone_41 rfl (fun r49 w50 h48 => ?_)
        obtain ⟨hW51, zb52, x53⟩ := h48
        refine x_ws hW51 ?_
        refine x_if_eq C (tgt := 50) dX11_daysTillDone_44 (by decide) rfl (fun c54 => ?_) (fun c54 => ?_)
        · skip
          refine x_aload_n C dX11_daysTillDone_50 rfl 0 rfl rfl ?_
          refine x_get C (ci := 10) (k := 4) 0 k36 rfl in_X11 (by decide) w_389 rfl dX11_daysTillDone_51 rfl ?_
          refine x_iload_n C dX11_daysTillDone_54 rfl 2 rfl rfl ?_
          refine x_vi C (As := [.int p1]) (rest := []) (c_canLayFor E l a w33 hW34 49 (Or.inr (Or.inr rfl)) p1) mf_X9_canLayFor w_1064 49 k38 rfl rfl rfl (Nat.le_of_ble_eq_true rfl) ⟨(Nat.le_of_ble_eq_true rfl), (Nat.le_of_ble_eq_true rfl)⟩ ⟨(Nat.le_of_ble_eq_true rfl), (Nat.le_of_ble_eq_true rfl)⟩ dX11_daysTillDone_55 rfl (fun r56 w57 h55 => ?_)
          obtain ⟨hW58, zb59⟩ := h55
          refine x_ws hW58 ?_
          refine x_if_eq C (tgt := 81) dX11_daysTillDone_58 (by decide) rfl (fun c60 => ?_) (fun c60 => ?_)
          · skip
            refine x_bipush C (v := (-2)) dX11_daysTillDone_81 (by decide) rfl ?_
            exact x_zret C hr hlk rfl dX11_daysTillDone_83 ⟨hW34, kp37, (Or.inl rfl)⟩
          · skip
            refine x_iload C dX11_daysTillDone_61 4 rfl rfl ?_
            refine x_iload_n C dX11_daysTillDone_63 rfl 3 rfl rfl ?_
            refine x_icmp_ge C (tgt := 84) dX11_daysTillDone_64 (by decide) rfl (fun c61 => ?_) (fun c61 => ?_)
            · skip
              have nf62 := nI_le' (a := m0) (b := dd) c61 (by omega) (by omega)
              refine x_iinc C (v := (nI (dd + 1))) (lv' := [(4, .int (nI (dd + 1))), (0, .ref (a 0)), (1, .int (nI i0)), (2, .int p1), (3, .int (nI m0))]) dX11_daysTillDone_84 4 rfl (nI_add dd 1) (by decide) rfl rfl ?_
              refine x_goto C (tgt := 14) dX11_daysTillDone_87 (by decide) ?_
              refine x_lv (lv1 := [(0, .ref (a 0)), (1, .int (nI i0)), (2, .int p1), (3, .int (nI m0)), (4, .int (nI (dd + 1)))]) [1, 2, 3, 4, 0] rfl ?_
              exact ih14 (dd + 1) w33 hW34 (by omega) (by omega) kp37
            · skip
              have nf63 := nI_nle' (a := m0) (b := dd) c61 (by omega) (by omega)
              refine x_aload_n C dX11_daysTillDone_67 rfl 0 rfl rfl ?_
              refine x_get C (ci := 10) (k := 4) 0 k36 rfl in_X11 (by decide) w_389 rfl dX11_daysTillDone_68 rfl ?_
              refine x_aload_n C dX11_daysTillDone_71 rfl 0 rfl rfl ?_
              refine x_get C (ci := 10) (k := 6) 0 k36 rfl in_X11 (by decide) w_391 rfl dX11_daysTillDone_72 rfl ?_
              refine x_vi C (As := [.ref (a 71)]) (rest := []) (c_passDay E l a w33 hW34 49 (Or.inr (Or.inr rfl))) mf_X9_passDay w_1069 49 k38 rfl rfl rfl (Nat.le_of_ble_eq_true rfl) ⟨(Nat.le_of_ble_eq_true rfl), (Nat.le_of_ble_eq_true rfl)⟩ ⟨(Nat.le_of_ble_eq_true rfl), (Nat.le_of_ble_eq_true rfl)⟩ dX11_daysTillDone_75 rfl (fun r65 w66 h64 => ?_)
              obtain ⟨hW67, kq68, zb69⟩ := h64
              have k70 : w66[0]? = some (ob (a 0) 10 [.ref (a 1), .ref (a 3), .ref (a 5), .ref (a 27), .ref (a 49), .int v22, .ref (a 71), .ref (a 79), .ref (a 87), .ref (a 92), .ref (a 103), .ref (a 105), .ref (a 106), .ref (a 107), .ref (a 108), .ref (a 109), .ref (a 110), .ref (a 111), .ref (a 112)]) := keeps_at kq68 k36 (by first | decide | omega | (dsimp only; omega))
              have kp71 := keeps_tr kp37 kq68 (fun q hq => by first | omega | (dsimp only at *; omega))
              refine x_if_ne C (tgt := 84) dX11_daysTillDone_78 (by decide) rfl (fun c72 => ?_) (fun c72 => ?_)
              · skip
                refine x_iinc C (v := (nI (dd + 1))) (lv' := [(4, .int (nI (dd + 1))), (0, .ref (a 0)), (1, .int (nI i0)), (2, .int p1), (3, .int (nI m0))]) dX11_daysTillDone_84 4 rfl (nI_add dd 1) (by decide) rfl rfl ?_
                refine x_goto C (tgt := 14) dX11_daysTillDone_87 (by decide) ?_
                refine x_lv (lv1 := [(0, .ref (a 0)), (1, .int (nI i0)), (2, .int p1), (3, .int (nI m0)), (4, .int (nI (dd + 1)))]) [1, 2, 3, 4, 0] rfl ?_
                exact ih14 (dd + 1) w66 hW67 (by omega) (by omega) kp71
              · skip
                refine x_bipush C (v := (-2)) dX11_daysTillDone_81 (by decide) rfl ?_
                exact x_zret C hr hlk rfl dX11_daysTillDone_83 ⟨hW67, kp71, (Or.inl rfl)⟩
        · skip
          have wi73 := wth_le (a := 0) (b := 7) (j := i0) (x53 c54) (by omega) (by decide) (by decide)
          refine x_iload C dX11_daysTillDone_47 4 rfl rfl ?_
          exact x_zret C hr hlk rfl dX11_daysTillDone_49 ⟨hW34, kp37, (Or.inr ⟨dd, by omega, rfl⟩)⟩
  refine x_lv (lv1 := [(0, .ref (a 0)), (1, .int (nI i0)), (2, .int p1), (3, .int (nI m0)), (4, .int 0)]) [1, 2, 3, 4, 0] rfl ?_
  exact loop14 _ 0 w13 hW14 (Nat.lt_succ_self _) (by omega) kp17
theorem dX11_soonest_0 : decode cX11_soonest 0 = .ok (.aload_n 0, 1) := by decide +kernel
theorem dX11_soonest_1 : decode cX11_soonest 1 = .ok (.getfield 22, 3) := by decide +kernel
theorem dX11_soonest_4 : decode cX11_soonest 4 = .ok (.getfield 123, 3) := by decide +kernel
theorem dX11_soonest_7 : decode cX11_soonest 7 = .ok (.iload_n 1, 1) := by decide +kernel
theorem dX11_soonest_8 : decode cX11_soonest 8 = .ok (.invokevirtual 257, 3) := by decide +kernel
theorem dX11_soonest_11 : decode cX11_soonest 11 = .ok (.ifCond .eq 23, 3) := by decide +kernel
theorem dX11_soonest_14 : decode cX11_soonest 14 = .ok (.iload_n 2, 1) := by decide +kernel
theorem dX11_soonest_15 : decode cX11_soonest 15 = .ok (.bipush 8, 2) := by decide +kernel
theorem dX11_soonest_17 : decode cX11_soonest 17 = .ok (.if_icmp .eq 19, 3) := by decide +kernel
theorem dX11_soonest_20 : decode cX11_soonest 20 = .ok (.aload_n 0, 1) := by decide +kernel
theorem dX11_soonest_21 : decode cX11_soonest 21 = .ok (.getfield 22, 3) := by decide +kernel
theorem dX11_soonest_24 : decode cX11_soonest 24 = .ok (.getfield 92, 3) := by decide +kernel
theorem dX11_soonest_27 : decode cX11_soonest 27 = .ok (.iload_n 2, 1) := by decide +kernel
theorem dX11_soonest_28 : decode cX11_soonest 28 = .ok (.invokevirtual 106, 3) := by decide +kernel
theorem dX11_soonest_31 : decode cX11_soonest 31 = .ok (.ifCond .ne 5, 3) := by decide +kernel
theorem dX11_soonest_34 : decode cX11_soonest 34 = .ok (.iconst (-1), 1) := by decide +kernel
theorem dX11_soonest_35 : decode cX11_soonest 35 = .ok (.ireturn, 1) := by decide +kernel
theorem dX11_soonest_36 : decode cX11_soonest 36 = .ok (.aload_n 0, 1) := by decide +kernel
theorem dX11_soonest_37 : decode cX11_soonest 37 = .ok (.getfield 22, 3) := by decide +kernel
theorem dX11_soonest_40 : decode cX11_soonest 40 = .ok (.getfield 123, 3) := by decide +kernel
theorem dX11_soonest_43 : decode cX11_soonest 43 = .ok (.iload_n 1, 1) := by decide +kernel
theorem dX11_soonest_44 : decode cX11_soonest 44 = .ok (.invokevirtual 270, 3) := by decide +kernel
theorem dX11_soonest_47 : decode cX11_soonest 47 = .ok (.ifCond .eq 6, 3) := by decide +kernel
theorem dX11_soonest_50 : decode cX11_soonest 50 = .ok (.bipush (-3), 2) := by decide +kernel
theorem dX11_soonest_52 : decode cX11_soonest 52 = .ok (.ireturn, 1) := by decide +kernel
theorem dX11_soonest_53 : decode cX11_soonest 53 = .ok (.iload_n 2, 1) := by decide +kernel
theorem dX11_soonest_54 : decode cX11_soonest 54 = .ok (.bipush 8, 2) := by decide +kernel
theorem dX11_soonest_56 : decode cX11_soonest 56 = .ok (.if_icmp .eq 12, 3) := by decide +kernel
theorem dX11_soonest_59 : decode cX11_soonest 59 = .ok (.aload_n 0, 1) := by decide +kernel
theorem dX11_soonest_60 : decode cX11_soonest 60 = .ok (.iload_n 1, 1) := by decide +kernel
theorem dX11_soonest_61 : decode cX11_soonest 61 = .ok (.iload_n 2, 1) := by decide +kernel
theorem dX11_soonest_62 : decode cX11_soonest 62 = .ok (.bipush 60, 2) := by decide +kernel
theorem dX11_soonest_64 : decode cX11_soonest 64 = .ok (.invokevirtual 368, 3) := by decide +kernel
theorem dX11_soonest_67 : decode cX11_soonest 67 = .ok (.ireturn, 1) := by decide +kernel
theorem dX11_soonest_68 : decode cX11_soonest 68 = .ok (.bipush (-2), 2) := by decide +kernel
theorem dX11_soonest_70 : decode cX11_soonest 70 = .ok (.istore_n 3, 1) := by decide +kernel
theorem dX11_soonest_71 : decode cX11_soonest 71 = .ok (.bipush 61, 2) := by decide +kernel
theorem dX11_soonest_73 : decode cX11_soonest 73 = .ok (.istore 4, 2) := by decide +kernel
theorem dX11_soonest_75 : decode cX11_soonest 75 = .ok (.iconst 0, 1) := by decide +kernel
theorem dX11_soonest_76 : decode cX11_soonest 76 = .ok (.istore 5, 2) := by decide +kernel
theorem dX11_soonest_78 : decode cX11_soonest 78 = .ok (.iload 5, 2) := by decide +kernel
theorem dX11_soonest_80 : decode cX11_soonest 80 = .ok (.bipush 8, 2) := by decide +kernel
theorem dX11_soonest_82 : decode cX11_soonest 82 = .ok (.if_icmp .ge 54, 3) := by decide +kernel
theorem dX11_soonest_85 : decode cX11_soonest 85 = .ok (.aload_n 0, 1) := by decide +kernel
theorem dX11_soonest_86 : decode cX11_soonest 86 = .ok (.getfield 22, 3) := by decide +kernel
theorem dX11_soonest_89 : decode cX11_soonest 89 = .ok (.getfield 92, 3) := by decide +kernel
theorem dX11_soonest_92 : decode cX11_soonest 92 = .ok (.iload 5, 2) := by decide +kernel
theorem dX11_soonest_94 : decode cX11_soonest 94 = .ok (.invokevirtual 106, 3) := by decide +kernel
theorem dX11_soonest_97 : decode cX11_soonest 97 = .ok (.ifCond .eq 17, 3) := by decide +kernel
theorem dX11_soonest_100 : decode cX11_soonest 100 = .ok (.aload_n 0, 1) := by decide +kernel
theorem dX11_soonest_101 : decode cX11_soonest 101 = .ok (.iload_n 1, 1) := by decide +kernel
theorem dX11_soonest_102 : decode cX11_soonest 102 = .ok (.iload 5, 2) := by decide +kernel
theorem dX11_soonest_104 : decode cX11_soonest 104 = .ok (.iload 4, 2) := by decide +kernel
theorem dX11_soonest_106 : decode cX11_soonest 106 = .ok (.iconst 1, 1) := by decide +kernel
theorem dX11_soonest_107 : decode cX11_soonest 107 = .ok (.isub, 1) := by decide +kernel
theorem dX11_soonest_108 : decode cX11_soonest 108 = .ok (.invokevirtual 368, 3) := by decide +kernel
theorem dX11_soonest_111 : decode cX11_soonest 111 = .ok (.goto 5, 3) := by decide +kernel
theorem dX11_soonest_114 : decode cX11_soonest 114 = .ok (.bipush (-2), 2) := by decide +kernel
theorem dX11_soonest_116 : decode cX11_soonest 116 = .ok (.istore 6, 2) := by decide +kernel
theorem dX11_soonest_118 : decode cX11_soonest 118 = .ok (.iload 6, 2) := by decide +kernel
theorem dX11_soonest_120 : decode cX11_soonest 120 = .ok (.ifCond .lt 10, 3) := by decide +kernel
theorem dX11_soonest_123 : decode cX11_soonest 123 = .ok (.iload 5, 2) := by decide +kernel
theorem dX11_soonest_125 : decode cX11_soonest 125 = .ok (.istore_n 3, 1) := by decide +kernel
theorem dX11_soonest_126 : decode cX11_soonest 126 = .ok (.iload 6, 2) := by decide +kernel
theorem dX11_soonest_128 : decode cX11_soonest 128 = .ok (.istore 4, 2) := by decide +kernel
theorem dX11_soonest_130 : decode cX11_soonest 130 = .ok (.iinc 5 1, 3) := by decide +kernel
theorem dX11_soonest_133 : decode cX11_soonest 133 = .ok (.goto (-55), 3) := by decide +kernel
theorem dX11_soonest_136 : decode cX11_soonest 136 = .ok (.iload_n 3, 1) := by decide +kernel
theorem dX11_soonest_137 : decode cX11_soonest 137 = .ok (.ireturn, 1) := by decide +kernel
set_option maxRecDepth 20000 in
set_option maxHeartbeats 4000000 in
theorem c_soonest (E : xE) (l : Launch) (a : Nat → Nat) (ws : va_W) (hW : WX (okX E a) ws) (p0 : Int32) (p1 : Int32) : xI E l yX11_soonest cX11_soonest 7 (some .int) 8 [.ref (a 0), .int p0, .int p1] ws (fun r w => WX (okX E a) w ∧ keeps ws w (fun q => ¬ (q = 0 ∨ q = 6 ∨ q = 9 ∨ q = 28 ∨ q = 31))) := by
  refine xI_start (lv := [(0, .ref (a 0)), (1, .int p0), (2, .int p1)]) RX11 (by decide) rfl (Nat.le_of_ble_eq_true rfl) rfl (fun p e s m below meth c A C hr hlk => ?_)
  have kp0 : keeps ws ws (fun q => ¬ (q = 0 ∨ q = 6 ∨ q = 9 ∨ q = 28 ∨ q = 31)) := keeps_rf
  refine x_aload_n C dX11_soonest_0 rfl 0 rfl rfl ?_
  obtain ⟨_, k1, v2, rfl⟩ := hW 0 _ rfl
  refine x_get C (ci := 10) (k := 2) 0 k1 rfl in_X11 (by decide) w_387 rfl dX11_soonest_1 rfl ?_
  obtain ⟨_, k3, n4, v6, v7, v8, v9, v10, bn5, rfl⟩ := hW 5 _ rfl
  refine x_get C (ci := 8) (k := 5) 5 k3 rfl in_X9 (by decide) w_213 rfl dX11_soonest_4 rfl ?_
  refine x_iload_n C dX11_soonest_7 rfl 1 rfl rfl ?_
  obtain ⟨_, k11, v12, rfl⟩ := hW 21 _ rfl
  refine x_vi C (As := [.int p0]) (rest := []) (c_Works_isTold E l a ws hW 5 (Or.inl rfl) p0) mf_X10_isTold w_893 21 k11 rfl rfl rfl (Nat.le_of_ble_eq_true rfl) ⟨(Nat.le_of_ble_eq_true rfl), (Nat.le_of_ble_eq_true rfl)⟩ ⟨(Nat.le_of_ble_eq_true rfl), (Nat.le_of_ble_eq_true rfl)⟩ dX11_soonest_8 rfl (fun r14 w15 h13 => ?_)
  obtain ⟨hW16, zb17, x18⟩ := h13
  refine x_ws hW16 ?_
  refine x_if_eq C (tgt := 34) dX11_soonest_11 (by decide) rfl (fun c19 => ?_) (fun c19 => ?_)
  · skip
    refine x_iconst C (v := (-1)) dX11_soonest_34 (by decide) rfl ?_
    exact x_zret C hr hlk rfl dX11_soonest_35 ⟨hW, kp0⟩
  · skip
    obtain ⟨j20, hl21, hh22, ej23⟩ := w_nat (a := 0) (b := 7) (by decide) (by decide) (x18 c19)
    subst ej23
    refine x_iload_n C dX11_soonest_14 rfl 2 rfl rfl ?_
    refine x_bipush C (v := 8) dX11_soonest_15 (by decide) rfl ?_
    refine x_icmp_eq C (tgt := 36) dX11_soonest_17 (by decide) rfl (fun c24 => ?_) (fun c24 => ?_)
    · skip
      refine x_aload_n C dX11_soonest_36 rfl 0 rfl rfl ?_
      refine x_get C (ci := 10) (k := 2) 0 k1 rfl in_X11 (by decide) w_387 rfl dX11_soonest_37 rfl ?_
      refine x_get C (ci := 8) (k := 5) 5 k3 rfl in_X9 (by decide) w_213 rfl dX11_soonest_40 rfl ?_
      refine x_iload_n C dX11_soonest_43 rfl 1 rfl rfl ?_
      refine x_vi C (As := [.int (nI j20)]) (rest := []) (c_Works_isDone E l a ws hW 5 (Or.inl rfl) ((nI j20))) mf_X10_isDone w_894 21 k11 rfl rfl rfl (Nat.le_of_ble_eq_true rfl) ⟨(Nat.le_of_ble_eq_true rfl), (Nat.le_of_ble_eq_true rfl)⟩ ⟨(Nat.le_of_ble_eq_true rfl), (Nat.le_of_ble_eq_true rfl)⟩ dX11_soonest_44 rfl (fun r26 w27 h25 => ?_)
      obtain ⟨hW28, zb29, x30⟩ := h25
      refine x_ws hW28 ?_
      refine x_if_eq C (tgt := 53) dX11_soonest_47 (by decide) rfl (fun c31 => ?_) (fun c31 => ?_)
      · skip
        refine x_iload_n C dX11_soonest_53 rfl 2 rfl rfl ?_
        refine x_bipush C (v := 8) dX11_soonest_54 (by decide) rfl ?_
        refine x_icmp_eq C (tgt := 68) dX11_soonest_56 (by decide) rfl (fun c32 => ?_) (fun c32 => ?_)
        · skip
          refine x_bipush C (v := (-2)) dX11_soonest_68 (by decide) rfl ?_
          refine x_istore_n C (lv' := [(3, .int (-2)), (0, .ref (a 0)), (1, .int (nI j20)), (2, .int p1)]) dX11_soonest_70 rfl (by decide) rfl rfl ?_
          refine x_bipush C (v := 61) dX11_soonest_71 (by decide) rfl ?_
          refine x_istore C (lv' := [(4, .int 61), (3, .int (-2)), (0, .ref (a 0)), (1, .int (nI j20)), (2, .int p1)]) dX11_soonest_73 (by decide) rfl rfl ?_
          refine x_iconst C (v := 0) dX11_soonest_75 (by decide) rfl ?_
          refine x_istore C (lv' := [(5, .int 0), (4, .int 61), (3, .int (-2)), (0, .ref (a 0)), (1, .int (nI j20)), (2, .int p1)]) dX11_soonest_76 (by decide) rfl rfl ?_
          have loop78 : ∀ (fu78 : Nat) (z78_3 : Int32) (fw : Nat) (q : Nat) (wl78 : va_W), WX (okX E a) wl78 → 8 - q < fu78 → q ≤ 8 → fw ≤ 61 → keeps ws wl78 (fun q => ¬ (q = 0 ∨ q = 6 ∨ q = 9 ∨ q = 28 ∨ q = 31)) → X E p l e (xRm 8 0 0) s m ([.ref (a 0), .int (nI j20), .int p1] : List Value).toArray below meth c A 7 0 0 (MQ below (va_Qi (fun r w => WX (okX E a) w ∧ keeps ws w (fun q => ¬ (q = 0 ∨ q = 6 ∨ q = 9 ∨ q = 28 ∨ q = 31))) (xB E A) A) ([.ref (a 0), .int (nI j20), .int p1] : List Value).toArray s 0 0 A) wl78 78 [(0, .ref (a 0)), (1, .int (nI j20)), (2, .int p1), (3, .int z78_3), (4, .int (nI fw)), (5, .int (nI q))] [] := by
            intro fu78
            induction fu78 with
            | zero => intro z78_3 fw q wl78 _ q; omega
            | succ fu78 ih78 =>
              intro z78_3 fw q wl78 hWl78 me78 iv78_0 iv78_1 kq78
              refine x_iload C dX11_soonest_78 5 rfl rfl ?_
              refine x_bipush C (v := 8) dX11_soonest_80 (by decide) rfl ?_
              refine x_icmp_ge C (tgt := 136) dX11_soonest_82 (by decide) rfl (fun c33 => ?_) (fun c33 => ?_)
              · skip
                have nf34 := nI_le' (a := 8) (b := q) c33 (by omega) (by omega)
                refine x_iload_n C dX11_soonest_136 rfl 3 rfl rfl ?_
                exact x_zret C hr hlk rfl dX11_soonest_137 ⟨hWl78, kq78⟩
              · skip
                have nf35 := nI_nle' (a := 8) (b := q) c33 (by omega) (by omega)
                refine x_aload_n C dX11_soonest_85 rfl 0 rfl rfl ?_
                obtain ⟨_, k36, v37, rfl⟩ := hWl78 0 _ rfl
                refine x_get C (ci := 10) (k := 2) 0 k36 rfl in_X11 (by decide) w_387 rfl dX11_soonest_86 rfl ?_
                obtain ⟨_, k38, n39, v41, v42, v43, v44, v45, bn40, rfl⟩ := hWl78 5 _ rfl
                refine x_get C (ci := 8) (k := 3) 5 k38 rfl in_X9 (by decide) w_204 rfl dX11_soonest_89 rfl ?_
                refine x_iload C dX11_soonest_92 5 rfl rfl ?_
                obtain ⟨_, k46, v47, rfl⟩ := hWl78 9 _ rfl
                refine x_vi C (As := [.int (nI q)]) (rest := []) (c_People_isTold E l a wl78 hWl78 5 (Or.inl rfl) ((nI q))) mf_X5_isTold w_465 9 k46 rfl rfl rfl (Nat.le_of_ble_eq_true rfl) ⟨(Nat.le_of_ble_eq_true rfl), (Nat.le_of_ble_eq_true rfl)⟩ ⟨(Nat.le_of_ble_eq_true rfl), (Nat.le_of_ble_eq_true rfl)⟩ dX11_soonest_94 rfl (fun r49 w50 h48 => ?_)
                obtain ⟨hW51, zb52, x53⟩ := h48
                refine x_ws hW51 ?_
                refine x_if_eq C (tgt := 114) dX11_soonest_97 (by decide) rfl (fun c54 => ?_) (fun c54 => ?_)
                · skip
                  refine x_bipush C (v := (-2)) dX11_soonest_114 (by decide) rfl ?_
                  refine x_istore C (lv' := [(6, .int (-2)), (0, .ref (a 0)), (1, .int (nI j20)), (2, .int p1), (3, .int z78_3), (4, .int (nI fw)), (5, .int (nI q))]) dX11_soonest_116 (by decide) rfl rfl ?_
                  refine x_iload C dX11_soonest_118 0 rfl rfl ?_
                  refine x_if_lt C (tgt := 130) dX11_soonest_120 (by decide) rfl (fun _ => ?_) (fun h => absurd h (by decide))
                  refine x_iinc C (v := (nI (q + 1))) (lv' := [(5, .int (nI (q + 1))), (6, .int (-2)), (0, .ref (a 0)), (1, .int (nI j20)), (2, .int p1), (3, .int z78_3), (4, .int (nI fw))]) dX11_soonest_130 6 rfl (nI_add q 1) (by decide) rfl rfl ?_
                  refine x_goto C (tgt := 78) dX11_soonest_133 (by decide) ?_
                  refine x_lv (lv1 := [(0, .ref (a 0)), (1, .int (nI j20)), (2, .int p1), (3, .int z78_3), (4, .int (nI fw)), (5, .int (nI (q + 1)))]) [2, 3, 4, 5, 6, 0] rfl ?_
                  exact ih78 z78_3 fw (q + 1) wl78 hWl78 (by omega) (by omega) (by omega) kq78
                · skip
                  have wi55 := wth_le (a := 0) (b := 7) (j := q) (x53 c54) (by omega) (by decide) (by decide)
                  refine x_aload_n C dX11_soonest_100 rfl 0 rfl rfl ?_
                  refine x_iload_n C dX11_soonest_101 rfl 1 rfl rfl ?_
                  refine x_iload C dX11_soonest_102 5 rfl rfl ?_
                  refine x_iload C dX11_soonest_104 4 rfl rfl ?_
                  refine x_iconst C (v := 1) dX11_soonest_106 (by decide) rfl ?_
                  by_cases hz56 : fw = 0
                  · refine x_isub C (v := -1) dX11_soonest_107 (by rw [hz56]; decide) rfl ?_
                    refine x_vi C (As := [.int (nI j20), .int (nI q), .int (-1)]) (rest := []) (c_daysM E l a wl78 hWl78 j20 ((nI q)) (by omega)) mf_X11_daysTillDone w_1054 0 k36 rfl rfl rfl (Nat.le_of_ble_eq_true rfl) ⟨(Nat.le_of_ble_eq_true rfl), (Nat.le_of_ble_eq_true rfl)⟩ ⟨(Nat.le_of_ble_eq_true rfl), (Nat.le_of_ble_eq_true rfl)⟩ dX11_soonest_108 rfl (fun r58 w59 h57 => ?_)
                    obtain ⟨hW60, kq61, e62⟩ := h57
                    refine x_top e62 ?_
                    have k63 : w59[0]? = some (ob (a 0) 10 [.ref (a 1), .ref (a 3), .ref (a 5), .ref (a 27), .ref (a 49), .int v37, .ref (a 71), .ref (a 79), .ref (a 87), .ref (a 92), .ref (a 103), .ref (a 105), .ref (a 106), .ref (a 107), .ref (a 108), .ref (a 109), .ref (a 110), .ref (a 111), .ref (a 112)]) := keeps_at kq61 k36 (by first | decide | omega | (dsimp only; omega))
                    have k64 : w59[9]? = some (ob (a 9) 4 [.int v47, .ref (a 10), .ref (a 11), .ref (a 12), .ref (a 13)]) := keeps_at kq61 k46 (by first | decide | omega | (dsimp only; omega))
                    have kp65 := keeps_tr kq78 kq61 (fun q hq => by first | omega | (dsimp only at *; omega))
                    refine x_goto C (tgt := 116) dX11_soonest_111 (by decide) ?_
                    refine x_istore C (lv' := [(6, .int (-2)), (0, .ref (a 0)), (1, .int (nI j20)), (2, .int p1), (3, .int z78_3), (4, .int (nI fw)), (5, .int (nI q))]) dX11_soonest_116 (by decide) rfl rfl ?_
                    refine x_iload C dX11_soonest_118 0 rfl rfl ?_
                    refine x_if_lt C (tgt := 130) dX11_soonest_120 (by decide) rfl (fun _ => ?_) (fun h => absurd h (by decide))
                    refine x_iinc C (v := (nI (q + 1))) (lv' := [(5, .int (nI (q + 1))), (6, .int (-2)), (0, .ref (a 0)), (1, .int (nI j20)), (2, .int p1), (3, .int z78_3), (4, .int (nI fw))]) dX11_soonest_130 6 rfl (nI_add q 1) (by decide) rfl rfl ?_
                    refine x_goto C (tgt := 78) dX11_soonest_133 (by decide) ?_
                    refine x_lv (lv1 := [(0, .ref (a 0)), (1, .int (nI j20)), (2, .int p1), (3, .int z78_3), (4, .int (nI fw)), (5, .int (nI (q + 1)))]) [2, 3, 4, 5, 6, 0] rfl ?_
                    exact ih78 z78_3 fw (q + 1) w59 hW60 (by omega) (by omega) (by omega) kp65
                  · refine x_isub C (v := nI (fw - 1)) dX11_soonest_107 (pk_sub (a := fw) (b := 1) (by omega)) rfl ?_
                    refine x_vi C (As := [.int (nI j20), .int (nI q), .int (nI (fw - 1))]) (rest := []) (c_daysTill E l a wl78 hWl78 j20 ((nI q)) (fw - 1) (by omega) (by omega)) mf_X11_daysTillDone w_1054 0 k36 rfl rfl rfl (Nat.le_of_ble_eq_true rfl) ⟨(Nat.le_of_ble_eq_true rfl), (Nat.le_of_ble_eq_true rfl)⟩ ⟨(Nat.le_of_ble_eq_true rfl), (Nat.le_of_ble_eq_true rfl)⟩ dX11_soonest_108 rfl (fun r67 w68 h66 => ?_)
                    obtain ⟨hW69, kq70, x71⟩ := h66
                    have k72 : w68[0]? = some (ob (a 0) 10 [.ref (a 1), .ref (a 3), .ref (a 5), .ref (a 27), .ref (a 49), .int v37, .ref (a 71), .ref (a 79), .ref (a 87), .ref (a 92), .ref (a 103), .ref (a 105), .ref (a 106), .ref (a 107), .ref (a 108), .ref (a 109), .ref (a 110), .ref (a 111), .ref (a 112)]) := keeps_at kq70 k36 (by first | decide | omega | (dsimp only; omega))
                    have k73 : w68[9]? = some (ob (a 9) 4 [.int v47, .ref (a 10), .ref (a 11), .ref (a 12), .ref (a 13)]) := keeps_at kq70 k46 (by first | decide | omega | (dsimp only; omega))
                    have kp74 := keeps_tr kq78 kq70 (fun q hq => by first | omega | (dsimp only at *; omega))
                    rcases x71 with e75 | ⟨n76, hn77, en78⟩
                    · refine x_top e75 ?_
                      refine x_goto C (tgt := 116) dX11_soonest_111 (by decide) ?_
                      refine x_istore C (lv' := [(6, .int (-2)), (0, .ref (a 0)), (1, .int (nI j20)), (2, .int p1), (3, .int z78_3), (4, .int (nI fw)), (5, .int (nI q))]) dX11_soonest_116 (by decide) rfl rfl ?_
                      refine x_iload C dX11_soonest_118 0 rfl rfl ?_
                      refine x_if_lt C (tgt := 130) dX11_soonest_120 (by decide) rfl (fun _ => ?_) (fun h => absurd h (by decide))
                      refine x_iinc C (v := (nI (q + 1))) (lv' := [(5, .int (nI (q + 1))), (6, .int (-2)), (0, .ref (a 0)), (1, .int (nI j20)), (2, .int p1), (3, .int z78_3), (4, .int (nI fw))]) dX11_soonest_130 6 rfl (nI_add q 1) (by decide) rfl rfl ?_
                      refine x_goto C (tgt := 78) dX11_soonest_133 (by decide) ?_
                      refine x_lv (lv1 := [(0, .ref (a 0)), (1, .int (nI j20)), (2, .int p1), (3, .int z78_3), (4, .int (nI fw)), (5, .int (nI (q + 1)))]) [2, 3, 4, 5, 6, 0] rfl ?_
                      exact ih78 z78_3 fw (q + 1) w68 hW69 (by omega) (by omega) (by omega) kp74
                    · refine x_top en78 ?_
                      refine x_goto C (tgt := 116) dX11_soonest_111 (by decide) ?_
                      refine x_istore C (lv' := [(6, .int (nI n76)), (0, .ref (a 0)), (1, .int (nI j20)), (2, .int p1), (3, .int z78_3), (4, .int (nI fw)), (5, .int (nI q))]) dX11_soonest_116 (by decide) rfl rfl ?_
                      refine x_iload C dX11_soonest_118 0 rfl rfl ?_
                      refine x_if_lt C (tgt := 130) dX11_soonest_120 (by decide) rfl (fun c79 => ?_) (fun c79 => ?_)
                      · skip
                        have nf80 := nI_lt' (a := n76) (b := 0) c79 (by omega) (by omega)
                        refine x_iinc C (v := (nI (q + 1))) (lv' := [(5, .int (nI (q + 1))), (6, .int (nI n76)), (0, .ref (a 0)), (1, .int (nI j20)), (2, .int p1), (3, .int z78_3), (4, .int (nI fw))]) dX11_soonest_130 6 rfl (nI_add q 1) (by decide) rfl rfl ?_
                        refine x_goto C (tgt := 78) dX11_soonest_133 (by decide) ?_
                        refine x_lv (lv1 := [(0, .ref (a 0)), (1, .int (nI j20)), (2, .int p1), (3, .int z78_3), (4, .int (nI fw)), (5, .int (nI (q + 1)))]) [2, 3, 4, 5, 6, 0] rfl ?_
                        exact ih78 z78_3 fw (q + 1) w68 hW69 (by omega) (by omega) (by omega) kp74
                      · skip
                        have nf81 := nI_nlt' (a := n76) (b := 0) c79 (by omega) (by omega)
                        refine x_iload C dX11_soonest_123 6 rfl rfl ?_
                        refine x_istore_n C (lv' := [(3, .int (nI q)), (6, .int (nI n76)), (0, .ref (a 0)), (1, .int (nI j20)), (2, .int p1), (4, .int (nI fw)), (5, .int (nI q))]) dX11_soonest_125 rfl (by decide) rfl rfl ?_
                        refine x_iload C dX11_soonest_126 1 rfl rfl ?_
                        refine x_istore C (lv' := [(4, .int (nI n76)), (3, .int (nI q)), (6, .int (nI n76)), (0, .ref (a 0)), (1, .int (nI j20)), (2, .int p1), (5, .int (nI q))]) dX11_soonest_128 (by decide) rfl rfl ?_
                        refine x_iinc C (v := (nI (q + 1))) (lv' := [(5, .int (nI (q + 1))), (4, .int (nI n76)), (3, .int (nI q)), (6, .int (nI n76)), (0, .ref (a 0)), (1, .int (nI j20)), (2, .int p1)]) dX11_soonest_130 6 rfl (nI_add q 1) (by decide) rfl rfl ?_
                        refine x_goto C (tgt := 78) dX11_soonest_133 (by decide) ?_
                        refine x_lv (lv1 := [(0, .ref (a 0)), (1, .int (nI j20)), (2, .int p1), (3, .int (nI q)), (4, .int (nI n76)), (5, .int (nI (q + 1)))]) [4, 5, 6, 2, 1, 0] rfl ?_
                        exact ih78 ((nI q)) n76 (q + 1) w68 hW69 (by omega) (by omega) (by omega) kp74
          refine x_lv (lv1 := [(0, .ref (a 0)), (1, .int (nI j20)), (2, .int p1), (3, .int (-2)), (4, .int 61), (5, .int 0)]) [3, 4, 5, 2, 1, 0] rfl ?_
          exact loop78 _ ((-2) : Int32) 61 0 ws hW (Nat.lt_succ_self _) (by omega) (by omega) kp0
        · skip
          refine x_aload_n C dX11_soonest_59 rfl 0 rfl rfl ?_
          refine x_iload_n C dX11_soonest_60 rfl 1 rfl rfl ?_
          refine x_iload_n C dX11_soonest_61 rfl 2 rfl rfl ?_
          refine x_bipush C (v := 60) dX11_soonest_62 (by decide) rfl ?_
          refine x_vi C (As := [.int (nI j20), .int p1, .int 60]) (rest := []) (c_daysTill E l a ws hW j20 p1 60 (by omega) (by omega)) mf_X11_daysTillDone w_1054 0 k1 rfl rfl rfl (Nat.le_of_ble_eq_true rfl) ⟨(Nat.le_of_ble_eq_true rfl), (Nat.le_of_ble_eq_true rfl)⟩ ⟨(Nat.le_of_ble_eq_true rfl), (Nat.le_of_ble_eq_true rfl)⟩ dX11_soonest_64 rfl (fun r83 w84 h82 => ?_)
          obtain ⟨hW85, kq86, x87⟩ := h82
          have k88 : w84[0]? = some (ob (a 0) 10 [.ref (a 1), .ref (a 3), .ref (a 5), .ref (a 27), .ref (a 49), .int v2, .ref (a 71), .ref (a 79), .ref (a 87), .ref (a 92), .ref (a 103), .ref (a 105), .ref (a 106), .ref (a 107), .ref (a 108), .ref (a 109), .ref (a 110), .ref (a 111), .ref (a 112)]) := keeps_at kq86 k1 (by first | decide | omega | (dsimp only; omega))
          have kp89 := keeps_tr kp0 kq86 (fun q hq => by first | omega | (dsimp only at *; omega))
          exact x_zret C hr hlk rfl dX11_soonest_67 ⟨hW85, kp89⟩
      · skip
        have wi90 := wth_le (a := 0) (b := 7) (j := j20) (x30 c31) (by omega) (by decide) (by decide)
        refine x_bipush C (v := (-3)) dX11_soonest_50 (by decide) rfl ?_
        exact x_zret C hr hlk rfl dX11_soonest_52 ⟨hW, kp0⟩
    · skip
      refine x_aload_n C dX11_soonest_20 rfl 0 rfl rfl ?_
      refine x_get C (ci := 10) (k := 2) 0 k1 rfl in_X11 (by decide) w_387 rfl dX11_soonest_21 rfl ?_
      refine x_get C (ci := 8) (k := 3) 5 k3 rfl in_X9 (by decide) w_204 rfl dX11_soonest_24 rfl ?_
      refine x_iload_n C dX11_soonest_27 rfl 2 rfl rfl ?_
      obtain ⟨_, k91, v92, rfl⟩ := hW 9 _ rfl
      refine x_vi C (As := [.int p1]) (rest := []) (c_People_isTold E l a ws hW 5 (Or.inl rfl) p1) mf_X5_isTold w_465 9 k91 rfl rfl rfl (Nat.le_of_ble_eq_true rfl) ⟨(Nat.le_of_ble_eq_true rfl), (Nat.le_of_ble_eq_true rfl)⟩ ⟨(Nat.le_of_ble_eq_true rfl), (Nat.le_of_ble_eq_true rfl)⟩ dX11_soonest_28 rfl (fun r94 w95 h93 => ?_)
      obtain ⟨hW96, zb97, x98⟩ := h93
      refine x_ws hW96 ?_
      refine x_if_ne C (tgt := 36) dX11_soonest_31 (by decide) rfl (fun c99 => ?_) (fun c99 => ?_)
      · skip
        obtain ⟨j100, hl101, hh102, ej103⟩ := w_nat (a := 0) (b := 7) (by decide) (by decide) (x98 c99)
        subst ej103
        refine x_aload_n C dX11_soonest_36 rfl 0 rfl rfl ?_
        refine x_get C (ci := 10) (k := 2) 0 k1 rfl in_X11 (by decide) w_387 rfl dX11_soonest_37 rfl ?_
        refine x_get C (ci := 8) (k := 5) 5 k3 rfl in_X9 (by decide) w_213 rfl dX11_soonest_40 rfl ?_
        refine x_iload_n C dX11_soonest_43 rfl 1 rfl rfl ?_
        refine x_vi C (As := [.int (nI j20)]) (rest := []) (c_Works_isDone E l a ws hW 5 (Or.inl rfl) ((nI j20))) mf_X10_isDone w_894 21 k11 rfl rfl rfl (Nat.le_of_ble_eq_true rfl) ⟨(Nat.le_of_ble_eq_true rfl), (Nat.le_of_ble_eq_true rfl)⟩ ⟨(Nat.le_of_ble_eq_true rfl), (Nat.le_of_ble_eq_true rfl)⟩ dX11_soonest_44 rfl (fun r105 w106 h104 => ?_)
        obtain ⟨hW107, zb108, x109⟩ := h104
        refine x_ws hW107 ?_
        refine x_if_eq C (tgt := 53) dX11_soonest_47 (by decide) rfl (fun c110 => ?_) (fun c110 => ?_)
        · skip
          refine x_iload_n C dX11_soonest_53 rfl 2 rfl rfl ?_
          refine x_bipush C (v := 8) dX11_soonest_54 (by decide) rfl ?_
          refine x_icmp_eq C (tgt := 68) dX11_soonest_56 (by decide) rfl (fun c111 => ?_) (fun c111 => ?_)
          · skip
            have nf112 : j100 = 8 := (nI_eq (by omega) (by omega)).mp c111
            refine x_bipush C (v := (-2)) dX11_soonest_68 (by decide) rfl ?_
            refine x_istore_n C (lv' := [(3, .int (-2)), (0, .ref (a 0)), (1, .int (nI j20)), (2, .int (nI j100))]) dX11_soonest_70 rfl (by decide) rfl rfl ?_
            refine x_bipush C (v := 61) dX11_soonest_71 (by decide) rfl ?_
            refine x_istore C (lv' := [(4, .int 61), (3, .int (-2)), (0, .ref (a 0)), (1, .int (nI j20)), (2, .int (nI j100))]) dX11_soonest_73 (by decide) rfl rfl ?_
            refine x_iconst C (v := 0) dX11_soonest_75 (by decide) rfl ?_
            refine x_istore C (lv' := [(5, .int 0), (4, .int 61), (3, .int (-2)), (0, .ref (a 0)), (1, .int (nI j20)), (2, .int (nI j100))]) dX11_soonest_76 (by decide) rfl rfl ?_
            have loop78 : ∀ (fu78 : Nat) (z78_3 : Int32) (fw : Nat) (q : Nat) (wl78 : va_W), WX (okX E a) wl78 → 8 - q < fu78 → q ≤ 8 → fw ≤ 61 → keeps ws wl78 (fun q => ¬ (q = 0 ∨ q = 6 ∨ q = 9 ∨ q = 28 ∨ q = 31)) → X E p l e (xRm 8 0 0) s m ([.ref (a 0), .int (nI j20), .int (nI j100)] : List Value).toArray below meth c A 7 0 0 (MQ below (va_Qi (fun r w => WX (okX E a) w ∧ keeps ws w (fun q => ¬ (q = 0 ∨ q = 6 ∨ q = 9 ∨ q = 28 ∨ q = 31))) (xB E A) A) ([.ref (a 0), .int (nI j20), .int (nI j100)] : List Value).toArray s 0 0 A) wl78 78 [(0, .ref (a 0)), (1, .int (nI j20)), (2, .int (nI j100)), (3, .int z78_3), (4, .int (nI fw)), (5, .int (nI q))] [] := by
              intro fu78
              induction fu78 with
              | zero => intro z78_3 fw q wl78 _ q; omega
              | succ fu78 ih78 =>
                intro z78_3 fw q wl78 hWl78 me78 iv78_0 iv78_1 kq78
                refine x_iload C dX11_soonest_78 5 rfl rfl ?_
                refine x_bipush C (v := 8) dX11_soonest_80 (by decide) rfl ?_
                refine x_icmp_ge C (tgt := 136) dX11_soonest_82 (by decide) rfl (fun c113 => ?_) (fun c113 => ?_)
                · skip
                  have nf114 := nI_le' (a := 8) (b := q) c113 (by omega) (by omega)
                  refine x_iload_n C dX11_soonest_136 rfl 3 rfl rfl ?_
                  exact x_zret C hr hlk rfl dX11_soonest_137 ⟨hWl78, kq78⟩
                · skip
                  have nf115 := nI_nle' (a := 8) (b := q) c113 (by omega) (by omega)
                  refine x_aload_n C dX11_soonest_85 rfl 0 rfl rfl ?_
                  obtain ⟨_, k116, v117, rfl⟩ := hWl78 0 _ rfl
                  refine x_get C (ci := 10) (k := 2) 0 k116 rfl in_X11 (by decide) w_387 rfl dX11_soonest_86 rfl ?_
                  obtain ⟨_, k118, n119, v121, v122, v123, v124, v125, bn120, rfl⟩ := hWl78 5 _ rfl
                  refine x_get C (ci := 8) (k := 3) 5 k118 rfl in_X9 (by decide) w_204 rfl dX11_soonest_89 rfl ?_
                  refine x_iload C dX11_soonest_92 5 rfl rfl ?_
                  obtain ⟨_, k126, v127, rfl⟩ := hWl78 9 _ rfl
                  refine x_vi C (As := [.int (nI q)]) (rest := []) (c_People_isTold E l a wl78 hWl78 5 (Or.inl rfl) ((nI q))) mf_X5_isTold w_465 9 k126 rfl rfl rfl (Nat.le_of_ble_eq_true rfl) ⟨(Nat.le_of_ble_eq_true rfl), (Nat.le_of_ble_eq_true rfl)⟩ ⟨(Nat.le_of_ble_eq_true rfl), (Nat.le_of_ble_eq_true rfl)⟩ dX11_soonest_94 rfl (fun r129 w130 h128 => ?_)
                  obtain ⟨hW131, zb132, x133⟩ := h128
                  refine x_ws hW131 ?_
                  refine x_if_eq C (tgt := 114) dX11_soonest_97 (by decide) rfl (fun c134 => ?_) (fun c134 => ?_)
                  · skip
                    refine x_bipush C (v := (-2)) dX11_soonest_114 (by decide) rfl ?_
                    refine x_istore C (lv' := [(6, .int (-2)), (0, .ref (a 0)), (1, .int (nI j20)), (2, .int (nI j100)), (3, .int z78_3), (4, .int (nI fw)), (5, .int (nI q))]) dX11_soonest_116 (by decide) rfl rfl ?_
                    refine x_iload C dX11_soonest_118 0 rfl rfl ?_
                    refine x_if_lt C (tgt := 130) dX11_soonest_120 (by decide) rfl (fun _ => ?_) (fun h => absurd h (by decide))
                    refine x_iinc C (v := (nI (q + 1))) (lv' := [(5, .int (nI (q + 1))), (6, .int (-2)), (0, .ref (a 0)), (1, .int (nI j20)), (2, .int (nI j100)), (3, .int z78_3), (4, .int (nI fw))]) dX11_soonest_130 6 rfl (nI_add q 1) (by decide) rfl rfl ?_
                    refine x_goto C (tgt := 78) dX11_soonest_133 (by decide) ?_
                    refine x_lv (lv1 := [(0, .ref (a 0)), (1, .int (nI j20)), (2, .int (nI j100)), (3, .int z78_3), (4, .int (nI fw)), (5, .int (nI (q + 1)))]) [2, 3, 4, 5, 6, 0] rfl ?_
                    exact ih78 z78_3 fw (q + 1) wl78 hWl78 (by omega) (by omega) (by omega) kq78
                  · skip
                    have wi135 := wth_le (a := 0) (b := 7) (j := q) (x133 c134) (by omega) (by decide) (by decide)
                    refine x_aload_n C dX11_soonest_100 rfl 0 rfl rfl ?_
                    refine x_iload_n C dX11_soonest_101 rfl 1 rfl rfl ?_
                    refine x_iload C dX11_soonest_102 5 rfl rfl ?_
                    refine x_iload C dX11_soonest_104 4 rfl rfl ?_
                    refine x_iconst C (v := 1) dX11_soonest_106 (by decide) rfl ?_
                    by_cases hz136 : fw = 0
                    · refine x_isub C (v := -1) dX11_soonest_107 (by rw [hz136]; decide) rfl ?_
                      refine x_vi C (As := [.int (nI j20), .int (nI q), .int (-1)]) (rest := []) (c_daysM E l a wl78 hWl78 j20 ((nI q)) (by omega)) mf_X11_daysTillDone w_1054 0 k116 rfl rfl rfl (Nat.le_of_ble_eq_true rfl) ⟨(Nat.le_of_ble_eq_true rfl), (Nat.le_of_ble_eq_true rfl)⟩ ⟨(Nat.le_of_ble_eq_true rfl), (Nat.le_of_ble_eq_true rfl)⟩ dX11_soonest_108 rfl (fun r138 w139 h137 => ?_)
                      obtain ⟨hW140, kq141, e142⟩ := h137
                      refine x_top e142 ?_
                      have k143 : w139[0]? = some (ob (a 0) 10 [.ref (a 1), .ref (a 3), .ref (a 5), .ref (a 27), .ref (a 49), .int v117, .ref (a 71), .ref (a 79), .ref (a 87), .ref (a 92), .ref (a 103), .ref (a 105), .ref (a 106), .ref (a 107), .ref (a 108), .ref (a 109), .ref (a 110), .ref (a 111), .ref (a 112)]) := keeps_at kq141 k116 (by first | decide | omega | (dsimp only; omega))
                      have k144 : w139[9]? = some (ob (a 9) 4 [.int v127, .ref (a 10), .ref (a 11), .ref (a 12), .ref (a 13)]) := keeps_at kq141 k126 (by first | decide | omega | (dsimp only; omega))
                      have kp145 := keeps_tr kq78 kq141 (fun q hq => by first | omega | (dsimp only at *; omega))
                      refine x_goto C (tgt := 116) dX11_soonest_111 (by decide) ?_
                      refine x_istore C (lv' := [(6, .int (-2)), (0, .ref (a 0)), (1, .int (nI j20)), (2, .int (nI j100)), (3, .int z78_3), (4, .int (nI fw)), (5, .int (nI q))]) dX11_soonest_116 (by decide) rfl rfl ?_
                      refine x_iload C dX11_soonest_118 0 rfl rfl ?_
                      refine x_if_lt C (tgt := 130) dX11_soonest_120 (by decide) rfl (fun _ => ?_) (fun h => absurd h (by decide))
                      refine x_iinc C (v := (nI (q + 1))) (lv' := [(5, .int (nI (q + 1))), (6, .int (-2)), (0, .ref (a 0)), (1, .int (nI j20)), (2, .int (nI j100)), (3, .int z78_3), (4, .int (nI fw))]) dX11_soonest_130 6 rfl (nI_add q 1) (by decide) rfl rfl ?_
                      refine x_goto C (tgt := 78) dX11_soonest_133 (by decide) ?_
                      refine x_lv (lv1 := [(0, .ref (a 0)), (1, .int (nI j20)), (2, .int (nI j100)), (3, .int z78_3), (4, .int (nI fw)), (5, .int (nI (q + 1)))]) [2, 3, 4, 5, 6, 0] rfl ?_
                      exact ih78 z78_3 fw (q + 1) w139 hW140 (by omega) (by omega) (by omega) kp145
                    · refine x_isub C (v := nI (fw - 1)) dX11_soonest_107 (pk_sub (a := fw) (b := 1) (by omega)) rfl ?_
                      refine x_vi C (As := [.int (nI j20), .int (nI q), .int (nI (fw - 1))]) (rest := []) (c_daysTill E l a wl78 hWl78 j20 ((nI q)) (fw - 1) (by omega) (by omega)) mf_X11_daysTillDone w_1054 0 k116 rfl rfl rfl (Nat.le_of_ble_eq_true rfl) ⟨(Nat.le_of_ble_eq_true rfl), (Nat.le_of_ble_eq_true rfl)⟩ ⟨(Nat.le_of_ble_eq_true rfl), (Nat.le_of_ble_eq_true rfl)⟩ dX11_soonest_108 rfl (fun r147 w148 h146 => ?_)
                      obtain ⟨hW149, kq150, x151⟩ := h146
                      have k152 : w148[0]? = some (ob (a 0) 10 [.ref (a 1), .ref (a 3), .ref (a 5), .ref (a 27), .ref (a 49), .int v117, .ref (a 71), .ref (a 79), .ref (a 87), .ref (a 92), .ref (a 103), .ref (a 105), .ref (a 106), .ref (a 107), .ref (a 108), .ref (a 109), .ref (a 110), .ref (a 111), .ref (a 112)]) := keeps_at kq150 k116 (by first | decide | omega | (dsimp only; omega))
                      have k153 : w148[9]? = some (ob (a 9) 4 [.int v127, .ref (a 10), .ref (a 11), .ref (a 12), .ref (a 13)]) := keeps_at kq150 k126 (by first | decide | omega | (dsimp only; omega))
                      have kp154 := keeps_tr kq78 kq150 (fun q hq => by first | omega | (dsimp only at *; omega))
                      rcases x151 with e155 | ⟨n156, hn157, en158⟩
                      · refine x_top e155 ?_
                        refine x_goto C (tgt := 116) dX11_soonest_111 (by decide) ?_
                        refine x_istore C (lv' := [(6, .int (-2)), (0, .ref (a 0)), (1, .int (nI j20)), (2, .int (nI j100)), (3, .int z78_3), (4, .int (nI fw)), (5, .int (nI q))]) dX11_soonest_116 (by decide) rfl rfl ?_
                        refine x_iload C dX11_soonest_118 0 rfl rfl ?_
                        refine x_if_lt C (tgt := 130) dX11_soonest_120 (by decide) rfl (fun _ => ?_) (fun h => absurd h (by decide))
                        refine x_iinc C (v := (nI (q + 1))) (lv' := [(5, .int (nI (q + 1))), (6, .int (-2)), (0, .ref (a 0)), (1, .int (nI j20)), (2, .int (nI j100)), (3, .int z78_3), (4, .int (nI fw))]) dX11_soonest_130 6 rfl (nI_add q 1) (by decide) rfl rfl ?_
                        refine x_goto C (tgt := 78) dX11_soonest_133 (by decide) ?_
                        refine x_lv (lv1 := [(0, .ref (a 0)), (1, .int (nI j20)), (2, .int (nI j100)), (3, .int z78_3), (4, .int (nI fw)), (5, .int (nI (q + 1)))]) [2, 3, 4, 5, 6, 0] rfl ?_
                        exact ih78 z78_3 fw (q + 1) w148 hW149 (by omega) (by omega) (by omega) kp154
                      · refine x_top en158 ?_
                        refine x_goto C (tgt := 116) dX11_soonest_111 (by decide) ?_
                        refine x_istore C (lv' := [(6, .int (nI n156)), (0, .ref (a 0)), (1, .int (nI j20)), (2, .int (nI j100)), (3, .int z78_3), (4, .int (nI fw)), (5, .int (nI q))]) dX11_soonest_116 (by decide) rfl rfl ?_
                        refine x_iload C dX11_soonest_118 0 rfl rfl ?_
                        refine x_if_lt C (tgt := 130) dX11_soonest_120 (by decide) rfl (fun c159 => ?_) (fun c159 => ?_)
                        · skip
                          have nf160 := nI_lt' (a := n156) (b := 0) c159 (by omega) (by omega)
                          refine x_iinc C (v := (nI (q + 1))) (lv' := [(5, .int (nI (q + 1))), (6, .int (nI n156)), (0, .ref (a 0)), (1, .int (nI j20)), (2, .int (nI j100)), (3, .int z78_3), (4, .int (nI fw))]) dX11_soonest_130 6 rfl (nI_add q 1) (by decide) rfl rfl ?_
                          refine x_goto C (tgt := 78) dX11_soonest_133 (by decide) ?_
                          refine x_lv (lv1 := [(0, .ref (a 0)), (1, .int (nI j20)), (2, .int (nI j100)), (3, .int z78_3), (4, .int (nI fw)), (5, .int (nI (q + 1)))]) [2, 3, 4, 5, 6, 0] rfl ?_
                          exact ih78 z78_3 fw (q + 1) w148 hW149 (by omega) (by omega) (by omega) kp154
                        · skip
                          have nf161 := nI_nlt' (a := n156) (b := 0) c159 (by omega) (by omega)
                          refine x_iload C dX11_soonest_123 6 rfl rfl ?_
                          refine x_istore_n C (lv' := [(3, .int (nI q)), (6, .int (nI n156)), (0, .ref (a 0)), (1, .int (nI j20)), (2, .int (nI j100)), (4, .int (nI fw)), (5, .int (nI q))]) dX11_soonest_125 rfl (by decide) rfl rfl ?_
                          refine x_iload C dX11_soonest_126 1 rfl rfl ?_
                          refine x_istore C (lv' := [(4, .int (nI n156)), (3, .int (nI q)), (6, .int (nI n156)), (0, .ref (a 0)), (1, .int (nI j20)), (2, .int (nI j100)), (5, .int (nI q))]) dX11_soonest_128 (by decide) rfl rfl ?_
                          refine x_iinc C (v := (nI (q + 1))) (lv' := [(5, .int (nI (q + 1))), (4, .int (nI n156)), (3, .int (nI q)), (6, .int (nI n156)), (0, .ref (a 0)), (1, .int (nI j20)), (2, .int (nI j100))]) dX11_soonest_130 6 rfl (nI_add q 1) (by decide) rfl rfl ?_
                          refine x_goto C (tgt := 78) dX11_soonest_133 (by decide) ?_
                          refine x_lv (lv1 := [(0, .ref (a 0)), (1, .int (nI j20)), (2, .int (nI j100)), (3, .int (nI q)), (4, .int (nI n156)), (5, .int (nI (q + 1)))]) [4, 5, 6, 2, 1, 0] rfl ?_
                          exact ih78 ((nI q)) n156 (q + 1) w148 hW149 (by omega) (by omega) (by omega) kp154
            refine x_lv (lv1 := [(0, .ref (a 0)), (1, .int (nI j20)), (2, .int (nI j100)), (3, .int (-2)), (4, .int 61), (5, .int 0)]) [3, 4, 5, 2, 1, 0] rfl ?_
            exact loop78 _ ((-2) : Int32) 61 0 ws hW (Nat.lt_succ_self _) (by omega) (by omega) kp0
          · skip
            have nf162 : ¬ j100 = 8 := fun q => c111 (congrArg nI q)
            refine x_aload_n C dX11_soonest_59 rfl 0 rfl rfl ?_
            refine x_iload_n C dX11_soonest_60 rfl 1 rfl rfl ?_
            refine x_iload_n C dX11_soonest_61 rfl 2 rfl rfl ?_
            refine x_bipush C (v := 60) dX11_soonest_62 (by decide) rfl ?_
            refine x_vi C (As := [.int (nI j20), .int (nI j100), .int 60]) (rest := []) (c_daysTill E l a ws hW j20 ((nI j100)) 60 (by omega) (by omega)) mf_X11_daysTillDone w_1054 0 k1 rfl rfl rfl (Nat.le_of_ble_eq_true rfl) ⟨(Nat.le_of_ble_eq_true rfl), (Nat.le_of_ble_eq_true rfl)⟩ ⟨(Nat.le_of_ble_eq_true rfl), (Nat.le_of_ble_eq_true rfl)⟩ dX11_soonest_64 rfl (fun r164 w165 h163 => ?_)
            obtain ⟨hW166, kq167, x168⟩ := h163
            have k169 : w165[0]? = some (ob (a 0) 10 [.ref (a 1), .ref (a 3), .ref (a 5), .ref (a 27), .ref (a 49), .int v2, .ref (a 71), .ref (a 79), .ref (a 87), .ref (a 92), .ref (a 103), .ref (a 105), .ref (a 106), .ref (a 107), .ref (a 108), .ref (a 109), .ref (a 110), .ref (a 111), .ref (a 112)]) := keeps_at kq167 k1 (by first | decide | omega | (dsimp only; omega))
            have k170 : w165[9]? = some (ob (a 9) 4 [.int v92, .ref (a 10), .ref (a 11), .ref (a 12), .ref (a 13)]) := keeps_at kq167 k91 (by first | decide | omega | (dsimp only; omega))
            have kp171 := keeps_tr kp0 kq167 (fun q hq => by first | omega | (dsimp only at *; omega))
            exact x_zret C hr hlk rfl dX11_soonest_67 ⟨hW166, kp171⟩
        · skip
          have wi172 := wth_le (a := 0) (b := 7) (j := j20) (x109 c110) (by omega) (by decide) (by decide)
          refine x_bipush C (v := (-3)) dX11_soonest_50 (by decide) rfl ?_
          exact x_zret C hr hlk rfl dX11_soonest_52 ⟨hW, kp0⟩
      · skip
        refine x_iconst C (v := (-1)) dX11_soonest_34 (by decide) rfl ?_
        exact x_zret C hr hlk rfl dX11_soonest_35 ⟨hW, kp0⟩
theorem dX11_barter_0 : decode cX11_barter 0 = .ok (.aload_n 0, 1) := by decide +kernel
theorem dX11_barter_1 : decode cX11_barter 1 = .ok (.getfield 22, 3) := by decide +kernel
theorem dX11_barter_4 : decode cX11_barter 4 = .ok (.getfield 92, 3) := by decide +kernel
theorem dX11_barter_7 : decode cX11_barter 7 = .ok (.iload_n 1, 1) := by decide +kernel
theorem dX11_barter_8 : decode cX11_barter 8 = .ok (.invokevirtual 106, 3) := by decide +kernel
theorem dX11_barter_11 : decode cX11_barter 11 = .ok (.ifCond .eq 55, 3) := by decide +kernel
theorem dX11_barter_14 : decode cX11_barter 14 = .ok (.aload_n 0, 1) := by decide +kernel
theorem dX11_barter_15 : decode cX11_barter 15 = .ok (.getfield 22, 3) := by decide +kernel
theorem dX11_barter_18 : decode cX11_barter 18 = .ok (.getfield 92, 3) := by decide +kernel
theorem dX11_barter_21 : decode cX11_barter 21 = .ok (.iload_n 2, 1) := by decide +kernel
theorem dX11_barter_22 : decode cX11_barter 22 = .ok (.invokevirtual 106, 3) := by decide +kernel
theorem dX11_barter_25 : decode cX11_barter 25 = .ok (.ifCond .eq 41, 3) := by decide +kernel
theorem dX11_barter_28 : decode cX11_barter 28 = .ok (.iload_n 1, 1) := by decide +kernel
theorem dX11_barter_29 : decode cX11_barter 29 = .ok (.iload_n 2, 1) := by decide +kernel
theorem dX11_barter_30 : decode cX11_barter 30 = .ok (.if_icmp .eq 36, 3) := by decide +kernel
theorem dX11_barter_33 : decode cX11_barter 33 = .ok (.iload_n 3, 1) := by decide +kernel
theorem dX11_barter_34 : decode cX11_barter 34 = .ok (.iconst 0, 1) := by decide +kernel
theorem dX11_barter_35 : decode cX11_barter 35 = .ok (.sipush 9999, 3) := by decide +kernel
theorem dX11_barter_38 : decode cX11_barter 38 = .ok (.invokestatic 102, 3) := by decide +kernel
theorem dX11_barter_41 : decode cX11_barter 41 = .ok (.ifCond .eq 25, 3) := by decide +kernel
theorem dX11_barter_44 : decode cX11_barter 44 = .ok (.iload 4, 2) := by decide +kernel
theorem dX11_barter_46 : decode cX11_barter 46 = .ok (.iconst 0, 1) := by decide +kernel
theorem dX11_barter_47 : decode cX11_barter 47 = .ok (.sipush 9999, 3) := by decide +kernel
theorem dX11_barter_50 : decode cX11_barter 50 = .ok (.invokestatic 102, 3) := by decide +kernel
theorem dX11_barter_53 : decode cX11_barter 53 = .ok (.ifCond .eq 13, 3) := by decide +kernel
theorem dX11_barter_56 : decode cX11_barter 56 = .ok (.iload 5, 2) := by decide +kernel
theorem dX11_barter_58 : decode cX11_barter 58 = .ok (.iconst 0, 1) := by decide +kernel
theorem dX11_barter_59 : decode cX11_barter 59 = .ok (.iconst 2, 1) := by decide +kernel
theorem dX11_barter_60 : decode cX11_barter 60 = .ok (.invokestatic 102, 3) := by decide +kernel
theorem dX11_barter_63 : decode cX11_barter 63 = .ok (.ifCond .ne 5, 3) := by decide +kernel
theorem dX11_barter_66 : decode cX11_barter 66 = .ok (.iconst (-1), 1) := by decide +kernel
theorem dX11_barter_67 : decode cX11_barter 67 = .ok (.ireturn, 1) := by decide +kernel
theorem dX11_barter_68 : decode cX11_barter 68 = .ok (.aload_n 0, 1) := by decide +kernel
theorem dX11_barter_69 : decode cX11_barter 69 = .ok (.getfield 22, 3) := by decide +kernel
theorem dX11_barter_72 : decode cX11_barter 72 = .ok (.getfield 132, 3) := by decide +kernel
theorem dX11_barter_75 : decode cX11_barter 75 = .ok (.iload_n 1, 1) := by decide +kernel
theorem dX11_barter_76 : decode cX11_barter 76 = .ok (.invokevirtual 251, 3) := by decide +kernel
theorem dX11_barter_79 : decode cX11_barter 79 = .ok (.iload_n 3, 1) := by decide +kernel
theorem dX11_barter_80 : decode cX11_barter 80 = .ok (.isub, 1) := by decide +kernel
theorem dX11_barter_81 : decode cX11_barter 81 = .ok (.istore 6, 2) := by decide +kernel
theorem dX11_barter_83 : decode cX11_barter 83 = .ok (.aload_n 0, 1) := by decide +kernel
theorem dX11_barter_84 : decode cX11_barter 84 = .ok (.getfield 22, 3) := by decide +kernel
theorem dX11_barter_87 : decode cX11_barter 87 = .ok (.getfield 132, 3) := by decide +kernel
theorem dX11_barter_90 : decode cX11_barter 90 = .ok (.iload_n 2, 1) := by decide +kernel
theorem dX11_barter_91 : decode cX11_barter 91 = .ok (.invokevirtual 251, 3) := by decide +kernel
theorem dX11_barter_94 : decode cX11_barter 94 = .ok (.iload 4, 2) := by decide +kernel
theorem dX11_barter_96 : decode cX11_barter 96 = .ok (.isub, 1) := by decide +kernel
theorem dX11_barter_97 : decode cX11_barter 97 = .ok (.istore 7, 2) := by decide +kernel
theorem dX11_barter_99 : decode cX11_barter 99 = .ok (.iconst 0, 1) := by decide +kernel
theorem dX11_barter_100 : decode cX11_barter 100 = .ok (.istore 8, 2) := by decide +kernel
theorem dX11_barter_102 : decode cX11_barter 102 = .ok (.bipush (-2), 2) := by decide +kernel
theorem dX11_barter_104 : decode cX11_barter 104 = .ok (.istore 9, 2) := by decide +kernel
theorem dX11_barter_106 : decode cX11_barter 106 = .ok (.aload_n 0, 1) := by decide +kernel
theorem dX11_barter_107 : decode cX11_barter 107 = .ok (.getfield 22, 3) := by decide +kernel
theorem dX11_barter_110 : decode cX11_barter 110 = .ok (.getfield 132, 3) := by decide +kernel
theorem dX11_barter_113 : decode cX11_barter 113 = .ok (.getfield 383, 3) := by decide +kernel
theorem dX11_barter_116 : decode cX11_barter 116 = .ok (.iconst 1, 1) := by decide +kernel
theorem dX11_barter_117 : decode cX11_barter 117 = .ok (.isub, 1) := by decide +kernel
theorem dX11_barter_118 : decode cX11_barter 118 = .ok (.istore 10, 2) := by decide +kernel
theorem dX11_barter_120 : decode cX11_barter 120 = .ok (.iload 10, 2) := by decide +kernel
theorem dX11_barter_122 : decode cX11_barter 122 = .ok (.ifCond .lt 134, 3) := by decide +kernel
theorem dX11_barter_125 : decode cX11_barter 125 = .ok (.aload_n 0, 1) := by decide +kernel
theorem dX11_barter_126 : decode cX11_barter 126 = .ok (.getfield 22, 3) := by decide +kernel
theorem dX11_barter_129 : decode cX11_barter 129 = .ok (.getfield 132, 3) := by decide +kernel
theorem dX11_barter_132 : decode cX11_barter 132 = .ok (.getfield 383, 3) := by decide +kernel
theorem dX11_barter_135 : decode cX11_barter 135 = .ok (.iconst 1, 1) := by decide +kernel
theorem dX11_barter_136 : decode cX11_barter 136 = .ok (.isub, 1) := by decide +kernel
theorem dX11_barter_137 : decode cX11_barter 137 = .ok (.istore 11, 2) := by decide +kernel
theorem dX11_barter_139 : decode cX11_barter 139 = .ok (.iload 11, 2) := by decide +kernel
theorem dX11_barter_141 : decode cX11_barter 141 = .ok (.ifCond .lt 109, 3) := by decide +kernel
theorem dX11_barter_144 : decode cX11_barter 144 = .ok (.aload_n 0, 1) := by decide +kernel
theorem dX11_barter_145 : decode cX11_barter 145 = .ok (.getfield 22, 3) := by decide +kernel
theorem dX11_barter_148 : decode cX11_barter 148 = .ok (.getfield 132, 3) := by decide +kernel
theorem dX11_barter_151 : decode cX11_barter 151 = .ok (.iload 10, 2) := by decide +kernel
theorem dX11_barter_153 : decode cX11_barter 153 = .ok (.iload_n 1, 1) := by decide +kernel
theorem dX11_barter_154 : decode cX11_barter 154 = .ok (.invokevirtual 384, 3) := by decide +kernel
theorem dX11_barter_157 : decode cX11_barter 157 = .ok (.ifCond .eq 93, 3) := by decide +kernel
theorem dX11_barter_160 : decode cX11_barter 160 = .ok (.aload_n 0, 1) := by decide +kernel
theorem dX11_barter_161 : decode cX11_barter 161 = .ok (.getfield 22, 3) := by decide +kernel
theorem dX11_barter_164 : decode cX11_barter 164 = .ok (.getfield 132, 3) := by decide +kernel
theorem dX11_barter_167 : decode cX11_barter 167 = .ok (.getfield 210, 3) := by decide +kernel
theorem dX11_barter_170 : decode cX11_barter 170 = .ok (.iload 11, 2) := by decide +kernel
theorem dX11_barter_172 : decode cX11_barter 172 = .ok (.iaload, 1) := by decide +kernel
theorem dX11_barter_173 : decode cX11_barter 173 = .ok (.aload_n 0, 1) := by decide +kernel
theorem dX11_barter_174 : decode cX11_barter 174 = .ok (.getfield 22, 3) := by decide +kernel
theorem dX11_barter_177 : decode cX11_barter 177 = .ok (.getfield 132, 3) := by decide +kernel
theorem dX11_barter_180 : decode cX11_barter 180 = .ok (.getfield 210, 3) := by decide +kernel
theorem dX11_barter_183 : decode cX11_barter 183 = .ok (.iload 10, 2) := by decide +kernel
theorem dX11_barter_185 : decode cX11_barter 185 = .ok (.iaload, 1) := by decide +kernel
theorem dX11_barter_186 : decode cX11_barter 186 = .ok (.isub, 1) := by decide +kernel
theorem dX11_barter_187 : decode cX11_barter 187 = .ok (.istore 12, 2) := by decide +kernel
theorem dX11_barter_189 : decode cX11_barter 189 = .ok (.aload_n 0, 1) := by decide +kernel
theorem dX11_barter_190 : decode cX11_barter 190 = .ok (.getfield 22, 3) := by decide +kernel
theorem dX11_barter_193 : decode cX11_barter 193 = .ok (.getfield 132, 3) := by decide +kernel
theorem dX11_barter_196 : decode cX11_barter 196 = .ok (.iload 11, 2) := by decide +kernel
theorem dX11_barter_198 : decode cX11_barter 198 = .ok (.iload_n 2, 1) := by decide +kernel
theorem dX11_barter_199 : decode cX11_barter 199 = .ok (.invokevirtual 384, 3) := by decide +kernel
theorem dX11_barter_202 : decode cX11_barter 202 = .ok (.ifCond .eq 42, 3) := by decide +kernel
theorem dX11_barter_205 : decode cX11_barter 205 = .ok (.iload 6, 2) := by decide +kernel
theorem dX11_barter_207 : decode cX11_barter 207 = .ok (.iload 12, 2) := by decide +kernel
theorem dX11_barter_209 : decode cX11_barter 209 = .ok (.invokestatic 387, 3) := by decide +kernel
theorem dX11_barter_212 : decode cX11_barter 212 = .ok (.ifCond .eq 32, 3) := by decide +kernel
theorem dX11_barter_215 : decode cX11_barter 215 = .ok (.iload 7, 2) := by decide +kernel
theorem dX11_barter_217 : decode cX11_barter 217 = .ok (.iload 12, 2) := by decide +kernel
theorem dX11_barter_219 : decode cX11_barter 219 = .ok (.ineg, 1) := by decide +kernel
theorem dX11_barter_220 : decode cX11_barter 220 = .ok (.invokestatic 387, 3) := by decide +kernel
theorem dX11_barter_223 : decode cX11_barter 223 = .ok (.ifCond .eq 21, 3) := by decide +kernel
theorem dX11_barter_226 : decode cX11_barter 226 = .ok (.iinc 8 1, 3) := by decide +kernel
theorem dX11_barter_229 : decode cX11_barter 229 = .ok (.iload 5, 2) := by decide +kernel
theorem dX11_barter_231 : decode cX11_barter 231 = .ok (.iconst 1, 1) := by decide +kernel
theorem dX11_barter_232 : decode cX11_barter 232 = .ok (.if_icmp .ne 8, 3) := by decide +kernel
theorem dX11_barter_235 : decode cX11_barter 235 = .ok (.iload 10, 2) := by decide +kernel
theorem dX11_barter_237 : decode cX11_barter 237 = .ok (.goto 5, 3) := by decide +kernel
theorem dX11_barter_240 : decode cX11_barter 240 = .ok (.iload 11, 2) := by decide +kernel
theorem dX11_barter_242 : decode cX11_barter 242 = .ok (.istore 9, 2) := by decide +kernel
theorem dX11_barter_244 : decode cX11_barter 244 = .ok (.iinc 11 (-1), 3) := by decide +kernel
theorem dX11_barter_247 : decode cX11_barter 247 = .ok (.goto (-108), 3) := by decide +kernel
theorem dX11_barter_250 : decode cX11_barter 250 = .ok (.iinc 10 (-1), 3) := by decide +kernel
theorem dX11_barter_253 : decode cX11_barter 253 = .ok (.goto (-133), 3) := by decide +kernel
theorem dX11_barter_256 : decode cX11_barter 256 = .ok (.iload 5, 2) := by decide +kernel
theorem dX11_barter_258 : decode cX11_barter 258 = .ok (.ifCond .ne 8, 3) := by decide +kernel
theorem dX11_barter_261 : decode cX11_barter 261 = .ok (.iload 8, 2) := by decide +kernel
theorem dX11_barter_263 : decode cX11_barter 263 = .ok (.goto 5, 3) := by decide +kernel
theorem dX11_barter_266 : decode cX11_barter 266 = .ok (.iload 9, 2) := by decide +kernel
theorem dX11_barter_268 : decode cX11_barter 268 = .ok (.ireturn, 1) := by decide +kernel
set_option maxRecDepth 20000 in
set_option maxHeartbeats 4000000 in
theorem c_barter (E : xE) (l : Launch) (a : Nat → Nat) (ws : va_W) (hW : WX (okX E a) ws) (p0 : Int32) (p1 : Int32) (p2 : Int32) (p3 : Int32) (p4 : Int32) : xI E l yX11_barter cX11_barter 13 (some .int) 8 [.ref (a 0), .int p0, .int p1, .int p2, .int p3, .int p4] ws (fun r w => WX (okX E a) w ∧ keeps ws w (fun q => ¬ (q = 0 ∨ q = 6 ∨ q = 9 ∨ q = 28 ∨ q = 31))) := by
  refine xI_start (lv := [(0, .ref (a 0)), (1, .int p0), (2, .int p1), (3, .int p2), (4, .int p3), (5, .int p4)]) RX11 (by decide) rfl (Nat.le_of_ble_eq_true rfl) rfl (fun p e s m below meth c A C hr hlk => ?_)
  have kp0 : keeps ws ws (fun q => ¬ (q = 0 ∨ q = 6 ∨ q = 9 ∨ q = 28 ∨ q = 31)) := keeps_rf
  refine x_aload_n C dX11_barter_0 rfl 0 rfl rfl ?_
  obtain ⟨_, k1, v2, rfl⟩ := hW 0 _ rfl
  refine x_get C (ci := 10) (k := 2) 0 k1 rfl in_X11 (by decide) w_387 rfl dX11_barter_1 rfl ?_
  obtain ⟨_, k3, n4, v6, v7, v8, v9, v10, bn5, rfl⟩ := hW 5 _ rfl
  refine x_get C (ci := 8) (k := 3) 5 k3 rfl in_X9 (by decide) w_204 rfl dX11_barter_4 rfl ?_
  refine x_iload_n C dX11_barter_7 rfl 1 rfl rfl ?_
  obtain ⟨_, k11, v12, rfl⟩ := hW 9 _ rfl
  refine x_vi C (As := [.int p0]) (rest := []) (c_People_isTold E l a ws hW 5 (Or.inl rfl) p0) mf_X5_isTold w_465 9 k11 rfl rfl rfl (Nat.le_of_ble_eq_true rfl) ⟨(Nat.le_of_ble_eq_true rfl), (Nat.le_of_ble_eq_true rfl)⟩ ⟨(Nat.le_of_ble_eq_true rfl), (Nat.le_of_ble_eq_true rfl)⟩ dX11_barter_8 rfl (fun r14 w15 h13 => ?_)
  obtain ⟨hW16, zb17, x18⟩ := h13
  refine x_ws hW16 ?_
  refine x_if_eq C (tgt := 66) dX11_barter_11 (by decide) rfl (fun c19 => ?_) (fun c19 => ?_)
  · skip
    refine x_iconst C (v := (-1)) dX11_barter_66 (by decide) rfl ?_
    exact x_zret C hr hlk rfl dX11_barter_67 ⟨hW, kp0⟩
  · skip
    obtain ⟨j20, hl21, hh22, ej23⟩ := w_nat (a := 0) (b := 7) (by decide) (by decide) (x18 c19)
    subst ej23
    refine x_aload_n C dX11_barter_14 rfl 0 rfl rfl ?_
    refine x_get C (ci := 10) (k := 2) 0 k1 rfl in_X11 (by decide) w_387 rfl dX11_barter_15 rfl ?_
    refine x_get C (ci := 8) (k := 3) 5 k3 rfl in_X9 (by decide) w_204 rfl dX11_barter_18 rfl ?_
    refine x_iload_n C dX11_barter_21 rfl 2 rfl rfl ?_
    refine x_vi C (As := [.int p1]) (rest := []) (c_People_isTold E l a ws hW 5 (Or.inl rfl) p1) mf_X5_isTold w_465 9 k11 rfl rfl rfl (Nat.le_of_ble_eq_true rfl) ⟨(Nat.le_of_ble_eq_true rfl), (Nat.le_of_ble_eq_true rfl)⟩ ⟨(Nat.le_of_ble_eq_true rfl), (Nat.le_of_ble_eq_true rfl)⟩ dX11_barter_22 rfl (fun r25 w26 h24 => ?_)
    obtain ⟨hW27, zb28, x29⟩ := h24
    refine x_ws hW27 ?_
    refine x_if_eq C (tgt := 66) dX11_barter_25 (by decide) rfl (fun c30 => ?_) (fun c30 => ?_)
    · skip
      refine x_iconst C (v := (-1)) dX11_barter_66 (by decide) rfl ?_
      exact x_zret C hr hlk rfl dX11_barter_67 ⟨hW, kp0⟩
    · skip
      obtain ⟨j31, hl32, hh33, ej34⟩ := w_nat (a := 0) (b := 7) (by decide) (by decide) (x29 c30)
      subst ej34
      refine x_iload_n C dX11_barter_28 rfl 1 rfl rfl ?_
      refine x_iload_n C dX11_barter_29 rfl 2 rfl rfl ?_
      refine x_icmp_eq C (tgt := 66) dX11_barter_30 (by decide) rfl (fun c35 => ?_) (fun c35 => ?_)
      · skip
        have nf36 : j20 = j31 := (nI_eq (by omega) (by omega)).mp c35
        refine x_iconst C (v := (-1)) dX11_barter_66 (by decide) rfl ?_
        exact x_zret C hr hlk rfl dX11_barter_67 ⟨hW, kp0⟩
      · skip
        have nf37 : ¬ j20 = j31 := fun q => c35 (congrArg nI q)
        refine x_iload_n C dX11_barter_33 rfl 3 rfl rfl ?_
        refine x_iconst C (v := 0) dX11_barter_34 (by decide) rfl ?_
        refine x_sipush C (v := 9999) dX11_barter_35 (by decide) rfl ?_
        refine x_si C (As := [.int p2, .int 0, .int 9999]) (rest := []) (c_isWithin E l a ws hW p2 (0 : Int32) (9999 : Int32)) mf_X11_isWithin w_462 rfl rfl (Nat.le_of_ble_eq_true rfl) ⟨(Nat.le_of_ble_eq_true rfl), (Nat.le_of_ble_eq_true rfl)⟩ ⟨(Nat.le_of_ble_eq_true rfl), (Nat.le_of_ble_eq_true rfl)⟩ dX11_barter_38 rfl (fun r39 w40 h38 => ?_)
        obtain ⟨hW41, zb42, x43⟩ := h38
        refine x_ws hW41 ?_
        refine x_if_eq C (tgt := 66) dX11_barter_41 (by decide) rfl (fun c44 => ?_) (fun c44 => ?_)
        · skip
          refine x_iconst C (v := (-1)) dX11_barter_66 (by decide) rfl ?_
          exact x_zret C hr hlk rfl dX11_barter_67 ⟨hW, kp0⟩
        · skip
          obtain ⟨j45, hl46, hh47, ej48⟩ := w_nat (a := 0) (b := 9999) (by decide) (by decide) (x43 c44)
          subst ej48
          refine x_iload C dX11_barter_44 4 rfl rfl ?_
          refine x_iconst C (v := 0) dX11_barter_46 (by decide) rfl ?_
          refine x_sipush C (v := 9999) dX11_barter_47 (by decide) rfl ?_
          refine x_si C (As := [.int p3, .int 0, .int 9999]) (rest := []) (c_isWithin E l a ws hW p3 (0 : Int32) (9999 : Int32)) mf_X11_isWithin w_462 rfl rfl (Nat.le_of_ble_eq_true rfl) ⟨(Nat.le_of_ble_eq_true rfl), (Nat.le_of_ble_eq_true rfl)⟩ ⟨(Nat.le_of_ble_eq_true rfl), (Nat.le_of_ble_eq_true rfl)⟩ dX11_barter_50 rfl (fun r50 w51 h49 => ?_)
          obtain ⟨hW52, zb53, x54⟩ := h49
          refine x_ws hW52 ?_
          refine x_if_eq C (tgt := 66) dX11_barter_53 (by decide) rfl (fun c55 => ?_) (fun c55 => ?_)
          · skip
            refine x_iconst C (v := (-1)) dX11_barter_66 (by decide) rfl ?_
            exact x_zret C hr hlk rfl dX11_barter_67 ⟨hW, kp0⟩
          · skip
            obtain ⟨j56, hl57, hh58, ej59⟩ := w_nat (a := 0) (b := 9999) (by decide) (by decide) (x54 c55)
            subst ej59
            refine x_iload C dX11_barter_56 5 rfl rfl ?_
            refine x_iconst C (v := 0) dX11_barter_58 (by decide) rfl ?_
            refine x_iconst C (v := 2) dX11_barter_59 (by decide) rfl ?_
            refine x_si C (As := [.int p4, .int 0, .int 2]) (rest := []) (c_isWithin E l a ws hW p4 (0 : Int32) (2 : Int32)) mf_X11_isWithin w_462 rfl rfl (Nat.le_of_ble_eq_true rfl) ⟨(Nat.le_of_ble_eq_true rfl), (Nat.le_of_ble_eq_true rfl)⟩ ⟨(Nat.le_of_ble_eq_true rfl), (Nat.le_of_ble_eq_true rfl)⟩ dX11_barter_60 rfl (fun r61 w62 h60 => ?_)
            obtain ⟨hW63, zb64, x65⟩ := h60
            refine x_ws hW63 ?_
            refine x_if_ne C (tgt := 68) dX11_barter_63 (by decide) rfl (fun c66 => ?_) (fun c66 => ?_)
            · skip
              obtain ⟨j67, hl68, hh69, ej70⟩ := w_nat (a := 0) (b := 2) (by decide) (by decide) (x65 c66)
              subst ej70
              refine x_aload_n C dX11_barter_68 rfl 0 rfl rfl ?_
              refine x_get C (ci := 10) (k := 2) 0 k1 rfl in_X11 (by decide) w_387 rfl dX11_barter_69 rfl ?_
              refine x_get C (ci := 8) (k := 4) 5 k3 rfl in_X9 (by decide) w_209 rfl dX11_barter_72 rfl ?_
              refine x_iload_n C dX11_barter_75 rfl 1 rfl rfl ?_
              obtain ⟨_, k71, n72, bn73, rfl⟩ := hW 14 _ rfl
              refine x_vi C (As := [.int (nI j20)]) (rest := []) (c_Eggs_minutesOf E l a ws hW 5 (Or.inl rfl) ((nI j20))) mf_X1_minutesOf w_880 14 k71 rfl rfl rfl (Nat.le_of_ble_eq_true rfl) ⟨(Nat.le_of_ble_eq_true rfl), (Nat.le_of_ble_eq_true rfl)⟩ ⟨(Nat.le_of_ble_eq_true rfl), (Nat.le_of_ble_eq_true rfl)⟩ dX11_barter_76 rfl (fun r75 w76 h74 => ?_)
              have hW77 := h74
              refine x_ws hW77 ?_
              refine x_iload_n C dX11_barter_79 rfl 3 rfl rfl ?_
              refine x_isub C (v := (r75 - (nI j45))) dX11_barter_80 rfl rfl ?_
              refine x_any (fun v78 => ?_)
              refine x_istore C (lv' := [(6, .int v78), (0, .ref (a 0)), (1, .int (nI j20)), (2, .int (nI j31)), (3, .int (nI j45)), (4, .int (nI j56)), (5, .int (nI j67))]) dX11_barter_81 (by decide) rfl rfl ?_
              refine x_aload_n C dX11_barter_83 rfl 1 rfl rfl ?_
              refine x_get C (ci := 10) (k := 2) 0 k1 rfl in_X11 (by decide) w_387 rfl dX11_barter_84 rfl ?_
              refine x_get C (ci := 8) (k := 4) 5 k3 rfl in_X9 (by decide) w_209 rfl dX11_barter_87 rfl ?_
              refine x_iload_n C dX11_barter_90 rfl 3 rfl rfl ?_
              refine x_vi C (As := [.int (nI j31)]) (rest := []) (c_Eggs_minutesOf E l a ws hW 5 (Or.inl rfl) ((nI j31))) mf_X1_minutesOf w_880 14 k71 rfl rfl rfl (Nat.le_of_ble_eq_true rfl) ⟨(Nat.le_of_ble_eq_true rfl), (Nat.le_of_ble_eq_true rfl)⟩ ⟨(Nat.le_of_ble_eq_true rfl), (Nat.le_of_ble_eq_true rfl)⟩ dX11_barter_91 rfl (fun r80 w81 h79 => ?_)
              have hW82 := h79
              refine x_ws hW82 ?_
              refine x_iload C dX11_barter_94 5 rfl rfl ?_
              refine x_isub C (v := (r80 - (nI j56))) dX11_barter_96 rfl rfl ?_
              refine x_any (fun v83 => ?_)
              refine x_istore C (lv' := [(7, .int v83), (6, .int v78), (0, .ref (a 0)), (1, .int (nI j20)), (2, .int (nI j31)), (3, .int (nI j45)), (4, .int (nI j56)), (5, .int (nI j67))]) dX11_barter_97 (by decide) rfl rfl ?_
              refine x_iconst C (v := 0) dX11_barter_99 (by decide) rfl ?_
              refine x_istore C (lv' := [(8, .int 0), (7, .int v83), (6, .int v78), (0, .ref (a 0)), (1, .int (nI j20)), (2, .int (nI j31)), (3, .int (nI j45)), (4, .int (nI j56)), (5, .int (nI j67))]) dX11_barter_100 (by decide) rfl rfl ?_
              refine x_bipush C (v := (-2)) dX11_barter_102 (by decide) rfl ?_
              refine x_istore C (lv' := [(9, .int (-2)), (8, .int 0), (7, .int v83), (6, .int v78), (0, .ref (a 0)), (1, .int (nI j20)), (2, .int (nI j31)), (3, .int (nI j45)), (4, .int (nI j56)), (5, .int (nI j67))]) dX11_barter_104 (by decide) rfl rfl ?_
              refine x_aload_n C dX11_barter_106 rfl 4 rfl rfl ?_
              refine x_get C (ci := 10) (k := 2) 0 k1 rfl in_X11 (by decide) w_387 rfl dX11_barter_107 rfl ?_
              refine x_get C (ci := 8) (k := 4) 5 k3 rfl in_X9 (by decide) w_209 rfl dX11_barter_110 rfl ?_
              refine x_get C (ci := 1) (k := 0) 14 k71 rfl in_X1 (by decide) w_122 rfl dX11_barter_113 rfl ?_
              refine x_iconst C (v := 1) dX11_barter_116 (by decide) rfl ?_
              by_cases hz84 : n72 = 0
              · refine x_isub C (v := -1) dX11_barter_117 (by rw [hz84]; decide) rfl ?_
                refine x_istore C (lv' := [(10, .int (-1)), (9, .int (-2)), (8, .int 0), (7, .int v83), (6, .int v78), (0, .ref (a 0)), (1, .int (nI j20)), (2, .int (nI j31)), (3, .int (nI j45)), (4, .int (nI j56)), (5, .int (nI j67))]) dX11_barter_118 (by decide) rfl rfl ?_
                refine x_iload C dX11_barter_120 0 rfl rfl ?_
                refine x_if_lt C (tgt := 256) dX11_barter_122 (by decide) rfl (fun _ => ?_) (fun h => absurd h (by decide))
                refine x_iload C dX11_barter_256 10 rfl rfl ?_
                refine x_if_ne C (tgt := 266) dX11_barter_258 (by decide) rfl (fun c85 => ?_) (fun c85 => ?_)
                · skip
                  have nf86 : ¬ j67 = 0 := fun q => c85 (congrArg nI q)
                  refine x_iload C dX11_barter_266 1 rfl rfl ?_
                  exact x_zret C hr hlk rfl dX11_barter_268 ⟨hW, kp0⟩
                · skip
                  have nf87 : j67 = 0 := (nI_eq (by omega) (by omega)).mp c85
                  refine x_iload C dX11_barter_261 2 rfl rfl ?_
                  refine x_goto C (tgt := 268) dX11_barter_263 (by decide) ?_
                  exact x_zret C hr hlk rfl dX11_barter_268 ⟨hW, kp0⟩
              · refine x_isub C (v := nI (n72 - 1)) dX11_barter_117 (pk_sub (a := n72) (b := 1) (by omega)) rfl ?_
                refine x_istore C (lv' := [(10, .int (nI (n72 - 1))), (9, .int (-2)), (8, .int 0), (7, .int v83), (6, .int v78), (0, .ref (a 0)), (1, .int (nI j20)), (2, .int (nI j31)), (3, .int (nI j45)), (4, .int (nI j56)), (5, .int (nI j67))]) dX11_barter_118 (by decide) rfl rfl ?_
                have loop120 : ∀ (fu120 : Nat) (z120_8 : Int32) (z120_9 : Int32) (x : Nat), True → x < fu120 → x ≤ 47 → X E p l e (xRm 8 0 0) s m ([.ref (a 0), .int (nI j20), .int (nI j31), .int (nI j45), .int (nI j56), .int (nI j67)] : List Value).toArray below meth c A 13 0 0 (MQ below (va_Qi (fun r w => WX (okX E a) w ∧ keeps ws w (fun q => ¬ (q = 0 ∨ q = 6 ∨ q = 9 ∨ q = 28 ∨ q = 31))) (xB E A) A) ([.ref (a 0), .int (nI j20), .int (nI j31), .int (nI j45), .int (nI j56), .int (nI j67)] : List Value).toArray s 0 0 A) ws 120 [(0, .ref (a 0)), (1, .int (nI j20)), (2, .int (nI j31)), (3, .int (nI j45)), (4, .int (nI j56)), (5, .int (nI j67)), (6, .int v78), (7, .int v83), (8, .int z120_8), (9, .int z120_9), (10, .int (nI x))] [] := by
                  intro fu120
                  induction fu120 with
                  | zero => intro z120_8 z120_9 x _ q; omega
                  | succ fu120 ih120 =>
                    intro z120_8 z120_9 x _ me120 iv120_0
                    refine x_iload C dX11_barter_120 10 rfl rfl ?_
                    refine x_if_lt C (tgt := 256) dX11_barter_122 (by decide) rfl (fun c88 => ?_) (fun c88 => ?_)
                    · skip
                      have nf89 := nI_lt' (a := x) (b := 0) c88 (by omega) (by omega)
                      refine x_iload C dX11_barter_256 5 rfl rfl ?_
                      refine x_if_ne C (tgt := 266) dX11_barter_258 (by decide) rfl (fun c90 => ?_) (fun c90 => ?_)
                      · skip
                        have nf91 : ¬ j67 = 0 := fun q => c90 (congrArg nI q)
                        refine x_iload C dX11_barter_266 9 rfl rfl ?_
                        exact x_zret C hr hlk rfl dX11_barter_268 ⟨hW, kp0⟩
                      · skip
                        have nf92 : j67 = 0 := (nI_eq (by omega) (by omega)).mp c90
                        refine x_iload C dX11_barter_261 8 rfl rfl ?_
                        refine x_goto C (tgt := 268) dX11_barter_263 (by decide) ?_
                        exact x_zret C hr hlk rfl dX11_barter_268 ⟨hW, kp0⟩
                    · skip
                      have nf93 := nI_nlt' (a := x) (b := 0) c88 (by omega) (by omega)
                      refine x_aload_n C dX11_barter_125 rfl 0 rfl rfl ?_
                      refine x_get C (ci := 10) (k := 2) 0 k1 rfl in_X11 (by decide) w_387 rfl dX11_barter_126 rfl ?_
                      refine x_get C (ci := 8) (k := 4) 5 k3 rfl in_X9 (by decide) w_209 rfl dX11_barter_129 rfl ?_
                      refine x_get C (ci := 1) (k := 0) 14 k71 rfl in_X1 (by decide) w_122 rfl dX11_barter_132 rfl ?_
                      refine x_iconst C (v := 1) dX11_barter_135 (by decide) rfl ?_
                      by_cases hz94 : n72 = 0
                      · refine x_isub C (v := -1) dX11_barter_136 (by rw [hz94]; decide) rfl ?_
                        refine x_istore C (lv' := [(11, .int (-1)), (0, .ref (a 0)), (1, .int (nI j20)), (2, .int (nI j31)), (3, .int (nI j45)), (4, .int (nI j56)), (5, .int (nI j67)), (6, .int v78), (7, .int v83), (8, .int z120_8), (9, .int z120_9), (10, .int (nI x))]) dX11_barter_137 (by decide) rfl rfl ?_
                        refine x_iload C dX11_barter_139 0 rfl rfl ?_
                        refine x_if_lt C (tgt := 250) dX11_barter_141 (by decide) rfl (fun _ => ?_) (fun h => absurd h (by decide))
                        by_cases hz95 : x = 0
                        · refine x_iinc C (v := -1) (lv' := [(10, .int (-1)), (11, .int (-1)), (0, .ref (a 0)), (1, .int (nI j20)), (2, .int (nI j31)), (3, .int (nI j45)), (4, .int (nI j56)), (5, .int (nI j67)), (6, .int v78), (7, .int v83), (8, .int z120_8), (9, .int z120_9)]) dX11_barter_250 11 rfl (by rw [hz95]; decide) (by decide) rfl rfl ?_
                          refine x_goto C (tgt := 120) dX11_barter_253 (by decide) ?_
                          refine x_iload C dX11_barter_120 0 rfl rfl ?_
                          refine x_if_lt C (tgt := 256) dX11_barter_122 (by decide) rfl (fun _ => ?_) (fun h => absurd h (by decide))
                          refine x_iload C dX11_barter_256 7 rfl rfl ?_
                          refine x_if_ne C (tgt := 266) dX11_barter_258 (by decide) rfl (fun c96 => ?_) (fun c96 => ?_)
                          · skip
                            have nf97 : ¬ j67 = 0 := fun q => c96 (congrArg nI q)
                            refine x_iload C dX11_barter_266 11 rfl rfl ?_
                            exact x_zret C hr hlk rfl dX11_barter_268 ⟨hW, kp0⟩
                          · skip
                            have nf98 : j67 = 0 := (nI_eq (by omega) (by omega)).mp c96
                            refine x_iload C dX11_barter_261 10 rfl rfl ?_
                            refine x_goto C (tgt := 268) dX11_barter_263 (by decide) ?_
                            exact x_zret C hr hlk rfl dX11_barter_268 ⟨hW, kp0⟩
                        · refine x_iinc C (v := nI (x - 1)) (lv' := [(10, .int (nI (x - 1))), (11, .int (-1)), (0, .ref (a 0)), (1, .int (nI j20)), (2, .int (nI j31)), (3, .int (nI j45)), (4, .int (nI j56)), (5, .int (nI j67)), (6, .int v78), (7, .int v83), (8, .int z120_8), (9, .int z120_9)]) dX11_barter_250 11 rfl (dec_n (by omega)) (by decide) rfl rfl ?_
                          refine x_goto C (tgt := 120) dX11_barter_253 (by decide) ?_
                          refine x_lv (lv1 := [(0, .ref (a 0)), (1, .int (nI j20)), (2, .int (nI j31)), (3, .int (nI j45)), (4, .int (nI j56)), (5, .int (nI j67)), (6, .int v78), (7, .int v83), (8, .int z120_8), (9, .int z120_9), (10, .int (nI (x - 1)))]) [2, 3, 4, 5, 6, 7, 8, 9, 10, 11, 0] rfl ?_
                          exact ih120 z120_8 z120_9 (x - 1) trivial (by omega) (by omega)
                      · refine x_isub C (v := nI (n72 - 1)) dX11_barter_136 (pk_sub (a := n72) (b := 1) (by omega)) rfl ?_
                        refine x_istore C (lv' := [(11, .int (nI (n72 - 1))), (0, .ref (a 0)), (1, .int (nI j20)), (2, .int (nI j31)), (3, .int (nI j45)), (4, .int (nI j56)), (5, .int (nI j67)), (6, .int v78), (7, .int v83), (8, .int z120_8), (9, .int z120_9), (10, .int (nI x))]) dX11_barter_137 (by decide) rfl rfl ?_
                        have loop139 : ∀ (fu139 : Nat) (z139_8 : Int32) (z139_9 : Int32) (y : Nat), True → y < fu139 → y ≤ 47 → X E p l e (xRm 8 0 0) s m ([.ref (a 0), .int (nI j20), .int (nI j31), .int (nI j45), .int (nI j56), .int (nI j67)] : List Value).toArray below meth c A 13 0 0 (MQ below (va_Qi (fun r w => WX (okX E a) w ∧ keeps ws w (fun q => ¬ (q = 0 ∨ q = 6 ∨ q = 9 ∨ q = 28 ∨ q = 31))) (xB E A) A) ([.ref (a 0), .int (nI j20), .int (nI j31), .int (nI j45), .int (nI j56), .int (nI j67)] : List Value).toArray s 0 0 A) ws 139 [(0, .ref (a 0)), (1, .int (nI j20)), (2, .int (nI j31)), (3, .int (nI j45)), (4, .int (nI j56)), (5, .int (nI j67)), (6, .int v78), (7, .int v83), (8, .int z139_8), (9, .int z139_9), (10, .int (nI x)), (11, .int (nI y))] [] := by
                          intro fu139
                          induction fu139 with
                          | zero => intro z139_8 z139_9 y _ q; omega
                          | succ fu139 ih139 =>
                            intro z139_8 z139_9 y _ me139 iv139_0
                            refine x_iload C dX11_barter_139 11 rfl rfl ?_
                            refine x_if_lt C (tgt := 250) dX11_barter_141 (by decide) rfl (fun c99 => ?_) (fun c99 => ?_)
                            · skip
                              have nf100 := nI_lt' (a := y) (b := 0) c99 (by omega) (by omega)
                              by_cases hz101 : x = 0
                              · refine x_iinc C (v := -1) (lv' := [(10, .int (-1)), (0, .ref (a 0)), (1, .int (nI j20)), (2, .int (nI j31)), (3, .int (nI j45)), (4, .int (nI j56)), (5, .int (nI j67)), (6, .int v78), (7, .int v83), (8, .int z139_8), (9, .int z139_9), (11, .int (nI y))]) dX11_barter_250 10 rfl (by rw [hz101]; decide) (by decide) rfl rfl ?_
                                refine x_goto C (tgt := 120) dX11_barter_253 (by decide) ?_
                                refine x_iload C dX11_barter_120 0 rfl rfl ?_
                                refine x_if_lt C (tgt := 256) dX11_barter_122 (by decide) rfl (fun _ => ?_) (fun h => absurd h (by decide))
                                refine x_iload C dX11_barter_256 6 rfl rfl ?_
                                refine x_if_ne C (tgt := 266) dX11_barter_258 (by decide) rfl (fun c102 => ?_) (fun c102 => ?_)
                                · skip
                                  have nf103 : ¬ j67 = 0 := fun q => c102 (congrArg nI q)
                                  refine x_iload C dX11_barter_266 10 rfl rfl ?_
                                  exact x_zret C hr hlk rfl dX11_barter_268 ⟨hW, kp0⟩
                                · skip
                                  have nf104 : j67 = 0 := (nI_eq (by omega) (by omega)).mp c102
                                  refine x_iload C dX11_barter_261 9 rfl rfl ?_
                                  refine x_goto C (tgt := 268) dX11_barter_263 (by decide) ?_
                                  exact x_zret C hr hlk rfl dX11_barter_268 ⟨hW, kp0⟩
                              · refine x_iinc C (v := nI (x - 1)) (lv' := [(10, .int (nI (x - 1))), (0, .ref (a 0)), (1, .int (nI j20)), (2, .int (nI j31)), (3, .int (nI j45)), (4, .int (nI j56)), (5, .int (nI j67)), (6, .int v78), (7, .int v83), (8, .int z139_8), (9, .int z139_9), (11, .int (nI y))]) dX11_barter_250 10 rfl (dec_n (by omega)) (by decide) rfl rfl ?_
                                refine x_goto C (tgt := 120) dX11_barter_253 (by decide) ?_
                                refine x_lv (lv1 := [(0, .ref (a 0)), (1, .int (nI j20)), (2, .int (nI j31)), (3, .int (nI j45)), (4, .int (nI j56)), (5, .int (nI j67)), (6, .int v78), (7, .int v83), (8, .int z139_8), (9, .int z139_9), (10, .int (nI (x - 1)))]) [1, 2, 3, 4, 5, 6, 7, 8, 9, 10, 0] rfl ?_
                                exact ih120 z139_8 z139_9 (x - 1) trivial (by omega) (by omega)
                            · skip
                              have nf105 := nI_nlt' (a := y) (b := 0) c99 (by omega) (by omega)
                              refine x_aload_n C dX11_barter_144 rfl 0 rfl rfl ?_
                              refine x_get C (ci := 10) (k := 2) 0 k1 rfl in_X11 (by decide) w_387 rfl dX11_barter_145 rfl ?_
                              refine x_get C (ci := 8) (k := 4) 5 k3 rfl in_X9 (by decide) w_209 rfl dX11_barter_148 rfl ?_
                              refine x_iload C dX11_barter_151 10 rfl rfl ?_
                              refine x_iload_n C dX11_barter_153 rfl 1 rfl rfl ?_
                              refine x_vi C (As := [.int (nI x), .int (nI j20)]) (rest := []) (c_Eggs_isWholeOf E l a ws hW 5 (Or.inl rfl) ((nI x)) ((nI j20))) mf_X1_isWholeOf w_1074 14 k71 rfl rfl rfl (Nat.le_of_ble_eq_true rfl) ⟨(Nat.le_of_ble_eq_true rfl), (Nat.le_of_ble_eq_true rfl)⟩ ⟨(Nat.le_of_ble_eq_true rfl), (Nat.le_of_ble_eq_true rfl)⟩ dX11_barter_154 rfl (fun r107 w108 h106 => ?_)
                              obtain ⟨hW109, zb110, x111⟩ := h106
                              refine x_ws hW109 ?_
                              refine x_if_eq C (tgt := 250) dX11_barter_157 (by decide) rfl (fun c112 => ?_) (fun c112 => ?_)
                              · skip
                                by_cases hz113 : x = 0
                                · refine x_iinc C (v := -1) (lv' := [(10, .int (-1)), (0, .ref (a 0)), (1, .int (nI j20)), (2, .int (nI j31)), (3, .int (nI j45)), (4, .int (nI j56)), (5, .int (nI j67)), (6, .int v78), (7, .int v83), (8, .int z139_8), (9, .int z139_9), (11, .int (nI y))]) dX11_barter_250 10 rfl (by rw [hz113]; decide) (by decide) rfl rfl ?_
                                  refine x_goto C (tgt := 120) dX11_barter_253 (by decide) ?_
                                  refine x_iload C dX11_barter_120 0 rfl rfl ?_
                                  refine x_if_lt C (tgt := 256) dX11_barter_122 (by decide) rfl (fun _ => ?_) (fun h => absurd h (by decide))
                                  refine x_iload C dX11_barter_256 6 rfl rfl ?_
                                  refine x_if_ne C (tgt := 266) dX11_barter_258 (by decide) rfl (fun c114 => ?_) (fun c114 => ?_)
                                  · skip
                                    have nf115 : ¬ j67 = 0 := fun q => c114 (congrArg nI q)
                                    refine x_iload C dX11_barter_266 10 rfl rfl ?_
                                    exact x_zret C hr hlk rfl dX11_barter_268 ⟨hW, kp0⟩
                                  · skip
                                    have nf116 : j67 = 0 := (nI_eq (by omega) (by omega)).mp c114
                                    refine x_iload C dX11_barter_261 9 rfl rfl ?_
                                    refine x_goto C (tgt := 268) dX11_barter_263 (by decide) ?_
                                    exact x_zret C hr hlk rfl dX11_barter_268 ⟨hW, kp0⟩
                                · refine x_iinc C (v := nI (x - 1)) (lv' := [(10, .int (nI (x - 1))), (0, .ref (a 0)), (1, .int (nI j20)), (2, .int (nI j31)), (3, .int (nI j45)), (4, .int (nI j56)), (5, .int (nI j67)), (6, .int v78), (7, .int v83), (8, .int z139_8), (9, .int z139_9), (11, .int (nI y))]) dX11_barter_250 10 rfl (dec_n (by omega)) (by decide) rfl rfl ?_
                                  refine x_goto C (tgt := 120) dX11_barter_253 (by decide) ?_
                                  refine x_lv (lv1 := [(0, .ref (a 0)), (1, .int (nI j20)), (2, .int (nI j31)), (3, .int (nI j45)), (4, .int (nI j56)), (5, .int (nI j67)), (6, .int v78), (7, .int v83), (8, .int z139_8), (9, .int z139_9), (10, .int (nI (x - 1)))]) [1, 2, 3, 4, 5, 6, 7, 8, 9, 10, 0] rfl ?_
                                  exact ih120 z139_8 z139_9 (x - 1) trivial (by omega) (by omega)
                              · skip
                                have wi117 := wth_le (a := 0) (b := 47) (j := x) (x111 c112) (by omega) (by decide) (by decide)
                                refine x_aload_n C dX11_barter_160 rfl 0 rfl rfl ?_
                                refine x_get C (ci := 10) (k := 2) 0 k1 rfl in_X11 (by decide) w_387 rfl dX11_barter_161 rfl ?_
                                refine x_get C (ci := 8) (k := 4) 5 k3 rfl in_X9 (by decide) w_209 rfl dX11_barter_164 rfl ?_
                                refine x_get C (ci := 1) (k := 1) 14 k71 rfl in_X1 (by decide) w_126 rfl dX11_barter_167 rfl ?_
                                refine x_iload C dX11_barter_170 11 rfl rfl ?_
                                obtain ⟨_, k118, f119, rfl⟩ := hW 15 _ rfl
                                refine x_iald C (v := (f119 (nI y).toNatClampNeg)) 15 k118 (vp_in_nI (by omega) (by decide)) rfl dX11_barter_172 rfl ?_
                                refine x_any (fun v120 => ?_)
                                refine x_aload_n C dX11_barter_173 rfl 0 rfl rfl ?_
                                refine x_get C (ci := 10) (k := 2) 0 k1 rfl in_X11 (by decide) w_387 rfl dX11_barter_174 rfl ?_
                                refine x_get C (ci := 8) (k := 4) 5 k3 rfl in_X9 (by decide) w_209 rfl dX11_barter_177 rfl ?_
                                refine x_get C (ci := 1) (k := 1) 14 k71 rfl in_X1 (by decide) w_126 rfl dX11_barter_180 rfl ?_
                                refine x_iload C dX11_barter_183 10 rfl rfl ?_
                                refine x_iald C (v := (f119 (nI x).toNatClampNeg)) 15 k118 (vp_in_nI (by omega) (by decide)) rfl dX11_barter_185 rfl ?_
                                refine x_any (fun v121 => ?_)
                                refine x_isub C (v := (v120 - v121)) dX11_barter_186 rfl rfl ?_
                                refine x_any (fun v122 => ?_)
                                refine x_istore C (lv' := [(12, .int v122), (0, .ref (a 0)), (1, .int (nI j20)), (2, .int (nI j31)), (3, .int (nI j45)), (4, .int (nI j56)), (5, .int (nI j67)), (6, .int v78), (7, .int v83), (8, .int z139_8), (9, .int z139_9), (10, .int (nI x)), (11, .int (nI y))]) dX11_barter_187 (by decide) rfl rfl ?_
                                refine x_aload_n C dX11_barter_189 rfl 1 rfl rfl ?_
                                refine x_get C (ci := 10) (k := 2) 0 k1 rfl in_X11 (by decide) w_387 rfl dX11_barter_190 rfl ?_
                                refine x_get C (ci := 8) (k := 4) 5 k3 rfl in_X9 (by decide) w_209 rfl dX11_barter_193 rfl ?_
                                refine x_iload C dX11_barter_196 12 rfl rfl ?_
                                refine x_iload_n C dX11_barter_198 rfl 3 rfl rfl ?_
                                refine x_vi C (As := [.int (nI y), .int (nI j31)]) (rest := []) (c_Eggs_isWholeOf E l a ws hW 5 (Or.inl rfl) ((nI y)) ((nI j31))) mf_X1_isWholeOf w_1074 14 k71 rfl rfl rfl (Nat.le_of_ble_eq_true rfl) ⟨(Nat.le_of_ble_eq_true rfl), (Nat.le_of_ble_eq_true rfl)⟩ ⟨(Nat.le_of_ble_eq_true rfl), (Nat.le_of_ble_eq_true rfl)⟩ dX11_barter_199 rfl (fun r124 w125 h123 => ?_)
                                obtain ⟨hW126, zb127, x128⟩ := h123
                                refine x_ws hW126 ?_
                                refine x_if_eq C (tgt := 244) dX11_barter_202 (by decide) rfl (fun c129 => ?_) (fun c129 => ?_)
                                · skip
                                  by_cases hz130 : y = 0
                                  · refine x_iinc C (v := -1) (lv' := [(11, .int (-1)), (12, .int v122), (0, .ref (a 0)), (1, .int (nI j20)), (2, .int (nI j31)), (3, .int (nI j45)), (4, .int (nI j56)), (5, .int (nI j67)), (6, .int v78), (7, .int v83), (8, .int z139_8), (9, .int z139_9), (10, .int (nI x))]) dX11_barter_244 12 rfl (by rw [hz130]; decide) (by decide) rfl rfl ?_
                                    refine x_goto C (tgt := 139) dX11_barter_247 (by decide) ?_
                                    refine x_iload C dX11_barter_139 0 rfl rfl ?_
                                    refine x_if_lt C (tgt := 250) dX11_barter_141 (by decide) rfl (fun _ => ?_) (fun h => absurd h (by decide))
                                    by_cases hz131 : x = 0
                                    · refine x_iinc C (v := -1) (lv' := [(10, .int (-1)), (11, .int (-1)), (12, .int v122), (0, .ref (a 0)), (1, .int (nI j20)), (2, .int (nI j31)), (3, .int (nI j45)), (4, .int (nI j56)), (5, .int (nI j67)), (6, .int v78), (7, .int v83), (8, .int z139_8), (9, .int z139_9)]) dX11_barter_250 12 rfl (by rw [hz131]; decide) (by decide) rfl rfl ?_
                                      refine x_goto C (tgt := 120) dX11_barter_253 (by decide) ?_
                                      refine x_iload C dX11_barter_120 0 rfl rfl ?_
                                      refine x_if_lt C (tgt := 256) dX11_barter_122 (by decide) rfl (fun _ => ?_) (fun h => absurd h (by decide))
                                      refine x_iload C dX11_barter_256 8 rfl rfl ?_
                                      refine x_if_ne C (tgt := 266) dX11_barter_258 (by decide) rfl (fun c132 => ?_) (fun c132 => ?_)
                                      · skip
                                        have nf133 : ¬ j67 = 0 := fun q => c132 (congrArg nI q)
                                        refine x_iload C dX11_barter_266 12 rfl rfl ?_
                                        exact x_zret C hr hlk rfl dX11_barter_268 ⟨hW, kp0⟩
                                      · skip
                                        have nf134 : j67 = 0 := (nI_eq (by omega) (by omega)).mp c132
                                        refine x_iload C dX11_barter_261 11 rfl rfl ?_
                                        refine x_goto C (tgt := 268) dX11_barter_263 (by decide) ?_
                                        exact x_zret C hr hlk rfl dX11_barter_268 ⟨hW, kp0⟩
                                    · refine x_iinc C (v := nI (x - 1)) (lv' := [(10, .int (nI (x - 1))), (11, .int (-1)), (12, .int v122), (0, .ref (a 0)), (1, .int (nI j20)), (2, .int (nI j31)), (3, .int (nI j45)), (4, .int (nI j56)), (5, .int (nI j67)), (6, .int v78), (7, .int v83), (8, .int z139_8), (9, .int z139_9)]) dX11_barter_250 12 rfl (dec_n (by omega)) (by decide) rfl rfl ?_
                                      refine x_goto C (tgt := 120) dX11_barter_253 (by decide) ?_
                                      refine x_lv (lv1 := [(0, .ref (a 0)), (1, .int (nI j20)), (2, .int (nI j31)), (3, .int (nI j45)), (4, .int (nI j56)), (5, .int (nI j67)), (6, .int v78), (7, .int v83), (8, .int z139_8), (9, .int z139_9), (10, .int (nI (x - 1)))]) [3, 4, 5, 6, 7, 8, 9, 10, 11, 12, 0] rfl ?_
                                      exact ih120 z139_8 z139_9 (x - 1) trivial (by omega) (by omega)
                                  · refine x_iinc C (v := nI (y - 1)) (lv' := [(11, .int (nI (y - 1))), (12, .int v122), (0, .ref (a 0)), (1, .int (nI j20)), (2, .int (nI j31)), (3, .int (nI j45)), (4, .int (nI j56)), (5, .int (nI j67)), (6, .int v78), (7, .int v83), (8, .int z139_8), (9, .int z139_9), (10, .int (nI x))]) dX11_barter_244 12 rfl (dec_n (by omega)) (by decide) rfl rfl ?_
                                    refine x_goto C (tgt := 139) dX11_barter_247 (by decide) ?_
                                    refine x_lv (lv1 := [(0, .ref (a 0)), (1, .int (nI j20)), (2, .int (nI j31)), (3, .int (nI j45)), (4, .int (nI j56)), (5, .int (nI j67)), (6, .int v78), (7, .int v83), (8, .int z139_8), (9, .int z139_9), (10, .int (nI x)), (11, .int (nI (y - 1)))]) [2, 3, 4, 5, 6, 7, 8, 9, 10, 11, 12, 0] rfl ?_
                                    exact ih139 z139_8 z139_9 (y - 1) trivial (by omega) (by omega)
                                · skip
                                  have wi135 := wth_le (a := 0) (b := 47) (j := y) (x128 c129) (by omega) (by decide) (by decide)
                                  refine x_iload C dX11_barter_205 7 rfl rfl ?_
                                  refine x_iload C dX11_barter_207 0 rfl rfl ?_
                                  refine x_si C (As := [.int v78, .int v122]) (rest := []) (c_isNearer E l a ws hW v78 v122) mf_X11_isNearer w_1075 rfl rfl (Nat.le_of_ble_eq_true rfl) ⟨(Nat.le_of_ble_eq_true rfl), (Nat.le_of_ble_eq_true rfl)⟩ ⟨(Nat.le_of_ble_eq_true rfl), (Nat.le_of_ble_eq_true rfl)⟩ dX11_barter_209 rfl (fun r137 w138 h136 => ?_)
                                  obtain ⟨hW139, zb140⟩ := h136
                                  refine x_ws hW139 ?_
                                  refine x_if_eq C (tgt := 244) dX11_barter_212 (by decide) rfl (fun c141 => ?_) (fun c141 => ?_)
                                  · skip
                                    by_cases hz142 : y = 0
                                    · refine x_iinc C (v := -1) (lv' := [(11, .int (-1)), (12, .int v122), (0, .ref (a 0)), (1, .int (nI j20)), (2, .int (nI j31)), (3, .int (nI j45)), (4, .int (nI j56)), (5, .int (nI j67)), (6, .int v78), (7, .int v83), (8, .int z139_8), (9, .int z139_9), (10, .int (nI x))]) dX11_barter_244 12 rfl (by rw [hz142]; decide) (by decide) rfl rfl ?_
                                      refine x_goto C (tgt := 139) dX11_barter_247 (by decide) ?_
                                      refine x_iload C dX11_barter_139 0 rfl rfl ?_
                                      refine x_if_lt C (tgt := 250) dX11_barter_141 (by decide) rfl (fun _ => ?_) (fun h => absurd h (by decide))
                                      by_cases hz143 : x = 0
                                      · refine x_iinc C (v := -1) (lv' := [(10, .int (-1)), (11, .int (-1)), (12, .int v122), (0, .ref (a 0)), (1, .int (nI j20)), (2, .int (nI j31)), (3, .int (nI j45)), (4, .int (nI j56)), (5, .int (nI j67)), (6, .int v78), (7, .int v83), (8, .int z139_8), (9, .int z139_9)]) dX11_barter_250 12 rfl (by rw [hz143]; decide) (by decide) rfl rfl ?_
                                        refine x_goto C (tgt := 120) dX11_barter_253 (by decide) ?_
                                        refine x_iload C dX11_barter_120 0 rfl rfl ?_
                                        refine x_if_lt C (tgt := 256) dX11_barter_122 (by decide) rfl (fun _ => ?_) (fun h => absurd h (by decide))
                                        refine x_iload C dX11_barter_256 8 rfl rfl ?_
                                        refine x_if_ne C (tgt := 266) dX11_barter_258 (by decide) rfl (fun c144 => ?_) (fun c144 => ?_)
                                        · skip
                                          have nf145 : ¬ j67 = 0 := fun q => c144 (congrArg nI q)
                                          refine x_iload C dX11_barter_266 12 rfl rfl ?_
                                          exact x_zret C hr hlk rfl dX11_barter_268 ⟨hW, kp0⟩
                                        · skip
                                          have nf146 : j67 = 0 := (nI_eq (by omega) (by omega)).mp c144
                                          refine x_iload C dX11_barter_261 11 rfl rfl ?_
                                          refine x_goto C (tgt := 268) dX11_barter_263 (by decide) ?_
                                          exact x_zret C hr hlk rfl dX11_barter_268 ⟨hW, kp0⟩
                                      · refine x_iinc C (v := nI (x - 1)) (lv' := [(10, .int (nI (x - 1))), (11, .int (-1)), (12, .int v122), (0, .ref (a 0)), (1, .int (nI j20)), (2, .int (nI j31)), (3, .int (nI j45)), (4, .int (nI j56)), (5, .int (nI j67)), (6, .int v78), (7, .int v83), (8, .int z139_8), (9, .int z139_9)]) dX11_barter_250 12 rfl (dec_n (by omega)) (by decide) rfl rfl ?_
                                        refine x_goto C (tgt := 120) dX11_barter_253 (by decide) ?_
                                        refine x_lv (lv1 := [(0, .ref (a 0)), (1, .int (nI j20)), (2, .int (nI j31)), (3, .int (nI j45)), (4, .int (nI j56)), (5, .int (nI j67)), (6, .int v78), (7, .int v83), (8, .int z139_8), (9, .int z139_9), (10, .int (nI (x - 1)))]) [3, 4, 5, 6, 7, 8, 9, 10, 11, 12, 0] rfl ?_
                                        exact ih120 z139_8 z139_9 (x - 1) trivial (by omega) (by omega)
                                    · refine x_iinc C (v := nI (y - 1)) (lv' := [(11, .int (nI (y - 1))), (12, .int v122), (0, .ref (a 0)), (1, .int (nI j20)), (2, .int (nI j31)), (3, .int (nI j45)), (4, .int (nI j56)), (5, .int (nI j67)), (6, .int v78), (7, .int v83), (8, .int z139_8), (9, .int z139_9), (10, .int (nI x))]) dX11_barter_244 12 rfl (dec_n (by omega)) (by decide) rfl rfl ?_
                                      refine x_goto C (tgt := 139) dX11_barter_247 (by decide) ?_
                                      refine x_lv (lv1 := [(0, .ref (a 0)), (1, .int (nI j20)), (2, .int (nI j31)), (3, .int (nI j45)), (4, .int (nI j56)), (5, .int (nI j67)), (6, .int v78), (7, .int v83), (8, .int z139_8), (9, .int z139_9), (10, .int (nI x)), (11, .int (nI (y - 1)))]) [2, 3, 4, 5, 6, 7, 8, 9, 10, 11, 12, 0] rfl ?_
                                      exact ih139 z139_8 z139_9 (y - 1) trivial (by omega) (by omega)
                                  · skip
                                    refine x_iload C dX11_barter_215 8 rfl rfl ?_
                                    refine x_iload C dX11_barter_217 0 rfl rfl ?_
                                    refine x_ineg C dX11_barter_219 rfl rfl ?_
                                    refine x_any (fun v147 => ?_)
                                    refine x_si C (As := [.int v83, .int v147]) (rest := []) (c_isNearer E l a ws hW v83 v147) mf_X11_isNearer w_1075 rfl rfl (Nat.le_of_ble_eq_true rfl) ⟨(Nat.le_of_ble_eq_true rfl), (Nat.le_of_ble_eq_true rfl)⟩ ⟨(Nat.le_of_ble_eq_true rfl), (Nat.le_of_ble_eq_true rfl)⟩ dX11_barter_220 rfl (fun r149 w150 h148 => ?_)
                                    obtain ⟨hW151, zb152⟩ := h148
                                    refine x_ws hW151 ?_
                                    refine x_if_eq C (tgt := 244) dX11_barter_223 (by decide) rfl (fun c153 => ?_) (fun c153 => ?_)
                                    · skip
                                      by_cases hz154 : y = 0
                                      · refine x_iinc C (v := -1) (lv' := [(11, .int (-1)), (12, .int v122), (0, .ref (a 0)), (1, .int (nI j20)), (2, .int (nI j31)), (3, .int (nI j45)), (4, .int (nI j56)), (5, .int (nI j67)), (6, .int v78), (7, .int v83), (8, .int z139_8), (9, .int z139_9), (10, .int (nI x))]) dX11_barter_244 12 rfl (by rw [hz154]; decide) (by decide) rfl rfl ?_
                                        refine x_goto C (tgt := 139) dX11_barter_247 (by decide) ?_
                                        refine x_iload C dX11_barter_139 0 rfl rfl ?_
                                        refine x_if_lt C (tgt := 250) dX11_barter_141 (by decide) rfl (fun _ => ?_) (fun h => absurd h (by decide))
                                        by_cases hz155 : x = 0
                                        · refine x_iinc C (v := -1) (lv' := [(10, .int (-1)), (11, .int (-1)), (12, .int v122), (0, .ref (a 0)), (1, .int (nI j20)), (2, .int (nI j31)), (3, .int (nI j45)), (4, .int (nI j56)), (5, .int (nI j67)), (6, .int v78), (7, .int v83), (8, .int z139_8), (9, .int z139_9)]) dX11_barter_250 12 rfl (by rw [hz155]; decide) (by decide) rfl rfl ?_
                                          refine x_goto C (tgt := 120) dX11_barter_253 (by decide) ?_
                                          refine x_iload C dX11_barter_120 0 rfl rfl ?_
                                          refine x_if_lt C (tgt := 256) dX11_barter_122 (by decide) rfl (fun _ => ?_) (fun h => absurd h (by decide))
                                          refine x_iload C dX11_barter_256 8 rfl rfl ?_
                                          refine x_if_ne C (tgt := 266) dX11_barter_258 (by decide) rfl (fun c156 => ?_) (fun c156 => ?_)
                                          · skip
                                            have nf157 : ¬ j67 = 0 := fun q => c156 (congrArg nI q)
                                            refine x_iload C dX11_barter_266 12 rfl rfl ?_
                                            exact x_zret C hr hlk rfl dX11_barter_268 ⟨hW, kp0⟩
                                          · skip
                                            have nf158 : j67 = 0 := (nI_eq (by omega) (by omega)).mp c156
                                            refine x_iload C dX11_barter_261 11 rfl rfl ?_
                                            refine x_goto C (tgt := 268) dX11_barter_263 (by decide) ?_
                                            exact x_zret C hr hlk rfl dX11_barter_268 ⟨hW, kp0⟩
                                        · refine x_iinc C (v := nI (x - 1)) (lv' := [(10, .int (nI (x - 1))), (11, .int (-1)), (12, .int v122), (0, .ref (a 0)), (1, .int (nI j20)), (2, .int (nI j31)), (3, .int (nI j45)), (4, .int (nI j56)), (5, .int (nI j67)), (6, .int v78), (7, .int v83), (8, .int z139_8), (9, .int z139_9)]) dX11_barter_250 12 rfl (dec_n (by omega)) (by decide) rfl rfl ?_
                                          refine x_goto C (tgt := 120) dX11_barter_253 (by decide) ?_
                                          refine x_lv (lv1 := [(0, .ref (a 0)), (1, .int (nI j20)), (2, .int (nI j31)), (3, .int (nI j45)), (4, .int (nI j56)), (5, .int (nI j67)), (6, .int v78), (7, .int v83), (8, .int z139_8), (9, .int z139_9), (10, .int (nI (x - 1)))]) [3, 4, 5, 6, 7, 8, 9, 10, 11, 12, 0] rfl ?_
                                          exact ih120 z139_8 z139_9 (x - 1) trivial (by omega) (by omega)
                                      · refine x_iinc C (v := nI (y - 1)) (lv' := [(11, .int (nI (y - 1))), (12, .int v122), (0, .ref (a 0)), (1, .int (nI j20)), (2, .int (nI j31)), (3, .int (nI j45)), (4, .int (nI j56)), (5, .int (nI j67)), (6, .int v78), (7, .int v83), (8, .int z139_8), (9, .int z139_9), (10, .int (nI x))]) dX11_barter_244 12 rfl (dec_n (by omega)) (by decide) rfl rfl ?_
                                        refine x_goto C (tgt := 139) dX11_barter_247 (by decide) ?_
                                        refine x_lv (lv1 := [(0, .ref (a 0)), (1, .int (nI j20)), (2, .int (nI j31)), (3, .int (nI j45)), (4, .int (nI j56)), (5, .int (nI j67)), (6, .int v78), (7, .int v83), (8, .int z139_8), (9, .int z139_9), (10, .int (nI x)), (11, .int (nI (y - 1)))]) [2, 3, 4, 5, 6, 7, 8, 9, 10, 11, 12, 0] rfl ?_
                                        exact ih139 z139_8 z139_9 (y - 1) trivial (by omega) (by omega)
                                    · skip
                                      refine x_iinc C (v := (z139_8 + 1)) (lv' := [(8, .int (z139_8 + 1)), (12, .int v122), (0, .ref (a 0)), (1, .int (nI j20)), (2, .int (nI j31)), (3, .int (nI j45)), (4, .int (nI j56)), (5, .int (nI j67)), (6, .int v78), (7, .int v83), (9, .int z139_9), (10, .int (nI x)), (11, .int (nI y))]) dX11_barter_226 9 rfl rfl (by decide) rfl rfl ?_
                                      refine x_iload C dX11_barter_229 7 rfl rfl ?_
                                      refine x_iconst C (v := 1) dX11_barter_231 (by decide) rfl ?_
                                      refine x_icmp_ne C (tgt := 240) dX11_barter_232 (by decide) rfl (fun c159 => ?_) (fun c159 => ?_)
                                      · skip
                                        have nf160 : ¬ j67 = 1 := fun q => c159 (congrArg nI q)
                                        refine x_iload C dX11_barter_240 12 rfl rfl ?_
                                        refine x_istore C (lv' := [(9, .int (nI y)), (8, .int (z139_8 + 1)), (12, .int v122), (0, .ref (a 0)), (1, .int (nI j20)), (2, .int (nI j31)), (3, .int (nI j45)), (4, .int (nI j56)), (5, .int (nI j67)), (6, .int v78), (7, .int v83), (10, .int (nI x)), (11, .int (nI y))]) dX11_barter_242 (by decide) rfl rfl ?_
                                        by_cases hz161 : y = 0
                                        · refine x_iinc C (v := -1) (lv' := [(11, .int (-1)), (9, .int (nI y)), (8, .int (z139_8 + 1)), (12, .int v122), (0, .ref (a 0)), (1, .int (nI j20)), (2, .int (nI j31)), (3, .int (nI j45)), (4, .int (nI j56)), (5, .int (nI j67)), (6, .int v78), (7, .int v83), (10, .int (nI x))]) dX11_barter_244 12 rfl (by rw [hz161]; decide) (by decide) rfl rfl ?_
                                          refine x_goto C (tgt := 139) dX11_barter_247 (by decide) ?_
                                          refine x_iload C dX11_barter_139 0 rfl rfl ?_
                                          refine x_if_lt C (tgt := 250) dX11_barter_141 (by decide) rfl (fun _ => ?_) (fun h => absurd h (by decide))
                                          by_cases hz162 : x = 0
                                          · refine x_iinc C (v := -1) (lv' := [(10, .int (-1)), (11, .int (-1)), (9, .int (nI y)), (8, .int (z139_8 + 1)), (12, .int v122), (0, .ref (a 0)), (1, .int (nI j20)), (2, .int (nI j31)), (3, .int (nI j45)), (4, .int (nI j56)), (5, .int (nI j67)), (6, .int v78), (7, .int v83)]) dX11_barter_250 12 rfl (by rw [hz162]; decide) (by decide) rfl rfl ?_
                                            refine x_goto C (tgt := 120) dX11_barter_253 (by decide) ?_
                                            refine x_iload C dX11_barter_120 0 rfl rfl ?_
                                            refine x_if_lt C (tgt := 256) dX11_barter_122 (by decide) rfl (fun _ => ?_) (fun h => absurd h (by decide))
                                            refine x_iload C dX11_barter_256 10 rfl rfl ?_
                                            refine x_if_ne C (tgt := 266) dX11_barter_258 (by decide) rfl (fun c163 => ?_) (fun c163 => ?_)
                                            · skip
                                              have nf164 : ¬ j67 = 0 := fun q => c163 (congrArg nI q)
                                              refine x_iload C dX11_barter_266 2 rfl rfl ?_
                                              exact x_zret C hr hlk rfl dX11_barter_268 ⟨hW, kp0⟩
                                            · skip
                                              have nf165 : j67 = 0 := (nI_eq (by omega) (by omega)).mp c163
                                              refine x_iload C dX11_barter_261 3 rfl rfl ?_
                                              refine x_goto C (tgt := 268) dX11_barter_263 (by decide) ?_
                                              exact x_zret C hr hlk rfl dX11_barter_268 ⟨hW, kp0⟩
                                          · refine x_iinc C (v := nI (x - 1)) (lv' := [(10, .int (nI (x - 1))), (11, .int (-1)), (9, .int (nI y)), (8, .int (z139_8 + 1)), (12, .int v122), (0, .ref (a 0)), (1, .int (nI j20)), (2, .int (nI j31)), (3, .int (nI j45)), (4, .int (nI j56)), (5, .int (nI j67)), (6, .int v78), (7, .int v83)]) dX11_barter_250 12 rfl (dec_n (by omega)) (by decide) rfl rfl ?_
                                            refine x_goto C (tgt := 120) dX11_barter_253 (by decide) ?_
                                            refine x_lv (lv1 := [(0, .ref (a 0)), (1, .int (nI j20)), (2, .int (nI j31)), (3, .int (nI j45)), (4, .int (nI j56)), (5, .int (nI j67)), (6, .int v78), (7, .int v83), (8, .int (z139_8 + 1)), (9, .int (nI y)), (10, .int (nI (x - 1)))]) [5, 6, 7, 8, 9, 10, 11, 12, 3, 2, 0] rfl ?_
                                            exact ih120 ((z139_8 + 1)) ((nI y)) (x - 1) trivial (by omega) (by omega)
                                        · refine x_iinc C (v := nI (y - 1)) (lv' := [(11, .int (nI (y - 1))), (9, .int (nI y)), (8, .int (z139_8 + 1)), (12, .int v122), (0, .ref (a 0)), (1, .int (nI j20)), (2, .int (nI j31)), (3, .int (nI j45)), (4, .int (nI j56)), (5, .int (nI j67)), (6, .int v78), (7, .int v83), (10, .int (nI x))]) dX11_barter_244 12 rfl (dec_n (by omega)) (by decide) rfl rfl ?_
                                          refine x_goto C (tgt := 139) dX11_barter_247 (by decide) ?_
                                          refine x_lv (lv1 := [(0, .ref (a 0)), (1, .int (nI j20)), (2, .int (nI j31)), (3, .int (nI j45)), (4, .int (nI j56)), (5, .int (nI j67)), (6, .int v78), (7, .int v83), (8, .int (z139_8 + 1)), (9, .int (nI y)), (10, .int (nI x)), (11, .int (nI (y - 1)))]) [4, 5, 6, 7, 8, 9, 10, 11, 2, 1, 12, 0] rfl ?_
                                          exact ih139 ((z139_8 + 1)) ((nI y)) (y - 1) trivial (by omega) (by omega)
                                      · skip
                                        have nf166 : j67 = 1 := (nI_eq (by omega) (by omega)).mp c159
                                        refine x_iload C dX11_barter_235 11 rfl rfl ?_
                                        refine x_goto C (tgt := 242) dX11_barter_237 (by decide) ?_
                                        refine x_istore C (lv' := [(9, .int (nI x)), (8, .int (z139_8 + 1)), (12, .int v122), (0, .ref (a 0)), (1, .int (nI j20)), (2, .int (nI j31)), (3, .int (nI j45)), (4, .int (nI j56)), (5, .int (nI j67)), (6, .int v78), (7, .int v83), (10, .int (nI x)), (11, .int (nI y))]) dX11_barter_242 (by decide) rfl rfl ?_
                                        by_cases hz167 : y = 0
                                        · refine x_iinc C (v := -1) (lv' := [(11, .int (-1)), (9, .int (nI x)), (8, .int (z139_8 + 1)), (12, .int v122), (0, .ref (a 0)), (1, .int (nI j20)), (2, .int (nI j31)), (3, .int (nI j45)), (4, .int (nI j56)), (5, .int (nI j67)), (6, .int v78), (7, .int v83), (10, .int (nI x))]) dX11_barter_244 12 rfl (by rw [hz167]; decide) (by decide) rfl rfl ?_
                                          refine x_goto C (tgt := 139) dX11_barter_247 (by decide) ?_
                                          refine x_iload C dX11_barter_139 0 rfl rfl ?_
                                          refine x_if_lt C (tgt := 250) dX11_barter_141 (by decide) rfl (fun _ => ?_) (fun h => absurd h (by decide))
                                          by_cases hz168 : x = 0
                                          · refine x_iinc C (v := -1) (lv' := [(10, .int (-1)), (11, .int (-1)), (9, .int (nI x)), (8, .int (z139_8 + 1)), (12, .int v122), (0, .ref (a 0)), (1, .int (nI j20)), (2, .int (nI j31)), (3, .int (nI j45)), (4, .int (nI j56)), (5, .int (nI j67)), (6, .int v78), (7, .int v83)]) dX11_barter_250 12 rfl (by rw [hz168]; decide) (by decide) rfl rfl ?_
                                            refine x_goto C (tgt := 120) dX11_barter_253 (by decide) ?_
                                            refine x_iload C dX11_barter_120 0 rfl rfl ?_
                                            refine x_if_lt C (tgt := 256) dX11_barter_122 (by decide) rfl (fun _ => ?_) (fun h => absurd h (by decide))
                                            refine x_iload C dX11_barter_256 10 rfl rfl ?_
                                            refine x_if_ne C (tgt := 266) dX11_barter_258 (by decide) rfl (fun c169 => ?_) (fun c169 => ?_)
                                            · skip
                                              have nf170 : ¬ j67 = 0 := fun q => c169 (congrArg nI q)
                                              refine x_iload C dX11_barter_266 2 rfl rfl ?_
                                              exact x_zret C hr hlk rfl dX11_barter_268 ⟨hW, kp0⟩
                                            · skip
                                              have nf171 : j67 = 0 := (nI_eq (by omega) (by omega)).mp c169
                                              refine x_iload C dX11_barter_261 3 rfl rfl ?_
                                              refine x_goto C (tgt := 268) dX11_barter_263 (by decide) ?_
                                              exact x_zret C hr hlk rfl dX11_barter_268 ⟨hW, kp0⟩
                                          · refine x_iinc C (v := nI (x - 1)) (lv' := [(10, .int (nI (x - 1))), (11, .int (-1)), (9, .int (nI x)), (8, .int (z139_8 + 1)), (12, .int v122), (0, .ref (a 0)), (1, .int (nI j20)), (2, .int (nI j31)), (3, .int (nI j45)), (4, .int (nI j56)), (5, .int (nI j67)), (6, .int v78), (7, .int v83)]) dX11_barter_250 12 rfl (dec_n (by omega)) (by decide) rfl rfl ?_
                                            refine x_goto C (tgt := 120) dX11_barter_253 (by decide) ?_
                                            refine x_lv (lv1 := [(0, .ref (a 0)), (1, .int (nI j20)), (2, .int (nI j31)), (3, .int (nI j45)), (4, .int (nI j56)), (5, .int (nI j67)), (6, .int v78), (7, .int v83), (8, .int (z139_8 + 1)), (9, .int (nI x)), (10, .int (nI (x - 1)))]) [5, 6, 7, 8, 9, 10, 11, 12, 3, 2, 0] rfl ?_
                                            exact ih120 ((z139_8 + 1)) ((nI x)) (x - 1) trivial (by omega) (by omega)
                                        · refine x_iinc C (v := nI (y - 1)) (lv' := [(11, .int (nI (y - 1))), (9, .int (nI x)), (8, .int (z139_8 + 1)), (12, .int v122), (0, .ref (a 0)), (1, .int (nI j20)), (2, .int (nI j31)), (3, .int (nI j45)), (4, .int (nI j56)), (5, .int (nI j67)), (6, .int v78), (7, .int v83), (10, .int (nI x))]) dX11_barter_244 12 rfl (dec_n (by omega)) (by decide) rfl rfl ?_
                                          refine x_goto C (tgt := 139) dX11_barter_247 (by decide) ?_
                                          refine x_lv (lv1 := [(0, .ref (a 0)), (1, .int (nI j20)), (2, .int (nI j31)), (3, .int (nI j45)), (4, .int (nI j56)), (5, .int (nI j67)), (6, .int v78), (7, .int v83), (8, .int (z139_8 + 1)), (9, .int (nI x)), (10, .int (nI x)), (11, .int (nI (y - 1)))]) [4, 5, 6, 7, 8, 9, 10, 11, 2, 1, 12, 0] rfl ?_
                                          exact ih139 ((z139_8 + 1)) ((nI x)) (y - 1) trivial (by omega) (by omega)
                        refine x_lv (lv1 := [(0, .ref (a 0)), (1, .int (nI j20)), (2, .int (nI j31)), (3, .int (nI j45)), (4, .int (nI j56)), (5, .int (nI j67)), (6, .int v78), (7, .int v83), (8, .int z120_8), (9, .int z120_9), (10, .int (nI x)), (11, .int (nI (n72 - 1)))]) [1, 2, 3, 4, 5, 6, 7, 8, 9, 10, 11, 0] rfl ?_
                        exact loop139 _ z120_8 z120_9 (n72 - 1) trivial (Nat.lt_succ_self _) (by omega)
                refine x_lv (lv1 := [(0, .ref (a 0)), (1, .int (nI j20)), (2, .int (nI j31)), (3, .int (nI j45)), (4, .int (nI j56)), (5, .int (nI j67)), (6, .int v78), (7, .int v83), (8, .int 0), (9, .int (-2)), (10, .int (nI (n72 - 1)))]) [5, 6, 7, 8, 9, 10, 4, 3, 2, 1, 0] rfl ?_
                exact loop120 _ (0 : Int32) ((-2) : Int32) (n72 - 1) trivial (Nat.lt_succ_self _) (by omega)
            · skip
              refine x_iconst C (v := (-1)) dX11_barter_66 (by decide) rfl ?_
              exact x_zret C hr hlk rfl dX11_barter_67 ⟨hW, kp0⟩
theorem dX11_check_0 : decode cX11_check 0 = .ok (.aload_n 0, 1) := by decide +kernel
theorem dX11_check_1 : decode cX11_check 1 = .ok (.getfield 10, 3) := by decide +kernel
theorem dX11_check_4 : decode cX11_check 4 = .ok (.iload_n 1, 1) := by decide +kernel
theorem dX11_check_5 : decode cX11_check 5 = .ok (.iconst 0, 1) := by decide +kernel
theorem dX11_check_6 : decode cX11_check 6 = .ok (.bipush 48, 2) := by decide +kernel
theorem dX11_check_8 : decode cX11_check 8 = .ok (.iconst 4, 1) := by decide +kernel
theorem dX11_check_9 : decode cX11_check 9 = .ok (.invokevirtual 149, 3) := by decide +kernel
theorem dX11_check_12 : decode cX11_check 12 = .ok (.ifCond .ne 6, 3) := by decide +kernel
theorem dX11_check_15 : decode cX11_check 15 = .ok (.bipush (-2), 2) := by decide +kernel
theorem dX11_check_17 : decode cX11_check 17 = .ok (.ireturn, 1) := by decide +kernel
theorem dX11_check_18 : decode cX11_check 18 = .ok (.iconst (-1), 1) := by decide +kernel
theorem dX11_check_19 : decode cX11_check 19 = .ok (.istore_n 2, 1) := by decide +kernel
theorem dX11_check_20 : decode cX11_check 20 = .ok (.iload_n 1, 1) := by decide +kernel
theorem dX11_check_21 : decode cX11_check 21 = .ok (.iconst 1, 1) := by decide +kernel
theorem dX11_check_22 : decode cX11_check 22 = .ok (.isub, 1) := by decide +kernel
theorem dX11_check_23 : decode cX11_check 23 = .ok (.istore_n 3, 1) := by decide +kernel
theorem dX11_check_24 : decode cX11_check 24 = .ok (.iload_n 3, 1) := by decide +kernel
theorem dX11_check_25 : decode cX11_check 25 = .ok (.ifCond .lt 39, 3) := by decide +kernel
theorem dX11_check_28 : decode cX11_check 28 = .ok (.aload_n 0, 1) := by decide +kernel
theorem dX11_check_29 : decode cX11_check 29 = .ok (.getfield 10, 3) := by decide +kernel
theorem dX11_check_32 : decode cX11_check 32 = .ok (.iconst 4, 1) := by decide +kernel
theorem dX11_check_33 : decode cX11_check 33 = .ok (.iload_n 3, 1) := by decide +kernel
theorem dX11_check_34 : decode cX11_check 34 = .ok (.imul, 1) := by decide +kernel
theorem dX11_check_35 : decode cX11_check 35 = .ok (.invokevirtual 400, 3) := by decide +kernel
theorem dX11_check_38 : decode cX11_check 38 = .ok (.aload_n 0, 1) := by decide +kernel
theorem dX11_check_39 : decode cX11_check 39 = .ok (.getfield 22, 3) := by decide +kernel
theorem dX11_check_42 : decode cX11_check 42 = .ok (.getfield 132, 3) := by decide +kernel
theorem dX11_check_45 : decode cX11_check 45 = .ok (.iload_n 3, 1) := by decide +kernel
theorem dX11_check_46 : decode cX11_check 46 = .ok (.invokevirtual 333, 3) := by decide +kernel
theorem dX11_check_49 : decode cX11_check 49 = .ok (.if_icmp .ne 7, 3) := by decide +kernel
theorem dX11_check_52 : decode cX11_check 52 = .ok (.iload_n 2, 1) := by decide +kernel
theorem dX11_check_53 : decode cX11_check 53 = .ok (.goto 4, 3) := by decide +kernel
theorem dX11_check_56 : decode cX11_check 56 = .ok (.iload_n 3, 1) := by decide +kernel
theorem dX11_check_57 : decode cX11_check 57 = .ok (.istore_n 2, 1) := by decide +kernel
theorem dX11_check_58 : decode cX11_check 58 = .ok (.iinc 3 (-1), 3) := by decide +kernel
theorem dX11_check_61 : decode cX11_check 61 = .ok (.goto (-37), 3) := by decide +kernel
theorem dX11_check_64 : decode cX11_check 64 = .ok (.aload_n 0, 1) := by decide +kernel
theorem dX11_check_65 : decode cX11_check 65 = .ok (.getfield 10, 3) := by decide +kernel
theorem dX11_check_68 : decode cX11_check 68 = .ok (.iconst 0, 1) := by decide +kernel
theorem dX11_check_69 : decode cX11_check 69 = .ok (.putfield 142, 3) := by decide +kernel
theorem dX11_check_72 : decode cX11_check 72 = .ok (.iload_n 2, 1) := by decide +kernel
theorem dX11_check_73 : decode cX11_check 73 = .ok (.ireturn, 1) := by decide +kernel
set_option maxRecDepth 20000 in
set_option maxHeartbeats 4000000 in
theorem c_check (E : xE) (l : Launch) (a : Nat → Nat) (ws : va_W) (hW : WX (okX E a) ws) (p0 : Int32) : xI E l yX11_check cX11_check 4 (some .int) 8 [.ref (a 0), .int p0] ws (fun r w => WX (okX E a) w ∧ keeps ws w (fun q => ¬ (q = 0 ∨ q = 6 ∨ q = 9 ∨ q = 28 ∨ q = 31))) := by
  refine xI_start (lv := [(0, .ref (a 0)), (1, .int p0)]) RX11 (by decide) rfl (Nat.le_of_ble_eq_true rfl) rfl (fun p e s m below meth c A C hr hlk => ?_)
  have kp0 : keeps ws ws (fun q => ¬ (q = 0 ∨ q = 6 ∨ q = 9 ∨ q = 28 ∨ q = 31)) := keeps_rf
  refine x_aload_n C dX11_check_0 rfl 0 rfl rfl ?_
  obtain ⟨_, k1, v2, rfl⟩ := hW 0 _ rfl
  refine x_get C (ci := 10) (k := 0) 0 k1 rfl in_X11 (by decide) w_385 rfl dX11_check_1 rfl ?_
  refine x_iload_n C dX11_check_4 rfl 1 rfl rfl ?_
  refine x_iconst C (v := 0) dX11_check_5 (by decide) rfl ?_
  refine x_bipush C (v := 48) dX11_check_6 (by decide) rfl ?_
  refine x_iconst C (v := 4) dX11_check_8 (by decide) rfl ?_
  obtain ⟨_, k3, n4, v6, v7, v8, bn5, rfl⟩ := hW 1 _ rfl
  refine x_vi C (As := [.int p0, .int 0, .int 48, .int 4]) (rest := []) (c_holds E l a ws hW p0 (0 : Int32) (48 : Int32) (4 : Int32)) mf_X8_holds w_507 1 k3 rfl rfl rfl (Nat.le_of_ble_eq_true rfl) ⟨(Nat.le_of_ble_eq_true rfl), (Nat.le_of_ble_eq_true rfl)⟩ ⟨(Nat.le_of_ble_eq_true rfl), (Nat.le_of_ble_eq_true rfl)⟩ dX11_check_9 rfl (fun r10 w11 h9 => ?_)
  obtain ⟨hW12, zb13, x14⟩ := h9
  refine x_ws hW12 ?_
  refine x_if_ne C (tgt := 18) dX11_check_12 (by decide) rfl (fun c15 => ?_) (fun c15 => ?_)
  · skip
    obtain ⟨j16, hl17, hh18, ej19⟩ := w_nat (a := 0) (b := 48) (by decide) (by decide) (x14 c15)
    subst ej19
    refine x_iconst C (v := (-1)) dX11_check_18 (by decide) rfl ?_
    refine x_istore_n C (lv' := [(2, .int (-1)), (0, .ref (a 0)), (1, .int (nI j16))]) dX11_check_19 rfl (by decide) rfl rfl ?_
    refine x_iload_n C dX11_check_20 rfl 2 rfl rfl ?_
    refine x_iconst C (v := 1) dX11_check_21 (by decide) rfl ?_
    by_cases hz20 : j16 = 0
    · refine x_isub C (v := -1) dX11_check_22 (by rw [hz20]; decide) rfl ?_
      refine x_istore_n C (lv' := [(3, .int (-1)), (2, .int (-1)), (0, .ref (a 0)), (1, .int (nI j16))]) dX11_check_23 rfl (by decide) rfl rfl ?_
      refine x_iload_n C dX11_check_24 rfl 0 rfl rfl ?_
      refine x_if_lt C (tgt := 64) dX11_check_25 (by decide) rfl (fun _ => ?_) (fun h => absurd h (by decide))
      refine x_aload_n C dX11_check_64 rfl 2 rfl rfl ?_
      refine x_get C (ci := 10) (k := 0) 0 k1 rfl in_X11 (by decide) w_385 rfl dX11_check_65 rfl ?_
      refine x_iconst C (v := 0) dX11_check_68 (by decide) rfl ?_
      obtain ⟨w21, hw22⟩ : ∃ w : va_W, w = List.set ws 1 (ob (a 1) 7 [.ref (a 2), .int 0, .int v6, .int v7, .int v8]) := ⟨_, rfl⟩
      refine x_put C (ci := 7) (k := 1) (ty := .int) 1 k3 rfl in_X8 tyX8 tyX8_ok nmX8 (by decide) w_38 rfl rfl rfl rfl (Nat.le_of_ble_eq_true rfl) hw22.symm dX11_check_69 rfl ?_
      have hW23 : WX (okX E a) w21 := by rw [hw22]; exact hW.set (k := 1) rfl ⟨0, v6, v7, v8, by omega, rfl⟩
      have k24 : w21[0]? = some (ob (a 0) 10 [.ref (a 1), .ref (a 3), .ref (a 5), .ref (a 27), .ref (a 49), .int v2, .ref (a 71), .ref (a 79), .ref (a 87), .ref (a 92), .ref (a 103), .ref (a 105), .ref (a 106), .ref (a 107), .ref (a 108), .ref (a 109), .ref (a 110), .ref (a 111), .ref (a 112)]) := by rw [hw22]; exact set_ne k1 (by decide)
      have k25 : w21[1]? = some (ob (a 1) 7 [.ref (a 2), .int 0, .int v6, .int v7, .int v8]) := by rw [hw22]; exact set_eq k3
      have kp26 := keeps_set kp0 hw22 (by first | exact rfl | decide | omega | (dsimp only; omega))
      refine x_iload_n C dX11_check_72 rfl 1 rfl rfl ?_
      exact x_zret C hr hlk rfl dX11_check_73 ⟨hW23, kp26⟩
    · refine x_isub C (v := nI (j16 - 1)) dX11_check_22 (pk_sub (a := j16) (b := 1) (by omega)) rfl ?_
      refine x_istore_n C (lv' := [(3, .int (nI (j16 - 1))), (2, .int (-1)), (0, .ref (a 0)), (1, .int (nI j16))]) dX11_check_23 rfl (by decide) rfl rfl ?_
      have loop24 : ∀ (fu24 : Nat) (z24_2 : Int32) (k : Nat), True → k < fu24 → k ≤ 47 → X E p l e (xRm 8 0 0) s m ([.ref (a 0), .int (nI j16)] : List Value).toArray below meth c A 4 0 0 (MQ below (va_Qi (fun r w => WX (okX E a) w ∧ keeps ws w (fun q => ¬ (q = 0 ∨ q = 6 ∨ q = 9 ∨ q = 28 ∨ q = 31))) (xB E A) A) ([.ref (a 0), .int (nI j16)] : List Value).toArray s 0 0 A) ws 24 [(0, .ref (a 0)), (1, .int (nI j16)), (2, .int z24_2), (3, .int (nI k))] [] := by
        intro fu24
        induction fu24 with
        | zero => intro z24_2 k _ q; omega
        | succ fu24 ih24 =>
          intro z24_2 k _ me24 iv24_0
          refine x_iload_n C dX11_check_24 rfl 3 rfl rfl ?_
          refine x_if_lt C (tgt := 64) dX11_check_25 (by decide) rfl (fun c27 => ?_) (fun c27 => ?_)
          · skip
            have nf28 := nI_lt' (a := k) (b := 0) c27 (by omega) (by omega)
            refine x_aload_n C dX11_check_64 rfl 0 rfl rfl ?_
            refine x_get C (ci := 10) (k := 0) 0 k1 rfl in_X11 (by decide) w_385 rfl dX11_check_65 rfl ?_
            refine x_iconst C (v := 0) dX11_check_68 (by decide) rfl ?_
            obtain ⟨w29, hw30⟩ : ∃ w : va_W, w = List.set ws 1 (ob (a 1) 7 [.ref (a 2), .int 0, .int v6, .int v7, .int v8]) := ⟨_, rfl⟩
            refine x_put C (ci := 7) (k := 1) (ty := .int) 1 k3 rfl in_X8 tyX8 tyX8_ok nmX8 (by decide) w_38 rfl rfl rfl rfl (Nat.le_of_ble_eq_true rfl) hw30.symm dX11_check_69 rfl ?_
            have hW31 : WX (okX E a) w29 := by rw [hw30]; exact hW.set (k := 1) rfl ⟨0, v6, v7, v8, by omega, rfl⟩
            have k32 : w29[0]? = some (ob (a 0) 10 [.ref (a 1), .ref (a 3), .ref (a 5), .ref (a 27), .ref (a 49), .int v2, .ref (a 71), .ref (a 79), .ref (a 87), .ref (a 92), .ref (a 103), .ref (a 105), .ref (a 106), .ref (a 107), .ref (a 108), .ref (a 109), .ref (a 110), .ref (a 111), .ref (a 112)]) := by rw [hw30]; exact set_ne k1 (by decide)
            have k33 : w29[1]? = some (ob (a 1) 7 [.ref (a 2), .int 0, .int v6, .int v7, .int v8]) := by rw [hw30]; exact set_eq k3
            have kp34 := keeps_set kp0 hw30 (by first | exact rfl | decide | omega | (dsimp only; omega))
            refine x_iload_n C dX11_check_72 rfl 2 rfl rfl ?_
            exact x_zret C hr hlk rfl dX11_check_73 ⟨hW31, kp34⟩
          · skip
            have nf35 := nI_nlt' (a := k) (b := 0) c27 (by omega) (by omega)
            refine x_aload_n C dX11_check_28 rfl 0 rfl rfl ?_
            refine x_get C (ci := 10) (k := 0) 0 k1 rfl in_X11 (by decide) w_385 rfl dX11_check_29 rfl ?_
            refine x_iconst C (v := 4) dX11_check_32 (by decide) rfl ?_
            refine x_iload_n C dX11_check_33 rfl 3 rfl rfl ?_
            refine x_imul C (v := (nI (4 * k))) dX11_check_34 (pk_mul 4 k) rfl ?_
            refine x_vi C (As := [.int (nI (4 * k))]) (rest := []) (c_wordAt E l a ws hW ((nI (4 * k)))) mf_X8_wordAt w_1103 1 k3 rfl rfl rfl (Nat.le_of_ble_eq_true rfl) ⟨(Nat.le_of_ble_eq_true rfl), (Nat.le_of_ble_eq_true rfl)⟩ ⟨(Nat.le_of_ble_eq_true rfl), (Nat.le_of_ble_eq_true rfl)⟩ dX11_check_35 rfl (fun r37 w38 h36 => ?_)
            have hW39 := h36
            refine x_ws hW39 ?_
            refine x_aload_n C dX11_check_38 rfl 0 rfl rfl ?_
            refine x_get C (ci := 10) (k := 2) 0 k1 rfl in_X11 (by decide) w_387 rfl dX11_check_39 rfl ?_
            obtain ⟨_, k40, n41, v43, v44, v45, v46, v47, bn42, rfl⟩ := hW 5 _ rfl
            refine x_get C (ci := 8) (k := 4) 5 k40 rfl in_X9 (by decide) w_209 rfl dX11_check_42 rfl ?_
            refine x_iload_n C dX11_check_45 rfl 3 rfl rfl ?_
            obtain ⟨_, k48, n49, bn50, rfl⟩ := hW 14 _ rfl
            refine x_vi C (As := [.int (nI k)]) (rest := [.int r37]) (c_Eggs_minutesAt E l a ws hW 5 (Or.inl rfl) ((nI k))) mf_X1_minutesAt w_993 14 k48 rfl rfl rfl (Nat.le_of_ble_eq_true rfl) ⟨(Nat.le_of_ble_eq_true rfl), (Nat.le_of_ble_eq_true rfl)⟩ ⟨(Nat.le_of_ble_eq_true rfl), (Nat.le_of_ble_eq_true rfl)⟩ dX11_check_46 rfl (fun r52 w53 h51 => ?_)
            have hW54 := h51
            refine x_ws hW54 ?_
            refine x_icmp_ne C (tgt := 56) dX11_check_49 (by decide) rfl (fun c55 => ?_) (fun c55 => ?_)
            · skip
              refine x_iload_n C dX11_check_56 rfl 3 rfl rfl ?_
              refine x_istore_n C (lv' := [(2, .int (nI k)), (0, .ref (a 0)), (1, .int (nI j16)), (3, .int (nI k))]) dX11_check_57 rfl (by decide) rfl rfl ?_
              by_cases hz56 : k = 0
              · refine x_iinc C (v := -1) (lv' := [(3, .int (-1)), (2, .int (nI k)), (0, .ref (a 0)), (1, .int (nI j16))]) dX11_check_58 3 rfl (by rw [hz56]; decide) (by decide) rfl rfl ?_
                refine x_goto C (tgt := 24) dX11_check_61 (by decide) ?_
                refine x_iload_n C dX11_check_24 rfl 0 rfl rfl ?_
                refine x_if_lt C (tgt := 64) dX11_check_25 (by decide) rfl (fun _ => ?_) (fun h => absurd h (by decide))
                refine x_aload_n C dX11_check_64 rfl 2 rfl rfl ?_
                refine x_get C (ci := 10) (k := 0) 0 k1 rfl in_X11 (by decide) w_385 rfl dX11_check_65 rfl ?_
                refine x_iconst C (v := 0) dX11_check_68 (by decide) rfl ?_
                obtain ⟨w57, hw58⟩ : ∃ w : va_W, w = List.set ws 1 (ob (a 1) 7 [.ref (a 2), .int 0, .int v6, .int v7, .int v8]) := ⟨_, rfl⟩
                refine x_put C (ci := 7) (k := 1) (ty := .int) 1 k3 rfl in_X8 tyX8 tyX8_ok nmX8 (by decide) w_38 rfl rfl rfl rfl (Nat.le_of_ble_eq_true rfl) hw58.symm dX11_check_69 rfl ?_
                have hW59 : WX (okX E a) w57 := by rw [hw58]; exact hW.set (k := 1) rfl ⟨0, v6, v7, v8, by omega, rfl⟩
                have k60 : w57[0]? = some (ob (a 0) 10 [.ref (a 1), .ref (a 3), .ref (a 5), .ref (a 27), .ref (a 49), .int v2, .ref (a 71), .ref (a 79), .ref (a 87), .ref (a 92), .ref (a 103), .ref (a 105), .ref (a 106), .ref (a 107), .ref (a 108), .ref (a 109), .ref (a 110), .ref (a 111), .ref (a 112)]) := by rw [hw58]; exact set_ne k1 (by decide)
                have k61 : w57[1]? = some (ob (a 1) 7 [.ref (a 2), .int 0, .int v6, .int v7, .int v8]) := by rw [hw58]; exact set_eq k3
                have k62 : w57[5]? = some (ob (a 5) 8 [.int (nI n41), .int v43, .ref (a 6), .ref (a 9), .ref (a 14), .ref (a 21), .int v44, .int v45, .int v46, .int v47]) := by rw [hw58]; exact set_ne k40 (by decide)
                have k63 : w57[14]? = some (ob (a 14) 1 [.int (nI n49), .ref (a 15), .ref (a 16), .ref (a 17), .ref (a 18), .ref (a 19), .ref (a 20)]) := by rw [hw58]; exact set_ne k48 (by decide)
                have kp64 := keeps_set kp0 hw58 (by first | exact rfl | decide | omega | (dsimp only; omega))
                refine x_iload_n C dX11_check_72 rfl 1 rfl rfl ?_
                exact x_zret C hr hlk rfl dX11_check_73 ⟨hW59, kp64⟩
              · refine x_iinc C (v := nI (k - 1)) (lv' := [(3, .int (nI (k - 1))), (2, .int (nI k)), (0, .ref (a 0)), (1, .int (nI j16))]) dX11_check_58 3 rfl (dec_n (by omega)) (by decide) rfl rfl ?_
                refine x_goto C (tgt := 24) dX11_check_61 (by decide) ?_
                refine x_lv (lv1 := [(0, .ref (a 0)), (1, .int (nI j16)), (2, .int (nI k)), (3, .int (nI (k - 1)))]) [2, 3, 1, 0] rfl ?_
                exact ih24 ((nI k)) (k - 1) trivial (by omega) (by omega)
            · skip
              refine x_iload_n C dX11_check_52 rfl 2 rfl rfl ?_
              refine x_goto C (tgt := 57) dX11_check_53 (by decide) ?_
              refine x_istore_n C (lv' := [(2, .int z24_2), (0, .ref (a 0)), (1, .int (nI j16)), (3, .int (nI k))]) dX11_check_57 rfl (by decide) rfl rfl ?_
              by_cases hz65 : k = 0
              · refine x_iinc C (v := -1) (lv' := [(3, .int (-1)), (2, .int z24_2), (0, .ref (a 0)), (1, .int (nI j16))]) dX11_check_58 3 rfl (by rw [hz65]; decide) (by decide) rfl rfl ?_
                refine x_goto C (tgt := 24) dX11_check_61 (by decide) ?_
                refine x_iload_n C dX11_check_24 rfl 0 rfl rfl ?_
                refine x_if_lt C (tgt := 64) dX11_check_25 (by decide) rfl (fun _ => ?_) (fun h => absurd h (by decide))
                refine x_aload_n C dX11_check_64 rfl 2 rfl rfl ?_
                refine x_get C (ci := 10) (k := 0) 0 k1 rfl in_X11 (by decide) w_385 rfl dX11_check_65 rfl ?_
                refine x_iconst C (v := 0) dX11_check_68 (by decide) rfl ?_
                obtain ⟨w66, hw67⟩ : ∃ w : va_W, w = List.set ws 1 (ob (a 1) 7 [.ref (a 2), .int 0, .int v6, .int v7, .int v8]) := ⟨_, rfl⟩
                refine x_put C (ci := 7) (k := 1) (ty := .int) 1 k3 rfl in_X8 tyX8 tyX8_ok nmX8 (by decide) w_38 rfl rfl rfl rfl (Nat.le_of_ble_eq_true rfl) hw67.symm dX11_check_69 rfl ?_
                have hW68 : WX (okX E a) w66 := by rw [hw67]; exact hW.set (k := 1) rfl ⟨0, v6, v7, v8, by omega, rfl⟩
                have k69 : w66[0]? = some (ob (a 0) 10 [.ref (a 1), .ref (a 3), .ref (a 5), .ref (a 27), .ref (a 49), .int v2, .ref (a 71), .ref (a 79), .ref (a 87), .ref (a 92), .ref (a 103), .ref (a 105), .ref (a 106), .ref (a 107), .ref (a 108), .ref (a 109), .ref (a 110), .ref (a 111), .ref (a 112)]) := by rw [hw67]; exact set_ne k1 (by decide)
                have k70 : w66[1]? = some (ob (a 1) 7 [.ref (a 2), .int 0, .int v6, .int v7, .int v8]) := by rw [hw67]; exact set_eq k3
                have k71 : w66[5]? = some (ob (a 5) 8 [.int (nI n41), .int v43, .ref (a 6), .ref (a 9), .ref (a 14), .ref (a 21), .int v44, .int v45, .int v46, .int v47]) := by rw [hw67]; exact set_ne k40 (by decide)
                have k72 : w66[14]? = some (ob (a 14) 1 [.int (nI n49), .ref (a 15), .ref (a 16), .ref (a 17), .ref (a 18), .ref (a 19), .ref (a 20)]) := by rw [hw67]; exact set_ne k48 (by decide)
                have kp73 := keeps_set kp0 hw67 (by first | exact rfl | decide | omega | (dsimp only; omega))
                refine x_iload_n C dX11_check_72 rfl 1 rfl rfl ?_
                exact x_zret C hr hlk rfl dX11_check_73 ⟨hW68, kp73⟩
              · refine x_iinc C (v := nI (k - 1)) (lv' := [(3, .int (nI (k - 1))), (2, .int z24_2), (0, .ref (a 0)), (1, .int (nI j16))]) dX11_check_58 3 rfl (dec_n (by omega)) (by decide) rfl rfl ?_
                refine x_goto C (tgt := 24) dX11_check_61 (by decide) ?_
                refine x_lv (lv1 := [(0, .ref (a 0)), (1, .int (nI j16)), (2, .int z24_2), (3, .int (nI (k - 1)))]) [2, 3, 1, 0] rfl ?_
                exact ih24 z24_2 (k - 1) trivial (by omega) (by omega)
      refine x_lv (lv1 := [(0, .ref (a 0)), (1, .int (nI j16)), (2, .int (-1)), (3, .int (nI (j16 - 1)))]) [2, 3, 1, 0] rfl ?_
      exact loop24 _ ((-1) : Int32) (j16 - 1) trivial (Nat.lt_succ_self _) (by omega)
  · skip
    refine x_bipush C (v := (-2)) dX11_check_15 (by decide) rfl ?_
    exact x_zret C hr hlk rfl dX11_check_17 ⟨hW, kp0⟩
