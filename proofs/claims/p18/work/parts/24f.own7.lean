theorem dX11_daysTillDone_0 : decode cX11_daysTillDone 0 = .ok (.aload_n 0, 1) := by decide +kernel
theorem dX11_daysTillDone_1 : decode cX11_daysTillDone 1 = .ok (.getfield 29, 3) := by decide +kernel
theorem dX11_daysTillDone_4 : decode cX11_daysTillDone 4 = .ok (.aload_n 0, 1) := by decide +kernel
theorem dX11_daysTillDone_5 : decode cX11_daysTillDone 5 = .ok (.getfield 22, 3) := by decide +kernel
theorem dX11_daysTillDone_8 : decode cX11_daysTillDone 8 = .ok (.invokevirtual 180, 3) := by decide +kernel
theorem dX11_daysTillDone_11 : decode cX11_daysTillDone 11 = .ok (.iconst 0, 1) := by decide +kernel
theorem dX11_daysTillDone_12 : decode cX11_daysTillDone 12 = .ok (.istore 4, 2) := by decide +kernel
theorem dX11_daysTillDone_14 : decode cX11_daysTillDone 14 = .ok (.iload 4, 2) := by decide +kernel
theorem dX11_daysTillDone_16 : decode cX11_daysTillDone 16 = .ok (.iload_n 3, 1) := by decide +kernel
theorem dX11_daysTillDone_17 : decode cX11_daysTillDone 17 = .ok (.if_icmp .gt 73, 3) := by decide +kernel
theorem dX11_daysTillDone_90 : decode cX11_daysTillDone 90 = .ok (.bipush (-2), 2) := by decide +kernel
theorem dX11_daysTillDone_92 : decode cX11_daysTillDone 92 = .ok (.ireturn, 1) := by decide +kernel
set_option maxRecDepth 20000 in
set_option maxHeartbeats 4000000 in
theorem c_daysM (E : xE) (l : Launch) (a : Nat → Nat) (ws : va_W) (hW : WX (okX E a) ws) (i0 : Nat) (p1 : Int32) (hi0 : i0 ≤ 7) : xI E l yX11_daysTillDone cX11_daysTillDone 5 (some .int) 7 [.ref (a 0), .int (nI i0), .int p1, .int (-1)] ws (fun r w => WX (okX E a) w ∧ r = (-2)) := by
  refine xI_start (lv := [(0, .ref (a 0)), (1, .int (nI i0)), (2, .int p1), (3, .int (-1))]) RX11 (by decide) rfl (Nat.le_of_ble_eq_true rfl) rfl (fun p e s m below meth c A C hr hlk => ?_)
  refine x_aload_n C dX11_daysTillDone_0 rfl 0 rfl rfl ?_
  obtain ⟨_, k1, v2, rfl⟩ := hW 0 _ rfl
  refine x_get C (ci := 10) (k := 4) 0 k1 rfl in_X11 (by decide) w_389 rfl dX11_daysTillDone_1 rfl ?_
  refine x_aload_n C dX11_daysTillDone_4 rfl 0 rfl rfl ?_
  refine x_get C (ci := 10) (k := 2) 0 k1 rfl in_X11 (by decide) w_387 rfl dX11_daysTillDone_5 rfl ?_
  obtain ⟨_, k3, n4, v6, v7, v8, v9, v10, bn5, rfl⟩ := hW 49 _ rfl
  refine x_vv C (As := [.ref (a 5)]) (rest := []) (c_Town_copy E l a ws hW 49 (Or.inr (Or.inr rfl)) 5 (Or.inl rfl) (by decide)) mf_X9_copyFrom w_788 49 k3 rfl rfl rfl (Nat.le_of_ble_eq_true rfl) ⟨(Nat.le_of_ble_eq_true rfl), (Nat.le_of_ble_eq_true rfl)⟩ ⟨(Nat.le_of_ble_eq_true rfl), (Nat.le_of_ble_eq_true rfl)⟩ dX11_daysTillDone_8 rfl (fun w13 h11 => ?_)
  obtain ⟨hW14, kq15⟩ := h11
  have k16 : w13[0]? = some (ob (a 0) 10 [.ref (a 1), .ref (a 3), .ref (a 5), .ref (a 27), .ref (a 49), .int v2, .ref (a 71), .ref (a 79), .ref (a 87), .ref (a 92), .ref (a 103), .ref (a 105), .ref (a 106), .ref (a 107), .ref (a 108), .ref (a 109), .ref (a 110), .ref (a 111), .ref (a 112)]) := keeps_at kq15 k1 (by first | decide | omega | (dsimp only; omega))
  refine x_iconst C (v := 0) dX11_daysTillDone_11 (by decide) rfl ?_
  refine x_istore C (lv' := [(4, .int 0), (0, .ref (a 0)), (1, .int (nI i0)), (2, .int p1), (3, .int (-1))]) dX11_daysTillDone_12 (by decide) rfl rfl ?_
  refine x_iload C dX11_daysTillDone_14 0 rfl rfl ?_
  refine x_iload_n C dX11_daysTillDone_16 rfl 4 rfl rfl ?_
  refine x_icmp_gt C (tgt := 90) dX11_daysTillDone_17 (by decide) rfl (fun _ => ?_) (fun h => absurd h (by decide))
  refine x_bipush C (v := (-2)) dX11_daysTillDone_90 (by decide) rfl ?_
  exact x_zret C hr hlk rfl dX11_daysTillDone_92 ⟨hW14, rfl⟩
theorem dX11_daysTillDone_20 : decode cX11_daysTillDone 20 = .ok (.aload_n 0, 1) := by decide +kernel
theorem dX11_daysTillDone_21 : decode cX11_daysTillDone 21 = .ok (.getfield 29, 3) := by decide +kernel
theorem dX11_daysTillDone_24 : decode cX11_daysTillDone 24 = .ok (.iload_n 1, 1) := by decide +kernel
theorem dX11_daysTillDone_25 : decode cX11_daysTillDone 25 = .ok (.iload_n 2, 1) := by decide +kernel
theorem dX11_daysTillDone_26 : decode cX11_daysTillDone 26 = .ok (.aload_n 0, 1) := by decide +kernel
theorem dX11_daysTillDone_27 : decode cX11_daysTillDone 27 = .ok (.getfield 39, 3) := by decide +kernel
theorem dX11_daysTillDone_30 : decode cX11_daysTillDone 30 = .ok (.invokevirtual 372, 3) := by decide +kernel
theorem dX11_daysTillDone_33 : decode cX11_daysTillDone 33 = .ok (.aload_n 0, 1) := by decide +kernel
theorem dX11_daysTillDone_34 : decode cX11_daysTillDone 34 = .ok (.getfield 29, 3) := by decide +kernel
theorem dX11_daysTillDone_37 : decode cX11_daysTillDone 37 = .ok (.getfield 123, 3) := by decide +kernel
theorem dX11_daysTillDone_40 : decode cX11_daysTillDone 40 = .ok (.iload_n 1, 1) := by decide +kernel
theorem dX11_daysTillDone_41 : decode cX11_daysTillDone 41 = .ok (.invokevirtual 270, 3) := by decide +kernel
theorem dX11_daysTillDone_44 : decode cX11_daysTillDone 44 = .ok (.ifCond .eq 6, 3) := by decide +kernel
theorem dX11_daysTillDone_47 : decode cX11_daysTillDone 47 = .ok (.iload 4, 2) := by decide +kernel
theorem dX11_daysTillDone_49 : decode cX11_daysTillDone 49 = .ok (.ireturn, 1) := by decide +kernel
theorem dX11_daysTillDone_50 : decode cX11_daysTillDone 50 = .ok (.aload_n 0, 1) := by decide +kernel
theorem dX11_daysTillDone_51 : decode cX11_daysTillDone 51 = .ok (.getfield 29, 3) := by decide +kernel
theorem dX11_daysTillDone_54 : decode cX11_daysTillDone 54 = .ok (.iload_n 2, 1) := by decide +kernel
theorem dX11_daysTillDone_55 : decode cX11_daysTillDone 55 = .ok (.invokevirtual 376, 3) := by decide +kernel
theorem dX11_daysTillDone_58 : decode cX11_daysTillDone 58 = .ok (.ifCond .eq 23, 3) := by decide +kernel
theorem dX11_daysTillDone_61 : decode cX11_daysTillDone 61 = .ok (.iload 4, 2) := by decide +kernel
theorem dX11_daysTillDone_63 : decode cX11_daysTillDone 63 = .ok (.iload_n 3, 1) := by decide +kernel
theorem dX11_daysTillDone_64 : decode cX11_daysTillDone 64 = .ok (.if_icmp .ge 20, 3) := by decide +kernel
theorem dX11_daysTillDone_67 : decode cX11_daysTillDone 67 = .ok (.aload_n 0, 1) := by decide +kernel
theorem dX11_daysTillDone_68 : decode cX11_daysTillDone 68 = .ok (.getfield 29, 3) := by decide +kernel
theorem dX11_daysTillDone_71 : decode cX11_daysTillDone 71 = .ok (.aload_n 0, 1) := by decide +kernel
theorem dX11_daysTillDone_72 : decode cX11_daysTillDone 72 = .ok (.getfield 39, 3) := by decide +kernel
theorem dX11_daysTillDone_75 : decode cX11_daysTillDone 75 = .ok (.invokevirtual 379, 3) := by decide +kernel
theorem dX11_daysTillDone_78 : decode cX11_daysTillDone 78 = .ok (.ifCond .ne 6, 3) := by decide +kernel
theorem dX11_daysTillDone_81 : decode cX11_daysTillDone 81 = .ok (.bipush (-2), 2) := by decide +kernel
theorem dX11_daysTillDone_83 : decode cX11_daysTillDone 83 = .ok (.ireturn, 1) := by decide +kernel
theorem dX11_daysTillDone_84 : decode cX11_daysTillDone 84 = .ok (.iinc 4 1, 3) := by decide +kernel
theorem dX11_daysTillDone_87 : decode cX11_daysTillDone 87 = .ok (.goto (-73), 3) := by decide +kernel
set_option maxRecDepth 20000 in
set_option maxHeartbeats 4000000 in
theorem c_daysTill (E : xE) (l : Launch) (a : Nat → Nat) (ws : va_W) (hW : WX (okX E a) ws) (i0 : Nat) (p1 : Int32) (m0 : Nat) (hi0 : i0 ≤ 7) (hm0 : m0 ≤ 60) : xI E l yX11_daysTillDone cX11_daysTillDone 5 (some .int) 7 [.ref (a 0), .int (nI i0), .int p1, .int (nI m0)] ws (fun r w => WX (okX E a) w ∧ (r = -2 ∨ ∃ n : Nat, n ≤ m0 ∧ r = nI n)) := by
  refine xI_start (lv := [(0, .ref (a 0)), (1, .int (nI i0)), (2, .int p1), (3, .int (nI m0))]) RX11 (by decide) rfl (Nat.le_of_ble_eq_true rfl) rfl (fun p e s m below meth c A C hr hlk => ?_)
  refine x_aload_n C dX11_daysTillDone_0 rfl 0 rfl rfl ?_
  obtain ⟨_, k1, v2, rfl⟩ := hW 0 _ rfl
  refine x_get C (ci := 10) (k := 4) 0 k1 rfl in_X11 (by decide) w_389 rfl dX11_daysTillDone_1 rfl ?_
  refine x_aload_n C dX11_daysTillDone_4 rfl 0 rfl rfl ?_
  refine x_get C (ci := 10) (k := 2) 0 k1 rfl in_X11 (by decide) w_387 rfl dX11_daysTillDone_5 rfl ?_
  obtain ⟨_, k3, n4, v6, v7, v8, v9, v10, bn5, rfl⟩ := hW 49 _ rfl
  refine x_vv C (As := [.ref (a 5)]) (rest := []) (c_Town_copy E l a ws hW 49 (Or.inr (Or.inr rfl)) 5 (Or.inl rfl) (by decide)) mf_X9_copyFrom w_788 49 k3 rfl rfl rfl (Nat.le_of_ble_eq_true rfl) ⟨(Nat.le_of_ble_eq_true rfl), (Nat.le_of_ble_eq_true rfl)⟩ ⟨(Nat.le_of_ble_eq_true rfl), (Nat.le_of_ble_eq_true rfl)⟩ dX11_daysTillDone_8 rfl (fun w13 h11 => ?_)
  obtain ⟨hW14, kq15⟩ := h11
  have k16 : w13[0]? = some (ob (a 0) 10 [.ref (a 1), .ref (a 3), .ref (a 5), .ref (a 27), .ref (a 49), .int v2, .ref (a 71), .ref (a 79), .ref (a 87), .ref (a 92), .ref (a 103), .ref (a 105), .ref (a 106), .ref (a 107), .ref (a 108), .ref (a 109), .ref (a 110), .ref (a 111), .ref (a 112)]) := keeps_at kq15 k1 (by first | decide | omega | (dsimp only; omega))
  refine x_iconst C (v := 0) dX11_daysTillDone_11 (by decide) rfl ?_
  refine x_istore C (lv' := [(4, .int 0), (0, .ref (a 0)), (1, .int (nI i0)), (2, .int p1), (3, .int (nI m0))]) dX11_daysTillDone_12 (by decide) rfl rfl ?_
  have loop14 : ∀ (fu14 : Nat) (dd : Nat) (wl14 : va_W), WX (okX E a) wl14 → 61 - dd < fu14 → dd ≤ 61 → X E p l e (xRm 7 0 0) s m ([.ref (a 0), .int (nI i0), .int p1, .int (nI m0)] : List Value).toArray below meth c A 5 0 0 (MQ below (va_Qi (fun r w => WX (okX E a) w ∧ (r = -2 ∨ ∃ n : Nat, n ≤ m0 ∧ r = nI n)) (xB E A) A) ([.ref (a 0), .int (nI i0), .int p1, .int (nI m0)] : List Value).toArray s 0 0 A) wl14 14 [(0, .ref (a 0)), (1, .int (nI i0)), (2, .int p1), (3, .int (nI m0)), (4, .int (nI dd))] [] := by
    intro fu14
    induction fu14 with
    | zero => intro dd wl14 _ q; omega
    | succ fu14 ih14 =>
      intro dd wl14 hWl14 me14 iv14_0
      refine x_iload C dX11_daysTillDone_14 4 rfl rfl ?_
      refine x_iload_n C dX11_daysTillDone_16 rfl 3 rfl rfl ?_
      refine x_icmp_gt C (tgt := 90) dX11_daysTillDone_17 (by decide) rfl (fun c17 => ?_) (fun c17 => ?_)
      · skip
        have nf18 := nI_lt' (a := m0) (b := dd) c17 (by omega) (by omega)
        refine x_bipush C (v := (-2)) dX11_daysTillDone_90 (by decide) rfl ?_
        exact x_zret C hr hlk rfl dX11_daysTillDone_92 ⟨hWl14, (Or.inl rfl)⟩
      · skip
        have nf19 := nI_nlt' (a := m0) (b := dd) c17 (by omega) (by omega)
        refine x_aload_n C dX11_daysTillDone_20 rfl 0 rfl rfl ?_
        obtain ⟨_, k20, v21, rfl⟩ := hWl14 0 _ rfl
        refine x_get C (ci := 10) (k := 4) 0 k20 rfl in_X11 (by decide) w_389 rfl dX11_daysTillDone_21 rfl ?_
        refine x_iload_n C dX11_daysTillDone_24 rfl 1 rfl rfl ?_
        refine x_iload_n C dX11_daysTillDone_25 rfl 2 rfl rfl ?_
        refine x_aload_n C dX11_daysTillDone_26 rfl 0 rfl rfl ?_
        refine x_get C (ci := 10) (k := 6) 0 k20 rfl in_X11 (by decide) w_391 rfl dX11_daysTillDone_27 rfl ?_
        obtain ⟨_, k22, n23, v25, v26, v27, v28, v29, bn24, rfl⟩ := hWl14 49 _ rfl
        refine x_vv C (As := [.int (nI i0), .int p1, .ref (a 71)]) (rest := []) (c_breakAllFor E l a wl14 hWl14 49 (Or.inr (Or.inr rfl)) i0 p1 (by omega)) mf_X9_breakAllFor w_1058 49 k22 rfl rfl rfl (Nat.le_of_ble_eq_true rfl) ⟨(Nat.le_of_ble_eq_true rfl), (Nat.le_of_ble_eq_true rfl)⟩ ⟨(Nat.le_of_ble_eq_true rfl), (Nat.le_of_ble_eq_true rfl)⟩ dX11_daysTillDone_30 rfl (fun w32 h30 => ?_)
        obtain ⟨hW33, kq34⟩ := h30
        have k35 : w32[0]? = some (ob (a 0) 10 [.ref (a 1), .ref (a 3), .ref (a 5), .ref (a 27), .ref (a 49), .int v21, .ref (a 71), .ref (a 79), .ref (a 87), .ref (a 92), .ref (a 103), .ref (a 105), .ref (a 106), .ref (a 107), .ref (a 108), .ref (a 109), .ref (a 110), .ref (a 111), .ref (a 112)]) := keeps_at kq34 k20 (by first | decide | omega | (dsimp only; omega))
        refine x_aload_n C dX11_daysTillDone_33 rfl 0 rfl rfl ?_
        refine x_get C (ci := 10) (k := 4) 0 k35 rfl in_X11 (by decide) w_389 rfl dX11_daysTillDone_34 rfl ?_
        obtain ⟨_, k36, n37, v39, v40, v41, v42, v43, bn38, rfl⟩ := hW33 49 _ rfl
        refine x_get C (ci := 8) (k := 5) 49 k36 rfl in_X9 (by decide) w_213 rfl dX11_daysTillDone_37 rfl ?_
        refine x_iload_n C dX11_daysTillDone_40 rfl 1 rfl rfl ?_
        obtain ⟨_, k44, v45, rfl⟩ := hW33 65 _ rfl
        refine x_vi C (As := [.int (nI i0)]) (rest := []) (c_Works_isDone E l a w32 hW33 49 (Or.inr (Or.inr rfl)) ((nI i0))) mf_X10_isDone w_894 65 k44 rfl rfl rfl (Nat.le_of_ble_eq_true rfl) ⟨(Nat.le_of_ble_eq_true rfl), (Nat.le_of_ble_eq_true rfl)⟩ ⟨(Nat.le_of_ble_eq_true rfl), (Nat.le_of_ble_eq_true rfl)⟩ dX11_daysTillDone_41 rfl (fun r47 w48 h46 => ?_)
        obtain ⟨hW49, zb50, x51⟩ := h46
        refine x_ws hW49 ?_
        refine x_if_eq C (tgt := 50) dX11_daysTillDone_44 (by decide) rfl (fun c52 => ?_) (fun c52 => ?_)
        · skip
          refine x_aload_n C dX11_daysTillDone_50 rfl 0 rfl rfl ?_
          refine x_get C (ci := 10) (k := 4) 0 k35 rfl in_X11 (by decide) w_389 rfl dX11_daysTillDone_51 rfl ?_
          refine x_iload_n C dX11_daysTillDone_54 rfl 2 rfl rfl ?_
          refine x_vi C (As := [.int p1]) (rest := []) (c_canLayFor E l a w32 hW33 49 (Or.inr (Or.inr rfl)) p1) mf_X9_canLayFor w_1064 49 k36 rfl rfl rfl (Nat.le_of_ble_eq_true rfl) ⟨(Nat.le_of_ble_eq_true rfl), (Nat.le_of_ble_eq_true rfl)⟩ ⟨(Nat.le_of_ble_eq_true rfl), (Nat.le_of_ble_eq_true rfl)⟩ dX11_daysTillDone_55 rfl (fun r54 w55 h53 => ?_)
          obtain ⟨hW56, zb57⟩ := h53
          refine x_ws hW56 ?_
          refine x_if_eq C (tgt := 81) dX11_daysTillDone_58 (by decide) rfl (fun c58 => ?_) (fun c58 => ?_)
          · skip
            refine x_bipush C (v := (-2)) dX11_daysTillDone_81 (by decide) rfl ?_
            exact x_zret C hr hlk rfl dX11_daysTillDone_83 ⟨hW33, (Or.inl rfl)⟩
          · skip
            refine x_iload C dX11_daysTillDone_61 4 rfl rfl ?_
            refine x_iload_n C dX11_daysTillDone_63 rfl 3 rfl rfl ?_
            refine x_icmp_ge C (tgt := 84) dX11_daysTillDone_64 (by decide) rfl (fun c59 => ?_) (fun c59 => ?_)
            · skip
              have nf60 := nI_le' (a := m0) (b := dd) c59 (by omega) (by omega)
              refine x_iinc C (v := (nI (dd + 1))) (lv' := [(4, .int (nI (dd + 1))), (0, .ref (a 0)), (1, .int (nI i0)), (2, .int p1), (3, .int (nI m0))]) dX11_daysTillDone_84 4 rfl (nI_add dd 1) (by decide) rfl rfl ?_
              refine x_goto C (tgt := 14) dX11_daysTillDone_87 (by decide) ?_
              refine x_lv (lv1 := [(0, .ref (a 0)), (1, .int (nI i0)), (2, .int p1), (3, .int (nI m0)), (4, .int (nI (dd + 1)))]) [1, 2, 3, 4, 0] rfl ?_
              exact ih14 (dd + 1) w32 hW33 (by omega) (by omega)
            · skip
              have nf61 := nI_nle' (a := m0) (b := dd) c59 (by omega) (by omega)
              refine x_aload_n C dX11_daysTillDone_67 rfl 0 rfl rfl ?_
              refine x_get C (ci := 10) (k := 4) 0 k35 rfl in_X11 (by decide) w_389 rfl dX11_daysTillDone_68 rfl ?_
              refine x_aload_n C dX11_daysTillDone_71 rfl 0 rfl rfl ?_
              refine x_get C (ci := 10) (k := 6) 0 k35 rfl in_X11 (by decide) w_391 rfl dX11_daysTillDone_72 rfl ?_
              refine x_vi C (As := [.ref (a 71)]) (rest := []) (c_passDay E l a w32 hW33 49 (Or.inr (Or.inr rfl))) mf_X9_passDay w_1069 49 k36 rfl rfl rfl (Nat.le_of_ble_eq_true rfl) ⟨(Nat.le_of_ble_eq_true rfl), (Nat.le_of_ble_eq_true rfl)⟩ ⟨(Nat.le_of_ble_eq_true rfl), (Nat.le_of_ble_eq_true rfl)⟩ dX11_daysTillDone_75 rfl (fun r63 w64 h62 => ?_)
              obtain ⟨hW65, kq66, zb67⟩ := h62
              have k68 : w64[0]? = some (ob (a 0) 10 [.ref (a 1), .ref (a 3), .ref (a 5), .ref (a 27), .ref (a 49), .int v21, .ref (a 71), .ref (a 79), .ref (a 87), .ref (a 92), .ref (a 103), .ref (a 105), .ref (a 106), .ref (a 107), .ref (a 108), .ref (a 109), .ref (a 110), .ref (a 111), .ref (a 112)]) := keeps_at kq66 k35 (by first | decide | omega | (dsimp only; omega))
              refine x_if_ne C (tgt := 84) dX11_daysTillDone_78 (by decide) rfl (fun c69 => ?_) (fun c69 => ?_)
              · skip
                refine x_iinc C (v := (nI (dd + 1))) (lv' := [(4, .int (nI (dd + 1))), (0, .ref (a 0)), (1, .int (nI i0)), (2, .int p1), (3, .int (nI m0))]) dX11_daysTillDone_84 4 rfl (nI_add dd 1) (by decide) rfl rfl ?_
                refine x_goto C (tgt := 14) dX11_daysTillDone_87 (by decide) ?_
                refine x_lv (lv1 := [(0, .ref (a 0)), (1, .int (nI i0)), (2, .int p1), (3, .int (nI m0)), (4, .int (nI (dd + 1)))]) [1, 2, 3, 4, 0] rfl ?_
                exact ih14 (dd + 1) w64 hW65 (by omega) (by omega)
              · skip
                refine x_bipush C (v := (-2)) dX11_daysTillDone_81 (by decide) rfl ?_
                exact x_zret C hr hlk rfl dX11_daysTillDone_83 ⟨hW65, (Or.inl rfl)⟩
        · skip
          have wi70 := wth_le (a := 0) (b := 7) (j := i0) (x51 c52) (by omega) (by decide) (by decide)
          refine x_iload C dX11_daysTillDone_47 4 rfl rfl ?_
          exact x_zret C hr hlk rfl dX11_daysTillDone_49 ⟨hW33, (Or.inr ⟨dd, by omega, rfl⟩)⟩
  refine x_lv (lv1 := [(0, .ref (a 0)), (1, .int (nI i0)), (2, .int p1), (3, .int (nI m0)), (4, .int 0)]) [1, 2, 3, 4, 0] rfl ?_
  exact loop14 _ 0 w13 hW14 (Nat.lt_succ_self _) (by omega)
theorem dX11_soonest_0 : decode cX11_soonest 0 = .ok (.aload_n 0, 1) := by decide +kernel
theorem dX11_soonest_1 : decode cX11_soonest 1 = .ok (.getfield 22, 3) := by decide +kernel
theorem dX11_soonest_4 : decode cX11_soonest 4 = .ok (.getfield 123, 3) := by decide +kernel
theorem dX11_soonest_7 : decode cX11_soonest 7 = .ok (.iload_n 1, 1) := by decide +kernel
theorem dX11_soonest_8 : decode cX11_soonest 8 = .ok (.invokevirtual 257, 3) := by decide +kernel
theorem dX11_soonest_11 : decode cX11_soonest 11 = .ok (.ifCond .eq 23, 3) := by decide +kernel
theorem dX11_soonest_14 : decode cX11_soonest 14 = .ok (.iload_n 2, 1) := by decide +kernel
theorem dX11_soonest_15 : decode cX11_soonest 15 = .ok (.bipush 8, 2) := by decide +kernel
theorem dX11_soonest_17 : decode cX11_soonest 17 = .ok (.if_icmp .eq 19, 3) := by decide +kernel
theorem dX11_soonest_20 : decode cX11_soonest 20 = .ok (.aload_n 0, 1) := by decide +kernel
theorem dX11_soonest_21 : decode cX11_soonest 21 = .ok (.getfield 22, 3) := by decide +kernel
theorem dX11_soonest_24 : decode cX11_soonest 24 = .ok (.getfield 92, 3) := by decide +kernel
theorem dX11_soonest_27 : decode cX11_soonest 27 = .ok (.iload_n 2, 1) := by decide +kernel
theorem dX11_soonest_28 : decode cX11_soonest 28 = .ok (.invokevirtual 106, 3) := by decide +kernel
theorem dX11_soonest_31 : decode cX11_soonest 31 = .ok (.ifCond .ne 5, 3) := by decide +kernel
theorem dX11_soonest_34 : decode cX11_soonest 34 = .ok (.iconst (-1), 1) := by decide +kernel
theorem dX11_soonest_35 : decode cX11_soonest 35 = .ok (.ireturn, 1) := by decide +kernel
theorem dX11_soonest_36 : decode cX11_soonest 36 = .ok (.aload_n 0, 1) := by decide +kernel
theorem dX11_soonest_37 : decode cX11_soonest 37 = .ok (.getfield 22, 3) := by decide +kernel
theorem dX11_soonest_40 : decode cX11_soonest 40 = .ok (.getfield 123, 3) := by decide +kernel
theorem dX11_soonest_43 : decode cX11_soonest 43 = .ok (.iload_n 1, 1) := by decide +kernel
theorem dX11_soonest_44 : decode cX11_soonest 44 = .ok (.invokevirtual 270, 3) := by decide +kernel
theorem dX11_soonest_47 : decode cX11_soonest 47 = .ok (.ifCond .eq 6, 3) := by decide +kernel
theorem dX11_soonest_50 : decode cX11_soonest 50 = .ok (.bipush (-3), 2) := by decide +kernel
theorem dX11_soonest_52 : decode cX11_soonest 52 = .ok (.ireturn, 1) := by decide +kernel
theorem dX11_soonest_53 : decode cX11_soonest 53 = .ok (.iload_n 2, 1) := by decide +kernel
theorem dX11_soonest_54 : decode cX11_soonest 54 = .ok (.bipush 8, 2) := by decide +kernel
theorem dX11_soonest_56 : decode cX11_soonest 56 = .ok (.if_icmp .eq 12, 3) := by decide +kernel
theorem dX11_soonest_59 : decode cX11_soonest 59 = .ok (.aload_n 0, 1) := by decide +kernel
theorem dX11_soonest_60 : decode cX11_soonest 60 = .ok (.iload_n 1, 1) := by decide +kernel
theorem dX11_soonest_61 : decode cX11_soonest 61 = .ok (.iload_n 2, 1) := by decide +kernel
theorem dX11_soonest_62 : decode cX11_soonest 62 = .ok (.bipush 60, 2) := by decide +kernel
theorem dX11_soonest_64 : decode cX11_soonest 64 = .ok (.invokevirtual 368, 3) := by decide +kernel
theorem dX11_soonest_67 : decode cX11_soonest 67 = .ok (.ireturn, 1) := by decide +kernel
theorem dX11_soonest_68 : decode cX11_soonest 68 = .ok (.bipush (-2), 2) := by decide +kernel
theorem dX11_soonest_70 : decode cX11_soonest 70 = .ok (.istore_n 3, 1) := by decide +kernel
theorem dX11_soonest_71 : decode cX11_soonest 71 = .ok (.bipush 61, 2) := by decide +kernel
theorem dX11_soonest_73 : decode cX11_soonest 73 = .ok (.istore 4, 2) := by decide +kernel
theorem dX11_soonest_75 : decode cX11_soonest 75 = .ok (.iconst 0, 1) := by decide +kernel
theorem dX11_soonest_76 : decode cX11_soonest 76 = .ok (.istore 5, 2) := by decide +kernel
theorem dX11_soonest_78 : decode cX11_soonest 78 = .ok (.iload 5, 2) := by decide +kernel
theorem dX11_soonest_80 : decode cX11_soonest 80 = .ok (.bipush 8, 2) := by decide +kernel
theorem dX11_soonest_82 : decode cX11_soonest 82 = .ok (.if_icmp .ge 54, 3) := by decide +kernel
theorem dX11_soonest_85 : decode cX11_soonest 85 = .ok (.aload_n 0, 1) := by decide +kernel
theorem dX11_soonest_86 : decode cX11_soonest 86 = .ok (.getfield 22, 3) := by decide +kernel
theorem dX11_soonest_89 : decode cX11_soonest 89 = .ok (.getfield 92, 3) := by decide +kernel
theorem dX11_soonest_92 : decode cX11_soonest 92 = .ok (.iload 5, 2) := by decide +kernel
theorem dX11_soonest_94 : decode cX11_soonest 94 = .ok (.invokevirtual 106, 3) := by decide +kernel
theorem dX11_soonest_97 : decode cX11_soonest 97 = .ok (.ifCond .eq 17, 3) := by decide +kernel
theorem dX11_soonest_100 : decode cX11_soonest 100 = .ok (.aload_n 0, 1) := by decide +kernel
theorem dX11_soonest_101 : decode cX11_soonest 101 = .ok (.iload_n 1, 1) := by decide +kernel
theorem dX11_soonest_102 : decode cX11_soonest 102 = .ok (.iload 5, 2) := by decide +kernel
theorem dX11_soonest_104 : decode cX11_soonest 104 = .ok (.iload 4, 2) := by decide +kernel
theorem dX11_soonest_106 : decode cX11_soonest 106 = .ok (.iconst 1, 1) := by decide +kernel
theorem dX11_soonest_107 : decode cX11_soonest 107 = .ok (.isub, 1) := by decide +kernel
theorem dX11_soonest_108 : decode cX11_soonest 108 = .ok (.invokevirtual 368, 3) := by decide +kernel
theorem dX11_soonest_111 : decode cX11_soonest 111 = .ok (.goto 5, 3) := by decide +kernel
theorem dX11_soonest_114 : decode cX11_soonest 114 = .ok (.bipush (-2), 2) := by decide +kernel
theorem dX11_soonest_116 : decode cX11_soonest 116 = .ok (.istore 6, 2) := by decide +kernel
theorem dX11_soonest_118 : decode cX11_soonest 118 = .ok (.iload 6, 2) := by decide +kernel
theorem dX11_soonest_120 : decode cX11_soonest 120 = .ok (.ifCond .lt 10, 3) := by decide +kernel
theorem dX11_soonest_123 : decode cX11_soonest 123 = .ok (.iload 5, 2) := by decide +kernel
theorem dX11_soonest_125 : decode cX11_soonest 125 = .ok (.istore_n 3, 1) := by decide +kernel
theorem dX11_soonest_126 : decode cX11_soonest 126 = .ok (.iload 6, 2) := by decide +kernel
theorem dX11_soonest_128 : decode cX11_soonest 128 = .ok (.istore 4, 2) := by decide +kernel
theorem dX11_soonest_130 : decode cX11_soonest 130 = .ok (.iinc 5 1, 3) := by decide +kernel
theorem dX11_soonest_133 : decode cX11_soonest 133 = .ok (.goto (-55), 3) := by decide +kernel
theorem dX11_soonest_136 : decode cX11_soonest 136 = .ok (.iload_n 3, 1) := by decide +kernel
theorem dX11_soonest_137 : decode cX11_soonest 137 = .ok (.ireturn, 1) := by decide +kernel
set_option maxRecDepth 20000 in
set_option maxHeartbeats 4000000 in
theorem c_soonest (E : xE) (l : Launch) (a : Nat → Nat) (ws : va_W) (hW : WX (okX E a) ws) (p0 : Int32) (p1 : Int32) : xI E l yX11_soonest cX11_soonest 7 (some .int) 8 [.ref (a 0), .int p0, .int p1] ws (fun r w => WX (okX E a) w) := by
  refine xI_start (lv := [(0, .ref (a 0)), (1, .int p0), (2, .int p1)]) RX11 (by decide) rfl (Nat.le_of_ble_eq_true rfl) rfl (fun p e s m below meth c A C hr hlk => ?_)
  refine x_aload_n C dX11_soonest_0 rfl 0 rfl rfl ?_
  obtain ⟨_, k1, v2, rfl⟩ := hW 0 _ rfl
  refine x_get C (ci := 10) (k := 2) 0 k1 rfl in_X11 (by decide) w_387 rfl dX11_soonest_1 rfl ?_
  obtain ⟨_, k3, n4, v6, v7, v8, v9, v10, bn5, rfl⟩ := hW 5 _ rfl
  refine x_get C (ci := 8) (k := 5) 5 k3 rfl in_X9 (by decide) w_213 rfl dX11_soonest_4 rfl ?_
  refine x_iload_n C dX11_soonest_7 rfl 1 rfl rfl ?_
  obtain ⟨_, k11, v12, rfl⟩ := hW 21 _ rfl
  refine x_vi C (As := [.int p0]) (rest := []) (c_Works_isTold E l a ws hW 5 (Or.inl rfl) p0) mf_X10_isTold w_893 21 k11 rfl rfl rfl (Nat.le_of_ble_eq_true rfl) ⟨(Nat.le_of_ble_eq_true rfl), (Nat.le_of_ble_eq_true rfl)⟩ ⟨(Nat.le_of_ble_eq_true rfl), (Nat.le_of_ble_eq_true rfl)⟩ dX11_soonest_8 rfl (fun r14 w15 h13 => ?_)
  obtain ⟨hW16, zb17, x18⟩ := h13
  refine x_ws hW16 ?_
  refine x_if_eq C (tgt := 34) dX11_soonest_11 (by decide) rfl (fun c19 => ?_) (fun c19 => ?_)
  · skip
    refine x_iconst C (v := (-1)) dX11_soonest_34 (by decide) rfl ?_
    exact x_zret C hr hlk rfl dX11_soonest_35 hW
  · skip
    obtain ⟨j20, hl21, hh22, ej23⟩ := w_nat (a := 0) (b := 7) (by decide) (by decide) (x18 c19)
    subst ej23
    refine x_iload_n C dX11_soonest_14 rfl 2 rfl rfl ?_
    refine x_bipush C (v := 8) dX11_soonest_15 (by decide) rfl ?_
    refine x_icmp_eq C (tgt := 36) dX11_soonest_17 (by decide) rfl (fun c24 => ?_) (fun c24 => ?_)
    · skip
      refine x_aload_n C dX11_soonest_36 rfl 0 rfl rfl ?_
      refine x_get C (ci := 10) (k := 2) 0 k1 rfl in_X11 (by decide) w_387 rfl dX11_soonest_37 rfl ?_
      refine x_get C (ci := 8) (k := 5) 5 k3 rfl in_X9 (by decide) w_213 rfl dX11_soonest_40 rfl ?_
      refine x_iload_n C dX11_soonest_43 rfl 1 rfl rfl ?_
      refine x_vi C (As := [.int (nI j20)]) (rest := []) (c_Works_isDone E l a ws hW 5 (Or.inl rfl) ((nI j20))) mf_X10_isDone w_894 21 k11 rfl rfl rfl (Nat.le_of_ble_eq_true rfl) ⟨(Nat.le_of_ble_eq_true rfl), (Nat.le_of_ble_eq_true rfl)⟩ ⟨(Nat.le_of_ble_eq_true rfl), (Nat.le_of_ble_eq_true rfl)⟩ dX11_soonest_44 rfl (fun r26 w27 h25 => ?_)
      obtain ⟨hW28, zb29, x30⟩ := h25
      refine x_ws hW28 ?_
      refine x_if_eq C (tgt := 53) dX11_soonest_47 (by decide) rfl (fun c31 => ?_) (fun c31 => ?_)
      · skip
        refine x_iload_n C dX11_soonest_53 rfl 2 rfl rfl ?_
        refine x_bipush C (v := 8) dX11_soonest_54 (by decide) rfl ?_
        refine x_icmp_eq C (tgt := 68) dX11_soonest_56 (by decide) rfl (fun c32 => ?_) (fun c32 => ?_)
        · skip
          refine x_bipush C (v := (-2)) dX11_soonest_68 (by decide) rfl ?_
          refine x_istore_n C (lv' := [(3, .int (-2)), (0, .ref (a 0)), (1, .int (nI j20)), (2, .int p1)]) dX11_soonest_70 rfl (by decide) rfl rfl ?_
          refine x_bipush C (v := 61) dX11_soonest_71 (by decide) rfl ?_
          refine x_istore C (lv' := [(4, .int 61), (3, .int (-2)), (0, .ref (a 0)), (1, .int (nI j20)), (2, .int p1)]) dX11_soonest_73 (by decide) rfl rfl ?_
          refine x_iconst C (v := 0) dX11_soonest_75 (by decide) rfl ?_
          refine x_istore C (lv' := [(5, .int 0), (4, .int 61), (3, .int (-2)), (0, .ref (a 0)), (1, .int (nI j20)), (2, .int p1)]) dX11_soonest_76 (by decide) rfl rfl ?_
          have loop78 : ∀ (fu78 : Nat) (z78_3 : Int32) (fw : Nat) (q : Nat) (wl78 : va_W), WX (okX E a) wl78 → 8 - q < fu78 → q ≤ 8 → fw ≤ 61 → X E p l e (xRm 8 0 0) s m ([.ref (a 0), .int (nI j20), .int p1] : List Value).toArray below meth c A 7 0 0 (MQ below (va_Qi (fun r w => WX (okX E a) w) (xB E A) A) ([.ref (a 0), .int (nI j20), .int p1] : List Value).toArray s 0 0 A) wl78 78 [(0, .ref (a 0)), (1, .int (nI j20)), (2, .int p1), (3, .int z78_3), (4, .int (nI fw)), (5, .int (nI q))] [] := by
            intro fu78
            induction fu78 with
            | zero => intro z78_3 fw q wl78 _ q; omega
            | succ fu78 ih78 =>
              intro z78_3 fw q wl78 hWl78 me78 iv78_0 iv78_1
              refine x_iload C dX11_soonest_78 5 rfl rfl ?_
              refine x_bipush C (v := 8) dX11_soonest_80 (by decide) rfl ?_
              refine x_icmp_ge C (tgt := 136) dX11_soonest_82 (by decide) rfl (fun c33 => ?_) (fun c33 => ?_)
              · skip
                have nf34 := nI_le' (a := 8) (b := q) c33 (by omega) (by omega)
                refine x_iload_n C dX11_soonest_136 rfl 3 rfl rfl ?_
                exact x_zret C hr hlk rfl dX11_soonest_137 hWl78
              · skip
                have nf35 := nI_nle' (a := 8) (b := q) c33 (by omega) (by omega)
                refine x_aload_n C dX11_soonest_85 rfl 0 rfl rfl ?_
                obtain ⟨_, k36, v37, rfl⟩ := hWl78 0 _ rfl
                refine x_get C (ci := 10) (k := 2) 0 k36 rfl in_X11 (by decide) w_387 rfl dX11_soonest_86 rfl ?_
                obtain ⟨_, k38, n39, v41, v42, v43, v44, v45, bn40, rfl⟩ := hWl78 5 _ rfl
                refine x_get C (ci := 8) (k := 3) 5 k38 rfl in_X9 (by decide) w_204 rfl dX11_soonest_89 rfl ?_
                refine x_iload C dX11_soonest_92 5 rfl rfl ?_
                obtain ⟨_, k46, v47, rfl⟩ := hWl78 9 _ rfl
                refine x_vi C (As := [.int (nI q)]) (rest := []) (c_People_isTold E l a wl78 hWl78 5 (Or.inl rfl) ((nI q))) mf_X5_isTold w_465 9 k46 rfl rfl rfl (Nat.le_of_ble_eq_true rfl) ⟨(Nat.le_of_ble_eq_true rfl), (Nat.le_of_ble_eq_true rfl)⟩ ⟨(Nat.le_of_ble_eq_true rfl), (Nat.le_of_ble_eq_true rfl)⟩ dX11_soonest_94 rfl (fun r49 w50 h48 => ?_)
                obtain ⟨hW51, zb52, x53⟩ := h48
                refine x_ws hW51 ?_
                refine x_if_eq C (tgt := 114) dX11_soonest_97 (by decide) rfl (fun c54 => ?_) (fun c54 => ?_)
                · skip
                  refine x_bipush C (v := (-2)) dX11_soonest_114 (by decide) rfl ?_
                  refine x_istore C (lv' := [(6, .int (-2)), (0, .ref (a 0)), (1, .int (nI j20)), (2, .int p1), (3, .int z78_3), (4, .int (nI fw)), (5, .int (nI q))]) dX11_soonest_116 (by decide) rfl rfl ?_
                  refine x_iload C dX11_soonest_118 0 rfl rfl ?_
                  refine x_if_lt C (tgt := 130) dX11_soonest_120 (by decide) rfl (fun _ => ?_) (fun h => absurd h (by decide))
                  refine x_iinc C (v := (nI (q + 1))) (lv' := [(5, .int (nI (q + 1))), (6, .int (-2)), (0, .ref (a 0)), (1, .int (nI j20)), (2, .int p1), (3, .int z78_3), (4, .int (nI fw))]) dX11_soonest_130 6 rfl (nI_add q 1) (by decide) rfl rfl ?_
                  refine x_goto C (tgt := 78) dX11_soonest_133 (by decide) ?_
                  refine x_lv (lv1 := [(0, .ref (a 0)), (1, .int (nI j20)), (2, .int p1), (3, .int z78_3), (4, .int (nI fw)), (5, .int (nI (q + 1)))]) [2, 3, 4, 5, 6, 0] rfl ?_
                  exact ih78 z78_3 fw (q + 1) wl78 hWl78 (by omega) (by omega) (by omega)
                · skip
                  have wi55 := wth_le (a := 0) (b := 7) (j := q) (x53 c54) (by omega) (by decide) (by decide)
                  refine x_aload_n C dX11_soonest_100 rfl 0 rfl rfl ?_
                  refine x_iload_n C dX11_soonest_101 rfl 1 rfl rfl ?_
                  refine x_iload C dX11_soonest_102 5 rfl rfl ?_
                  refine x_iload C dX11_soonest_104 4 rfl rfl ?_
                  refine x_iconst C (v := 1) dX11_soonest_106 (by decide) rfl ?_
                  by_cases hz56 : fw = 0
                  · refine x_isub C (v := -1) dX11_soonest_107 (by rw [hz56]; decide) rfl ?_
                    refine x_vi C (As := [.int (nI j20), .int (nI q), .int (-1)]) (rest := []) (c_daysM E l a wl78 hWl78 j20 ((nI q)) (by omega)) mf_X11_daysTillDone w_1054 0 k36 rfl rfl rfl (Nat.le_of_ble_eq_true rfl) ⟨(Nat.le_of_ble_eq_true rfl), (Nat.le_of_ble_eq_true rfl)⟩ ⟨(Nat.le_of_ble_eq_true rfl), (Nat.le_of_ble_eq_true rfl)⟩ dX11_soonest_108 rfl (fun r58 w59 h57 => ?_)
                    obtain ⟨hW60, e61⟩ := h57
                    refine x_top e61 ?_
                    refine x_goto C (tgt := 116) dX11_soonest_111 (by decide) ?_
                    refine x_istore C (lv' := [(6, .int (-2)), (0, .ref (a 0)), (1, .int (nI j20)), (2, .int p1), (3, .int z78_3), (4, .int (nI fw)), (5, .int (nI q))]) dX11_soonest_116 (by decide) rfl rfl ?_
                    refine x_iload C dX11_soonest_118 0 rfl rfl ?_
                    refine x_if_lt C (tgt := 130) dX11_soonest_120 (by decide) rfl (fun _ => ?_) (fun h => absurd h (by decide))
                    refine x_iinc C (v := (nI (q + 1))) (lv' := [(5, .int (nI (q + 1))), (6, .int (-2)), (0, .ref (a 0)), (1, .int (nI j20)), (2, .int p1), (3, .int z78_3), (4, .int (nI fw))]) dX11_soonest_130 6 rfl (nI_add q 1) (by decide) rfl rfl ?_
                    refine x_goto C (tgt := 78) dX11_soonest_133 (by decide) ?_
                    refine x_lv (lv1 := [(0, .ref (a 0)), (1, .int (nI j20)), (2, .int p1), (3, .int z78_3), (4, .int (nI fw)), (5, .int (nI (q + 1)))]) [2, 3, 4, 5, 6, 0] rfl ?_
                    exact ih78 z78_3 fw (q + 1) w59 hW60 (by omega) (by omega) (by omega)
                  · refine x_isub C (v := nI (fw - 1)) dX11_soonest_107 (pk_sub (a := fw) (b := 1) (by omega)) rfl ?_
                    refine x_vi C (As := [.int (nI j20), .int (nI q), .int (nI (fw - 1))]) (rest := []) (c_daysTill E l a wl78 hWl78 j20 ((nI q)) (fw - 1) (by omega) (by omega)) mf_X11_daysTillDone w_1054 0 k36 rfl rfl rfl (Nat.le_of_ble_eq_true rfl) ⟨(Nat.le_of_ble_eq_true rfl), (Nat.le_of_ble_eq_true rfl)⟩ ⟨(Nat.le_of_ble_eq_true rfl), (Nat.le_of_ble_eq_true rfl)⟩ dX11_soonest_108 rfl (fun r63 w64 h62 => ?_)
                    obtain ⟨hW65, x66⟩ := h62
                    rcases x66 with e67 | ⟨n68, hn69, en70⟩
                    · refine x_top e67 ?_
                      refine x_goto C (tgt := 116) dX11_soonest_111 (by decide) ?_
                      refine x_istore C (lv' := [(6, .int (-2)), (0, .ref (a 0)), (1, .int (nI j20)), (2, .int p1), (3, .int z78_3), (4, .int (nI fw)), (5, .int (nI q))]) dX11_soonest_116 (by decide) rfl rfl ?_
                      refine x_iload C dX11_soonest_118 0 rfl rfl ?_
                      refine x_if_lt C (tgt := 130) dX11_soonest_120 (by decide) rfl (fun _ => ?_) (fun h => absurd h (by decide))
                      refine x_iinc C (v := (nI (q + 1))) (lv' := [(5, .int (nI (q + 1))), (6, .int (-2)), (0, .ref (a 0)), (1, .int (nI j20)), (2, .int p1), (3, .int z78_3), (4, .int (nI fw))]) dX11_soonest_130 6 rfl (nI_add q 1) (by decide) rfl rfl ?_
                      refine x_goto C (tgt := 78) dX11_soonest_133 (by decide) ?_
                      refine x_lv (lv1 := [(0, .ref (a 0)), (1, .int (nI j20)), (2, .int p1), (3, .int z78_3), (4, .int (nI fw)), (5, .int (nI (q + 1)))]) [2, 3, 4, 5, 6, 0] rfl ?_
                      exact ih78 z78_3 fw (q + 1) w64 hW65 (by omega) (by omega) (by omega)
                    · refine x_top en70 ?_
                      refine x_goto C (tgt := 116) dX11_soonest_111 (by decide) ?_
                      refine x_istore C (lv' := [(6, .int (nI n68)), (0, .ref (a 0)), (1, .int (nI j20)), (2, .int p1), (3, .int z78_3), (4, .int (nI fw)), (5, .int (nI q))]) dX11_soonest_116 (by decide) rfl rfl ?_
                      refine x_iload C dX11_soonest_118 0 rfl rfl ?_
                      refine x_if_lt C (tgt := 130) dX11_soonest_120 (by decide) rfl (fun c71 => ?_) (fun c71 => ?_)
                      · skip
                        have nf72 := nI_lt' (a := n68) (b := 0) c71 (by omega) (by omega)
                        refine x_iinc C (v := (nI (q + 1))) (lv' := [(5, .int (nI (q + 1))), (6, .int (nI n68)), (0, .ref (a 0)), (1, .int (nI j20)), (2, .int p1), (3, .int z78_3), (4, .int (nI fw))]) dX11_soonest_130 6 rfl (nI_add q 1) (by decide) rfl rfl ?_
                        refine x_goto C (tgt := 78) dX11_soonest_133 (by decide) ?_
                        refine x_lv (lv1 := [(0, .ref (a 0)), (1, .int (nI j20)), (2, .int p1), (3, .int z78_3), (4, .int (nI fw)), (5, .int (nI (q + 1)))]) [2, 3, 4, 5, 6, 0] rfl ?_
                        exact ih78 z78_3 fw (q + 1) w64 hW65 (by omega) (by omega) (by omega)
                      · skip
                        have nf73 := nI_nlt' (a := n68) (b := 0) c71 (by omega) (by omega)
                        refine x_iload C dX11_soonest_123 6 rfl rfl ?_
                        refine x_istore_n C (lv' := [(3, .int (nI q)), (6, .int (nI n68)), (0, .ref (a 0)), (1, .int (nI j20)), (2, .int p1), (4, .int (nI fw)), (5, .int (nI q))]) dX11_soonest_125 rfl (by decide) rfl rfl ?_
                        refine x_iload C dX11_soonest_126 1 rfl rfl ?_
                        refine x_istore C (lv' := [(4, .int (nI n68)), (3, .int (nI q)), (6, .int (nI n68)), (0, .ref (a 0)), (1, .int (nI j20)), (2, .int p1), (5, .int (nI q))]) dX11_soonest_128 (by decide) rfl rfl ?_
                        refine x_iinc C (v := (nI (q + 1))) (lv' := [(5, .int (nI (q + 1))), (4, .int (nI n68)), (3, .int (nI q)), (6, .int (nI n68)), (0, .ref (a 0)), (1, .int (nI j20)), (2, .int p1)]) dX11_soonest_130 6 rfl (nI_add q 1) (by decide) rfl rfl ?_
                        refine x_goto C (tgt := 78) dX11_soonest_133 (by decide) ?_
                        refine x_lv (lv1 := [(0, .ref (a 0)), (1, .int (nI j20)), (2, .int p1), (3, .int (nI q)), (4, .int (nI n68)), (5, .int (nI (q + 1)))]) [4, 5, 6, 2, 1, 0] rfl ?_
                        exact ih78 ((nI q)) n68 (q + 1) w64 hW65 (by omega) (by omega) (by omega)
          refine x_lv (lv1 := [(0, .ref (a 0)), (1, .int (nI j20)), (2, .int p1), (3, .int (-2)), (4, .int 61), (5, .int 0)]) [3, 4, 5, 2, 1, 0] rfl ?_
          exact loop78 _ ((-2) : Int32) 61 0 ws hW (Nat.lt_succ_self _) (by omega) (by omega)
        · skip
          refine x_aload_n C dX11_soonest_59 rfl 0 rfl rfl ?_
          refine x_iload_n C dX11_soonest_60 rfl 1 rfl rfl ?_
          refine x_iload_n C dX11_soonest_61 rfl 2 rfl rfl ?_
          refine x_bipush C (v := 60) dX11_soonest_62 (by decide) rfl ?_
          refine x_vi C (As := [.int (nI j20), .int p1, .int 60]) (rest := []) (c_daysTill E l a ws hW j20 p1 60 (by omega) (by omega)) mf_X11_daysTillDone w_1054 0 k1 rfl rfl rfl (Nat.le_of_ble_eq_true rfl) ⟨(Nat.le_of_ble_eq_true rfl), (Nat.le_of_ble_eq_true rfl)⟩ ⟨(Nat.le_of_ble_eq_true rfl), (Nat.le_of_ble_eq_true rfl)⟩ dX11_soonest_64 rfl (fun r75 w76 h74 => ?_)
          obtain ⟨hW77, x78⟩ := h74
          exact x_zret C hr hlk rfl dX11_soonest_67 hW77
      · skip
        have wi79 := wth_le (a := 0) (b := 7) (j := j20) (x30 c31) (by omega) (by decide) (by decide)
        refine x_bipush C (v := (-3)) dX11_soonest_50 (by decide) rfl ?_
        exact x_zret C hr hlk rfl dX11_soonest_52 hW
    · skip
      refine x_aload_n C dX11_soonest_20 rfl 0 rfl rfl ?_
      refine x_get C (ci := 10) (k := 2) 0 k1 rfl in_X11 (by decide) w_387 rfl dX11_soonest_21 rfl ?_
      refine x_get C (ci := 8) (k := 3) 5 k3 rfl in_X9 (by decide) w_204 rfl dX11_soonest_24 rfl ?_
      refine x_iload_n C dX11_soonest_27 rfl 2 rfl rfl ?_
      obtain ⟨_, k80, v81, rfl⟩ := hW 9 _ rfl
      refine x_vi C (As := [.int p1]) (rest := []) (c_People_isTold E l a ws hW 5 (Or.inl rfl) p1) mf_X5_isTold w_465 9 k80 rfl rfl rfl (Nat.le_of_ble_eq_true rfl) ⟨(Nat.le_of_ble_eq_true rfl), (Nat.le_of_ble_eq_true rfl)⟩ ⟨(Nat.le_of_ble_eq_true rfl), (Nat.le_of_ble_eq_true rfl)⟩ dX11_soonest_28 rfl (fun r83 w84 h82 => ?_)
      obtain ⟨hW85, zb86, x87⟩ := h82
      refine x_ws hW85 ?_
      refine x_if_ne C (tgt := 36) dX11_soonest_31 (by decide) rfl (fun c88 => ?_) (fun c88 => ?_)
      · skip
        obtain ⟨j89, hl90, hh91, ej92⟩ := w_nat (a := 0) (b := 7) (by decide) (by decide) (x87 c88)
        subst ej92
        refine x_aload_n C dX11_soonest_36 rfl 0 rfl rfl ?_
        refine x_get C (ci := 10) (k := 2) 0 k1 rfl in_X11 (by decide) w_387 rfl dX11_soonest_37 rfl ?_
        refine x_get C (ci := 8) (k := 5) 5 k3 rfl in_X9 (by decide) w_213 rfl dX11_soonest_40 rfl ?_
        refine x_iload_n C dX11_soonest_43 rfl 1 rfl rfl ?_
        refine x_vi C (As := [.int (nI j20)]) (rest := []) (c_Works_isDone E l a ws hW 5 (Or.inl rfl) ((nI j20))) mf_X10_isDone w_894 21 k11 rfl rfl rfl (Nat.le_of_ble_eq_true rfl) ⟨(Nat.le_of_ble_eq_true rfl), (Nat.le_of_ble_eq_true rfl)⟩ ⟨(Nat.le_of_ble_eq_true rfl), (Nat.le_of_ble_eq_true rfl)⟩ dX11_soonest_44 rfl (fun r94 w95 h93 => ?_)
        obtain ⟨hW96, zb97, x98⟩ := h93
        refine x_ws hW96 ?_
        refine x_if_eq C (tgt := 53) dX11_soonest_47 (by decide) rfl (fun c99 => ?_) (fun c99 => ?_)
        · skip
          refine x_iload_n C dX11_soonest_53 rfl 2 rfl rfl ?_
          refine x_bipush C (v := 8) dX11_soonest_54 (by decide) rfl ?_
          refine x_icmp_eq C (tgt := 68) dX11_soonest_56 (by decide) rfl (fun c100 => ?_) (fun c100 => ?_)
          · skip
            have nf101 : j89 = 8 := (nI_eq (by omega) (by omega)).mp c100
            refine x_bipush C (v := (-2)) dX11_soonest_68 (by decide) rfl ?_
            refine x_istore_n C (lv' := [(3, .int (-2)), (0, .ref (a 0)), (1, .int (nI j20)), (2, .int (nI j89))]) dX11_soonest_70 rfl (by decide) rfl rfl ?_
            refine x_bipush C (v := 61) dX11_soonest_71 (by decide) rfl ?_
            refine x_istore C (lv' := [(4, .int 61), (3, .int (-2)), (0, .ref (a 0)), (1, .int (nI j20)), (2, .int (nI j89))]) dX11_soonest_73 (by decide) rfl rfl ?_
            refine x_iconst C (v := 0) dX11_soonest_75 (by decide) rfl ?_
            refine x_istore C (lv' := [(5, .int 0), (4, .int 61), (3, .int (-2)), (0, .ref (a 0)), (1, .int (nI j20)), (2, .int (nI j89))]) dX11_soonest_76 (by decide) rfl rfl ?_
            have loop78 : ∀ (fu78 : Nat) (z78_3 : Int32) (fw : Nat) (q : Nat) (wl78 : va_W), WX (okX E a) wl78 → 8 - q < fu78 → q ≤ 8 → fw ≤ 61 → X E p l e (xRm 8 0 0) s m ([.ref (a 0), .int (nI j20), .int (nI j89)] : List Value).toArray below meth c A 7 0 0 (MQ below (va_Qi (fun r w => WX (okX E a) w) (xB E A) A) ([.ref (a 0), .int (nI j20), .int (nI j89)] : List Value).toArray s 0 0 A) wl78 78 [(0, .ref (a 0)), (1, .int (nI j20)), (2, .int (nI j89)), (3, .int z78_3), (4, .int (nI fw)), (5, .int (nI q))] [] := by
              intro fu78
              induction fu78 with
              | zero => intro z78_3 fw q wl78 _ q; omega
              | succ fu78 ih78 =>
                intro z78_3 fw q wl78 hWl78 me78 iv78_0 iv78_1
                refine x_iload C dX11_soonest_78 5 rfl rfl ?_
                refine x_bipush C (v := 8) dX11_soonest_80 (by decide) rfl ?_
                refine x_icmp_ge C (tgt := 136) dX11_soonest_82 (by decide) rfl (fun c102 => ?_) (fun c102 => ?_)
                · skip
                  have nf103 := nI_le' (a := 8) (b := q) c102 (by omega) (by omega)
                  refine x_iload_n C dX11_soonest_136 rfl 3 rfl rfl ?_
                  exact x_zret C hr hlk rfl dX11_soonest_137 hWl78
                · skip
                  have nf104 := nI_nle' (a := 8) (b := q) c102 (by omega) (by omega)
                  refine x_aload_n C dX11_soonest_85 rfl 0 rfl rfl ?_
                  obtain ⟨_, k105, v106, rfl⟩ := hWl78 0 _ rfl
                  refine x_get C (ci := 10) (k := 2) 0 k105 rfl in_X11 (by decide) w_387 rfl dX11_soonest_86 rfl ?_
                  obtain ⟨_, k107, n108, v110, v111, v112, v113, v114, bn109, rfl⟩ := hWl78 5 _ rfl
                  refine x_get C (ci := 8) (k := 3) 5 k107 rfl in_X9 (by decide) w_204 rfl dX11_soonest_89 rfl ?_
                  refine x_iload C dX11_soonest_92 5 rfl rfl ?_
                  obtain ⟨_, k115, v116, rfl⟩ := hWl78 9 _ rfl
                  refine x_vi C (As := [.int (nI q)]) (rest := []) (c_People_isTold E l a wl78 hWl78 5 (Or.inl rfl) ((nI q))) mf_X5_isTold w_465 9 k115 rfl rfl rfl (Nat.le_of_ble_eq_true rfl) ⟨(Nat.le_of_ble_eq_true rfl), (Nat.le_of_ble_eq_true rfl)⟩ ⟨(Nat.le_of_ble_eq_true rfl), (Nat.le_of_ble_eq_true rfl)⟩ dX11_soonest_94 rfl (fun r118 w119 h117 => ?_)
                  obtain ⟨hW120, zb121, x122⟩ := h117
                  refine x_ws hW120 ?_
                  refine x_if_eq C (tgt := 114) dX11_soonest_97 (by decide) rfl (fun c123 => ?_) (fun c123 => ?_)
                  · skip
                    refine x_bipush C (v := (-2)) dX11_soonest_114 (by decide) rfl ?_
                    refine x_istore C (lv' := [(6, .int (-2)), (0, .ref (a 0)), (1, .int (nI j20)), (2, .int (nI j89)), (3, .int z78_3), (4, .int (nI fw)), (5, .int (nI q))]) dX11_soonest_116 (by decide) rfl rfl ?_
                    refine x_iload C dX11_soonest_118 0 rfl rfl ?_
                    refine x_if_lt C (tgt := 130) dX11_soonest_120 (by decide) rfl (fun _ => ?_) (fun h => absurd h (by decide))
                    refine x_iinc C (v := (nI (q + 1))) (lv' := [(5, .int (nI (q + 1))), (6, .int (-2)), (0, .ref (a 0)), (1, .int (nI j20)), (2, .int (nI j89)), (3, .int z78_3), (4, .int (nI fw))]) dX11_soonest_130 6 rfl (nI_add q 1) (by decide) rfl rfl ?_
                    refine x_goto C (tgt := 78) dX11_soonest_133 (by decide) ?_
                    refine x_lv (lv1 := [(0, .ref (a 0)), (1, .int (nI j20)), (2, .int (nI j89)), (3, .int z78_3), (4, .int (nI fw)), (5, .int (nI (q + 1)))]) [2, 3, 4, 5, 6, 0] rfl ?_
                    exact ih78 z78_3 fw (q + 1) wl78 hWl78 (by omega) (by omega) (by omega)
                  · skip
                    have wi124 := wth_le (a := 0) (b := 7) (j := q) (x122 c123) (by omega) (by decide) (by decide)
                    refine x_aload_n C dX11_soonest_100 rfl 0 rfl rfl ?_
                    refine x_iload_n C dX11_soonest_101 rfl 1 rfl rfl ?_
                    refine x_iload C dX11_soonest_102 5 rfl rfl ?_
                    refine x_iload C dX11_soonest_104 4 rfl rfl ?_
                    refine x_iconst C (v := 1) dX11_soonest_106 (by decide) rfl ?_
                    by_cases hz125 : fw = 0
                    · refine x_isub C (v := -1) dX11_soonest_107 (by rw [hz125]; decide) rfl ?_
                      refine x_vi C (As := [.int (nI j20), .int (nI q), .int (-1)]) (rest := []) (c_daysM E l a wl78 hWl78 j20 ((nI q)) (by omega)) mf_X11_daysTillDone w_1054 0 k105 rfl rfl rfl (Nat.le_of_ble_eq_true rfl) ⟨(Nat.le_of_ble_eq_true rfl), (Nat.le_of_ble_eq_true rfl)⟩ ⟨(Nat.le_of_ble_eq_true rfl), (Nat.le_of_ble_eq_true rfl)⟩ dX11_soonest_108 rfl (fun r127 w128 h126 => ?_)
                      obtain ⟨hW129, e130⟩ := h126
                      refine x_top e130 ?_
                      refine x_goto C (tgt := 116) dX11_soonest_111 (by decide) ?_
                      refine x_istore C (lv' := [(6, .int (-2)), (0, .ref (a 0)), (1, .int (nI j20)), (2, .int (nI j89)), (3, .int z78_3), (4, .int (nI fw)), (5, .int (nI q))]) dX11_soonest_116 (by decide) rfl rfl ?_
                      refine x_iload C dX11_soonest_118 0 rfl rfl ?_
                      refine x_if_lt C (tgt := 130) dX11_soonest_120 (by decide) rfl (fun _ => ?_) (fun h => absurd h (by decide))
                      refine x_iinc C (v := (nI (q + 1))) (lv' := [(5, .int (nI (q + 1))), (6, .int (-2)), (0, .ref (a 0)), (1, .int (nI j20)), (2, .int (nI j89)), (3, .int z78_3), (4, .int (nI fw))]) dX11_soonest_130 6 rfl (nI_add q 1) (by decide) rfl rfl ?_
                      refine x_goto C (tgt := 78) dX11_soonest_133 (by decide) ?_
                      refine x_lv (lv1 := [(0, .ref (a 0)), (1, .int (nI j20)), (2, .int (nI j89)), (3, .int z78_3), (4, .int (nI fw)), (5, .int (nI (q + 1)))]) [2, 3, 4, 5, 6, 0] rfl ?_
                      exact ih78 z78_3 fw (q + 1) w128 hW129 (by omega) (by omega) (by omega)
                    · refine x_isub C (v := nI (fw - 1)) dX11_soonest_107 (pk_sub (a := fw) (b := 1) (by omega)) rfl ?_
                      refine x_vi C (As := [.int (nI j20), .int (nI q), .int (nI (fw - 1))]) (rest := []) (c_daysTill E l a wl78 hWl78 j20 ((nI q)) (fw - 1) (by omega) (by omega)) mf_X11_daysTillDone w_1054 0 k105 rfl rfl rfl (Nat.le_of_ble_eq_true rfl) ⟨(Nat.le_of_ble_eq_true rfl), (Nat.le_of_ble_eq_true rfl)⟩ ⟨(Nat.le_of_ble_eq_true rfl), (Nat.le_of_ble_eq_true rfl)⟩ dX11_soonest_108 rfl (fun r132 w133 h131 => ?_)
                      obtain ⟨hW134, x135⟩ := h131
                      rcases x135 with e136 | ⟨n137, hn138, en139⟩
                      · refine x_top e136 ?_
                        refine x_goto C (tgt := 116) dX11_soonest_111 (by decide) ?_
                        refine x_istore C (lv' := [(6, .int (-2)), (0, .ref (a 0)), (1, .int (nI j20)), (2, .int (nI j89)), (3, .int z78_3), (4, .int (nI fw)), (5, .int (nI q))]) dX11_soonest_116 (by decide) rfl rfl ?_
                        refine x_iload C dX11_soonest_118 0 rfl rfl ?_
                        refine x_if_lt C (tgt := 130) dX11_soonest_120 (by decide) rfl (fun _ => ?_) (fun h => absurd h (by decide))
                        refine x_iinc C (v := (nI (q + 1))) (lv' := [(5, .int (nI (q + 1))), (6, .int (-2)), (0, .ref (a 0)), (1, .int (nI j20)), (2, .int (nI j89)), (3, .int z78_3), (4, .int (nI fw))]) dX11_soonest_130 6 rfl (nI_add q 1) (by decide) rfl rfl ?_
                        refine x_goto C (tgt := 78) dX11_soonest_133 (by decide) ?_
                        refine x_lv (lv1 := [(0, .ref (a 0)), (1, .int (nI j20)), (2, .int (nI j89)), (3, .int z78_3), (4, .int (nI fw)), (5, .int (nI (q + 1)))]) [2, 3, 4, 5, 6, 0] rfl ?_
                        exact ih78 z78_3 fw (q + 1) w133 hW134 (by omega) (by omega) (by omega)
                      · refine x_top en139 ?_
                        refine x_goto C (tgt := 116) dX11_soonest_111 (by decide) ?_
                        refine x_istore C (lv' := [(6, .int (nI n137)), (0, .ref (a 0)), (1, .int (nI j20)), (2, .int (nI j89)), (3, .int z78_3), (4, .int (nI fw)), (5, .int (nI q))]) dX11_soonest_116 (by decide) rfl rfl ?_
                        refine x_iload C dX11_soonest_118 0 rfl rfl ?_
                        refine x_if_lt C (tgt := 130) dX11_soonest_120 (by decide) rfl (fun c140 => ?_) (fun c140 => ?_)
                        · skip
                          have nf141 := nI_lt' (a := n137) (b := 0) c140 (by omega) (by omega)
                          refine x_iinc C (v := (nI (q + 1))) (lv' := [(5, .int (nI (q + 1))), (6, .int (nI n137)), (0, .ref (a 0)), (1, .int (nI j20)), (2, .int (nI j89)), (3, .int z78_3), (4, .int (nI fw))]) dX11_soonest_130 6 rfl (nI_add q 1) (by decide) rfl rfl ?_
                          refine x_goto C (tgt := 78) dX11_soonest_133 (by decide) ?_
                          refine x_lv (lv1 := [(0, .ref (a 0)), (1, .int (nI j20)), (2, .int (nI j89)), (3, .int z78_3), (4, .int (nI fw)), (5, .int (nI (q + 1)))]) [2, 3, 4, 5, 6, 0] rfl ?_
                          exact ih78 z78_3 fw (q + 1) w133 hW134 (by omega) (by omega) (by omega)
                        · skip
                          have nf142 := nI_nlt' (a := n137) (b := 0) c140 (by omega) (by omega)
                          refine x_iload C dX11_soonest_123 6 rfl rfl ?_
                          refine x_istore_n C (lv' := [(3, .int (nI q)), (6, .int (nI n137)), (0, .ref (a 0)), (1, .int (nI j20)), (2, .int (nI j89)), (4, .int (nI fw)), (5, .int (nI q))]) dX11_soonest_125 rfl (by decide) rfl rfl ?_
                          refine x_iload C dX11_soonest_126 1 rfl rfl ?_
                          refine x_istore C (lv' := [(4, .int (nI n137)), (3, .int (nI q)), (6, .int (nI n137)), (0, .ref (a 0)), (1, .int (nI j20)), (2, .int (nI j89)), (5, .int (nI q))]) dX11_soonest_128 (by decide) rfl rfl ?_
                          refine x_iinc C (v := (nI (q + 1))) (lv' := [(5, .int (nI (q + 1))), (4, .int (nI n137)), (3, .int (nI q)), (6, .int (nI n137)), (0, .ref (a 0)), (1, .int (nI j20)), (2, .int (nI j89))]) dX11_soonest_130 6 rfl (nI_add q 1) (by decide) rfl rfl ?_
                          refine x_goto C (tgt := 78) dX11_soonest_133 (by decide) ?_
                          refine x_lv (lv1 := [(0, .ref (a 0)), (1, .int (nI j20)), (2, .int (nI j89)), (3, .int (nI q)), (4, .int (nI n137)), (5, .int (nI (q + 1)))]) [4, 5, 6, 2, 1, 0] rfl ?_
                          exact ih78 ((nI q)) n137 (q + 1) w133 hW134 (by omega) (by omega) (by omega)
            refine x_lv (lv1 := [(0, .ref (a 0)), (1, .int (nI j20)), (2, .int (nI j89)), (3, .int (-2)), (4, .int 61), (5, .int 0)]) [3, 4, 5, 2, 1, 0] rfl ?_
            exact loop78 _ ((-2) : Int32) 61 0 ws hW (Nat.lt_succ_self _) (by omega) (by omega)
          · skip
            have nf143 : ¬ j89 = 8 := fun q => c100 (congrArg nI q)
            refine x_aload_n C dX11_soonest_59 rfl 0 rfl rfl ?_
            refine x_iload_n C dX11_soonest_60 rfl 1 rfl rfl ?_
            refine x_iload_n C dX11_soonest_61 rfl 2 rfl rfl ?_
            refine x_bipush C (v := 60) dX11_soonest_62 (by decide) rfl ?_
            refine x_vi C (As := [.int (nI j20), .int (nI j89), .int 60]) (rest := []) (c_daysTill E l a ws hW j20 ((nI j89)) 60 (by omega) (by omega)) mf_X11_daysTillDone w_1054 0 k1 rfl rfl rfl (Nat.le_of_ble_eq_true rfl) ⟨(Nat.le_of_ble_eq_true rfl), (Nat.le_of_ble_eq_true rfl)⟩ ⟨(Nat.le_of_ble_eq_true rfl), (Nat.le_of_ble_eq_true rfl)⟩ dX11_soonest_64 rfl (fun r145 w146 h144 => ?_)
            obtain ⟨hW147, x148⟩ := h144
            exact x_zret C hr hlk rfl dX11_soonest_67 hW147
        · skip
          have wi149 := wth_le (a := 0) (b := 7) (j := j20) (x98 c99) (by omega) (by decide) (by decide)
          refine x_bipush C (v := (-3)) dX11_soonest_50 (by decide) rfl ?_
          exact x_zret C hr hlk rfl dX11_soonest_52 hW
      · skip
        refine x_iconst C (v := (-1)) dX11_soonest_34 (by decide) rfl ?_
        exact x_zret C hr hlk rfl dX11_soonest_35 hW
theorem dX11_barter_0 : decode cX11_barter 0 = .ok (.aload_n 0, 1) := by decide +kernel
theorem dX11_barter_1 : decode cX11_barter 1 = .ok (.getfield 22, 3) := by decide +kernel
theorem dX11_barter_4 : decode cX11_barter 4 = .ok (.getfield 92, 3) := by decide +kernel
theorem dX11_barter_7 : decode cX11_barter 7 = .ok (.iload_n 1, 1) := by decide +kernel
theorem dX11_barter_8 : decode cX11_barter 8 = .ok (.invokevirtual 106, 3) := by decide +kernel
theorem dX11_barter_11 : decode cX11_barter 11 = .ok (.ifCond .eq 55, 3) := by decide +kernel
theorem dX11_barter_14 : decode cX11_barter 14 = .ok (.aload_n 0, 1) := by decide +kernel
theorem dX11_barter_15 : decode cX11_barter 15 = .ok (.getfield 22, 3) := by decide +kernel
theorem dX11_barter_18 : decode cX11_barter 18 = .ok (.getfield 92, 3) := by decide +kernel
theorem dX11_barter_21 : decode cX11_barter 21 = .ok (.iload_n 2, 1) := by decide +kernel
theorem dX11_barter_22 : decode cX11_barter 22 = .ok (.invokevirtual 106, 3) := by decide +kernel
theorem dX11_barter_25 : decode cX11_barter 25 = .ok (.ifCond .eq 41, 3) := by decide +kernel
theorem dX11_barter_28 : decode cX11_barter 28 = .ok (.iload_n 1, 1) := by decide +kernel
theorem dX11_barter_29 : decode cX11_barter 29 = .ok (.iload_n 2, 1) := by decide +kernel
theorem dX11_barter_30 : decode cX11_barter 30 = .ok (.if_icmp .eq 36, 3) := by decide +kernel
theorem dX11_barter_33 : decode cX11_barter 33 = .ok (.iload_n 3, 1) := by decide +kernel
theorem dX11_barter_34 : decode cX11_barter 34 = .ok (.iconst 0, 1) := by decide +kernel
theorem dX11_barter_35 : decode cX11_barter 35 = .ok (.sipush 9999, 3) := by decide +kernel
theorem dX11_barter_38 : decode cX11_barter 38 = .ok (.invokestatic 102, 3) := by decide +kernel
theorem dX11_barter_41 : decode cX11_barter 41 = .ok (.ifCond .eq 25, 3) := by decide +kernel
theorem dX11_barter_44 : decode cX11_barter 44 = .ok (.iload 4, 2) := by decide +kernel
theorem dX11_barter_46 : decode cX11_barter 46 = .ok (.iconst 0, 1) := by decide +kernel
theorem dX11_barter_47 : decode cX11_barter 47 = .ok (.sipush 9999, 3) := by decide +kernel
theorem dX11_barter_50 : decode cX11_barter 50 = .ok (.invokestatic 102, 3) := by decide +kernel
theorem dX11_barter_53 : decode cX11_barter 53 = .ok (.ifCond .eq 13, 3) := by decide +kernel
theorem dX11_barter_56 : decode cX11_barter 56 = .ok (.iload 5, 2) := by decide +kernel
theorem dX11_barter_58 : decode cX11_barter 58 = .ok (.iconst 0, 1) := by decide +kernel
theorem dX11_barter_59 : decode cX11_barter 59 = .ok (.iconst 2, 1) := by decide +kernel
theorem dX11_barter_60 : decode cX11_barter 60 = .ok (.invokestatic 102, 3) := by decide +kernel
theorem dX11_barter_63 : decode cX11_barter 63 = .ok (.ifCond .ne 5, 3) := by decide +kernel
theorem dX11_barter_66 : decode cX11_barter 66 = .ok (.iconst (-1), 1) := by decide +kernel
theorem dX11_barter_67 : decode cX11_barter 67 = .ok (.ireturn, 1) := by decide +kernel
theorem dX11_barter_68 : decode cX11_barter 68 = .ok (.aload_n 0, 1) := by decide +kernel
theorem dX11_barter_69 : decode cX11_barter 69 = .ok (.getfield 22, 3) := by decide +kernel
theorem dX11_barter_72 : decode cX11_barter 72 = .ok (.getfield 132, 3) := by decide +kernel
theorem dX11_barter_75 : decode cX11_barter 75 = .ok (.iload_n 1, 1) := by decide +kernel
theorem dX11_barter_76 : decode cX11_barter 76 = .ok (.invokevirtual 251, 3) := by decide +kernel
theorem dX11_barter_79 : decode cX11_barter 79 = .ok (.iload_n 3, 1) := by decide +kernel
theorem dX11_barter_80 : decode cX11_barter 80 = .ok (.isub, 1) := by decide +kernel
theorem dX11_barter_81 : decode cX11_barter 81 = .ok (.istore 6, 2) := by decide +kernel
theorem dX11_barter_83 : decode cX11_barter 83 = .ok (.aload_n 0, 1) := by decide +kernel
theorem dX11_barter_84 : decode cX11_barter 84 = .ok (.getfield 22, 3) := by decide +kernel
theorem dX11_barter_87 : decode cX11_barter 87 = .ok (.getfield 132, 3) := by decide +kernel
theorem dX11_barter_90 : decode cX11_barter 90 = .ok (.iload_n 2, 1) := by decide +kernel
theorem dX11_barter_91 : decode cX11_barter 91 = .ok (.invokevirtual 251, 3) := by decide +kernel
theorem dX11_barter_94 : decode cX11_barter 94 = .ok (.iload 4, 2) := by decide +kernel
theorem dX11_barter_96 : decode cX11_barter 96 = .ok (.isub, 1) := by decide +kernel
theorem dX11_barter_97 : decode cX11_barter 97 = .ok (.istore 7, 2) := by decide +kernel
theorem dX11_barter_99 : decode cX11_barter 99 = .ok (.iconst 0, 1) := by decide +kernel
theorem dX11_barter_100 : decode cX11_barter 100 = .ok (.istore 8, 2) := by decide +kernel
theorem dX11_barter_102 : decode cX11_barter 102 = .ok (.bipush (-2), 2) := by decide +kernel
theorem dX11_barter_104 : decode cX11_barter 104 = .ok (.istore 9, 2) := by decide +kernel
theorem dX11_barter_106 : decode cX11_barter 106 = .ok (.aload_n 0, 1) := by decide +kernel
theorem dX11_barter_107 : decode cX11_barter 107 = .ok (.getfield 22, 3) := by decide +kernel
theorem dX11_barter_110 : decode cX11_barter 110 = .ok (.getfield 132, 3) := by decide +kernel
theorem dX11_barter_113 : decode cX11_barter 113 = .ok (.getfield 383, 3) := by decide +kernel
theorem dX11_barter_116 : decode cX11_barter 116 = .ok (.iconst 1, 1) := by decide +kernel
theorem dX11_barter_117 : decode cX11_barter 117 = .ok (.isub, 1) := by decide +kernel
theorem dX11_barter_118 : decode cX11_barter 118 = .ok (.istore 10, 2) := by decide +kernel
theorem dX11_barter_120 : decode cX11_barter 120 = .ok (.iload 10, 2) := by decide +kernel
theorem dX11_barter_122 : decode cX11_barter 122 = .ok (.ifCond .lt 134, 3) := by decide +kernel
theorem dX11_barter_125 : decode cX11_barter 125 = .ok (.aload_n 0, 1) := by decide +kernel
theorem dX11_barter_126 : decode cX11_barter 126 = .ok (.getfield 22, 3) := by decide +kernel
theorem dX11_barter_129 : decode cX11_barter 129 = .ok (.getfield 132, 3) := by decide +kernel
theorem dX11_barter_132 : decode cX11_barter 132 = .ok (.getfield 383, 3) := by decide +kernel
theorem dX11_barter_135 : decode cX11_barter 135 = .ok (.iconst 1, 1) := by decide +kernel
theorem dX11_barter_136 : decode cX11_barter 136 = .ok (.isub, 1) := by decide +kernel
theorem dX11_barter_137 : decode cX11_barter 137 = .ok (.istore 11, 2) := by decide +kernel
theorem dX11_barter_139 : decode cX11_barter 139 = .ok (.iload 11, 2) := by decide +kernel
theorem dX11_barter_141 : decode cX11_barter 141 = .ok (.ifCond .lt 109, 3) := by decide +kernel
theorem dX11_barter_144 : decode cX11_barter 144 = .ok (.aload_n 0, 1) := by decide +kernel
theorem dX11_barter_145 : decode cX11_barter 145 = .ok (.getfield 22, 3) := by decide +kernel
theorem dX11_barter_148 : decode cX11_barter 148 = .ok (.getfield 132, 3) := by decide +kernel
theorem dX11_barter_151 : decode cX11_barter 151 = .ok (.iload 10, 2) := by decide +kernel
theorem dX11_barter_153 : decode cX11_barter 153 = .ok (.iload_n 1, 1) := by decide +kernel
theorem dX11_barter_154 : decode cX11_barter 154 = .ok (.invokevirtual 384, 3) := by decide +kernel
theorem dX11_barter_157 : decode cX11_barter 157 = .ok (.ifCond .eq 93, 3) := by decide +kernel
theorem dX11_barter_160 : decode cX11_barter 160 = .ok (.aload_n 0, 1) := by decide +kernel
theorem dX11_barter_161 : decode cX11_barter 161 = .ok (.getfield 22, 3) := by decide +kernel
theorem dX11_barter_164 : decode cX11_barter 164 = .ok (.getfield 132, 3) := by decide +kernel
theorem dX11_barter_167 : decode cX11_barter 167 = .ok (.getfield 210, 3) := by decide +kernel
theorem dX11_barter_170 : decode cX11_barter 170 = .ok (.iload 11, 2) := by decide +kernel
theorem dX11_barter_172 : decode cX11_barter 172 = .ok (.iaload, 1) := by decide +kernel
theorem dX11_barter_173 : decode cX11_barter 173 = .ok (.aload_n 0, 1) := by decide +kernel
theorem dX11_barter_174 : decode cX11_barter 174 = .ok (.getfield 22, 3) := by decide +kernel
theorem dX11_barter_177 : decode cX11_barter 177 = .ok (.getfield 132, 3) := by decide +kernel
theorem dX11_barter_180 : decode cX11_barter 180 = .ok (.getfield 210, 3) := by decide +kernel
theorem dX11_barter_183 : decode cX11_barter 183 = .ok (.iload 10, 2) := by decide +kernel
theorem dX11_barter_185 : decode cX11_barter 185 = .ok (.iaload, 1) := by decide +kernel
theorem dX11_barter_186 : decode cX11_barter 186 = .ok (.isub, 1) := by decide +kernel
theorem dX11_barter_187 : decode cX11_barter 187 = .ok (.istore 12, 2) := by decide +kernel
theorem dX11_barter_189 : decode cX11_barter 189 = .ok (.aload_n 0, 1) := by decide +kernel
theorem dX11_barter_190 : decode cX11_barter 190 = .ok (.getfield 22, 3) := by decide +kernel
theorem dX11_barter_193 : decode cX11_barter 193 = .ok (.getfield 132, 3) := by decide +kernel
theorem dX11_barter_196 : decode cX11_barter 196 = .ok (.iload 11, 2) := by decide +kernel
theorem dX11_barter_198 : decode cX11_barter 198 = .ok (.iload_n 2, 1) := by decide +kernel
theorem dX11_barter_199 : decode cX11_barter 199 = .ok (.invokevirtual 384, 3) := by decide +kernel
theorem dX11_barter_202 : decode cX11_barter 202 = .ok (.ifCond .eq 42, 3) := by decide +kernel
theorem dX11_barter_205 : decode cX11_barter 205 = .ok (.iload 6, 2) := by decide +kernel
theorem dX11_barter_207 : decode cX11_barter 207 = .ok (.iload 12, 2) := by decide +kernel
theorem dX11_barter_209 : decode cX11_barter 209 = .ok (.invokestatic 387, 3) := by decide +kernel
theorem dX11_barter_212 : decode cX11_barter 212 = .ok (.ifCond .eq 32, 3) := by decide +kernel
theorem dX11_barter_215 : decode cX11_barter 215 = .ok (.iload 7, 2) := by decide +kernel
theorem dX11_barter_217 : decode cX11_barter 217 = .ok (.iload 12, 2) := by decide +kernel
theorem dX11_barter_219 : decode cX11_barter 219 = .ok (.ineg, 1) := by decide +kernel
theorem dX11_barter_220 : decode cX11_barter 220 = .ok (.invokestatic 387, 3) := by decide +kernel
theorem dX11_barter_223 : decode cX11_barter 223 = .ok (.ifCond .eq 21, 3) := by decide +kernel
theorem dX11_barter_226 : decode cX11_barter 226 = .ok (.iinc 8 1, 3) := by decide +kernel
theorem dX11_barter_229 : decode cX11_barter 229 = .ok (.iload 5, 2) := by decide +kernel
theorem dX11_barter_231 : decode cX11_barter 231 = .ok (.iconst 1, 1) := by decide +kernel
theorem dX11_barter_232 : decode cX11_barter 232 = .ok (.if_icmp .ne 8, 3) := by decide +kernel
theorem dX11_barter_235 : decode cX11_barter 235 = .ok (.iload 10, 2) := by decide +kernel
theorem dX11_barter_237 : decode cX11_barter 237 = .ok (.goto 5, 3) := by decide +kernel
theorem dX11_barter_240 : decode cX11_barter 240 = .ok (.iload 11, 2) := by decide +kernel
theorem dX11_barter_242 : decode cX11_barter 242 = .ok (.istore 9, 2) := by decide +kernel
theorem dX11_barter_244 : decode cX11_barter 244 = .ok (.iinc 11 (-1), 3) := by decide +kernel
theorem dX11_barter_247 : decode cX11_barter 247 = .ok (.goto (-108), 3) := by decide +kernel
theorem dX11_barter_250 : decode cX11_barter 250 = .ok (.iinc 10 (-1), 3) := by decide +kernel
theorem dX11_barter_253 : decode cX11_barter 253 = .ok (.goto (-133), 3) := by decide +kernel
theorem dX11_barter_256 : decode cX11_barter 256 = .ok (.iload 5, 2) := by decide +kernel
theorem dX11_barter_258 : decode cX11_barter 258 = .ok (.ifCond .ne 8, 3) := by decide +kernel
theorem dX11_barter_261 : decode cX11_barter 261 = .ok (.iload 8, 2) := by decide +kernel
theorem dX11_barter_263 : decode cX11_barter 263 = .ok (.goto 5, 3) := by decide +kernel
theorem dX11_barter_266 : decode cX11_barter 266 = .ok (.iload 9, 2) := by decide +kernel
theorem dX11_barter_268 : decode cX11_barter 268 = .ok (.ireturn, 1) := by decide +kernel
set_option maxRecDepth 20000 in
set_option maxHeartbeats 4000000 in
theorem c_barter (E : xE) (l : Launch) (a : Nat → Nat) (ws : va_W) (hW : WX (okX E a) ws) (p0 : Int32) (p1 : Int32) (p2 : Int32) (p3 : Int32) (p4 : Int32) : xI E l yX11_barter cX11_barter 13 (some .int) 8 [.ref (a 0), .int p0, .int p1, .int p2, .int p3, .int p4] ws (fun r w => WX (okX E a) w) := by
  refine xI_start (lv := [(0, .ref (a 0)), (1, .int p0), (2, .int p1), (3, .int p2), (4, .int p3), (5, .int p4)]) RX11 (by decide) rfl (Nat.le_of_ble_eq_true rfl) rfl (fun p e s m below meth c A C hr hlk => ?_)
  refine x_aload_n C dX11_barter_0 rfl 0 rfl rfl ?_
  obtain ⟨_, k1, v2, rfl⟩ := hW 0 _ rfl
  refine x_get C (ci := 10) (k := 2) 0 k1 rfl in_X11 (by decide) w_387 rfl dX11_barter_1 rfl ?_
  obtain ⟨_, k3, n4, v6, v7, v8, v9, v10, bn5, rfl⟩ := hW 5 _ rfl
  refine x_get C (ci := 8) (k := 3) 5 k3 rfl in_X9 (by decide) w_204 rfl dX11_barter_4 rfl ?_
  refine x_iload_n C dX11_barter_7 rfl 1 rfl rfl ?_
  obtain ⟨_, k11, v12, rfl⟩ := hW 9 _ rfl
  refine x_vi C (As := [.int p0]) (rest := []) (c_People_isTold E l a ws hW 5 (Or.inl rfl) p0) mf_X5_isTold w_465 9 k11 rfl rfl rfl (Nat.le_of_ble_eq_true rfl) ⟨(Nat.le_of_ble_eq_true rfl), (Nat.le_of_ble_eq_true rfl)⟩ ⟨(Nat.le_of_ble_eq_true rfl), (Nat.le_of_ble_eq_true rfl)⟩ dX11_barter_8 rfl (fun r14 w15 h13 => ?_)
  obtain ⟨hW16, zb17, x18⟩ := h13
  refine x_ws hW16 ?_
  refine x_if_eq C (tgt := 66) dX11_barter_11 (by decide) rfl (fun c19 => ?_) (fun c19 => ?_)
  · skip
    refine x_iconst C (v := (-1)) dX11_barter_66 (by decide) rfl ?_
    exact x_zret C hr hlk rfl dX11_barter_67 hW
  · skip
    obtain ⟨j20, hl21, hh22, ej23⟩ := w_nat (a := 0) (b := 7) (by decide) (by decide) (x18 c19)
    subst ej23
    refine x_aload_n C dX11_barter_14 rfl 0 rfl rfl ?_
    refine x_get C (ci := 10) (k := 2) 0 k1 rfl in_X11 (by decide) w_387 rfl dX11_barter_15 rfl ?_
    refine x_get C (ci := 8) (k := 3) 5 k3 rfl in_X9 (by decide) w_204 rfl dX11_barter_18 rfl ?_
    refine x_iload_n C dX11_barter_21 rfl 2 rfl rfl ?_
    refine x_vi C (As := [.int p1]) (rest := []) (c_People_isTold E l a ws hW 5 (Or.inl rfl) p1) mf_X5_isTold w_465 9 k11 rfl rfl rfl (Nat.le_of_ble_eq_true rfl) ⟨(Nat.le_of_ble_eq_true rfl), (Nat.le_of_ble_eq_true rfl)⟩ ⟨(Nat.le_of_ble_eq_true rfl), (Nat.le_of_ble_eq_true rfl)⟩ dX11_barter_22 rfl (fun r25 w26 h24 => ?_)
    obtain ⟨hW27, zb28, x29⟩ := h24
    refine x_ws hW27 ?_
    refine x_if_eq C (tgt := 66) dX11_barter_25 (by decide) rfl (fun c30 => ?_) (fun c30 => ?_)
    · skip
      refine x_iconst C (v := (-1)) dX11_barter_66 (by decide) rfl ?_
      exact x_zret C hr hlk rfl dX11_barter_67 hW
    · skip
      obtain ⟨j31, hl32, hh33, ej34⟩ := w_nat (a := 0) (b := 7) (by decide) (by decide) (x29 c30)
      subst ej34
      refine x_iload_n C dX11_barter_28 rfl 1 rfl rfl ?_
      refine x_iload_n C dX11_barter_29 rfl 2 rfl rfl ?_
      refine x_icmp_eq C (tgt := 66) dX11_barter_30 (by decide) rfl (fun c35 => ?_) (fun c35 => ?_)
      · skip
        have nf36 : j20 = j31 := (nI_eq (by omega) (by omega)).mp c35
        refine x_iconst C (v := (-1)) dX11_barter_66 (by decide) rfl ?_
        exact x_zret C hr hlk rfl dX11_barter_67 hW
      · skip
        have nf37 : ¬ j20 = j31 := fun q => c35 (congrArg nI q)
        refine x_iload_n C dX11_barter_33 rfl 3 rfl rfl ?_
        refine x_iconst C (v := 0) dX11_barter_34 (by decide) rfl ?_
        refine x_sipush C (v := 9999) dX11_barter_35 (by decide) rfl ?_
        refine x_si C (As := [.int p2, .int 0, .int 9999]) (rest := []) (c_isWithin E l a ws hW p2 (0 : Int32) (9999 : Int32)) mf_X11_isWithin w_462 rfl rfl (Nat.le_of_ble_eq_true rfl) ⟨(Nat.le_of_ble_eq_true rfl), (Nat.le_of_ble_eq_true rfl)⟩ ⟨(Nat.le_of_ble_eq_true rfl), (Nat.le_of_ble_eq_true rfl)⟩ dX11_barter_38 rfl (fun r39 w40 h38 => ?_)
        obtain ⟨hW41, zb42, x43⟩ := h38
        refine x_ws hW41 ?_
        refine x_if_eq C (tgt := 66) dX11_barter_41 (by decide) rfl (fun c44 => ?_) (fun c44 => ?_)
        · skip
          refine x_iconst C (v := (-1)) dX11_barter_66 (by decide) rfl ?_
          exact x_zret C hr hlk rfl dX11_barter_67 hW
        · skip
          obtain ⟨j45, hl46, hh47, ej48⟩ := w_nat (a := 0) (b := 9999) (by decide) (by decide) (x43 c44)
          subst ej48
          refine x_iload C dX11_barter_44 4 rfl rfl ?_
          refine x_iconst C (v := 0) dX11_barter_46 (by decide) rfl ?_
          refine x_sipush C (v := 9999) dX11_barter_47 (by decide) rfl ?_
          refine x_si C (As := [.int p3, .int 0, .int 9999]) (rest := []) (c_isWithin E l a ws hW p3 (0 : Int32) (9999 : Int32)) mf_X11_isWithin w_462 rfl rfl (Nat.le_of_ble_eq_true rfl) ⟨(Nat.le_of_ble_eq_true rfl), (Nat.le_of_ble_eq_true rfl)⟩ ⟨(Nat.le_of_ble_eq_true rfl), (Nat.le_of_ble_eq_true rfl)⟩ dX11_barter_50 rfl (fun r50 w51 h49 => ?_)
          obtain ⟨hW52, zb53, x54⟩ := h49
          refine x_ws hW52 ?_
          refine x_if_eq C (tgt := 66) dX11_barter_53 (by decide) rfl (fun c55 => ?_) (fun c55 => ?_)
          · skip
            refine x_iconst C (v := (-1)) dX11_barter_66 (by decide) rfl ?_
            exact x_zret C hr hlk rfl dX11_barter_67 hW
          · skip
            obtain ⟨j56, hl57, hh58, ej59⟩ := w_nat (a := 0) (b := 9999) (by decide) (by decide) (x54 c55)
            subst ej59
            refine x_iload C dX11_barter_56 5 rfl rfl ?_
            refine x_iconst C (v := 0) dX11_barter_58 (by decide) rfl ?_
            refine x_iconst C (v := 2) dX11_barter_59 (by decide) rfl ?_
            refine x_si C (As := [.int p4, .int 0, .int 2]) (rest := []) (c_isWithin E l a ws hW p4 (0 : Int32) (2 : Int32)) mf_X11_isWithin w_462 rfl rfl (Nat.le_of_ble_eq_true rfl) ⟨(Nat.le_of_ble_eq_true rfl), (Nat.le_of_ble_eq_true rfl)⟩ ⟨(Nat.le_of_ble_eq_true rfl), (Nat.le_of_ble_eq_true rfl)⟩ dX11_barter_60 rfl (fun r61 w62 h60 => ?_)
            obtain ⟨hW63, zb64, x65⟩ := h60
            refine x_ws hW63 ?_
            refine x_if_ne C (tgt := 68) dX11_barter_63 (by decide) rfl (fun c66 => ?_) (fun c66 => ?_)
            · skip
              obtain ⟨j67, hl68, hh69, ej70⟩ := w_nat (a := 0) (b := 2) (by decide) (by decide) (x65 c66)
              subst ej70
              refine x_aload_n C dX11_barter_68 rfl 0 rfl rfl ?_
              refine x_get C (ci := 10) (k := 2) 0 k1 rfl in_X11 (by decide) w_387 rfl dX11_barter_69 rfl ?_
              refine x_get C (ci := 8) (k := 4) 5 k3 rfl in_X9 (by decide) w_209 rfl dX11_barter_72 rfl ?_
              refine x_iload_n C dX11_barter_75 rfl 1 rfl rfl ?_
              obtain ⟨_, k71, n72, bn73, rfl⟩ := hW 14 _ rfl
              refine x_vi C (As := [.int (nI j20)]) (rest := []) (c_Eggs_minutesOf E l a ws hW 5 (Or.inl rfl) ((nI j20))) mf_X1_minutesOf w_880 14 k71 rfl rfl rfl (Nat.le_of_ble_eq_true rfl) ⟨(Nat.le_of_ble_eq_true rfl), (Nat.le_of_ble_eq_true rfl)⟩ ⟨(Nat.le_of_ble_eq_true rfl), (Nat.le_of_ble_eq_true rfl)⟩ dX11_barter_76 rfl (fun r75 w76 h74 => ?_)
              have hW77 := h74
              refine x_ws hW77 ?_
              refine x_iload_n C dX11_barter_79 rfl 3 rfl rfl ?_
              refine x_isub C (v := (r75 - (nI j45))) dX11_barter_80 rfl rfl ?_
              refine x_any (fun v78 => ?_)
              refine x_istore C (lv' := [(6, .int v78), (0, .ref (a 0)), (1, .int (nI j20)), (2, .int (nI j31)), (3, .int (nI j45)), (4, .int (nI j56)), (5, .int (nI j67))]) dX11_barter_81 (by decide) rfl rfl ?_
              refine x_aload_n C dX11_barter_83 rfl 1 rfl rfl ?_
              refine x_get C (ci := 10) (k := 2) 0 k1 rfl in_X11 (by decide) w_387 rfl dX11_barter_84 rfl ?_
              refine x_get C (ci := 8) (k := 4) 5 k3 rfl in_X9 (by decide) w_209 rfl dX11_barter_87 rfl ?_
              refine x_iload_n C dX11_barter_90 rfl 3 rfl rfl ?_
              refine x_vi C (As := [.int (nI j31)]) (rest := []) (c_Eggs_minutesOf E l a ws hW 5 (Or.inl rfl) ((nI j31))) mf_X1_minutesOf w_880 14 k71 rfl rfl rfl (Nat.le_of_ble_eq_true rfl) ⟨(Nat.le_of_ble_eq_true rfl), (Nat.le_of_ble_eq_true rfl)⟩ ⟨(Nat.le_of_ble_eq_true rfl), (Nat.le_of_ble_eq_true rfl)⟩ dX11_barter_91 rfl (fun r80 w81 h79 => ?_)
              have hW82 := h79
              refine x_ws hW82 ?_
              refine x_iload C dX11_barter_94 5 rfl rfl ?_
              refine x_isub C (v := (r80 - (nI j56))) dX11_barter_96 rfl rfl ?_
              refine x_any (fun v83 => ?_)
              refine x_istore C (lv' := [(7, .int v83), (6, .int v78), (0, .ref (a 0)), (1, .int (nI j20)), (2, .int (nI j31)), (3, .int (nI j45)), (4, .int (nI j56)), (5, .int (nI j67))]) dX11_barter_97 (by decide) rfl rfl ?_
              refine x_iconst C (v := 0) dX11_barter_99 (by decide) rfl ?_
              refine x_istore C (lv' := [(8, .int 0), (7, .int v83), (6, .int v78), (0, .ref (a 0)), (1, .int (nI j20)), (2, .int (nI j31)), (3, .int (nI j45)), (4, .int (nI j56)), (5, .int (nI j67))]) dX11_barter_100 (by decide) rfl rfl ?_
              refine x_bipush C (v := (-2)) dX11_barter_102 (by decide) rfl ?_
              refine x_istore C (lv' := [(9, .int (-2)), (8, .int 0), (7, .int v83), (6, .int v78), (0, .ref (a 0)), (1, .int (nI j20)), (2, .int (nI j31)), (3, .int (nI j45)), (4, .int (nI j56)), (5, .int (nI j67))]) dX11_barter_104 (by decide) rfl rfl ?_
              refine x_aload_n C dX11_barter_106 rfl 4 rfl rfl ?_
              refine x_get C (ci := 10) (k := 2) 0 k1 rfl in_X11 (by decide) w_387 rfl dX11_barter_107 rfl ?_
              refine x_get C (ci := 8) (k := 4) 5 k3 rfl in_X9 (by decide) w_209 rfl dX11_barter_110 rfl ?_
              refine x_get C (ci := 1) (k := 0) 14 k71 rfl in_X1 (by decide) w_122 rfl dX11_barter_113 rfl ?_
              refine x_iconst C (v := 1) dX11_barter_116 (by decide) rfl ?_
              by_cases hz84 : n72 = 0
              · refine x_isub C (v := -1) dX11_barter_117 (by rw [hz84]; decide) rfl ?_
                refine x_istore C (lv' := [(10, .int (-1)), (9, .int (-2)), (8, .int 0), (7, .int v83), (6, .int v78), (0, .ref (a 0)), (1, .int (nI j20)), (2, .int (nI j31)), (3, .int (nI j45)), (4, .int (nI j56)), (5, .int (nI j67))]) dX11_barter_118 (by decide) rfl rfl ?_
                refine x_iload C dX11_barter_120 0 rfl rfl ?_
                refine x_if_lt C (tgt := 256) dX11_barter_122 (by decide) rfl (fun _ => ?_) (fun h => absurd h (by decide))
                refine x_iload C dX11_barter_256 10 rfl rfl ?_
                refine x_if_ne C (tgt := 266) dX11_barter_258 (by decide) rfl (fun c85 => ?_) (fun c85 => ?_)
                · skip
                  have nf86 : ¬ j67 = 0 := fun q => c85 (congrArg nI q)
                  refine x_iload C dX11_barter_266 1 rfl rfl ?_
                  exact x_zret C hr hlk rfl dX11_barter_268 hW
                · skip
                  have nf87 : j67 = 0 := (nI_eq (by omega) (by omega)).mp c85
                  refine x_iload C dX11_barter_261 2 rfl rfl ?_
                  refine x_goto C (tgt := 268) dX11_barter_263 (by decide) ?_
                  exact x_zret C hr hlk rfl dX11_barter_268 hW
              · refine x_isub C (v := nI (n72 - 1)) dX11_barter_117 (pk_sub (a := n72) (b := 1) (by omega)) rfl ?_
                refine x_istore C (lv' := [(10, .int (nI (n72 - 1))), (9, .int (-2)), (8, .int 0), (7, .int v83), (6, .int v78), (0, .ref (a 0)), (1, .int (nI j20)), (2, .int (nI j31)), (3, .int (nI j45)), (4, .int (nI j56)), (5, .int (nI j67))]) dX11_barter_118 (by decide) rfl rfl ?_
                have loop120 : ∀ (fu120 : Nat) (z120_8 : Int32) (z120_9 : Int32) (x : Nat), True → x < fu120 → x ≤ 47 → X E p l e (xRm 8 0 0) s m ([.ref (a 0), .int (nI j20), .int (nI j31), .int (nI j45), .int (nI j56), .int (nI j67)] : List Value).toArray below meth c A 13 0 0 (MQ below (va_Qi (fun r w => WX (okX E a) w) (xB E A) A) ([.ref (a 0), .int (nI j20), .int (nI j31), .int (nI j45), .int (nI j56), .int (nI j67)] : List Value).toArray s 0 0 A) ws 120 [(0, .ref (a 0)), (1, .int (nI j20)), (2, .int (nI j31)), (3, .int (nI j45)), (4, .int (nI j56)), (5, .int (nI j67)), (6, .int v78), (7, .int v83), (8, .int z120_8), (9, .int z120_9), (10, .int (nI x))] [] := by
                  intro fu120
                  induction fu120 with
                  | zero => intro z120_8 z120_9 x _ q; omega
                  | succ fu120 ih120 =>
                    intro z120_8 z120_9 x _ me120 iv120_0
                    refine x_iload C dX11_barter_120 10 rfl rfl ?_
                    refine x_if_lt C (tgt := 256) dX11_barter_122 (by decide) rfl (fun c88 => ?_) (fun c88 => ?_)
                    · skip
                      have nf89 := nI_lt' (a := x) (b := 0) c88 (by omega) (by omega)
                      refine x_iload C dX11_barter_256 5 rfl rfl ?_
                      refine x_if_ne C (tgt := 266) dX11_barter_258 (by decide) rfl (fun c90 => ?_) (fun c90 => ?_)
                      · skip
                        have nf91 : ¬ j67 = 0 := fun q => c90 (congrArg nI q)
                        refine x_iload C dX11_barter_266 9 rfl rfl ?_
                        exact x_zret C hr hlk rfl dX11_barter_268 hW
                      · skip
                        have nf92 : j67 = 0 := (nI_eq (by omega) (by omega)).mp c90
                        refine x_iload C dX11_barter_261 8 rfl rfl ?_
                        refine x_goto C (tgt := 268) dX11_barter_263 (by decide) ?_
                        exact x_zret C hr hlk rfl dX11_barter_268 hW
                    · skip
                      have nf93 := nI_nlt' (a := x) (b := 0) c88 (by omega) (by omega)
                      refine x_aload_n C dX11_barter_125 rfl 0 rfl rfl ?_
                      refine x_get C (ci := 10) (k := 2) 0 k1 rfl in_X11 (by decide) w_387 rfl dX11_barter_126 rfl ?_
                      refine x_get C (ci := 8) (k := 4) 5 k3 rfl in_X9 (by decide) w_209 rfl dX11_barter_129 rfl ?_
                      refine x_get C (ci := 1) (k := 0) 14 k71 rfl in_X1 (by decide) w_122 rfl dX11_barter_132 rfl ?_
                      refine x_iconst C (v := 1) dX11_barter_135 (by decide) rfl ?_
                      by_cases hz94 : n72 = 0
                      · refine x_isub C (v := -1) dX11_barter_136 (by rw [hz94]; decide) rfl ?_
                        refine x_istore C (lv' := [(11, .int (-1)), (0, .ref (a 0)), (1, .int (nI j20)), (2, .int (nI j31)), (3, .int (nI j45)), (4, .int (nI j56)), (5, .int (nI j67)), (6, .int v78), (7, .int v83), (8, .int z120_8), (9, .int z120_9), (10, .int (nI x))]) dX11_barter_137 (by decide) rfl rfl ?_
                        refine x_iload C dX11_barter_139 0 rfl rfl ?_
                        refine x_if_lt C (tgt := 250) dX11_barter_141 (by decide) rfl (fun _ => ?_) (fun h => absurd h (by decide))
                        by_cases hz95 : x = 0
                        · refine x_iinc C (v := -1) (lv' := [(10, .int (-1)), (11, .int (-1)), (0, .ref (a 0)), (1, .int (nI j20)), (2, .int (nI j31)), (3, .int (nI j45)), (4, .int (nI j56)), (5, .int (nI j67)), (6, .int v78), (7, .int v83), (8, .int z120_8), (9, .int z120_9)]) dX11_barter_250 11 rfl (by rw [hz95]; decide) (by decide) rfl rfl ?_
                          refine x_goto C (tgt := 120) dX11_barter_253 (by decide) ?_
                          refine x_iload C dX11_barter_120 0 rfl rfl ?_
                          refine x_if_lt C (tgt := 256) dX11_barter_122 (by decide) rfl (fun _ => ?_) (fun h => absurd h (by decide))
                          refine x_iload C dX11_barter_256 7 rfl rfl ?_
                          refine x_if_ne C (tgt := 266) dX11_barter_258 (by decide) rfl (fun c96 => ?_) (fun c96 => ?_)
                          · skip
                            have nf97 : ¬ j67 = 0 := fun q => c96 (congrArg nI q)
                            refine x_iload C dX11_barter_266 11 rfl rfl ?_
                            exact x_zret C hr hlk rfl dX11_barter_268 hW
                          · skip
                            have nf98 : j67 = 0 := (nI_eq (by omega) (by omega)).mp c96
                            refine x_iload C dX11_barter_261 10 rfl rfl ?_
                            refine x_goto C (tgt := 268) dX11_barter_263 (by decide) ?_
                            exact x_zret C hr hlk rfl dX11_barter_268 hW
                        · refine x_iinc C (v := nI (x - 1)) (lv' := [(10, .int (nI (x - 1))), (11, .int (-1)), (0, .ref (a 0)), (1, .int (nI j20)), (2, .int (nI j31)), (3, .int (nI j45)), (4, .int (nI j56)), (5, .int (nI j67)), (6, .int v78), (7, .int v83), (8, .int z120_8), (9, .int z120_9)]) dX11_barter_250 11 rfl (dec_n (by omega)) (by decide) rfl rfl ?_
                          refine x_goto C (tgt := 120) dX11_barter_253 (by decide) ?_
                          refine x_lv (lv1 := [(0, .ref (a 0)), (1, .int (nI j20)), (2, .int (nI j31)), (3, .int (nI j45)), (4, .int (nI j56)), (5, .int (nI j67)), (6, .int v78), (7, .int v83), (8, .int z120_8), (9, .int z120_9), (10, .int (nI (x - 1)))]) [2, 3, 4, 5, 6, 7, 8, 9, 10, 11, 0] rfl ?_
                          exact ih120 z120_8 z120_9 (x - 1) trivial (by omega) (by omega)
                      · refine x_isub C (v := nI (n72 - 1)) dX11_barter_136 (pk_sub (a := n72) (b := 1) (by omega)) rfl ?_
                        refine x_istore C (lv' := [(11, .int (nI (n72 - 1))), (0, .ref (a 0)), (1, .int (nI j20)), (2, .int (nI j31)), (3, .int (nI j45)), (4, .int (nI j56)), (5, .int (nI j67)), (6, .int v78), (7, .int v83), (8, .int z120_8), (9, .int z120_9), (10, .int (nI x))]) dX11_barter_137 (by decide) rfl rfl ?_
                        have loop139 : ∀ (fu139 : Nat) (z139_8 : Int32) (z139_9 : Int32) (y : Nat), True → y < fu139 → y ≤ 47 → X E p l e (xRm 8 0 0) s m ([.ref (a 0), .int (nI j20), .int (nI j31), .int (nI j45), .int (nI j56), .int (nI j67)] : List Value).toArray below meth c A 13 0 0 (MQ below (va_Qi (fun r w => WX (okX E a) w) (xB E A) A) ([.ref (a 0), .int (nI j20), .int (nI j31), .int (nI j45), .int (nI j56), .int (nI j67)] : List Value).toArray s 0 0 A) ws 139 [(0, .ref (a 0)), (1, .int (nI j20)), (2, .int (nI j31)), (3, .int (nI j45)), (4, .int (nI j56)), (5, .int (nI j67)), (6, .int v78), (7, .int v83), (8, .int z139_8), (9, .int z139_9), (10, .int (nI x)), (11, .int (nI y))] [] := by
                          intro fu139
                          induction fu139 with
                          | zero => intro z139_8 z139_9 y _ q; omega
                          | succ fu139 ih139 =>
                            intro z139_8 z139_9 y _ me139 iv139_0
                            refine x_iload C dX11_barter_139 11 rfl rfl ?_
                            refine x_if_lt C (tgt := 250) dX11_barter_141 (by decide) rfl (fun c99 => ?_) (fun c99 => ?_)
                            · skip
                              have nf100 := nI_lt' (a := y) (b := 0) c99 (by omega) (by omega)
                              by_cases hz101 : x = 0
                              · refine x_iinc C (v := -1) (lv' := [(10, .int (-1)), (0, .ref (a 0)), (1, .int (nI j20)), (2, .int (nI j31)), (3, .int (nI j45)), (4, .int (nI j56)), (5, .int (nI j67)), (6, .int v78), (7, .int v83), (8, .int z139_8), (9, .int z139_9), (11, .int (nI y))]) dX11_barter_250 10 rfl (by rw [hz101]; decide) (by decide) rfl rfl ?_
                                refine x_goto C (tgt := 120) dX11_barter_253 (by decide) ?_
                                refine x_iload C dX11_barter_120 0 rfl rfl ?_
                                refine x_if_lt C (tgt := 256) dX11_barter_122 (by decide) rfl (fun _ => ?_) (fun h => absurd h (by decide))
                                refine x_iload C dX11_barter_256 6 rfl rfl ?_
                                refine x_if_ne C (tgt := 266) dX11_barter_258 (by decide) rfl (fun c102 => ?_) (fun c102 => ?_)
                                · skip
                                  have nf103 : ¬ j67 = 0 := fun q => c102 (congrArg nI q)
                                  refine x_iload C dX11_barter_266 10 rfl rfl ?_
                                  exact x_zret C hr hlk rfl dX11_barter_268 hW
                                · skip
                                  have nf104 : j67 = 0 := (nI_eq (by omega) (by omega)).mp c102
                                  refine x_iload C dX11_barter_261 9 rfl rfl ?_
                                  refine x_goto C (tgt := 268) dX11_barter_263 (by decide) ?_
                                  exact x_zret C hr hlk rfl dX11_barter_268 hW
                              · refine x_iinc C (v := nI (x - 1)) (lv' := [(10, .int (nI (x - 1))), (0, .ref (a 0)), (1, .int (nI j20)), (2, .int (nI j31)), (3, .int (nI j45)), (4, .int (nI j56)), (5, .int (nI j67)), (6, .int v78), (7, .int v83), (8, .int z139_8), (9, .int z139_9), (11, .int (nI y))]) dX11_barter_250 10 rfl (dec_n (by omega)) (by decide) rfl rfl ?_
                                refine x_goto C (tgt := 120) dX11_barter_253 (by decide) ?_
                                refine x_lv (lv1 := [(0, .ref (a 0)), (1, .int (nI j20)), (2, .int (nI j31)), (3, .int (nI j45)), (4, .int (nI j56)), (5, .int (nI j67)), (6, .int v78), (7, .int v83), (8, .int z139_8), (9, .int z139_9), (10, .int (nI (x - 1)))]) [1, 2, 3, 4, 5, 6, 7, 8, 9, 10, 0] rfl ?_
                                exact ih120 z139_8 z139_9 (x - 1) trivial (by omega) (by omega)
                            · skip
                              have nf105 := nI_nlt' (a := y) (b := 0) c99 (by omega) (by omega)
                              refine x_aload_n C dX11_barter_144 rfl 0 rfl rfl ?_
                              refine x_get C (ci := 10) (k := 2) 0 k1 rfl in_X11 (by decide) w_387 rfl dX11_barter_145 rfl ?_
                              refine x_get C (ci := 8) (k := 4) 5 k3 rfl in_X9 (by decide) w_209 rfl dX11_barter_148 rfl ?_
                              refine x_iload C dX11_barter_151 10 rfl rfl ?_
                              refine x_iload_n C dX11_barter_153 rfl 1 rfl rfl ?_
                              refine x_vi C (As := [.int (nI x), .int (nI j20)]) (rest := []) (c_Eggs_isWholeOf E l a ws hW 5 (Or.inl rfl) ((nI x)) ((nI j20))) mf_X1_isWholeOf w_1074 14 k71 rfl rfl rfl (Nat.le_of_ble_eq_true rfl) ⟨(Nat.le_of_ble_eq_true rfl), (Nat.le_of_ble_eq_true rfl)⟩ ⟨(Nat.le_of_ble_eq_true rfl), (Nat.le_of_ble_eq_true rfl)⟩ dX11_barter_154 rfl (fun r107 w108 h106 => ?_)
                              obtain ⟨hW109, zb110, x111⟩ := h106
                              refine x_ws hW109 ?_
                              refine x_if_eq C (tgt := 250) dX11_barter_157 (by decide) rfl (fun c112 => ?_) (fun c112 => ?_)
                              · skip
                                by_cases hz113 : x = 0
                                · refine x_iinc C (v := -1) (lv' := [(10, .int (-1)), (0, .ref (a 0)), (1, .int (nI j20)), (2, .int (nI j31)), (3, .int (nI j45)), (4, .int (nI j56)), (5, .int (nI j67)), (6, .int v78), (7, .int v83), (8, .int z139_8), (9, .int z139_9), (11, .int (nI y))]) dX11_barter_250 10 rfl (by rw [hz113]; decide) (by decide) rfl rfl ?_
                                  refine x_goto C (tgt := 120) dX11_barter_253 (by decide) ?_
                                  refine x_iload C dX11_barter_120 0 rfl rfl ?_
                                  refine x_if_lt C (tgt := 256) dX11_barter_122 (by decide) rfl (fun _ => ?_) (fun h => absurd h (by decide))
                                  refine x_iload C dX11_barter_256 6 rfl rfl ?_
                                  refine x_if_ne C (tgt := 266) dX11_barter_258 (by decide) rfl (fun c114 => ?_) (fun c114 => ?_)
                                  · skip
                                    have nf115 : ¬ j67 = 0 := fun q => c114 (congrArg nI q)
                                    refine x_iload C dX11_barter_266 10 rfl rfl ?_
                                    exact x_zret C hr hlk rfl dX11_barter_268 hW
                                  · skip
                                    have nf116 : j67 = 0 := (nI_eq (by omega) (by omega)).mp c114
                                    refine x_iload C dX11_barter_261 9 rfl rfl ?_
                                    refine x_goto C (tgt := 268) dX11_barter_263 (by decide) ?_
                                    exact x_zret C hr hlk rfl dX11_barter_268 hW
                                · refine x_iinc C (v := nI (x - 1)) (lv' := [(10, .int (nI (x - 1))), (0, .ref (a 0)), (1, .int (nI j20)), (2, .int (nI j31)), (3, .int (nI j45)), (4, .int (nI j56)), (5, .int (nI j67)), (6, .int v78), (7, .int v83), (8, .int z139_8), (9, .int z139_9), (11, .int (nI y))]) dX11_barter_250 10 rfl (dec_n (by omega)) (by decide) rfl rfl ?_
                                  refine x_goto C (tgt := 120) dX11_barter_253 (by decide) ?_
                                  refine x_lv (lv1 := [(0, .ref (a 0)), (1, .int (nI j20)), (2, .int (nI j31)), (3, .int (nI j45)), (4, .int (nI j56)), (5, .int (nI j67)), (6, .int v78), (7, .int v83), (8, .int z139_8), (9, .int z139_9), (10, .int (nI (x - 1)))]) [1, 2, 3, 4, 5, 6, 7, 8, 9, 10, 0] rfl ?_
                                  exact ih120 z139_8 z139_9 (x - 1) trivial (by omega) (by omega)
                              · skip
                                have wi117 := wth_le (a := 0) (b := 47) (j := x) (x111 c112) (by omega) (by decide) (by decide)
                                refine x_aload_n C dX11_barter_160 rfl 0 rfl rfl ?_
                                refine x_get C (ci := 10) (k := 2) 0 k1 rfl in_X11 (by decide) w_387 rfl dX11_barter_161 rfl ?_
                                refine x_get C (ci := 8) (k := 4) 5 k3 rfl in_X9 (by decide) w_209 rfl dX11_barter_164 rfl ?_
                                refine x_get C (ci := 1) (k := 1) 14 k71 rfl in_X1 (by decide) w_126 rfl dX11_barter_167 rfl ?_
                                refine x_iload C dX11_barter_170 11 rfl rfl ?_
                                obtain ⟨_, k118, f119, rfl⟩ := hW 15 _ rfl
                                refine x_iald C (v := (f119 (nI y).toNatClampNeg)) 15 k118 (vp_in_nI (by omega) (by decide)) rfl dX11_barter_172 rfl ?_
                                refine x_any (fun v120 => ?_)
                                refine x_aload_n C dX11_barter_173 rfl 0 rfl rfl ?_
                                refine x_get C (ci := 10) (k := 2) 0 k1 rfl in_X11 (by decide) w_387 rfl dX11_barter_174 rfl ?_
                                refine x_get C (ci := 8) (k := 4) 5 k3 rfl in_X9 (by decide) w_209 rfl dX11_barter_177 rfl ?_
                                refine x_get C (ci := 1) (k := 1) 14 k71 rfl in_X1 (by decide) w_126 rfl dX11_barter_180 rfl ?_
                                refine x_iload C dX11_barter_183 10 rfl rfl ?_
                                refine x_iald C (v := (f119 (nI x).toNatClampNeg)) 15 k118 (vp_in_nI (by omega) (by decide)) rfl dX11_barter_185 rfl ?_
                                refine x_any (fun v121 => ?_)
                                refine x_isub C (v := (v120 - v121)) dX11_barter_186 rfl rfl ?_
                                refine x_any (fun v122 => ?_)
                                refine x_istore C (lv' := [(12, .int v122), (0, .ref (a 0)), (1, .int (nI j20)), (2, .int (nI j31)), (3, .int (nI j45)), (4, .int (nI j56)), (5, .int (nI j67)), (6, .int v78), (7, .int v83), (8, .int z139_8), (9, .int z139_9), (10, .int (nI x)), (11, .int (nI y))]) dX11_barter_187 (by decide) rfl rfl ?_
                                refine x_aload_n C dX11_barter_189 rfl 1 rfl rfl ?_
                                refine x_get C (ci := 10) (k := 2) 0 k1 rfl in_X11 (by decide) w_387 rfl dX11_barter_190 rfl ?_
                                refine x_get C (ci := 8) (k := 4) 5 k3 rfl in_X9 (by decide) w_209 rfl dX11_barter_193 rfl ?_
                                refine x_iload C dX11_barter_196 12 rfl rfl ?_
                                refine x_iload_n C dX11_barter_198 rfl 3 rfl rfl ?_
                                refine x_vi C (As := [.int (nI y), .int (nI j31)]) (rest := []) (c_Eggs_isWholeOf E l a ws hW 5 (Or.inl rfl) ((nI y)) ((nI j31))) mf_X1_isWholeOf w_1074 14 k71 rfl rfl rfl (Nat.le_of_ble_eq_true rfl) ⟨(Nat.le_of_ble_eq_true rfl), (Nat.le_of_ble_eq_true rfl)⟩ ⟨(Nat.le_of_ble_eq_true rfl), (Nat.le_of_ble_eq_true rfl)⟩ dX11_barter_199 rfl (fun r124 w125 h123 => ?_)
                                obtain ⟨hW126, zb127, x128⟩ := h123
                                refine x_ws hW126 ?_
                                refine x_if_eq C (tgt := 244) dX11_barter_202 (by decide) rfl (fun c129 => ?_) (fun c129 => ?_)
                                · skip
                                  by_cases hz130 : y = 0
                                  · refine x_iinc C (v := -1) (lv' := [(11, .int (-1)), (12, .int v122), (0, .ref (a 0)), (1, .int (nI j20)), (2, .int (nI j31)), (3, .int (nI j45)), (4, .int (nI j56)), (5, .int (nI j67)), (6, .int v78), (7, .int v83), (8, .int z139_8), (9, .int z139_9), (10, .int (nI x))]) dX11_barter_244 12 rfl (by rw [hz130]; decide) (by decide) rfl rfl ?_
                                    refine x_goto C (tgt := 139) dX11_barter_247 (by decide) ?_
                                    refine x_iload C dX11_barter_139 0 rfl rfl ?_
                                    refine x_if_lt C (tgt := 250) dX11_barter_141 (by decide) rfl (fun _ => ?_) (fun h => absurd h (by decide))
                                    by_cases hz131 : x = 0
                                    · refine x_iinc C (v := -1) (lv' := [(10, .int (-1)), (11, .int (-1)), (12, .int v122), (0, .ref (a 0)), (1, .int (nI j20)), (2, .int (nI j31)), (3, .int (nI j45)), (4, .int (nI j56)), (5, .int (nI j67)), (6, .int v78), (7, .int v83), (8, .int z139_8), (9, .int z139_9)]) dX11_barter_250 12 rfl (by rw [hz131]; decide) (by decide) rfl rfl ?_
                                      refine x_goto C (tgt := 120) dX11_barter_253 (by decide) ?_
                                      refine x_iload C dX11_barter_120 0 rfl rfl ?_
                                      refine x_if_lt C (tgt := 256) dX11_barter_122 (by decide) rfl (fun _ => ?_) (fun h => absurd h (by decide))
                                      refine x_iload C dX11_barter_256 8 rfl rfl ?_
                                      refine x_if_ne C (tgt := 266) dX11_barter_258 (by decide) rfl (fun c132 => ?_) (fun c132 => ?_)
                                      · skip
                                        have nf133 : ¬ j67 = 0 := fun q => c132 (congrArg nI q)
                                        refine x_iload C dX11_barter_266 12 rfl rfl ?_
                                        exact x_zret C hr hlk rfl dX11_barter_268 hW
                                      · skip
                                        have nf134 : j67 = 0 := (nI_eq (by omega) (by omega)).mp c132
                                        refine x_iload C dX11_barter_261 11 rfl rfl ?_
                                        refine x_goto C (tgt := 268) dX11_barter_263 (by decide) ?_
                                        exact x_zret C hr hlk rfl dX11_barter_268 hW
                                    · refine x_iinc C (v := nI (x - 1)) (lv' := [(10, .int (nI (x - 1))), (11, .int (-1)), (12, .int v122), (0, .ref (a 0)), (1, .int (nI j20)), (2, .int (nI j31)), (3, .int (nI j45)), (4, .int (nI j56)), (5, .int (nI j67)), (6, .int v78), (7, .int v83), (8, .int z139_8), (9, .int z139_9)]) dX11_barter_250 12 rfl (dec_n (by omega)) (by decide) rfl rfl ?_
                                      refine x_goto C (tgt := 120) dX11_barter_253 (by decide) ?_
                                      refine x_lv (lv1 := [(0, .ref (a 0)), (1, .int (nI j20)), (2, .int (nI j31)), (3, .int (nI j45)), (4, .int (nI j56)), (5, .int (nI j67)), (6, .int v78), (7, .int v83), (8, .int z139_8), (9, .int z139_9), (10, .int (nI (x - 1)))]) [3, 4, 5, 6, 7, 8, 9, 10, 11, 12, 0] rfl ?_
                                      exact ih120 z139_8 z139_9 (x - 1) trivial (by omega) (by omega)
                                  · refine x_iinc C (v := nI (y - 1)) (lv' := [(11, .int (nI (y - 1))), (12, .int v122), (0, .ref (a 0)), (1, .int (nI j20)), (2, .int (nI j31)), (3, .int (nI j45)), (4, .int (nI j56)), (5, .int (nI j67)), (6, .int v78), (7, .int v83), (8, .int z139_8), (9, .int z139_9), (10, .int (nI x))]) dX11_barter_244 12 rfl (dec_n (by omega)) (by decide) rfl rfl ?_
                                    refine x_goto C (tgt := 139) dX11_barter_247 (by decide) ?_
                                    refine x_lv (lv1 := [(0, .ref (a 0)), (1, .int (nI j20)), (2, .int (nI j31)), (3, .int (nI j45)), (4, .int (nI j56)), (5, .int (nI j67)), (6, .int v78), (7, .int v83), (8, .int z139_8), (9, .int z139_9), (10, .int (nI x)), (11, .int (nI (y - 1)))]) [2, 3, 4, 5, 6, 7, 8, 9, 10, 11, 12, 0] rfl ?_
                                    exact ih139 z139_8 z139_9 (y - 1) trivial (by omega) (by omega)
                                · skip
                                  have wi135 := wth_le (a := 0) (b := 47) (j := y) (x128 c129) (by omega) (by decide) (by decide)
                                  refine x_iload C dX11_barter_205 7 rfl rfl ?_
                                  refine x_iload C dX11_barter_207 0 rfl rfl ?_
                                  refine x_si C (As := [.int v78, .int v122]) (rest := []) (c_isNearer E l a ws hW v78 v122) mf_X11_isNearer w_1075 rfl rfl (Nat.le_of_ble_eq_true rfl) ⟨(Nat.le_of_ble_eq_true rfl), (Nat.le_of_ble_eq_true rfl)⟩ ⟨(Nat.le_of_ble_eq_true rfl), (Nat.le_of_ble_eq_true rfl)⟩ dX11_barter_209 rfl (fun r137 w138 h136 => ?_)
                                  obtain ⟨hW139, zb140⟩ := h136
                                  refine x_ws hW139 ?_
                                  refine x_if_eq C (tgt := 244) dX11_barter_212 (by decide) rfl (fun c141 => ?_) (fun c141 => ?_)
                                  · skip
                                    by_cases hz142 : y = 0
                                    · refine x_iinc C (v := -1) (lv' := [(11, .int (-1)), (12, .int v122), (0, .ref (a 0)), (1, .int (nI j20)), (2, .int (nI j31)), (3, .int (nI j45)), (4, .int (nI j56)), (5, .int (nI j67)), (6, .int v78), (7, .int v83), (8, .int z139_8), (9, .int z139_9), (10, .int (nI x))]) dX11_barter_244 12 rfl (by rw [hz142]; decide) (by decide) rfl rfl ?_
                                      refine x_goto C (tgt := 139) dX11_barter_247 (by decide) ?_
                                      refine x_iload C dX11_barter_139 0 rfl rfl ?_
                                      refine x_if_lt C (tgt := 250) dX11_barter_141 (by decide) rfl (fun _ => ?_) (fun h => absurd h (by decide))
                                      by_cases hz143 : x = 0
                                      · refine x_iinc C (v := -1) (lv' := [(10, .int (-1)), (11, .int (-1)), (12, .int v122), (0, .ref (a 0)), (1, .int (nI j20)), (2, .int (nI j31)), (3, .int (nI j45)), (4, .int (nI j56)), (5, .int (nI j67)), (6, .int v78), (7, .int v83), (8, .int z139_8), (9, .int z139_9)]) dX11_barter_250 12 rfl (by rw [hz143]; decide) (by decide) rfl rfl ?_
                                        refine x_goto C (tgt := 120) dX11_barter_253 (by decide) ?_
                                        refine x_iload C dX11_barter_120 0 rfl rfl ?_
                                        refine x_if_lt C (tgt := 256) dX11_barter_122 (by decide) rfl (fun _ => ?_) (fun h => absurd h (by decide))
                                        refine x_iload C dX11_barter_256 8 rfl rfl ?_
                                        refine x_if_ne C (tgt := 266) dX11_barter_258 (by decide) rfl (fun c144 => ?_) (fun c144 => ?_)
                                        · skip
                                          have nf145 : ¬ j67 = 0 := fun q => c144 (congrArg nI q)
                                          refine x_iload C dX11_barter_266 12 rfl rfl ?_
                                          exact x_zret C hr hlk rfl dX11_barter_268 hW
                                        · skip
                                          have nf146 : j67 = 0 := (nI_eq (by omega) (by omega)).mp c144
                                          refine x_iload C dX11_barter_261 11 rfl rfl ?_
                                          refine x_goto C (tgt := 268) dX11_barter_263 (by decide) ?_
                                          exact x_zret C hr hlk rfl dX11_barter_268 hW
                                      · refine x_iinc C (v := nI (x - 1)) (lv' := [(10, .int (nI (x - 1))), (11, .int (-1)), (12, .int v122), (0, .ref (a 0)), (1, .int (nI j20)), (2, .int (nI j31)), (3, .int (nI j45)), (4, .int (nI j56)), (5, .int (nI j67)), (6, .int v78), (7, .int v83), (8, .int z139_8), (9, .int z139_9)]) dX11_barter_250 12 rfl (dec_n (by omega)) (by decide) rfl rfl ?_
                                        refine x_goto C (tgt := 120) dX11_barter_253 (by decide) ?_
                                        refine x_lv (lv1 := [(0, .ref (a 0)), (1, .int (nI j20)), (2, .int (nI j31)), (3, .int (nI j45)), (4, .int (nI j56)), (5, .int (nI j67)), (6, .int v78), (7, .int v83), (8, .int z139_8), (9, .int z139_9), (10, .int (nI (x - 1)))]) [3, 4, 5, 6, 7, 8, 9, 10, 11, 12, 0] rfl ?_
                                        exact ih120 z139_8 z139_9 (x - 1) trivial (by omega) (by omega)
                                    · refine x_iinc C (v := nI (y - 1)) (lv' := [(11, .int (nI (y - 1))), (12, .int v122), (0, .ref (a 0)), (1, .int (nI j20)), (2, .int (nI j31)), (3, .int (nI j45)), (4, .int (nI j56)), (5, .int (nI j67)), (6, .int v78), (7, .int v83), (8, .int z139_8), (9, .int z139_9), (10, .int (nI x))]) dX11_barter_244 12 rfl (dec_n (by omega)) (by decide) rfl rfl ?_
                                      refine x_goto C (tgt := 139) dX11_barter_247 (by decide) ?_
                                      refine x_lv (lv1 := [(0, .ref (a 0)), (1, .int (nI j20)), (2, .int (nI j31)), (3, .int (nI j45)), (4, .int (nI j56)), (5, .int (nI j67)), (6, .int v78), (7, .int v83), (8, .int z139_8), (9, .int z139_9), (10, .int (nI x)), (11, .int (nI (y - 1)))]) [2, 3, 4, 5, 6, 7, 8, 9, 10, 11, 12, 0] rfl ?_
                                      exact ih139 z139_8 z139_9 (y - 1) trivial (by omega) (by omega)
                                  · skip
                                    refine x_iload C dX11_barter_215 8 rfl rfl ?_
                                    refine x_iload C dX11_barter_217 0 rfl rfl ?_
                                    refine x_ineg C dX11_barter_219 rfl rfl ?_
                                    refine x_any (fun v147 => ?_)
                                    refine x_si C (As := [.int v83, .int v147]) (rest := []) (c_isNearer E l a ws hW v83 v147) mf_X11_isNearer w_1075 rfl rfl (Nat.le_of_ble_eq_true rfl) ⟨(Nat.le_of_ble_eq_true rfl), (Nat.le_of_ble_eq_true rfl)⟩ ⟨(Nat.le_of_ble_eq_true rfl), (Nat.le_of_ble_eq_true rfl)⟩ dX11_barter_220 rfl (fun r149 w150 h148 => ?_)
                                    obtain ⟨hW151, zb152⟩ := h148
                                    refine x_ws hW151 ?_
                                    refine x_if_eq C (tgt := 244) dX11_barter_223 (by decide) rfl (fun c153 => ?_) (fun c153 => ?_)
                                    · skip
                                      by_cases hz154 : y = 0
                                      · refine x_iinc C (v := -1) (lv' := [(11, .int (-1)), (12, .int v122), (0, .ref (a 0)), (1, .int (nI j20)), (2, .int (nI j31)), (3, .int (nI j45)), (4, .int (nI j56)), (5, .int (nI j67)), (6, .int v78), (7, .int v83), (8, .int z139_8), (9, .int z139_9), (10, .int (nI x))]) dX11_barter_244 12 rfl (by rw [hz154]; decide) (by decide) rfl rfl ?_
                                        refine x_goto C (tgt := 139) dX11_barter_247 (by decide) ?_
                                        refine x_iload C dX11_barter_139 0 rfl rfl ?_
                                        refine x_if_lt C (tgt := 250) dX11_barter_141 (by decide) rfl (fun _ => ?_) (fun h => absurd h (by decide))
                                        by_cases hz155 : x = 0
                                        · refine x_iinc C (v := -1) (lv' := [(10, .int (-1)), (11, .int (-1)), (12, .int v122), (0, .ref (a 0)), (1, .int (nI j20)), (2, .int (nI j31)), (3, .int (nI j45)), (4, .int (nI j56)), (5, .int (nI j67)), (6, .int v78), (7, .int v83), (8, .int z139_8), (9, .int z139_9)]) dX11_barter_250 12 rfl (by rw [hz155]; decide) (by decide) rfl rfl ?_
                                          refine x_goto C (tgt := 120) dX11_barter_253 (by decide) ?_
                                          refine x_iload C dX11_barter_120 0 rfl rfl ?_
                                          refine x_if_lt C (tgt := 256) dX11_barter_122 (by decide) rfl (fun _ => ?_) (fun h => absurd h (by decide))
                                          refine x_iload C dX11_barter_256 8 rfl rfl ?_
                                          refine x_if_ne C (tgt := 266) dX11_barter_258 (by decide) rfl (fun c156 => ?_) (fun c156 => ?_)
                                          · skip
                                            have nf157 : ¬ j67 = 0 := fun q => c156 (congrArg nI q)
                                            refine x_iload C dX11_barter_266 12 rfl rfl ?_
                                            exact x_zret C hr hlk rfl dX11_barter_268 hW
                                          · skip
                                            have nf158 : j67 = 0 := (nI_eq (by omega) (by omega)).mp c156
                                            refine x_iload C dX11_barter_261 11 rfl rfl ?_
                                            refine x_goto C (tgt := 268) dX11_barter_263 (by decide) ?_
                                            exact x_zret C hr hlk rfl dX11_barter_268 hW
                                        · refine x_iinc C (v := nI (x - 1)) (lv' := [(10, .int (nI (x - 1))), (11, .int (-1)), (12, .int v122), (0, .ref (a 0)), (1, .int (nI j20)), (2, .int (nI j31)), (3, .int (nI j45)), (4, .int (nI j56)), (5, .int (nI j67)), (6, .int v78), (7, .int v83), (8, .int z139_8), (9, .int z139_9)]) dX11_barter_250 12 rfl (dec_n (by omega)) (by decide) rfl rfl ?_
                                          refine x_goto C (tgt := 120) dX11_barter_253 (by decide) ?_
                                          refine x_lv (lv1 := [(0, .ref (a 0)), (1, .int (nI j20)), (2, .int (nI j31)), (3, .int (nI j45)), (4, .int (nI j56)), (5, .int (nI j67)), (6, .int v78), (7, .int v83), (8, .int z139_8), (9, .int z139_9), (10, .int (nI (x - 1)))]) [3, 4, 5, 6, 7, 8, 9, 10, 11, 12, 0] rfl ?_
                                          exact ih120 z139_8 z139_9 (x - 1) trivial (by omega) (by omega)
                                      · refine x_iinc C (v := nI (y - 1)) (lv' := [(11, .int (nI (y - 1))), (12, .int v122), (0, .ref (a 0)), (1, .int (nI j20)), (2, .int (nI j31)), (3, .int (nI j45)), (4, .int (nI j56)), (5, .int (nI j67)), (6, .int v78), (7, .int v83), (8, .int z139_8), (9, .int z139_9), (10, .int (nI x))]) dX11_barter_244 12 rfl (dec_n (by omega)) (by decide) rfl rfl ?_
                                        refine x_goto C (tgt := 139) dX11_barter_247 (by decide) ?_
                                        refine x_lv (lv1 := [(0, .ref (a 0)), (1, .int (nI j20)), (2, .int (nI j31)), (3, .int (nI j45)), (4, .int (nI j56)), (5, .int (nI j67)), (6, .int v78), (7, .int v83), (8, .int z139_8), (9, .int z139_9), (10, .int (nI x)), (11, .int (nI (y - 1)))]) [2, 3, 4, 5, 6, 7, 8, 9, 10, 11, 12, 0] rfl ?_
                                        exact ih139 z139_8 z139_9 (y - 1) trivial (by omega) (by omega)
                                    · skip
                                      refine x_iinc C (v := (z139_8 + 1)) (lv' := [(8, .int (z139_8 + 1)), (12, .int v122), (0, .ref (a 0)), (1, .int (nI j20)), (2, .int (nI j31)), (3, .int (nI j45)), (4, .int (nI j56)), (5, .int (nI j67)), (6, .int v78), (7, .int v83), (9, .int z139_9), (10, .int (nI x)), (11, .int (nI y))]) dX11_barter_226 9 rfl rfl (by decide) rfl rfl ?_
                                      refine x_iload C dX11_barter_229 7 rfl rfl ?_
                                      refine x_iconst C (v := 1) dX11_barter_231 (by decide) rfl ?_
                                      refine x_icmp_ne C (tgt := 240) dX11_barter_232 (by decide) rfl (fun c159 => ?_) (fun c159 => ?_)
                                      · skip
                                        have nf160 : ¬ j67 = 1 := fun q => c159 (congrArg nI q)
                                        refine x_iload C dX11_barter_240 12 rfl rfl ?_
                                        refine x_istore C (lv' := [(9, .int (nI y)), (8, .int (z139_8 + 1)), (12, .int v122), (0, .ref (a 0)), (1, .int (nI j20)), (2, .int (nI j31)), (3, .int (nI j45)), (4, .int (nI j56)), (5, .int (nI j67)), (6, .int v78), (7, .int v83), (10, .int (nI x)), (11, .int (nI y))]) dX11_barter_242 (by decide) rfl rfl ?_
                                        by_cases hz161 : y = 0
                                        · refine x_iinc C (v := -1) (lv' := [(11, .int (-1)), (9, .int (nI y)), (8, .int (z139_8 + 1)), (12, .int v122), (0, .ref (a 0)), (1, .int (nI j20)), (2, .int (nI j31)), (3, .int (nI j45)), (4, .int (nI j56)), (5, .int (nI j67)), (6, .int v78), (7, .int v83), (10, .int (nI x))]) dX11_barter_244 12 rfl (by rw [hz161]; decide) (by decide) rfl rfl ?_
                                          refine x_goto C (tgt := 139) dX11_barter_247 (by decide) ?_
                                          refine x_iload C dX11_barter_139 0 rfl rfl ?_
                                          refine x_if_lt C (tgt := 250) dX11_barter_141 (by decide) rfl (fun _ => ?_) (fun h => absurd h (by decide))
                                          by_cases hz162 : x = 0
                                          · refine x_iinc C (v := -1) (lv' := [(10, .int (-1)), (11, .int (-1)), (9, .int (nI y)), (8, .int (z139_8 + 1)), (12, .int v122), (0, .ref (a 0)), (1, .int (nI j20)), (2, .int (nI j31)), (3, .int (nI j45)), (4, .int (nI j56)), (5, .int (nI j67)), (6, .int v78), (7, .int v83)]) dX11_barter_250 12 rfl (by rw [hz162]; decide) (by decide) rfl rfl ?_
                                            refine x_goto C (tgt := 120) dX11_barter_253 (by decide) ?_
                                            refine x_iload C dX11_barter_120 0 rfl rfl ?_
                                            refine x_if_lt C (tgt := 256) dX11_barter_122 (by decide) rfl (fun _ => ?_) (fun h => absurd h (by decide))
                                            refine x_iload C dX11_barter_256 10 rfl rfl ?_
                                            refine x_if_ne C (tgt := 266) dX11_barter_258 (by decide) rfl (fun c163 => ?_) (fun c163 => ?_)
                                            · skip
                                              have nf164 : ¬ j67 = 0 := fun q => c163 (congrArg nI q)
                                              refine x_iload C dX11_barter_266 2 rfl rfl ?_
                                              exact x_zret C hr hlk rfl dX11_barter_268 hW
                                            · skip
                                              have nf165 : j67 = 0 := (nI_eq (by omega) (by omega)).mp c163
                                              refine x_iload C dX11_barter_261 3 rfl rfl ?_
                                              refine x_goto C (tgt := 268) dX11_barter_263 (by decide) ?_
                                              exact x_zret C hr hlk rfl dX11_barter_268 hW
                                          · refine x_iinc C (v := nI (x - 1)) (lv' := [(10, .int (nI (x - 1))), (11, .int (-1)), (9, .int (nI y)), (8, .int (z139_8 + 1)), (12, .int v122), (0, .ref (a 0)), (1, .int (nI j20)), (2, .int (nI j31)), (3, .int (nI j45)), (4, .int (nI j56)), (5, .int (nI j67)), (6, .int v78), (7, .int v83)]) dX11_barter_250 12 rfl (dec_n (by omega)) (by decide) rfl rfl ?_
                                            refine x_goto C (tgt := 120) dX11_barter_253 (by decide) ?_
                                            refine x_lv (lv1 := [(0, .ref (a 0)), (1, .int (nI j20)), (2, .int (nI j31)), (3, .int (nI j45)), (4, .int (nI j56)), (5, .int (nI j67)), (6, .int v78), (7, .int v83), (8, .int (z139_8 + 1)), (9, .int (nI y)), (10, .int (nI (x - 1)))]) [5, 6, 7, 8, 9, 10, 11, 12, 3, 2, 0] rfl ?_
                                            exact ih120 ((z139_8 + 1)) ((nI y)) (x - 1) trivial (by omega) (by omega)
                                        · refine x_iinc C (v := nI (y - 1)) (lv' := [(11, .int (nI (y - 1))), (9, .int (nI y)), (8, .int (z139_8 + 1)), (12, .int v122), (0, .ref (a 0)), (1, .int (nI j20)), (2, .int (nI j31)), (3, .int (nI j45)), (4, .int (nI j56)), (5, .int (nI j67)), (6, .int v78), (7, .int v83), (10, .int (nI x))]) dX11_barter_244 12 rfl (dec_n (by omega)) (by decide) rfl rfl ?_
                                          refine x_goto C (tgt := 139) dX11_barter_247 (by decide) ?_
                                          refine x_lv (lv1 := [(0, .ref (a 0)), (1, .int (nI j20)), (2, .int (nI j31)), (3, .int (nI j45)), (4, .int (nI j56)), (5, .int (nI j67)), (6, .int v78), (7, .int v83), (8, .int (z139_8 + 1)), (9, .int (nI y)), (10, .int (nI x)), (11, .int (nI (y - 1)))]) [4, 5, 6, 7, 8, 9, 10, 11, 2, 1, 12, 0] rfl ?_
                                          exact ih139 ((z139_8 + 1)) ((nI y)) (y - 1) trivial (by omega) (by omega)
                                      · skip
                                        have nf166 : j67 = 1 := (nI_eq (by omega) (by omega)).mp c159
                                        refine x_iload C dX11_barter_235 11 rfl rfl ?_
                                        refine x_goto C (tgt := 242) dX11_barter_237 (by decide) ?_
                                        refine x_istore C (lv' := [(9, .int (nI x)), (8, .int (z139_8 + 1)), (12, .int v122), (0, .ref (a 0)), (1, .int (nI j20)), (2, .int (nI j31)), (3, .int (nI j45)), (4, .int (nI j56)), (5, .int (nI j67)), (6, .int v78), (7, .int v83), (10, .int (nI x)), (11, .int (nI y))]) dX11_barter_242 (by decide) rfl rfl ?_
                                        by_cases hz167 : y = 0
                                        · refine x_iinc C (v := -1) (lv' := [(11, .int (-1)), (9, .int (nI x)), (8, .int (z139_8 + 1)), (12, .int v122), (0, .ref (a 0)), (1, .int (nI j20)), (2, .int (nI j31)), (3, .int (nI j45)), (4, .int (nI j56)), (5, .int (nI j67)), (6, .int v78), (7, .int v83), (10, .int (nI x))]) dX11_barter_244 12 rfl (by rw [hz167]; decide) (by decide) rfl rfl ?_
                                          refine x_goto C (tgt := 139) dX11_barter_247 (by decide) ?_
                                          refine x_iload C dX11_barter_139 0 rfl rfl ?_
                                          refine x_if_lt C (tgt := 250) dX11_barter_141 (by decide) rfl (fun _ => ?_) (fun h => absurd h (by decide))
                                          by_cases hz168 : x = 0
                                          · refine x_iinc C (v := -1) (lv' := [(10, .int (-1)), (11, .int (-1)), (9, .int (nI x)), (8, .int (z139_8 + 1)), (12, .int v122), (0, .ref (a 0)), (1, .int (nI j20)), (2, .int (nI j31)), (3, .int (nI j45)), (4, .int (nI j56)), (5, .int (nI j67)), (6, .int v78), (7, .int v83)]) dX11_barter_250 12 rfl (by rw [hz168]; decide) (by decide) rfl rfl ?_
                                            refine x_goto C (tgt := 120) dX11_barter_253 (by decide) ?_
                                            refine x_iload C dX11_barter_120 0 rfl rfl ?_
                                            refine x_if_lt C (tgt := 256) dX11_barter_122 (by decide) rfl (fun _ => ?_) (fun h => absurd h (by decide))
                                            refine x_iload C dX11_barter_256 10 rfl rfl ?_
                                            refine x_if_ne C (tgt := 266) dX11_barter_258 (by decide) rfl (fun c169 => ?_) (fun c169 => ?_)
                                            · skip
                                              have nf170 : ¬ j67 = 0 := fun q => c169 (congrArg nI q)
                                              refine x_iload C dX11_barter_266 2 rfl rfl ?_
                                              exact x_zret C hr hlk rfl dX11_barter_268 hW
                                            · skip
                                              have nf171 : j67 = 0 := (nI_eq (by omega) (by omega)).mp c169
                                              refine x_iload C dX11_barter_261 3 rfl rfl ?_
                                              refine x_goto C (tgt := 268) dX11_barter_263 (by decide) ?_
                                              exact x_zret C hr hlk rfl dX11_barter_268 hW
                                          · refine x_iinc C (v := nI (x - 1)) (lv' := [(10, .int (nI (x - 1))), (11, .int (-1)), (9, .int (nI x)), (8, .int (z139_8 + 1)), (12, .int v122), (0, .ref (a 0)), (1, .int (nI j20)), (2, .int (nI j31)), (3, .int (nI j45)), (4, .int (nI j56)), (5, .int (nI j67)), (6, .int v78), (7, .int v83)]) dX11_barter_250 12 rfl (dec_n (by omega)) (by decide) rfl rfl ?_
                                            refine x_goto C (tgt := 120) dX11_barter_253 (by decide) ?_
                                            refine x_lv (lv1 := [(0, .ref (a 0)), (1, .int (nI j20)), (2, .int (nI j31)), (3, .int (nI j45)), (4, .int (nI j56)), (5, .int (nI j67)), (6, .int v78), (7, .int v83), (8, .int (z139_8 + 1)), (9, .int (nI x)), (10, .int (nI (x - 1)))]) [5, 6, 7, 8, 9, 10, 11, 12, 3, 2, 0] rfl ?_
                                            exact ih120 ((z139_8 + 1)) ((nI x)) (x - 1) trivial (by omega) (by omega)
                                        · refine x_iinc C (v := nI (y - 1)) (lv' := [(11, .int (nI (y - 1))), (9, .int (nI x)), (8, .int (z139_8 + 1)), (12, .int v122), (0, .ref (a 0)), (1, .int (nI j20)), (2, .int (nI j31)), (3, .int (nI j45)), (4, .int (nI j56)), (5, .int (nI j67)), (6, .int v78), (7, .int v83), (10, .int (nI x))]) dX11_barter_244 12 rfl (dec_n (by omega)) (by decide) rfl rfl ?_
                                          refine x_goto C (tgt := 139) dX11_barter_247 (by decide) ?_
                                          refine x_lv (lv1 := [(0, .ref (a 0)), (1, .int (nI j20)), (2, .int (nI j31)), (3, .int (nI j45)), (4, .int (nI j56)), (5, .int (nI j67)), (6, .int v78), (7, .int v83), (8, .int (z139_8 + 1)), (9, .int (nI x)), (10, .int (nI x)), (11, .int (nI (y - 1)))]) [4, 5, 6, 7, 8, 9, 10, 11, 2, 1, 12, 0] rfl ?_
                                          exact ih139 ((z139_8 + 1)) ((nI x)) (y - 1) trivial (by omega) (by omega)
                        refine x_lv (lv1 := [(0, .ref (a 0)), (1, .int (nI j20)), (2, .int (nI j31)), (3, .int (nI j45)), (4, .int (nI j56)), (5, .int (nI j67)), (6, .int v78), (7, .int v83), (8, .int z120_8), (9, .int z120_9), (10, .int (nI x)), (11, .int (nI (n72 - 1)))]) [1, 2, 3, 4, 5, 6, 7, 8, 9, 10, 11, 0] rfl ?_
                        exact loop139 _ z120_8 z120_9 (n72 - 1) trivial (Nat.lt_succ_self _) (by omega)
                refine x_lv (lv1 := [(0, .ref (a 0)), (1, .int (nI j20)), (2, .int (nI j31)), (3, .int (nI j45)), (4, .int (nI j56)), (5, .int (nI j67)), (6, .int v78), (7, .int v83), (8, .int 0), (9, .int (-2)), (10, .int (nI (n72 - 1)))]) [5, 6, 7, 8, 9, 10, 4, 3, 2, 1, 0] rfl ?_
                exact loop120 _ (0 : Int32) ((-2) : Int32) (n72 - 1) trivial (Nat.lt_succ_self _) (by omega)
            · skip
              refine x_iconst C (v := (-1)) dX11_barter_66 (by decide) rfl ?_
              exact x_zret C hr hlk rfl dX11_barter_67 hW
theorem dX11_check_0 : decode cX11_check 0 = .ok (.aload_n 0, 1) := by decide +kernel
theorem dX11_check_1 : decode cX11_check 1 = .ok (.getfield 10, 3) := by decide +kernel
theorem dX11_check_4 : decode cX11_check 4 = .ok (.iload_n 1, 1) := by decide +kernel
theorem dX11_check_5 : decode cX11_check 5 = .ok (.iconst 0, 1) := by decide +kernel
theorem dX11_check_6 : decode cX11_check 6 = .ok (.bipush 48, 2) := by decide +kernel
theorem dX11_check_8 : decode cX11_check 8 = .ok (.iconst 4, 1) := by decide +kernel
theorem dX11_check_9 : decode cX11_check 9 = .ok (.invokevirtual 149, 3) := by decide +kernel
theorem dX11_check_12 : decode cX11_check 12 = .ok (.ifCond .ne 6, 3) := by decide +kernel
theorem dX11_check_15 : decode cX11_check 15 = .ok (.bipush (-2), 2) := by decide +kernel
theorem dX11_check_17 : decode cX11_check 17 = .ok (.ireturn, 1) := by decide +kernel
theorem dX11_check_18 : decode cX11_check 18 = .ok (.iconst (-1), 1) := by decide +kernel
theorem dX11_check_19 : decode cX11_check 19 = .ok (.istore_n 2, 1) := by decide +kernel
theorem dX11_check_20 : decode cX11_check 20 = .ok (.iload_n 1, 1) := by decide +kernel
theorem dX11_check_21 : decode cX11_check 21 = .ok (.iconst 1, 1) := by decide +kernel
theorem dX11_check_22 : decode cX11_check 22 = .ok (.isub, 1) := by decide +kernel
theorem dX11_check_23 : decode cX11_check 23 = .ok (.istore_n 3, 1) := by decide +kernel
theorem dX11_check_24 : decode cX11_check 24 = .ok (.iload_n 3, 1) := by decide +kernel
theorem dX11_check_25 : decode cX11_check 25 = .ok (.ifCond .lt 39, 3) := by decide +kernel
theorem dX11_check_28 : decode cX11_check 28 = .ok (.aload_n 0, 1) := by decide +kernel
theorem dX11_check_29 : decode cX11_check 29 = .ok (.getfield 10, 3) := by decide +kernel
theorem dX11_check_32 : decode cX11_check 32 = .ok (.iconst 4, 1) := by decide +kernel
theorem dX11_check_33 : decode cX11_check 33 = .ok (.iload_n 3, 1) := by decide +kernel
theorem dX11_check_34 : decode cX11_check 34 = .ok (.imul, 1) := by decide +kernel
theorem dX11_check_35 : decode cX11_check 35 = .ok (.invokevirtual 400, 3) := by decide +kernel
theorem dX11_check_38 : decode cX11_check 38 = .ok (.aload_n 0, 1) := by decide +kernel
theorem dX11_check_39 : decode cX11_check 39 = .ok (.getfield 22, 3) := by decide +kernel
theorem dX11_check_42 : decode cX11_check 42 = .ok (.getfield 132, 3) := by decide +kernel
theorem dX11_check_45 : decode cX11_check 45 = .ok (.iload_n 3, 1) := by decide +kernel
theorem dX11_check_46 : decode cX11_check 46 = .ok (.invokevirtual 333, 3) := by decide +kernel
theorem dX11_check_49 : decode cX11_check 49 = .ok (.if_icmp .ne 7, 3) := by decide +kernel
theorem dX11_check_52 : decode cX11_check 52 = .ok (.iload_n 2, 1) := by decide +kernel
theorem dX11_check_53 : decode cX11_check 53 = .ok (.goto 4, 3) := by decide +kernel
theorem dX11_check_56 : decode cX11_check 56 = .ok (.iload_n 3, 1) := by decide +kernel
theorem dX11_check_57 : decode cX11_check 57 = .ok (.istore_n 2, 1) := by decide +kernel
theorem dX11_check_58 : decode cX11_check 58 = .ok (.iinc 3 (-1), 3) := by decide +kernel
theorem dX11_check_61 : decode cX11_check 61 = .ok (.goto (-37), 3) := by decide +kernel
theorem dX11_check_64 : decode cX11_check 64 = .ok (.aload_n 0, 1) := by decide +kernel
theorem dX11_check_65 : decode cX11_check 65 = .ok (.getfield 10, 3) := by decide +kernel
theorem dX11_check_68 : decode cX11_check 68 = .ok (.iconst 0, 1) := by decide +kernel
theorem dX11_check_69 : decode cX11_check 69 = .ok (.putfield 142, 3) := by decide +kernel
theorem dX11_check_72 : decode cX11_check 72 = .ok (.iload_n 2, 1) := by decide +kernel
theorem dX11_check_73 : decode cX11_check 73 = .ok (.ireturn, 1) := by decide +kernel
set_option maxRecDepth 20000 in
set_option maxHeartbeats 4000000 in
theorem c_check (E : xE) (l : Launch) (a : Nat → Nat) (ws : va_W) (hW : WX (okX E a) ws) (p0 : Int32) : xI E l yX11_check cX11_check 4 (some .int) 8 [.ref (a 0), .int p0] ws (fun r w => WX (okX E a) w) := by
  refine xI_start (lv := [(0, .ref (a 0)), (1, .int p0)]) RX11 (by decide) rfl (Nat.le_of_ble_eq_true rfl) rfl (fun p e s m below meth c A C hr hlk => ?_)
  refine x_aload_n C dX11_check_0 rfl 0 rfl rfl ?_
  obtain ⟨_, k1, v2, rfl⟩ := hW 0 _ rfl
  refine x_get C (ci := 10) (k := 0) 0 k1 rfl in_X11 (by decide) w_385 rfl dX11_check_1 rfl ?_
  refine x_iload_n C dX11_check_4 rfl 1 rfl rfl ?_
  refine x_iconst C (v := 0) dX11_check_5 (by decide) rfl ?_
  refine x_bipush C (v := 48) dX11_check_6 (by decide) rfl ?_
  refine x_iconst C (v := 4) dX11_check_8 (by decide) rfl ?_
  obtain ⟨_, k3, n4, v6, v7, v8, bn5, rfl⟩ := hW 1 _ rfl
  refine x_vi C (As := [.int p0, .int 0, .int 48, .int 4]) (rest := []) (c_holds E l a ws hW p0 (0 : Int32) (48 : Int32) (4 : Int32)) mf_X8_holds w_507 1 k3 rfl rfl rfl (Nat.le_of_ble_eq_true rfl) ⟨(Nat.le_of_ble_eq_true rfl), (Nat.le_of_ble_eq_true rfl)⟩ ⟨(Nat.le_of_ble_eq_true rfl), (Nat.le_of_ble_eq_true rfl)⟩ dX11_check_9 rfl (fun r10 w11 h9 => ?_)
  obtain ⟨hW12, zb13, x14⟩ := h9
  refine x_ws hW12 ?_
  refine x_if_ne C (tgt := 18) dX11_check_12 (by decide) rfl (fun c15 => ?_) (fun c15 => ?_)
  · skip
    obtain ⟨j16, hl17, hh18, ej19⟩ := w_nat (a := 0) (b := 48) (by decide) (by decide) (x14 c15)
    subst ej19
    refine x_iconst C (v := (-1)) dX11_check_18 (by decide) rfl ?_
    refine x_istore_n C (lv' := [(2, .int (-1)), (0, .ref (a 0)), (1, .int (nI j16))]) dX11_check_19 rfl (by decide) rfl rfl ?_
    refine x_iload_n C dX11_check_20 rfl 2 rfl rfl ?_
    refine x_iconst C (v := 1) dX11_check_21 (by decide) rfl ?_
    by_cases hz20 : j16 = 0
    · refine x_isub C (v := -1) dX11_check_22 (by rw [hz20]; decide) rfl ?_
      refine x_istore_n C (lv' := [(3, .int (-1)), (2, .int (-1)), (0, .ref (a 0)), (1, .int (nI j16))]) dX11_check_23 rfl (by decide) rfl rfl ?_
      refine x_iload_n C dX11_check_24 rfl 0 rfl rfl ?_
      refine x_if_lt C (tgt := 64) dX11_check_25 (by decide) rfl (fun _ => ?_) (fun h => absurd h (by decide))
      refine x_aload_n C dX11_check_64 rfl 2 rfl rfl ?_
      refine x_get C (ci := 10) (k := 0) 0 k1 rfl in_X11 (by decide) w_385 rfl dX11_check_65 rfl ?_
      refine x_iconst C (v := 0) dX11_check_68 (by decide) rfl ?_
      obtain ⟨w21, hw22⟩ : ∃ w : va_W, w = List.set ws 1 (ob (a 1) 7 [.ref (a 2), .int 0, .int v6, .int v7, .int v8]) := ⟨_, rfl⟩
      refine x_put C (ci := 7) (k := 1) (ty := .int) 1 k3 rfl in_X8 tyX8 tyX8_ok nmX8 (by decide) w_38 rfl rfl rfl rfl (Nat.le_of_ble_eq_true rfl) hw22.symm dX11_check_69 rfl ?_
      have hW23 : WX (okX E a) w21 := by rw [hw22]; exact hW.set (k := 1) rfl ⟨0, v6, v7, v8, by omega, rfl⟩
      have k24 : w21[0]? = some (ob (a 0) 10 [.ref (a 1), .ref (a 3), .ref (a 5), .ref (a 27), .ref (a 49), .int v2, .ref (a 71), .ref (a 79), .ref (a 87), .ref (a 92), .ref (a 103), .ref (a 105), .ref (a 106), .ref (a 107), .ref (a 108), .ref (a 109), .ref (a 110), .ref (a 111), .ref (a 112)]) := by rw [hw22]; exact set_ne k1 (by decide)
      have k25 : w21[1]? = some (ob (a 1) 7 [.ref (a 2), .int 0, .int v6, .int v7, .int v8]) := by rw [hw22]; exact set_eq k3
      refine x_iload_n C dX11_check_72 rfl 1 rfl rfl ?_
      exact x_zret C hr hlk rfl dX11_check_73 hW23
    · refine x_isub C (v := nI (j16 - 1)) dX11_check_22 (pk_sub (a := j16) (b := 1) (by omega)) rfl ?_
      refine x_istore_n C (lv' := [(3, .int (nI (j16 - 1))), (2, .int (-1)), (0, .ref (a 0)), (1, .int (nI j16))]) dX11_check_23 rfl (by decide) rfl rfl ?_
      have loop24 : ∀ (fu24 : Nat) (z24_2 : Int32) (k : Nat), True → k < fu24 → k ≤ 47 → X E p l e (xRm 8 0 0) s m ([.ref (a 0), .int (nI j16)] : List Value).toArray below meth c A 4 0 0 (MQ below (va_Qi (fun r w => WX (okX E a) w) (xB E A) A) ([.ref (a 0), .int (nI j16)] : List Value).toArray s 0 0 A) ws 24 [(0, .ref (a 0)), (1, .int (nI j16)), (2, .int z24_2), (3, .int (nI k))] [] := by
        intro fu24
        induction fu24 with
        | zero => intro z24_2 k _ q; omega
        | succ fu24 ih24 =>
          intro z24_2 k _ me24 iv24_0
          refine x_iload_n C dX11_check_24 rfl 3 rfl rfl ?_
          refine x_if_lt C (tgt := 64) dX11_check_25 (by decide) rfl (fun c26 => ?_) (fun c26 => ?_)
          · skip
            have nf27 := nI_lt' (a := k) (b := 0) c26 (by omega) (by omega)
            refine x_aload_n C dX11_check_64 rfl 0 rfl rfl ?_
            refine x_get C (ci := 10) (k := 0) 0 k1 rfl in_X11 (by decide) w_385 rfl dX11_check_65 rfl ?_
            refine x_iconst C (v := 0) dX11_check_68 (by decide) rfl ?_
            obtain ⟨w28, hw29⟩ : ∃ w : va_W, w = List.set ws 1 (ob (a 1) 7 [.ref (a 2), .int 0, .int v6, .int v7, .int v8]) := ⟨_, rfl⟩
            refine x_put C (ci := 7) (k := 1) (ty := .int) 1 k3 rfl in_X8 tyX8 tyX8_ok nmX8 (by decide) w_38 rfl rfl rfl rfl (Nat.le_of_ble_eq_true rfl) hw29.symm dX11_check_69 rfl ?_
            have hW30 : WX (okX E a) w28 := by rw [hw29]; exact hW.set (k := 1) rfl ⟨0, v6, v7, v8, by omega, rfl⟩
            have k31 : w28[0]? = some (ob (a 0) 10 [.ref (a 1), .ref (a 3), .ref (a 5), .ref (a 27), .ref (a 49), .int v2, .ref (a 71), .ref (a 79), .ref (a 87), .ref (a 92), .ref (a 103), .ref (a 105), .ref (a 106), .ref (a 107), .ref (a 108), .ref (a 109), .ref (a 110), .ref (a 111), .ref (a 112)]) := by rw [hw29]; exact set_ne k1 (by decide)
            have k32 : w28[1]? = some (ob (a 1) 7 [.ref (a 2), .int 0, .int v6, .int v7, .int v8]) := by rw [hw29]; exact set_eq k3
            refine x_iload_n C dX11_check_72 rfl 2 rfl rfl ?_
            exact x_zret C hr hlk rfl dX11_check_73 hW30
          · skip
            have nf33 := nI_nlt' (a := k) (b := 0) c26 (by omega) (by omega)
            refine x_aload_n C dX11_check_28 rfl 0 rfl rfl ?_
            refine x_get C (ci := 10) (k := 0) 0 k1 rfl in_X11 (by decide) w_385 rfl dX11_check_29 rfl ?_
            refine x_iconst C (v := 4) dX11_check_32 (by decide) rfl ?_
            refine x_iload_n C dX11_check_33 rfl 3 rfl rfl ?_
            refine x_imul C (v := (nI (4 * k))) dX11_check_34 (pk_mul 4 k) rfl ?_
            refine x_vi C (As := [.int (nI (4 * k))]) (rest := []) (c_wordAt E l a ws hW ((nI (4 * k)))) mf_X8_wordAt w_1103 1 k3 rfl rfl rfl (Nat.le_of_ble_eq_true rfl) ⟨(Nat.le_of_ble_eq_true rfl), (Nat.le_of_ble_eq_true rfl)⟩ ⟨(Nat.le_of_ble_eq_true rfl), (Nat.le_of_ble_eq_true rfl)⟩ dX11_check_35 rfl (fun r35 w36 h34 => ?_)
            have hW37 := h34
            refine x_ws hW37 ?_
            refine x_aload_n C dX11_check_38 rfl 0 rfl rfl ?_
            refine x_get C (ci := 10) (k := 2) 0 k1 rfl in_X11 (by decide) w_387 rfl dX11_check_39 rfl ?_
            obtain ⟨_, k38, n39, v41, v42, v43, v44, v45, bn40, rfl⟩ := hW 5 _ rfl
            refine x_get C (ci := 8) (k := 4) 5 k38 rfl in_X9 (by decide) w_209 rfl dX11_check_42 rfl ?_
            refine x_iload_n C dX11_check_45 rfl 3 rfl rfl ?_
            obtain ⟨_, k46, n47, bn48, rfl⟩ := hW 14 _ rfl
            refine x_vi C (As := [.int (nI k)]) (rest := [.int r35]) (c_Eggs_minutesAt E l a ws hW 5 (Or.inl rfl) ((nI k))) mf_X1_minutesAt w_993 14 k46 rfl rfl rfl (Nat.le_of_ble_eq_true rfl) ⟨(Nat.le_of_ble_eq_true rfl), (Nat.le_of_ble_eq_true rfl)⟩ ⟨(Nat.le_of_ble_eq_true rfl), (Nat.le_of_ble_eq_true rfl)⟩ dX11_check_46 rfl (fun r50 w51 h49 => ?_)
            have hW52 := h49
            refine x_ws hW52 ?_
            refine x_icmp_ne C (tgt := 56) dX11_check_49 (by decide) rfl (fun c53 => ?_) (fun c53 => ?_)
            · skip
              refine x_iload_n C dX11_check_56 rfl 3 rfl rfl ?_
              refine x_istore_n C (lv' := [(2, .int (nI k)), (0, .ref (a 0)), (1, .int (nI j16)), (3, .int (nI k))]) dX11_check_57 rfl (by decide) rfl rfl ?_
              by_cases hz54 : k = 0
              · refine x_iinc C (v := -1) (lv' := [(3, .int (-1)), (2, .int (nI k)), (0, .ref (a 0)), (1, .int (nI j16))]) dX11_check_58 3 rfl (by rw [hz54]; decide) (by decide) rfl rfl ?_
                refine x_goto C (tgt := 24) dX11_check_61 (by decide) ?_
                refine x_iload_n C dX11_check_24 rfl 0 rfl rfl ?_
                refine x_if_lt C (tgt := 64) dX11_check_25 (by decide) rfl (fun _ => ?_) (fun h => absurd h (by decide))
                refine x_aload_n C dX11_check_64 rfl 2 rfl rfl ?_
                refine x_get C (ci := 10) (k := 0) 0 k1 rfl in_X11 (by decide) w_385 rfl dX11_check_65 rfl ?_
                refine x_iconst C (v := 0) dX11_check_68 (by decide) rfl ?_
                obtain ⟨w55, hw56⟩ : ∃ w : va_W, w = List.set ws 1 (ob (a 1) 7 [.ref (a 2), .int 0, .int v6, .int v7, .int v8]) := ⟨_, rfl⟩
                refine x_put C (ci := 7) (k := 1) (ty := .int) 1 k3 rfl in_X8 tyX8 tyX8_ok nmX8 (by decide) w_38 rfl rfl rfl rfl (Nat.le_of_ble_eq_true rfl) hw56.symm dX11_check_69 rfl ?_
                have hW57 : WX (okX E a) w55 := by rw [hw56]; exact hW.set (k := 1) rfl ⟨0, v6, v7, v8, by omega, rfl⟩
                have k58 : w55[0]? = some (ob (a 0) 10 [.ref (a 1), .ref (a 3), .ref (a 5), .ref (a 27), .ref (a 49), .int v2, .ref (a 71), .ref (a 79), .ref (a 87), .ref (a 92), .ref (a 103), .ref (a 105), .ref (a 106), .ref (a 107), .ref (a 108), .ref (a 109), .ref (a 110), .ref (a 111), .ref (a 112)]) := by rw [hw56]; exact set_ne k1 (by decide)
                have k59 : w55[1]? = some (ob (a 1) 7 [.ref (a 2), .int 0, .int v6, .int v7, .int v8]) := by rw [hw56]; exact set_eq k3
                have k60 : w55[5]? = some (ob (a 5) 8 [.int (nI n39), .int v41, .ref (a 6), .ref (a 9), .ref (a 14), .ref (a 21), .int v42, .int v43, .int v44, .int v45]) := by rw [hw56]; exact set_ne k38 (by decide)
                have k61 : w55[14]? = some (ob (a 14) 1 [.int (nI n47), .ref (a 15), .ref (a 16), .ref (a 17), .ref (a 18), .ref (a 19), .ref (a 20)]) := by rw [hw56]; exact set_ne k46 (by decide)
                refine x_iload_n C dX11_check_72 rfl 1 rfl rfl ?_
                exact x_zret C hr hlk rfl dX11_check_73 hW57
              · refine x_iinc C (v := nI (k - 1)) (lv' := [(3, .int (nI (k - 1))), (2, .int (nI k)), (0, .ref (a 0)), (1, .int (nI j16))]) dX11_check_58 3 rfl (dec_n (by omega)) (by decide) rfl rfl ?_
                refine x_goto C (tgt := 24) dX11_check_61 (by decide) ?_
                refine x_lv (lv1 := [(0, .ref (a 0)), (1, .int (nI j16)), (2, .int (nI k)), (3, .int (nI (k - 1)))]) [2, 3, 1, 0] rfl ?_
                exact ih24 ((nI k)) (k - 1) trivial (by omega) (by omega)
            · skip
              refine x_iload_n C dX11_check_52 rfl 2 rfl rfl ?_
              refine x_goto C (tgt := 57) dX11_check_53 (by decide) ?_
              refine x_istore_n C (lv' := [(2, .int z24_2), (0, .ref (a 0)), (1, .int (nI j16)), (3, .int (nI k))]) dX11_check_57 rfl (by decide) rfl rfl ?_
              by_cases hz62 : k = 0
              · refine x_iinc C (v := -1) (lv' := [(3, .int (-1)), (2, .int z24_2), (0, .ref (a 0)), (1, .int (nI j16))]) dX11_check_58 3 rfl (by rw [hz62]; decide) (by decide) rfl rfl ?_
                refine x_goto C (tgt := 24) dX11_check_61 (by decide) ?_
                refine x_iload_n C dX11_check_24 rfl 0 rfl rfl ?_
                refine x_if_lt C (tgt := 64) dX11_check_25 (by decide) rfl (fun _ => ?_) (fun h => absurd h (by decide))
                refine x_aload_n C dX11_check_64 rfl 2 rfl rfl ?_
                refine x_get C (ci := 10) (k := 0) 0 k1 rfl in_X11 (by decide) w_385 rfl dX11_check_65 rfl ?_
                refine x_iconst C (v := 0) dX11_check_68 (by decide) rfl ?_
                obtain ⟨w63, hw64⟩ : ∃ w : va_W, w = List.set ws 1 (ob (a 1) 7 [.ref (a 2), .int 0, .int v6, .int v7, .int v8]) := ⟨_, rfl⟩
                refine x_put C (ci := 7) (k := 1) (ty := .int) 1 k3 rfl in_X8 tyX8 tyX8_ok nmX8 (by decide) w_38 rfl rfl rfl rfl (Nat.le_of_ble_eq_true rfl) hw64.symm dX11_check_69 rfl ?_
                have hW65 : WX (okX E a) w63 := by rw [hw64]; exact hW.set (k := 1) rfl ⟨0, v6, v7, v8, by omega, rfl⟩
                have k66 : w63[0]? = some (ob (a 0) 10 [.ref (a 1), .ref (a 3), .ref (a 5), .ref (a 27), .ref (a 49), .int v2, .ref (a 71), .ref (a 79), .ref (a 87), .ref (a 92), .ref (a 103), .ref (a 105), .ref (a 106), .ref (a 107), .ref (a 108), .ref (a 109), .ref (a 110), .ref (a 111), .ref (a 112)]) := by rw [hw64]; exact set_ne k1 (by decide)
                have k67 : w63[1]? = some (ob (a 1) 7 [.ref (a 2), .int 0, .int v6, .int v7, .int v8]) := by rw [hw64]; exact set_eq k3
                have k68 : w63[5]? = some (ob (a 5) 8 [.int (nI n39), .int v41, .ref (a 6), .ref (a 9), .ref (a 14), .ref (a 21), .int v42, .int v43, .int v44, .int v45]) := by rw [hw64]; exact set_ne k38 (by decide)
                have k69 : w63[14]? = some (ob (a 14) 1 [.int (nI n47), .ref (a 15), .ref (a 16), .ref (a 17), .ref (a 18), .ref (a 19), .ref (a 20)]) := by rw [hw64]; exact set_ne k46 (by decide)
                refine x_iload_n C dX11_check_72 rfl 1 rfl rfl ?_
                exact x_zret C hr hlk rfl dX11_check_73 hW65
              · refine x_iinc C (v := nI (k - 1)) (lv' := [(3, .int (nI (k - 1))), (2, .int z24_2), (0, .ref (a 0)), (1, .int (nI j16))]) dX11_check_58 3 rfl (dec_n (by omega)) (by decide) rfl rfl ?_
                refine x_goto C (tgt := 24) dX11_check_61 (by decide) ?_
                refine x_lv (lv1 := [(0, .ref (a 0)), (1, .int (nI j16)), (2, .int z24_2), (3, .int (nI (k - 1)))]) [2, 3, 1, 0] rfl ?_
                exact ih24 z24_2 (k - 1) trivial (by omega) (by omega)
      refine x_lv (lv1 := [(0, .ref (a 0)), (1, .int (nI j16)), (2, .int (-1)), (3, .int (nI (j16 - 1)))]) [2, 3, 1, 0] rfl ?_
      exact loop24 _ ((-1) : Int32) (j16 - 1) trivial (Nat.lt_succ_self _) (by omega)
  · skip
    refine x_bipush C (v := (-2)) dX11_check_15 (by decide) rfl ?_
    exact x_zret C hr hlk rfl dX11_check_17 hW
