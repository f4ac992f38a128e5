theorem dX11_tellEggs_0 : decode cX11_tellEggs 0 = .ok (.iconst 0, 1) := by decide +kernel
theorem dX11_tellEggs_1 : decode cX11_tellEggs 1 = .ok (.istore_n 3, 1) := by decide +kernel
theorem dX11_tellEggs_2 : decode cX11_tellEggs 2 = .ok (.iload_n 3, 1) := by decide +kernel
theorem dX11_tellEggs_3 : decode cX11_tellEggs 3 = .ok (.iload_n 1, 1) := by decide +kernel
theorem dX11_tellEggs_4 : decode cX11_tellEggs 4 = .ok (.if_icmp .ge 96, 3) := by decide +kernel
theorem dX11_tellEggs_7 : decode cX11_tellEggs 7 = .ok (.iload_n 3, 1) := by decide +kernel
theorem dX11_tellEggs_8 : decode cX11_tellEggs 8 = .ok (.bipush 48, 2) := by decide +kernel
theorem dX11_tellEggs_10 : decode cX11_tellEggs 10 = .ok (.if_icmp .ge 90, 3) := by decide +kernel
theorem dX11_tellEggs_13 : decode cX11_tellEggs 13 = .ok (.aload_n 0, 1) := by decide +kernel
theorem dX11_tellEggs_14 : decode cX11_tellEggs 14 = .ok (.getfield 10, 3) := by decide +kernel
theorem dX11_tellEggs_17 : decode cX11_tellEggs 17 = .ok (.iload_n 3, 1) := by decide +kernel
theorem dX11_tellEggs_18 : decode cX11_tellEggs 18 = .ok (.invokevirtual 336, 3) := by decide +kernel
theorem dX11_tellEggs_21 : decode cX11_tellEggs 21 = .ok (.istore 4, 2) := by decide +kernel
theorem dX11_tellEggs_23 : decode cX11_tellEggs 23 = .ok (.aload_n 0, 1) := by decide +kernel
theorem dX11_tellEggs_24 : decode cX11_tellEggs 24 = .ok (.getfield 22, 3) := by decide +kernel
theorem dX11_tellEggs_27 : decode cX11_tellEggs 27 = .ok (.getfield 132, 3) := by decide +kernel
theorem dX11_tellEggs_30 : decode cX11_tellEggs 30 = .ok (.iload 4, 2) := by decide +kernel
theorem dX11_tellEggs_32 : decode cX11_tellEggs 32 = .ok (.invokevirtual 207, 3) := by decide +kernel
theorem dX11_tellEggs_35 : decode cX11_tellEggs 35 = .ok (.ifCond .eq 20, 3) := by decide +kernel
theorem dX11_tellEggs_38 : decode cX11_tellEggs 38 = .ok (.aload_n 0, 1) := by decide +kernel
theorem dX11_tellEggs_39 : decode cX11_tellEggs 39 = .ok (.getfield 22, 3) := by decide +kernel
theorem dX11_tellEggs_42 : decode cX11_tellEggs 42 = .ok (.getfield 132, 3) := by decide +kernel
theorem dX11_tellEggs_45 : decode cX11_tellEggs 45 = .ok (.getfield 225, 3) := by decide +kernel
theorem dX11_tellEggs_48 : decode cX11_tellEggs 48 = .ok (.iload 4, 2) := by decide +kernel
theorem dX11_tellEggs_50 : decode cX11_tellEggs 50 = .ok (.iaload, 1) := by decide +kernel
theorem dX11_tellEggs_51 : decode cX11_tellEggs 51 = .ok (.iload_n 2, 1) := by decide +kernel
theorem dX11_tellEggs_52 : decode cX11_tellEggs 52 = .ok (.if_icmp .eq 5, 3) := by decide +kernel
theorem dX11_tellEggs_55 : decode cX11_tellEggs 55 = .ok (.iconst 0, 1) := by decide +kernel
theorem dX11_tellEggs_56 : decode cX11_tellEggs 56 = .ok (.ireturn, 1) := by decide +kernel
theorem dX11_tellEggs_57 : decode cX11_tellEggs 57 = .ok (.iconst 0, 1) := by decide +kernel
theorem dX11_tellEggs_58 : decode cX11_tellEggs 58 = .ok (.istore 5, 2) := by decide +kernel
theorem dX11_tellEggs_60 : decode cX11_tellEggs 60 = .ok (.iload 5, 2) := by decide +kernel
theorem dX11_tellEggs_62 : decode cX11_tellEggs 62 = .ok (.iload_n 3, 1) := by decide +kernel
theorem dX11_tellEggs_63 : decode cX11_tellEggs 63 = .ok (.if_icmp .ge 23, 3) := by decide +kernel
theorem dX11_tellEggs_66 : decode cX11_tellEggs 66 = .ok (.aload_n 0, 1) := by decide +kernel
theorem dX11_tellEggs_67 : decode cX11_tellEggs 67 = .ok (.getfield 67, 3) := by decide +kernel
theorem dX11_tellEggs_70 : decode cX11_tellEggs 70 = .ok (.iload 5, 2) := by decide +kernel
theorem dX11_tellEggs_72 : decode cX11_tellEggs 72 = .ok (.iaload, 1) := by decide +kernel
theorem dX11_tellEggs_73 : decode cX11_tellEggs 73 = .ok (.iload 4, 2) := by decide +kernel
theorem dX11_tellEggs_75 : decode cX11_tellEggs 75 = .ok (.if_icmp .ne 5, 3) := by decide +kernel
theorem dX11_tellEggs_78 : decode cX11_tellEggs 78 = .ok (.iconst 0, 1) := by decide +kernel
theorem dX11_tellEggs_79 : decode cX11_tellEggs 79 = .ok (.ireturn, 1) := by decide +kernel
theorem dX11_tellEggs_80 : decode cX11_tellEggs 80 = .ok (.iinc 5 1, 3) := by decide +kernel
theorem dX11_tellEggs_83 : decode cX11_tellEggs 83 = .ok (.goto (-23), 3) := by decide +kernel
theorem dX11_tellEggs_86 : decode cX11_tellEggs 86 = .ok (.aload_n 0, 1) := by decide +kernel
theorem dX11_tellEggs_87 : decode cX11_tellEggs 87 = .ok (.getfield 67, 3) := by decide +kernel
theorem dX11_tellEggs_90 : decode cX11_tellEggs 90 = .ok (.iload_n 3, 1) := by decide +kernel
theorem dX11_tellEggs_91 : decode cX11_tellEggs 91 = .ok (.iload 4, 2) := by decide +kernel
theorem dX11_tellEggs_93 : decode cX11_tellEggs 93 = .ok (.iastore, 1) := by decide +kernel
theorem dX11_tellEggs_94 : decode cX11_tellEggs 94 = .ok (.iinc 3 1, 3) := by decide +kernel
theorem dX11_tellEggs_97 : decode cX11_tellEggs 97 = .ok (.goto (-95), 3) := by decide +kernel
theorem dX11_tellEggs_100 : decode cX11_tellEggs 100 = .ok (.iconst 1, 1) := by decide +kernel
theorem dX11_tellEggs_101 : decode cX11_tellEggs 101 = .ok (.ireturn, 1) := by decide +kernel
set_option maxRecDepth 20000 in
set_option maxHeartbeats 4000000 in
theorem c_tellEggs (E : xE) (l : Launch) (a : Nat → Nat) (ws : va_W) (hW : WX (okX E a) ws) (p0 : Int32) (p1 : Int32) : xI E l yX11_tellEggs cX11_tellEggs 6 (some .boolean) 2 [.ref (a 0), .int p0, .int p1] ws (fun r w => WX (okX E a) w ∧ keeps ws w (fun q => q = 105) ∧ zb r) := by
  refine xI_start (lv := [(0, .ref (a 0)), (1, .int p0), (2, .int p1)]) RX11 (by decide) rfl (Nat.le_of_ble_eq_true rfl) rfl (fun p e s m below meth c A C hr hlk => ?_)
  have kp0 : keeps ws ws (fun q => q = 105) := keeps_rf
  refine x_iconst C (v := 0) dX11_tellEggs_0 (by decide) rfl ?_
  refine x_istore_n C (lv' := [(3, .int 0), (0, .ref (a 0)), (1, .int p0), (2, .int p1)]) dX11_tellEggs_1 rfl (by decide) rfl rfl ?_
  have loop2 : ∀ (fu2 : Nat) (k : Nat) (wl2 : va_W), WX (okX E a) wl2 → 48 - k < fu2 → k ≤ 48 → keeps ws wl2 (fun q => q = 105) → X E p l e (xRm 2 0 0) s m ([.ref (a 0), .int p0, .int p1] : List Value).toArray below meth c A 6 0 0 (MQ below (va_Qi (fun r w => WX (okX E a) w ∧ keeps ws w (fun q => q = 105) ∧ zb r) (xB E A) A) ([.ref (a 0), .int p0, .int p1] : List Value).toArray s 0 0 A) wl2 2 [(0, .ref (a 0)), (1, .int p0), (2, .int p1), (3, .int (nI k))] [] := by
    intro fu2
    induction fu2 with
    | zero => intro k wl2 _ q; omega
    | succ fu2 ih2 =>
      intro k wl2 hWl2 me2 iv2_0 kq2
      refine x_iload_n C dX11_tellEggs_2 rfl 3 rfl rfl ?_
      refine x_iload_n C dX11_tellEggs_3 rfl 1 rfl rfl ?_
      refine x_icmp_ge C (tgt := 100) dX11_tellEggs_4 (by decide) rfl (fun c1 => ?_) (fun c1 => ?_)
      · skip
        refine x_iconst C (v := 1) dX11_tellEggs_100 (by decide) rfl ?_
        exact x_zret C hr hlk rfl dX11_tellEggs_101 ⟨hWl2, kq2, (Or.inr rfl)⟩
      · skip
        refine x_iload_n C dX11_tellEggs_7 rfl 3 rfl rfl ?_
        refine x_bipush C (v := 48) dX11_tellEggs_8 (by decide) rfl ?_
        refine x_icmp_ge C (tgt := 100) dX11_tellEggs_10 (by decide) rfl (fun c2 => ?_) (fun c2 => ?_)
        · skip
          have nf3 := nI_le' (a := 48) (b := k) c2 (by omega) (by omega)
          refine x_iconst C (v := 1) dX11_tellEggs_100 (by decide) rfl ?_
          exact x_zret C hr hlk rfl dX11_tellEggs_101 ⟨hWl2, kq2, (Or.inr rfl)⟩
        · skip
          have nf4 := nI_nle' (a := 48) (b := k) c2 (by omega) (by omega)
          refine x_aload_n C dX11_tellEggs_13 rfl 0 rfl rfl ?_
          obtain ⟨_, k5, v6, rfl⟩ := hWl2 0 _ rfl
          refine x_get C (ci := 10) (k := 0) 0 k5 rfl in_X11 (by decide) w_385 rfl dX11_tellEggs_14 rfl ?_
          refine x_iload_n C dX11_tellEggs_17 rfl 3 rfl rfl ?_
          obtain ⟨_, k7, n8, v10, v11, v12, bn9, rfl⟩ := hWl2 1 _ rfl
          refine x_vi C (As := [.int (nI k)]) (rest := []) (c_byteAt E l a wl2 hWl2 ((nI k))) mf_X8_byteAt w_983 1 k7 rfl rfl rfl (Nat.le_of_ble_eq_true rfl) ⟨(Nat.le_of_ble_eq_true rfl), (Nat.le_of_ble_eq_true rfl)⟩ ⟨(Nat.le_of_ble_eq_true rfl), (Nat.le_of_ble_eq_true rfl)⟩ dX11_tellEggs_18 rfl (fun r14 w15 h13 => ?_)
          have hW16 := h13
          refine x_ws hW16 ?_
          refine x_istore C (lv' := [(4, .int r14), (0, .ref (a 0)), (1, .int p0), (2, .int p1), (3, .int (nI k))]) dX11_tellEggs_21 (by decide) rfl rfl ?_
          refine x_aload_n C dX11_tellEggs_23 rfl 1 rfl rfl ?_
          refine x_get C (ci := 10) (k := 2) 0 k5 rfl in_X11 (by decide) w_387 rfl dX11_tellEggs_24 rfl ?_
          obtain ⟨_, k17, n18, v20, v21, v22, v23, v24, bn19, rfl⟩ := hWl2 5 _ rfl
          refine x_get C (ci := 8) (k := 4) 5 k17 rfl in_X9 (by decide) w_209 rfl dX11_tellEggs_27 rfl ?_
          refine x_iload C dX11_tellEggs_30 0 rfl rfl ?_
          obtain ⟨_, k25, n26, bn27, rfl⟩ := hWl2 14 _ rfl
          refine x_vi C (As := [.int r14]) (rest := []) (c_Eggs_isLaid E l a wl2 hWl2 5 (Or.inl rfl) r14) mf_X1_isLaid w_861 14 k25 rfl rfl rfl (Nat.le_of_ble_eq_true rfl) ⟨(Nat.le_of_ble_eq_true rfl), (Nat.le_of_ble_eq_true rfl)⟩ ⟨(Nat.le_of_ble_eq_true rfl), (Nat.le_of_ble_eq_true rfl)⟩ dX11_tellEggs_32 rfl (fun r29 w30 h28 => ?_)
          obtain ⟨hW31, zb32, x33⟩ := h28
          refine x_ws hW31 ?_
          refine x_if_eq C (tgt := 55) dX11_tellEggs_35 (by decide) rfl (fun c34 => ?_) (fun c34 => ?_)
          · skip
            refine x_iconst C (v := 0) dX11_tellEggs_55 (by decide) rfl ?_
            exact x_zret C hr hlk rfl dX11_tellEggs_56 ⟨hWl2, kq2, (Or.inl rfl)⟩
          · skip
            obtain ⟨j35, hl36, hh37, ej38⟩ := w_nat (a := 0) (b := 47) (by decide) (by decide) (x33 c34)
            subst ej38
            refine x_aload_n C dX11_tellEggs_38 rfl 1 rfl rfl ?_
            refine x_get C (ci := 10) (k := 2) 0 k5 rfl in_X11 (by decide) w_387 rfl dX11_tellEggs_39 rfl ?_
            refine x_get C (ci := 8) (k := 4) 5 k17 rfl in_X9 (by decide) w_209 rfl dX11_tellEggs_42 rfl ?_
            refine x_get C (ci := 1) (k := 6) 14 k25 rfl in_X1 (by decide) w_146 rfl dX11_tellEggs_45 rfl ?_
            refine x_iload C dX11_tellEggs_48 0 rfl rfl ?_
            obtain ⟨_, k39, f40, rfl⟩ := hWl2 20 _ rfl
            refine x_iald C (v := (f40 (nI j35).toNatClampNeg)) 20 k39 (vp_in_nI (by omega) (by decide)) rfl dX11_tellEggs_50 rfl ?_
            refine x_any (fun v41 => ?_)
            refine x_iload_n C dX11_tellEggs_51 rfl 3 rfl rfl ?_
            refine x_icmp_eq C (tgt := 57) dX11_tellEggs_52 (by decide) rfl (fun c42 => ?_) (fun c42 => ?_)
            · skip
              refine x_iconst C (v := 0) dX11_tellEggs_57 (by decide) rfl ?_
              refine x_istore C (lv' := [(5, .int 0), (4, .int (nI j35)), (0, .ref (a 0)), (1, .int p0), (2, .int p1), (3, .int (nI k))]) dX11_tellEggs_58 (by decide) rfl rfl ?_
              have loop60 : ∀ (fu60 : Nat) (j : Nat), True → k - j < fu60 → j ≤ k → X E p l e (xRm 2 0 0) s m ([.ref (a 0), .int p0, .int p1] : List Value).toArray below meth c A 6 0 0 (MQ below (va_Qi (fun r w => WX (okX E a) w ∧ keeps ws w (fun q => q = 105) ∧ zb r) (xB E A) A) ([.ref (a 0), .int p0, .int p1] : List Value).toArray s 0 0 A) wl2 60 [(0, .ref (a 0)), (1, .int p0), (2, .int p1), (3, .int (nI k)), (4, .int (nI j35)), (5, .int (nI j))] [] := by
                intro fu60
                induction fu60 with
                | zero => intro j _ q; omega
                | succ fu60 ih60 =>
                  intro j _ me60 iv60_0
                  refine x_iload C dX11_tellEggs_60 5 rfl rfl ?_
                  refine x_iload_n C dX11_tellEggs_62 rfl 3 rfl rfl ?_
                  refine x_icmp_ge C (tgt := 86) dX11_tellEggs_63 (by decide) rfl (fun c43 => ?_) (fun c43 => ?_)
                  · skip
                    have nf44 := nI_le' (a := k) (b := j) c43 (by omega) (by omega)
                    refine x_aload_n C dX11_tellEggs_86 rfl 0 rfl rfl ?_
                    refine x_get C (ci := 10) (k := 11) 0 k5 rfl in_X11 (by decide) w_396 rfl dX11_tellEggs_87 rfl ?_
                    refine x_iload_n C dX11_tellEggs_90 rfl 3 rfl rfl ?_
                    refine x_iload C dX11_tellEggs_91 4 rfl rfl ?_
                    obtain ⟨_, k45, f46, rfl⟩ := hWl2 105 _ rfl
                    obtain ⟨w47, hw48⟩ : ∃ w : va_W, w = List.set wl2 105 (iA E (a 105) 48 (upd f46 (nI k).toNatClampNeg (nI j35))) := ⟨_, rfl⟩
                    refine x_iast C 105 k45 (vp_in_nI (by omega) (by decide)) hw48.symm dX11_tellEggs_93 rfl ?_
                    have hW49 : WX (okX E a) w47 := by rw [hw48]; exact hWl2.set (k := 105) rfl ⟨_, rfl⟩
                    have k50 : w47[0]? = some (ob (a 0) 10 [.ref (a 1), .ref (a 3), .ref (a 5), .ref (a 27), .ref (a 49), .int v6, .ref (a 71), .ref (a 79), .ref (a 87), .ref (a 92), .ref (a 103), .ref (a 105), .ref (a 106), .ref (a 107), .ref (a 108), .ref (a 109), .ref (a 110), .ref (a 111), .ref (a 112)]) := by rw [hw48]; exact set_ne k5 (by decide)
                    have k51 : w47[1]? = some (ob (a 1) 7 [.ref (a 2), .int (nI n8), .int v10, .int v11, .int v12]) := by rw [hw48]; exact set_ne k7 (by decide)
                    have k52 : w47[5]? = some (ob (a 5) 8 [.int (nI n18), .int v20, .ref (a 6), .ref (a 9), .ref (a 14), .ref (a 21), .int v21, .int v22, .int v23, .int v24]) := by rw [hw48]; exact set_ne k17 (by decide)
                    have k53 : w47[14]? = some (ob (a 14) 1 [.int (nI n26), .ref (a 15), .ref (a 16), .ref (a 17), .ref (a 18), .ref (a 19), .ref (a 20)]) := by rw [hw48]; exact set_ne k25 (by decide)
                    have k54 : w47[20]? = some (iA E (a 20) 48 f40) := by rw [hw48]; exact set_ne k39 (by decide)
                    have k55 : w47[105]? = some (iA E (a 105) 48 (upd f46 (nI k).toNatClampNeg (nI j35))) := by rw [hw48]; exact set_eq k45
                    have kp56 := keeps_set kq2 hw48 (by first | exact rfl | decide | omega | (dsimp only; omega))
                    refine x_iinc C (v := (nI (k + 1))) (lv' := [(3, .int (nI (k + 1))), (0, .ref (a 0)), (1, .int p0), (2, .int p1), (4, .int (nI j35)), (5, .int (nI j))]) dX11_tellEggs_94 3 rfl (nI_add k 1) (by decide) rfl rfl ?_
                    refine x_goto C (tgt := 2) dX11_tellEggs_97 (by decide) ?_
                    refine x_lv (lv1 := [(0, .ref (a 0)), (1, .int p0), (2, .int p1), (3, .int (nI (k + 1)))]) [1, 2, 3, 0] rfl ?_
                    exact ih2 (k + 1) w47 hW49 (by omega) (by omega) kp56
                  · skip
                    have nf57 := nI_nle' (a := k) (b := j) c43 (by omega) (by omega)
                    refine x_aload_n C dX11_tellEggs_66 rfl 0 rfl rfl ?_
                    refine x_get C (ci := 10) (k := 11) 0 k5 rfl in_X11 (by decide) w_396 rfl dX11_tellEggs_67 rfl ?_
                    refine x_iload C dX11_tellEggs_70 5 rfl rfl ?_
                    obtain ⟨_, k58, f59, rfl⟩ := hWl2 105 _ rfl
                    refine x_iald C (v := (f59 (nI j).toNatClampNeg)) 105 k58 (vp_in_nI (by omega) (by decide)) rfl dX11_tellEggs_72 rfl ?_
                    refine x_any (fun v60 => ?_)
                    refine x_iload C dX11_tellEggs_73 4 rfl rfl ?_
                    refine x_icmp_ne C (tgt := 80) dX11_tellEggs_75 (by decide) rfl (fun c61 => ?_) (fun c61 => ?_)
                    · skip
                      refine x_iinc C (v := (nI (j + 1))) (lv' := [(5, .int (nI (j + 1))), (0, .ref (a 0)), (1, .int p0), (2, .int p1), (3, .int (nI k)), (4, .int (nI j35))]) dX11_tellEggs_80 5 rfl (nI_add j 1) (by decide) rfl rfl ?_
                      refine x_goto C (tgt := 60) dX11_tellEggs_83 (by decide) ?_
                      refine x_lv (lv1 := [(0, .ref (a 0)), (1, .int p0), (2, .int p1), (3, .int (nI k)), (4, .int (nI j35)), (5, .int (nI (j + 1)))]) [1, 2, 3, 4, 5, 0] rfl ?_
                      exact ih60 (j + 1) trivial (by omega) (by omega)
                    · skip
                      refine x_iconst C (v := 0) dX11_tellEggs_78 (by decide) rfl ?_
                      exact x_zret C hr hlk rfl dX11_tellEggs_79 ⟨hWl2, kq2, (Or.inl rfl)⟩
              refine x_lv (lv1 := [(0, .ref (a 0)), (1, .int p0), (2, .int p1), (3, .int (nI k)), (4, .int (nI j35)), (5, .int 0)]) [2, 3, 4, 5, 1, 0] rfl ?_
              exact loop60 _ 0 trivial (Nat.lt_succ_self _) (by omega)
            · skip
              refine x_iconst C (v := 0) dX11_tellEggs_55 (by decide) rfl ?_
              exact x_zret C hr hlk rfl dX11_tellEggs_56 ⟨hWl2, kq2, (Or.inl rfl)⟩
  refine x_lv (lv1 := [(0, .ref (a 0)), (1, .int p0), (2, .int p1), (3, .int 0)]) [1, 2, 3, 0] rfl ?_
  exact loop2 _ 0 ws hW (Nat.lt_succ_self _) (by omega) kp0
theorem dX11_share_0 : decode cX11_share 0 = .ok (.iload_n 1, 1) := by decide +kernel
theorem dX11_share_1 : decode cX11_share 1 = .ok (.iload_n 2, 1) := by decide +kernel
theorem dX11_share_2 : decode cX11_share 2 = .ok (.if_icmp .ge 9, 3) := by decide +kernel
theorem dX11_share_5 : decode cX11_share 5 = .ok (.iload_n 1, 1) := by decide +kernel
theorem dX11_share_6 : decode cX11_share 6 = .ok (.bipush 8, 2) := by decide +kernel
theorem dX11_share_8 : decode cX11_share 8 = .ok (.if_icmp .lt 73, 3) := by decide +kernel
theorem dX11_share_11 : decode cX11_share 11 = .ok (.aload_n 0, 1) := by decide +kernel
theorem dX11_share_12 : decode cX11_share 12 = .ok (.getfield 80, 3) := by decide +kernel
theorem dX11_share_15 : decode cX11_share 15 = .ok (.iconst 0, 1) := by decide +kernel
theorem dX11_share_16 : decode cX11_share 16 = .ok (.iaload, 1) := by decide +kernel
theorem dX11_share_17 : decode cX11_share 17 = .ok (.aload_n 0, 1) := by decide +kernel
theorem dX11_share_18 : decode cX11_share 18 = .ok (.getfield 80, 3) := by decide +kernel
theorem dX11_share_21 : decode cX11_share 21 = .ok (.iconst 1, 1) := by decide +kernel
theorem dX11_share_22 : decode cX11_share 22 = .ok (.iaload, 1) := by decide +kernel
theorem dX11_share_23 : decode cX11_share 23 = .ok (.invokestatic 302, 3) := by decide +kernel
theorem dX11_share_26 : decode cX11_share 26 = .ok (.istore 5, 2) := by decide +kernel
theorem dX11_share_28 : decode cX11_share 28 = .ok (.iload_n 3, 1) := by decide +kernel
theorem dX11_share_29 : decode cX11_share 29 = .ok (.iconst 2, 1) := by decide +kernel
theorem dX11_share_30 : decode cX11_share 30 = .ok (.if_icmp .le 17, 3) := by decide +kernel
theorem dX11_share_33 : decode cX11_share 33 = .ok (.iload 5, 2) := by decide +kernel
theorem dX11_share_35 : decode cX11_share 35 = .ok (.aload_n 0, 1) := by decide +kernel
theorem dX11_share_36 : decode cX11_share 36 = .ok (.getfield 80, 3) := by decide +kernel
theorem dX11_share_39 : decode cX11_share 39 = .ok (.iconst 2, 1) := by decide +kernel
theorem dX11_share_40 : decode cX11_share 40 = .ok (.iaload, 1) := by decide +kernel
theorem dX11_share_41 : decode cX11_share 41 = .ok (.invokestatic 302, 3) := by decide +kernel
theorem dX11_share_44 : decode cX11_share 44 = .ok (.goto 5, 3) := by decide +kernel
theorem dX11_share_47 : decode cX11_share 47 = .ok (.iload 5, 2) := by decide +kernel
theorem dX11_share_49 : decode cX11_share 49 = .ok (.istore 5, 2) := by decide +kernel
theorem dX11_share_51 : decode cX11_share 51 = .ok (.iload 5, 2) := by decide +kernel
theorem dX11_share_53 : decode cX11_share 53 = .ok (.iload 4, 2) := by decide +kernel
theorem dX11_share_55 : decode cX11_share 55 = .ok (.if_icmp .le 18, 3) := by decide +kernel
theorem dX11_share_58 : decode cX11_share 58 = .ok (.aload_n 0, 1) := by decide +kernel
theorem dX11_share_59 : decode cX11_share 59 = .ok (.getfield 83, 3) := by decide +kernel
theorem dX11_share_62 : decode cX11_share 62 = .ok (.iconst 0, 1) := by decide +kernel
theorem dX11_share_63 : decode cX11_share 63 = .ok (.aload_n 0, 1) := by decide +kernel
theorem dX11_share_64 : decode cX11_share 64 = .ok (.getfield 86, 3) := by decide +kernel
theorem dX11_share_67 : decode cX11_share 67 = .ok (.iconst 0, 1) := by decide +kernel
theorem dX11_share_68 : decode cX11_share 68 = .ok (.bipush 8, 2) := by decide +kernel
theorem dX11_share_70 : decode cX11_share 70 = .ok (.invokestatic 324, 3) := by decide +kernel
theorem dX11_share_73 : decode cX11_share 73 = .ok (.iload 5, 2) := by decide +kernel
theorem dX11_share_75 : decode cX11_share 75 = .ok (.iload 4, 2) := by decide +kernel
theorem dX11_share_77 : decode cX11_share 77 = .ok (.invokestatic 330, 3) := by decide +kernel
theorem dX11_share_80 : decode cX11_share 80 = .ok (.ireturn, 1) := by decide +kernel
set_option maxRecDepth 20000 in
set_option maxHeartbeats 4000000 in
theorem c_share8 (E : xE) (l : Launch) (a : Nat → Nat) (ws : va_W) (hW : WX (okX E a) ws) (n0 : Nat) (m0 : Int32) (p3 : Int32) (hn0 : n0 ≤ 8) : xI E l yX11_share cX11_share 8 (some .int) 1 [.ref (a 0), .int 8, .int (nI n0), .int m0, .int p3] ws (fun r w => WX (okX E a) w ∧ keeps ws w (fun q => ¬ (q = 0 ∨ q = 6 ∨ q = 9 ∨ q = 28 ∨ q = 31))) := by
  refine xI_start (lv := [(0, .ref (a 0)), (1, .int 8), (2, .int (nI n0)), (3, .int m0), (4, .int p3)]) RX11 (by decide) rfl (Nat.le_of_ble_eq_true rfl) rfl (fun p e s m below meth c A C hr hlk => ?_)
  have kp0 : keeps ws ws (fun q => ¬ (q = 0 ∨ q = 6 ∨ q = 9 ∨ q = 28 ∨ q = 31)) := keeps_rf
  refine x_iload_n C dX11_share_0 rfl 1 rfl rfl ?_
  refine x_iload_n C dX11_share_1 rfl 2 rfl rfl ?_
  refine x_icmp_ge C (tgt := 11) dX11_share_2 (by decide) rfl (fun c1 => ?_) (fun c1 => ?_)
  · skip
    have nf2 := nI_le' (a := n0) (b := 8) c1 (by omega) (by omega)
    refine x_aload_n C dX11_share_11 rfl 0 rfl rfl ?_
    obtain ⟨_, k3, v4, rfl⟩ := hW 0 _ rfl
    refine x_get C (ci := 10) (k := 15) 0 k3 rfl in_X11 (by decide) w_400 rfl dX11_share_12 rfl ?_
    refine x_iconst C (v := 0) dX11_share_15 (by decide) rfl ?_
    obtain ⟨_, k5, f6, rfl⟩ := hW 109 _ rfl
    refine x_iald C (v := (f6 (0 : Int32).toNatClampNeg)) 109 k5 (vp_k (j := 0) (by decide) (by decide) (by decide)) rfl dX11_share_16 rfl ?_
    refine x_any (fun v7 => ?_)
    refine x_aload_n C dX11_share_17 rfl 0 rfl rfl ?_
    refine x_get C (ci := 10) (k := 15) 0 k3 rfl in_X11 (by decide) w_400 rfl dX11_share_18 rfl ?_
    refine x_iconst C (v := 1) dX11_share_21 (by decide) rfl ?_
    refine x_iald C (v := (f6 (1 : Int32).toNatClampNeg)) 109 k5 (vp_k (j := 1) (by decide) (by decide) (by decide)) rfl dX11_share_22 rfl ?_
    refine x_any (fun v8 => ?_)
    refine x_mmin C (v := (if v8 < v7 then v8 else v7)) w_958 w_561 w_16 w_562 (Nat.le_of_ble_eq_true rfl) (Nat.le_of_ble_eq_true rfl) (Nat.le_of_ble_eq_true rfl) (Nat.le_of_ble_eq_true rfl) rfl dX11_share_23 rfl ?_
    refine x_any (fun v9 => ?_)
    refine x_istore C (lv' := [(5, .int v9), (0, .ref (a 0)), (1, .int 8), (2, .int (nI n0)), (3, .int m0), (4, .int p3)]) dX11_share_26 (by decide) rfl rfl ?_
    refine x_iload_n C dX11_share_28 rfl 4 rfl rfl ?_
    refine x_iconst C (v := 2) dX11_share_29 (by decide) rfl ?_
    refine x_icmp_le C (tgt := 47) dX11_share_30 (by decide) rfl (fun c10 => ?_) (fun c10 => ?_)
    · skip
      refine x_iload C dX11_share_47 0 rfl rfl ?_
      refine x_istore C (lv' := [(5, .int v9), (0, .ref (a 0)), (1, .int 8), (2, .int (nI n0)), (3, .int m0), (4, .int p3)]) dX11_share_49 (by decide) rfl rfl ?_
      refine x_iload C dX11_share_51 0 rfl rfl ?_
      refine x_iload C dX11_share_53 5 rfl rfl ?_
      refine x_icmp_le C (tgt := 73) dX11_share_55 (by decide) rfl (fun c11 => ?_) (fun c11 => ?_)
      · skip
        refine x_iload C dX11_share_73 0 rfl rfl ?_
        refine x_iload C dX11_share_75 5 rfl rfl ?_
        refine x_mmax C (v := (if v9 < p3 then p3 else v9)) w_992 w_558 w_16 w_559 (Nat.le_of_ble_eq_true rfl) (Nat.le_of_ble_eq_true rfl) (Nat.le_of_ble_eq_true rfl) (Nat.le_of_ble_eq_true rfl) rfl dX11_share_77 rfl ?_
        refine x_any (fun v12 => ?_)
        exact x_zret C hr hlk rfl dX11_share_80 ⟨hW, kp0⟩
      · skip
        refine x_aload_n C dX11_share_58 rfl 1 rfl rfl ?_
        refine x_get C (ci := 10) (k := 16) 0 k3 rfl in_X11 (by decide) w_401 rfl dX11_share_59 rfl ?_
        refine x_iconst C (v := 0) dX11_share_62 (by decide) rfl ?_
        refine x_aload_n C dX11_share_63 rfl 1 rfl rfl ?_
        refine x_get C (ci := 10) (k := 17) 0 k3 rfl in_X11 (by decide) w_402 rfl dX11_share_64 rfl ?_
        refine x_iconst C (v := 0) dX11_share_67 (by decide) rfl ?_
        refine x_bipush C (v := 8) dX11_share_68 (by decide) rfl ?_
        obtain ⟨_, k13, f14, rfl⟩ := hW 110 _ rfl
        obtain ⟨_, k15, f16, rfl⟩ := hW 111 _ rfl
        obtain ⟨w17, hw18⟩ : ∃ w : va_W, w = List.set ws 111 (iA E (a 111) 8 (va_cpy f14 f16 0 0 8)) := ⟨_, rfl⟩
        refine x_copy C 110 111 k13 k15 w_991 w_798 w_797 w_20 (by decide) (by decide) (by decide) (by decide) (by decide) (Nat.le_of_ble_eq_true rfl) (Nat.le_of_ble_eq_true rfl) hw18.symm dX11_share_70 rfl ?_
        have hW19 : WX (okX E a) w17 := by rw [hw18]; exact hW.set (k := 111) rfl ⟨_, rfl⟩
        have k20 : w17[0]? = some (ob (a 0) 10 [.ref (a 1), .ref (a 3), .ref (a 5), .ref (a 27), .ref (a 49), .int v4, .ref (a 71), .ref (a 79), .ref (a 87), .ref (a 92), .ref (a 103), .ref (a 105), .ref (a 106), .ref (a 107), .ref (a 108), .ref (a 109), .ref (a 110), .ref (a 111), .ref (a 112)]) := by rw [hw18]; exact set_ne k3 (by decide)
        have k21 : w17[109]? = some (iA E (a 109) 3 f6) := by rw [hw18]; exact set_ne k5 (by decide)
        have k22 : w17[110]? = some (iA E (a 110) 8 f14) := by rw [hw18]; exact set_ne k13 (by decide)
        have k23 : w17[111]? = some (iA E (a 111) 8 (va_cpy f14 f16 0 0 8)) := by rw [hw18]; exact set_eq k15
        have kp24 := keeps_set kp0 hw18 (by first | exact rfl | decide | omega | (dsimp only; omega))
        refine x_iload C dX11_share_73 0 rfl rfl ?_
        refine x_iload C dX11_share_75 5 rfl rfl ?_
        refine x_mmax C (v := (if v9 < p3 then p3 else v9)) w_992 w_558 w_16 w_559 (Nat.le_of_ble_eq_true rfl) (Nat.le_of_ble_eq_true rfl) (Nat.le_of_ble_eq_true rfl) (Nat.le_of_ble_eq_true rfl) rfl dX11_share_77 rfl ?_
        refine x_any (fun v25 => ?_)
        exact x_zret C hr hlk rfl dX11_share_80 ⟨hW19, kp24⟩
    · skip
      refine x_iload C dX11_share_33 0 rfl rfl ?_
      refine x_aload_n C dX11_share_35 rfl 1 rfl rfl ?_
      refine x_get C (ci := 10) (k := 15) 0 k3 rfl in_X11 (by decide) w_400 rfl dX11_share_36 rfl ?_
      refine x_iconst C (v := 2) dX11_share_39 (by decide) rfl ?_
      refine x_iald C (v := (f6 (2 : Int32).toNatClampNeg)) 109 k5 (vp_k (j := 2) (by decide) (by decide) (by decide)) rfl dX11_share_40 rfl ?_
      refine x_any (fun v26 => ?_)
      refine x_mmin C (v := (if v26 < v9 then v26 else v9)) w_958 w_561 w_16 w_562 (Nat.le_of_ble_eq_true rfl) (Nat.le_of_ble_eq_true rfl) (Nat.le_of_ble_eq_true rfl) (Nat.le_of_ble_eq_true rfl) rfl dX11_share_41 rfl ?_
      refine x_any (fun v27 => ?_)
      refine x_goto C (tgt := 49) dX11_share_44 (by decide) ?_
      refine x_istore C (lv' := [(5, .int v27), (0, .ref (a 0)), (1, .int 8), (2, .int (nI n0)), (3, .int m0), (4, .int p3)]) dX11_share_49 (by decide) rfl rfl ?_
      refine x_iload C dX11_share_51 0 rfl rfl ?_
      refine x_iload C dX11_share_53 5 rfl rfl ?_
      refine x_icmp_le C (tgt := 73) dX11_share_55 (by decide) rfl (fun c28 => ?_) (fun c28 => ?_)
      · skip
        refine x_iload C dX11_share_73 0 rfl rfl ?_
        refine x_iload C dX11_share_75 5 rfl rfl ?_
        refine x_mmax C (v := (if v27 < p3 then p3 else v27)) w_992 w_558 w_16 w_559 (Nat.le_of_ble_eq_true rfl) (Nat.le_of_ble_eq_true rfl) (Nat.le_of_ble_eq_true rfl) (Nat.le_of_ble_eq_true rfl) rfl dX11_share_77 rfl ?_
        refine x_any (fun v29 => ?_)
        exact x_zret C hr hlk rfl dX11_share_80 ⟨hW, kp0⟩
      · skip
        refine x_aload_n C dX11_share_58 rfl 1 rfl rfl ?_
        refine x_get C (ci := 10) (k := 16) 0 k3 rfl in_X11 (by decide) w_401 rfl dX11_share_59 rfl ?_
        refine x_iconst C (v := 0) dX11_share_62 (by decide) rfl ?_
        refine x_aload_n C dX11_share_63 rfl 1 rfl rfl ?_
        refine x_get C (ci := 10) (k := 17) 0 k3 rfl in_X11 (by decide) w_402 rfl dX11_share_64 rfl ?_
        refine x_iconst C (v := 0) dX11_share_67 (by decide) rfl ?_
        refine x_bipush C (v := 8) dX11_share_68 (by decide) rfl ?_
        obtain ⟨_, k30, f31, rfl⟩ := hW 110 _ rfl
        obtain ⟨_, k32, f33, rfl⟩ := hW 111 _ rfl
        obtain ⟨w34, hw35⟩ : ∃ w : va_W, w = List.set ws 111 (iA E (a 111) 8 (va_cpy f31 f33 0 0 8)) := ⟨_, rfl⟩
        refine x_copy C 110 111 k30 k32 w_991 w_798 w_797 w_20 (by decide) (by decide) (by decide) (by decide) (by decide) (Nat.le_of_ble_eq_true rfl) (Nat.le_of_ble_eq_true rfl) hw35.symm dX11_share_70 rfl ?_
        have hW36 : WX (okX E a) w34 := by rw [hw35]; exact hW.set (k := 111) rfl ⟨_, rfl⟩
        have k37 : w34[0]? = some (ob (a 0) 10 [.ref (a 1), .ref (a 3), .ref (a 5), .ref (a 27), .ref (a 49), .int v4, .ref (a 71), .ref (a 79), .ref (a 87), .ref (a 92), .ref (a 103), .ref (a 105), .ref (a 106), .ref (a 107), .ref (a 108), .ref (a 109), .ref (a 110), .ref (a 111), .ref (a 112)]) := by rw [hw35]; exact set_ne k3 (by decide)
        have k38 : w34[109]? = some (iA E (a 109) 3 f6) := by rw [hw35]; exact set_ne k5 (by decide)
        have k39 : w34[110]? = some (iA E (a 110) 8 f31) := by rw [hw35]; exact set_ne k30 (by decide)
        have k40 : w34[111]? = some (iA E (a 111) 8 (va_cpy f31 f33 0 0 8)) := by rw [hw35]; exact set_eq k32
        have kp41 := keeps_set kp0 hw35 (by first | exact rfl | decide | omega | (dsimp only; omega))
        refine x_iload C dX11_share_73 0 rfl rfl ?_
        refine x_iload C dX11_share_75 5 rfl rfl ?_
        refine x_mmax C (v := (if v27 < p3 then p3 else v27)) w_992 w_558 w_16 w_559 (Nat.le_of_ble_eq_true rfl) (Nat.le_of_ble_eq_true rfl) (Nat.le_of_ble_eq_true rfl) (Nat.le_of_ble_eq_true rfl) rfl dX11_share_77 rfl ?_
        refine x_any (fun v42 => ?_)
        exact x_zret C hr hlk rfl dX11_share_80 ⟨hW36, kp41⟩
  · skip
    have nf43 := nI_nle' (a := n0) (b := 8) c1 (by omega) (by omega)
    refine x_iload_n C dX11_share_5 rfl 1 rfl rfl ?_
    refine x_bipush C (v := 8) dX11_share_6 (by decide) rfl ?_
    refine x_icmp_lt C (tgt := 81) dX11_share_8 (by decide) rfl (fun h => absurd h (by decide)) (fun _ => ?_)
    refine x_aload_n C dX11_share_11 rfl 0 rfl rfl ?_
    obtain ⟨_, k44, v45, rfl⟩ := hW 0 _ rfl
    refine x_get C (ci := 10) (k := 15) 0 k44 rfl in_X11 (by decide) w_400 rfl dX11_share_12 rfl ?_
    refine x_iconst C (v := 0) dX11_share_15 (by decide) rfl ?_
    obtain ⟨_, k46, f47, rfl⟩ := hW 109 _ rfl
    refine x_iald C (v := (f47 (0 : Int32).toNatClampNeg)) 109 k46 (vp_k (j := 0) (by decide) (by decide) (by decide)) rfl dX11_share_16 rfl ?_
    refine x_any (fun v48 => ?_)
    refine x_aload_n C dX11_share_17 rfl 0 rfl rfl ?_
    refine x_get C (ci := 10) (k := 15) 0 k44 rfl in_X11 (by decide) w_400 rfl dX11_share_18 rfl ?_
    refine x_iconst C (v := 1) dX11_share_21 (by decide) rfl ?_
    refine x_iald C (v := (f47 (1 : Int32).toNatClampNeg)) 109 k46 (vp_k (j := 1) (by decide) (by decide) (by decide)) rfl dX11_share_22 rfl ?_
    refine x_any (fun v49 => ?_)
    refine x_mmin C (v := (if v49 < v48 then v49 else v48)) w_958 w_561 w_16 w_562 (Nat.le_of_ble_eq_true rfl) (Nat.le_of_ble_eq_true rfl) (Nat.le_of_ble_eq_true rfl) (Nat.le_of_ble_eq_true rfl) rfl dX11_share_23 rfl ?_
    refine x_any (fun v50 => ?_)
    refine x_istore C (lv' := [(5, .int v50), (0, .ref (a 0)), (1, .int 8), (2, .int (nI n0)), (3, .int m0), (4, .int p3)]) dX11_share_26 (by decide) rfl rfl ?_
    refine x_iload_n C dX11_share_28 rfl 4 rfl rfl ?_
    refine x_iconst C (v := 2) dX11_share_29 (by decide) rfl ?_
    refine x_icmp_le C (tgt := 47) dX11_share_30 (by decide) rfl (fun c51 => ?_) (fun c51 => ?_)
    · skip
      refine x_iload C dX11_share_47 0 rfl rfl ?_
      refine x_istore C (lv' := [(5, .int v50), (0, .ref (a 0)), (1, .int 8), (2, .int (nI n0)), (3, .int m0), (4, .int p3)]) dX11_share_49 (by decide) rfl rfl ?_
      refine x_iload C dX11_share_51 0 rfl rfl ?_
      refine x_iload C dX11_share_53 5 rfl rfl ?_
      refine x_icmp_le C (tgt := 73) dX11_share_55 (by decide) rfl (fun c52 => ?_) (fun c52 => ?_)
      · skip
        refine x_iload C dX11_share_73 0 rfl rfl ?_
        refine x_iload C dX11_share_75 5 rfl rfl ?_
        refine x_mmax C (v := (if v50 < p3 then p3 else v50)) w_992 w_558 w_16 w_559 (Nat.le_of_ble_eq_true rfl) (Nat.le_of_ble_eq_true rfl) (Nat.le_of_ble_eq_true rfl) (Nat.le_of_ble_eq_true rfl) rfl dX11_share_77 rfl ?_
        refine x_any (fun v53 => ?_)
        exact x_zret C hr hlk rfl dX11_share_80 ⟨hW, kp0⟩
      · skip
        refine x_aload_n C dX11_share_58 rfl 1 rfl rfl ?_
        refine x_get C (ci := 10) (k := 16) 0 k44 rfl in_X11 (by decide) w_401 rfl dX11_share_59 rfl ?_
        refine x_iconst C (v := 0) dX11_share_62 (by decide) rfl ?_
        refine x_aload_n C dX11_share_63 rfl 1 rfl rfl ?_
        refine x_get C (ci := 10) (k := 17) 0 k44 rfl in_X11 (by decide) w_402 rfl dX11_share_64 rfl ?_
        refine x_iconst C (v := 0) dX11_share_67 (by decide) rfl ?_
        refine x_bipush C (v := 8) dX11_share_68 (by decide) rfl ?_
        obtain ⟨_, k54, f55, rfl⟩ := hW 110 _ rfl
        obtain ⟨_, k56, f57, rfl⟩ := hW 111 _ rfl
        obtain ⟨w58, hw59⟩ : ∃ w : va_W, w = List.set ws 111 (iA E (a 111) 8 (va_cpy f55 f57 0 0 8)) := ⟨_, rfl⟩
        refine x_copy C 110 111 k54 k56 w_991 w_798 w_797 w_20 (by decide) (by decide) (by decide) (by decide) (by decide) (Nat.le_of_ble_eq_true rfl) (Nat.le_of_ble_eq_true rfl) hw59.symm dX11_share_70 rfl ?_
        have hW60 : WX (okX E a) w58 := by rw [hw59]; exact hW.set (k := 111) rfl ⟨_, rfl⟩
        have k61 : w58[0]? = some (ob (a 0) 10 [.ref (a 1), .ref (a 3), .ref (a 5), .ref (a 27), .ref (a 49), .int v45, .ref (a 71), .ref (a 79), .ref (a 87), .ref (a 92), .ref (a 103), .ref (a 105), .ref (a 106), .ref (a 107), .ref (a 108), .ref (a 109), .ref (a 110), .ref (a 111), .ref (a 112)]) := by rw [hw59]; exact set_ne k44 (by decide)
        have k62 : w58[109]? = some (iA E (a 109) 3 f47) := by rw [hw59]; exact set_ne k46 (by decide)
        have k63 : w58[110]? = some (iA E (a 110) 8 f55) := by rw [hw59]; exact set_ne k54 (by decide)
        have k64 : w58[111]? = some (iA E (a 111) 8 (va_cpy f55 f57 0 0 8)) := by rw [hw59]; exact set_eq k56
        have kp65 := keeps_set kp0 hw59 (by first | exact rfl | decide | omega | (dsimp only; omega))
        refine x_iload C dX11_share_73 0 rfl rfl ?_
        refine x_iload C dX11_share_75 5 rfl rfl ?_
        refine x_mmax C (v := (if v50 < p3 then p3 else v50)) w_992 w_558 w_16 w_559 (Nat.le_of_ble_eq_true rfl) (Nat.le_of_ble_eq_true rfl) (Nat.le_of_ble_eq_true rfl) (Nat.le_of_ble_eq_true rfl) rfl dX11_share_77 rfl ?_
        refine x_any (fun v66 => ?_)
        exact x_zret C hr hlk rfl dX11_share_80 ⟨hW60, kp65⟩
    · skip
      refine x_iload C dX11_share_33 0 rfl rfl ?_
      refine x_aload_n C dX11_share_35 rfl 1 rfl rfl ?_
      refine x_get C (ci := 10) (k := 15) 0 k44 rfl in_X11 (by decide) w_400 rfl dX11_share_36 rfl ?_
      refine x_iconst C (v := 2) dX11_share_39 (by decide) rfl ?_
      refine x_iald C (v := (f47 (2 : Int32).toNatClampNeg)) 109 k46 (vp_k (j := 2) (by decide) (by decide) (by decide)) rfl dX11_share_40 rfl ?_
      refine x_any (fun v67 => ?_)
      refine x_mmin C (v := (if v67 < v50 then v67 else v50)) w_958 w_561 w_16 w_562 (Nat.le_of_ble_eq_true rfl) (Nat.le_of_ble_eq_true rfl) (Nat.le_of_ble_eq_true rfl) (Nat.le_of_ble_eq_true rfl) rfl dX11_share_41 rfl ?_
      refine x_any (fun v68 => ?_)
      refine x_goto C (tgt := 49) dX11_share_44 (by decide) ?_
      refine x_istore C (lv' := [(5, .int v68), (0, .ref (a 0)), (1, .int 8), (2, .int (nI n0)), (3, .int m0), (4, .int p3)]) dX11_share_49 (by decide) rfl rfl ?_
      refine x_iload C dX11_share_51 0 rfl rfl ?_
      refine x_iload C dX11_share_53 5 rfl rfl ?_
      refine x_icmp_le C (tgt := 73) dX11_share_55 (by decide) rfl (fun c69 => ?_) (fun c69 => ?_)
      · skip
        refine x_iload C dX11_share_73 0 rfl rfl ?_
        refine x_iload C dX11_share_75 5 rfl rfl ?_
        refine x_mmax C (v := (if v68 < p3 then p3 else v68)) w_992 w_558 w_16 w_559 (Nat.le_of_ble_eq_true rfl) (Nat.le_of_ble_eq_true rfl) (Nat.le_of_ble_eq_true rfl) (Nat.le_of_ble_eq_true rfl) rfl dX11_share_77 rfl ?_
        refine x_any (fun v70 => ?_)
        exact x_zret C hr hlk rfl dX11_share_80 ⟨hW, kp0⟩
      · skip
        refine x_aload_n C dX11_share_58 rfl 1 rfl rfl ?_
        refine x_get C (ci := 10) (k := 16) 0 k44 rfl in_X11 (by decide) w_401 rfl dX11_share_59 rfl ?_
        refine x_iconst C (v := 0) dX11_share_62 (by decide) rfl ?_
        refine x_aload_n C dX11_share_63 rfl 1 rfl rfl ?_
        refine x_get C (ci := 10) (k := 17) 0 k44 rfl in_X11 (by decide) w_402 rfl dX11_share_64 rfl ?_
        refine x_iconst C (v := 0) dX11_share_67 (by decide) rfl ?_
        refine x_bipush C (v := 8) dX11_share_68 (by decide) rfl ?_
        obtain ⟨_, k71, f72, rfl⟩ := hW 110 _ rfl
        obtain ⟨_, k73, f74, rfl⟩ := hW 111 _ rfl
        obtain ⟨w75, hw76⟩ : ∃ w : va_W, w = List.set ws 111 (iA E (a 111) 8 (va_cpy f72 f74 0 0 8)) := ⟨_, rfl⟩
        refine x_copy C 110 111 k71 k73 w_991 w_798 w_797 w_20 (by decide) (by decide) (by decide) (by decide) (by decide) (Nat.le_of_ble_eq_true rfl) (Nat.le_of_ble_eq_true rfl) hw76.symm dX11_share_70 rfl ?_
        have hW77 : WX (okX E a) w75 := by rw [hw76]; exact hW.set (k := 111) rfl ⟨_, rfl⟩
        have k78 : w75[0]? = some (ob (a 0) 10 [.ref (a 1), .ref (a 3), .ref (a 5), .ref (a 27), .ref (a 49), .int v45, .ref (a 71), .ref (a 79), .ref (a 87), .ref (a 92), .ref (a 103), .ref (a 105), .ref (a 106), .ref (a 107), .ref (a 108), .ref (a 109), .ref (a 110), .ref (a 111), .ref (a 112)]) := by rw [hw76]; exact set_ne k44 (by decide)
        have k79 : w75[109]? = some (iA E (a 109) 3 f47) := by rw [hw76]; exact set_ne k46 (by decide)
        have k80 : w75[110]? = some (iA E (a 110) 8 f72) := by rw [hw76]; exact set_ne k71 (by decide)
        have k81 : w75[111]? = some (iA E (a 111) 8 (va_cpy f72 f74 0 0 8)) := by rw [hw76]; exact set_eq k73
        have kp82 := keeps_set kp0 hw76 (by first | exact rfl | decide | omega | (dsimp only; omega))
        refine x_iload C dX11_share_73 0 rfl rfl ?_
        refine x_iload C dX11_share_75 5 rfl rfl ?_
        refine x_mmax C (v := (if v68 < p3 then p3 else v68)) w_992 w_558 w_16 w_559 (Nat.le_of_ble_eq_true rfl) (Nat.le_of_ble_eq_true rfl) (Nat.le_of_ble_eq_true rfl) (Nat.le_of_ble_eq_true rfl) rfl dX11_share_77 rfl ?_
        refine x_any (fun v83 => ?_)
        exact x_zret C hr hlk rfl dX11_share_80 ⟨hW77, kp82⟩
theorem dX11_share_81 : decode cX11_share 81 = .ok (.aload_n 0, 1) := by decide +kernel
theorem dX11_share_82 : decode cX11_share 82 = .ok (.getfield 22, 3) := by decide +kernel
theorem dX11_share_85 : decode cX11_share 85 = .ok (.getfield 132, 3) := by decide +kernel
theorem dX11_share_88 : decode cX11_share 88 = .ok (.aload_n 0, 1) := by decide +kernel
theorem dX11_share_89 : decode cX11_share 89 = .ok (.getfield 67, 3) := by decide +kernel
theorem dX11_share_92 : decode cX11_share 92 = .ok (.iload_n 1, 1) := by decide +kernel
theorem dX11_share_93 : decode cX11_share 93 = .ok (.iaload, 1) := by decide +kernel
theorem dX11_share_94 : decode cX11_share 94 = .ok (.invokevirtual 333, 3) := by decide +kernel
theorem dX11_share_97 : decode cX11_share 97 = .ok (.istore 5, 2) := by decide +kernel
theorem dX11_share_99 : decode cX11_share 99 = .ok (.iload 4, 2) := by decide +kernel
theorem dX11_share_101 : decode cX11_share 101 = .ok (.istore 6, 2) := by decide +kernel
theorem dX11_share_103 : decode cX11_share 103 = .ok (.iconst 0, 1) := by decide +kernel
theorem dX11_share_104 : decode cX11_share 104 = .ok (.istore 7, 2) := by decide +kernel
theorem dX11_share_106 : decode cX11_share 106 = .ok (.iload 7, 2) := by decide +kernel
theorem dX11_share_108 : decode cX11_share 108 = .ok (.iload_n 3, 1) := by decide +kernel
theorem dX11_share_109 : decode cX11_share 109 = .ok (.if_icmp .ge 60, 3) := by decide +kernel
theorem dX11_share_112 : decode cX11_share 112 = .ok (.iload 7, 2) := by decide +kernel
theorem dX11_share_114 : decode cX11_share 114 = .ok (.iconst 3, 1) := by decide +kernel
theorem dX11_share_115 : decode cX11_share 115 = .ok (.if_icmp .ge 54, 3) := by decide +kernel
theorem dX11_share_118 : decode cX11_share 118 = .ok (.aload_n 0, 1) := by decide +kernel
theorem dX11_share_119 : decode cX11_share 119 = .ok (.getfield 83, 3) := by decide +kernel
theorem dX11_share_122 : decode cX11_share 122 = .ok (.iload_n 1, 1) := by decide +kernel
theorem dX11_share_123 : decode cX11_share 123 = .ok (.iload 7, 2) := by decide +kernel
theorem dX11_share_125 : decode cX11_share 125 = .ok (.iastore, 1) := by decide +kernel
theorem dX11_share_126 : decode cX11_share 126 = .ok (.aload_n 0, 1) := by decide +kernel
theorem dX11_share_127 : decode cX11_share 127 = .ok (.getfield 80, 3) := by decide +kernel
theorem dX11_share_130 : decode cX11_share 130 = .ok (.iload 7, 2) := by decide +kernel
theorem dX11_share_132 : decode cX11_share 132 = .ok (.dup2, 1) := by decide +kernel
theorem dX11_share_133 : decode cX11_share 133 = .ok (.iaload, 1) := by decide +kernel
theorem dX11_share_134 : decode cX11_share 134 = .ok (.iload 5, 2) := by decide +kernel
theorem dX11_share_136 : decode cX11_share 136 = .ok (.iadd, 1) := by decide +kernel
theorem dX11_share_137 : decode cX11_share 137 = .ok (.iastore, 1) := by decide +kernel
theorem dX11_share_138 : decode cX11_share 138 = .ok (.aload_n 0, 1) := by decide +kernel
theorem dX11_share_139 : decode cX11_share 139 = .ok (.iload_n 1, 1) := by decide +kernel
theorem dX11_share_140 : decode cX11_share 140 = .ok (.iconst 1, 1) := by decide +kernel
theorem dX11_share_141 : decode cX11_share 141 = .ok (.iadd, 1) := by decide +kernel
theorem dX11_share_142 : decode cX11_share 142 = .ok (.iload_n 2, 1) := by decide +kernel
theorem dX11_share_143 : decode cX11_share 143 = .ok (.iload_n 3, 1) := by decide +kernel
theorem dX11_share_144 : decode cX11_share 144 = .ok (.iload 6, 2) := by decide +kernel
theorem dX11_share_146 : decode cX11_share 146 = .ok (.invokevirtual 320, 3) := by decide +kernel
theorem dX11_share_149 : decode cX11_share 149 = .ok (.istore 6, 2) := by decide +kernel
theorem dX11_share_151 : decode cX11_share 151 = .ok (.aload_n 0, 1) := by decide +kernel
theorem dX11_share_152 : decode cX11_share 152 = .ok (.getfield 80, 3) := by decide +kernel
theorem dX11_share_155 : decode cX11_share 155 = .ok (.iload 7, 2) := by decide +kernel
theorem dX11_share_157 : decode cX11_share 157 = .ok (.dup2, 1) := by decide +kernel
theorem dX11_share_158 : decode cX11_share 158 = .ok (.iaload, 1) := by decide +kernel
theorem dX11_share_159 : decode cX11_share 159 = .ok (.iload 5, 2) := by decide +kernel
theorem dX11_share_161 : decode cX11_share 161 = .ok (.isub, 1) := by decide +kernel
theorem dX11_share_162 : decode cX11_share 162 = .ok (.iastore, 1) := by decide +kernel
theorem dX11_share_163 : decode cX11_share 163 = .ok (.iinc 7 1, 3) := by decide +kernel
theorem dX11_share_166 : decode cX11_share 166 = .ok (.goto (-60), 3) := by decide +kernel
theorem dX11_share_169 : decode cX11_share 169 = .ok (.iload 6, 2) := by decide +kernel
theorem dX11_share_171 : decode cX11_share 171 = .ok (.ireturn, 1) := by decide +kernel
set_option maxRecDepth 20000 in
set_option maxHeartbeats 4000000 in
theorem c_share7 (E : xE) (l : Launch) (a : Nat → Nat) (ws : va_W) (hW : WX (okX E a) ws) (n0 : Nat) (m0 : Int32) (p3 : Int32) (hn0 : n0 ≤ 8) : xI E l yX11_share cX11_share 8 (some .int) 2 [.ref (a 0), .int 7, .int (nI n0), .int m0, .int p3] ws (fun r w => WX (okX E a) w ∧ keeps ws w (fun q => ¬ (q = 0 ∨ q = 6 ∨ q = 9 ∨ q = 28 ∨ q = 31))) := by
  refine xI_start (lv := [(0, .ref (a 0)), (1, .int 7), (2, .int (nI n0)), (3, .int m0), (4, .int p3)]) RX11 (by decide) rfl (Nat.le_of_ble_eq_true rfl) rfl (fun p e s m below meth c A C hr hlk => ?_)
  have kp0 : keeps ws ws (fun q => ¬ (q = 0 ∨ q = 6 ∨ q = 9 ∨ q = 28 ∨ q = 31)) := keeps_rf
  refine x_iload_n C dX11_share_0 rfl 1 rfl rfl ?_
  refine x_iload_n C dX11_share_1 rfl 2 rfl rfl ?_
  refine x_icmp_ge C (tgt := 11) dX11_share_2 (by decide) rfl (fun c1 => ?_) (fun c1 => ?_)
  · skip
    have nf2 := nI_le' (a := n0) (b := 7) c1 (by omega) (by omega)
    refine x_aload_n C dX11_share_11 rfl 0 rfl rfl ?_
    obtain ⟨_, k3, v4, rfl⟩ := hW 0 _ rfl
    refine x_get C (ci := 10) (k := 15) 0 k3 rfl in_X11 (by decide) w_400 rfl dX11_share_12 rfl ?_
    refine x_iconst C (v := 0) dX11_share_15 (by decide) rfl ?_
    obtain ⟨_, k5, f6, rfl⟩ := hW 109 _ rfl
    refine x_iald C (v := (f6 (0 : Int32).toNatClampNeg)) 109 k5 (vp_k (j := 0) (by decide) (by decide) (by decide)) rfl dX11_share_16 rfl ?_
    refine x_any (fun v7 => ?_)
    refine x_aload_n C dX11_share_17 rfl 0 rfl rfl ?_
    refine x_get C (ci := 10) (k := 15) 0 k3 rfl in_X11 (by decide) w_400 rfl dX11_share_18 rfl ?_
    refine x_iconst C (v := 1) dX11_share_21 (by decide) rfl ?_
    refine x_iald C (v := (f6 (1 : Int32).toNatClampNeg)) 109 k5 (vp_k (j := 1) (by decide) (by decide) (by decide)) rfl dX11_share_22 rfl ?_
    refine x_any (fun v8 => ?_)
    refine x_mmin C (v := (if v8 < v7 then v8 else v7)) w_958 w_561 w_16 w_562 (Nat.le_of_ble_eq_true rfl) (Nat.le_of_ble_eq_true rfl) (Nat.le_of_ble_eq_true rfl) (Nat.le_of_ble_eq_true rfl) rfl dX11_share_23 rfl ?_
    refine x_any (fun v9 => ?_)
    refine x_istore C (lv' := [(5, .int v9), (0, .ref (a 0)), (1, .int 7), (2, .int (nI n0)), (3, .int m0), (4, .int p3)]) dX11_share_26 (by decide) rfl rfl ?_
    refine x_iload_n C dX11_share_28 rfl 4 rfl rfl ?_
    refine x_iconst C (v := 2) dX11_share_29 (by decide) rfl ?_
    refine x_icmp_le C (tgt := 47) dX11_share_30 (by decide) rfl (fun c10 => ?_) (fun c10 => ?_)
    · skip
      refine x_iload C dX11_share_47 0 rfl rfl ?_
      refine x_istore C (lv' := [(5, .int v9), (0, .ref (a 0)), (1, .int 7), (2, .int (nI n0)), (3, .int m0), (4, .int p3)]) dX11_share_49 (by decide) rfl rfl ?_
      refine x_iload C dX11_share_51 0 rfl rfl ?_
      refine x_iload C dX11_share_53 5 rfl rfl ?_
      refine x_icmp_le C (tgt := 73) dX11_share_55 (by decide) rfl (fun c11 => ?_) (fun c11 => ?_)
      · skip
        refine x_iload C dX11_share_73 0 rfl rfl ?_
        refine x_iload C dX11_share_75 5 rfl rfl ?_
        refine x_mmax C (v := (if v9 < p3 then p3 else v9)) w_992 w_558 w_16 w_559 (Nat.le_of_ble_eq_true rfl) (Nat.le_of_ble_eq_true rfl) (Nat.le_of_ble_eq_true rfl) (Nat.le_of_ble_eq_true rfl) rfl dX11_share_77 rfl ?_
        refine x_any (fun v12 => ?_)
        exact x_zret C hr hlk rfl dX11_share_80 ⟨hW, kp0⟩
      · skip
        refine x_aload_n C dX11_share_58 rfl 1 rfl rfl ?_
        refine x_get C (ci := 10) (k := 16) 0 k3 rfl in_X11 (by decide) w_401 rfl dX11_share_59 rfl ?_
        refine x_iconst C (v := 0) dX11_share_62 (by decide) rfl ?_
        refine x_aload_n C dX11_share_63 rfl 1 rfl rfl ?_
        refine x_get C (ci := 10) (k := 17) 0 k3 rfl in_X11 (by decide) w_402 rfl dX11_share_64 rfl ?_
        refine x_iconst C (v := 0) dX11_share_67 (by decide) rfl ?_
        refine x_bipush C (v := 8) dX11_share_68 (by decide) rfl ?_
        obtain ⟨_, k13, f14, rfl⟩ := hW 110 _ rfl
        obtain ⟨_, k15, f16, rfl⟩ := hW 111 _ rfl
        obtain ⟨w17, hw18⟩ : ∃ w : va_W, w = List.set ws 111 (iA E (a 111) 8 (va_cpy f14 f16 0 0 8)) := ⟨_, rfl⟩
        refine x_copy C 110 111 k13 k15 w_991 w_798 w_797 w_20 (by decide) (by decide) (by decide) (by decide) (by decide) (Nat.le_of_ble_eq_true rfl) (Nat.le_of_ble_eq_true rfl) hw18.symm dX11_share_70 rfl ?_
        have hW19 : WX (okX E a) w17 := by rw [hw18]; exact hW.set (k := 111) rfl ⟨_, rfl⟩
        have k20 : w17[0]? = some (ob (a 0) 10 [.ref (a 1), .ref (a 3), .ref (a 5), .ref (a 27), .ref (a 49), .int v4, .ref (a 71), .ref (a 79), .ref (a 87), .ref (a 92), .ref (a 103), .ref (a 105), .ref (a 106), .ref (a 107), .ref (a 108), .ref (a 109), .ref (a 110), .ref (a 111), .ref (a 112)]) := by rw [hw18]; exact set_ne k3 (by decide)
        have k21 : w17[109]? = some (iA E (a 109) 3 f6) := by rw [hw18]; exact set_ne k5 (by decide)
        have k22 : w17[110]? = some (iA E (a 110) 8 f14) := by rw [hw18]; exact set_ne k13 (by decide)
        have k23 : w17[111]? = some (iA E (a 111) 8 (va_cpy f14 f16 0 0 8)) := by rw [hw18]; exact set_eq k15
        have kp24 := keeps_set kp0 hw18 (by first | exact rfl | decide | omega | (dsimp only; omega))
        refine x_iload C dX11_share_73 0 rfl rfl ?_
        refine x_iload C dX11_share_75 5 rfl rfl ?_
        refine x_mmax C (v := (if v9 < p3 then p3 else v9)) w_992 w_558 w_16 w_559 (Nat.le_of_ble_eq_true rfl) (Nat.le_of_ble_eq_true rfl) (Nat.le_of_ble_eq_true rfl) (Nat.le_of_ble_eq_true rfl) rfl dX11_share_77 rfl ?_
        refine x_any (fun v25 => ?_)
        exact x_zret C hr hlk rfl dX11_share_80 ⟨hW19, kp24⟩
    · skip
      refine x_iload C dX11_share_33 0 rfl rfl ?_
      refine x_aload_n C dX11_share_35 rfl 1 rfl rfl ?_
      refine x_get C (ci := 10) (k := 15) 0 k3 rfl in_X11 (by decide) w_400 rfl dX11_share_36 rfl ?_
      refine x_iconst C (v := 2) dX11_share_39 (by decide) rfl ?_
      refine x_iald C (v := (f6 (2 : Int32).toNatClampNeg)) 109 k5 (vp_k (j := 2) (by decide) (by decide) (by decide)) rfl dX11_share_40 rfl ?_
      refine x_any (fun v26 => ?_)
      refine x_mmin C (v := (if v26 < v9 then v26 else v9)) w_958 w_561 w_16 w_562 (Nat.le_of_ble_eq_true rfl) (Nat.le_of_ble_eq_true rfl) (Nat.le_of_ble_eq_true rfl) (Nat.le_of_ble_eq_true rfl) rfl dX11_share_41 rfl ?_
      refine x_any (fun v27 => ?_)
      refine x_goto C (tgt := 49) dX11_share_44 (by decide) ?_
      refine x_istore C (lv' := [(5, .int v27), (0, .ref (a 0)), (1, .int 7), (2, .int (nI n0)), (3, .int m0), (4, .int p3)]) dX11_share_49 (by decide) rfl rfl ?_
      refine x_iload C dX11_share_51 0 rfl rfl ?_
      refine x_iload C dX11_share_53 5 rfl rfl ?_
      refine x_icmp_le C (tgt := 73) dX11_share_55 (by decide) rfl (fun c28 => ?_) (fun c28 => ?_)
      · skip
        refine x_iload C dX11_share_73 0 rfl rfl ?_
        refine x_iload C dX11_share_75 5 rfl rfl ?_
        refine x_mmax C (v := (if v27 < p3 then p3 else v27)) w_992 w_558 w_16 w_559 (Nat.le_of_ble_eq_true rfl) (Nat.le_of_ble_eq_true rfl) (Nat.le_of_ble_eq_true rfl) (Nat.le_of_ble_eq_true rfl) rfl dX11_share_77 rfl ?_
        refine x_any (fun v29 => ?_)
        exact x_zret C hr hlk rfl dX11_share_80 ⟨hW, kp0⟩
      · skip
        refine x_aload_n C dX11_share_58 rfl 1 rfl rfl ?_
        refine x_get C (ci := 10) (k := 16) 0 k3 rfl in_X11 (by decide) w_401 rfl dX11_share_59 rfl ?_
        refine x_iconst C (v := 0) dX11_share_62 (by decide) rfl ?_
        refine x_aload_n C dX11_share_63 rfl 1 rfl rfl ?_
        refine x_get C (ci := 10) (k := 17) 0 k3 rfl in_X11 (by decide) w_402 rfl dX11_share_64 rfl ?_
        refine x_iconst C (v := 0) dX11_share_67 (by decide) rfl ?_
        refine x_bipush C (v := 8) dX11_share_68 (by decide) rfl ?_
        obtain ⟨_, k30, f31, rfl⟩ := hW 110 _ rfl
        obtain ⟨_, k32, f33, rfl⟩ := hW 111 _ rfl
        obtain ⟨w34, hw35⟩ : ∃ w : va_W, w = List.set ws 111 (iA E (a 111) 8 (va_cpy f31 f33 0 0 8)) := ⟨_, rfl⟩
        refine x_copy C 110 111 k30 k32 w_991 w_798 w_797 w_20 (by decide) (by decide) (by decide) (by decide) (by decide) (Nat.le_of_ble_eq_true rfl) (Nat.le_of_ble_eq_true rfl) hw35.symm dX11_share_70 rfl ?_
        have hW36 : WX (okX E a) w34 := by rw [hw35]; exact hW.set (k := 111) rfl ⟨_, rfl⟩
        have k37 : w34[0]? = some (ob (a 0) 10 [.ref (a 1), .ref (a 3), .ref (a 5), .ref (a 27), .ref (a 49), .int v4, .ref (a 71), .ref (a 79), .ref (a 87), .ref (a 92), .ref (a 103), .ref (a 105), .ref (a 106), .ref (a 107), .ref (a 108), .ref (a 109), .ref (a 110), .ref (a 111), .ref (a 112)]) := by rw [hw35]; exact set_ne k3 (by decide)
        have k38 : w34[109]? = some (iA E (a 109) 3 f6) := by rw [hw35]; exact set_ne k5 (by decide)
        have k39 : w34[110]? = some (iA E (a 110) 8 f31) := by rw [hw35]; exact set_ne k30 (by decide)
        have k40 : w34[111]? = some (iA E (a 111) 8 (va_cpy f31 f33 0 0 8)) := by rw [hw35]; exact set_eq k32
        have kp41 := keeps_set kp0 hw35 (by first | exact rfl | decide | omega | (dsimp only; omega))
        refine x_iload C dX11_share_73 0 rfl rfl ?_
        refine x_iload C dX11_share_75 5 rfl rfl ?_
        refine x_mmax C (v := (if v27 < p3 then p3 else v27)) w_992 w_558 w_16 w_559 (Nat.le_of_ble_eq_true rfl) (Nat.le_of_ble_eq_true rfl) (Nat.le_of_ble_eq_true rfl) (Nat.le_of_ble_eq_true rfl) rfl dX11_share_77 rfl ?_
        refine x_any (fun v42 => ?_)
        exact x_zret C hr hlk rfl dX11_share_80 ⟨hW36, kp41⟩
  · skip
    have nf43 := nI_nle' (a := n0) (b := 7) c1 (by omega) (by omega)
    refine x_iload_n C dX11_share_5 rfl 1 rfl rfl ?_
    refine x_bipush C (v := 8) dX11_share_6 (by decide) rfl ?_
    refine x_icmp_lt C (tgt := 81) dX11_share_8 (by decide) rfl (fun _ => ?_) (fun h => absurd h (by decide))
    refine x_aload_n C dX11_share_81 rfl 0 rfl rfl ?_
    obtain ⟨_, k44, v45, rfl⟩ := hW 0 _ rfl
    refine x_get C (ci := 10) (k := 2) 0 k44 rfl in_X11 (by decide) w_387 rfl dX11_share_82 rfl ?_
    obtain ⟨_, k46, n47, v49, v50, v51, v52, v53, bn48, rfl⟩ := hW 5 _ rfl
    refine x_get C (ci := 8) (k := 4) 5 k46 rfl in_X9 (by decide) w_209 rfl dX11_share_85 rfl ?_
    refine x_aload_n C dX11_share_88 rfl 0 rfl rfl ?_
    refine x_get C (ci := 10) (k := 11) 0 k44 rfl in_X11 (by decide) w_396 rfl dX11_share_89 rfl ?_
    refine x_iload_n C dX11_share_92 rfl 1 rfl rfl ?_
    obtain ⟨_, k54, f55, rfl⟩ := hW 105 _ rfl
    refine x_iald C (v := (f55 (7 : Int32).toNatClampNeg)) 105 k54 (vp_k (j := 7) (by decide) (by decide) (by decide)) rfl dX11_share_93 rfl ?_
    refine x_any (fun v56 => ?_)
    obtain ⟨_, k57, n58, bn59, rfl⟩ := hW 14 _ rfl
    refine x_vi C (As := [.int v56]) (rest := []) (c_Eggs_minutesAt E l a ws hW 5 (Or.inl rfl) v56) mf_X1_minutesAt w_993 14 k57 rfl rfl rfl (Nat.le_of_ble_eq_true rfl) ⟨(Nat.le_of_ble_eq_true rfl), (Nat.le_of_ble_eq_true rfl)⟩ ⟨(Nat.le_of_ble_eq_true rfl), (Nat.le_of_ble_eq_true rfl)⟩ dX11_share_94 rfl (fun r61 w62 h60 => ?_)
    have hW63 := h60
    refine x_ws hW63 ?_
    refine x_istore C (lv' := [(5, .int r61), (0, .ref (a 0)), (1, .int 7), (2, .int (nI n0)), (3, .int m0), (4, .int p3)]) dX11_share_97 (by decide) rfl rfl ?_
    refine x_iload C dX11_share_99 5 rfl rfl ?_
    refine x_istore C (lv' := [(6, .int p3), (5, .int r61), (0, .ref (a 0)), (1, .int 7), (2, .int (nI n0)), (3, .int m0), (4, .int p3)]) dX11_share_101 (by decide) rfl rfl ?_
    refine x_iconst C (v := 0) dX11_share_103 (by decide) rfl ?_
    refine x_istore C (lv' := [(7, .int 0), (6, .int p3), (5, .int r61), (0, .ref (a 0)), (1, .int 7), (2, .int (nI n0)), (3, .int m0), (4, .int p3)]) dX11_share_104 (by decide) rfl rfl ?_
    have loop106 : ∀ (fu106 : Nat) (z106_6 : Int32) (q : Nat) (wl106 : va_W), WX (okX E a) wl106 → 3 - q < fu106 → q ≤ 3 → keeps ws wl106 (fun q => ¬ (q = 0 ∨ q = 6 ∨ q = 9 ∨ q = 28 ∨ q = 31)) → X E p l e (xRm 2 0 0) s m ([.ref (a 0), .int 7, .int (nI n0), .int m0, .int p3] : List Value).toArray below meth c A 8 0 0 (MQ below (va_Qi (fun r w => WX (okX E a) w ∧ keeps ws w (fun q => ¬ (q = 0 ∨ q = 6 ∨ q = 9 ∨ q = 28 ∨ q = 31))) (xB E A) A) ([.ref (a 0), .int 7, .int (nI n0), .int m0, .int p3] : List Value).toArray s 0 0 A) wl106 106 [(0, .ref (a 0)), (1, .int 7), (2, .int (nI n0)), (3, .int m0), (4, .int p3), (5, .int r61), (6, .int z106_6), (7, .int (nI q))] [] := by
      intro fu106
      induction fu106 with
      | zero => intro z106_6 q wl106 _ q; omega
      | succ fu106 ih106 =>
        intro z106_6 q wl106 hWl106 me106 iv106_0 kq106
        refine x_iload C dX11_share_106 7 rfl rfl ?_
        refine x_iload_n C dX11_share_108 rfl 3 rfl rfl ?_
        refine x_icmp_ge C (tgt := 169) dX11_share_109 (by decide) rfl (fun c64 => ?_) (fun c64 => ?_)
        · skip
          refine x_iload C dX11_share_169 6 rfl rfl ?_
          exact x_zret C hr hlk rfl dX11_share_171 ⟨hWl106, kq106⟩
        · skip
          refine x_iload C dX11_share_112 7 rfl rfl ?_
          refine x_iconst C (v := 3) dX11_share_114 (by decide) rfl ?_
          refine x_icmp_ge C (tgt := 169) dX11_share_115 (by decide) rfl (fun c65 => ?_) (fun c65 => ?_)
          · skip
            have nf66 := nI_le' (a := 3) (b := q) c65 (by omega) (by omega)
            refine x_iload C dX11_share_169 6 rfl rfl ?_
            exact x_zret C hr hlk rfl dX11_share_171 ⟨hWl106, kq106⟩
          · skip
            have nf67 := nI_nle' (a := 3) (b := q) c65 (by omega) (by omega)
            refine x_aload_n C dX11_share_118 rfl 0 rfl rfl ?_
            obtain ⟨_, k68, v69, rfl⟩ := hWl106 0 _ rfl
            refine x_get C (ci := 10) (k := 16) 0 k68 rfl in_X11 (by decide) w_401 rfl dX11_share_119 rfl ?_
            refine x_iload_n C dX11_share_122 rfl 1 rfl rfl ?_
            refine x_iload C dX11_share_123 7 rfl rfl ?_
            obtain ⟨_, k70, f71, rfl⟩ := hWl106 110 _ rfl
            obtain ⟨w72, hw73⟩ : ∃ w : va_W, w = List.set wl106 110 (iA E (a 110) 8 (upd f71 (7 : Int32).toNatClampNeg (nI q))) := ⟨_, rfl⟩
            refine x_iast C 110 k70 (vp_k (j := 7) (by decide) (by decide) (by decide)) hw73.symm dX11_share_125 rfl ?_
            have hW74 : WX (okX E a) w72 := by rw [hw73]; exact hWl106.set (k := 110) rfl ⟨_, rfl⟩
            have k75 : w72[0]? = some (ob (a 0) 10 [.ref (a 1), .ref (a 3), .ref (a 5), .ref (a 27), .ref (a 49), .int v69, .ref (a 71), .ref (a 79), .ref (a 87), .ref (a 92), .ref (a 103), .ref (a 105), .ref (a 106), .ref (a 107), .ref (a 108), .ref (a 109), .ref (a 110), .ref (a 111), .ref (a 112)]) := by rw [hw73]; exact set_ne k68 (by decide)
            have k76 : w72[110]? = some (iA E (a 110) 8 (upd f71 (7 : Int32).toNatClampNeg (nI q))) := by rw [hw73]; exact set_eq k70
            have kp77 := keeps_set kq106 hw73 (by first | exact rfl | decide | omega | (dsimp only; omega))
            refine x_aload_n C dX11_share_126 rfl 0 rfl rfl ?_
            refine x_get C (ci := 10) (k := 15) 0 k75 rfl in_X11 (by decide) w_400 rfl dX11_share_127 rfl ?_
            refine x_iload C dX11_share_130 7 rfl rfl ?_
            refine x_dup2 C dX11_share_132 rfl rfl rfl ?_
            obtain ⟨_, k78, f79, rfl⟩ := hW74 109 _ rfl
            refine x_iald C (v := (f79 (nI q).toNatClampNeg)) 109 k78 (vp_in_nI (by omega) (by decide)) rfl dX11_share_133 rfl ?_
            refine x_any (fun v80 => ?_)
            refine x_iload C dX11_share_134 5 rfl rfl ?_
            refine x_iadd C (v := (v80 + r61)) dX11_share_136 rfl rfl ?_
            refine x_any (fun v81 => ?_)
            obtain ⟨w82, hw83⟩ : ∃ w : va_W, w = List.set w72 109 (iA E (a 109) 3 (upd f79 (nI q).toNatClampNeg v81)) := ⟨_, rfl⟩
            refine x_iast C 109 k78 (vp_in_nI (by omega) (by decide)) hw83.symm dX11_share_137 rfl ?_
            have hW84 : WX (okX E a) w82 := by rw [hw83]; exact hW74.set (k := 109) rfl ⟨_, rfl⟩
            have k85 : w82[0]? = some (ob (a 0) 10 [.ref (a 1), .ref (a 3), .ref (a 5), .ref (a 27), .ref (a 49), .int v69, .ref (a 71), .ref (a 79), .ref (a 87), .ref (a 92), .ref (a 103), .ref (a 105), .ref (a 106), .ref (a 107), .ref (a 108), .ref (a 109), .ref (a 110), .ref (a 111), .ref (a 112)]) := by rw [hw83]; exact set_ne k75 (by decide)
            have k86 : w82[110]? = some (iA E (a 110) 8 (upd f71 (7 : Int32).toNatClampNeg (nI q))) := by rw [hw83]; exact set_ne k76 (by decide)
            have k87 : w82[109]? = some (iA E (a 109) 3 (upd f79 (nI q).toNatClampNeg v81)) := by rw [hw83]; exact set_eq k78
            have kp88 := keeps_set kp77 hw83 (by first | exact rfl | decide | omega | (dsimp only; omega))
            refine x_aload_n C dX11_share_138 rfl 0 rfl rfl ?_
            refine x_iload_n C dX11_share_139 rfl 1 rfl rfl ?_
            refine x_iconst C (v := 1) dX11_share_140 (by decide) rfl ?_
            refine x_iadd C (v := 8) dX11_share_141 (by decide) rfl ?_
            refine x_iload_n C dX11_share_142 rfl 2 rfl rfl ?_
            refine x_iload_n C dX11_share_143 rfl 3 rfl rfl ?_
            refine x_iload C dX11_share_144 6 rfl rfl ?_
            refine x_vi C (As := [.int 8, .int (nI n0), .int m0, .int z106_6]) (rest := []) (c_share8 E l a w82 hW84 n0 m0 z106_6 (by omega)) mf_X11_share w_987 0 k85 rfl rfl rfl (Nat.le_of_ble_eq_true rfl) ⟨(Nat.le_of_ble_eq_true rfl), (Nat.le_of_ble_eq_true rfl)⟩ ⟨(Nat.le_of_ble_eq_true rfl), (Nat.le_of_ble_eq_true rfl)⟩ dX11_share_146 rfl (fun r90 w91 h89 => ?_)
            obtain ⟨hW92, kq93⟩ := h89
            have k94 : w91[0]? = some (ob (a 0) 10 [.ref (a 1), .ref (a 3), .ref (a 5), .ref (a 27), .ref (a 49), .int v69, .ref (a 71), .ref (a 79), .ref (a 87), .ref (a 92), .ref (a 103), .ref (a 105), .ref (a 106), .ref (a 107), .ref (a 108), .ref (a 109), .ref (a 110), .ref (a 111), .ref (a 112)]) := keeps_at kq93 k85 (by first | decide | omega | (dsimp only; omega))
            have kp95 := keeps_tr kp88 kq93 (fun q hq => by first | omega | (dsimp only at *; omega))
            refine x_istore C (lv' := [(6, .int r90), (0, .ref (a 0)), (1, .int 7), (2, .int (nI n0)), (3, .int m0), (4, .int p3), (5, .int r61), (7, .int (nI q))]) dX11_share_149 (by decide) rfl rfl ?_
            refine x_aload_n C dX11_share_151 rfl 1 rfl rfl ?_
            refine x_get C (ci := 10) (k := 15) 0 k94 rfl in_X11 (by decide) w_400 rfl dX11_share_152 rfl ?_
            refine x_iload C dX11_share_155 7 rfl rfl ?_
            refine x_dup2 C dX11_share_157 rfl rfl rfl ?_
            obtain ⟨_, k96, f97, rfl⟩ := hW92 109 _ rfl
            refine x_iald C (v := (f97 (nI q).toNatClampNeg)) 109 k96 (vp_in_nI (by omega) (by decide)) rfl dX11_share_158 rfl ?_
            refine x_any (fun v98 => ?_)
            refine x_iload C dX11_share_159 6 rfl rfl ?_
            refine x_isub C (v := (v98 - r61)) dX11_share_161 rfl rfl ?_
            refine x_any (fun v99 => ?_)
            obtain ⟨w100, hw101⟩ : ∃ w : va_W, w = List.set w91 109 (iA E (a 109) 3 (upd f97 (nI q).toNatClampNeg v99)) := ⟨_, rfl⟩
            refine x_iast C 109 k96 (vp_in_nI (by omega) (by decide)) hw101.symm dX11_share_162 rfl ?_
            have hW102 : WX (okX E a) w100 := by rw [hw101]; exact hW92.set (k := 109) rfl ⟨_, rfl⟩
            have k103 : w100[0]? = some (ob (a 0) 10 [.ref (a 1), .ref (a 3), .ref (a 5), .ref (a 27), .ref (a 49), .int v69, .ref (a 71), .ref (a 79), .ref (a 87), .ref (a 92), .ref (a 103), .ref (a 105), .ref (a 106), .ref (a 107), .ref (a 108), .ref (a 109), .ref (a 110), .ref (a 111), .ref (a 112)]) := by rw [hw101]; exact set_ne k94 (by decide)
            have k104 : w100[109]? = some (iA E (a 109) 3 (upd f97 (nI q).toNatClampNeg v99)) := by rw [hw101]; exact set_eq k96
            have kp105 := keeps_set kp95 hw101 (by first | exact rfl | decide | omega | (dsimp only; omega))
            refine x_iinc C (v := (nI (q + 1))) (lv' := [(7, .int (nI (q + 1))), (6, .int r90), (0, .ref (a 0)), (1, .int 7), (2, .int (nI n0)), (3, .int m0), (4, .int p3), (5, .int r61)]) dX11_share_163 7 rfl (nI_add q 1) (by decide) rfl rfl ?_
            refine x_goto C (tgt := 106) dX11_share_166 (by decide) ?_
            refine x_lv (lv1 := [(0, .ref (a 0)), (1, .int 7), (2, .int (nI n0)), (3, .int m0), (4, .int p3), (5, .int r61), (6, .int r90), (7, .int (nI (q + 1)))]) [2, 3, 4, 5, 6, 7, 1, 0] rfl ?_
            exact ih106 r90 (q + 1) w100 hW102 (by omega) (by omega) kp105
    refine x_lv (lv1 := [(0, .ref (a 0)), (1, .int 7), (2, .int (nI n0)), (3, .int m0), (4, .int p3), (5, .int r61), (6, .int p3), (7, .int 0)]) [3, 4, 5, 6, 7, 2, 1, 0] rfl ?_
    exact loop106 _ p3 0 ws hW (Nat.lt_succ_self _) (by omega) kp0
set_option maxRecDepth 20000 in
set_option maxHeartbeats 4000000 in
theorem c_share6 (E : xE) (l : Launch) (a : Nat → Nat) (ws : va_W) (hW : WX (okX E a) ws) (n0 : Nat) (m0 : Int32) (p3 : Int32) (hn0 : n0 ≤ 8) : xI E l yX11_share cX11_share 8 (some .int) 3 [.ref (a 0), .int 6, .int (nI n0), .int m0, .int p3] ws (fun r w => WX (okX E a) w ∧ keeps ws w (fun q => ¬ (q = 0 ∨ q = 6 ∨ q = 9 ∨ q = 28 ∨ q = 31))) := by
  refine xI_start (lv := [(0, .ref (a 0)), (1, .int 6), (2, .int (nI n0)), (3, .int m0), (4, .int p3)]) RX11 (by decide) rfl (Nat.le_of_ble_eq_true rfl) rfl (fun p e s m below meth c A C hr hlk => ?_)
  have kp0 : keeps ws ws (fun q => ¬ (q = 0 ∨ q = 6 ∨ q = 9 ∨ q = 28 ∨ q = 31)) := keeps_rf
  refine x_iload_n C dX11_share_0 rfl 1 rfl rfl ?_
  refine x_iload_n C dX11_share_1 rfl 2 rfl rfl ?_
  refine x_icmp_ge C (tgt := 11) dX11_share_2 (by decide) rfl (fun c1 => ?_) (fun c1 => ?_)
  · skip
    have nf2 := nI_le' (a := n0) (b := 6) c1 (by omega) (by omega)
    refine x_aload_n C dX11_share_11 rfl 0 rfl rfl ?_
    obtain ⟨_, k3, v4, rfl⟩ := hW 0 _ rfl
    refine x_get C (ci := 10) (k := 15) 0 k3 rfl in_X11 (by decide) w_400 rfl dX11_share_12 rfl ?_
    refine x_iconst C (v := 0) dX11_share_15 (by decide) rfl ?_
    obtain ⟨_, k5, f6, rfl⟩ := hW 109 _ rfl
    refine x_iald C (v := (f6 (0 : Int32).toNatClampNeg)) 109 k5 (vp_k (j := 0) (by decide) (by decide) (by decide)) rfl dX11_share_16 rfl ?_
    refine x_any (fun v7 => ?_)
    refine x_aload_n C dX11_share_17 rfl 0 rfl rfl ?_
    refine x_get C (ci := 10) (k := 15) 0 k3 rfl in_X11 (by decide) w_400 rfl dX11_share_18 rfl ?_
    refine x_iconst C (v := 1) dX11_share_21 (by decide) rfl ?_
    refine x_iald C (v := (f6 (1 : Int32).toNatClampNeg)) 109 k5 (vp_k (j := 1) (by decide) (by decide) (by decide)) rfl dX11_share_22 rfl ?_
    refine x_any (fun v8 => ?_)
    refine x_mmin C (v := (if v8 < v7 then v8 else v7)) w_958 w_561 w_16 w_562 (Nat.le_of_ble_eq_true rfl) (Nat.le_of_ble_eq_true rfl) (Nat.le_of_ble_eq_true rfl) (Nat.le_of_ble_eq_true rfl) rfl dX11_share_23 rfl ?_
    refine x_any (fun v9 => ?_)
    refine x_istore C (lv' := [(5, .int v9), (0, .ref (a 0)), (1, .int 6), (2, .int (nI n0)), (3, .int m0), (4, .int p3)]) dX11_share_26 (by decide) rfl rfl ?_
    refine x_iload_n C dX11_share_28 rfl 4 rfl rfl ?_
    refine x_iconst C (v := 2) dX11_share_29 (by decide) rfl ?_
    refine x_icmp_le C (tgt := 47) dX11_share_30 (by decide) rfl (fun c10 => ?_) (fun c10 => ?_)
    · skip
      refine x_iload C dX11_share_47 0 rfl rfl ?_
      refine x_istore C (lv' := [(5, .int v9), (0, .ref (a 0)), (1, .int 6), (2, .int (nI n0)), (3, .int m0), (4, .int p3)]) dX11_share_49 (by decide) rfl rfl ?_
      refine x_iload C dX11_share_51 0 rfl rfl ?_
      refine x_iload C dX11_share_53 5 rfl rfl ?_
      refine x_icmp_le C (tgt := 73) dX11_share_55 (by decide) rfl (fun c11 => ?_) (fun c11 => ?_)
      · skip
        refine x_iload C dX11_share_73 0 rfl rfl ?_
        refine x_iload C dX11_share_75 5 rfl rfl ?_
        refine x_mmax C (v := (if v9 < p3 then p3 else v9)) w_992 w_558 w_16 w_559 (Nat.le_of_ble_eq_true rfl) (Nat.le_of_ble_eq_true rfl) (Nat.le_of_ble_eq_true rfl) (Nat.le_of_ble_eq_true rfl) rfl dX11_share_77 rfl ?_
        refine x_any (fun v12 => ?_)
        exact x_zret C hr hlk rfl dX11_share_80 ⟨hW, kp0⟩
      · skip
        refine x_aload_n C dX11_share_58 rfl 1 rfl rfl ?_
        refine x_get C (ci := 10) (k := 16) 0 k3 rfl in_X11 (by decide) w_401 rfl dX11_share_59 rfl ?_
        refine x_iconst C (v := 0) dX11_share_62 (by decide) rfl ?_
        refine x_aload_n C dX11_share_63 rfl 1 rfl rfl ?_
        refine x_get C (ci := 10) (k := 17) 0 k3 rfl in_X11 (by decide) w_402 rfl dX11_share_64 rfl ?_
        refine x_iconst C (v := 0) dX11_share_67 (by decide) rfl ?_
        refine x_bipush C (v := 8) dX11_share_68 (by decide) rfl ?_
        obtain ⟨_, k13, f14, rfl⟩ := hW 110 _ rfl
        obtain ⟨_, k15, f16, rfl⟩ := hW 111 _ rfl
        obtain ⟨w17, hw18⟩ : ∃ w : va_W, w = List.set ws 111 (iA E (a 111) 8 (va_cpy f14 f16 0 0 8)) := ⟨_, rfl⟩
        refine x_copy C 110 111 k13 k15 w_991 w_798 w_797 w_20 (by decide) (by decide) (by decide) (by decide) (by decide) (Nat.le_of_ble_eq_true rfl) (Nat.le_of_ble_eq_true rfl) hw18.symm dX11_share_70 rfl ?_
        have hW19 : WX (okX E a) w17 := by rw [hw18]; exact hW.set (k := 111) rfl ⟨_, rfl⟩
        have k20 : w17[0]? = some (ob (a 0) 10 [.ref (a 1), .ref (a 3), .ref (a 5), .ref (a 27), .ref (a 49), .int v4, .ref (a 71), .ref (a 79), .ref (a 87), .ref (a 92), .ref (a 103), .ref (a 105), .ref (a 106), .ref (a 107), .ref (a 108), .ref (a 109), .ref (a 110), .ref (a 111), .ref (a 112)]) := by rw [hw18]; exact set_ne k3 (by decide)
        have k21 : w17[109]? = some (iA E (a 109) 3 f6) := by rw [hw18]; exact set_ne k5 (by decide)
        have k22 : w17[110]? = some (iA E (a 110) 8 f14) := by rw [hw18]; exact set_ne k13 (by decide)
        have k23 : w17[111]? = some (iA E (a 111) 8 (va_cpy f14 f16 0 0 8)) := by rw [hw18]; exact set_eq k15
        have kp24 := keeps_set kp0 hw18 (by first | exact rfl | decide | omega | (dsimp only; omega))
        refine x_iload C dX11_share_73 0 rfl rfl ?_
        refine x_iload C dX11_share_75 5 rfl rfl ?_
        refine x_mmax C (v := (if v9 < p3 then p3 else v9)) w_992 w_558 w_16 w_559 (Nat.le_of_ble_eq_true rfl) (Nat.le_of_ble_eq_true rfl) (Nat.le_of_ble_eq_true rfl) (Nat.le_of_ble_eq_true rfl) rfl dX11_share_77 rfl ?_
        refine x_any (fun v25 => ?_)
        exact x_zret C hr hlk rfl dX11_share_80 ⟨hW19, kp24⟩
    · skip
      refine x_iload C dX11_share_33 0 rfl rfl ?_
      refine x_aload_n C dX11_share_35 rfl 1 rfl rfl ?_
      refine x_get C (ci := 10) (k := 15) 0 k3 rfl in_X11 (by decide) w_400 rfl dX11_share_36 rfl ?_
      refine x_iconst C (v := 2) dX11_share_39 (by decide) rfl ?_
      refine x_iald C (v := (f6 (2 : Int32).toNatClampNeg)) 109 k5 (vp_k (j := 2) (by decide) (by decide) (by decide)) rfl dX11_share_40 rfl ?_
      refine x_any (fun v26 => ?_)
      refine x_mmin C (v := (if v26 < v9 then v26 else v9)) w_958 w_561 w_16 w_562 (Nat.le_of_ble_eq_true rfl) (Nat.le_of_ble_eq_true rfl) (Nat.le_of_ble_eq_true rfl) (Nat.le_of_ble_eq_true rfl) rfl dX11_share_41 rfl ?_
      refine x_any (fun v27 => ?_)
      refine x_goto C (tgt := 49) dX11_share_44 (by decide) ?_
      refine x_istore C (lv' := [(5, .int v27), (0, .ref (a 0)), (1, .int 6), (2, .int (nI n0)), (3, .int m0), (4, .int p3)]) dX11_share_49 (by decide) rfl rfl ?_
      refine x_iload C dX11_share_51 0 rfl rfl ?_
      refine x_iload C dX11_share_53 5 rfl rfl ?_
      refine x_icmp_le C (tgt := 73) dX11_share_55 (by decide) rfl (fun c28 => ?_) (fun c28 => ?_)
      · skip
        refine x_iload C dX11_share_73 0 rfl rfl ?_
        refine x_iload C dX11_share_75 5 rfl rfl ?_
        refine x_mmax C (v := (if v27 < p3 then p3 else v27)) w_992 w_558 w_16 w_559 (Nat.le_of_ble_eq_true rfl) (Nat.le_of_ble_eq_true rfl) (Nat.le_of_ble_eq_true rfl) (Nat.le_of_ble_eq_true rfl) rfl dX11_share_77 rfl ?_
        refine x_any (fun v29 => ?_)
        exact x_zret C hr hlk rfl dX11_share_80 ⟨hW, kp0⟩
      · skip
        refine x_aload_n C dX11_share_58 rfl 1 rfl rfl ?_
        refine x_get C (ci := 10) (k := 16) 0 k3 rfl in_X11 (by decide) w_401 rfl dX11_share_59 rfl ?_
        refine x_iconst C (v := 0) dX11_share_62 (by decide) rfl ?_
        refine x_aload_n C dX11_share_63 rfl 1 rfl rfl ?_
        refine x_get C (ci := 10) (k := 17) 0 k3 rfl in_X11 (by decide) w_402 rfl dX11_share_64 rfl ?_
        refine x_iconst C (v := 0) dX11_share_67 (by decide) rfl ?_
        refine x_bipush C (v := 8) dX11_share_68 (by decide) rfl ?_
        obtain ⟨_, k30, f31, rfl⟩ := hW 110 _ rfl
        obtain ⟨_, k32, f33, rfl⟩ := hW 111 _ rfl
        obtain ⟨w34, hw35⟩ : ∃ w : va_W, w = List.set ws 111 (iA E (a 111) 8 (va_cpy f31 f33 0 0 8)) := ⟨_, rfl⟩
        refine x_copy C 110 111 k30 k32 w_991 w_798 w_797 w_20 (by decide) (by decide) (by decide) (by decide) (by decide) (Nat.le_of_ble_eq_true rfl) (Nat.le_of_ble_eq_true rfl) hw35.symm dX11_share_70 rfl ?_
        have hW36 : WX (okX E a) w34 := by rw [hw35]; exact hW.set (k := 111) rfl ⟨_, rfl⟩
        have k37 : w34[0]? = some (ob (a 0) 10 [.ref (a 1), .ref (a 3), .ref (a 5), .ref (a 27), .ref (a 49), .int v4, .ref (a 71), .ref (a 79), .ref (a 87), .ref (a 92), .ref (a 103), .ref (a 105), .ref (a 106), .ref (a 107), .ref (a 108), .ref (a 109), .ref (a 110), .ref (a 111), .ref (a 112)]) := by rw [hw35]; exact set_ne k3 (by decide)
        have k38 : w34[109]? = some (iA E (a 109) 3 f6) := by rw [hw35]; exact set_ne k5 (by decide)
        have k39 : w34[110]? = some (iA E (a 110) 8 f31) := by rw [hw35]; exact set_ne k30 (by decide)
        have k40 : w34[111]? = some (iA E (a 111) 8 (va_cpy f31 f33 0 0 8)) := by rw [hw35]; exact set_eq k32
        have kp41 := keeps_set kp0 hw35 (by first | exact rfl | decide | omega | (dsimp only; omega))
        refine x_iload C dX11_share_73 0 rfl rfl ?_
        refine x_iload C dX11_share_75 5 rfl rfl ?_
        refine x_mmax C (v := (if v27 < p3 then p3 else v27)) w_992 w_558 w_16 w_559 (Nat.le_of_ble_eq_true rfl) (Nat.le_of_ble_eq_true rfl) (Nat.le_of_ble_eq_true rfl) (Nat.le_of_ble_eq_true rfl) rfl dX11_share_77 rfl ?_
        refine x_any (fun v42 => ?_)
        exact x_zret C hr hlk rfl dX11_share_80 ⟨hW36, kp41⟩
  · skip
    have nf43 := nI_nle' (a := n0) (b := 6) c1 (by omega) (by omega)
    refine x_iload_n C dX11_share_5 rfl 1 rfl rfl ?_
    refine x_bipush C (v := 8) dX11_share_6 (by decide) rfl ?_
    refine x_icmp_lt C (tgt := 81) dX11_share_8 (by decide) rfl (fun _ => ?_) (fun h => absurd h (by decide))
    refine x_aload_n C dX11_share_81 rfl 0 rfl rfl ?_
    obtain ⟨_, k44, v45, rfl⟩ := hW 0 _ rfl
    refine x_get C (ci := 10) (k := 2) 0 k44 rfl in_X11 (by decide) w_387 rfl dX11_share_82 rfl ?_
    obtain ⟨_, k46, n47, v49, v50, v51, v52, v53, bn48, rfl⟩ := hW 5 _ rfl
    refine x_get C (ci := 8) (k := 4) 5 k46 rfl in_X9 (by decide) w_209 rfl dX11_share_85 rfl ?_
    refine x_aload_n C dX11_share_88 rfl 0 rfl rfl ?_
    refine x_get C (ci := 10) (k := 11) 0 k44 rfl in_X11 (by decide) w_396 rfl dX11_share_89 rfl ?_
    refine x_iload_n C dX11_share_92 rfl 1 rfl rfl ?_
    obtain ⟨_, k54, f55, rfl⟩ := hW 105 _ rfl
    refine x_iald C (v := (f55 (6 : Int32).toNatClampNeg)) 105 k54 (vp_k (j := 6) (by decide) (by decide) (by decide)) rfl dX11_share_93 rfl ?_
    refine x_any (fun v56 => ?_)
    obtain ⟨_, k57, n58, bn59, rfl⟩ := hW 14 _ rfl
    refine x_vi C (As := [.int v56]) (rest := []) (c_Eggs_minutesAt E l a ws hW 5 (Or.inl rfl) v56) mf_X1_minutesAt w_993 14 k57 rfl rfl rfl (Nat.le_of_ble_eq_true rfl) ⟨(Nat.le_of_ble_eq_true rfl), (Nat.le_of_ble_eq_true rfl)⟩ ⟨(Nat.le_of_ble_eq_true rfl), (Nat.le_of_ble_eq_true rfl)⟩ dX11_share_94 rfl (fun r61 w62 h60 => ?_)
    have hW63 := h60
    refine x_ws hW63 ?_
    refine x_istore C (lv' := [(5, .int r61), (0, .ref (a 0)), (1, .int 6), (2, .int (nI n0)), (3, .int m0), (4, .int p3)]) dX11_share_97 (by decide) rfl rfl ?_
    refine x_iload C dX11_share_99 5 rfl rfl ?_
    refine x_istore C (lv' := [(6, .int p3), (5, .int r61), (0, .ref (a 0)), (1, .int 6), (2, .int (nI n0)), (3, .int m0), (4, .int p3)]) dX11_share_101 (by decide) rfl rfl ?_
    refine x_iconst C (v := 0) dX11_share_103 (by decide) rfl ?_
    refine x_istore C (lv' := [(7, .int 0), (6, .int p3), (5, .int r61), (0, .ref (a 0)), (1, .int 6), (2, .int (nI n0)), (3, .int m0), (4, .int p3)]) dX11_share_104 (by decide) rfl rfl ?_
    have loop106 : ∀ (fu106 : Nat) (z106_6 : Int32) (q : Nat) (wl106 : va_W), WX (okX E a) wl106 → 3 - q < fu106 → q ≤ 3 → keeps ws wl106 (fun q => ¬ (q = 0 ∨ q = 6 ∨ q = 9 ∨ q = 28 ∨ q = 31)) → X E p l e (xRm 3 0 0) s m ([.ref (a 0), .int 6, .int (nI n0), .int m0, .int p3] : List Value).toArray below meth c A 8 0 0 (MQ below (va_Qi (fun r w => WX (okX E a) w ∧ keeps ws w (fun q => ¬ (q = 0 ∨ q = 6 ∨ q = 9 ∨ q = 28 ∨ q = 31))) (xB E A) A) ([.ref (a 0), .int 6, .int (nI n0), .int m0, .int p3] : List Value).toArray s 0 0 A) wl106 106 [(0, .ref (a 0)), (1, .int 6), (2, .int (nI n0)), (3, .int m0), (4, .int p3), (5, .int r61), (6, .int z106_6), (7, .int (nI q))] [] := by
      intro fu106
      induction fu106 with
      | zero => intro z106_6 q wl106 _ q; omega
      | succ fu106 ih106 =>
        intro z106_6 q wl106 hWl106 me106 iv106_0 kq106
        refine x_iload C dX11_share_106 7 rfl rfl ?_
        refine x_iload_n C dX11_share_108 rfl 3 rfl rfl ?_
        refine x_icmp_ge C (tgt := 169) dX11_share_109 (by decide) rfl (fun c64 => ?_) (fun c64 => ?_)
        · skip
          refine x_iload C dX11_share_169 6 rfl rfl ?_
          exact x_zret C hr hlk rfl dX11_share_171 ⟨hWl106, kq106⟩
        · skip
          refine x_iload C dX11_share_112 7 rfl rfl ?_
          refine x_iconst C (v := 3) dX11_share_114 (by decide) rfl ?_
          refine x_icmp_ge C (tgt := 169) dX11_share_115 (by decide) rfl (fun c65 => ?_) (fun c65 => ?_)
          · skip
            have nf66 := nI_le' (a := 3) (b := q) c65 (by omega) (by omega)
            refine x_iload C dX11_share_169 6 rfl rfl ?_
            exact x_zret C hr hlk rfl dX11_share_171 ⟨hWl106, kq106⟩
          · skip
            have nf67 := nI_nle' (a := 3) (b := q) c65 (by omega) (by omega)
            refine x_aload_n C dX11_share_118 rfl 0 rfl rfl ?_
            obtain ⟨_, k68, v69, rfl⟩ := hWl106 0 _ rfl
            refine x_get C (ci := 10) (k := 16) 0 k68 rfl in_X11 (by decide) w_401 rfl dX11_share_119 rfl ?_
            refine x_iload_n C dX11_share_122 rfl 1 rfl rfl ?_
            refine x_iload C dX11_share_123 7 rfl rfl ?_
            obtain ⟨_, k70, f71, rfl⟩ := hWl106 110 _ rfl
            obtain ⟨w72, hw73⟩ : ∃ w : va_W, w = List.set wl106 110 (iA E (a 110) 8 (upd f71 (6 : Int32).toNatClampNeg (nI q))) := ⟨_, rfl⟩
            refine x_iast C 110 k70 (vp_k (j := 6) (by decide) (by decide) (by decide)) hw73.symm dX11_share_125 rfl ?_
            have hW74 : WX (okX E a) w72 := by rw [hw73]; exact hWl106.set (k := 110) rfl ⟨_, rfl⟩
            have k75 : w72[0]? = some (ob (a 0) 10 [.ref (a 1), .ref (a 3), .ref (a 5), .ref (a 27), .ref (a 49), .int v69, .ref (a 71), .ref (a 79), .ref (a 87), .ref (a 92), .ref (a 103), .ref (a 105), .ref (a 106), .ref (a 107), .ref (a 108), .ref (a 109), .ref (a 110), .ref (a 111), .ref (a 112)]) := by rw [hw73]; exact set_ne k68 (by decide)
            have k76 : w72[110]? = some (iA E (a 110) 8 (upd f71 (6 : Int32).toNatClampNeg (nI q))) := by rw [hw73]; exact set_eq k70
            have kp77 := keeps_set kq106 hw73 (by first | exact rfl | decide | omega | (dsimp only; omega))
            refine x_aload_n C dX11_share_126 rfl 0 rfl rfl ?_
            refine x_get C (ci := 10) (k := 15) 0 k75 rfl in_X11 (by decide) w_400 rfl dX11_share_127 rfl ?_
            refine x_iload C dX11_share_130 7 rfl rfl ?_
            refine x_dup2 C dX11_share_132 rfl rfl rfl ?_
            obtain ⟨_, k78, f79, rfl⟩ := hW74 109 _ rfl
            refine x_iald C (v := (f79 (nI q).toNatClampNeg)) 109 k78 (vp_in_nI (by omega) (by decide)) rfl dX11_share_133 rfl ?_
            refine x_any (fun v80 => ?_)
            refine x_iload C dX11_share_134 5 rfl rfl ?_
            refine x_iadd C (v := (v80 + r61)) dX11_share_136 rfl rfl ?_
            refine x_any (fun v81 => ?_)
            obtain ⟨w82, hw83⟩ : ∃ w : va_W, w = List.set w72 109 (iA E (a 109) 3 (upd f79 (nI q).toNatClampNeg v81)) := ⟨_, rfl⟩
            refine x_iast C 109 k78 (vp_in_nI (by omega) (by decide)) hw83.symm dX11_share_137 rfl ?_
            have hW84 : WX (okX E a) w82 := by rw [hw83]; exact hW74.set (k := 109) rfl ⟨_, rfl⟩
            have k85 : w82[0]? = some (ob (a 0) 10 [.ref (a 1), .ref (a 3), .ref (a 5), .ref (a 27), .ref (a 49), .int v69, .ref (a 71), .ref (a 79), .ref (a 87), .ref (a 92), .ref (a 103), .ref (a 105), .ref (a 106), .ref (a 107), .ref (a 108), .ref (a 109), .ref (a 110), .ref (a 111), .ref (a 112)]) := by rw [hw83]; exact set_ne k75 (by decide)
            have k86 : w82[110]? = some (iA E (a 110) 8 (upd f71 (6 : Int32).toNatClampNeg (nI q))) := by rw [hw83]; exact set_ne k76 (by decide)
            have k87 : w82[109]? = some (iA E (a 109) 3 (upd f79 (nI q).toNatClampNeg v81)) := by rw [hw83]; exact set_eq k78
            have kp88 := keeps_set kp77 hw83 (by first | exact rfl | decide | omega | (dsimp only; omega))
            refine x_aload_n C dX11_share_138 rfl 0 rfl rfl ?_
            refine x_iload_n C dX11_share_139 rfl 1 rfl rfl ?_
            refine x_iconst C (v := 1) dX11_share_140 (by decide) rfl ?_
            refine x_iadd C (v := 7) dX11_share_141 (by decide) rfl ?_
            refine x_iload_n C dX11_share_142 rfl 2 rfl rfl ?_
            refine x_iload_n C dX11_share_143 rfl 3 rfl rfl ?_
            refine x_iload C dX11_share_144 6 rfl rfl ?_
            refine x_vi C (As := [.int 7, .int (nI n0), .int m0, .int z106_6]) (rest := []) (c_share7 E l a w82 hW84 n0 m0 z106_6 (by omega)) mf_X11_share w_987 0 k85 rfl rfl rfl (Nat.le_of_ble_eq_true rfl) ⟨(Nat.le_of_ble_eq_true rfl), (Nat.le_of_ble_eq_true rfl)⟩ ⟨(Nat.le_of_ble_eq_true rfl), (Nat.le_of_ble_eq_true rfl)⟩ dX11_share_146 rfl (fun r90 w91 h89 => ?_)
            obtain ⟨hW92, kq93⟩ := h89
            have k94 : w91[0]? = some (ob (a 0) 10 [.ref (a 1), .ref (a 3), .ref (a 5), .ref (a 27), .ref (a 49), .int v69, .ref (a 71), .ref (a 79), .ref (a 87), .ref (a 92), .ref (a 103), .ref (a 105), .ref (a 106), .ref (a 107), .ref (a 108), .ref (a 109), .ref (a 110), .ref (a 111), .ref (a 112)]) := keeps_at kq93 k85 (by first | decide | omega | (dsimp only; omega))
            have kp95 := keeps_tr kp88 kq93 (fun q hq => by first | omega | (dsimp only at *; omega))
            refine x_istore C (lv' := [(6, .int r90), (0, .ref (a 0)), (1, .int 6), (2, .int (nI n0)), (3, .int m0), (4, .int p3), (5, .int r61), (7, .int (nI q))]) dX11_share_149 (by decide) rfl rfl ?_
            refine x_aload_n C dX11_share_151 rfl 1 rfl rfl ?_
            refine x_get C (ci := 10) (k := 15) 0 k94 rfl in_X11 (by decide) w_400 rfl dX11_share_152 rfl ?_
            refine x_iload C dX11_share_155 7 rfl rfl ?_
            refine x_dup2 C dX11_share_157 rfl rfl rfl ?_
            obtain ⟨_, k96, f97, rfl⟩ := hW92 109 _ rfl
            refine x_iald C (v := (f97 (nI q).toNatClampNeg)) 109 k96 (vp_in_nI (by omega) (by decide)) rfl dX11_share_158 rfl ?_
            refine x_any (fun v98 => ?_)
            refine x_iload C dX11_share_159 6 rfl rfl ?_
            refine x_isub C (v := (v98 - r61)) dX11_share_161 rfl rfl ?_
            refine x_any (fun v99 => ?_)
            obtain ⟨w100, hw101⟩ : ∃ w : va_W, w = List.set w91 109 (iA E (a 109) 3 (upd f97 (nI q).toNatClampNeg v99)) := ⟨_, rfl⟩
            refine x_iast C 109 k96 (vp_in_nI (by omega) (by decide)) hw101.symm dX11_share_162 rfl ?_
            have hW102 : WX (okX E a) w100 := by rw [hw101]; exact hW92.set (k := 109) rfl ⟨_, rfl⟩
            have k103 : w100[0]? = some (ob (a 0) 10 [.ref (a 1), .ref (a 3), .ref (a 5), .ref (a 27), .ref (a 49), .int v69, .ref (a 71), .ref (a 79), .ref (a 87), .ref (a 92), .ref (a 103), .ref (a 105), .ref (a 106), .ref (a 107), .ref (a 108), .ref (a 109), .ref (a 110), .ref (a 111), .ref (a 112)]) := by rw [hw101]; exact set_ne k94 (by decide)
            have k104 : w100[109]? = some (iA E (a 109) 3 (upd f97 (nI q).toNatClampNeg v99)) := by rw [hw101]; exact set_eq k96
            have kp105 := keeps_set kp95 hw101 (by first | exact rfl | decide | omega | (dsimp only; omega))
            refine x_iinc C (v := (nI (q + 1))) (lv' := [(7, .int (nI (q + 1))), (6, .int r90), (0, .ref (a 0)), (1, .int 6), (2, .int (nI n0)), (3, .int m0), (4, .int p3), (5, .int r61)]) dX11_share_163 7 rfl (nI_add q 1) (by decide) rfl rfl ?_
            refine x_goto C (tgt := 106) dX11_share_166 (by decide) ?_
            refine x_lv (lv1 := [(0, .ref (a 0)), (1, .int 6), (2, .int (nI n0)), (3, .int m0), (4, .int p3), (5, .int r61), (6, .int r90), (7, .int (nI (q + 1)))]) [2, 3, 4, 5, 6, 7, 1, 0] rfl ?_
            exact ih106 r90 (q + 1) w100 hW102 (by omega) (by omega) kp105
    refine x_lv (lv1 := [(0, .ref (a 0)), (1, .int 6), (2, .int (nI n0)), (3, .int m0), (4, .int p3), (5, .int r61), (6, .int p3), (7, .int 0)]) [3, 4, 5, 6, 7, 2, 1, 0] rfl ?_
    exact loop106 _ p3 0 ws hW (Nat.lt_succ_self _) (by omega) kp0
set_option maxRecDepth 20000 in
set_option maxHeartbeats 4000000 in
theorem c_share5 (E : xE) (l : Launch) (a : Nat → Nat) (ws : va_W) (hW : WX (okX E a) ws) (n0 : Nat) (m0 : Int32) (p3 : Int32) (hn0 : n0 ≤ 8) : xI E l yX11_share cX11_share 8 (some .int) 4 [.ref (a 0), .int 5, .int (nI n0), .int m0, .int p3] ws (fun r w => WX (okX E a) w ∧ keeps ws w (fun q => ¬ (q = 0 ∨ q = 6 ∨ q = 9 ∨ q = 28 ∨ q = 31))) := by
  refine xI_start (lv := [(0, .ref (a 0)), (1, .int 5), (2, .int (nI n0)), (3, .int m0), (4, .int p3)]) RX11 (by decide) rfl (Nat.le_of_ble_eq_true rfl) rfl (fun p e s m below meth c A C hr hlk => ?_)
  have kp0 : keeps ws ws (fun q => ¬ (q = 0 ∨ q = 6 ∨ q = 9 ∨ q = 28 ∨ q = 31)) := keeps_rf
  refine x_iload_n C dX11_share_0 rfl 1 rfl rfl ?_
  refine x_iload_n C dX11_share_1 rfl 2 rfl rfl ?_
  refine x_icmp_ge C (tgt := 11) dX11_share_2 (by decide) rfl (fun c1 => ?_) (fun c1 => ?_)
  · skip
    have nf2 := nI_le' (a := n0) (b := 5) c1 (by omega) (by omega)
    refine x_aload_n C dX11_share_11 rfl 0 rfl rfl ?_
    obtain ⟨_, k3, v4, rfl⟩ := hW 0 _ rfl
    refine x_get C (ci := 10) (k := 15) 0 k3 rfl in_X11 (by decide) w_400 rfl dX11_share_12 rfl ?_
    refine x_iconst C (v := 0) dX11_share_15 (by decide) rfl ?_
    obtain ⟨_, k5, f6, rfl⟩ := hW 109 _ rfl
    refine x_iald C (v := (f6 (0 : Int32).toNatClampNeg)) 109 k5 (vp_k (j := 0) (by decide) (by decide) (by decide)) rfl dX11_share_16 rfl ?_
    refine x_any (fun v7 => ?_)
    refine x_aload_n C dX11_share_17 rfl 0 rfl rfl ?_
    refine x_get C (ci := 10) (k := 15) 0 k3 rfl in_X11 (by decide) w_400 rfl dX11_share_18 rfl ?_
    refine x_iconst C (v := 1) dX11_share_21 (by decide) rfl ?_
    refine x_iald C (v := (f6 (1 : Int32).toNatClampNeg)) 109 k5 (vp_k (j := 1) (by decide) (by decide) (by decide)) rfl dX11_share_22 rfl ?_
    refine x_any (fun v8 => ?_)
    refine x_mmin C (v := (if v8 < v7 then v8 else v7)) w_958 w_561 w_16 w_562 (Nat.le_of_ble_eq_true rfl) (Nat.le_of_ble_eq_true rfl) (Nat.le_of_ble_eq_true rfl) (Nat.le_of_ble_eq_true rfl) rfl dX11_share_23 rfl ?_
    refine x_any (fun v9 => ?_)
    refine x_istore C (lv' := [(5, .int v9), (0, .ref (a 0)), (1, .int 5), (2, .int (nI n0)), (3, .int m0), (4, .int p3)]) dX11_share_26 (by decide) rfl rfl ?_
    refine x_iload_n C dX11_share_28 rfl 4 rfl rfl ?_
    refine x_iconst C (v := 2) dX11_share_29 (by decide) rfl ?_
    refine x_icmp_le C (tgt := 47) dX11_share_30 (by decide) rfl (fun c10 => ?_) (fun c10 => ?_)
    · skip
      refine x_iload C dX11_share_47 0 rfl rfl ?_
      refine x_istore C (lv' := [(5, .int v9), (0, .ref (a 0)), (1, .int 5), (2, .int (nI n0)), (3, .int m0), (4, .int p3)]) dX11_share_49 (by decide) rfl rfl ?_
      refine x_iload C dX11_share_51 0 rfl rfl ?_
      refine x_iload C dX11_share_53 5 rfl rfl ?_
      refine x_icmp_le C (tgt := 73) dX11_share_55 (by decide) rfl (fun c11 => ?_) (fun c11 => ?_)
      · skip
        refine x_iload C dX11_share_73 0 rfl rfl ?_
        refine x_iload C dX11_share_75 5 rfl rfl ?_
        refine x_mmax C (v := (if v9 < p3 then p3 else v9)) w_992 w_558 w_16 w_559 (Nat.le_of_ble_eq_true rfl) (Nat.le_of_ble_eq_true rfl) (Nat.le_of_ble_eq_true rfl) (Nat.le_of_ble_eq_true rfl) rfl dX11_share_77 rfl ?_
        refine x_any (fun v12 => ?_)
        exact x_zret C hr hlk rfl dX11_share_80 ⟨hW, kp0⟩
      · skip
        refine x_aload_n C dX11_share_58 rfl 1 rfl rfl ?_
        refine x_get C (ci := 10) (k := 16) 0 k3 rfl in_X11 (by decide) w_401 rfl dX11_share_59 rfl ?_
        refine x_iconst C (v := 0) dX11_share_62 (by decide) rfl ?_
        refine x_aload_n C dX11_share_63 rfl 1 rfl rfl ?_
        refine x_get C (ci := 10) (k := 17) 0 k3 rfl in_X11 (by decide) w_402 rfl dX11_share_64 rfl ?_
        refine x_iconst C (v := 0) dX11_share_67 (by decide) rfl ?_
        refine x_bipush C (v := 8) dX11_share_68 (by decide) rfl ?_
        obtain ⟨_, k13, f14, rfl⟩ := hW 110 _ rfl
        obtain ⟨_, k15, f16, rfl⟩ := hW 111 _ rfl
        obtain ⟨w17, hw18⟩ : ∃ w : va_W, w = List.set ws 111 (iA E (a 111) 8 (va_cpy f14 f16 0 0 8)) := ⟨_, rfl⟩
        refine x_copy C 110 111 k13 k15 w_991 w_798 w_797 w_20 (by decide) (by decide) (by decide) (by decide) (by decide) (Nat.le_of_ble_eq_true rfl) (Nat.le_of_ble_eq_true rfl) hw18.symm dX11_share_70 rfl ?_
        have hW19 : WX (okX E a) w17 := by rw [hw18]; exact hW.set (k := 111) rfl ⟨_, rfl⟩
        have k20 : w17[0]? = some (ob (a 0) 10 [.ref (a 1), .ref (a 3), .ref (a 5), .ref (a 27), .ref (a 49), .int v4, .ref (a 71), .ref (a 79), .ref (a 87), .ref (a 92), .ref (a 103), .ref (a 105), .ref (a 106), .ref (a 107), .ref (a 108), .ref (a 109), .ref (a 110), .ref (a 111), .ref (a 112)]) := by rw [hw18]; exact set_ne k3 (by decide)
        have k21 : w17[109]? = some (iA E (a 109) 3 f6) := by rw [hw18]; exact set_ne k5 (by decide)
        have k22 : w17[110]? = some (iA E (a 110) 8 f14) := by rw [hw18]; exact set_ne k13 (by decide)
        have k23 : w17[111]? = some (iA E (a 111) 8 (va_cpy f14 f16 0 0 8)) := by rw [hw18]; exact set_eq k15
        have kp24 := keeps_set kp0 hw18 (by first | exact rfl | decide | omega | (dsimp only; omega))
        refine x_iload C dX11_share_73 0 rfl rfl ?_
        refine x_iload C dX11_share_75 5 rfl rfl ?_
        refine x_mmax C (v := (if v9 < p3 then p3 else v9)) w_992 w_558 w_16 w_559 (Nat.le_of_ble_eq_true rfl) (Nat.le_of_ble_eq_true rfl) (Nat.le_of_ble_eq_true rfl) (Nat.le_of_ble_eq_true rfl) rfl dX11_share_77 rfl ?_
        refine x_any (fun v25 => ?_)
        exact x_zret C hr hlk rfl dX11_share_80 ⟨hW19, kp24⟩
    · skip
      refine x_iload C dX11_share_33 0 rfl rfl ?_
      refine x_aload_n C dX11_share_35 rfl 1 rfl rfl ?_
      refine x_get C (ci := 10) (k := 15) 0 k3 rfl in_X11 (by decide) w_400 rfl dX11_share_36 rfl ?_
      refine x_iconst C (v := 2) dX11_share_39 (by decide) rfl ?_
      refine x_iald C (v := (f6 (2 : Int32).toNatClampNeg)) 109 k5 (vp_k (j := 2) (by decide) (by decide) (by decide)) rfl dX11_share_40 rfl ?_
      refine x_any (fun v26 => ?_)
      refine x_mmin C (v := (if v26 < v9 then v26 else v9)) w_958 w_561 w_16 w_562 (Nat.le_of_ble_eq_true rfl) (Nat.le_of_ble_eq_true rfl) (Nat.le_of_ble_eq_true rfl) (Nat.le_of_ble_eq_true rfl) rfl dX11_share_41 rfl ?_
      refine x_any (fun v27 => ?_)
      refine x_goto C (tgt := 49) dX11_share_44 (by decide) ?_
      refine x_istore C (lv' := [(5, .int v27), (0, .ref (a 0)), (1, .int 5), (2, .int (nI n0)), (3, .int m0), (4, .int p3)]) dX11_share_49 (by decide) rfl rfl ?_
      refine x_iload C dX11_share_51 0 rfl rfl ?_
      refine x_iload C dX11_share_53 5 rfl rfl ?_
      refine x_icmp_le C (tgt := 73) dX11_share_55 (by decide) rfl (fun c28 => ?_) (fun c28 => ?_)
      · skip
        refine x_iload C dX11_share_73 0 rfl rfl ?_
        refine x_iload C dX11_share_75 5 rfl rfl ?_
        refine x_mmax C (v := (if v27 < p3 then p3 else v27)) w_992 w_558 w_16 w_559 (Nat.le_of_ble_eq_true rfl) (Nat.le_of_ble_eq_true rfl) (Nat.le_of_ble_eq_true rfl) (Nat.le_of_ble_eq_true rfl) rfl dX11_share_77 rfl ?_
        refine x_any (fun v29 => ?_)
        exact x_zret C hr hlk rfl dX11_share_80 ⟨hW, kp0⟩
      · skip
        refine x_aload_n C dX11_share_58 rfl 1 rfl rfl ?_
        refine x_get C (ci := 10) (k := 16) 0 k3 rfl in_X11 (by decide) w_401 rfl dX11_share_59 rfl ?_
        refine x_iconst C (v := 0) dX11_share_62 (by decide) rfl ?_
        refine x_aload_n C dX11_share_63 rfl 1 rfl rfl ?_
        refine x_get C (ci := 10) (k := 17) 0 k3 rfl in_X11 (by decide) w_402 rfl dX11_share_64 rfl ?_
        refine x_iconst C (v := 0) dX11_share_67 (by decide) rfl ?_
        refine x_bipush C (v := 8) dX11_share_68 (by decide) rfl ?_
        obtain ⟨_, k30, f31, rfl⟩ := hW 110 _ rfl
        obtain ⟨_, k32, f33, rfl⟩ := hW 111 _ rfl
        obtain ⟨w34, hw35⟩ : ∃ w : va_W, w = List.set ws 111 (iA E (a 111) 8 (va_cpy f31 f33 0 0 8)) := ⟨_, rfl⟩
        refine x_copy C 110 111 k30 k32 w_991 w_798 w_797 w_20 (by decide) (by decide) (by decide) (by decide) (by decide) (Nat.le_of_ble_eq_true rfl) (Nat.le_of_ble_eq_true rfl) hw35.symm dX11_share_70 rfl ?_
        have hW36 : WX (okX E a) w34 := by rw [hw35]; exact hW.set (k := 111) rfl ⟨_, rfl⟩
        have k37 : w34[0]? = some (ob (a 0) 10 [.ref (a 1), .ref (a 3), .ref (a 5), .ref (a 27), .ref (a 49), .int v4, .ref (a 71), .ref (a 79), .ref (a 87), .ref (a 92), .ref (a 103), .ref (a 105), .ref (a 106), .ref (a 107), .ref (a 108), .ref (a 109), .ref (a 110), .ref (a 111), .ref (a 112)]) := by rw [hw35]; exact set_ne k3 (by decide)
        have k38 : w34[109]? = some (iA E (a 109) 3 f6) := by rw [hw35]; exact set_ne k5 (by decide)
        have k39 : w34[110]? = some (iA E (a 110) 8 f31) := by rw [hw35]; exact set_ne k30 (by decide)
        have k40 : w34[111]? = some (iA E (a 111) 8 (va_cpy f31 f33 0 0 8)) := by rw [hw35]; exact set_eq k32
        have kp41 := keeps_set kp0 hw35 (by first | exact rfl | decide | omega | (dsimp only; omega))
        refine x_iload C dX11_share_73 0 rfl rfl ?_
        refine x_iload C dX11_share_75 5 rfl rfl ?_
        refine x_mmax C (v := (if v27 < p3 then p3 else v27)) w_992 w_558 w_16 w_559 (Nat.le_of_ble_eq_true rfl) (Nat.le_of_ble_eq_true rfl) (Nat.le_of_ble_eq_true rfl) (Nat.le_of_ble_eq_true rfl) rfl dX11_share_77 rfl ?_
        refine x_any (fun v42 => ?_)
        exact x_zret C hr hlk rfl dX11_share_80 ⟨hW36, kp41⟩
  · skip
    have nf43 := nI_nle' (a := n0) (b := 5) c1 (by omega) (by omega)
    refine x_iload_n C dX11_share_5 rfl 1 rfl rfl ?_
    refine x_bipush C (v := 8) dX11_share_6 (by decide) rfl ?_
    refine x_icmp_lt C (tgt := 81) dX11_share_8 (by decide) rfl (fun _ => ?_) (fun h => absurd h (by decide))
    refine x_aload_n C dX11_share_81 rfl 0 rfl rfl ?_
    obtain ⟨_, k44, v45, rfl⟩ := hW 0 _ rfl
    refine x_get C (ci := 10) (k := 2) 0 k44 rfl in_X11 (by decide) w_387 rfl dX11_share_82 rfl ?_
    obtain ⟨_, k46, n47, v49, v50, v51, v52, v53, bn48, rfl⟩ := hW 5 _ rfl
    refine x_get C (ci := 8) (k := 4) 5 k46 rfl in_X9 (by decide) w_209 rfl dX11_share_85 rfl ?_
    refine x_aload_n C dX11_share_88 rfl 0 rfl rfl ?_
    refine x_get C (ci := 10) (k := 11) 0 k44 rfl in_X11 (by decide) w_396 rfl dX11_share_89 rfl ?_
    refine x_iload_n C dX11_share_92 rfl 1 rfl rfl ?_
    obtain ⟨_, k54, f55, rfl⟩ := hW 105 _ rfl
    refine x_iald C (v := (f55 (5 : Int32).toNatClampNeg)) 105 k54 (vp_k (j := 5) (by decide) (by decide) (by decide)) rfl dX11_share_93 rfl ?_
    refine x_any (fun v56 => ?_)
    obtain ⟨_, k57, n58, bn59, rfl⟩ := hW 14 _ rfl
    refine x_vi C (As := [.int v56]) (rest := []) (c_Eggs_minutesAt E l a ws hW 5 (Or.inl rfl) v56) mf_X1_minutesAt w_993 14 k57 rfl rfl rfl (Nat.le_of_ble_eq_true rfl) ⟨(Nat.le_of_ble_eq_true rfl), (Nat.le_of_ble_eq_true rfl)⟩ ⟨(Nat.le_of_ble_eq_true rfl), (Nat.le_of_ble_eq_true rfl)⟩ dX11_share_94 rfl (fun r61 w62 h60 => ?_)
    have hW63 := h60
    refine x_ws hW63 ?_
    refine x_istore C (lv' := [(5, .int r61), (0, .ref (a 0)), (1, .int 5), (2, .int (nI n0)), (3, .int m0), (4, .int p3)]) dX11_share_97 (by decide) rfl rfl ?_
    refine x_iload C dX11_share_99 5 rfl rfl ?_
    refine x_istore C (lv' := [(6, .int p3), (5, .int r61), (0, .ref (a 0)), (1, .int 5), (2, .int (nI n0)), (3, .int m0), (4, .int p3)]) dX11_share_101 (by decide) rfl rfl ?_
    refine x_iconst C (v := 0) dX11_share_103 (by decide) rfl ?_
    refine x_istore C (lv' := [(7, .int 0), (6, .int p3), (5, .int r61), (0, .ref (a 0)), (1, .int 5), (2, .int (nI n0)), (3, .int m0), (4, .int p3)]) dX11_share_104 (by decide) rfl rfl ?_
    have loop106 : ∀ (fu106 : Nat) (z106_6 : Int32) (q : Nat) (wl106 : va_W), WX (okX E a) wl106 → 3 - q < fu106 → q ≤ 3 → keeps ws wl106 (fun q => ¬ (q = 0 ∨ q = 6 ∨ q = 9 ∨ q = 28 ∨ q = 31)) → X E p l e (xRm 4 0 0) s m ([.ref (a 0), .int 5, .int (nI n0), .int m0, .int p3] : List Value).toArray below meth c A 8 0 0 (MQ below (va_Qi (fun r w => WX (okX E a) w ∧ keeps ws w (fun q => ¬ (q = 0 ∨ q = 6 ∨ q = 9 ∨ q = 28 ∨ q = 31))) (xB E A) A) ([.ref (a 0), .int 5, .int (nI n0), .int m0, .int p3] : List Value).toArray s 0 0 A) wl106 106 [(0, .ref (a 0)), (1, .int 5), (2, .int (nI n0)), (3, .int m0), (4, .int p3), (5, .int r61), (6, .int z106_6), (7, .int (nI q))] [] := by
      intro fu106
      induction fu106 with
      | zero => intro z106_6 q wl106 _ q; omega
      | succ fu106 ih106 =>
        intro z106_6 q wl106 hWl106 me106 iv106_0 kq106
        refine x_iload C dX11_share_106 7 rfl rfl ?_
        refine x_iload_n C dX11_share_108 rfl 3 rfl rfl ?_
        refine x_icmp_ge C (tgt := 169) dX11_share_109 (by decide) rfl (fun c64 => ?_) (fun c64 => ?_)
        · skip
          refine x_iload C dX11_share_169 6 rfl rfl ?_
          exact x_zret C hr hlk rfl dX11_share_171 ⟨hWl106, kq106⟩
        · skip
          refine x_iload C dX11_share_112 7 rfl rfl ?_
          refine x_iconst C (v := 3) dX11_share_114 (by decide) rfl ?_
          refine x_icmp_ge C (tgt := 169) dX11_share_115 (by decide) rfl (fun c65 => ?_) (fun c65 => ?_)
          · skip
            have nf66 := nI_le' (a := 3) (b := q) c65 (by omega) (by omega)
            refine x_iload C dX11_share_169 6 rfl rfl ?_
            exact x_zret C hr hlk rfl dX11_share_171 ⟨hWl106, kq106⟩
          · skip
            have nf67 := nI_nle' (a := 3) (b := q) c65 (by omega) (by omega)
            refine x_aload_n C dX11_share_118 rfl 0 rfl rfl ?_
            obtain ⟨_, k68, v69, rfl⟩ := hWl106 0 _ rfl
            refine x_get C (ci := 10) (k := 16) 0 k68 rfl in_X11 (by decide) w_401 rfl dX11_share_119 rfl ?_
            refine x_iload_n C dX11_share_122 rfl 1 rfl rfl ?_
            refine x_iload C dX11_share_123 7 rfl rfl ?_
            obtain ⟨_, k70, f71, rfl⟩ := hWl106 110 _ rfl
            obtain ⟨w72, hw73⟩ : ∃ w : va_W, w = List.set wl106 110 (iA E (a 110) 8 (upd f71 (5 : Int32).toNatClampNeg (nI q))) := ⟨_, rfl⟩
            refine x_iast C 110 k70 (vp_k (j := 5) (by decide) (by decide) (by decide)) hw73.symm dX11_share_125 rfl ?_
            have hW74 : WX (okX E a) w72 := by rw [hw73]; exact hWl106.set (k := 110) rfl ⟨_, rfl⟩
            have k75 : w72[0]? = some (ob (a 0) 10 [.ref (a 1), .ref (a 3), .ref (a 5), .ref (a 27), .ref (a 49), .int v69, .ref (a 71), .ref (a 79), .ref (a 87), .ref (a 92), .ref (a 103), .ref (a 105), .ref (a 106), .ref (a 107), .ref (a 108), .ref (a 109), .ref (a 110), .ref (a 111), .ref (a 112)]) := by rw [hw73]; exact set_ne k68 (by decide)
            have k76 : w72[110]? = some (iA E (a 110) 8 (upd f71 (5 : Int32).toNatClampNeg (nI q))) := by rw [hw73]; exact set_eq k70
            have kp77 := keeps_set kq106 hw73 (by first | exact rfl | decide | omega | (dsimp only; omega))
            refine x_aload_n C dX11_share_126 rfl 0 rfl rfl ?_
            refine x_get C (ci := 10) (k := 15) 0 k75 rfl in_X11 (by decide) w_400 rfl dX11_share_127 rfl ?_
            refine x_iload C dX11_share_130 7 rfl rfl ?_
            refine x_dup2 C dX11_share_132 rfl rfl rfl ?_
            obtain ⟨_, k78, f79, rfl⟩ := hW74 109 _ rfl
            refine x_iald C (v := (f79 (nI q).toNatClampNeg)) 109 k78 (vp_in_nI (by omega) (by decide)) rfl dX11_share_133 rfl ?_
            refine x_any (fun v80 => ?_)
            refine x_iload C dX11_share_134 5 rfl rfl ?_
            refine x_iadd C (v := (v80 + r61)) dX11_share_136 rfl rfl ?_
            refine x_any (fun v81 => ?_)
            obtain ⟨w82, hw83⟩ : ∃ w : va_W, w = List.set w72 109 (iA E (a 109) 3 (upd f79 (nI q).toNatClampNeg v81)) := ⟨_, rfl⟩
            refine x_iast C 109 k78 (vp_in_nI (by omega) (by decide)) hw83.symm dX11_share_137 rfl ?_
            have hW84 : WX (okX E a) w82 := by rw [hw83]; exact hW74.set (k := 109) rfl ⟨_, rfl⟩
            have k85 : w82[0]? = some (ob (a 0) 10 [.ref (a 1), .ref (a 3), .ref (a 5), .ref (a 27), .ref (a 49), .int v69, .ref (a 71), .ref (a 79), .ref (a 87), .ref (a 92), .ref (a 103), .ref (a 105), .ref (a 106), .ref (a 107), .ref (a 108), .ref (a 109), .ref (a 110), .ref (a 111), .ref (a 112)]) := by rw [hw83]; exact set_ne k75 (by decide)
            have k86 : w82[110]? = some (iA E (a 110) 8 (upd f71 (5 : Int32).toNatClampNeg (nI q))) := by rw [hw83]; exact set_ne k76 (by decide)
            have k87 : w82[109]? = some (iA E (a 109) 3 (upd f79 (nI q).toNatClampNeg v81)) := by rw [hw83]; exact set_eq k78
            have kp88 := keeps_set kp77 hw83 (by first | exact rfl | decide | omega | (dsimp only; omega))
            refine x_aload_n C dX11_share_138 rfl 0 rfl rfl ?_
            refine x_iload_n C dX11_share_139 rfl 1 rfl rfl ?_
            refine x_iconst C (v := 1) dX11_share_140 (by decide) rfl ?_
            refine x_iadd C (v := 6) dX11_share_141 (by decide) rfl ?_
            refine x_iload_n C dX11_share_142 rfl 2 rfl rfl ?_
            refine x_iload_n C dX11_share_143 rfl 3 rfl rfl ?_
            refine x_iload C dX11_share_144 6 rfl rfl ?_
            refine x_vi C (As := [.int 6, .int (nI n0), .int m0, .int z106_6]) (rest := []) (c_share6 E l a w82 hW84 n0 m0 z106_6 (by omega)) mf_X11_share w_987 0 k85 rfl rfl rfl (Nat.le_of_ble_eq_true rfl) ⟨(Nat.le_of_ble_eq_true rfl), (Nat.le_of_ble_eq_true rfl)⟩ ⟨(Nat.le_of_ble_eq_true rfl), (Nat.le_of_ble_eq_true rfl)⟩ dX11_share_146 rfl (fun r90 w91 h89 => ?_)
            obtain ⟨hW92, kq93⟩ := h89
            have k94 : w91[0]? = some (ob (a 0) 10 [.ref (a 1), .ref (a 3), .ref (a 5), .ref (a 27), .ref (a 49), .int v69, .ref (a 71), .ref (a 79), .ref (a 87), .ref (a 92), .ref (a 103), .ref (a 105), .ref (a 106), .ref (a 107), .ref (a 108), .ref (a 109), .ref (a 110), .ref (a 111), .ref (a 112)]) := keeps_at kq93 k85 (by first | decide | omega | (dsimp only; omega))
            have kp95 := keeps_tr kp88 kq93 (fun q hq => by first | omega | (dsimp only at *; omega))
            refine x_istore C (lv' := [(6, .int r90), (0, .ref (a 0)), (1, .int 5), (2, .int (nI n0)), (3, .int m0), (4, .int p3), (5, .int r61), (7, .int (nI q))]) dX11_share_149 (by decide) rfl rfl ?_
            refine x_aload_n C dX11_share_151 rfl 1 rfl rfl ?_
            refine x_get C (ci := 10) (k := 15) 0 k94 rfl in_X11 (by decide) w_400 rfl dX11_share_152 rfl ?_
            refine x_iload C dX11_share_155 7 rfl rfl ?_
            refine x_dup2 C dX11_share_157 rfl rfl rfl ?_
            obtain ⟨_, k96, f97, rfl⟩ := hW92 109 _ rfl
            refine x_iald C (v := (f97 (nI q).toNatClampNeg)) 109 k96 (vp_in_nI (by omega) (by decide)) rfl dX11_share_158 rfl ?_
            refine x_any (fun v98 => ?_)
            refine x_iload C dX11_share_159 6 rfl rfl ?_
            refine x_isub C (v := (v98 - r61)) dX11_share_161 rfl rfl ?_
            refine x_any (fun v99 => ?_)
            obtain ⟨w100, hw101⟩ : ∃ w : va_W, w = List.set w91 109 (iA E (a 109) 3 (upd f97 (nI q).toNatClampNeg v99)) := ⟨_, rfl⟩
            refine x_iast C 109 k96 (vp_in_nI (by omega) (by decide)) hw101.symm dX11_share_162 rfl ?_
            have hW102 : WX (okX E a) w100 := by rw [hw101]; exact hW92.set (k := 109) rfl ⟨_, rfl⟩
            have k103 : w100[0]? = some (ob (a 0) 10 [.ref (a 1), .ref (a 3), .ref (a 5), .ref (a 27), .ref (a 49), .int v69, .ref (a 71), .ref (a 79), .ref (a 87), .ref (a 92), .ref (a 103), .ref (a 105), .ref (a 106), .ref (a 107), .ref (a 108), .ref (a 109), .ref (a 110), .ref (a 111), .ref (a 112)]) := by rw [hw101]; exact set_ne k94 (by decide)
            have k104 : w100[109]? = some (iA E (a 109) 3 (upd f97 (nI q).toNatClampNeg v99)) := by rw [hw101]; exact set_eq k96
            have kp105 := keeps_set kp95 hw101 (by first | exact rfl | decide | omega | (dsimp only; omega))
            refine x_iinc C (v := (nI (q + 1))) (lv' := [(7, .int (nI (q + 1))), (6, .int r90), (0, .ref (a 0)), (1, .int 5), (2, .int (nI n0)), (3, .int m0), (4, .int p3), (5, .int r61)]) dX11_share_163 7 rfl (nI_add q 1) (by decide) rfl rfl ?_
            refine x_goto C (tgt := 106) dX11_share_166 (by decide) ?_
            refine x_lv (lv1 := [(0, .ref (a 0)), (1, .int 5), (2, .int (nI n0)), (3, .int m0), (4, .int p3), (5, .int r61), (6, .int r90), (7, .int (nI (q + 1)))]) [2, 3, 4, 5, 6, 7, 1, 0] rfl ?_
            exact ih106 r90 (q + 1) w100 hW102 (by omega) (by omega) kp105
    refine x_lv (lv1 := [(0, .ref (a 0)), (1, .int 5), (2, .int (nI n0)), (3, .int m0), (4, .int p3), (5, .int r61), (6, .int p3), (7, .int 0)]) [3, 4, 5, 6, 7, 2, 1, 0] rfl ?_
    exact loop106 _ p3 0 ws hW (Nat.lt_succ_self _) (by omega) kp0
set_option maxRecDepth 20000 in
set_option maxHeartbeats 4000000 in
theorem c_share4 (E : xE) (l : Launch) (a : Nat → Nat) (ws : va_W) (hW : WX (okX E a) ws) (n0 : Nat) (m0 : Int32) (p3 : Int32) (hn0 : n0 ≤ 8) : xI E l yX11_share cX11_share 8 (some .int) 5 [.ref (a 0), .int 4, .int (nI n0), .int m0, .int p3] ws (fun r w => WX (okX E a) w ∧ keeps ws w (fun q => ¬ (q = 0 ∨ q = 6 ∨ q = 9 ∨ q = 28 ∨ q = 31))) := by
  refine xI_start (lv := [(0, .ref (a 0)), (1, .int 4), (2, .int (nI n0)), (3, .int m0), (4, .int p3)]) RX11 (by decide) rfl (Nat.le_of_ble_eq_true rfl) rfl (fun p e s m below meth c A C hr hlk => ?_)
  have kp0 : keeps ws ws (fun q => ¬ (q = 0 ∨ q = 6 ∨ q = 9 ∨ q = 28 ∨ q = 31)) := keeps_rf
  refine x_iload_n C dX11_share_0 rfl 1 rfl rfl ?_
  refine x_iload_n C dX11_share_1 rfl 2 rfl rfl ?_
  refine x_icmp_ge C (tgt := 11) dX11_share_2 (by decide) rfl (fun c1 => ?_) (fun c1 => ?_)
  · skip
    have nf2 := nI_le' (a := n0) (b := 4) c1 (by omega) (by omega)
    refine x_aload_n C dX11_share_11 rfl 0 rfl rfl ?_
    obtain ⟨_, k3, v4, rfl⟩ := hW 0 _ rfl
    refine x_get C (ci := 10) (k := 15) 0 k3 rfl in_X11 (by decide) w_400 rfl dX11_share_12 rfl ?_
    refine x_iconst C (v := 0) dX11_share_15 (by decide) rfl ?_
    obtain ⟨_, k5, f6, rfl⟩ := hW 109 _ rfl
    refine x_iald C (v := (f6 (0 : Int32).toNatClampNeg)) 109 k5 (vp_k (j := 0) (by decide) (by decide) (by decide)) rfl dX11_share_16 rfl ?_
    refine x_any (fun v7 => ?_)
    refine x_aload_n C dX11_share_17 rfl 0 rfl rfl ?_
    refine x_get C (ci := 10) (k := 15) 0 k3 rfl in_X11 (by decide) w_400 rfl dX11_share_18 rfl ?_
    refine x_iconst C (v := 1) dX11_share_21 (by decide) rfl ?_
    refine x_iald C (v := (f6 (1 : Int32).toNatClampNeg)) 109 k5 (vp_k (j := 1) (by decide) (by decide) (by decide)) rfl dX11_share_22 rfl ?_
    refine x_any (fun v8 => ?_)
    refine x_mmin C (v := (if v8 < v7 then v8 else v7)) w_958 w_561 w_16 w_562 (Nat.le_of_ble_eq_true rfl) (Nat.le_of_ble_eq_true rfl) (Nat.le_of_ble_eq_true rfl) (Nat.le_of_ble_eq_true rfl) rfl dX11_share_23 rfl ?_
    refine x_any (fun v9 => ?_)
    refine x_istore C (lv' := [(5, .int v9), (0, .ref (a 0)), (1, .int 4), (2, .int (nI n0)), (3, .int m0), (4, .int p3)]) dX11_share_26 (by decide) rfl rfl ?_
    refine x_iload_n C dX11_share_28 rfl 4 rfl rfl ?_
    refine x_iconst C (v := 2) dX11_share_29 (by decide) rfl ?_
    refine x_icmp_le C (tgt := 47) dX11_share_30 (by decide) rfl (fun c10 => ?_) (fun c10 => ?_)
    · skip
      refine x_iload C dX11_share_47 0 rfl rfl ?_
      refine x_istore C (lv' := [(5, .int v9), (0, .ref (a 0)), (1, .int 4), (2, .int (nI n0)), (3, .int m0), (4, .int p3)]) dX11_share_49 (by decide) rfl rfl ?_
      refine x_iload C dX11_share_51 0 rfl rfl ?_
      refine x_iload C dX11_share_53 5 rfl rfl ?_
      refine x_icmp_le C (tgt := 73) dX11_share_55 (by decide) rfl (fun c11 => ?_) (fun c11 => ?_)
      · skip
        refine x_iload C dX11_share_73 0 rfl rfl ?_
        refine x_iload C dX11_share_75 5 rfl rfl ?_
        refine x_mmax C (v := (if v9 < p3 then p3 else v9)) w_992 w_558 w_16 w_559 (Nat.le_of_ble_eq_true rfl) (Nat.le_of_ble_eq_true rfl) (Nat.le_of_ble_eq_true rfl) (Nat.le_of_ble_eq_true rfl) rfl dX11_share_77 rfl ?_
        refine x_any (fun v12 => ?_)
        exact x_zret C hr hlk rfl dX11_share_80 ⟨hW, kp0⟩
      · skip
        refine x_aload_n C dX11_share_58 rfl 1 rfl rfl ?_
        refine x_get C (ci := 10) (k := 16) 0 k3 rfl in_X11 (by decide) w_401 rfl dX11_share_59 rfl ?_
        refine x_iconst C (v := 0) dX11_share_62 (by decide) rfl ?_
        refine x_aload_n C dX11_share_63 rfl 1 rfl rfl ?_
        refine x_get C (ci := 10) (k := 17) 0 k3 rfl in_X11 (by decide) w_402 rfl dX11_share_64 rfl ?_
        refine x_iconst C (v := 0) dX11_share_67 (by decide) rfl ?_
        refine x_bipush C (v := 8) dX11_share_68 (by decide) rfl ?_
        obtain ⟨_, k13, f14, rfl⟩ := hW 110 _ rfl
        obtain ⟨_, k15, f16, rfl⟩ := hW 111 _ rfl
        obtain ⟨w17, hw18⟩ : ∃ w : va_W, w = List.set ws 111 (iA E (a 111) 8 (va_cpy f14 f16 0 0 8)) := ⟨_, rfl⟩
        refine x_copy C 110 111 k13 k15 w_991 w_798 w_797 w_20 (by decide) (by decide) (by decide) (by decide) (by decide) (Nat.le_of_ble_eq_true rfl) (Nat.le_of_ble_eq_true rfl) hw18.symm dX11_share_70 rfl ?_
        have hW19 : WX (okX E a) w17 := by rw [hw18]; exact hW.set (k := 111) rfl ⟨_, rfl⟩
        have k20 : w17[0]? = some (ob (a 0) 10 [.ref (a 1), .ref (a 3), .ref (a 5), .ref (a 27), .ref (a 49), .int v4, .ref (a 71), .ref (a 79), .ref (a 87), .ref (a 92), .ref (a 103), .ref (a 105), .ref (a 106), .ref (a 107), .ref (a 108), .ref (a 109), .ref (a 110), .ref (a 111), .ref (a 112)]) := by rw [hw18]; exact set_ne k3 (by decide)
        have k21 : w17[109]? = some (iA E (a 109) 3 f6) := by rw [hw18]; exact set_ne k5 (by decide)
        have k22 : w17[110]? = some (iA E (a 110) 8 f14) := by rw [hw18]; exact set_ne k13 (by decide)
        have k23 : w17[111]? = some (iA E (a 111) 8 (va_cpy f14 f16 0 0 8)) := by rw [hw18]; exact set_eq k15
        have kp24 := keeps_set kp0 hw18 (by first | exact rfl | decide | omega | (dsimp only; omega))
        refine x_iload C dX11_share_73 0 rfl rfl ?_
        refine x_iload C dX11_share_75 5 rfl rfl ?_
        refine x_mmax C (v := (if v9 < p3 then p3 else v9)) w_992 w_558 w_16 w_559 (Nat.le_of_ble_eq_true rfl) (Nat.le_of_ble_eq_true rfl) (Nat.le_of_ble_eq_true rfl) (Nat.le_of_ble_eq_true rfl) rfl dX11_share_77 rfl ?_
        refine x_any (fun v25 => ?_)
        exact x_zret C hr hlk rfl dX11_share_80 ⟨hW19, kp24⟩
    · skip
      refine x_iload C dX11_share_33 0 rfl rfl ?_
      refine x_aload_n C dX11_share_35 rfl 1 rfl rfl ?_
      refine x_get C (ci := 10) (k := 15) 0 k3 rfl in_X11 (by decide) w_400 rfl dX11_share_36 rfl ?_
      refine x_iconst C (v := 2) dX11_share_39 (by decide) rfl ?_
      refine x_iald C (v := (f6 (2 : Int32).toNatClampNeg)) 109 k5 (vp_k (j := 2) (by decide) (by decide) (by decide)) rfl dX11_share_40 rfl ?_
      refine x_any (fun v26 => ?_)
      refine x_mmin C (v := (if v26 < v9 then v26 else v9)) w_958 w_561 w_16 w_562 (Nat.le_of_ble_eq_true rfl) (Nat.le_of_ble_eq_true rfl) (Nat.le_of_ble_eq_true rfl) (Nat.le_of_ble_eq_true rfl) rfl dX11_share_41 rfl ?_
      refine x_any (fun v27 => ?_)
      refine x_goto C (tgt := 49) dX11_share_44 (by decide) ?_
      refine x_istore C (lv' := [(5, .int v27), (0, .ref (a 0)), (1, .int 4), (2, .int (nI n0)), (3, .int m0), (4, .int p3)]) dX11_share_49 (by decide) rfl rfl ?_
      refine x_iload C dX11_share_51 0 rfl rfl ?_
      refine x_iload C dX11_share_53 5 rfl rfl ?_
      refine x_icmp_le C (tgt := 73) dX11_share_55 (by decide) rfl (fun c28 => ?_) (fun c28 => ?_)
      · skip
        refine x_iload C dX11_share_73 0 rfl rfl ?_
        refine x_iload C dX11_share_75 5 rfl rfl ?_
        refine x_mmax C (v := (if v27 < p3 then p3 else v27)) w_992 w_558 w_16 w_559 (Nat.le_of_ble_eq_true rfl) (Nat.le_of_ble_eq_true rfl) (Nat.le_of_ble_eq_true rfl) (Nat.le_of_ble_eq_true rfl) rfl dX11_share_77 rfl ?_
        refine x_any (fun v29 => ?_)
        exact x_zret C hr hlk rfl dX11_share_80 ⟨hW, kp0⟩
      · skip
        refine x_aload_n C dX11_share_58 rfl 1 rfl rfl ?_
        refine x_get C (ci := 10) (k := 16) 0 k3 rfl in_X11 (by decide) w_401 rfl dX11_share_59 rfl ?_
        refine x_iconst C (v := 0) dX11_share_62 (by decide) rfl ?_
        refine x_aload_n C dX11_share_63 rfl 1 rfl rfl ?_
        refine x_get C (ci := 10) (k := 17) 0 k3 rfl in_X11 (by decide) w_402 rfl dX11_share_64 rfl ?_
        refine x_iconst C (v := 0) dX11_share_67 (by decide) rfl ?_
        refine x_bipush C (v := 8) dX11_share_68 (by decide) rfl ?_
        obtain ⟨_, k30, f31, rfl⟩ := hW 110 _ rfl
        obtain ⟨_, k32, f33, rfl⟩ := hW 111 _ rfl
        obtain ⟨w34, hw35⟩ : ∃ w : va_W, w = List.set ws 111 (iA E (a 111) 8 (va_cpy f31 f33 0 0 8)) := ⟨_, rfl⟩
        refine x_copy C 110 111 k30 k32 w_991 w_798 w_797 w_20 (by decide) (by decide) (by decide) (by decide) (by decide) (Nat.le_of_ble_eq_true rfl) (Nat.le_of_ble_eq_true rfl) hw35.symm dX11_share_70 rfl ?_
        have hW36 : WX (okX E a) w34 := by rw [hw35]; exact hW.set (k := 111) rfl ⟨_, rfl⟩
        have k37 : w34[0]? = some (ob (a 0) 10 [.ref (a 1), .ref (a 3), .ref (a 5), .ref (a 27), .ref (a 49), .int v4, .ref (a 71), .ref (a 79), .ref (a 87), .ref (a 92), .ref (a 103), .ref (a 105), .ref (a 106), .ref (a 107), .ref (a 108), .ref (a 109), .ref (a 110), .ref (a 111), .ref (a 112)]) := by rw [hw35]; exact set_ne k3 (by decide)
        have k38 : w34[109]? = some (iA E (a 109) 3 f6) := by rw [hw35]; exact set_ne k5 (by decide)
        have k39 : w34[110]? = some (iA E (a 110) 8 f31) := by rw [hw35]; exact set_ne k30 (by decide)
        have k40 : w34[111]? = some (iA E (a 111) 8 (va_cpy f31 f33 0 0 8)) := by rw [hw35]; exact set_eq k32
        have kp41 := keeps_set kp0 hw35 (by first | exact rfl | decide | omega | (dsimp only; omega))
        refine x_iload C dX11_share_73 0 rfl rfl ?_
        refine x_iload C dX11_share_75 5 rfl rfl ?_
        refine x_mmax C (v := (if v27 < p3 then p3 else v27)) w_992 w_558 w_16 w_559 (Nat.le_of_ble_eq_true rfl) (Nat.le_of_ble_eq_true rfl) (Nat.le_of_ble_eq_true rfl) (Nat.le_of_ble_eq_true rfl) rfl dX11_share_77 rfl ?_
        refine x_any (fun v42 => ?_)
        exact x_zret C hr hlk rfl dX11_share_80 ⟨hW36, kp41⟩
  · skip
    have nf43 := nI_nle' (a := n0) (b := 4) c1 (by omega) (by omega)
    refine x_iload_n C dX11_share_5 rfl 1 rfl rfl ?_
    refine x_bipush C (v := 8) dX11_share_6 (by decide) rfl ?_
    refine x_icmp_lt C (tgt := 81) dX11_share_8 (by decide) rfl (fun _ => ?_) (fun h => absurd h (by decide))
    refine x_aload_n C dX11_share_81 rfl 0 rfl rfl ?_
    obtain ⟨_, k44, v45, rfl⟩ := hW 0 _ rfl
    refine x_get C (ci := 10) (k := 2) 0 k44 rfl in_X11 (by decide) w_387 rfl dX11_share_82 rfl ?_
    obtain ⟨_, k46, n47, v49, v50, v51, v52, v53, bn48, rfl⟩ := hW 5 _ rfl
    refine x_get C (ci := 8) (k := 4) 5 k46 rfl in_X9 (by decide) w_209 rfl dX11_share_85 rfl ?_
    refine x_aload_n C dX11_share_88 rfl 0 rfl rfl ?_
    refine x_get C (ci := 10) (k := 11) 0 k44 rfl in_X11 (by decide) w_396 rfl dX11_share_89 rfl ?_
    refine x_iload_n C dX11_share_92 rfl 1 rfl rfl ?_
    obtain ⟨_, k54, f55, rfl⟩ := hW 105 _ rfl
    refine x_iald C (v := (f55 (4 : Int32).toNatClampNeg)) 105 k54 (vp_k (j := 4) (by decide) (by decide) (by decide)) rfl dX11_share_93 rfl ?_
    refine x_any (fun v56 => ?_)
    obtain ⟨_, k57, n58, bn59, rfl⟩ := hW 14 _ rfl
    refine x_vi C (As := [.int v56]) (rest := []) (c_Eggs_minutesAt E l a ws hW 5 (Or.inl rfl) v56) mf_X1_minutesAt w_993 14 k57 rfl rfl rfl (Nat.le_of_ble_eq_true rfl) ⟨(Nat.le_of_ble_eq_true rfl), (Nat.le_of_ble_eq_true rfl)⟩ ⟨(Nat.le_of_ble_eq_true rfl), (Nat.le_of_ble_eq_true rfl)⟩ dX11_share_94 rfl (fun r61 w62 h60 => ?_)
    have hW63 := h60
    refine x_ws hW63 ?_
    refine x_istore C (lv' := [(5, .int r61), (0, .ref (a 0)), (1, .int 4), (2, .int (nI n0)), (3, .int m0), (4, .int p3)]) dX11_share_97 (by decide) rfl rfl ?_
    refine x_iload C dX11_share_99 5 rfl rfl ?_
    refine x_istore C (lv' := [(6, .int p3), (5, .int r61), (0, .ref (a 0)), (1, .int 4), (2, .int (nI n0)), (3, .int m0), (4, .int p3)]) dX11_share_101 (by decide) rfl rfl ?_
    refine x_iconst C (v := 0) dX11_share_103 (by decide) rfl ?_
    refine x_istore C (lv' := [(7, .int 0), (6, .int p3), (5, .int r61), (0, .ref (a 0)), (1, .int 4), (2, .int (nI n0)), (3, .int m0), (4, .int p3)]) dX11_share_104 (by decide) rfl rfl ?_
    have loop106 : ∀ (fu106 : Nat) (z106_6 : Int32) (q : Nat) (wl106 : va_W), WX (okX E a) wl106 → 3 - q < fu106 → q ≤ 3 → keeps ws wl106 (fun q => ¬ (q = 0 ∨ q = 6 ∨ q = 9 ∨ q = 28 ∨ q = 31)) → X E p l e (xRm 5 0 0) s m ([.ref (a 0), .int 4, .int (nI n0), .int m0, .int p3] : List Value).toArray below meth c A 8 0 0 (MQ below (va_Qi (fun r w => WX (okX E a) w ∧ keeps ws w (fun q => ¬ (q = 0 ∨ q = 6 ∨ q = 9 ∨ q = 28 ∨ q = 31))) (xB E A) A) ([.ref (a 0), .int 4, .int (nI n0), .int m0, .int p3] : List Value).toArray s 0 0 A) wl106 106 [(0, .ref (a 0)), (1, .int 4), (2, .int (nI n0)), (3, .int m0), (4, .int p3), (5, .int r61), (6, .int z106_6), (7, .int (nI q))] [] := by
      intro fu106
      induction fu106 with
      | zero => intro z106_6 q wl106 _ q; omega
      | succ fu106 ih106 =>
        intro z106_6 q wl106 hWl106 me106 iv106_0 kq106
        refine x_iload C dX11_share_106 7 rfl rfl ?_
        refine x_iload_n C dX11_share_108 rfl 3 rfl rfl ?_
        refine x_icmp_ge C (tgt := 169) dX11_share_109 (by decide) rfl (fun c64 => ?_) (fun c64 => ?_)
        · skip
          refine x_iload C dX11_share_169 6 rfl rfl ?_
          exact x_zret C hr hlk rfl dX11_share_171 ⟨hWl106, kq106⟩
        · skip
          refine x_iload C dX11_share_112 7 rfl rfl ?_
          refine x_iconst C (v := 3) dX11_share_114 (by decide) rfl ?_
          refine x_icmp_ge C (tgt := 169) dX11_share_115 (by decide) rfl (fun c65 => ?_) (fun c65 => ?_)
          · skip
            have nf66 := nI_le' (a := 3) (b := q) c65 (by omega) (by omega)
            refine x_iload C dX11_share_169 6 rfl rfl ?_
            exact x_zret C hr hlk rfl dX11_share_171 ⟨hWl106, kq106⟩
          · skip
            have nf67 := nI_nle' (a := 3) (b := q) c65 (by omega) (by omega)
            refine x_aload_n C dX11_share_118 rfl 0 rfl rfl ?_
            obtain ⟨_, k68, v69, rfl⟩ := hWl106 0 _ rfl
            refine x_get C (ci := 10) (k := 16) 0 k68 rfl in_X11 (by decide) w_401 rfl dX11_share_119 rfl ?_
            refine x_iload_n C dX11_share_122 rfl 1 rfl rfl ?_
            refine x_iload C dX11_share_123 7 rfl rfl ?_
            obtain ⟨_, k70, f71, rfl⟩ := hWl106 110 _ rfl
            obtain ⟨w72, hw73⟩ : ∃ w : va_W, w = List.set wl106 110 (iA E (a 110) 8 (upd f71 (4 : Int32).toNatClampNeg (nI q))) := ⟨_, rfl⟩
            refine x_iast C 110 k70 (vp_k (j := 4) (by decide) (by decide) (by decide)) hw73.symm dX11_share_125 rfl ?_
            have hW74 : WX (okX E a) w72 := by rw [hw73]; exact hWl106.set (k := 110) rfl ⟨_, rfl⟩
            have k75 : w72[0]? = some (ob (a 0) 10 [.ref (a 1), .ref (a 3), .ref (a 5), .ref (a 27), .ref (a 49), .int v69, .ref (a 71), .ref (a 79), .ref (a 87), .ref (a 92), .ref (a 103), .ref (a 105), .ref (a 106), .ref (a 107), .ref (a 108), .ref (a 109), .ref (a 110), .ref (a 111), .ref (a 112)]) := by rw [hw73]; exact set_ne k68 (by decide)
            have k76 : w72[110]? = some (iA E (a 110) 8 (upd f71 (4 : Int32).toNatClampNeg (nI q))) := by rw [hw73]; exact set_eq k70
            have kp77 := keeps_set kq106 hw73 (by first | exact rfl | decide | omega | (dsimp only; omega))
            refine x_aload_n C dX11_share_126 rfl 0 rfl rfl ?_
            refine x_get C (ci := 10) (k := 15) 0 k75 rfl in_X11 (by decide) w_400 rfl dX11_share_127 rfl ?_
            refine x_iload C dX11_share_130 7 rfl rfl ?_
            refine x_dup2 C dX11_share_132 rfl rfl rfl ?_
            obtain ⟨_, k78, f79, rfl⟩ := hW74 109 _ rfl
            refine x_iald C (v := (f79 (nI q).toNatClampNeg)) 109 k78 (vp_in_nI (by omega) (by decide)) rfl dX11_share_133 rfl ?_
            refine x_any (fun v80 => ?_)
            refine x_iload C dX11_share_134 5 rfl rfl ?_
            refine x_iadd C (v := (v80 + r61)) dX11_share_136 rfl rfl ?_
            refine x_any (fun v81 => ?_)
            obtain ⟨w82, hw83⟩ : ∃ w : va_W, w = List.set w72 109 (iA E (a 109) 3 (upd f79 (nI q).toNatClampNeg v81)) := ⟨_, rfl⟩
            refine x_iast C 109 k78 (vp_in_nI (by omega) (by decide)) hw83.symm dX11_share_137 rfl ?_
            have hW84 : WX (okX E a) w82 := by rw [hw83]; exact hW74.set (k := 109) rfl ⟨_, rfl⟩
            have k85 : w82[0]? = some (ob (a 0) 10 [.ref (a 1), .ref (a 3), .ref (a 5), .ref (a 27), .ref (a 49), .int v69, .ref (a 71), .ref (a 79), .ref (a 87), .ref (a 92), .ref (a 103), .ref (a 105), .ref (a 106), .ref (a 107), .ref (a 108), .ref (a 109), .ref (a 110), .ref (a 111), .ref (a 112)]) := by rw [hw83]; exact set_ne k75 (by decide)
            have k86 : w82[110]? = some (iA E (a 110) 8 (upd f71 (4 : Int32).toNatClampNeg (nI q))) := by rw [hw83]; exact set_ne k76 (by decide)
            have k87 : w82[109]? = some (iA E (a 109) 3 (upd f79 (nI q).toNatClampNeg v81)) := by rw [hw83]; exact set_eq k78
            have kp88 := keeps_set kp77 hw83 (by first | exact rfl | decide | omega | (dsimp only; omega))
            refine x_aload_n C dX11_share_138 rfl 0 rfl rfl ?_
            refine x_iload_n C dX11_share_139 rfl 1 rfl rfl ?_
            refine x_iconst C (v := 1) dX11_share_140 (by decide) rfl ?_
            refine x_iadd C (v := 5) dX11_share_141 (by decide) rfl ?_
            refine x_iload_n C dX11_share_142 rfl 2 rfl rfl ?_
            refine x_iload_n C dX11_share_143 rfl 3 rfl rfl ?_
            refine x_iload C dX11_share_144 6 rfl rfl ?_
            refine x_vi C (As := [.int 5, .int (nI n0), .int m0, .int z106_6]) (rest := []) (c_share5 E l a w82 hW84 n0 m0 z106_6 (by omega)) mf_X11_share w_987 0 k85 rfl rfl rfl (Nat.le_of_ble_eq_true rfl) ⟨(Nat.le_of_ble_eq_true rfl), (Nat.le_of_ble_eq_true rfl)⟩ ⟨(Nat.le_of_ble_eq_true rfl), (Nat.le_of_ble_eq_true rfl)⟩ dX11_share_146 rfl (fun r90 w91 h89 => ?_)
            obtain ⟨hW92, kq93⟩ := h89
            have k94 : w91[0]? = some (ob (a 0) 10 [.ref (a 1), .ref (a 3), .ref (a 5), .ref (a 27), .ref (a 49), .int v69, .ref (a 71), .ref (a 79), .ref (a 87), .ref (a 92), .ref (a 103), .ref (a 105), .ref (a 106), .ref (a 107), .ref (a 108), .ref (a 109), .ref (a 110), .ref (a 111), .ref (a 112)]) := keeps_at kq93 k85 (by first | decide | omega | (dsimp only; omega))
            have kp95 := keeps_tr kp88 kq93 (fun q hq => by first | omega | (dsimp only at *; omega))
            refine x_istore C (lv' := [(6, .int r90), (0, .ref (a 0)), (1, .int 4), (2, .int (nI n0)), (3, .int m0), (4, .int p3), (5, .int r61), (7, .int (nI q))]) dX11_share_149 (by decide) rfl rfl ?_
            refine x_aload_n C dX11_share_151 rfl 1 rfl rfl ?_
            refine x_get C (ci := 10) (k := 15) 0 k94 rfl in_X11 (by decide) w_400 rfl dX11_share_152 rfl ?_
            refine x_iload C dX11_share_155 7 rfl rfl ?_
            refine x_dup2 C dX11_share_157 rfl rfl rfl ?_
            obtain ⟨_, k96, f97, rfl⟩ := hW92 109 _ rfl
            refine x_iald C (v := (f97 (nI q).toNatClampNeg)) 109 k96 (vp_in_nI (by omega) (by decide)) rfl dX11_share_158 rfl ?_
            refine x_any (fun v98 => ?_)
            refine x_iload C dX11_share_159 6 rfl rfl ?_
            refine x_isub C (v := (v98 - r61)) dX11_share_161 rfl rfl ?_
            refine x_any (fun v99 => ?_)
            obtain ⟨w100, hw101⟩ : ∃ w : va_W, w = List.set w91 109 (iA E (a 109) 3 (upd f97 (nI q).toNatClampNeg v99)) := ⟨_, rfl⟩
            refine x_iast C 109 k96 (vp_in_nI (by omega) (by decide)) hw101.symm dX11_share_162 rfl ?_
            have hW102 : WX (okX E a) w100 := by rw [hw101]; exact hW92.set (k := 109) rfl ⟨_, rfl⟩
            have k103 : w100[0]? = some (ob (a 0) 10 [.ref (a 1), .ref (a 3), .ref (a 5), .ref (a 27), .ref (a 49), .int v69, .ref (a 71), .ref (a 79), .ref (a 87), .ref (a 92), .ref (a 103), .ref (a 105), .ref (a 106), .ref (a 107), .ref (a 108), .ref (a 109), .ref (a 110), .ref (a 111), .ref (a 112)]) := by rw [hw101]; exact set_ne k94 (by decide)
            have k104 : w100[109]? = some (iA E (a 109) 3 (upd f97 (nI q).toNatClampNeg v99)) := by rw [hw101]; exact set_eq k96
            have kp105 := keeps_set kp95 hw101 (by first | exact rfl | decide | omega | (dsimp only; omega))
            refine x_iinc C (v := (nI (q + 1))) (lv' := [(7, .int (nI (q + 1))), (6, .int r90), (0, .ref (a 0)), (1, .int 4), (2, .int (nI n0)), (3, .int m0), (4, .int p3), (5, .int r61)]) dX11_share_163 7 rfl (nI_add q 1) (by decide) rfl rfl ?_
            refine x_goto C (tgt := 106) dX11_share_166 (by decide) ?_
            refine x_lv (lv1 := [(0, .ref (a 0)), (1, .int 4), (2, .int (nI n0)), (3, .int m0), (4, .int p3), (5, .int r61), (6, .int r90), (7, .int (nI (q + 1)))]) [2, 3, 4, 5, 6, 7, 1, 0] rfl ?_
            exact ih106 r90 (q + 1) w100 hW102 (by omega) (by omega) kp105
    refine x_lv (lv1 := [(0, .ref (a 0)), (1, .int 4), (2, .int (nI n0)), (3, .int m0), (4, .int p3), (5, .int r61), (6, .int p3), (7, .int 0)]) [3, 4, 5, 6, 7, 2, 1, 0] rfl ?_
    exact loop106 _ p3 0 ws hW (Nat.lt_succ_self _) (by omega) kp0
set_option maxRecDepth 20000 in
set_option maxHeartbeats 4000000 in
theorem c_share3 (E : xE) (l : Launch) (a : Nat → Nat) (ws : va_W) (hW : WX (okX E a) ws) (n0 : Nat) (m0 : Int32) (p3 : Int32) (hn0 : n0 ≤ 8) : xI E l yX11_share cX11_share 8 (some .int) 6 [.ref (a 0), .int 3, .int (nI n0), .int m0, .int p3] ws (fun r w => WX (okX E a) w ∧ keeps ws w (fun q => ¬ (q = 0 ∨ q = 6 ∨ q = 9 ∨ q = 28 ∨ q = 31))) := by
  refine xI_start (lv := [(0, .ref (a 0)), (1, .int 3), (2, .int (nI n0)), (3, .int m0), (4, .int p3)]) RX11 (by decide) rfl (Nat.le_of_ble_eq_true rfl) rfl (fun p e s m below meth c A C hr hlk => ?_)
  have kp0 : keeps ws ws (fun q => ¬ (q = 0 ∨ q = 6 ∨ q = 9 ∨ q = 28 ∨ q = 31)) := keeps_rf
  refine x_iload_n C dX11_share_0 rfl 1 rfl rfl ?_
  refine x_iload_n C dX11_share_1 rfl 2 rfl rfl ?_
  refine x_icmp_ge C (tgt := 11) dX11_share_2 (by decide) rfl (fun c1 => ?_) (fun c1 => ?_)
  · skip
    have nf2 := nI_le' (a := n0) (b := 3) c1 (by omega) (by omega)
    refine x_aload_n C dX11_share_11 rfl 0 rfl rfl ?_
    obtain ⟨_, k3, v4, rfl⟩ := hW 0 _ rfl
    refine x_get C (ci := 10) (k := 15) 0 k3 rfl in_X11 (by decide) w_400 rfl dX11_share_12 rfl ?_
    refine x_iconst C (v := 0) dX11_share_15 (by decide) rfl ?_
    obtain ⟨_, k5, f6, rfl⟩ := hW 109 _ rfl
    refine x_iald C (v := (f6 (0 : Int32).toNatClampNeg)) 109 k5 (vp_k (j := 0) (by decide) (by decide) (by decide)) rfl dX11_share_16 rfl ?_
    refine x_any (fun v7 => ?_)
    refine x_aload_n C dX11_share_17 rfl 0 rfl rfl ?_
    refine x_get C (ci := 10) (k := 15) 0 k3 rfl in_X11 (by decide) w_400 rfl dX11_share_18 rfl ?_
    refine x_iconst C (v := 1) dX11_share_21 (by decide) rfl ?_
    refine x_iald C (v := (f6 (1 : Int32).toNatClampNeg)) 109 k5 (vp_k (j := 1) (by decide) (by decide) (by decide)) rfl dX11_share_22 rfl ?_
    refine x_any (fun v8 => ?_)
    refine x_mmin C (v := (if v8 < v7 then v8 else v7)) w_958 w_561 w_16 w_562 (Nat.le_of_ble_eq_true rfl) (Nat.le_of_ble_eq_true rfl) (Nat.le_of_ble_eq_true rfl) (Nat.le_of_ble_eq_true rfl) rfl dX11_share_23 rfl ?_
    refine x_any (fun v9 => ?_)
    refine x_istore C (lv' := [(5, .int v9), (0, .ref (a 0)), (1, .int 3), (2, .int (nI n0)), (3, .int m0), (4, .int p3)]) dX11_share_26 (by decide) rfl rfl ?_
    refine x_iload_n C dX11_share_28 rfl 4 rfl rfl ?_
    refine x_iconst C (v := 2) dX11_share_29 (by decide) rfl ?_
    refine x_icmp_le C (tgt := 47) dX11_share_30 (by decide) rfl (fun c10 => ?_) (fun c10 => ?_)
    · skip
      refine x_iload C dX11_share_47 0 rfl rfl ?_
      refine x_istore C (lv' := [(5, .int v9), (0, .ref (a 0)), (1, .int 3), (2, .int (nI n0)), (3, .int m0), (4, .int p3)]) dX11_share_49 (by decide) rfl rfl ?_
      refine x_iload C dX11_share_51 0 rfl rfl ?_
      refine x_iload C dX11_share_53 5 rfl rfl ?_
      refine x_icmp_le C (tgt := 73) dX11_share_55 (by decide) rfl (fun c11 => ?_) (fun c11 => ?_)
      · skip
        refine x_iload C dX11_share_73 0 rfl rfl ?_
        refine x_iload C dX11_share_75 5 rfl rfl ?_
        refine x_mmax C (v := (if v9 < p3 then p3 else v9)) w_992 w_558 w_16 w_559 (Nat.le_of_ble_eq_true rfl) (Nat.le_of_ble_eq_true rfl) (Nat.le_of_ble_eq_true rfl) (Nat.le_of_ble_eq_true rfl) rfl dX11_share_77 rfl ?_
        refine x_any (fun v12 => ?_)
        exact x_zret C hr hlk rfl dX11_share_80 ⟨hW, kp0⟩
      · skip
        refine x_aload_n C dX11_share_58 rfl 1 rfl rfl ?_
        refine x_get C (ci := 10) (k := 16) 0 k3 rfl in_X11 (by decide) w_401 rfl dX11_share_59 rfl ?_
        refine x_iconst C (v := 0) dX11_share_62 (by decide) rfl ?_
        refine x_aload_n C dX11_share_63 rfl 1 rfl rfl ?_
        refine x_get C (ci := 10) (k := 17) 0 k3 rfl in_X11 (by decide) w_402 rfl dX11_share_64 rfl ?_
        refine x_iconst C (v := 0) dX11_share_67 (by decide) rfl ?_
        refine x_bipush C (v := 8) dX11_share_68 (by decide) rfl ?_
        obtain ⟨_, k13, f14, rfl⟩ := hW 110 _ rfl
        obtain ⟨_, k15, f16, rfl⟩ := hW 111 _ rfl
        obtain ⟨w17, hw18⟩ : ∃ w : va_W, w = List.set ws 111 (iA E (a 111) 8 (va_cpy f14 f16 0 0 8)) := ⟨_, rfl⟩
        refine x_copy C 110 111 k13 k15 w_991 w_798 w_797 w_20 (by decide) (by decide) (by decide) (by decide) (by decide) (Nat.le_of_ble_eq_true rfl) (Nat.le_of_ble_eq_true rfl) hw18.symm dX11_share_70 rfl ?_
        have hW19 : WX (okX E a) w17 := by rw [hw18]; exact hW.set (k := 111) rfl ⟨_, rfl⟩
        have k20 : w17[0]? = some (ob (a 0) 10 [.ref (a 1), .ref (a 3), .ref (a 5), .ref (a 27), .ref (a 49), .int v4, .ref (a 71), .ref (a 79), .ref (a 87), .ref (a 92), .ref (a 103), .ref (a 105), .ref (a 106), .ref (a 107), .ref (a 108), .ref (a 109), .ref (a 110), .ref (a 111), .ref (a 112)]) := by rw [hw18]; exact set_ne k3 (by decide)
        have k21 : w17[109]? = some (iA E (a 109) 3 f6) := by rw [hw18]; exact set_ne k5 (by decide)
        have k22 : w17[110]? = some (iA E (a 110) 8 f14) := by rw [hw18]; exact set_ne k13 (by decide)
        have k23 : w17[111]? = some (iA E (a 111) 8 (va_cpy f14 f16 0 0 8)) := by rw [hw18]; exact set_eq k15
        have kp24 := keeps_set kp0 hw18 (by first | exact rfl | decide | omega | (dsimp only; omega))
        refine x_iload C dX11_share_73 0 rfl rfl ?_
        refine x_iload C dX11_share_75 5 rfl rfl ?_
        refine x_mmax C (v := (if v9 < p3 then p3 else v9)) w_992 w_558 w_16 w_559 (Nat.le_of_ble_eq_true rfl) (Nat.le_of_ble_eq_true rfl) (Nat.le_of_ble_eq_true rfl) (Nat.le_of_ble_eq_true rfl) rfl dX11_share_77 rfl ?_
        refine x_any (fun v25 => ?_)
        exact x_zret C hr hlk rfl dX11_share_80 ⟨hW19, kp24⟩
    · skip
      refine x_iload C dX11_share_33 0 rfl rfl ?_
      refine x_aload_n C dX11_share_35 rfl 1 rfl rfl ?_
      refine x_get C (ci := 10) (k := 15) 0 k3 rfl in_X11 (by decide) w_400 rfl dX11_share_36 rfl ?_
      refine x_iconst C (v := 2) dX11_share_39 (by decide) rfl ?_
      refine x_iald C (v := (f6 (2 : Int32).toNatClampNeg)) 109 k5 (vp_k (j := 2) (by decide) (by decide) (by decide)) rfl dX11_share_40 rfl ?_
      refine x_any (fun v26 => ?_)
      refine x_mmin C (v := (if v26 < v9 then v26 else v9)) w_958 w_561 w_16 w_562 (Nat.le_of_ble_eq_true rfl) (Nat.le_of_ble_eq_true rfl) (Nat.le_of_ble_eq_true rfl) (Nat.le_of_ble_eq_true rfl) rfl dX11_share_41 rfl ?_
      refine x_any (fun v27 => ?_)
      refine x_goto C (tgt := 49) dX11_share_44 (by decide) ?_
      refine x_istore C (lv' := [(5, .int v27), (0, .ref (a 0)), (1, .int 3), (2, .int (nI n0)), (3, .int m0), (4, .int p3)]) dX11_share_49 (by decide) rfl rfl ?_
      refine x_iload C dX11_share_51 0 rfl rfl ?_
      refine x_iload C dX11_share_53 5 rfl rfl ?_
      refine x_icmp_le C (tgt := 73) dX11_share_55 (by decide) rfl (fun c28 => ?_) (fun c28 => ?_)
      · skip
        refine x_iload C dX11_share_73 0 rfl rfl ?_
        refine x_iload C dX11_share_75 5 rfl rfl ?_
        refine x_mmax C (v := (if v27 < p3 then p3 else v27)) w_992 w_558 w_16 w_559 (Nat.le_of_ble_eq_true rfl) (Nat.le_of_ble_eq_true rfl) (Nat.le_of_ble_eq_true rfl) (Nat.le_of_ble_eq_true rfl) rfl dX11_share_77 rfl ?_
        refine x_any (fun v29 => ?_)
        exact x_zret C hr hlk rfl dX11_share_80 ⟨hW, kp0⟩
      · skip
        refine x_aload_n C dX11_share_58 rfl 1 rfl rfl ?_
        refine x_get C (ci := 10) (k := 16) 0 k3 rfl in_X11 (by decide) w_401 rfl dX11_share_59 rfl ?_
        refine x_iconst C (v := 0) dX11_share_62 (by decide) rfl ?_
        refine x_aload_n C dX11_share_63 rfl 1 rfl rfl ?_
        refine x_get C (ci := 10) (k := 17) 0 k3 rfl in_X11 (by decide) w_402 rfl dX11_share_64 rfl ?_
        refine x_iconst C (v := 0) dX11_share_67 (by decide) rfl ?_
        refine x_bipush C (v := 8) dX11_share_68 (by decide) rfl ?_
        obtain ⟨_, k30, f31, rfl⟩ := hW 110 _ rfl
        obtain ⟨_, k32, f33, rfl⟩ := hW 111 _ rfl
        obtain ⟨w34, hw35⟩ : ∃ w : va_W, w = List.set ws 111 (iA E (a 111) 8 (va_cpy f31 f33 0 0 8)) := ⟨_, rfl⟩
        refine x_copy C 110 111 k30 k32 w_991 w_798 w_797 w_20 (by decide) (by decide) (by decide) (by decide) (by decide) (Nat.le_of_ble_eq_true rfl) (Nat.le_of_ble_eq_true rfl) hw35.symm dX11_share_70 rfl ?_
        have hW36 : WX (okX E a) w34 := by rw [hw35]; exact hW.set (k := 111) rfl ⟨_, rfl⟩
        have k37 : w34[0]? = some (ob (a 0) 10 [.ref (a 1), .ref (a 3), .ref (a 5), .ref (a 27), .ref (a 49), .int v4, .ref (a 71), .ref (a 79), .ref (a 87), .ref (a 92), .ref (a 103), .ref (a 105), .ref (a 106), .ref (a 107), .ref (a 108), .ref (a 109), .ref (a 110), .ref (a 111), .ref (a 112)]) := by rw [hw35]; exact set_ne k3 (by decide)
        have k38 : w34[109]? = some (iA E (a 109) 3 f6) := by rw [hw35]; exact set_ne k5 (by decide)
        have k39 : w34[110]? = some (iA E (a 110) 8 f31) := by rw [hw35]; exact set_ne k30 (by decide)
        have k40 : w34[111]? = some (iA E (a 111) 8 (va_cpy f31 f33 0 0 8)) := by rw [hw35]; exact set_eq k32
        have kp41 := keeps_set kp0 hw35 (by first | exact rfl | decide | omega | (dsimp only; omega))
        refine x_iload C dX11_share_73 0 rfl rfl ?_
        refine x_iload C dX11_share_75 5 rfl rfl ?_
        refine x_mmax C (v := (if v27 < p3 then p3 else v27)) w_992 w_558 w_16 w_559 (Nat.le_of_ble_eq_true rfl) (Nat.le_of_ble_eq_true rfl) (Nat.le_of_ble_eq_true rfl) (Nat.le_of_ble_eq_true rfl) rfl dX11_share_77 rfl ?_
        refine x_any (fun v42 => ?_)
        exact x_zret C hr hlk rfl dX11_share_80 ⟨hW36, kp41⟩
  · skip
    have nf43 := nI_nle' (a := n0) (b := 3) c1 (by omega) (by omega)
    refine x_iload_n C dX11_share_5 rfl 1 rfl rfl ?_
    refine x_bipush C (v := 8) dX11_share_6 (by decide) rfl ?_
    refine x_icmp_lt C (tgt := 81) dX11_share_8 (by decide) rfl (fun _ => ?_) (fun h => absurd h (by decide))
    refine x_aload_n C dX11_share_81 rfl 0 rfl rfl ?_
    obtain ⟨_, k44, v45, rfl⟩ := hW 0 _ rfl
    refine x_get C (ci := 10) (k := 2) 0 k44 rfl in_X11 (by decide) w_387 rfl dX11_share_82 rfl ?_
    obtain ⟨_, k46, n47, v49, v50, v51, v52, v53, bn48, rfl⟩ := hW 5 _ rfl
    refine x_get C (ci := 8) (k := 4) 5 k46 rfl in_X9 (by decide) w_209 rfl dX11_share_85 rfl ?_
    refine x_aload_n C dX11_share_88 rfl 0 rfl rfl ?_
    refine x_get C (ci := 10) (k := 11) 0 k44 rfl in_X11 (by decide) w_396 rfl dX11_share_89 rfl ?_
    refine x_iload_n C dX11_share_92 rfl 1 rfl rfl ?_
    obtain ⟨_, k54, f55, rfl⟩ := hW 105 _ rfl
    refine x_iald C (v := (f55 (3 : Int32).toNatClampNeg)) 105 k54 (vp_k (j := 3) (by decide) (by decide) (by decide)) rfl dX11_share_93 rfl ?_
    refine x_any (fun v56 => ?_)
    obtain ⟨_, k57, n58, bn59, rfl⟩ := hW 14 _ rfl
    refine x_vi C (As := [.int v56]) (rest := []) (c_Eggs_minutesAt E l a ws hW 5 (Or.inl rfl) v56) mf_X1_minutesAt w_993 14 k57 rfl rfl rfl (Nat.le_of_ble_eq_true rfl) ⟨(Nat.le_of_ble_eq_true rfl), (Nat.le_of_ble_eq_true rfl)⟩ ⟨(Nat.le_of_ble_eq_true rfl), (Nat.le_of_ble_eq_true rfl)⟩ dX11_share_94 rfl (fun r61 w62 h60 => ?_)
    have hW63 := h60
    refine x_ws hW63 ?_
    refine x_istore C (lv' := [(5, .int r61), (0, .ref (a 0)), (1, .int 3), (2, .int (nI n0)), (3, .int m0), (4, .int p3)]) dX11_share_97 (by decide) rfl rfl ?_
    refine x_iload C dX11_share_99 5 rfl rfl ?_
    refine x_istore C (lv' := [(6, .int p3), (5, .int r61), (0, .ref (a 0)), (1, .int 3), (2, .int (nI n0)), (3, .int m0), (4, .int p3)]) dX11_share_101 (by decide) rfl rfl ?_
    refine x_iconst C (v := 0) dX11_share_103 (by decide) rfl ?_
    refine x_istore C (lv' := [(7, .int 0), (6, .int p3), (5, .int r61), (0, .ref (a 0)), (1, .int 3), (2, .int (nI n0)), (3, .int m0), (4, .int p3)]) dX11_share_104 (by decide) rfl rfl ?_
    have loop106 : ∀ (fu106 : Nat) (z106_6 : Int32) (q : Nat) (wl106 : va_W), WX (okX E a) wl106 → 3 - q < fu106 → q ≤ 3 → keeps ws wl106 (fun q => ¬ (q = 0 ∨ q = 6 ∨ q = 9 ∨ q = 28 ∨ q = 31)) → X E p l e (xRm 6 0 0) s m ([.ref (a 0), .int 3, .int (nI n0), .int m0, .int p3] : List Value).toArray below meth c A 8 0 0 (MQ below (va_Qi (fun r w => WX (okX E a) w ∧ keeps ws w (fun q => ¬ (q = 0 ∨ q = 6 ∨ q = 9 ∨ q = 28 ∨ q = 31))) (xB E A) A) ([.ref (a 0), .int 3, .int (nI n0), .int m0, .int p3] : List Value).toArray s 0 0 A) wl106 106 [(0, .ref (a 0)), (1, .int 3), (2, .int (nI n0)), (3, .int m0), (4, .int p3), (5, .int r61), (6, .int z106_6), (7, .int (nI q))] [] := by
      intro fu106
      induction fu106 with
      | zero => intro z106_6 q wl106 _ q; omega
      | succ fu106 ih106 =>
        intro z106_6 q wl106 hWl106 me106 iv106_0 kq106
        refine x_iload C dX11_share_106 7 rfl rfl ?_
        refine x_iload_n C dX11_share_108 rfl 3 rfl rfl ?_
        refine x_icmp_ge C (tgt := 169) dX11_share_109 (by decide) rfl (fun c64 => ?_) (fun c64 => ?_)
        · skip
          refine x_iload C dX11_share_169 6 rfl rfl ?_
          exact x_zret C hr hlk rfl dX11_share_171 ⟨hWl106, kq106⟩
        · skip
          refine x_iload C dX11_share_112 7 rfl rfl ?_
          refine x_iconst C (v := 3) dX11_share_114 (by decide) rfl ?_
          refine x_icmp_ge C (tgt := 169) dX11_share_115 (by decide) rfl (fun c65 => ?_) (fun c65 => ?_)
          · skip
            have nf66 := nI_le' (a := 3) (b := q) c65 (by omega) (by omega)
            refine x_iload C dX11_share_169 6 rfl rfl ?_
            exact x_zret C hr hlk rfl dX11_share_171 ⟨hWl106, kq106⟩
          · skip
            have nf67 := nI_nle' (a := 3) (b := q) c65 (by omega) (by omega)
            refine x_aload_n C dX11_share_118 rfl 0 rfl rfl ?_
            obtain ⟨_, k68, v69, rfl⟩ := hWl106 0 _ rfl
            refine x_get C (ci := 10) (k := 16) 0 k68 rfl in_X11 (by decide) w_401 rfl dX11_share_119 rfl ?_
            refine x_iload_n C dX11_share_122 rfl 1 rfl rfl ?_
            refine x_iload C dX11_share_123 7 rfl rfl ?_
            obtain ⟨_, k70, f71, rfl⟩ := hWl106 110 _ rfl
            obtain ⟨w72, hw73⟩ : ∃ w : va_W, w = List.set wl106 110 (iA E (a 110) 8 (upd f71 (3 : Int32).toNatClampNeg (nI q))) := ⟨_, rfl⟩
            refine x_iast C 110 k70 (vp_k (j := 3) (by decide) (by decide) (by decide)) hw73.symm dX11_share_125 rfl ?_
            have hW74 : WX (okX E a) w72 := by rw [hw73]; exact hWl106.set (k := 110) rfl ⟨_, rfl⟩
            have k75 : w72[0]? = some (ob (a 0) 10 [.ref (a 1), .ref (a 3), .ref (a 5), .ref (a 27), .ref (a 49), .int v69, .ref (a 71), .ref (a 79), .ref (a 87), .ref (a 92), .ref (a 103), .ref (a 105), .ref (a 106), .ref (a 107), .ref (a 108), .ref (a 109), .ref (a 110), .ref (a 111), .ref (a 112)]) := by rw [hw73]; exact set_ne k68 (by decide)
            have k76 : w72[110]? = some (iA E (a 110) 8 (upd f71 (3 : Int32).toNatClampNeg (nI q))) := by rw [hw73]; exact set_eq k70
            have kp77 := keeps_set kq106 hw73 (by first | exact rfl | decide | omega | (dsimp only; omega))
            refine x_aload_n C dX11_share_126 rfl 0 rfl rfl ?_
            refine x_get C (ci := 10) (k := 15) 0 k75 rfl in_X11 (by decide) w_400 rfl dX11_share_127 rfl ?_
            refine x_iload C dX11_share_130 7 rfl rfl ?_
            refine x_dup2 C dX11_share_132 rfl rfl rfl ?_
            obtain ⟨_, k78, f79, rfl⟩ := hW74 109 _ rfl
            refine x_iald C (v := (f79 (nI q).toNatClampNeg)) 109 k78 (vp_in_nI (by omega) (by decide)) rfl dX11_share_133 rfl ?_
            refine x_any (fun v80 => ?_)
            refine x_iload C dX11_share_134 5 rfl rfl ?_
            refine x_iadd C (v := (v80 + r61)) dX11_share_136 rfl rfl ?_
            refine x_any (fun v81 => ?_)
            obtain ⟨w82, hw83⟩ : ∃ w : va_W, w = List.set w72 109 (iA E (a 109) 3 (upd f79 (nI q).toNatClampNeg v81)) := ⟨_, rfl⟩
            refine x_iast C 109 k78 (vp_in_nI (by omega) (by decide)) hw83.symm dX11_share_137 rfl ?_
            have hW84 : WX (okX E a) w82 := by rw [hw83]; exact hW74.set (k := 109) rfl ⟨_, rfl⟩
            have k85 : w82[0]? = some (ob (a 0) 10 [.ref (a 1), .ref (a 3), .ref (a 5), .ref (a 27), .ref (a 49), .int v69, .ref (a 71), .ref (a 79), .ref (a 87), .ref (a 92), .ref (a 103), .ref (a 105), .ref (a 106), .ref (a 107), .ref (a 108), .ref (a 109), .ref (a 110), .ref (a 111), .ref (a 112)]) := by rw [hw83]; exact set_ne k75 (by decide)
            have k86 : w82[110]? = some (iA E (a 110) 8 (upd f71 (3 : Int32).toNatClampNeg (nI q))) := by rw [hw83]; exact set_ne k76 (by decide)
            have k87 : w82[109]? = some (iA E (a 109) 3 (upd f79 (nI q).toNatClampNeg v81)) := by rw [hw83]; exact set_eq k78
            have kp88 := keeps_set kp77 hw83 (by first | exact rfl | decide | omega | (dsimp only; omega))
            refine x_aload_n C dX11_share_138 rfl 0 rfl rfl ?_
            refine x_iload_n C dX11_share_139 rfl 1 rfl rfl ?_
            refine x_iconst C (v := 1) dX11_share_140 (by decide) rfl ?_
            refine x_iadd C (v := 4) dX11_share_141 (by decide) rfl ?_
            refine x_iload_n C dX11_share_142 rfl 2 rfl rfl ?_
            refine x_iload_n C dX11_share_143 rfl 3 rfl rfl ?_
            refine x_iload C dX11_share_144 6 rfl rfl ?_
            refine x_vi C (As := [.int 4, .int (nI n0), .int m0, .int z106_6]) (rest := []) (c_share4 E l a w82 hW84 n0 m0 z106_6 (by omega)) mf_X11_share w_987 0 k85 rfl rfl rfl (Nat.le_of_ble_eq_true rfl) ⟨(Nat.le_of_ble_eq_true rfl), (Nat.le_of_ble_eq_true rfl)⟩ ⟨(Nat.le_of_ble_eq_true rfl), (Nat.le_of_ble_eq_true rfl)⟩ dX11_share_146 rfl (fun r90 w91 h89 => ?_)
            obtain ⟨hW92, kq93⟩ := h89
            have k94 : w91[0]? = some (ob (a 0) 10 [.ref (a 1), .ref (a 3), .ref (a 5), .ref (a 27), .ref (a 49), .int v69, .ref (a 71), .ref (a 79), .ref (a 87), .ref (a 92), .ref (a 103), .ref (a 105), .ref (a 106), .ref (a 107), .ref (a 108), .ref (a 109), .ref (a 110), .ref (a 111), .ref (a 112)]) := keeps_at kq93 k85 (by first | decide | omega | (dsimp only; omega))
            have kp95 := keeps_tr kp88 kq93 (fun q hq => by first | omega | (dsimp only at *; omega))
            refine x_istore C (lv' := [(6, .int r90), (0, .ref (a 0)), (1, .int 3), (2, .int (nI n0)), (3, .int m0), (4, .int p3), (5, .int r61), (7, .int (nI q))]) dX11_share_149 (by decide) rfl rfl ?_
            refine x_aload_n C dX11_share_151 rfl 1 rfl rfl ?_
            refine x_get C (ci := 10) (k := 15) 0 k94 rfl in_X11 (by decide) w_400 rfl dX11_share_152 rfl ?_
            refine x_iload C dX11_share_155 7 rfl rfl ?_
            refine x_dup2 C dX11_share_157 rfl rfl rfl ?_
            obtain ⟨_, k96, f97, rfl⟩ := hW92 109 _ rfl
            refine x_iald C (v := (f97 (nI q).toNatClampNeg)) 109 k96 (vp_in_nI (by omega) (by decide)) rfl dX11_share_158 rfl ?_
            refine x_any (fun v98 => ?_)
            refine x_iload C dX11_share_159 6 rfl rfl ?_
            refine x_isub C (v := (v98 - r61)) dX11_share_161 rfl rfl ?_
            refine x_any (fun v99 => ?_)
            obtain ⟨w100, hw101⟩ : ∃ w : va_W, w = List.set w91 109 (iA E (a 109) 3 (upd f97 (nI q).toNatClampNeg v99)) := ⟨_, rfl⟩
            refine x_iast C 109 k96 (vp_in_nI (by omega) (by decide)) hw101.symm dX11_share_162 rfl ?_
            have hW102 : WX (okX E a) w100 := by rw [hw101]; exact hW92.set (k := 109) rfl ⟨_, rfl⟩
            have k103 : w100[0]? = some (ob (a 0) 10 [.ref (a 1), .ref (a 3), .ref (a 5), .ref (a 27), .ref (a 49), .int v69, .ref (a 71), .ref (a 79), .ref (a 87), .ref (a 92), .ref (a 103), .ref (a 105), .ref (a 106), .ref (a 107), .ref (a 108), .ref (a 109), .ref (a 110), .ref (a 111), .ref (a 112)]) := by rw [hw101]; exact set_ne k94 (by decide)
            have k104 : w100[109]? = some (iA E (a 109) 3 (upd f97 (nI q).toNatClampNeg v99)) := by rw [hw101]; exact set_eq k96
            have kp105 := keeps_set kp95 hw101 (by first | exact rfl | decide | omega | (dsimp only; omega))
            refine x_iinc C (v := (nI (q + 1))) (lv' := [(7, .int (nI (q + 1))), (6, .int r90), (0, .ref (a 0)), (1, .int 3), (2, .int (nI n0)), (3, .int m0), (4, .int p3), (5, .int r61)]) dX11_share_163 7 rfl (nI_add q 1) (by decide) rfl rfl ?_
            refine x_goto C (tgt := 106) dX11_share_166 (by decide) ?_
            refine x_lv (lv1 := [(0, .ref (a 0)), (1, .int 3), (2, .int (nI n0)), (3, .int m0), (4, .int p3), (5, .int r61), (6, .int r90), (7, .int (nI (q + 1)))]) [2, 3, 4, 5, 6, 7, 1, 0] rfl ?_
            exact ih106 r90 (q + 1) w100 hW102 (by omega) (by omega) kp105
    refine x_lv (lv1 := [(0, .ref (a 0)), (1, .int 3), (2, .int (nI n0)), (3, .int m0), (4, .int p3), (5, .int r61), (6, .int p3), (7, .int 0)]) [3, 4, 5, 6, 7, 2, 1, 0] rfl ?_
    exact loop106 _ p3 0 ws hW (Nat.lt_succ_self _) (by omega) kp0
set_option maxRecDepth 20000 in
set_option maxHeartbeats 4000000 in
theorem c_share2 (E : xE) (l : Launch) (a : Nat → Nat) (ws : va_W) (hW : WX (okX E a) ws) (n0 : Nat) (m0 : Int32) (p3 : Int32) (hn0 : n0 ≤ 8) : xI E l yX11_share cX11_share 8 (some .int) 7 [.ref (a 0), .int 2, .int (nI n0), .int m0, .int p3] ws (fun r w => WX (okX E a) w ∧ keeps ws w (fun q => ¬ (q = 0 ∨ q = 6 ∨ q = 9 ∨ q = 28 ∨ q = 31))) := by
  refine xI_start (lv := [(0, .ref (a 0)), (1, .int 2), (2, .int (nI n0)), (3, .int m0), (4, .int p3)]) RX11 (by decide) rfl (Nat.le_of_ble_eq_true rfl) rfl (fun p e s m below meth c A C hr hlk => ?_)
  have kp0 : keeps ws ws (fun q => ¬ (q = 0 ∨ q = 6 ∨ q = 9 ∨ q = 28 ∨ q = 31)) := keeps_rf
  refine x_iload_n C dX11_share_0 rfl 1 rfl rfl ?_
  refine x_iload_n C dX11_share_1 rfl 2 rfl rfl ?_
  refine x_icmp_ge C (tgt := 11) dX11_share_2 (by decide) rfl (fun c1 => ?_) (fun c1 => ?_)
  · skip
    have nf2 := nI_le' (a := n0) (b := 2) c1 (by omega) (by omega)
    refine x_aload_n C dX11_share_11 rfl 0 rfl rfl ?_
    obtain ⟨_, k3, v4, rfl⟩ := hW 0 _ rfl
    refine x_get C (ci := 10) (k := 15) 0 k3 rfl in_X11 (by decide) w_400 rfl dX11_share_12 rfl ?_
    refine x_iconst C (v := 0) dX11_share_15 (by decide) rfl ?_
    obtain ⟨_, k5, f6, rfl⟩ := hW 109 _ rfl
    refine x_iald C (v := (f6 (0 : Int32).toNatClampNeg)) 109 k5 (vp_k (j := 0) (by decide) (by decide) (by decide)) rfl dX11_share_16 rfl ?_
    refine x_any (fun v7 => ?_)
    refine x_aload_n C dX11_share_17 rfl 0 rfl rfl ?_
    refine x_get C (ci := 10) (k := 15) 0 k3 rfl in_X11 (by decide) w_400 rfl dX11_share_18 rfl ?_
    refine x_iconst C (v := 1) dX11_share_21 (by decide) rfl ?_
    refine x_iald C (v := (f6 (1 : Int32).toNatClampNeg)) 109 k5 (vp_k (j := 1) (by decide) (by decide) (by decide)) rfl dX11_share_22 rfl ?_
    refine x_any (fun v8 => ?_)
    refine x_mmin C (v := (if v8 < v7 then v8 else v7)) w_958 w_561 w_16 w_562 (Nat.le_of_ble_eq_true rfl) (Nat.le_of_ble_eq_true rfl) (Nat.le_of_ble_eq_true rfl) (Nat.le_of_ble_eq_true rfl) rfl dX11_share_23 rfl ?_
    refine x_any (fun v9 => ?_)
    refine x_istore C (lv' := [(5, .int v9), (0, .ref (a 0)), (1, .int 2), (2, .int (nI n0)), (3, .int m0), (4, .int p3)]) dX11_share_26 (by decide) rfl rfl ?_
    refine x_iload_n C dX11_share_28 rfl 4 rfl rfl ?_
    refine x_iconst C (v := 2) dX11_share_29 (by decide) rfl ?_
    refine x_icmp_le C (tgt := 47) dX11_share_30 (by decide) rfl (fun c10 => ?_) (fun c10 => ?_)
    · skip
      refine x_iload C dX11_share_47 0 rfl rfl ?_
      refine x_istore C (lv' := [(5, .int v9), (0, .ref (a 0)), (1, .int 2), (2, .int (nI n0)), (3, .int m0), (4, .int p3)]) dX11_share_49 (by decide) rfl rfl ?_
      refine x_iload C dX11_share_51 0 rfl rfl ?_
      refine x_iload C dX11_share_53 5 rfl rfl ?_
      refine x_icmp_le C (tgt := 73) dX11_share_55 (by decide) rfl (fun c11 => ?_) (fun c11 => ?_)
      · skip
        refine x_iload C dX11_share_73 0 rfl rfl ?_
        refine x_iload C dX11_share_75 5 rfl rfl ?_
        refine x_mmax C (v := (if v9 < p3 then p3 else v9)) w_992 w_558 w_16 w_559 (Nat.le_of_ble_eq_true rfl) (Nat.le_of_ble_eq_true rfl) (Nat.le_of_ble_eq_true rfl) (Nat.le_of_ble_eq_true rfl) rfl dX11_share_77 rfl ?_
        refine x_any (fun v12 => ?_)
        exact x_zret C hr hlk rfl dX11_share_80 ⟨hW, kp0⟩
      · skip
        refine x_aload_n C dX11_share_58 rfl 1 rfl rfl ?_
        refine x_get C (ci := 10) (k := 16) 0 k3 rfl in_X11 (by decide) w_401 rfl dX11_share_59 rfl ?_
        refine x_iconst C (v := 0) dX11_share_62 (by decide) rfl ?_
        refine x_aload_n C dX11_share_63 rfl 1 rfl rfl ?_
        refine x_get C (ci := 10) (k := 17) 0 k3 rfl in_X11 (by decide) w_402 rfl dX11_share_64 rfl ?_
        refine x_iconst C (v := 0) dX11_share_67 (by decide) rfl ?_
        refine x_bipush C (v := 8) dX11_share_68 (by decide) rfl ?_
        obtain ⟨_, k13, f14, rfl⟩ := hW 110 _ rfl
        obtain ⟨_, k15, f16, rfl⟩ := hW 111 _ rfl
        obtain ⟨w17, hw18⟩ : ∃ w : va_W, w = List.set ws 111 (iA E (a 111) 8 (va_cpy f14 f16 0 0 8)) := ⟨_, rfl⟩
        refine x_copy C 110 111 k13 k15 w_991 w_798 w_797 w_20 (by decide) (by decide) (by decide) (by decide) (by decide) (Nat.le_of_ble_eq_true rfl) (Nat.le_of_ble_eq_true rfl) hw18.symm dX11_share_70 rfl ?_
        have hW19 : WX (okX E a) w17 := by rw [hw18]; exact hW.set (k := 111) rfl ⟨_, rfl⟩
        have k20 : w17[0]? = some (ob (a 0) 10 [.ref (a 1), .ref (a 3), .ref (a 5), .ref (a 27), .ref (a 49), .int v4, .ref (a 71), .ref (a 79), .ref (a 87), .ref (a 92), .ref (a 103), .ref (a 105), .ref (a 106), .ref (a 107), .ref (a 108), .ref (a 109), .ref (a 110), .ref (a 111), .ref (a 112)]) := by rw [hw18]; exact set_ne k3 (by decide)
        have k21 : w17[109]? = some (iA E (a 109) 3 f6) := by rw [hw18]; exact set_ne k5 (by decide)
        have k22 : w17[110]? = some (iA E (a 110) 8 f14) := by rw [hw18]; exact set_ne k13 (by decide)
        have k23 : w17[111]? = some (iA E (a 111) 8 (va_cpy f14 f16 0 0 8)) := by rw [hw18]; exact set_eq k15
        have kp24 := keeps_set kp0 hw18 (by first | exact rfl | decide | omega | (dsimp only; omega))
        refine x_iload C dX11_share_73 0 rfl rfl ?_
        refine x_iload C dX11_share_75 5 rfl rfl ?_
        refine x_mmax C (v := (if v9 < p3 then p3 else v9)) w_992 w_558 w_16 w_559 (Nat.le_of_ble_eq_true rfl) (Nat.le_of_ble_eq_true rfl) (Nat.le_of_ble_eq_true rfl) (Nat.le_of_ble_eq_true rfl) rfl dX11_share_77 rfl ?_
        refine x_any (fun v25 => ?_)
        exact x_zret C hr hlk rfl dX11_share_80 ⟨hW19, kp24⟩
    · skip
      refine x_iload C dX11_share_33 0 rfl rfl ?_
      refine x_aload_n C dX11_share_35 rfl 1 rfl rfl ?_
      refine x_get C (ci := 10) (k := 15) 0 k3 rfl in_X11 (by decide) w_400 rfl dX11_share_36 rfl ?_
      refine x_iconst C (v := 2) dX11_share_39 (by decide) rfl ?_
      refine x_iald C (v := (f6 (2 : Int32).toNatClampNeg)) 109 k5 (vp_k (j := 2) (by decide) (by decide) (by decide)) rfl dX11_share_40 rfl ?_
      refine x_any (fun v26 => ?_)
      refine x_mmin C (v := (if v26 < v9 then v26 else v9)) w_958 w_561 w_16 w_562 (Nat.le_of_ble_eq_true rfl) (Nat.le_of_ble_eq_true rfl) (Nat.le_of_ble_eq_true rfl) (Nat.le_of_ble_eq_true rfl) rfl dX11_share_41 rfl ?_
      refine x_any (fun v27 => ?_)
      refine x_goto C (tgt := 49) dX11_share_44 (by decide) ?_
      refine x_istore C (lv' := [(5, .int v27), (0, .ref (a 0)), (1, .int 2), (2, .int (nI n0)), (3, .int m0), (4, .int p3)]) dX11_share_49 (by decide) rfl rfl ?_
      refine x_iload C dX11_share_51 0 rfl rfl ?_
      refine x_iload C dX11_share_53 5 rfl rfl ?_
      refine x_icmp_le C (tgt := 73) dX11_share_55 (by decide) rfl (fun c28 => ?_) (fun c28 => ?_)
      · skip
        refine x_iload C dX11_share_73 0 rfl rfl ?_
        refine x_iload C dX11_share_75 5 rfl rfl ?_
        refine x_mmax C (v := (if v27 < p3 then p3 else v27)) w_992 w_558 w_16 w_559 (Nat.le_of_ble_eq_true rfl) (Nat.le_of_ble_eq_true rfl) (Nat.le_of_ble_eq_true rfl) (Nat.le_of_ble_eq_true rfl) rfl dX11_share_77 rfl ?_
        refine x_any (fun v29 => ?_)
        exact x_zret C hr hlk rfl dX11_share_80 ⟨hW, kp0⟩
      · skip
        refine x_aload_n C dX11_share_58 rfl 1 rfl rfl ?_
        refine x_get C (ci := 10) (k := 16) 0 k3 rfl in_X11 (by decide) w_401 rfl dX11_share_59 rfl ?_
        refine x_iconst C (v := 0) dX11_share_62 (by decide) rfl ?_
        refine x_aload_n C dX11_share_63 rfl 1 rfl rfl ?_
        refine x_get C (ci := 10) (k := 17) 0 k3 rfl in_X11 (by decide) w_402 rfl dX11_share_64 rfl ?_
        refine x_iconst C (v := 0) dX11_share_67 (by decide) rfl ?_
        refine x_bipush C (v := 8) dX11_share_68 (by decide) rfl ?_
        obtain ⟨_, k30, f31, rfl⟩ := hW 110 _ rfl
        obtain ⟨_, k32, f33, rfl⟩ := hW 111 _ rfl
        obtain ⟨w34, hw35⟩ : ∃ w : va_W, w = List.set ws 111 (iA E (a 111) 8 (va_cpy f31 f33 0 0 8)) := ⟨_, rfl⟩
        refine x_copy C 110 111 k30 k32 w_991 w_798 w_797 w_20 (by decide) (by decide) (by decide) (by decide) (by decide) (Nat.le_of_ble_eq_true rfl) (Nat.le_of_ble_eq_true rfl) hw35.symm dX11_share_70 rfl ?_
        have hW36 : WX (okX E a) w34 := by rw [hw35]; exact hW.set (k := 111) rfl ⟨_, rfl⟩
        have k37 : w34[0]? = some (ob (a 0) 10 [.ref (a 1), .ref (a 3), .ref (a 5), .ref (a 27), .ref (a 49), .int v4, .ref (a 71), .ref (a 79), .ref (a 87), .ref (a 92), .ref (a 103), .ref (a 105), .ref (a 106), .ref (a 107), .ref (a 108), .ref (a 109), .ref (a 110), .ref (a 111), .ref (a 112)]) := by rw [hw35]; exact set_ne k3 (by decide)
        have k38 : w34[109]? = some (iA E (a 109) 3 f6) := by rw [hw35]; exact set_ne k5 (by decide)
        have k39 : w34[110]? = some (iA E (a 110) 8 f31) := by rw [hw35]; exact set_ne k30 (by decide)
        have k40 : w34[111]? = some (iA E (a 111) 8 (va_cpy f31 f33 0 0 8)) := by rw [hw35]; exact set_eq k32
        have kp41 := keeps_set kp0 hw35 (by first | exact rfl | decide | omega | (dsimp only; omega))
        refine x_iload C dX11_share_73 0 rfl rfl ?_
        refine x_iload C dX11_share_75 5 rfl rfl ?_
        refine x_mmax C (v := (if v27 < p3 then p3 else v27)) w_992 w_558 w_16 w_559 (Nat.le_of_ble_eq_true rfl) (Nat.le_of_ble_eq_true rfl) (Nat.le_of_ble_eq_true rfl) (Nat.le_of_ble_eq_true rfl) rfl dX11_share_77 rfl ?_
        refine x_any (fun v42 => ?_)
        exact x_zret C hr hlk rfl dX11_share_80 ⟨hW36, kp41⟩
  · skip
    have nf43 := nI_nle' (a := n0) (b := 2) c1 (by omega) (by omega)
    refine x_iload_n C dX11_share_5 rfl 1 rfl rfl ?_
    refine x_bipush C (v := 8) dX11_share_6 (by decide) rfl ?_
    refine x_icmp_lt C (tgt := 81) dX11_share_8 (by decide) rfl (fun _ => ?_) (fun h => absurd h (by decide))
    refine x_aload_n C dX11_share_81 rfl 0 rfl rfl ?_
    obtain ⟨_, k44, v45, rfl⟩ := hW 0 _ rfl
    refine x_get C (ci := 10) (k := 2) 0 k44 rfl in_X11 (by decide) w_387 rfl dX11_share_82 rfl ?_
    obtain ⟨_, k46, n47, v49, v50, v51, v52, v53, bn48, rfl⟩ := hW 5 _ rfl
    refine x_get C (ci := 8) (k := 4) 5 k46 rfl in_X9 (by decide) w_209 rfl dX11_share_85 rfl ?_
    refine x_aload_n C dX11_share_88 rfl 0 rfl rfl ?_
    refine x_get C (ci := 10) (k := 11) 0 k44 rfl in_X11 (by decide) w_396 rfl dX11_share_89 rfl ?_
    refine x_iload_n C dX11_share_92 rfl 1 rfl rfl ?_
    obtain ⟨_, k54, f55, rfl⟩ := hW 105 _ rfl
    refine x_iald C (v := (f55 (2 : Int32).toNatClampNeg)) 105 k54 (vp_k (j := 2) (by decide) (by decide) (by decide)) rfl dX11_share_93 rfl ?_
    refine x_any (fun v56 => ?_)
    obtain ⟨_, k57, n58, bn59, rfl⟩ := hW 14 _ rfl
    refine x_vi C (As := [.int v56]) (rest := []) (c_Eggs_minutesAt E l a ws hW 5 (Or.inl rfl) v56) mf_X1_minutesAt w_993 14 k57 rfl rfl rfl (Nat.le_of_ble_eq_true rfl) ⟨(Nat.le_of_ble_eq_true rfl), (Nat.le_of_ble_eq_true rfl)⟩ ⟨(Nat.le_of_ble_eq_true rfl), (Nat.le_of_ble_eq_true rfl)⟩ dX11_share_94 rfl (fun r61 w62 h60 => ?_)
    have hW63 := h60
    refine x_ws hW63 ?_
    refine x_istore C (lv' := [(5, .int r61), (0, .ref (a 0)), (1, .int 2), (2, .int (nI n0)), (3, .int m0), (4, .int p3)]) dX11_share_97 (by decide) rfl rfl ?_
    refine x_iload C dX11_share_99 5 rfl rfl ?_
    refine x_istore C (lv' := [(6, .int p3), (5, .int r61), (0, .ref (a 0)), (1, .int 2), (2, .int (nI n0)), (3, .int m0), (4, .int p3)]) dX11_share_101 (by decide) rfl rfl ?_
    refine x_iconst C (v := 0) dX11_share_103 (by decide) rfl ?_
    refine x_istore C (lv' := [(7, .int 0), (6, .int p3), (5, .int r61), (0, .ref (a 0)), (1, .int 2), (2, .int (nI n0)), (3, .int m0), (4, .int p3)]) dX11_share_104 (by decide) rfl rfl ?_
    have loop106 : ∀ (fu106 : Nat) (z106_6 : Int32) (q : Nat) (wl106 : va_W), WX (okX E a) wl106 → 3 - q < fu106 → q ≤ 3 → keeps ws wl106 (fun q => ¬ (q = 0 ∨ q = 6 ∨ q = 9 ∨ q = 28 ∨ q = 31)) → X E p l e (xRm 7 0 0) s m ([.ref (a 0), .int 2, .int (nI n0), .int m0, .int p3] : List Value).toArray below meth c A 8 0 0 (MQ below (va_Qi (fun r w => WX (okX E a) w ∧ keeps ws w (fun q => ¬ (q = 0 ∨ q = 6 ∨ q = 9 ∨ q = 28 ∨ q = 31))) (xB E A) A) ([.ref (a 0), .int 2, .int (nI n0), .int m0, .int p3] : List Value).toArray s 0 0 A) wl106 106 [(0, .ref (a 0)), (1, .int 2), (2, .int (nI n0)), (3, .int m0), (4, .int p3), (5, .int r61), (6, .int z106_6), (7, .int (nI q))] [] := by
      intro fu106
      induction fu106 with
      | zero => intro z106_6 q wl106 _ q; omega
      | succ fu106 ih106 =>
        intro z106_6 q wl106 hWl106 me106 iv106_0 kq106
        refine x_iload C dX11_share_106 7 rfl rfl ?_
        refine x_iload_n C dX11_share_108 rfl 3 rfl rfl ?_
        refine x_icmp_ge C (tgt := 169) dX11_share_109 (by decide) rfl (fun c64 => ?_) (fun c64 => ?_)
        · skip
          refine x_iload C dX11_share_169 6 rfl rfl ?_
          exact x_zret C hr hlk rfl dX11_share_171 ⟨hWl106, kq106⟩
        · skip
          refine x_iload C dX11_share_112 7 rfl rfl ?_
          refine x_iconst C (v := 3) dX11_share_114 (by decide) rfl ?_
          refine x_icmp_ge C (tgt := 169) dX11_share_115 (by decide) rfl (fun c65 => ?_) (fun c65 => ?_)
          · skip
            have nf66 := nI_le' (a := 3) (b := q) c65 (by omega) (by omega)
            refine x_iload C dX11_share_169 6 rfl rfl ?_
            exact x_zret C hr hlk rfl dX11_share_171 ⟨hWl106, kq106⟩
          · skip
            have nf67 := nI_nle' (a := 3) (b := q) c65 (by omega) (by omega)
            refine x_aload_n C dX11_share_118 rfl 0 rfl rfl ?_
            obtain ⟨_, k68, v69, rfl⟩ := hWl106 0 _ rfl
            refine x_get C (ci := 10) (k := 16) 0 k68 rfl in_X11 (by decide) w_401 rfl dX11_share_119 rfl ?_
            refine x_iload_n C dX11_share_122 rfl 1 rfl rfl ?_
            refine x_iload C dX11_share_123 7 rfl rfl ?_
            obtain ⟨_, k70, f71, rfl⟩ := hWl106 110 _ rfl
            obtain ⟨w72, hw73⟩ : ∃ w : va_W, w = List.set wl106 110 (iA E (a 110) 8 (upd f71 (2 : Int32).toNatClampNeg (nI q))) := ⟨_, rfl⟩
            refine x_iast C 110 k70 (vp_k (j := 2) (by decide) (by decide) (by decide)) hw73.symm dX11_share_125 rfl ?_
            have hW74 : WX (okX E a) w72 := by rw [hw73]; exact hWl106.set (k := 110) rfl ⟨_, rfl⟩
            have k75 : w72[0]? = some (ob (a 0) 10 [.ref (a 1), .ref (a 3), .ref (a 5), .ref (a 27), .ref (a 49), .int v69, .ref (a 71), .ref (a 79), .ref (a 87), .ref (a 92), .ref (a 103), .ref (a 105), .ref (a 106), .ref (a 107), .ref (a 108), .ref (a 109), .ref (a 110), .ref (a 111), .ref (a 112)]) := by rw [hw73]; exact set_ne k68 (by decide)
            have k76 : w72[110]? = some (iA E (a 110) 8 (upd f71 (2 : Int32).toNatClampNeg (nI q))) := by rw [hw73]; exact set_eq k70
            have kp77 := keeps_set kq106 hw73 (by first | exact rfl | decide | omega | (dsimp only; omega))
            refine x_aload_n C dX11_share_126 rfl 0 rfl rfl ?_
            refine x_get C (ci := 10) (k := 15) 0 k75 rfl in_X11 (by decide) w_400 rfl dX11_share_127 rfl ?_
            refine x_iload C dX11_share_130 7 rfl rfl ?_
            refine x_dup2 C dX11_share_132 rfl rfl rfl ?_
            obtain ⟨_, k78, f79, rfl⟩ := hW74 109 _ rfl
            refine x_iald C (v := (f79 (nI q).toNatClampNeg)) 109 k78 (vp_in_nI (by omega) (by decide)) rfl dX11_share_133 rfl ?_
            refine x_any (fun v80 => ?_)
            refine x_iload C dX11_share_134 5 rfl rfl ?_
            refine x_iadd C (v := (v80 + r61)) dX11_share_136 rfl rfl ?_
            refine x_any (fun v81 => ?_)
            obtain ⟨w82, hw83⟩ : ∃ w : va_W, w = List.set w72 109 (iA E (a 109) 3 (upd f79 (nI q).toNatClampNeg v81)) := ⟨_, rfl⟩
            refine x_iast C 109 k78 (vp_in_nI (by omega) (by decide)) hw83.symm dX11_share_137 rfl ?_
            have hW84 : WX (okX E a) w82 := by rw [hw83]; exact hW74.set (k := 109) rfl ⟨_, rfl⟩
            have k85 : w82[0]? = some (ob (a 0) 10 [.ref (a 1), .ref (a 3), .ref (a 5), .ref (a 27), .ref (a 49), .int v69, .ref (a 71), .ref (a 79), .ref (a 87), .ref (a 92), .ref (a 103), .ref (a 105), .ref (a 106), .ref (a 107), .ref (a 108), .ref (a 109), .ref (a 110), .ref (a 111), .ref (a 112)]) := by rw [hw83]; exact set_ne k75 (by decide)
            have k86 : w82[110]? = some (iA E (a 110) 8 (upd f71 (2 : Int32).toNatClampNeg (nI q))) := by rw [hw83]; exact set_ne k76 (by decide)
            have k87 : w82[109]? = some (iA E (a 109) 3 (upd f79 (nI q).toNatClampNeg v81)) := by rw [hw83]; exact set_eq k78
            have kp88 := keeps_set kp77 hw83 (by first | exact rfl | decide | omega | (dsimp only; omega))
            refine x_aload_n C dX11_share_138 rfl 0 rfl rfl ?_
            refine x_iload_n C dX11_share_139 rfl 1 rfl rfl ?_
            refine x_iconst C (v := 1) dX11_share_140 (by decide) rfl ?_
            refine x_iadd C (v := 3) dX11_share_141 (by decide) rfl ?_
            refine x_iload_n C dX11_share_142 rfl 2 rfl rfl ?_
            refine x_iload_n C dX11_share_143 rfl 3 rfl rfl ?_
            refine x_iload C dX11_share_144 6 rfl rfl ?_
            refine x_vi C (As := [.int 3, .int (nI n0), .int m0, .int z106_6]) (rest := []) (c_share3 E l a w82 hW84 n0 m0 z106_6 (by omega)) mf_X11_share w_987 0 k85 rfl rfl rfl (Nat.le_of_ble_eq_true rfl) ⟨(Nat.le_of_ble_eq_true rfl), (Nat.le_of_ble_eq_true rfl)⟩ ⟨(Nat.le_of_ble_eq_true rfl), (Nat.le_of_ble_eq_true rfl)⟩ dX11_share_146 rfl (fun r90 w91 h89 => ?_)
            obtain ⟨hW92, kq93⟩ := h89
            have k94 : w91[0]? = some (ob (a 0) 10 [.ref (a 1), .ref (a 3), .ref (a 5), .ref (a 27), .ref (a 49), .int v69, .ref (a 71), .ref (a 79), .ref (a 87), .ref (a 92), .ref (a 103), .ref (a 105), .ref (a 106), .ref (a 107), .ref (a 108), .ref (a 109), .ref (a 110), .ref (a 111), .ref (a 112)]) := keeps_at kq93 k85 (by first | decide | omega | (dsimp only; omega))
            have kp95 := keeps_tr kp88 kq93 (fun q hq => by first | omega | (dsimp only at *; omega))
            refine x_istore C (lv' := [(6, .int r90), (0, .ref (a 0)), (1, .int 2), (2, .int (nI n0)), (3, .int m0), (4, .int p3), (5, .int r61), (7, .int (nI q))]) dX11_share_149 (by decide) rfl rfl ?_
            refine x_aload_n C dX11_share_151 rfl 1 rfl rfl ?_
            refine x_get C (ci := 10) (k := 15) 0 k94 rfl in_X11 (by decide) w_400 rfl dX11_share_152 rfl ?_
            refine x_iload C dX11_share_155 7 rfl rfl ?_
            refine x_dup2 C dX11_share_157 rfl rfl rfl ?_
            obtain ⟨_, k96, f97, rfl⟩ := hW92 109 _ rfl
            refine x_iald C (v := (f97 (nI q).toNatClampNeg)) 109 k96 (vp_in_nI (by omega) (by decide)) rfl dX11_share_158 rfl ?_
            refine x_any (fun v98 => ?_)
            refine x_iload C dX11_share_159 6 rfl rfl ?_
            refine x_isub C (v := (v98 - r61)) dX11_share_161 rfl rfl ?_
            refine x_any (fun v99 => ?_)
            obtain ⟨w100, hw101⟩ : ∃ w : va_W, w = List.set w91 109 (iA E (a 109) 3 (upd f97 (nI q).toNatClampNeg v99)) := ⟨_, rfl⟩
            refine x_iast C 109 k96 (vp_in_nI (by omega) (by decide)) hw101.symm dX11_share_162 rfl ?_
            have hW102 : WX (okX E a) w100 := by rw [hw101]; exact hW92.set (k := 109) rfl ⟨_, rfl⟩
            have k103 : w100[0]? = some (ob (a 0) 10 [.ref (a 1), .ref (a 3), .ref (a 5), .ref (a 27), .ref (a 49), .int v69, .ref (a 71), .ref (a 79), .ref (a 87), .ref (a 92), .ref (a 103), .ref (a 105), .ref (a 106), .ref (a 107), .ref (a 108), .ref (a 109), .ref (a 110), .ref (a 111), .ref (a 112)]) := by rw [hw101]; exact set_ne k94 (by decide)
            have k104 : w100[109]? = some (iA E (a 109) 3 (upd f97 (nI q).toNatClampNeg v99)) := by rw [hw101]; exact set_eq k96
            have kp105 := keeps_set kp95 hw101 (by first | exact rfl | decide | omega | (dsimp only; omega))
            refine x_iinc C (v := (nI (q + 1))) (lv' := [(7, .int (nI (q + 1))), (6, .int r90), (0, .ref (a 0)), (1, .int 2), (2, .int (nI n0)), (3, .int m0), (4, .int p3), (5, .int r61)]) dX11_share_163 7 rfl (nI_add q 1) (by decide) rfl rfl ?_
            refine x_goto C (tgt := 106) dX11_share_166 (by decide) ?_
            refine x_lv (lv1 := [(0, .ref (a 0)), (1, .int 2), (2, .int (nI n0)), (3, .int m0), (4, .int p3), (5, .int r61), (6, .int r90), (7, .int (nI (q + 1)))]) [2, 3, 4, 5, 6, 7, 1, 0] rfl ?_
            exact ih106 r90 (q + 1) w100 hW102 (by omega) (by omega) kp105
    refine x_lv (lv1 := [(0, .ref (a 0)), (1, .int 2), (2, .int (nI n0)), (3, .int m0), (4, .int p3), (5, .int r61), (6, .int p3), (7, .int 0)]) [3, 4, 5, 6, 7, 2, 1, 0] rfl ?_
    exact loop106 _ p3 0 ws hW (Nat.lt_succ_self _) (by omega) kp0
set_option maxRecDepth 20000 in
set_option maxHeartbeats 4000000 in
theorem c_share1 (E : xE) (l : Launch) (a : Nat → Nat) (ws : va_W) (hW : WX (okX E a) ws) (n0 : Nat) (m0 : Int32) (p3 : Int32) (hn0 : n0 ≤ 8) : xI E l yX11_share cX11_share 8 (some .int) 8 [.ref (a 0), .int 1, .int (nI n0), .int m0, .int p3] ws (fun r w => WX (okX E a) w ∧ keeps ws w (fun q => ¬ (q = 0 ∨ q = 6 ∨ q = 9 ∨ q = 28 ∨ q = 31))) := by
  refine xI_start (lv := [(0, .ref (a 0)), (1, .int 1), (2, .int (nI n0)), (3, .int m0), (4, .int p3)]) RX11 (by decide) rfl (Nat.le_of_ble_eq_true rfl) rfl (fun p e s m below meth c A C hr hlk => ?_)
  have kp0 : keeps ws ws (fun q => ¬ (q = 0 ∨ q = 6 ∨ q = 9 ∨ q = 28 ∨ q = 31)) := keeps_rf
  refine x_iload_n C dX11_share_0 rfl 1 rfl rfl ?_
  refine x_iload_n C dX11_share_1 rfl 2 rfl rfl ?_
  refine x_icmp_ge C (tgt := 11) dX11_share_2 (by decide) rfl (fun c1 => ?_) (fun c1 => ?_)
  · skip
    have nf2 := nI_le' (a := n0) (b := 1) c1 (by omega) (by omega)
    refine x_aload_n C dX11_share_11 rfl 0 rfl rfl ?_
    obtain ⟨_, k3, v4, rfl⟩ := hW 0 _ rfl
    refine x_get C (ci := 10) (k := 15) 0 k3 rfl in_X11 (by decide) w_400 rfl dX11_share_12 rfl ?_
    refine x_iconst C (v := 0) dX11_share_15 (by decide) rfl ?_
    obtain ⟨_, k5, f6, rfl⟩ := hW 109 _ rfl
    refine x_iald C (v := (f6 (0 : Int32).toNatClampNeg)) 109 k5 (vp_k (j := 0) (by decide) (by decide) (by decide)) rfl dX11_share_16 rfl ?_
    refine x_any (fun v7 => ?_)
    refine x_aload_n C dX11_share_17 rfl 0 rfl rfl ?_
    refine x_get C (ci := 10) (k := 15) 0 k3 rfl in_X11 (by decide) w_400 rfl dX11_share_18 rfl ?_
    refine x_iconst C (v := 1) dX11_share_21 (by decide) rfl ?_
    refine x_iald C (v := (f6 (1 : Int32).toNatClampNeg)) 109 k5 (vp_k (j := 1) (by decide) (by decide) (by decide)) rfl dX11_share_22 rfl ?_
    refine x_any (fun v8 => ?_)
    refine x_mmin C (v := (if v8 < v7 then v8 else v7)) w_958 w_561 w_16 w_562 (Nat.le_of_ble_eq_true rfl) (Nat.le_of_ble_eq_true rfl) (Nat.le_of_ble_eq_true rfl) (Nat.le_of_ble_eq_true rfl) rfl dX11_share_23 rfl ?_
    refine x_any (fun v9 => ?_)
    refine x_istore C (lv' := [(5, .int v9), (0, .ref (a 0)), (1, .int 1), (2, .int (nI n0)), (3, .int m0), (4, .int p3)]) dX11_share_26 (by decide) rfl rfl ?_
    refine x_iload_n C dX11_share_28 rfl 4 rfl rfl ?_
    refine x_iconst C (v := 2) dX11_share_29 (by decide) rfl ?_
    refine x_icmp_le C (tgt := 47) dX11_share_30 (by decide) rfl (fun c10 => ?_) (fun c10 => ?_)
    · skip
      refine x_iload C dX11_share_47 0 rfl rfl ?_
      refine x_istore C (lv' := [(5, .int v9), (0, .ref (a 0)), (1, .int 1), (2, .int (nI n0)), (3, .int m0), (4, .int p3)]) dX11_share_49 (by decide) rfl rfl ?_
      refine x_iload C dX11_share_51 0 rfl rfl ?_
      refine x_iload C dX11_share_53 5 rfl rfl ?_
      refine x_icmp_le C (tgt := 73) dX11_share_55 (by decide) rfl (fun c11 => ?_) (fun c11 => ?_)
      · skip
        refine x_iload C dX11_share_73 0 rfl rfl ?_
        refine x_iload C dX11_share_75 5 rfl rfl ?_
        refine x_mmax C (v := (if v9 < p3 then p3 else v9)) w_992 w_558 w_16 w_559 (Nat.le_of_ble_eq_true rfl) (Nat.le_of_ble_eq_true rfl) (Nat.le_of_ble_eq_true rfl) (Nat.le_of_ble_eq_true rfl) rfl dX11_share_77 rfl ?_
        refine x_any (fun v12 => ?_)
        exact x_zret C hr hlk rfl dX11_share_80 ⟨hW, kp0⟩
      · skip
        refine x_aload_n C dX11_share_58 rfl 1 rfl rfl ?_
        refine x_get C (ci := 10) (k := 16) 0 k3 rfl in_X11 (by decide) w_401 rfl dX11_share_59 rfl ?_
        refine x_iconst C (v := 0) dX11_share_62 (by decide) rfl ?_
        refine x_aload_n C dX11_share_63 rfl 1 rfl rfl ?_
        refine x_get C (ci := 10) (k := 17) 0 k3 rfl in_X11 (by decide) w_402 rfl dX11_share_64 rfl ?_
        refine x_iconst C (v := 0) dX11_share_67 (by decide) rfl ?_
        refine x_bipush C (v := 8) dX11_share_68 (by decide) rfl ?_
        obtain ⟨_, k13, f14, rfl⟩ := hW 110 _ rfl
        obtain ⟨_, k15, f16, rfl⟩ := hW 111 _ rfl
        obtain ⟨w17, hw18⟩ : ∃ w : va_W, w = List.set ws 111 (iA E (a 111) 8 (va_cpy f14 f16 0 0 8)) := ⟨_, rfl⟩
        refine x_copy C 110 111 k13 k15 w_991 w_798 w_797 w_20 (by decide) (by decide) (by decide) (by decide) (by decide) (Nat.le_of_ble_eq_true rfl) (Nat.le_of_ble_eq_true rfl) hw18.symm dX11_share_70 rfl ?_
        have hW19 : WX (okX E a) w17 := by rw [hw18]; exact hW.set (k := 111) rfl ⟨_, rfl⟩
        have k20 : w17[0]? = some (ob (a 0) 10 [.ref (a 1), .ref (a 3), .ref (a 5), .ref (a 27), .ref (a 49), .int v4, .ref (a 71), .ref (a 79), .ref (a 87), .ref (a 92), .ref (a 103), .ref (a 105), .ref (a 106), .ref (a 107), .ref (a 108), .ref (a 109), .ref (a 110), .ref (a 111), .ref (a 112)]) := by rw [hw18]; exact set_ne k3 (by decide)
        have k21 : w17[109]? = some (iA E (a 109) 3 f6) := by rw [hw18]; exact set_ne k5 (by decide)
        have k22 : w17[110]? = some (iA E (a 110) 8 f14) := by rw [hw18]; exact set_ne k13 (by decide)
        have k23 : w17[111]? = some (iA E (a 111) 8 (va_cpy f14 f16 0 0 8)) := by rw [hw18]; exact set_eq k15
        have kp24 := keeps_set kp0 hw18 (by first | exact rfl | decide | omega | (dsimp only; omega))
        refine x_iload C dX11_share_73 0 rfl rfl ?_
        refine x_iload C dX11_share_75 5 rfl rfl ?_
        refine x_mmax C (v := (if v9 < p3 then p3 else v9)) w_992 w_558 w_16 w_559 (Nat.le_of_ble_eq_true rfl) (Nat.le_of_ble_eq_true rfl) (Nat.le_of_ble_eq_true rfl) (Nat.le_of_ble_eq_true rfl) rfl dX11_share_77 rfl ?_
        refine x_any (fun v25 => ?_)
        exact x_zret C hr hlk rfl dX11_share_80 ⟨hW19, kp24⟩
    · skip
      refine x_iload C dX11_share_33 0 rfl rfl ?_
      refine x_aload_n C dX11_share_35 rfl 1 rfl rfl ?_
      refine x_get C (ci := 10) (k := 15) 0 k3 rfl in_X11 (by decide) w_400 rfl dX11_share_36 rfl ?_
      refine x_iconst C (v := 2) dX11_share_39 (by decide) rfl ?_
      refine x_iald C (v := (f6 (2 : Int32).toNatClampNeg)) 109 k5 (vp_k (j := 2) (by decide) (by decide) (by decide)) rfl dX11_share_40 rfl ?_
      refine x_any (fun v26 => ?_)
      refine x_mmin C (v := (if v26 < v9 then v26 else v9)) w_958 w_561 w_16 w_562 (Nat.le_of_ble_eq_true rfl) (Nat.le_of_ble_eq_true rfl) (Nat.le_of_ble_eq_true rfl) (Nat.le_of_ble_eq_true rfl) rfl dX11_share_41 rfl ?_
      refine x_any (fun v27 => ?_)
      refine x_goto C (tgt := 49) dX11_share_44 (by decide) ?_
      refine x_istore C (lv' := [(5, .int v27), (0, .ref (a 0)), (1, .int 1), (2, .int (nI n0)), (3, .int m0), (4, .int p3)]) dX11_share_49 (by decide) rfl rfl ?_
      refine x_iload C dX11_share_51 0 rfl rfl ?_
      refine x_iload C dX11_share_53 5 rfl rfl ?_
      refine x_icmp_le C (tgt := 73) dX11_share_55 (by decide) rfl (fun c28 => ?_) (fun c28 => ?_)
      · skip
        refine x_iload C dX11_share_73 0 rfl rfl ?_
        refine x_iload C dX11_share_75 5 rfl rfl ?_
        refine x_mmax C (v := (if v27 < p3 then p3 else v27)) w_992 w_558 w_16 w_559 (Nat.le_of_ble_eq_true rfl) (Nat.le_of_ble_eq_true rfl) (Nat.le_of_ble_eq_true rfl) (Nat.le_of_ble_eq_true rfl) rfl dX11_share_77 rfl ?_
        refine x_any (fun v29 => ?_)
        exact x_zret C hr hlk rfl dX11_share_80 ⟨hW, kp0⟩
      · skip
        refine x_aload_n C dX11_share_58 rfl 1 rfl rfl ?_
        refine x_get C (ci := 10) (k := 16) 0 k3 rfl in_X11 (by decide) w_401 rfl dX11_share_59 rfl ?_
        refine x_iconst C (v := 0) dX11_share_62 (by decide) rfl ?_
        refine x_aload_n C dX11_share_63 rfl 1 rfl rfl ?_
        refine x_get C (ci := 10) (k := 17) 0 k3 rfl in_X11 (by decide) w_402 rfl dX11_share_64 rfl ?_
        refine x_iconst C (v := 0) dX11_share_67 (by decide) rfl ?_
        refine x_bipush C (v := 8) dX11_share_68 (by decide) rfl ?_
        obtain ⟨_, k30, f31, rfl⟩ := hW 110 _ rfl
        obtain ⟨_, k32, f33, rfl⟩ := hW 111 _ rfl
        obtain ⟨w34, hw35⟩ : ∃ w : va_W, w = List.set ws 111 (iA E (a 111) 8 (va_cpy f31 f33 0 0 8)) := ⟨_, rfl⟩
        refine x_copy C 110 111 k30 k32 w_991 w_798 w_797 w_20 (by decide) (by decide) (by decide) (by decide) (by decide) (Nat.le_of_ble_eq_true rfl) (Nat.le_of_ble_eq_true rfl) hw35.symm dX11_share_70 rfl ?_
        have hW36 : WX (okX E a) w34 := by rw [hw35]; exact hW.set (k := 111) rfl ⟨_, rfl⟩
        have k37 : w34[0]? = some (ob (a 0) 10 [.ref (a 1), .ref (a 3), .ref (a 5), .ref (a 27), .ref (a 49), .int v4, .ref (a 71), .ref (a 79), .ref (a 87), .ref (a 92), .ref (a 103), .ref (a 105), .ref (a 106), .ref (a 107), .ref (a 108), .ref (a 109), .ref (a 110), .ref (a 111), .ref (a 112)]) := by rw [hw35]; exact set_ne k3 (by decide)
        have k38 : w34[109]? = some (iA E (a 109) 3 f6) := by rw [hw35]; exact set_ne k5 (by decide)
        have k39 : w34[110]? = some (iA E (a 110) 8 f31) := by rw [hw35]; exact set_ne k30 (by decide)
        have k40 : w34[111]? = some (iA E (a 111) 8 (va_cpy f31 f33 0 0 8)) := by rw [hw35]; exact set_eq k32
        have kp41 := keeps_set kp0 hw35 (by first | exact rfl | decide | omega | (dsimp only; omega))
        refine x_iload C dX11_share_73 0 rfl rfl ?_
        refine x_iload C dX11_share_75 5 rfl rfl ?_
        refine x_mmax C (v := (if v27 < p3 then p3 else v27)) w_992 w_558 w_16 w_559 (Nat.le_of_ble_eq_true rfl) (Nat.le_of_ble_eq_true rfl) (Nat.le_of_ble_eq_true rfl) (Nat.le_of_ble_eq_true rfl) rfl dX11_share_77 rfl ?_
        refine x_any (fun v42 => ?_)
        exact x_zret C hr hlk rfl dX11_share_80 ⟨hW36, kp41⟩
  · skip
    have nf43 := nI_nle' (a := n0) (b := 1) c1 (by omega) (by omega)
    refine x_iload_n C dX11_share_5 rfl 1 rfl rfl ?_
    refine x_bipush C (v := 8) dX11_share_6 (by decide) rfl ?_
    refine x_icmp_lt C (tgt := 81) dX11_share_8 (by decide) rfl (fun _ => ?_) (fun h => absurd h (by decide))
    refine x_aload_n C dX11_share_81 rfl 0 rfl rfl ?_
    obtain ⟨_, k44, v45, rfl⟩ := hW 0 _ rfl
    refine x_get C (ci := 10) (k := 2) 0 k44 rfl in_X11 (by decide) w_387 rfl dX11_share_82 rfl ?_
    obtain ⟨_, k46, n47, v49, v50, v51, v52, v53, bn48, rfl⟩ := hW 5 _ rfl
    refine x_get C (ci := 8) (k := 4) 5 k46 rfl in_X9 (by decide) w_209 rfl dX11_share_85 rfl ?_
    refine x_aload_n C dX11_share_88 rfl 0 rfl rfl ?_
    refine x_get C (ci := 10) (k := 11) 0 k44 rfl in_X11 (by decide) w_396 rfl dX11_share_89 rfl ?_
    refine x_iload_n C dX11_share_92 rfl 1 rfl rfl ?_
    obtain ⟨_, k54, f55, rfl⟩ := hW 105 _ rfl
    refine x_iald C (v := (f55 (1 : Int32).toNatClampNeg)) 105 k54 (vp_k (j := 1) (by decide) (by decide) (by decide)) rfl dX11_share_93 rfl ?_
    refine x_any (fun v56 => ?_)
    obtain ⟨_, k57, n58, bn59, rfl⟩ := hW 14 _ rfl
    refine x_vi C (As := [.int v56]) (rest := []) (c_Eggs_minutesAt E l a ws hW 5 (Or.inl rfl) v56) mf_X1_minutesAt w_993 14 k57 rfl rfl rfl (Nat.le_of_ble_eq_true rfl) ⟨(Nat.le_of_ble_eq_true rfl), (Nat.le_of_ble_eq_true rfl)⟩ ⟨(Nat.le_of_ble_eq_true rfl), (Nat.le_of_ble_eq_true rfl)⟩ dX11_share_94 rfl (fun r61 w62 h60 => ?_)
    have hW63 := h60
    refine x_ws hW63 ?_
    refine x_istore C (lv' := [(5, .int r61), (0, .ref (a 0)), (1, .int 1), (2, .int (nI n0)), (3, .int m0), (4, .int p3)]) dX11_share_97 (by decide) rfl rfl ?_
    refine x_iload C dX11_share_99 5 rfl rfl ?_
    refine x_istore C (lv' := [(6, .int p3), (5, .int r61), (0, .ref (a 0)), (1, .int 1), (2, .int (nI n0)), (3, .int m0), (4, .int p3)]) dX11_share_101 (by decide) rfl rfl ?_
    refine x_iconst C (v := 0) dX11_share_103 (by decide) rfl ?_
    refine x_istore C (lv' := [(7, .int 0), (6, .int p3), (5, .int r61), (0, .ref (a 0)), (1, .int 1), (2, .int (nI n0)), (3, .int m0), (4, .int p3)]) dX11_share_104 (by decide) rfl rfl ?_
    have loop106 : ∀ (fu106 : Nat) (z106_6 : Int32) (q : Nat) (wl106 : va_W), WX (okX E a) wl106 → 3 - q < fu106 → q ≤ 3 → keeps ws wl106 (fun q => ¬ (q = 0 ∨ q = 6 ∨ q = 9 ∨ q = 28 ∨ q = 31)) → X E p l e (xRm 8 0 0) s m ([.ref (a 0), .int 1, .int (nI n0), .int m0, .int p3] : List Value).toArray below meth c A 8 0 0 (MQ below (va_Qi (fun r w => WX (okX E a) w ∧ keeps ws w (fun q => ¬ (q = 0 ∨ q = 6 ∨ q = 9 ∨ q = 28 ∨ q = 31))) (xB E A) A) ([.ref (a 0), .int 1, .int (nI n0), .int m0, .int p3] : List Value).toArray s 0 0 A) wl106 106 [(0, .ref (a 0)), (1, .int 1), (2, .int (nI n0)), (3, .int m0), (4, .int p3), (5, .int r61), (6, .int z106_6), (7, .int (nI q))] [] := by
      intro fu106
      induction fu106 with
      | zero => intro z106_6 q wl106 _ q; omega
      | succ fu106 ih106 =>
        intro z106_6 q wl106 hWl106 me106 iv106_0 kq106
        refine x_iload C dX11_share_106 7 rfl rfl ?_
        refine x_iload_n C dX11_share_108 rfl 3 rfl rfl ?_
        refine x_icmp_ge C (tgt := 169) dX11_share_109 (by decide) rfl (fun c64 => ?_) (fun c64 => ?_)
        · skip
          refine x_iload C dX11_share_169 6 rfl rfl ?_
          exact x_zret C hr hlk rfl dX11_share_171 ⟨hWl106, kq106⟩
        · skip
          refine x_iload C dX11_share_112 7 rfl rfl ?_
          refine x_iconst C (v := 3) dX11_share_114 (by decide) rfl ?_
          refine x_icmp_ge C (tgt := 169) dX11_share_115 (by decide) rfl (fun c65 => ?_) (fun c65 => ?_)
          · skip
            have nf66 := nI_le' (a := 3) (b := q) c65 (by omega) (by omega)
            refine x_iload C dX11_share_169 6 rfl rfl ?_
            exact x_zret C hr hlk rfl dX11_share_171 ⟨hWl106, kq106⟩
          · skip
            have nf67 := nI_nle' (a := 3) (b := q) c65 (by omega) (by omega)
            refine x_aload_n C dX11_share_118 rfl 0 rfl rfl ?_
            obtain ⟨_, k68, v69, rfl⟩ := hWl106 0 _ rfl
            refine x_get C (ci := 10) (k := 16) 0 k68 rfl in_X11 (by decide) w_401 rfl dX11_share_119 rfl ?_
            refine x_iload_n C dX11_share_122 rfl 1 rfl rfl ?_
            refine x_iload C dX11_share_123 7 rfl rfl ?_
            obtain ⟨_, k70, f71, rfl⟩ := hWl106 110 _ rfl
            obtain ⟨w72, hw73⟩ : ∃ w : va_W, w = List.set wl106 110 (iA E (a 110) 8 (upd f71 (1 : Int32).toNatClampNeg (nI q))) := ⟨_, rfl⟩
            refine x_iast C 110 k70 (vp_k (j := 1) (by decide) (by decide) (by decide)) hw73.symm dX11_share_125 rfl ?_
            have hW74 : WX (okX E a) w72 := by rw [hw73]; exact hWl106.set (k := 110) rfl ⟨_, rfl⟩
            have k75 : w72[0]? = some (ob (a 0) 10 [.ref (a 1), .ref (a 3), .ref (a 5), .ref (a 27), .ref (a 49), .int v69, .ref (a 71), .ref (a 79), .ref (a 87), .ref (a 92), .ref (a 103), .ref (a 105), .ref (a 106), .ref (a 107), .ref (a 108), .ref (a 109), .ref (a 110), .ref (a 111), .ref (a 112)]) := by rw [hw73]; exact set_ne k68 (by decide)
            have k76 : w72[110]? = some (iA E (a 110) 8 (upd f71 (1 : Int32).toNatClampNeg (nI q))) := by rw [hw73]; exact set_eq k70
            have kp77 := keeps_set kq106 hw73 (by first | exact rfl | decide | omega | (dsimp only; omega))
            refine x_aload_n C dX11_share_126 rfl 0 rfl rfl ?_
            refine x_get C (ci := 10) (k := 15) 0 k75 rfl in_X11 (by decide) w_400 rfl dX11_share_127 rfl ?_
            refine x_iload C dX11_share_130 7 rfl rfl ?_
            refine x_dup2 C dX11_share_132 rfl rfl rfl ?_
            obtain ⟨_, k78, f79, rfl⟩ := hW74 109 _ rfl
            refine x_iald C (v := (f79 (nI q).toNatClampNeg)) 109 k78 (vp_in_nI (by omega) (by decide)) rfl dX11_share_133 rfl ?_
            refine x_any (fun v80 => ?_)
            refine x_iload C dX11_share_134 5 rfl rfl ?_
            refine x_iadd C (v := (v80 + r61)) dX11_share_136 rfl rfl ?_
            refine x_any (fun v81 => ?_)
            obtain ⟨w82, hw83⟩ : ∃ w : va_W, w = List.set w72 109 (iA E (a 109) 3 (upd f79 (nI q).toNatClampNeg v81)) := ⟨_, rfl⟩
            refine x_iast C 109 k78 (vp_in_nI (by omega) (by decide)) hw83.symm dX11_share_137 rfl ?_
            have hW84 : WX (okX E a) w82 := by rw [hw83]; exact hW74.set (k := 109) rfl ⟨_, rfl⟩
            have k85 : w82[0]? = some (ob (a 0) 10 [.ref (a 1), .ref (a 3), .ref (a 5), .ref (a 27), .ref (a 49), .int v69, .ref (a 71), .ref (a 79), .ref (a 87), .ref (a 92), .ref (a 103), .ref (a 105), .ref (a 106), .ref (a 107), .ref (a 108), .ref (a 109), .ref (a 110), .ref (a 111), .ref (a 112)]) := by rw [hw83]; exact set_ne k75 (by decide)
            have k86 : w82[110]? = some (iA E (a 110) 8 (upd f71 (1 : Int32).toNatClampNeg (nI q))) := by rw [hw83]; exact set_ne k76 (by decide)
            have k87 : w82[109]? = some (iA E (a 109) 3 (upd f79 (nI q).toNatClampNeg v81)) := by rw [hw83]; exact set_eq k78
            have kp88 := keeps_set kp77 hw83 (by first | exact rfl | decide | omega | (dsimp only; omega))
            refine x_aload_n C dX11_share_138 rfl 0 rfl rfl ?_
            refine x_iload_n C dX11_share_139 rfl 1 rfl rfl ?_
            refine x_iconst C (v := 1) dX11_share_140 (by decide) rfl ?_
            refine x_iadd C (v := 2) dX11_share_141 (by decide) rfl ?_
            refine x_iload_n C dX11_share_142 rfl 2 rfl rfl ?_
            refine x_iload_n C dX11_share_143 rfl 3 rfl rfl ?_
            refine x_iload C dX11_share_144 6 rfl rfl ?_
            refine x_vi C (As := [.int 2, .int (nI n0), .int m0, .int z106_6]) (rest := []) (c_share2 E l a w82 hW84 n0 m0 z106_6 (by omega)) mf_X11_share w_987 0 k85 rfl rfl rfl (Nat.le_of_ble_eq_true rfl) ⟨(Nat.le_of_ble_eq_true rfl), (Nat.le_of_ble_eq_true rfl)⟩ ⟨(Nat.le_of_ble_eq_true rfl), (Nat.le_of_ble_eq_true rfl)⟩ dX11_share_146 rfl (fun r90 w91 h89 => ?_)
            obtain ⟨hW92, kq93⟩ := h89
            have k94 : w91[0]? = some (ob (a 0) 10 [.ref (a 1), .ref (a 3), .ref (a 5), .ref (a 27), .ref (a 49), .int v69, .ref (a 71), .ref (a 79), .ref (a 87), .ref (a 92), .ref (a 103), .ref (a 105), .ref (a 106), .ref (a 107), .ref (a 108), .ref (a 109), .ref (a 110), .ref (a 111), .ref (a 112)]) := keeps_at kq93 k85 (by first | decide | omega | (dsimp only; omega))
            have kp95 := keeps_tr kp88 kq93 (fun q hq => by first | omega | (dsimp only at *; omega))
            refine x_istore C (lv' := [(6, .int r90), (0, .ref (a 0)), (1, .int 1), (2, .int (nI n0)), (3, .int m0), (4, .int p3), (5, .int r61), (7, .int (nI q))]) dX11_share_149 (by decide) rfl rfl ?_
            refine x_aload_n C dX11_share_151 rfl 1 rfl rfl ?_
            refine x_get C (ci := 10) (k := 15) 0 k94 rfl in_X11 (by decide) w_400 rfl dX11_share_152 rfl ?_
            refine x_iload C dX11_share_155 7 rfl rfl ?_
            refine x_dup2 C dX11_share_157 rfl rfl rfl ?_
            obtain ⟨_, k96, f97, rfl⟩ := hW92 109 _ rfl
            refine x_iald C (v := (f97 (nI q).toNatClampNeg)) 109 k96 (vp_in_nI (by omega) (by decide)) rfl dX11_share_158 rfl ?_
            refine x_any (fun v98 => ?_)
            refine x_iload C dX11_share_159 6 rfl rfl ?_
            refine x_isub C (v := (v98 - r61)) dX11_share_161 rfl rfl ?_
            refine x_any (fun v99 => ?_)
            obtain ⟨w100, hw101⟩ : ∃ w : va_W, w = List.set w91 109 (iA E (a 109) 3 (upd f97 (nI q).toNatClampNeg v99)) := ⟨_, rfl⟩
            refine x_iast C 109 k96 (vp_in_nI (by omega) (by decide)) hw101.symm dX11_share_162 rfl ?_
            have hW102 : WX (okX E a) w100 := by rw [hw101]; exact hW92.set (k := 109) rfl ⟨_, rfl⟩
            have k103 : w100[0]? = some (ob (a 0) 10 [.ref (a 1), .ref (a 3), .ref (a 5), .ref (a 27), .ref (a 49), .int v69, .ref (a 71), .ref (a 79), .ref (a 87), .ref (a 92), .ref (a 103), .ref (a 105), .ref (a 106), .ref (a 107), .ref (a 108), .ref (a 109), .ref (a 110), .ref (a 111), .ref (a 112)]) := by rw [hw101]; exact set_ne k94 (by decide)
            have k104 : w100[109]? = some (iA E (a 109) 3 (upd f97 (nI q).toNatClampNeg v99)) := by rw [hw101]; exact set_eq k96
            have kp105 := keeps_set kp95 hw101 (by first | exact rfl | decide | omega | (dsimp only; omega))
            refine x_iinc C (v := (nI (q + 1))) (lv' := [(7, .int (nI (q + 1))), (6, .int r90), (0, .ref (a 0)), (1, .int 1), (2, .int (nI n0)), (3, .int m0), (4, .int p3), (5, .int r61)]) dX11_share_163 7 rfl (nI_add q 1) (by decide) rfl rfl ?_
            refine x_goto C (tgt := 106) dX11_share_166 (by decide) ?_
            refine x_lv (lv1 := [(0, .ref (a 0)), (1, .int 1), (2, .int (nI n0)), (3, .int m0), (4, .int p3), (5, .int r61), (6, .int r90), (7, .int (nI (q + 1)))]) [2, 3, 4, 5, 6, 7, 1, 0] rfl ?_
            exact ih106 r90 (q + 1) w100 hW102 (by omega) (by omega) kp105
    refine x_lv (lv1 := [(0, .ref (a 0)), (1, .int 1), (2, .int (nI n0)), (3, .int m0), (4, .int p3), (5, .int r61), (6, .int p3), (7, .int 0)]) [3, 4, 5, 6, 7, 2, 1, 0] rfl ?_
    exact loop106 _ p3 0 ws hW (Nat.lt_succ_self _) (by omega) kp0
set_option maxRecDepth 20000 in
set_option maxHeartbeats 4000000 in
theorem c_share0 (E : xE) (l : Launch) (a : Nat → Nat) (ws : va_W) (hW : WX (okX E a) ws) (n0 : Nat) (m0 : Int32) (p3 : Int32) (hn0 : n0 ≤ 8) : xI E l yX11_share cX11_share 8 (some .int) 9 [.ref (a 0), .int 0, .int (nI n0), .int m0, .int p3] ws (fun r w => WX (okX E a) w ∧ keeps ws w (fun q => ¬ (q = 0 ∨ q = 6 ∨ q = 9 ∨ q = 28 ∨ q = 31))) := by
  refine xI_start (lv := [(0, .ref (a 0)), (1, .int 0), (2, .int (nI n0)), (3, .int m0), (4, .int p3)]) RX11 (by decide) rfl (Nat.le_of_ble_eq_true rfl) rfl (fun p e s m below meth c A C hr hlk => ?_)
  have kp0 : keeps ws ws (fun q => ¬ (q = 0 ∨ q = 6 ∨ q = 9 ∨ q = 28 ∨ q = 31)) := keeps_rf
  refine x_iload_n C dX11_share_0 rfl 1 rfl rfl ?_
  refine x_iload_n C dX11_share_1 rfl 2 rfl rfl ?_
  refine x_icmp_ge C (tgt := 11) dX11_share_2 (by decide) rfl (fun c1 => ?_) (fun c1 => ?_)
  · skip
    have nf2 := nI_le' (a := n0) (b := 0) c1 (by omega) (by omega)
    refine x_aload_n C dX11_share_11 rfl 0 rfl rfl ?_
    obtain ⟨_, k3, v4, rfl⟩ := hW 0 _ rfl
    refine x_get C (ci := 10) (k := 15) 0 k3 rfl in_X11 (by decide) w_400 rfl dX11_share_12 rfl ?_
    refine x_iconst C (v := 0) dX11_share_15 (by decide) rfl ?_
    obtain ⟨_, k5, f6, rfl⟩ := hW 109 _ rfl
    refine x_iald C (v := (f6 (0 : Int32).toNatClampNeg)) 109 k5 (vp_k (j := 0) (by decide) (by decide) (by decide)) rfl dX11_share_16 rfl ?_
    refine x_any (fun v7 => ?_)
    refine x_aload_n C dX11_share_17 rfl 0 rfl rfl ?_
    refine x_get C (ci := 10) (k := 15) 0 k3 rfl in_X11 (by decide) w_400 rfl dX11_share_18 rfl ?_
    refine x_iconst C (v := 1) dX11_share_21 (by decide) rfl ?_
    refine x_iald C (v := (f6 (1 : Int32).toNatClampNeg)) 109 k5 (vp_k (j := 1) (by decide) (by decide) (by decide)) rfl dX11_share_22 rfl ?_
    refine x_any (fun v8 => ?_)
    refine x_mmin C (v := (if v8 < v7 then v8 else v7)) w_958 w_561 w_16 w_562 (Nat.le_of_ble_eq_true rfl) (Nat.le_of_ble_eq_true rfl) (Nat.le_of_ble_eq_true rfl) (Nat.le_of_ble_eq_true rfl) rfl dX11_share_23 rfl ?_
    refine x_any (fun v9 => ?_)
    refine x_istore C (lv' := [(5, .int v9), (0, .ref (a 0)), (1, .int 0), (2, .int (nI n0)), (3, .int m0), (4, .int p3)]) dX11_share_26 (by decide) rfl rfl ?_
    refine x_iload_n C dX11_share_28 rfl 4 rfl rfl ?_
    refine x_iconst C (v := 2) dX11_share_29 (by decide) rfl ?_
    refine x_icmp_le C (tgt := 47) dX11_share_30 (by decide) rfl (fun c10 => ?_) (fun c10 => ?_)
    · skip
      refine x_iload C dX11_share_47 0 rfl rfl ?_
      refine x_istore C (lv' := [(5, .int v9), (0, .ref (a 0)), (1, .int 0), (2, .int (nI n0)), (3, .int m0), (4, .int p3)]) dX11_share_49 (by decide) rfl rfl ?_
      refine x_iload C dX11_share_51 0 rfl rfl ?_
      refine x_iload C dX11_share_53 5 rfl rfl ?_
      refine x_icmp_le C (tgt := 73) dX11_share_55 (by decide) rfl (fun c11 => ?_) (fun c11 => ?_)
      · skip
        refine x_iload C dX11_share_73 0 rfl rfl ?_
        refine x_iload C dX11_share_75 5 rfl rfl ?_
        refine x_mmax C (v := (if v9 < p3 then p3 else v9)) w_992 w_558 w_16 w_559 (Nat.le_of_ble_eq_true rfl) (Nat.le_of_ble_eq_true rfl) (Nat.le_of_ble_eq_true rfl) (Nat.le_of_ble_eq_true rfl) rfl dX11_share_77 rfl ?_
        refine x_any (fun v12 => ?_)
        exact x_zret C hr hlk rfl dX11_share_80 ⟨hW, kp0⟩
      · skip
        refine x_aload_n C dX11_share_58 rfl 1 rfl rfl ?_
        refine x_get C (ci := 10) (k := 16) 0 k3 rfl in_X11 (by decide) w_401 rfl dX11_share_59 rfl ?_
        refine x_iconst C (v := 0) dX11_share_62 (by decide) rfl ?_
        refine x_aload_n C dX11_share_63 rfl 1 rfl rfl ?_
        refine x_get C (ci := 10) (k := 17) 0 k3 rfl in_X11 (by decide) w_402 rfl dX11_share_64 rfl ?_
        refine x_iconst C (v := 0) dX11_share_67 (by decide) rfl ?_
        refine x_bipush C (v := 8) dX11_share_68 (by decide) rfl ?_
        obtain ⟨_, k13, f14, rfl⟩ := hW 110 _ rfl
        obtain ⟨_, k15, f16, rfl⟩ := hW 111 _ rfl
        obtain ⟨w17, hw18⟩ : ∃ w : va_W, w = List.set ws 111 (iA E (a 111) 8 (va_cpy f14 f16 0 0 8)) := ⟨_, rfl⟩
        refine x_copy C 110 111 k13 k15 w_991 w_798 w_797 w_20 (by decide) (by decide) (by decide) (by decide) (by decide) (Nat.le_of_ble_eq_true rfl) (Nat.le_of_ble_eq_true rfl) hw18.symm dX11_share_70 rfl ?_
        have hW19 : WX (okX E a) w17 := by rw [hw18]; exact hW.set (k := 111) rfl ⟨_, rfl⟩
        have k20 : w17[0]? = some (ob (a 0) 10 [.ref (a 1), .ref (a 3), .ref (a 5), .ref (a 27), .ref (a 49), .int v4, .ref (a 71), .ref (a 79), .ref (a 87), .ref (a 92), .ref (a 103), .ref (a 105), .ref (a 106), .ref (a 107), .ref (a 108), .ref (a 109), .ref (a 110), .ref (a 111), .ref (a 112)]) := by rw [hw18]; exact set_ne k3 (by decide)
        have k21 : w17[109]? = some (iA E (a 109) 3 f6) := by rw [hw18]; exact set_ne k5 (by decide)
        have k22 : w17[110]? = some (iA E (a 110) 8 f14) := by rw [hw18]; exact set_ne k13 (by decide)
        have k23 : w17[111]? = some (iA E (a 111) 8 (va_cpy f14 f16 0 0 8)) := by rw [hw18]; exact set_eq k15
        have kp24 := keeps_set kp0 hw18 (by first | exact rfl | decide | omega | (dsimp only; omega))
        refine x_iload C dX11_share_73 0 rfl rfl ?_
        refine x_iload C dX11_share_75 5 rfl rfl ?_
        refine x_mmax C (v := (if v9 < p3 then p3 else v9)) w_992 w_558 w_16 w_559 (Nat.le_of_ble_eq_true rfl) (Nat.le_of_ble_eq_true rfl) (Nat.le_of_ble_eq_true rfl) (Nat.le_of_ble_eq_true rfl) rfl dX11_share_77 rfl ?_
        refine x_any (fun v25 => ?_)
        exact x_zret C hr hlk rfl dX11_share_80 ⟨hW19, kp24⟩
    · skip
      refine x_iload C dX11_share_33 0 rfl rfl ?_
      refine x_aload_n C dX11_share_35 rfl 1 rfl rfl ?_
      refine x_get C (ci := 10) (k := 15) 0 k3 rfl in_X11 (by decide) w_400 rfl dX11_share_36 rfl ?_
      refine x_iconst C (v := 2) dX11_share_39 (by decide) rfl ?_
      refine x_iald C (v := (f6 (2 : Int32).toNatClampNeg)) 109 k5 (vp_k (j := 2) (by decide) (by decide) (by decide)) rfl dX11_share_40 rfl ?_
      refine x_any (fun v26 => ?_)
      refine x_mmin C (v := (if v26 < v9 then v26 else v9)) w_958 w_561 w_16 w_562 (Nat.le_of_ble_eq_true rfl) (Nat.le_of_ble_eq_true rfl) (Nat.le_of_ble_eq_true rfl) (Nat.le_of_ble_eq_true rfl) rfl dX11_share_41 rfl ?_
      refine x_any (fun v27 => ?_)
      refine x_goto C (tgt := 49) dX11_share_44 (by decide) ?_
      refine x_istore C (lv' := [(5, .int v27), (0, .ref (a 0)), (1, .int 0), (2, .int (nI n0)), (3, .int m0), (4, .int p3)]) dX11_share_49 (by decide) rfl rfl ?_
      refine x_iload C dX11_share_51 0 rfl rfl ?_
      refine x_iload C dX11_share_53 5 rfl rfl ?_
      refine x_icmp_le C (tgt := 73) dX11_share_55 (by decide) rfl (fun c28 => ?_) (fun c28 => ?_)
      · skip
        refine x_iload C dX11_share_73 0 rfl rfl ?_
        refine x_iload C dX11_share_75 5 rfl rfl ?_
        refine x_mmax C (v := (if v27 < p3 then p3 else v27)) w_992 w_558 w_16 w_559 (Nat.le_of_ble_eq_true rfl) (Nat.le_of_ble_eq_true rfl) (Nat.le_of_ble_eq_true rfl) (Nat.le_of_ble_eq_true rfl) rfl dX11_share_77 rfl ?_
        refine x_any (fun v29 => ?_)
        exact x_zret C hr hlk rfl dX11_share_80 ⟨hW, kp0⟩
      · skip
        refine x_aload_n C dX11_share_58 rfl 1 rfl rfl ?_
        refine x_get C (ci := 10) (k := 16) 0 k3 rfl in_X11 (by decide) w_401 rfl dX11_share_59 rfl ?_
        refine x_iconst C (v := 0) dX11_share_62 (by decide) rfl ?_
        refine x_aload_n C dX11_share_63 rfl 1 rfl rfl ?_
        refine x_get C (ci := 10) (k := 17) 0 k3 rfl in_X11 (by decide) w_402 rfl dX11_share_64 rfl ?_
        refine x_iconst C (v := 0) dX11_share_67 (by decide) rfl ?_
        refine x_bipush C (v := 8) dX11_share_68 (by decide) rfl ?_
        obtain ⟨_, k30, f31, rfl⟩ := hW 110 _ rfl
        obtain ⟨_, k32, f33, rfl⟩ := hW 111 _ rfl
        obtain ⟨w34, hw35⟩ : ∃ w : va_W, w = List.set ws 111 (iA E (a 111) 8 (va_cpy f31 f33 0 0 8)) := ⟨_, rfl⟩
        refine x_copy C 110 111 k30 k32 w_991 w_798 w_797 w_20 (by decide) (by decide) (by decide) (by decide) (by decide) (Nat.le_of_ble_eq_true rfl) (Nat.le_of_ble_eq_true rfl) hw35.symm dX11_share_70 rfl ?_
        have hW36 : WX (okX E a) w34 := by rw [hw35]; exact hW.set (k := 111) rfl ⟨_, rfl⟩
        have k37 : w34[0]? = some (ob (a 0) 10 [.ref (a 1), .ref (a 3), .ref (a 5), .ref (a 27), .ref (a 49), .int v4, .ref (a 71), .ref (a 79), .ref (a 87), .ref (a 92), .ref (a 103), .ref (a 105), .ref (a 106), .ref (a 107), .ref (a 108), .ref (a 109), .ref (a 110), .ref (a 111), .ref (a 112)]) := by rw [hw35]; exact set_ne k3 (by decide)
        have k38 : w34[109]? = some (iA E (a 109) 3 f6) := by rw [hw35]; exact set_ne k5 (by decide)
        have k39 : w34[110]? = some (iA E (a 110) 8 f31) := by rw [hw35]; exact set_ne k30 (by decide)
        have k40 : w34[111]? = some (iA E (a 111) 8 (va_cpy f31 f33 0 0 8)) := by rw [hw35]; exact set_eq k32
        have kp41 := keeps_set kp0 hw35 (by first | exact rfl | decide | omega | (dsimp only; omega))
        refine x_iload C dX11_share_73 0 rfl rfl ?_
        refine x_iload C dX11_share_75 5 rfl rfl ?_
        refine x_mmax C (v := (if v27 < p3 then p3 else v27)) w_992 w_558 w_16 w_559 (Nat.le_of_ble_eq_true rfl) (Nat.le_of_ble_eq_true rfl) (Nat.le_of_ble_eq_true rfl) (Nat.le_of_ble_eq_true rfl) rfl dX11_share_77 rfl ?_
        refine x_any (fun v42 => ?_)
        exact x_zret C hr hlk rfl dX11_share_80 ⟨hW36, kp41⟩
  · skip
    have nf43 := nI_nle' (a := n0) (b := 0) c1 (by omega) (by omega)
    refine x_iload_n C dX11_share_5 rfl 1 rfl rfl ?_
    refine x_bipush C (v := 8) dX11_share_6 (by decide) rfl ?_
    refine x_icmp_lt C (tgt := 81) dX11_share_8 (by decide) rfl (fun _ => ?_) (fun h => absurd h (by decide))
    refine x_aload_n C dX11_share_81 rfl 0 rfl rfl ?_
    obtain ⟨_, k44, v45, rfl⟩ := hW 0 _ rfl
    refine x_get C (ci := 10) (k := 2) 0 k44 rfl in_X11 (by decide) w_387 rfl dX11_share_82 rfl ?_
    obtain ⟨_, k46, n47, v49, v50, v51, v52, v53, bn48, rfl⟩ := hW 5 _ rfl
    refine x_get C (ci := 8) (k := 4) 5 k46 rfl in_X9 (by decide) w_209 rfl dX11_share_85 rfl ?_
    refine x_aload_n C dX11_share_88 rfl 0 rfl rfl ?_
    refine x_get C (ci := 10) (k := 11) 0 k44 rfl in_X11 (by decide) w_396 rfl dX11_share_89 rfl ?_
    refine x_iload_n C dX11_share_92 rfl 1 rfl rfl ?_
    obtain ⟨_, k54, f55, rfl⟩ := hW 105 _ rfl
    refine x_iald C (v := (f55 (0 : Int32).toNatClampNeg)) 105 k54 (vp_k (j := 0) (by decide) (by decide) (by decide)) rfl dX11_share_93 rfl ?_
    refine x_any (fun v56 => ?_)
    obtain ⟨_, k57, n58, bn59, rfl⟩ := hW 14 _ rfl
    refine x_vi C (As := [.int v56]) (rest := []) (c_Eggs_minutesAt E l a ws hW 5 (Or.inl rfl) v56) mf_X1_minutesAt w_993 14 k57 rfl rfl rfl (Nat.le_of_ble_eq_true rfl) ⟨(Nat.le_of_ble_eq_true rfl), (Nat.le_of_ble_eq_true rfl)⟩ ⟨(Nat.le_of_ble_eq_true rfl), (Nat.le_of_ble_eq_true rfl)⟩ dX11_share_94 rfl (fun r61 w62 h60 => ?_)
    have hW63 := h60
    refine x_ws hW63 ?_
    refine x_istore C (lv' := [(5, .int r61), (0, .ref (a 0)), (1, .int 0), (2, .int (nI n0)), (3, .int m0), (4, .int p3)]) dX11_share_97 (by decide) rfl rfl ?_
    refine x_iload C dX11_share_99 5 rfl rfl ?_
    refine x_istore C (lv' := [(6, .int p3), (5, .int r61), (0, .ref (a 0)), (1, .int 0), (2, .int (nI n0)), (3, .int m0), (4, .int p3)]) dX11_share_101 (by decide) rfl rfl ?_
    refine x_iconst C (v := 0) dX11_share_103 (by decide) rfl ?_
    refine x_istore C (lv' := [(7, .int 0), (6, .int p3), (5, .int r61), (0, .ref (a 0)), (1, .int 0), (2, .int (nI n0)), (3, .int m0), (4, .int p3)]) dX11_share_104 (by decide) rfl rfl ?_
    have loop106 : ∀ (fu106 : Nat) (z106_6 : Int32) (q : Nat) (wl106 : va_W), WX (okX E a) wl106 → 3 - q < fu106 → q ≤ 3 → keeps ws wl106 (fun q => ¬ (q = 0 ∨ q = 6 ∨ q = 9 ∨ q = 28 ∨ q = 31)) → X E p l e (xRm 9 0 0) s m ([.ref (a 0), .int 0, .int (nI n0), .int m0, .int p3] : List Value).toArray below meth c A 8 0 0 (MQ below (va_Qi (fun r w => WX (okX E a) w ∧ keeps ws w (fun q => ¬ (q = 0 ∨ q = 6 ∨ q = 9 ∨ q = 28 ∨ q = 31))) (xB E A) A) ([.ref (a 0), .int 0, .int (nI n0), .int m0, .int p3] : List Value).toArray s 0 0 A) wl106 106 [(0, .ref (a 0)), (1, .int 0), (2, .int (nI n0)), (3, .int m0), (4, .int p3), (5, .int r61), (6, .int z106_6), (7, .int (nI q))] [] := by
      intro fu106
      induction fu106 with
      | zero => intro z106_6 q wl106 _ q; omega
      | succ fu106 ih106 =>
        intro z106_6 q wl106 hWl106 me106 iv106_0 kq106
        refine x_iload C dX11_share_106 7 rfl rfl ?_
        refine x_iload_n C dX11_share_108 rfl 3 rfl rfl ?_
        refine x_icmp_ge C (tgt := 169) dX11_share_109 (by decide) rfl (fun c64 => ?_) (fun c64 => ?_)
        · skip
          refine x_iload C dX11_share_169 6 rfl rfl ?_
          exact x_zret C hr hlk rfl dX11_share_171 ⟨hWl106, kq106⟩
        · skip
          refine x_iload C dX11_share_112 7 rfl rfl ?_
          refine x_iconst C (v := 3) dX11_share_114 (by decide) rfl ?_
          refine x_icmp_ge C (tgt := 169) dX11_share_115 (by decide) rfl (fun c65 => ?_) (fun c65 => ?_)
          · skip
            have nf66 := nI_le' (a := 3) (b := q) c65 (by omega) (by omega)
            refine x_iload C dX11_share_169 6 rfl rfl ?_
            exact x_zret C hr hlk rfl dX11_share_171 ⟨hWl106, kq106⟩
          · skip
            have nf67 := nI_nle' (a := 3) (b := q) c65 (by omega) (by omega)
            refine x_aload_n C dX11_share_118 rfl 0 rfl rfl ?_
            obtain ⟨_, k68, v69, rfl⟩ := hWl106 0 _ rfl
            refine x_get C (ci := 10) (k := 16) 0 k68 rfl in_X11 (by decide) w_401 rfl dX11_share_119 rfl ?_
            refine x_iload_n C dX11_share_122 rfl 1 rfl rfl ?_
            refine x_iload C dX11_share_123 7 rfl rfl ?_
            obtain ⟨_, k70, f71, rfl⟩ := hWl106 110 _ rfl
            obtain ⟨w72, hw73⟩ : ∃ w : va_W, w = List.set wl106 110 (iA E (a 110) 8 (upd f71 (0 : Int32).toNatClampNeg (nI q))) := ⟨_, rfl⟩
            refine x_iast C 110 k70 (vp_k (j := 0) (by decide) (by decide) (by decide)) hw73.symm dX11_share_125 rfl ?_
            have hW74 : WX (okX E a) w72 := by rw [hw73]; exact hWl106.set (k := 110) rfl ⟨_, rfl⟩
            have k75 : w72[0]? = some (ob (a 0) 10 [.ref (a 1), .ref (a 3), .ref (a 5), .ref (a 27), .ref (a 49), .int v69, .ref (a 71), .ref (a 79), .ref (a 87), .ref (a 92), .ref (a 103), .ref (a 105), .ref (a 106), .ref (a 107), .ref (a 108), .ref (a 109), .ref (a 110), .ref (a 111), .ref (a 112)]) := by rw [hw73]; exact set_ne k68 (by decide)
            have k76 : w72[110]? = some (iA E (a 110) 8 (upd f71 (0 : Int32).toNatClampNeg (nI q))) := by rw [hw73]; exact set_eq k70
            have kp77 := keeps_set kq106 hw73 (by first | exact rfl | decide | omega | (dsimp only; omega))
            refine x_aload_n C dX11_share_126 rfl 0 rfl rfl ?_
            refine x_get C (ci := 10) (k := 15) 0 k75 rfl in_X11 (by decide) w_400 rfl dX11_share_127 rfl ?_
            refine x_iload C dX11_share_130 7 rfl rfl ?_
            refine x_dup2 C dX11_share_132 rfl rfl rfl ?_
            obtain ⟨_, k78, f79, rfl⟩ := hW74 109 _ rfl
            refine x_iald C (v := (f79 (nI q).toNatClampNeg)) 109 k78 (vp_in_nI (by omega) (by decide)) rfl dX11_share_133 rfl ?_
            refine x_any (fun v80 => ?_)
            refine x_iload C dX11_share_134 5 rfl rfl ?_
            refine x_iadd C (v := (v80 + r61)) dX11_share_136 rfl rfl ?_
            refine x_any (fun v81 => ?_)
            obtain ⟨w82, hw83⟩ : ∃ w : va_W, w = List.set w72 109 (iA E (a 109) 3 (upd f79 (nI q).toNatClampNeg v81)) := ⟨_, rfl⟩
            refine x_iast C 109 k78 (vp_in_nI (by omega) (by decide)) hw83.symm dX11_share_137 rfl ?_
            have hW84 : WX (okX E a) w82 := by rw [hw83]; exact hW74.set (k := 109) rfl ⟨_, rfl⟩
            have k85 : w82[0]? = some (ob (a 0) 10 [.ref (a 1), .ref (a 3), .ref (a 5), .ref (a 27), .ref (a 49), .int v69, .ref (a 71), .ref (a 79), .ref (a 87), .ref (a 92), .ref (a 103), .ref (a 105), .ref (a 106), .ref (a 107), .ref (a 108), .ref (a 109), .ref (a 110), .ref (a 111), .ref (a 112)]) := by rw [hw83]; exact set_ne k75 (by decide)
            have k86 : w82[110]? = some (iA E (a 110) 8 (upd f71 (0 : Int32).toNatClampNeg (nI q))) := by rw [hw83]; exact set_ne k76 (by decide)
            have k87 : w82[109]? = some (iA E (a 109) 3 (upd f79 (nI q).toNatClampNeg v81)) := by rw [hw83]; exact set_eq k78
            have kp88 := keeps_set kp77 hw83 (by first | exact rfl | decide | omega | (dsimp only; omega))
            refine x_aload_n C dX11_share_138 rfl 0 rfl rfl ?_
            refine x_iload_n C dX11_share_139 rfl 1 rfl rfl ?_
            refine x_iconst C (v := 1) dX11_share_140 (by decide) rfl ?_
            refine x_iadd C (v := 1) dX11_share_141 (by decide) rfl ?_
            refine x_iload_n C dX11_share_142 rfl 2 rfl rfl ?_
            refine x_iload_n C dX11_share_143 rfl 3 rfl rfl ?_
            refine x_iload C dX11_share_144 6 rfl rfl ?_
            refine x_vi C (As := [.int 1, .int (nI n0), .int m0, .int z106_6]) (rest := []) (c_share1 E l a w82 hW84 n0 m0 z106_6 (by omega)) mf_X11_share w_987 0 k85 rfl rfl rfl (Nat.le_of_ble_eq_true rfl) ⟨(Nat.le_of_ble_eq_true rfl), (Nat.le_of_ble_eq_true rfl)⟩ ⟨(Nat.le_of_ble_eq_true rfl), (Nat.le_of_ble_eq_true rfl)⟩ dX11_share_146 rfl (fun r90 w91 h89 => ?_)
            obtain ⟨hW92, kq93⟩ := h89
            have k94 : w91[0]? = some (ob (a 0) 10 [.ref (a 1), .ref (a 3), .ref (a 5), .ref (a 27), .ref (a 49), .int v69, .ref (a 71), .ref (a 79), .ref (a 87), .ref (a 92), .ref (a 103), .ref (a 105), .ref (a 106), .ref (a 107), .ref (a 108), .ref (a 109), .ref (a 110), .ref (a 111), .ref (a 112)]) := keeps_at kq93 k85 (by first | decide | omega | (dsimp only; omega))
            have kp95 := keeps_tr kp88 kq93 (fun q hq => by first | omega | (dsimp only at *; omega))
            refine x_istore C (lv' := [(6, .int r90), (0, .ref (a 0)), (1, .int 0), (2, .int (nI n0)), (3, .int m0), (4, .int p3), (5, .int r61), (7, .int (nI q))]) dX11_share_149 (by decide) rfl rfl ?_
            refine x_aload_n C dX11_share_151 rfl 1 rfl rfl ?_
            refine x_get C (ci := 10) (k := 15) 0 k94 rfl in_X11 (by decide) w_400 rfl dX11_share_152 rfl ?_
            refine x_iload C dX11_share_155 7 rfl rfl ?_
            refine x_dup2 C dX11_share_157 rfl rfl rfl ?_
            obtain ⟨_, k96, f97, rfl⟩ := hW92 109 _ rfl
            refine x_iald C (v := (f97 (nI q).toNatClampNeg)) 109 k96 (vp_in_nI (by omega) (by decide)) rfl dX11_share_158 rfl ?_
            refine x_any (fun v98 => ?_)
            refine x_iload C dX11_share_159 6 rfl rfl ?_
            refine x_isub C (v := (v98 - r61)) dX11_share_161 rfl rfl ?_
            refine x_any (fun v99 => ?_)
            obtain ⟨w100, hw101⟩ : ∃ w : va_W, w = List.set w91 109 (iA E (a 109) 3 (upd f97 (nI q).toNatClampNeg v99)) := ⟨_, rfl⟩
            refine x_iast C 109 k96 (vp_in_nI (by omega) (by decide)) hw101.symm dX11_share_162 rfl ?_
            have hW102 : WX (okX E a) w100 := by rw [hw101]; exact hW92.set (k := 109) rfl ⟨_, rfl⟩
            have k103 : w100[0]? = some (ob (a 0) 10 [.ref (a 1), .ref (a 3), .ref (a 5), .ref (a 27), .ref (a 49), .int v69, .ref (a 71), .ref (a 79), .ref (a 87), .ref (a 92), .ref (a 103), .ref (a 105), .ref (a 106), .ref (a 107), .ref (a 108), .ref (a 109), .ref (a 110), .ref (a 111), .ref (a 112)]) := by rw [hw101]; exact set_ne k94 (by decide)
            have k104 : w100[109]? = some (iA E (a 109) 3 (upd f97 (nI q).toNatClampNeg v99)) := by rw [hw101]; exact set_eq k96
            have kp105 := keeps_set kp95 hw101 (by first | exact rfl | decide | omega | (dsimp only; omega))
            refine x_iinc C (v := (nI (q + 1))) (lv' := [(7, .int (nI (q + 1))), (6, .int r90), (0, .ref (a 0)), (1, .int 0), (2, .int (nI n0)), (3, .int m0), (4, .int p3), (5, .int r61)]) dX11_share_163 7 rfl (nI_add q 1) (by decide) rfl rfl ?_
            refine x_goto C (tgt := 106) dX11_share_166 (by decide) ?_
            refine x_lv (lv1 := [(0, .ref (a 0)), (1, .int 0), (2, .int (nI n0)), (3, .int m0), (4, .int p3), (5, .int r61), (6, .int r90), (7, .int (nI (q + 1)))]) [2, 3, 4, 5, 6, 7, 1, 0] rfl ?_
            exact ih106 r90 (q + 1) w100 hW102 (by omega) (by omega) kp105
    refine x_lv (lv1 := [(0, .ref (a 0)), (1, .int 0), (2, .int (nI n0)), (3, .int m0), (4, .int p3), (5, .int r61), (6, .int p3), (7, .int 0)]) [3, 4, 5, 6, 7, 2, 1, 0] rfl ?_
    exact loop106 _ p3 0 ws hW (Nat.lt_succ_self _) (by omega) kp0
theorem dX11_rations_0 : decode cX11_rations 0 = .ok (.aload_n 0, 1) := by decide +kernel
theorem dX11_rations_1 : decode cX11_rations 1 = .ok (.getfield 10, 3) := by decide +kernel
theorem dX11_rations_4 : decode cX11_rations 4 = .ok (.iload_n 1, 1) := by decide +kernel
theorem dX11_rations_5 : decode cX11_rations 5 = .ok (.iconst 1, 1) := by decide +kernel
theorem dX11_rations_6 : decode cX11_rations 6 = .ok (.bipush 8, 2) := by decide +kernel
theorem dX11_rations_8 : decode cX11_rations 8 = .ok (.iconst 1, 1) := by decide +kernel
theorem dX11_rations_9 : decode cX11_rations 9 = .ok (.invokevirtual 149, 3) := by decide +kernel
theorem dX11_rations_12 : decode cX11_rations 12 = .ok (.ifCond .eq 12, 3) := by decide +kernel
theorem dX11_rations_15 : decode cX11_rations 15 = .ok (.iload_n 2, 1) := by decide +kernel
theorem dX11_rations_16 : decode cX11_rations 16 = .ok (.iconst 2, 1) := by decide +kernel
theorem dX11_rations_17 : decode cX11_rations 17 = .ok (.iconst 3, 1) := by decide +kernel
theorem dX11_rations_18 : decode cX11_rations 18 = .ok (.invokestatic 102, 3) := by decide +kernel
theorem dX11_rations_21 : decode cX11_rations 21 = .ok (.ifCond .ne 5, 3) := by decide +kernel
theorem dX11_rations_24 : decode cX11_rations 24 = .ok (.iconst (-1), 1) := by decide +kernel
theorem dX11_rations_25 : decode cX11_rations 25 = .ok (.ireturn, 1) := by decide +kernel
theorem dX11_rations_26 : decode cX11_rations 26 = .ok (.aload_n 0, 1) := by decide +kernel
theorem dX11_rations_27 : decode cX11_rations 27 = .ok (.iload_n 1, 1) := by decide +kernel
theorem dX11_rations_28 : decode cX11_rations 28 = .ok (.iconst 0, 1) := by decide +kernel
theorem dX11_rations_29 : decode cX11_rations 29 = .ok (.invokevirtual 317, 3) := by decide +kernel
theorem dX11_rations_32 : decode cX11_rations 32 = .ok (.istore 4, 2) := by decide +kernel
theorem dX11_rations_34 : decode cX11_rations 34 = .ok (.aload_n 0, 1) := by decide +kernel
theorem dX11_rations_35 : decode cX11_rations 35 = .ok (.getfield 10, 3) := by decide +kernel
theorem dX11_rations_38 : decode cX11_rations 38 = .ok (.iconst 0, 1) := by decide +kernel
theorem dX11_rations_39 : decode cX11_rations 39 = .ok (.putfield 142, 3) := by decide +kernel
theorem dX11_rations_42 : decode cX11_rations 42 = .ok (.iload 4, 2) := by decide +kernel
theorem dX11_rations_44 : decode cX11_rations 44 = .ok (.ifCond .ne 6, 3) := by decide +kernel
theorem dX11_rations_47 : decode cX11_rations 47 = .ok (.bipush (-2), 2) := by decide +kernel
theorem dX11_rations_49 : decode cX11_rations 49 = .ok (.ireturn, 1) := by decide +kernel
theorem dX11_rations_50 : decode cX11_rations 50 = .ok (.iload_n 3, 1) := by decide +kernel
theorem dX11_rations_51 : decode cX11_rations 51 = .ok (.bipush 10, 2) := by decide +kernel
theorem dX11_rations_53 : decode cX11_rations 53 = .ok (.if_icmp .eq 17, 3) := by decide +kernel
theorem dX11_rations_56 : decode cX11_rations 56 = .ok (.iload_n 3, 1) := by decide +kernel
theorem dX11_rations_57 : decode cX11_rations 57 = .ok (.iconst 0, 1) := by decide +kernel
theorem dX11_rations_58 : decode cX11_rations 58 = .ok (.iload_n 1, 1) := by decide +kernel
theorem dX11_rations_59 : decode cX11_rations 59 = .ok (.iconst 1, 1) := by decide +kernel
theorem dX11_rations_60 : decode cX11_rations 60 = .ok (.isub, 1) := by decide +kernel
theorem dX11_rations_61 : decode cX11_rations 61 = .ok (.invokestatic 102, 3) := by decide +kernel
theorem dX11_rations_64 : decode cX11_rations 64 = .ok (.ifCond .ne 6, 3) := by decide +kernel
theorem dX11_rations_67 : decode cX11_rations 67 = .ok (.bipush (-3), 2) := by decide +kernel
theorem dX11_rations_69 : decode cX11_rations 69 = .ok (.ireturn, 1) := by decide +kernel
theorem dX11_rations_70 : decode cX11_rations 70 = .ok (.iconst 0, 1) := by decide +kernel
theorem dX11_rations_71 : decode cX11_rations 71 = .ok (.istore 5, 2) := by decide +kernel
theorem dX11_rations_73 : decode cX11_rations 73 = .ok (.iload 5, 2) := by decide +kernel
theorem dX11_rations_75 : decode cX11_rations 75 = .ok (.iconst 3, 1) := by decide +kernel
theorem dX11_rations_76 : decode cX11_rations 76 = .ok (.if_icmp .ge 17, 3) := by decide +kernel
theorem dX11_rations_79 : decode cX11_rations 79 = .ok (.aload_n 0, 1) := by decide +kernel
theorem dX11_rations_80 : decode cX11_rations 80 = .ok (.getfield 80, 3) := by decide +kernel
theorem dX11_rations_83 : decode cX11_rations 83 = .ok (.iload 5, 2) := by decide +kernel
theorem dX11_rations_85 : decode cX11_rations 85 = .ok (.iconst 0, 1) := by decide +kernel
theorem dX11_rations_86 : decode cX11_rations 86 = .ok (.iastore, 1) := by decide +kernel
theorem dX11_rations_87 : decode cX11_rations 87 = .ok (.iinc 5 1, 3) := by decide +kernel
theorem dX11_rations_90 : decode cX11_rations 90 = .ok (.goto (-17), 3) := by decide +kernel
theorem dX11_rations_93 : decode cX11_rations 93 = .ok (.aload_n 0, 1) := by decide +kernel
theorem dX11_rations_94 : decode cX11_rations 94 = .ok (.iconst 0, 1) := by decide +kernel
theorem dX11_rations_95 : decode cX11_rations 95 = .ok (.iload_n 1, 1) := by decide +kernel
theorem dX11_rations_96 : decode cX11_rations 96 = .ok (.iload_n 2, 1) := by decide +kernel
theorem dX11_rations_97 : decode cX11_rations 97 = .ok (.iconst (-1), 1) := by decide +kernel
theorem dX11_rations_98 : decode cX11_rations 98 = .ok (.invokevirtual 320, 3) := by decide +kernel
theorem dX11_rations_101 : decode cX11_rations 101 = .ok (.istore 5, 2) := by decide +kernel
theorem dX11_rations_103 : decode cX11_rations 103 = .ok (.iload_n 3, 1) := by decide +kernel
theorem dX11_rations_104 : decode cX11_rations 104 = .ok (.bipush 10, 2) := by decide +kernel
theorem dX11_rations_106 : decode cX11_rations 106 = .ok (.if_icmp .ne 8, 3) := by decide +kernel
theorem dX11_rations_109 : decode cX11_rations 109 = .ok (.iload 5, 2) := by decide +kernel
theorem dX11_rations_111 : decode cX11_rations 111 = .ok (.goto 9, 3) := by decide +kernel
theorem dX11_rations_114 : decode cX11_rations 114 = .ok (.aload_n 0, 1) := by decide +kernel
theorem dX11_rations_115 : decode cX11_rations 115 = .ok (.getfield 86, 3) := by decide +kernel
theorem dX11_rations_118 : decode cX11_rations 118 = .ok (.iload_n 3, 1) := by decide +kernel
theorem dX11_rations_119 : decode cX11_rations 119 = .ok (.iaload, 1) := by decide +kernel
theorem dX11_rations_120 : decode cX11_rations 120 = .ok (.ireturn, 1) := by decide +kernel
set_option maxRecDepth 20000 in
set_option maxHeartbeats 4000000 in
theorem c_rations (E : xE) (l : Launch) (a : Nat → Nat) (ws : va_W) (hW : WX (okX E a) ws) (p0 : Int32) (p1 : Int32) (p2 : Int32) : xI E l yX11_rations cX11_rations 6 (some .int) 12 [.ref (a 0), .int p0, .int p1, .int p2] ws (fun r w => WX (okX E a) w ∧ keeps ws w (fun q => ¬ (q = 0 ∨ q = 6 ∨ q = 9 ∨ q = 28 ∨ q = 31))) := by
  refine xI_start (lv := [(0, .ref (a 0)), (1, .int p0), (2, .int p1), (3, .int p2)]) RX11 (by decide) rfl (Nat.le_of_ble_eq_true rfl) rfl (fun p e s m below meth c A C hr hlk => ?_)
  have kp0 : keeps ws ws (fun q => ¬ (q = 0 ∨ q = 6 ∨ q = 9 ∨ q = 28 ∨ q = 31)) := keeps_rf
  refine x_aload_n C dX11_rations_0 rfl 0 rfl rfl ?_
  obtain ⟨_, k1, v2, rfl⟩ := hW 0 _ rfl
  refine x_get C (ci := 10) (k := 0) 0 k1 rfl in_X11 (by decide) w_385 rfl dX11_rations_1 rfl ?_
  refine x_iload_n C dX11_rations_4 rfl 1 rfl rfl ?_
  refine x_iconst C (v := 1) dX11_rations_5 (by decide) rfl ?_
  refine x_bipush C (v := 8) dX11_rations_6 (by decide) rfl ?_
  refine x_iconst C (v := 1) dX11_rations_8 (by decide) rfl ?_
  obtain ⟨_, k3, n4, v6, v7, v8, bn5, rfl⟩ := hW 1 _ rfl
  refine x_vi C (As := [.int p0, .int 1, .int 8, .int 1]) (rest := []) (c_holds E l a ws hW p0 (1 : Int32) (8 : Int32) (1 : Int32)) mf_X8_holds w_507 1 k3 rfl rfl rfl (Nat.le_of_ble_eq_true rfl) ⟨(Nat.le_of_ble_eq_true rfl), (Nat.le_of_ble_eq_true rfl)⟩ ⟨(Nat.le_of_ble_eq_true rfl), (Nat.le_of_ble_eq_true rfl)⟩ dX11_rations_9 rfl (fun r10 w11 h9 => ?_)
  obtain ⟨hW12, zb13, x14⟩ := h9
  refine x_ws hW12 ?_
  refine x_if_eq C (tgt := 24) dX11_rations_12 (by decide) rfl (fun c15 => ?_) (fun c15 => ?_)
  · skip
    refine x_iconst C (v := (-1)) dX11_rations_24 (by decide) rfl ?_
    exact x_zret C hr hlk rfl dX11_rations_25 ⟨hW, kp0⟩
  · skip
    obtain ⟨j16, hl17, hh18, ej19⟩ := w_nat (a := 1) (b := 8) (by decide) (by decide) (x14 c15)
    subst ej19
    refine x_iload_n C dX11_rations_15 rfl 2 rfl rfl ?_
    refine x_iconst C (v := 2) dX11_rations_16 (by decide) rfl ?_
    refine x_iconst C (v := 3) dX11_rations_17 (by decide) rfl ?_
    refine x_si C (As := [.int p1, .int 2, .int 3]) (rest := []) (c_isWithin E l a ws hW p1 (2 : Int32) (3 : Int32)) mf_X11_isWithin w_462 rfl rfl (Nat.le_of_ble_eq_true rfl) ⟨(Nat.le_of_ble_eq_true rfl), (Nat.le_of_ble_eq_true rfl)⟩ ⟨(Nat.le_of_ble_eq_true rfl), (Nat.le_of_ble_eq_true rfl)⟩ dX11_rations_18 rfl (fun r21 w22 h20 => ?_)
    obtain ⟨hW23, zb24, x25⟩ := h20
    refine x_ws hW23 ?_
    refine x_if_ne C (tgt := 26) dX11_rations_21 (by decide) rfl (fun c26 => ?_) (fun c26 => ?_)
    · skip
      obtain ⟨j27, hl28, hh29, ej30⟩ := w_nat (a := 2) (b := 3) (by decide) (by decide) (x25 c26)
      subst ej30
      refine x_aload_n C dX11_rations_26 rfl 0 rfl rfl ?_
      refine x_iload_n C dX11_rations_27 rfl 1 rfl rfl ?_
      refine x_iconst C (v := 0) dX11_rations_28 (by decide) rfl ?_
      refine x_vi C (As := [.int (nI j16), .int 0]) (rest := []) (c_tellEggs E l a ws hW ((nI j16)) (0 : Int32)) mf_X11_tellEggs w_979 0 k1 rfl rfl rfl (Nat.le_of_ble_eq_true rfl) ⟨(Nat.le_of_ble_eq_true rfl), (Nat.le_of_ble_eq_true rfl)⟩ ⟨(Nat.le_of_ble_eq_true rfl), (Nat.le_of_ble_eq_true rfl)⟩ dX11_rations_29 rfl (fun r32 w33 h31 => ?_)
      obtain ⟨hW34, kq35, zb36⟩ := h31
      have k37 : w33[0]? = some (ob (a 0) 10 [.ref (a 1), .ref (a 3), .ref (a 5), .ref (a 27), .ref (a 49), .int v2, .ref (a 71), .ref (a 79), .ref (a 87), .ref (a 92), .ref (a 103), .ref (a 105), .ref (a 106), .ref (a 107), .ref (a 108), .ref (a 109), .ref (a 110), .ref (a 111), .ref (a 112)]) := keeps_at kq35 k1 (by first | decide | omega | (dsimp only; omega))
      have k38 : w33[1]? = some (ob (a 1) 7 [.ref (a 2), .int (nI n4), .int v6, .int v7, .int v8]) := keeps_at kq35 k3 (by first | decide | omega | (dsimp only; omega))
      have kp39 := keeps_tr kp0 kq35 (fun q hq => by first | omega | (dsimp only at *; omega))
      refine x_istore C (lv' := [(4, .int r32), (0, .ref (a 0)), (1, .int (nI j16)), (2, .int (nI j27)), (3, .int p2)]) dX11_rations_32 (by decide) rfl rfl ?_
      refine x_aload_n C dX11_rations_34 rfl 1 rfl rfl ?_
      refine x_get C (ci := 10) (k := 0) 0 k37 rfl in_X11 (by decide) w_385 rfl dX11_rations_35 rfl ?_
      refine x_iconst C (v := 0) dX11_rations_38 (by decide) rfl ?_
      obtain ⟨w40, hw41⟩ : ∃ w : va_W, w = List.set w33 1 (ob (a 1) 7 [.ref (a 2), .int 0, .int v6, .int v7, .int v8]) := ⟨_, rfl⟩
      refine x_put C (ci := 7) (k := 1) (ty := .int) 1 k38 rfl in_X8 tyX8 tyX8_ok nmX8 (by decide) w_38 rfl rfl rfl rfl (Nat.le_of_ble_eq_true rfl) hw41.symm dX11_rations_39 rfl ?_
      have hW42 : WX (okX E a) w40 := by rw [hw41]; exact hW34.set (k := 1) rfl ⟨0, v6, v7, v8, by omega, rfl⟩
      have k43 : w40[0]? = some (ob (a 0) 10 [.ref (a 1), .ref (a 3), .ref (a 5), .ref (a 27), .ref (a 49), .int v2, .ref (a 71), .ref (a 79), .ref (a 87), .ref (a 92), .ref (a 103), .ref (a 105), .ref (a 106), .ref (a 107), .ref (a 108), .ref (a 109), .ref (a 110), .ref (a 111), .ref (a 112)]) := by rw [hw41]; exact set_ne k37 (by decide)
      have k44 : w40[1]? = some (ob (a 1) 7 [.ref (a 2), .int 0, .int v6, .int v7, .int v8]) := by rw [hw41]; exact set_eq k38
      have kp45 := keeps_set kp39 hw41 (by first | exact rfl | decide | omega | (dsimp only; omega))
      refine x_iload C dX11_rations_42 0 rfl rfl ?_
      refine x_if_ne C (tgt := 50) dX11_rations_44 (by decide) rfl (fun c46 => ?_) (fun c46 => ?_)
      · skip
        refine x_iload_n C dX11_rations_50 rfl 4 rfl rfl ?_
        refine x_bipush C (v := 10) dX11_rations_51 (by decide) rfl ?_
        refine x_icmp_eq C (tgt := 70) dX11_rations_53 (by decide) rfl (fun c47 => ?_) (fun c47 => ?_)
        · skip
          refine x_iconst C (v := 0) dX11_rations_70 (by decide) rfl ?_
          refine x_istore C (lv' := [(5, .int 0), (4, .int r32), (0, .ref (a 0)), (1, .int (nI j16)), (2, .int (nI j27)), (3, .int p2)]) dX11_rations_71 (by decide) rfl rfl ?_
          have loop73 : ∀ (fu73 : Nat) (q : Nat) (wl73 : va_W), WX (okX E a) wl73 → 3 - q < fu73 → q ≤ 3 → keeps ws wl73 (fun q => ¬ (q = 0 ∨ q = 6 ∨ q = 9 ∨ q = 28 ∨ q = 31)) → X E p l e (xRm 12 0 0) s m ([.ref (a 0), .int (nI j16), .int (nI j27), .int p2] : List Value).toArray below meth c A 6 0 0 (MQ below (va_Qi (fun r w => WX (okX E a) w ∧ keeps ws w (fun q => ¬ (q = 0 ∨ q = 6 ∨ q = 9 ∨ q = 28 ∨ q = 31))) (xB E A) A) ([.ref (a 0), .int (nI j16), .int (nI j27), .int p2] : List Value).toArray s 0 0 A) wl73 73 [(0, .ref (a 0)), (1, .int (nI j16)), (2, .int (nI j27)), (3, .int p2), (4, .int r32), (5, .int (nI q))] [] := by
            intro fu73
            induction fu73 with
            | zero => intro q wl73 _ q; omega
            | succ fu73 ih73 =>
              intro q wl73 hWl73 me73 iv73_0 kq73
              refine x_iload C dX11_rations_73 5 rfl rfl ?_
              refine x_iconst C (v := 3) dX11_rations_75 (by decide) rfl ?_
              refine x_icmp_ge C (tgt := 93) dX11_rations_76 (by decide) rfl (fun c48 => ?_) (fun c48 => ?_)
              · skip
                have nf49 := nI_le' (a := 3) (b := q) c48 (by omega) (by omega)
                refine x_aload_n C dX11_rations_93 rfl 0 rfl rfl ?_
                refine x_iconst C (v := 0) dX11_rations_94 (by decide) rfl ?_
                refine x_iload_n C dX11_rations_95 rfl 1 rfl rfl ?_
                refine x_iload_n C dX11_rations_96 rfl 2 rfl rfl ?_
                refine x_iconst C (v := (-1)) dX11_rations_97 (by decide) rfl ?_
                obtain ⟨_, k50, v51, rfl⟩ := hWl73 0 _ rfl
                refine x_vi C (As := [.int 0, .int (nI j16), .int (nI j27), .int (-1)]) (rest := []) (c_share0 E l a wl73 hWl73 j16 ((nI j27)) ((-1) : Int32) (by omega)) mf_X11_share w_987 0 k50 rfl rfl rfl (Nat.le_of_ble_eq_true rfl) ⟨(Nat.le_of_ble_eq_true rfl), (Nat.le_of_ble_eq_true rfl)⟩ ⟨(Nat.le_of_ble_eq_true rfl), (Nat.le_of_ble_eq_true rfl)⟩ dX11_rations_98 rfl (fun r53 w54 h52 => ?_)
                obtain ⟨hW55, kq56⟩ := h52
                have k57 : w54[0]? = some (ob (a 0) 10 [.ref (a 1), .ref (a 3), .ref (a 5), .ref (a 27), .ref (a 49), .int v51, .ref (a 71), .ref (a 79), .ref (a 87), .ref (a 92), .ref (a 103), .ref (a 105), .ref (a 106), .ref (a 107), .ref (a 108), .ref (a 109), .ref (a 110), .ref (a 111), .ref (a 112)]) := keeps_at kq56 k50 (by first | decide | omega | (dsimp only; omega))
                have kp58 := keeps_tr kq73 kq56 (fun q hq => by first | omega | (dsimp only at *; omega))
                refine x_istore C (lv' := [(5, .int r53), (0, .ref (a 0)), (1, .int (nI j16)), (2, .int (nI j27)), (3, .int p2), (4, .int r32)]) dX11_rations_101 (by decide) rfl rfl ?_
                refine x_iload_n C dX11_rations_103 rfl 4 rfl rfl ?_
                refine x_bipush C (v := 10) dX11_rations_104 (by decide) rfl ?_
                refine x_icmp_ne C (tgt := 114) dX11_rations_106 (by decide) rfl (fun h => absurd c47 h) (fun _ => ?_)
                refine x_iload C dX11_rations_109 0 rfl rfl ?_
                refine x_goto C (tgt := 120) dX11_rations_111 (by decide) ?_
                exact x_zret C hr hlk rfl dX11_rations_120 ⟨hW55, kp58⟩
              · skip
                have nf59 := nI_nle' (a := 3) (b := q) c48 (by omega) (by omega)
                refine x_aload_n C dX11_rations_79 rfl 0 rfl rfl ?_
                obtain ⟨_, k60, v61, rfl⟩ := hWl73 0 _ rfl
                refine x_get C (ci := 10) (k := 15) 0 k60 rfl in_X11 (by decide) w_400 rfl dX11_rations_80 rfl ?_
                refine x_iload C dX11_rations_83 5 rfl rfl ?_
                refine x_iconst C (v := 0) dX11_rations_85 (by decide) rfl ?_
                obtain ⟨_, k62, f63, rfl⟩ := hWl73 109 _ rfl
                obtain ⟨w64, hw65⟩ : ∃ w : va_W, w = List.set wl73 109 (iA E (a 109) 3 (upd f63 (nI q).toNatClampNeg 0)) := ⟨_, rfl⟩
                refine x_iast C 109 k62 (vp_in_nI (by omega) (by decide)) hw65.symm dX11_rations_86 rfl ?_
                have hW66 : WX (okX E a) w64 := by rw [hw65]; exact hWl73.set (k := 109) rfl ⟨_, rfl⟩
                have k67 : w64[0]? = some (ob (a 0) 10 [.ref (a 1), .ref (a 3), .ref (a 5), .ref (a 27), .ref (a 49), .int v61, .ref (a 71), .ref (a 79), .ref (a 87), .ref (a 92), .ref (a 103), .ref (a 105), .ref (a 106), .ref (a 107), .ref (a 108), .ref (a 109), .ref (a 110), .ref (a 111), .ref (a 112)]) := by rw [hw65]; exact set_ne k60 (by decide)
                have k68 : w64[109]? = some (iA E (a 109) 3 (upd f63 (nI q).toNatClampNeg 0)) := by rw [hw65]; exact set_eq k62
                have kp69 := keeps_set kq73 hw65 (by first | exact rfl | decide | omega | (dsimp only; omega))
                refine x_iinc C (v := (nI (q + 1))) (lv' := [(5, .int (nI (q + 1))), (0, .ref (a 0)), (1, .int (nI j16)), (2, .int (nI j27)), (3, .int p2), (4, .int r32)]) dX11_rations_87 5 rfl (nI_add q 1) (by decide) rfl rfl ?_
                refine x_goto C (tgt := 73) dX11_rations_90 (by decide) ?_
                refine x_lv (lv1 := [(0, .ref (a 0)), (1, .int (nI j16)), (2, .int (nI j27)), (3, .int p2), (4, .int r32), (5, .int (nI (q + 1)))]) [1, 2, 3, 4, 5, 0] rfl ?_
                exact ih73 (q + 1) w64 hW66 (by omega) (by omega) kp69
          refine x_lv (lv1 := [(0, .ref (a 0)), (1, .int (nI j16)), (2, .int (nI j27)), (3, .int p2), (4, .int r32), (5, .int 0)]) [2, 3, 4, 5, 1, 0] rfl ?_
          exact loop73 _ 0 w40 hW42 (Nat.lt_succ_self _) (by omega) kp45
        · skip
          refine x_iload_n C dX11_rations_56 rfl 4 rfl rfl ?_
          refine x_iconst C (v := 0) dX11_rations_57 (by decide) rfl ?_
          refine x_iload_n C dX11_rations_58 rfl 2 rfl rfl ?_
          refine x_iconst C (v := 1) dX11_rations_59 (by decide) rfl ?_
          refine x_isub C (v := (nI (j16 - 1))) dX11_rations_60 (pk_sub (a := j16) (b := 1) (by omega)) rfl ?_
          refine x_si C (As := [.int p2, .int 0, .int (nI (j16 - 1))]) (rest := []) (c_isWithin E l a w40 hW42 p2 (0 : Int32) ((nI (j16 - 1)))) mf_X11_isWithin w_462 rfl rfl (Nat.le_of_ble_eq_true rfl) ⟨(Nat.le_of_ble_eq_true rfl), (Nat.le_of_ble_eq_true rfl)⟩ ⟨(Nat.le_of_ble_eq_true rfl), (Nat.le_of_ble_eq_true rfl)⟩ dX11_rations_61 rfl (fun r71 w72 h70 => ?_)
          obtain ⟨hW73, zb74, x75⟩ := h70
          refine x_ws hW73 ?_
          refine x_if_ne C (tgt := 70) dX11_rations_64 (by decide) rfl (fun c76 => ?_) (fun c76 => ?_)
          · skip
            obtain ⟨j77, hl78, hh79, ej80⟩ := w_nat (a := 0) (b := (j16 - 1)) (by decide) (nI_toInt (by omega)) (x75 c76)
            subst ej80
            refine x_iconst C (v := 0) dX11_rations_70 (by decide) rfl ?_
            refine x_istore C (lv' := [(5, .int 0), (4, .int r32), (0, .ref (a 0)), (1, .int (nI j16)), (2, .int (nI j27)), (3, .int (nI j77))]) dX11_rations_71 (by decide) rfl rfl ?_
            have loop73 : ∀ (fu73 : Nat) (q : Nat) (wl73 : va_W), WX (okX E a) wl73 → 3 - q < fu73 → q ≤ 3 → keeps ws wl73 (fun q => ¬ (q = 0 ∨ q = 6 ∨ q = 9 ∨ q = 28 ∨ q = 31)) → X E p l e (xRm 12 0 0) s m ([.ref (a 0), .int (nI j16), .int (nI j27), .int (nI j77)] : List Value).toArray below meth c A 6 0 0 (MQ below (va_Qi (fun r w => WX (okX E a) w ∧ keeps ws w (fun q => ¬ (q = 0 ∨ q = 6 ∨ q = 9 ∨ q = 28 ∨ q = 31))) (xB E A) A) ([.ref (a 0), .int (nI j16), .int (nI j27), .int (nI j77)] : List Value).toArray s 0 0 A) wl73 73 [(0, .ref (a 0)), (1, .int (nI j16)), (2, .int (nI j27)), (3, .int (nI j77)), (4, .int r32), (5, .int (nI q))] [] := by
              intro fu73
              induction fu73 with
              | zero => intro q wl73 _ q; omega
              | succ fu73 ih73 =>
                intro q wl73 hWl73 me73 iv73_0 kq73
                refine x_iload C dX11_rations_73 5 rfl rfl ?_
                refine x_iconst C (v := 3) dX11_rations_75 (by decide) rfl ?_
                refine x_icmp_ge C (tgt := 93) dX11_rations_76 (by decide) rfl (fun c81 => ?_) (fun c81 => ?_)
                · skip
                  have nf82 := nI_le' (a := 3) (b := q) c81 (by omega) (by omega)
                  refine x_aload_n C dX11_rations_93 rfl 0 rfl rfl ?_
                  refine x_iconst C (v := 0) dX11_rations_94 (by decide) rfl ?_
                  refine x_iload_n C dX11_rations_95 rfl 1 rfl rfl ?_
                  refine x_iload_n C dX11_rations_96 rfl 2 rfl rfl ?_
                  refine x_iconst C (v := (-1)) dX11_rations_97 (by decide) rfl ?_
                  obtain ⟨_, k83, v84, rfl⟩ := hWl73 0 _ rfl
                  refine x_vi C (As := [.int 0, .int (nI j16), .int (nI j27), .int (-1)]) (rest := []) (c_share0 E l a wl73 hWl73 j16 ((nI j27)) ((-1) : Int32) (by omega)) mf_X11_share w_987 0 k83 rfl rfl rfl (Nat.le_of_ble_eq_true rfl) ⟨(Nat.le_of_ble_eq_true rfl), (Nat.le_of_ble_eq_true rfl)⟩ ⟨(Nat.le_of_ble_eq_true rfl), (Nat.le_of_ble_eq_true rfl)⟩ dX11_rations_98 rfl (fun r86 w87 h85 => ?_)
                  obtain ⟨hW88, kq89⟩ := h85
                  have k90 : w87[0]? = some (ob (a 0) 10 [.ref (a 1), .ref (a 3), .ref (a 5), .ref (a 27), .ref (a 49), .int v84, .ref (a 71), .ref (a 79), .ref (a 87), .ref (a 92), .ref (a 103), .ref (a 105), .ref (a 106), .ref (a 107), .ref (a 108), .ref (a 109), .ref (a 110), .ref (a 111), .ref (a 112)]) := keeps_at kq89 k83 (by first | decide | omega | (dsimp only; omega))
                  have kp91 := keeps_tr kq73 kq89 (fun q hq => by first | omega | (dsimp only at *; omega))
                  refine x_istore C (lv' := [(5, .int r86), (0, .ref (a 0)), (1, .int (nI j16)), (2, .int (nI j27)), (3, .int (nI j77)), (4, .int r32)]) dX11_rations_101 (by decide) rfl rfl ?_
                  refine x_iload_n C dX11_rations_103 rfl 4 rfl rfl ?_
                  refine x_bipush C (v := 10) dX11_rations_104 (by decide) rfl ?_
                  refine x_icmp_ne C (tgt := 114) dX11_rations_106 (by decide) rfl (fun c92 => ?_) (fun c92 => ?_)
                  · skip
                    have nf93 : ¬ j77 = 10 := fun q => c92 (congrArg nI q)
                    refine x_aload_n C dX11_rations_114 rfl 1 rfl rfl ?_
                    refine x_get C (ci := 10) (k := 17) 0 k90 rfl in_X11 (by decide) w_402 rfl dX11_rations_115 rfl ?_
                    refine x_iload_n C dX11_rations_118 rfl 4 rfl rfl ?_
                    obtain ⟨_, k94, f95, rfl⟩ := hW88 111 _ rfl
                    refine x_iald C (v := (f95 (nI j77).toNatClampNeg)) 111 k94 (vp_in_nI (by omega) (by decide)) rfl dX11_rations_119 rfl ?_
                    refine x_any (fun v96 => ?_)
                    exact x_zret C hr hlk rfl dX11_rations_120 ⟨hW88, kp91⟩
                  · skip
                    have nf97 : j77 = 10 := (nI_eq (by omega) (by omega)).mp c92
                    refine x_iload C dX11_rations_109 0 rfl rfl ?_
                    refine x_goto C (tgt := 120) dX11_rations_111 (by decide) ?_
                    exact x_zret C hr hlk rfl dX11_rations_120 ⟨hW88, kp91⟩
                · skip
                  have nf98 := nI_nle' (a := 3) (b := q) c81 (by omega) (by omega)
                  refine x_aload_n C dX11_rations_79 rfl 0 rfl rfl ?_
                  obtain ⟨_, k99, v100, rfl⟩ := hWl73 0 _ rfl
                  refine x_get C (ci := 10) (k := 15) 0 k99 rfl in_X11 (by decide) w_400 rfl dX11_rations_80 rfl ?_
                  refine x_iload C dX11_rations_83 5 rfl rfl ?_
                  refine x_iconst C (v := 0) dX11_rations_85 (by decide) rfl ?_
                  obtain ⟨_, k101, f102, rfl⟩ := hWl73 109 _ rfl
                  obtain ⟨w103, hw104⟩ : ∃ w : va_W, w = List.set wl73 109 (iA E (a 109) 3 (upd f102 (nI q).toNatClampNeg 0)) := ⟨_, rfl⟩
                  refine x_iast C 109 k101 (vp_in_nI (by omega) (by decide)) hw104.symm dX11_rations_86 rfl ?_
                  have hW105 : WX (okX E a) w103 := by rw [hw104]; exact hWl73.set (k := 109) rfl ⟨_, rfl⟩
                  have k106 : w103[0]? = some (ob (a 0) 10 [.ref (a 1), .ref (a 3), .ref (a 5), .ref (a 27), .ref (a 49), .int v100, .ref (a 71), .ref (a 79), .ref (a 87), .ref (a 92), .ref (a 103), .ref (a 105), .ref (a 106), .ref (a 107), .ref (a 108), .ref (a 109), .ref (a 110), .ref (a 111), .ref (a 112)]) := by rw [hw104]; exact set_ne k99 (by decide)
                  have k107 : w103[109]? = some (iA E (a 109) 3 (upd f102 (nI q).toNatClampNeg 0)) := by rw [hw104]; exact set_eq k101
                  have kp108 := keeps_set kq73 hw104 (by first | exact rfl | decide | omega | (dsimp only; omega))
                  refine x_iinc C (v := (nI (q + 1))) (lv' := [(5, .int (nI (q + 1))), (0, .ref (a 0)), (1, .int (nI j16)), (2, .int (nI j27)), (3, .int (nI j77)), (4, .int r32)]) dX11_rations_87 5 rfl (nI_add q 1) (by decide) rfl rfl ?_
                  refine x_goto C (tgt := 73) dX11_rations_90 (by decide) ?_
                  refine x_lv (lv1 := [(0, .ref (a 0)), (1, .int (nI j16)), (2, .int (nI j27)), (3, .int (nI j77)), (4, .int r32), (5, .int (nI (q + 1)))]) [1, 2, 3, 4, 5, 0] rfl ?_
                  exact ih73 (q + 1) w103 hW105 (by omega) (by omega) kp108
            refine x_lv (lv1 := [(0, .ref (a 0)), (1, .int (nI j16)), (2, .int (nI j27)), (3, .int (nI j77)), (4, .int r32), (5, .int 0)]) [2, 3, 4, 5, 1, 0] rfl ?_
            exact loop73 _ 0 w40 hW42 (Nat.lt_succ_self _) (by omega) kp45
          · skip
            refine x_bipush C (v := (-3)) dX11_rations_67 (by decide) rfl ?_
            exact x_zret C hr hlk rfl dX11_rations_69 ⟨hW42, kp45⟩
      · skip
        refine x_bipush C (v := (-2)) dX11_rations_47 (by decide) rfl ?_
        exact x_zret C hr hlk rfl dX11_rations_49 ⟨hW42, kp45⟩
    · skip
      refine x_iconst C (v := (-1)) dX11_rations_24 (by decide) rfl ?_
      exact x_zret C hr hlk rfl dX11_rations_25 ⟨hW, kp0⟩
