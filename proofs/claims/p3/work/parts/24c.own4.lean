set_option maxRecDepth 20000 in
set_option maxHeartbeats 4000000 in
theorem c_wholeOfC (E : xE) (l : Launch) (a : Nat → Nat) (ws : va_W) (hW : WX (okX E a) ws) (t : Nat) (ht : tb t) (p0 : Int32) : xI E l yX1_wholeOf cX1_wholeOf 6 (some .int) 3 [.ref (a (t + 9)), .int p0, .ref (a 105), .int 48] ws (fun r w => WX (okX E a) w ∧ keeps ws w (fun q => q = 105) ∧ (∃ rn : Nat, rn ≤ 48 ∧ r = nI rn) ∧ (∀ rn : Nat, rn ≤ 48 → r = nI rn → hK E a w rn)) := by
  refine xI_start (lv := [(0, .ref (a (t + 9))), (1, .int p0), (2, .ref (a 105)), (3, .int 48)]) RX1 (by decide) rfl (Nat.le_of_ble_eq_true rfl) rfl (fun p e s m below meth c A C hr hlk => ?_)
  have htb := tb_lo ht
  have kp0 : keeps ws ws (fun q => q = 105) := keeps_rf
  obtain ⟨_, k1, f2, rfl⟩ := hW 105 _ rfl
  refine x_iconst C (v := 0) dX1_wholeOf_0 (by decide) rfl ?_
  refine x_istore C (lv' := [(4, .int 0), (0, .ref (a (t + 9))), (1, .int p0), (2, .ref (a 105)), (3, .int 48)]) dX1_wholeOf_1 (by decide) rfl rfl ?_
  refine x_iconst C (v := 0) dX1_wholeOf_3 (by decide) rfl ?_
  refine x_istore C (lv' := [(5, .int 0), (4, .int 0), (0, .ref (a (t + 9))), (1, .int p0), (2, .ref (a 105)), (3, .int 48)]) dX1_wholeOf_4 (by decide) rfl rfl ?_
  have loop6 : ∀ (fu6 : Nat) (fo : Nat) (i : Nat) (wl6 : va_W), WX (okX E a) wl6 → 48 - i < fu6 → fo ≤ 48 → i ≤ 48 → hK E a wl6 fo → keeps ws wl6 (fun q => q = 105) → X E p l e (xRm 3 0 0) s m ([.ref (a (t + 9)), .int p0, .ref (a 105), .int 48] : List Value).toArray below meth c A 6 0 0 (MQ below (va_Qi (fun r w => WX (okX E a) w ∧ keeps ws w (fun q => q = 105) ∧ (∃ rn : Nat, rn ≤ 48 ∧ r = nI rn) ∧ (∀ rn : Nat, rn ≤ 48 → r = nI rn → hK E a w rn)) (xB E A) A) ([.ref (a (t + 9)), .int p0, .ref (a 105), .int 48] : List Value).toArray s 0 0 A) wl6 6 [(0, .ref (a (t + 9))), (1, .int p0), (2, .ref (a 105)), (3, .int 48), (4, .int (nI fo)), (5, .int (nI i))] [] := by
    intro fu6
    induction fu6 with
    | zero => intro fo i wl6 _ q; omega
    | succ fu6 ih6 =>
      intro fo i wl6 hWl6 me6 iv6_0 iv6_1 iv6_2 kq6
      obtain ⟨fh3, kh4, hh5⟩ := iv6_2
      refine x_iload C dX1_wholeOf_6 5 rfl rfl ?_
      refine x_aload_n C dX1_wholeOf_8 rfl 0 rfl rfl ?_
      obtain ⟨_, k6, n7, bn8, rfl⟩ := hWl6 (t + 9) _ (okX_t ht (j := 9) rfl)
      refine x_get C (ci := 1) (k := 0) (t + 9) k6 rfl in_X1 (by decide) w_120 rfl dX1_wholeOf_9 rfl ?_
      refine x_icmp_ge C (tgt := 53) dX1_wholeOf_12 (by decide) rfl (fun c9 => ?_) (fun c9 => ?_)
      · skip
        have nf10 := nI_le' (a := n7) (b := i) c9 (by omega) (by omega)
        refine x_iload C dX1_wholeOf_53 4 rfl rfl ?_
        exact x_zret C hr hlk rfl dX1_wholeOf_55 ⟨hWl6, kq6, ⟨fo, by omega, rfl⟩, (fun rn hrn er => by have q9 := (nI_eq (by omega) (by omega)).mp er; subst q9; exact ⟨_, kh4, hh5⟩)⟩
      · skip
        have nf11 := nI_nle' (a := n7) (b := i) c9 (by omega) (by omega)
        refine x_iload C dX1_wholeOf_15 4 rfl rfl ?_
        refine x_iload_n C dX1_wholeOf_17 rfl 3 rfl rfl ?_
        refine x_icmp_ge C (tgt := 53) dX1_wholeOf_18 (by decide) rfl (fun c12 => ?_) (fun c12 => ?_)
        · skip
          have nf13 := nI_le' (a := 48) (b := fo) c12 (by omega) (by omega)
          refine x_iload C dX1_wholeOf_53 4 rfl rfl ?_
          exact x_zret C hr hlk rfl dX1_wholeOf_55 ⟨hWl6, kq6, ⟨fo, by omega, rfl⟩, (fun rn hrn er => by have q9 := (nI_eq (by omega) (by omega)).mp er; subst q9; exact ⟨_, kh4, hh5⟩)⟩
        · skip
          have nf14 := nI_nle' (a := 48) (b := fo) c12 (by omega) (by omega)
          refine x_iload C dX1_wholeOf_21 4 rfl rfl ?_
          refine x_aload_n C dX1_wholeOf_23 rfl 2 rfl rfl ?_
          refine x_alen C (v := 48) 105 kh4 (by decide) dX1_wholeOf_24 rfl ?_
          refine x_icmp_ge C (tgt := 53) dX1_wholeOf_25 (by decide) rfl (fun c15 => ?_) (fun c15 => ?_)
          · skip
            have nf16 := nI_le' (a := 48) (b := fo) c15 (by omega) (by omega)
            refine x_iload C dX1_wholeOf_53 4 rfl rfl ?_
            exact x_zret C hr hlk rfl dX1_wholeOf_55 ⟨hWl6, kq6, ⟨fo, by omega, rfl⟩, (fun rn hrn er => by have q9 := (nI_eq (by omega) (by omega)).mp er; subst q9; exact ⟨_, kh4, hh5⟩)⟩
          · skip
            have nf17 := nI_nle' (a := 48) (b := fo) c15 (by omega) (by omega)
            refine x_aload_n C dX1_wholeOf_28 rfl 0 rfl rfl ?_
            refine x_iload C dX1_wholeOf_29 5 rfl rfl ?_
            refine x_iload_n C dX1_wholeOf_31 rfl 1 rfl rfl ?_
            refine x_vi C (As := [.int (nI i), .int p0]) (rest := []) (c_Eggs_isWholeOf E l a wl6 hWl6 t ht ((nI i)) p0) mf_X1_isWholeOf w_875 (t + 9) k6 rfl rfl rfl (Nat.le_of_ble_eq_true rfl) ⟨(Nat.le_of_ble_eq_true rfl), (Nat.le_of_ble_eq_true rfl)⟩ ⟨(Nat.le_of_ble_eq_true rfl), (Nat.le_of_ble_eq_true rfl)⟩ dX1_wholeOf_32 rfl (fun r19 w20 h18 => ?_)
            obtain ⟨hW21, zb22, x23⟩ := h18
            refine x_ws hW21 ?_
            refine x_if_eq C (tgt := 47) dX1_wholeOf_35 (by decide) rfl (fun c24 => ?_) (fun c24 => ?_)
            · skip
              refine x_iinc C (v := (nI (i + 1))) (lv' := [(5, .int (nI (i + 1))), (0, .ref (a (t + 9))), (1, .int p0), (2, .ref (a 105)), (3, .int 48), (4, .int (nI fo))]) dX1_wholeOf_47 5 rfl (nI_add i 1) (by decide) rfl rfl ?_
              refine x_goto C (tgt := 6) dX1_wholeOf_50 (by decide) ?_
              refine x_lv (lv1 := [(0, .ref (a (t + 9))), (1, .int p0), (2, .ref (a 105)), (3, .int 48), (4, .int (nI fo)), (5, .int (nI (i + 1)))]) [1, 2, 3, 4, 5, 0] rfl ?_
              exact ih6 fo (i + 1) wl6 hWl6 (by omega) (by omega) (by omega) ⟨_, kh4, hh5⟩ kq6
            · skip
              have wi25 := wth_le (a := 0) (b := 47) (j := i) (x23 c24) (by omega) (by decide) (by decide)
              refine x_aload_n C dX1_wholeOf_38 rfl 2 rfl rfl ?_
              refine x_iload C dX1_wholeOf_39 4 rfl rfl ?_
              refine x_iload C dX1_wholeOf_41 5 rfl rfl ?_
              obtain ⟨w26, hw27⟩ : ∃ w : va_W, w = List.set wl6 105 (iA E (a 105) 48 (upd fh3 (nI fo).toNatClampNeg (nI i))) := ⟨_, rfl⟩
              refine x_iast C 105 kh4 (vp_in_nI (by omega) (by decide)) hw27.symm dX1_wholeOf_43 rfl ?_
              have hW28 : WX (okX E a) w26 := by rw [hw27]; exact hWl6.set (k := 105) rfl ⟨_, rfl⟩
              have k29 : w26[105]? = some (iA E (a 105) 48 (upd fh3 (nI fo).toNatClampNeg (nI i))) := by rw [hw27]; exact set_eq kh4
              have k30 : w26[t + 9]? = some (ob (a (t + 9)) 1 [.int (nI n7), .ref (a (t + 10)), .ref (a (t + 11)), .ref (a (t + 12)), .ref (a (t + 13)), .ref (a (t + 14)), .ref (a (t + 15))]) := by rw [hw27]; exact set_ne k6 (by omega)
              have kp31 := keeps_set kq6 hw27 (by first | exact rfl | decide | omega | (dsimp only; omega))
              refine x_iinc C (v := (nI (fo + 1))) (lv' := [(4, .int (nI (fo + 1))), (0, .ref (a (t + 9))), (1, .int p0), (2, .ref (a 105)), (3, .int 48), (5, .int (nI i))]) dX1_wholeOf_44 4 rfl (nI_add fo 1) (by decide) rfl rfl ?_
              refine x_iinc C (v := (nI (i + 1))) (lv' := [(5, .int (nI (i + 1))), (4, .int (nI (fo + 1))), (0, .ref (a (t + 9))), (1, .int p0), (2, .ref (a 105)), (3, .int 48)]) dX1_wholeOf_47 5 rfl (nI_add i 1) (by decide) rfl rfl ?_
              refine x_goto C (tgt := 6) dX1_wholeOf_50 (by decide) ?_
              refine x_lv (lv1 := [(0, .ref (a (t + 9))), (1, .int p0), (2, .ref (a 105)), (3, .int 48), (4, .int (nI (fo + 1))), (5, .int (nI (i + 1)))]) [2, 3, 4, 5, 1, 0] rfl ?_
              exact ih6 (fo + 1) (i + 1) w26 hW28 (by omega) (by omega) (by omega) (hK_set hh5 k29 (by omega) (by omega)) kp31
  refine x_lv (lv1 := [(0, .ref (a (t + 9))), (1, .int p0), (2, .ref (a 105)), (3, .int 48), (4, .int 0), (5, .int 0)]) [2, 3, 4, 5, 1, 0] rfl ?_
  exact loop6 _ 0 0 ws hW (Nat.lt_succ_self _) (by omega) (by omega) (hK_z k1) kp0
theorem dX11_mostMinutes_0 : decode cX11_mostMinutes 0 = .ok (.iconst (-1), 1) := by decide +kernel
theorem dX11_mostMinutes_1 : decode cX11_mostMinutes 1 = .ok (.istore_n 2, 1) := by decide +kernel
theorem dX11_mostMinutes_2 : decode cX11_mostMinutes 2 = .ok (.iconst (-1), 1) := by decide +kernel
theorem dX11_mostMinutes_3 : decode cX11_mostMinutes 3 = .ok (.istore_n 3, 1) := by decide +kernel
theorem dX11_mostMinutes_4 : decode cX11_mostMinutes 4 = .ok (.iconst 0, 1) := by decide +kernel
theorem dX11_mostMinutes_5 : decode cX11_mostMinutes 5 = .ok (.istore 4, 2) := by decide +kernel
theorem dX11_mostMinutes_7 : decode cX11_mostMinutes 7 = .ok (.iload 4, 2) := by decide +kernel
theorem dX11_mostMinutes_9 : decode cX11_mostMinutes 9 = .ok (.iload_n 1, 1) := by decide +kernel
theorem dX11_mostMinutes_10 : decode cX11_mostMinutes 10 = .ok (.if_icmp .ge 67, 3) := by decide +kernel
theorem dX11_mostMinutes_13 : decode cX11_mostMinutes 13 = .ok (.aload_n 0, 1) := by decide +kernel
theorem dX11_mostMinutes_14 : decode cX11_mostMinutes 14 = .ok (.getfield 67, 3) := by decide +kernel
theorem dX11_mostMinutes_17 : decode cX11_mostMinutes 17 = .ok (.iload 4, 2) := by decide +kernel
theorem dX11_mostMinutes_19 : decode cX11_mostMinutes 19 = .ok (.iaload, 1) := by decide +kernel
theorem dX11_mostMinutes_20 : decode cX11_mostMinutes 20 = .ok (.istore 5, 2) := by decide +kernel
theorem dX11_mostMinutes_22 : decode cX11_mostMinutes 22 = .ok (.aload_n 0, 1) := by decide +kernel
theorem dX11_mostMinutes_23 : decode cX11_mostMinutes 23 = .ok (.getfield 22, 3) := by decide +kernel
theorem dX11_mostMinutes_26 : decode cX11_mostMinutes 26 = .ok (.getfield 132, 3) := by decide +kernel
theorem dX11_mostMinutes_29 : decode cX11_mostMinutes 29 = .ok (.iload 5, 2) := by decide +kernel
theorem dX11_mostMinutes_31 : decode cX11_mostMinutes 31 = .ok (.invokevirtual 207, 3) := by decide +kernel
theorem dX11_mostMinutes_34 : decode cX11_mostMinutes 34 = .ok (.ifCond .eq 37, 3) := by decide +kernel
theorem dX11_mostMinutes_37 : decode cX11_mostMinutes 37 = .ok (.aload_n 0, 1) := by decide +kernel
theorem dX11_mostMinutes_38 : decode cX11_mostMinutes 38 = .ok (.getfield 22, 3) := by decide +kernel
theorem dX11_mostMinutes_41 : decode cX11_mostMinutes 41 = .ok (.getfield 132, 3) := by decide +kernel
theorem dX11_mostMinutes_44 : decode cX11_mostMinutes 44 = .ok (.getfield 210, 3) := by decide +kernel
theorem dX11_mostMinutes_47 : decode cX11_mostMinutes 47 = .ok (.iload 5, 2) := by decide +kernel
theorem dX11_mostMinutes_49 : decode cX11_mostMinutes 49 = .ok (.iaload, 1) := by decide +kernel
theorem dX11_mostMinutes_50 : decode cX11_mostMinutes 50 = .ok (.iload_n 3, 1) := by decide +kernel
theorem dX11_mostMinutes_51 : decode cX11_mostMinutes 51 = .ok (.if_icmp .le 20, 3) := by decide +kernel
theorem dX11_mostMinutes_54 : decode cX11_mostMinutes 54 = .ok (.iload 4, 2) := by decide +kernel
theorem dX11_mostMinutes_56 : decode cX11_mostMinutes 56 = .ok (.istore_n 2, 1) := by decide +kernel
theorem dX11_mostMinutes_57 : decode cX11_mostMinutes 57 = .ok (.aload_n 0, 1) := by decide +kernel
theorem dX11_mostMinutes_58 : decode cX11_mostMinutes 58 = .ok (.getfield 22, 3) := by decide +kernel
theorem dX11_mostMinutes_61 : decode cX11_mostMinutes 61 = .ok (.getfield 132, 3) := by decide +kernel
theorem dX11_mostMinutes_64 : decode cX11_mostMinutes 64 = .ok (.getfield 210, 3) := by decide +kernel
theorem dX11_mostMinutes_67 : decode cX11_mostMinutes 67 = .ok (.iload 5, 2) := by decide +kernel
theorem dX11_mostMinutes_69 : decode cX11_mostMinutes 69 = .ok (.iaload, 1) := by decide +kernel
theorem dX11_mostMinutes_70 : decode cX11_mostMinutes 70 = .ok (.istore_n 3, 1) := by decide +kernel
theorem dX11_mostMinutes_71 : decode cX11_mostMinutes 71 = .ok (.iinc 4 1, 3) := by decide +kernel
theorem dX11_mostMinutes_74 : decode cX11_mostMinutes 74 = .ok (.goto (-67), 3) := by decide +kernel
theorem dX11_mostMinutes_77 : decode cX11_mostMinutes 77 = .ok (.iload_n 2, 1) := by decide +kernel
theorem dX11_mostMinutes_78 : decode cX11_mostMinutes 78 = .ok (.ireturn, 1) := by decide +kernel
set_option maxRecDepth 20000 in
set_option maxHeartbeats 4000000 in
theorem c_mostMinutes (E : xE) (l : Launch) (a : Nat → Nat) (ws : va_W) (hW : WX (okX E a) ws) (n0 : Nat) (hn0 : n0 ≤ 48) (fh : Nat → Int32) (hfh : ws[105]? = some (iA E (a 105) 48 fh)) : xI E l yX11_mostMinutes cX11_mostMinutes 6 (some .int) 1 [.ref (a 0), .int (nI n0)] ws (fun r w => w = ws ∧ (r = -1 ∨ ∃ j i : Nat, j < n0 ∧ i ≤ 47 ∧ r = nI j ∧ fh j = nI i)) := by
  refine xI_start (lv := [(0, .ref (a 0)), (1, .int (nI n0))]) RX11 (by decide) rfl (Nat.le_of_ble_eq_true rfl) rfl (fun p e s m below meth c A C hr hlk => ?_)
  refine x_iconst C (v := (-1)) dX11_mostMinutes_0 (by decide) rfl ?_
  refine x_istore_n C (lv' := [(2, .int (-1)), (0, .ref (a 0)), (1, .int (nI n0))]) dX11_mostMinutes_1 rfl (by decide) rfl rfl ?_
  refine x_iconst C (v := (-1)) dX11_mostMinutes_2 (by decide) rfl ?_
  refine x_istore_n C (lv' := [(3, .int (-1)), (2, .int (-1)), (0, .ref (a 0)), (1, .int (nI n0))]) dX11_mostMinutes_3 rfl (by decide) rfl rfl ?_
  refine x_iconst C (v := 0) dX11_mostMinutes_4 (by decide) rfl ?_
  refine x_istore C (lv' := [(4, .int 0), (3, .int (-1)), (2, .int (-1)), (0, .ref (a 0)), (1, .int (nI n0))]) dX11_mostMinutes_5 (by decide) rfl rfl ?_
  have loop7 : ∀ (fu7 : Nat) (z7_2 : Int32) (z7_3 : Int32) (k : Nat), True → 48 - k < fu7 → k ≤ 48 → (z7_2 = -1 ∨ ∃ j i : Nat, j < n0 ∧ i ≤ 47 ∧ z7_2 = nI j ∧ fh j = nI i) → X E p l e (xRm 1 0 0) s m ([.ref (a 0), .int (nI n0)] : List Value).toArray below meth c A 6 0 0 (MQ below (va_Qi (fun r w => w = ws ∧ (r = -1 ∨ ∃ j i : Nat, j < n0 ∧ i ≤ 47 ∧ r = nI j ∧ fh j = nI i)) (xB E A) A) ([.ref (a 0), .int (nI n0)] : List Value).toArray s 0 0 A) ws 7 [(0, .ref (a 0)), (1, .int (nI n0)), (2, .int z7_2), (3, .int z7_3), (4, .int (nI k))] [] := by
    intro fu7
    induction fu7 with
    | zero => intro z7_2 z7_3 k _ q; omega
    | succ fu7 ih7 =>
      intro z7_2 z7_3 k _ me7 iv7_0 iv7_1
      refine x_iload C dX11_mostMinutes_7 4 rfl rfl ?_
      refine x_iload_n C dX11_mostMinutes_9 rfl 1 rfl rfl ?_
      refine x_icmp_ge C (tgt := 77) dX11_mostMinutes_10 (by decide) rfl (fun c1 => ?_) (fun c1 => ?_)
      · skip
        have nf2 := nI_le' (a := n0) (b := k) c1 (by omega) (by omega)
        refine x_iload_n C dX11_mostMinutes_77 rfl 2 rfl rfl ?_
        exact x_zret C hr hlk rfl dX11_mostMinutes_78 ⟨rfl, iv7_1⟩
      · skip
        have nf3 := nI_nle' (a := n0) (b := k) c1 (by omega) (by omega)
        refine x_aload_n C dX11_mostMinutes_13 rfl 0 rfl rfl ?_
        obtain ⟨_, k4, v5, rfl⟩ := hW 0 _ rfl
        refine x_get C (ci := 10) (k := 11) 0 k4 rfl in_X11 (by decide) w_396 rfl dX11_mostMinutes_14 rfl ?_
        refine x_iload C dX11_mostMinutes_17 4 rfl rfl ?_
        refine x_ialk C (v := (fh k)) k (nI_clamp (by omega)) (nI_pos (by omega)) (by omega) 105 hfh rfl dX11_mostMinutes_19 rfl ?_
        obtain ⟨x6, ex7⟩ : ∃ x : Int32, x = (fh k) := ⟨_, rfl⟩
        refine x_top (v := x6) ex7.symm ?_
        refine x_istore C (lv' := [(5, .int x6), (0, .ref (a 0)), (1, .int (nI n0)), (2, .int z7_2), (3, .int z7_3), (4, .int (nI k))]) dX11_mostMinutes_20 (by decide) rfl rfl ?_
        refine x_aload_n C dX11_mostMinutes_22 rfl 1 rfl rfl ?_
        refine x_get C (ci := 10) (k := 2) 0 k4 rfl in_X11 (by decide) w_387 rfl dX11_mostMinutes_23 rfl ?_
        obtain ⟨_, k8, n9, v11, v12, v13, v14, v15, bn10, rfl⟩ := hW 5 _ rfl
        refine x_get C (ci := 8) (k := 4) 5 k8 rfl in_X9 (by decide) w_209 rfl dX11_mostMinutes_26 rfl ?_
        refine x_iload C dX11_mostMinutes_29 0 rfl rfl ?_
        obtain ⟨_, k16, n17, bn18, rfl⟩ := hW 14 _ rfl
        refine x_vi C (As := [.int x6]) (rest := []) (c_Eggs_isLaid E l a ws hW 5 (Or.inl rfl) x6) mf_X1_isLaid w_861 14 k16 rfl rfl rfl (Nat.le_of_ble_eq_true rfl) ⟨(Nat.le_of_ble_eq_true rfl), (Nat.le_of_ble_eq_true rfl)⟩ ⟨(Nat.le_of_ble_eq_true rfl), (Nat.le_of_ble_eq_true rfl)⟩ dX11_mostMinutes_31 rfl (fun r20 w21 h19 => ?_)
        obtain ⟨hW22, zb23, x24⟩ := h19
        refine x_ws hW22 ?_
        refine x_if_eq C (tgt := 71) dX11_mostMinutes_34 (by decide) rfl (fun c25 => ?_) (fun c25 => ?_)
        · skip
          refine x_iinc C (v := (nI (k + 1))) (lv' := [(4, .int (nI (k + 1))), (5, .int x6), (0, .ref (a 0)), (1, .int (nI n0)), (2, .int z7_2), (3, .int z7_3)]) dX11_mostMinutes_71 5 rfl (nI_add k 1) (by decide) rfl rfl ?_
          refine x_goto C (tgt := 7) dX11_mostMinutes_74 (by decide) ?_
          refine x_lv (lv1 := [(0, .ref (a 0)), (1, .int (nI n0)), (2, .int z7_2), (3, .int z7_3), (4, .int (nI (k + 1)))]) [2, 3, 4, 5, 0] rfl ?_
          exact ih7 z7_2 z7_3 (k + 1) trivial (by omega) (by omega) iv7_1
        · skip
          obtain ⟨j26, hl27, hh28, ej29⟩ := w_nat (a := 0) (b := 47) (by decide) (by decide) (x24 c25)
          subst ej29
          refine x_aload_n C dX11_mostMinutes_37 rfl 1 rfl rfl ?_
          refine x_get C (ci := 10) (k := 2) 0 k4 rfl in_X11 (by decide) w_387 rfl dX11_mostMinutes_38 rfl ?_
          refine x_get C (ci := 8) (k := 4) 5 k8 rfl in_X9 (by decide) w_209 rfl dX11_mostMinutes_41 rfl ?_
          refine x_get C (ci := 1) (k := 1) 14 k16 rfl in_X1 (by decide) w_126 rfl dX11_mostMinutes_44 rfl ?_
          refine x_iload C dX11_mostMinutes_47 0 rfl rfl ?_
          obtain ⟨_, k30, f31, rfl⟩ := hW 15 _ rfl
          refine x_iald C (v := (f31 (nI j26).toNatClampNeg)) 15 k30 (vp_in_nI (by omega) (by decide)) rfl dX11_mostMinutes_49 rfl ?_
          refine x_any (fun v32 => ?_)
          refine x_iload_n C dX11_mostMinutes_50 rfl 4 rfl rfl ?_
          refine x_icmp_le C (tgt := 71) dX11_mostMinutes_51 (by decide) rfl (fun c33 => ?_) (fun c33 => ?_)
          · skip
            refine x_iinc C (v := (nI (k + 1))) (lv' := [(4, .int (nI (k + 1))), (5, .int (nI j26)), (0, .ref (a 0)), (1, .int (nI n0)), (2, .int z7_2), (3, .int z7_3)]) dX11_mostMinutes_71 5 rfl (nI_add k 1) (by decide) rfl rfl ?_
            refine x_goto C (tgt := 7) dX11_mostMinutes_74 (by decide) ?_
            refine x_lv (lv1 := [(0, .ref (a 0)), (1, .int (nI n0)), (2, .int z7_2), (3, .int z7_3), (4, .int (nI (k + 1)))]) [2, 3, 4, 5, 0] rfl ?_
            exact ih7 z7_2 z7_3 (k + 1) trivial (by omega) (by omega) iv7_1
          · skip
            refine x_iload C dX11_mostMinutes_54 5 rfl rfl ?_
            refine x_istore_n C (lv' := [(2, .int (nI k)), (5, .int (nI j26)), (0, .ref (a 0)), (1, .int (nI n0)), (3, .int z7_3), (4, .int (nI k))]) dX11_mostMinutes_56 rfl (by decide) rfl rfl ?_
            refine x_aload_n C dX11_mostMinutes_57 rfl 2 rfl rfl ?_
            refine x_get C (ci := 10) (k := 2) 0 k4 rfl in_X11 (by decide) w_387 rfl dX11_mostMinutes_58 rfl ?_
            refine x_get C (ci := 8) (k := 4) 5 k8 rfl in_X9 (by decide) w_209 rfl dX11_mostMinutes_61 rfl ?_
            refine x_get C (ci := 1) (k := 1) 14 k16 rfl in_X1 (by decide) w_126 rfl dX11_mostMinutes_64 rfl ?_
            refine x_iload C dX11_mostMinutes_67 1 rfl rfl ?_
            refine x_iald C (v := (f31 (nI j26).toNatClampNeg)) 15 k30 (vp_in_nI (by omega) (by decide)) rfl dX11_mostMinutes_69 rfl ?_
            refine x_any (fun v34 => ?_)
            refine x_istore_n C (lv' := [(3, .int v34), (2, .int (nI k)), (5, .int (nI j26)), (0, .ref (a 0)), (1, .int (nI n0)), (4, .int (nI k))]) dX11_mostMinutes_70 rfl (by decide) rfl rfl ?_
            refine x_iinc C (v := (nI (k + 1))) (lv' := [(4, .int (nI (k + 1))), (3, .int v34), (2, .int (nI k)), (5, .int (nI j26)), (0, .ref (a 0)), (1, .int (nI n0))]) dX11_mostMinutes_71 5 rfl (nI_add k 1) (by decide) rfl rfl ?_
            refine x_goto C (tgt := 7) dX11_mostMinutes_74 (by decide) ?_
            refine x_lv (lv1 := [(0, .ref (a 0)), (1, .int (nI n0)), (2, .int (nI k)), (3, .int v34), (4, .int (nI (k + 1)))]) [4, 5, 2, 1, 0] rfl ?_
            exact ih7 ((nI k)) v34 (k + 1) trivial (by omega) (by omega) (Or.inr ⟨k, j26, by omega, by omega, rfl, ex7.symm⟩)
  refine x_lv (lv1 := [(0, .ref (a 0)), (1, .int (nI n0)), (2, .int (-1)), (3, .int (-1)), (4, .int 0)]) [3, 4, 2, 1, 0] rfl ?_
  exact loop7 _ ((-1) : Int32) ((-1) : Int32) 0 trivial (Nat.lt_succ_self _) (by omega) (Or.inl rfl)
theorem dX11_takesRoom_0 : decode cX11_takesRoom 0 = .ok (.iload_n 1, 1) := by decide +kernel
theorem dX11_takesRoom_1 : decode cX11_takesRoom 1 = .ok (.bipush 40, 2) := by decide +kernel
theorem dX11_takesRoom_3 : decode cX11_takesRoom 3 = .ok (.invokestatic 302, 3) := by decide +kernel
theorem dX11_takesRoom_6 : decode cX11_takesRoom 6 = .ok (.iconst 1, 1) := by decide +kernel
theorem dX11_takesRoom_7 : decode cX11_takesRoom 7 = .ok (.isub, 1) := by decide +kernel
theorem dX11_takesRoom_8 : decode cX11_takesRoom 8 = .ok (.istore_n 2, 1) := by decide +kernel
theorem dX11_takesRoom_9 : decode cX11_takesRoom 9 = .ok (.iload_n 2, 1) := by decide +kernel
theorem dX11_takesRoom_10 : decode cX11_takesRoom 10 = .ok (.ifCond .lt 30, 3) := by decide +kernel
theorem dX11_takesRoom_13 : decode cX11_takesRoom 13 = .ok (.aload_n 0, 1) := by decide +kernel
theorem dX11_takesRoom_14 : decode cX11_takesRoom 14 = .ok (.getfield 74, 3) := by decide +kernel
theorem dX11_takesRoom_17 : decode cX11_takesRoom 17 = .ok (.iload_n 2, 1) := by decide +kernel
theorem dX11_takesRoom_18 : decode cX11_takesRoom 18 = .ok (.iaload, 1) := by decide +kernel
theorem dX11_takesRoom_19 : decode cX11_takesRoom 19 = .ok (.ifCond .le 15, 3) := by decide +kernel
theorem dX11_takesRoom_22 : decode cX11_takesRoom 22 = .ok (.aload_n 0, 1) := by decide +kernel
theorem dX11_takesRoom_23 : decode cX11_takesRoom 23 = .ok (.getfield 74, 3) := by decide +kernel
theorem dX11_takesRoom_26 : decode cX11_takesRoom 26 = .ok (.iload_n 2, 1) := by decide +kernel
theorem dX11_takesRoom_27 : decode cX11_takesRoom 27 = .ok (.dup2, 1) := by decide +kernel
theorem dX11_takesRoom_28 : decode cX11_takesRoom 28 = .ok (.iaload, 1) := by decide +kernel
theorem dX11_takesRoom_29 : decode cX11_takesRoom 29 = .ok (.iconst 1, 1) := by decide +kernel
theorem dX11_takesRoom_30 : decode cX11_takesRoom 30 = .ok (.isub, 1) := by decide +kernel
theorem dX11_takesRoom_31 : decode cX11_takesRoom 31 = .ok (.iastore, 1) := by decide +kernel
theorem dX11_takesRoom_32 : decode cX11_takesRoom 32 = .ok (.iconst 1, 1) := by decide +kernel
theorem dX11_takesRoom_33 : decode cX11_takesRoom 33 = .ok (.ireturn, 1) := by decide +kernel
theorem dX11_takesRoom_34 : decode cX11_takesRoom 34 = .ok (.iinc 2 (-1), 3) := by decide +kernel
theorem dX11_takesRoom_37 : decode cX11_takesRoom 37 = .ok (.goto (-28), 3) := by decide +kernel
theorem dX11_takesRoom_40 : decode cX11_takesRoom 40 = .ok (.iconst 0, 1) := by decide +kernel
theorem dX11_takesRoom_41 : decode cX11_takesRoom 41 = .ok (.ireturn, 1) := by decide +kernel
set_option maxRecDepth 20000 in
set_option maxHeartbeats 4000000 in
theorem c_takesRoom (E : xE) (l : Launch) (a : Nat → Nat) (ws : va_W) (hW : WX (okX E a) ws) (p0 : Int32) (hp0 : -20000 ≤ p0.toInt) : xI E l yX11_takesRoom cX11_takesRoom 3 (some .boolean) 1 [.ref (a 0), .int p0] ws (fun r w => WX (okX E a) w ∧ keeps ws w (fun q => q = 107) ∧ zb r) := by
  refine xI_start (lv := [(0, .ref (a 0)), (1, .int p0)]) RX11 (by decide) rfl (Nat.le_of_ble_eq_true rfl) rfl (fun p e s m below meth c A C hr hlk => ?_)
  have kp0 : keeps ws ws (fun q => q = 107) := keeps_rf
  refine x_iload_n C dX11_takesRoom_0 rfl 1 rfl rfl ?_
  refine x_bipush C (v := 40) dX11_takesRoom_1 (by decide) rfl ?_
  refine x_mmin C (v := (if (40 : Int32) < p0 then (40 : Int32) else p0)) w_958 w_561 w_16 w_562 (Nat.le_of_ble_eq_true rfl) (Nat.le_of_ble_eq_true rfl) (Nat.le_of_ble_eq_true rfl) (Nat.le_of_ble_eq_true rfl) rfl dX11_takesRoom_3 rfl ?_
  by_cases hq1 : (40 : Int32) < p0
  · refine x_top (v := 40) (if_pos hq1) ?_
    refine x_iconst C (v := 1) dX11_takesRoom_6 (by decide) rfl ?_
    refine x_isub C (v := 39) dX11_takesRoom_7 (by decide) rfl ?_
    refine x_istore_n C (lv' := [(2, .int 39), (0, .ref (a 0)), (1, .int p0)]) dX11_takesRoom_8 rfl (by decide) rfl rfl ?_
    have loop9 : ∀ (fu9 : Nat) (d : Nat), True → d < fu9 → d ≤ 39 → X E p l e (xRm 1 0 0) s m ([.ref (a 0), .int p0] : List Value).toArray below meth c A 3 0 0 (MQ below (va_Qi (fun r w => WX (okX E a) w ∧ keeps ws w (fun q => q = 107) ∧ zb r) (xB E A) A) ([.ref (a 0), .int p0] : List Value).toArray s 0 0 A) ws 9 [(0, .ref (a 0)), (1, .int p0), (2, .int (nI d))] [] := by
      intro fu9
      induction fu9 with
      | zero => intro d _ q; omega
      | succ fu9 ih9 =>
        intro d _ me9 iv9_0
        refine x_iload_n C dX11_takesRoom_9 rfl 2 rfl rfl ?_
        refine x_if_lt C (tgt := 40) dX11_takesRoom_10 (by decide) rfl (fun c3 => ?_) (fun c3 => ?_)
        · skip
          have nf4 := nI_lt' (a := d) (b := 0) c3 (by omega) (by omega)
          refine x_iconst C (v := 0) dX11_takesRoom_40 (by decide) rfl ?_
          exact x_zret C hr hlk rfl dX11_takesRoom_41 ⟨hW, kp0, (Or.inl rfl)⟩
        · skip
          have nf5 := nI_nlt' (a := d) (b := 0) c3 (by omega) (by omega)
          refine x_aload_n C dX11_takesRoom_13 rfl 0 rfl rfl ?_
          obtain ⟨_, k6, v7, rfl⟩ := hW 0 _ rfl
          refine x_get C (ci := 10) (k := 13) 0 k6 rfl in_X11 (by decide) w_398 rfl dX11_takesRoom_14 rfl ?_
          refine x_iload_n C dX11_takesRoom_17 rfl 2 rfl rfl ?_
          obtain ⟨_, k8, f9, rfl⟩ := hW 107 _ rfl
          refine x_iald C (v := (f9 (nI d).toNatClampNeg)) 107 k8 (vp_in_nI (by omega) (by decide)) rfl dX11_takesRoom_18 rfl ?_
          refine x_any (fun v10 => ?_)
          refine x_if_le C (tgt := 34) dX11_takesRoom_19 (by decide) rfl (fun c11 => ?_) (fun c11 => ?_)
          · skip
            by_cases hz12 : d = 0
            · refine x_iinc C (v := -1) (lv' := [(2, .int (-1)), (0, .ref (a 0)), (1, .int p0)]) dX11_takesRoom_34 2 rfl (by rw [hz12]; decide) (by decide) rfl rfl ?_
              refine x_goto C (tgt := 9) dX11_takesRoom_37 (by decide) ?_
              refine x_iload_n C dX11_takesRoom_9 rfl 0 rfl rfl ?_
              refine x_if_lt C (tgt := 40) dX11_takesRoom_10 (by decide) rfl (fun _ => ?_) (fun h => absurd h (by decide))
              refine x_iconst C (v := 0) dX11_takesRoom_40 (by decide) rfl ?_
              exact x_zret C hr hlk rfl dX11_takesRoom_41 ⟨hW, kp0, (Or.inl rfl)⟩
            · refine x_iinc C (v := nI (d - 1)) (lv' := [(2, .int (nI (d - 1))), (0, .ref (a 0)), (1, .int p0)]) dX11_takesRoom_34 2 rfl (dec_n (by omega)) (by decide) rfl rfl ?_
              refine x_goto C (tgt := 9) dX11_takesRoom_37 (by decide) ?_
              refine x_lv (lv1 := [(0, .ref (a 0)), (1, .int p0), (2, .int (nI (d - 1)))]) [1, 2, 0] rfl ?_
              exact ih9 (d - 1) trivial (by omega) (by omega)
          · skip
            obtain ⟨j13, hj14, ej15⟩ := nI_of (fun q => c11 (Int32.le_of_lt q))
            subst ej15
            refine x_aload_n C dX11_takesRoom_22 rfl 0 rfl rfl ?_
            refine x_get C (ci := 10) (k := 13) 0 k6 rfl in_X11 (by decide) w_398 rfl dX11_takesRoom_23 rfl ?_
            refine x_iload_n C dX11_takesRoom_26 rfl 2 rfl rfl ?_
            refine x_dup2 C dX11_takesRoom_27 rfl rfl rfl ?_
            refine x_iald C (v := (f9 (nI d).toNatClampNeg)) 107 k8 (vp_in_nI (by omega) (by decide)) rfl dX11_takesRoom_28 rfl ?_
            refine x_any (fun v16 => ?_)
            refine x_iconst C (v := 1) dX11_takesRoom_29 (by decide) rfl ?_
            refine x_isub C (v := (v16 - (1 : Int32))) dX11_takesRoom_30 rfl rfl ?_
            refine x_any (fun v17 => ?_)
            obtain ⟨w18, hw19⟩ : ∃ w : va_W, w = List.set ws 107 (iA E (a 107) 40 (upd f9 (nI d).toNatClampNeg v17)) := ⟨_, rfl⟩
            refine x_iast C 107 k8 (vp_in_nI (by omega) (by decide)) hw19.symm dX11_takesRoom_31 rfl ?_
            have hW20 : WX (okX E a) w18 := by rw [hw19]; exact hW.set (k := 107) rfl ⟨_, rfl⟩
            have k21 : w18[0]? = some (ob (a 0) 10 [.ref (a 1), .ref (a 3), .ref (a 5), .ref (a 27), .ref (a 49), .int v7, .ref (a 71), .ref (a 79), .ref (a 87), .ref (a 92), .ref (a 103), .ref (a 105), .ref (a 106), .ref (a 107), .ref (a 108), .ref (a 109), .ref (a 110), .ref (a 111), .ref (a 112)]) := by rw [hw19]; exact set_ne k6 (by decide)
            have k22 : w18[107]? = some (iA E (a 107) 40 (upd f9 (nI d).toNatClampNeg v17)) := by rw [hw19]; exact set_eq k8
            have kp23 := keeps_set kp0 hw19 (by first | exact rfl | decide | omega | (dsimp only; omega))
            refine x_iconst C (v := 1) dX11_takesRoom_32 (by decide) rfl ?_
            exact x_zret C hr hlk rfl dX11_takesRoom_33 ⟨hW20, kp23, (Or.inr rfl)⟩
    refine x_lv (lv1 := [(0, .ref (a 0)), (1, .int p0), (2, .int 39)]) [1, 2, 0] rfl ?_
    exact loop9 _ 39 trivial (Nat.lt_succ_self _) (by omega)
  refine x_top (v := p0) (if_neg hq1) ?_
  by_cases hq2 : p0 < 1
  · skip
    refine x_iconst C (v := 1) dX11_takesRoom_6 (by decide) rfl ?_
    refine x_isub C (v := (p0 - 1)) dX11_takesRoom_7 rfl rfl ?_
    refine x_istore_n C (lv' := [(2, .int (p0 - 1)), (0, .ref (a 0)), (1, .int p0)]) dX11_takesRoom_8 rfl (by decide) rfl rfl ?_
    refine x_iload_n C dX11_takesRoom_9 rfl 0 rfl rfl ?_
    refine x_if_lt C (tgt := 40) dX11_takesRoom_10 (by decide) rfl (fun _ => ?_) (fun h => absurd (lo_dec hp0 hq2) h)
    refine x_iconst C (v := 0) dX11_takesRoom_40 (by decide) rfl ?_
    exact x_zret C hr hlk rfl dX11_takesRoom_41 ⟨hW, kp0, (Or.inl rfl)⟩
  obtain ⟨j24, hj25, ej26⟩ := nI_of (fun q => hq2 (Int32.lt_trans q (by decide)))
  subst ej26
  have nf27 := nI_nlt' (a := j24) (b := 1) hq2 (by omega) (by decide)
  have nf28 := nI_nlt' (a := 40) (b := j24) hq1 (by decide) (by omega)
  refine x_iconst C (v := 1) dX11_takesRoom_6 (by decide) rfl ?_
  refine x_isub C (v := (nI (j24 - 1))) dX11_takesRoom_7 (pk_sub (a := j24) (b := 1) (by omega)) rfl ?_
  refine x_istore_n C (lv' := [(2, .int (nI (j24 - 1))), (0, .ref (a 0)), (1, .int (nI j24))]) dX11_takesRoom_8 rfl (by decide) rfl rfl ?_
  have loop9 : ∀ (fu9 : Nat) (d : Nat), True → d < fu9 → d ≤ 39 → X E p l e (xRm 1 0 0) s m ([.ref (a 0), .int (nI j24)] : List Value).toArray below meth c A 3 0 0 (MQ below (va_Qi (fun r w => WX (okX E a) w ∧ keeps ws w (fun q => q = 107) ∧ zb r) (xB E A) A) ([.ref (a 0), .int (nI j24)] : List Value).toArray s 0 0 A) ws 9 [(0, .ref (a 0)), (1, .int (nI j24)), (2, .int (nI d))] [] := by
    intro fu9
    induction fu9 with
    | zero => intro d _ q; omega
    | succ fu9 ih9 =>
      intro d _ me9 iv9_0
      refine x_iload_n C dX11_takesRoom_9 rfl 2 rfl rfl ?_
      refine x_if_lt C (tgt := 40) dX11_takesRoom_10 (by decide) rfl (fun c29 => ?_) (fun c29 => ?_)
      · skip
        have nf30 := nI_lt' (a := d) (b := 0) c29 (by omega) (by omega)
        refine x_iconst C (v := 0) dX11_takesRoom_40 (by decide) rfl ?_
        exact x_zret C hr hlk rfl dX11_takesRoom_41 ⟨hW, kp0, (Or.inl rfl)⟩
      · skip
        have nf31 := nI_nlt' (a := d) (b := 0) c29 (by omega) (by omega)
        refine x_aload_n C dX11_takesRoom_13 rfl 0 rfl rfl ?_
        obtain ⟨_, k32, v33, rfl⟩ := hW 0 _ rfl
        refine x_get C (ci := 10) (k := 13) 0 k32 rfl in_X11 (by decide) w_398 rfl dX11_takesRoom_14 rfl ?_
        refine x_iload_n C dX11_takesRoom_17 rfl 2 rfl rfl ?_
        obtain ⟨_, k34, f35, rfl⟩ := hW 107 _ rfl
        refine x_iald C (v := (f35 (nI d).toNatClampNeg)) 107 k34 (vp_in_nI (by omega) (by decide)) rfl dX11_takesRoom_18 rfl ?_
        refine x_any (fun v36 => ?_)
        refine x_if_le C (tgt := 34) dX11_takesRoom_19 (by decide) rfl (fun c37 => ?_) (fun c37 => ?_)
        · skip
          by_cases hz38 : d = 0
          · refine x_iinc C (v := -1) (lv' := [(2, .int (-1)), (0, .ref (a 0)), (1, .int (nI j24))]) dX11_takesRoom_34 2 rfl (by rw [hz38]; decide) (by decide) rfl rfl ?_
            refine x_goto C (tgt := 9) dX11_takesRoom_37 (by decide) ?_
            refine x_iload_n C dX11_takesRoom_9 rfl 0 rfl rfl ?_
            refine x_if_lt C (tgt := 40) dX11_takesRoom_10 (by decide) rfl (fun _ => ?_) (fun h => absurd h (by decide))
            refine x_iconst C (v := 0) dX11_takesRoom_40 (by decide) rfl ?_
            exact x_zret C hr hlk rfl dX11_takesRoom_41 ⟨hW, kp0, (Or.inl rfl)⟩
          · refine x_iinc C (v := nI (d - 1)) (lv' := [(2, .int (nI (d - 1))), (0, .ref (a 0)), (1, .int (nI j24))]) dX11_takesRoom_34 2 rfl (dec_n (by omega)) (by decide) rfl rfl ?_
            refine x_goto C (tgt := 9) dX11_takesRoom_37 (by decide) ?_
            refine x_lv (lv1 := [(0, .ref (a 0)), (1, .int (nI j24)), (2, .int (nI (d - 1)))]) [1, 2, 0] rfl ?_
            exact ih9 (d - 1) trivial (by omega) (by omega)
        · skip
          obtain ⟨j39, hj40, ej41⟩ := nI_of (fun q => c37 (Int32.le_of_lt q))
          subst ej41
          refine x_aload_n C dX11_takesRoom_22 rfl 0 rfl rfl ?_
          refine x_get C (ci := 10) (k := 13) 0 k32 rfl in_X11 (by decide) w_398 rfl dX11_takesRoom_23 rfl ?_
          refine x_iload_n C dX11_takesRoom_26 rfl 2 rfl rfl ?_
          refine x_dup2 C dX11_takesRoom_27 rfl rfl rfl ?_
          refine x_iald C (v := (f35 (nI d).toNatClampNeg)) 107 k34 (vp_in_nI (by omega) (by decide)) rfl dX11_takesRoom_28 rfl ?_
          refine x_any (fun v42 => ?_)
          refine x_iconst C (v := 1) dX11_takesRoom_29 (by decide) rfl ?_
          refine x_isub C (v := (v42 - (1 : Int32))) dX11_takesRoom_30 rfl rfl ?_
          refine x_any (fun v43 => ?_)
          obtain ⟨w44, hw45⟩ : ∃ w : va_W, w = List.set ws 107 (iA E (a 107) 40 (upd f35 (nI d).toNatClampNeg v43)) := ⟨_, rfl⟩
          refine x_iast C 107 k34 (vp_in_nI (by omega) (by decide)) hw45.symm dX11_takesRoom_31 rfl ?_
          have hW46 : WX (okX E a) w44 := by rw [hw45]; exact hW.set (k := 107) rfl ⟨_, rfl⟩
          have k47 : w44[0]? = some (ob (a 0) 10 [.ref (a 1), .ref (a 3), .ref (a 5), .ref (a 27), .ref (a 49), .int v33, .ref (a 71), .ref (a 79), .ref (a 87), .ref (a 92), .ref (a 103), .ref (a 105), .ref (a 106), .ref (a 107), .ref (a 108), .ref (a 109), .ref (a 110), .ref (a 111), .ref (a 112)]) := by rw [hw45]; exact set_ne k32 (by decide)
          have k48 : w44[107]? = some (iA E (a 107) 40 (upd f35 (nI d).toNatClampNeg v43)) := by rw [hw45]; exact set_eq k34
          have kp49 := keeps_set kp0 hw45 (by first | exact rfl | decide | omega | (dsimp only; omega))
          refine x_iconst C (v := 1) dX11_takesRoom_32 (by decide) rfl ?_
          exact x_zret C hr hlk rfl dX11_takesRoom_33 ⟨hW46, kp49, (Or.inr rfl)⟩
  refine x_lv (lv1 := [(0, .ref (a 0)), (1, .int (nI j24)), (2, .int (nI (j24 - 1)))]) [1, 2, 0] rfl ?_
  exact loop9 _ (j24 - 1) trivial (Nat.lt_succ_self _) (by omega)
theorem dX11_before_0 : decode cX11_before 0 = .ok (.aload_n 0, 1) := by decide +kernel
theorem dX11_before_1 : decode cX11_before 1 = .ok (.getfield 22, 3) := by decide +kernel
theorem dX11_before_4 : decode cX11_before 4 = .ok (.getfield 92, 3) := by decide +kernel
theorem dX11_before_7 : decode cX11_before 7 = .ok (.iload_n 1, 1) := by decide +kernel
theorem dX11_before_8 : decode cX11_before 8 = .ok (.invokevirtual 106, 3) := by decide +kernel
theorem dX11_before_11 : decode cX11_before 11 = .ok (.ifCond .eq 23, 3) := by decide +kernel
theorem dX11_before_14 : decode cX11_before 14 = .ok (.iload_n 2, 1) := by decide +kernel
theorem dX11_before_15 : decode cX11_before 15 = .ok (.iconst 1, 1) := by decide +kernel
theorem dX11_before_16 : decode cX11_before 16 = .ok (.bipush 8, 2) := by decide +kernel
theorem dX11_before_18 : decode cX11_before 18 = .ok (.invokestatic 102, 3) := by decide +kernel
theorem dX11_before_21 : decode cX11_before 21 = .ok (.ifCond .eq 13, 3) := by decide +kernel
theorem dX11_before_24 : decode cX11_before 24 = .ok (.iload_n 3, 1) := by decide +kernel
theorem dX11_before_25 : decode cX11_before 25 = .ok (.iconst 1, 1) := by decide +kernel
theorem dX11_before_26 : decode cX11_before 26 = .ok (.bipush 40, 2) := by decide +kernel
theorem dX11_before_28 : decode cX11_before 28 = .ok (.invokestatic 102, 3) := by decide +kernel
theorem dX11_before_31 : decode cX11_before 31 = .ok (.ifCond .ne 5, 3) := by decide +kernel
theorem dX11_before_34 : decode cX11_before 34 = .ok (.iconst (-1), 1) := by decide +kernel
theorem dX11_before_35 : decode cX11_before 35 = .ok (.ireturn, 1) := by decide +kernel
theorem dX11_before_36 : decode cX11_before 36 = .ok (.aload_n 0, 1) := by decide +kernel
theorem dX11_before_37 : decode cX11_before 37 = .ok (.getfield 22, 3) := by decide +kernel
theorem dX11_before_40 : decode cX11_before 40 = .ok (.getfield 132, 3) := by decide +kernel
theorem dX11_before_43 : decode cX11_before 43 = .ok (.iload_n 1, 1) := by decide +kernel
theorem dX11_before_44 : decode cX11_before 44 = .ok (.aload_n 0, 1) := by decide +kernel
theorem dX11_before_45 : decode cX11_before 45 = .ok (.getfield 67, 3) := by decide +kernel
theorem dX11_before_48 : decode cX11_before 48 = .ok (.bipush 48, 2) := by decide +kernel
theorem dX11_before_50 : decode cX11_before 50 = .ok (.invokevirtual 247, 3) := by decide +kernel
theorem dX11_before_53 : decode cX11_before 53 = .ok (.istore 4, 2) := by decide +kernel
theorem dX11_before_55 : decode cX11_before 55 = .ok (.iconst 0, 1) := by decide +kernel
theorem dX11_before_56 : decode cX11_before 56 = .ok (.istore 5, 2) := by decide +kernel
theorem dX11_before_58 : decode cX11_before 58 = .ok (.iload 5, 2) := by decide +kernel
theorem dX11_before_60 : decode cX11_before 60 = .ok (.iload 4, 2) := by decide +kernel
theorem dX11_before_62 : decode cX11_before 62 = .ok (.if_icmp .ge 54, 3) := by decide +kernel
theorem dX11_before_65 : decode cX11_before 65 = .ok (.aload_n 0, 1) := by decide +kernel
theorem dX11_before_66 : decode cX11_before 66 = .ok (.aload_n 0, 1) := by decide +kernel
theorem dX11_before_67 : decode cX11_before 67 = .ok (.getfield 67, 3) := by decide +kernel
theorem dX11_before_70 : decode cX11_before 70 = .ok (.iload 5, 2) := by decide +kernel
theorem dX11_before_72 : decode cX11_before 72 = .ok (.iaload, 1) := by decide +kernel
theorem dX11_before_73 : decode cX11_before 73 = .ok (.invokevirtual 228, 3) := by decide +kernel
theorem dX11_before_76 : decode cX11_before 76 = .ok (.istore 6, 2) := by decide +kernel
theorem dX11_before_78 : decode cX11_before 78 = .ok (.aload_n 0, 1) := by decide +kernel
theorem dX11_before_79 : decode cX11_before 79 = .ok (.getfield 71, 3) := by decide +kernel
theorem dX11_before_82 : decode cX11_before 82 = .ok (.iload 5, 2) := by decide +kernel
theorem dX11_before_84 : decode cX11_before 84 = .ok (.iload 6, 2) := by decide +kernel
theorem dX11_before_86 : decode cX11_before 86 = .ok (.bipush (-2), 2) := by decide +kernel
theorem dX11_before_88 : decode cX11_before 88 = .ok (.if_icmp .ne 7, 3) := by decide +kernel
theorem dX11_before_91 : decode cX11_before 91 = .ok (.iload_n 3, 1) := by decide +kernel
theorem dX11_before_92 : decode cX11_before 92 = .ok (.goto 17, 3) := by decide +kernel
theorem dX11_before_95 : decode cX11_before 95 = .ok (.iload_n 3, 1) := by decide +kernel
theorem dX11_before_96 : decode cX11_before 96 = .ok (.iload 6, 2) := by decide +kernel
theorem dX11_before_98 : decode cX11_before 98 = .ok (.aload_n 0, 1) := by decide +kernel
theorem dX11_before_99 : decode cX11_before 99 = .ok (.getfield 22, 3) := by decide +kernel
theorem dX11_before_102 : decode cX11_before 102 = .ok (.getfield 273, 3) := by decide +kernel
theorem dX11_before_105 : decode cX11_before 105 = .ok (.isub, 1) := by decide +kernel
theorem dX11_before_106 : decode cX11_before 106 = .ok (.invokestatic 302, 3) := by decide +kernel
theorem dX11_before_109 : decode cX11_before 109 = .ok (.iastore, 1) := by decide +kernel
theorem dX11_before_110 : decode cX11_before 110 = .ok (.iinc 5 1, 3) := by decide +kernel
theorem dX11_before_113 : decode cX11_before 113 = .ok (.goto (-55), 3) := by decide +kernel
theorem dX11_before_116 : decode cX11_before 116 = .ok (.iconst 0, 1) := by decide +kernel
theorem dX11_before_117 : decode cX11_before 117 = .ok (.istore 5, 2) := by decide +kernel
theorem dX11_before_119 : decode cX11_before 119 = .ok (.iload 5, 2) := by decide +kernel
theorem dX11_before_121 : decode cX11_before 121 = .ok (.iload_n 3, 1) := by decide +kernel
theorem dX11_before_122 : decode cX11_before 122 = .ok (.if_icmp .ge 17, 3) := by decide +kernel
theorem dX11_before_125 : decode cX11_before 125 = .ok (.aload_n 0, 1) := by decide +kernel
theorem dX11_before_126 : decode cX11_before 126 = .ok (.getfield 74, 3) := by decide +kernel
theorem dX11_before_129 : decode cX11_before 129 = .ok (.iload 5, 2) := by decide +kernel
theorem dX11_before_131 : decode cX11_before 131 = .ok (.iload_n 2, 1) := by decide +kernel
theorem dX11_before_132 : decode cX11_before 132 = .ok (.iastore, 1) := by decide +kernel
theorem dX11_before_133 : decode cX11_before 133 = .ok (.iinc 5 1, 3) := by decide +kernel
theorem dX11_before_136 : decode cX11_before 136 = .ok (.goto (-17), 3) := by decide +kernel
theorem dX11_before_139 : decode cX11_before 139 = .ok (.iconst 0, 1) := by decide +kernel
theorem dX11_before_140 : decode cX11_before 140 = .ok (.istore 5, 2) := by decide +kernel
theorem dX11_before_142 : decode cX11_before 142 = .ok (.iconst 0, 1) := by decide +kernel
theorem dX11_before_143 : decode cX11_before 143 = .ok (.istore 6, 2) := by decide +kernel
theorem dX11_before_145 : decode cX11_before 145 = .ok (.iload 6, 2) := by decide +kernel
theorem dX11_before_147 : decode cX11_before 147 = .ok (.iload 4, 2) := by decide +kernel
theorem dX11_before_149 : decode cX11_before 149 = .ok (.if_icmp .ge 79, 3) := by decide +kernel
theorem dX11_before_152 : decode cX11_before 152 = .ok (.aload_n 0, 1) := by decide +kernel
theorem dX11_before_153 : decode cX11_before 153 = .ok (.iload 4, 2) := by decide +kernel
theorem dX11_before_155 : decode cX11_before 155 = .ok (.invokevirtual 308, 3) := by decide +kernel
theorem dX11_before_158 : decode cX11_before 158 = .ok (.istore 7, 2) := by decide +kernel
theorem dX11_before_160 : decode cX11_before 160 = .ok (.iload 7, 2) := by decide +kernel
theorem dX11_before_162 : decode cX11_before 162 = .ok (.iconst 0, 1) := by decide +kernel
theorem dX11_before_163 : decode cX11_before 163 = .ok (.iload 4, 2) := by decide +kernel
theorem dX11_before_165 : decode cX11_before 165 = .ok (.iconst 1, 1) := by decide +kernel
theorem dX11_before_166 : decode cX11_before 166 = .ok (.isub, 1) := by decide +kernel
theorem dX11_before_167 : decode cX11_before 167 = .ok (.invokestatic 102, 3) := by decide +kernel
theorem dX11_before_170 : decode cX11_before 170 = .ok (.ifCond .eq 52, 3) := by decide +kernel
theorem dX11_before_173 : decode cX11_before 173 = .ok (.iload 5, 2) := by decide +kernel
theorem dX11_before_175 : decode cX11_before 175 = .ok (.aload_n 0, 1) := by decide +kernel
theorem dX11_before_176 : decode cX11_before 176 = .ok (.aload_n 0, 1) := by decide +kernel
theorem dX11_before_177 : decode cX11_before 177 = .ok (.getfield 71, 3) := by decide +kernel
theorem dX11_before_180 : decode cX11_before 180 = .ok (.iload 7, 2) := by decide +kernel
theorem dX11_before_182 : decode cX11_before 182 = .ok (.iaload, 1) := by decide +kernel
theorem dX11_before_183 : decode cX11_before 183 = .ok (.invokevirtual 311, 3) := by decide +kernel
theorem dX11_before_186 : decode cX11_before 186 = .ok (.ifCond .eq 24, 3) := by decide +kernel
theorem dX11_before_189 : decode cX11_before 189 = .ok (.aload_n 0, 1) := by decide +kernel
theorem dX11_before_190 : decode cX11_before 190 = .ok (.getfield 22, 3) := by decide +kernel
theorem dX11_before_193 : decode cX11_before 193 = .ok (.getfield 132, 3) := by decide +kernel
theorem dX11_before_196 : decode cX11_before 196 = .ok (.getfield 210, 3) := by decide +kernel
theorem dX11_before_199 : decode cX11_before 199 = .ok (.aload_n 0, 1) := by decide +kernel
theorem dX11_before_200 : decode cX11_before 200 = .ok (.getfield 67, 3) := by decide +kernel
theorem dX11_before_203 : decode cX11_before 203 = .ok (.iload 7, 2) := by decide +kernel
theorem dX11_before_205 : decode cX11_before 205 = .ok (.iaload, 1) := by decide +kernel
theorem dX11_before_206 : decode cX11_before 206 = .ok (.iaload, 1) := by decide +kernel
theorem dX11_before_207 : decode cX11_before 207 = .ok (.goto 4, 3) := by decide +kernel
theorem dX11_before_210 : decode cX11_before 210 = .ok (.iconst 0, 1) := by decide +kernel
theorem dX11_before_211 : decode cX11_before 211 = .ok (.iadd, 1) := by decide +kernel
theorem dX11_before_212 : decode cX11_before 212 = .ok (.istore 5, 2) := by decide +kernel
theorem dX11_before_214 : decode cX11_before 214 = .ok (.aload_n 0, 1) := by decide +kernel
theorem dX11_before_215 : decode cX11_before 215 = .ok (.getfield 67, 3) := by decide +kernel
theorem dX11_before_218 : decode cX11_before 218 = .ok (.iload 7, 2) := by decide +kernel
theorem dX11_before_220 : decode cX11_before 220 = .ok (.iconst (-1), 1) := by decide +kernel
theorem dX11_before_221 : decode cX11_before 221 = .ok (.iastore, 1) := by decide +kernel
theorem dX11_before_222 : decode cX11_before 222 = .ok (.iinc 6 1, 3) := by decide +kernel
theorem dX11_before_225 : decode cX11_before 225 = .ok (.goto (-80), 3) := by decide +kernel
theorem dX11_before_228 : decode cX11_before 228 = .ok (.iload 5, 2) := by decide +kernel
theorem dX11_before_230 : decode cX11_before 230 = .ok (.ireturn, 1) := by decide +kernel
set_option maxRecDepth 20000 in
set_option maxHeartbeats 4000000 in
theorem c_before (E : xE) (l : Launch) (a : Nat → Nat) (ws : va_W) (hW : WX (okX E a) ws) (p0 : Int32) (p1 : Int32) (p2 : Int32) (hB : HB E) : xI E l yX11_before cX11_before 8 (some .int) 8 [.ref (a 0), .int p0, .int p1, .int p2] ws (fun r w => WX (okX E a) w ∧ keeps ws w (fun q => ¬ (q = 0 ∨ q = 6 ∨ q = 9 ∨ q = 28 ∨ q = 31))) := by
  refine xI_start (lv := [(0, .ref (a 0)), (1, .int p0), (2, .int p1), (3, .int p2)]) RX11 (by decide) rfl (Nat.le_of_ble_eq_true rfl) rfl (fun p e s m below meth c A C hr hlk => ?_)
  have kp0 : keeps ws ws (fun q => ¬ (q = 0 ∨ q = 6 ∨ q = 9 ∨ q = 28 ∨ q = 31)) := keeps_rf
  refine x_aload_n C dX11_before_0 rfl 0 rfl rfl ?_
  obtain ⟨_, k1, v2, rfl⟩ := hW 0 _ rfl
  refine x_get C (ci := 10) (k := 2) 0 k1 rfl in_X11 (by decide) w_387 rfl dX11_before_1 rfl ?_
  obtain ⟨_, k3, n4, v6, v7, v8, v9, v10, bn5, rfl⟩ := hW 5 _ rfl
  refine x_get C (ci := 8) (k := 3) 5 k3 rfl in_X9 (by decide) w_204 rfl dX11_before_4 rfl ?_
  refine x_iload_n C dX11_before_7 rfl 1 rfl rfl ?_
  obtain ⟨_, k11, v12, rfl⟩ := hW 9 _ rfl
  refine x_vi C (As := [.int p0]) (rest := []) (c_People_isTold E l a ws hW 5 (Or.inl rfl) p0) mf_X5_isTold w_465 9 k11 rfl rfl rfl (Nat.le_of_ble_eq_true rfl) ⟨(Nat.le_of_ble_eq_true rfl), (Nat.le_of_ble_eq_true rfl)⟩ ⟨(Nat.le_of_ble_eq_true rfl), (Nat.le_of_ble_eq_true rfl)⟩ dX11_before_8 rfl (fun r14 w15 h13 => ?_)
  obtain ⟨hW16, zb17, x18⟩ := h13
  refine x_ws hW16 ?_
  refine x_if_eq C (tgt := 34) dX11_before_11 (by decide) rfl (fun c19 => ?_) (fun c19 => ?_)
  · skip
    refine x_iconst C (v := (-1)) dX11_before_34 (by decide) rfl ?_
    exact x_zret C hr hlk rfl dX11_before_35 ⟨hW, kp0⟩
  · skip
    obtain ⟨j20, hl21, hh22, ej23⟩ := w_nat (a := 0) (b := 7) (by decide) (by decide) (x18 c19)
    subst ej23
    refine x_iload_n C dX11_before_14 rfl 2 rfl rfl ?_
    refine x_iconst C (v := 1) dX11_before_15 (by decide) rfl ?_
    refine x_bipush C (v := 8) dX11_before_16 (by decide) rfl ?_
    refine x_si C (As := [.int p1, .int 1, .int 8]) (rest := []) (c_isWithin E l a ws hW p1 (1 : Int32) (8 : Int32)) mf_X11_isWithin w_462 rfl rfl (Nat.le_of_ble_eq_true rfl) ⟨(Nat.le_of_ble_eq_true rfl), (Nat.le_of_ble_eq_true rfl)⟩ ⟨(Nat.le_of_ble_eq_true rfl), (Nat.le_of_ble_eq_true rfl)⟩ dX11_before_18 rfl (fun r25 w26 h24 => ?_)
    obtain ⟨hW27, zb28, x29⟩ := h24
    refine x_ws hW27 ?_
    refine x_if_eq C (tgt := 34) dX11_before_21 (by decide) rfl (fun c30 => ?_) (fun c30 => ?_)
    · skip
      refine x_iconst C (v := (-1)) dX11_before_34 (by decide) rfl ?_
      exact x_zret C hr hlk rfl dX11_before_35 ⟨hW, kp0⟩
    · skip
      obtain ⟨j31, hl32, hh33, ej34⟩ := w_nat (a := 1) (b := 8) (by decide) (by decide) (x29 c30)
      subst ej34
      refine x_iload_n C dX11_before_24 rfl 3 rfl rfl ?_
      refine x_iconst C (v := 1) dX11_before_25 (by decide) rfl ?_
      refine x_bipush C (v := 40) dX11_before_26 (by decide) rfl ?_
      refine x_si C (As := [.int p2, .int 1, .int 40]) (rest := []) (c_isWithin E l a ws hW p2 (1 : Int32) (40 : Int32)) mf_X11_isWithin w_462 rfl rfl (Nat.le_of_ble_eq_true rfl) ⟨(Nat.le_of_ble_eq_true rfl), (Nat.le_of_ble_eq_true rfl)⟩ ⟨(Nat.le_of_ble_eq_true rfl), (Nat.le_of_ble_eq_true rfl)⟩ dX11_before_28 rfl (fun r36 w37 h35 => ?_)
      obtain ⟨hW38, zb39, x40⟩ := h35
      refine x_ws hW38 ?_
      refine x_if_ne C (tgt := 36) dX11_before_31 (by decide) rfl (fun c41 => ?_) (fun c41 => ?_)
      · skip
        obtain ⟨j42, hl43, hh44, ej45⟩ := w_nat (a := 1) (b := 40) (by decide) (by decide) (x40 c41)
        subst ej45
        refine x_aload_n C dX11_before_36 rfl 0 rfl rfl ?_
        refine x_get C (ci := 10) (k := 2) 0 k1 rfl in_X11 (by decide) w_387 rfl dX11_before_37 rfl ?_
        refine x_get C (ci := 8) (k := 4) 5 k3 rfl in_X9 (by decide) w_209 rfl dX11_before_40 rfl ?_
        refine x_iload_n C dX11_before_43 rfl 1 rfl rfl ?_
        refine x_aload_n C dX11_before_44 rfl 0 rfl rfl ?_
        refine x_get C (ci := 10) (k := 11) 0 k1 rfl in_X11 (by decide) w_396 rfl dX11_before_45 rfl ?_
        refine x_bipush C (v := 48) dX11_before_48 (by decide) rfl ?_
        obtain ⟨_, k46, n47, bn48, rfl⟩ := hW 14 _ rfl
        refine x_vi C (As := [.int (nI j20), .ref (a 105), .int 48]) (rest := []) (c_wholeOfC E l a ws hW 5 (Or.inl rfl) ((nI j20))) mf_X1_wholeOf w_871 14 k46 rfl rfl rfl (Nat.le_of_ble_eq_true rfl) ⟨(Nat.le_of_ble_eq_true rfl), (Nat.le_of_ble_eq_true rfl)⟩ ⟨(Nat.le_of_ble_eq_true rfl), (Nat.le_of_ble_eq_true rfl)⟩ dX11_before_50 rfl (fun r50 w51 h49 => ?_)
        obtain ⟨hW52, kq53, ⟨m55, bm56, e54⟩, x57⟩ := h49
        refine x_top e54 ?_
        have k58 : w51[0]? = some (ob (a 0) 10 [.ref (a 1), .ref (a 3), .ref (a 5), .ref (a 27), .ref (a 49), .int v2, .ref (a 71), .ref (a 79), .ref (a 87), .ref (a 92), .ref (a 103), .ref (a 105), .ref (a 106), .ref (a 107), .ref (a 108), .ref (a 109), .ref (a 110), .ref (a 111), .ref (a 112)]) := keeps_at kq53 k1 (by first | decide | omega | (dsimp only; omega))
        have k59 : w51[5]? = some (ob (a 5) 8 [.int (nI n4), .int v6, .ref (a 6), .ref (a 9), .ref (a 14), .ref (a 21), .int v7, .int v8, .int v9, .int v10]) := keeps_at kq53 k3 (by first | decide | omega | (dsimp only; omega))
        have k60 : w51[9]? = some (ob (a 9) 4 [.int v12, .ref (a 10), .ref (a 11), .ref (a 12), .ref (a 13)]) := keeps_at kq53 k11 (by first | decide | omega | (dsimp only; omega))
        have k61 : w51[14]? = some (ob (a 14) 1 [.int (nI n47), .ref (a 15), .ref (a 16), .ref (a 17), .ref (a 18), .ref (a 19), .ref (a 20)]) := keeps_at kq53 k46 (by first | decide | omega | (dsimp only; omega))
        have kp62 := keeps_tr kp0 kq53 (fun q hq => by first | omega | (dsimp only at *; omega))
        obtain ⟨fh63, kh64, hh65⟩ := x57 m55 bm56 e54
        obtain ⟨_, k66, f67, rfl⟩ := hW52 106 _ rfl
        refine x_istore C (lv' := [(4, .int (nI m55)), (0, .ref (a 0)), (1, .int (nI j20)), (2, .int (nI j31)), (3, .int (nI j42))]) dX11_before_53 (by decide) rfl rfl ?_
        refine x_iconst C (v := 0) dX11_before_55 (by decide) rfl ?_
        refine x_istore C (lv' := [(5, .int 0), (4, .int (nI m55)), (0, .ref (a 0)), (1, .int (nI j20)), (2, .int (nI j31)), (3, .int (nI j42))]) dX11_before_56 (by decide) rfl rfl ?_
        have loop58 : ∀ (fu58 : Nat) (k : Nat) (wl58 : va_W), WX (okX E a) wl58 → 48 - k < fu58 → k ≤ 48 → hK E a wl58 m55 → lK E a wl58 k → keeps ws wl58 (fun q => ¬ (q = 0 ∨ q = 6 ∨ q = 9 ∨ q = 28 ∨ q = 31)) → X E p l e (xRm 8 0 0) s m ([.ref (a 0), .int (nI j20), .int (nI j31), .int (nI j42)] : List Value).toArray below meth c A 8 0 0 (MQ below (va_Qi (fun r w => WX (okX E a) w ∧ keeps ws w (fun q => ¬ (q = 0 ∨ q = 6 ∨ q = 9 ∨ q = 28 ∨ q = 31))) (xB E A) A) ([.ref (a 0), .int (nI j20), .int (nI j31), .int (nI j42)] : List Value).toArray s 0 0 A) wl58 58 [(0, .ref (a 0)), (1, .int (nI j20)), (2, .int (nI j31)), (3, .int (nI j42)), (4, .int (nI m55)), (5, .int (nI k))] [] := by
          intro fu58
          induction fu58 with
          | zero => intro k wl58 _ q; omega
          | succ fu58 ih58 =>
            intro k wl58 hWl58 me58 iv58_0 iv58_1 iv58_2 kq58
            obtain ⟨fh68, kh69, hh70⟩ := iv58_1
            obtain ⟨fl71, kl72, hl73⟩ := iv58_2
            refine x_iload C dX11_before_58 5 rfl rfl ?_
            refine x_iload C dX11_before_60 4 rfl rfl ?_
            refine x_icmp_ge C (tgt := 116) dX11_before_62 (by decide) rfl (fun c74 => ?_) (fun c74 => ?_)
            · skip
              have nf75 := nI_le' (a := m55) (b := k) c74 (by omega) (by omega)
              refine x_iconst C (v := 0) dX11_before_116 (by decide) rfl ?_
              refine x_istore C (lv' := [(5, .int 0), (0, .ref (a 0)), (1, .int (nI j20)), (2, .int (nI j31)), (3, .int (nI j42)), (4, .int (nI m55))]) dX11_before_117 (by decide) rfl rfl ?_
              have loop119 : ∀ (fu119 : Nat) (d : Nat) (wl119 : va_W), WX (okX E a) wl119 → 40 - d < fu119 → d ≤ 40 → lK E a wl119 m55 → keeps ws wl119 (fun q => ¬ (q = 0 ∨ q = 6 ∨ q = 9 ∨ q = 28 ∨ q = 31)) → X E p l e (xRm 8 0 0) s m ([.ref (a 0), .int (nI j20), .int (nI j31), .int (nI j42)] : List Value).toArray below meth c A 8 0 0 (MQ below (va_Qi (fun r w => WX (okX E a) w ∧ keeps ws w (fun q => ¬ (q = 0 ∨ q = 6 ∨ q = 9 ∨ q = 28 ∨ q = 31))) (xB E A) A) ([.ref (a 0), .int (nI j20), .int (nI j31), .int (nI j42)] : List Value).toArray s 0 0 A) wl119 119 [(0, .ref (a 0)), (1, .int (nI j20)), (2, .int (nI j31)), (3, .int (nI j42)), (4, .int (nI m55)), (5, .int (nI d))] [] := by
                intro fu119
                induction fu119 with
                | zero => intro d wl119 _ q; omega
                | succ fu119 ih119 =>
                  intro d wl119 hWl119 me119 iv119_0 iv119_1 kq119
                  obtain ⟨fl76, kl77, hl78⟩ := iv119_1
                  refine x_iload C dX11_before_119 5 rfl rfl ?_
                  refine x_iload_n C dX11_before_121 rfl 3 rfl rfl ?_
                  refine x_icmp_ge C (tgt := 139) dX11_before_122 (by decide) rfl (fun c79 => ?_) (fun c79 => ?_)
                  · skip
                    have nf80 := nI_le' (a := j42) (b := d) c79 (by omega) (by omega)
                    refine x_iconst C (v := 0) dX11_before_139 (by decide) rfl ?_
                    refine x_istore C (lv' := [(5, .int 0), (0, .ref (a 0)), (1, .int (nI j20)), (2, .int (nI j31)), (3, .int (nI j42)), (4, .int (nI m55))]) dX11_before_140 (by decide) rfl rfl ?_
                    refine x_iconst C (v := 0) dX11_before_142 (by decide) rfl ?_
                    refine x_istore C (lv' := [(6, .int 0), (5, .int 0), (0, .ref (a 0)), (1, .int (nI j20)), (2, .int (nI j31)), (3, .int (nI j42)), (4, .int (nI m55))]) dX11_before_143 (by decide) rfl rfl ?_
                    have loop145 : ∀ (fu145 : Nat) (z145_5 : Int32) (mm : Nat) (wl145 : va_W), WX (okX E a) wl145 → 48 - mm < fu145 → mm ≤ 48 → lK E a wl145 m55 → keeps ws wl145 (fun q => ¬ (q = 0 ∨ q = 6 ∨ q = 9 ∨ q = 28 ∨ q = 31)) → X E p l e (xRm 8 0 0) s m ([.ref (a 0), .int (nI j20), .int (nI j31), .int (nI j42)] : List Value).toArray below meth c A 8 0 0 (MQ below (va_Qi (fun r w => WX (okX E a) w ∧ keeps ws w (fun q => ¬ (q = 0 ∨ q = 6 ∨ q = 9 ∨ q = 28 ∨ q = 31))) (xB E A) A) ([.ref (a 0), .int (nI j20), .int (nI j31), .int (nI j42)] : List Value).toArray s 0 0 A) wl145 145 [(0, .ref (a 0)), (1, .int (nI j20)), (2, .int (nI j31)), (3, .int (nI j42)), (4, .int (nI m55)), (5, .int z145_5), (6, .int (nI mm))] [] := by
                      intro fu145
                      induction fu145 with
                      | zero => intro z145_5 mm wl145 _ q; omega
                      | succ fu145 ih145 =>
                        intro z145_5 mm wl145 hWl145 me145 iv145_0 iv145_1 kq145
                        obtain ⟨fl81, kl82, hl83⟩ := iv145_1
                        refine x_iload C dX11_before_145 6 rfl rfl ?_
                        refine x_iload C dX11_before_147 4 rfl rfl ?_
                        refine x_icmp_ge C (tgt := 228) dX11_before_149 (by decide) rfl (fun c84 => ?_) (fun c84 => ?_)
                        · skip
                          have nf85 := nI_le' (a := m55) (b := mm) c84 (by omega) (by omega)
                          refine x_iload C dX11_before_228 5 rfl rfl ?_
                          exact x_zret C hr hlk rfl dX11_before_230 ⟨hWl145, kq145⟩
                        · skip
                          have nf86 := nI_nle' (a := m55) (b := mm) c84 (by omega) (by omega)
                          obtain ⟨_, k87, f88, rfl⟩ := hWl145 105 _ rfl
                          refine x_aload_n C dX11_before_152 rfl 0 rfl rfl ?_
                          refine x_iload C dX11_before_153 4 rfl rfl ?_
                          obtain ⟨_, k89, v90, rfl⟩ := hWl145 0 _ rfl
                          refine x_vi C (As := [.int (nI m55)]) (rest := []) (c_mostMinutes E l a wl145 hWl145 m55 (by omega) f88 k87) mf_X11_mostMinutes w_959 0 k89 rfl rfl rfl (Nat.le_of_ble_eq_true rfl) ⟨(Nat.le_of_ble_eq_true rfl), (Nat.le_of_ble_eq_true rfl)⟩ ⟨(Nat.le_of_ble_eq_true rfl), (Nat.le_of_ble_eq_true rfl)⟩ dX11_before_155 rfl (fun r92 w93 h91 => ?_)
                          obtain ⟨hW94, x95⟩ := h91
                          refine x_ws hW94 ?_
                          rcases x95 with e96 | ⟨j97, i98, hj99, hi100, ej101, ei102⟩
                          · refine x_top e96 ?_
                            refine x_istore C (lv' := [(7, .int (-1)), (0, .ref (a 0)), (1, .int (nI j20)), (2, .int (nI j31)), (3, .int (nI j42)), (4, .int (nI m55)), (5, .int z145_5), (6, .int (nI mm))]) dX11_before_158 (by decide) rfl rfl ?_
                            refine x_iload C dX11_before_160 0 rfl rfl ?_
                            refine x_iconst C (v := 0) dX11_before_162 (by decide) rfl ?_
                            refine x_iload C dX11_before_163 5 rfl rfl ?_
                            refine x_iconst C (v := 1) dX11_before_165 (by decide) rfl ?_
                            refine x_isub C (v := ((nI m55) - 1)) dX11_before_166 rfl rfl ?_
                            refine x_si C (As := [.int (-1), .int 0, .int ((nI m55) - 1)]) (rest := []) (c_isWithin E l a wl145 hWl145 ((-1) : Int32) (0 : Int32) (((nI m55) - 1))) mf_X11_isWithin w_462 rfl rfl (Nat.le_of_ble_eq_true rfl) ⟨(Nat.le_of_ble_eq_true rfl), (Nat.le_of_ble_eq_true rfl)⟩ ⟨(Nat.le_of_ble_eq_true rfl), (Nat.le_of_ble_eq_true rfl)⟩ dX11_before_167 rfl (fun r104 w105 h103 => ?_)
                            obtain ⟨hW106, zb107, x108⟩ := h103
                            refine x_ws hW106 ?_
                            refine x_if_eq C (tgt := 222) dX11_before_170 (by decide) rfl (fun _ => ?_) (fun h => absurd (by decide : (-1 : Int32) < 0) (x108 h).1)
                            refine x_iinc C (v := (nI (mm + 1))) (lv' := [(6, .int (nI (mm + 1))), (7, .int (-1)), (0, .ref (a 0)), (1, .int (nI j20)), (2, .int (nI j31)), (3, .int (nI j42)), (4, .int (nI m55)), (5, .int z145_5)]) dX11_before_222 7 rfl (nI_add mm 1) (by decide) rfl rfl ?_
                            refine x_goto C (tgt := 145) dX11_before_225 (by decide) ?_
                            refine x_lv (lv1 := [(0, .ref (a 0)), (1, .int (nI j20)), (2, .int (nI j31)), (3, .int (nI j42)), (4, .int (nI m55)), (5, .int z145_5), (6, .int (nI (mm + 1)))]) [2, 3, 4, 5, 6, 7, 0] rfl ?_
                            exact ih145 z145_5 (mm + 1) wl145 hWl145 (by omega) (by omega) ⟨_, kl82, hl83⟩ kq145
                          · refine x_top ej101 ?_
                            refine x_istore C (lv' := [(7, .int (nI j97)), (0, .ref (a 0)), (1, .int (nI j20)), (2, .int (nI j31)), (3, .int (nI j42)), (4, .int (nI m55)), (5, .int z145_5), (6, .int (nI mm))]) dX11_before_158 (by decide) rfl rfl ?_
                            refine x_iload C dX11_before_160 0 rfl rfl ?_
                            refine x_iconst C (v := 0) dX11_before_162 (by decide) rfl ?_
                            refine x_iload C dX11_before_163 5 rfl rfl ?_
                            refine x_iconst C (v := 1) dX11_before_165 (by decide) rfl ?_
                            refine x_isub C (v := (nI (m55 - 1))) dX11_before_166 (pk_sub (a := m55) (b := 1) (by omega)) rfl ?_
                            refine x_si C (As := [.int (nI j97), .int 0, .int (nI (m55 - 1))]) (rest := []) (c_isWithin E l a wl145 hWl145 ((nI j97)) (0 : Int32) ((nI (m55 - 1)))) mf_X11_isWithin w_462 rfl rfl (Nat.le_of_ble_eq_true rfl) ⟨(Nat.le_of_ble_eq_true rfl), (Nat.le_of_ble_eq_true rfl)⟩ ⟨(Nat.le_of_ble_eq_true rfl), (Nat.le_of_ble_eq_true rfl)⟩ dX11_before_167 rfl (fun r110 w111 h109 => ?_)
                            obtain ⟨hW112, zb113, x114⟩ := h109
                            refine x_ws hW112 ?_
                            refine x_if_eq C (tgt := 222) dX11_before_170 (by decide) rfl (fun c115 => ?_) (fun c115 => ?_)
                            · skip
                              refine x_iinc C (v := (nI (mm + 1))) (lv' := [(6, .int (nI (mm + 1))), (7, .int (nI j97)), (0, .ref (a 0)), (1, .int (nI j20)), (2, .int (nI j31)), (3, .int (nI j42)), (4, .int (nI m55)), (5, .int z145_5)]) dX11_before_222 7 rfl (nI_add mm 1) (by decide) rfl rfl ?_
                              refine x_goto C (tgt := 145) dX11_before_225 (by decide) ?_
                              refine x_lv (lv1 := [(0, .ref (a 0)), (1, .int (nI j20)), (2, .int (nI j31)), (3, .int (nI j42)), (4, .int (nI m55)), (5, .int z145_5), (6, .int (nI (mm + 1)))]) [2, 3, 4, 5, 6, 7, 0] rfl ?_
                              exact ih145 z145_5 (mm + 1) wl145 hWl145 (by omega) (by omega) ⟨_, kl82, hl83⟩ kq145
                            · skip
                              have wi116 := x114 c115
                              refine x_iload C dX11_before_173 6 rfl rfl ?_
                              refine x_aload_n C dX11_before_175 rfl 1 rfl rfl ?_
                              refine x_aload_n C dX11_before_176 rfl 1 rfl rfl ?_
                              refine x_get C (ci := 10) (k := 12) 0 k89 rfl in_X11 (by decide) w_397 rfl dX11_before_177 rfl ?_
                              refine x_iload C dX11_before_180 0 rfl rfl ?_
                              refine x_ialk C (v := (fl81 j97)) j97 (nI_clamp (by omega)) (nI_pos (by omega)) (by omega) 106 kl82 rfl dX11_before_182 rfl ?_
                              obtain ⟨x117, hx118, ex119⟩ : ∃ x : Int32, -20000 ≤ x.toInt ∧ (fl81 j97) = x := ⟨_, hl83 j97 (by omega), rfl⟩
                              refine x_top ex119 ?_
                              refine x_vi C (As := [.int x117]) (rest := [.int z145_5]) (c_takesRoom E l a wl145 hWl145 x117 hx118) mf_X11_takesRoom w_963 0 k89 rfl rfl rfl (Nat.le_of_ble_eq_true rfl) ⟨(Nat.le_of_ble_eq_true rfl), (Nat.le_of_ble_eq_true rfl)⟩ ⟨(Nat.le_of_ble_eq_true rfl), (Nat.le_of_ble_eq_true rfl)⟩ dX11_before_183 rfl (fun r121 w122 h120 => ?_)
                              obtain ⟨hW123, kq124, zb125⟩ := h120
                              have k126 : w122[106]? = some (iA E (a 106) 48 fl81) := keeps_at kq124 kl82 (by first | decide | omega | (dsimp only; omega))
                              have k127 : w122[105]? = some (iA E (a 105) 48 f88) := keeps_at kq124 k87 (by first | decide | omega | (dsimp only; omega))
                              have k128 : w122[0]? = some (ob (a 0) 10 [.ref (a 1), .ref (a 3), .ref (a 5), .ref (a 27), .ref (a 49), .int v90, .ref (a 71), .ref (a 79), .ref (a 87), .ref (a 92), .ref (a 103), .ref (a 105), .ref (a 106), .ref (a 107), .ref (a 108), .ref (a 109), .ref (a 110), .ref (a 111), .ref (a 112)]) := keeps_at kq124 k89 (by first | decide | omega | (dsimp only; omega))
                              have kp129 := keeps_tr kq145 kq124 (fun q hq => by first | omega | (dsimp only at *; omega))
                              refine x_if_eq C (tgt := 210) dX11_before_186 (by decide) rfl (fun c130 => ?_) (fun c130 => ?_)
                              · skip
                                refine x_iconst C (v := 0) dX11_before_210 (by decide) rfl ?_
                                refine x_iadd C (v := (z145_5 + (0 : Int32))) dX11_before_211 rfl rfl ?_
                                refine x_any (fun v131 => ?_)
                                refine x_istore C (lv' := [(5, .int v131), (7, .int (nI j97)), (0, .ref (a 0)), (1, .int (nI j20)), (2, .int (nI j31)), (3, .int (nI j42)), (4, .int (nI m55)), (6, .int (nI mm))]) dX11_before_212 (by decide) rfl rfl ?_
                                refine x_aload_n C dX11_before_214 rfl 2 rfl rfl ?_
                                refine x_get C (ci := 10) (k := 11) 0 k128 rfl in_X11 (by decide) w_396 rfl dX11_before_215 rfl ?_
                                refine x_iload C dX11_before_218 1 rfl rfl ?_
                                refine x_iconst C (v := (-1)) dX11_before_220 (by decide) rfl ?_
                                obtain ⟨w132, hw133⟩ : ∃ w : va_W, w = List.set w122 105 (iA E (a 105) 48 (upd f88 (nI j97).toNatClampNeg (-1))) := ⟨_, rfl⟩
                                refine x_iast C 105 k127 (vp_in_nI (by omega) (by decide)) hw133.symm dX11_before_221 rfl ?_
                                have hW134 : WX (okX E a) w132 := by rw [hw133]; exact hW123.set (k := 105) rfl ⟨_, rfl⟩
                                have k135 : w132[106]? = some (iA E (a 106) 48 fl81) := by rw [hw133]; exact set_ne k126 (by decide)
                                have k136 : w132[105]? = some (iA E (a 105) 48 (upd f88 (nI j97).toNatClampNeg (-1))) := by rw [hw133]; exact set_eq k127
                                have k137 : w132[0]? = some (ob (a 0) 10 [.ref (a 1), .ref (a 3), .ref (a 5), .ref (a 27), .ref (a 49), .int v90, .ref (a 71), .ref (a 79), .ref (a 87), .ref (a 92), .ref (a 103), .ref (a 105), .ref (a 106), .ref (a 107), .ref (a 108), .ref (a 109), .ref (a 110), .ref (a 111), .ref (a 112)]) := by rw [hw133]; exact set_ne k128 (by decide)
                                have kp138 := keeps_set kp129 hw133 (by first | exact rfl | decide | omega | (dsimp only; omega))
                                refine x_iinc C (v := (nI (mm + 1))) (lv' := [(6, .int (nI (mm + 1))), (5, .int v131), (7, .int (nI j97)), (0, .ref (a 0)), (1, .int (nI j20)), (2, .int (nI j31)), (3, .int (nI j42)), (4, .int (nI m55))]) dX11_before_222 7 rfl (nI_add mm 1) (by decide) rfl rfl ?_
                                refine x_goto C (tgt := 145) dX11_before_225 (by decide) ?_
                                refine x_lv (lv1 := [(0, .ref (a 0)), (1, .int (nI j20)), (2, .int (nI j31)), (3, .int (nI j42)), (4, .int (nI m55)), (5, .int v131), (6, .int (nI (mm + 1)))]) [3, 4, 5, 6, 7, 1, 0] rfl ?_
                                exact ih145 v131 (mm + 1) w132 hW134 (by omega) (by omega) ⟨_, k135, hl83⟩ kp138
                              · skip
                                refine x_aload_n C dX11_before_189 rfl 1 rfl rfl ?_
                                refine x_get C (ci := 10) (k := 2) 0 k128 rfl in_X11 (by decide) w_387 rfl dX11_before_190 rfl ?_
                                obtain ⟨_, k139, n140, v142, v143, v144, v145, v146, bn141, rfl⟩ := hW123 5 _ rfl
                                refine x_get C (ci := 8) (k := 4) 5 k139 rfl in_X9 (by decide) w_209 rfl dX11_before_193 rfl ?_
                                obtain ⟨_, k147, n148, bn149, rfl⟩ := hW123 14 _ rfl
                                refine x_get C (ci := 1) (k := 1) 14 k147 rfl in_X1 (by decide) w_126 rfl dX11_before_196 rfl ?_
                                refine x_aload_n C dX11_before_199 rfl 1 rfl rfl ?_
                                refine x_get C (ci := 10) (k := 11) 0 k128 rfl in_X11 (by decide) w_396 rfl dX11_before_200 rfl ?_
                                refine x_iload C dX11_before_203 0 rfl rfl ?_
                                refine x_ialk C (v := (f88 j97)) j97 (nI_clamp (by omega)) (nI_pos (by omega)) (by omega) 105 k127 rfl dX11_before_205 rfl ?_
                                refine x_top ei102 ?_
                                obtain ⟨_, k150, f151, rfl⟩ := hW123 15 _ rfl
                                refine x_iald C (v := (f151 (nI i98).toNatClampNeg)) 15 k150 (vp_in_nI (by omega) (by decide)) rfl dX11_before_206 rfl ?_
                                refine x_any (fun v152 => ?_)
                                refine x_goto C (tgt := 211) dX11_before_207 (by decide) ?_
                                refine x_iadd C (v := (z145_5 + v152)) dX11_before_211 rfl rfl ?_
                                refine x_any (fun v153 => ?_)
                                refine x_istore C (lv' := [(5, .int v153), (7, .int (nI j97)), (0, .ref (a 0)), (1, .int (nI j20)), (2, .int (nI j31)), (3, .int (nI j42)), (4, .int (nI m55)), (6, .int (nI mm))]) dX11_before_212 (by decide) rfl rfl ?_
                                refine x_aload_n C dX11_before_214 rfl 2 rfl rfl ?_
                                refine x_get C (ci := 10) (k := 11) 0 k128 rfl in_X11 (by decide) w_396 rfl dX11_before_215 rfl ?_
                                refine x_iload C dX11_before_218 1 rfl rfl ?_
                                refine x_iconst C (v := (-1)) dX11_before_220 (by decide) rfl ?_
                                obtain ⟨w154, hw155⟩ : ∃ w : va_W, w = List.set w122 105 (iA E (a 105) 48 (upd f88 (nI j97).toNatClampNeg (-1))) := ⟨_, rfl⟩
                                refine x_iast C 105 k127 (vp_in_nI (by omega) (by decide)) hw155.symm dX11_before_221 rfl ?_
                                have hW156 : WX (okX E a) w154 := by rw [hw155]; exact hW123.set (k := 105) rfl ⟨_, rfl⟩
                                have k157 : w154[106]? = some (iA E (a 106) 48 fl81) := by rw [hw155]; exact set_ne k126 (by decide)
                                have k158 : w154[105]? = some (iA E (a 105) 48 (upd f88 (nI j97).toNatClampNeg (-1))) := by rw [hw155]; exact set_eq k127
                                have k159 : w154[0]? = some (ob (a 0) 10 [.ref (a 1), .ref (a 3), .ref (a 5), .ref (a 27), .ref (a 49), .int v90, .ref (a 71), .ref (a 79), .ref (a 87), .ref (a 92), .ref (a 103), .ref (a 105), .ref (a 106), .ref (a 107), .ref (a 108), .ref (a 109), .ref (a 110), .ref (a 111), .ref (a 112)]) := by rw [hw155]; exact set_ne k128 (by decide)
                                have k160 : w154[5]? = some (ob (a 5) 8 [.int (nI n140), .int v142, .ref (a 6), .ref (a 9), .ref (a 14), .ref (a 21), .int v143, .int v144, .int v145, .int v146]) := by rw [hw155]; exact set_ne k139 (by decide)
                                have k161 : w154[14]? = some (ob (a 14) 1 [.int (nI n148), .ref (a 15), .ref (a 16), .ref (a 17), .ref (a 18), .ref (a 19), .ref (a 20)]) := by rw [hw155]; exact set_ne k147 (by decide)
                                have k162 : w154[15]? = some (iA E (a 15) 48 f151) := by rw [hw155]; exact set_ne k150 (by decide)
                                have kp163 := keeps_set kp129 hw155 (by first | exact rfl | decide | omega | (dsimp only; omega))
                                refine x_iinc C (v := (nI (mm + 1))) (lv' := [(6, .int (nI (mm + 1))), (5, .int v153), (7, .int (nI j97)), (0, .ref (a 0)), (1, .int (nI j20)), (2, .int (nI j31)), (3, .int (nI j42)), (4, .int (nI m55))]) dX11_before_222 7 rfl (nI_add mm 1) (by decide) rfl rfl ?_
                                refine x_goto C (tgt := 145) dX11_before_225 (by decide) ?_
                                refine x_lv (lv1 := [(0, .ref (a 0)), (1, .int (nI j20)), (2, .int (nI j31)), (3, .int (nI j42)), (4, .int (nI m55)), (5, .int v153), (6, .int (nI (mm + 1)))]) [3, 4, 5, 6, 7, 1, 0] rfl ?_
                                exact ih145 v153 (mm + 1) w154 hW156 (by omega) (by omega) ⟨_, k157, hl83⟩ kp163
                    refine x_lv (lv1 := [(0, .ref (a 0)), (1, .int (nI j20)), (2, .int (nI j31)), (3, .int (nI j42)), (4, .int (nI m55)), (5, .int 0), (6, .int 0)]) [2, 3, 4, 5, 6, 1, 0] rfl ?_
                    exact loop145 _ (0 : Int32) 0 wl119 hWl119 (Nat.lt_succ_self _) (by omega) ⟨_, kl77, hl78⟩ kq119
                  · skip
                    have nf164 := nI_nle' (a := j42) (b := d) c79 (by omega) (by omega)
                    refine x_aload_n C dX11_before_125 rfl 0 rfl rfl ?_
                    obtain ⟨_, k165, v166, rfl⟩ := hWl119 0 _ rfl
                    refine x_get C (ci := 10) (k := 13) 0 k165 rfl in_X11 (by decide) w_398 rfl dX11_before_126 rfl ?_
                    refine x_iload C dX11_before_129 5 rfl rfl ?_
                    refine x_iload_n C dX11_before_131 rfl 2 rfl rfl ?_
                    obtain ⟨_, k167, f168, rfl⟩ := hWl119 107 _ rfl
                    obtain ⟨w169, hw170⟩ : ∃ w : va_W, w = List.set wl119 107 (iA E (a 107) 40 (upd f168 (nI d).toNatClampNeg (nI j31))) := ⟨_, rfl⟩
                    refine x_iast C 107 k167 (vp_in_nI (by omega) (by decide)) hw170.symm dX11_before_132 rfl ?_
                    have hW171 : WX (okX E a) w169 := by rw [hw170]; exact hWl119.set (k := 107) rfl ⟨_, rfl⟩
                    have k172 : w169[106]? = some (iA E (a 106) 48 fl76) := by rw [hw170]; exact set_ne kl77 (by decide)
                    have k173 : w169[0]? = some (ob (a 0) 10 [.ref (a 1), .ref (a 3), .ref (a 5), .ref (a 27), .ref (a 49), .int v166, .ref (a 71), .ref (a 79), .ref (a 87), .ref (a 92), .ref (a 103), .ref (a 105), .ref (a 106), .ref (a 107), .ref (a 108), .ref (a 109), .ref (a 110), .ref (a 111), .ref (a 112)]) := by rw [hw170]; exact set_ne k165 (by decide)
                    have k174 : w169[107]? = some (iA E (a 107) 40 (upd f168 (nI d).toNatClampNeg (nI j31))) := by rw [hw170]; exact set_eq k167
                    have kp175 := keeps_set kq119 hw170 (by first | exact rfl | decide | omega | (dsimp only; omega))
                    refine x_iinc C (v := (nI (d + 1))) (lv' := [(5, .int (nI (d + 1))), (0, .ref (a 0)), (1, .int (nI j20)), (2, .int (nI j31)), (3, .int (nI j42)), (4, .int (nI m55))]) dX11_before_133 5 rfl (nI_add d 1) (by decide) rfl rfl ?_
                    refine x_goto C (tgt := 119) dX11_before_136 (by decide) ?_
                    refine x_lv (lv1 := [(0, .ref (a 0)), (1, .int (nI j20)), (2, .int (nI j31)), (3, .int (nI j42)), (4, .int (nI m55)), (5, .int (nI (d + 1)))]) [1, 2, 3, 4, 5, 0] rfl ?_
                    exact ih119 (d + 1) w169 hW171 (by omega) (by omega) ⟨_, k172, hl78⟩ kp175
              refine x_lv (lv1 := [(0, .ref (a 0)), (1, .int (nI j20)), (2, .int (nI j31)), (3, .int (nI j42)), (4, .int (nI m55)), (5, .int 0)]) [1, 2, 3, 4, 5, 0] rfl ?_
              exact loop119 _ 0 wl58 hWl58 (Nat.lt_succ_self _) (by omega) ⟨_, kl72, fun j hj => hl73 j (by omega)⟩ kq58
            · skip
              have nf176 := nI_nle' (a := m55) (b := k) c74 (by omega) (by omega)
              refine x_aload_n C dX11_before_65 rfl 0 rfl rfl ?_
              refine x_aload_n C dX11_before_66 rfl 0 rfl rfl ?_
              obtain ⟨_, k177, v178, rfl⟩ := hWl58 0 _ rfl
              refine x_get C (ci := 10) (k := 11) 0 k177 rfl in_X11 (by decide) w_396 rfl dX11_before_67 rfl ?_
              refine x_iload C dX11_before_70 5 rfl rfl ?_
              refine x_ialk C (v := (fh68 k)) k (nI_clamp (by omega)) (nI_pos (by omega)) (by omega) 105 kh69 rfl dX11_before_72 rfl ?_
              obtain ⟨i179, hi180, ei181⟩ := hh70 k (by omega)
              refine x_top ei181 ?_
              refine x_vi C (As := [.int (nI i179)]) (rest := []) (c_firstBadDay E l a wl58 hWl58 i179 hB (by omega)) mf_X11_firstBadDay w_862 0 k177 rfl rfl rfl (Nat.le_of_ble_eq_true rfl) ⟨(Nat.le_of_ble_eq_true rfl), (Nat.le_of_ble_eq_true rfl)⟩ ⟨(Nat.le_of_ble_eq_true rfl), (Nat.le_of_ble_eq_true rfl)⟩ dX11_before_73 rfl (fun r183 w184 h182 => ?_)
              obtain ⟨hW185, kq186, x187⟩ := h182
              have k188 : w184[105]? = some (iA E (a 105) 48 fh68) := keeps_at kq186 kh69 (by first | decide | omega | (dsimp only; omega))
              have k189 : w184[106]? = some (iA E (a 106) 48 fl71) := keeps_at kq186 kl72 (by first | decide | omega | (dsimp only; omega))
              have k190 : w184[0]? = some (ob (a 0) 10 [.ref (a 1), .ref (a 3), .ref (a 5), .ref (a 27), .ref (a 49), .int v178, .ref (a 71), .ref (a 79), .ref (a 87), .ref (a 92), .ref (a 103), .ref (a 105), .ref (a 106), .ref (a 107), .ref (a 108), .ref (a 109), .ref (a 110), .ref (a 111), .ref (a 112)]) := keeps_at kq186 k177 (by first | decide | omega | (dsimp only; omega))
              have kp191 := keeps_tr kq58 kq186 (fun q hq => by first | omega | (dsimp only at *; omega))
              rcases x187 with e192 | ⟨n193, hn194, en195⟩
              · refine x_top e192 ?_
                refine x_istore C (lv' := [(6, .int (-2)), (0, .ref (a 0)), (1, .int (nI j20)), (2, .int (nI j31)), (3, .int (nI j42)), (4, .int (nI m55)), (5, .int (nI k))]) dX11_before_76 (by decide) rfl rfl ?_
                refine x_aload_n C dX11_before_78 rfl 1 rfl rfl ?_
                refine x_get C (ci := 10) (k := 12) 0 k190 rfl in_X11 (by decide) w_397 rfl dX11_before_79 rfl ?_
                refine x_iload C dX11_before_82 6 rfl rfl ?_
                refine x_iload C dX11_before_84 0 rfl rfl ?_
                refine x_bipush C (v := (-2)) dX11_before_86 (by decide) rfl ?_
                refine x_icmp_ne C (tgt := 95) dX11_before_88 (by decide) rfl (fun h => absurd h (by decide)) (fun _ => ?_)
                refine x_iload_n C dX11_before_91 rfl 4 rfl rfl ?_
                refine x_goto C (tgt := 109) dX11_before_92 (by decide) ?_
                obtain ⟨w196, hw197⟩ : ∃ w : va_W, w = List.set w184 106 (iA E (a 106) 48 (upd fl71 (nI k).toNatClampNeg (nI j42))) := ⟨_, rfl⟩
                refine x_iast C 106 k189 (vp_in_nI (by omega) (by decide)) hw197.symm dX11_before_109 rfl ?_
                have hW198 : WX (okX E a) w196 := by rw [hw197]; exact hW185.set (k := 106) rfl ⟨_, rfl⟩
                have k199 : w196[105]? = some (iA E (a 105) 48 fh68) := by rw [hw197]; exact set_ne k188 (by decide)
                have k200 : w196[106]? = some (iA E (a 106) 48 (upd fl71 (nI k).toNatClampNeg (nI j42))) := by rw [hw197]; exact set_eq k189
                have k201 : w196[0]? = some (ob (a 0) 10 [.ref (a 1), .ref (a 3), .ref (a 5), .ref (a 27), .ref (a 49), .int v178, .ref (a 71), .ref (a 79), .ref (a 87), .ref (a 92), .ref (a 103), .ref (a 105), .ref (a 106), .ref (a 107), .ref (a 108), .ref (a 109), .ref (a 110), .ref (a 111), .ref (a 112)]) := by rw [hw197]; exact set_ne k190 (by decide)
                have kp202 := keeps_set kp191 hw197 (by first | exact rfl | decide | omega | (dsimp only; omega))
                refine x_iinc C (v := (nI (k + 1))) (lv' := [(5, .int (nI (k + 1))), (6, .int (-2)), (0, .ref (a 0)), (1, .int (nI j20)), (2, .int (nI j31)), (3, .int (nI j42)), (4, .int (nI m55))]) dX11_before_110 6 rfl (nI_add k 1) (by decide) rfl rfl ?_
                refine x_goto C (tgt := 58) dX11_before_113 (by decide) ?_
                refine x_lv (lv1 := [(0, .ref (a 0)), (1, .int (nI j20)), (2, .int (nI j31)), (3, .int (nI j42)), (4, .int (nI m55)), (5, .int (nI (k + 1)))]) [2, 3, 4, 5, 6, 0] rfl ?_
                exact ih58 (k + 1) w196 hW198 (by omega) (by omega) ⟨_, k199, hh70⟩ (lK_set hl73 k200 (by omega) (lo_n (by omega))) kp202
              · refine x_top en195 ?_
                refine x_istore C (lv' := [(6, .int (nI n193)), (0, .ref (a 0)), (1, .int (nI j20)), (2, .int (nI j31)), (3, .int (nI j42)), (4, .int (nI m55)), (5, .int (nI k))]) dX11_before_76 (by decide) rfl rfl ?_
                refine x_aload_n C dX11_before_78 rfl 1 rfl rfl ?_
                refine x_get C (ci := 10) (k := 12) 0 k190 rfl in_X11 (by decide) w_397 rfl dX11_before_79 rfl ?_
                refine x_iload C dX11_before_82 6 rfl rfl ?_
                refine x_iload C dX11_before_84 0 rfl rfl ?_
                refine x_bipush C (v := (-2)) dX11_before_86 (by decide) rfl ?_
                refine x_icmp_ne C (tgt := 95) dX11_before_88 (by decide) rfl (fun c203 => ?_) (fun c203 => ?_)
                · skip
                  refine x_iload_n C dX11_before_95 rfl 4 rfl rfl ?_
                  refine x_iload C dX11_before_96 0 rfl rfl ?_
                  refine x_aload_n C dX11_before_98 rfl 1 rfl rfl ?_
                  refine x_get C (ci := 10) (k := 2) 0 k190 rfl in_X11 (by decide) w_387 rfl dX11_before_99 rfl ?_
                  obtain ⟨_, k204, n205, v207, v208, v209, v210, v211, bn206, rfl⟩ := hW185 5 _ rfl
                  refine x_get C (ci := 8) (k := 0) 5 k204 rfl in_X9 (by decide) w_197 rfl dX11_before_102 rfl ?_
                  refine x_isub C (v := ((nI n193) - (nI n205))) dX11_before_105 rfl rfl ?_
                  refine x_mmin C (v := (if ((nI n193) - (nI n205)) < (nI j42) then ((nI n193) - (nI n205)) else (nI j42))) w_958 w_561 w_16 w_562 (Nat.le_of_ble_eq_true rfl) (Nat.le_of_ble_eq_true rfl) (Nat.le_of_ble_eq_true rfl) (Nat.le_of_ble_eq_true rfl) rfl dX11_before_106 rfl ?_
                  obtain ⟨z212, hz213, ez214⟩ : ∃ z : Int32, -20000 ≤ z.toInt ∧ (if ((nI n193) - (nI n205)) < (nI j42) then ((nI n193) - (nI n205)) else (nI j42)) = z := ⟨_, lo_min (by omega) (by omega) (by omega), rfl⟩
                  refine x_top ez214 ?_
                  obtain ⟨w215, hw216⟩ : ∃ w : va_W, w = List.set w184 106 (iA E (a 106) 48 (upd fl71 (nI k).toNatClampNeg z212)) := ⟨_, rfl⟩
                  refine x_iast C 106 k189 (vp_in_nI (by omega) (by decide)) hw216.symm dX11_before_109 rfl ?_
                  have hW217 : WX (okX E a) w215 := by rw [hw216]; exact hW185.set (k := 106) rfl ⟨_, rfl⟩
                  have k218 : w215[105]? = some (iA E (a 105) 48 fh68) := by rw [hw216]; exact set_ne k188 (by decide)
                  have k219 : w215[106]? = some (iA E (a 106) 48 (upd fl71 (nI k).toNatClampNeg z212)) := by rw [hw216]; exact set_eq k189
                  have k220 : w215[0]? = some (ob (a 0) 10 [.ref (a 1), .ref (a 3), .ref (a 5), .ref (a 27), .ref (a 49), .int v178, .ref (a 71), .ref (a 79), .ref (a 87), .ref (a 92), .ref (a 103), .ref (a 105), .ref (a 106), .ref (a 107), .ref (a 108), .ref (a 109), .ref (a 110), .ref (a 111), .ref (a 112)]) := by rw [hw216]; exact set_ne k190 (by decide)
                  have k221 : w215[5]? = some (ob (a 5) 8 [.int (nI n205), .int v207, .ref (a 6), .ref (a 9), .ref (a 14), .ref (a 21), .int v208, .int v209, .int v210, .int v211]) := by rw [hw216]; exact set_ne k204 (by decide)
                  have kp222 := keeps_set kp191 hw216 (by first | exact rfl | decide | omega | (dsimp only; omega))
                  refine x_iinc C (v := (nI (k + 1))) (lv' := [(5, .int (nI (k + 1))), (6, .int (nI n193)), (0, .ref (a 0)), (1, .int (nI j20)), (2, .int (nI j31)), (3, .int (nI j42)), (4, .int (nI m55))]) dX11_before_110 6 rfl (nI_add k 1) (by decide) rfl rfl ?_
                  refine x_goto C (tgt := 58) dX11_before_113 (by decide) ?_
                  refine x_lv (lv1 := [(0, .ref (a 0)), (1, .int (nI j20)), (2, .int (nI j31)), (3, .int (nI j42)), (4, .int (nI m55)), (5, .int (nI (k + 1)))]) [2, 3, 4, 5, 6, 0] rfl ?_
                  exact ih58 (k + 1) w215 hW217 (by omega) (by omega) ⟨_, k218, hh70⟩ (lK_set hl73 k219 (by omega) hz213) kp222
                · skip
                  refine x_iload_n C dX11_before_91 rfl 4 rfl rfl ?_
                  refine x_goto C (tgt := 109) dX11_before_92 (by decide) ?_
                  obtain ⟨w223, hw224⟩ : ∃ w : va_W, w = List.set w184 106 (iA E (a 106) 48 (upd fl71 (nI k).toNatClampNeg (nI j42))) := ⟨_, rfl⟩
                  refine x_iast C 106 k189 (vp_in_nI (by omega) (by decide)) hw224.symm dX11_before_109 rfl ?_
                  have hW225 : WX (okX E a) w223 := by rw [hw224]; exact hW185.set (k := 106) rfl ⟨_, rfl⟩
                  have k226 : w223[105]? = some (iA E (a 105) 48 fh68) := by rw [hw224]; exact set_ne k188 (by decide)
                  have k227 : w223[106]? = some (iA E (a 106) 48 (upd fl71 (nI k).toNatClampNeg (nI j42))) := by rw [hw224]; exact set_eq k189
                  have k228 : w223[0]? = some (ob (a 0) 10 [.ref (a 1), .ref (a 3), .ref (a 5), .ref (a 27), .ref (a 49), .int v178, .ref (a 71), .ref (a 79), .ref (a 87), .ref (a 92), .ref (a 103), .ref (a 105), .ref (a 106), .ref (a 107), .ref (a 108), .ref (a 109), .ref (a 110), .ref (a 111), .ref (a 112)]) := by rw [hw224]; exact set_ne k190 (by decide)
                  have kp229 := keeps_set kp191 hw224 (by first | exact rfl | decide | omega | (dsimp only; omega))
                  refine x_iinc C (v := (nI (k + 1))) (lv' := [(5, .int (nI (k + 1))), (6, .int (nI n193)), (0, .ref (a 0)), (1, .int (nI j20)), (2, .int (nI j31)), (3, .int (nI j42)), (4, .int (nI m55))]) dX11_before_110 6 rfl (nI_add k 1) (by decide) rfl rfl ?_
                  refine x_goto C (tgt := 58) dX11_before_113 (by decide) ?_
                  refine x_lv (lv1 := [(0, .ref (a 0)), (1, .int (nI j20)), (2, .int (nI j31)), (3, .int (nI j42)), (4, .int (nI m55)), (5, .int (nI (k + 1)))]) [2, 3, 4, 5, 6, 0] rfl ?_
                  exact ih58 (k + 1) w223 hW225 (by omega) (by omega) ⟨_, k226, hh70⟩ (lK_set hl73 k227 (by omega) (lo_n (by omega))) kp229
        refine x_lv (lv1 := [(0, .ref (a 0)), (1, .int (nI j20)), (2, .int (nI j31)), (3, .int (nI j42)), (4, .int (nI m55)), (5, .int 0)]) [2, 3, 4, 5, 1, 0] rfl ?_
        exact loop58 _ 0 w51 hW52 (Nat.lt_succ_self _) (by omega) ⟨_, kh64, hh65⟩ (lK_z k66) kp62
      · skip
        refine x_iconst C (v := (-1)) dX11_before_34 (by decide) rfl ?_
        exact x_zret C hr hlk rfl dX11_before_35 ⟨hW, kp0⟩
theorem dX11_bestHatch_0 : decode cX11_bestHatch 0 = .ok (.iconst 0, 1) := by decide +kernel
theorem dX11_bestHatch_1 : decode cX11_bestHatch 1 = .ok (.istore_n 2, 1) := by decide +kernel
theorem dX11_bestHatch_2 : decode cX11_bestHatch 2 = .ok (.iconst (-1), 1) := by decide +kernel
theorem dX11_bestHatch_3 : decode cX11_bestHatch 3 = .ok (.istore_n 3, 1) := by decide +kernel
theorem dX11_bestHatch_4 : decode cX11_bestHatch 4 = .ok (.iconst 0, 1) := by decide +kernel
theorem dX11_bestHatch_5 : decode cX11_bestHatch 5 = .ok (.istore 4, 2) := by decide +kernel
theorem dX11_bestHatch_7 : decode cX11_bestHatch 7 = .ok (.iload 4, 2) := by decide +kernel
theorem dX11_bestHatch_9 : decode cX11_bestHatch 9 = .ok (.iload_n 1, 1) := by decide +kernel
theorem dX11_bestHatch_10 : decode cX11_bestHatch 10 = .ok (.if_icmp .gt 46, 3) := by decide +kernel
theorem dX11_bestHatch_13 : decode cX11_bestHatch 13 = .ok (.iload_n 1, 1) := by decide +kernel
theorem dX11_bestHatch_14 : decode cX11_bestHatch 14 = .ok (.iload 4, 2) := by decide +kernel
theorem dX11_bestHatch_16 : decode cX11_bestHatch 16 = .ok (.iadd, 1) := by decide +kernel
theorem dX11_bestHatch_17 : decode cX11_bestHatch 17 = .ok (.bipush 20, 2) := by decide +kernel
theorem dX11_bestHatch_19 : decode cX11_bestHatch 19 = .ok (.if_icmp .gt 37, 3) := by decide +kernel
theorem dX11_bestHatch_22 : decode cX11_bestHatch 22 = .ok (.iload_n 1, 1) := by decide +kernel
theorem dX11_bestHatch_23 : decode cX11_bestHatch 23 = .ok (.iload 4, 2) := by decide +kernel
theorem dX11_bestHatch_25 : decode cX11_bestHatch 25 = .ok (.isub, 1) := by decide +kernel
theorem dX11_bestHatch_26 : decode cX11_bestHatch 26 = .ok (.aload_n 0, 1) := by decide +kernel
theorem dX11_bestHatch_27 : decode cX11_bestHatch 27 = .ok (.getfield 77, 3) := by decide +kernel
theorem dX11_bestHatch_30 : decode cX11_bestHatch 30 = .ok (.iload_n 1, 1) := by decide +kernel
theorem dX11_bestHatch_31 : decode cX11_bestHatch 31 = .ok (.iload 4, 2) := by decide +kernel
theorem dX11_bestHatch_33 : decode cX11_bestHatch 33 = .ok (.iadd, 1) := by decide +kernel
theorem dX11_bestHatch_34 : decode cX11_bestHatch 34 = .ok (.iaload, 1) := by decide +kernel
theorem dX11_bestHatch_35 : decode cX11_bestHatch 35 = .ok (.iadd, 1) := by decide +kernel
theorem dX11_bestHatch_36 : decode cX11_bestHatch 36 = .ok (.istore 5, 2) := by decide +kernel
theorem dX11_bestHatch_38 : decode cX11_bestHatch 38 = .ok (.iload 5, 2) := by decide +kernel
theorem dX11_bestHatch_40 : decode cX11_bestHatch 40 = .ok (.iload_n 3, 1) := by decide +kernel
theorem dX11_bestHatch_41 : decode cX11_bestHatch 41 = .ok (.if_icmp .le 9, 3) := by decide +kernel
theorem dX11_bestHatch_44 : decode cX11_bestHatch 44 = .ok (.iload 5, 2) := by decide +kernel
theorem dX11_bestHatch_46 : decode cX11_bestHatch 46 = .ok (.istore_n 3, 1) := by decide +kernel
theorem dX11_bestHatch_47 : decode cX11_bestHatch 47 = .ok (.iload 4, 2) := by decide +kernel
theorem dX11_bestHatch_49 : decode cX11_bestHatch 49 = .ok (.istore_n 2, 1) := by decide +kernel
theorem dX11_bestHatch_50 : decode cX11_bestHatch 50 = .ok (.iinc 4 1, 3) := by decide +kernel
theorem dX11_bestHatch_53 : decode cX11_bestHatch 53 = .ok (.goto (-46), 3) := by decide +kernel
theorem dX11_bestHatch_56 : decode cX11_bestHatch 56 = .ok (.iload_n 2, 1) := by decide +kernel
theorem dX11_bestHatch_57 : decode cX11_bestHatch 57 = .ok (.ireturn, 1) := by decide +kernel
set_option maxRecDepth 20000 in
set_option maxHeartbeats 4000000 in
theorem c_bestHatch (E : xE) (l : Launch) (a : Nat → Nat) (ws : va_W) (hW : WX (okX E a) ws) (h0 : Nat) (hh0 : h0 ≤ 20) : xI E l yX11_bestHatch cX11_bestHatch 6 (some .int) 0 [.ref (a 0), .int (nI h0)] ws (fun r w => w = ws ∧ (∃ rn : Nat, rn ≤ 20 - h0 ∧ r = nI rn)) := by
  refine xI_start (lv := [(0, .ref (a 0)), (1, .int (nI h0))]) RX11 (by decide) rfl (Nat.le_of_ble_eq_true rfl) rfl (fun p e s m below meth c A C hr hlk => ?_)
  refine x_iconst C (v := 0) dX11_bestHatch_0 (by decide) rfl ?_
  refine x_istore_n C (lv' := [(2, .int 0), (0, .ref (a 0)), (1, .int (nI h0))]) dX11_bestHatch_1 rfl (by decide) rfl rfl ?_
  refine x_iconst C (v := (-1)) dX11_bestHatch_2 (by decide) rfl ?_
  refine x_istore_n C (lv' := [(3, .int (-1)), (2, .int 0), (0, .ref (a 0)), (1, .int (nI h0))]) dX11_bestHatch_3 rfl (by decide) rfl rfl ?_
  refine x_iconst C (v := 0) dX11_bestHatch_4 (by decide) rfl ?_
  refine x_istore C (lv' := [(4, .int 0), (3, .int (-1)), (2, .int 0), (0, .ref (a 0)), (1, .int (nI h0))]) dX11_bestHatch_5 (by decide) rfl rfl ?_
  have loop7 : ∀ (fu7 : Nat) (be : Nat) (z7_3 : Int32) (x : Nat), True → 21 - x < fu7 → x ≤ 21 → be ≤ 20 - h0 → X E p l e (xRm 0 0 0) s m ([.ref (a 0), .int (nI h0)] : List Value).toArray below meth c A 6 0 0 (MQ below (va_Qi (fun r w => w = ws ∧ (∃ rn : Nat, rn ≤ 20 - h0 ∧ r = nI rn)) (xB E A) A) ([.ref (a 0), .int (nI h0)] : List Value).toArray s 0 0 A) ws 7 [(0, .ref (a 0)), (1, .int (nI h0)), (2, .int (nI be)), (3, .int z7_3), (4, .int (nI x))] [] := by
    intro fu7
    induction fu7 with
    | zero => intro be z7_3 x _ q; omega
    | succ fu7 ih7 =>
      intro be z7_3 x _ me7 iv7_0 iv7_1
      refine x_iload C dX11_bestHatch_7 4 rfl rfl ?_
      refine x_iload_n C dX11_bestHatch_9 rfl 1 rfl rfl ?_
      refine x_icmp_gt C (tgt := 56) dX11_bestHatch_10 (by decide) rfl (fun c1 => ?_) (fun c1 => ?_)
      · skip
        have nf2 := nI_lt' (a := h0) (b := x) c1 (by omega) (by omega)
        refine x_iload_n C dX11_bestHatch_56 rfl 2 rfl rfl ?_
        exact x_zret C hr hlk rfl dX11_bestHatch_57 ⟨rfl, ⟨be, by omega, rfl⟩⟩
      · skip
        have nf3 := nI_nlt' (a := h0) (b := x) c1 (by omega) (by omega)
        refine x_iload_n C dX11_bestHatch_13 rfl 1 rfl rfl ?_
        refine x_iload C dX11_bestHatch_14 4 rfl rfl ?_
        refine x_iadd C (v := (nI (h0 + x))) dX11_bestHatch_16 (nI_add h0 x) rfl ?_
        refine x_bipush C (v := 20) dX11_bestHatch_17 (by decide) rfl ?_
        refine x_icmp_gt C (tgt := 56) dX11_bestHatch_19 (by decide) rfl (fun c4 => ?_) (fun c4 => ?_)
        · skip
          have nf5 := nI_lt' (a := 20) (b := (h0 + x)) c4 (by omega) (by omega)
          refine x_iload_n C dX11_bestHatch_56 rfl 2 rfl rfl ?_
          exact x_zret C hr hlk rfl dX11_bestHatch_57 ⟨rfl, ⟨be, by omega, rfl⟩⟩
        · skip
          have nf6 := nI_nlt' (a := 20) (b := (h0 + x)) c4 (by omega) (by omega)
          refine x_iload_n C dX11_bestHatch_22 rfl 1 rfl rfl ?_
          refine x_iload C dX11_bestHatch_23 4 rfl rfl ?_
          refine x_isub C (v := ((nI h0) - (nI x))) dX11_bestHatch_25 rfl rfl ?_
          refine x_any (fun v7 => ?_)
          refine x_aload_n C dX11_bestHatch_26 rfl 0 rfl rfl ?_
          obtain ⟨_, k8, v9, rfl⟩ := hW 0 _ rfl
          refine x_get C (ci := 10) (k := 14) 0 k8 rfl in_X11 (by decide) w_399 rfl dX11_bestHatch_27 rfl ?_
          refine x_iload_n C dX11_bestHatch_30 rfl 1 rfl rfl ?_
          refine x_iload C dX11_bestHatch_31 4 rfl rfl ?_
          refine x_iadd C (v := (nI (h0 + x))) dX11_bestHatch_33 (nI_add h0 x) rfl ?_
          obtain ⟨_, k10, f11, rfl⟩ := hW 108 _ rfl
          refine x_iald C (v := (f11 (nI (h0 + x)).toNatClampNeg)) 108 k10 (vp_in_nI (by omega) (by decide)) rfl dX11_bestHatch_34 rfl ?_
          refine x_any (fun v12 => ?_)
          refine x_iadd C (v := (v7 + v12)) dX11_bestHatch_35 rfl rfl ?_
          refine x_any (fun v13 => ?_)
          refine x_istore C (lv' := [(5, .int v13), (0, .ref (a 0)), (1, .int (nI h0)), (2, .int (nI be)), (3, .int z7_3), (4, .int (nI x))]) dX11_bestHatch_36 (by decide) rfl rfl ?_
          refine x_iload C dX11_bestHatch_38 0 rfl rfl ?_
          refine x_iload_n C dX11_bestHatch_40 rfl 4 rfl rfl ?_
          refine x_icmp_le C (tgt := 50) dX11_bestHatch_41 (by decide) rfl (fun c14 => ?_) (fun c14 => ?_)
          · skip
            refine x_iinc C (v := (nI (x + 1))) (lv' := [(4, .int (nI (x + 1))), (5, .int v13), (0, .ref (a 0)), (1, .int (nI h0)), (2, .int (nI be)), (3, .int z7_3)]) dX11_bestHatch_50 5 rfl (nI_add x 1) (by decide) rfl rfl ?_
            refine x_goto C (tgt := 7) dX11_bestHatch_53 (by decide) ?_
            refine x_lv (lv1 := [(0, .ref (a 0)), (1, .int (nI h0)), (2, .int (nI be)), (3, .int z7_3), (4, .int (nI (x + 1)))]) [2, 3, 4, 5, 0] rfl ?_
            exact ih7 be z7_3 (x + 1) trivial (by omega) (by omega) (by omega)
          · skip
            refine x_iload C dX11_bestHatch_44 0 rfl rfl ?_
            refine x_istore_n C (lv' := [(3, .int v13), (5, .int v13), (0, .ref (a 0)), (1, .int (nI h0)), (2, .int (nI be)), (4, .int (nI x))]) dX11_bestHatch_46 rfl (by decide) rfl rfl ?_
            refine x_iload C dX11_bestHatch_47 5 rfl rfl ?_
            refine x_istore_n C (lv' := [(2, .int (nI x)), (3, .int v13), (5, .int v13), (0, .ref (a 0)), (1, .int (nI h0)), (4, .int (nI x))]) dX11_bestHatch_49 rfl (by decide) rfl rfl ?_
            refine x_iinc C (v := (nI (x + 1))) (lv' := [(4, .int (nI (x + 1))), (2, .int (nI x)), (3, .int v13), (5, .int v13), (0, .ref (a 0)), (1, .int (nI h0))]) dX11_bestHatch_50 5 rfl (nI_add x 1) (by decide) rfl rfl ?_
            refine x_goto C (tgt := 7) dX11_bestHatch_53 (by decide) ?_
            refine x_lv (lv1 := [(0, .ref (a 0)), (1, .int (nI h0)), (2, .int (nI x)), (3, .int v13), (4, .int (nI (x + 1)))]) [4, 5, 1, 2, 0] rfl ?_
            exact ih7 x v13 (x + 1) trivial (by omega) (by omega) (by omega)
  refine x_lv (lv1 := [(0, .ref (a 0)), (1, .int (nI h0)), (2, .int 0), (3, .int (-1)), (4, .int 0)]) [3, 4, 2, 1, 0] rfl ?_
  exact loop7 _ 0 ((-1) : Int32) 0 trivial (Nat.lt_succ_self _) (by omega) (by omega)
theorem dX11_flock_0 : decode cX11_flock 0 = .ok (.iload_n 1, 1) := by decide +kernel
theorem dX11_flock_1 : decode cX11_flock 1 = .ok (.iconst 1, 1) := by decide +kernel
theorem dX11_flock_2 : decode cX11_flock 2 = .ok (.bipush 20, 2) := by decide +kernel
theorem dX11_flock_4 : decode cX11_flock 4 = .ok (.invokestatic 102, 3) := by decide +kernel
theorem dX11_flock_7 : decode cX11_flock 7 = .ok (.ifCond .eq 22, 3) := by decide +kernel
theorem dX11_flock_10 : decode cX11_flock 10 = .ok (.iload_n 2, 1) := by decide +kernel
theorem dX11_flock_11 : decode cX11_flock 11 = .ok (.iconst 1, 1) := by decide +kernel
theorem dX11_flock_12 : decode cX11_flock 12 = .ok (.bipush 12, 2) := by decide +kernel
theorem dX11_flock_14 : decode cX11_flock 14 = .ok (.invokestatic 102, 3) := by decide +kernel
theorem dX11_flock_17 : decode cX11_flock 17 = .ok (.ifCond .eq 12, 3) := by decide +kernel
theorem dX11_flock_20 : decode cX11_flock 20 = .ok (.iload_n 3, 1) := by decide +kernel
theorem dX11_flock_21 : decode cX11_flock 21 = .ok (.iconst 0, 1) := by decide +kernel
theorem dX11_flock_22 : decode cX11_flock 22 = .ok (.iconst 1, 1) := by decide +kernel
theorem dX11_flock_23 : decode cX11_flock 23 = .ok (.invokestatic 102, 3) := by decide +kernel
theorem dX11_flock_26 : decode cX11_flock 26 = .ok (.ifCond .ne 5, 3) := by decide +kernel
theorem dX11_flock_29 : decode cX11_flock 29 = .ok (.iconst (-1), 1) := by decide +kernel
theorem dX11_flock_30 : decode cX11_flock 30 = .ok (.ireturn, 1) := by decide +kernel
theorem dX11_flock_31 : decode cX11_flock 31 = .ok (.iconst 0, 1) := by decide +kernel
theorem dX11_flock_32 : decode cX11_flock 32 = .ok (.istore 4, 2) := by decide +kernel
theorem dX11_flock_34 : decode cX11_flock 34 = .ok (.iload 4, 2) := by decide +kernel
theorem dX11_flock_36 : decode cX11_flock 36 = .ok (.bipush 20, 2) := by decide +kernel
theorem dX11_flock_38 : decode cX11_flock 38 = .ok (.if_icmp .gt 17, 3) := by decide +kernel
theorem dX11_flock_41 : decode cX11_flock 41 = .ok (.aload_n 0, 1) := by decide +kernel
theorem dX11_flock_42 : decode cX11_flock 42 = .ok (.getfield 77, 3) := by decide +kernel
theorem dX11_flock_45 : decode cX11_flock 45 = .ok (.iload 4, 2) := by decide +kernel
theorem dX11_flock_47 : decode cX11_flock 47 = .ok (.iconst 0, 1) := by decide +kernel
theorem dX11_flock_48 : decode cX11_flock 48 = .ok (.iastore, 1) := by decide +kernel
theorem dX11_flock_49 : decode cX11_flock 49 = .ok (.iinc 4 1, 3) := by decide +kernel
theorem dX11_flock_52 : decode cX11_flock 52 = .ok (.goto (-18), 3) := by decide +kernel
theorem dX11_flock_55 : decode cX11_flock 55 = .ok (.iconst 0, 1) := by decide +kernel
theorem dX11_flock_56 : decode cX11_flock 56 = .ok (.istore 4, 2) := by decide +kernel
theorem dX11_flock_58 : decode cX11_flock 58 = .ok (.iconst 0, 1) := by decide +kernel
theorem dX11_flock_59 : decode cX11_flock 59 = .ok (.istore 5, 2) := by decide +kernel
theorem dX11_flock_61 : decode cX11_flock 61 = .ok (.iload 5, 2) := by decide +kernel
theorem dX11_flock_63 : decode cX11_flock 63 = .ok (.iload_n 2, 1) := by decide +kernel
theorem dX11_flock_64 : decode cX11_flock 64 = .ok (.if_icmp .ge 71, 3) := by decide +kernel
theorem dX11_flock_67 : decode cX11_flock 67 = .ok (.iconst 1, 1) := by decide +kernel
theorem dX11_flock_68 : decode cX11_flock 68 = .ok (.istore 6, 2) := by decide +kernel
theorem dX11_flock_70 : decode cX11_flock 70 = .ok (.iload 6, 2) := by decide +kernel
theorem dX11_flock_72 : decode cX11_flock 72 = .ok (.bipush 20, 2) := by decide +kernel
theorem dX11_flock_74 : decode cX11_flock 74 = .ok (.if_icmp .gt 55, 3) := by decide +kernel
theorem dX11_flock_77 : decode cX11_flock 77 = .ok (.aload_n 0, 1) := by decide +kernel
theorem dX11_flock_78 : decode cX11_flock 78 = .ok (.iload 6, 2) := by decide +kernel
theorem dX11_flock_80 : decode cX11_flock 80 = .ok (.invokevirtual 314, 3) := by decide +kernel
theorem dX11_flock_83 : decode cX11_flock 83 = .ok (.istore 7, 2) := by decide +kernel
theorem dX11_flock_85 : decode cX11_flock 85 = .ok (.iload 6, 2) := by decide +kernel
theorem dX11_flock_87 : decode cX11_flock 87 = .ok (.iload_n 1, 1) := by decide +kernel
theorem dX11_flock_88 : decode cX11_flock 88 = .ok (.if_icmp .ne 8, 3) := by decide +kernel
theorem dX11_flock_91 : decode cX11_flock 91 = .ok (.iload 7, 2) := by decide +kernel
theorem dX11_flock_93 : decode cX11_flock 93 = .ok (.goto 5, 3) := by decide +kernel
theorem dX11_flock_96 : decode cX11_flock 96 = .ok (.iload 4, 2) := by decide +kernel
theorem dX11_flock_98 : decode cX11_flock 98 = .ok (.istore 4, 2) := by decide +kernel
theorem dX11_flock_100 : decode cX11_flock 100 = .ok (.aload_n 0, 1) := by decide +kernel
theorem dX11_flock_101 : decode cX11_flock 101 = .ok (.getfield 77, 3) := by decide +kernel
theorem dX11_flock_104 : decode cX11_flock 104 = .ok (.iload 6, 2) := by decide +kernel
theorem dX11_flock_106 : decode cX11_flock 106 = .ok (.iload 6, 2) := by decide +kernel
theorem dX11_flock_108 : decode cX11_flock 108 = .ok (.iload 7, 2) := by decide +kernel
theorem dX11_flock_110 : decode cX11_flock 110 = .ok (.isub, 1) := by decide +kernel
theorem dX11_flock_111 : decode cX11_flock 111 = .ok (.aload_n 0, 1) := by decide +kernel
theorem dX11_flock_112 : decode cX11_flock 112 = .ok (.getfield 77, 3) := by decide +kernel
theorem dX11_flock_115 : decode cX11_flock 115 = .ok (.iload 6, 2) := by decide +kernel
theorem dX11_flock_117 : decode cX11_flock 117 = .ok (.iload 7, 2) := by decide +kernel
theorem dX11_flock_119 : decode cX11_flock 119 = .ok (.iadd, 1) := by decide +kernel
theorem dX11_flock_120 : decode cX11_flock 120 = .ok (.iaload, 1) := by decide +kernel
theorem dX11_flock_121 : decode cX11_flock 121 = .ok (.iadd, 1) := by decide +kernel
theorem dX11_flock_122 : decode cX11_flock 122 = .ok (.iastore, 1) := by decide +kernel
theorem dX11_flock_123 : decode cX11_flock 123 = .ok (.iinc 6 1, 3) := by decide +kernel
theorem dX11_flock_126 : decode cX11_flock 126 = .ok (.goto (-56), 3) := by decide +kernel
theorem dX11_flock_129 : decode cX11_flock 129 = .ok (.iinc 5 1, 3) := by decide +kernel
theorem dX11_flock_132 : decode cX11_flock 132 = .ok (.goto (-71), 3) := by decide +kernel
theorem dX11_flock_135 : decode cX11_flock 135 = .ok (.iload_n 3, 1) := by decide +kernel
theorem dX11_flock_136 : decode cX11_flock 136 = .ok (.ifCond .ne 12, 3) := by decide +kernel
theorem dX11_flock_139 : decode cX11_flock 139 = .ok (.aload_n 0, 1) := by decide +kernel
theorem dX11_flock_140 : decode cX11_flock 140 = .ok (.getfield 77, 3) := by decide +kernel
theorem dX11_flock_143 : decode cX11_flock 143 = .ok (.iload_n 1, 1) := by decide +kernel
theorem dX11_flock_144 : decode cX11_flock 144 = .ok (.iaload, 1) := by decide +kernel
theorem dX11_flock_145 : decode cX11_flock 145 = .ok (.goto 5, 3) := by decide +kernel
theorem dX11_flock_148 : decode cX11_flock 148 = .ok (.iload 4, 2) := by decide +kernel
theorem dX11_flock_150 : decode cX11_flock 150 = .ok (.ireturn, 1) := by decide +kernel
set_option maxRecDepth 20000 in
set_option maxHeartbeats 4000000 in
theorem c_flock (E : xE) (l : Launch) (a : Nat → Nat) (ws : va_W) (hW : WX (okX E a) ws) (p0 : Int32) (p1 : Int32) (p2 : Int32) : xI E l yX11_flock cX11_flock 8 (some .int) 4 [.ref (a 0), .int p0, .int p1, .int p2] ws (fun r w => WX (okX E a) w ∧ keeps ws w (fun q => ¬ (q = 0 ∨ q = 6 ∨ q = 9 ∨ q = 28 ∨ q = 31))) := by
  refine xI_start (lv := [(0, .ref (a 0)), (1, .int p0), (2, .int p1), (3, .int p2)]) RX11 (by decide) rfl (Nat.le_of_ble_eq_true rfl) rfl (fun p e s m below meth c A C hr hlk => ?_)
  have kp0 : keeps ws ws (fun q => ¬ (q = 0 ∨ q = 6 ∨ q = 9 ∨ q = 28 ∨ q = 31)) := keeps_rf
  refine x_iload_n C dX11_flock_0 rfl 1 rfl rfl ?_
  refine x_iconst C (v := 1) dX11_flock_1 (by decide) rfl ?_
  refine x_bipush C (v := 20) dX11_flock_2 (by decide) rfl ?_
  refine x_si C (As := [.int p0, .int 1, .int 20]) (rest := []) (c_isWithin E l a ws hW p0 (1 : Int32) (20 : Int32)) mf_X11_isWithin w_462 rfl rfl (Nat.le_of_ble_eq_true rfl) ⟨(Nat.le_of_ble_eq_true rfl), (Nat.le_of_ble_eq_true rfl)⟩ ⟨(Nat.le_of_ble_eq_true rfl), (Nat.le_of_ble_eq_true rfl)⟩ dX11_flock_4 rfl (fun r2 w3 h1 => ?_)
  obtain ⟨hW4, zb5, x6⟩ := h1
  refine x_ws hW4 ?_
  refine x_if_eq C (tgt := 29) dX11_flock_7 (by decide) rfl (fun c7 => ?_) (fun c7 => ?_)
  · skip
    refine x_iconst C (v := (-1)) dX11_flock_29 (by decide) rfl ?_
    exact x_zret C hr hlk rfl dX11_flock_30 ⟨hW, kp0⟩
  · skip
    obtain ⟨j8, hl9, hh10, ej11⟩ := w_nat (a := 1) (b := 20) (by decide) (by decide) (x6 c7)
    subst ej11
    refine x_iload_n C dX11_flock_10 rfl 2 rfl rfl ?_
    refine x_iconst C (v := 1) dX11_flock_11 (by decide) rfl ?_
    refine x_bipush C (v := 12) dX11_flock_12 (by decide) rfl ?_
    refine x_si C (As := [.int p1, .int 1, .int 12]) (rest := []) (c_isWithin E l a ws hW p1 (1 : Int32) (12 : Int32)) mf_X11_isWithin w_462 rfl rfl (Nat.le_of_ble_eq_true rfl) ⟨(Nat.le_of_ble_eq_true rfl), (Nat.le_of_ble_eq_true rfl)⟩ ⟨(Nat.le_of_ble_eq_true rfl), (Nat.le_of_ble_eq_true rfl)⟩ dX11_flock_14 rfl (fun r13 w14 h12 => ?_)
    obtain ⟨hW15, zb16, x17⟩ := h12
    refine x_ws hW15 ?_
    refine x_if_eq C (tgt := 29) dX11_flock_17 (by decide) rfl (fun c18 => ?_) (fun c18 => ?_)
    · skip
      refine x_iconst C (v := (-1)) dX11_flock_29 (by decide) rfl ?_
      exact x_zret C hr hlk rfl dX11_flock_30 ⟨hW, kp0⟩
    · skip
      obtain ⟨j19, hl20, hh21, ej22⟩ := w_nat (a := 1) (b := 12) (by decide) (by decide) (x17 c18)
      subst ej22
      refine x_iload_n C dX11_flock_20 rfl 3 rfl rfl ?_
      refine x_iconst C (v := 0) dX11_flock_21 (by decide) rfl ?_
      refine x_iconst C (v := 1) dX11_flock_22 (by decide) rfl ?_
      refine x_si C (As := [.int p2, .int 0, .int 1]) (rest := []) (c_isWithin E l a ws hW p2 (0 : Int32) (1 : Int32)) mf_X11_isWithin w_462 rfl rfl (Nat.le_of_ble_eq_true rfl) ⟨(Nat.le_of_ble_eq_true rfl), (Nat.le_of_ble_eq_true rfl)⟩ ⟨(Nat.le_of_ble_eq_true rfl), (Nat.le_of_ble_eq_true rfl)⟩ dX11_flock_23 rfl (fun r24 w25 h23 => ?_)
      obtain ⟨hW26, zb27, x28⟩ := h23
      refine x_ws hW26 ?_
      refine x_if_ne C (tgt := 31) dX11_flock_26 (by decide) rfl (fun c29 => ?_) (fun c29 => ?_)
      · skip
        obtain ⟨j30, hl31, hh32, ej33⟩ := w_nat (a := 0) (b := 1) (by decide) (by decide) (x28 c29)
        subst ej33
        refine x_iconst C (v := 0) dX11_flock_31 (by decide) rfl ?_
        refine x_istore C (lv' := [(4, .int 0), (0, .ref (a 0)), (1, .int (nI j8)), (2, .int (nI j19)), (3, .int (nI j30))]) dX11_flock_32 (by decide) rfl rfl ?_
        have loop34 : ∀ (fu34 : Nat) (h : Nat) (wl34 : va_W), WX (okX E a) wl34 → 21 - h < fu34 → h ≤ 21 → keeps ws wl34 (fun q => ¬ (q = 0 ∨ q = 6 ∨ q = 9 ∨ q = 28 ∨ q = 31)) → X E p l e (xRm 4 0 0) s m ([.ref (a 0), .int (nI j8), .int (nI j19), .int (nI j30)] : List Value).toArray below meth c A 8 0 0 (MQ below (va_Qi (fun r w => WX (okX E a) w ∧ keeps ws w (fun q => ¬ (q = 0 ∨ q = 6 ∨ q = 9 ∨ q = 28 ∨ q = 31))) (xB E A) A) ([.ref (a 0), .int (nI j8), .int (nI j19), .int (nI j30)] : List Value).toArray s 0 0 A) wl34 34 [(0, .ref (a 0)), (1, .int (nI j8)), (2, .int (nI j19)), (3, .int (nI j30)), (4, .int (nI h))] [] := by
          intro fu34
          induction fu34 with
          | zero => intro h wl34 _ q; omega
          | succ fu34 ih34 =>
            intro h wl34 hWl34 me34 iv34_0 kq34
            refine x_iload C dX11_flock_34 4 rfl rfl ?_
            refine x_bipush C (v := 20) dX11_flock_36 (by decide) rfl ?_
            refine x_icmp_gt C (tgt := 55) dX11_flock_38 (by decide) rfl (fun c34 => ?_) (fun c34 => ?_)
            · skip
              have nf35 := nI_lt' (a := 20) (b := h) c34 (by omega) (by omega)
              refine x_iconst C (v := 0) dX11_flock_55 (by decide) rfl ?_
              refine x_istore C (lv' := [(4, .int 0), (0, .ref (a 0)), (1, .int (nI j8)), (2, .int (nI j19)), (3, .int (nI j30))]) dX11_flock_56 (by decide) rfl rfl ?_
              refine x_iconst C (v := 0) dX11_flock_58 (by decide) rfl ?_
              refine x_istore C (lv' := [(5, .int 0), (4, .int 0), (0, .ref (a 0)), (1, .int (nI j8)), (2, .int (nI j19)), (3, .int (nI j30))]) dX11_flock_59 (by decide) rfl rfl ?_
              have loop61 : ∀ (fu61 : Nat) (z61_4 : Int32) (d : Nat) (wl61 : va_W), WX (okX E a) wl61 → 12 - d < fu61 → d ≤ 12 → keeps ws wl61 (fun q => ¬ (q = 0 ∨ q = 6 ∨ q = 9 ∨ q = 28 ∨ q = 31)) → X E p l e (xRm 4 0 0) s m ([.ref (a 0), .int (nI j8), .int (nI j19), .int (nI j30)] : List Value).toArray below meth c A 8 0 0 (MQ below (va_Qi (fun r w => WX (okX E a) w ∧ keeps ws w (fun q => ¬ (q = 0 ∨ q = 6 ∨ q = 9 ∨ q = 28 ∨ q = 31))) (xB E A) A) ([.ref (a 0), .int (nI j8), .int (nI j19), .int (nI j30)] : List Value).toArray s 0 0 A) wl61 61 [(0, .ref (a 0)), (1, .int (nI j8)), (2, .int (nI j19)), (3, .int (nI j30)), (4, .int z61_4), (5, .int (nI d))] [] := by
                intro fu61
                induction fu61 with
                | zero => intro z61_4 d wl61 _ q; omega
                | succ fu61 ih61 =>
                  intro z61_4 d wl61 hWl61 me61 iv61_0 kq61
                  refine x_iload C dX11_flock_61 5 rfl rfl ?_
                  refine x_iload_n C dX11_flock_63 rfl 2 rfl rfl ?_
                  refine x_icmp_ge C (tgt := 135) dX11_flock_64 (by decide) rfl (fun c36 => ?_) (fun c36 => ?_)
                  · skip
                    have nf37 := nI_le' (a := j19) (b := d) c36 (by omega) (by omega)
                    refine x_iload_n C dX11_flock_135 rfl 3 rfl rfl ?_
                    refine x_if_ne C (tgt := 148) dX11_flock_136 (by decide) rfl (fun c38 => ?_) (fun c38 => ?_)
                    · skip
                      have nf39 : ¬ j30 = 0 := fun q => c38 (congrArg nI q)
                      refine x_iload C dX11_flock_148 4 rfl rfl ?_
                      exact x_zret C hr hlk rfl dX11_flock_150 ⟨hWl61, kq61⟩
                    · skip
                      have nf40 : j30 = 0 := (nI_eq (by omega) (by omega)).mp c38
                      refine x_aload_n C dX11_flock_139 rfl 0 rfl rfl ?_
                      obtain ⟨_, k41, v42, rfl⟩ := hWl61 0 _ rfl
                      refine x_get C (ci := 10) (k := 14) 0 k41 rfl in_X11 (by decide) w_399 rfl dX11_flock_140 rfl ?_
                      refine x_iload_n C dX11_flock_143 rfl 1 rfl rfl ?_
                      obtain ⟨_, k43, f44, rfl⟩ := hWl61 108 _ rfl
                      refine x_iald C (v := (f44 (nI j8).toNatClampNeg)) 108 k43 (vp_in_nI (by omega) (by decide)) rfl dX11_flock_144 rfl ?_
                      refine x_any (fun v45 => ?_)
                      refine x_goto C (tgt := 150) dX11_flock_145 (by decide) ?_
                      exact x_zret C hr hlk rfl dX11_flock_150 ⟨hWl61, kq61⟩
                  · skip
                    have nf46 := nI_nle' (a := j19) (b := d) c36 (by omega) (by omega)
                    refine x_iconst C (v := 1) dX11_flock_67 (by decide) rfl ?_
                    refine x_istore C (lv' := [(6, .int 1), (0, .ref (a 0)), (1, .int (nI j8)), (2, .int (nI j19)), (3, .int (nI j30)), (4, .int z61_4), (5, .int (nI d))]) dX11_flock_68 (by decide) rfl rfl ?_
                    have loop70 : ∀ (fu70 : Nat) (z70_4 : Int32) (h : Nat) (wl70 : va_W), WX (okX E a) wl70 → 21 - h < fu70 → 1 ≤ h ∧ h ≤ 21 → keeps ws wl70 (fun q => ¬ (q = 0 ∨ q = 6 ∨ q = 9 ∨ q = 28 ∨ q = 31)) → X E p l e (xRm 4 0 0) s m ([.ref (a 0), .int (nI j8), .int (nI j19), .int (nI j30)] : List Value).toArray below meth c A 8 0 0 (MQ below (va_Qi (fun r w => WX (okX E a) w ∧ keeps ws w (fun q => ¬ (q = 0 ∨ q = 6 ∨ q = 9 ∨ q = 28 ∨ q = 31))) (xB E A) A) ([.ref (a 0), .int (nI j8), .int (nI j19), .int (nI j30)] : List Value).toArray s 0 0 A) wl70 70 [(0, .ref (a 0)), (1, .int (nI j8)), (2, .int (nI j19)), (3, .int (nI j30)), (4, .int z70_4), (5, .int (nI d)), (6, .int (nI h))] [] := by
                      intro fu70
                      induction fu70 with
                      | zero => intro z70_4 h wl70 _ q; omega
                      | succ fu70 ih70 =>
                        intro z70_4 h wl70 hWl70 me70 iv70_0 kq70
                        refine x_iload C dX11_flock_70 6 rfl rfl ?_
                        refine x_bipush C (v := 20) dX11_flock_72 (by decide) rfl ?_
                        refine x_icmp_gt C (tgt := 129) dX11_flock_74 (by decide) rfl (fun c47 => ?_) (fun c47 => ?_)
                        · skip
                          have nf48 := nI_lt' (a := 20) (b := h) c47 (by omega) (by omega)
                          refine x_iinc C (v := (nI (d + 1))) (lv' := [(5, .int (nI (d + 1))), (0, .ref (a 0)), (1, .int (nI j8)), (2, .int (nI j19)), (3, .int (nI j30)), (4, .int z70_4), (6, .int (nI h))]) dX11_flock_129 5 rfl (nI_add d 1) (by decide) rfl rfl ?_
                          refine x_goto C (tgt := 61) dX11_flock_132 (by decide) ?_
                          refine x_lv (lv1 := [(0, .ref (a 0)), (1, .int (nI j8)), (2, .int (nI j19)), (3, .int (nI j30)), (4, .int z70_4), (5, .int (nI (d + 1)))]) [1, 2, 3, 4, 5, 0] rfl ?_
                          exact ih61 z70_4 (d + 1) wl70 hWl70 (by omega) (by omega) kq70
                        · skip
                          have nf49 := nI_nlt' (a := 20) (b := h) c47 (by omega) (by omega)
                          refine x_aload_n C dX11_flock_77 rfl 0 rfl rfl ?_
                          refine x_iload C dX11_flock_78 6 rfl rfl ?_
                          obtain ⟨_, k50, v51, rfl⟩ := hWl70 0 _ rfl
                          refine x_vi C (As := [.int (nI h)]) (rest := []) (c_bestHatch E l a wl70 hWl70 h (by omega)) mf_X11_bestHatch w_971 0 k50 rfl rfl rfl (Nat.le_of_ble_eq_true rfl) ⟨(Nat.le_of_ble_eq_true rfl), (Nat.le_of_ble_eq_true rfl)⟩ ⟨(Nat.le_of_ble_eq_true rfl), (Nat.le_of_ble_eq_true rfl)⟩ dX11_flock_80 rfl (fun r53 w54 h52 => ?_)
                          obtain ⟨hW55, ⟨m57, bm58, e56⟩⟩ := h52
                          refine x_top e56 ?_
                          refine x_ws hW55 ?_
                          refine x_istore C (lv' := [(7, .int (nI m57)), (0, .ref (a 0)), (1, .int (nI j8)), (2, .int (nI j19)), (3, .int (nI j30)), (4, .int z70_4), (5, .int (nI d)), (6, .int (nI h))]) dX11_flock_83 (by decide) rfl rfl ?_
                          refine x_iload C dX11_flock_85 7 rfl rfl ?_
                          refine x_iload_n C dX11_flock_87 rfl 2 rfl rfl ?_
                          refine x_icmp_ne C (tgt := 96) dX11_flock_88 (by decide) rfl (fun c59 => ?_) (fun c59 => ?_)
                          · skip
                            have nf60 : ¬ h = j8 := fun q => c59 (congrArg nI q)
                            refine x_iload C dX11_flock_96 5 rfl rfl ?_
                            refine x_istore C (lv' := [(4, .int z70_4), (7, .int (nI m57)), (0, .ref (a 0)), (1, .int (nI j8)), (2, .int (nI j19)), (3, .int (nI j30)), (5, .int (nI d)), (6, .int (nI h))]) dX11_flock_98 (by decide) rfl rfl ?_
                            refine x_aload_n C dX11_flock_100 rfl 2 rfl rfl ?_
                            refine x_get C (ci := 10) (k := 14) 0 k50 rfl in_X11 (by decide) w_399 rfl dX11_flock_101 rfl ?_
                            refine x_iload C dX11_flock_104 7 rfl rfl ?_
                            refine x_iload C dX11_flock_106 7 rfl rfl ?_
                            refine x_iload C dX11_flock_108 1 rfl rfl ?_
                            refine x_isub C (v := ((nI h) - (nI m57))) dX11_flock_110 rfl rfl ?_
                            refine x_any (fun v61 => ?_)
                            refine x_aload_n C dX11_flock_111 rfl 2 rfl rfl ?_
                            refine x_get C (ci := 10) (k := 14) 0 k50 rfl in_X11 (by decide) w_399 rfl dX11_flock_112 rfl ?_
                            refine x_iload C dX11_flock_115 7 rfl rfl ?_
                            refine x_iload C dX11_flock_117 1 rfl rfl ?_
                            refine x_iadd C (v := (nI (h + m57))) dX11_flock_119 (nI_add h m57) rfl ?_
                            obtain ⟨_, k62, f63, rfl⟩ := hWl70 108 _ rfl
                            refine x_iald C (v := (f63 (nI (h + m57)).toNatClampNeg)) 108 k62 (vp_in_nI (by omega) (by decide)) rfl dX11_flock_120 rfl ?_
                            refine x_any (fun v64 => ?_)
                            refine x_iadd C (v := (v61 + v64)) dX11_flock_121 rfl rfl ?_
                            refine x_any (fun v65 => ?_)
                            obtain ⟨w66, hw67⟩ : ∃ w : va_W, w = List.set wl70 108 (iA E (a 108) 21 (upd f63 (nI h).toNatClampNeg v65)) := ⟨_, rfl⟩
                            refine x_iast C 108 k62 (vp_in_nI (by omega) (by decide)) hw67.symm dX11_flock_122 rfl ?_
                            have hW68 : WX (okX E a) w66 := by rw [hw67]; exact hWl70.set (k := 108) rfl ⟨_, rfl⟩
                            have k69 : w66[0]? = some (ob (a 0) 10 [.ref (a 1), .ref (a 3), .ref (a 5), .ref (a 27), .ref (a 49), .int v51, .ref (a 71), .ref (a 79), .ref (a 87), .ref (a 92), .ref (a 103), .ref (a 105), .ref (a 106), .ref (a 107), .ref (a 108), .ref (a 109), .ref (a 110), .ref (a 111), .ref (a 112)]) := by rw [hw67]; exact set_ne k50 (by decide)
                            have k70 : w66[108]? = some (iA E (a 108) 21 (upd f63 (nI h).toNatClampNeg v65)) := by rw [hw67]; exact set_eq k62
                            have kp71 := keeps_set kq70 hw67 (by first | exact rfl | decide | omega | (dsimp only; omega))
                            refine x_iinc C (v := (nI (h + 1))) (lv' := [(6, .int (nI (h + 1))), (4, .int z70_4), (7, .int (nI m57)), (0, .ref (a 0)), (1, .int (nI j8)), (2, .int (nI j19)), (3, .int (nI j30)), (5, .int (nI d))]) dX11_flock_123 7 rfl (nI_add h 1) (by decide) rfl rfl ?_
                            refine x_goto C (tgt := 70) dX11_flock_126 (by decide) ?_
                            refine x_lv (lv1 := [(0, .ref (a 0)), (1, .int (nI j8)), (2, .int (nI j19)), (3, .int (nI j30)), (4, .int z70_4), (5, .int (nI d)), (6, .int (nI (h + 1)))]) [3, 4, 5, 6, 1, 7, 0] rfl ?_
                            exact ih70 z70_4 (h + 1) w66 hW68 (by omega) (by omega) kp71
                          · skip
                            have nf72 : h = j8 := (nI_eq (by omega) (by omega)).mp c59
                            refine x_iload C dX11_flock_91 0 rfl rfl ?_
                            refine x_goto C (tgt := 98) dX11_flock_93 (by decide) ?_
                            refine x_istore C (lv' := [(4, .int (nI m57)), (7, .int (nI m57)), (0, .ref (a 0)), (1, .int (nI j8)), (2, .int (nI j19)), (3, .int (nI j30)), (5, .int (nI d)), (6, .int (nI h))]) dX11_flock_98 (by decide) rfl rfl ?_
                            refine x_aload_n C dX11_flock_100 rfl 2 rfl rfl ?_
                            refine x_get C (ci := 10) (k := 14) 0 k50 rfl in_X11 (by decide) w_399 rfl dX11_flock_101 rfl ?_
                            refine x_iload C dX11_flock_104 7 rfl rfl ?_
                            refine x_iload C dX11_flock_106 7 rfl rfl ?_
                            refine x_iload C dX11_flock_108 1 rfl rfl ?_
                            refine x_isub C (v := ((nI h) - (nI m57))) dX11_flock_110 rfl rfl ?_
                            refine x_any (fun v73 => ?_)
                            refine x_aload_n C dX11_flock_111 rfl 2 rfl rfl ?_
                            refine x_get C (ci := 10) (k := 14) 0 k50 rfl in_X11 (by decide) w_399 rfl dX11_flock_112 rfl ?_
                            refine x_iload C dX11_flock_115 7 rfl rfl ?_
                            refine x_iload C dX11_flock_117 1 rfl rfl ?_
                            refine x_iadd C (v := (nI (h + m57))) dX11_flock_119 (nI_add h m57) rfl ?_
                            obtain ⟨_, k74, f75, rfl⟩ := hWl70 108 _ rfl
                            refine x_iald C (v := (f75 (nI (h + m57)).toNatClampNeg)) 108 k74 (vp_in_nI (by omega) (by decide)) rfl dX11_flock_120 rfl ?_
                            refine x_any (fun v76 => ?_)
                            refine x_iadd C (v := (v73 + v76)) dX11_flock_121 rfl rfl ?_
                            refine x_any (fun v77 => ?_)
                            obtain ⟨w78, hw79⟩ : ∃ w : va_W, w = List.set wl70 108 (iA E (a 108) 21 (upd f75 (nI h).toNatClampNeg v77)) := ⟨_, rfl⟩
                            refine x_iast C 108 k74 (vp_in_nI (by omega) (by decide)) hw79.symm dX11_flock_122 rfl ?_
                            have hW80 : WX (okX E a) w78 := by rw [hw79]; exact hWl70.set (k := 108) rfl ⟨_, rfl⟩
                            have k81 : w78[0]? = some (ob (a 0) 10 [.ref (a 1), .ref (a 3), .ref (a 5), .ref (a 27), .ref (a 49), .int v51, .ref (a 71), .ref (a 79), .ref (a 87), .ref (a 92), .ref (a 103), .ref (a 105), .ref (a 106), .ref (a 107), .ref (a 108), .ref (a 109), .ref (a 110), .ref (a 111), .ref (a 112)]) := by rw [hw79]; exact set_ne k50 (by decide)
                            have k82 : w78[108]? = some (iA E (a 108) 21 (upd f75 (nI h).toNatClampNeg v77)) := by rw [hw79]; exact set_eq k74
                            have kp83 := keeps_set kq70 hw79 (by first | exact rfl | decide | omega | (dsimp only; omega))
                            refine x_iinc C (v := (nI (h + 1))) (lv' := [(6, .int (nI (h + 1))), (4, .int (nI m57)), (7, .int (nI m57)), (0, .ref (a 0)), (1, .int (nI j8)), (2, .int (nI j19)), (3, .int (nI j30)), (5, .int (nI d))]) dX11_flock_123 7 rfl (nI_add h 1) (by decide) rfl rfl ?_
                            refine x_goto C (tgt := 70) dX11_flock_126 (by decide) ?_
                            refine x_lv (lv1 := [(0, .ref (a 0)), (1, .int (nI j8)), (2, .int (nI j19)), (3, .int (nI j30)), (4, .int (nI m57)), (5, .int (nI d)), (6, .int (nI (h + 1)))]) [3, 4, 5, 6, 1, 7, 0] rfl ?_
                            exact ih70 ((nI m57)) (h + 1) w78 hW80 (by omega) (by omega) kp83
                    refine x_lv (lv1 := [(0, .ref (a 0)), (1, .int (nI j8)), (2, .int (nI j19)), (3, .int (nI j30)), (4, .int z61_4), (5, .int (nI d)), (6, .int 1)]) [1, 2, 3, 4, 5, 6, 0] rfl ?_
                    exact loop70 _ z61_4 1 wl61 hWl61 (Nat.lt_succ_self _) (by omega) kq61
              refine x_lv (lv1 := [(0, .ref (a 0)), (1, .int (nI j8)), (2, .int (nI j19)), (3, .int (nI j30)), (4, .int 0), (5, .int 0)]) [2, 3, 4, 5, 1, 0] rfl ?_
              exact loop61 _ (0 : Int32) 0 wl34 hWl34 (Nat.lt_succ_self _) (by omega) kq34
            · skip
              have nf84 := nI_nlt' (a := 20) (b := h) c34 (by omega) (by omega)
              refine x_aload_n C dX11_flock_41 rfl 0 rfl rfl ?_
              obtain ⟨_, k85, v86, rfl⟩ := hWl34 0 _ rfl
              refine x_get C (ci := 10) (k := 14) 0 k85 rfl in_X11 (by decide) w_399 rfl dX11_flock_42 rfl ?_
              refine x_iload C dX11_flock_45 4 rfl rfl ?_
              refine x_iconst C (v := 0) dX11_flock_47 (by decide) rfl ?_
              obtain ⟨_, k87, f88, rfl⟩ := hWl34 108 _ rfl
              obtain ⟨w89, hw90⟩ : ∃ w : va_W, w = List.set wl34 108 (iA E (a 108) 21 (upd f88 (nI h).toNatClampNeg 0)) := ⟨_, rfl⟩
              refine x_iast C 108 k87 (vp_in_nI (by omega) (by decide)) hw90.symm dX11_flock_48 rfl ?_
              have hW91 : WX (okX E a) w89 := by rw [hw90]; exact hWl34.set (k := 108) rfl ⟨_, rfl⟩
              have k92 : w89[0]? = some (ob (a 0) 10 [.ref (a 1), .ref (a 3), .ref (a 5), .ref (a 27), .ref (a 49), .int v86, .ref (a 71), .ref (a 79), .ref (a 87), .ref (a 92), .ref (a 103), .ref (a 105), .ref (a 106), .ref (a 107), .ref (a 108), .ref (a 109), .ref (a 110), .ref (a 111), .ref (a 112)]) := by rw [hw90]; exact set_ne k85 (by decide)
              have k93 : w89[108]? = some (iA E (a 108) 21 (upd f88 (nI h).toNatClampNeg 0)) := by rw [hw90]; exact set_eq k87
              have kp94 := keeps_set kq34 hw90 (by first | exact rfl | decide | omega | (dsimp only; omega))
              refine x_iinc C (v := (nI (h + 1))) (lv' := [(4, .int (nI (h + 1))), (0, .ref (a 0)), (1, .int (nI j8)), (2, .int (nI j19)), (3, .int (nI j30))]) dX11_flock_49 4 rfl (nI_add h 1) (by decide) rfl rfl ?_
              refine x_goto C (tgt := 34) dX11_flock_52 (by decide) ?_
              refine x_lv (lv1 := [(0, .ref (a 0)), (1, .int (nI j8)), (2, .int (nI j19)), (3, .int (nI j30)), (4, .int (nI (h + 1)))]) [1, 2, 3, 4, 0] rfl ?_
              exact ih34 (h + 1) w89 hW91 (by omega) (by omega) kp94
        refine x_lv (lv1 := [(0, .ref (a 0)), (1, .int (nI j8)), (2, .int (nI j19)), (3, .int (nI j30)), (4, .int 0)]) [1, 2, 3, 4, 0] rfl ?_
        exact loop34 _ 0 ws hW (Nat.lt_succ_self _) (by omega) kp0
      · skip
        refine x_iconst C (v := (-1)) dX11_flock_29 (by decide) rfl ?_
        exact x_zret C hr hlk rfl dX11_flock_30 ⟨hW, kp0⟩
