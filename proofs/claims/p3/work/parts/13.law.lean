theorem dX8_addWord_0 : decode cX8_addWord 0 = .ok (.bipush 24, 2) := by decide +kernel
theorem dX8_addWord_2 : decode cX8_addWord 2 = .ok (.istore_n 2, 1) := by decide +kernel
theorem dX8_addWord_3 : decode cX8_addWord 3 = .ok (.iload_n 2, 1) := by decide +kernel
theorem dX8_addWord_4 : decode cX8_addWord 4 = .ok (.ifCond .lt 45, 3) := by decide +kernel
theorem dX8_addWord_7 : decode cX8_addWord 7 = .ok (.aload_n 0, 1) := by decide +kernel
theorem dX8_addWord_8 : decode cX8_addWord 8 = .ok (.getfield 15, 3) := by decide +kernel
theorem dX8_addWord_11 : decode cX8_addWord 11 = .ok (.sipush 260, 3) := by decide +kernel
theorem dX8_addWord_14 : decode cX8_addWord 14 = .ok (.if_icmp .ge 35, 3) := by decide +kernel
theorem dX8_addWord_17 : decode cX8_addWord 17 = .ok (.aload_n 0, 1) := by decide +kernel
theorem dX8_addWord_18 : decode cX8_addWord 18 = .ok (.getfield 9, 3) := by decide +kernel
theorem dX8_addWord_21 : decode cX8_addWord 21 = .ok (.aload_n 0, 1) := by decide +kernel
theorem dX8_addWord_22 : decode cX8_addWord 22 = .ok (.getfield 15, 3) := by decide +kernel
theorem dX8_addWord_25 : decode cX8_addWord 25 = .ok (.iload_n 1, 1) := by decide +kernel
theorem dX8_addWord_26 : decode cX8_addWord 26 = .ok (.iload_n 2, 1) := by decide +kernel
theorem dX8_addWord_27 : decode cX8_addWord 27 = .ok (.iushr, 1) := by decide +kernel
theorem dX8_addWord_28 : decode cX8_addWord 28 = .ok (.sipush 255, 3) := by decide +kernel
theorem dX8_addWord_31 : decode cX8_addWord 31 = .ok (.iand, 1) := by decide +kernel
theorem dX8_addWord_32 : decode cX8_addWord 32 = .ok (.iastore, 1) := by decide +kernel
theorem dX8_addWord_33 : decode cX8_addWord 33 = .ok (.aload_n 0, 1) := by decide +kernel
theorem dX8_addWord_34 : decode cX8_addWord 34 = .ok (.dup, 1) := by decide +kernel
theorem dX8_addWord_35 : decode cX8_addWord 35 = .ok (.getfield 15, 3) := by decide +kernel
theorem dX8_addWord_38 : decode cX8_addWord 38 = .ok (.iconst 1, 1) := by decide +kernel
theorem dX8_addWord_39 : decode cX8_addWord 39 = .ok (.iadd, 1) := by decide +kernel
theorem dX8_addWord_40 : decode cX8_addWord 40 = .ok (.putfield 15, 3) := by decide +kernel
theorem dX8_addWord_43 : decode cX8_addWord 43 = .ok (.iinc 2 (-8), 3) := by decide +kernel
theorem dX8_addWord_46 : decode cX8_addWord 46 = .ok (.goto (-43), 3) := by decide +kernel
theorem dX8_addWord_49 : decode cX8_addWord 49 = .ok (.return_, 1) := by decide +kernel
set_option maxRecDepth 20000 in
set_option maxHeartbeats 4000000 in
theorem c_addWord (E : xE) (l : Launch) (a : Nat → Nat) (ws : va_W) (hW : WX (okX E a) ws) (v : Int32) : xV E l yX8_addWord cX8_addWord 3 0 0 0 [.ref (a 1), .int v] ws (fun w => WX (okX E a) w ∧ keeps ws w (fun q => q = 1 ∨ q = 2)) := by
  refine xV_start (lv := [(0, .ref (a 1)), (1, .int v)]) RX8 (by decide) rfl (Nat.le_of_ble_eq_true rfl) rfl (fun p e s m below meth c A C hr hlk hin => ?_)
  have kp0 : keeps ws ws (fun q => q = 1 ∨ q = 2) := keeps_rf
  refine x_bipush C (v := 24) dX8_addWord_0 (by decide) rfl ?_
  refine x_istore_n C (lv' := [(2, .int 24), (0, .ref (a 1)), (1, .int v)]) dX8_addWord_2 rfl (by decide) rfl rfl ?_
  refine x_iload_n C dX8_addWord_3 rfl 0 rfl rfl ?_
  refine x_if_lt C (tgt := 49) dX8_addWord_4 (by decide) rfl (fun h => absurd h (by decide)) (fun _ => ?_)
  refine x_aload_n C dX8_addWord_7 rfl 1 rfl rfl ?_
  obtain ⟨_, k1, n2, v4, v5, v6, bn3, rfl⟩ := hW 1 _ rfl
  refine x_get C (ci := 7) (k := 1) 1 k1 rfl in_X8 (by decide) w_37 rfl dX8_addWord_8 rfl ?_
  refine x_sipush C (v := 260) dX8_addWord_11 (by decide) rfl ?_
  refine x_icmp_ge C (tgt := 49) dX8_addWord_14 (by decide) rfl (fun c7 => ?_) (fun c7 => ?_)
  · skip
    have nf8 := nI_le' (a := 260) (b := n2) c7 (by omega) (by omega)
    exact x_vret C hr hlk dX8_addWord_49 ⟨hW, kp0⟩
  · skip
    have nf9 := nI_nle' (a := 260) (b := n2) c7 (by omega) (by omega)
    refine x_aload_n C dX8_addWord_17 rfl 1 rfl rfl ?_
    refine x_get C (ci := 7) (k := 0) 1 k1 rfl in_X8 (by decide) w_36 rfl dX8_addWord_18 rfl ?_
    refine x_aload_n C dX8_addWord_21 rfl 1 rfl rfl ?_
    refine x_get C (ci := 7) (k := 1) 1 k1 rfl in_X8 (by decide) w_37 rfl dX8_addWord_22 rfl ?_
    refine x_iload_n C dX8_addWord_25 rfl 2 rfl rfl ?_
    refine x_iload_n C dX8_addWord_26 rfl 0 rfl rfl ?_
    refine x_iushr C (v := (v.toUInt32 >>> ((24 : Int32).toUInt32 &&& Int32.toUInt32 31)).toInt32) dX8_addWord_27 rfl rfl ?_
    refine x_any (fun v10 => ?_)
    refine x_sipush C (v := 255) dX8_addWord_28 (by decide) rfl ?_
    refine x_iand C (v := (v10 &&& (255 : Int32))) dX8_addWord_31 rfl rfl ?_
    refine x_any (fun v11 => ?_)
    obtain ⟨_, k12, f13, rfl⟩ := hW 2 _ rfl
    obtain ⟨w14, hw15⟩ : ∃ w : va_W, w = List.set ws 2 (iA E (a 2) 260 (upd f13 (nI n2).toNatClampNeg v11)) := ⟨_, rfl⟩
    refine x_iast C 2 k12 (vp_in_nI (by omega) (by decide)) hw15.symm dX8_addWord_32 rfl ?_
    have hW16 : WX (okX E a) w14 := by rw [hw15]; exact hW.set (k := 2) rfl ⟨_, rfl⟩
    have k17 : w14[1]? = some (ob (a 1) 7 [.ref (a 2), .int (nI n2), .int v4, .int v5, .int v6]) := by rw [hw15]; exact set_ne k1 (by decide)
    have k18 : w14[2]? = some (iA E (a 2) 260 (upd f13 (nI n2).toNatClampNeg v11)) := by rw [hw15]; exact set_eq k12
    have kp19 := keeps_set kp0 hw15 (by first | exact rfl | decide | omega | (dsimp only; omega))
    refine x_aload_n C dX8_addWord_33 rfl 1 rfl rfl ?_
    refine x_dup C dX8_addWord_34 rfl rfl ?_
    refine x_get C (ci := 7) (k := 1) 1 k17 rfl in_X8 (by decide) w_37 rfl dX8_addWord_35 rfl ?_
    refine x_iconst C (v := 1) dX8_addWord_38 (by decide) rfl ?_
    refine x_iadd C (v := (nI (n2 + 1))) dX8_addWord_39 (nI_add n2 1) rfl ?_
    obtain ⟨w20, hw21⟩ : ∃ w : va_W, w = List.set w14 1 (ob (a 1) 7 [.ref (a 2), .int (nI (n2 + 1)), .int v4, .int v5, .int v6]) := ⟨_, rfl⟩
    refine x_put C (ci := 7) (k := 1) (ty := .int) 1 k17 rfl in_X8 tyX8 tyX8_ok nmX8 (by decide) w_37 rfl rfl rfl rfl (Nat.le_of_ble_eq_true rfl) hw21.symm dX8_addWord_40 rfl ?_
    have hW22 : WX (okX E a) w20 := by rw [hw21]; exact hW16.set (k := 1) rfl ⟨(n2 + 1), v4, v5, v6, by omega, rfl⟩
    have k23 : w20[1]? = some (ob (a 1) 7 [.ref (a 2), .int (nI (n2 + 1)), .int v4, .int v5, .int v6]) := by rw [hw21]; exact set_eq k17
    have k24 : w20[2]? = some (iA E (a 2) 260 (upd f13 (nI n2).toNatClampNeg v11)) := by rw [hw21]; exact set_ne k18 (by decide)
    have kp25 := keeps_set kp19 hw21 (by first | exact rfl | decide | omega | (dsimp only; omega))
    refine x_iinc C (v := 16) (lv' := [(2, .int 16), (0, .ref (a 1)), (1, .int v)]) dX8_addWord_43 0 rfl (by decide) (by decide) rfl rfl ?_
    refine x_goto C (tgt := 3) dX8_addWord_46 (by decide) ?_
    refine x_iload_n C dX8_addWord_3 rfl 0 rfl rfl ?_
    refine x_if_lt C (tgt := 49) dX8_addWord_4 (by decide) rfl (fun h => absurd h (by decide)) (fun _ => ?_)
    refine x_aload_n C dX8_addWord_7 rfl 1 rfl rfl ?_
    refine x_get C (ci := 7) (k := 1) 1 k23 rfl in_X8 (by decide) w_37 rfl dX8_addWord_8 rfl ?_
    refine x_sipush C (v := 260) dX8_addWord_11 (by decide) rfl ?_
    refine x_icmp_ge C (tgt := 49) dX8_addWord_14 (by decide) rfl (fun c26 => ?_) (fun c26 => ?_)
    · skip
      have nf27 := nI_le' (a := 260) (b := (n2 + 1)) c26 (by omega) (by omega)
      exact x_vret C hr hlk dX8_addWord_49 ⟨hW22, kp25⟩
    · skip
      have nf28 := nI_nle' (a := 260) (b := (n2 + 1)) c26 (by omega) (by omega)
      refine x_aload_n C dX8_addWord_17 rfl 1 rfl rfl ?_
      refine x_get C (ci := 7) (k := 0) 1 k23 rfl in_X8 (by decide) w_36 rfl dX8_addWord_18 rfl ?_
      refine x_aload_n C dX8_addWord_21 rfl 1 rfl rfl ?_
      refine x_get C (ci := 7) (k := 1) 1 k23 rfl in_X8 (by decide) w_37 rfl dX8_addWord_22 rfl ?_
      refine x_iload_n C dX8_addWord_25 rfl 2 rfl rfl ?_
      refine x_iload_n C dX8_addWord_26 rfl 0 rfl rfl ?_
      refine x_iushr C (v := (v.toUInt32 >>> ((16 : Int32).toUInt32 &&& Int32.toUInt32 31)).toInt32) dX8_addWord_27 rfl rfl ?_
      refine x_any (fun v29 => ?_)
      refine x_sipush C (v := 255) dX8_addWord_28 (by decide) rfl ?_
      refine x_iand C (v := (v29 &&& (255 : Int32))) dX8_addWord_31 rfl rfl ?_
      refine x_any (fun v30 => ?_)
      obtain ⟨w31, hw32⟩ : ∃ w : va_W, w = List.set w20 2 (iA E (a 2) 260 (upd (upd f13 (nI n2).toNatClampNeg v11) (nI (n2 + 1)).toNatClampNeg v30)) := ⟨_, rfl⟩
      refine x_iast C 2 k24 (vp_in_nI (by omega) (by decide)) hw32.symm dX8_addWord_32 rfl ?_
      have hW33 : WX (okX E a) w31 := by rw [hw32]; exact hW22.set (k := 2) rfl ⟨_, rfl⟩
      have k34 : w31[1]? = some (ob (a 1) 7 [.ref (a 2), .int (nI (n2 + 1)), .int v4, .int v5, .int v6]) := by rw [hw32]; exact set_ne k23 (by decide)
      have k35 : w31[2]? = some (iA E (a 2) 260 (upd (upd f13 (nI n2).toNatClampNeg v11) (nI (n2 + 1)).toNatClampNeg v30)) := by rw [hw32]; exact set_eq k24
      have kp36 := keeps_set kp25 hw32 (by first | exact rfl | decide | omega | (dsimp only; omega))
      refine x_aload_n C dX8_addWord_33 rfl 1 rfl rfl ?_
      refine x_dup C dX8_addWord_34 rfl rfl ?_
      refine x_get C (ci := 7) (k := 1) 1 k34 rfl in_X8 (by decide) w_37 rfl dX8_addWord_35 rfl ?_
      refine x_iconst C (v := 1) dX8_addWord_38 (by decide) rfl ?_
      refine x_iadd C (v := (nI ((n2 + 1) + 1))) dX8_addWord_39 (nI_add (n2 + 1) 1) rfl ?_
      obtain ⟨w37, hw38⟩ : ∃ w : va_W, w = List.set w31 1 (ob (a 1) 7 [.ref (a 2), .int (nI ((n2 + 1) + 1)), .int v4, .int v5, .int v6]) := ⟨_, rfl⟩
      refine x_put C (ci := 7) (k := 1) (ty := .int) 1 k34 rfl in_X8 tyX8 tyX8_ok nmX8 (by decide) w_37 rfl rfl rfl rfl (Nat.le_of_ble_eq_true rfl) hw38.symm dX8_addWord_40 rfl ?_
      have hW39 : WX (okX E a) w37 := by rw [hw38]; exact hW33.set (k := 1) rfl ⟨((n2 + 1) + 1), v4, v5, v6, by omega, rfl⟩
      have k40 : w37[1]? = some (ob (a 1) 7 [.ref (a 2), .int (nI ((n2 + 1) + 1)), .int v4, .int v5, .int v6]) := by rw [hw38]; exact set_eq k34
      have k41 : w37[2]? = some (iA E (a 2) 260 (upd (upd f13 (nI n2).toNatClampNeg v11) (nI (n2 + 1)).toNatClampNeg v30)) := by rw [hw38]; exact set_ne k35 (by decide)
      have kp42 := keeps_set kp36 hw38 (by first | exact rfl | decide | omega | (dsimp only; omega))
      refine x_iinc C (v := 8) (lv' := [(2, .int 8), (0, .ref (a 1)), (1, .int v)]) dX8_addWord_43 0 rfl (by decide) (by decide) rfl rfl ?_
      refine x_goto C (tgt := 3) dX8_addWord_46 (by decide) ?_
      refine x_iload_n C dX8_addWord_3 rfl 0 rfl rfl ?_
      refine x_if_lt C (tgt := 49) dX8_addWord_4 (by decide) rfl (fun h => absurd h (by decide)) (fun _ => ?_)
      refine x_aload_n C dX8_addWord_7 rfl 1 rfl rfl ?_
      refine x_get C (ci := 7) (k := 1) 1 k40 rfl in_X8 (by decide) w_37 rfl dX8_addWord_8 rfl ?_
      refine x_sipush C (v := 260) dX8_addWord_11 (by decide) rfl ?_
      refine x_icmp_ge C (tgt := 49) dX8_addWord_14 (by decide) rfl (fun c43 => ?_) (fun c43 => ?_)
      · skip
        have nf44 := nI_le' (a := 260) (b := ((n2 + 1) + 1)) c43 (by omega) (by omega)
        exact x_vret C hr hlk dX8_addWord_49 ⟨hW39, kp42⟩
      · skip
        have nf45 := nI_nle' (a := 260) (b := ((n2 + 1) + 1)) c43 (by omega) (by omega)
        refine x_aload_n C dX8_addWord_17 rfl 1 rfl rfl ?_
        refine x_get C (ci := 7) (k := 0) 1 k40 rfl in_X8 (by decide) w_36 rfl dX8_addWord_18 rfl ?_
        refine x_aload_n C dX8_addWord_21 rfl 1 rfl rfl ?_
        refine x_get C (ci := 7) (k := 1) 1 k40 rfl in_X8 (by decide) w_37 rfl dX8_addWord_22 rfl ?_
        refine x_iload_n C dX8_addWord_25 rfl 2 rfl rfl ?_
        refine x_iload_n C dX8_addWord_26 rfl 0 rfl rfl ?_
        refine x_iushr C (v := (v.toUInt32 >>> ((8 : Int32).toUInt32 &&& Int32.toUInt32 31)).toInt32) dX8_addWord_27 rfl rfl ?_
        refine x_any (fun v46 => ?_)
        refine x_sipush C (v := 255) dX8_addWord_28 (by decide) rfl ?_
        refine x_iand C (v := (v46 &&& (255 : Int32))) dX8_addWord_31 rfl rfl ?_
        refine x_any (fun v47 => ?_)
        obtain ⟨w48, hw49⟩ : ∃ w : va_W, w = List.set w37 2 (iA E (a 2) 260 (upd (upd (upd f13 (nI n2).toNatClampNeg v11) (nI (n2 + 1)).toNatClampNeg v30) (nI ((n2 + 1) + 1)).toNatClampNeg v47)) := ⟨_, rfl⟩
        refine x_iast C 2 k41 (vp_in_nI (by omega) (by decide)) hw49.symm dX8_addWord_32 rfl ?_
        have hW50 : WX (okX E a) w48 := by rw [hw49]; exact hW39.set (k := 2) rfl ⟨_, rfl⟩
        have k51 : w48[1]? = some (ob (a 1) 7 [.ref (a 2), .int (nI ((n2 + 1) + 1)), .int v4, .int v5, .int v6]) := by rw [hw49]; exact set_ne k40 (by decide)
        have k52 : w48[2]? = some (iA E (a 2) 260 (upd (upd (upd f13 (nI n2).toNatClampNeg v11) (nI (n2 + 1)).toNatClampNeg v30) (nI ((n2 + 1) + 1)).toNatClampNeg v47)) := by rw [hw49]; exact set_eq k41
        have kp53 := keeps_set kp42 hw49 (by first | exact rfl | decide | omega | (dsimp only; omega))
        refine x_aload_n C dX8_addWord_33 rfl 1 rfl rfl ?_
        refine x_dup C dX8_addWord_34 rfl rfl ?_
        refine x_get C (ci := 7) (k := 1) 1 k51 rfl in_X8 (by decide) w_37 rfl dX8_addWord_35 rfl ?_
        refine x_iconst C (v := 1) dX8_addWord_38 (by decide) rfl ?_
        refine x_iadd C (v := (nI (((n2 + 1) + 1) + 1))) dX8_addWord_39 (nI_add ((n2 + 1) + 1) 1) rfl ?_
        obtain ⟨w54, hw55⟩ : ∃ w : va_W, w = List.set w48 1 (ob (a 1) 7 [.ref (a 2), .int (nI (((n2 + 1) + 1) + 1)), .int v4, .int v5, .int v6]) := ⟨_, rfl⟩
        refine x_put C (ci := 7) (k := 1) (ty := .int) 1 k51 rfl in_X8 tyX8 tyX8_ok nmX8 (by decide) w_37 rfl rfl rfl rfl (Nat.le_of_ble_eq_true rfl) hw55.symm dX8_addWord_40 rfl ?_
        have hW56 : WX (okX E a) w54 := by rw [hw55]; exact hW50.set (k := 1) rfl ⟨(((n2 + 1) + 1) + 1), v4, v5, v6, by omega, rfl⟩
        have k57 : w54[1]? = some (ob (a 1) 7 [.ref (a 2), .int (nI (((n2 + 1) + 1) + 1)), .int v4, .int v5, .int v6]) := by rw [hw55]; exact set_eq k51
        have k58 : w54[2]? = some (iA E (a 2) 260 (upd (upd (upd f13 (nI n2).toNatClampNeg v11) (nI (n2 + 1)).toNatClampNeg v30) (nI ((n2 + 1) + 1)).toNatClampNeg v47)) := by rw [hw55]; exact set_ne k52 (by decide)
        have kp59 := keeps_set kp53 hw55 (by first | exact rfl | decide | omega | (dsimp only; omega))
        refine x_iinc C (v := 0) (lv' := [(2, .int 0), (0, .ref (a 1)), (1, .int v)]) dX8_addWord_43 0 rfl (by decide) (by decide) rfl rfl ?_
        refine x_goto C (tgt := 3) dX8_addWord_46 (by decide) ?_
        refine x_iload_n C dX8_addWord_3 rfl 0 rfl rfl ?_
        refine x_if_lt C (tgt := 49) dX8_addWord_4 (by decide) rfl (fun h => absurd h (by decide)) (fun _ => ?_)
        refine x_aload_n C dX8_addWord_7 rfl 1 rfl rfl ?_
        refine x_get C (ci := 7) (k := 1) 1 k57 rfl in_X8 (by decide) w_37 rfl dX8_addWord_8 rfl ?_
        refine x_sipush C (v := 260) dX8_addWord_11 (by decide) rfl ?_
        refine x_icmp_ge C (tgt := 49) dX8_addWord_14 (by decide) rfl (fun c60 => ?_) (fun c60 => ?_)
        · skip
          have nf61 := nI_le' (a := 260) (b := (((n2 + 1) + 1) + 1)) c60 (by omega) (by omega)
          exact x_vret C hr hlk dX8_addWord_49 ⟨hW56, kp59⟩
        · skip
          have nf62 := nI_nle' (a := 260) (b := (((n2 + 1) + 1) + 1)) c60 (by omega) (by omega)
          refine x_aload_n C dX8_addWord_17 rfl 1 rfl rfl ?_
          refine x_get C (ci := 7) (k := 0) 1 k57 rfl in_X8 (by decide) w_36 rfl dX8_addWord_18 rfl ?_
          refine x_aload_n C dX8_addWord_21 rfl 1 rfl rfl ?_
          refine x_get C (ci := 7) (k := 1) 1 k57 rfl in_X8 (by decide) w_37 rfl dX8_addWord_22 rfl ?_
          refine x_iload_n C dX8_addWord_25 rfl 2 rfl rfl ?_
          refine x_iload_n C dX8_addWord_26 rfl 0 rfl rfl ?_
          refine x_iushr C (v := (v.toUInt32 >>> ((0 : Int32).toUInt32 &&& Int32.toUInt32 31)).toInt32) dX8_addWord_27 rfl rfl ?_
          refine x_any (fun v63 => ?_)
          refine x_sipush C (v := 255) dX8_addWord_28 (by decide) rfl ?_
          refine x_iand C (v := (v63 &&& (255 : Int32))) dX8_addWord_31 rfl rfl ?_
          refine x_any (fun v64 => ?_)
          obtain ⟨w65, hw66⟩ : ∃ w : va_W, w = List.set w54 2 (iA E (a 2) 260 (upd (upd (upd (upd f13 (nI n2).toNatClampNeg v11) (nI (n2 + 1)).toNatClampNeg v30) (nI ((n2 + 1) + 1)).toNatClampNeg v47) (nI (((n2 + 1) + 1) + 1)).toNatClampNeg v64)) := ⟨_, rfl⟩
          refine x_iast C 2 k58 (vp_in_nI (by omega) (by decide)) hw66.symm dX8_addWord_32 rfl ?_
          have hW67 : WX (okX E a) w65 := by rw [hw66]; exact hW56.set (k := 2) rfl ⟨_, rfl⟩
          have k68 : w65[1]? = some (ob (a 1) 7 [.ref (a 2), .int (nI (((n2 + 1) + 1) + 1)), .int v4, .int v5, .int v6]) := by rw [hw66]; exact set_ne k57 (by decide)
          have k69 : w65[2]? = some (iA E (a 2) 260 (upd (upd (upd (upd f13 (nI n2).toNatClampNeg v11) (nI (n2 + 1)).toNatClampNeg v30) (nI ((n2 + 1) + 1)).toNatClampNeg v47) (nI (((n2 + 1) + 1) + 1)).toNatClampNeg v64)) := by rw [hw66]; exact set_eq k58
          have kp70 := keeps_set kp59 hw66 (by first | exact rfl | decide | omega | (dsimp only; omega))
          refine x_aload_n C dX8_addWord_33 rfl 1 rfl rfl ?_
          refine x_dup C dX8_addWord_34 rfl rfl ?_
          refine x_get C (ci := 7) (k := 1) 1 k68 rfl in_X8 (by decide) w_37 rfl dX8_addWord_35 rfl ?_
          refine x_iconst C (v := 1) dX8_addWord_38 (by decide) rfl ?_
          refine x_iadd C (v := (nI ((((n2 + 1) + 1) + 1) + 1))) dX8_addWord_39 (nI_add (((n2 + 1) + 1) + 1) 1) rfl ?_
          obtain ⟨w71, hw72⟩ : ∃ w : va_W, w = List.set w65 1 (ob (a 1) 7 [.ref (a 2), .int (nI ((((n2 + 1) + 1) + 1) + 1)), .int v4, .int v5, .int v6]) := ⟨_, rfl⟩
          refine x_put C (ci := 7) (k := 1) (ty := .int) 1 k68 rfl in_X8 tyX8 tyX8_ok nmX8 (by decide) w_37 rfl rfl rfl rfl (Nat.le_of_ble_eq_true rfl) hw72.symm dX8_addWord_40 rfl ?_
          have hW73 : WX (okX E a) w71 := by rw [hw72]; exact hW67.set (k := 1) rfl ⟨((((n2 + 1) + 1) + 1) + 1), v4, v5, v6, by omega, rfl⟩
          have k74 : w71[1]? = some (ob (a 1) 7 [.ref (a 2), .int (nI ((((n2 + 1) + 1) + 1) + 1)), .int v4, .int v5, .int v6]) := by rw [hw72]; exact set_eq k68
          have k75 : w71[2]? = some (iA E (a 2) 260 (upd (upd (upd (upd f13 (nI n2).toNatClampNeg v11) (nI (n2 + 1)).toNatClampNeg v30) (nI ((n2 + 1) + 1)).toNatClampNeg v47) (nI (((n2 + 1) + 1) + 1)).toNatClampNeg v64)) := by rw [hw72]; exact set_ne k69 (by decide)
          have kp76 := keeps_set kp70 hw72 (by first | exact rfl | decide | omega | (dsimp only; omega))
          refine x_iinc C (v := (-8)) (lv' := [(2, .int (-8)), (0, .ref (a 1)), (1, .int v)]) dX8_addWord_43 0 rfl (by decide) (by decide) rfl rfl ?_
          refine x_goto C (tgt := 3) dX8_addWord_46 (by decide) ?_
          refine x_iload_n C dX8_addWord_3 rfl 0 rfl rfl ?_
          refine x_if_lt C (tgt := 49) dX8_addWord_4 (by decide) rfl (fun _ => ?_) (fun h => absurd h (by decide))
          exact x_vret C hr hlk dX8_addWord_49 ⟨hW73, kp76⟩
theorem dX8_holds_0 : decode cX8_holds 0 = .ok (.iload_n 1, 1) := by decide +kernel
theorem dX8_holds_1 : decode cX8_holds 1 = .ok (.iload_n 2, 1) := by decide +kernel
theorem dX8_holds_2 : decode cX8_holds 2 = .ok (.if_icmp .lt 23, 3) := by decide +kernel
theorem dX8_holds_5 : decode cX8_holds 5 = .ok (.iload_n 1, 1) := by decide +kernel
theorem dX8_holds_6 : decode cX8_holds 6 = .ok (.iload_n 3, 1) := by decide +kernel
theorem dX8_holds_7 : decode cX8_holds 7 = .ok (.if_icmp .gt 18, 3) := by decide +kernel
theorem dX8_holds_10 : decode cX8_holds 10 = .ok (.iload_n 1, 1) := by decide +kernel
theorem dX8_holds_11 : decode cX8_holds 11 = .ok (.iload 4, 2) := by decide +kernel
theorem dX8_holds_13 : decode cX8_holds 13 = .ok (.imul, 1) := by decide +kernel
theorem dX8_holds_14 : decode cX8_holds 14 = .ok (.aload_n 0, 1) := by decide +kernel
theorem dX8_holds_15 : decode cX8_holds 15 = .ok (.getfield 15, 3) := by decide +kernel
theorem dX8_holds_18 : decode cX8_holds 18 = .ok (.if_icmp .gt 7, 3) := by decide +kernel
theorem dX8_holds_21 : decode cX8_holds 21 = .ok (.iconst 1, 1) := by decide +kernel
theorem dX8_holds_22 : decode cX8_holds 22 = .ok (.goto 4, 3) := by decide +kernel
theorem dX8_holds_25 : decode cX8_holds 25 = .ok (.iconst 0, 1) := by decide +kernel
theorem dX8_holds_26 : decode cX8_holds 26 = .ok (.ireturn, 1) := by decide +kernel
set_option maxRecDepth 20000 in
set_option maxHeartbeats 4000000 in
theorem c_holds (E : xE) (l : Launch) (a : Nat → Nat) (ws : va_W) (hW : WX (okX E a) ws) (n : Int32) (lo : Int32) (hi : Int32) (k0 : Int32) : xI E l yX8_holds cX8_holds 5 (some .boolean) 0 [.ref (a 1), .int n, .int lo, .int hi, .int k0] ws (fun r w => w = ws ∧ zb r ∧ (¬ r = 0 → wth n lo hi)) := by
  refine xI_start (lv := [(0, .ref (a 1)), (1, .int n), (2, .int lo), (3, .int hi), (4, .int k0)]) RX8 (by decide) rfl (Nat.le_of_ble_eq_true rfl) rfl (fun p e s m below meth c A C hr hlk => ?_)
  refine x_iload_n C dX8_holds_0 rfl 1 rfl rfl ?_
  refine x_iload_n C dX8_holds_1 rfl 2 rfl rfl ?_
  refine x_icmp_lt C (tgt := 25) dX8_holds_2 (by decide) rfl (fun c1 => ?_) (fun c1 => ?_)
  · skip
    refine x_iconst C (v := 0) dX8_holds_25 (by decide) rfl ?_
    exact x_zret C hr hlk rfl dX8_holds_26 ⟨rfl, (Or.inl rfl), (fun q => absurd rfl q)⟩
  · skip
    refine x_iload_n C dX8_holds_5 rfl 1 rfl rfl ?_
    refine x_iload_n C dX8_holds_6 rfl 3 rfl rfl ?_
    refine x_icmp_gt C (tgt := 25) dX8_holds_7 (by decide) rfl (fun c2 => ?_) (fun c2 => ?_)
    · skip
      refine x_iconst C (v := 0) dX8_holds_25 (by decide) rfl ?_
      exact x_zret C hr hlk rfl dX8_holds_26 ⟨rfl, (Or.inl rfl), (fun q => absurd rfl q)⟩
    · skip
      refine x_iload_n C dX8_holds_10 rfl 1 rfl rfl ?_
      refine x_iload C dX8_holds_11 4 rfl rfl ?_
      refine x_imul C (v := (n * k0)) dX8_holds_13 rfl rfl ?_
      refine x_any (fun v3 => ?_)
      refine x_aload_n C dX8_holds_14 rfl 0 rfl rfl ?_
      obtain ⟨_, k4, n5, v7, v8, v9, bn6, rfl⟩ := hW 1 _ rfl
      refine x_get C (ci := 7) (k := 1) 1 k4 rfl in_X8 (by decide) w_37 rfl dX8_holds_15 rfl ?_
      refine x_icmp_gt C (tgt := 25) dX8_holds_18 (by decide) rfl (fun c10 => ?_) (fun c10 => ?_)
      · skip
        refine x_iconst C (v := 0) dX8_holds_25 (by decide) rfl ?_
        exact x_zret C hr hlk rfl dX8_holds_26 ⟨rfl, (Or.inl rfl), (fun q => absurd rfl q)⟩
      · skip
        refine x_iconst C (v := 1) dX8_holds_21 (by decide) rfl ?_
        refine x_goto C (tgt := 26) dX8_holds_22 (by decide) ?_
        exact x_zret C hr hlk rfl dX8_holds_26 ⟨rfl, (Or.inr rfl), (fun _ => ⟨c1, c2⟩)⟩
theorem dX8_byteAt_0 : decode cX8_byteAt 0 = .ok (.iload_n 1, 1) := by decide +kernel
theorem dX8_byteAt_1 : decode cX8_byteAt 1 = .ok (.ifCond .lt 20, 3) := by decide +kernel
theorem dX8_byteAt_4 : decode cX8_byteAt 4 = .ok (.iload_n 1, 1) := by decide +kernel
theorem dX8_byteAt_5 : decode cX8_byteAt 5 = .ok (.aload_n 0, 1) := by decide +kernel
theorem dX8_byteAt_6 : decode cX8_byteAt 6 = .ok (.getfield 15, 3) := by decide +kernel
theorem dX8_byteAt_9 : decode cX8_byteAt 9 = .ok (.if_icmp .ge 12, 3) := by decide +kernel
theorem dX8_byteAt_12 : decode cX8_byteAt 12 = .ok (.aload_n 0, 1) := by decide +kernel
theorem dX8_byteAt_13 : decode cX8_byteAt 13 = .ok (.getfield 9, 3) := by decide +kernel
theorem dX8_byteAt_16 : decode cX8_byteAt 16 = .ok (.iload_n 1, 1) := by decide +kernel
theorem dX8_byteAt_17 : decode cX8_byteAt 17 = .ok (.iaload, 1) := by decide +kernel
theorem dX8_byteAt_18 : decode cX8_byteAt 18 = .ok (.goto 4, 3) := by decide +kernel
theorem dX8_byteAt_21 : decode cX8_byteAt 21 = .ok (.iconst (-1), 1) := by decide +kernel
theorem dX8_byteAt_22 : decode cX8_byteAt 22 = .ok (.ireturn, 1) := by decide +kernel
set_option maxRecDepth 20000 in
set_option maxHeartbeats 4000000 in
theorem c_byteAt (E : xE) (l : Launch) (a : Nat → Nat) (ws : va_W) (hW : WX (okX E a) ws) (pl : Int32) : xI E l yX8_byteAt cX8_byteAt 2 (some .int) 0 [.ref (a 1), .int pl] ws (fun r w => w = ws) := by
  refine xI_start (lv := [(0, .ref (a 1)), (1, .int pl)]) RX8 (by decide) rfl (Nat.le_of_ble_eq_true rfl) rfl (fun p e s m below meth c A C hr hlk => ?_)
  refine x_iload_n C dX8_byteAt_0 rfl 1 rfl rfl ?_
  refine x_if_lt C (tgt := 21) dX8_byteAt_1 (by decide) rfl (fun c1 => ?_) (fun c1 => ?_)
  · skip
    refine x_iconst C (v := (-1)) dX8_byteAt_21 (by decide) rfl ?_
    exact x_zret C hr hlk rfl dX8_byteAt_22 rfl
  · skip
    obtain ⟨j2, hj3, ej4⟩ := nI_of c1
    subst ej4
    refine x_iload_n C dX8_byteAt_4 rfl 1 rfl rfl ?_
    refine x_aload_n C dX8_byteAt_5 rfl 0 rfl rfl ?_
    obtain ⟨_, k5, n6, v8, v9, v10, bn7, rfl⟩ := hW 1 _ rfl
    refine x_get C (ci := 7) (k := 1) 1 k5 rfl in_X8 (by decide) w_37 rfl dX8_byteAt_6 rfl ?_
    refine x_icmp_ge C (tgt := 21) dX8_byteAt_9 (by decide) rfl (fun c11 => ?_) (fun c11 => ?_)
    · skip
      have nf12 := nI_le' (a := n6) (b := j2) c11 (by omega) (by omega)
      refine x_iconst C (v := (-1)) dX8_byteAt_21 (by decide) rfl ?_
      exact x_zret C hr hlk rfl dX8_byteAt_22 rfl
    · skip
      have nf13 := nI_nle' (a := n6) (b := j2) c11 (by omega) (by omega)
      refine x_aload_n C dX8_byteAt_12 rfl 0 rfl rfl ?_
      refine x_get C (ci := 7) (k := 0) 1 k5 rfl in_X8 (by decide) w_36 rfl dX8_byteAt_13 rfl ?_
      refine x_iload_n C dX8_byteAt_16 rfl 1 rfl rfl ?_
      obtain ⟨_, k14, f15, rfl⟩ := hW 2 _ rfl
      refine x_iald C (v := (f15 (nI j2).toNatClampNeg)) 2 k14 (vp_in_nI (by omega) (by decide)) rfl dX8_byteAt_17 rfl ?_
      refine x_any (fun v16 => ?_)
      refine x_goto C (tgt := 22) dX8_byteAt_18 (by decide) ?_
      exact x_zret C hr hlk rfl dX8_byteAt_22 rfl
theorem dX8_pairAt_0 : decode cX8_pairAt 0 = .ok (.aload_n 0, 1) := by decide +kernel
theorem dX8_pairAt_1 : decode cX8_pairAt 1 = .ok (.iload_n 1, 1) := by decide +kernel
theorem dX8_pairAt_2 : decode cX8_pairAt 2 = .ok (.invokevirtual 28, 3) := by decide +kernel
theorem dX8_pairAt_5 : decode cX8_pairAt 5 = .ok (.bipush 8, 2) := by decide +kernel
theorem dX8_pairAt_7 : decode cX8_pairAt 7 = .ok (.ishl, 1) := by decide +kernel
theorem dX8_pairAt_8 : decode cX8_pairAt 8 = .ok (.aload_n 0, 1) := by decide +kernel
theorem dX8_pairAt_9 : decode cX8_pairAt 9 = .ok (.iload_n 1, 1) := by decide +kernel
theorem dX8_pairAt_10 : decode cX8_pairAt 10 = .ok (.iconst 1, 1) := by decide +kernel
theorem dX8_pairAt_11 : decode cX8_pairAt 11 = .ok (.iadd, 1) := by decide +kernel
theorem dX8_pairAt_12 : decode cX8_pairAt 12 = .ok (.invokevirtual 28, 3) := by decide +kernel
theorem dX8_pairAt_15 : decode cX8_pairAt 15 = .ok (.ior, 1) := by decide +kernel
theorem dX8_pairAt_16 : decode cX8_pairAt 16 = .ok (.ireturn, 1) := by decide +kernel
set_option maxRecDepth 20000 in
set_option maxHeartbeats 4000000 in
theorem c_pairAt (E : xE) (l : Launch) (a : Nat → Nat) (ws : va_W) (hW : WX (okX E a) ws) (pl : Int32) : xI E l yX8_pairAt cX8_pairAt 2 (some .int) 1 [.ref (a 1), .int pl] ws (fun r w => w = ws) := by
  refine xI_start (lv := [(0, .ref (a 1)), (1, .int pl)]) RX8 (by decide) rfl (Nat.le_of_ble_eq_true rfl) rfl (fun p e s m below meth c A C hr hlk => ?_)
  refine x_aload_n C dX8_pairAt_0 rfl 0 rfl rfl ?_
  refine x_iload_n C dX8_pairAt_1 rfl 1 rfl rfl ?_
  obtain ⟨_, k1, n2, v4, v5, v6, bn3, rfl⟩ := hW 1 _ rfl
  refine x_vi C (As := [.int pl]) (rest := []) (c_byteAt E l a ws hW pl) mf_X8_byteAt w_1005 1 k1 rfl rfl rfl (Nat.le_of_ble_eq_true rfl) ⟨(Nat.le_of_ble_eq_true rfl), (Nat.le_of_ble_eq_true rfl)⟩ ⟨(Nat.le_of_ble_eq_true rfl), (Nat.le_of_ble_eq_true rfl)⟩ dX8_pairAt_2 rfl (fun r8 w9 h7 => ?_)
  have hW10 := h7
  refine x_ws hW10 ?_
  refine x_bipush C (v := 8) dX8_pairAt_5 (by decide) rfl ?_
  refine x_ishl C (v := (r8 <<< ((8 : Int32) &&& 31))) dX8_pairAt_7 rfl rfl ?_
  refine x_any (fun v11 => ?_)
  refine x_aload_n C dX8_pairAt_8 rfl 0 rfl rfl ?_
  refine x_iload_n C dX8_pairAt_9 rfl 1 rfl rfl ?_
  refine x_iconst C (v := 1) dX8_pairAt_10 (by decide) rfl ?_
  refine x_iadd C (v := (pl + (1 : Int32))) dX8_pairAt_11 rfl rfl ?_
  refine x_any (fun v12 => ?_)
  refine x_vi C (As := [.int v12]) (rest := [.int v11]) (c_byteAt E l a ws hW v12) mf_X8_byteAt w_1005 1 k1 rfl rfl rfl (Nat.le_of_ble_eq_true rfl) ⟨(Nat.le_of_ble_eq_true rfl), (Nat.le_of_ble_eq_true rfl)⟩ ⟨(Nat.le_of_ble_eq_true rfl), (Nat.le_of_ble_eq_true rfl)⟩ dX8_pairAt_12 rfl (fun r14 w15 h13 => ?_)
  have hW16 := h13
  refine x_ws hW16 ?_
  refine x_ior C (v := (v11 ||| r14)) dX8_pairAt_15 rfl rfl ?_
  refine x_any (fun v17 => ?_)
  exact x_zret C hr hlk rfl dX8_pairAt_16 rfl
theorem dX8_wordAt_0 : decode cX8_wordAt 0 = .ok (.aload_n 0, 1) := by decide +kernel
theorem dX8_wordAt_1 : decode cX8_wordAt 1 = .ok (.iload_n 1, 1) := by decide +kernel
theorem dX8_wordAt_2 : decode cX8_wordAt 2 = .ok (.invokevirtual 32, 3) := by decide +kernel
theorem dX8_wordAt_5 : decode cX8_wordAt 5 = .ok (.bipush 16, 2) := by decide +kernel
theorem dX8_wordAt_7 : decode cX8_wordAt 7 = .ok (.ishl, 1) := by decide +kernel
theorem dX8_wordAt_8 : decode cX8_wordAt 8 = .ok (.aload_n 0, 1) := by decide +kernel
theorem dX8_wordAt_9 : decode cX8_wordAt 9 = .ok (.iload_n 1, 1) := by decide +kernel
theorem dX8_wordAt_10 : decode cX8_wordAt 10 = .ok (.iconst 2, 1) := by decide +kernel
theorem dX8_wordAt_11 : decode cX8_wordAt 11 = .ok (.iadd, 1) := by decide +kernel
theorem dX8_wordAt_12 : decode cX8_wordAt 12 = .ok (.invokevirtual 32, 3) := by decide +kernel
theorem dX8_wordAt_15 : decode cX8_wordAt 15 = .ok (.ior, 1) := by decide +kernel
theorem dX8_wordAt_16 : decode cX8_wordAt 16 = .ok (.ireturn, 1) := by decide +kernel
set_option maxRecDepth 20000 in
set_option maxHeartbeats 4000000 in
theorem c_wordAt (E : xE) (l : Launch) (a : Nat → Nat) (ws : va_W) (hW : WX (okX E a) ws) (pl : Int32) : xI E l yX8_wordAt cX8_wordAt 2 (some .int) 2 [.ref (a 1), .int pl] ws (fun r w => w = ws) := by
  refine xI_start (lv := [(0, .ref (a 1)), (1, .int pl)]) RX8 (by decide) rfl (Nat.le_of_ble_eq_true rfl) rfl (fun p e s m below meth c A C hr hlk => ?_)
  refine x_aload_n C dX8_wordAt_0 rfl 0 rfl rfl ?_
  refine x_iload_n C dX8_wordAt_1 rfl 1 rfl rfl ?_
  obtain ⟨_, k1, n2, v4, v5, v6, bn3, rfl⟩ := hW 1 _ rfl
  refine x_vi C (As := [.int pl]) (rest := []) (c_pairAt E l a ws hW pl) mf_X8_pairAt w_1107 1 k1 rfl rfl rfl (Nat.le_of_ble_eq_true rfl) ⟨(Nat.le_of_ble_eq_true rfl), (Nat.le_of_ble_eq_true rfl)⟩ ⟨(Nat.le_of_ble_eq_true rfl), (Nat.le_of_ble_eq_true rfl)⟩ dX8_wordAt_2 rfl (fun r8 w9 h7 => ?_)
  have hW10 := h7
  refine x_ws hW10 ?_
  refine x_bipush C (v := 16) dX8_wordAt_5 (by decide) rfl ?_
  refine x_ishl C (v := (r8 <<< ((16 : Int32) &&& 31))) dX8_wordAt_7 rfl rfl ?_
  refine x_any (fun v11 => ?_)
  refine x_aload_n C dX8_wordAt_8 rfl 0 rfl rfl ?_
  refine x_iload_n C dX8_wordAt_9 rfl 1 rfl rfl ?_
  refine x_iconst C (v := 2) dX8_wordAt_10 (by decide) rfl ?_
  refine x_iadd C (v := (pl + (2 : Int32))) dX8_wordAt_11 rfl rfl ?_
  refine x_any (fun v12 => ?_)
  refine x_vi C (As := [.int v12]) (rest := [.int v11]) (c_pairAt E l a ws hW v12) mf_X8_pairAt w_1107 1 k1 rfl rfl rfl (Nat.le_of_ble_eq_true rfl) ⟨(Nat.le_of_ble_eq_true rfl), (Nat.le_of_ble_eq_true rfl)⟩ ⟨(Nat.le_of_ble_eq_true rfl), (Nat.le_of_ble_eq_true rfl)⟩ dX8_wordAt_12 rfl (fun r14 w15 h13 => ?_)
  have hW16 := h13
  refine x_ws hW16 ?_
  refine x_ior C (v := (v11 ||| r14)) dX8_wordAt_15 rfl rfl ?_
  refine x_any (fun v17 => ?_)
  exact x_zret C hr hlk rfl dX8_wordAt_16 rfl
theorem dX8_startText_0 : decode cX8_startText 0 = .ok (.aload_n 0, 1) := by decide +kernel
theorem dX8_startText_1 : decode cX8_startText 1 = .ok (.iload_n 1, 1) := by decide +kernel
theorem dX8_startText_2 : decode cX8_startText 2 = .ok (.putfield 19, 3) := by decide +kernel
theorem dX8_startText_5 : decode cX8_startText 5 = .ok (.aload_n 0, 1) := by decide +kernel
theorem dX8_startText_6 : decode cX8_startText 6 = .ok (.iconst 0, 1) := by decide +kernel
theorem dX8_startText_7 : decode cX8_startText 7 = .ok (.putfield 22, 3) := by decide +kernel
theorem dX8_startText_10 : decode cX8_startText 10 = .ok (.aload_n 0, 1) := by decide +kernel
theorem dX8_startText_11 : decode cX8_startText 11 = .ok (.iconst 0, 1) := by decide +kernel
theorem dX8_startText_12 : decode cX8_startText 12 = .ok (.putfield 25, 3) := by decide +kernel
theorem dX8_startText_15 : decode cX8_startText 15 = .ok (.return_, 1) := by decide +kernel
set_option maxRecDepth 20000 in
set_option maxHeartbeats 4000000 in
theorem c_startText (E : xE) (l : Launch) (a : Nat → Nat) (ws : va_W) (hW : WX (okX E a) ws) (n : Int32) : xV E l yX8_startText cX8_startText 2 0 0 0 [.ref (a 1), .int n] ws (fun w => WX (okX E a) w ∧ keeps ws w (fun q => q = 1 ∨ q = 2)) := by
  refine xV_start (lv := [(0, .ref (a 1)), (1, .int n)]) RX8 (by decide) rfl (Nat.le_of_ble_eq_true rfl) rfl (fun p e s m below meth c A C hr hlk hin => ?_)
  have kp0 : keeps ws ws (fun q => q = 1 ∨ q = 2) := keeps_rf
  refine x_aload_n C dX8_startText_0 rfl 0 rfl rfl ?_
  refine x_iload_n C dX8_startText_1 rfl 1 rfl rfl ?_
  obtain ⟨_, k1, n2, v4, v5, v6, bn3, rfl⟩ := hW 1 _ rfl
  obtain ⟨w7, hw8⟩ : ∃ w : va_W, w = List.set ws 1 (ob (a 1) 7 [.ref (a 2), .int (nI n2), .int n, .int v5, .int v6]) := ⟨_, rfl⟩
  refine x_put C (ci := 7) (k := 2) (ty := .int) 1 k1 rfl in_X8 tyX8 tyX8_ok nmX8 (by decide) w_39 rfl rfl rfl rfl (Nat.le_of_ble_eq_true rfl) hw8.symm dX8_startText_2 rfl ?_
  have hW9 : WX (okX E a) w7 := by rw [hw8]; exact hW.set (k := 1) rfl ⟨n2, n, v5, v6, by omega, rfl⟩
  have k10 : w7[1]? = some (ob (a 1) 7 [.ref (a 2), .int (nI n2), .int n, .int v5, .int v6]) := by rw [hw8]; exact set_eq k1
  have kp11 := keeps_set kp0 hw8 (by first | exact rfl | decide | omega | (dsimp only; omega))
  refine x_aload_n C dX8_startText_5 rfl 0 rfl rfl ?_
  refine x_iconst C (v := 0) dX8_startText_6 (by decide) rfl ?_
  obtain ⟨w12, hw13⟩ : ∃ w : va_W, w = List.set w7 1 (ob (a 1) 7 [.ref (a 2), .int (nI n2), .int n, .int 0, .int v6]) := ⟨_, rfl⟩
  refine x_put C (ci := 7) (k := 3) (ty := .int) 1 k10 rfl in_X8 tyX8 tyX8_ok nmX8 (by decide) w_40 rfl rfl rfl rfl (Nat.le_of_ble_eq_true rfl) hw13.symm dX8_startText_7 rfl ?_
  have hW14 : WX (okX E a) w12 := by rw [hw13]; exact hW9.set (k := 1) rfl ⟨n2, n, (0 : Int32), v6, by omega, rfl⟩
  have k15 : w12[1]? = some (ob (a 1) 7 [.ref (a 2), .int (nI n2), .int n, .int 0, .int v6]) := by rw [hw13]; exact set_eq k10
  have kp16 := keeps_set kp11 hw13 (by first | exact rfl | decide | omega | (dsimp only; omega))
  refine x_aload_n C dX8_startText_10 rfl 0 rfl rfl ?_
  refine x_iconst C (v := 0) dX8_startText_11 (by decide) rfl ?_
  obtain ⟨w17, hw18⟩ : ∃ w : va_W, w = List.set w12 1 (ob (a 1) 7 [.ref (a 2), .int (nI n2), .int n, .int 0, .int 0]) := ⟨_, rfl⟩
  refine x_put C (ci := 7) (k := 4) (ty := .int) 1 k15 rfl in_X8 tyX8 tyX8_ok nmX8 (by decide) w_43 rfl rfl rfl rfl (Nat.le_of_ble_eq_true rfl) hw18.symm dX8_startText_12 rfl ?_
  have hW19 : WX (okX E a) w17 := by rw [hw18]; exact hW14.set (k := 1) rfl ⟨n2, n, (0 : Int32), (0 : Int32), by omega, rfl⟩
  have k20 : w17[1]? = some (ob (a 1) 7 [.ref (a 2), .int (nI n2), .int n, .int 0, .int 0]) := by rw [hw18]; exact set_eq k15
  have kp21 := keeps_set kp16 hw18 (by first | exact rfl | decide | omega | (dsimp only; omega))
  exact x_vret C hr hlk dX8_startText_15 ⟨hW19, kp21⟩
theorem dX8_sign_0 : decode cX8_sign 0 = .ok (.aload_n 0, 1) := by decide +kernel
theorem dX8_sign_1 : decode cX8_sign 1 = .ok (.getfield 22, 3) := by decide +kernel
theorem dX8_sign_4 : decode cX8_sign 4 = .ok (.ifCond .lt 37, 3) := by decide +kernel
theorem dX8_sign_7 : decode cX8_sign 7 = .ok (.aload_n 0, 1) := by decide +kernel
theorem dX8_sign_8 : decode cX8_sign 8 = .ok (.getfield 22, 3) := by decide +kernel
theorem dX8_sign_11 : decode cX8_sign 11 = .ok (.aload_n 0, 1) := by decide +kernel
theorem dX8_sign_12 : decode cX8_sign 12 = .ok (.getfield 19, 3) := by decide +kernel
theorem dX8_sign_15 : decode cX8_sign 15 = .ok (.if_icmp .ge 26, 3) := by decide +kernel
theorem dX8_sign_18 : decode cX8_sign 18 = .ok (.aload_n 0, 1) := by decide +kernel
theorem dX8_sign_19 : decode cX8_sign 19 = .ok (.getfield 22, 3) := by decide +kernel
theorem dX8_sign_22 : decode cX8_sign 22 = .ok (.aload_n 0, 1) := by decide +kernel
theorem dX8_sign_23 : decode cX8_sign 23 = .ok (.getfield 15, 3) := by decide +kernel
theorem dX8_sign_26 : decode cX8_sign 26 = .ok (.if_icmp .ge 15, 3) := by decide +kernel
theorem dX8_sign_29 : decode cX8_sign 29 = .ok (.aload_n 0, 1) := by decide +kernel
theorem dX8_sign_30 : decode cX8_sign 30 = .ok (.getfield 9, 3) := by decide +kernel
theorem dX8_sign_33 : decode cX8_sign 33 = .ok (.aload_n 0, 1) := by decide +kernel
theorem dX8_sign_34 : decode cX8_sign 34 = .ok (.getfield 22, 3) := by decide +kernel
theorem dX8_sign_37 : decode cX8_sign 37 = .ok (.iaload, 1) := by decide +kernel
theorem dX8_sign_38 : decode cX8_sign 38 = .ok (.goto 4, 3) := by decide +kernel
theorem dX8_sign_41 : decode cX8_sign 41 = .ok (.iconst (-1), 1) := by decide +kernel
theorem dX8_sign_42 : decode cX8_sign 42 = .ok (.ireturn, 1) := by decide +kernel
set_option maxRecDepth 20000 in
set_option maxHeartbeats 4000000 in
theorem c_sign (E : xE) (l : Launch) (a : Nat → Nat) (ws : va_W) (hW : WX (okX E a) ws) : xI E l yX8_sign cX8_sign 1 (some .int) 0 [.ref (a 1)] ws (fun r w => w = ws) := by
  refine xI_start (lv := [(0, .ref (a 1))]) RX8 (by decide) rfl (Nat.le_of_ble_eq_true rfl) rfl (fun p e s m below meth c A C hr hlk => ?_)
  refine x_aload_n C dX8_sign_0 rfl 0 rfl rfl ?_
  obtain ⟨_, k1, n2, v4, v5, v6, bn3, rfl⟩ := hW 1 _ rfl
  refine x_get C (ci := 7) (k := 3) 1 k1 rfl in_X8 (by decide) w_40 rfl dX8_sign_1 rfl ?_
  refine x_if_lt C (tgt := 41) dX8_sign_4 (by decide) rfl (fun c7 => ?_) (fun c7 => ?_)
  · skip
    refine x_iconst C (v := (-1)) dX8_sign_41 (by decide) rfl ?_
    exact x_zret C hr hlk rfl dX8_sign_42 rfl
  · skip
    obtain ⟨j8, hj9, ej10⟩ := nI_of c7
    subst ej10
    refine x_aload_n C dX8_sign_7 rfl 0 rfl rfl ?_
    refine x_get C (ci := 7) (k := 3) 1 k1 rfl in_X8 (by decide) w_40 rfl dX8_sign_8 rfl ?_
    refine x_aload_n C dX8_sign_11 rfl 0 rfl rfl ?_
    refine x_get C (ci := 7) (k := 2) 1 k1 rfl in_X8 (by decide) w_39 rfl dX8_sign_12 rfl ?_
    refine x_icmp_ge C (tgt := 41) dX8_sign_15 (by decide) rfl (fun c11 => ?_) (fun c11 => ?_)
    · skip
      refine x_iconst C (v := (-1)) dX8_sign_41 (by decide) rfl ?_
      exact x_zret C hr hlk rfl dX8_sign_42 rfl
    · skip
      refine x_aload_n C dX8_sign_18 rfl 0 rfl rfl ?_
      refine x_get C (ci := 7) (k := 3) 1 k1 rfl in_X8 (by decide) w_40 rfl dX8_sign_19 rfl ?_
      refine x_aload_n C dX8_sign_22 rfl 0 rfl rfl ?_
      refine x_get C (ci := 7) (k := 1) 1 k1 rfl in_X8 (by decide) w_37 rfl dX8_sign_23 rfl ?_
      refine x_icmp_ge C (tgt := 41) dX8_sign_26 (by decide) rfl (fun c12 => ?_) (fun c12 => ?_)
      · skip
        have nf13 := nI_le' (a := n2) (b := j8) c12 (by omega) (by omega)
        refine x_iconst C (v := (-1)) dX8_sign_41 (by decide) rfl ?_
        exact x_zret C hr hlk rfl dX8_sign_42 rfl
      · skip
        have nf14 := nI_nle' (a := n2) (b := j8) c12 (by omega) (by omega)
        refine x_aload_n C dX8_sign_29 rfl 0 rfl rfl ?_
        refine x_get C (ci := 7) (k := 0) 1 k1 rfl in_X8 (by decide) w_36 rfl dX8_sign_30 rfl ?_
        refine x_aload_n C dX8_sign_33 rfl 0 rfl rfl ?_
        refine x_get C (ci := 7) (k := 3) 1 k1 rfl in_X8 (by decide) w_40 rfl dX8_sign_34 rfl ?_
        obtain ⟨_, k15, f16, rfl⟩ := hW 2 _ rfl
        refine x_iald C (v := (f16 (nI j8).toNatClampNeg)) 2 k15 (vp_in_nI (by omega) (by decide)) rfl dX8_sign_37 rfl ?_
        refine x_any (fun v17 => ?_)
        refine x_goto C (tgt := 42) dX8_sign_38 (by decide) ?_
        exact x_zret C hr hlk rfl dX8_sign_42 rfl
theorem dX8_fails_0 : decode cX8_fails 0 = .ok (.aload_n 0, 1) := by decide +kernel
theorem dX8_fails_1 : decode cX8_fails 1 = .ok (.iload_n 1, 1) := by decide +kernel
theorem dX8_fails_2 : decode cX8_fails 2 = .ok (.putfield 25, 3) := by decide +kernel
theorem dX8_fails_5 : decode cX8_fails 5 = .ok (.iconst 0, 1) := by decide +kernel
theorem dX8_fails_6 : decode cX8_fails 6 = .ok (.ireturn, 1) := by decide +kernel
set_option maxRecDepth 20000 in
set_option maxHeartbeats 4000000 in
theorem c_fails (E : xE) (l : Launch) (a : Nat → Nat) (ws : va_W) (hW : WX (okX E a) ws) (kd : Int32) : xI E l yX8_fails cX8_fails 2 (some .boolean) 0 [.ref (a 1), .int kd] ws (fun r w => WX (okX E a) w ∧ keeps ws w (fun q => q = 1 ∨ q = 2) ∧ zb r) := by
  refine xI_start (lv := [(0, .ref (a 1)), (1, .int kd)]) RX8 (by decide) rfl (Nat.le_of_ble_eq_true rfl) rfl (fun p e s m below meth c A C hr hlk => ?_)
  have kp0 : keeps ws ws (fun q => q = 1 ∨ q = 2) := keeps_rf
  refine x_aload_n C dX8_fails_0 rfl 0 rfl rfl ?_
  refine x_iload_n C dX8_fails_1 rfl 1 rfl rfl ?_
  obtain ⟨_, k1, n2, v4, v5, v6, bn3, rfl⟩ := hW 1 _ rfl
  obtain ⟨w7, hw8⟩ : ∃ w : va_W, w = List.set ws 1 (ob (a 1) 7 [.ref (a 2), .int (nI n2), .int v4, .int v5, .int kd]) := ⟨_, rfl⟩
  refine x_put C (ci := 7) (k := 4) (ty := .int) 1 k1 rfl in_X8 tyX8 tyX8_ok nmX8 (by decide) w_43 rfl rfl rfl rfl (Nat.le_of_ble_eq_true rfl) hw8.symm dX8_fails_2 rfl ?_
  have hW9 : WX (okX E a) w7 := by rw [hw8]; exact hW.set (k := 1) rfl ⟨n2, v4, v5, kd, by omega, rfl⟩
  have k10 : w7[1]? = some (ob (a 1) 7 [.ref (a 2), .int (nI n2), .int v4, .int v5, .int kd]) := by rw [hw8]; exact set_eq k1
  have kp11 := keeps_set kp0 hw8 (by first | exact rfl | decide | omega | (dsimp only; omega))
  refine x_iconst C (v := 0) dX8_fails_5 (by decide) rfl ?_
  exact x_zret C hr hlk rfl dX8_fails_6 ⟨hW9, kp11, (Or.inl rfl)⟩
theorem dX8_failsAt_0 : decode cX8_failsAt 0 = .ok (.aload_n 0, 1) := by decide +kernel
theorem dX8_failsAt_1 : decode cX8_failsAt 1 = .ok (.iload_n 2, 1) := by decide +kernel
theorem dX8_failsAt_2 : decode cX8_failsAt 2 = .ok (.putfield 22, 3) := by decide +kernel
theorem dX8_failsAt_5 : decode cX8_failsAt 5 = .ok (.aload_n 0, 1) := by decide +kernel
theorem dX8_failsAt_6 : decode cX8_failsAt 6 = .ok (.iload_n 1, 1) := by decide +kernel
theorem dX8_failsAt_7 : decode cX8_failsAt 7 = .ok (.invokevirtual 39, 3) := by decide +kernel
theorem dX8_failsAt_10 : decode cX8_failsAt 10 = .ok (.ireturn, 1) := by decide +kernel
set_option maxRecDepth 20000 in
set_option maxHeartbeats 4000000 in
theorem c_failsAt (E : xE) (l : Launch) (a : Nat → Nat) (ws : va_W) (hW : WX (okX E a) ws) (kd : Int32) (pl : Int32) : xI E l yX8_failsAt cX8_failsAt 3 (some .boolean) 1 [.ref (a 1), .int kd, .int pl] ws (fun r w => WX (okX E a) w ∧ keeps ws w (fun q => q = 1 ∨ q = 2) ∧ zb r) := by
  refine xI_start (lv := [(0, .ref (a 1)), (1, .int kd), (2, .int pl)]) RX8 (by decide) rfl (Nat.le_of_ble_eq_true rfl) rfl (fun p e s m below meth c A C hr hlk => ?_)
  have kp0 : keeps ws ws (fun q => q = 1 ∨ q = 2) := keeps_rf
  refine x_aload_n C dX8_failsAt_0 rfl 0 rfl rfl ?_
  refine x_iload_n C dX8_failsAt_1 rfl 2 rfl rfl ?_
  obtain ⟨_, k1, n2, v4, v5, v6, bn3, rfl⟩ := hW 1 _ rfl
  obtain ⟨w7, hw8⟩ : ∃ w : va_W, w = List.set ws 1 (ob (a 1) 7 [.ref (a 2), .int (nI n2), .int v4, .int pl, .int v6]) := ⟨_, rfl⟩
  refine x_put C (ci := 7) (k := 3) (ty := .int) 1 k1 rfl in_X8 tyX8 tyX8_ok nmX8 (by decide) w_40 rfl rfl rfl rfl (Nat.le_of_ble_eq_true rfl) hw8.symm dX8_failsAt_2 rfl ?_
  have hW9 : WX (okX E a) w7 := by rw [hw8]; exact hW.set (k := 1) rfl ⟨n2, v4, pl, v6, by omega, rfl⟩
  have k10 : w7[1]? = some (ob (a 1) 7 [.ref (a 2), .int (nI n2), .int v4, .int pl, .int v6]) := by rw [hw8]; exact set_eq k1
  have kp11 := keeps_set kp0 hw8 (by first | exact rfl | decide | omega | (dsimp only; omega))
  refine x_aload_n C dX8_failsAt_5 rfl 0 rfl rfl ?_
  refine x_iload_n C dX8_failsAt_6 rfl 1 rfl rfl ?_
  refine x_vi C (As := [.int kd]) (rest := []) (c_fails E l a w7 hW9 kd) mf_X8_fails w_640 1 k10 rfl rfl rfl (Nat.le_of_ble_eq_true rfl) ⟨(Nat.le_of_ble_eq_true rfl), (Nat.le_of_ble_eq_true rfl)⟩ ⟨(Nat.le_of_ble_eq_true rfl), (Nat.le_of_ble_eq_true rfl)⟩ dX8_failsAt_7 rfl (fun r13 w14 h12 => ?_)
  obtain ⟨hW15, kq16, zb17⟩ := h12
  have kp18 := keeps_tr kp11 kq16 (fun q hq => by first | omega | (dsimp only at *; omega))
  exact x_zret C hr hlk (zb_nar zb17) dX8_failsAt_10 ⟨hW15, kp18, zb17⟩
theorem dX8_takes_0 : decode cX8_takes 0 = .ok (.aload_n 0, 1) := by decide +kernel
theorem dX8_takes_1 : decode cX8_takes 1 = .ok (.invokevirtual 35, 3) := by decide +kernel
theorem dX8_takes_4 : decode cX8_takes 4 = .ok (.iload_n 1, 1) := by decide +kernel
theorem dX8_takes_5 : decode cX8_takes 5 = .ok (.if_icmp .eq 9, 3) := by decide +kernel
theorem dX8_takes_8 : decode cX8_takes 8 = .ok (.aload_n 0, 1) := by decide +kernel
theorem dX8_takes_9 : decode cX8_takes 9 = .ok (.iconst 1, 1) := by decide +kernel
theorem dX8_takes_10 : decode cX8_takes 10 = .ok (.invokevirtual 39, 3) := by decide +kernel
theorem dX8_takes_13 : decode cX8_takes 13 = .ok (.ireturn, 1) := by decide +kernel
theorem dX8_takes_14 : decode cX8_takes 14 = .ok (.aload_n 0, 1) := by decide +kernel
theorem dX8_takes_15 : decode cX8_takes 15 = .ok (.dup, 1) := by decide +kernel
theorem dX8_takes_16 : decode cX8_takes 16 = .ok (.getfield 22, 3) := by decide +kernel
theorem dX8_takes_19 : decode cX8_takes 19 = .ok (.iconst 1, 1) := by decide +kernel
theorem dX8_takes_20 : decode cX8_takes 20 = .ok (.iadd, 1) := by decide +kernel
theorem dX8_takes_21 : decode cX8_takes 21 = .ok (.putfield 22, 3) := by decide +kernel
theorem dX8_takes_24 : decode cX8_takes 24 = .ok (.iconst 1, 1) := by decide +kernel
theorem dX8_takes_25 : decode cX8_takes 25 = .ok (.ireturn, 1) := by decide +kernel
set_option maxRecDepth 20000 in
set_option maxHeartbeats 4000000 in
theorem c_takes (E : xE) (l : Launch) (a : Nat → Nat) (ws : va_W) (hW : WX (okX E a) ws) (sg : Int32) : xI E l yX8_takes cX8_takes 2 (some .boolean) 1 [.ref (a 1), .int sg] ws (fun r w => WX (okX E a) w ∧ keeps ws w (fun q => q = 1 ∨ q = 2) ∧ zb r) := by
  refine xI_start (lv := [(0, .ref (a 1)), (1, .int sg)]) RX8 (by decide) rfl (Nat.le_of_ble_eq_true rfl) rfl (fun p e s m below meth c A C hr hlk => ?_)
  have kp0 : keeps ws ws (fun q => q = 1 ∨ q = 2) := keeps_rf
  refine x_aload_n C dX8_takes_0 rfl 0 rfl rfl ?_
  obtain ⟨_, k1, n2, v4, v5, v6, bn3, rfl⟩ := hW 1 _ rfl
  refine x_vi C (As := []) (rest := []) (c_sign E l a ws hW) mf_X8_sign w_639 1 k1 rfl rfl rfl (Nat.le_of_ble_eq_true rfl) ⟨(Nat.le_of_ble_eq_true rfl), (Nat.le_of_ble_eq_true rfl)⟩ ⟨(Nat.le_of_ble_eq_true rfl), (Nat.le_of_ble_eq_true rfl)⟩ dX8_takes_1 rfl (fun r8 w9 h7 => ?_)
  have hW10 := h7
  refine x_ws hW10 ?_
  refine x_iload_n C dX8_takes_4 rfl 1 rfl rfl ?_
  refine x_icmp_eq C (tgt := 14) dX8_takes_5 (by decide) rfl (fun c11 => ?_) (fun c11 => ?_)
  · skip
    refine x_aload_n C dX8_takes_14 rfl 0 rfl rfl ?_
    refine x_dup C dX8_takes_15 rfl rfl ?_
    refine x_get C (ci := 7) (k := 3) 1 k1 rfl in_X8 (by decide) w_40 rfl dX8_takes_16 rfl ?_
    refine x_iconst C (v := 1) dX8_takes_19 (by decide) rfl ?_
    refine x_iadd C (v := (v5 + (1 : Int32))) dX8_takes_20 rfl rfl ?_
    refine x_any (fun v12 => ?_)
    obtain ⟨w13, hw14⟩ : ∃ w : va_W, w = List.set ws 1 (ob (a 1) 7 [.ref (a 2), .int (nI n2), .int v4, .int v12, .int v6]) := ⟨_, rfl⟩
    refine x_put C (ci := 7) (k := 3) (ty := .int) 1 k1 rfl in_X8 tyX8 tyX8_ok nmX8 (by decide) w_40 rfl rfl rfl rfl (Nat.le_of_ble_eq_true rfl) hw14.symm dX8_takes_21 rfl ?_
    have hW15 : WX (okX E a) w13 := by rw [hw14]; exact hW.set (k := 1) rfl ⟨n2, v4, v12, v6, by omega, rfl⟩
    have k16 : w13[1]? = some (ob (a 1) 7 [.ref (a 2), .int (nI n2), .int v4, .int v12, .int v6]) := by rw [hw14]; exact set_eq k1
    have kp17 := keeps_set kp0 hw14 (by first | exact rfl | decide | omega | (dsimp only; omega))
    refine x_iconst C (v := 1) dX8_takes_24 (by decide) rfl ?_
    exact x_zret C hr hlk rfl dX8_takes_25 ⟨hW15, kp17, (Or.inr rfl)⟩
  · skip
    refine x_aload_n C dX8_takes_8 rfl 0 rfl rfl ?_
    refine x_iconst C (v := 1) dX8_takes_9 (by decide) rfl ?_
    refine x_vi C (As := [.int 1]) (rest := []) (c_fails E l a ws hW (1 : Int32)) mf_X8_fails w_640 1 k1 rfl rfl rfl (Nat.le_of_ble_eq_true rfl) ⟨(Nat.le_of_ble_eq_true rfl), (Nat.le_of_ble_eq_true rfl)⟩ ⟨(Nat.le_of_ble_eq_true rfl), (Nat.le_of_ble_eq_true rfl)⟩ dX8_takes_10 rfl (fun r19 w20 h18 => ?_)
    obtain ⟨hW21, kq22, zb23⟩ := h18
    have kp24 := keeps_tr kp0 kq22 (fun q hq => by first | omega | (dsimp only at *; omega))
    exact x_zret C hr hlk (zb_nar zb23) dX8_takes_13 ⟨hW21, kp24, zb23⟩
theorem dX8_faultAnswer_0 : decode cX8_faultAnswer 0 = .ok (.sipush (-1000), 3) := by decide +kernel
theorem dX8_faultAnswer_3 : decode cX8_faultAnswer 3 = .ok (.aload_n 0, 1) := by decide +kernel
theorem dX8_faultAnswer_4 : decode cX8_faultAnswer 4 = .ok (.getfield 25, 3) := by decide +kernel
theorem dX8_faultAnswer_7 : decode cX8_faultAnswer 7 = .ok (.imul, 1) := by decide +kernel
theorem dX8_faultAnswer_8 : decode cX8_faultAnswer 8 = .ok (.aload_n 0, 1) := by decide +kernel
theorem dX8_faultAnswer_9 : decode cX8_faultAnswer 9 = .ok (.getfield 22, 3) := by decide +kernel
theorem dX8_faultAnswer_12 : decode cX8_faultAnswer 12 = .ok (.isub, 1) := by decide +kernel
theorem dX8_faultAnswer_13 : decode cX8_faultAnswer 13 = .ok (.ireturn, 1) := by decide +kernel
set_option maxRecDepth 20000 in
set_option maxHeartbeats 4000000 in
theorem c_faultAnswer (E : xE) (l : Launch) (a : Nat → Nat) (ws : va_W) (hW : WX (okX E a) ws) : xI E l yX8_faultAnswer cX8_faultAnswer 1 (some .int) 0 [.ref (a 1)] ws (fun r w => w = ws) := by
  refine xI_start (lv := [(0, .ref (a 1))]) RX8 (by decide) rfl (Nat.le_of_ble_eq_true rfl) rfl (fun p e s m below meth c A C hr hlk => ?_)
  refine x_sipush C (v := (-1000)) dX8_faultAnswer_0 (by decide) rfl ?_
  refine x_aload_n C dX8_faultAnswer_3 rfl 0 rfl rfl ?_
  obtain ⟨_, k1, n2, v4, v5, v6, bn3, rfl⟩ := hW 1 _ rfl
  refine x_get C (ci := 7) (k := 4) 1 k1 rfl in_X8 (by decide) w_43 rfl dX8_faultAnswer_4 rfl ?_
  refine x_imul C (v := (((-1000) : Int32) * v6)) dX8_faultAnswer_7 rfl rfl ?_
  refine x_any (fun v7 => ?_)
  refine x_aload_n C dX8_faultAnswer_8 rfl 0 rfl rfl ?_
  refine x_get C (ci := 7) (k := 3) 1 k1 rfl in_X8 (by decide) w_40 rfl dX8_faultAnswer_9 rfl ?_
  refine x_isub C (v := (v7 - v5)) dX8_faultAnswer_12 rfl rfl ?_
  refine x_any (fun v8 => ?_)
  exact x_zret C hr hlk rfl dX8_faultAnswer_13 rfl
theorem dX8_copyFrom_0 : decode cX8_copyFrom 0 = .ok (.aload_n 1, 1) := by decide +kernel
theorem dX8_copyFrom_1 : decode cX8_copyFrom 1 = .ok (.getfield 9, 3) := by decide +kernel
theorem dX8_copyFrom_4 : decode cX8_copyFrom 4 = .ok (.iconst 0, 1) := by decide +kernel
theorem dX8_copyFrom_5 : decode cX8_copyFrom 5 = .ok (.aload_n 0, 1) := by decide +kernel
theorem dX8_copyFrom_6 : decode cX8_copyFrom 6 = .ok (.getfield 9, 3) := by decide +kernel
theorem dX8_copyFrom_9 : decode cX8_copyFrom 9 = .ok (.iconst 0, 1) := by decide +kernel
theorem dX8_copyFrom_10 : decode cX8_copyFrom 10 = .ok (.sipush 260, 3) := by decide +kernel
theorem dX8_copyFrom_13 : decode cX8_copyFrom 13 = .ok (.invokestatic 43, 3) := by decide +kernel
theorem dX8_copyFrom_16 : decode cX8_copyFrom 16 = .ok (.aload_n 0, 1) := by decide +kernel
theorem dX8_copyFrom_17 : decode cX8_copyFrom 17 = .ok (.aload_n 1, 1) := by decide +kernel
theorem dX8_copyFrom_18 : decode cX8_copyFrom 18 = .ok (.getfield 15, 3) := by decide +kernel
theorem dX8_copyFrom_21 : decode cX8_copyFrom 21 = .ok (.putfield 15, 3) := by decide +kernel
theorem dX8_copyFrom_24 : decode cX8_copyFrom 24 = .ok (.return_, 1) := by decide +kernel
set_option maxRecDepth 20000 in
set_option maxHeartbeats 4000000 in
theorem c_Tape_copy31 (E : xE) (l : Launch) (a : Nat → Nat) (ws : va_W) (hW : WX (okX E a) ws) : xV E l yX8_copyFrom cX8_copyFrom 2 1 0 0 [.ref (a 3), .ref (a 1)] ws (fun w => WX (okX E a) w ∧ keeps ws w (fun q => q = 3 ∨ q = 4)) := by
  refine xV_start (lv := [(0, .ref (a 3)), (1, .ref (a 1))]) RX8 (by decide) rfl (Nat.le_of_ble_eq_true rfl) rfl (fun p e s m below meth c A C hr hlk hin => ?_)
  have kp0 : keeps ws ws (fun q => q = 3 ∨ q = 4) := keeps_rf
  refine x_aload_n C dX8_copyFrom_0 rfl 1 rfl rfl ?_
  obtain ⟨_, k1, n2, v4, v5, v6, bn3, rfl⟩ := hW 1 _ rfl
  refine x_get C (ci := 7) (k := 0) 1 k1 rfl in_X8 (by decide) w_36 rfl dX8_copyFrom_1 rfl ?_
  refine x_iconst C (v := 0) dX8_copyFrom_4 (by decide) rfl ?_
  refine x_aload_n C dX8_copyFrom_5 rfl 0 rfl rfl ?_
  obtain ⟨_, k7, n8, v10, v11, v12, bn9, rfl⟩ := hW 3 _ rfl
  refine x_get C (ci := 7) (k := 0) 3 k7 rfl in_X8 (by decide) w_36 rfl dX8_copyFrom_6 rfl ?_
  refine x_iconst C (v := 0) dX8_copyFrom_9 (by decide) rfl ?_
  refine x_sipush C (v := 260) dX8_copyFrom_10 (by decide) rfl ?_
  obtain ⟨_, k13, f14, rfl⟩ := hW 2 _ rfl
  obtain ⟨_, k15, f16, rfl⟩ := hW 4 _ rfl
  obtain ⟨w17, hw18⟩ : ∃ w : va_W, w = List.set ws 4 (iA E (a 4) 260 (va_cpy f14 f16 0 0 260)) := ⟨_, rfl⟩
  refine x_copy C 2 4 k13 k15 w_1094 w_798 w_797 w_20 (by decide) (by decide) (by decide) (by decide) (by decide) (Nat.le_of_ble_eq_true rfl) (Nat.le_of_ble_eq_true rfl) hw18.symm dX8_copyFrom_13 rfl ?_
  have hW19 : WX (okX E a) w17 := by rw [hw18]; exact hW.set (k := 4) rfl ⟨_, rfl⟩
  have k20 : w17[1]? = some (ob (a 1) 7 [.ref (a 2), .int (nI n2), .int v4, .int v5, .int v6]) := by rw [hw18]; exact set_ne k1 (by decide)
  have k21 : w17[3]? = some (ob (a 3) 7 [.ref (a 4), .int (nI n8), .int v10, .int v11, .int v12]) := by rw [hw18]; exact set_ne k7 (by decide)
  have k22 : w17[2]? = some (iA E (a 2) 260 f14) := by rw [hw18]; exact set_ne k13 (by decide)
  have k23 : w17[4]? = some (iA E (a 4) 260 (va_cpy f14 f16 0 0 260)) := by rw [hw18]; exact set_eq k15
  have kp24 := keeps_set kp0 hw18 (by first | exact rfl | decide | omega | (dsimp only; omega))
  refine x_aload_n C dX8_copyFrom_16 rfl 0 rfl rfl ?_
  refine x_aload_n C dX8_copyFrom_17 rfl 1 rfl rfl ?_
  refine x_get C (ci := 7) (k := 1) 1 k20 rfl in_X8 (by decide) w_37 rfl dX8_copyFrom_18 rfl ?_
  obtain ⟨w25, hw26⟩ : ∃ w : va_W, w = List.set w17 3 (ob (a 3) 7 [.ref (a 4), .int (nI n2), .int v10, .int v11, .int v12]) := ⟨_, rfl⟩
  refine x_put C (ci := 7) (k := 1) (ty := .int) 3 k21 rfl in_X8 tyX8 tyX8_ok nmX8 (by decide) w_37 rfl rfl rfl rfl (Nat.le_of_ble_eq_true rfl) hw26.symm dX8_copyFrom_21 rfl ?_
  have hW27 : WX (okX E a) w25 := by rw [hw26]; exact hW19.set (k := 3) rfl ⟨n2, v10, v11, v12, by omega, rfl⟩
  have k28 : w25[1]? = some (ob (a 1) 7 [.ref (a 2), .int (nI n2), .int v4, .int v5, .int v6]) := by rw [hw26]; exact set_ne k20 (by decide)
  have k29 : w25[3]? = some (ob (a 3) 7 [.ref (a 4), .int (nI n2), .int v10, .int v11, .int v12]) := by rw [hw26]; exact set_eq k21
  have k30 : w25[2]? = some (iA E (a 2) 260 f14) := by rw [hw26]; exact set_ne k22 (by decide)
  have k31 : w25[4]? = some (iA E (a 4) 260 (va_cpy f14 f16 0 0 260)) := by rw [hw26]; exact set_ne k23 (by decide)
  have kp32 := keeps_set kp24 hw26 (by first | exact rfl | decide | omega | (dsimp only; omega))
  exact x_vret C hr hlk dX8_copyFrom_24 ⟨hW27, kp32⟩
set_option maxRecDepth 20000 in
set_option maxHeartbeats 4000000 in
theorem c_Tape_copy13 (E : xE) (l : Launch) (a : Nat → Nat) (ws : va_W) (hW : WX (okX E a) ws) : xV E l yX8_copyFrom cX8_copyFrom 2 1 0 0 [.ref (a 1), .ref (a 3)] ws (fun w => WX (okX E a) w ∧ keeps ws w (fun q => q = 1 ∨ q = 2)) := by
  refine xV_start (lv := [(0, .ref (a 1)), (1, .ref (a 3))]) RX8 (by decide) rfl (Nat.le_of_ble_eq_true rfl) rfl (fun p e s m below meth c A C hr hlk hin => ?_)
  have kp0 : keeps ws ws (fun q => q = 1 ∨ q = 2) := keeps_rf
  refine x_aload_n C dX8_copyFrom_0 rfl 1 rfl rfl ?_
  obtain ⟨_, k1, n2, v4, v5, v6, bn3, rfl⟩ := hW 3 _ rfl
  refine x_get C (ci := 7) (k := 0) 3 k1 rfl in_X8 (by decide) w_36 rfl dX8_copyFrom_1 rfl ?_
  refine x_iconst C (v := 0) dX8_copyFrom_4 (by decide) rfl ?_
  refine x_aload_n C dX8_copyFrom_5 rfl 0 rfl rfl ?_
  obtain ⟨_, k7, n8, v10, v11, v12, bn9, rfl⟩ := hW 1 _ rfl
  refine x_get C (ci := 7) (k := 0) 1 k7 rfl in_X8 (by decide) w_36 rfl dX8_copyFrom_6 rfl ?_
  refine x_iconst C (v := 0) dX8_copyFrom_9 (by decide) rfl ?_
  refine x_sipush C (v := 260) dX8_copyFrom_10 (by decide) rfl ?_
  obtain ⟨_, k13, f14, rfl⟩ := hW 4 _ rfl
  obtain ⟨_, k15, f16, rfl⟩ := hW 2 _ rfl
  obtain ⟨w17, hw18⟩ : ∃ w : va_W, w = List.set ws 2 (iA E (a 2) 260 (va_cpy f14 f16 0 0 260)) := ⟨_, rfl⟩
  refine x_copy C 4 2 k13 k15 w_1094 w_798 w_797 w_20 (by decide) (by decide) (by decide) (by decide) (by decide) (Nat.le_of_ble_eq_true rfl) (Nat.le_of_ble_eq_true rfl) hw18.symm dX8_copyFrom_13 rfl ?_
  have hW19 : WX (okX E a) w17 := by rw [hw18]; exact hW.set (k := 2) rfl ⟨_, rfl⟩
  have k20 : w17[3]? = some (ob (a 3) 7 [.ref (a 4), .int (nI n2), .int v4, .int v5, .int v6]) := by rw [hw18]; exact set_ne k1 (by decide)
  have k21 : w17[1]? = some (ob (a 1) 7 [.ref (a 2), .int (nI n8), .int v10, .int v11, .int v12]) := by rw [hw18]; exact set_ne k7 (by decide)
  have k22 : w17[4]? = some (iA E (a 4) 260 f14) := by rw [hw18]; exact set_ne k13 (by decide)
  have k23 : w17[2]? = some (iA E (a 2) 260 (va_cpy f14 f16 0 0 260)) := by rw [hw18]; exact set_eq k15
  have kp24 := keeps_set kp0 hw18 (by first | exact rfl | decide | omega | (dsimp only; omega))
  refine x_aload_n C dX8_copyFrom_16 rfl 0 rfl rfl ?_
  refine x_aload_n C dX8_copyFrom_17 rfl 1 rfl rfl ?_
  refine x_get C (ci := 7) (k := 1) 3 k20 rfl in_X8 (by decide) w_37 rfl dX8_copyFrom_18 rfl ?_
  obtain ⟨w25, hw26⟩ : ∃ w : va_W, w = List.set w17 1 (ob (a 1) 7 [.ref (a 2), .int (nI n2), .int v10, .int v11, .int v12]) := ⟨_, rfl⟩
  refine x_put C (ci := 7) (k := 1) (ty := .int) 1 k21 rfl in_X8 tyX8 tyX8_ok nmX8 (by decide) w_37 rfl rfl rfl rfl (Nat.le_of_ble_eq_true rfl) hw26.symm dX8_copyFrom_21 rfl ?_
  have hW27 : WX (okX E a) w25 := by rw [hw26]; exact hW19.set (k := 1) rfl ⟨n2, v10, v11, v12, by omega, rfl⟩
  have k28 : w25[3]? = some (ob (a 3) 7 [.ref (a 4), .int (nI n2), .int v4, .int v5, .int v6]) := by rw [hw26]; exact set_ne k20 (by decide)
  have k29 : w25[1]? = some (ob (a 1) 7 [.ref (a 2), .int (nI n2), .int v10, .int v11, .int v12]) := by rw [hw26]; exact set_eq k21
  have k30 : w25[4]? = some (iA E (a 4) 260 f14) := by rw [hw26]; exact set_ne k22 (by decide)
  have k31 : w25[2]? = some (iA E (a 2) 260 (va_cpy f14 f16 0 0 260)) := by rw [hw26]; exact set_ne k23 (by decide)
  have kp32 := keeps_set kp24 hw26 (by first | exact rfl | decide | omega | (dsimp only; omega))
  exact x_vret C hr hlk dX8_copyFrom_24 ⟨hW27, kp32⟩
theorem dX11_isDigit_0 : decode cX11_isDigit 0 = .ok (.iload_n 0, 1) := by decide +kernel
theorem dX11_isDigit_1 : decode cX11_isDigit 1 = .ok (.bipush 48, 2) := by decide +kernel
theorem dX11_isDigit_3 : decode cX11_isDigit 3 = .ok (.if_icmp .lt 13, 3) := by decide +kernel
theorem dX11_isDigit_6 : decode cX11_isDigit 6 = .ok (.iload_n 0, 1) := by decide +kernel
theorem dX11_isDigit_7 : decode cX11_isDigit 7 = .ok (.bipush 57, 2) := by decide +kernel
theorem dX11_isDigit_9 : decode cX11_isDigit 9 = .ok (.if_icmp .gt 7, 3) := by decide +kernel
theorem dX11_isDigit_12 : decode cX11_isDigit 12 = .ok (.iconst 1, 1) := by decide +kernel
theorem dX11_isDigit_13 : decode cX11_isDigit 13 = .ok (.goto 4, 3) := by decide +kernel
theorem dX11_isDigit_16 : decode cX11_isDigit 16 = .ok (.iconst 0, 1) := by decide +kernel
theorem dX11_isDigit_17 : decode cX11_isDigit 17 = .ok (.ireturn, 1) := by decide +kernel
set_option maxRecDepth 20000 in
set_option maxHeartbeats 4000000 in
theorem c_isDigit (E : xE) (l : Launch) (a : Nat → Nat) (ws : va_W) (hW : WX (okX E a) ws) (sg : Int32) : xI E l yX11_isDigit cX11_isDigit 1 (some .boolean) 0 [.int sg] ws (fun r w => w = ws ∧ zb r) := by
  refine xI_start (lv := [(0, .int sg)]) RX11 (by decide) rfl (Nat.le_of_ble_eq_true rfl) rfl (fun p e s m below meth c A C hr hlk => ?_)
  refine x_iload_n C dX11_isDigit_0 rfl 0 rfl rfl ?_
  refine x_bipush C (v := 48) dX11_isDigit_1 (by decide) rfl ?_
  refine x_icmp_lt C (tgt := 16) dX11_isDigit_3 (by decide) rfl (fun c1 => ?_) (fun c1 => ?_)
  · skip
    refine x_iconst C (v := 0) dX11_isDigit_16 (by decide) rfl ?_
    exact x_zret C hr hlk rfl dX11_isDigit_17 ⟨rfl, (Or.inl rfl)⟩
  · skip
    refine x_iload_n C dX11_isDigit_6 rfl 0 rfl rfl ?_
    refine x_bipush C (v := 57) dX11_isDigit_7 (by decide) rfl ?_
    refine x_icmp_gt C (tgt := 16) dX11_isDigit_9 (by decide) rfl (fun c2 => ?_) (fun c2 => ?_)
    · skip
      refine x_iconst C (v := 0) dX11_isDigit_16 (by decide) rfl ?_
      exact x_zret C hr hlk rfl dX11_isDigit_17 ⟨rfl, (Or.inl rfl)⟩
    · skip
      refine x_iconst C (v := 1) dX11_isDigit_12 (by decide) rfl ?_
      refine x_goto C (tgt := 17) dX11_isDigit_13 (by decide) ?_
      exact x_zret C hr hlk rfl dX11_isDigit_17 ⟨rfl, (Or.inr rfl)⟩
theorem dX3_emit_0 : decode cX3_emit 0 = .ok (.aload_n 0, 1) := by decide +kernel
theorem dX3_emit_1 : decode cX3_emit 1 = .ok (.getfield 28, 3) := by decide +kernel
theorem dX3_emit_4 : decode cX3_emit 4 = .ok (.sipush 240, 3) := by decide +kernel
theorem dX3_emit_7 : decode cX3_emit 7 = .ok (.if_icmp .ge 28, 3) := by decide +kernel
theorem dX3_emit_10 : decode cX3_emit 10 = .ok (.aload_n 0, 1) := by decide +kernel
theorem dX3_emit_11 : decode cX3_emit 11 = .ok (.getfield 31, 3) := by decide +kernel
theorem dX3_emit_14 : decode cX3_emit 14 = .ok (.aload_n 0, 1) := by decide +kernel
theorem dX3_emit_15 : decode cX3_emit 15 = .ok (.getfield 28, 3) := by decide +kernel
theorem dX3_emit_18 : decode cX3_emit 18 = .ok (.iload_n 2, 1) := by decide +kernel
theorem dX3_emit_19 : decode cX3_emit 19 = .ok (.bipush 7, 2) := by decide +kernel
theorem dX3_emit_21 : decode cX3_emit 21 = .ok (.ishl, 1) := by decide +kernel
theorem dX3_emit_22 : decode cX3_emit 22 = .ok (.iload_n 1, 1) := by decide +kernel
theorem dX3_emit_23 : decode cX3_emit 23 = .ok (.ior, 1) := by decide +kernel
theorem dX3_emit_24 : decode cX3_emit 24 = .ok (.iastore, 1) := by decide +kernel
theorem dX3_emit_25 : decode cX3_emit 25 = .ok (.aload_n 0, 1) := by decide +kernel
theorem dX3_emit_26 : decode cX3_emit 26 = .ok (.dup, 1) := by decide +kernel
theorem dX3_emit_27 : decode cX3_emit 27 = .ok (.getfield 28, 3) := by decide +kernel
theorem dX3_emit_30 : decode cX3_emit 30 = .ok (.iconst 1, 1) := by decide +kernel
theorem dX3_emit_31 : decode cX3_emit 31 = .ok (.iadd, 1) := by decide +kernel
theorem dX3_emit_32 : decode cX3_emit 32 = .ok (.putfield 28, 3) := by decide +kernel
theorem dX3_emit_35 : decode cX3_emit 35 = .ok (.return_, 1) := by decide +kernel
set_option maxRecDepth 20000 in
set_option maxHeartbeats 4000000 in
theorem c_emit (E : xE) (l : Launch) (a : Nat → Nat) (ws : va_W) (hW : WX (okX E a) ws) (op : Int32) (rs : Int32) : xV E l yX3_emit cX3_emit 3 0 0 0 [.ref (a 79), .int op, .int rs] ws (fun w => WX (okX E a) w ∧ keeps ws w (fun q => 79 ≤ q ∧ q < 87)) := by
  refine xV_start (lv := [(0, .ref (a 79)), (1, .int op), (2, .int rs)]) RX3 (by decide) rfl (Nat.le_of_ble_eq_true rfl) rfl (fun p e s m below meth c A C hr hlk hin => ?_)
  have kp0 : keeps ws ws (fun q => 79 ≤ q ∧ q < 87) := keeps_rf
  refine x_aload_n C dX3_emit_0 rfl 0 rfl rfl ?_
  obtain ⟨_, k1, v2, n3, n5, bn4, bn6, rfl⟩ := hW 79 _ rfl
  refine x_get C (ci := 3) (k := 5) 79 k1 rfl in_X3 (by decide) w_261 rfl dX3_emit_1 rfl ?_
  refine x_sipush C (v := 240) dX3_emit_4 (by decide) rfl ?_
  refine x_icmp_ge C (tgt := 35) dX3_emit_7 (by decide) rfl (fun c7 => ?_) (fun c7 => ?_)
  · skip
    have nf8 := nI_le' (a := 240) (b := n3) c7 (by omega) (by omega)
    exact x_vret C hr hlk dX3_emit_35 ⟨hW, kp0⟩
  · skip
    have nf9 := nI_nle' (a := 240) (b := n3) c7 (by omega) (by omega)
    refine x_aload_n C dX3_emit_10 rfl 0 rfl rfl ?_
    refine x_get C (ci := 3) (k := 6) 79 k1 rfl in_X3 (by decide) w_263 rfl dX3_emit_11 rfl ?_
    refine x_aload_n C dX3_emit_14 rfl 0 rfl rfl ?_
    refine x_get C (ci := 3) (k := 5) 79 k1 rfl in_X3 (by decide) w_261 rfl dX3_emit_15 rfl ?_
    refine x_iload_n C dX3_emit_18 rfl 2 rfl rfl ?_
    refine x_bipush C (v := 7) dX3_emit_19 (by decide) rfl ?_
    refine x_ishl C (v := (rs <<< ((7 : Int32) &&& 31))) dX3_emit_21 rfl rfl ?_
    refine x_any (fun v10 => ?_)
    refine x_iload_n C dX3_emit_22 rfl 1 rfl rfl ?_
    refine x_ior C (v := (v10 ||| op)) dX3_emit_23 rfl rfl ?_
    refine x_any (fun v11 => ?_)
    obtain ⟨_, k12, f13, rfl⟩ := hW 84 _ rfl
    obtain ⟨w14, hw15⟩ : ∃ w : va_W, w = List.set ws 84 (iA E (a 84) 240 (upd f13 (nI n3).toNatClampNeg v11)) := ⟨_, rfl⟩
    refine x_iast C 84 k12 (vp_in_nI (by omega) (by decide)) hw15.symm dX3_emit_24 rfl ?_
    have hW16 : WX (okX E a) w14 := by rw [hw15]; exact hW.set (k := 84) rfl ⟨_, rfl⟩
    have k17 : w14[79]? = some (ob (a 79) 3 [.int v2, .ref (a 80), .ref (a 81), .ref (a 82), .ref (a 83), .int (nI n3), .ref (a 84), .ref (a 85), .ref (a 86), .int (nI n5)]) := by rw [hw15]; exact set_ne k1 (by decide)
    have k18 : w14[84]? = some (iA E (a 84) 240 (upd f13 (nI n3).toNatClampNeg v11)) := by rw [hw15]; exact set_eq k12
    have kp19 := keeps_set kp0 hw15 (by first | exact rfl | decide | omega | (dsimp only; omega))
    refine x_aload_n C dX3_emit_25 rfl 0 rfl rfl ?_
    refine x_dup C dX3_emit_26 rfl rfl ?_
    refine x_get C (ci := 3) (k := 5) 79 k17 rfl in_X3 (by decide) w_261 rfl dX3_emit_27 rfl ?_
    refine x_iconst C (v := 1) dX3_emit_30 (by decide) rfl ?_
    refine x_iadd C (v := (nI (n3 + 1))) dX3_emit_31 (nI_add n3 1) rfl ?_
    obtain ⟨w20, hw21⟩ : ∃ w : va_W, w = List.set w14 79 (ob (a 79) 3 [.int v2, .ref (a 80), .ref (a 81), .ref (a 82), .ref (a 83), .int (nI (n3 + 1)), .ref (a 84), .ref (a 85), .ref (a 86), .int (nI n5)]) := ⟨_, rfl⟩
    refine x_put C (ci := 3) (k := 5) (ty := .int) 79 k17 rfl in_X3 tyX3 tyX3_ok nmX3 (by decide) w_261 rfl rfl rfl rfl (Nat.le_of_ble_eq_true rfl) hw21.symm dX3_emit_32 rfl ?_
    have hW22 : WX (okX E a) w20 := by rw [hw21]; exact hW16.set (k := 79) rfl ⟨v2, (n3 + 1), n5, by omega, by omega, rfl⟩
    have k23 : w20[79]? = some (ob (a 79) 3 [.int v2, .ref (a 80), .ref (a 81), .ref (a 82), .ref (a 83), .int (nI (n3 + 1)), .ref (a 84), .ref (a 85), .ref (a 86), .int (nI n5)]) := by rw [hw21]; exact set_eq k17
    have k24 : w20[84]? = some (iA E (a 84) 240 (upd f13 (nI n3).toNatClampNeg v11)) := by rw [hw21]; exact set_ne k18 (by decide)
    have kp25 := keeps_set kp19 hw21 (by first | exact rfl | decide | omega | (dsimp only; omega))
    exact x_vret C hr hlk dX3_emit_35 ⟨hW22, kp25⟩
theorem dX3_aim_0 : decode cX3_aim 0 = .ok (.iload_n 1, 1) := by decide +kernel
theorem dX3_aim_1 : decode cX3_aim 1 = .ok (.ifCond .lt 34, 3) := by decide +kernel
theorem dX3_aim_4 : decode cX3_aim 4 = .ok (.iload_n 1, 1) := by decide +kernel
theorem dX3_aim_5 : decode cX3_aim 5 = .ok (.aload_n 0, 1) := by decide +kernel
theorem dX3_aim_6 : decode cX3_aim 6 = .ok (.getfield 28, 3) := by decide +kernel
theorem dX3_aim_9 : decode cX3_aim 9 = .ok (.if_icmp .ge 26, 3) := by decide +kernel
theorem dX3_aim_12 : decode cX3_aim 12 = .ok (.aload_n 0, 1) := by decide +kernel
theorem dX3_aim_13 : decode cX3_aim 13 = .ok (.getfield 31, 3) := by decide +kernel
theorem dX3_aim_16 : decode cX3_aim 16 = .ok (.iload_n 1, 1) := by decide +kernel
theorem dX3_aim_17 : decode cX3_aim 17 = .ok (.aload_n 0, 1) := by decide +kernel
theorem dX3_aim_18 : decode cX3_aim 18 = .ok (.getfield 28, 3) := by decide +kernel
theorem dX3_aim_21 : decode cX3_aim 21 = .ok (.bipush 7, 2) := by decide +kernel
theorem dX3_aim_23 : decode cX3_aim 23 = .ok (.ishl, 1) := by decide +kernel
theorem dX3_aim_24 : decode cX3_aim 24 = .ok (.aload_n 0, 1) := by decide +kernel
theorem dX3_aim_25 : decode cX3_aim 25 = .ok (.getfield 31, 3) := by decide +kernel
theorem dX3_aim_28 : decode cX3_aim 28 = .ok (.iload_n 1, 1) := by decide +kernel
theorem dX3_aim_29 : decode cX3_aim 29 = .ok (.iaload, 1) := by decide +kernel
theorem dX3_aim_30 : decode cX3_aim 30 = .ok (.bipush 127, 2) := by decide +kernel
theorem dX3_aim_32 : decode cX3_aim 32 = .ok (.iand, 1) := by decide +kernel
theorem dX3_aim_33 : decode cX3_aim 33 = .ok (.ior, 1) := by decide +kernel
theorem dX3_aim_34 : decode cX3_aim 34 = .ok (.iastore, 1) := by decide +kernel
theorem dX3_aim_35 : decode cX3_aim 35 = .ok (.return_, 1) := by decide +kernel
set_option maxRecDepth 20000 in
set_option maxHeartbeats 4000000 in
theorem c_aim (E : xE) (l : Launch) (a : Nat → Nat) (ws : va_W) (hW : WX (okX E a) ws) (pl : Int32) : xV E l yX3_aim cX3_aim 2 0 0 0 [.ref (a 79), .int pl] ws (fun w => WX (okX E a) w ∧ keeps ws w (fun q => 79 ≤ q ∧ q < 87)) := by
  refine xV_start (lv := [(0, .ref (a 79)), (1, .int pl)]) RX3 (by decide) rfl (Nat.le_of_ble_eq_true rfl) rfl (fun p e s m below meth c A C hr hlk hin => ?_)
  have kp0 : keeps ws ws (fun q => 79 ≤ q ∧ q < 87) := keeps_rf
  refine x_iload_n C dX3_aim_0 rfl 1 rfl rfl ?_
  refine x_if_lt C (tgt := 35) dX3_aim_1 (by decide) rfl (fun c1 => ?_) (fun c1 => ?_)
  · skip
    exact x_vret C hr hlk dX3_aim_35 ⟨hW, kp0⟩
  · skip
    obtain ⟨j2, hj3, ej4⟩ := nI_of c1
    subst ej4
    refine x_iload_n C dX3_aim_4 rfl 1 rfl rfl ?_
    refine x_aload_n C dX3_aim_5 rfl 0 rfl rfl ?_
    obtain ⟨_, k5, v6, n7, n9, bn8, bn10, rfl⟩ := hW 79 _ rfl
    refine x_get C (ci := 3) (k := 5) 79 k5 rfl in_X3 (by decide) w_261 rfl dX3_aim_6 rfl ?_
    refine x_icmp_ge C (tgt := 35) dX3_aim_9 (by decide) rfl (fun c11 => ?_) (fun c11 => ?_)
    · skip
      have nf12 := nI_le' (a := n7) (b := j2) c11 (by omega) (by omega)
      exact x_vret C hr hlk dX3_aim_35 ⟨hW, kp0⟩
    · skip
      have nf13 := nI_nle' (a := n7) (b := j2) c11 (by omega) (by omega)
      refine x_aload_n C dX3_aim_12 rfl 0 rfl rfl ?_
      refine x_get C (ci := 3) (k := 6) 79 k5 rfl in_X3 (by decide) w_263 rfl dX3_aim_13 rfl ?_
      refine x_iload_n C dX3_aim_16 rfl 1 rfl rfl ?_
      refine x_aload_n C dX3_aim_17 rfl 0 rfl rfl ?_
      refine x_get C (ci := 3) (k := 5) 79 k5 rfl in_X3 (by decide) w_261 rfl dX3_aim_18 rfl ?_
      refine x_bipush C (v := 7) dX3_aim_21 (by decide) rfl ?_
      refine x_ishl C (v := ((nI n7) <<< ((7 : Int32) &&& 31))) dX3_aim_23 rfl rfl ?_
      refine x_any (fun v14 => ?_)
      refine x_aload_n C dX3_aim_24 rfl 0 rfl rfl ?_
      refine x_get C (ci := 3) (k := 6) 79 k5 rfl in_X3 (by decide) w_263 rfl dX3_aim_25 rfl ?_
      refine x_iload_n C dX3_aim_28 rfl 1 rfl rfl ?_
      obtain ⟨_, k15, f16, rfl⟩ := hW 84 _ rfl
      refine x_iald C (v := (f16 (nI j2).toNatClampNeg)) 84 k15 (vp_in_nI (by omega) (by decide)) rfl dX3_aim_29 rfl ?_
      refine x_any (fun v17 => ?_)
      refine x_bipush C (v := 127) dX3_aim_30 (by decide) rfl ?_
      refine x_iand C (v := (v17 &&& (127 : Int32))) dX3_aim_32 rfl rfl ?_
      refine x_any (fun v18 => ?_)
      refine x_ior C (v := (v14 ||| v18)) dX3_aim_33 rfl rfl ?_
      refine x_any (fun v19 => ?_)
      obtain ⟨w20, hw21⟩ : ∃ w : va_W, w = List.set ws 84 (iA E (a 84) 240 (upd f16 (nI j2).toNatClampNeg v19)) := ⟨_, rfl⟩
      refine x_iast C 84 k15 (vp_in_nI (by omega) (by decide)) hw21.symm dX3_aim_34 rfl ?_
      have hW22 : WX (okX E a) w20 := by rw [hw21]; exact hW.set (k := 84) rfl ⟨_, rfl⟩
      have k23 : w20[79]? = some (ob (a 79) 3 [.int v6, .ref (a 80), .ref (a 81), .ref (a 82), .ref (a 83), .int (nI n7), .ref (a 84), .ref (a 85), .ref (a 86), .int (nI n9)]) := by rw [hw21]; exact set_ne k5 (by decide)
      have k24 : w20[84]? = some (iA E (a 84) 240 (upd f16 (nI j2).toNatClampNeg v19)) := by rw [hw21]; exact set_eq k15
      have kp25 := keeps_set kp0 hw21 (by first | exact rfl | decide | omega | (dsimp only; omega))
      exact x_vret C hr hlk dX3_aim_35 ⟨hW22, kp25⟩
theorem dX3_push_0 : decode cX3_push 0 = .ok (.aload_n 0, 1) := by decide +kernel
theorem dX3_push_1 : decode cX3_push 1 = .ok (.getfield 40, 3) := by decide +kernel
theorem dX3_push_4 : decode cX3_push 4 = .ok (.bipush 64, 2) := by decide +kernel
theorem dX3_push_6 : decode cX3_push 6 = .ok (.if_icmp .ge 23, 3) := by decide +kernel
theorem dX3_push_9 : decode cX3_push 9 = .ok (.aload_n 0, 1) := by decide +kernel
theorem dX3_push_10 : decode cX3_push 10 = .ok (.getfield 37, 3) := by decide +kernel
theorem dX3_push_13 : decode cX3_push 13 = .ok (.aload_n 0, 1) := by decide +kernel
theorem dX3_push_14 : decode cX3_push 14 = .ok (.getfield 40, 3) := by decide +kernel
theorem dX3_push_17 : decode cX3_push 17 = .ok (.iload_n 1, 1) := by decide +kernel
theorem dX3_push_18 : decode cX3_push 18 = .ok (.iastore, 1) := by decide +kernel
theorem dX3_push_19 : decode cX3_push 19 = .ok (.aload_n 0, 1) := by decide +kernel
theorem dX3_push_20 : decode cX3_push 20 = .ok (.dup, 1) := by decide +kernel
theorem dX3_push_21 : decode cX3_push 21 = .ok (.getfield 40, 3) := by decide +kernel
theorem dX3_push_24 : decode cX3_push 24 = .ok (.iconst 1, 1) := by decide +kernel
theorem dX3_push_25 : decode cX3_push 25 = .ok (.iadd, 1) := by decide +kernel
theorem dX3_push_26 : decode cX3_push 26 = .ok (.putfield 40, 3) := by decide +kernel
theorem dX3_push_29 : decode cX3_push 29 = .ok (.return_, 1) := by decide +kernel
set_option maxRecDepth 20000 in
set_option maxHeartbeats 4000000 in
theorem c_push (E : xE) (l : Launch) (a : Nat → Nat) (ws : va_W) (hW : WX (okX E a) ws) (v : Int32) : xV E l yX3_push cX3_push 2 0 0 0 [.ref (a 71), .int v] ws (fun w => WX (okX E a) w ∧ keeps ws w (fun q => 71 ≤ q ∧ q < 79)) := by
  refine xV_start (lv := [(0, .ref (a 71)), (1, .int v)]) RX3 (by decide) rfl (Nat.le_of_ble_eq_true rfl) rfl (fun p e s m below meth c A C hr hlk hin => ?_)
  have kp0 : keeps ws ws (fun q => 71 ≤ q ∧ q < 79) := keeps_rf
  refine x_aload_n C dX3_push_0 rfl 0 rfl rfl ?_
  obtain ⟨_, k1, v2, n3, n5, bn4, bn6, rfl⟩ := hW 71 _ rfl
  refine x_get C (ci := 3) (k := 9) 71 k1 rfl in_X3 (by decide) w_266 rfl dX3_push_1 rfl ?_
  refine x_bipush C (v := 64) dX3_push_4 (by decide) rfl ?_
  refine x_icmp_ge C (tgt := 29) dX3_push_6 (by decide) rfl (fun c7 => ?_) (fun c7 => ?_)
  · skip
    have nf8 := nI_le' (a := 64) (b := n5) c7 (by omega) (by omega)
    exact x_vret C hr hlk dX3_push_29 ⟨hW, kp0⟩
  · skip
    have nf9 := nI_nle' (a := 64) (b := n5) c7 (by omega) (by omega)
    refine x_aload_n C dX3_push_9 rfl 0 rfl rfl ?_
    refine x_get C (ci := 3) (k := 8) 71 k1 rfl in_X3 (by decide) w_265 rfl dX3_push_10 rfl ?_
    refine x_aload_n C dX3_push_13 rfl 0 rfl rfl ?_
    refine x_get C (ci := 3) (k := 9) 71 k1 rfl in_X3 (by decide) w_266 rfl dX3_push_14 rfl ?_
    refine x_iload_n C dX3_push_17 rfl 1 rfl rfl ?_
    obtain ⟨_, k10, f11, rfl⟩ := hW 78 _ rfl
    obtain ⟨w12, hw13⟩ : ∃ w : va_W, w = List.set ws 78 (iA E (a 78) 64 (upd f11 (nI n5).toNatClampNeg v)) := ⟨_, rfl⟩
    refine x_iast C 78 k10 (vp_in_nI (by omega) (by decide)) hw13.symm dX3_push_18 rfl ?_
    have hW14 : WX (okX E a) w12 := by rw [hw13]; exact hW.set (k := 78) rfl ⟨_, rfl⟩
    have k15 : w12[71]? = some (ob (a 71) 3 [.int v2, .ref (a 72), .ref (a 73), .ref (a 74), .ref (a 75), .int (nI n3), .ref (a 76), .ref (a 77), .ref (a 78), .int (nI n5)]) := by rw [hw13]; exact set_ne k1 (by decide)
    have k16 : w12[78]? = some (iA E (a 78) 64 (upd f11 (nI n5).toNatClampNeg v)) := by rw [hw13]; exact set_eq k10
    have kp17 := keeps_set kp0 hw13 (by first | exact rfl | decide | omega | (dsimp only; omega))
    refine x_aload_n C dX3_push_19 rfl 0 rfl rfl ?_
    refine x_dup C dX3_push_20 rfl rfl ?_
    refine x_get C (ci := 3) (k := 9) 71 k15 rfl in_X3 (by decide) w_266 rfl dX3_push_21 rfl ?_
    refine x_iconst C (v := 1) dX3_push_24 (by decide) rfl ?_
    refine x_iadd C (v := (nI (n5 + 1))) dX3_push_25 (nI_add n5 1) rfl ?_
    obtain ⟨w18, hw19⟩ : ∃ w : va_W, w = List.set w12 71 (ob (a 71) 3 [.int v2, .ref (a 72), .ref (a 73), .ref (a 74), .ref (a 75), .int (nI n3), .ref (a 76), .ref (a 77), .ref (a 78), .int (nI (n5 + 1))]) := ⟨_, rfl⟩
    refine x_put C (ci := 3) (k := 9) (ty := .int) 71 k15 rfl in_X3 tyX3 tyX3_ok nmX3 (by decide) w_266 rfl rfl rfl rfl (Nat.le_of_ble_eq_true rfl) hw19.symm dX3_push_26 rfl ?_
    have hW20 : WX (okX E a) w18 := by rw [hw19]; exact hW14.set (k := 71) rfl ⟨v2, n3, (n5 + 1), by omega, by omega, rfl⟩
    have k21 : w18[71]? = some (ob (a 71) 3 [.int v2, .ref (a 72), .ref (a 73), .ref (a 74), .ref (a 75), .int (nI n3), .ref (a 76), .ref (a 77), .ref (a 78), .int (nI (n5 + 1))]) := by rw [hw19]; exact set_eq k15
    have k22 : w18[78]? = some (iA E (a 78) 64 (upd f11 (nI n5).toNatClampNeg v)) := by rw [hw19]; exact set_ne k16 (by decide)
    have kp23 := keeps_set kp17 hw19 (by first | exact rfl | decide | omega | (dsimp only; omega))
    exact x_vret C hr hlk dX3_push_29 ⟨hW20, kp23⟩
theorem dX3_pop_0 : decode cX3_pop 0 = .ok (.aload_n 0, 1) := by decide +kernel
theorem dX3_pop_1 : decode cX3_pop 1 = .ok (.getfield 40, 3) := by decide +kernel
theorem dX3_pop_4 : decode cX3_pop 4 = .ok (.ifCond .gt 5, 3) := by decide +kernel
theorem dX3_pop_7 : decode cX3_pop 7 = .ok (.iconst 0, 1) := by decide +kernel
theorem dX3_pop_8 : decode cX3_pop 8 = .ok (.ireturn, 1) := by decide +kernel
theorem dX3_pop_9 : decode cX3_pop 9 = .ok (.aload_n 0, 1) := by decide +kernel
theorem dX3_pop_10 : decode cX3_pop 10 = .ok (.dup, 1) := by decide +kernel
theorem dX3_pop_11 : decode cX3_pop 11 = .ok (.getfield 40, 3) := by decide +kernel
theorem dX3_pop_14 : decode cX3_pop 14 = .ok (.iconst 1, 1) := by decide +kernel
theorem dX3_pop_15 : decode cX3_pop 15 = .ok (.isub, 1) := by decide +kernel
theorem dX3_pop_16 : decode cX3_pop 16 = .ok (.putfield 40, 3) := by decide +kernel
theorem dX3_pop_19 : decode cX3_pop 19 = .ok (.aload_n 0, 1) := by decide +kernel
theorem dX3_pop_20 : decode cX3_pop 20 = .ok (.getfield 37, 3) := by decide +kernel
theorem dX3_pop_23 : decode cX3_pop 23 = .ok (.aload_n 0, 1) := by decide +kernel
theorem dX3_pop_24 : decode cX3_pop 24 = .ok (.getfield 40, 3) := by decide +kernel
theorem dX3_pop_27 : decode cX3_pop 27 = .ok (.iaload, 1) := by decide +kernel
theorem dX3_pop_28 : decode cX3_pop 28 = .ok (.ireturn, 1) := by decide +kernel
set_option maxRecDepth 20000 in
set_option maxHeartbeats 4000000 in
theorem c_pop (E : xE) (l : Launch) (a : Nat → Nat) (ws : va_W) (hW : WX (okX E a) ws) : xI E l yX3_pop cX3_pop 1 (some .int) 0 [.ref (a 71)] ws (fun r w => WX (okX E a) w ∧ keeps ws w (fun q => 71 ≤ q ∧ q < 79)) := by
  refine xI_start (lv := [(0, .ref (a 71))]) RX3 (by decide) rfl (Nat.le_of_ble_eq_true rfl) rfl (fun p e s m below meth c A C hr hlk => ?_)
  have kp0 : keeps ws ws (fun q => 71 ≤ q ∧ q < 79) := keeps_rf
  refine x_aload_n C dX3_pop_0 rfl 0 rfl rfl ?_
  obtain ⟨_, k1, v2, n3, n5, bn4, bn6, rfl⟩ := hW 71 _ rfl
  refine x_get C (ci := 3) (k := 9) 71 k1 rfl in_X3 (by decide) w_266 rfl dX3_pop_1 rfl ?_
  refine x_if_gt C (tgt := 9) dX3_pop_4 (by decide) rfl (fun c7 => ?_) (fun c7 => ?_)
  · skip
    have nf8 := nI_lt' (a := 0) (b := n5) c7 (by omega) (by omega)
    refine x_aload_n C dX3_pop_9 rfl 0 rfl rfl ?_
    refine x_dup C dX3_pop_10 rfl rfl ?_
    refine x_get C (ci := 3) (k := 9) 71 k1 rfl in_X3 (by decide) w_266 rfl dX3_pop_11 rfl ?_
    refine x_iconst C (v := 1) dX3_pop_14 (by decide) rfl ?_
    refine x_isub C (v := (nI (n5 - 1))) dX3_pop_15 (pk_sub (a := n5) (b := 1) (by omega)) rfl ?_
    obtain ⟨w9, hw10⟩ : ∃ w : va_W, w = List.set ws 71 (ob (a 71) 3 [.int v2, .ref (a 72), .ref (a 73), .ref (a 74), .ref (a 75), .int (nI n3), .ref (a 76), .ref (a 77), .ref (a 78), .int (nI (n5 - 1))]) := ⟨_, rfl⟩
    refine x_put C (ci := 3) (k := 9) (ty := .int) 71 k1 rfl in_X3 tyX3 tyX3_ok nmX3 (by decide) w_266 rfl rfl rfl rfl (Nat.le_of_ble_eq_true rfl) hw10.symm dX3_pop_16 rfl ?_
    have hW11 : WX (okX E a) w9 := by rw [hw10]; exact hW.set (k := 71) rfl ⟨v2, n3, (n5 - 1), by omega, by omega, rfl⟩
    have k12 : w9[71]? = some (ob (a 71) 3 [.int v2, .ref (a 72), .ref (a 73), .ref (a 74), .ref (a 75), .int (nI n3), .ref (a 76), .ref (a 77), .ref (a 78), .int (nI (n5 - 1))]) := by rw [hw10]; exact set_eq k1
    have kp13 := keeps_set kp0 hw10 (by first | exact rfl | decide | omega | (dsimp only; omega))
    refine x_aload_n C dX3_pop_19 rfl 0 rfl rfl ?_
    refine x_get C (ci := 3) (k := 8) 71 k12 rfl in_X3 (by decide) w_265 rfl dX3_pop_20 rfl ?_
    refine x_aload_n C dX3_pop_23 rfl 0 rfl rfl ?_
    refine x_get C (ci := 3) (k := 9) 71 k12 rfl in_X3 (by decide) w_266 rfl dX3_pop_24 rfl ?_
    obtain ⟨_, k14, f15, rfl⟩ := hW11 78 _ rfl
    refine x_iald C (v := (f15 (nI (n5 - 1)).toNatClampNeg)) 78 k14 (vp_in_nI (by omega) (by decide)) rfl dX3_pop_27 rfl ?_
    refine x_any (fun v16 => ?_)
    exact x_zret C hr hlk rfl dX3_pop_28 ⟨hW11, kp13⟩
  · skip
    have nf17 := nI_nlt' (a := 0) (b := n5) c7 (by omega) (by omega)
    refine x_iconst C (v := 0) dX3_pop_7 (by decide) rfl ?_
    exact x_zret C hr hlk rfl dX3_pop_8 ⟨hW, kp0⟩
theorem dX3_reckon_0 : decode cX3_reckon 0 = .ok (.iload_n 0, 1) := by decide +kernel
theorem dX3_reckon_1 : decode cX3_reckon 1 = .ok (.tableswitch 156 42 62 #[107, 99, 156, 103, 156, 144, 156, 156, 156, 156, 156, 156, 156, 156, 156, 156, 156, 156, 111, 133, 122], 99) := by decide +kernel
theorem dX3_reckon_100 : decode cX3_reckon 100 = .ok (.iload_n 1, 1) := by decide +kernel
theorem dX3_reckon_101 : decode cX3_reckon 101 = .ok (.iload_n 2, 1) := by decide +kernel
theorem dX3_reckon_102 : decode cX3_reckon 102 = .ok (.iadd, 1) := by decide +kernel
theorem dX3_reckon_103 : decode cX3_reckon 103 = .ok (.ireturn, 1) := by decide +kernel
theorem dX3_reckon_104 : decode cX3_reckon 104 = .ok (.iload_n 1, 1) := by decide +kernel
theorem dX3_reckon_105 : decode cX3_reckon 105 = .ok (.iload_n 2, 1) := by decide +kernel
theorem dX3_reckon_106 : decode cX3_reckon 106 = .ok (.isub, 1) := by decide +kernel
theorem dX3_reckon_107 : decode cX3_reckon 107 = .ok (.ireturn, 1) := by decide +kernel
theorem dX3_reckon_108 : decode cX3_reckon 108 = .ok (.iload_n 1, 1) := by decide +kernel
theorem dX3_reckon_109 : decode cX3_reckon 109 = .ok (.iload_n 2, 1) := by decide +kernel
theorem dX3_reckon_110 : decode cX3_reckon 110 = .ok (.imul, 1) := by decide +kernel
theorem dX3_reckon_111 : decode cX3_reckon 111 = .ok (.ireturn, 1) := by decide +kernel
theorem dX3_reckon_112 : decode cX3_reckon 112 = .ok (.iload_n 1, 1) := by decide +kernel
theorem dX3_reckon_113 : decode cX3_reckon 113 = .ok (.iload_n 2, 1) := by decide +kernel
theorem dX3_reckon_114 : decode cX3_reckon 114 = .ok (.if_icmp .ge 7, 3) := by decide +kernel
theorem dX3_reckon_117 : decode cX3_reckon 117 = .ok (.iconst 1, 1) := by decide +kernel
theorem dX3_reckon_118 : decode cX3_reckon 118 = .ok (.goto 4, 3) := by decide +kernel
theorem dX3_reckon_121 : decode cX3_reckon 121 = .ok (.iconst 0, 1) := by decide +kernel
theorem dX3_reckon_122 : decode cX3_reckon 122 = .ok (.ireturn, 1) := by decide +kernel
theorem dX3_reckon_123 : decode cX3_reckon 123 = .ok (.iload_n 1, 1) := by decide +kernel
theorem dX3_reckon_124 : decode cX3_reckon 124 = .ok (.iload_n 2, 1) := by decide +kernel
theorem dX3_reckon_125 : decode cX3_reckon 125 = .ok (.if_icmp .le 7, 3) := by decide +kernel
theorem dX3_reckon_128 : decode cX3_reckon 128 = .ok (.iconst 1, 1) := by decide +kernel
theorem dX3_reckon_129 : decode cX3_reckon 129 = .ok (.goto 4, 3) := by decide +kernel
theorem dX3_reckon_132 : decode cX3_reckon 132 = .ok (.iconst 0, 1) := by decide +kernel
theorem dX3_reckon_133 : decode cX3_reckon 133 = .ok (.ireturn, 1) := by decide +kernel
theorem dX3_reckon_134 : decode cX3_reckon 134 = .ok (.iload_n 1, 1) := by decide +kernel
theorem dX3_reckon_135 : decode cX3_reckon 135 = .ok (.iload_n 2, 1) := by decide +kernel
theorem dX3_reckon_136 : decode cX3_reckon 136 = .ok (.if_icmp .ne 7, 3) := by decide +kernel
theorem dX3_reckon_139 : decode cX3_reckon 139 = .ok (.iconst 1, 1) := by decide +kernel
theorem dX3_reckon_140 : decode cX3_reckon 140 = .ok (.goto 4, 3) := by decide +kernel
theorem dX3_reckon_143 : decode cX3_reckon 143 = .ok (.iconst 0, 1) := by decide +kernel
theorem dX3_reckon_144 : decode cX3_reckon 144 = .ok (.ireturn, 1) := by decide +kernel
theorem dX3_reckon_145 : decode cX3_reckon 145 = .ok (.iload_n 2, 1) := by decide +kernel
theorem dX3_reckon_146 : decode cX3_reckon 146 = .ok (.ifCond .ne 7, 3) := by decide +kernel
theorem dX3_reckon_149 : decode cX3_reckon 149 = .ok (.iconst 0, 1) := by decide +kernel
theorem dX3_reckon_150 : decode cX3_reckon 150 = .ok (.goto 6, 3) := by decide +kernel
theorem dX3_reckon_153 : decode cX3_reckon 153 = .ok (.iload_n 1, 1) := by decide +kernel
theorem dX3_reckon_154 : decode cX3_reckon 154 = .ok (.iload_n 2, 1) := by decide +kernel
theorem dX3_reckon_155 : decode cX3_reckon 155 = .ok (.idiv, 1) := by decide +kernel
theorem dX3_reckon_156 : decode cX3_reckon 156 = .ok (.ireturn, 1) := by decide +kernel
theorem dX3_reckon_157 : decode cX3_reckon 157 = .ok (.iload_n 2, 1) := by decide +kernel
theorem dX3_reckon_158 : decode cX3_reckon 158 = .ok (.ifCond .ne 7, 3) := by decide +kernel
theorem dX3_reckon_161 : decode cX3_reckon 161 = .ok (.iconst 0, 1) := by decide +kernel
theorem dX3_reckon_162 : decode cX3_reckon 162 = .ok (.goto 6, 3) := by decide +kernel
theorem dX3_reckon_165 : decode cX3_reckon 165 = .ok (.iload_n 1, 1) := by decide +kernel
theorem dX3_reckon_166 : decode cX3_reckon 166 = .ok (.iload_n 2, 1) := by decide +kernel
theorem dX3_reckon_167 : decode cX3_reckon 167 = .ok (.irem, 1) := by decide +kernel
theorem dX3_reckon_168 : decode cX3_reckon 168 = .ok (.ireturn, 1) := by decide +kernel
set_option maxRecDepth 20000 in
set_option maxHeartbeats 4000000 in
theorem c_reckon (E : xE) (l : Launch) (a : Nat → Nat) (ws : va_W) (hW : WX (okX E a) ws) (op : Int32) (lf : Int32) (rg : Int32) : xI E l yX3_reckon cX3_reckon 3 (some .int) 0 [.int op, .int lf, .int rg] ws (fun r w => w = ws) := by
  refine xI_start (lv := [(0, .int op), (1, .int lf), (2, .int rg)]) RX3 (by decide) rfl (Nat.le_of_ble_eq_true rfl) rfl (fun p e s m below meth c A C hr hlk => ?_)
  refine x_iload_n C dX3_reckon_0 rfl 0 rfl rfl ?_
  by_cases s1 : (op).toInt < 42
  · refine x_tabOut C (tgt := 157) dX3_reckon_1 (Or.inl s1) (by decide) ?_
    refine x_iload_n C dX3_reckon_157 rfl 2 rfl rfl ?_
    refine x_if_ne C (tgt := 165) dX3_reckon_158 (by decide) rfl (fun c3 => ?_) (fun c3 => ?_)
    · skip
      refine x_iload_n C dX3_reckon_165 rfl 1 rfl rfl ?_
      refine x_iload_n C dX3_reckon_166 rfl 2 rfl rfl ?_
      refine x_irem C (v := (lf - lf / rg * rg)) dX3_reckon_167 c3 rfl rfl ?_
      refine x_any (fun v4 => ?_)
      exact x_zret C hr hlk rfl dX3_reckon_168 rfl
    · skip
      refine x_iconst C (v := 0) dX3_reckon_161 (by decide) rfl ?_
      refine x_goto C (tgt := 168) dX3_reckon_162 (by decide) ?_
      exact x_zret C hr hlk rfl dX3_reckon_168 rfl
  by_cases s2 : 62 < (op).toInt
  · refine x_tabOut C (tgt := 157) dX3_reckon_1 (Or.inr s2) (by decide) ?_
    refine x_iload_n C dX3_reckon_157 rfl 2 rfl rfl ?_
    refine x_if_ne C (tgt := 165) dX3_reckon_158 (by decide) rfl (fun c5 => ?_) (fun c5 => ?_)
    · skip
      refine x_iload_n C dX3_reckon_165 rfl 1 rfl rfl ?_
      refine x_iload_n C dX3_reckon_166 rfl 2 rfl rfl ?_
      refine x_irem C (v := (lf - lf / rg * rg)) dX3_reckon_167 c5 rfl rfl ?_
      refine x_any (fun v6 => ?_)
      exact x_zret C hr hlk rfl dX3_reckon_168 rfl
    · skip
      refine x_iconst C (v := 0) dX3_reckon_161 (by decide) rfl ?_
      refine x_goto C (tgt := 168) dX3_reckon_162 (by decide) ?_
      exact x_zret C hr hlk rfl dX3_reckon_168 rfl
  by_cases s7 : op = 42
  · refine x_tabIn C (tgt := 108) dX3_reckon_1 (by rw [s7]; decide) (by rw [s7]; decide) (by rw [s7]; rfl) (by decide) ?_
    refine x_iload_n C dX3_reckon_108 rfl 1 rfl rfl ?_
    refine x_iload_n C dX3_reckon_109 rfl 2 rfl rfl ?_
    refine x_imul C (v := (lf * rg)) dX3_reckon_110 rfl rfl ?_
    refine x_any (fun v8 => ?_)
    exact x_zret C hr hlk rfl dX3_reckon_111 rfl
  have zs7 := sw_ne (by decide : (42 : Int32).toInt = 42) s7
  by_cases s9 : op = 43
  · refine x_tabIn C (tgt := 100) dX3_reckon_1 (by rw [s9]; decide) (by rw [s9]; decide) (by rw [s9]; rfl) (by decide) ?_
    refine x_iload_n C dX3_reckon_100 rfl 1 rfl rfl ?_
    refine x_iload_n C dX3_reckon_101 rfl 2 rfl rfl ?_
    refine x_iadd C (v := (lf + rg)) dX3_reckon_102 rfl rfl ?_
    refine x_any (fun v10 => ?_)
    exact x_zret C hr hlk rfl dX3_reckon_103 rfl
  have zs9 := sw_ne (by decide : (43 : Int32).toInt = 43) s9
  by_cases s11 : op = 44
  · refine x_tabIn C (tgt := 157) dX3_reckon_1 (by rw [s11]; decide) (by rw [s11]; decide) (by rw [s11]; rfl) (by decide) ?_
    refine x_iload_n C dX3_reckon_157 rfl 2 rfl rfl ?_
    refine x_if_ne C (tgt := 165) dX3_reckon_158 (by decide) rfl (fun c12 => ?_) (fun c12 => ?_)
    · skip
      refine x_iload_n C dX3_reckon_165 rfl 1 rfl rfl ?_
      refine x_iload_n C dX3_reckon_166 rfl 2 rfl rfl ?_
      refine x_irem C (v := (lf - lf / rg * rg)) dX3_reckon_167 c12 rfl rfl ?_
      refine x_any (fun v13 => ?_)
      exact x_zret C hr hlk rfl dX3_reckon_168 rfl
    · skip
      refine x_iconst C (v := 0) dX3_reckon_161 (by decide) rfl ?_
      refine x_goto C (tgt := 168) dX3_reckon_162 (by decide) ?_
      exact x_zret C hr hlk rfl dX3_reckon_168 rfl
  have zs11 := sw_ne (by decide : (44 : Int32).toInt = 44) s11
  by_cases s14 : op = 45
  · refine x_tabIn C (tgt := 104) dX3_reckon_1 (by rw [s14]; decide) (by rw [s14]; decide) (by rw [s14]; rfl) (by decide) ?_
    refine x_iload_n C dX3_reckon_104 rfl 1 rfl rfl ?_
    refine x_iload_n C dX3_reckon_105 rfl 2 rfl rfl ?_
    refine x_isub C (v := (lf - rg)) dX3_reckon_106 rfl rfl ?_
    refine x_any (fun v15 => ?_)
    exact x_zret C hr hlk rfl dX3_reckon_107 rfl
  have zs14 := sw_ne (by decide : (45 : Int32).toInt = 45) s14
  by_cases s16 : op = 46
  · refine x_tabIn C (tgt := 157) dX3_reckon_1 (by rw [s16]; decide) (by rw [s16]; decide) (by rw [s16]; rfl) (by decide) ?_
    refine x_iload_n C dX3_reckon_157 rfl 2 rfl rfl ?_
    refine x_if_ne C (tgt := 165) dX3_reckon_158 (by decide) rfl (fun c17 => ?_) (fun c17 => ?_)
    · skip
      refine x_iload_n C dX3_reckon_165 rfl 1 rfl rfl ?_
      refine x_iload_n C dX3_reckon_166 rfl 2 rfl rfl ?_
      refine x_irem C (v := (lf - lf / rg * rg)) dX3_reckon_167 c17 rfl rfl ?_
      refine x_any (fun v18 => ?_)
      exact x_zret C hr hlk rfl dX3_reckon_168 rfl
    · skip
      refine x_iconst C (v := 0) dX3_reckon_161 (by decide) rfl ?_
      refine x_goto C (tgt := 168) dX3_reckon_162 (by decide) ?_
      exact x_zret C hr hlk rfl dX3_reckon_168 rfl
  have zs16 := sw_ne (by decide : (46 : Int32).toInt = 46) s16
  by_cases s19 : op = 47
  · refine x_tabIn C (tgt := 145) dX3_reckon_1 (by rw [s19]; decide) (by rw [s19]; decide) (by rw [s19]; rfl) (by decide) ?_
    refine x_iload_n C dX3_reckon_145 rfl 2 rfl rfl ?_
    refine x_if_ne C (tgt := 153) dX3_reckon_146 (by decide) rfl (fun c20 => ?_) (fun c20 => ?_)
    · skip
      refine x_iload_n C dX3_reckon_153 rfl 1 rfl rfl ?_
      refine x_iload_n C dX3_reckon_154 rfl 2 rfl rfl ?_
      refine x_idiv C (v := (lf / rg)) dX3_reckon_155 c20 rfl rfl ?_
      refine x_any (fun v21 => ?_)
      exact x_zret C hr hlk rfl dX3_reckon_156 rfl
    · skip
      refine x_iconst C (v := 0) dX3_reckon_149 (by decide) rfl ?_
      refine x_goto C (tgt := 156) dX3_reckon_150 (by decide) ?_
      exact x_zret C hr hlk rfl dX3_reckon_156 rfl
  have zs19 := sw_ne (by decide : (47 : Int32).toInt = 47) s19
  by_cases s22 : op = 48
  · refine x_tabIn C (tgt := 157) dX3_reckon_1 (by rw [s22]; decide) (by rw [s22]; decide) (by rw [s22]; rfl) (by decide) ?_
    refine x_iload_n C dX3_reckon_157 rfl 2 rfl rfl ?_
    refine x_if_ne C (tgt := 165) dX3_reckon_158 (by decide) rfl (fun c23 => ?_) (fun c23 => ?_)
    · skip
      refine x_iload_n C dX3_reckon_165 rfl 1 rfl rfl ?_
      refine x_iload_n C dX3_reckon_166 rfl 2 rfl rfl ?_
      refine x_irem C (v := (lf - lf / rg * rg)) dX3_reckon_167 c23 rfl rfl ?_
      refine x_any (fun v24 => ?_)
      exact x_zret C hr hlk rfl dX3_reckon_168 rfl
    · skip
      refine x_iconst C (v := 0) dX3_reckon_161 (by decide) rfl ?_
      refine x_goto C (tgt := 168) dX3_reckon_162 (by decide) ?_
      exact x_zret C hr hlk rfl dX3_reckon_168 rfl
  have zs22 := sw_ne (by decide : (48 : Int32).toInt = 48) s22
  by_cases s25 : op = 49
  · refine x_tabIn C (tgt := 157) dX3_reckon_1 (by rw [s25]; decide) (by rw [s25]; decide) (by rw [s25]; rfl) (by decide) ?_
    refine x_iload_n C dX3_reckon_157 rfl 2 rfl rfl ?_
    refine x_if_ne C (tgt := 165) dX3_reckon_158 (by decide) rfl (fun c26 => ?_) (fun c26 => ?_)
    · skip
      refine x_iload_n C dX3_reckon_165 rfl 1 rfl rfl ?_
      refine x_iload_n C dX3_reckon_166 rfl 2 rfl rfl ?_
      refine x_irem C (v := (lf - lf / rg * rg)) dX3_reckon_167 c26 rfl rfl ?_
      refine x_any (fun v27 => ?_)
      exact x_zret C hr hlk rfl dX3_reckon_168 rfl
    · skip
      refine x_iconst C (v := 0) dX3_reckon_161 (by decide) rfl ?_
      refine x_goto C (tgt := 168) dX3_reckon_162 (by decide) ?_
      exact x_zret C hr hlk rfl dX3_reckon_168 rfl
  have zs25 := sw_ne (by decide : (49 : Int32).toInt = 49) s25
  by_cases s28 : op = 50
  · refine x_tabIn C (tgt := 157) dX3_reckon_1 (by rw [s28]; decide) (by rw [s28]; decide) (by rw [s28]; rfl) (by decide) ?_
    refine x_iload_n C dX3_reckon_157 rfl 2 rfl rfl ?_
    refine x_if_ne C (tgt := 165) dX3_reckon_158 (by decide) rfl (fun c29 => ?_) (fun c29 => ?_)
    · skip
      refine x_iload_n C dX3_reckon_165 rfl 1 rfl rfl ?_
      refine x_iload_n C dX3_reckon_166 rfl 2 rfl rfl ?_
      refine x_irem C (v := (lf - lf / rg * rg)) dX3_reckon_167 c29 rfl rfl ?_
      refine x_any (fun v30 => ?_)
      exact x_zret C hr hlk rfl dX3_reckon_168 rfl
    · skip
      refine x_iconst C (v := 0) dX3_reckon_161 (by decide) rfl ?_
      refine x_goto C (tgt := 168) dX3_reckon_162 (by decide) ?_
      exact x_zret C hr hlk rfl dX3_reckon_168 rfl
  have zs28 := sw_ne (by decide : (50 : Int32).toInt = 50) s28
  by_cases s31 : op = 51
  · refine x_tabIn C (tgt := 157) dX3_reckon_1 (by rw [s31]; decide) (by rw [s31]; decide) (by rw [s31]; rfl) (by decide) ?_
    refine x_iload_n C dX3_reckon_157 rfl 2 rfl rfl ?_
    refine x_if_ne C (tgt := 165) dX3_reckon_158 (by decide) rfl (fun c32 => ?_) (fun c32 => ?_)
    · skip
      refine x_iload_n C dX3_reckon_165 rfl 1 rfl rfl ?_
      refine x_iload_n C dX3_reckon_166 rfl 2 rfl rfl ?_
      refine x_irem C (v := (lf - lf / rg * rg)) dX3_reckon_167 c32 rfl rfl ?_
      refine x_any (fun v33 => ?_)
      exact x_zret C hr hlk rfl dX3_reckon_168 rfl
    · skip
      refine x_iconst C (v := 0) dX3_reckon_161 (by decide) rfl ?_
      refine x_goto C (tgt := 168) dX3_reckon_162 (by decide) ?_
      exact x_zret C hr hlk rfl dX3_reckon_168 rfl
  have zs31 := sw_ne (by decide : (51 : Int32).toInt = 51) s31
  by_cases s34 : op = 52
  · refine x_tabIn C (tgt := 157) dX3_reckon_1 (by rw [s34]; decide) (by rw [s34]; decide) (by rw [s34]; rfl) (by decide) ?_
    refine x_iload_n C dX3_reckon_157 rfl 2 rfl rfl ?_
    refine x_if_ne C (tgt := 165) dX3_reckon_158 (by decide) rfl (fun c35 => ?_) (fun c35 => ?_)
    · skip
      refine x_iload_n C dX3_reckon_165 rfl 1 rfl rfl ?_
      refine x_iload_n C dX3_reckon_166 rfl 2 rfl rfl ?_
      refine x_irem C (v := (lf - lf / rg * rg)) dX3_reckon_167 c35 rfl rfl ?_
      refine x_any (fun v36 => ?_)
      exact x_zret C hr hlk rfl dX3_reckon_168 rfl
    · skip
      refine x_iconst C (v := 0) dX3_reckon_161 (by decide) rfl ?_
      refine x_goto C (tgt := 168) dX3_reckon_162 (by decide) ?_
      exact x_zret C hr hlk rfl dX3_reckon_168 rfl
  have zs34 := sw_ne (by decide : (52 : Int32).toInt = 52) s34
  by_cases s37 : op = 53
  · refine x_tabIn C (tgt := 157) dX3_reckon_1 (by rw [s37]; decide) (by rw [s37]; decide) (by rw [s37]; rfl) (by decide) ?_
    refine x_iload_n C dX3_reckon_157 rfl 2 rfl rfl ?_
    refine x_if_ne C (tgt := 165) dX3_reckon_158 (by decide) rfl (fun c38 => ?_) (fun c38 => ?_)
    · skip
      refine x_iload_n C dX3_reckon_165 rfl 1 rfl rfl ?_
      refine x_iload_n C dX3_reckon_166 rfl 2 rfl rfl ?_
      refine x_irem C (v := (lf - lf / rg * rg)) dX3_reckon_167 c38 rfl rfl ?_
      refine x_any (fun v39 => ?_)
      exact x_zret C hr hlk rfl dX3_reckon_168 rfl
    · skip
      refine x_iconst C (v := 0) dX3_reckon_161 (by decide) rfl ?_
      refine x_goto C (tgt := 168) dX3_reckon_162 (by decide) ?_
      exact x_zret C hr hlk rfl dX3_reckon_168 rfl
  have zs37 := sw_ne (by decide : (53 : Int32).toInt = 53) s37
  by_cases s40 : op = 54
  · refine x_tabIn C (tgt := 157) dX3_reckon_1 (by rw [s40]; decide) (by rw [s40]; decide) (by rw [s40]; rfl) (by decide) ?_
    refine x_iload_n C dX3_reckon_157 rfl 2 rfl rfl ?_
    refine x_if_ne C (tgt := 165) dX3_reckon_158 (by decide) rfl (fun c41 => ?_) (fun c41 => ?_)
    · skip
      refine x_iload_n C dX3_reckon_165 rfl 1 rfl rfl ?_
      refine x_iload_n C dX3_reckon_166 rfl 2 rfl rfl ?_
      refine x_irem C (v := (lf - lf / rg * rg)) dX3_reckon_167 c41 rfl rfl ?_
      refine x_any (fun v42 => ?_)
      exact x_zret C hr hlk rfl dX3_reckon_168 rfl
    · skip
      refine x_iconst C (v := 0) dX3_reckon_161 (by decide) rfl ?_
      refine x_goto C (tgt := 168) dX3_reckon_162 (by decide) ?_
      exact x_zret C hr hlk rfl dX3_reckon_168 rfl
  have zs40 := sw_ne (by decide : (54 : Int32).toInt = 54) s40
  by_cases s43 : op = 55
  · refine x_tabIn C (tgt := 157) dX3_reckon_1 (by rw [s43]; decide) (by rw [s43]; decide) (by rw [s43]; rfl) (by decide) ?_
    refine x_iload_n C dX3_reckon_157 rfl 2 rfl rfl ?_
    refine x_if_ne C (tgt := 165) dX3_reckon_158 (by decide) rfl (fun c44 => ?_) (fun c44 => ?_)
    · skip
      refine x_iload_n C dX3_reckon_165 rfl 1 rfl rfl ?_
      refine x_iload_n C dX3_reckon_166 rfl 2 rfl rfl ?_
      refine x_irem C (v := (lf - lf / rg * rg)) dX3_reckon_167 c44 rfl rfl ?_
      refine x_any (fun v45 => ?_)
      exact x_zret C hr hlk rfl dX3_reckon_168 rfl
    · skip
      refine x_iconst C (v := 0) dX3_reckon_161 (by decide) rfl ?_
      refine x_goto C (tgt := 168) dX3_reckon_162 (by decide) ?_
      exact x_zret C hr hlk rfl dX3_reckon_168 rfl
  have zs43 := sw_ne (by decide : (55 : Int32).toInt = 55) s43
  by_cases s46 : op = 56
  · refine x_tabIn C (tgt := 157) dX3_reckon_1 (by rw [s46]; decide) (by rw [s46]; decide) (by rw [s46]; rfl) (by decide) ?_
    refine x_iload_n C dX3_reckon_157 rfl 2 rfl rfl ?_
    refine x_if_ne C (tgt := 165) dX3_reckon_158 (by decide) rfl (fun c47 => ?_) (fun c47 => ?_)
    · skip
      refine x_iload_n C dX3_reckon_165 rfl 1 rfl rfl ?_
      refine x_iload_n C dX3_reckon_166 rfl 2 rfl rfl ?_
      refine x_irem C (v := (lf - lf / rg * rg)) dX3_reckon_167 c47 rfl rfl ?_
      refine x_any (fun v48 => ?_)
      exact x_zret C hr hlk rfl dX3_reckon_168 rfl
    · skip
      refine x_iconst C (v := 0) dX3_reckon_161 (by decide) rfl ?_
      refine x_goto C (tgt := 168) dX3_reckon_162 (by decide) ?_
      exact x_zret C hr hlk rfl dX3_reckon_168 rfl
  have zs46 := sw_ne (by decide : (56 : Int32).toInt = 56) s46
  by_cases s49 : op = 57
  · refine x_tabIn C (tgt := 157) dX3_reckon_1 (by rw [s49]; decide) (by rw [s49]; decide) (by rw [s49]; rfl) (by decide) ?_
    refine x_iload_n C dX3_reckon_157 rfl 2 rfl rfl ?_
    refine x_if_ne C (tgt := 165) dX3_reckon_158 (by decide) rfl (fun c50 => ?_) (fun c50 => ?_)
    · skip
      refine x_iload_n C dX3_reckon_165 rfl 1 rfl rfl ?_
      refine x_iload_n C dX3_reckon_166 rfl 2 rfl rfl ?_
      refine x_irem C (v := (lf - lf / rg * rg)) dX3_reckon_167 c50 rfl rfl ?_
      refine x_any (fun v51 => ?_)
      exact x_zret C hr hlk rfl dX3_reckon_168 rfl
    · skip
      refine x_iconst C (v := 0) dX3_reckon_161 (by decide) rfl ?_
      refine x_goto C (tgt := 168) dX3_reckon_162 (by decide) ?_
      exact x_zret C hr hlk rfl dX3_reckon_168 rfl
  have zs49 := sw_ne (by decide : (57 : Int32).toInt = 57) s49
  by_cases s52 : op = 58
  · refine x_tabIn C (tgt := 157) dX3_reckon_1 (by rw [s52]; decide) (by rw [s52]; decide) (by rw [s52]; rfl) (by decide) ?_
    refine x_iload_n C dX3_reckon_157 rfl 2 rfl rfl ?_
    refine x_if_ne C (tgt := 165) dX3_reckon_158 (by decide) rfl (fun c53 => ?_) (fun c53 => ?_)
    · skip
      refine x_iload_n C dX3_reckon_165 rfl 1 rfl rfl ?_
      refine x_iload_n C dX3_reckon_166 rfl 2 rfl rfl ?_
      refine x_irem C (v := (lf - lf / rg * rg)) dX3_reckon_167 c53 rfl rfl ?_
      refine x_any (fun v54 => ?_)
      exact x_zret C hr hlk rfl dX3_reckon_168 rfl
    · skip
      refine x_iconst C (v := 0) dX3_reckon_161 (by decide) rfl ?_
      refine x_goto C (tgt := 168) dX3_reckon_162 (by decide) ?_
      exact x_zret C hr hlk rfl dX3_reckon_168 rfl
  have zs52 := sw_ne (by decide : (58 : Int32).toInt = 58) s52
  by_cases s55 : op = 59
  · refine x_tabIn C (tgt := 157) dX3_reckon_1 (by rw [s55]; decide) (by rw [s55]; decide) (by rw [s55]; rfl) (by decide) ?_
    refine x_iload_n C dX3_reckon_157 rfl 2 rfl rfl ?_
    refine x_if_ne C (tgt := 165) dX3_reckon_158 (by decide) rfl (fun c56 => ?_) (fun c56 => ?_)
    · skip
      refine x_iload_n C dX3_reckon_165 rfl 1 rfl rfl ?_
      refine x_iload_n C dX3_reckon_166 rfl 2 rfl rfl ?_
      refine x_irem C (v := (lf - lf / rg * rg)) dX3_reckon_167 c56 rfl rfl ?_
      refine x_any (fun v57 => ?_)
      exact x_zret C hr hlk rfl dX3_reckon_168 rfl
    · skip
      refine x_iconst C (v := 0) dX3_reckon_161 (by decide) rfl ?_
      refine x_goto C (tgt := 168) dX3_reckon_162 (by decide) ?_
      exact x_zret C hr hlk rfl dX3_reckon_168 rfl
  have zs55 := sw_ne (by decide : (59 : Int32).toInt = 59) s55
  by_cases s58 : op = 60
  · refine x_tabIn C (tgt := 112) dX3_reckon_1 (by rw [s58]; decide) (by rw [s58]; decide) (by rw [s58]; rfl) (by decide) ?_
    refine x_iload_n C dX3_reckon_112 rfl 1 rfl rfl ?_
    refine x_iload_n C dX3_reckon_113 rfl 2 rfl rfl ?_
    refine x_icmp_ge C (tgt := 121) dX3_reckon_114 (by decide) rfl (fun c59 => ?_) (fun c59 => ?_)
    · skip
      refine x_iconst C (v := 0) dX3_reckon_121 (by decide) rfl ?_
      exact x_zret C hr hlk rfl dX3_reckon_122 rfl
    · skip
      refine x_iconst C (v := 1) dX3_reckon_117 (by decide) rfl ?_
      refine x_goto C (tgt := 122) dX3_reckon_118 (by decide) ?_
      exact x_zret C hr hlk rfl dX3_reckon_122 rfl
  have zs58 := sw_ne (by decide : (60 : Int32).toInt = 60) s58
  by_cases s60 : op = 61
  · refine x_tabIn C (tgt := 134) dX3_reckon_1 (by rw [s60]; decide) (by rw [s60]; decide) (by rw [s60]; rfl) (by decide) ?_
    refine x_iload_n C dX3_reckon_134 rfl 1 rfl rfl ?_
    refine x_iload_n C dX3_reckon_135 rfl 2 rfl rfl ?_
    refine x_icmp_ne C (tgt := 143) dX3_reckon_136 (by decide) rfl (fun c61 => ?_) (fun c61 => ?_)
    · skip
      refine x_iconst C (v := 0) dX3_reckon_143 (by decide) rfl ?_
      exact x_zret C hr hlk rfl dX3_reckon_144 rfl
    · skip
      refine x_iconst C (v := 1) dX3_reckon_139 (by decide) rfl ?_
      refine x_goto C (tgt := 144) dX3_reckon_140 (by decide) ?_
      exact x_zret C hr hlk rfl dX3_reckon_144 rfl
  have zs60 := sw_ne (by decide : (61 : Int32).toInt = 61) s60
  have s62 : op = 62 := sw_last (n := 62) (by decide) s1 s2 (by omega)
  refine x_tabIn C (tgt := 123) dX3_reckon_1 (by rw [s62]; decide) (by rw [s62]; decide) (by rw [s62]; rfl) (by decide) ?_
  refine x_iload_n C dX3_reckon_123 rfl 1 rfl rfl ?_
  refine x_iload_n C dX3_reckon_124 rfl 2 rfl rfl ?_
  refine x_icmp_le C (tgt := 132) dX3_reckon_125 (by decide) rfl (fun c63 => ?_) (fun c63 => ?_)
  · skip
    refine x_iconst C (v := 0) dX3_reckon_132 (by decide) rfl ?_
    exact x_zret C hr hlk rfl dX3_reckon_133 rfl
  · skip
    refine x_iconst C (v := 1) dX3_reckon_128 (by decide) rfl ?_
    refine x_goto C (tgt := 133) dX3_reckon_129 (by decide) ?_
    exact x_zret C hr hlk rfl dX3_reckon_133 rfl
theorem dX3_run_0 : decode cX3_run 0 = .ok (.aload_n 0, 1) := by decide +kernel
theorem dX3_run_1 : decode cX3_run 1 = .ok (.iconst 0, 1) := by decide +kernel
theorem dX3_run_2 : decode cX3_run 2 = .ok (.putfield 40, 3) := by decide +kernel
theorem dX3_run_5 : decode cX3_run 5 = .ok (.iload_n 1, 1) := by decide +kernel
theorem dX3_run_6 : decode cX3_run 6 = .ok (.istore_n 3, 1) := by decide +kernel
theorem dX3_run_7 : decode cX3_run 7 = .ok (.iconst 0, 1) := by decide +kernel
theorem dX3_run_8 : decode cX3_run 8 = .ok (.istore 4, 2) := by decide +kernel
theorem dX3_run_10 : decode cX3_run 10 = .ok (.iload 4, 2) := by decide +kernel
theorem dX3_run_12 : decode cX3_run 12 = .ok (.sipush 240, 3) := by decide +kernel
theorem dX3_run_15 : decode cX3_run 15 = .ok (.if_icmp .ge 209, 3) := by decide +kernel
theorem dX3_run_18 : decode cX3_run 18 = .ok (.iload_n 3, 1) := by decide +kernel
theorem dX3_run_19 : decode cX3_run 19 = .ok (.ifCond .lt 205, 3) := by decide +kernel
theorem dX3_run_22 : decode cX3_run 22 = .ok (.iload_n 3, 1) := by decide +kernel
theorem dX3_run_23 : decode cX3_run 23 = .ok (.iload_n 2, 1) := by decide +kernel
theorem dX3_run_24 : decode cX3_run 24 = .ok (.if_icmp .ge 200, 3) := by decide +kernel
theorem dX3_run_27 : decode cX3_run 27 = .ok (.iload_n 3, 1) := by decide +kernel
theorem dX3_run_28 : decode cX3_run 28 = .ok (.sipush 240, 3) := by decide +kernel
theorem dX3_run_31 : decode cX3_run 31 = .ok (.if_icmp .ge 193, 3) := by decide +kernel
theorem dX3_run_34 : decode cX3_run 34 = .ok (.aload_n 0, 1) := by decide +kernel
theorem dX3_run_35 : decode cX3_run 35 = .ok (.getfield 31, 3) := by decide +kernel
theorem dX3_run_38 : decode cX3_run 38 = .ok (.iload_n 3, 1) := by decide +kernel
theorem dX3_run_39 : decode cX3_run 39 = .ok (.iaload, 1) := by decide +kernel
theorem dX3_run_40 : decode cX3_run 40 = .ok (.bipush 127, 2) := by decide +kernel
theorem dX3_run_42 : decode cX3_run 42 = .ok (.iand, 1) := by decide +kernel
theorem dX3_run_43 : decode cX3_run 43 = .ok (.istore 5, 2) := by decide +kernel
theorem dX3_run_45 : decode cX3_run 45 = .ok (.aload_n 0, 1) := by decide +kernel
theorem dX3_run_46 : decode cX3_run 46 = .ok (.getfield 31, 3) := by decide +kernel
theorem dX3_run_49 : decode cX3_run 49 = .ok (.iload_n 3, 1) := by decide +kernel
theorem dX3_run_50 : decode cX3_run 50 = .ok (.iaload, 1) := by decide +kernel
theorem dX3_run_51 : decode cX3_run 51 = .ok (.bipush 7, 2) := by decide +kernel
theorem dX3_run_53 : decode cX3_run 53 = .ok (.iushr, 1) := by decide +kernel
theorem dX3_run_54 : decode cX3_run 54 = .ok (.istore 6, 2) := by decide +kernel
theorem dX3_run_56 : decode cX3_run 56 = .ok (.iinc 3 1, 3) := by decide +kernel
theorem dX3_run_59 : decode cX3_run 59 = .ok (.iload 5, 2) := by decide +kernel
theorem dX3_run_61 : decode cX3_run 61 = .ok (.bipush 35, 2) := by decide +kernel
theorem dX3_run_63 : decode cX3_run 63 = .ok (.if_icmp .ne 12, 3) := by decide +kernel
theorem dX3_run_66 : decode cX3_run 66 = .ok (.aload_n 0, 1) := by decide +kernel
theorem dX3_run_67 : decode cX3_run 67 = .ok (.iload 6, 2) := by decide +kernel
theorem dX3_run_69 : decode cX3_run 69 = .ok (.invokevirtual 102, 3) := by decide +kernel
theorem dX3_run_72 : decode cX3_run 72 = .ok (.goto 146, 3) := by decide +kernel
theorem dX3_run_75 : decode cX3_run 75 = .ok (.iload 5, 2) := by decide +kernel
theorem dX3_run_77 : decode cX3_run 77 = .ok (.bipush 36, 2) := by decide +kernel
theorem dX3_run_79 : decode cX3_run 79 = .ok (.if_icmp .ne 28, 3) := by decide +kernel
theorem dX3_run_82 : decode cX3_run 82 = .ok (.aload_n 0, 1) := by decide +kernel
theorem dX3_run_83 : decode cX3_run 83 = .ok (.iload 6, 2) := by decide +kernel
theorem dX3_run_85 : decode cX3_run 85 = .ok (.bipush 11, 2) := by decide +kernel
theorem dX3_run_87 : decode cX3_run 87 = .ok (.if_icmp .ge 13, 3) := by decide +kernel
theorem dX3_run_90 : decode cX3_run 90 = .ok (.aload_n 0, 1) := by decide +kernel
theorem dX3_run_91 : decode cX3_run 91 = .ok (.getfield 34, 3) := by decide +kernel
theorem dX3_run_94 : decode cX3_run 94 = .ok (.iload 6, 2) := by decide +kernel
theorem dX3_run_96 : decode cX3_run 96 = .ok (.iaload, 1) := by decide +kernel
theorem dX3_run_97 : decode cX3_run 97 = .ok (.goto 4, 3) := by decide +kernel
theorem dX3_run_100 : decode cX3_run 100 = .ok (.iconst 0, 1) := by decide +kernel
theorem dX3_run_101 : decode cX3_run 101 = .ok (.invokevirtual 102, 3) := by decide +kernel
theorem dX3_run_104 : decode cX3_run 104 = .ok (.goto 114, 3) := by decide +kernel
theorem dX3_run_107 : decode cX3_run 107 = .ok (.iload 5, 2) := by decide +kernel
theorem dX3_run_109 : decode cX3_run 109 = .ok (.bipush 33, 2) := by decide +kernel
theorem dX3_run_111 : decode cX3_run 111 = .ok (.if_icmp .ne 16, 3) := by decide +kernel
theorem dX3_run_114 : decode cX3_run 114 = .ok (.aload_n 0, 1) := by decide +kernel
theorem dX3_run_115 : decode cX3_run 115 = .ok (.iconst 1, 1) := by decide +kernel
theorem dX3_run_116 : decode cX3_run 116 = .ok (.aload_n 0, 1) := by decide +kernel
theorem dX3_run_117 : decode cX3_run 117 = .ok (.invokevirtual 106, 3) := by decide +kernel
theorem dX3_run_120 : decode cX3_run 120 = .ok (.isub, 1) := by decide +kernel
theorem dX3_run_121 : decode cX3_run 121 = .ok (.invokevirtual 102, 3) := by decide +kernel
theorem dX3_run_124 : decode cX3_run 124 = .ok (.goto 94, 3) := by decide +kernel
theorem dX3_run_127 : decode cX3_run 127 = .ok (.iload 5, 2) := by decide +kernel
theorem dX3_run_129 : decode cX3_run 129 = .ok (.bipush 38, 2) := by decide +kernel
theorem dX3_run_131 : decode cX3_run 131 = .ok (.if_icmp .eq 10, 3) := by decide +kernel
theorem dX3_run_134 : decode cX3_run 134 = .ok (.iload 5, 2) := by decide +kernel
theorem dX3_run_136 : decode cX3_run 136 = .ok (.bipush 124, 2) := by decide +kernel
theorem dX3_run_138 : decode cX3_run 138 = .ok (.if_icmp .ne 38, 3) := by decide +kernel
theorem dX3_run_141 : decode cX3_run 141 = .ok (.aload_n 0, 1) := by decide +kernel
theorem dX3_run_142 : decode cX3_run 142 = .ok (.invokevirtual 106, 3) := by decide +kernel
theorem dX3_run_145 : decode cX3_run 145 = .ok (.istore 7, 2) := by decide +kernel
theorem dX3_run_147 : decode cX3_run 147 = .ok (.iload 7, 2) := by decide +kernel
theorem dX3_run_149 : decode cX3_run 149 = .ok (.iload 5, 2) := by decide +kernel
theorem dX3_run_151 : decode cX3_run 151 = .ok (.bipush 124, 2) := by decide +kernel
theorem dX3_run_153 : decode cX3_run 153 = .ok (.if_icmp .ne 7, 3) := by decide +kernel
theorem dX3_run_156 : decode cX3_run 156 = .ok (.iconst 1, 1) := by decide +kernel
theorem dX3_run_157 : decode cX3_run 157 = .ok (.goto 4, 3) := by decide +kernel
theorem dX3_run_160 : decode cX3_run 160 = .ok (.iconst 0, 1) := by decide +kernel
theorem dX3_run_161 : decode cX3_run 161 = .ok (.if_icmp .ne 12, 3) := by decide +kernel
theorem dX3_run_164 : decode cX3_run 164 = .ok (.aload_n 0, 1) := by decide +kernel
theorem dX3_run_165 : decode cX3_run 165 = .ok (.iload 7, 2) := by decide +kernel
theorem dX3_run_167 : decode cX3_run 167 = .ok (.invokevirtual 102, 3) := by decide +kernel
theorem dX3_run_170 : decode cX3_run 170 = .ok (.iload 6, 2) := by decide +kernel
theorem dX3_run_172 : decode cX3_run 172 = .ok (.istore_n 3, 1) := by decide +kernel
theorem dX3_run_173 : decode cX3_run 173 = .ok (.goto 45, 3) := by decide +kernel
theorem dX3_run_176 : decode cX3_run 176 = .ok (.aload_n 0, 1) := by decide +kernel
theorem dX3_run_177 : decode cX3_run 177 = .ok (.invokevirtual 106, 3) := by decide +kernel
theorem dX3_run_180 : decode cX3_run 180 = .ok (.istore 7, 2) := by decide +kernel
theorem dX3_run_182 : decode cX3_run 182 = .ok (.iload 7, 2) := by decide +kernel
theorem dX3_run_184 : decode cX3_run 184 = .ok (.ifCond .ne 19, 3) := by decide +kernel
theorem dX3_run_187 : decode cX3_run 187 = .ok (.iload 5, 2) := by decide +kernel
theorem dX3_run_189 : decode cX3_run 189 = .ok (.bipush 47, 2) := by decide +kernel
theorem dX3_run_191 : decode cX3_run 191 = .ok (.if_icmp .eq 10, 3) := by decide +kernel
theorem dX3_run_194 : decode cX3_run 194 = .ok (.iload 5, 2) := by decide +kernel
theorem dX3_run_196 : decode cX3_run 196 = .ok (.bipush 37, 2) := by decide +kernel
theorem dX3_run_198 : decode cX3_run 198 = .ok (.if_icmp .ne 5, 3) := by decide +kernel
theorem dX3_run_201 : decode cX3_run 201 = .ok (.iconst 0, 1) := by decide +kernel
theorem dX3_run_202 : decode cX3_run 202 = .ok (.ireturn, 1) := by decide +kernel
theorem dX3_run_203 : decode cX3_run 203 = .ok (.aload_n 0, 1) := by decide +kernel
theorem dX3_run_204 : decode cX3_run 204 = .ok (.iload 5, 2) := by decide +kernel
theorem dX3_run_206 : decode cX3_run 206 = .ok (.aload_n 0, 1) := by decide +kernel
theorem dX3_run_207 : decode cX3_run 207 = .ok (.invokevirtual 106, 3) := by decide +kernel
theorem dX3_run_210 : decode cX3_run 210 = .ok (.iload 7, 2) := by decide +kernel
theorem dX3_run_212 : decode cX3_run 212 = .ok (.invokestatic 110, 3) := by decide +kernel
theorem dX3_run_215 : decode cX3_run 215 = .ok (.invokevirtual 102, 3) := by decide +kernel
theorem dX3_run_218 : decode cX3_run 218 = .ok (.iinc 4 1, 3) := by decide +kernel
theorem dX3_run_221 : decode cX3_run 221 = .ok (.goto (-211), 3) := by decide +kernel
theorem dX3_run_224 : decode cX3_run 224 = .ok (.aload_n 0, 1) := by decide +kernel
theorem dX3_run_225 : decode cX3_run 225 = .ok (.invokevirtual 106, 3) := by decide +kernel
theorem dX3_run_228 : decode cX3_run 228 = .ok (.ireturn, 1) := by decide +kernel
set_option maxRecDepth 20000 in
set_option maxHeartbeats 4000000 in
theorem c_run (E : xE) (l : Launch) (a : Nat → Nat) (ws : va_W) (hW : WX (okX E a) ws) (fr : Int32) (to : Int32) : xI E l yX3_run cX3_run 8 (some .int) 1 [.ref (a 71), .int fr, .int to] ws (fun r w => WX (okX E a) w ∧ keeps ws w (fun q => 71 ≤ q ∧ q < 79)) := by
  refine xI_start (lv := [(0, .ref (a 71)), (1, .int fr), (2, .int to)]) RX3 (by decide) rfl (Nat.le_of_ble_eq_true rfl) rfl (fun p e s m below meth c A C hr hlk => ?_)
  have kp0 : keeps ws ws (fun q => 71 ≤ q ∧ q < 79) := keeps_rf
  refine x_aload_n C dX3_run_0 rfl 0 rfl rfl ?_
  refine x_iconst C (v := 0) dX3_run_1 (by decide) rfl ?_
  obtain ⟨_, k1, v2, n3, n5, bn4, bn6, rfl⟩ := hW 71 _ rfl
  obtain ⟨w7, hw8⟩ : ∃ w : va_W, w = List.set ws 71 (ob (a 71) 3 [.int v2, .ref (a 72), .ref (a 73), .ref (a 74), .ref (a 75), .int (nI n3), .ref (a 76), .ref (a 77), .ref (a 78), .int 0]) := ⟨_, rfl⟩
  refine x_put C (ci := 3) (k := 9) (ty := .int) 71 k1 rfl in_X3 tyX3 tyX3_ok nmX3 (by decide) w_266 rfl rfl rfl rfl (Nat.le_of_ble_eq_true rfl) hw8.symm dX3_run_2 rfl ?_
  have hW9 : WX (okX E a) w7 := by rw [hw8]; exact hW.set (k := 71) rfl ⟨v2, n3, 0, by omega, by omega, rfl⟩
  have k10 : w7[71]? = some (ob (a 71) 3 [.int v2, .ref (a 72), .ref (a 73), .ref (a 74), .ref (a 75), .int (nI n3), .ref (a 76), .ref (a 77), .ref (a 78), .int 0]) := by rw [hw8]; exact set_eq k1
  have kp11 := keeps_set kp0 hw8 (by first | exact rfl | decide | omega | (dsimp only; omega))
  refine x_iload_n C dX3_run_5 rfl 1 rfl rfl ?_
  refine x_istore_n C (lv' := [(3, .int fr), (0, .ref (a 71)), (1, .int fr), (2, .int to)]) dX3_run_6 rfl (by decide) rfl rfl ?_
  refine x_iconst C (v := 0) dX3_run_7 (by decide) rfl ?_
  refine x_istore C (lv' := [(4, .int 0), (3, .int fr), (0, .ref (a 71)), (1, .int fr), (2, .int to)]) dX3_run_8 (by decide) rfl rfl ?_
  have loop10 : ∀ (fu10 : Nat) (z10_3 : Int32) (k : Nat) (wl10 : va_W), WX (okX E a) wl10 → 240 - k < fu10 → k ≤ 240 → keeps ws wl10 (fun q => 71 ≤ q ∧ q < 79) → X E p l e (xRm 1 0 0) s m ([.ref (a 71), .int fr, .int to] : List Value).toArray below meth c A 8 0 0 (MQ below (va_Qi (fun r w => WX (okX E a) w ∧ keeps ws w (fun q => 71 ≤ q ∧ q < 79)) (xB E A) A) ([.ref (a 71), .int fr, .int to] : List Value).toArray s 0 0 A) wl10 10 [(0, .ref (a 71)), (1, .int fr), (2, .int to), (3, .int z10_3), (4, .int (nI k))] [] := by
    intro fu10
    induction fu10 with
    | zero => intro z10_3 k wl10 _ q; omega
    | succ fu10 ih10 =>
      intro z10_3 k wl10 hWl10 me10 iv10_0 kq10
      refine x_iload C dX3_run_10 4 rfl rfl ?_
      refine x_sipush C (v := 240) dX3_run_12 (by decide) rfl ?_
      refine x_icmp_ge C (tgt := 224) dX3_run_15 (by decide) rfl (fun c12 => ?_) (fun c12 => ?_)
      · skip
        have nf13 := nI_le' (a := 240) (b := k) c12 (by omega) (by omega)
        refine x_aload_n C dX3_run_224 rfl 0 rfl rfl ?_
        obtain ⟨_, k14, v15, n16, n18, bn17, bn19, rfl⟩ := hWl10 71 _ rfl
        refine x_vi C (As := []) (rest := []) (c_pop E l a wl10 hWl10) mf_X3_pop w_751 71 k14 rfl rfl rfl (Nat.le_of_ble_eq_true rfl) ⟨(Nat.le_of_ble_eq_true rfl), (Nat.le_of_ble_eq_true rfl)⟩ ⟨(Nat.le_of_ble_eq_true rfl), (Nat.le_of_ble_eq_true rfl)⟩ dX3_run_225 rfl (fun r21 w22 h20 => ?_)
        obtain ⟨hW23, kq24⟩ := h20
        have kp25 := keeps_tr kq10 kq24 (fun q hq => by first | omega | (dsimp only at *; omega))
        exact x_zret C hr hlk rfl dX3_run_228 ⟨hW23, kp25⟩
      · skip
        have nf26 := nI_nle' (a := 240) (b := k) c12 (by omega) (by omega)
        refine x_iload_n C dX3_run_18 rfl 3 rfl rfl ?_
        refine x_if_lt C (tgt := 224) dX3_run_19 (by decide) rfl (fun c27 => ?_) (fun c27 => ?_)
        · skip
          refine x_aload_n C dX3_run_224 rfl 0 rfl rfl ?_
          obtain ⟨_, k28, v29, n30, n32, bn31, bn33, rfl⟩ := hWl10 71 _ rfl
          refine x_vi C (As := []) (rest := []) (c_pop E l a wl10 hWl10) mf_X3_pop w_751 71 k28 rfl rfl rfl (Nat.le_of_ble_eq_true rfl) ⟨(Nat.le_of_ble_eq_true rfl), (Nat.le_of_ble_eq_true rfl)⟩ ⟨(Nat.le_of_ble_eq_true rfl), (Nat.le_of_ble_eq_true rfl)⟩ dX3_run_225 rfl (fun r35 w36 h34 => ?_)
          obtain ⟨hW37, kq38⟩ := h34
          have kp39 := keeps_tr kq10 kq38 (fun q hq => by first | omega | (dsimp only at *; omega))
          exact x_zret C hr hlk rfl dX3_run_228 ⟨hW37, kp39⟩
        · skip
          obtain ⟨j40, hj41, ej42⟩ := nI_of c27
          subst ej42
          refine x_iload_n C dX3_run_22 rfl 3 rfl rfl ?_
          refine x_iload_n C dX3_run_23 rfl 2 rfl rfl ?_
          refine x_icmp_ge C (tgt := 224) dX3_run_24 (by decide) rfl (fun c43 => ?_) (fun c43 => ?_)
          · skip
            refine x_aload_n C dX3_run_224 rfl 0 rfl rfl ?_
            obtain ⟨_, k44, v45, n46, n48, bn47, bn49, rfl⟩ := hWl10 71 _ rfl
            refine x_vi C (As := []) (rest := []) (c_pop E l a wl10 hWl10) mf_X3_pop w_751 71 k44 rfl rfl rfl (Nat.le_of_ble_eq_true rfl) ⟨(Nat.le_of_ble_eq_true rfl), (Nat.le_of_ble_eq_true rfl)⟩ ⟨(Nat.le_of_ble_eq_true rfl), (Nat.le_of_ble_eq_true rfl)⟩ dX3_run_225 rfl (fun r51 w52 h50 => ?_)
            obtain ⟨hW53, kq54⟩ := h50
            have kp55 := keeps_tr kq10 kq54 (fun q hq => by first | omega | (dsimp only at *; omega))
            exact x_zret C hr hlk rfl dX3_run_228 ⟨hW53, kp55⟩
          · skip
            refine x_iload_n C dX3_run_27 rfl 3 rfl rfl ?_
            refine x_sipush C (v := 240) dX3_run_28 (by decide) rfl ?_
            refine x_icmp_ge C (tgt := 224) dX3_run_31 (by decide) rfl (fun c56 => ?_) (fun c56 => ?_)
            · skip
              have nf57 := nI_le' (a := 240) (b := j40) c56 (by omega) (by omega)
              refine x_aload_n C dX3_run_224 rfl 0 rfl rfl ?_
              obtain ⟨_, k58, v59, n60, n62, bn61, bn63, rfl⟩ := hWl10 71 _ rfl
              refine x_vi C (As := []) (rest := []) (c_pop E l a wl10 hWl10) mf_X3_pop w_751 71 k58 rfl rfl rfl (Nat.le_of_ble_eq_true rfl) ⟨(Nat.le_of_ble_eq_true rfl), (Nat.le_of_ble_eq_true rfl)⟩ ⟨(Nat.le_of_ble_eq_true rfl), (Nat.le_of_ble_eq_true rfl)⟩ dX3_run_225 rfl (fun r65 w66 h64 => ?_)
              obtain ⟨hW67, kq68⟩ := h64
              have kp69 := keeps_tr kq10 kq68 (fun q hq => by first | omega | (dsimp only at *; omega))
              exact x_zret C hr hlk rfl dX3_run_228 ⟨hW67, kp69⟩
            · skip
              have nf70 := nI_nle' (a := 240) (b := j40) c56 (by omega) (by omega)
              refine x_aload_n C dX3_run_34 rfl 0 rfl rfl ?_
              obtain ⟨_, k71, v72, n73, n75, bn74, bn76, rfl⟩ := hWl10 71 _ rfl
              refine x_get C (ci := 3) (k := 6) 71 k71 rfl in_X3 (by decide) w_263 rfl dX3_run_35 rfl ?_
              refine x_iload_n C dX3_run_38 rfl 3 rfl rfl ?_
              obtain ⟨_, k77, f78, rfl⟩ := hWl10 76 _ rfl
              refine x_iald C (v := (f78 (nI j40).toNatClampNeg)) 76 k77 (vp_in_nI (by omega) (by decide)) rfl dX3_run_39 rfl ?_
              refine x_any (fun v79 => ?_)
              refine x_bipush C (v := 127) dX3_run_40 (by decide) rfl ?_
              refine x_iand C (v := (v79 &&& (127 : Int32))) dX3_run_42 rfl rfl ?_
              refine x_any (fun v80 => ?_)
              refine x_istore C (lv' := [(5, .int v80), (0, .ref (a 71)), (1, .int fr), (2, .int to), (3, .int (nI j40)), (4, .int (nI k))]) dX3_run_43 (by decide) rfl rfl ?_
              refine x_aload_n C dX3_run_45 rfl 1 rfl rfl ?_
              refine x_get C (ci := 3) (k := 6) 71 k71 rfl in_X3 (by decide) w_263 rfl dX3_run_46 rfl ?_
              refine x_iload_n C dX3_run_49 rfl 4 rfl rfl ?_
              refine x_iald C (v := (f78 (nI j40).toNatClampNeg)) 76 k77 (vp_in_nI (by omega) (by decide)) rfl dX3_run_50 rfl ?_
              refine x_any (fun v81 => ?_)
              refine x_bipush C (v := 7) dX3_run_51 (by decide) rfl ?_
              obtain ⟨n82, hn83, en84⟩ := ush7 v81
              refine x_iushr C (v := (nI n82)) dX3_run_53 en84 rfl ?_
              refine x_istore C (lv' := [(6, .int (nI n82)), (5, .int v80), (0, .ref (a 71)), (1, .int fr), (2, .int to), (3, .int (nI j40)), (4, .int (nI k))]) dX3_run_54 (by decide) rfl rfl ?_
              refine x_iinc C (v := (nI (j40 + 1))) (lv' := [(3, .int (nI (j40 + 1))), (6, .int (nI n82)), (5, .int v80), (0, .ref (a 71)), (1, .int fr), (2, .int to), (4, .int (nI k))]) dX3_run_56 5 rfl (nI_add j40 1) (by decide) rfl rfl ?_
              refine x_iload C dX3_run_59 2 rfl rfl ?_
              refine x_bipush C (v := 35) dX3_run_61 (by decide) rfl ?_
              refine x_icmp_ne C (tgt := 75) dX3_run_63 (by decide) rfl (fun c85 => ?_) (fun c85 => ?_)
              · skip
                refine x_iload C dX3_run_75 2 rfl rfl ?_
                refine x_bipush C (v := 36) dX3_run_77 (by decide) rfl ?_
                refine x_icmp_ne C (tgt := 107) dX3_run_79 (by decide) rfl (fun c86 => ?_) (fun c86 => ?_)
                · skip
                  refine x_iload C dX3_run_107 2 rfl rfl ?_
                  refine x_bipush C (v := 33) dX3_run_109 (by decide) rfl ?_
                  refine x_icmp_ne C (tgt := 127) dX3_run_111 (by decide) rfl (fun c87 => ?_) (fun c87 => ?_)
                  · skip
                    refine x_iload C dX3_run_127 2 rfl rfl ?_
                    refine x_bipush C (v := 38) dX3_run_129 (by decide) rfl ?_
                    refine x_icmp_eq C (tgt := 141) dX3_run_131 (by decide) rfl (fun c88 => ?_) (fun c88 => ?_)
                    · skip
                      refine x_aload_n C dX3_run_141 rfl 3 rfl rfl ?_
                      refine x_vi C (As := []) (rest := []) (c_pop E l a wl10 hWl10) mf_X3_pop w_751 71 k71 rfl rfl rfl (Nat.le_of_ble_eq_true rfl) ⟨(Nat.le_of_ble_eq_true rfl), (Nat.le_of_ble_eq_true rfl)⟩ ⟨(Nat.le_of_ble_eq_true rfl), (Nat.le_of_ble_eq_true rfl)⟩ dX3_run_142 rfl (fun r90 w91 h89 => ?_)
                      obtain ⟨hW92, kq93⟩ := h89
                      have kp94 := keeps_tr kq10 kq93 (fun q hq => by first | omega | (dsimp only at *; omega))
                      refine x_istore C (lv' := [(7, .int r90), (3, .int (nI (j40 + 1))), (6, .int (nI n82)), (5, .int v80), (0, .ref (a 71)), (1, .int fr), (2, .int to), (4, .int (nI k))]) dX3_run_145 (by decide) rfl rfl ?_
                      refine x_iload C dX3_run_147 0 rfl rfl ?_
                      refine x_iload C dX3_run_149 3 rfl rfl ?_
                      refine x_bipush C (v := 124) dX3_run_151 (by decide) rfl ?_
                      refine x_icmp_ne C (tgt := 160) dX3_run_153 (by decide) rfl (fun c95 => ?_) (fun c95 => ?_)
                      · skip
                        refine x_iconst C (v := 0) dX3_run_160 (by decide) rfl ?_
                        refine x_icmp_ne C (tgt := 173) dX3_run_161 (by decide) rfl (fun c96 => ?_) (fun c96 => ?_)
                        · skip
                          refine x_goto C (tgt := 218) dX3_run_173 (by decide) ?_
                          refine x_iinc C (v := (nI (k + 1))) (lv' := [(4, .int (nI (k + 1))), (7, .int r90), (3, .int (nI (j40 + 1))), (6, .int (nI n82)), (5, .int v80), (0, .ref (a 71)), (1, .int fr), (2, .int to)]) dX3_run_218 7 rfl (nI_add k 1) (by decide) rfl rfl ?_
                          refine x_goto C (tgt := 10) dX3_run_221 (by decide) ?_
                          refine x_lv (lv1 := [(0, .ref (a 71)), (1, .int fr), (2, .int to), (3, .int (nI (j40 + 1))), (4, .int (nI (k + 1)))]) [5, 6, 7, 2, 0] rfl ?_
                          exact ih10 ((nI (j40 + 1))) (k + 1) w91 hW92 (by omega) (by omega) kp94
                        · skip
                          refine x_aload_n C dX3_run_164 rfl 4 rfl rfl ?_
                          refine x_iload C dX3_run_165 0 rfl rfl ?_
                          obtain ⟨_, k97, v98, n99, n101, bn100, bn102, rfl⟩ := hW92 71 _ rfl
                          refine x_vv C (As := [.int r90]) (rest := []) (c_push E l a w91 hW92 r90) mf_X3_push w_747 71 k97 rfl rfl rfl (Nat.le_of_ble_eq_true rfl) ⟨(Nat.le_of_ble_eq_true rfl), (Nat.le_of_ble_eq_true rfl)⟩ ⟨(Nat.le_of_ble_eq_true rfl), (Nat.le_of_ble_eq_true rfl)⟩ dX3_run_167 rfl (fun w105 h103 => ?_)
                          obtain ⟨hW106, kq107⟩ := h103
                          have kp108 := keeps_tr kp94 kq107 (fun q hq => by first | omega | (dsimp only at *; omega))
                          refine x_iload C dX3_run_170 2 rfl rfl ?_
                          refine x_istore_n C (lv' := [(3, .int (nI n82)), (7, .int r90), (6, .int (nI n82)), (5, .int v80), (0, .ref (a 71)), (1, .int fr), (2, .int to), (4, .int (nI k))]) dX3_run_172 rfl (by decide) rfl rfl ?_
                          refine x_goto C (tgt := 218) dX3_run_173 (by decide) ?_
                          refine x_iinc C (v := (nI (k + 1))) (lv' := [(4, .int (nI (k + 1))), (3, .int (nI n82)), (7, .int r90), (6, .int (nI n82)), (5, .int v80), (0, .ref (a 71)), (1, .int fr), (2, .int to)]) dX3_run_218 7 rfl (nI_add k 1) (by decide) rfl rfl ?_
                          refine x_goto C (tgt := 10) dX3_run_221 (by decide) ?_
                          refine x_lv (lv1 := [(0, .ref (a 71)), (1, .int fr), (2, .int to), (3, .int (nI n82)), (4, .int (nI (k + 1)))]) [5, 6, 7, 1, 0] rfl ?_
                          exact ih10 ((nI n82)) (k + 1) w105 hW106 (by omega) (by omega) kp108
                      · skip
                        refine x_iconst C (v := 1) dX3_run_156 (by decide) rfl ?_
                        refine x_goto C (tgt := 161) dX3_run_157 (by decide) ?_
                        refine x_icmp_ne C (tgt := 173) dX3_run_161 (by decide) rfl (fun c109 => ?_) (fun c109 => ?_)
                        · skip
                          refine x_goto C (tgt := 218) dX3_run_173 (by decide) ?_
                          refine x_iinc C (v := (nI (k + 1))) (lv' := [(4, .int (nI (k + 1))), (7, .int r90), (3, .int (nI (j40 + 1))), (6, .int (nI n82)), (5, .int v80), (0, .ref (a 71)), (1, .int fr), (2, .int to)]) dX3_run_218 7 rfl (nI_add k 1) (by decide) rfl rfl ?_
                          refine x_goto C (tgt := 10) dX3_run_221 (by decide) ?_
                          refine x_lv (lv1 := [(0, .ref (a 71)), (1, .int fr), (2, .int to), (3, .int (nI (j40 + 1))), (4, .int (nI (k + 1)))]) [5, 6, 7, 2, 0] rfl ?_
                          exact ih10 ((nI (j40 + 1))) (k + 1) w91 hW92 (by omega) (by omega) kp94
                        · skip
                          refine x_aload_n C dX3_run_164 rfl 4 rfl rfl ?_
                          refine x_iload C dX3_run_165 0 rfl rfl ?_
                          obtain ⟨_, k110, v111, n112, n114, bn113, bn115, rfl⟩ := hW92 71 _ rfl
                          refine x_vv C (As := [.int r90]) (rest := []) (c_push E l a w91 hW92 r90) mf_X3_push w_747 71 k110 rfl rfl rfl (Nat.le_of_ble_eq_true rfl) ⟨(Nat.le_of_ble_eq_true rfl), (Nat.le_of_ble_eq_true rfl)⟩ ⟨(Nat.le_of_ble_eq_true rfl), (Nat.le_of_ble_eq_true rfl)⟩ dX3_run_167 rfl (fun w118 h116 => ?_)
                          obtain ⟨hW119, kq120⟩ := h116
                          have kp121 := keeps_tr kp94 kq120 (fun q hq => by first | omega | (dsimp only at *; omega))
                          refine x_iload C dX3_run_170 2 rfl rfl ?_
                          refine x_istore_n C (lv' := [(3, .int (nI n82)), (7, .int r90), (6, .int (nI n82)), (5, .int v80), (0, .ref (a 71)), (1, .int fr), (2, .int to), (4, .int (nI k))]) dX3_run_172 rfl (by decide) rfl rfl ?_
                          refine x_goto C (tgt := 218) dX3_run_173 (by decide) ?_
                          refine x_iinc C (v := (nI (k + 1))) (lv' := [(4, .int (nI (k + 1))), (3, .int (nI n82)), (7, .int r90), (6, .int (nI n82)), (5, .int v80), (0, .ref (a 71)), (1, .int fr), (2, .int to)]) dX3_run_218 7 rfl (nI_add k 1) (by decide) rfl rfl ?_
                          refine x_goto C (tgt := 10) dX3_run_221 (by decide) ?_
                          refine x_lv (lv1 := [(0, .ref (a 71)), (1, .int fr), (2, .int to), (3, .int (nI n82)), (4, .int (nI (k + 1)))]) [5, 6, 7, 1, 0] rfl ?_
                          exact ih10 ((nI n82)) (k + 1) w118 hW119 (by omega) (by omega) kp121
                    · skip
                      refine x_iload C dX3_run_134 2 rfl rfl ?_
                      refine x_bipush C (v := 124) dX3_run_136 (by decide) rfl ?_
                      refine x_icmp_ne C (tgt := 176) dX3_run_138 (by decide) rfl (fun c122 => ?_) (fun c122 => ?_)
                      · skip
                        refine x_aload_n C dX3_run_176 rfl 3 rfl rfl ?_
                        refine x_vi C (As := []) (rest := []) (c_pop E l a wl10 hWl10) mf_X3_pop w_751 71 k71 rfl rfl rfl (Nat.le_of_ble_eq_true rfl) ⟨(Nat.le_of_ble_eq_true rfl), (Nat.le_of_ble_eq_true rfl)⟩ ⟨(Nat.le_of_ble_eq_true rfl), (Nat.le_of_ble_eq_true rfl)⟩ dX3_run_177 rfl (fun r124 w125 h123 => ?_)
                        obtain ⟨hW126, kq127⟩ := h123
                        have kp128 := keeps_tr kq10 kq127 (fun q hq => by first | omega | (dsimp only at *; omega))
                        refine x_istore C (lv' := [(7, .int r124), (3, .int (nI (j40 + 1))), (6, .int (nI n82)), (5, .int v80), (0, .ref (a 71)), (1, .int fr), (2, .int to), (4, .int (nI k))]) dX3_run_180 (by decide) rfl rfl ?_
                        refine x_iload C dX3_run_182 0 rfl rfl ?_
                        refine x_if_ne C (tgt := 203) dX3_run_184 (by decide) rfl (fun c129 => ?_) (fun c129 => ?_)
                        · skip
                          refine x_aload_n C dX3_run_203 rfl 4 rfl rfl ?_
                          refine x_iload C dX3_run_204 3 rfl rfl ?_
                          refine x_aload_n C dX3_run_206 rfl 4 rfl rfl ?_
                          obtain ⟨_, k130, v131, n132, n134, bn133, bn135, rfl⟩ := hW126 71 _ rfl
                          refine x_vi C (As := []) (rest := [.int v80, .ref (a 71)]) (c_pop E l a w125 hW126) mf_X3_pop w_751 71 k130 rfl rfl rfl (Nat.le_of_ble_eq_true rfl) ⟨(Nat.le_of_ble_eq_true rfl), (Nat.le_of_ble_eq_true rfl)⟩ ⟨(Nat.le_of_ble_eq_true rfl), (Nat.le_of_ble_eq_true rfl)⟩ dX3_run_207 rfl (fun r137 w138 h136 => ?_)
                          obtain ⟨hW139, kq140⟩ := h136
                          have kp141 := keeps_tr kp128 kq140 (fun q hq => by first | omega | (dsimp only at *; omega))
                          refine x_iload C dX3_run_210 0 rfl rfl ?_
                          refine x_si C (As := [.int v80, .int r137, .int r124]) (rest := [.ref (a 71)]) (c_reckon E l a w138 hW139 v80 r137 r124) mf_X3_reckon w_755 rfl rfl (Nat.le_of_ble_eq_true rfl) ⟨(Nat.le_of_ble_eq_true rfl), (Nat.le_of_ble_eq_true rfl)⟩ ⟨(Nat.le_of_ble_eq_true rfl), (Nat.le_of_ble_eq_true rfl)⟩ dX3_run_212 rfl (fun r143 w144 h142 => ?_)
                          have hW145 := h142
                          refine x_ws hW145 ?_
                          obtain ⟨_, k146, v147, n148, n150, bn149, bn151, rfl⟩ := hW139 71 _ rfl
                          refine x_vv C (As := [.int r143]) (rest := []) (c_push E l a w138 hW139 r143) mf_X3_push w_747 71 k146 rfl rfl rfl (Nat.le_of_ble_eq_true rfl) ⟨(Nat.le_of_ble_eq_true rfl), (Nat.le_of_ble_eq_true rfl)⟩ ⟨(Nat.le_of_ble_eq_true rfl), (Nat.le_of_ble_eq_true rfl)⟩ dX3_run_215 rfl (fun w154 h152 => ?_)
                          obtain ⟨hW155, kq156⟩ := h152
                          have kp157 := keeps_tr kp141 kq156 (fun q hq => by first | omega | (dsimp only at *; omega))
                          refine x_iinc C (v := (nI (k + 1))) (lv' := [(4, .int (nI (k + 1))), (7, .int r124), (3, .int (nI (j40 + 1))), (6, .int (nI n82)), (5, .int v80), (0, .ref (a 71)), (1, .int fr), (2, .int to)]) dX3_run_218 7 rfl (nI_add k 1) (by decide) rfl rfl ?_
                          refine x_goto C (tgt := 10) dX3_run_221 (by decide) ?_
                          refine x_lv (lv1 := [(0, .ref (a 71)), (1, .int fr), (2, .int to), (3, .int (nI (j40 + 1))), (4, .int (nI (k + 1)))]) [5, 6, 7, 2, 0] rfl ?_
                          exact ih10 ((nI (j40 + 1))) (k + 1) w154 hW155 (by omega) (by omega) kp157
                        · skip
                          refine x_iload C dX3_run_187 3 rfl rfl ?_
                          refine x_bipush C (v := 47) dX3_run_189 (by decide) rfl ?_
                          refine x_icmp_eq C (tgt := 201) dX3_run_191 (by decide) rfl (fun c158 => ?_) (fun c158 => ?_)
                          · skip
                            refine x_iconst C (v := 0) dX3_run_201 (by decide) rfl ?_
                            exact x_zret C hr hlk rfl dX3_run_202 ⟨hW126, kp128⟩
                          · skip
                            refine x_iload C dX3_run_194 3 rfl rfl ?_
                            refine x_bipush C (v := 37) dX3_run_196 (by decide) rfl ?_
                            refine x_icmp_ne C (tgt := 203) dX3_run_198 (by decide) rfl (fun c159 => ?_) (fun c159 => ?_)
                            · skip
                              refine x_aload_n C dX3_run_203 rfl 4 rfl rfl ?_
                              refine x_iload C dX3_run_204 3 rfl rfl ?_
                              refine x_aload_n C dX3_run_206 rfl 4 rfl rfl ?_
                              obtain ⟨_, k160, v161, n162, n164, bn163, bn165, rfl⟩ := hW126 71 _ rfl
                              refine x_vi C (As := []) (rest := [.int v80, .ref (a 71)]) (c_pop E l a w125 hW126) mf_X3_pop w_751 71 k160 rfl rfl rfl (Nat.le_of_ble_eq_true rfl) ⟨(Nat.le_of_ble_eq_true rfl), (Nat.le_of_ble_eq_true rfl)⟩ ⟨(Nat.le_of_ble_eq_true rfl), (Nat.le_of_ble_eq_true rfl)⟩ dX3_run_207 rfl (fun r167 w168 h166 => ?_)
                              obtain ⟨hW169, kq170⟩ := h166
                              have kp171 := keeps_tr kp128 kq170 (fun q hq => by first | omega | (dsimp only at *; omega))
                              refine x_iload C dX3_run_210 0 rfl rfl ?_
                              refine x_si C (As := [.int v80, .int r167, .int r124]) (rest := [.ref (a 71)]) (c_reckon E l a w168 hW169 v80 r167 r124) mf_X3_reckon w_755 rfl rfl (Nat.le_of_ble_eq_true rfl) ⟨(Nat.le_of_ble_eq_true rfl), (Nat.le_of_ble_eq_true rfl)⟩ ⟨(Nat.le_of_ble_eq_true rfl), (Nat.le_of_ble_eq_true rfl)⟩ dX3_run_212 rfl (fun r173 w174 h172 => ?_)
                              have hW175 := h172
                              refine x_ws hW175 ?_
                              obtain ⟨_, k176, v177, n178, n180, bn179, bn181, rfl⟩ := hW169 71 _ rfl
                              refine x_vv C (As := [.int r173]) (rest := []) (c_push E l a w168 hW169 r173) mf_X3_push w_747 71 k176 rfl rfl rfl (Nat.le_of_ble_eq_true rfl) ⟨(Nat.le_of_ble_eq_true rfl), (Nat.le_of_ble_eq_true rfl)⟩ ⟨(Nat.le_of_ble_eq_true rfl), (Nat.le_of_ble_eq_true rfl)⟩ dX3_run_215 rfl (fun w184 h182 => ?_)
                              obtain ⟨hW185, kq186⟩ := h182
                              have kp187 := keeps_tr kp171 kq186 (fun q hq => by first | omega | (dsimp only at *; omega))
                              refine x_iinc C (v := (nI (k + 1))) (lv' := [(4, .int (nI (k + 1))), (7, .int r124), (3, .int (nI (j40 + 1))), (6, .int (nI n82)), (5, .int v80), (0, .ref (a 71)), (1, .int fr), (2, .int to)]) dX3_run_218 7 rfl (nI_add k 1) (by decide) rfl rfl ?_
                              refine x_goto C (tgt := 10) dX3_run_221 (by decide) ?_
                              refine x_lv (lv1 := [(0, .ref (a 71)), (1, .int fr), (2, .int to), (3, .int (nI (j40 + 1))), (4, .int (nI (k + 1)))]) [5, 6, 7, 2, 0] rfl ?_
                              exact ih10 ((nI (j40 + 1))) (k + 1) w184 hW185 (by omega) (by omega) kp187
                            · skip
                              refine x_iconst C (v := 0) dX3_run_201 (by decide) rfl ?_
                              exact x_zret C hr hlk rfl dX3_run_202 ⟨hW126, kp128⟩
                      · skip
                        refine x_aload_n C dX3_run_141 rfl 3 rfl rfl ?_
                        refine x_vi C (As := []) (rest := []) (c_pop E l a wl10 hWl10) mf_X3_pop w_751 71 k71 rfl rfl rfl (Nat.le_of_ble_eq_true rfl) ⟨(Nat.le_of_ble_eq_true rfl), (Nat.le_of_ble_eq_true rfl)⟩ ⟨(Nat.le_of_ble_eq_true rfl), (Nat.le_of_ble_eq_true rfl)⟩ dX3_run_142 rfl (fun r189 w190 h188 => ?_)
                        obtain ⟨hW191, kq192⟩ := h188
                        have kp193 := keeps_tr kq10 kq192 (fun q hq => by first | omega | (dsimp only at *; omega))
                        refine x_istore C (lv' := [(7, .int r189), (3, .int (nI (j40 + 1))), (6, .int (nI n82)), (5, .int v80), (0, .ref (a 71)), (1, .int fr), (2, .int to), (4, .int (nI k))]) dX3_run_145 (by decide) rfl rfl ?_
                        refine x_iload C dX3_run_147 0 rfl rfl ?_
                        refine x_iload C dX3_run_149 3 rfl rfl ?_
                        refine x_bipush C (v := 124) dX3_run_151 (by decide) rfl ?_
                        refine x_icmp_ne C (tgt := 160) dX3_run_153 (by decide) rfl (fun c194 => ?_) (fun c194 => ?_)
                        · skip
                          refine x_iconst C (v := 0) dX3_run_160 (by decide) rfl ?_
                          refine x_icmp_ne C (tgt := 173) dX3_run_161 (by decide) rfl (fun c195 => ?_) (fun c195 => ?_)
                          · skip
                            refine x_goto C (tgt := 218) dX3_run_173 (by decide) ?_
                            refine x_iinc C (v := (nI (k + 1))) (lv' := [(4, .int (nI (k + 1))), (7, .int r189), (3, .int (nI (j40 + 1))), (6, .int (nI n82)), (5, .int v80), (0, .ref (a 71)), (1, .int fr), (2, .int to)]) dX3_run_218 7 rfl (nI_add k 1) (by decide) rfl rfl ?_
                            refine x_goto C (tgt := 10) dX3_run_221 (by decide) ?_
                            refine x_lv (lv1 := [(0, .ref (a 71)), (1, .int fr), (2, .int to), (3, .int (nI (j40 + 1))), (4, .int (nI (k + 1)))]) [5, 6, 7, 2, 0] rfl ?_
                            exact ih10 ((nI (j40 + 1))) (k + 1) w190 hW191 (by omega) (by omega) kp193
                          · skip
                            refine x_aload_n C dX3_run_164 rfl 4 rfl rfl ?_
                            refine x_iload C dX3_run_165 0 rfl rfl ?_
                            obtain ⟨_, k196, v197, n198, n200, bn199, bn201, rfl⟩ := hW191 71 _ rfl
                            refine x_vv C (As := [.int r189]) (rest := []) (c_push E l a w190 hW191 r189) mf_X3_push w_747 71 k196 rfl rfl rfl (Nat.le_of_ble_eq_true rfl) ⟨(Nat.le_of_ble_eq_true rfl), (Nat.le_of_ble_eq_true rfl)⟩ ⟨(Nat.le_of_ble_eq_true rfl), (Nat.le_of_ble_eq_true rfl)⟩ dX3_run_167 rfl (fun w204 h202 => ?_)
                            obtain ⟨hW205, kq206⟩ := h202
                            have kp207 := keeps_tr kp193 kq206 (fun q hq => by first | omega | (dsimp only at *; omega))
                            refine x_iload C dX3_run_170 2 rfl rfl ?_
                            refine x_istore_n C (lv' := [(3, .int (nI n82)), (7, .int r189), (6, .int (nI n82)), (5, .int v80), (0, .ref (a 71)), (1, .int fr), (2, .int to), (4, .int (nI k))]) dX3_run_172 rfl (by decide) rfl rfl ?_
                            refine x_goto C (tgt := 218) dX3_run_173 (by decide) ?_
                            refine x_iinc C (v := (nI (k + 1))) (lv' := [(4, .int (nI (k + 1))), (3, .int (nI n82)), (7, .int r189), (6, .int (nI n82)), (5, .int v80), (0, .ref (a 71)), (1, .int fr), (2, .int to)]) dX3_run_218 7 rfl (nI_add k 1) (by decide) rfl rfl ?_
                            refine x_goto C (tgt := 10) dX3_run_221 (by decide) ?_
                            refine x_lv (lv1 := [(0, .ref (a 71)), (1, .int fr), (2, .int to), (3, .int (nI n82)), (4, .int (nI (k + 1)))]) [5, 6, 7, 1, 0] rfl ?_
                            exact ih10 ((nI n82)) (k + 1) w204 hW205 (by omega) (by omega) kp207
                        · skip
                          refine x_iconst C (v := 1) dX3_run_156 (by decide) rfl ?_
                          refine x_goto C (tgt := 161) dX3_run_157 (by decide) ?_
                          refine x_icmp_ne C (tgt := 173) dX3_run_161 (by decide) rfl (fun c208 => ?_) (fun c208 => ?_)
                          · skip
                            refine x_goto C (tgt := 218) dX3_run_173 (by decide) ?_
                            refine x_iinc C (v := (nI (k + 1))) (lv' := [(4, .int (nI (k + 1))), (7, .int r189), (3, .int (nI (j40 + 1))), (6, .int (nI n82)), (5, .int v80), (0, .ref (a 71)), (1, .int fr), (2, .int to)]) dX3_run_218 7 rfl (nI_add k 1) (by decide) rfl rfl ?_
                            refine x_goto C (tgt := 10) dX3_run_221 (by decide) ?_
                            refine x_lv (lv1 := [(0, .ref (a 71)), (1, .int fr), (2, .int to), (3, .int (nI (j40 + 1))), (4, .int (nI (k + 1)))]) [5, 6, 7, 2, 0] rfl ?_
                            exact ih10 ((nI (j40 + 1))) (k + 1) w190 hW191 (by omega) (by omega) kp193
                          · skip
                            refine x_aload_n C dX3_run_164 rfl 4 rfl rfl ?_
                            refine x_iload C dX3_run_165 0 rfl rfl ?_
                            obtain ⟨_, k209, v210, n211, n213, bn212, bn214, rfl⟩ := hW191 71 _ rfl
                            refine x_vv C (As := [.int r189]) (rest := []) (c_push E l a w190 hW191 r189) mf_X3_push w_747 71 k209 rfl rfl rfl (Nat.le_of_ble_eq_true rfl) ⟨(Nat.le_of_ble_eq_true rfl), (Nat.le_of_ble_eq_true rfl)⟩ ⟨(Nat.le_of_ble_eq_true rfl), (Nat.le_of_ble_eq_true rfl)⟩ dX3_run_167 rfl (fun w217 h215 => ?_)
                            obtain ⟨hW218, kq219⟩ := h215
                            have kp220 := keeps_tr kp193 kq219 (fun q hq => by first | omega | (dsimp only at *; omega))
                            refine x_iload C dX3_run_170 2 rfl rfl ?_
                            refine x_istore_n C (lv' := [(3, .int (nI n82)), (7, .int r189), (6, .int (nI n82)), (5, .int v80), (0, .ref (a 71)), (1, .int fr), (2, .int to), (4, .int (nI k))]) dX3_run_172 rfl (by decide) rfl rfl ?_
                            refine x_goto C (tgt := 218) dX3_run_173 (by decide) ?_
                            refine x_iinc C (v := (nI (k + 1))) (lv' := [(4, .int (nI (k + 1))), (3, .int (nI n82)), (7, .int r189), (6, .int (nI n82)), (5, .int v80), (0, .ref (a 71)), (1, .int fr), (2, .int to)]) dX3_run_218 7 rfl (nI_add k 1) (by decide) rfl rfl ?_
                            refine x_goto C (tgt := 10) dX3_run_221 (by decide) ?_
                            refine x_lv (lv1 := [(0, .ref (a 71)), (1, .int fr), (2, .int to), (3, .int (nI n82)), (4, .int (nI (k + 1)))]) [5, 6, 7, 1, 0] rfl ?_
                            exact ih10 ((nI n82)) (k + 1) w217 hW218 (by omega) (by omega) kp220
                  · skip
                    refine x_aload_n C dX3_run_114 rfl 3 rfl rfl ?_
                    refine x_iconst C (v := 1) dX3_run_115 (by decide) rfl ?_
                    refine x_aload_n C dX3_run_116 rfl 3 rfl rfl ?_
                    refine x_vi C (As := []) (rest := [.int 1, .ref (a 71)]) (c_pop E l a wl10 hWl10) mf_X3_pop w_751 71 k71 rfl rfl rfl (Nat.le_of_ble_eq_true rfl) ⟨(Nat.le_of_ble_eq_true rfl), (Nat.le_of_ble_eq_true rfl)⟩ ⟨(Nat.le_of_ble_eq_true rfl), (Nat.le_of_ble_eq_true rfl)⟩ dX3_run_117 rfl (fun r222 w223 h221 => ?_)
                    obtain ⟨hW224, kq225⟩ := h221
                    have kp226 := keeps_tr kq10 kq225 (fun q hq => by first | omega | (dsimp only at *; omega))
                    refine x_isub C (v := ((1 : Int32) - r222)) dX3_run_120 rfl rfl ?_
                    refine x_any (fun v227 => ?_)
                    obtain ⟨_, k228, v229, n230, n232, bn231, bn233, rfl⟩ := hW224 71 _ rfl
                    refine x_vv C (As := [.int v227]) (rest := []) (c_push E l a w223 hW224 v227) mf_X3_push w_747 71 k228 rfl rfl rfl (Nat.le_of_ble_eq_true rfl) ⟨(Nat.le_of_ble_eq_true rfl), (Nat.le_of_ble_eq_true rfl)⟩ ⟨(Nat.le_of_ble_eq_true rfl), (Nat.le_of_ble_eq_true rfl)⟩ dX3_run_121 rfl (fun w236 h234 => ?_)
                    obtain ⟨hW237, kq238⟩ := h234
                    have kp239 := keeps_tr kp226 kq238 (fun q hq => by first | omega | (dsimp only at *; omega))
                    refine x_goto C (tgt := 218) dX3_run_124 (by decide) ?_
                    refine x_iinc C (v := (nI (k + 1))) (lv' := [(4, .int (nI (k + 1))), (3, .int (nI (j40 + 1))), (6, .int (nI n82)), (5, .int v80), (0, .ref (a 71)), (1, .int fr), (2, .int to)]) dX3_run_218 6 rfl (nI_add k 1) (by decide) rfl rfl ?_
                    refine x_goto C (tgt := 10) dX3_run_221 (by decide) ?_
                    refine x_lv (lv1 := [(0, .ref (a 71)), (1, .int fr), (2, .int to), (3, .int (nI (j40 + 1))), (4, .int (nI (k + 1)))]) [4, 5, 6, 1, 0] rfl ?_
                    exact ih10 ((nI (j40 + 1))) (k + 1) w236 hW237 (by omega) (by omega) kp239
                · skip
                  refine x_aload_n C dX3_run_82 rfl 3 rfl rfl ?_
                  refine x_iload C dX3_run_83 1 rfl rfl ?_
                  refine x_bipush C (v := 11) dX3_run_85 (by decide) rfl ?_
                  refine x_icmp_ge C (tgt := 100) dX3_run_87 (by decide) rfl (fun c240 => ?_) (fun c240 => ?_)
                  · skip
                    have nf241 := nI_le' (a := 11) (b := n82) c240 (by omega) (by omega)
                    refine x_iconst C (v := 0) dX3_run_100 (by decide) rfl ?_
                    refine x_vv C (As := [.int 0]) (rest := []) (c_push E l a wl10 hWl10 (0 : Int32)) mf_X3_push w_747 71 k71 rfl rfl rfl (Nat.le_of_ble_eq_true rfl) ⟨(Nat.le_of_ble_eq_true rfl), (Nat.le_of_ble_eq_true rfl)⟩ ⟨(Nat.le_of_ble_eq_true rfl), (Nat.le_of_ble_eq_true rfl)⟩ dX3_run_101 rfl (fun w244 h242 => ?_)
                    obtain ⟨hW245, kq246⟩ := h242
                    have kp247 := keeps_tr kq10 kq246 (fun q hq => by first | omega | (dsimp only at *; omega))
                    refine x_goto C (tgt := 218) dX3_run_104 (by decide) ?_
                    refine x_iinc C (v := (nI (k + 1))) (lv' := [(4, .int (nI (k + 1))), (3, .int (nI (j40 + 1))), (6, .int (nI n82)), (5, .int v80), (0, .ref (a 71)), (1, .int fr), (2, .int to)]) dX3_run_218 6 rfl (nI_add k 1) (by decide) rfl rfl ?_
                    refine x_goto C (tgt := 10) dX3_run_221 (by decide) ?_
                    refine x_lv (lv1 := [(0, .ref (a 71)), (1, .int fr), (2, .int to), (3, .int (nI (j40 + 1))), (4, .int (nI (k + 1)))]) [4, 5, 6, 1, 0] rfl ?_
                    exact ih10 ((nI (j40 + 1))) (k + 1) w244 hW245 (by omega) (by omega) kp247
                  · skip
                    have nf248 := nI_nle' (a := 11) (b := n82) c240 (by omega) (by omega)
                    refine x_aload_n C dX3_run_90 rfl 3 rfl rfl ?_
                    refine x_get C (ci := 3) (k := 7) 71 k71 rfl in_X3 (by decide) w_264 rfl dX3_run_91 rfl ?_
                    refine x_iload C dX3_run_94 1 rfl rfl ?_
                    obtain ⟨_, k249, f250, rfl⟩ := hWl10 77 _ rfl
                    refine x_iald C (v := (f250 (nI n82).toNatClampNeg)) 77 k249 (vp_in_nI (by omega) (by decide)) rfl dX3_run_96 rfl ?_
                    refine x_any (fun v251 => ?_)
                    refine x_goto C (tgt := 101) dX3_run_97 (by decide) ?_
                    refine x_vv C (As := [.int v251]) (rest := []) (c_push E l a wl10 hWl10 v251) mf_X3_push w_747 71 k71 rfl rfl rfl (Nat.le_of_ble_eq_true rfl) ⟨(Nat.le_of_ble_eq_true rfl), (Nat.le_of_ble_eq_true rfl)⟩ ⟨(Nat.le_of_ble_eq_true rfl), (Nat.le_of_ble_eq_true rfl)⟩ dX3_run_101 rfl (fun w254 h252 => ?_)
                    obtain ⟨hW255, kq256⟩ := h252
                    have kp257 := keeps_tr kq10 kq256 (fun q hq => by first | omega | (dsimp only at *; omega))
                    refine x_goto C (tgt := 218) dX3_run_104 (by decide) ?_
                    refine x_iinc C (v := (nI (k + 1))) (lv' := [(4, .int (nI (k + 1))), (3, .int (nI (j40 + 1))), (6, .int (nI n82)), (5, .int v80), (0, .ref (a 71)), (1, .int fr), (2, .int to)]) dX3_run_218 6 rfl (nI_add k 1) (by decide) rfl rfl ?_
                    refine x_goto C (tgt := 10) dX3_run_221 (by decide) ?_
                    refine x_lv (lv1 := [(0, .ref (a 71)), (1, .int fr), (2, .int to), (3, .int (nI (j40 + 1))), (4, .int (nI (k + 1)))]) [4, 5, 6, 1, 0] rfl ?_
                    exact ih10 ((nI (j40 + 1))) (k + 1) w254 hW255 (by omega) (by omega) kp257
              · skip
                refine x_aload_n C dX3_run_66 rfl 3 rfl rfl ?_
                refine x_iload C dX3_run_67 1 rfl rfl ?_
                refine x_vv C (As := [.int (nI n82)]) (rest := []) (c_push E l a wl10 hWl10 ((nI n82))) mf_X3_push w_747 71 k71 rfl rfl rfl (Nat.le_of_ble_eq_true rfl) ⟨(Nat.le_of_ble_eq_true rfl), (Nat.le_of_ble_eq_true rfl)⟩ ⟨(Nat.le_of_ble_eq_true rfl), (Nat.le_of_ble_eq_true rfl)⟩ dX3_run_69 rfl (fun w260 h258 => ?_)
                obtain ⟨hW261, kq262⟩ := h258
                have kp263 := keeps_tr kq10 kq262 (fun q hq => by first | omega | (dsimp only at *; omega))
                refine x_goto C (tgt := 218) dX3_run_72 (by decide) ?_
                refine x_iinc C (v := (nI (k + 1))) (lv' := [(4, .int (nI (k + 1))), (3, .int (nI (j40 + 1))), (6, .int (nI n82)), (5, .int v80), (0, .ref (a 71)), (1, .int fr), (2, .int to)]) dX3_run_218 6 rfl (nI_add k 1) (by decide) rfl rfl ?_
                refine x_goto C (tgt := 10) dX3_run_221 (by decide) ?_
                refine x_lv (lv1 := [(0, .ref (a 71)), (1, .int fr), (2, .int to), (3, .int (nI (j40 + 1))), (4, .int (nI (k + 1)))]) [4, 5, 6, 1, 0] rfl ?_
                exact ih10 ((nI (j40 + 1))) (k + 1) w260 hW261 (by omega) (by omega) kp263
  refine x_lv (lv1 := [(0, .ref (a 71)), (1, .int fr), (2, .int to), (3, .int fr), (4, .int 0)]) [2, 3, 4, 1, 0] rfl ?_
  exact loop10 _ fr 0 w7 hW9 (Nat.lt_succ_self _) (by omega) kp11
theorem dX3_ask_0 : decode cX3_ask 0 = .ok (.iconst 0, 1) := by decide +kernel
theorem dX3_ask_1 : decode cX3_ask 1 = .ok (.istore_n 2, 1) := by decide +kernel
theorem dX3_ask_2 : decode cX3_ask 2 = .ok (.iload_n 2, 1) := by decide +kernel
theorem dX3_ask_3 : decode cX3_ask 3 = .ok (.aload_n 0, 1) := by decide +kernel
theorem dX3_ask_4 : decode cX3_ask 4 = .ok (.getfield 9, 3) := by decide +kernel
theorem dX3_ask_7 : decode cX3_ask 7 = .ok (.if_icmp .ge 73, 3) := by decide +kernel
theorem dX3_ask_10 : decode cX3_ask 10 = .ok (.iload_n 2, 1) := by decide +kernel
theorem dX3_ask_11 : decode cX3_ask 11 = .ok (.bipush 16, 2) := by decide +kernel
theorem dX3_ask_13 : decode cX3_ask 13 = .ok (.if_icmp .ge 67, 3) := by decide +kernel
theorem dX3_ask_16 : decode cX3_ask 16 = .ok (.aload_n 0, 1) := by decide +kernel
theorem dX3_ask_17 : decode cX3_ask 17 = .ok (.getfield 15, 3) := by decide +kernel
theorem dX3_ask_20 : decode cX3_ask 20 = .ok (.iload_n 2, 1) := by decide +kernel
theorem dX3_ask_21 : decode cX3_ask 21 = .ok (.iaload, 1) := by decide +kernel
theorem dX3_ask_22 : decode cX3_ask 22 = .ok (.iload_n 1, 1) := by decide +kernel
theorem dX3_ask_23 : decode cX3_ask 23 = .ok (.if_icmp .ne 51, 3) := by decide +kernel
theorem dX3_ask_26 : decode cX3_ask 26 = .ok (.aload_n 0, 1) := by decide +kernel
theorem dX3_ask_27 : decode cX3_ask 27 = .ok (.aload_n 0, 1) := by decide +kernel
theorem dX3_ask_28 : decode cX3_ask 28 = .ok (.getfield 22, 3) := by decide +kernel
theorem dX3_ask_31 : decode cX3_ask 31 = .ok (.iload_n 2, 1) := by decide +kernel
theorem dX3_ask_32 : decode cX3_ask 32 = .ok (.iaload, 1) := by decide +kernel
theorem dX3_ask_33 : decode cX3_ask 33 = .ok (.aload_n 0, 1) := by decide +kernel
theorem dX3_ask_34 : decode cX3_ask 34 = .ok (.getfield 25, 3) := by decide +kernel
theorem dX3_ask_37 : decode cX3_ask 37 = .ok (.iload_n 2, 1) := by decide +kernel
theorem dX3_ask_38 : decode cX3_ask 38 = .ok (.iaload, 1) := by decide +kernel
theorem dX3_ask_39 : decode cX3_ask 39 = .ok (.invokevirtual 87, 3) := by decide +kernel
theorem dX3_ask_42 : decode cX3_ask 42 = .ok (.ifCond .eq 32, 3) := by decide +kernel
theorem dX3_ask_45 : decode cX3_ask 45 = .ok (.iconst 0, 1) := by decide +kernel
theorem dX3_ask_46 : decode cX3_ask 46 = .ok (.getstatic 91, 3) := by decide +kernel
theorem dX3_ask_49 : decode cX3_ask 49 = .ok (.iload_n 1, 1) := by decide +kernel
theorem dX3_ask_50 : decode cX3_ask 50 = .ok (.iaload, 1) := by decide +kernel
theorem dX3_ask_51 : decode cX3_ask 51 = .ok (.aload_n 0, 1) := by decide +kernel
theorem dX3_ask_52 : decode cX3_ask 52 = .ok (.aload_n 0, 1) := by decide +kernel
theorem dX3_ask_53 : decode cX3_ask 53 = .ok (.getfield 19, 3) := by decide +kernel
theorem dX3_ask_56 : decode cX3_ask 56 = .ok (.iload_n 2, 1) := by decide +kernel
theorem dX3_ask_57 : decode cX3_ask 57 = .ok (.iaload, 1) := by decide +kernel
theorem dX3_ask_58 : decode cX3_ask 58 = .ok (.aload_n 0, 1) := by decide +kernel
theorem dX3_ask_59 : decode cX3_ask 59 = .ok (.getfield 22, 3) := by decide +kernel
theorem dX3_ask_62 : decode cX3_ask 62 = .ok (.iload_n 2, 1) := by decide +kernel
theorem dX3_ask_63 : decode cX3_ask 63 = .ok (.iaload, 1) := by decide +kernel
theorem dX3_ask_64 : decode cX3_ask 64 = .ok (.invokevirtual 87, 3) := by decide +kernel
theorem dX3_ask_67 : decode cX3_ask 67 = .ok (.invokestatic 94, 3) := by decide +kernel
theorem dX3_ask_70 : decode cX3_ask 70 = .ok (.invokestatic 99, 3) := by decide +kernel
theorem dX3_ask_73 : decode cX3_ask 73 = .ok (.ireturn, 1) := by decide +kernel
theorem dX3_ask_74 : decode cX3_ask 74 = .ok (.iinc 2 1, 3) := by decide +kernel
theorem dX3_ask_77 : decode cX3_ask 77 = .ok (.goto (-75), 3) := by decide +kernel
theorem dX3_ask_80 : decode cX3_ask 80 = .ok (.iconst 0, 1) := by decide +kernel
theorem dX3_ask_81 : decode cX3_ask 81 = .ok (.ireturn, 1) := by decide +kernel
set_option maxRecDepth 20000 in
set_option maxHeartbeats 4000000 in
theorem c_ask (E : xE) (l : Launch) (a : Nat → Nat) (ws : va_W) (hW : WX (okX E a) ws) (wh : Nat) (hwh : wh ≤ 5) : xI E l yX3_ask cX3_ask 3 (some .int) 2 [.ref (a 71), .int (nI wh)] ws (fun r w => WX (okX E a) w ∧ keeps ws w (fun q => 71 ≤ q ∧ q < 79)) := by
  refine xI_start (lv := [(0, .ref (a 71)), (1, .int (nI wh))]) RX3 (by decide) rfl (Nat.le_of_ble_eq_true rfl) rfl (fun p e s m below meth c A C hr hlk => ?_)
  have kp0 : keeps ws ws (fun q => 71 ≤ q ∧ q < 79) := keeps_rf
  refine x_iconst C (v := 0) dX3_ask_0 (by decide) rfl ?_
  refine x_istore_n C (lv' := [(2, .int 0), (0, .ref (a 71)), (1, .int (nI wh))]) dX3_ask_1 rfl (by decide) rfl rfl ?_
  have loop2 : ∀ (fu2 : Nat) (k : Nat) (wl2 : va_W), WX (okX E a) wl2 → 16 - k < fu2 → k ≤ 16 → keeps ws wl2 (fun q => 71 ≤ q ∧ q < 79) → X E p l e (xRm 2 0 0) s m ([.ref (a 71), .int (nI wh)] : List Value).toArray below meth c A 3 0 0 (MQ below (va_Qi (fun r w => WX (okX E a) w ∧ keeps ws w (fun q => 71 ≤ q ∧ q < 79)) (xB E A) A) ([.ref (a 71), .int (nI wh)] : List Value).toArray s 0 0 A) wl2 2 [(0, .ref (a 71)), (1, .int (nI wh)), (2, .int (nI k))] [] := by
    intro fu2
    induction fu2 with
    | zero => intro k wl2 _ q; omega
    | succ fu2 ih2 =>
      intro k wl2 hWl2 me2 iv2_0 kq2
      refine x_iload_n C dX3_ask_2 rfl 2 rfl rfl ?_
      refine x_aload_n C dX3_ask_3 rfl 0 rfl rfl ?_
      obtain ⟨_, k1, v2, n3, n5, bn4, bn6, rfl⟩ := hWl2 71 _ rfl
      refine x_get C (ci := 3) (k := 0) 71 k1 rfl in_X3 (by decide) w_250 rfl dX3_ask_4 rfl ?_
      refine x_icmp_ge C (tgt := 80) dX3_ask_7 (by decide) rfl (fun c7 => ?_) (fun c7 => ?_)
      · skip
        refine x_iconst C (v := 0) dX3_ask_80 (by decide) rfl ?_
        exact x_zret C hr hlk rfl dX3_ask_81 ⟨hWl2, kq2⟩
      · skip
        refine x_iload_n C dX3_ask_10 rfl 2 rfl rfl ?_
        refine x_bipush C (v := 16) dX3_ask_11 (by decide) rfl ?_
        refine x_icmp_ge C (tgt := 80) dX3_ask_13 (by decide) rfl (fun c8 => ?_) (fun c8 => ?_)
        · skip
          have nf9 := nI_le' (a := 16) (b := k) c8 (by omega) (by omega)
          refine x_iconst C (v := 0) dX3_ask_80 (by decide) rfl ?_
          exact x_zret C hr hlk rfl dX3_ask_81 ⟨hWl2, kq2⟩
        · skip
          have nf10 := nI_nle' (a := 16) (b := k) c8 (by omega) (by omega)
          refine x_aload_n C dX3_ask_16 rfl 0 rfl rfl ?_
          refine x_get C (ci := 3) (k := 1) 71 k1 rfl in_X3 (by decide) w_253 rfl dX3_ask_17 rfl ?_
          refine x_iload_n C dX3_ask_20 rfl 2 rfl rfl ?_
          obtain ⟨_, k11, f12, rfl⟩ := hWl2 72 _ rfl
          refine x_iald C (v := (f12 (nI k).toNatClampNeg)) 72 k11 (vp_in_nI (by omega) (by decide)) rfl dX3_ask_21 rfl ?_
          refine x_any (fun v13 => ?_)
          refine x_iload_n C dX3_ask_22 rfl 1 rfl rfl ?_
          refine x_icmp_ne C (tgt := 74) dX3_ask_23 (by decide) rfl (fun c14 => ?_) (fun c14 => ?_)
          · skip
            refine x_iinc C (v := (nI (k + 1))) (lv' := [(2, .int (nI (k + 1))), (0, .ref (a 71)), (1, .int (nI wh))]) dX3_ask_74 2 rfl (nI_add k 1) (by decide) rfl rfl ?_
            refine x_goto C (tgt := 2) dX3_ask_77 (by decide) ?_
            refine x_lv (lv1 := [(0, .ref (a 71)), (1, .int (nI wh)), (2, .int (nI (k + 1)))]) [1, 2, 0] rfl ?_
            exact ih2 (k + 1) wl2 hWl2 (by omega) (by omega) kq2
          · skip
            refine x_aload_n C dX3_ask_26 rfl 0 rfl rfl ?_
            refine x_aload_n C dX3_ask_27 rfl 0 rfl rfl ?_
            refine x_get C (ci := 3) (k := 3) 71 k1 rfl in_X3 (by decide) w_257 rfl dX3_ask_28 rfl ?_
            refine x_iload_n C dX3_ask_31 rfl 2 rfl rfl ?_
            obtain ⟨_, k15, f16, rfl⟩ := hWl2 74 _ rfl
            refine x_iald C (v := (f16 (nI k).toNatClampNeg)) 74 k15 (vp_in_nI (by omega) (by decide)) rfl dX3_ask_32 rfl ?_
            refine x_any (fun v17 => ?_)
            refine x_aload_n C dX3_ask_33 rfl 0 rfl rfl ?_
            refine x_get C (ci := 3) (k := 4) 71 k1 rfl in_X3 (by decide) w_259 rfl dX3_ask_34 rfl ?_
            refine x_iload_n C dX3_ask_37 rfl 2 rfl rfl ?_
            obtain ⟨_, k18, f19, rfl⟩ := hWl2 75 _ rfl
            refine x_iald C (v := (f19 (nI k).toNatClampNeg)) 75 k18 (vp_in_nI (by omega) (by decide)) rfl dX3_ask_38 rfl ?_
            refine x_any (fun v20 => ?_)
            refine x_vi C (As := [.int v17, .int v20]) (rest := []) (c_run E l a wl2 hWl2 v17 v20) mf_X3_run w_743 71 k1 rfl rfl rfl (Nat.le_of_ble_eq_true rfl) ⟨(Nat.le_of_ble_eq_true rfl), (Nat.le_of_ble_eq_true rfl)⟩ ⟨(Nat.le_of_ble_eq_true rfl), (Nat.le_of_ble_eq_true rfl)⟩ dX3_ask_39 rfl (fun r22 w23 h21 => ?_)
            obtain ⟨hW24, kq25⟩ := h21
            have kp26 := keeps_tr kq2 kq25 (fun q hq => by first | omega | (dsimp only at *; omega))
            refine x_if_eq C (tgt := 74) dX3_ask_42 (by decide) rfl (fun c27 => ?_) (fun c27 => ?_)
            · skip
              refine x_iinc C (v := (nI (k + 1))) (lv' := [(2, .int (nI (k + 1))), (0, .ref (a 71)), (1, .int (nI wh))]) dX3_ask_74 2 rfl (nI_add k 1) (by decide) rfl rfl ?_
              refine x_goto C (tgt := 2) dX3_ask_77 (by decide) ?_
              refine x_lv (lv1 := [(0, .ref (a 71)), (1, .int (nI wh)), (2, .int (nI (k + 1)))]) [1, 2, 0] rfl ?_
              exact ih2 (k + 1) w23 hW24 (by omega) (by omega) kp26
            · skip
              refine x_iconst C (v := 0) dX3_ask_45 (by decide) rfl ?_
              obtain ⟨z1, z2, z3, -⟩ := C.2.2.2.2.2.2.2
              refine x_getsN C (host := "EggTown") z1 (List.mem_of_getElem? (i := 758) (by decide +kernel)) (fun _ h9 => h9) dX3_ask_46 rfl ?_
              refine x_iload_n C dX3_ask_49 rfl 1 rfl rfl ?_
              refine x_tld C z2 wh (nI_clamp (by omega)) (nI_pos (by omega)) (by omega) dX3_ask_50 rfl ?_
              refine x_any (fun v28 => ?_)
              refine x_aload_n C dX3_ask_51 rfl 0 rfl rfl ?_
              refine x_aload_n C dX3_ask_52 rfl 0 rfl rfl ?_
              obtain ⟨_, k29, v30, n31, n33, bn32, bn34, rfl⟩ := hW24 71 _ rfl
              refine x_get C (ci := 3) (k := 2) 71 k29 rfl in_X3 (by decide) w_255 rfl dX3_ask_53 rfl ?_
              refine x_iload_n C dX3_ask_56 rfl 2 rfl rfl ?_
              obtain ⟨_, k35, f36, rfl⟩ := hW24 73 _ rfl
              refine x_iald C (v := (f36 (nI k).toNatClampNeg)) 73 k35 (vp_in_nI (by omega) (by decide)) rfl dX3_ask_57 rfl ?_
              refine x_any (fun v37 => ?_)
              refine x_aload_n C dX3_ask_58 rfl 0 rfl rfl ?_
              refine x_get C (ci := 3) (k := 3) 71 k29 rfl in_X3 (by decide) w_257 rfl dX3_ask_59 rfl ?_
              refine x_iload_n C dX3_ask_62 rfl 2 rfl rfl ?_
              obtain ⟨_, k38, f39, rfl⟩ := hW24 74 _ rfl
              refine x_iald C (v := (f39 (nI k).toNatClampNeg)) 74 k38 (vp_in_nI (by omega) (by decide)) rfl dX3_ask_63 rfl ?_
              refine x_any (fun v40 => ?_)
              refine x_vi C (As := [.int v37, .int v40]) (rest := [.int v28, .int 0]) (c_run E l a w23 hW24 v37 v40) mf_X3_run w_743 71 k29 rfl rfl rfl (Nat.le_of_ble_eq_true rfl) ⟨(Nat.le_of_ble_eq_true rfl), (Nat.le_of_ble_eq_true rfl)⟩ ⟨(Nat.le_of_ble_eq_true rfl), (Nat.le_of_ble_eq_true rfl)⟩ dX3_ask_64 rfl (fun r42 w43 h41 => ?_)
              obtain ⟨hW44, kq45⟩ := h41
              have kp46 := keeps_tr kp26 kq45 (fun q hq => by first | omega | (dsimp only at *; omega))
              refine x_mmin C (v := (if r42 < v28 then r42 else v28)) w_760 w_561 w_16 w_562 (Nat.le_of_ble_eq_true rfl) (Nat.le_of_ble_eq_true rfl) (Nat.le_of_ble_eq_true rfl) (Nat.le_of_ble_eq_true rfl) rfl dX3_ask_67 rfl ?_
              refine x_any (fun v47 => ?_)
              refine x_mmax C (v := (if (0 : Int32) < v47 then v47 else (0 : Int32))) w_761 w_558 w_16 w_559 (Nat.le_of_ble_eq_true rfl) (Nat.le_of_ble_eq_true rfl) (Nat.le_of_ble_eq_true rfl) (Nat.le_of_ble_eq_true rfl) rfl dX3_ask_70 rfl ?_
              refine x_any (fun v48 => ?_)
              exact x_zret C hr hlk rfl dX3_ask_73 ⟨hW44, kp46⟩
  refine x_lv (lv1 := [(0, .ref (a 71)), (1, .int (nI wh)), (2, .int 0)]) [1, 2, 0] rfl ?_
  exact loop2 _ 0 ws hW (Nat.lt_succ_self _) (by omega) kp0
theorem dX3_start_0 : decode cX3_start 0 = .ok (.iconst 0, 1) := by decide +kernel
theorem dX3_start_1 : decode cX3_start 1 = .ok (.istore_n 3, 1) := by decide +kernel
theorem dX3_start_2 : decode cX3_start 2 = .ok (.iload_n 3, 1) := by decide +kernel
theorem dX3_start_3 : decode cX3_start 3 = .ok (.bipush 11, 2) := by decide +kernel
theorem dX3_start_5 : decode cX3_start 5 = .ok (.if_icmp .ge 16, 3) := by decide +kernel
theorem dX3_start_8 : decode cX3_start 8 = .ok (.aload_n 0, 1) := by decide +kernel
theorem dX3_start_9 : decode cX3_start 9 = .ok (.getfield 34, 3) := by decide +kernel
theorem dX3_start_12 : decode cX3_start 12 = .ok (.iload_n 3, 1) := by decide +kernel
theorem dX3_start_13 : decode cX3_start 13 = .ok (.iconst 0, 1) := by decide +kernel
theorem dX3_start_14 : decode cX3_start 14 = .ok (.iastore, 1) := by decide +kernel
theorem dX3_start_15 : decode cX3_start 15 = .ok (.iinc 3 1, 3) := by decide +kernel
theorem dX3_start_18 : decode cX3_start 18 = .ok (.goto (-16), 3) := by decide +kernel
theorem dX3_start_21 : decode cX3_start 21 = .ok (.aload_n 0, 1) := by decide +kernel
theorem dX3_start_22 : decode cX3_start 22 = .ok (.getfield 34, 3) := by decide +kernel
theorem dX3_start_25 : decode cX3_start 25 = .ok (.iconst 0, 1) := by decide +kernel
theorem dX3_start_26 : decode cX3_start 26 = .ok (.aload_n 1, 1) := by decide +kernel
theorem dX3_start_27 : decode cX3_start 27 = .ok (.getfield 74, 3) := by decide +kernel
theorem dX3_start_30 : decode cX3_start 30 = .ok (.iastore, 1) := by decide +kernel
theorem dX3_start_31 : decode cX3_start 31 = .ok (.aload_n 0, 1) := by decide +kernel
theorem dX3_start_32 : decode cX3_start 32 = .ok (.getfield 34, 3) := by decide +kernel
theorem dX3_start_35 : decode cX3_start 35 = .ok (.iconst 1, 1) := by decide +kernel
theorem dX3_start_36 : decode cX3_start 36 = .ok (.aload_n 1, 1) := by decide +kernel
theorem dX3_start_37 : decode cX3_start 37 = .ok (.getfield 74, 3) := by decide +kernel
theorem dX3_start_40 : decode cX3_start 40 = .ok (.bipush 7, 2) := by decide +kernel
theorem dX3_start_42 : decode cX3_start 42 = .ok (.irem, 1) := by decide +kernel
theorem dX3_start_43 : decode cX3_start 43 = .ok (.iastore, 1) := by decide +kernel
theorem dX3_start_44 : decode cX3_start 44 = .ok (.iload_n 2, 1) := by decide +kernel
theorem dX3_start_45 : decode cX3_start 45 = .ok (.ifCond .lt 31, 3) := by decide +kernel
theorem dX3_start_48 : decode cX3_start 48 = .ok (.iload_n 2, 1) := by decide +kernel
theorem dX3_start_49 : decode cX3_start 49 = .ok (.bipush 8, 2) := by decide +kernel
theorem dX3_start_51 : decode cX3_start 51 = .ok (.if_icmp .ge 25, 3) := by decide +kernel
theorem dX3_start_54 : decode cX3_start 54 = .ok (.aload_n 0, 1) := by decide +kernel
theorem dX3_start_55 : decode cX3_start 55 = .ok (.getfield 34, 3) := by decide +kernel
theorem dX3_start_58 : decode cX3_start 58 = .ok (.iconst 2, 1) := by decide +kernel
theorem dX3_start_59 : decode cX3_start 59 = .ok (.iload_n 2, 1) := by decide +kernel
theorem dX3_start_60 : decode cX3_start 60 = .ok (.iastore, 1) := by decide +kernel
theorem dX3_start_61 : decode cX3_start 61 = .ok (.aload_n 0, 1) := by decide +kernel
theorem dX3_start_62 : decode cX3_start 62 = .ok (.getfield 34, 3) := by decide +kernel
theorem dX3_start_65 : decode cX3_start 65 = .ok (.iconst 3, 1) := by decide +kernel
theorem dX3_start_66 : decode cX3_start 66 = .ok (.aload_n 1, 1) := by decide +kernel
theorem dX3_start_67 : decode cX3_start 67 = .ok (.getfield 47, 3) := by decide +kernel
theorem dX3_start_70 : decode cX3_start 70 = .ok (.getfield 84, 3) := by decide +kernel
theorem dX3_start_73 : decode cX3_start 73 = .ok (.iload_n 2, 1) := by decide +kernel
theorem dX3_start_74 : decode cX3_start 74 = .ok (.iaload, 1) := by decide +kernel
theorem dX3_start_75 : decode cX3_start 75 = .ok (.iastore, 1) := by decide +kernel
theorem dX3_start_76 : decode cX3_start 76 = .ok (.return_, 1) := by decide +kernel
set_option maxRecDepth 20000 in
set_option maxHeartbeats 4000000 in
theorem c_start (E : xE) (l : Launch) (a : Nat → Nat) (ws : va_W) (hW : WX (okX E a) ws) (t : Nat) (ht : tb t) (y0 : Int32) : xV E l yX3_start cX3_start 4 0 0 0 [.ref (a 71), .ref (a t), .int y0] ws (fun w => WX (okX E a) w ∧ keeps ws w (fun q => 71 ≤ q ∧ q < 79)) := by
  refine xV_start (lv := [(0, .ref (a 71)), (1, .ref (a t)), (2, .int y0)]) RX3 (by decide) rfl (Nat.le_of_ble_eq_true rfl) rfl (fun p e s m below meth c A C hr hlk hin => ?_)
  have htb := tb_lo ht
  have kp0 : keeps ws ws (fun q => 71 ≤ q ∧ q < 79) := keeps_rf
  refine x_iconst C (v := 0) dX3_start_0 (by decide) rfl ?_
  refine x_istore_n C (lv' := [(3, .int 0), (0, .ref (a 71)), (1, .ref (a t)), (2, .int y0)]) dX3_start_1 rfl (by decide) rfl rfl ?_
  have loop2 : ∀ (fu2 : Nat) (k : Nat) (wl2 : va_W), WX (okX E a) wl2 → 11 - k < fu2 → k ≤ 11 → keeps ws wl2 (fun q => 71 ≤ q ∧ q < 79) → X E p l e (xRm 0 0 0) s m ([.ref (a 71), .ref (a t), .int y0] : List Value).toArray below meth c A 4 0 0 (MQ below (va_Qv (fun w => WX (okX E a) w ∧ keeps ws w (fun q => 71 ≤ q ∧ q < 79)) (xB E A) A) ([.ref (a 71), .ref (a t), .int y0] : List Value).toArray s 0 0 A) wl2 2 [(0, .ref (a 71)), (1, .ref (a t)), (2, .int y0), (3, .int (nI k))] [] := by
    intro fu2
    induction fu2 with
    | zero => intro k wl2 _ q; omega
    | succ fu2 ih2 =>
      intro k wl2 hWl2 me2 iv2_0 kq2
      refine x_iload_n C dX3_start_2 rfl 3 rfl rfl ?_
      refine x_bipush C (v := 11) dX3_start_3 (by decide) rfl ?_
      refine x_icmp_ge C (tgt := 21) dX3_start_5 (by decide) rfl (fun c1 => ?_) (fun c1 => ?_)
      · skip
        have nf2 := nI_le' (a := 11) (b := k) c1 (by omega) (by omega)
        refine x_aload_n C dX3_start_21 rfl 0 rfl rfl ?_
        obtain ⟨_, k3, v4, n5, n7, bn6, bn8, rfl⟩ := hWl2 71 _ rfl
        refine x_get C (ci := 3) (k := 7) 71 k3 rfl in_X3 (by decide) w_264 rfl dX3_start_22 rfl ?_
        refine x_iconst C (v := 0) dX3_start_25 (by decide) rfl ?_
        refine x_aload_n C dX3_start_26 rfl 1 rfl rfl ?_
        obtain ⟨_, k9, n10, v12, v13, v14, v15, v16, bn11, rfl⟩ := hWl2 (t + 0) _ (okX_t ht (j := 0) rfl)
        refine x_get C (ci := 8) (k := 0) t k9 rfl in_X9 (by decide) w_196 rfl dX3_start_27 rfl ?_
        obtain ⟨_, k17, f18, rfl⟩ := hWl2 77 _ rfl
        obtain ⟨w19, hw20⟩ : ∃ w : va_W, w = List.set wl2 77 (iA E (a 77) 11 (upd f18 (0 : Int32).toNatClampNeg (nI n10))) := ⟨_, rfl⟩
        refine x_iast C 77 k17 (vp_k (j := 0) (by decide) (by decide) (by decide)) hw20.symm dX3_start_30 rfl ?_
        have hW21 : WX (okX E a) w19 := by rw [hw20]; exact hWl2.set (k := 77) rfl ⟨_, rfl⟩
        have k22 : w19[71]? = some (ob (a 71) 3 [.int v4, .ref (a 72), .ref (a 73), .ref (a 74), .ref (a 75), .int (nI n5), .ref (a 76), .ref (a 77), .ref (a 78), .int (nI n7)]) := by rw [hw20]; exact set_ne k3 (by decide)
        have k23 : w19[t]? = some (ob (a t) 8 [.int (nI n10), .int v12, .ref (a (t + 1)), .ref (a (t + 4)), .ref (a (t + 9)), .ref (a (t + 16)), .int v13, .int v14, .int v15, .int v16]) := by rw [hw20]; exact set_ne k9 (by omega)
        have k24 : w19[77]? = some (iA E (a 77) 11 (upd f18 (0 : Int32).toNatClampNeg (nI n10))) := by rw [hw20]; exact set_eq k17
        have kp25 := keeps_set kq2 hw20 (by first | exact rfl | decide | omega | (dsimp only; omega))
        refine x_aload_n C dX3_start_31 rfl 0 rfl rfl ?_
        refine x_get C (ci := 3) (k := 7) 71 k22 rfl in_X3 (by decide) w_264 rfl dX3_start_32 rfl ?_
        refine x_iconst C (v := 1) dX3_start_35 (by decide) rfl ?_
        refine x_aload_n C dX3_start_36 rfl 1 rfl rfl ?_
        refine x_get C (ci := 8) (k := 0) t k23 rfl in_X9 (by decide) w_196 rfl dX3_start_37 rfl ?_
        refine x_bipush C (v := 7) dX3_start_40 (by decide) rfl ?_
        refine x_irem C (v := ((nI n10) - (nI n10) / (7 : Int32) * (7 : Int32))) dX3_start_42 (by decide) rfl rfl ?_
        refine x_any (fun v26 => ?_)
        obtain ⟨w27, hw28⟩ : ∃ w : va_W, w = List.set w19 77 (iA E (a 77) 11 (upd (upd f18 (0 : Int32).toNatClampNeg (nI n10)) (1 : Int32).toNatClampNeg v26)) := ⟨_, rfl⟩
        refine x_iast C 77 k24 (vp_k (j := 1) (by decide) (by decide) (by decide)) hw28.symm dX3_start_43 rfl ?_
        have hW29 : WX (okX E a) w27 := by rw [hw28]; exact hW21.set (k := 77) rfl ⟨_, rfl⟩
        have k30 : w27[71]? = some (ob (a 71) 3 [.int v4, .ref (a 72), .ref (a 73), .ref (a 74), .ref (a 75), .int (nI n5), .ref (a 76), .ref (a 77), .ref (a 78), .int (nI n7)]) := by rw [hw28]; exact set_ne k22 (by decide)
        have k31 : w27[t]? = some (ob (a t) 8 [.int (nI n10), .int v12, .ref (a (t + 1)), .ref (a (t + 4)), .ref (a (t + 9)), .ref (a (t + 16)), .int v13, .int v14, .int v15, .int v16]) := by rw [hw28]; exact set_ne k23 (by omega)
        have k32 : w27[77]? = some (iA E (a 77) 11 (upd (upd f18 (0 : Int32).toNatClampNeg (nI n10)) (1 : Int32).toNatClampNeg v26)) := by rw [hw28]; exact set_eq k24
        have kp33 := keeps_set kp25 hw28 (by first | exact rfl | decide | omega | (dsimp only; omega))
        refine x_iload_n C dX3_start_44 rfl 2 rfl rfl ?_
        refine x_if_lt C (tgt := 76) dX3_start_45 (by decide) rfl (fun c34 => ?_) (fun c34 => ?_)
        · skip
          exact x_vret C hr hlk dX3_start_76 ⟨hW29, kp33⟩
        · skip
          obtain ⟨j35, hj36, ej37⟩ := nI_of c34
          subst ej37
          refine x_iload_n C dX3_start_48 rfl 2 rfl rfl ?_
          refine x_bipush C (v := 8) dX3_start_49 (by decide) rfl ?_
          refine x_icmp_ge C (tgt := 76) dX3_start_51 (by decide) rfl (fun c38 => ?_) (fun c38 => ?_)
          · skip
            have nf39 := nI_le' (a := 8) (b := j35) c38 (by omega) (by omega)
            exact x_vret C hr hlk dX3_start_76 ⟨hW29, kp33⟩
          · skip
            have nf40 := nI_nle' (a := 8) (b := j35) c38 (by omega) (by omega)
            refine x_aload_n C dX3_start_54 rfl 0 rfl rfl ?_
            refine x_get C (ci := 3) (k := 7) 71 k30 rfl in_X3 (by decide) w_264 rfl dX3_start_55 rfl ?_
            refine x_iconst C (v := 2) dX3_start_58 (by decide) rfl ?_
            refine x_iload_n C dX3_start_59 rfl 2 rfl rfl ?_
            obtain ⟨w41, hw42⟩ : ∃ w : va_W, w = List.set w27 77 (iA E (a 77) 11 (upd (upd (upd f18 (0 : Int32).toNatClampNeg (nI n10)) (1 : Int32).toNatClampNeg v26) (2 : Int32).toNatClampNeg (nI j35))) := ⟨_, rfl⟩
            refine x_iast C 77 k32 (vp_k (j := 2) (by decide) (by decide) (by decide)) hw42.symm dX3_start_60 rfl ?_
            have hW43 : WX (okX E a) w41 := by rw [hw42]; exact hW29.set (k := 77) rfl ⟨_, rfl⟩
            have k44 : w41[71]? = some (ob (a 71) 3 [.int v4, .ref (a 72), .ref (a 73), .ref (a 74), .ref (a 75), .int (nI n5), .ref (a 76), .ref (a 77), .ref (a 78), .int (nI n7)]) := by rw [hw42]; exact set_ne k30 (by decide)
            have k45 : w41[t]? = some (ob (a t) 8 [.int (nI n10), .int v12, .ref (a (t + 1)), .ref (a (t + 4)), .ref (a (t + 9)), .ref (a (t + 16)), .int v13, .int v14, .int v15, .int v16]) := by rw [hw42]; exact set_ne k31 (by omega)
            have k46 : w41[77]? = some (iA E (a 77) 11 (upd (upd (upd f18 (0 : Int32).toNatClampNeg (nI n10)) (1 : Int32).toNatClampNeg v26) (2 : Int32).toNatClampNeg (nI j35))) := by rw [hw42]; exact set_eq k32
            have kp47 := keeps_set kp33 hw42 (by first | exact rfl | decide | omega | (dsimp only; omega))
            refine x_aload_n C dX3_start_61 rfl 0 rfl rfl ?_
            refine x_get C (ci := 3) (k := 7) 71 k44 rfl in_X3 (by decide) w_264 rfl dX3_start_62 rfl ?_
            refine x_iconst C (v := 3) dX3_start_65 (by decide) rfl ?_
            refine x_aload_n C dX3_start_66 rfl 1 rfl rfl ?_
            refine x_get C (ci := 8) (k := 2) t k45 rfl in_X9 (by decide) w_202 rfl dX3_start_67 rfl ?_
            obtain ⟨_, k48, v49, rfl⟩ := hW43 (t + 1) _ (okX_t ht (j := 1) rfl)
            refine x_get C (ci := 2) (k := 1) (t + 1) k48 rfl in_X2 (by decide) w_71 rfl dX3_start_70 rfl ?_
            refine x_iload_n C dX3_start_73 rfl 2 rfl rfl ?_
            obtain ⟨_, k50, f51, rfl⟩ := hW43 (t + 2) _ (okX_t ht (j := 2) rfl)
            refine x_iald C (v := (f51 (nI j35).toNatClampNeg)) (t + 2) k50 (vp_in_nI (by omega) (by decide)) rfl dX3_start_74 rfl ?_
            refine x_any (fun v52 => ?_)
            obtain ⟨w53, hw54⟩ : ∃ w : va_W, w = List.set w41 77 (iA E (a 77) 11 (upd (upd (upd (upd f18 (0 : Int32).toNatClampNeg (nI n10)) (1 : Int32).toNatClampNeg v26) (2 : Int32).toNatClampNeg (nI j35)) (3 : Int32).toNatClampNeg v52)) := ⟨_, rfl⟩
            refine x_iast C 77 k46 (vp_k (j := 3) (by decide) (by decide) (by decide)) hw54.symm dX3_start_75 rfl ?_
            have hW55 : WX (okX E a) w53 := by rw [hw54]; exact hW43.set (k := 77) rfl ⟨_, rfl⟩
            have k56 : w53[71]? = some (ob (a 71) 3 [.int v4, .ref (a 72), .ref (a 73), .ref (a 74), .ref (a 75), .int (nI n5), .ref (a 76), .ref (a 77), .ref (a 78), .int (nI n7)]) := by rw [hw54]; exact set_ne k44 (by decide)
            have k57 : w53[t]? = some (ob (a t) 8 [.int (nI n10), .int v12, .ref (a (t + 1)), .ref (a (t + 4)), .ref (a (t + 9)), .ref (a (t + 16)), .int v13, .int v14, .int v15, .int v16]) := by rw [hw54]; exact set_ne k45 (by omega)
            have k58 : w53[77]? = some (iA E (a 77) 11 (upd (upd (upd (upd f18 (0 : Int32).toNatClampNeg (nI n10)) (1 : Int32).toNatClampNeg v26) (2 : Int32).toNatClampNeg (nI j35)) (3 : Int32).toNatClampNeg v52)) := by rw [hw54]; exact set_eq k46
            have k59 : w53[t + 1]? = some (ob (a (t + 1)) 2 [.int v49, .ref (a (t + 2)), .ref (a (t + 3))]) := by rw [hw54]; exact set_ne k48 (by omega)
            have k60 : w53[t + 2]? = some (iA E (a (t + 2)) 8 f51) := by rw [hw54]; exact set_ne k50 (by omega)
            have kp61 := keeps_set kp47 hw54 (by first | exact rfl | decide | omega | (dsimp only; omega))
            exact x_vret C hr hlk dX3_start_76 ⟨hW55, kp61⟩
      · skip
        have nf62 := nI_nle' (a := 11) (b := k) c1 (by omega) (by omega)
        refine x_aload_n C dX3_start_8 rfl 0 rfl rfl ?_
        obtain ⟨_, k63, v64, n65, n67, bn66, bn68, rfl⟩ := hWl2 71 _ rfl
        refine x_get C (ci := 3) (k := 7) 71 k63 rfl in_X3 (by decide) w_264 rfl dX3_start_9 rfl ?_
        refine x_iload_n C dX3_start_12 rfl 3 rfl rfl ?_
        refine x_iconst C (v := 0) dX3_start_13 (by decide) rfl ?_
        obtain ⟨_, k69, f70, rfl⟩ := hWl2 77 _ rfl
        obtain ⟨w71, hw72⟩ : ∃ w : va_W, w = List.set wl2 77 (iA E (a 77) 11 (upd f70 (nI k).toNatClampNeg 0)) := ⟨_, rfl⟩
        refine x_iast C 77 k69 (vp_in_nI (by omega) (by decide)) hw72.symm dX3_start_14 rfl ?_
        have hW73 : WX (okX E a) w71 := by rw [hw72]; exact hWl2.set (k := 77) rfl ⟨_, rfl⟩
        have k74 : w71[71]? = some (ob (a 71) 3 [.int v64, .ref (a 72), .ref (a 73), .ref (a 74), .ref (a 75), .int (nI n65), .ref (a 76), .ref (a 77), .ref (a 78), .int (nI n67)]) := by rw [hw72]; exact set_ne k63 (by decide)
        have k75 : w71[77]? = some (iA E (a 77) 11 (upd f70 (nI k).toNatClampNeg 0)) := by rw [hw72]; exact set_eq k69
        have kp76 := keeps_set kq2 hw72 (by first | exact rfl | decide | omega | (dsimp only; omega))
        refine x_iinc C (v := (nI (k + 1))) (lv' := [(3, .int (nI (k + 1))), (0, .ref (a 71)), (1, .ref (a t)), (2, .int y0)]) dX3_start_15 3 rfl (nI_add k 1) (by decide) rfl rfl ?_
        refine x_goto C (tgt := 2) dX3_start_18 (by decide) ?_
        refine x_lv (lv1 := [(0, .ref (a 71)), (1, .ref (a t)), (2, .int y0), (3, .int (nI (k + 1)))]) [1, 2, 3, 0] rfl ?_
        exact ih2 (k + 1) w71 hW73 (by omega) (by omega) kp76
  refine x_lv (lv1 := [(0, .ref (a 71)), (1, .ref (a t)), (2, .int y0), (3, .int 0)]) [1, 2, 3, 0] rfl ?_
  exact loop2 _ 0 ws hW (Nat.lt_succ_self _) (by omega) kp0
theorem dX3_ofHen_0 : decode cX3_ofHen 0 = .ok (.aload_n 0, 1) := by decide +kernel
theorem dX3_ofHen_1 : decode cX3_ofHen 1 = .ok (.aload_n 2, 1) := by decide +kernel
theorem dX3_ofHen_2 : decode cX3_ofHen 2 = .ok (.iload_n 3, 1) := by decide +kernel
theorem dX3_ofHen_3 : decode cX3_ofHen 3 = .ok (.invokevirtual 43, 3) := by decide +kernel
theorem dX3_ofHen_6 : decode cX3_ofHen 6 = .ok (.aload_n 0, 1) := by decide +kernel
theorem dX3_ofHen_7 : decode cX3_ofHen 7 = .ok (.getfield 34, 3) := by decide +kernel
theorem dX3_ofHen_10 : decode cX3_ofHen 10 = .ok (.iconst 4, 1) := by decide +kernel
theorem dX3_ofHen_11 : decode cX3_ofHen 11 = .ok (.iload 4, 2) := by decide +kernel
theorem dX3_ofHen_13 : decode cX3_ofHen 13 = .ok (.iastore, 1) := by decide +kernel
theorem dX3_ofHen_14 : decode cX3_ofHen 14 = .ok (.aload_n 0, 1) := by decide +kernel
theorem dX3_ofHen_15 : decode cX3_ofHen 15 = .ok (.getfield 34, 3) := by decide +kernel
theorem dX3_ofHen_18 : decode cX3_ofHen 18 = .ok (.bipush 8, 2) := by decide +kernel
theorem dX3_ofHen_20 : decode cX3_ofHen 20 = .ok (.aload_n 2, 1) := by decide +kernel
theorem dX3_ofHen_21 : decode cX3_ofHen 21 = .ok (.getfield 47, 3) := by decide +kernel
theorem dX3_ofHen_24 : decode cX3_ofHen 24 = .ok (.getfield 53, 3) := by decide +kernel
theorem dX3_ofHen_27 : decode cX3_ofHen 27 = .ok (.iload_n 3, 1) := by decide +kernel
theorem dX3_ofHen_28 : decode cX3_ofHen 28 = .ok (.iaload, 1) := by decide +kernel
theorem dX3_ofHen_29 : decode cX3_ofHen 29 = .ok (.iastore, 1) := by decide +kernel
theorem dX3_ofHen_30 : decode cX3_ofHen 30 = .ok (.aload_n 0, 1) := by decide +kernel
theorem dX3_ofHen_31 : decode cX3_ofHen 31 = .ok (.iload_n 1, 1) := by decide +kernel
theorem dX3_ofHen_32 : decode cX3_ofHen 32 = .ok (.invokevirtual 58, 3) := by decide +kernel
theorem dX3_ofHen_35 : decode cX3_ofHen 35 = .ok (.ireturn, 1) := by decide +kernel
set_option maxRecDepth 20000 in
set_option maxHeartbeats 4000000 in
theorem c_ofHen (E : xE) (l : Launch) (a : Nat → Nat) (ws : va_W) (hW : WX (okX E a) ws) (t : Nat) (ht : tb t) (wh : Nat) (y0 : Nat) (dr : Int32) (hwh : wh ≤ 5) (hy0 : y0 ≤ 7) : xI E l yX3_ofHen cX3_ofHen 5 (some .int) 3 [.ref (a 71), .int (nI wh), .ref (a t), .int (nI y0), .int dr] ws (fun r w => WX (okX E a) w ∧ keeps ws w (fun q => 71 ≤ q ∧ q < 79)) := by
  refine xI_start (lv := [(0, .ref (a 71)), (1, .int (nI wh)), (2, .ref (a t)), (3, .int (nI y0)), (4, .int dr)]) RX3 (by decide) rfl (Nat.le_of_ble_eq_true rfl) rfl (fun p e s m below meth c A C hr hlk => ?_)
  have htb := tb_lo ht
  have kp0 : keeps ws ws (fun q => 71 ≤ q ∧ q < 79) := keeps_rf
  refine x_aload_n C dX3_ofHen_0 rfl 0 rfl rfl ?_
  refine x_aload_n C dX3_ofHen_1 rfl 2 rfl rfl ?_
  refine x_iload_n C dX3_ofHen_2 rfl 3 rfl rfl ?_
  obtain ⟨_, k1, v2, n3, n5, bn4, bn6, rfl⟩ := hW 71 _ rfl
  refine x_vv C (As := [.ref (a t), .int (nI y0)]) (rest := []) (c_start E l a ws hW t ht ((nI y0))) mf_X3_start w_735 71 k1 rfl rfl rfl (Nat.le_of_ble_eq_true rfl) ⟨(Nat.le_of_ble_eq_true rfl), (Nat.le_of_ble_eq_true rfl)⟩ ⟨(Nat.le_of_ble_eq_true rfl), (Nat.le_of_ble_eq_true rfl)⟩ dX3_ofHen_3 rfl (fun w9 h7 => ?_)
  obtain ⟨hW10, kq11⟩ := h7
  have kp12 := keeps_tr kp0 kq11 (fun q hq => by first | omega | (dsimp only at *; omega))
  refine x_aload_n C dX3_ofHen_6 rfl 0 rfl rfl ?_
  obtain ⟨_, k13, v14, n15, n17, bn16, bn18, rfl⟩ := hW10 71 _ rfl
  refine x_get C (ci := 3) (k := 7) 71 k13 rfl in_X3 (by decide) w_264 rfl dX3_ofHen_7 rfl ?_
  refine x_iconst C (v := 4) dX3_ofHen_10 (by decide) rfl ?_
  refine x_iload C dX3_ofHen_11 4 rfl rfl ?_
  obtain ⟨_, k19, f20, rfl⟩ := hW10 77 _ rfl
  obtain ⟨w21, hw22⟩ : ∃ w : va_W, w = List.set w9 77 (iA E (a 77) 11 (upd f20 (4 : Int32).toNatClampNeg dr)) := ⟨_, rfl⟩
  refine x_iast C 77 k19 (vp_k (j := 4) (by decide) (by decide) (by decide)) hw22.symm dX3_ofHen_13 rfl ?_
  have hW23 : WX (okX E a) w21 := by rw [hw22]; exact hW10.set (k := 77) rfl ⟨_, rfl⟩
  have k24 : w21[71]? = some (ob (a 71) 3 [.int v14, .ref (a 72), .ref (a 73), .ref (a 74), .ref (a 75), .int (nI n15), .ref (a 76), .ref (a 77), .ref (a 78), .int (nI n17)]) := by rw [hw22]; exact set_ne k13 (by decide)
  have k25 : w21[77]? = some (iA E (a 77) 11 (upd f20 (4 : Int32).toNatClampNeg dr)) := by rw [hw22]; exact set_eq k19
  have kp26 := keeps_set kp12 hw22 (by first | exact rfl | decide | omega | (dsimp only; omega))
  refine x_aload_n C dX3_ofHen_14 rfl 0 rfl rfl ?_
  refine x_get C (ci := 3) (k := 7) 71 k24 rfl in_X3 (by decide) w_264 rfl dX3_ofHen_15 rfl ?_
  refine x_bipush C (v := 8) dX3_ofHen_18 (by decide) rfl ?_
  refine x_aload_n C dX3_ofHen_20 rfl 2 rfl rfl ?_
  obtain ⟨_, k27, n28, v30, v31, v32, v33, v34, bn29, rfl⟩ := hW23 (t + 0) _ (okX_t ht (j := 0) rfl)
  refine x_get C (ci := 8) (k := 2) t k27 rfl in_X9 (by decide) w_202 rfl dX3_ofHen_21 rfl ?_
  obtain ⟨_, k35, v36, rfl⟩ := hW23 (t + 1) _ (okX_t ht (j := 1) rfl)
  refine x_get C (ci := 2) (k := 2) (t + 1) k35 rfl in_X2 (by decide) w_74 rfl dX3_ofHen_24 rfl ?_
  refine x_iload_n C dX3_ofHen_27 rfl 3 rfl rfl ?_
  obtain ⟨_, k37, g38, gb39, rfl⟩ := hW23 (t + 3) _ (okX_t ht (j := 3) rfl)
  refine x_ialk C (v := nI (g38 y0)) y0 (nI_clamp (by omega)) (nI_pos (by omega)) (by omega) (t + 3) k37 rfl dX3_ofHen_28 rfl ?_
  have bx40 := gb39 y0
  obtain ⟨w41, hw42⟩ : ∃ w : va_W, w = List.set w21 77 (iA E (a 77) 11 (upd (upd f20 (4 : Int32).toNatClampNeg dr) (8 : Int32).toNatClampNeg (nI (g38 y0)))) := ⟨_, rfl⟩
  refine x_iast C 77 k25 (vp_k (j := 8) (by decide) (by decide) (by decide)) hw42.symm dX3_ofHen_29 rfl ?_
  have hW43 : WX (okX E a) w41 := by rw [hw42]; exact hW23.set (k := 77) rfl ⟨_, rfl⟩
  have k44 : w41[71]? = some (ob (a 71) 3 [.int v14, .ref (a 72), .ref (a 73), .ref (a 74), .ref (a 75), .int (nI n15), .ref (a 76), .ref (a 77), .ref (a 78), .int (nI n17)]) := by rw [hw42]; exact set_ne k24 (by decide)
  have k45 : w41[77]? = some (iA E (a 77) 11 (upd (upd f20 (4 : Int32).toNatClampNeg dr) (8 : Int32).toNatClampNeg (nI (g38 y0)))) := by rw [hw42]; exact set_eq k25
  have k46 : w41[t]? = some (ob (a t) 8 [.int (nI n28), .int v30, .ref (a (t + 1)), .ref (a (t + 4)), .ref (a (t + 9)), .ref (a (t + 16)), .int v31, .int v32, .int v33, .int v34]) := by rw [hw42]; exact set_ne k27 (by omega)
  have k47 : w41[t + 1]? = some (ob (a (t + 1)) 2 [.int v36, .ref (a (t + 2)), .ref (a (t + 3))]) := by rw [hw42]; exact set_ne k35 (by omega)
  have k48 : w41[t + 3]? = some (iA E (a (t + 3)) 8 (fun j => nI (g38 j))) := by rw [hw42]; exact set_ne k37 (by omega)
  have kp49 := keeps_set kp26 hw42 (by first | exact rfl | decide | omega | (dsimp only; omega))
  refine x_aload_n C dX3_ofHen_30 rfl 0 rfl rfl ?_
  refine x_iload_n C dX3_ofHen_31 rfl 1 rfl rfl ?_
  refine x_vi C (As := [.int (nI wh)]) (rest := []) (c_ask E l a w41 hW43 wh (by omega)) mf_X3_ask w_739 71 k44 rfl rfl rfl (Nat.le_of_ble_eq_true rfl) ⟨(Nat.le_of_ble_eq_true rfl), (Nat.le_of_ble_eq_true rfl)⟩ ⟨(Nat.le_of_ble_eq_true rfl), (Nat.le_of_ble_eq_true rfl)⟩ dX3_ofHen_32 rfl (fun r51 w52 h50 => ?_)
  obtain ⟨hW53, kq54⟩ := h50
  have k55 : w52[t]? = some (ob (a t) 8 [.int (nI n28), .int v30, .ref (a (t + 1)), .ref (a (t + 4)), .ref (a (t + 9)), .ref (a (t + 16)), .int v31, .int v32, .int v33, .int v34]) := keeps_at kq54 k46 (by first | decide | omega | (dsimp only; omega))
  have k56 : w52[t + 1]? = some (ob (a (t + 1)) 2 [.int v36, .ref (a (t + 2)), .ref (a (t + 3))]) := keeps_at kq54 k47 (by first | decide | omega | (dsimp only; omega))
  have k57 : w52[t + 3]? = some (iA E (a (t + 3)) 8 (fun j => nI (g38 j))) := keeps_at kq54 k48 (by first | decide | omega | (dsimp only; omega))
  have kp58 := keeps_tr kp49 kq54 (fun q hq => by first | omega | (dsimp only at *; omega))
  exact x_zret C hr hlk rfl dX3_ofHen_35 ⟨hW53, kp58⟩
theorem dX3_ofEgg_0 : decode cX3_ofEgg 0 = .ok (.aload_n 0, 1) := by decide +kernel
theorem dX3_ofEgg_1 : decode cX3_ofEgg 1 = .ok (.aload_n 2, 1) := by decide +kernel
theorem dX3_ofEgg_2 : decode cX3_ofEgg 2 = .ok (.aload_n 2, 1) := by decide +kernel
theorem dX3_ofEgg_3 : decode cX3_ofEgg 3 = .ok (.getfield 62, 3) := by decide +kernel
theorem dX3_ofEgg_6 : decode cX3_ofEgg 6 = .ok (.getfield 66, 3) := by decide +kernel
theorem dX3_ofEgg_9 : decode cX3_ofEgg 9 = .ok (.iload_n 3, 1) := by decide +kernel
theorem dX3_ofEgg_10 : decode cX3_ofEgg 10 = .ok (.iaload, 1) := by decide +kernel
theorem dX3_ofEgg_11 : decode cX3_ofEgg 11 = .ok (.invokevirtual 43, 3) := by decide +kernel
theorem dX3_ofEgg_14 : decode cX3_ofEgg 14 = .ok (.aload_n 0, 1) := by decide +kernel
theorem dX3_ofEgg_15 : decode cX3_ofEgg 15 = .ok (.getfield 34, 3) := by decide +kernel
theorem dX3_ofEgg_18 : decode cX3_ofEgg 18 = .ok (.iconst 5, 1) := by decide +kernel
theorem dX3_ofEgg_19 : decode cX3_ofEgg 19 = .ok (.aload_n 2, 1) := by decide +kernel
theorem dX3_ofEgg_20 : decode cX3_ofEgg 20 = .ok (.getfield 62, 3) := by decide +kernel
theorem dX3_ofEgg_23 : decode cX3_ofEgg 23 = .ok (.getfield 71, 3) := by decide +kernel
theorem dX3_ofEgg_26 : decode cX3_ofEgg 26 = .ok (.iload_n 3, 1) := by decide +kernel
theorem dX3_ofEgg_27 : decode cX3_ofEgg 27 = .ok (.iaload, 1) := by decide +kernel
theorem dX3_ofEgg_28 : decode cX3_ofEgg 28 = .ok (.iastore, 1) := by decide +kernel
theorem dX3_ofEgg_29 : decode cX3_ofEgg 29 = .ok (.aload_n 0, 1) := by decide +kernel
theorem dX3_ofEgg_30 : decode cX3_ofEgg 30 = .ok (.getfield 34, 3) := by decide +kernel
theorem dX3_ofEgg_33 : decode cX3_ofEgg 33 = .ok (.bipush 6, 2) := by decide +kernel
theorem dX3_ofEgg_35 : decode cX3_ofEgg 35 = .ok (.aload_n 2, 1) := by decide +kernel
theorem dX3_ofEgg_36 : decode cX3_ofEgg 36 = .ok (.getfield 74, 3) := by decide +kernel
theorem dX3_ofEgg_39 : decode cX3_ofEgg 39 = .ok (.aload_n 2, 1) := by decide +kernel
theorem dX3_ofEgg_40 : decode cX3_ofEgg 40 = .ok (.getfield 62, 3) := by decide +kernel
theorem dX3_ofEgg_43 : decode cX3_ofEgg 43 = .ok (.getfield 77, 3) := by decide +kernel
theorem dX3_ofEgg_46 : decode cX3_ofEgg 46 = .ok (.iload_n 3, 1) := by decide +kernel
theorem dX3_ofEgg_47 : decode cX3_ofEgg 47 = .ok (.iaload, 1) := by decide +kernel
theorem dX3_ofEgg_48 : decode cX3_ofEgg 48 = .ok (.isub, 1) := by decide +kernel
theorem dX3_ofEgg_49 : decode cX3_ofEgg 49 = .ok (.iastore, 1) := by decide +kernel
theorem dX3_ofEgg_50 : decode cX3_ofEgg 50 = .ok (.aload_n 0, 1) := by decide +kernel
theorem dX3_ofEgg_51 : decode cX3_ofEgg 51 = .ok (.getfield 34, 3) := by decide +kernel
theorem dX3_ofEgg_54 : decode cX3_ofEgg 54 = .ok (.bipush 7, 2) := by decide +kernel
theorem dX3_ofEgg_56 : decode cX3_ofEgg 56 = .ok (.aload_n 2, 1) := by decide +kernel
theorem dX3_ofEgg_57 : decode cX3_ofEgg 57 = .ok (.getfield 62, 3) := by decide +kernel
theorem dX3_ofEgg_60 : decode cX3_ofEgg 60 = .ok (.getfield 80, 3) := by decide +kernel
theorem dX3_ofEgg_63 : decode cX3_ofEgg 63 = .ok (.iload_n 3, 1) := by decide +kernel
theorem dX3_ofEgg_64 : decode cX3_ofEgg 64 = .ok (.iaload, 1) := by decide +kernel
theorem dX3_ofEgg_65 : decode cX3_ofEgg 65 = .ok (.iastore, 1) := by decide +kernel
theorem dX3_ofEgg_66 : decode cX3_ofEgg 66 = .ok (.aload_n 0, 1) := by decide +kernel
theorem dX3_ofEgg_67 : decode cX3_ofEgg 67 = .ok (.getfield 34, 3) := by decide +kernel
theorem dX3_ofEgg_70 : decode cX3_ofEgg 70 = .ok (.bipush 8, 2) := by decide +kernel
theorem dX3_ofEgg_72 : decode cX3_ofEgg 72 = .ok (.aload_n 2, 1) := by decide +kernel
theorem dX3_ofEgg_73 : decode cX3_ofEgg 73 = .ok (.getfield 62, 3) := by decide +kernel
theorem dX3_ofEgg_76 : decode cX3_ofEgg 76 = .ok (.getfield 83, 3) := by decide +kernel
theorem dX3_ofEgg_79 : decode cX3_ofEgg 79 = .ok (.iload_n 3, 1) := by decide +kernel
theorem dX3_ofEgg_80 : decode cX3_ofEgg 80 = .ok (.iaload, 1) := by decide +kernel
theorem dX3_ofEgg_81 : decode cX3_ofEgg 81 = .ok (.iastore, 1) := by decide +kernel
theorem dX3_ofEgg_82 : decode cX3_ofEgg 82 = .ok (.aload_n 0, 1) := by decide +kernel
theorem dX3_ofEgg_83 : decode cX3_ofEgg 83 = .ok (.getfield 34, 3) := by decide +kernel
theorem dX3_ofEgg_86 : decode cX3_ofEgg 86 = .ok (.bipush 9, 2) := by decide +kernel
theorem dX3_ofEgg_88 : decode cX3_ofEgg 88 = .ok (.iload 4, 2) := by decide +kernel
theorem dX3_ofEgg_90 : decode cX3_ofEgg 90 = .ok (.iastore, 1) := by decide +kernel
theorem dX3_ofEgg_91 : decode cX3_ofEgg 91 = .ok (.aload_n 0, 1) := by decide +kernel
theorem dX3_ofEgg_92 : decode cX3_ofEgg 92 = .ok (.iload_n 1, 1) := by decide +kernel
theorem dX3_ofEgg_93 : decode cX3_ofEgg 93 = .ok (.invokevirtual 58, 3) := by decide +kernel
theorem dX3_ofEgg_96 : decode cX3_ofEgg 96 = .ok (.ireturn, 1) := by decide +kernel
set_option maxRecDepth 20000 in
set_option maxHeartbeats 4000000 in
theorem c_ofEgg (E : xE) (l : Launch) (a : Nat → Nat) (ws : va_W) (hW : WX (okX E a) ws) (t : Nat) (ht : tb t) (wh : Nat) (i0 : Nat) (wk : Int32) (hwh : wh ≤ 5) (hi0 : i0 ≤ 47) : xI E l yX3_ofEgg cX3_ofEgg 5 (some .int) 3 [.ref (a 71), .int (nI wh), .ref (a t), .int (nI i0), .int wk] ws (fun r w => WX (okX E a) w ∧ keeps ws w (fun q => 71 ≤ q ∧ q < 79)) := by
  refine xI_start (lv := [(0, .ref (a 71)), (1, .int (nI wh)), (2, .ref (a t)), (3, .int (nI i0)), (4, .int wk)]) RX3 (by decide) rfl (Nat.le_of_ble_eq_true rfl) rfl (fun p e s m below meth c A C hr hlk => ?_)
  have htb := tb_lo ht
  have kp0 : keeps ws ws (fun q => 71 ≤ q ∧ q < 79) := keeps_rf
  refine x_aload_n C dX3_ofEgg_0 rfl 0 rfl rfl ?_
  refine x_aload_n C dX3_ofEgg_1 rfl 2 rfl rfl ?_
  refine x_aload_n C dX3_ofEgg_2 rfl 2 rfl rfl ?_
  obtain ⟨_, k1, n2, v4, v5, v6, v7, v8, bn3, rfl⟩ := hW (t + 0) _ (okX_t ht (j := 0) rfl)
  refine x_get C (ci := 8) (k := 4) t k1 rfl in_X9 (by decide) w_208 rfl dX3_ofEgg_3 rfl ?_
  obtain ⟨_, k9, n10, bn11, rfl⟩ := hW (t + 9) _ (okX_t ht (j := 9) rfl)
  refine x_get C (ci := 1) (k := 3) (t + 9) k9 rfl in_X1 (by decide) w_132 rfl dX3_ofEgg_6 rfl ?_
  refine x_iload_n C dX3_ofEgg_9 rfl 3 rfl rfl ?_
  obtain ⟨_, k12, f13, rfl⟩ := hW (t + 12) _ (okX_t ht (j := 12) rfl)
  refine x_iald C (v := (f13 (nI i0).toNatClampNeg)) (t + 12) k12 (vp_in_nI (by omega) (by decide)) rfl dX3_ofEgg_10 rfl ?_
  refine x_any (fun v14 => ?_)
  obtain ⟨_, k15, v16, n17, n19, bn18, bn20, rfl⟩ := hW 71 _ rfl
  refine x_vv C (As := [.ref (a t), .int v14]) (rest := []) (c_start E l a ws hW t ht v14) mf_X3_start w_735 71 k15 rfl rfl rfl (Nat.le_of_ble_eq_true rfl) ⟨(Nat.le_of_ble_eq_true rfl), (Nat.le_of_ble_eq_true rfl)⟩ ⟨(Nat.le_of_ble_eq_true rfl), (Nat.le_of_ble_eq_true rfl)⟩ dX3_ofEgg_11 rfl (fun w23 h21 => ?_)
  obtain ⟨hW24, kq25⟩ := h21
  have k26 : w23[t]? = some (ob (a t) 8 [.int (nI n2), .int v4, .ref (a (t + 1)), .ref (a (t + 4)), .ref (a (t + 9)), .ref (a (t + 16)), .int v5, .int v6, .int v7, .int v8]) := keeps_at kq25 k1 (by first | decide | omega | (dsimp only; omega))
  have k27 : w23[t + 9]? = some (ob (a (t + 9)) 1 [.int (nI n10), .ref (a (t + 10)), .ref (a (t + 11)), .ref (a (t + 12)), .ref (a (t + 13)), .ref (a (t + 14)), .ref (a (t + 15))]) := keeps_at kq25 k9 (by first | decide | omega | (dsimp only; omega))
  have k28 : w23[t + 12]? = some (iA E (a (t + 12)) 48 f13) := keeps_at kq25 k12 (by first | decide | omega | (dsimp only; omega))
  have kp29 := keeps_tr kp0 kq25 (fun q hq => by first | omega | (dsimp only at *; omega))
  refine x_aload_n C dX3_ofEgg_14 rfl 0 rfl rfl ?_
  obtain ⟨_, k30, v31, n32, n34, bn33, bn35, rfl⟩ := hW24 71 _ rfl
  refine x_get C (ci := 3) (k := 7) 71 k30 rfl in_X3 (by decide) w_264 rfl dX3_ofEgg_15 rfl ?_
  refine x_iconst C (v := 5) dX3_ofEgg_18 (by decide) rfl ?_
  refine x_aload_n C dX3_ofEgg_19 rfl 2 rfl rfl ?_
  refine x_get C (ci := 8) (k := 4) t k26 rfl in_X9 (by decide) w_208 rfl dX3_ofEgg_20 rfl ?_
  refine x_get C (ci := 1) (k := 1) (t + 9) k27 rfl in_X1 (by decide) w_124 rfl dX3_ofEgg_23 rfl ?_
  refine x_iload_n C dX3_ofEgg_26 rfl 3 rfl rfl ?_
  obtain ⟨_, k36, f37, rfl⟩ := hW24 (t + 10) _ (okX_t ht (j := 10) rfl)
  refine x_iald C (v := (f37 (nI i0).toNatClampNeg)) (t + 10) k36 (vp_in_nI (by omega) (by decide)) rfl dX3_ofEgg_27 rfl ?_
  refine x_any (fun v38 => ?_)
  obtain ⟨_, k39, f40, rfl⟩ := hW24 77 _ rfl
  obtain ⟨w41, hw42⟩ : ∃ w : va_W, w = List.set w23 77 (iA E (a 77) 11 (upd f40 (5 : Int32).toNatClampNeg v38)) := ⟨_, rfl⟩
  refine x_iast C 77 k39 (vp_k (j := 5) (by decide) (by decide) (by decide)) hw42.symm dX3_ofEgg_28 rfl ?_
  have hW43 : WX (okX E a) w41 := by rw [hw42]; exact hW24.set (k := 77) rfl ⟨_, rfl⟩
  have k44 : w41[t]? = some (ob (a t) 8 [.int (nI n2), .int v4, .ref (a (t + 1)), .ref (a (t + 4)), .ref (a (t + 9)), .ref (a (t + 16)), .int v5, .int v6, .int v7, .int v8]) := by rw [hw42]; exact set_ne k26 (by omega)
  have k45 : w41[t + 9]? = some (ob (a (t + 9)) 1 [.int (nI n10), .ref (a (t + 10)), .ref (a (t + 11)), .ref (a (t + 12)), .ref (a (t + 13)), .ref (a (t + 14)), .ref (a (t + 15))]) := by rw [hw42]; exact set_ne k27 (by omega)
  have k46 : w41[t + 12]? = some (iA E (a (t + 12)) 48 f13) := by rw [hw42]; exact set_ne k28 (by omega)
  have k47 : w41[71]? = some (ob (a 71) 3 [.int v31, .ref (a 72), .ref (a 73), .ref (a 74), .ref (a 75), .int (nI n32), .ref (a 76), .ref (a 77), .ref (a 78), .int (nI n34)]) := by rw [hw42]; exact set_ne k30 (by decide)
  have k48 : w41[t + 10]? = some (iA E (a (t + 10)) 48 f37) := by rw [hw42]; exact set_ne k36 (by omega)
  have k49 : w41[77]? = some (iA E (a 77) 11 (upd f40 (5 : Int32).toNatClampNeg v38)) := by rw [hw42]; exact set_eq k39
  have kp50 := keeps_set kp29 hw42 (by first | exact rfl | decide | omega | (dsimp only; omega))
  refine x_aload_n C dX3_ofEgg_29 rfl 0 rfl rfl ?_
  refine x_get C (ci := 3) (k := 7) 71 k47 rfl in_X3 (by decide) w_264 rfl dX3_ofEgg_30 rfl ?_
  refine x_bipush C (v := 6) dX3_ofEgg_33 (by decide) rfl ?_
  refine x_aload_n C dX3_ofEgg_35 rfl 2 rfl rfl ?_
  refine x_get C (ci := 8) (k := 0) t k44 rfl in_X9 (by decide) w_196 rfl dX3_ofEgg_36 rfl ?_
  refine x_aload_n C dX3_ofEgg_39 rfl 2 rfl rfl ?_
  refine x_get C (ci := 8) (k := 4) t k44 rfl in_X9 (by decide) w_208 rfl dX3_ofEgg_40 rfl ?_
  refine x_get C (ci := 1) (k := 2) (t + 9) k45 rfl in_X1 (by decide) w_128 rfl dX3_ofEgg_43 rfl ?_
  refine x_iload_n C dX3_ofEgg_46 rfl 3 rfl rfl ?_
  obtain ⟨_, k51, g52, gb53, rfl⟩ := hW43 (t + 11) _ (okX_t ht (j := 11) rfl)
  refine x_ialk C (v := nI (g52 i0)) i0 (nI_clamp (by omega)) (nI_pos (by omega)) (by omega) (t + 11) k51 rfl dX3_ofEgg_47 rfl ?_
  have bx54 := gb53 i0
  refine x_isub C (v := ((nI n2) - (nI (g52 i0)))) dX3_ofEgg_48 rfl rfl ?_
  refine x_any (fun v55 => ?_)
  obtain ⟨w56, hw57⟩ : ∃ w : va_W, w = List.set w41 77 (iA E (a 77) 11 (upd (upd f40 (5 : Int32).toNatClampNeg v38) (6 : Int32).toNatClampNeg v55)) := ⟨_, rfl⟩
  refine x_iast C 77 k49 (vp_k (j := 6) (by decide) (by decide) (by decide)) hw57.symm dX3_ofEgg_49 rfl ?_
  have hW58 : WX (okX E a) w56 := by rw [hw57]; exact hW43.set (k := 77) rfl ⟨_, rfl⟩
  have k59 : w56[t]? = some (ob (a t) 8 [.int (nI n2), .int v4, .ref (a (t + 1)), .ref (a (t + 4)), .ref (a (t + 9)), .ref (a (t + 16)), .int v5, .int v6, .int v7, .int v8]) := by rw [hw57]; exact set_ne k44 (by omega)
  have k60 : w56[t + 9]? = some (ob (a (t + 9)) 1 [.int (nI n10), .ref (a (t + 10)), .ref (a (t + 11)), .ref (a (t + 12)), .ref (a (t + 13)), .ref (a (t + 14)), .ref (a (t + 15))]) := by rw [hw57]; exact set_ne k45 (by omega)
  have k61 : w56[t + 12]? = some (iA E (a (t + 12)) 48 f13) := by rw [hw57]; exact set_ne k46 (by omega)
  have k62 : w56[71]? = some (ob (a 71) 3 [.int v31, .ref (a 72), .ref (a 73), .ref (a 74), .ref (a 75), .int (nI n32), .ref (a 76), .ref (a 77), .ref (a 78), .int (nI n34)]) := by rw [hw57]; exact set_ne k47 (by decide)
  have k63 : w56[t + 10]? = some (iA E (a (t + 10)) 48 f37) := by rw [hw57]; exact set_ne k48 (by omega)
  have k64 : w56[77]? = some (iA E (a 77) 11 (upd (upd f40 (5 : Int32).toNatClampNeg v38) (6 : Int32).toNatClampNeg v55)) := by rw [hw57]; exact set_eq k49
  have k65 : w56[t + 11]? = some (iA E (a (t + 11)) 48 (fun j => nI (g52 j))) := by rw [hw57]; exact set_ne k51 (by omega)
  have kp66 := keeps_set kp50 hw57 (by first | exact rfl | decide | omega | (dsimp only; omega))
  refine x_aload_n C dX3_ofEgg_50 rfl 0 rfl rfl ?_
  refine x_get C (ci := 3) (k := 7) 71 k62 rfl in_X3 (by decide) w_264 rfl dX3_ofEgg_51 rfl ?_
  refine x_bipush C (v := 7) dX3_ofEgg_54 (by decide) rfl ?_
  refine x_aload_n C dX3_ofEgg_56 rfl 2 rfl rfl ?_
  refine x_get C (ci := 8) (k := 4) t k59 rfl in_X9 (by decide) w_208 rfl dX3_ofEgg_57 rfl ?_
  refine x_get C (ci := 1) (k := 5) (t + 9) k60 rfl in_X1 (by decide) w_140 rfl dX3_ofEgg_60 rfl ?_
  refine x_iload_n C dX3_ofEgg_63 rfl 3 rfl rfl ?_
  obtain ⟨_, k67, f68, rfl⟩ := hW58 (t + 14) _ (okX_t ht (j := 14) rfl)
  refine x_iald C (v := (f68 (nI i0).toNatClampNeg)) (t + 14) k67 (vp_in_nI (by omega) (by decide)) rfl dX3_ofEgg_64 rfl ?_
  refine x_any (fun v69 => ?_)
  obtain ⟨w70, hw71⟩ : ∃ w : va_W, w = List.set w56 77 (iA E (a 77) 11 (upd (upd (upd f40 (5 : Int32).toNatClampNeg v38) (6 : Int32).toNatClampNeg v55) (7 : Int32).toNatClampNeg v69)) := ⟨_, rfl⟩
  refine x_iast C 77 k64 (vp_k (j := 7) (by decide) (by decide) (by decide)) hw71.symm dX3_ofEgg_65 rfl ?_
  have hW72 : WX (okX E a) w70 := by rw [hw71]; exact hW58.set (k := 77) rfl ⟨_, rfl⟩
  have k73 : w70[t]? = some (ob (a t) 8 [.int (nI n2), .int v4, .ref (a (t + 1)), .ref (a (t + 4)), .ref (a (t + 9)), .ref (a (t + 16)), .int v5, .int v6, .int v7, .int v8]) := by rw [hw71]; exact set_ne k59 (by omega)
  have k74 : w70[t + 9]? = some (ob (a (t + 9)) 1 [.int (nI n10), .ref (a (t + 10)), .ref (a (t + 11)), .ref (a (t + 12)), .ref (a (t + 13)), .ref (a (t + 14)), .ref (a (t + 15))]) := by rw [hw71]; exact set_ne k60 (by omega)
  have k75 : w70[t + 12]? = some (iA E (a (t + 12)) 48 f13) := by rw [hw71]; exact set_ne k61 (by omega)
  have k76 : w70[71]? = some (ob (a 71) 3 [.int v31, .ref (a 72), .ref (a 73), .ref (a 74), .ref (a 75), .int (nI n32), .ref (a 76), .ref (a 77), .ref (a 78), .int (nI n34)]) := by rw [hw71]; exact set_ne k62 (by decide)
  have k77 : w70[t + 10]? = some (iA E (a (t + 10)) 48 f37) := by rw [hw71]; exact set_ne k63 (by omega)
  have k78 : w70[77]? = some (iA E (a 77) 11 (upd (upd (upd f40 (5 : Int32).toNatClampNeg v38) (6 : Int32).toNatClampNeg v55) (7 : Int32).toNatClampNeg v69)) := by rw [hw71]; exact set_eq k64
  have k79 : w70[t + 11]? = some (iA E (a (t + 11)) 48 (fun j => nI (g52 j))) := by rw [hw71]; exact set_ne k65 (by omega)
  have k80 : w70[t + 14]? = some (iA E (a (t + 14)) 48 f68) := by rw [hw71]; exact set_ne k67 (by omega)
  have kp81 := keeps_set kp66 hw71 (by first | exact rfl | decide | omega | (dsimp only; omega))
  refine x_aload_n C dX3_ofEgg_66 rfl 0 rfl rfl ?_
  refine x_get C (ci := 3) (k := 7) 71 k76 rfl in_X3 (by decide) w_264 rfl dX3_ofEgg_67 rfl ?_
  refine x_bipush C (v := 8) dX3_ofEgg_70 (by decide) rfl ?_
  refine x_aload_n C dX3_ofEgg_72 rfl 2 rfl rfl ?_
  refine x_get C (ci := 8) (k := 4) t k73 rfl in_X9 (by decide) w_208 rfl dX3_ofEgg_73 rfl ?_
  refine x_get C (ci := 1) (k := 4) (t + 9) k74 rfl in_X1 (by decide) w_135 rfl dX3_ofEgg_76 rfl ?_
  refine x_iload_n C dX3_ofEgg_79 rfl 3 rfl rfl ?_
  obtain ⟨_, k82, g83, gb84, rfl⟩ := hW72 (t + 13) _ (okX_t ht (j := 13) rfl)
  refine x_ialk C (v := nI (g83 i0)) i0 (nI_clamp (by omega)) (nI_pos (by omega)) (by omega) (t + 13) k82 rfl dX3_ofEgg_80 rfl ?_
  have bx85 := gb84 i0
  obtain ⟨w86, hw87⟩ : ∃ w : va_W, w = List.set w70 77 (iA E (a 77) 11 (upd (upd (upd (upd f40 (5 : Int32).toNatClampNeg v38) (6 : Int32).toNatClampNeg v55) (7 : Int32).toNatClampNeg v69) (8 : Int32).toNatClampNeg (nI (g83 i0)))) := ⟨_, rfl⟩
  refine x_iast C 77 k78 (vp_k (j := 8) (by decide) (by decide) (by decide)) hw87.symm dX3_ofEgg_81 rfl ?_
  have hW88 : WX (okX E a) w86 := by rw [hw87]; exact hW72.set (k := 77) rfl ⟨_, rfl⟩
  have k89 : w86[t]? = some (ob (a t) 8 [.int (nI n2), .int v4, .ref (a (t + 1)), .ref (a (t + 4)), .ref (a (t + 9)), .ref (a (t + 16)), .int v5, .int v6, .int v7, .int v8]) := by rw [hw87]; exact set_ne k73 (by omega)
  have k90 : w86[t + 9]? = some (ob (a (t + 9)) 1 [.int (nI n10), .ref (a (t + 10)), .ref (a (t + 11)), .ref (a (t + 12)), .ref (a (t + 13)), .ref (a (t + 14)), .ref (a (t + 15))]) := by rw [hw87]; exact set_ne k74 (by omega)
  have k91 : w86[t + 12]? = some (iA E (a (t + 12)) 48 f13) := by rw [hw87]; exact set_ne k75 (by omega)
  have k92 : w86[71]? = some (ob (a 71) 3 [.int v31, .ref (a 72), .ref (a 73), .ref (a 74), .ref (a 75), .int (nI n32), .ref (a 76), .ref (a 77), .ref (a 78), .int (nI n34)]) := by rw [hw87]; exact set_ne k76 (by decide)
  have k93 : w86[t + 10]? = some (iA E (a (t + 10)) 48 f37) := by rw [hw87]; exact set_ne k77 (by omega)
  have k94 : w86[77]? = some (iA E (a 77) 11 (upd (upd (upd (upd f40 (5 : Int32).toNatClampNeg v38) (6 : Int32).toNatClampNeg v55) (7 : Int32).toNatClampNeg v69) (8 : Int32).toNatClampNeg (nI (g83 i0)))) := by rw [hw87]; exact set_eq k78
  have k95 : w86[t + 11]? = some (iA E (a (t + 11)) 48 (fun j => nI (g52 j))) := by rw [hw87]; exact set_ne k79 (by omega)
  have k96 : w86[t + 14]? = some (iA E (a (t + 14)) 48 f68) := by rw [hw87]; exact set_ne k80 (by omega)
  have k97 : w86[t + 13]? = some (iA E (a (t + 13)) 48 (fun j => nI (g83 j))) := by rw [hw87]; exact set_ne k82 (by omega)
  have kp98 := keeps_set kp81 hw87 (by first | exact rfl | decide | omega | (dsimp only; omega))
  refine x_aload_n C dX3_ofEgg_82 rfl 0 rfl rfl ?_
  refine x_get C (ci := 3) (k := 7) 71 k92 rfl in_X3 (by decide) w_264 rfl dX3_ofEgg_83 rfl ?_
  refine x_bipush C (v := 9) dX3_ofEgg_86 (by decide) rfl ?_
  refine x_iload C dX3_ofEgg_88 4 rfl rfl ?_
  obtain ⟨w99, hw100⟩ : ∃ w : va_W, w = List.set w86 77 (iA E (a 77) 11 (upd (upd (upd (upd (upd f40 (5 : Int32).toNatClampNeg v38) (6 : Int32).toNatClampNeg v55) (7 : Int32).toNatClampNeg v69) (8 : Int32).toNatClampNeg (nI (g83 i0))) (9 : Int32).toNatClampNeg wk)) := ⟨_, rfl⟩
  refine x_iast C 77 k94 (vp_k (j := 9) (by decide) (by decide) (by decide)) hw100.symm dX3_ofEgg_90 rfl ?_
  have hW101 : WX (okX E a) w99 := by rw [hw100]; exact hW88.set (k := 77) rfl ⟨_, rfl⟩
  have k102 : w99[t]? = some (ob (a t) 8 [.int (nI n2), .int v4, .ref (a (t + 1)), .ref (a (t + 4)), .ref (a (t + 9)), .ref (a (t + 16)), .int v5, .int v6, .int v7, .int v8]) := by rw [hw100]; exact set_ne k89 (by omega)
  have k103 : w99[t + 9]? = some (ob (a (t + 9)) 1 [.int (nI n10), .ref (a (t + 10)), .ref (a (t + 11)), .ref (a (t + 12)), .ref (a (t + 13)), .ref (a (t + 14)), .ref (a (t + 15))]) := by rw [hw100]; exact set_ne k90 (by omega)
  have k104 : w99[t + 12]? = some (iA E (a (t + 12)) 48 f13) := by rw [hw100]; exact set_ne k91 (by omega)
  have k105 : w99[71]? = some (ob (a 71) 3 [.int v31, .ref (a 72), .ref (a 73), .ref (a 74), .ref (a 75), .int (nI n32), .ref (a 76), .ref (a 77), .ref (a 78), .int (nI n34)]) := by rw [hw100]; exact set_ne k92 (by decide)
  have k106 : w99[t + 10]? = some (iA E (a (t + 10)) 48 f37) := by rw [hw100]; exact set_ne k93 (by omega)
  have k107 : w99[77]? = some (iA E (a 77) 11 (upd (upd (upd (upd (upd f40 (5 : Int32).toNatClampNeg v38) (6 : Int32).toNatClampNeg v55) (7 : Int32).toNatClampNeg v69) (8 : Int32).toNatClampNeg (nI (g83 i0))) (9 : Int32).toNatClampNeg wk)) := by rw [hw100]; exact set_eq k94
  have k108 : w99[t + 11]? = some (iA E (a (t + 11)) 48 (fun j => nI (g52 j))) := by rw [hw100]; exact set_ne k95 (by omega)
  have k109 : w99[t + 14]? = some (iA E (a (t + 14)) 48 f68) := by rw [hw100]; exact set_ne k96 (by omega)
  have k110 : w99[t + 13]? = some (iA E (a (t + 13)) 48 (fun j => nI (g83 j))) := by rw [hw100]; exact set_ne k97 (by omega)
  have kp111 := keeps_set kp98 hw100 (by first | exact rfl | decide | omega | (dsimp only; omega))
  refine x_aload_n C dX3_ofEgg_91 rfl 0 rfl rfl ?_
  refine x_iload_n C dX3_ofEgg_92 rfl 1 rfl rfl ?_
  refine x_vi C (As := [.int (nI wh)]) (rest := []) (c_ask E l a w99 hW101 wh (by omega)) mf_X3_ask w_739 71 k105 rfl rfl rfl (Nat.le_of_ble_eq_true rfl) ⟨(Nat.le_of_ble_eq_true rfl), (Nat.le_of_ble_eq_true rfl)⟩ ⟨(Nat.le_of_ble_eq_true rfl), (Nat.le_of_ble_eq_true rfl)⟩ dX3_ofEgg_93 rfl (fun r113 w114 h112 => ?_)
  obtain ⟨hW115, kq116⟩ := h112
  have k117 : w114[t]? = some (ob (a t) 8 [.int (nI n2), .int v4, .ref (a (t + 1)), .ref (a (t + 4)), .ref (a (t + 9)), .ref (a (t + 16)), .int v5, .int v6, .int v7, .int v8]) := keeps_at kq116 k102 (by first | decide | omega | (dsimp only; omega))
  have k118 : w114[t + 9]? = some (ob (a (t + 9)) 1 [.int (nI n10), .ref (a (t + 10)), .ref (a (t + 11)), .ref (a (t + 12)), .ref (a (t + 13)), .ref (a (t + 14)), .ref (a (t + 15))]) := keeps_at kq116 k103 (by first | decide | omega | (dsimp only; omega))
  have k119 : w114[t + 12]? = some (iA E (a (t + 12)) 48 f13) := keeps_at kq116 k104 (by first | decide | omega | (dsimp only; omega))
  have k120 : w114[t + 10]? = some (iA E (a (t + 10)) 48 f37) := keeps_at kq116 k106 (by first | decide | omega | (dsimp only; omega))
  have k121 : w114[t + 11]? = some (iA E (a (t + 11)) 48 (fun j => nI (g52 j))) := keeps_at kq116 k108 (by first | decide | omega | (dsimp only; omega))
  have k122 : w114[t + 14]? = some (iA E (a (t + 14)) 48 f68) := keeps_at kq116 k109 (by first | decide | omega | (dsimp only; omega))
  have k123 : w114[t + 13]? = some (iA E (a (t + 13)) 48 (fun j => nI (g83 j))) := keeps_at kq116 k110 (by first | decide | omega | (dsimp only; omega))
  have kp124 := keeps_tr kp111 kq116 (fun q hq => by first | omega | (dsimp only at *; omega))
  exact x_zret C hr hlk rfl dX3_ofEgg_96 ⟨hW115, kp124⟩
theorem dX3_ofSellers_0 : decode cX3_ofSellers 0 = .ok (.aload_n 0, 1) := by decide +kernel
theorem dX3_ofSellers_1 : decode cX3_ofSellers 1 = .ok (.aload_n 1, 1) := by decide +kernel
theorem dX3_ofSellers_2 : decode cX3_ofSellers 2 = .ok (.iconst (-1), 1) := by decide +kernel
theorem dX3_ofSellers_3 : decode cX3_ofSellers 3 = .ok (.invokevirtual 43, 3) := by decide +kernel
theorem dX3_ofSellers_6 : decode cX3_ofSellers 6 = .ok (.aload_n 0, 1) := by decide +kernel
theorem dX3_ofSellers_7 : decode cX3_ofSellers 7 = .ok (.getfield 34, 3) := by decide +kernel
theorem dX3_ofSellers_10 : decode cX3_ofSellers 10 = .ok (.bipush 10, 2) := by decide +kernel
theorem dX3_ofSellers_12 : decode cX3_ofSellers 12 = .ok (.iload_n 2, 1) := by decide +kernel
theorem dX3_ofSellers_13 : decode cX3_ofSellers 13 = .ok (.iastore, 1) := by decide +kernel
theorem dX3_ofSellers_14 : decode cX3_ofSellers 14 = .ok (.aload_n 0, 1) := by decide +kernel
theorem dX3_ofSellers_15 : decode cX3_ofSellers 15 = .ok (.iconst 4, 1) := by decide +kernel
theorem dX3_ofSellers_16 : decode cX3_ofSellers 16 = .ok (.invokevirtual 58, 3) := by decide +kernel
theorem dX3_ofSellers_19 : decode cX3_ofSellers 19 = .ok (.ireturn, 1) := by decide +kernel
set_option maxRecDepth 20000 in
set_option maxHeartbeats 4000000 in
theorem c_ofSellers (E : xE) (l : Launch) (a : Nat → Nat) (ws : va_W) (hW : WX (okX E a) ws) (t : Nat) (ht : tb t) (n : Int32) : xI E l yX3_ofSellers cX3_ofSellers 3 (some .int) 3 [.ref (a 71), .ref (a t), .int n] ws (fun r w => WX (okX E a) w ∧ keeps ws w (fun q => 71 ≤ q ∧ q < 79)) := by
  refine xI_start (lv := [(0, .ref (a 71)), (1, .ref (a t)), (2, .int n)]) RX3 (by decide) rfl (Nat.le_of_ble_eq_true rfl) rfl (fun p e s m below meth c A C hr hlk => ?_)
  have htb := tb_lo ht
  have kp0 : keeps ws ws (fun q => 71 ≤ q ∧ q < 79) := keeps_rf
  refine x_aload_n C dX3_ofSellers_0 rfl 0 rfl rfl ?_
  refine x_aload_n C dX3_ofSellers_1 rfl 1 rfl rfl ?_
  refine x_iconst C (v := (-1)) dX3_ofSellers_2 (by decide) rfl ?_
  obtain ⟨_, k1, v2, n3, n5, bn4, bn6, rfl⟩ := hW 71 _ rfl
  refine x_vv C (As := [.ref (a t), .int (-1)]) (rest := []) (c_start E l a ws hW t ht ((-1) : Int32)) mf_X3_start w_735 71 k1 rfl rfl rfl (Nat.le_of_ble_eq_true rfl) ⟨(Nat.le_of_ble_eq_true rfl), (Nat.le_of_ble_eq_true rfl)⟩ ⟨(Nat.le_of_ble_eq_true rfl), (Nat.le_of_ble_eq_true rfl)⟩ dX3_ofSellers_3 rfl (fun w9 h7 => ?_)
  obtain ⟨hW10, kq11⟩ := h7
  have kp12 := keeps_tr kp0 kq11 (fun q hq => by first | omega | (dsimp only at *; omega))
  refine x_aload_n C dX3_ofSellers_6 rfl 0 rfl rfl ?_
  obtain ⟨_, k13, v14, n15, n17, bn16, bn18, rfl⟩ := hW10 71 _ rfl
  refine x_get C (ci := 3) (k := 7) 71 k13 rfl in_X3 (by decide) w_264 rfl dX3_ofSellers_7 rfl ?_
  refine x_bipush C (v := 10) dX3_ofSellers_10 (by decide) rfl ?_
  refine x_iload_n C dX3_ofSellers_12 rfl 2 rfl rfl ?_
  obtain ⟨_, k19, f20, rfl⟩ := hW10 77 _ rfl
  obtain ⟨w21, hw22⟩ : ∃ w : va_W, w = List.set w9 77 (iA E (a 77) 11 (upd f20 (10 : Int32).toNatClampNeg n)) := ⟨_, rfl⟩
  refine x_iast C 77 k19 (vp_k (j := 10) (by decide) (by decide) (by decide)) hw22.symm dX3_ofSellers_13 rfl ?_
  have hW23 : WX (okX E a) w21 := by rw [hw22]; exact hW10.set (k := 77) rfl ⟨_, rfl⟩
  have k24 : w21[71]? = some (ob (a 71) 3 [.int v14, .ref (a 72), .ref (a 73), .ref (a 74), .ref (a 75), .int (nI n15), .ref (a 76), .ref (a 77), .ref (a 78), .int (nI n17)]) := by rw [hw22]; exact set_ne k13 (by decide)
  have k25 : w21[77]? = some (iA E (a 77) 11 (upd f20 (10 : Int32).toNatClampNeg n)) := by rw [hw22]; exact set_eq k19
  have kp26 := keeps_set kp12 hw22 (by first | exact rfl | decide | omega | (dsimp only; omega))
  refine x_aload_n C dX3_ofSellers_14 rfl 0 rfl rfl ?_
  refine x_iconst C (v := 4) dX3_ofSellers_15 (by decide) rfl ?_
  refine x_vi C (As := [.int 4]) (rest := []) (c_ask E l a w21 hW23 4 (by omega)) mf_X3_ask w_739 71 k24 rfl rfl rfl (Nat.le_of_ble_eq_true rfl) ⟨(Nat.le_of_ble_eq_true rfl), (Nat.le_of_ble_eq_true rfl)⟩ ⟨(Nat.le_of_ble_eq_true rfl), (Nat.le_of_ble_eq_true rfl)⟩ dX3_ofSellers_16 rfl (fun r28 w29 h27 => ?_)
  obtain ⟨hW30, kq31⟩ := h27
  have kp32 := keeps_tr kp26 kq31 (fun q hq => by first | omega | (dsimp only at *; omega))
  exact x_zret C hr hlk rfl dX3_ofSellers_19 ⟨hW30, kp32⟩
