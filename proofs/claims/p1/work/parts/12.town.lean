theorem dX8_addWord_0 : decode cX8_addWord 0 = .ok (.bipush 24, 2) := by decide +kernel
theorem dX8_addWord_2 : decode cX8_addWord 2 = .ok (.istore_n 2, 1) := by decide +kernel
theorem dX8_addWord_3 : decode cX8_addWord 3 = .ok (.iload_n 2, 1) := by decide +kernel
theorem dX8_addWord_4 : decode cX8_addWord 4 = .ok (.ifCond .lt 45, 3) := by decide +kernel
theorem dX8_addWord_7 : decode cX8_addWord 7 = .ok (.aload_n 0, 1) := by decide +kernel
theorem dX8_addWord_8 : decode cX8_addWord 8 = .ok (.getfield 15, 3) := by decide +kernel
theorem dX8_addWord_11 : decode cX8_addWord 11 = .ok (.sipush 260, 3) := by decide +kernel
theorem dX8_addWord_14 : decode cX8_addWord 14 = .ok (.if_icmp .ge 35, 3) := by decide +kernel
theorem dX8_addWord_17 : decode cX8_addWord 17 = .ok (.aload_n 0, 1) := by decide +kernel
theorem dX8_addWord_18 : decode cX8_addWord 18 = .ok (.getfield 9, 3) := by decide +kernel
theorem dX8_addWord_21 : decode cX8_addWord 21 = .ok (.aload_n 0, 1) := by decide +kernel
theorem dX8_addWord_22 : decode cX8_addWord 22 = .ok (.getfield 15, 3) := by decide +kernel
theorem dX8_addWord_25 : decode cX8_addWord 25 = .ok (.iload_n 1, 1) := by decide +kernel
theorem dX8_addWord_26 : decode cX8_addWord 26 = .ok (.iload_n 2, 1) := by decide +kernel
theorem dX8_addWord_27 : decode cX8_addWord 27 = .ok (.iushr, 1) := by decide +kernel
theorem dX8_addWord_28 : decode cX8_addWord 28 = .ok (.sipush 255, 3) := by decide +kernel
theorem dX8_addWord_31 : decode cX8_addWord 31 = .ok (.iand, 1) := by decide +kernel
theorem dX8_addWord_32 : decode cX8_addWord 32 = .ok (.iastore, 1) := by decide +kernel
theorem dX8_addWord_33 : decode cX8_addWord 33 = .ok (.aload_n 0, 1) := by decide +kernel
theorem dX8_addWord_34 : decode cX8_addWord 34 = .ok (.dup, 1) := by decide +kernel
theorem dX8_addWord_35 : decode cX8_addWord 35 = .ok (.getfield 15, 3) := by decide +kernel
theorem dX8_addWord_38 : decode cX8_addWord 38 = .ok (.iconst 1, 1) := by decide +kernel
theorem dX8_addWord_39 : decode cX8_addWord 39 = .ok (.iadd, 1) := by decide +kernel
theorem dX8_addWord_40 : decode cX8_addWord 40 = .ok (.putfield 15, 3) := by decide +kernel
theorem dX8_addWord_43 : decode cX8_addWord 43 = .ok (.iinc 2 (-8), 3) := by decide +kernel
theorem dX8_addWord_46 : decode cX8_addWord 46 = .ok (.goto (-43), 3) := by decide +kernel
theorem dX8_addWord_49 : decode cX8_addWord 49 = .ok (.return_, 1) := by decide +kernel
set_option maxRecDepth 20000 in
set_option maxHeartbeats 4000000 in
theorem t_addWord_0 (E : xE) (l : Launch) (ws : va_W) {xt tb : Nat} {fb : Nat → Int32} (p_0 : Nat) (k_0 : ws[1]? = some (ob xt 7 [.ref tb, .int 0, .int 0, .int 0, .int 0])) (p_1 : Nat) (k_1 : ws[2]? = some (iA E tb 260 fb)) (v : Int32) : xV E l yX8_addWord cX8_addWord 3 0 0 0 [.ref xt, .int v] ws (fun w => keeps ws w (fun q => q = 1 ∨ q = 2) ∧ w[1]? = some (ob xt 7 [.ref tb, .int 4, .int 0, .int 0, .int 0]) ∧ (∃ fg : Nat → Int32, w[2]? = some (iA E tb 260 fg))) := by
  refine xV_start (lv := [(0, .ref xt), (1, .int v)]) RX8 (by decide) rfl (Nat.le_of_ble_eq_true rfl) rfl (fun p e s m below meth c A C hr hlk hin => ?_)
  have kp0 : keeps ws ws (fun q => q = 1 ∨ q = 2) := keeps_rf
  refine x_bipush C (v := 24) dX8_addWord_0 (by decide) rfl ?_
  refine x_istore_n C (lv' := [(2, .int 24), (0, .ref xt), (1, .int v)]) dX8_addWord_2 rfl (by decide) rfl rfl ?_
  refine x_iload_n C dX8_addWord_3 rfl 0 rfl rfl ?_
  refine x_if_lt C (tgt := 49) dX8_addWord_4 (by decide) rfl (fun h => absurd h (by decide)) (fun _ => ?_)
  refine x_aload_n C dX8_addWord_7 rfl 1 rfl rfl ?_
  refine x_get C (ci := 7) (k := 1) 1 k_0 rfl in_X8 (by decide) w_37 rfl dX8_addWord_8 rfl ?_
  refine x_sipush C (v := 260) dX8_addWord_11 (by decide) rfl ?_
  refine x_icmp_ge C (tgt := 49) dX8_addWord_14 (by decide) rfl (fun h => absurd h (by decide)) (fun _ => ?_)
  refine x_aload_n C dX8_addWord_17 rfl 1 rfl rfl ?_
  refine x_get C (ci := 7) (k := 0) 1 k_0 rfl in_X8 (by decide) w_36 rfl dX8_addWord_18 rfl ?_
  refine x_aload_n C dX8_addWord_21 rfl 1 rfl rfl ?_
  refine x_get C (ci := 7) (k := 1) 1 k_0 rfl in_X8 (by decide) w_37 rfl dX8_addWord_22 rfl ?_
  refine x_iload_n C dX8_addWord_25 rfl 2 rfl rfl ?_
  refine x_iload_n C dX8_addWord_26 rfl 0 rfl rfl ?_
  refine x_iushr C (v := (v.toUInt32 >>> ((24 : Int32).toUInt32 &&& Int32.toUInt32 31)).toInt32) dX8_addWord_27 rfl rfl ?_
  refine x_sipush C (v := 255) dX8_addWord_28 (by decide) rfl ?_
  refine x_iand C (v := ((v.toUInt32 >>> ((24 : Int32).toUInt32 &&& Int32.toUInt32 31)).toInt32 &&& (255 : Int32))) dX8_addWord_31 rfl rfl ?_
  obtain ⟨w1, hw2⟩ : ∃ w : va_W, w = List.set ws 2 (iA E tb 260 (upd fb 0 ((v.toUInt32 >>> ((24 : Int32).toUInt32 &&& Int32.toUInt32 31)).toInt32 &&& (255 : Int32)))) := ⟨_, rfl⟩
  refine x_iask C 0 (by decide) (by decide) (by decide) 2 k_1 hw2.symm dX8_addWord_32 rfl ?_
  have k3 : w1[1]? = some (ob xt 7 [.ref tb, .int 0, .int 0, .int 0, .int 0]) := by rw [hw2]; exact set_ne k_0 (by decide)
  have k4 : w1[2]? = some (iA E tb 260 (upd fb 0 ((v.toUInt32 >>> ((24 : Int32).toUInt32 &&& Int32.toUInt32 31)).toInt32 &&& (255 : Int32)))) := by rw [hw2]; exact set_eq k_1
  have kp5 := keeps_set kp0 hw2 (by first | exact rfl | decide | omega | (dsimp only; omega))
  refine x_aload_n C dX8_addWord_33 rfl 1 rfl rfl ?_
  refine x_dup C dX8_addWord_34 rfl rfl ?_
  refine x_get C (ci := 7) (k := 1) 1 k3 rfl in_X8 (by decide) w_37 rfl dX8_addWord_35 rfl ?_
  refine x_iconst C (v := 1) dX8_addWord_38 (by decide) rfl ?_
  refine x_iadd C (v := 1) dX8_addWord_39 (by decide) rfl ?_
  obtain ⟨w6, hw7⟩ : ∃ w : va_W, w = List.set w1 1 (ob xt 7 [.ref tb, .int 1, .int 0, .int 0, .int 0]) := ⟨_, rfl⟩
  refine x_put C (ci := 7) (k := 1) (ty := .int) 1 k3 rfl in_X8 tyX8 tyX8_ok nmX8 (by decide) w_37 rfl rfl rfl rfl (Nat.le_of_ble_eq_true rfl) hw7.symm dX8_addWord_40 rfl ?_
  have k8 : w6[1]? = some (ob xt 7 [.ref tb, .int 1, .int 0, .int 0, .int 0]) := by rw [hw7]; exact set_eq k3
  have k9 : w6[2]? = some (iA E tb 260 (upd fb 0 ((v.toUInt32 >>> ((24 : Int32).toUInt32 &&& Int32.toUInt32 31)).toInt32 &&& (255 : Int32)))) := by rw [hw7]; exact set_ne k4 (by decide)
  have kp10 := keeps_set kp5 hw7 (by first | exact rfl | decide | omega | (dsimp only; omega))
  refine x_iinc C (v := 16) (lv' := [(2, .int 16), (0, .ref xt), (1, .int v)]) dX8_addWord_43 0 rfl (by decide) (by decide) rfl rfl ?_
  refine x_goto C (tgt := 3) dX8_addWord_46 (by decide) ?_
  refine x_iload_n C dX8_addWord_3 rfl 0 rfl rfl ?_
  refine x_if_lt C (tgt := 49) dX8_addWord_4 (by decide) rfl (fun h => absurd h (by decide)) (fun _ => ?_)
  refine x_aload_n C dX8_addWord_7 rfl 1 rfl rfl ?_
  refine x_get C (ci := 7) (k := 1) 1 k8 rfl in_X8 (by decide) w_37 rfl dX8_addWord_8 rfl ?_
  refine x_sipush C (v := 260) dX8_addWord_11 (by decide) rfl ?_
  refine x_icmp_ge C (tgt := 49) dX8_addWord_14 (by decide) rfl (fun h => absurd h (by decide)) (fun _ => ?_)
  refine x_aload_n C dX8_addWord_17 rfl 1 rfl rfl ?_
  refine x_get C (ci := 7) (k := 0) 1 k8 rfl in_X8 (by decide) w_36 rfl dX8_addWord_18 rfl ?_
  refine x_aload_n C dX8_addWord_21 rfl 1 rfl rfl ?_
  refine x_get C (ci := 7) (k := 1) 1 k8 rfl in_X8 (by decide) w_37 rfl dX8_addWord_22 rfl ?_
  refine x_iload_n C dX8_addWord_25 rfl 2 rfl rfl ?_
  refine x_iload_n C dX8_addWord_26 rfl 0 rfl rfl ?_
  refine x_iushr C (v := (v.toUInt32 >>> ((16 : Int32).toUInt32 &&& Int32.toUInt32 31)).toInt32) dX8_addWord_27 rfl rfl ?_
  refine x_sipush C (v := 255) dX8_addWord_28 (by decide) rfl ?_
  refine x_iand C (v := ((v.toUInt32 >>> ((16 : Int32).toUInt32 &&& Int32.toUInt32 31)).toInt32 &&& (255 : Int32))) dX8_addWord_31 rfl rfl ?_
  obtain ⟨w11, hw12⟩ : ∃ w : va_W, w = List.set w6 2 (iA E tb 260 (upd (upd fb 0 ((v.toUInt32 >>> ((24 : Int32).toUInt32 &&& Int32.toUInt32 31)).toInt32 &&& (255 : Int32))) 1 ((v.toUInt32 >>> ((16 : Int32).toUInt32 &&& Int32.toUInt32 31)).toInt32 &&& (255 : Int32)))) := ⟨_, rfl⟩
  refine x_iask C 1 (by decide) (by decide) (by decide) 2 k9 hw12.symm dX8_addWord_32 rfl ?_
  have k13 : w11[1]? = some (ob xt 7 [.ref tb, .int 1, .int 0, .int 0, .int 0]) := by rw [hw12]; exact set_ne k8 (by decide)
  have k14 : w11[2]? = some (iA E tb 260 (upd (upd fb 0 ((v.toUInt32 >>> ((24 : Int32).toUInt32 &&& Int32.toUInt32 31)).toInt32 &&& (255 : Int32))) 1 ((v.toUInt32 >>> ((16 : Int32).toUInt32 &&& Int32.toUInt32 31)).toInt32 &&& (255 : Int32)))) := by rw [hw12]; exact set_eq k9
  have kp15 := keeps_set kp10 hw12 (by first | exact rfl | decide | omega | (dsimp only; omega))
  refine x_aload_n C dX8_addWord_33 rfl 1 rfl rfl ?_
  refine x_dup C dX8_addWord_34 rfl rfl ?_
  refine x_get C (ci := 7) (k := 1) 1 k13 rfl in_X8 (by decide) w_37 rfl dX8_addWord_35 rfl ?_
  refine x_iconst C (v := 1) dX8_addWord_38 (by decide) rfl ?_
  refine x_iadd C (v := 2) dX8_addWord_39 (by decide) rfl ?_
  obtain ⟨w16, hw17⟩ : ∃ w : va_W, w = List.set w11 1 (ob xt 7 [.ref tb, .int 2, .int 0, .int 0, .int 0]) := ⟨_, rfl⟩
  refine x_put C (ci := 7) (k := 1) (ty := .int) 1 k13 rfl in_X8 tyX8 tyX8_ok nmX8 (by decide) w_37 rfl rfl rfl rfl (Nat.le_of_ble_eq_true rfl) hw17.symm dX8_addWord_40 rfl ?_
  have k18 : w16[1]? = some (ob xt 7 [.ref tb, .int 2, .int 0, .int 0, .int 0]) := by rw [hw17]; exact set_eq k13
  have k19 : w16[2]? = some (iA E tb 260 (upd (upd fb 0 ((v.toUInt32 >>> ((24 : Int32).toUInt32 &&& Int32.toUInt32 31)).toInt32 &&& (255 : Int32))) 1 ((v.toUInt32 >>> ((16 : Int32).toUInt32 &&& Int32.toUInt32 31)).toInt32 &&& (255 : Int32)))) := by rw [hw17]; exact set_ne k14 (by decide)
  have kp20 := keeps_set kp15 hw17 (by first | exact rfl | decide | omega | (dsimp only; omega))
  refine x_iinc C (v := 8) (lv' := [(2, .int 8), (0, .ref xt), (1, .int v)]) dX8_addWord_43 0 rfl (by decide) (by decide) rfl rfl ?_
  refine x_goto C (tgt := 3) dX8_addWord_46 (by decide) ?_
  refine x_iload_n C dX8_addWord_3 rfl 0 rfl rfl ?_
  refine x_if_lt C (tgt := 49) dX8_addWord_4 (by decide) rfl (fun h => absurd h (by decide)) (fun _ => ?_)
  refine x_aload_n C dX8_addWord_7 rfl 1 rfl rfl ?_
  refine x_get C (ci := 7) (k := 1) 1 k18 rfl in_X8 (by decide) w_37 rfl dX8_addWord_8 rfl ?_
  refine x_sipush C (v := 260) dX8_addWord_11 (by decide) rfl ?_
  refine x_icmp_ge C (tgt := 49) dX8_addWord_14 (by decide) rfl (fun h => absurd h (by decide)) (fun _ => ?_)
  refine x_aload_n C dX8_addWord_17 rfl 1 rfl rfl ?_
  refine x_get C (ci := 7) (k := 0) 1 k18 rfl in_X8 (by decide) w_36 rfl dX8_addWord_18 rfl ?_
  refine x_aload_n C dX8_addWord_21 rfl 1 rfl rfl ?_
  refine x_get C (ci := 7) (k := 1) 1 k18 rfl in_X8 (by decide) w_37 rfl dX8_addWord_22 rfl ?_
  refine x_iload_n C dX8_addWord_25 rfl 2 rfl rfl ?_
  refine x_iload_n C dX8_addWord_26 rfl 0 rfl rfl ?_
  refine x_iushr C (v := (v.toUInt32 >>> ((8 : Int32).toUInt32 &&& Int32.toUInt32 31)).toInt32) dX8_addWord_27 rfl rfl ?_
  refine x_sipush C (v := 255) dX8_addWord_28 (by decide) rfl ?_
  refine x_iand C (v := ((v.toUInt32 >>> ((8 : Int32).toUInt32 &&& Int32.toUInt32 31)).toInt32 &&& (255 : Int32))) dX8_addWord_31 rfl rfl ?_
  obtain ⟨w21, hw22⟩ : ∃ w : va_W, w = List.set w16 2 (iA E tb 260 (upd (upd (upd fb 0 ((v.toUInt32 >>> ((24 : Int32).toUInt32 &&& Int32.toUInt32 31)).toInt32 &&& (255 : Int32))) 1 ((v.toUInt32 >>> ((16 : Int32).toUInt32 &&& Int32.toUInt32 31)).toInt32 &&& (255 : Int32))) 2 ((v.toUInt32 >>> ((8 : Int32).toUInt32 &&& Int32.toUInt32 31)).toInt32 &&& (255 : Int32)))) := ⟨_, rfl⟩
  refine x_iask C 2 (by decide) (by decide) (by decide) 2 k19 hw22.symm dX8_addWord_32 rfl ?_
  have k23 : w21[1]? = some (ob xt 7 [.ref tb, .int 2, .int 0, .int 0, .int 0]) := by rw [hw22]; exact set_ne k18 (by decide)
  have k24 : w21[2]? = some (iA E tb 260 (upd (upd (upd fb 0 ((v.toUInt32 >>> ((24 : Int32).toUInt32 &&& Int32.toUInt32 31)).toInt32 &&& (255 : Int32))) 1 ((v.toUInt32 >>> ((16 : Int32).toUInt32 &&& Int32.toUInt32 31)).toInt32 &&& (255 : Int32))) 2 ((v.toUInt32 >>> ((8 : Int32).toUInt32 &&& Int32.toUInt32 31)).toInt32 &&& (255 : Int32)))) := by rw [hw22]; exact set_eq k19
  have kp25 := keeps_set kp20 hw22 (by first | exact rfl | decide | omega | (dsimp only; omega))
  refine x_aload_n C dX8_addWord_33 rfl 1 rfl rfl ?_
  refine x_dup C dX8_addWord_34 rfl rfl ?_
  refine x_get C (ci := 7) (k := 1) 1 k23 rfl in_X8 (by decide) w_37 rfl dX8_addWord_35 rfl ?_
  refine x_iconst C (v := 1) dX8_addWord_38 (by decide) rfl ?_
  refine x_iadd C (v := 3) dX8_addWord_39 (by decide) rfl ?_
  obtain ⟨w26, hw27⟩ : ∃ w : va_W, w = List.set w21 1 (ob xt 7 [.ref tb, .int 3, .int 0, .int 0, .int 0]) := ⟨_, rfl⟩
  refine x_put C (ci := 7) (k := 1) (ty := .int) 1 k23 rfl in_X8 tyX8 tyX8_ok nmX8 (by decide) w_37 rfl rfl rfl rfl (Nat.le_of_ble_eq_true rfl) hw27.symm dX8_addWord_40 rfl ?_
  have k28 : w26[1]? = some (ob xt 7 [.ref tb, .int 3, .int 0, .int 0, .int 0]) := by rw [hw27]; exact set_eq k23
  have k29 : w26[2]? = some (iA E tb 260 (upd (upd (upd fb 0 ((v.toUInt32 >>> ((24 : Int32).toUInt32 &&& Int32.toUInt32 31)).toInt32 &&& (255 : Int32))) 1 ((v.toUInt32 >>> ((16 : Int32).toUInt32 &&& Int32.toUInt32 31)).toInt32 &&& (255 : Int32))) 2 ((v.toUInt32 >>> ((8 : Int32).toUInt32 &&& Int32.toUInt32 31)).toInt32 &&& (255 : Int32)))) := by rw [hw27]; exact set_ne k24 (by decide)
  have kp30 := keeps_set kp25 hw27 (by first | exact rfl | decide | omega | (dsimp only; omega))
  refine x_iinc C (v := 0) (lv' := [(2, .int 0), (0, .ref xt), (1, .int v)]) dX8_addWord_43 0 rfl (by decide) (by decide) rfl rfl ?_
  refine x_goto C (tgt := 3) dX8_addWord_46 (by decide) ?_
  refine x_iload_n C dX8_addWord_3 rfl 0 rfl rfl ?_
  refine x_if_lt C (tgt := 49) dX8_addWord_4 (by decide) rfl (fun h => absurd h (by decide)) (fun _ => ?_)
  refine x_aload_n C dX8_addWord_7 rfl 1 rfl rfl ?_
  refine x_get C (ci := 7) (k := 1) 1 k28 rfl in_X8 (by decide) w_37 rfl dX8_addWord_8 rfl ?_
  refine x_sipush C (v := 260) dX8_addWord_11 (by decide) rfl ?_
  refine x_icmp_ge C (tgt := 49) dX8_addWord_14 (by decide) rfl (fun h => absurd h (by decide)) (fun _ => ?_)
  refine x_aload_n C dX8_addWord_17 rfl 1 rfl rfl ?_
  refine x_get C (ci := 7) (k := 0) 1 k28 rfl in_X8 (by decide) w_36 rfl dX8_addWord_18 rfl ?_
  refine x_aload_n C dX8_addWord_21 rfl 1 rfl rfl ?_
  refine x_get C (ci := 7) (k := 1) 1 k28 rfl in_X8 (by decide) w_37 rfl dX8_addWord_22 rfl ?_
  refine x_iload_n C dX8_addWord_25 rfl 2 rfl rfl ?_
  refine x_iload_n C dX8_addWord_26 rfl 0 rfl rfl ?_
  refine x_iushr C (v := (v.toUInt32 >>> ((0 : Int32).toUInt32 &&& Int32.toUInt32 31)).toInt32) dX8_addWord_27 rfl rfl ?_
  refine x_sipush C (v := 255) dX8_addWord_28 (by decide) rfl ?_
  refine x_iand C (v := ((v.toUInt32 >>> ((0 : Int32).toUInt32 &&& Int32.toUInt32 31)).toInt32 &&& (255 : Int32))) dX8_addWord_31 rfl rfl ?_
  obtain ⟨w31, hw32⟩ : ∃ w : va_W, w = List.set w26 2 (iA E tb 260 (upd (upd (upd (upd fb 0 ((v.toUInt32 >>> ((24 : Int32).toUInt32 &&& Int32.toUInt32 31)).toInt32 &&& (255 : Int32))) 1 ((v.toUInt32 >>> ((16 : Int32).toUInt32 &&& Int32.toUInt32 31)).toInt32 &&& (255 : Int32))) 2 ((v.toUInt32 >>> ((8 : Int32).toUInt32 &&& Int32.toUInt32 31)).toInt32 &&& (255 : Int32))) 3 ((v.toUInt32 >>> ((0 : Int32).toUInt32 &&& Int32.toUInt32 31)).toInt32 &&& (255 : Int32)))) := ⟨_, rfl⟩
  refine x_iask C 3 (by decide) (by decide) (by decide) 2 k29 hw32.symm dX8_addWord_32 rfl ?_
  have k33 : w31[1]? = some (ob xt 7 [.ref tb, .int 3, .int 0, .int 0, .int 0]) := by rw [hw32]; exact set_ne k28 (by decide)
  have k34 : w31[2]? = some (iA E tb 260 (upd (upd (upd (upd fb 0 ((v.toUInt32 >>> ((24 : Int32).toUInt32 &&& Int32.toUInt32 31)).toInt32 &&& (255 : Int32))) 1 ((v.toUInt32 >>> ((16 : Int32).toUInt32 &&& Int32.toUInt32 31)).toInt32 &&& (255 : Int32))) 2 ((v.toUInt32 >>> ((8 : Int32).toUInt32 &&& Int32.toUInt32 31)).toInt32 &&& (255 : Int32))) 3 ((v.toUInt32 >>> ((0 : Int32).toUInt32 &&& Int32.toUInt32 31)).toInt32 &&& (255 : Int32)))) := by rw [hw32]; exact set_eq k29
  have kp35 := keeps_set kp30 hw32 (by first | exact rfl | decide | omega | (dsimp only; omega))
  refine x_aload_n C dX8_addWord_33 rfl 1 rfl rfl ?_
  refine x_dup C dX8_addWord_34 rfl rfl ?_
  refine x_get C (ci := 7) (k := 1) 1 k33 rfl in_X8 (by decide) w_37 rfl dX8_addWord_35 rfl ?_
  refine x_iconst C (v := 1) dX8_addWord_38 (by decide) rfl ?_
  refine x_iadd C (v := 4) dX8_addWord_39 (by decide) rfl ?_
  obtain ⟨w36, hw37⟩ : ∃ w : va_W, w = List.set w31 1 (ob xt 7 [.ref tb, .int 4, .int 0, .int 0, .int 0]) := ⟨_, rfl⟩
  refine x_put C (ci := 7) (k := 1) (ty := .int) 1 k33 rfl in_X8 tyX8 tyX8_ok nmX8 (by decide) w_37 rfl rfl rfl rfl (Nat.le_of_ble_eq_true rfl) hw37.symm dX8_addWord_40 rfl ?_
  have k38 : w36[1]? = some (ob xt 7 [.ref tb, .int 4, .int 0, .int 0, .int 0]) := by rw [hw37]; exact set_eq k33
  have k39 : w36[2]? = some (iA E tb 260 (upd (upd (upd (upd fb 0 ((v.toUInt32 >>> ((24 : Int32).toUInt32 &&& Int32.toUInt32 31)).toInt32 &&& (255 : Int32))) 1 ((v.toUInt32 >>> ((16 : Int32).toUInt32 &&& Int32.toUInt32 31)).toInt32 &&& (255 : Int32))) 2 ((v.toUInt32 >>> ((8 : Int32).toUInt32 &&& Int32.toUInt32 31)).toInt32 &&& (255 : Int32))) 3 ((v.toUInt32 >>> ((0 : Int32).toUInt32 &&& Int32.toUInt32 31)).toInt32 &&& (255 : Int32)))) := by rw [hw37]; exact set_ne k34 (by decide)
  have kp40 := keeps_set kp35 hw37 (by first | exact rfl | decide | omega | (dsimp only; omega))
  refine x_iinc C (v := (-8)) (lv' := [(2, .int (-8)), (0, .ref xt), (1, .int v)]) dX8_addWord_43 0 rfl (by decide) (by decide) rfl rfl ?_
  refine x_goto C (tgt := 3) dX8_addWord_46 (by decide) ?_
  refine x_iload_n C dX8_addWord_3 rfl 0 rfl rfl ?_
  refine x_if_lt C (tgt := 49) dX8_addWord_4 (by decide) rfl (fun _ => ?_) (fun h => absurd h (by decide))
  exact x_vret C hr hlk dX8_addWord_49 ⟨kp40, k38, ⟨_, k39⟩⟩
set_option maxRecDepth 20000 in
set_option maxHeartbeats 4000000 in
theorem t_addWord_4 (E : xE) (l : Launch) (ws : va_W) {xt tb : Nat} {fb : Nat → Int32} (p_0 : Nat) (k_0 : ws[1]? = some (ob xt 7 [.ref tb, .int 4, .int 0, .int 0, .int 0])) (p_1 : Nat) (k_1 : ws[2]? = some (iA E tb 260 fb)) (v : Int32) : xV E l yX8_addWord cX8_addWord 3 0 0 0 [.ref xt, .int v] ws (fun w => keeps ws w (fun q => q = 1 ∨ q = 2) ∧ w[1]? = some (ob xt 7 [.ref tb, .int 8, .int 0, .int 0, .int 0]) ∧ (∃ fg : Nat → Int32, w[2]? = some (iA E tb 260 fg))) := by
  refine xV_start (lv := [(0, .ref xt), (1, .int v)]) RX8 (by decide) rfl (Nat.le_of_ble_eq_true rfl) rfl (fun p e s m below meth c A C hr hlk hin => ?_)
  have kp0 : keeps ws ws (fun q => q = 1 ∨ q = 2) := keeps_rf
  refine x_bipush C (v := 24) dX8_addWord_0 (by decide) rfl ?_
  refine x_istore_n C (lv' := [(2, .int 24), (0, .ref xt), (1, .int v)]) dX8_addWord_2 rfl (by decide) rfl rfl ?_
  refine x_iload_n C dX8_addWord_3 rfl 0 rfl rfl ?_
  refine x_if_lt C (tgt := 49) dX8_addWord_4 (by decide) rfl (fun h => absurd h (by decide)) (fun _ => ?_)
  refine x_aload_n C dX8_addWord_7 rfl 1 rfl rfl ?_
  refine x_get C (ci := 7) (k := 1) 1 k_0 rfl in_X8 (by decide) w_37 rfl dX8_addWord_8 rfl ?_
  refine x_sipush C (v := 260) dX8_addWord_11 (by decide) rfl ?_
  refine x_icmp_ge C (tgt := 49) dX8_addWord_14 (by decide) rfl (fun h => absurd h (by decide)) (fun _ => ?_)
  refine x_aload_n C dX8_addWord_17 rfl 1 rfl rfl ?_
  refine x_get C (ci := 7) (k := 0) 1 k_0 rfl in_X8 (by decide) w_36 rfl dX8_addWord_18 rfl ?_
  refine x_aload_n C dX8_addWord_21 rfl 1 rfl rfl ?_
  refine x_get C (ci := 7) (k := 1) 1 k_0 rfl in_X8 (by decide) w_37 rfl dX8_addWord_22 rfl ?_
  refine x_iload_n C dX8_addWord_25 rfl 2 rfl rfl ?_
  refine x_iload_n C dX8_addWord_26 rfl 0 rfl rfl ?_
  refine x_iushr C (v := (v.toUInt32 >>> ((24 : Int32).toUInt32 &&& Int32.toUInt32 31)).toInt32) dX8_addWord_27 rfl rfl ?_
  refine x_sipush C (v := 255) dX8_addWord_28 (by decide) rfl ?_
  refine x_iand C (v := ((v.toUInt32 >>> ((24 : Int32).toUInt32 &&& Int32.toUInt32 31)).toInt32 &&& (255 : Int32))) dX8_addWord_31 rfl rfl ?_
  obtain ⟨w1, hw2⟩ : ∃ w : va_W, w = List.set ws 2 (iA E tb 260 (upd fb 4 ((v.toUInt32 >>> ((24 : Int32).toUInt32 &&& Int32.toUInt32 31)).toInt32 &&& (255 : Int32)))) := ⟨_, rfl⟩
  refine x_iask C 4 (by decide) (by decide) (by decide) 2 k_1 hw2.symm dX8_addWord_32 rfl ?_
  have k3 : w1[1]? = some (ob xt 7 [.ref tb, .int 4, .int 0, .int 0, .int 0]) := by rw [hw2]; exact set_ne k_0 (by decide)
  have k4 : w1[2]? = some (iA E tb 260 (upd fb 4 ((v.toUInt32 >>> ((24 : Int32).toUInt32 &&& Int32.toUInt32 31)).toInt32 &&& (255 : Int32)))) := by rw [hw2]; exact set_eq k_1
  have kp5 := keeps_set kp0 hw2 (by first | exact rfl | decide | omega | (dsimp only; omega))
  refine x_aload_n C dX8_addWord_33 rfl 1 rfl rfl ?_
  refine x_dup C dX8_addWord_34 rfl rfl ?_
  refine x_get C (ci := 7) (k := 1) 1 k3 rfl in_X8 (by decide) w_37 rfl dX8_addWord_35 rfl ?_
  refine x_iconst C (v := 1) dX8_addWord_38 (by decide) rfl ?_
  refine x_iadd C (v := 5) dX8_addWord_39 (by decide) rfl ?_
  obtain ⟨w6, hw7⟩ : ∃ w : va_W, w = List.set w1 1 (ob xt 7 [.ref tb, .int 5, .int 0, .int 0, .int 0]) := ⟨_, rfl⟩
  refine x_put C (ci := 7) (k := 1) (ty := .int) 1 k3 rfl in_X8 tyX8 tyX8_ok nmX8 (by decide) w_37 rfl rfl rfl rfl (Nat.le_of_ble_eq_true rfl) hw7.symm dX8_addWord_40 rfl ?_
  have k8 : w6[1]? = some (ob xt 7 [.ref tb, .int 5, .int 0, .int 0, .int 0]) := by rw [hw7]; exact set_eq k3
  have k9 : w6[2]? = some (iA E tb 260 (upd fb 4 ((v.toUInt32 >>> ((24 : Int32).toUInt32 &&& Int32.toUInt32 31)).toInt32 &&& (255 : Int32)))) := by rw [hw7]; exact set_ne k4 (by decide)
  have kp10 := keeps_set kp5 hw7 (by first | exact rfl | decide | omega | (dsimp only; omega))
  refine x_iinc C (v := 16) (lv' := [(2, .int 16), (0, .ref xt), (1, .int v)]) dX8_addWord_43 0 rfl (by decide) (by decide) rfl rfl ?_
  refine x_goto C (tgt := 3) dX8_addWord_46 (by decide) ?_
  refine x_iload_n C dX8_addWord_3 rfl 0 rfl rfl ?_
  refine x_if_lt C (tgt := 49) dX8_addWord_4 (by decide) rfl (fun h => absurd h (by decide)) (fun _ => ?_)
  refine x_aload_n C dX8_addWord_7 rfl 1 rfl rfl ?_
  refine x_get C (ci := 7) (k := 1) 1 k8 rfl in_X8 (by decide) w_37 rfl dX8_addWord_8 rfl ?_
  refine x_sipush C (v := 260) dX8_addWord_11 (by decide) rfl ?_
  refine x_icmp_ge C (tgt := 49) dX8_addWord_14 (by decide) rfl (fun h => absurd h (by decide)) (fun _ => ?_)
  refine x_aload_n C dX8_addWord_17 rfl 1 rfl rfl ?_
  refine x_get C (ci := 7) (k := 0) 1 k8 rfl in_X8 (by decide) w_36 rfl dX8_addWord_18 rfl ?_
  refine x_aload_n C dX8_addWord_21 rfl 1 rfl rfl ?_
  refine x_get C (ci := 7) (k := 1) 1 k8 rfl in_X8 (by decide) w_37 rfl dX8_addWord_22 rfl ?_
  refine x_iload_n C dX8_addWord_25 rfl 2 rfl rfl ?_
  refine x_iload_n C dX8_addWord_26 rfl 0 rfl rfl ?_
  refine x_iushr C (v := (v.toUInt32 >>> ((16 : Int32).toUInt32 &&& Int32.toUInt32 31)).toInt32) dX8_addWord_27 rfl rfl ?_
  refine x_sipush C (v := 255) dX8_addWord_28 (by decide) rfl ?_
  refine x_iand C (v := ((v.toUInt32 >>> ((16 : Int32).toUInt32 &&& Int32.toUInt32 31)).toInt32 &&& (255 : Int32))) dX8_addWord_31 rfl rfl ?_
  obtain ⟨w11, hw12⟩ : ∃ w : va_W, w = List.set w6 2 (iA E tb 260 (upd (upd fb 4 ((v.toUInt32 >>> ((24 : Int32).toUInt32 &&& Int32.toUInt32 31)).toInt32 &&& (255 : Int32))) 5 ((v.toUInt32 >>> ((16 : Int32).toUInt32 &&& Int32.toUInt32 31)).toInt32 &&& (255 : Int32)))) := ⟨_, rfl⟩
  refine x_iask C 5 (by decide) (by decide) (by decide) 2 k9 hw12.symm dX8_addWord_32 rfl ?_
  have k13 : w11[1]? = some (ob xt 7 [.ref tb, .int 5, .int 0, .int 0, .int 0]) := by rw [hw12]; exact set_ne k8 (by decide)
  have k14 : w11[2]? = some (iA E tb 260 (upd (upd fb 4 ((v.toUInt32 >>> ((24 : Int32).toUInt32 &&& Int32.toUInt32 31)).toInt32 &&& (255 : Int32))) 5 ((v.toUInt32 >>> ((16 : Int32).toUInt32 &&& Int32.toUInt32 31)).toInt32 &&& (255 : Int32)))) := by rw [hw12]; exact set_eq k9
  have kp15 := keeps_set kp10 hw12 (by first | exact rfl | decide | omega | (dsimp only; omega))
  refine x_aload_n C dX8_addWord_33 rfl 1 rfl rfl ?_
  refine x_dup C dX8_addWord_34 rfl rfl ?_
  refine x_get C (ci := 7) (k := 1) 1 k13 rfl in_X8 (by decide) w_37 rfl dX8_addWord_35 rfl ?_
  refine x_iconst C (v := 1) dX8_addWord_38 (by decide) rfl ?_
  refine x_iadd C (v := 6) dX8_addWord_39 (by decide) rfl ?_
  obtain ⟨w16, hw17⟩ : ∃ w : va_W, w = List.set w11 1 (ob xt 7 [.ref tb, .int 6, .int 0, .int 0, .int 0]) := ⟨_, rfl⟩
  refine x_put C (ci := 7) (k := 1) (ty := .int) 1 k13 rfl in_X8 tyX8 tyX8_ok nmX8 (by decide) w_37 rfl rfl rfl rfl (Nat.le_of_ble_eq_true rfl) hw17.symm dX8_addWord_40 rfl ?_
  have k18 : w16[1]? = some (ob xt 7 [.ref tb, .int 6, .int 0, .int 0, .int 0]) := by rw [hw17]; exact set_eq k13
  have k19 : w16[2]? = some (iA E tb 260 (upd (upd fb 4 ((v.toUInt32 >>> ((24 : Int32).toUInt32 &&& Int32.toUInt32 31)).toInt32 &&& (255 : Int32))) 5 ((v.toUInt32 >>> ((16 : Int32).toUInt32 &&& Int32.toUInt32 31)).toInt32 &&& (255 : Int32)))) := by rw [hw17]; exact set_ne k14 (by decide)
  have kp20 := keeps_set kp15 hw17 (by first | exact rfl | decide | omega | (dsimp only; omega))
  refine x_iinc C (v := 8) (lv' := [(2, .int 8), (0, .ref xt), (1, .int v)]) dX8_addWord_43 0 rfl (by decide) (by decide) rfl rfl ?_
  refine x_goto C (tgt := 3) dX8_addWord_46 (by decide) ?_
  refine x_iload_n C dX8_addWord_3 rfl 0 rfl rfl ?_
  refine x_if_lt C (tgt := 49) dX8_addWord_4 (by decide) rfl (fun h => absurd h (by decide)) (fun _ => ?_)
  refine x_aload_n C dX8_addWord_7 rfl 1 rfl rfl ?_
  refine x_get C (ci := 7) (k := 1) 1 k18 rfl in_X8 (by decide) w_37 rfl dX8_addWord_8 rfl ?_
  refine x_sipush C (v := 260) dX8_addWord_11 (by decide) rfl ?_
  refine x_icmp_ge C (tgt := 49) dX8_addWord_14 (by decide) rfl (fun h => absurd h (by decide)) (fun _ => ?_)
  refine x_aload_n C dX8_addWord_17 rfl 1 rfl rfl ?_
  refine x_get C (ci := 7) (k := 0) 1 k18 rfl in_X8 (by decide) w_36 rfl dX8_addWord_18 rfl ?_
  refine x_aload_n C dX8_addWord_21 rfl 1 rfl rfl ?_
  refine x_get C (ci := 7) (k := 1) 1 k18 rfl in_X8 (by decide) w_37 rfl dX8_addWord_22 rfl ?_
  refine x_iload_n C dX8_addWord_25 rfl 2 rfl rfl ?_
  refine x_iload_n C dX8_addWord_26 rfl 0 rfl rfl ?_
  refine x_iushr C (v := (v.toUInt32 >>> ((8 : Int32).toUInt32 &&& Int32.toUInt32 31)).toInt32) dX8_addWord_27 rfl rfl ?_
  refine x_sipush C (v := 255) dX8_addWord_28 (by decide) rfl ?_
  refine x_iand C (v := ((v.toUInt32 >>> ((8 : Int32).toUInt32 &&& Int32.toUInt32 31)).toInt32 &&& (255 : Int32))) dX8_addWord_31 rfl rfl ?_
  obtain ⟨w21, hw22⟩ : ∃ w : va_W, w = List.set w16 2 (iA E tb 260 (upd (upd (upd fb 4 ((v.toUInt32 >>> ((24 : Int32).toUInt32 &&& Int32.toUInt32 31)).toInt32 &&& (255 : Int32))) 5 ((v.toUInt32 >>> ((16 : Int32).toUInt32 &&& Int32.toUInt32 31)).toInt32 &&& (255 : Int32))) 6 ((v.toUInt32 >>> ((8 : Int32).toUInt32 &&& Int32.toUInt32 31)).toInt32 &&& (255 : Int32)))) := ⟨_, rfl⟩
  refine x_iask C 6 (by decide) (by decide) (by decide) 2 k19 hw22.symm dX8_addWord_32 rfl ?_
  have k23 : w21[1]? = some (ob xt 7 [.ref tb, .int 6, .int 0, .int 0, .int 0]) := by rw [hw22]; exact set_ne k18 (by decide)
  have k24 : w21[2]? = some (iA E tb 260 (upd (upd (upd fb 4 ((v.toUInt32 >>> ((24 : Int32).toUInt32 &&& Int32.toUInt32 31)).toInt32 &&& (255 : Int32))) 5 ((v.toUInt32 >>> ((16 : Int32).toUInt32 &&& Int32.toUInt32 31)).toInt32 &&& (255 : Int32))) 6 ((v.toUInt32 >>> ((8 : Int32).toUInt32 &&& Int32.toUInt32 31)).toInt32 &&& (255 : Int32)))) := by rw [hw22]; exact set_eq k19
  have kp25 := keeps_set kp20 hw22 (by first | exact rfl | decide | omega | (dsimp only; omega))
  refine x_aload_n C dX8_addWord_33 rfl 1 rfl rfl ?_
  refine x_dup C dX8_addWord_34 rfl rfl ?_
  refine x_get C (ci := 7) (k := 1) 1 k23 rfl in_X8 (by decide) w_37 rfl dX8_addWord_35 rfl ?_
  refine x_iconst C (v := 1) dX8_addWord_38 (by decide) rfl ?_
  refine x_iadd C (v := 7) dX8_addWord_39 (by decide) rfl ?_
  obtain ⟨w26, hw27⟩ : ∃ w : va_W, w = List.set w21 1 (ob xt 7 [.ref tb, .int 7, .int 0, .int 0, .int 0]) := ⟨_, rfl⟩
  refine x_put C (ci := 7) (k := 1) (ty := .int) 1 k23 rfl in_X8 tyX8 tyX8_ok nmX8 (by decide) w_37 rfl rfl rfl rfl (Nat.le_of_ble_eq_true rfl) hw27.symm dX8_addWord_40 rfl ?_
  have k28 : w26[1]? = some (ob xt 7 [.ref tb, .int 7, .int 0, .int 0, .int 0]) := by rw [hw27]; exact set_eq k23
  have k29 : w26[2]? = some (iA E tb 260 (upd (upd (upd fb 4 ((v.toUInt32 >>> ((24 : Int32).toUInt32 &&& Int32.toUInt32 31)).toInt32 &&& (255 : Int32))) 5 ((v.toUInt32 >>> ((16 : Int32).toUInt32 &&& Int32.toUInt32 31)).toInt32 &&& (255 : Int32))) 6 ((v.toUInt32 >>> ((8 : Int32).toUInt32 &&& Int32.toUInt32 31)).toInt32 &&& (255 : Int32)))) := by rw [hw27]; exact set_ne k24 (by decide)
  have kp30 := keeps_set kp25 hw27 (by first | exact rfl | decide | omega | (dsimp only; omega))
  refine x_iinc C (v := 0) (lv' := [(2, .int 0), (0, .ref xt), (1, .int v)]) dX8_addWord_43 0 rfl (by decide) (by decide) rfl rfl ?_
  refine x_goto C (tgt := 3) dX8_addWord_46 (by decide) ?_
  refine x_iload_n C dX8_addWord_3 rfl 0 rfl rfl ?_
  refine x_if_lt C (tgt := 49) dX8_addWord_4 (by decide) rfl (fun h => absurd h (by decide)) (fun _ => ?_)
  refine x_aload_n C dX8_addWord_7 rfl 1 rfl rfl ?_
  refine x_get C (ci := 7) (k := 1) 1 k28 rfl in_X8 (by decide) w_37 rfl dX8_addWord_8 rfl ?_
  refine x_sipush C (v := 260) dX8_addWord_11 (by decide) rfl ?_
  refine x_icmp_ge C (tgt := 49) dX8_addWord_14 (by decide) rfl (fun h => absurd h (by decide)) (fun _ => ?_)
  refine x_aload_n C dX8_addWord_17 rfl 1 rfl rfl ?_
  refine x_get C (ci := 7) (k := 0) 1 k28 rfl in_X8 (by decide) w_36 rfl dX8_addWord_18 rfl ?_
  refine x_aload_n C dX8_addWord_21 rfl 1 rfl rfl ?_
  refine x_get C (ci := 7) (k := 1) 1 k28 rfl in_X8 (by decide) w_37 rfl dX8_addWord_22 rfl ?_
  refine x_iload_n C dX8_addWord_25 rfl 2 rfl rfl ?_
  refine x_iload_n C dX8_addWord_26 rfl 0 rfl rfl ?_
  refine x_iushr C (v := (v.toUInt32 >>> ((0 : Int32).toUInt32 &&& Int32.toUInt32 31)).toInt32) dX8_addWord_27 rfl rfl ?_
  refine x_sipush C (v := 255) dX8_addWord_28 (by decide) rfl ?_
  refine x_iand C (v := ((v.toUInt32 >>> ((0 : Int32).toUInt32 &&& Int32.toUInt32 31)).toInt32 &&& (255 : Int32))) dX8_addWord_31 rfl rfl ?_
  obtain ⟨w31, hw32⟩ : ∃ w : va_W, w = List.set w26 2 (iA E tb 260 (upd (upd (upd (upd fb 4 ((v.toUInt32 >>> ((24 : Int32).toUInt32 &&& Int32.toUInt32 31)).toInt32 &&& (255 : Int32))) 5 ((v.toUInt32 >>> ((16 : Int32).toUInt32 &&& Int32.toUInt32 31)).toInt32 &&& (255 : Int32))) 6 ((v.toUInt32 >>> ((8 : Int32).toUInt32 &&& Int32.toUInt32 31)).toInt32 &&& (255 : Int32))) 7 ((v.toUInt32 >>> ((0 : Int32).toUInt32 &&& Int32.toUInt32 31)).toInt32 &&& (255 : Int32)))) := ⟨_, rfl⟩
  refine x_iask C 7 (by decide) (by decide) (by decide) 2 k29 hw32.symm dX8_addWord_32 rfl ?_
  have k33 : w31[1]? = some (ob xt 7 [.ref tb, .int 7, .int 0, .int 0, .int 0]) := by rw [hw32]; exact set_ne k28 (by decide)
  have k34 : w31[2]? = some (iA E tb 260 (upd (upd (upd (upd fb 4 ((v.toUInt32 >>> ((24 : Int32).toUInt32 &&& Int32.toUInt32 31)).toInt32 &&& (255 : Int32))) 5 ((v.toUInt32 >>> ((16 : Int32).toUInt32 &&& Int32.toUInt32 31)).toInt32 &&& (255 : Int32))) 6 ((v.toUInt32 >>> ((8 : Int32).toUInt32 &&& Int32.toUInt32 31)).toInt32 &&& (255 : Int32))) 7 ((v.toUInt32 >>> ((0 : Int32).toUInt32 &&& Int32.toUInt32 31)).toInt32 &&& (255 : Int32)))) := by rw [hw32]; exact set_eq k29
  have kp35 := keeps_set kp30 hw32 (by first | exact rfl | decide | omega | (dsimp only; omega))
  refine x_aload_n C dX8_addWord_33 rfl 1 rfl rfl ?_
  refine x_dup C dX8_addWord_34 rfl rfl ?_
  refine x_get C (ci := 7) (k := 1) 1 k33 rfl in_X8 (by decide) w_37 rfl dX8_addWord_35 rfl ?_
  refine x_iconst C (v := 1) dX8_addWord_38 (by decide) rfl ?_
  refine x_iadd C (v := 8) dX8_addWord_39 (by decide) rfl ?_
  obtain ⟨w36, hw37⟩ : ∃ w : va_W, w = List.set w31 1 (ob xt 7 [.ref tb, .int 8, .int 0, .int 0, .int 0]) := ⟨_, rfl⟩
  refine x_put C (ci := 7) (k := 1) (ty := .int) 1 k33 rfl in_X8 tyX8 tyX8_ok nmX8 (by decide) w_37 rfl rfl rfl rfl (Nat.le_of_ble_eq_true rfl) hw37.symm dX8_addWord_40 rfl ?_
  have k38 : w36[1]? = some (ob xt 7 [.ref tb, .int 8, .int 0, .int 0, .int 0]) := by rw [hw37]; exact set_eq k33
  have k39 : w36[2]? = some (iA E tb 260 (upd (upd (upd (upd fb 4 ((v.toUInt32 >>> ((24 : Int32).toUInt32 &&& Int32.toUInt32 31)).toInt32 &&& (255 : Int32))) 5 ((v.toUInt32 >>> ((16 : Int32).toUInt32 &&& Int32.toUInt32 31)).toInt32 &&& (255 : Int32))) 6 ((v.toUInt32 >>> ((8 : Int32).toUInt32 &&& Int32.toUInt32 31)).toInt32 &&& (255 : Int32))) 7 ((v.toUInt32 >>> ((0 : Int32).toUInt32 &&& Int32.toUInt32 31)).toInt32 &&& (255 : Int32)))) := by rw [hw37]; exact set_ne k34 (by decide)
  have kp40 := keeps_set kp35 hw37 (by first | exact rfl | decide | omega | (dsimp only; omega))
  refine x_iinc C (v := (-8)) (lv' := [(2, .int (-8)), (0, .ref xt), (1, .int v)]) dX8_addWord_43 0 rfl (by decide) (by decide) rfl rfl ?_
  refine x_goto C (tgt := 3) dX8_addWord_46 (by decide) ?_
  refine x_iload_n C dX8_addWord_3 rfl 0 rfl rfl ?_
  refine x_if_lt C (tgt := 49) dX8_addWord_4 (by decide) rfl (fun _ => ?_) (fun h => absurd h (by decide))
  exact x_vret C hr hlk dX8_addWord_49 ⟨kp40, k38, ⟨_, k39⟩⟩
set_option maxRecDepth 20000 in
set_option maxHeartbeats 4000000 in
theorem t_addWord_8 (E : xE) (l : Launch) (ws : va_W) {xt tb : Nat} {fb : Nat → Int32} (p_0 : Nat) (k_0 : ws[1]? = some (ob xt 7 [.ref tb, .int 8, .int 0, .int 0, .int 0])) (p_1 : Nat) (k_1 : ws[2]? = some (iA E tb 260 fb)) (v : Int32) : xV E l yX8_addWord cX8_addWord 3 0 0 0 [.ref xt, .int v] ws (fun w => keeps ws w (fun q => q = 1 ∨ q = 2) ∧ w[1]? = some (ob xt 7 [.ref tb, .int 12, .int 0, .int 0, .int 0]) ∧ (∃ fg : Nat → Int32, w[2]? = some (iA E tb 260 fg))) := by
  refine xV_start (lv := [(0, .ref xt), (1, .int v)]) RX8 (by decide) rfl (Nat.le_of_ble_eq_true rfl) rfl (fun p e s m below meth c A C hr hlk hin => ?_)
  have kp0 : keeps ws ws (fun q => q = 1 ∨ q = 2) := keeps_rf
  refine x_bipush C (v := 24) dX8_addWord_0 (by decide) rfl ?_
  refine x_istore_n C (lv' := [(2, .int 24), (0, .ref xt), (1, .int v)]) dX8_addWord_2 rfl (by decide) rfl rfl ?_
  refine x_iload_n C dX8_addWord_3 rfl 0 rfl rfl ?_
  refine x_if_lt C (tgt := 49) dX8_addWord_4 (by decide) rfl (fun h => absurd h (by decide)) (fun _ => ?_)
  refine x_aload_n C dX8_addWord_7 rfl 1 rfl rfl ?_
  refine x_get C (ci := 7) (k := 1) 1 k_0 rfl in_X8 (by decide) w_37 rfl dX8_addWord_8 rfl ?_
  refine x_sipush C (v := 260) dX8_addWord_11 (by decide) rfl ?_
  refine x_icmp_ge C (tgt := 49) dX8_addWord_14 (by decide) rfl (fun h => absurd h (by decide)) (fun _ => ?_)
  refine x_aload_n C dX8_addWord_17 rfl 1 rfl rfl ?_
  refine x_get C (ci := 7) (k := 0) 1 k_0 rfl in_X8 (by decide) w_36 rfl dX8_addWord_18 rfl ?_
  refine x_aload_n C dX8_addWord_21 rfl 1 rfl rfl ?_
  refine x_get C (ci := 7) (k := 1) 1 k_0 rfl in_X8 (by decide) w_37 rfl dX8_addWord_22 rfl ?_
  refine x_iload_n C dX8_addWord_25 rfl 2 rfl rfl ?_
  refine x_iload_n C dX8_addWord_26 rfl 0 rfl rfl ?_
  refine x_iushr C (v := (v.toUInt32 >>> ((24 : Int32).toUInt32 &&& Int32.toUInt32 31)).toInt32) dX8_addWord_27 rfl rfl ?_
  refine x_sipush C (v := 255) dX8_addWord_28 (by decide) rfl ?_
  refine x_iand C (v := ((v.toUInt32 >>> ((24 : Int32).toUInt32 &&& Int32.toUInt32 31)).toInt32 &&& (255 : Int32))) dX8_addWord_31 rfl rfl ?_
  obtain ⟨w1, hw2⟩ : ∃ w : va_W, w = List.set ws 2 (iA E tb 260 (upd fb 8 ((v.toUInt32 >>> ((24 : Int32).toUInt32 &&& Int32.toUInt32 31)).toInt32 &&& (255 : Int32)))) := ⟨_, rfl⟩
  refine x_iask C 8 (by decide) (by decide) (by decide) 2 k_1 hw2.symm dX8_addWord_32 rfl ?_
  have k3 : w1[1]? = some (ob xt 7 [.ref tb, .int 8, .int 0, .int 0, .int 0]) := by rw [hw2]; exact set_ne k_0 (by decide)
  have k4 : w1[2]? = some (iA E tb 260 (upd fb 8 ((v.toUInt32 >>> ((24 : Int32).toUInt32 &&& Int32.toUInt32 31)).toInt32 &&& (255 : Int32)))) := by rw [hw2]; exact set_eq k_1
  have kp5 := keeps_set kp0 hw2 (by first | exact rfl | decide | omega | (dsimp only; omega))
  refine x_aload_n C dX8_addWord_33 rfl 1 rfl rfl ?_
  refine x_dup C dX8_addWord_34 rfl rfl ?_
  refine x_get C (ci := 7) (k := 1) 1 k3 rfl in_X8 (by decide) w_37 rfl dX8_addWord_35 rfl ?_
  refine x_iconst C (v := 1) dX8_addWord_38 (by decide) rfl ?_
  refine x_iadd C (v := 9) dX8_addWord_39 (by decide) rfl ?_
  obtain ⟨w6, hw7⟩ : ∃ w : va_W, w = List.set w1 1 (ob xt 7 [.ref tb, .int 9, .int 0, .int 0, .int 0]) := ⟨_, rfl⟩
  refine x_put C (ci := 7) (k := 1) (ty := .int) 1 k3 rfl in_X8 tyX8 tyX8_ok nmX8 (by decide) w_37 rfl rfl rfl rfl (Nat.le_of_ble_eq_true rfl) hw7.symm dX8_addWord_40 rfl ?_
  have k8 : w6[1]? = some (ob xt 7 [.ref tb, .int 9, .int 0, .int 0, .int 0]) := by rw [hw7]; exact set_eq k3
  have k9 : w6[2]? = some (iA E tb 260 (upd fb 8 ((v.toUInt32 >>> ((24 : Int32).toUInt32 &&& Int32.toUInt32 31)).toInt32 &&& (255 : Int32)))) := by rw [hw7]; exact set_ne k4 (by decide)
  have kp10 := keeps_set kp5 hw7 (by first | exact rfl | decide | omega | (dsimp only; omega))
  refine x_iinc C (v := 16) (lv' := [(2, .int 16), (0, .ref xt), (1, .int v)]) dX8_addWord_43 0 rfl (by decide) (by decide) rfl rfl ?_
  refine x_goto C (tgt := 3) dX8_addWord_46 (by decide) ?_
  refine x_iload_n C dX8_addWord_3 rfl 0 rfl rfl ?_
  refine x_if_lt C (tgt := 49) dX8_addWord_4 (by decide) rfl (fun h => absurd h (by decide)) (fun _ => ?_)
  refine x_aload_n C dX8_addWord_7 rfl 1 rfl rfl ?_
  refine x_get C (ci := 7) (k := 1) 1 k8 rfl in_X8 (by decide) w_37 rfl dX8_addWord_8 rfl ?_
  refine x_sipush C (v := 260) dX8_addWord_11 (by decide) rfl ?_
  refine x_icmp_ge C (tgt := 49) dX8_addWord_14 (by decide) rfl (fun h => absurd h (by decide)) (fun _ => ?_)
  refine x_aload_n C dX8_addWord_17 rfl 1 rfl rfl ?_
  refine x_get C (ci := 7) (k := 0) 1 k8 rfl in_X8 (by decide) w_36 rfl dX8_addWord_18 rfl ?_
  refine x_aload_n C dX8_addWord_21 rfl 1 rfl rfl ?_
  refine x_get C (ci := 7) (k := 1) 1 k8 rfl in_X8 (by decide) w_37 rfl dX8_addWord_22 rfl ?_
  refine x_iload_n C dX8_addWord_25 rfl 2 rfl rfl ?_
  refine x_iload_n C dX8_addWord_26 rfl 0 rfl rfl ?_
  refine x_iushr C (v := (v.toUInt32 >>> ((16 : Int32).toUInt32 &&& Int32.toUInt32 31)).toInt32) dX8_addWord_27 rfl rfl ?_
  refine x_sipush C (v := 255) dX8_addWord_28 (by decide) rfl ?_
  refine x_iand C (v := ((v.toUInt32 >>> ((16 : Int32).toUInt32 &&& Int32.toUInt32 31)).toInt32 &&& (255 : Int32))) dX8_addWord_31 rfl rfl ?_
  obtain ⟨w11, hw12⟩ : ∃ w : va_W, w = List.set w6 2 (iA E tb 260 (upd (upd fb 8 ((v.toUInt32 >>> ((24 : Int32).toUInt32 &&& Int32.toUInt32 31)).toInt32 &&& (255 : Int32))) 9 ((v.toUInt32 >>> ((16 : Int32).toUInt32 &&& Int32.toUInt32 31)).toInt32 &&& (255 : Int32)))) := ⟨_, rfl⟩
  refine x_iask C 9 (by decide) (by decide) (by decide) 2 k9 hw12.symm dX8_addWord_32 rfl ?_
  have k13 : w11[1]? = some (ob xt 7 [.ref tb, .int 9, .int 0, .int 0, .int 0]) := by rw [hw12]; exact set_ne k8 (by decide)
  have k14 : w11[2]? = some (iA E tb 260 (upd (upd fb 8 ((v.toUInt32 >>> ((24 : Int32).toUInt32 &&& Int32.toUInt32 31)).toInt32 &&& (255 : Int32))) 9 ((v.toUInt32 >>> ((16 : Int32).toUInt32 &&& Int32.toUInt32 31)).toInt32 &&& (255 : Int32)))) := by rw [hw12]; exact set_eq k9
  have kp15 := keeps_set kp10 hw12 (by first | exact rfl | decide | omega | (dsimp only; omega))
  refine x_aload_n C dX8_addWord_33 rfl 1 rfl rfl ?_
  refine x_dup C dX8_addWord_34 rfl rfl ?_
  refine x_get C (ci := 7) (k := 1) 1 k13 rfl in_X8 (by decide) w_37 rfl dX8_addWord_35 rfl ?_
  refine x_iconst C (v := 1) dX8_addWord_38 (by decide) rfl ?_
  refine x_iadd C (v := 10) dX8_addWord_39 (by decide) rfl ?_
  obtain ⟨w16, hw17⟩ : ∃ w : va_W, w = List.set w11 1 (ob xt 7 [.ref tb, .int 10, .int 0, .int 0, .int 0]) := ⟨_, rfl⟩
  refine x_put C (ci := 7) (k := 1) (ty := .int) 1 k13 rfl in_X8 tyX8 tyX8_ok nmX8 (by decide) w_37 rfl rfl rfl rfl (Nat.le_of_ble_eq_true rfl) hw17.symm dX8_addWord_40 rfl ?_
  have k18 : w16[1]? = some (ob xt 7 [.ref tb, .int 10, .int 0, .int 0, .int 0]) := by rw [hw17]; exact set_eq k13
  have k19 : w16[2]? = some (iA E tb 260 (upd (upd fb 8 ((v.toUInt32 >>> ((24 : Int32).toUInt32 &&& Int32.toUInt32 31)).toInt32 &&& (255 : Int32))) 9 ((v.toUInt32 >>> ((16 : Int32).toUInt32 &&& Int32.toUInt32 31)).toInt32 &&& (255 : Int32)))) := by rw [hw17]; exact set_ne k14 (by decide)
  have kp20 := keeps_set kp15 hw17 (by first | exact rfl | decide | omega | (dsimp only; omega))
  refine x_iinc C (v := 8) (lv' := [(2, .int 8), (0, .ref xt), (1, .int v)]) dX8_addWord_43 0 rfl (by decide) (by decide) rfl rfl ?_
  refine x_goto C (tgt := 3) dX8_addWord_46 (by decide) ?_
  refine x_iload_n C dX8_addWord_3 rfl 0 rfl rfl ?_
  refine x_if_lt C (tgt := 49) dX8_addWord_4 (by decide) rfl (fun h => absurd h (by decide)) (fun _ => ?_)
  refine x_aload_n C dX8_addWord_7 rfl 1 rfl rfl ?_
  refine x_get C (ci := 7) (k := 1) 1 k18 rfl in_X8 (by decide) w_37 rfl dX8_addWord_8 rfl ?_
  refine x_sipush C (v := 260) dX8_addWord_11 (by decide) rfl ?_
  refine x_icmp_ge C (tgt := 49) dX8_addWord_14 (by decide) rfl (fun h => absurd h (by decide)) (fun _ => ?_)
  refine x_aload_n C dX8_addWord_17 rfl 1 rfl rfl ?_
  refine x_get C (ci := 7) (k := 0) 1 k18 rfl in_X8 (by decide) w_36 rfl dX8_addWord_18 rfl ?_
  refine x_aload_n C dX8_addWord_21 rfl 1 rfl rfl ?_
  refine x_get C (ci := 7) (k := 1) 1 k18 rfl in_X8 (by decide) w_37 rfl dX8_addWord_22 rfl ?_
  refine x_iload_n C dX8_addWord_25 rfl 2 rfl rfl ?_
  refine x_iload_n C dX8_addWord_26 rfl 0 rfl rfl ?_
  refine x_iushr C (v := (v.toUInt32 >>> ((8 : Int32).toUInt32 &&& Int32.toUInt32 31)).toInt32) dX8_addWord_27 rfl rfl ?_
  refine x_sipush C (v := 255) dX8_addWord_28 (by decide) rfl ?_
  refine x_iand C (v := ((v.toUInt32 >>> ((8 : Int32).toUInt32 &&& Int32.toUInt32 31)).toInt32 &&& (255 : Int32))) dX8_addWord_31 rfl rfl ?_
  obtain ⟨w21, hw22⟩ : ∃ w : va_W, w = List.set w16 2 (iA E tb 260 (upd (upd (upd fb 8 ((v.toUInt32 >>> ((24 : Int32).toUInt32 &&& Int32.toUInt32 31)).toInt32 &&& (255 : Int32))) 9 ((v.toUInt32 >>> ((16 : Int32).toUInt32 &&& Int32.toUInt32 31)).toInt32 &&& (255 : Int32))) 10 ((v.toUInt32 >>> ((8 : Int32).toUInt32 &&& Int32.toUInt32 31)).toInt32 &&& (255 : Int32)))) := ⟨_, rfl⟩
  refine x_iask C 10 (by decide) (by decide) (by decide) 2 k19 hw22.symm dX8_addWord_32 rfl ?_
  have k23 : w21[1]? = some (ob xt 7 [.ref tb, .int 10, .int 0, .int 0, .int 0]) := by rw [hw22]; exact set_ne k18 (by decide)
  have k24 : w21[2]? = some (iA E tb 260 (upd (upd (upd fb 8 ((v.toUInt32 >>> ((24 : Int32).toUInt32 &&& Int32.toUInt32 31)).toInt32 &&& (255 : Int32))) 9 ((v.toUInt32 >>> ((16 : Int32).toUInt32 &&& Int32.toUInt32 31)).toInt32 &&& (255 : Int32))) 10 ((v.toUInt32 >>> ((8 : Int32).toUInt32 &&& Int32.toUInt32 31)).toInt32 &&& (255 : Int32)))) := by rw [hw22]; exact set_eq k19
  have kp25 := keeps_set kp20 hw22 (by first | exact rfl | decide | omega | (dsimp only; omega))
  refine x_aload_n C dX8_addWord_33 rfl 1 rfl rfl ?_
  refine x_dup C dX8_addWord_34 rfl rfl ?_
  refine x_get C (ci := 7) (k := 1) 1 k23 rfl in_X8 (by decide) w_37 rfl dX8_addWord_35 rfl ?_
  refine x_iconst C (v := 1) dX8_addWord_38 (by decide) rfl ?_
  refine x_iadd C (v := 11) dX8_addWord_39 (by decide) rfl ?_
  obtain ⟨w26, hw27⟩ : ∃ w : va_W, w = List.set w21 1 (ob xt 7 [.ref tb, .int 11, .int 0, .int 0, .int 0]) := ⟨_, rfl⟩
  refine x_put C (ci := 7) (k := 1) (ty := .int) 1 k23 rfl in_X8 tyX8 tyX8_ok nmX8 (by decide) w_37 rfl rfl rfl rfl (Nat.le_of_ble_eq_true rfl) hw27.symm dX8_addWord_40 rfl ?_
  have k28 : w26[1]? = some (ob xt 7 [.ref tb, .int 11, .int 0, .int 0, .int 0]) := by rw [hw27]; exact set_eq k23
  have k29 : w26[2]? = some (iA E tb 260 (upd (upd (upd fb 8 ((v.toUInt32 >>> ((24 : Int32).toUInt32 &&& Int32.toUInt32 31)).toInt32 &&& (255 : Int32))) 9 ((v.toUInt32 >>> ((16 : Int32).toUInt32 &&& Int32.toUInt32 31)).toInt32 &&& (255 : Int32))) 10 ((v.toUInt32 >>> ((8 : Int32).toUInt32 &&& Int32.toUInt32 31)).toInt32 &&& (255 : Int32)))) := by rw [hw27]; exact set_ne k24 (by decide)
  have kp30 := keeps_set kp25 hw27 (by first | exact rfl | decide | omega | (dsimp only; omega))
  refine x_iinc C (v := 0) (lv' := [(2, .int 0), (0, .ref xt), (1, .int v)]) dX8_addWord_43 0 rfl (by decide) (by decide) rfl rfl ?_
  refine x_goto C (tgt := 3) dX8_addWord_46 (by decide) ?_
  refine x_iload_n C dX8_addWord_3 rfl 0 rfl rfl ?_
  refine x_if_lt C (tgt := 49) dX8_addWord_4 (by decide) rfl (fun h => absurd h (by decide)) (fun _ => ?_)
  refine x_aload_n C dX8_addWord_7 rfl 1 rfl rfl ?_
  refine x_get C (ci := 7) (k := 1) 1 k28 rfl in_X8 (by decide) w_37 rfl dX8_addWord_8 rfl ?_
  refine x_sipush C (v := 260) dX8_addWord_11 (by decide) rfl ?_
  refine x_icmp_ge C (tgt := 49) dX8_addWord_14 (by decide) rfl (fun h => absurd h (by decide)) (fun _ => ?_)
  refine x_aload_n C dX8_addWord_17 rfl 1 rfl rfl ?_
  refine x_get C (ci := 7) (k := 0) 1 k28 rfl in_X8 (by decide) w_36 rfl dX8_addWord_18 rfl ?_
  refine x_aload_n C dX8_addWord_21 rfl 1 rfl rfl ?_
  refine x_get C (ci := 7) (k := 1) 1 k28 rfl in_X8 (by decide) w_37 rfl dX8_addWord_22 rfl ?_
  refine x_iload_n C dX8_addWord_25 rfl 2 rfl rfl ?_
  refine x_iload_n C dX8_addWord_26 rfl 0 rfl rfl ?_
  refine x_iushr C (v := (v.toUInt32 >>> ((0 : Int32).toUInt32 &&& Int32.toUInt32 31)).toInt32) dX8_addWord_27 rfl rfl ?_
  refine x_sipush C (v := 255) dX8_addWord_28 (by decide) rfl ?_
  refine x_iand C (v := ((v.toUInt32 >>> ((0 : Int32).toUInt32 &&& Int32.toUInt32 31)).toInt32 &&& (255 : Int32))) dX8_addWord_31 rfl rfl ?_
  obtain ⟨w31, hw32⟩ : ∃ w : va_W, w = List.set w26 2 (iA E tb 260 (upd (upd (upd (upd fb 8 ((v.toUInt32 >>> ((24 : Int32).toUInt32 &&& Int32.toUInt32 31)).toInt32 &&& (255 : Int32))) 9 ((v.toUInt32 >>> ((16 : Int32).toUInt32 &&& Int32.toUInt32 31)).toInt32 &&& (255 : Int32))) 10 ((v.toUInt32 >>> ((8 : Int32).toUInt32 &&& Int32.toUInt32 31)).toInt32 &&& (255 : Int32))) 11 ((v.toUInt32 >>> ((0 : Int32).toUInt32 &&& Int32.toUInt32 31)).toInt32 &&& (255 : Int32)))) := ⟨_, rfl⟩
  refine x_iask C 11 (by decide) (by decide) (by decide) 2 k29 hw32.symm dX8_addWord_32 rfl ?_
  have k33 : w31[1]? = some (ob xt 7 [.ref tb, .int 11, .int 0, .int 0, .int 0]) := by rw [hw32]; exact set_ne k28 (by decide)
  have k34 : w31[2]? = some (iA E tb 260 (upd (upd (upd (upd fb 8 ((v.toUInt32 >>> ((24 : Int32).toUInt32 &&& Int32.toUInt32 31)).toInt32 &&& (255 : Int32))) 9 ((v.toUInt32 >>> ((16 : Int32).toUInt32 &&& Int32.toUInt32 31)).toInt32 &&& (255 : Int32))) 10 ((v.toUInt32 >>> ((8 : Int32).toUInt32 &&& Int32.toUInt32 31)).toInt32 &&& (255 : Int32))) 11 ((v.toUInt32 >>> ((0 : Int32).toUInt32 &&& Int32.toUInt32 31)).toInt32 &&& (255 : Int32)))) := by rw [hw32]; exact set_eq k29
  have kp35 := keeps_set kp30 hw32 (by first | exact rfl | decide | omega | (dsimp only; omega))
  refine x_aload_n C dX8_addWord_33 rfl 1 rfl rfl ?_
  refine x_dup C dX8_addWord_34 rfl rfl ?_
  refine x_get C (ci := 7) (k := 1) 1 k33 rfl in_X8 (by decide) w_37 rfl dX8_addWord_35 rfl ?_
  refine x_iconst C (v := 1) dX8_addWord_38 (by decide) rfl ?_
  refine x_iadd C (v := 12) dX8_addWord_39 (by decide) rfl ?_
  obtain ⟨w36, hw37⟩ : ∃ w : va_W, w = List.set w31 1 (ob xt 7 [.ref tb, .int 12, .int 0, .int 0, .int 0]) := ⟨_, rfl⟩
  refine x_put C (ci := 7) (k := 1) (ty := .int) 1 k33 rfl in_X8 tyX8 tyX8_ok nmX8 (by decide) w_37 rfl rfl rfl rfl (Nat.le_of_ble_eq_true rfl) hw37.symm dX8_addWord_40 rfl ?_
  have k38 : w36[1]? = some (ob xt 7 [.ref tb, .int 12, .int 0, .int 0, .int 0]) := by rw [hw37]; exact set_eq k33
  have k39 : w36[2]? = some (iA E tb 260 (upd (upd (upd (upd fb 8 ((v.toUInt32 >>> ((24 : Int32).toUInt32 &&& Int32.toUInt32 31)).toInt32 &&& (255 : Int32))) 9 ((v.toUInt32 >>> ((16 : Int32).toUInt32 &&& Int32.toUInt32 31)).toInt32 &&& (255 : Int32))) 10 ((v.toUInt32 >>> ((8 : Int32).toUInt32 &&& Int32.toUInt32 31)).toInt32 &&& (255 : Int32))) 11 ((v.toUInt32 >>> ((0 : Int32).toUInt32 &&& Int32.toUInt32 31)).toInt32 &&& (255 : Int32)))) := by rw [hw37]; exact set_ne k34 (by decide)
  have kp40 := keeps_set kp35 hw37 (by first | exact rfl | decide | omega | (dsimp only; omega))
  refine x_iinc C (v := (-8)) (lv' := [(2, .int (-8)), (0, .ref xt), (1, .int v)]) dX8_addWord_43 0 rfl (by decide) (by decide) rfl rfl ?_
  refine x_goto C (tgt := 3) dX8_addWord_46 (by decide) ?_
  refine x_iload_n C dX8_addWord_3 rfl 0 rfl rfl ?_
  refine x_if_lt C (tgt := 49) dX8_addWord_4 (by decide) rfl (fun _ => ?_) (fun h => absurd h (by decide))
  exact x_vret C hr hlk dX8_addWord_49 ⟨kp40, k38, ⟨_, k39⟩⟩
set_option maxRecDepth 20000 in
set_option maxHeartbeats 4000000 in
theorem t_addWord_12 (E : xE) (l : Launch) (ws : va_W) {xt tb : Nat} {fb : Nat → Int32} (p_0 : Nat) (k_0 : ws[1]? = some (ob xt 7 [.ref tb, .int 12, .int 0, .int 0, .int 0])) (p_1 : Nat) (k_1 : ws[2]? = some (iA E tb 260 fb)) (v : Int32) : xV E l yX8_addWord cX8_addWord 3 0 0 0 [.ref xt, .int v] ws (fun w => keeps ws w (fun q => q = 1 ∨ q = 2) ∧ w[1]? = some (ob xt 7 [.ref tb, .int 16, .int 0, .int 0, .int 0]) ∧ (∃ fg : Nat → Int32, w[2]? = some (iA E tb 260 fg))) := by
  refine xV_start (lv := [(0, .ref xt), (1, .int v)]) RX8 (by decide) rfl (Nat.le_of_ble_eq_true rfl) rfl (fun p e s m below meth c A C hr hlk hin => ?_)
  have kp0 : keeps ws ws (fun q => q = 1 ∨ q = 2) := keeps_rf
  refine x_bipush C (v := 24) dX8_addWord_0 (by decide) rfl ?_
  refine x_istore_n C (lv' := [(2, .int 24), (0, .ref xt), (1, .int v)]) dX8_addWord_2 rfl (by decide) rfl rfl ?_
  refine x_iload_n C dX8_addWord_3 rfl 0 rfl rfl ?_
  refine x_if_lt C (tgt := 49) dX8_addWord_4 (by decide) rfl (fun h => absurd h (by decide)) (fun _ => ?_)
  refine x_aload_n C dX8_addWord_7 rfl 1 rfl rfl ?_
  refine x_get C (ci := 7) (k := 1) 1 k_0 rfl in_X8 (by decide) w_37 rfl dX8_addWord_8 rfl ?_
  refine x_sipush C (v := 260) dX8_addWord_11 (by decide) rfl ?_
  refine x_icmp_ge C (tgt := 49) dX8_addWord_14 (by decide) rfl (fun h => absurd h (by decide)) (fun _ => ?_)
  refine x_aload_n C dX8_addWord_17 rfl 1 rfl rfl ?_
  refine x_get C (ci := 7) (k := 0) 1 k_0 rfl in_X8 (by decide) w_36 rfl dX8_addWord_18 rfl ?_
  refine x_aload_n C dX8_addWord_21 rfl 1 rfl rfl ?_
  refine x_get C (ci := 7) (k := 1) 1 k_0 rfl in_X8 (by decide) w_37 rfl dX8_addWord_22 rfl ?_
  refine x_iload_n C dX8_addWord_25 rfl 2 rfl rfl ?_
  refine x_iload_n C dX8_addWord_26 rfl 0 rfl rfl ?_
  refine x_iushr C (v := (v.toUInt32 >>> ((24 : Int32).toUInt32 &&& Int32.toUInt32 31)).toInt32) dX8_addWord_27 rfl rfl ?_
  refine x_sipush C (v := 255) dX8_addWord_28 (by decide) rfl ?_
  refine x_iand C (v := ((v.toUInt32 >>> ((24 : Int32).toUInt32 &&& Int32.toUInt32 31)).toInt32 &&& (255 : Int32))) dX8_addWord_31 rfl rfl ?_
  obtain ⟨w1, hw2⟩ : ∃ w : va_W, w = List.set ws 2 (iA E tb 260 (upd fb 12 ((v.toUInt32 >>> ((24 : Int32).toUInt32 &&& Int32.toUInt32 31)).toInt32 &&& (255 : Int32)))) := ⟨_, rfl⟩
  refine x_iask C 12 (by decide) (by decide) (by decide) 2 k_1 hw2.symm dX8_addWord_32 rfl ?_
  have k3 : w1[1]? = some (ob xt 7 [.ref tb, .int 12, .int 0, .int 0, .int 0]) := by rw [hw2]; exact set_ne k_0 (by decide)
  have k4 : w1[2]? = some (iA E tb 260 (upd fb 12 ((v.toUInt32 >>> ((24 : Int32).toUInt32 &&& Int32.toUInt32 31)).toInt32 &&& (255 : Int32)))) := by rw [hw2]; exact set_eq k_1
  have kp5 := keeps_set kp0 hw2 (by first | exact rfl | decide | omega | (dsimp only; omega))
  refine x_aload_n C dX8_addWord_33 rfl 1 rfl rfl ?_
  refine x_dup C dX8_addWord_34 rfl rfl ?_
  refine x_get C (ci := 7) (k := 1) 1 k3 rfl in_X8 (by decide) w_37 rfl dX8_addWord_35 rfl ?_
  refine x_iconst C (v := 1) dX8_addWord_38 (by decide) rfl ?_
  refine x_iadd C (v := 13) dX8_addWord_39 (by decide) rfl ?_
  obtain ⟨w6, hw7⟩ : ∃ w : va_W, w = List.set w1 1 (ob xt 7 [.ref tb, .int 13, .int 0, .int 0, .int 0]) := ⟨_, rfl⟩
  refine x_put C (ci := 7) (k := 1) (ty := .int) 1 k3 rfl in_X8 tyX8 tyX8_ok nmX8 (by decide) w_37 rfl rfl rfl rfl (Nat.le_of_ble_eq_true rfl) hw7.symm dX8_addWord_40 rfl ?_
  have k8 : w6[1]? = some (ob xt 7 [.ref tb, .int 13, .int 0, .int 0, .int 0]) := by rw [hw7]; exact set_eq k3
  have k9 : w6[2]? = some (iA E tb 260 (upd fb 12 ((v.toUInt32 >>> ((24 : Int32).toUInt32 &&& Int32.toUInt32 31)).toInt32 &&& (255 : Int32)))) := by rw [hw7]; exact set_ne k4 (by decide)
  have kp10 := keeps_set kp5 hw7 (by first | exact rfl | decide | omega | (dsimp only; omega))
  refine x_iinc C (v := 16) (lv' := [(2, .int 16), (0, .ref xt), (1, .int v)]) dX8_addWord_43 0 rfl (by decide) (by decide) rfl rfl ?_
  refine x_goto C (tgt := 3) dX8_addWord_46 (by decide) ?_
  refine x_iload_n C dX8_addWord_3 rfl 0 rfl rfl ?_
  refine x_if_lt C (tgt := 49) dX8_addWord_4 (by decide) rfl (fun h => absurd h (by decide)) (fun _ => ?_)
  refine x_aload_n C dX8_addWord_7 rfl 1 rfl rfl ?_
  refine x_get C (ci := 7) (k := 1) 1 k8 rfl in_X8 (by decide) w_37 rfl dX8_addWord_8 rfl ?_
  refine x_sipush C (v := 260) dX8_addWord_11 (by decide) rfl ?_
  refine x_icmp_ge C (tgt := 49) dX8_addWord_14 (by decide) rfl (fun h => absurd h (by decide)) (fun _ => ?_)
  refine x_aload_n C dX8_addWord_17 rfl 1 rfl rfl ?_
  refine x_get C (ci := 7) (k := 0) 1 k8 rfl in_X8 (by decide) w_36 rfl dX8_addWord_18 rfl ?_
  refine x_aload_n C dX8_addWord_21 rfl 1 rfl rfl ?_
  refine x_get C (ci := 7) (k := 1) 1 k8 rfl in_X8 (by decide) w_37 rfl dX8_addWord_22 rfl ?_
  refine x_iload_n C dX8_addWord_25 rfl 2 rfl rfl ?_
  refine x_iload_n C dX8_addWord_26 rfl 0 rfl rfl ?_
  refine x_iushr C (v := (v.toUInt32 >>> ((16 : Int32).toUInt32 &&& Int32.toUInt32 31)).toInt32) dX8_addWord_27 rfl rfl ?_
  refine x_sipush C (v := 255) dX8_addWord_28 (by decide) rfl ?_
  refine x_iand C (v := ((v.toUInt32 >>> ((16 : Int32).toUInt32 &&& Int32.toUInt32 31)).toInt32 &&& (255 : Int32))) dX8_addWord_31 rfl rfl ?_
  obtain ⟨w11, hw12⟩ : ∃ w : va_W, w = List.set w6 2 (iA E tb 260 (upd (upd fb 12 ((v.toUInt32 >>> ((24 : Int32).toUInt32 &&& Int32.toUInt32 31)).toInt32 &&& (255 : Int32))) 13 ((v.toUInt32 >>> ((16 : Int32).toUInt32 &&& Int32.toUInt32 31)).toInt32 &&& (255 : Int32)))) := ⟨_, rfl⟩
  refine x_iask C 13 (by decide) (by decide) (by decide) 2 k9 hw12.symm dX8_addWord_32 rfl ?_
  have k13 : w11[1]? = some (ob xt 7 [.ref tb, .int 13, .int 0, .int 0, .int 0]) := by rw [hw12]; exact set_ne k8 (by decide)
  have k14 : w11[2]? = some (iA E tb 260 (upd (upd fb 12 ((v.toUInt32 >>> ((24 : Int32).toUInt32 &&& Int32.toUInt32 31)).toInt32 &&& (255 : Int32))) 13 ((v.toUInt32 >>> ((16 : Int32).toUInt32 &&& Int32.toUInt32 31)).toInt32 &&& (255 : Int32)))) := by rw [hw12]; exact set_eq k9
  have kp15 := keeps_set kp10 hw12 (by first | exact rfl | decide | omega | (dsimp only; omega))
  refine x_aload_n C dX8_addWord_33 rfl 1 rfl rfl ?_
  refine x_dup C dX8_addWord_34 rfl rfl ?_
  refine x_get C (ci := 7) (k := 1) 1 k13 rfl in_X8 (by decide) w_37 rfl dX8_addWord_35 rfl ?_
  refine x_iconst C (v := 1) dX8_addWord_38 (by decide) rfl ?_
  refine x_iadd C (v := 14) dX8_addWord_39 (by decide) rfl ?_
  obtain ⟨w16, hw17⟩ : ∃ w : va_W, w = List.set w11 1 (ob xt 7 [.ref tb, .int 14, .int 0, .int 0, .int 0]) := ⟨_, rfl⟩
  refine x_put C (ci := 7) (k := 1) (ty := .int) 1 k13 rfl in_X8 tyX8 tyX8_ok nmX8 (by decide) w_37 rfl rfl rfl rfl (Nat.le_of_ble_eq_true rfl) hw17.symm dX8_addWord_40 rfl ?_
  have k18 : w16[1]? = some (ob xt 7 [.ref tb, .int 14, .int 0, .int 0, .int 0]) := by rw [hw17]; exact set_eq k13
  have k19 : w16[2]? = some (iA E tb 260 (upd (upd fb 12 ((v.toUInt32 >>> ((24 : Int32).toUInt32 &&& Int32.toUInt32 31)).toInt32 &&& (255 : Int32))) 13 ((v.toUInt32 >>> ((16 : Int32).toUInt32 &&& Int32.toUInt32 31)).toInt32 &&& (255 : Int32)))) := by rw [hw17]; exact set_ne k14 (by decide)
  have kp20 := keeps_set kp15 hw17 (by first | exact rfl | decide | omega | (dsimp only; omega))
  refine x_iinc C (v := 8) (lv' := [(2, .int 8), (0, .ref xt), (1, .int v)]) dX8_addWord_43 0 rfl (by decide) (by decide) rfl rfl ?_
  refine x_goto C (tgt := 3) dX8_addWord_46 (by decide) ?_
  refine x_iload_n C dX8_addWord_3 rfl 0 rfl rfl ?_
  refine x_if_lt C (tgt := 49) dX8_addWord_4 (by decide) rfl (fun h => absurd h (by decide)) (fun _ => ?_)
  refine x_aload_n C dX8_addWord_7 rfl 1 rfl rfl ?_
  refine x_get C (ci := 7) (k := 1) 1 k18 rfl in_X8 (by decide) w_37 rfl dX8_addWord_8 rfl ?_
  refine x_sipush C (v := 260) dX8_addWord_11 (by decide) rfl ?_
  refine x_icmp_ge C (tgt := 49) dX8_addWord_14 (by decide) rfl (fun h => absurd h (by decide)) (fun _ => ?_)
  refine x_aload_n C dX8_addWord_17 rfl 1 rfl rfl ?_
  refine x_get C (ci := 7) (k := 0) 1 k18 rfl in_X8 (by decide) w_36 rfl dX8_addWord_18 rfl ?_
  refine x_aload_n C dX8_addWord_21 rfl 1 rfl rfl ?_
  refine x_get C (ci := 7) (k := 1) 1 k18 rfl in_X8 (by decide) w_37 rfl dX8_addWord_22 rfl ?_
  refine x_iload_n C dX8_addWord_25 rfl 2 rfl rfl ?_
  refine x_iload_n C dX8_addWord_26 rfl 0 rfl rfl ?_
  refine x_iushr C (v := (v.toUInt32 >>> ((8 : Int32).toUInt32 &&& Int32.toUInt32 31)).toInt32) dX8_addWord_27 rfl rfl ?_
  refine x_sipush C (v := 255) dX8_addWord_28 (by decide) rfl ?_
  refine x_iand C (v := ((v.toUInt32 >>> ((8 : Int32).toUInt32 &&& Int32.toUInt32 31)).toInt32 &&& (255 : Int32))) dX8_addWord_31 rfl rfl ?_
  obtain ⟨w21, hw22⟩ : ∃ w : va_W, w = List.set w16 2 (iA E tb 260 (upd (upd (upd fb 12 ((v.toUInt32 >>> ((24 : Int32).toUInt32 &&& Int32.toUInt32 31)).toInt32 &&& (255 : Int32))) 13 ((v.toUInt32 >>> ((16 : Int32).toUInt32 &&& Int32.toUInt32 31)).toInt32 &&& (255 : Int32))) 14 ((v.toUInt32 >>> ((8 : Int32).toUInt32 &&& Int32.toUInt32 31)).toInt32 &&& (255 : Int32)))) := ⟨_, rfl⟩
  refine x_iask C 14 (by decide) (by decide) (by decide) 2 k19 hw22.symm dX8_addWord_32 rfl ?_
  have k23 : w21[1]? = some (ob xt 7 [.ref tb, .int 14, .int 0, .int 0, .int 0]) := by rw [hw22]; exact set_ne k18 (by decide)
  have k24 : w21[2]? = some (iA E tb 260 (upd (upd (upd fb 12 ((v.toUInt32 >>> ((24 : Int32).toUInt32 &&& Int32.toUInt32 31)).toInt32 &&& (255 : Int32))) 13 ((v.toUInt32 >>> ((16 : Int32).toUInt32 &&& Int32.toUInt32 31)).toInt32 &&& (255 : Int32))) 14 ((v.toUInt32 >>> ((8 : Int32).toUInt32 &&& Int32.toUInt32 31)).toInt32 &&& (255 : Int32)))) := by rw [hw22]; exact set_eq k19
  have kp25 := keeps_set kp20 hw22 (by first | exact rfl | decide | omega | (dsimp only; omega))
  refine x_aload_n C dX8_addWord_33 rfl 1 rfl rfl ?_
  refine x_dup C dX8_addWord_34 rfl rfl ?_
  refine x_get C (ci := 7) (k := 1) 1 k23 rfl in_X8 (by decide) w_37 rfl dX8_addWord_35 rfl ?_
  refine x_iconst C (v := 1) dX8_addWord_38 (by decide) rfl ?_
  refine x_iadd C (v := 15) dX8_addWord_39 (by decide) rfl ?_
  obtain ⟨w26, hw27⟩ : ∃ w : va_W, w = List.set w21 1 (ob xt 7 [.ref tb, .int 15, .int 0, .int 0, .int 0]) := ⟨_, rfl⟩
  refine x_put C (ci := 7) (k := 1) (ty := .int) 1 k23 rfl in_X8 tyX8 tyX8_ok nmX8 (by decide) w_37 rfl rfl rfl rfl (Nat.le_of_ble_eq_true rfl) hw27.symm dX8_addWord_40 rfl ?_
  have k28 : w26[1]? = some (ob xt 7 [.ref tb, .int 15, .int 0, .int 0, .int 0]) := by rw [hw27]; exact set_eq k23
  have k29 : w26[2]? = some (iA E tb 260 (upd (upd (upd fb 12 ((v.toUInt32 >>> ((24 : Int32).toUInt32 &&& Int32.toUInt32 31)).toInt32 &&& (255 : Int32))) 13 ((v.toUInt32 >>> ((16 : Int32).toUInt32 &&& Int32.toUInt32 31)).toInt32 &&& (255 : Int32))) 14 ((v.toUInt32 >>> ((8 : Int32).toUInt32 &&& Int32.toUInt32 31)).toInt32 &&& (255 : Int32)))) := by rw [hw27]; exact set_ne k24 (by decide)
  have kp30 := keeps_set kp25 hw27 (by first | exact rfl | decide | omega | (dsimp only; omega))
  refine x_iinc C (v := 0) (lv' := [(2, .int 0), (0, .ref xt), (1, .int v)]) dX8_addWord_43 0 rfl (by decide) (by decide) rfl rfl ?_
  refine x_goto C (tgt := 3) dX8_addWord_46 (by decide) ?_
  refine x_iload_n C dX8_addWord_3 rfl 0 rfl rfl ?_
  refine x_if_lt C (tgt := 49) dX8_addWord_4 (by decide) rfl (fun h => absurd h (by decide)) (fun _ => ?_)
  refine x_aload_n C dX8_addWord_7 rfl 1 rfl rfl ?_
  refine x_get C (ci := 7) (k := 1) 1 k28 rfl in_X8 (by decide) w_37 rfl dX8_addWord_8 rfl ?_
  refine x_sipush C (v := 260) dX8_addWord_11 (by decide) rfl ?_
  refine x_icmp_ge C (tgt := 49) dX8_addWord_14 (by decide) rfl (fun h => absurd h (by decide)) (fun _ => ?_)
  refine x_aload_n C dX8_addWord_17 rfl 1 rfl rfl ?_
  refine x_get C (ci := 7) (k := 0) 1 k28 rfl in_X8 (by decide) w_36 rfl dX8_addWord_18 rfl ?_
  refine x_aload_n C dX8_addWord_21 rfl 1 rfl rfl ?_
  refine x_get C (ci := 7) (k := 1) 1 k28 rfl in_X8 (by decide) w_37 rfl dX8_addWord_22 rfl ?_
  refine x_iload_n C dX8_addWord_25 rfl 2 rfl rfl ?_
  refine x_iload_n C dX8_addWord_26 rfl 0 rfl rfl ?_
  refine x_iushr C (v := (v.toUInt32 >>> ((0 : Int32).toUInt32 &&& Int32.toUInt32 31)).toInt32) dX8_addWord_27 rfl rfl ?_
  refine x_sipush C (v := 255) dX8_addWord_28 (by decide) rfl ?_
  refine x_iand C (v := ((v.toUInt32 >>> ((0 : Int32).toUInt32 &&& Int32.toUInt32 31)).toInt32 &&& (255 : Int32))) dX8_addWord_31 rfl rfl ?_
  obtain ⟨w31, hw32⟩ : ∃ w : va_W, w = List.set w26 2 (iA E tb 260 (upd (upd (upd (upd fb 12 ((v.toUInt32 >>> ((24 : Int32).toUInt32 &&& Int32.toUInt32 31)).toInt32 &&& (255 : Int32))) 13 ((v.toUInt32 >>> ((16 : Int32).toUInt32 &&& Int32.toUInt32 31)).toInt32 &&& (255 : Int32))) 14 ((v.toUInt32 >>> ((8 : Int32).toUInt32 &&& Int32.toUInt32 31)).toInt32 &&& (255 : Int32))) 15 ((v.toUInt32 >>> ((0 : Int32).toUInt32 &&& Int32.toUInt32 31)).toInt32 &&& (255 : Int32)))) := ⟨_, rfl⟩
  refine x_iask C 15 (by decide) (by decide) (by decide) 2 k29 hw32.symm dX8_addWord_32 rfl ?_
  have k33 : w31[1]? = some (ob xt 7 [.ref tb, .int 15, .int 0, .int 0, .int 0]) := by rw [hw32]; exact set_ne k28 (by decide)
  have k34 : w31[2]? = some (iA E tb 260 (upd (upd (upd (upd fb 12 ((v.toUInt32 >>> ((24 : Int32).toUInt32 &&& Int32.toUInt32 31)).toInt32 &&& (255 : Int32))) 13 ((v.toUInt32 >>> ((16 : Int32).toUInt32 &&& Int32.toUInt32 31)).toInt32 &&& (255 : Int32))) 14 ((v.toUInt32 >>> ((8 : Int32).toUInt32 &&& Int32.toUInt32 31)).toInt32 &&& (255 : Int32))) 15 ((v.toUInt32 >>> ((0 : Int32).toUInt32 &&& Int32.toUInt32 31)).toInt32 &&& (255 : Int32)))) := by rw [hw32]; exact set_eq k29
  have kp35 := keeps_set kp30 hw32 (by first | exact rfl | decide | omega | (dsimp only; omega))
  refine x_aload_n C dX8_addWord_33 rfl 1 rfl rfl ?_
  refine x_dup C dX8_addWord_34 rfl rfl ?_
  refine x_get C (ci := 7) (k := 1) 1 k33 rfl in_X8 (by decide) w_37 rfl dX8_addWord_35 rfl ?_
  refine x_iconst C (v := 1) dX8_addWord_38 (by decide) rfl ?_
  refine x_iadd C (v := 16) dX8_addWord_39 (by decide) rfl ?_
  obtain ⟨w36, hw37⟩ : ∃ w : va_W, w = List.set w31 1 (ob xt 7 [.ref tb, .int 16, .int 0, .int 0, .int 0]) := ⟨_, rfl⟩
  refine x_put C (ci := 7) (k := 1) (ty := .int) 1 k33 rfl in_X8 tyX8 tyX8_ok nmX8 (by decide) w_37 rfl rfl rfl rfl (Nat.le_of_ble_eq_true rfl) hw37.symm dX8_addWord_40 rfl ?_
  have k38 : w36[1]? = some (ob xt 7 [.ref tb, .int 16, .int 0, .int 0, .int 0]) := by rw [hw37]; exact set_eq k33
  have k39 : w36[2]? = some (iA E tb 260 (upd (upd (upd (upd fb 12 ((v.toUInt32 >>> ((24 : Int32).toUInt32 &&& Int32.toUInt32 31)).toInt32 &&& (255 : Int32))) 13 ((v.toUInt32 >>> ((16 : Int32).toUInt32 &&& Int32.toUInt32 31)).toInt32 &&& (255 : Int32))) 14 ((v.toUInt32 >>> ((8 : Int32).toUInt32 &&& Int32.toUInt32 31)).toInt32 &&& (255 : Int32))) 15 ((v.toUInt32 >>> ((0 : Int32).toUInt32 &&& Int32.toUInt32 31)).toInt32 &&& (255 : Int32)))) := by rw [hw37]; exact set_ne k34 (by decide)
  have kp40 := keeps_set kp35 hw37 (by first | exact rfl | decide | omega | (dsimp only; omega))
  refine x_iinc C (v := (-8)) (lv' := [(2, .int (-8)), (0, .ref xt), (1, .int v)]) dX8_addWord_43 0 rfl (by decide) (by decide) rfl rfl ?_
  refine x_goto C (tgt := 3) dX8_addWord_46 (by decide) ?_
  refine x_iload_n C dX8_addWord_3 rfl 0 rfl rfl ?_
  refine x_if_lt C (tgt := 49) dX8_addWord_4 (by decide) rfl (fun _ => ?_) (fun h => absurd h (by decide))
  exact x_vret C hr hlk dX8_addWord_49 ⟨kp40, k38, ⟨_, k39⟩⟩
set_option maxRecDepth 20000 in
set_option maxHeartbeats 4000000 in
theorem t_addWord_16 (E : xE) (l : Launch) (ws : va_W) {xt tb : Nat} {fb : Nat → Int32} (p_0 : Nat) (k_0 : ws[1]? = some (ob xt 7 [.ref tb, .int 16, .int 0, .int 0, .int 0])) (p_1 : Nat) (k_1 : ws[2]? = some (iA E tb 260 fb)) (v : Int32) : xV E l yX8_addWord cX8_addWord 3 0 0 0 [.ref xt, .int v] ws (fun w => keeps ws w (fun q => q = 1 ∨ q = 2) ∧ w[1]? = some (ob xt 7 [.ref tb, .int 20, .int 0, .int 0, .int 0]) ∧ (∃ fg : Nat → Int32, w[2]? = some (iA E tb 260 fg))) := by
  refine xV_start (lv := [(0, .ref xt), (1, .int v)]) RX8 (by decide) rfl (Nat.le_of_ble_eq_true rfl) rfl (fun p e s m below meth c A C hr hlk hin => ?_)
  have kp0 : keeps ws ws (fun q => q = 1 ∨ q = 2) := keeps_rf
  refine x_bipush C (v := 24) dX8_addWord_0 (by decide) rfl ?_
  refine x_istore_n C (lv' := [(2, .int 24), (0, .ref xt), (1, .int v)]) dX8_addWord_2 rfl (by decide) rfl rfl ?_
  refine x_iload_n C dX8_addWord_3 rfl 0 rfl rfl ?_
  refine x_if_lt C (tgt := 49) dX8_addWord_4 (by decide) rfl (fun h => absurd h (by decide)) (fun _ => ?_)
  refine x_aload_n C dX8_addWord_7 rfl 1 rfl rfl ?_
  refine x_get C (ci := 7) (k := 1) 1 k_0 rfl in_X8 (by decide) w_37 rfl dX8_addWord_8 rfl ?_
  refine x_sipush C (v := 260) dX8_addWord_11 (by decide) rfl ?_
  refine x_icmp_ge C (tgt := 49) dX8_addWord_14 (by decide) rfl (fun h => absurd h (by decide)) (fun _ => ?_)
  refine x_aload_n C dX8_addWord_17 rfl 1 rfl rfl ?_
  refine x_get C (ci := 7) (k := 0) 1 k_0 rfl in_X8 (by decide) w_36 rfl dX8_addWord_18 rfl ?_
  refine x_aload_n C dX8_addWord_21 rfl 1 rfl rfl ?_
  refine x_get C (ci := 7) (k := 1) 1 k_0 rfl in_X8 (by decide) w_37 rfl dX8_addWord_22 rfl ?_
  refine x_iload_n C dX8_addWord_25 rfl 2 rfl rfl ?_
  refine x_iload_n C dX8_addWord_26 rfl 0 rfl rfl ?_
  refine x_iushr C (v := (v.toUInt32 >>> ((24 : Int32).toUInt32 &&& Int32.toUInt32 31)).toInt32) dX8_addWord_27 rfl rfl ?_
  refine x_sipush C (v := 255) dX8_addWord_28 (by decide) rfl ?_
  refine x_iand C (v := ((v.toUInt32 >>> ((24 : Int32).toUInt32 &&& Int32.toUInt32 31)).toInt32 &&& (255 : Int32))) dX8_addWord_31 rfl rfl ?_
  obtain ⟨w1, hw2⟩ : ∃ w : va_W, w = List.set ws 2 (iA E tb 260 (upd fb 16 ((v.toUInt32 >>> ((24 : Int32).toUInt32 &&& Int32.toUInt32 31)).toInt32 &&& (255 : Int32)))) := ⟨_, rfl⟩
  refine x_iask C 16 (by decide) (by decide) (by decide) 2 k_1 hw2.symm dX8_addWord_32 rfl ?_
  have k3 : w1[1]? = some (ob xt 7 [.ref tb, .int 16, .int 0, .int 0, .int 0]) := by rw [hw2]; exact set_ne k_0 (by decide)
  have k4 : w1[2]? = some (iA E tb 260 (upd fb 16 ((v.toUInt32 >>> ((24 : Int32).toUInt32 &&& Int32.toUInt32 31)).toInt32 &&& (255 : Int32)))) := by rw [hw2]; exact set_eq k_1
  have kp5 := keeps_set kp0 hw2 (by first | exact rfl | decide | omega | (dsimp only; omega))
  refine x_aload_n C dX8_addWord_33 rfl 1 rfl rfl ?_
  refine x_dup C dX8_addWord_34 rfl rfl ?_
  refine x_get C (ci := 7) (k := 1) 1 k3 rfl in_X8 (by decide) w_37 rfl dX8_addWord_35 rfl ?_
  refine x_iconst C (v := 1) dX8_addWord_38 (by decide) rfl ?_
  refine x_iadd C (v := 17) dX8_addWord_39 (by decide) rfl ?_
  obtain ⟨w6, hw7⟩ : ∃ w : va_W, w = List.set w1 1 (ob xt 7 [.ref tb, .int 17, .int 0, .int 0, .int 0]) := ⟨_, rfl⟩
  refine x_put C (ci := 7) (k := 1) (ty := .int) 1 k3 rfl in_X8 tyX8 tyX8_ok nmX8 (by decide) w_37 rfl rfl rfl rfl (Nat.le_of_ble_eq_true rfl) hw7.symm dX8_addWord_40 rfl ?_
  have k8 : w6[1]? = some (ob xt 7 [.ref tb, .int 17, .int 0, .int 0, .int 0]) := by rw [hw7]; exact set_eq k3
  have k9 : w6[2]? = some (iA E tb 260 (upd fb 16 ((v.toUInt32 >>> ((24 : Int32).toUInt32 &&& Int32.toUInt32 31)).toInt32 &&& (255 : Int32)))) := by rw [hw7]; exact set_ne k4 (by decide)
  have kp10 := keeps_set kp5 hw7 (by first | exact rfl | decide | omega | (dsimp only; omega))
  refine x_iinc C (v := 16) (lv' := [(2, .int 16), (0, .ref xt), (1, .int v)]) dX8_addWord_43 0 rfl (by decide) (by decide) rfl rfl ?_
  refine x_goto C (tgt := 3) dX8_addWord_46 (by decide) ?_
  refine x_iload_n C dX8_addWord_3 rfl 0 rfl rfl ?_
  refine x_if_lt C (tgt := 49) dX8_addWord_4 (by decide) rfl (fun h => absurd h (by decide)) (fun _ => ?_)
  refine x_aload_n C dX8_addWord_7 rfl 1 rfl rfl ?_
  refine x_get C (ci := 7) (k := 1) 1 k8 rfl in_X8 (by decide) w_37 rfl dX8_addWord_8 rfl ?_
  refine x_sipush C (v := 260) dX8_addWord_11 (by decide) rfl ?_
  refine x_icmp_ge C (tgt := 49) dX8_addWord_14 (by decide) rfl (fun h => absurd h (by decide)) (fun _ => ?_)
  refine x_aload_n C dX8_addWord_17 rfl 1 rfl rfl ?_
  refine x_get C (ci := 7) (k := 0) 1 k8 rfl in_X8 (by decide) w_36 rfl dX8_addWord_18 rfl ?_
  refine x_aload_n C dX8_addWord_21 rfl 1 rfl rfl ?_
  refine x_get C (ci := 7) (k := 1) 1 k8 rfl in_X8 (by decide) w_37 rfl dX8_addWord_22 rfl ?_
  refine x_iload_n C dX8_addWord_25 rfl 2 rfl rfl ?_
  refine x_iload_n C dX8_addWord_26 rfl 0 rfl rfl ?_
  refine x_iushr C (v := (v.toUInt32 >>> ((16 : Int32).toUInt32 &&& Int32.toUInt32 31)).toInt32) dX8_addWord_27 rfl rfl ?_
  refine x_sipush C (v := 255) dX8_addWord_28 (by decide) rfl ?_
  refine x_iand C (v := ((v.toUInt32 >>> ((16 : Int32).toUInt32 &&& Int32.toUInt32 31)).toInt32 &&& (255 : Int32))) dX8_addWord_31 rfl rfl ?_
  obtain ⟨w11, hw12⟩ : ∃ w : va_W, w = List.set w6 2 (iA E tb 260 (upd (upd fb 16 ((v.toUInt32 >>> ((24 : Int32).toUInt32 &&& Int32.toUInt32 31)).toInt32 &&& (255 : Int32))) 17 ((v.toUInt32 >>> ((16 : Int32).toUInt32 &&& Int32.toUInt32 31)).toInt32 &&& (255 : Int32)))) := ⟨_, rfl⟩
  refine x_iask C 17 (by decide) (by decide) (by decide) 2 k9 hw12.symm dX8_addWord_32 rfl ?_
  have k13 : w11[1]? = some (ob xt 7 [.ref tb, .int 17, .int 0, .int 0, .int 0]) := by rw [hw12]; exact set_ne k8 (by decide)
  have k14 : w11[2]? = some (iA E tb 260 (upd (upd fb 16 ((v.toUInt32 >>> ((24 : Int32).toUInt32 &&& Int32.toUInt32 31)).toInt32 &&& (255 : Int32))) 17 ((v.toUInt32 >>> ((16 : Int32).toUInt32 &&& Int32.toUInt32 31)).toInt32 &&& (255 : Int32)))) := by rw [hw12]; exact set_eq k9
  have kp15 := keeps_set kp10 hw12 (by first | exact rfl | decide | omega | (dsimp only; omega))
  refine x_aload_n C dX8_addWord_33 rfl 1 rfl rfl ?_
  refine x_dup C dX8_addWord_34 rfl rfl ?_
  refine x_get C (ci := 7) (k := 1) 1 k13 rfl in_X8 (by decide) w_37 rfl dX8_addWord_35 rfl ?_
  refine x_iconst C (v := 1) dX8_addWord_38 (by decide) rfl ?_
  refine x_iadd C (v := 18) dX8_addWord_39 (by decide) rfl ?_
  obtain ⟨w16, hw17⟩ : ∃ w : va_W, w = List.set w11 1 (ob xt 7 [.ref tb, .int 18, .int 0, .int 0, .int 0]) := ⟨_, rfl⟩
  refine x_put C (ci := 7) (k := 1) (ty := .int) 1 k13 rfl in_X8 tyX8 tyX8_ok nmX8 (by decide) w_37 rfl rfl rfl rfl (Nat.le_of_ble_eq_true rfl) hw17.symm dX8_addWord_40 rfl ?_
  have k18 : w16[1]? = some (ob xt 7 [.ref tb, .int 18, .int 0, .int 0, .int 0]) := by rw [hw17]; exact set_eq k13
  have k19 : w16[2]? = some (iA E tb 260 (upd (upd fb 16 ((v.toUInt32 >>> ((24 : Int32).toUInt32 &&& Int32.toUInt32 31)).toInt32 &&& (255 : Int32))) 17 ((v.toUInt32 >>> ((16 : Int32).toUInt32 &&& Int32.toUInt32 31)).toInt32 &&& (255 : Int32)))) := by rw [hw17]; exact set_ne k14 (by decide)
  have kp20 := keeps_set kp15 hw17 (by first | exact rfl | decide | omega | (dsimp only; omega))
  refine x_iinc C (v := 8) (lv' := [(2, .int 8), (0, .ref xt), (1, .int v)]) dX8_addWord_43 0 rfl (by decide) (by decide) rfl rfl ?_
  refine x_goto C (tgt := 3) dX8_addWord_46 (by decide) ?_
  refine x_iload_n C dX8_addWord_3 rfl 0 rfl rfl ?_
  refine x_if_lt C (tgt := 49) dX8_addWord_4 (by decide) rfl (fun h => absurd h (by decide)) (fun _ => ?_)
  refine x_aload_n C dX8_addWord_7 rfl 1 rfl rfl ?_
  refine x_get C (ci := 7) (k := 1) 1 k18 rfl in_X8 (by decide) w_37 rfl dX8_addWord_8 rfl ?_
  refine x_sipush C (v := 260) dX8_addWord_11 (by decide) rfl ?_
  refine x_icmp_ge C (tgt := 49) dX8_addWord_14 (by decide) rfl (fun h => absurd h (by decide)) (fun _ => ?_)
  refine x_aload_n C dX8_addWord_17 rfl 1 rfl rfl ?_
  refine x_get C (ci := 7) (k := 0) 1 k18 rfl in_X8 (by decide) w_36 rfl dX8_addWord_18 rfl ?_
  refine x_aload_n C dX8_addWord_21 rfl 1 rfl rfl ?_
  refine x_get C (ci := 7) (k := 1) 1 k18 rfl in_X8 (by decide) w_37 rfl dX8_addWord_22 rfl ?_
  refine x_iload_n C dX8_addWord_25 rfl 2 rfl rfl ?_
  refine x_iload_n C dX8_addWord_26 rfl 0 rfl rfl ?_
  refine x_iushr C (v := (v.toUInt32 >>> ((8 : Int32).toUInt32 &&& Int32.toUInt32 31)).toInt32) dX8_addWord_27 rfl rfl ?_
  refine x_sipush C (v := 255) dX8_addWord_28 (by decide) rfl ?_
  refine x_iand C (v := ((v.toUInt32 >>> ((8 : Int32).toUInt32 &&& Int32.toUInt32 31)).toInt32 &&& (255 : Int32))) dX8_addWord_31 rfl rfl ?_
  obtain ⟨w21, hw22⟩ : ∃ w : va_W, w = List.set w16 2 (iA E tb 260 (upd (upd (upd fb 16 ((v.toUInt32 >>> ((24 : Int32).toUInt32 &&& Int32.toUInt32 31)).toInt32 &&& (255 : Int32))) 17 ((v.toUInt32 >>> ((16 : Int32).toUInt32 &&& Int32.toUInt32 31)).toInt32 &&& (255 : Int32))) 18 ((v.toUInt32 >>> ((8 : Int32).toUInt32 &&& Int32.toUInt32 31)).toInt32 &&& (255 : Int32)))) := ⟨_, rfl⟩
  refine x_iask C 18 (by decide) (by decide) (by decide) 2 k19 hw22.symm dX8_addWord_32 rfl ?_
  have k23 : w21[1]? = some (ob xt 7 [.ref tb, .int 18, .int 0, .int 0, .int 0]) := by rw [hw22]; exact set_ne k18 (by decide)
  have k24 : w21[2]? = some (iA E tb 260 (upd (upd (upd fb 16 ((v.toUInt32 >>> ((24 : Int32).toUInt32 &&& Int32.toUInt32 31)).toInt32 &&& (255 : Int32))) 17 ((v.toUInt32 >>> ((16 : Int32).toUInt32 &&& Int32.toUInt32 31)).toInt32 &&& (255 : Int32))) 18 ((v.toUInt32 >>> ((8 : Int32).toUInt32 &&& Int32.toUInt32 31)).toInt32 &&& (255 : Int32)))) := by rw [hw22]; exact set_eq k19
  have kp25 := keeps_set kp20 hw22 (by first | exact rfl | decide | omega | (dsimp only; omega))
  refine x_aload_n C dX8_addWord_33 rfl 1 rfl rfl ?_
  refine x_dup C dX8_addWord_34 rfl rfl ?_
  refine x_get C (ci := 7) (k := 1) 1 k23 rfl in_X8 (by decide) w_37 rfl dX8_addWord_35 rfl ?_
  refine x_iconst C (v := 1) dX8_addWord_38 (by decide) rfl ?_
  refine x_iadd C (v := 19) dX8_addWord_39 (by decide) rfl ?_
  obtain ⟨w26, hw27⟩ : ∃ w : va_W, w = List.set w21 1 (ob xt 7 [.ref tb, .int 19, .int 0, .int 0, .int 0]) := ⟨_, rfl⟩
  refine x_put C (ci := 7) (k := 1) (ty := .int) 1 k23 rfl in_X8 tyX8 tyX8_ok nmX8 (by decide) w_37 rfl rfl rfl rfl (Nat.le_of_ble_eq_true rfl) hw27.symm dX8_addWord_40 rfl ?_
  have k28 : w26[1]? = some (ob xt 7 [.ref tb, .int 19, .int 0, .int 0, .int 0]) := by rw [hw27]; exact set_eq k23
  have k29 : w26[2]? = some (iA E tb 260 (upd (upd (upd fb 16 ((v.toUInt32 >>> ((24 : Int32).toUInt32 &&& Int32.toUInt32 31)).toInt32 &&& (255 : Int32))) 17 ((v.toUInt32 >>> ((16 : Int32).toUInt32 &&& Int32.toUInt32 31)).toInt32 &&& (255 : Int32))) 18 ((v.toUInt32 >>> ((8 : Int32).toUInt32 &&& Int32.toUInt32 31)).toInt32 &&& (255 : Int32)))) := by rw [hw27]; exact set_ne k24 (by decide)
  have kp30 := keeps_set kp25 hw27 (by first | exact rfl | decide | omega | (dsimp only; omega))
  refine x_iinc C (v := 0) (lv' := [(2, .int 0), (0, .ref xt), (1, .int v)]) dX8_addWord_43 0 rfl (by decide) (by decide) rfl rfl ?_
  refine x_goto C (tgt := 3) dX8_addWord_46 (by decide) ?_
  refine x_iload_n C dX8_addWord_3 rfl 0 rfl rfl ?_
  refine x_if_lt C (tgt := 49) dX8_addWord_4 (by decide) rfl (fun h => absurd h (by decide)) (fun _ => ?_)
  refine x_aload_n C dX8_addWord_7 rfl 1 rfl rfl ?_
  refine x_get C (ci := 7) (k := 1) 1 k28 rfl in_X8 (by decide) w_37 rfl dX8_addWord_8 rfl ?_
  refine x_sipush C (v := 260) dX8_addWord_11 (by decide) rfl ?_
  refine x_icmp_ge C (tgt := 49) dX8_addWord_14 (by decide) rfl (fun h => absurd h (by decide)) (fun _ => ?_)
  refine x_aload_n C dX8_addWord_17 rfl 1 rfl rfl ?_
  refine x_get C (ci := 7) (k := 0) 1 k28 rfl in_X8 (by decide) w_36 rfl dX8_addWord_18 rfl ?_
  refine x_aload_n C dX8_addWord_21 rfl 1 rfl rfl ?_
  refine x_get C (ci := 7) (k := 1) 1 k28 rfl in_X8 (by decide) w_37 rfl dX8_addWord_22 rfl ?_
  refine x_iload_n C dX8_addWord_25 rfl 2 rfl rfl ?_
  refine x_iload_n C dX8_addWord_26 rfl 0 rfl rfl ?_
  refine x_iushr C (v := (v.toUInt32 >>> ((0 : Int32).toUInt32 &&& Int32.toUInt32 31)).toInt32) dX8_addWord_27 rfl rfl ?_
  refine x_sipush C (v := 255) dX8_addWord_28 (by decide) rfl ?_
  refine x_iand C (v := ((v.toUInt32 >>> ((0 : Int32).toUInt32 &&& Int32.toUInt32 31)).toInt32 &&& (255 : Int32))) dX8_addWord_31 rfl rfl ?_
  obtain ⟨w31, hw32⟩ : ∃ w : va_W, w = List.set w26 2 (iA E tb 260 (upd (upd (upd (upd fb 16 ((v.toUInt32 >>> ((24 : Int32).toUInt32 &&& Int32.toUInt32 31)).toInt32 &&& (255 : Int32))) 17 ((v.toUInt32 >>> ((16 : Int32).toUInt32 &&& Int32.toUInt32 31)).toInt32 &&& (255 : Int32))) 18 ((v.toUInt32 >>> ((8 : Int32).toUInt32 &&& Int32.toUInt32 31)).toInt32 &&& (255 : Int32))) 19 ((v.toUInt32 >>> ((0 : Int32).toUInt32 &&& Int32.toUInt32 31)).toInt32 &&& (255 : Int32)))) := ⟨_, rfl⟩
  refine x_iask C 19 (by decide) (by decide) (by decide) 2 k29 hw32.symm dX8_addWord_32 rfl ?_
  have k33 : w31[1]? = some (ob xt 7 [.ref tb, .int 19, .int 0, .int 0, .int 0]) := by rw [hw32]; exact set_ne k28 (by decide)
  have k34 : w31[2]? = some (iA E tb 260 (upd (upd (upd (upd fb 16 ((v.toUInt32 >>> ((24 : Int32).toUInt32 &&& Int32.toUInt32 31)).toInt32 &&& (255 : Int32))) 17 ((v.toUInt32 >>> ((16 : Int32).toUInt32 &&& Int32.toUInt32 31)).toInt32 &&& (255 : Int32))) 18 ((v.toUInt32 >>> ((8 : Int32).toUInt32 &&& Int32.toUInt32 31)).toInt32 &&& (255 : Int32))) 19 ((v.toUInt32 >>> ((0 : Int32).toUInt32 &&& Int32.toUInt32 31)).toInt32 &&& (255 : Int32)))) := by rw [hw32]; exact set_eq k29
  have kp35 := keeps_set kp30 hw32 (by first | exact rfl | decide | omega | (dsimp only; omega))
  refine x_aload_n C dX8_addWord_33 rfl 1 rfl rfl ?_
  refine x_dup C dX8_addWord_34 rfl rfl ?_
  refine x_get C (ci := 7) (k := 1) 1 k33 rfl in_X8 (by decide) w_37 rfl dX8_addWord_35 rfl ?_
  refine x_iconst C (v := 1) dX8_addWord_38 (by decide) rfl ?_
  refine x_iadd C (v := 20) dX8_addWord_39 (by decide) rfl ?_
  obtain ⟨w36, hw37⟩ : ∃ w : va_W, w = List.set w31 1 (ob xt 7 [.ref tb, .int 20, .int 0, .int 0, .int 0]) := ⟨_, rfl⟩
  refine x_put C (ci := 7) (k := 1) (ty := .int) 1 k33 rfl in_X8 tyX8 tyX8_ok nmX8 (by decide) w_37 rfl rfl rfl rfl (Nat.le_of_ble_eq_true rfl) hw37.symm dX8_addWord_40 rfl ?_
  have k38 : w36[1]? = some (ob xt 7 [.ref tb, .int 20, .int 0, .int 0, .int 0]) := by rw [hw37]; exact set_eq k33
  have k39 : w36[2]? = some (iA E tb 260 (upd (upd (upd (upd fb 16 ((v.toUInt32 >>> ((24 : Int32).toUInt32 &&& Int32.toUInt32 31)).toInt32 &&& (255 : Int32))) 17 ((v.toUInt32 >>> ((16 : Int32).toUInt32 &&& Int32.toUInt32 31)).toInt32 &&& (255 : Int32))) 18 ((v.toUInt32 >>> ((8 : Int32).toUInt32 &&& Int32.toUInt32 31)).toInt32 &&& (255 : Int32))) 19 ((v.toUInt32 >>> ((0 : Int32).toUInt32 &&& Int32.toUInt32 31)).toInt32 &&& (255 : Int32)))) := by rw [hw37]; exact set_ne k34 (by decide)
  have kp40 := keeps_set kp35 hw37 (by first | exact rfl | decide | omega | (dsimp only; omega))
  refine x_iinc C (v := (-8)) (lv' := [(2, .int (-8)), (0, .ref xt), (1, .int v)]) dX8_addWord_43 0 rfl (by decide) (by decide) rfl rfl ?_
  refine x_goto C (tgt := 3) dX8_addWord_46 (by decide) ?_
  refine x_iload_n C dX8_addWord_3 rfl 0 rfl rfl ?_
  refine x_if_lt C (tgt := 49) dX8_addWord_4 (by decide) rfl (fun _ => ?_) (fun h => absurd h (by decide))
  exact x_vret C hr hlk dX8_addWord_49 ⟨kp40, k38, ⟨_, k39⟩⟩
theorem dX11_feed_0 : decode cX11_feed 0 = .ok (.aload_n 0, 1) := by decide +kernel
theorem dX11_feed_1 : decode cX11_feed 1 = .ok (.getfield 10, 3) := by decide +kernel
theorem dX11_feed_4 : decode cX11_feed 4 = .ok (.getfield 142, 3) := by decide +kernel
theorem dX11_feed_7 : decode cX11_feed 7 = .ok (.bipush 20, 2) := by decide +kernel
theorem dX11_feed_9 : decode cX11_feed 9 = .ok (.iadd, 1) := by decide +kernel
theorem dX11_feed_10 : decode cX11_feed 10 = .ok (.sipush 260, 3) := by decide +kernel
theorem dX11_feed_13 : decode cX11_feed 13 = .ok (.if_icmp .le 5, 3) := by decide +kernel
theorem dX11_feed_18 : decode cX11_feed 18 = .ok (.aload_n 0, 1) := by decide +kernel
theorem dX11_feed_19 : decode cX11_feed 19 = .ok (.getfield 10, 3) := by decide +kernel
theorem dX11_feed_22 : decode cX11_feed 22 = .ok (.iload_n 1, 1) := by decide +kernel
theorem dX11_feed_23 : decode cX11_feed 23 = .ok (.invokevirtual 145, 3) := by decide +kernel
theorem dX11_feed_26 : decode cX11_feed 26 = .ok (.aload_n 0, 1) := by decide +kernel
theorem dX11_feed_27 : decode cX11_feed 27 = .ok (.getfield 10, 3) := by decide +kernel
theorem dX11_feed_30 : decode cX11_feed 30 = .ok (.iload_n 2, 1) := by decide +kernel
theorem dX11_feed_31 : decode cX11_feed 31 = .ok (.invokevirtual 145, 3) := by decide +kernel
theorem dX11_feed_34 : decode cX11_feed 34 = .ok (.aload_n 0, 1) := by decide +kernel
theorem dX11_feed_35 : decode cX11_feed 35 = .ok (.getfield 10, 3) := by decide +kernel
theorem dX11_feed_38 : decode cX11_feed 38 = .ok (.iload_n 3, 1) := by decide +kernel
theorem dX11_feed_39 : decode cX11_feed 39 = .ok (.invokevirtual 145, 3) := by decide +kernel
theorem dX11_feed_42 : decode cX11_feed 42 = .ok (.aload_n 0, 1) := by decide +kernel
theorem dX11_feed_43 : decode cX11_feed 43 = .ok (.getfield 10, 3) := by decide +kernel
theorem dX11_feed_46 : decode cX11_feed 46 = .ok (.iload 4, 2) := by decide +kernel
theorem dX11_feed_48 : decode cX11_feed 48 = .ok (.invokevirtual 145, 3) := by decide +kernel
theorem dX11_feed_51 : decode cX11_feed 51 = .ok (.aload_n 0, 1) := by decide +kernel
theorem dX11_feed_52 : decode cX11_feed 52 = .ok (.getfield 10, 3) := by decide +kernel
theorem dX11_feed_55 : decode cX11_feed 55 = .ok (.iload 5, 2) := by decide +kernel
theorem dX11_feed_57 : decode cX11_feed 57 = .ok (.invokevirtual 145, 3) := by decide +kernel
theorem dX11_feed_60 : decode cX11_feed 60 = .ok (.aload_n 0, 1) := by decide +kernel
theorem dX11_feed_61 : decode cX11_feed 61 = .ok (.getfield 10, 3) := by decide +kernel
theorem dX11_feed_64 : decode cX11_feed 64 = .ok (.getfield 142, 3) := by decide +kernel
theorem dX11_feed_67 : decode cX11_feed 67 = .ok (.ireturn, 1) := by decide +kernel
set_option maxRecDepth 20000 in
set_option maxHeartbeats 4000000 in
theorem t_feed (E : xE) (l : Launch) (ws : va_W) {x xt xk xn xp xtr xr xs xl xpl xse ah ald arm ahr ash arw abr aw tb : Nat} {fb : Nat → Int32} (p_0 : Nat) (k_0 : ws[0]? = some (ob x 10 [.ref xt, .ref xk, .ref xn, .ref xp, .ref xtr, .int 0, .ref xr, .ref xs, .ref xl, .ref xpl, .ref xse, .ref ah, .ref ald, .ref arm, .ref ahr, .ref ash, .ref arw, .ref abr, .ref aw])) (p_1 : Nat) (k_1 : ws[1]? = some (ob xt 7 [.ref tb, .int 0, .int 0, .int 0, .int 0])) (p_2 : Nat) (k_2 : ws[2]? = some (iA E tb 260 fb)) (a b c0 d e0 : Int32) : xI E l yX11_feed cX11_feed 6 (some .int) 1 [.ref x, .int a, .int b, .int c0, .int d, .int e0] ws (fun r w => r = 20) := by
  refine xI_start (lv := [(0, .ref x), (1, .int a), (2, .int b), (3, .int c0), (4, .int d), (5, .int e0)]) RX11 (by decide) rfl (Nat.le_of_ble_eq_true rfl) rfl (fun p e s m below meth c A C hr hlk => ?_)
  refine x_aload_n C dX11_feed_0 rfl 0 rfl rfl ?_
  refine x_get C (ci := 10) (k := 0) 0 k_0 rfl in_X11 (by decide) w_385 rfl dX11_feed_1 rfl ?_
  refine x_get C (ci := 7) (k := 1) 1 k_1 rfl in_X8 (by decide) w_38 rfl dX11_feed_4 rfl ?_
  refine x_bipush C (v := 20) dX11_feed_7 (by decide) rfl ?_
  refine x_iadd C (v := 20) dX11_feed_9 (by decide) rfl ?_
  refine x_sipush C (v := 260) dX11_feed_10 (by decide) rfl ?_
  refine x_icmp_le C (tgt := 18) dX11_feed_13 (by decide) rfl (fun _ => ?_) (fun h => absurd h (by decide))
  refine x_aload_n C dX11_feed_18 rfl 0 rfl rfl ?_
  refine x_get C (ci := 10) (k := 0) 0 k_0 rfl in_X11 (by decide) w_385 rfl dX11_feed_19 rfl ?_
  refine x_iload_n C dX11_feed_22 rfl 1 rfl rfl ?_
  refine x_vv C (As := [.int a]) (rest := []) (t_addWord_0 E l ws 1 k_1 2 k_2 a) mf_X8_addWord w_499 1 k_1 rfl rfl rfl (Nat.le_of_ble_eq_true rfl) ⟨(Nat.le_of_ble_eq_true rfl), (Nat.le_of_ble_eq_true rfl)⟩ ⟨(Nat.le_of_ble_eq_true rfl), (Nat.le_of_ble_eq_true rfl)⟩ dX11_feed_23 rfl (fun w3 h1 => ?_)
  obtain ⟨g4, g5, ⟨fx8, g6⟩⟩ := h1
  have k9 : w3[0]? = some (ob x 10 [.ref xt, .ref xk, .ref xn, .ref xp, .ref xtr, .int 0, .ref xr, .ref xs, .ref xl, .ref xpl, .ref xse, .ref ah, .ref ald, .ref arm, .ref ahr, .ref ash, .ref arw, .ref abr, .ref aw]) := keeps_at g4 k_0 (by first | decide | omega | (dsimp only; omega))
  refine x_aload_n C dX11_feed_26 rfl 0 rfl rfl ?_
  refine x_get C (ci := 10) (k := 0) 0 k9 rfl in_X11 (by decide) w_385 rfl dX11_feed_27 rfl ?_
  refine x_iload_n C dX11_feed_30 rfl 2 rfl rfl ?_
  refine x_vv C (As := [.int b]) (rest := []) (t_addWord_4 E l w3 1 g5 2 g6 b) mf_X8_addWord w_499 1 g5 rfl rfl rfl (Nat.le_of_ble_eq_true rfl) ⟨(Nat.le_of_ble_eq_true rfl), (Nat.le_of_ble_eq_true rfl)⟩ ⟨(Nat.le_of_ble_eq_true rfl), (Nat.le_of_ble_eq_true rfl)⟩ dX11_feed_31 rfl (fun w12 h10 => ?_)
  obtain ⟨g13, g14, ⟨fx17, g15⟩⟩ := h10
  have k18 : w12[0]? = some (ob x 10 [.ref xt, .ref xk, .ref xn, .ref xp, .ref xtr, .int 0, .ref xr, .ref xs, .ref xl, .ref xpl, .ref xse, .ref ah, .ref ald, .ref arm, .ref ahr, .ref ash, .ref arw, .ref abr, .ref aw]) := keeps_at g13 k9 (by first | decide | omega | (dsimp only; omega))
  refine x_aload_n C dX11_feed_34 rfl 0 rfl rfl ?_
  refine x_get C (ci := 10) (k := 0) 0 k18 rfl in_X11 (by decide) w_385 rfl dX11_feed_35 rfl ?_
  refine x_iload_n C dX11_feed_38 rfl 3 rfl rfl ?_
  refine x_vv C (As := [.int c0]) (rest := []) (t_addWord_8 E l w12 1 g14 2 g15 c0) mf_X8_addWord w_499 1 g14 rfl rfl rfl (Nat.le_of_ble_eq_true rfl) ⟨(Nat.le_of_ble_eq_true rfl), (Nat.le_of_ble_eq_true rfl)⟩ ⟨(Nat.le_of_ble_eq_true rfl), (Nat.le_of_ble_eq_true rfl)⟩ dX11_feed_39 rfl (fun w21 h19 => ?_)
  obtain ⟨g22, g23, ⟨fx26, g24⟩⟩ := h19
  have k27 : w21[0]? = some (ob x 10 [.ref xt, .ref xk, .ref xn, .ref xp, .ref xtr, .int 0, .ref xr, .ref xs, .ref xl, .ref xpl, .ref xse, .ref ah, .ref ald, .ref arm, .ref ahr, .ref ash, .ref arw, .ref abr, .ref aw]) := keeps_at g22 k18 (by first | decide | omega | (dsimp only; omega))
  refine x_aload_n C dX11_feed_42 rfl 0 rfl rfl ?_
  refine x_get C (ci := 10) (k := 0) 0 k27 rfl in_X11 (by decide) w_385 rfl dX11_feed_43 rfl ?_
  refine x_iload C dX11_feed_46 4 rfl rfl ?_
  refine x_vv C (As := [.int d]) (rest := []) (t_addWord_12 E l w21 1 g23 2 g24 d) mf_X8_addWord w_499 1 g23 rfl rfl rfl (Nat.le_of_ble_eq_true rfl) ⟨(Nat.le_of_ble_eq_true rfl), (Nat.le_of_ble_eq_true rfl)⟩ ⟨(Nat.le_of_ble_eq_true rfl), (Nat.le_of_ble_eq_true rfl)⟩ dX11_feed_48 rfl (fun w30 h28 => ?_)
  obtain ⟨g31, g32, ⟨fx35, g33⟩⟩ := h28
  have k36 : w30[0]? = some (ob x 10 [.ref xt, .ref xk, .ref xn, .ref xp, .ref xtr, .int 0, .ref xr, .ref xs, .ref xl, .ref xpl, .ref xse, .ref ah, .ref ald, .ref arm, .ref ahr, .ref ash, .ref arw, .ref abr, .ref aw]) := keeps_at g31 k27 (by first | decide | omega | (dsimp only; omega))
  refine x_aload_n C dX11_feed_51 rfl 0 rfl rfl ?_
  refine x_get C (ci := 10) (k := 0) 0 k36 rfl in_X11 (by decide) w_385 rfl dX11_feed_52 rfl ?_
  refine x_iload C dX11_feed_55 5 rfl rfl ?_
  refine x_vv C (As := [.int e0]) (rest := []) (t_addWord_16 E l w30 1 g32 2 g33 e0) mf_X8_addWord w_499 1 g32 rfl rfl rfl (Nat.le_of_ble_eq_true rfl) ⟨(Nat.le_of_ble_eq_true rfl), (Nat.le_of_ble_eq_true rfl)⟩ ⟨(Nat.le_of_ble_eq_true rfl), (Nat.le_of_ble_eq_true rfl)⟩ dX11_feed_57 rfl (fun w39 h37 => ?_)
  obtain ⟨g40, g41, ⟨fx44, g42⟩⟩ := h37
  have k45 : w39[0]? = some (ob x 10 [.ref xt, .ref xk, .ref xn, .ref xp, .ref xtr, .int 0, .ref xr, .ref xs, .ref xl, .ref xpl, .ref xse, .ref ah, .ref ald, .ref arm, .ref ahr, .ref ash, .ref arw, .ref abr, .ref aw]) := keeps_at g40 k36 (by first | decide | omega | (dsimp only; omega))
  refine x_aload_n C dX11_feed_60 rfl 0 rfl rfl ?_
  refine x_get C (ci := 10) (k := 0) 0 k45 rfl in_X11 (by decide) w_385 rfl dX11_feed_61 rfl ?_
  refine x_get C (ci := 7) (k := 1) 1 g41 rfl in_X8 (by decide) w_38 rfl dX11_feed_64 rfl ?_
  exact x_zret C hr hlk rfl dX11_feed_67 (by first | rfl | trivial | (simp [bI]; done) | (simp_all [bI]; done))
theorem dX2_copyFrom_0 : decode cX2_copyFrom 0 = .ok (.aload_n 0, 1) := by decide +kernel
theorem dX2_copyFrom_1 : decode cX2_copyFrom 1 = .ok (.aload_n 1, 1) := by decide +kernel
theorem dX2_copyFrom_2 : decode cX2_copyFrom 2 = .ok (.getfield 9, 3) := by decide +kernel
theorem dX2_copyFrom_5 : decode cX2_copyFrom 5 = .ok (.putfield 9, 3) := by decide +kernel
theorem dX2_copyFrom_8 : decode cX2_copyFrom 8 = .ok (.aload_n 1, 1) := by decide +kernel
theorem dX2_copyFrom_9 : decode cX2_copyFrom 9 = .ok (.getfield 15, 3) := by decide +kernel
theorem dX2_copyFrom_12 : decode cX2_copyFrom 12 = .ok (.iconst 0, 1) := by decide +kernel
theorem dX2_copyFrom_13 : decode cX2_copyFrom 13 = .ok (.aload_n 0, 1) := by decide +kernel
theorem dX2_copyFrom_14 : decode cX2_copyFrom 14 = .ok (.getfield 15, 3) := by decide +kernel
theorem dX2_copyFrom_17 : decode cX2_copyFrom 17 = .ok (.iconst 0, 1) := by decide +kernel
theorem dX2_copyFrom_18 : decode cX2_copyFrom 18 = .ok (.bipush 8, 2) := by decide +kernel
theorem dX2_copyFrom_20 : decode cX2_copyFrom 20 = .ok (.invokestatic 30, 3) := by decide +kernel
theorem dX2_copyFrom_23 : decode cX2_copyFrom 23 = .ok (.aload_n 1, 1) := by decide +kernel
theorem dX2_copyFrom_24 : decode cX2_copyFrom 24 = .ok (.getfield 19, 3) := by decide +kernel
theorem dX2_copyFrom_27 : decode cX2_copyFrom 27 = .ok (.iconst 0, 1) := by decide +kernel
theorem dX2_copyFrom_28 : decode cX2_copyFrom 28 = .ok (.aload_n 0, 1) := by decide +kernel
theorem dX2_copyFrom_29 : decode cX2_copyFrom 29 = .ok (.getfield 19, 3) := by decide +kernel
theorem dX2_copyFrom_32 : decode cX2_copyFrom 32 = .ok (.iconst 0, 1) := by decide +kernel
theorem dX2_copyFrom_33 : decode cX2_copyFrom 33 = .ok (.bipush 8, 2) := by decide +kernel
theorem dX2_copyFrom_35 : decode cX2_copyFrom 35 = .ok (.invokestatic 30, 3) := by decide +kernel
theorem dX2_copyFrom_38 : decode cX2_copyFrom 38 = .ok (.return_, 1) := by decide +kernel
set_option maxRecDepth 20000 in
set_option maxHeartbeats 4000000 in
theorem t_Hens_copy (E : xE) (l : Launch) (ws : va_W) {h h1 h2 o o1 o2 : Nat} {i1 i2 : Int32} {f1 f2 g1 g2 : Nat → Int32} (a : Nat) (k_0 : ws[a]? = some (ob h 2 [.int i1, .ref h1, .ref h2])) (p_1 : Nat) (k_1 : ws[a + 1]? = some (iA E h1 8 f1)) (p_2 : Nat) (k_2 : ws[a + 2]? = some (iA E h2 8 f2)) (b : Nat) (k_3 : ws[b]? = some (ob o 2 [.int i2, .ref o1, .ref o2])) (p_4 : Nat) (k_4 : ws[b + 1]? = some (iA E o1 8 g1)) (p_5 : Nat) (k_5 : ws[b + 2]? = some (iA E o2 8 g2)) (hab : b + 3 ≤ a) : xV E l yX2_copyFrom cX2_copyFrom 2 1 0 0 [.ref h, .ref o] ws (fun w => keeps ws w (fun q => a ≤ q ∧ q < a + 3) ∧ w[a]? = some (ob h 2 [.int i2, .ref h1, .ref h2])) := by
  refine xV_start (lv := [(0, .ref h), (1, .ref o)]) RX2 (by decide) rfl (Nat.le_of_ble_eq_true rfl) rfl (fun p e s m below meth c A C hr hlk hin => ?_)
  have kp0 : keeps ws ws (fun q => a ≤ q ∧ q < a + 3) := keeps_rf
  refine x_aload_n C dX2_copyFrom_0 rfl 0 rfl rfl ?_
  refine x_aload_n C dX2_copyFrom_1 rfl 1 rfl rfl ?_
  refine x_get C (ci := 2) (k := 0) b k_3 rfl in_X2 (by decide) w_68 rfl dX2_copyFrom_2 rfl ?_
  obtain ⟨w1, hw2⟩ : ∃ w : va_W, w = List.set ws a (ob h 2 [.int i2, .ref h1, .ref h2]) := ⟨_, rfl⟩
  refine x_put C (ci := 2) (k := 0) (ty := .int) a k_0 rfl in_X2 tyX2 tyX2_ok nmX2 (by decide) w_68 rfl rfl rfl rfl (Nat.le_of_ble_eq_true rfl) hw2.symm dX2_copyFrom_5 rfl ?_
  have k3 : w1[a]? = some (ob h 2 [.int i2, .ref h1, .ref h2]) := by rw [hw2]; exact set_eq k_0
  have k4 : w1[a + 1]? = some (iA E h1 8 f1) := by rw [hw2]; exact set_ne k_1 (by omega)
  have k5 : w1[a + 2]? = some (iA E h2 8 f2) := by rw [hw2]; exact set_ne k_2 (by omega)
  have k6 : w1[b]? = some (ob o 2 [.int i2, .ref o1, .ref o2]) := by rw [hw2]; exact set_ne k_3 (by omega)
  have k7 : w1[b + 1]? = some (iA E o1 8 g1) := by rw [hw2]; exact set_ne k_4 (by omega)
  have k8 : w1[b + 2]? = some (iA E o2 8 g2) := by rw [hw2]; exact set_ne k_5 (by omega)
  have kp9 := keeps_set kp0 hw2 (by first | exact rfl | decide | omega | (dsimp only; omega))
  refine x_aload_n C dX2_copyFrom_8 rfl 1 rfl rfl ?_
  refine x_get C (ci := 2) (k := 1) b k6 rfl in_X2 (by decide) w_70 rfl dX2_copyFrom_9 rfl ?_
  refine x_iconst C (v := 0) dX2_copyFrom_12 (by decide) rfl ?_
  refine x_aload_n C dX2_copyFrom_13 rfl 0 rfl rfl ?_
  refine x_get C (ci := 2) (k := 1) a k3 rfl in_X2 (by decide) w_70 rfl dX2_copyFrom_14 rfl ?_
  refine x_iconst C (v := 0) dX2_copyFrom_17 (by decide) rfl ?_
  refine x_bipush C (v := 8) dX2_copyFrom_18 (by decide) rfl ?_
  obtain ⟨w10, hw11⟩ : ∃ w : va_W, w = List.set w1 (a + 1) (iA E h1 8 (va_cpy g1 f1 0 0 8)) := ⟨_, rfl⟩
  refine x_copy C (b + 1) (a + 1) k7 k4 w_796 w_798 w_797 w_20 (by decide) (by decide) (by decide) (by decide) (by decide) (Nat.le_of_ble_eq_true rfl) (Nat.le_of_ble_eq_true rfl) hw11.symm dX2_copyFrom_20 rfl ?_
  have k12 : w10[a]? = some (ob h 2 [.int i2, .ref h1, .ref h2]) := by rw [hw11]; exact set_ne k3 (by omega)
  have k13 : w10[a + 1]? = some (iA E h1 8 (va_cpy g1 f1 0 0 8)) := by rw [hw11]; exact set_eq k4
  have k14 : w10[a + 2]? = some (iA E h2 8 f2) := by rw [hw11]; exact set_ne k5 (by omega)
  have k15 : w10[b]? = some (ob o 2 [.int i2, .ref o1, .ref o2]) := by rw [hw11]; exact set_ne k6 (by omega)
  have k16 : w10[b + 1]? = some (iA E o1 8 g1) := by rw [hw11]; exact set_ne k7 (by omega)
  have k17 : w10[b + 2]? = some (iA E o2 8 g2) := by rw [hw11]; exact set_ne k8 (by omega)
  have kp18 := keeps_set kp9 hw11 (by first | exact rfl | decide | omega | (dsimp only; omega))
  refine x_aload_n C dX2_copyFrom_23 rfl 1 rfl rfl ?_
  refine x_get C (ci := 2) (k := 2) b k15 rfl in_X2 (by decide) w_73 rfl dX2_copyFrom_24 rfl ?_
  refine x_iconst C (v := 0) dX2_copyFrom_27 (by decide) rfl ?_
  refine x_aload_n C dX2_copyFrom_28 rfl 0 rfl rfl ?_
  refine x_get C (ci := 2) (k := 2) a k12 rfl in_X2 (by decide) w_73 rfl dX2_copyFrom_29 rfl ?_
  refine x_iconst C (v := 0) dX2_copyFrom_32 (by decide) rfl ?_
  refine x_bipush C (v := 8) dX2_copyFrom_33 (by decide) rfl ?_
  obtain ⟨w19, hw20⟩ : ∃ w : va_W, w = List.set w10 (a + 2) (iA E h2 8 (va_cpy g2 f2 0 0 8)) := ⟨_, rfl⟩
  refine x_copy C (b + 2) (a + 2) k17 k14 w_796 w_798 w_797 w_20 (by decide) (by decide) (by decide) (by decide) (by decide) (Nat.le_of_ble_eq_true rfl) (Nat.le_of_ble_eq_true rfl) hw20.symm dX2_copyFrom_35 rfl ?_
  have k21 : w19[a]? = some (ob h 2 [.int i2, .ref h1, .ref h2]) := by rw [hw20]; exact set_ne k12 (by omega)
  have k22 : w19[a + 1]? = some (iA E h1 8 (va_cpy g1 f1 0 0 8)) := by rw [hw20]; exact set_ne k13 (by omega)
  have k23 : w19[a + 2]? = some (iA E h2 8 (va_cpy g2 f2 0 0 8)) := by rw [hw20]; exact set_eq k14
  have k24 : w19[b]? = some (ob o 2 [.int i2, .ref o1, .ref o2]) := by rw [hw20]; exact set_ne k15 (by omega)
  have k25 : w19[b + 1]? = some (iA E o1 8 g1) := by rw [hw20]; exact set_ne k16 (by omega)
  have k26 : w19[b + 2]? = some (iA E o2 8 g2) := by rw [hw20]; exact set_ne k17 (by omega)
  have kp27 := keeps_set kp18 hw20 (by first | exact rfl | decide | omega | (dsimp only; omega))
  exact x_vret C hr hlk dX2_copyFrom_38 ⟨kp27, k21⟩
theorem dX5_copyFrom_0 : decode cX5_copyFrom 0 = .ok (.aload_n 0, 1) := by decide +kernel
theorem dX5_copyFrom_1 : decode cX5_copyFrom 1 = .ok (.aload_n 1, 1) := by decide +kernel
theorem dX5_copyFrom_2 : decode cX5_copyFrom 2 = .ok (.getfield 9, 3) := by decide +kernel
theorem dX5_copyFrom_5 : decode cX5_copyFrom 5 = .ok (.putfield 9, 3) := by decide +kernel
theorem dX5_copyFrom_8 : decode cX5_copyFrom 8 = .ok (.aload_n 1, 1) := by decide +kernel
theorem dX5_copyFrom_9 : decode cX5_copyFrom 9 = .ok (.getfield 15, 3) := by decide +kernel
theorem dX5_copyFrom_12 : decode cX5_copyFrom 12 = .ok (.iconst 0, 1) := by decide +kernel
theorem dX5_copyFrom_13 : decode cX5_copyFrom 13 = .ok (.aload_n 0, 1) := by decide +kernel
theorem dX5_copyFrom_14 : decode cX5_copyFrom 14 = .ok (.getfield 15, 3) := by decide +kernel
theorem dX5_copyFrom_17 : decode cX5_copyFrom 17 = .ok (.iconst 0, 1) := by decide +kernel
theorem dX5_copyFrom_18 : decode cX5_copyFrom 18 = .ok (.bipush 8, 2) := by decide +kernel
theorem dX5_copyFrom_20 : decode cX5_copyFrom 20 = .ok (.invokestatic 43, 3) := by decide +kernel
theorem dX5_copyFrom_23 : decode cX5_copyFrom 23 = .ok (.aload_n 1, 1) := by decide +kernel
theorem dX5_copyFrom_24 : decode cX5_copyFrom 24 = .ok (.getfield 19, 3) := by decide +kernel
theorem dX5_copyFrom_27 : decode cX5_copyFrom 27 = .ok (.iconst 0, 1) := by decide +kernel
theorem dX5_copyFrom_28 : decode cX5_copyFrom 28 = .ok (.aload_n 0, 1) := by decide +kernel
theorem dX5_copyFrom_29 : decode cX5_copyFrom 29 = .ok (.getfield 19, 3) := by decide +kernel
theorem dX5_copyFrom_32 : decode cX5_copyFrom 32 = .ok (.iconst 0, 1) := by decide +kernel
theorem dX5_copyFrom_33 : decode cX5_copyFrom 33 = .ok (.bipush 8, 2) := by decide +kernel
theorem dX5_copyFrom_35 : decode cX5_copyFrom 35 = .ok (.invokestatic 43, 3) := by decide +kernel
theorem dX5_copyFrom_38 : decode cX5_copyFrom 38 = .ok (.aload_n 1, 1) := by decide +kernel
theorem dX5_copyFrom_39 : decode cX5_copyFrom 39 = .ok (.getfield 22, 3) := by decide +kernel
theorem dX5_copyFrom_42 : decode cX5_copyFrom 42 = .ok (.iconst 0, 1) := by decide +kernel
theorem dX5_copyFrom_43 : decode cX5_copyFrom 43 = .ok (.aload_n 0, 1) := by decide +kernel
theorem dX5_copyFrom_44 : decode cX5_copyFrom 44 = .ok (.getfield 22, 3) := by decide +kernel
theorem dX5_copyFrom_47 : decode cX5_copyFrom 47 = .ok (.iconst 0, 1) := by decide +kernel
theorem dX5_copyFrom_48 : decode cX5_copyFrom 48 = .ok (.bipush 8, 2) := by decide +kernel
theorem dX5_copyFrom_50 : decode cX5_copyFrom 50 = .ok (.invokestatic 43, 3) := by decide +kernel
theorem dX5_copyFrom_53 : decode cX5_copyFrom 53 = .ok (.aload_n 1, 1) := by decide +kernel
theorem dX5_copyFrom_54 : decode cX5_copyFrom 54 = .ok (.getfield 25, 3) := by decide +kernel
theorem dX5_copyFrom_57 : decode cX5_copyFrom 57 = .ok (.iconst 0, 1) := by decide +kernel
theorem dX5_copyFrom_58 : decode cX5_copyFrom 58 = .ok (.aload_n 0, 1) := by decide +kernel
theorem dX5_copyFrom_59 : decode cX5_copyFrom 59 = .ok (.getfield 25, 3) := by decide +kernel
theorem dX5_copyFrom_62 : decode cX5_copyFrom 62 = .ok (.iconst 0, 1) := by decide +kernel
theorem dX5_copyFrom_63 : decode cX5_copyFrom 63 = .ok (.bipush 8, 2) := by decide +kernel
theorem dX5_copyFrom_65 : decode cX5_copyFrom 65 = .ok (.invokestatic 43, 3) := by decide +kernel
theorem dX5_copyFrom_68 : decode cX5_copyFrom 68 = .ok (.return_, 1) := by decide +kernel
set_option maxRecDepth 20000 in
set_option maxHeartbeats 4000000 in
theorem t_People_copy (E : xE) (l : Launch) (ws : va_W) {h h1 h2 h3 h4 o o1 o2 o3 o4 : Nat} {i1 i2 : Int32} {f1 f2 f3 f4 g1 g2 g3 g4 : Nat → Int32} (a : Nat) (k_0 : ws[a]? = some (ob h 4 [.int i1, .ref h1, .ref h2, .ref h3, .ref h4])) (p_1 : Nat) (k_1 : ws[a + 1]? = some (iA E h1 8 f1)) (p_2 : Nat) (k_2 : ws[a + 2]? = some (iA E h2 8 f2)) (p_3 : Nat) (k_3 : ws[a + 3]? = some (iA E h3 8 f3)) (p_4 : Nat) (k_4 : ws[a + 4]? = some (iA E h4 8 f4)) (b : Nat) (k_5 : ws[b]? = some (ob o 4 [.int i2, .ref o1, .ref o2, .ref o3, .ref o4])) (p_6 : Nat) (k_6 : ws[b + 1]? = some (iA E o1 8 g1)) (p_7 : Nat) (k_7 : ws[b + 2]? = some (iA E o2 8 g2)) (p_8 : Nat) (k_8 : ws[b + 3]? = some (iA E o3 8 g3)) (p_9 : Nat) (k_9 : ws[b + 4]? = some (iA E o4 8 g4)) (hab : b + 5 ≤ a) : xV E l yX5_copyFrom cX5_copyFrom 2 1 0 0 [.ref h, .ref o] ws (fun w => keeps ws w (fun q => a ≤ q ∧ q < a + 5) ∧ w[a]? = some (ob h 4 [.int i2, .ref h1, .ref h2, .ref h3, .ref h4])) := by
  refine xV_start (lv := [(0, .ref h), (1, .ref o)]) RX5 (by decide) rfl (Nat.le_of_ble_eq_true rfl) rfl (fun p e s m below meth c A C hr hlk hin => ?_)
  have kp0 : keeps ws ws (fun q => a ≤ q ∧ q < a + 5) := keeps_rf
  refine x_aload_n C dX5_copyFrom_0 rfl 0 rfl rfl ?_
  refine x_aload_n C dX5_copyFrom_1 rfl 1 rfl rfl ?_
  refine x_get C (ci := 4) (k := 0) b k_5 rfl in_X5 (by decide) w_90 rfl dX5_copyFrom_2 rfl ?_
  obtain ⟨w1, hw2⟩ : ∃ w : va_W, w = List.set ws a (ob h 4 [.int i2, .ref h1, .ref h2, .ref h3, .ref h4]) := ⟨_, rfl⟩
  refine x_put C (ci := 4) (k := 0) (ty := .int) a k_0 rfl in_X5 tyX5 tyX5_ok nmX5 (by decide) w_90 rfl rfl rfl rfl (Nat.le_of_ble_eq_true rfl) hw2.symm dX5_copyFrom_5 rfl ?_
  have k3 : w1[a]? = some (ob h 4 [.int i2, .ref h1, .ref h2, .ref h3, .ref h4]) := by rw [hw2]; exact set_eq k_0
  have k4 : w1[a + 1]? = some (iA E h1 8 f1) := by rw [hw2]; exact set_ne k_1 (by omega)
  have k5 : w1[a + 2]? = some (iA E h2 8 f2) := by rw [hw2]; exact set_ne k_2 (by omega)
  have k6 : w1[a + 3]? = some (iA E h3 8 f3) := by rw [hw2]; exact set_ne k_3 (by omega)
  have k7 : w1[a + 4]? = some (iA E h4 8 f4) := by rw [hw2]; exact set_ne k_4 (by omega)
  have k8 : w1[b]? = some (ob o 4 [.int i2, .ref o1, .ref o2, .ref o3, .ref o4]) := by rw [hw2]; exact set_ne k_5 (by omega)
  have k9 : w1[b + 1]? = some (iA E o1 8 g1) := by rw [hw2]; exact set_ne k_6 (by omega)
  have k10 : w1[b + 2]? = some (iA E o2 8 g2) := by rw [hw2]; exact set_ne k_7 (by omega)
  have k11 : w1[b + 3]? = some (iA E o3 8 g3) := by rw [hw2]; exact set_ne k_8 (by omega)
  have k12 : w1[b + 4]? = some (iA E o4 8 g4) := by rw [hw2]; exact set_ne k_9 (by omega)
  have kp13 := keeps_set kp0 hw2 (by first | exact rfl | decide | omega | (dsimp only; omega))
  refine x_aload_n C dX5_copyFrom_8 rfl 1 rfl rfl ?_
  refine x_get C (ci := 4) (k := 1) b k8 rfl in_X5 (by decide) w_92 rfl dX5_copyFrom_9 rfl ?_
  refine x_iconst C (v := 0) dX5_copyFrom_12 (by decide) rfl ?_
  refine x_aload_n C dX5_copyFrom_13 rfl 0 rfl rfl ?_
  refine x_get C (ci := 4) (k := 1) a k3 rfl in_X5 (by decide) w_92 rfl dX5_copyFrom_14 rfl ?_
  refine x_iconst C (v := 0) dX5_copyFrom_17 (by decide) rfl ?_
  refine x_bipush C (v := 8) dX5_copyFrom_18 (by decide) rfl ?_
  obtain ⟨w14, hw15⟩ : ∃ w : va_W, w = List.set w1 (a + 1) (iA E h1 8 (va_cpy g1 f1 0 0 8)) := ⟨_, rfl⟩
  refine x_copy C (b + 1) (a + 1) k9 k4 w_803 w_798 w_797 w_20 (by decide) (by decide) (by decide) (by decide) (by decide) (Nat.le_of_ble_eq_true rfl) (Nat.le_of_ble_eq_true rfl) hw15.symm dX5_copyFrom_20 rfl ?_
  have k16 : w14[a]? = some (ob h 4 [.int i2, .ref h1, .ref h2, .ref h3, .ref h4]) := by rw [hw15]; exact set_ne k3 (by omega)
  have k17 : w14[a + 1]? = some (iA E h1 8 (va_cpy g1 f1 0 0 8)) := by rw [hw15]; exact set_eq k4
  have k18 : w14[a + 2]? = some (iA E h2 8 f2) := by rw [hw15]; exact set_ne k5 (by omega)
  have k19 : w14[a + 3]? = some (iA E h3 8 f3) := by rw [hw15]; exact set_ne k6 (by omega)
  have k20 : w14[a + 4]? = some (iA E h4 8 f4) := by rw [hw15]; exact set_ne k7 (by omega)
  have k21 : w14[b]? = some (ob o 4 [.int i2, .ref o1, .ref o2, .ref o3, .ref o4]) := by rw [hw15]; exact set_ne k8 (by omega)
  have k22 : w14[b + 1]? = some (iA E o1 8 g1) := by rw [hw15]; exact set_ne k9 (by omega)
  have k23 : w14[b + 2]? = some (iA E o2 8 g2) := by rw [hw15]; exact set_ne k10 (by omega)
  have k24 : w14[b + 3]? = some (iA E o3 8 g3) := by rw [hw15]; exact set_ne k11 (by omega)
  have k25 : w14[b + 4]? = some (iA E o4 8 g4) := by rw [hw15]; exact set_ne k12 (by omega)
  have kp26 := keeps_set kp13 hw15 (by first | exact rfl | decide | omega | (dsimp only; omega))
  refine x_aload_n C dX5_copyFrom_23 rfl 1 rfl rfl ?_
  refine x_get C (ci := 4) (k := 2) b k21 rfl in_X5 (by decide) w_94 rfl dX5_copyFrom_24 rfl ?_
  refine x_iconst C (v := 0) dX5_copyFrom_27 (by decide) rfl ?_
  refine x_aload_n C dX5_copyFrom_28 rfl 0 rfl rfl ?_
  refine x_get C (ci := 4) (k := 2) a k16 rfl in_X5 (by decide) w_94 rfl dX5_copyFrom_29 rfl ?_
  refine x_iconst C (v := 0) dX5_copyFrom_32 (by decide) rfl ?_
  refine x_bipush C (v := 8) dX5_copyFrom_33 (by decide) rfl ?_
  obtain ⟨w27, hw28⟩ : ∃ w : va_W, w = List.set w14 (a + 2) (iA E h2 8 (va_cpy g2 f2 0 0 8)) := ⟨_, rfl⟩
  refine x_copy C (b + 2) (a + 2) k23 k18 w_803 w_798 w_797 w_20 (by decide) (by decide) (by decide) (by decide) (by decide) (Nat.le_of_ble_eq_true rfl) (Nat.le_of_ble_eq_true rfl) hw28.symm dX5_copyFrom_35 rfl ?_
  have k29 : w27[a]? = some (ob h 4 [.int i2, .ref h1, .ref h2, .ref h3, .ref h4]) := by rw [hw28]; exact set_ne k16 (by omega)
  have k30 : w27[a + 1]? = some (iA E h1 8 (va_cpy g1 f1 0 0 8)) := by rw [hw28]; exact set_ne k17 (by omega)
  have k31 : w27[a + 2]? = some (iA E h2 8 (va_cpy g2 f2 0 0 8)) := by rw [hw28]; exact set_eq k18
  have k32 : w27[a + 3]? = some (iA E h3 8 f3) := by rw [hw28]; exact set_ne k19 (by omega)
  have k33 : w27[a + 4]? = some (iA E h4 8 f4) := by rw [hw28]; exact set_ne k20 (by omega)
  have k34 : w27[b]? = some (ob o 4 [.int i2, .ref o1, .ref o2, .ref o3, .ref o4]) := by rw [hw28]; exact set_ne k21 (by omega)
  have k35 : w27[b + 1]? = some (iA E o1 8 g1) := by rw [hw28]; exact set_ne k22 (by omega)
  have k36 : w27[b + 2]? = some (iA E o2 8 g2) := by rw [hw28]; exact set_ne k23 (by omega)
  have k37 : w27[b + 3]? = some (iA E o3 8 g3) := by rw [hw28]; exact set_ne k24 (by omega)
  have k38 : w27[b + 4]? = some (iA E o4 8 g4) := by rw [hw28]; exact set_ne k25 (by omega)
  have kp39 := keeps_set kp26 hw28 (by first | exact rfl | decide | omega | (dsimp only; omega))
  refine x_aload_n C dX5_copyFrom_38 rfl 1 rfl rfl ?_
  refine x_get C (ci := 4) (k := 3) b k34 rfl in_X5 (by decide) w_97 rfl dX5_copyFrom_39 rfl ?_
  refine x_iconst C (v := 0) dX5_copyFrom_42 (by decide) rfl ?_
  refine x_aload_n C dX5_copyFrom_43 rfl 0 rfl rfl ?_
  refine x_get C (ci := 4) (k := 3) a k29 rfl in_X5 (by decide) w_97 rfl dX5_copyFrom_44 rfl ?_
  refine x_iconst C (v := 0) dX5_copyFrom_47 (by decide) rfl ?_
  refine x_bipush C (v := 8) dX5_copyFrom_48 (by decide) rfl ?_
  obtain ⟨w40, hw41⟩ : ∃ w : va_W, w = List.set w27 (a + 3) (iA E h3 8 (va_cpy g3 f3 0 0 8)) := ⟨_, rfl⟩
  refine x_copy C (b + 3) (a + 3) k37 k32 w_803 w_798 w_797 w_20 (by decide) (by decide) (by decide) (by decide) (by decide) (Nat.le_of_ble_eq_true rfl) (Nat.le_of_ble_eq_true rfl) hw41.symm dX5_copyFrom_50 rfl ?_
  have k42 : w40[a]? = some (ob h 4 [.int i2, .ref h1, .ref h2, .ref h3, .ref h4]) := by rw [hw41]; exact set_ne k29 (by omega)
  have k43 : w40[a + 1]? = some (iA E h1 8 (va_cpy g1 f1 0 0 8)) := by rw [hw41]; exact set_ne k30 (by omega)
  have k44 : w40[a + 2]? = some (iA E h2 8 (va_cpy g2 f2 0 0 8)) := by rw [hw41]; exact set_ne k31 (by omega)
  have k45 : w40[a + 3]? = some (iA E h3 8 (va_cpy g3 f3 0 0 8)) := by rw [hw41]; exact set_eq k32
  have k46 : w40[a + 4]? = some (iA E h4 8 f4) := by rw [hw41]; exact set_ne k33 (by omega)
  have k47 : w40[b]? = some (ob o 4 [.int i2, .ref o1, .ref o2, .ref o3, .ref o4]) := by rw [hw41]; exact set_ne k34 (by omega)
  have k48 : w40[b + 1]? = some (iA E o1 8 g1) := by rw [hw41]; exact set_ne k35 (by omega)
  have k49 : w40[b + 2]? = some (iA E o2 8 g2) := by rw [hw41]; exact set_ne k36 (by omega)
  have k50 : w40[b + 3]? = some (iA E o3 8 g3) := by rw [hw41]; exact set_ne k37 (by omega)
  have k51 : w40[b + 4]? = some (iA E o4 8 g4) := by rw [hw41]; exact set_ne k38 (by omega)
  have kp52 := keeps_set kp39 hw41 (by first | exact rfl | decide | omega | (dsimp only; omega))
  refine x_aload_n C dX5_copyFrom_53 rfl 1 rfl rfl ?_
  refine x_get C (ci := 4) (k := 4) b k47 rfl in_X5 (by decide) w_100 rfl dX5_copyFrom_54 rfl ?_
  refine x_iconst C (v := 0) dX5_copyFrom_57 (by decide) rfl ?_
  refine x_aload_n C dX5_copyFrom_58 rfl 0 rfl rfl ?_
  refine x_get C (ci := 4) (k := 4) a k42 rfl in_X5 (by decide) w_100 rfl dX5_copyFrom_59 rfl ?_
  refine x_iconst C (v := 0) dX5_copyFrom_62 (by decide) rfl ?_
  refine x_bipush C (v := 8) dX5_copyFrom_63 (by decide) rfl ?_
  obtain ⟨w53, hw54⟩ : ∃ w : va_W, w = List.set w40 (a + 4) (iA E h4 8 (va_cpy g4 f4 0 0 8)) := ⟨_, rfl⟩
  refine x_copy C (b + 4) (a + 4) k51 k46 w_803 w_798 w_797 w_20 (by decide) (by decide) (by decide) (by decide) (by decide) (Nat.le_of_ble_eq_true rfl) (Nat.le_of_ble_eq_true rfl) hw54.symm dX5_copyFrom_65 rfl ?_
  have k55 : w53[a]? = some (ob h 4 [.int i2, .ref h1, .ref h2, .ref h3, .ref h4]) := by rw [hw54]; exact set_ne k42 (by omega)
  have k56 : w53[a + 1]? = some (iA E h1 8 (va_cpy g1 f1 0 0 8)) := by rw [hw54]; exact set_ne k43 (by omega)
  have k57 : w53[a + 2]? = some (iA E h2 8 (va_cpy g2 f2 0 0 8)) := by rw [hw54]; exact set_ne k44 (by omega)
  have k58 : w53[a + 3]? = some (iA E h3 8 (va_cpy g3 f3 0 0 8)) := by rw [hw54]; exact set_ne k45 (by omega)
  have k59 : w53[a + 4]? = some (iA E h4 8 (va_cpy g4 f4 0 0 8)) := by rw [hw54]; exact set_eq k46
  have k60 : w53[b]? = some (ob o 4 [.int i2, .ref o1, .ref o2, .ref o3, .ref o4]) := by rw [hw54]; exact set_ne k47 (by omega)
  have k61 : w53[b + 1]? = some (iA E o1 8 g1) := by rw [hw54]; exact set_ne k48 (by omega)
  have k62 : w53[b + 2]? = some (iA E o2 8 g2) := by rw [hw54]; exact set_ne k49 (by omega)
  have k63 : w53[b + 3]? = some (iA E o3 8 g3) := by rw [hw54]; exact set_ne k50 (by omega)
  have k64 : w53[b + 4]? = some (iA E o4 8 g4) := by rw [hw54]; exact set_ne k51 (by omega)
  have kp65 := keeps_set kp52 hw54 (by first | exact rfl | decide | omega | (dsimp only; omega))
  exact x_vret C hr hlk dX5_copyFrom_68 ⟨kp65, k55⟩
theorem dX1_copyFrom_0 : decode cX1_copyFrom 0 = .ok (.aload_n 0, 1) := by decide +kernel
theorem dX1_copyFrom_1 : decode cX1_copyFrom 1 = .ok (.aload_n 1, 1) := by decide +kernel
theorem dX1_copyFrom_2 : decode cX1_copyFrom 2 = .ok (.getfield 9, 3) := by decide +kernel
theorem dX1_copyFrom_5 : decode cX1_copyFrom 5 = .ok (.putfield 9, 3) := by decide +kernel
theorem dX1_copyFrom_8 : decode cX1_copyFrom 8 = .ok (.aload_n 1, 1) := by decide +kernel
theorem dX1_copyFrom_9 : decode cX1_copyFrom 9 = .ok (.getfield 15, 3) := by decide +kernel
theorem dX1_copyFrom_12 : decode cX1_copyFrom 12 = .ok (.iconst 0, 1) := by decide +kernel
theorem dX1_copyFrom_13 : decode cX1_copyFrom 13 = .ok (.aload_n 0, 1) := by decide +kernel
theorem dX1_copyFrom_14 : decode cX1_copyFrom 14 = .ok (.getfield 15, 3) := by decide +kernel
theorem dX1_copyFrom_17 : decode cX1_copyFrom 17 = .ok (.iconst 0, 1) := by decide +kernel
theorem dX1_copyFrom_18 : decode cX1_copyFrom 18 = .ok (.bipush 48, 2) := by decide +kernel
theorem dX1_copyFrom_20 : decode cX1_copyFrom 20 = .ok (.invokestatic 45, 3) := by decide +kernel
theorem dX1_copyFrom_23 : decode cX1_copyFrom 23 = .ok (.aload_n 1, 1) := by decide +kernel
theorem dX1_copyFrom_24 : decode cX1_copyFrom 24 = .ok (.getfield 19, 3) := by decide +kernel
theorem dX1_copyFrom_27 : decode cX1_copyFrom 27 = .ok (.iconst 0, 1) := by decide +kernel
theorem dX1_copyFrom_28 : decode cX1_copyFrom 28 = .ok (.aload_n 0, 1) := by decide +kernel
theorem dX1_copyFrom_29 : decode cX1_copyFrom 29 = .ok (.getfield 19, 3) := by decide +kernel
theorem dX1_copyFrom_32 : decode cX1_copyFrom 32 = .ok (.iconst 0, 1) := by decide +kernel
theorem dX1_copyFrom_33 : decode cX1_copyFrom 33 = .ok (.bipush 48, 2) := by decide +kernel
theorem dX1_copyFrom_35 : decode cX1_copyFrom 35 = .ok (.invokestatic 45, 3) := by decide +kernel
theorem dX1_copyFrom_38 : decode cX1_copyFrom 38 = .ok (.aload_n 1, 1) := by decide +kernel
theorem dX1_copyFrom_39 : decode cX1_copyFrom 39 = .ok (.getfield 22, 3) := by decide +kernel
theorem dX1_copyFrom_42 : decode cX1_copyFrom 42 = .ok (.iconst 0, 1) := by decide +kernel
theorem dX1_copyFrom_43 : decode cX1_copyFrom 43 = .ok (.aload_n 0, 1) := by decide +kernel
theorem dX1_copyFrom_44 : decode cX1_copyFrom 44 = .ok (.getfield 22, 3) := by decide +kernel
theorem dX1_copyFrom_47 : decode cX1_copyFrom 47 = .ok (.iconst 0, 1) := by decide +kernel
theorem dX1_copyFrom_48 : decode cX1_copyFrom 48 = .ok (.bipush 48, 2) := by decide +kernel
theorem dX1_copyFrom_50 : decode cX1_copyFrom 50 = .ok (.invokestatic 45, 3) := by decide +kernel
theorem dX1_copyFrom_53 : decode cX1_copyFrom 53 = .ok (.aload_n 1, 1) := by decide +kernel
theorem dX1_copyFrom_54 : decode cX1_copyFrom 54 = .ok (.getfield 25, 3) := by decide +kernel
theorem dX1_copyFrom_57 : decode cX1_copyFrom 57 = .ok (.iconst 0, 1) := by decide +kernel
theorem dX1_copyFrom_58 : decode cX1_copyFrom 58 = .ok (.aload_n 0, 1) := by decide +kernel
theorem dX1_copyFrom_59 : decode cX1_copyFrom 59 = .ok (.getfield 25, 3) := by decide +kernel
theorem dX1_copyFrom_62 : decode cX1_copyFrom 62 = .ok (.iconst 0, 1) := by decide +kernel
theorem dX1_copyFrom_63 : decode cX1_copyFrom 63 = .ok (.bipush 48, 2) := by decide +kernel
theorem dX1_copyFrom_65 : decode cX1_copyFrom 65 = .ok (.invokestatic 45, 3) := by decide +kernel
theorem dX1_copyFrom_68 : decode cX1_copyFrom 68 = .ok (.aload_n 1, 1) := by decide +kernel
theorem dX1_copyFrom_69 : decode cX1_copyFrom 69 = .ok (.getfield 28, 3) := by decide +kernel
theorem dX1_copyFrom_72 : decode cX1_copyFrom 72 = .ok (.iconst 0, 1) := by decide +kernel
theorem dX1_copyFrom_73 : decode cX1_copyFrom 73 = .ok (.aload_n 0, 1) := by decide +kernel
theorem dX1_copyFrom_74 : decode cX1_copyFrom 74 = .ok (.getfield 28, 3) := by decide +kernel
theorem dX1_copyFrom_77 : decode cX1_copyFrom 77 = .ok (.iconst 0, 1) := by decide +kernel
theorem dX1_copyFrom_78 : decode cX1_copyFrom 78 = .ok (.bipush 48, 2) := by decide +kernel
theorem dX1_copyFrom_80 : decode cX1_copyFrom 80 = .ok (.invokestatic 45, 3) := by decide +kernel
theorem dX1_copyFrom_83 : decode cX1_copyFrom 83 = .ok (.aload_n 1, 1) := by decide +kernel
theorem dX1_copyFrom_84 : decode cX1_copyFrom 84 = .ok (.getfield 31, 3) := by decide +kernel
theorem dX1_copyFrom_87 : decode cX1_copyFrom 87 = .ok (.iconst 0, 1) := by decide +kernel
theorem dX1_copyFrom_88 : decode cX1_copyFrom 88 = .ok (.aload_n 0, 1) := by decide +kernel
theorem dX1_copyFrom_89 : decode cX1_copyFrom 89 = .ok (.getfield 31, 3) := by decide +kernel
theorem dX1_copyFrom_92 : decode cX1_copyFrom 92 = .ok (.iconst 0, 1) := by decide +kernel
theorem dX1_copyFrom_93 : decode cX1_copyFrom 93 = .ok (.bipush 48, 2) := by decide +kernel
theorem dX1_copyFrom_95 : decode cX1_copyFrom 95 = .ok (.invokestatic 45, 3) := by decide +kernel
theorem dX1_copyFrom_98 : decode cX1_copyFrom 98 = .ok (.return_, 1) := by decide +kernel
set_option maxRecDepth 20000 in
set_option maxHeartbeats 4000000 in
theorem t_Eggs_copy (E : xE) (l : Launch) (ws : va_W) {h h1 h2 h3 h4 h5 h6 o o1 o2 o3 o4 o5 o6 : Nat} {i1 i2 : Int32} {f1 f2 f3 f4 f5 f6 g1 g2 g3 g4 g5 g6 : Nat → Int32} (a : Nat) (k_0 : ws[a]? = some (ob h 1 [.int i1, .ref h1, .ref h2, .ref h3, .ref h4, .ref h5, .ref h6])) (p_1 : Nat) (k_1 : ws[a + 1]? = some (iA E h1 48 f1)) (p_2 : Nat) (k_2 : ws[a + 2]? = some (iA E h2 48 f2)) (p_3 : Nat) (k_3 : ws[a + 3]? = some (iA E h3 48 f3)) (p_4 : Nat) (k_4 : ws[a + 4]? = some (iA E h4 48 f4)) (p_5 : Nat) (k_5 : ws[a + 5]? = some (iA E h5 48 f5)) (p_6 : Nat) (k_6 : ws[a + 6]? = some (iA E h6 48 f6)) (b : Nat) (k_7 : ws[b]? = some (ob o 1 [.int i2, .ref o1, .ref o2, .ref o3, .ref o4, .ref o5, .ref o6])) (p_8 : Nat) (k_8 : ws[b + 1]? = some (iA E o1 48 g1)) (p_9 : Nat) (k_9 : ws[b + 2]? = some (iA E o2 48 g2)) (p_10 : Nat) (k_10 : ws[b + 3]? = some (iA E o3 48 g3)) (p_11 : Nat) (k_11 : ws[b + 4]? = some (iA E o4 48 g4)) (p_12 : Nat) (k_12 : ws[b + 5]? = some (iA E o5 48 g5)) (p_13 : Nat) (k_13 : ws[b + 6]? = some (iA E o6 48 g6)) (hab : b + 7 ≤ a) : xV E l yX1_copyFrom cX1_copyFrom 2 1 0 0 [.ref h, .ref o] ws (fun w => keeps ws w (fun q => a ≤ q ∧ q < a + 7) ∧ w[a]? = some (ob h 1 [.int i2, .ref h1, .ref h2, .ref h3, .ref h4, .ref h5, .ref h6])) := by
  refine xV_start (lv := [(0, .ref h), (1, .ref o)]) RX1 (by decide) rfl (Nat.le_of_ble_eq_true rfl) rfl (fun p e s m below meth c A C hr hlk hin => ?_)
  have kp0 : keeps ws ws (fun q => a ≤ q ∧ q < a + 7) := keeps_rf
  refine x_aload_n C dX1_copyFrom_0 rfl 0 rfl rfl ?_
  refine x_aload_n C dX1_copyFrom_1 rfl 1 rfl rfl ?_
  refine x_get C (ci := 1) (k := 0) b k_7 rfl in_X1 (by decide) w_120 rfl dX1_copyFrom_2 rfl ?_
  obtain ⟨w1, hw2⟩ : ∃ w : va_W, w = List.set ws a (ob h 1 [.int i2, .ref h1, .ref h2, .ref h3, .ref h4, .ref h5, .ref h6]) := ⟨_, rfl⟩
  refine x_put C (ci := 1) (k := 0) (ty := .int) a k_0 rfl in_X1 tyX1 tyX1_ok nmX1 (by decide) w_120 rfl rfl rfl rfl (Nat.le_of_ble_eq_true rfl) hw2.symm dX1_copyFrom_5 rfl ?_
  have k3 : w1[a]? = some (ob h 1 [.int i2, .ref h1, .ref h2, .ref h3, .ref h4, .ref h5, .ref h6]) := by rw [hw2]; exact set_eq k_0
  have k4 : w1[a + 1]? = some (iA E h1 48 f1) := by rw [hw2]; exact set_ne k_1 (by omega)
  have k5 : w1[a + 2]? = some (iA E h2 48 f2) := by rw [hw2]; exact set_ne k_2 (by omega)
  have k6 : w1[a + 3]? = some (iA E h3 48 f3) := by rw [hw2]; exact set_ne k_3 (by omega)
  have k7 : w1[a + 4]? = some (iA E h4 48 f4) := by rw [hw2]; exact set_ne k_4 (by omega)
  have k8 : w1[a + 5]? = some (iA E h5 48 f5) := by rw [hw2]; exact set_ne k_5 (by omega)
  have k9 : w1[a + 6]? = some (iA E h6 48 f6) := by rw [hw2]; exact set_ne k_6 (by omega)
  have k10 : w1[b]? = some (ob o 1 [.int i2, .ref o1, .ref o2, .ref o3, .ref o4, .ref o5, .ref o6]) := by rw [hw2]; exact set_ne k_7 (by omega)
  have k11 : w1[b + 1]? = some (iA E o1 48 g1) := by rw [hw2]; exact set_ne k_8 (by omega)
  have k12 : w1[b + 2]? = some (iA E o2 48 g2) := by rw [hw2]; exact set_ne k_9 (by omega)
  have k13 : w1[b + 3]? = some (iA E o3 48 g3) := by rw [hw2]; exact set_ne k_10 (by omega)
  have k14 : w1[b + 4]? = some (iA E o4 48 g4) := by rw [hw2]; exact set_ne k_11 (by omega)
  have k15 : w1[b + 5]? = some (iA E o5 48 g5) := by rw [hw2]; exact set_ne k_12 (by omega)
  have k16 : w1[b + 6]? = some (iA E o6 48 g6) := by rw [hw2]; exact set_ne k_13 (by omega)
  have kp17 := keeps_set kp0 hw2 (by first | exact rfl | decide | omega | (dsimp only; omega))
  refine x_aload_n C dX1_copyFrom_8 rfl 1 rfl rfl ?_
  refine x_get C (ci := 1) (k := 1) b k10 rfl in_X1 (by decide) w_123 rfl dX1_copyFrom_9 rfl ?_
  refine x_iconst C (v := 0) dX1_copyFrom_12 (by decide) rfl ?_
  refine x_aload_n C dX1_copyFrom_13 rfl 0 rfl rfl ?_
  refine x_get C (ci := 1) (k := 1) a k3 rfl in_X1 (by decide) w_123 rfl dX1_copyFrom_14 rfl ?_
  refine x_iconst C (v := 0) dX1_copyFrom_17 (by decide) rfl ?_
  refine x_bipush C (v := 48) dX1_copyFrom_18 (by decide) rfl ?_
  obtain ⟨w18, hw19⟩ : ∃ w : va_W, w = List.set w1 (a + 1) (iA E h1 48 (va_cpy g1 f1 0 0 48)) := ⟨_, rfl⟩
  refine x_copy C (b + 1) (a + 1) k11 k4 w_808 w_798 w_797 w_20 (by decide) (by decide) (by decide) (by decide) (by decide) (Nat.le_of_ble_eq_true rfl) (Nat.le_of_ble_eq_true rfl) hw19.symm dX1_copyFrom_20 rfl ?_
  have k20 : w18[a]? = some (ob h 1 [.int i2, .ref h1, .ref h2, .ref h3, .ref h4, .ref h5, .ref h6]) := by rw [hw19]; exact set_ne k3 (by omega)
  have k21 : w18[a + 1]? = some (iA E h1 48 (va_cpy g1 f1 0 0 48)) := by rw [hw19]; exact set_eq k4
  have k22 : w18[a + 2]? = some (iA E h2 48 f2) := by rw [hw19]; exact set_ne k5 (by omega)
  have k23 : w18[a + 3]? = some (iA E h3 48 f3) := by rw [hw19]; exact set_ne k6 (by omega)
  have k24 : w18[a + 4]? = some (iA E h4 48 f4) := by rw [hw19]; exact set_ne k7 (by omega)
  have k25 : w18[a + 5]? = some (iA E h5 48 f5) := by rw [hw19]; exact set_ne k8 (by omega)
  have k26 : w18[a + 6]? = some (iA E h6 48 f6) := by rw [hw19]; exact set_ne k9 (by omega)
  have k27 : w18[b]? = some (ob o 1 [.int i2, .ref o1, .ref o2, .ref o3, .ref o4, .ref o5, .ref o6]) := by rw [hw19]; exact set_ne k10 (by omega)
  have k28 : w18[b + 1]? = some (iA E o1 48 g1) := by rw [hw19]; exact set_ne k11 (by omega)
  have k29 : w18[b + 2]? = some (iA E o2 48 g2) := by rw [hw19]; exact set_ne k12 (by omega)
  have k30 : w18[b + 3]? = some (iA E o3 48 g3) := by rw [hw19]; exact set_ne k13 (by omega)
  have k31 : w18[b + 4]? = some (iA E o4 48 g4) := by rw [hw19]; exact set_ne k14 (by omega)
  have k32 : w18[b + 5]? = some (iA E o5 48 g5) := by rw [hw19]; exact set_ne k15 (by omega)
  have k33 : w18[b + 6]? = some (iA E o6 48 g6) := by rw [hw19]; exact set_ne k16 (by omega)
  have kp34 := keeps_set kp17 hw19 (by first | exact rfl | decide | omega | (dsimp only; omega))
  refine x_aload_n C dX1_copyFrom_23 rfl 1 rfl rfl ?_
  refine x_get C (ci := 1) (k := 2) b k27 rfl in_X1 (by decide) w_127 rfl dX1_copyFrom_24 rfl ?_
  refine x_iconst C (v := 0) dX1_copyFrom_27 (by decide) rfl ?_
  refine x_aload_n C dX1_copyFrom_28 rfl 0 rfl rfl ?_
  refine x_get C (ci := 1) (k := 2) a k20 rfl in_X1 (by decide) w_127 rfl dX1_copyFrom_29 rfl ?_
  refine x_iconst C (v := 0) dX1_copyFrom_32 (by decide) rfl ?_
  refine x_bipush C (v := 48) dX1_copyFrom_33 (by decide) rfl ?_
  obtain ⟨w35, hw36⟩ : ∃ w : va_W, w = List.set w18 (a + 2) (iA E h2 48 (va_cpy g2 f2 0 0 48)) := ⟨_, rfl⟩
  refine x_copy C (b + 2) (a + 2) k29 k22 w_808 w_798 w_797 w_20 (by decide) (by decide) (by decide) (by decide) (by decide) (Nat.le_of_ble_eq_true rfl) (Nat.le_of_ble_eq_true rfl) hw36.symm dX1_copyFrom_35 rfl ?_
  have k37 : w35[a]? = some (ob h 1 [.int i2, .ref h1, .ref h2, .ref h3, .ref h4, .ref h5, .ref h6]) := by rw [hw36]; exact set_ne k20 (by omega)
  have k38 : w35[a + 1]? = some (iA E h1 48 (va_cpy g1 f1 0 0 48)) := by rw [hw36]; exact set_ne k21 (by omega)
  have k39 : w35[a + 2]? = some (iA E h2 48 (va_cpy g2 f2 0 0 48)) := by rw [hw36]; exact set_eq k22
  have k40 : w35[a + 3]? = some (iA E h3 48 f3) := by rw [hw36]; exact set_ne k23 (by omega)
  have k41 : w35[a + 4]? = some (iA E h4 48 f4) := by rw [hw36]; exact set_ne k24 (by omega)
  have k42 : w35[a + 5]? = some (iA E h5 48 f5) := by rw [hw36]; exact set_ne k25 (by omega)
  have k43 : w35[a + 6]? = some (iA E h6 48 f6) := by rw [hw36]; exact set_ne k26 (by omega)
  have k44 : w35[b]? = some (ob o 1 [.int i2, .ref o1, .ref o2, .ref o3, .ref o4, .ref o5, .ref o6]) := by rw [hw36]; exact set_ne k27 (by omega)
  have k45 : w35[b + 1]? = some (iA E o1 48 g1) := by rw [hw36]; exact set_ne k28 (by omega)
  have k46 : w35[b + 2]? = some (iA E o2 48 g2) := by rw [hw36]; exact set_ne k29 (by omega)
  have k47 : w35[b + 3]? = some (iA E o3 48 g3) := by rw [hw36]; exact set_ne k30 (by omega)
  have k48 : w35[b + 4]? = some (iA E o4 48 g4) := by rw [hw36]; exact set_ne k31 (by omega)
  have k49 : w35[b + 5]? = some (iA E o5 48 g5) := by rw [hw36]; exact set_ne k32 (by omega)
  have k50 : w35[b + 6]? = some (iA E o6 48 g6) := by rw [hw36]; exact set_ne k33 (by omega)
  have kp51 := keeps_set kp34 hw36 (by first | exact rfl | decide | omega | (dsimp only; omega))
  refine x_aload_n C dX1_copyFrom_38 rfl 1 rfl rfl ?_
  refine x_get C (ci := 1) (k := 3) b k44 rfl in_X1 (by decide) w_131 rfl dX1_copyFrom_39 rfl ?_
  refine x_iconst C (v := 0) dX1_copyFrom_42 (by decide) rfl ?_
  refine x_aload_n C dX1_copyFrom_43 rfl 0 rfl rfl ?_
  refine x_get C (ci := 1) (k := 3) a k37 rfl in_X1 (by decide) w_131 rfl dX1_copyFrom_44 rfl ?_
  refine x_iconst C (v := 0) dX1_copyFrom_47 (by decide) rfl ?_
  refine x_bipush C (v := 48) dX1_copyFrom_48 (by decide) rfl ?_
  obtain ⟨w52, hw53⟩ : ∃ w : va_W, w = List.set w35 (a + 3) (iA E h3 48 (va_cpy g3 f3 0 0 48)) := ⟨_, rfl⟩
  refine x_copy C (b + 3) (a + 3) k47 k40 w_808 w_798 w_797 w_20 (by decide) (by decide) (by decide) (by decide) (by decide) (Nat.le_of_ble_eq_true rfl) (Nat.le_of_ble_eq_true rfl) hw53.symm dX1_copyFrom_50 rfl ?_
  have k54 : w52[a]? = some (ob h 1 [.int i2, .ref h1, .ref h2, .ref h3, .ref h4, .ref h5, .ref h6]) := by rw [hw53]; exact set_ne k37 (by omega)
  have k55 : w52[a + 1]? = some (iA E h1 48 (va_cpy g1 f1 0 0 48)) := by rw [hw53]; exact set_ne k38 (by omega)
  have k56 : w52[a + 2]? = some (iA E h2 48 (va_cpy g2 f2 0 0 48)) := by rw [hw53]; exact set_ne k39 (by omega)
  have k57 : w52[a + 3]? = some (iA E h3 48 (va_cpy g3 f3 0 0 48)) := by rw [hw53]; exact set_eq k40
  have k58 : w52[a + 4]? = some (iA E h4 48 f4) := by rw [hw53]; exact set_ne k41 (by omega)
  have k59 : w52[a + 5]? = some (iA E h5 48 f5) := by rw [hw53]; exact set_ne k42 (by omega)
  have k60 : w52[a + 6]? = some (iA E h6 48 f6) := by rw [hw53]; exact set_ne k43 (by omega)
  have k61 : w52[b]? = some (ob o 1 [.int i2, .ref o1, .ref o2, .ref o3, .ref o4, .ref o5, .ref o6]) := by rw [hw53]; exact set_ne k44 (by omega)
  have k62 : w52[b + 1]? = some (iA E o1 48 g1) := by rw [hw53]; exact set_ne k45 (by omega)
  have k63 : w52[b + 2]? = some (iA E o2 48 g2) := by rw [hw53]; exact set_ne k46 (by omega)
  have k64 : w52[b + 3]? = some (iA E o3 48 g3) := by rw [hw53]; exact set_ne k47 (by omega)
  have k65 : w52[b + 4]? = some (iA E o4 48 g4) := by rw [hw53]; exact set_ne k48 (by omega)
  have k66 : w52[b + 5]? = some (iA E o5 48 g5) := by rw [hw53]; exact set_ne k49 (by omega)
  have k67 : w52[b + 6]? = some (iA E o6 48 g6) := by rw [hw53]; exact set_ne k50 (by omega)
  have kp68 := keeps_set kp51 hw53 (by first | exact rfl | decide | omega | (dsimp only; omega))
  refine x_aload_n C dX1_copyFrom_53 rfl 1 rfl rfl ?_
  refine x_get C (ci := 1) (k := 4) b k61 rfl in_X1 (by decide) w_134 rfl dX1_copyFrom_54 rfl ?_
  refine x_iconst C (v := 0) dX1_copyFrom_57 (by decide) rfl ?_
  refine x_aload_n C dX1_copyFrom_58 rfl 0 rfl rfl ?_
  refine x_get C (ci := 1) (k := 4) a k54 rfl in_X1 (by decide) w_134 rfl dX1_copyFrom_59 rfl ?_
  refine x_iconst C (v := 0) dX1_copyFrom_62 (by decide) rfl ?_
  refine x_bipush C (v := 48) dX1_copyFrom_63 (by decide) rfl ?_
  obtain ⟨w69, hw70⟩ : ∃ w : va_W, w = List.set w52 (a + 4) (iA E h4 48 (va_cpy g4 f4 0 0 48)) := ⟨_, rfl⟩
  refine x_copy C (b + 4) (a + 4) k65 k58 w_808 w_798 w_797 w_20 (by decide) (by decide) (by decide) (by decide) (by decide) (Nat.le_of_ble_eq_true rfl) (Nat.le_of_ble_eq_true rfl) hw70.symm dX1_copyFrom_65 rfl ?_
  have k71 : w69[a]? = some (ob h 1 [.int i2, .ref h1, .ref h2, .ref h3, .ref h4, .ref h5, .ref h6]) := by rw [hw70]; exact set_ne k54 (by omega)
  have k72 : w69[a + 1]? = some (iA E h1 48 (va_cpy g1 f1 0 0 48)) := by rw [hw70]; exact set_ne k55 (by omega)
  have k73 : w69[a + 2]? = some (iA E h2 48 (va_cpy g2 f2 0 0 48)) := by rw [hw70]; exact set_ne k56 (by omega)
  have k74 : w69[a + 3]? = some (iA E h3 48 (va_cpy g3 f3 0 0 48)) := by rw [hw70]; exact set_ne k57 (by omega)
  have k75 : w69[a + 4]? = some (iA E h4 48 (va_cpy g4 f4 0 0 48)) := by rw [hw70]; exact set_eq k58
  have k76 : w69[a + 5]? = some (iA E h5 48 f5) := by rw [hw70]; exact set_ne k59 (by omega)
  have k77 : w69[a + 6]? = some (iA E h6 48 f6) := by rw [hw70]; exact set_ne k60 (by omega)
  have k78 : w69[b]? = some (ob o 1 [.int i2, .ref o1, .ref o2, .ref o3, .ref o4, .ref o5, .ref o6]) := by rw [hw70]; exact set_ne k61 (by omega)
  have k79 : w69[b + 1]? = some (iA E o1 48 g1) := by rw [hw70]; exact set_ne k62 (by omega)
  have k80 : w69[b + 2]? = some (iA E o2 48 g2) := by rw [hw70]; exact set_ne k63 (by omega)
  have k81 : w69[b + 3]? = some (iA E o3 48 g3) := by rw [hw70]; exact set_ne k64 (by omega)
  have k82 : w69[b + 4]? = some (iA E o4 48 g4) := by rw [hw70]; exact set_ne k65 (by omega)
  have k83 : w69[b + 5]? = some (iA E o5 48 g5) := by rw [hw70]; exact set_ne k66 (by omega)
  have k84 : w69[b + 6]? = some (iA E o6 48 g6) := by rw [hw70]; exact set_ne k67 (by omega)
  have kp85 := keeps_set kp68 hw70 (by first | exact rfl | decide | omega | (dsimp only; omega))
  refine x_aload_n C dX1_copyFrom_68 rfl 1 rfl rfl ?_
  refine x_get C (ci := 1) (k := 5) b k78 rfl in_X1 (by decide) w_139 rfl dX1_copyFrom_69 rfl ?_
  refine x_iconst C (v := 0) dX1_copyFrom_72 (by decide) rfl ?_
  refine x_aload_n C dX1_copyFrom_73 rfl 0 rfl rfl ?_
  refine x_get C (ci := 1) (k := 5) a k71 rfl in_X1 (by decide) w_139 rfl dX1_copyFrom_74 rfl ?_
  refine x_iconst C (v := 0) dX1_copyFrom_77 (by decide) rfl ?_
  refine x_bipush C (v := 48) dX1_copyFrom_78 (by decide) rfl ?_
  obtain ⟨w86, hw87⟩ : ∃ w : va_W, w = List.set w69 (a + 5) (iA E h5 48 (va_cpy g5 f5 0 0 48)) := ⟨_, rfl⟩
  refine x_copy C (b + 5) (a + 5) k83 k76 w_808 w_798 w_797 w_20 (by decide) (by decide) (by decide) (by decide) (by decide) (Nat.le_of_ble_eq_true rfl) (Nat.le_of_ble_eq_true rfl) hw87.symm dX1_copyFrom_80 rfl ?_
  have k88 : w86[a]? = some (ob h 1 [.int i2, .ref h1, .ref h2, .ref h3, .ref h4, .ref h5, .ref h6]) := by rw [hw87]; exact set_ne k71 (by omega)
  have k89 : w86[a + 1]? = some (iA E h1 48 (va_cpy g1 f1 0 0 48)) := by rw [hw87]; exact set_ne k72 (by omega)
  have k90 : w86[a + 2]? = some (iA E h2 48 (va_cpy g2 f2 0 0 48)) := by rw [hw87]; exact set_ne k73 (by omega)
  have k91 : w86[a + 3]? = some (iA E h3 48 (va_cpy g3 f3 0 0 48)) := by rw [hw87]; exact set_ne k74 (by omega)
  have k92 : w86[a + 4]? = some (iA E h4 48 (va_cpy g4 f4 0 0 48)) := by rw [hw87]; exact set_ne k75 (by omega)
  have k93 : w86[a + 5]? = some (iA E h5 48 (va_cpy g5 f5 0 0 48)) := by rw [hw87]; exact set_eq k76
  have k94 : w86[a + 6]? = some (iA E h6 48 f6) := by rw [hw87]; exact set_ne k77 (by omega)
  have k95 : w86[b]? = some (ob o 1 [.int i2, .ref o1, .ref o2, .ref o3, .ref o4, .ref o5, .ref o6]) := by rw [hw87]; exact set_ne k78 (by omega)
  have k96 : w86[b + 1]? = some (iA E o1 48 g1) := by rw [hw87]; exact set_ne k79 (by omega)
  have k97 : w86[b + 2]? = some (iA E o2 48 g2) := by rw [hw87]; exact set_ne k80 (by omega)
  have k98 : w86[b + 3]? = some (iA E o3 48 g3) := by rw [hw87]; exact set_ne k81 (by omega)
  have k99 : w86[b + 4]? = some (iA E o4 48 g4) := by rw [hw87]; exact set_ne k82 (by omega)
  have k100 : w86[b + 5]? = some (iA E o5 48 g5) := by rw [hw87]; exact set_ne k83 (by omega)
  have k101 : w86[b + 6]? = some (iA E o6 48 g6) := by rw [hw87]; exact set_ne k84 (by omega)
  have kp102 := keeps_set kp85 hw87 (by first | exact rfl | decide | omega | (dsimp only; omega))
  refine x_aload_n C dX1_copyFrom_83 rfl 1 rfl rfl ?_
  refine x_get C (ci := 1) (k := 6) b k95 rfl in_X1 (by decide) w_144 rfl dX1_copyFrom_84 rfl ?_
  refine x_iconst C (v := 0) dX1_copyFrom_87 (by decide) rfl ?_
  refine x_aload_n C dX1_copyFrom_88 rfl 0 rfl rfl ?_
  refine x_get C (ci := 1) (k := 6) a k88 rfl in_X1 (by decide) w_144 rfl dX1_copyFrom_89 rfl ?_
  refine x_iconst C (v := 0) dX1_copyFrom_92 (by decide) rfl ?_
  refine x_bipush C (v := 48) dX1_copyFrom_93 (by decide) rfl ?_
  obtain ⟨w103, hw104⟩ : ∃ w : va_W, w = List.set w86 (a + 6) (iA E h6 48 (va_cpy g6 f6 0 0 48)) := ⟨_, rfl⟩
  refine x_copy C (b + 6) (a + 6) k101 k94 w_808 w_798 w_797 w_20 (by decide) (by decide) (by decide) (by decide) (by decide) (Nat.le_of_ble_eq_true rfl) (Nat.le_of_ble_eq_true rfl) hw104.symm dX1_copyFrom_95 rfl ?_
  have k105 : w103[a]? = some (ob h 1 [.int i2, .ref h1, .ref h2, .ref h3, .ref h4, .ref h5, .ref h6]) := by rw [hw104]; exact set_ne k88 (by omega)
  have k106 : w103[a + 1]? = some (iA E h1 48 (va_cpy g1 f1 0 0 48)) := by rw [hw104]; exact set_ne k89 (by omega)
  have k107 : w103[a + 2]? = some (iA E h2 48 (va_cpy g2 f2 0 0 48)) := by rw [hw104]; exact set_ne k90 (by omega)
  have k108 : w103[a + 3]? = some (iA E h3 48 (va_cpy g3 f3 0 0 48)) := by rw [hw104]; exact set_ne k91 (by omega)
  have k109 : w103[a + 4]? = some (iA E h4 48 (va_cpy g4 f4 0 0 48)) := by rw [hw104]; exact set_ne k92 (by omega)
  have k110 : w103[a + 5]? = some (iA E h5 48 (va_cpy g5 f5 0 0 48)) := by rw [hw104]; exact set_ne k93 (by omega)
  have k111 : w103[a + 6]? = some (iA E h6 48 (va_cpy g6 f6 0 0 48)) := by rw [hw104]; exact set_eq k94
  have k112 : w103[b]? = some (ob o 1 [.int i2, .ref o1, .ref o2, .ref o3, .ref o4, .ref o5, .ref o6]) := by rw [hw104]; exact set_ne k95 (by omega)
  have k113 : w103[b + 1]? = some (iA E o1 48 g1) := by rw [hw104]; exact set_ne k96 (by omega)
  have k114 : w103[b + 2]? = some (iA E o2 48 g2) := by rw [hw104]; exact set_ne k97 (by omega)
  have k115 : w103[b + 3]? = some (iA E o3 48 g3) := by rw [hw104]; exact set_ne k98 (by omega)
  have k116 : w103[b + 4]? = some (iA E o4 48 g4) := by rw [hw104]; exact set_ne k99 (by omega)
  have k117 : w103[b + 5]? = some (iA E o5 48 g5) := by rw [hw104]; exact set_ne k100 (by omega)
  have k118 : w103[b + 6]? = some (iA E o6 48 g6) := by rw [hw104]; exact set_ne k101 (by omega)
  have kp119 := keeps_set kp102 hw104 (by first | exact rfl | decide | omega | (dsimp only; omega))
  exact x_vret C hr hlk dX1_copyFrom_98 ⟨kp119, k105⟩
theorem dX10_copyFrom_0 : decode cX10_copyFrom 0 = .ok (.aload_n 0, 1) := by decide +kernel
theorem dX10_copyFrom_1 : decode cX10_copyFrom 1 = .ok (.aload_n 1, 1) := by decide +kernel
theorem dX10_copyFrom_2 : decode cX10_copyFrom 2 = .ok (.getfield 9, 3) := by decide +kernel
theorem dX10_copyFrom_5 : decode cX10_copyFrom 5 = .ok (.putfield 9, 3) := by decide +kernel
theorem dX10_copyFrom_8 : decode cX10_copyFrom 8 = .ok (.aload_n 1, 1) := by decide +kernel
theorem dX10_copyFrom_9 : decode cX10_copyFrom 9 = .ok (.getfield 15, 3) := by decide +kernel
theorem dX10_copyFrom_12 : decode cX10_copyFrom 12 = .ok (.iconst 0, 1) := by decide +kernel
theorem dX10_copyFrom_13 : decode cX10_copyFrom 13 = .ok (.aload_n 0, 1) := by decide +kernel
theorem dX10_copyFrom_14 : decode cX10_copyFrom 14 = .ok (.getfield 15, 3) := by decide +kernel
theorem dX10_copyFrom_17 : decode cX10_copyFrom 17 = .ok (.iconst 0, 1) := by decide +kernel
theorem dX10_copyFrom_18 : decode cX10_copyFrom 18 = .ok (.bipush 8, 2) := by decide +kernel
theorem dX10_copyFrom_20 : decode cX10_copyFrom 20 = .ok (.invokestatic 48, 3) := by decide +kernel
theorem dX10_copyFrom_23 : decode cX10_copyFrom 23 = .ok (.aload_n 1, 1) := by decide +kernel
theorem dX10_copyFrom_24 : decode cX10_copyFrom 24 = .ok (.getfield 19, 3) := by decide +kernel
theorem dX10_copyFrom_27 : decode cX10_copyFrom 27 = .ok (.iconst 0, 1) := by decide +kernel
theorem dX10_copyFrom_28 : decode cX10_copyFrom 28 = .ok (.aload_n 0, 1) := by decide +kernel
theorem dX10_copyFrom_29 : decode cX10_copyFrom 29 = .ok (.getfield 19, 3) := by decide +kernel
theorem dX10_copyFrom_32 : decode cX10_copyFrom 32 = .ok (.iconst 0, 1) := by decide +kernel
theorem dX10_copyFrom_33 : decode cX10_copyFrom 33 = .ok (.bipush 8, 2) := by decide +kernel
theorem dX10_copyFrom_35 : decode cX10_copyFrom 35 = .ok (.invokestatic 48, 3) := by decide +kernel
theorem dX10_copyFrom_38 : decode cX10_copyFrom 38 = .ok (.aload_n 1, 1) := by decide +kernel
theorem dX10_copyFrom_39 : decode cX10_copyFrom 39 = .ok (.getfield 22, 3) := by decide +kernel
theorem dX10_copyFrom_42 : decode cX10_copyFrom 42 = .ok (.iconst 0, 1) := by decide +kernel
theorem dX10_copyFrom_43 : decode cX10_copyFrom 43 = .ok (.aload_n 0, 1) := by decide +kernel
theorem dX10_copyFrom_44 : decode cX10_copyFrom 44 = .ok (.getfield 22, 3) := by decide +kernel
theorem dX10_copyFrom_47 : decode cX10_copyFrom 47 = .ok (.iconst 0, 1) := by decide +kernel
theorem dX10_copyFrom_48 : decode cX10_copyFrom 48 = .ok (.bipush 8, 2) := by decide +kernel
theorem dX10_copyFrom_50 : decode cX10_copyFrom 50 = .ok (.invokestatic 48, 3) := by decide +kernel
theorem dX10_copyFrom_53 : decode cX10_copyFrom 53 = .ok (.aload_n 1, 1) := by decide +kernel
theorem dX10_copyFrom_54 : decode cX10_copyFrom 54 = .ok (.getfield 25, 3) := by decide +kernel
theorem dX10_copyFrom_57 : decode cX10_copyFrom 57 = .ok (.iconst 0, 1) := by decide +kernel
theorem dX10_copyFrom_58 : decode cX10_copyFrom 58 = .ok (.aload_n 0, 1) := by decide +kernel
theorem dX10_copyFrom_59 : decode cX10_copyFrom 59 = .ok (.getfield 25, 3) := by decide +kernel
theorem dX10_copyFrom_62 : decode cX10_copyFrom 62 = .ok (.iconst 0, 1) := by decide +kernel
theorem dX10_copyFrom_63 : decode cX10_copyFrom 63 = .ok (.bipush 8, 2) := by decide +kernel
theorem dX10_copyFrom_65 : decode cX10_copyFrom 65 = .ok (.invokestatic 48, 3) := by decide +kernel
theorem dX10_copyFrom_68 : decode cX10_copyFrom 68 = .ok (.aload_n 1, 1) := by decide +kernel
theorem dX10_copyFrom_69 : decode cX10_copyFrom 69 = .ok (.getfield 28, 3) := by decide +kernel
theorem dX10_copyFrom_72 : decode cX10_copyFrom 72 = .ok (.iconst 0, 1) := by decide +kernel
theorem dX10_copyFrom_73 : decode cX10_copyFrom 73 = .ok (.aload_n 0, 1) := by decide +kernel
theorem dX10_copyFrom_74 : decode cX10_copyFrom 74 = .ok (.getfield 28, 3) := by decide +kernel
theorem dX10_copyFrom_77 : decode cX10_copyFrom 77 = .ok (.iconst 0, 1) := by decide +kernel
theorem dX10_copyFrom_78 : decode cX10_copyFrom 78 = .ok (.bipush 8, 2) := by decide +kernel
theorem dX10_copyFrom_80 : decode cX10_copyFrom 80 = .ok (.invokestatic 48, 3) := by decide +kernel
theorem dX10_copyFrom_83 : decode cX10_copyFrom 83 = .ok (.return_, 1) := by decide +kernel
set_option maxRecDepth 20000 in
set_option maxHeartbeats 4000000 in
theorem t_Works_copy (E : xE) (l : Launch) (ws : va_W) {h h1 h2 h3 h4 h5 o o1 o2 o3 o4 o5 : Nat} {i1 i2 : Int32} {f1 f2 f3 f4 f5 g1 g2 g3 g4 g5 : Nat → Int32} (a : Nat) (k_0 : ws[a]? = some (ob h 9 [.int i1, .ref h1, .ref h2, .ref h3, .ref h4, .ref h5])) (p_1 : Nat) (k_1 : ws[a + 1]? = some (iA E h1 8 f1)) (p_2 : Nat) (k_2 : ws[a + 2]? = some (iA E h2 8 f2)) (p_3 : Nat) (k_3 : ws[a + 3]? = some (iA E h3 8 f3)) (p_4 : Nat) (k_4 : ws[a + 4]? = some (iA E h4 8 f4)) (p_5 : Nat) (k_5 : ws[a + 5]? = some (iA E h5 8 f5)) (b : Nat) (k_6 : ws[b]? = some (ob o 9 [.int i2, .ref o1, .ref o2, .ref o3, .ref o4, .ref o5])) (p_7 : Nat) (k_7 : ws[b + 1]? = some (iA E o1 8 g1)) (p_8 : Nat) (k_8 : ws[b + 2]? = some (iA E o2 8 g2)) (p_9 : Nat) (k_9 : ws[b + 3]? = some (iA E o3 8 g3)) (p_10 : Nat) (k_10 : ws[b + 4]? = some (iA E o4 8 g4)) (p_11 : Nat) (k_11 : ws[b + 5]? = some (iA E o5 8 g5)) (hab : b + 6 ≤ a) : xV E l yX10_copyFrom cX10_copyFrom 2 1 0 0 [.ref h, .ref o] ws (fun w => keeps ws w (fun q => a ≤ q ∧ q < a + 6) ∧ w[a]? = some (ob h 9 [.int i2, .ref h1, .ref h2, .ref h3, .ref h4, .ref h5])) := by
  refine xV_start (lv := [(0, .ref h), (1, .ref o)]) RX10 (by decide) rfl (Nat.le_of_ble_eq_true rfl) rfl (fun p e s m below meth c A C hr hlk hin => ?_)
  have kp0 : keeps ws ws (fun q => a ≤ q ∧ q < a + 6) := keeps_rf
  refine x_aload_n C dX10_copyFrom_0 rfl 0 rfl rfl ?_
  refine x_aload_n C dX10_copyFrom_1 rfl 1 rfl rfl ?_
  refine x_get C (ci := 9) (k := 0) b k_6 rfl in_X10 (by decide) w_168 rfl dX10_copyFrom_2 rfl ?_
  obtain ⟨w1, hw2⟩ : ∃ w : va_W, w = List.set ws a (ob h 9 [.int i2, .ref h1, .ref h2, .ref h3, .ref h4, .ref h5]) := ⟨_, rfl⟩
  refine x_put C (ci := 9) (k := 0) (ty := .int) a k_0 rfl in_X10 tyX10 tyX10_ok nmX10 (by decide) w_168 rfl rfl rfl rfl (Nat.le_of_ble_eq_true rfl) hw2.symm dX10_copyFrom_5 rfl ?_
  have k3 : w1[a]? = some (ob h 9 [.int i2, .ref h1, .ref h2, .ref h3, .ref h4, .ref h5]) := by rw [hw2]; exact set_eq k_0
  have k4 : w1[a + 1]? = some (iA E h1 8 f1) := by rw [hw2]; exact set_ne k_1 (by omega)
  have k5 : w1[a + 2]? = some (iA E h2 8 f2) := by rw [hw2]; exact set_ne k_2 (by omega)
  have k6 : w1[a + 3]? = some (iA E h3 8 f3) := by rw [hw2]; exact set_ne k_3 (by omega)
  have k7 : w1[a + 4]? = some (iA E h4 8 f4) := by rw [hw2]; exact set_ne k_4 (by omega)
  have k8 : w1[a + 5]? = some (iA E h5 8 f5) := by rw [hw2]; exact set_ne k_5 (by omega)
  have k9 : w1[b]? = some (ob o 9 [.int i2, .ref o1, .ref o2, .ref o3, .ref o4, .ref o5]) := by rw [hw2]; exact set_ne k_6 (by omega)
  have k10 : w1[b + 1]? = some (iA E o1 8 g1) := by rw [hw2]; exact set_ne k_7 (by omega)
  have k11 : w1[b + 2]? = some (iA E o2 8 g2) := by rw [hw2]; exact set_ne k_8 (by omega)
  have k12 : w1[b + 3]? = some (iA E o3 8 g3) := by rw [hw2]; exact set_ne k_9 (by omega)
  have k13 : w1[b + 4]? = some (iA E o4 8 g4) := by rw [hw2]; exact set_ne k_10 (by omega)
  have k14 : w1[b + 5]? = some (iA E o5 8 g5) := by rw [hw2]; exact set_ne k_11 (by omega)
  have kp15 := keeps_set kp0 hw2 (by first | exact rfl | decide | omega | (dsimp only; omega))
  refine x_aload_n C dX10_copyFrom_8 rfl 1 rfl rfl ?_
  refine x_get C (ci := 9) (k := 1) b k9 rfl in_X10 (by decide) w_170 rfl dX10_copyFrom_9 rfl ?_
  refine x_iconst C (v := 0) dX10_copyFrom_12 (by decide) rfl ?_
  refine x_aload_n C dX10_copyFrom_13 rfl 0 rfl rfl ?_
  refine x_get C (ci := 9) (k := 1) a k3 rfl in_X10 (by decide) w_170 rfl dX10_copyFrom_14 rfl ?_
  refine x_iconst C (v := 0) dX10_copyFrom_17 (by decide) rfl ?_
  refine x_bipush C (v := 8) dX10_copyFrom_18 (by decide) rfl ?_
  obtain ⟨w16, hw17⟩ : ∃ w : va_W, w = List.set w1 (a + 1) (iA E h1 8 (va_cpy g1 f1 0 0 8)) := ⟨_, rfl⟩
  refine x_copy C (b + 1) (a + 1) k10 k4 w_813 w_798 w_797 w_20 (by decide) (by decide) (by decide) (by decide) (by decide) (Nat.le_of_ble_eq_true rfl) (Nat.le_of_ble_eq_true rfl) hw17.symm dX10_copyFrom_20 rfl ?_
  have k18 : w16[a]? = some (ob h 9 [.int i2, .ref h1, .ref h2, .ref h3, .ref h4, .ref h5]) := by rw [hw17]; exact set_ne k3 (by omega)
  have k19 : w16[a + 1]? = some (iA E h1 8 (va_cpy g1 f1 0 0 8)) := by rw [hw17]; exact set_eq k4
  have k20 : w16[a + 2]? = some (iA E h2 8 f2) := by rw [hw17]; exact set_ne k5 (by omega)
  have k21 : w16[a + 3]? = some (iA E h3 8 f3) := by rw [hw17]; exact set_ne k6 (by omega)
  have k22 : w16[a + 4]? = some (iA E h4 8 f4) := by rw [hw17]; exact set_ne k7 (by omega)
  have k23 : w16[a + 5]? = some (iA E h5 8 f5) := by rw [hw17]; exact set_ne k8 (by omega)
  have k24 : w16[b]? = some (ob o 9 [.int i2, .ref o1, .ref o2, .ref o3, .ref o4, .ref o5]) := by rw [hw17]; exact set_ne k9 (by omega)
  have k25 : w16[b + 1]? = some (iA E o1 8 g1) := by rw [hw17]; exact set_ne k10 (by omega)
  have k26 : w16[b + 2]? = some (iA E o2 8 g2) := by rw [hw17]; exact set_ne k11 (by omega)
  have k27 : w16[b + 3]? = some (iA E o3 8 g3) := by rw [hw17]; exact set_ne k12 (by omega)
  have k28 : w16[b + 4]? = some (iA E o4 8 g4) := by rw [hw17]; exact set_ne k13 (by omega)
  have k29 : w16[b + 5]? = some (iA E o5 8 g5) := by rw [hw17]; exact set_ne k14 (by omega)
  have kp30 := keeps_set kp15 hw17 (by first | exact rfl | decide | omega | (dsimp only; omega))
  refine x_aload_n C dX10_copyFrom_23 rfl 1 rfl rfl ?_
  refine x_get C (ci := 9) (k := 2) b k24 rfl in_X10 (by decide) w_173 rfl dX10_copyFrom_24 rfl ?_
  refine x_iconst C (v := 0) dX10_copyFrom_27 (by decide) rfl ?_
  refine x_aload_n C dX10_copyFrom_28 rfl 0 rfl rfl ?_
  refine x_get C (ci := 9) (k := 2) a k18 rfl in_X10 (by decide) w_173 rfl dX10_copyFrom_29 rfl ?_
  refine x_iconst C (v := 0) dX10_copyFrom_32 (by decide) rfl ?_
  refine x_bipush C (v := 8) dX10_copyFrom_33 (by decide) rfl ?_
  obtain ⟨w31, hw32⟩ : ∃ w : va_W, w = List.set w16 (a + 2) (iA E h2 8 (va_cpy g2 f2 0 0 8)) := ⟨_, rfl⟩
  refine x_copy C (b + 2) (a + 2) k26 k20 w_813 w_798 w_797 w_20 (by decide) (by decide) (by decide) (by decide) (by decide) (Nat.le_of_ble_eq_true rfl) (Nat.le_of_ble_eq_true rfl) hw32.symm dX10_copyFrom_35 rfl ?_
  have k33 : w31[a]? = some (ob h 9 [.int i2, .ref h1, .ref h2, .ref h3, .ref h4, .ref h5]) := by rw [hw32]; exact set_ne k18 (by omega)
  have k34 : w31[a + 1]? = some (iA E h1 8 (va_cpy g1 f1 0 0 8)) := by rw [hw32]; exact set_ne k19 (by omega)
  have k35 : w31[a + 2]? = some (iA E h2 8 (va_cpy g2 f2 0 0 8)) := by rw [hw32]; exact set_eq k20
  have k36 : w31[a + 3]? = some (iA E h3 8 f3) := by rw [hw32]; exact set_ne k21 (by omega)
  have k37 : w31[a + 4]? = some (iA E h4 8 f4) := by rw [hw32]; exact set_ne k22 (by omega)
  have k38 : w31[a + 5]? = some (iA E h5 8 f5) := by rw [hw32]; exact set_ne k23 (by omega)
  have k39 : w31[b]? = some (ob o 9 [.int i2, .ref o1, .ref o2, .ref o3, .ref o4, .ref o5]) := by rw [hw32]; exact set_ne k24 (by omega)
  have k40 : w31[b + 1]? = some (iA E o1 8 g1) := by rw [hw32]; exact set_ne k25 (by omega)
  have k41 : w31[b + 2]? = some (iA E o2 8 g2) := by rw [hw32]; exact set_ne k26 (by omega)
  have k42 : w31[b + 3]? = some (iA E o3 8 g3) := by rw [hw32]; exact set_ne k27 (by omega)
  have k43 : w31[b + 4]? = some (iA E o4 8 g4) := by rw [hw32]; exact set_ne k28 (by omega)
  have k44 : w31[b + 5]? = some (iA E o5 8 g5) := by rw [hw32]; exact set_ne k29 (by omega)
  have kp45 := keeps_set kp30 hw32 (by first | exact rfl | decide | omega | (dsimp only; omega))
  refine x_aload_n C dX10_copyFrom_38 rfl 1 rfl rfl ?_
  refine x_get C (ci := 9) (k := 3) b k39 rfl in_X10 (by decide) w_176 rfl dX10_copyFrom_39 rfl ?_
  refine x_iconst C (v := 0) dX10_copyFrom_42 (by decide) rfl ?_
  refine x_aload_n C dX10_copyFrom_43 rfl 0 rfl rfl ?_
  refine x_get C (ci := 9) (k := 3) a k33 rfl in_X10 (by decide) w_176 rfl dX10_copyFrom_44 rfl ?_
  refine x_iconst C (v := 0) dX10_copyFrom_47 (by decide) rfl ?_
  refine x_bipush C (v := 8) dX10_copyFrom_48 (by decide) rfl ?_
  obtain ⟨w46, hw47⟩ : ∃ w : va_W, w = List.set w31 (a + 3) (iA E h3 8 (va_cpy g3 f3 0 0 8)) := ⟨_, rfl⟩
  refine x_copy C (b + 3) (a + 3) k42 k36 w_813 w_798 w_797 w_20 (by decide) (by decide) (by decide) (by decide) (by decide) (Nat.le_of_ble_eq_true rfl) (Nat.le_of_ble_eq_true rfl) hw47.symm dX10_copyFrom_50 rfl ?_
  have k48 : w46[a]? = some (ob h 9 [.int i2, .ref h1, .ref h2, .ref h3, .ref h4, .ref h5]) := by rw [hw47]; exact set_ne k33 (by omega)
  have k49 : w46[a + 1]? = some (iA E h1 8 (va_cpy g1 f1 0 0 8)) := by rw [hw47]; exact set_ne k34 (by omega)
  have k50 : w46[a + 2]? = some (iA E h2 8 (va_cpy g2 f2 0 0 8)) := by rw [hw47]; exact set_ne k35 (by omega)
  have k51 : w46[a + 3]? = some (iA E h3 8 (va_cpy g3 f3 0 0 8)) := by rw [hw47]; exact set_eq k36
  have k52 : w46[a + 4]? = some (iA E h4 8 f4) := by rw [hw47]; exact set_ne k37 (by omega)
  have k53 : w46[a + 5]? = some (iA E h5 8 f5) := by rw [hw47]; exact set_ne k38 (by omega)
  have k54 : w46[b]? = some (ob o 9 [.int i2, .ref o1, .ref o2, .ref o3, .ref o4, .ref o5]) := by rw [hw47]; exact set_ne k39 (by omega)
  have k55 : w46[b + 1]? = some (iA E o1 8 g1) := by rw [hw47]; exact set_ne k40 (by omega)
  have k56 : w46[b + 2]? = some (iA E o2 8 g2) := by rw [hw47]; exact set_ne k41 (by omega)
  have k57 : w46[b + 3]? = some (iA E o3 8 g3) := by rw [hw47]; exact set_ne k42 (by omega)
  have k58 : w46[b + 4]? = some (iA E o4 8 g4) := by rw [hw47]; exact set_ne k43 (by omega)
  have k59 : w46[b + 5]? = some (iA E o5 8 g5) := by rw [hw47]; exact set_ne k44 (by omega)
  have kp60 := keeps_set kp45 hw47 (by first | exact rfl | decide | omega | (dsimp only; omega))
  refine x_aload_n C dX10_copyFrom_53 rfl 1 rfl rfl ?_
  refine x_get C (ci := 9) (k := 4) b k54 rfl in_X10 (by decide) w_179 rfl dX10_copyFrom_54 rfl ?_
  refine x_iconst C (v := 0) dX10_copyFrom_57 (by decide) rfl ?_
  refine x_aload_n C dX10_copyFrom_58 rfl 0 rfl rfl ?_
  refine x_get C (ci := 9) (k := 4) a k48 rfl in_X10 (by decide) w_179 rfl dX10_copyFrom_59 rfl ?_
  refine x_iconst C (v := 0) dX10_copyFrom_62 (by decide) rfl ?_
  refine x_bipush C (v := 8) dX10_copyFrom_63 (by decide) rfl ?_
  obtain ⟨w61, hw62⟩ : ∃ w : va_W, w = List.set w46 (a + 4) (iA E h4 8 (va_cpy g4 f4 0 0 8)) := ⟨_, rfl⟩
  refine x_copy C (b + 4) (a + 4) k58 k52 w_813 w_798 w_797 w_20 (by decide) (by decide) (by decide) (by decide) (by decide) (Nat.le_of_ble_eq_true rfl) (Nat.le_of_ble_eq_true rfl) hw62.symm dX10_copyFrom_65 rfl ?_
  have k63 : w61[a]? = some (ob h 9 [.int i2, .ref h1, .ref h2, .ref h3, .ref h4, .ref h5]) := by rw [hw62]; exact set_ne k48 (by omega)
  have k64 : w61[a + 1]? = some (iA E h1 8 (va_cpy g1 f1 0 0 8)) := by rw [hw62]; exact set_ne k49 (by omega)
  have k65 : w61[a + 2]? = some (iA E h2 8 (va_cpy g2 f2 0 0 8)) := by rw [hw62]; exact set_ne k50 (by omega)
  have k66 : w61[a + 3]? = some (iA E h3 8 (va_cpy g3 f3 0 0 8)) := by rw [hw62]; exact set_ne k51 (by omega)
  have k67 : w61[a + 4]? = some (iA E h4 8 (va_cpy g4 f4 0 0 8)) := by rw [hw62]; exact set_eq k52
  have k68 : w61[a + 5]? = some (iA E h5 8 f5) := by rw [hw62]; exact set_ne k53 (by omega)
  have k69 : w61[b]? = some (ob o 9 [.int i2, .ref o1, .ref o2, .ref o3, .ref o4, .ref o5]) := by rw [hw62]; exact set_ne k54 (by omega)
  have k70 : w61[b + 1]? = some (iA E o1 8 g1) := by rw [hw62]; exact set_ne k55 (by omega)
  have k71 : w61[b + 2]? = some (iA E o2 8 g2) := by rw [hw62]; exact set_ne k56 (by omega)
  have k72 : w61[b + 3]? = some (iA E o3 8 g3) := by rw [hw62]; exact set_ne k57 (by omega)
  have k73 : w61[b + 4]? = some (iA E o4 8 g4) := by rw [hw62]; exact set_ne k58 (by omega)
  have k74 : w61[b + 5]? = some (iA E o5 8 g5) := by rw [hw62]; exact set_ne k59 (by omega)
  have kp75 := keeps_set kp60 hw62 (by first | exact rfl | decide | omega | (dsimp only; omega))
  refine x_aload_n C dX10_copyFrom_68 rfl 1 rfl rfl ?_
  refine x_get C (ci := 9) (k := 5) b k69 rfl in_X10 (by decide) w_181 rfl dX10_copyFrom_69 rfl ?_
  refine x_iconst C (v := 0) dX10_copyFrom_72 (by decide) rfl ?_
  refine x_aload_n C dX10_copyFrom_73 rfl 0 rfl rfl ?_
  refine x_get C (ci := 9) (k := 5) a k63 rfl in_X10 (by decide) w_181 rfl dX10_copyFrom_74 rfl ?_
  refine x_iconst C (v := 0) dX10_copyFrom_77 (by decide) rfl ?_
  refine x_bipush C (v := 8) dX10_copyFrom_78 (by decide) rfl ?_
  obtain ⟨w76, hw77⟩ : ∃ w : va_W, w = List.set w61 (a + 5) (iA E h5 8 (va_cpy g5 f5 0 0 8)) := ⟨_, rfl⟩
  refine x_copy C (b + 5) (a + 5) k74 k68 w_813 w_798 w_797 w_20 (by decide) (by decide) (by decide) (by decide) (by decide) (Nat.le_of_ble_eq_true rfl) (Nat.le_of_ble_eq_true rfl) hw77.symm dX10_copyFrom_80 rfl ?_
  have k78 : w76[a]? = some (ob h 9 [.int i2, .ref h1, .ref h2, .ref h3, .ref h4, .ref h5]) := by rw [hw77]; exact set_ne k63 (by omega)
  have k79 : w76[a + 1]? = some (iA E h1 8 (va_cpy g1 f1 0 0 8)) := by rw [hw77]; exact set_ne k64 (by omega)
  have k80 : w76[a + 2]? = some (iA E h2 8 (va_cpy g2 f2 0 0 8)) := by rw [hw77]; exact set_ne k65 (by omega)
  have k81 : w76[a + 3]? = some (iA E h3 8 (va_cpy g3 f3 0 0 8)) := by rw [hw77]; exact set_ne k66 (by omega)
  have k82 : w76[a + 4]? = some (iA E h4 8 (va_cpy g4 f4 0 0 8)) := by rw [hw77]; exact set_ne k67 (by omega)
  have k83 : w76[a + 5]? = some (iA E h5 8 (va_cpy g5 f5 0 0 8)) := by rw [hw77]; exact set_eq k68
  have k84 : w76[b]? = some (ob o 9 [.int i2, .ref o1, .ref o2, .ref o3, .ref o4, .ref o5]) := by rw [hw77]; exact set_ne k69 (by omega)
  have k85 : w76[b + 1]? = some (iA E o1 8 g1) := by rw [hw77]; exact set_ne k70 (by omega)
  have k86 : w76[b + 2]? = some (iA E o2 8 g2) := by rw [hw77]; exact set_ne k71 (by omega)
  have k87 : w76[b + 3]? = some (iA E o3 8 g3) := by rw [hw77]; exact set_ne k72 (by omega)
  have k88 : w76[b + 4]? = some (iA E o4 8 g4) := by rw [hw77]; exact set_ne k73 (by omega)
  have k89 : w76[b + 5]? = some (iA E o5 8 g5) := by rw [hw77]; exact set_ne k74 (by omega)
  have kp90 := keeps_set kp75 hw77 (by first | exact rfl | decide | omega | (dsimp only; omega))
  exact x_vret C hr hlk dX10_copyFrom_83 ⟨kp90, k78⟩
theorem dX9_copyFrom_0 : decode cX9_copyFrom 0 = .ok (.aload_n 0, 1) := by decide +kernel
theorem dX9_copyFrom_1 : decode cX9_copyFrom 1 = .ok (.aload_n 1, 1) := by decide +kernel
theorem dX9_copyFrom_2 : decode cX9_copyFrom 2 = .ok (.getfield 9, 3) := by decide +kernel
theorem dX9_copyFrom_5 : decode cX9_copyFrom 5 = .ok (.putfield 9, 3) := by decide +kernel
theorem dX9_copyFrom_8 : decode cX9_copyFrom 8 = .ok (.aload_n 0, 1) := by decide +kernel
theorem dX9_copyFrom_9 : decode cX9_copyFrom 9 = .ok (.aload_n 1, 1) := by decide +kernel
theorem dX9_copyFrom_10 : decode cX9_copyFrom 10 = .ok (.getfield 15, 3) := by decide +kernel
theorem dX9_copyFrom_13 : decode cX9_copyFrom 13 = .ok (.putfield 15, 3) := by decide +kernel
theorem dX9_copyFrom_16 : decode cX9_copyFrom 16 = .ok (.aload_n 0, 1) := by decide +kernel
theorem dX9_copyFrom_17 : decode cX9_copyFrom 17 = .ok (.getfield 21, 3) := by decide +kernel
theorem dX9_copyFrom_20 : decode cX9_copyFrom 20 = .ok (.aload_n 1, 1) := by decide +kernel
theorem dX9_copyFrom_21 : decode cX9_copyFrom 21 = .ok (.getfield 21, 3) := by decide +kernel
theorem dX9_copyFrom_24 : decode cX9_copyFrom 24 = .ok (.invokevirtual 58, 3) := by decide +kernel
theorem dX9_copyFrom_27 : decode cX9_copyFrom 27 = .ok (.aload_n 0, 1) := by decide +kernel
theorem dX9_copyFrom_28 : decode cX9_copyFrom 28 = .ok (.getfield 28, 3) := by decide +kernel
theorem dX9_copyFrom_31 : decode cX9_copyFrom 31 = .ok (.aload_n 1, 1) := by decide +kernel
theorem dX9_copyFrom_32 : decode cX9_copyFrom 32 = .ok (.getfield 28, 3) := by decide +kernel
theorem dX9_copyFrom_35 : decode cX9_copyFrom 35 = .ok (.invokevirtual 62, 3) := by decide +kernel
theorem dX9_copyFrom_38 : decode cX9_copyFrom 38 = .ok (.aload_n 0, 1) := by decide +kernel
theorem dX9_copyFrom_39 : decode cX9_copyFrom 39 = .ok (.getfield 35, 3) := by decide +kernel
theorem dX9_copyFrom_42 : decode cX9_copyFrom 42 = .ok (.aload_n 1, 1) := by decide +kernel
theorem dX9_copyFrom_43 : decode cX9_copyFrom 43 = .ok (.getfield 35, 3) := by decide +kernel
theorem dX9_copyFrom_46 : decode cX9_copyFrom 46 = .ok (.invokevirtual 65, 3) := by decide +kernel
theorem dX9_copyFrom_49 : decode cX9_copyFrom 49 = .ok (.aload_n 0, 1) := by decide +kernel
theorem dX9_copyFrom_50 : decode cX9_copyFrom 50 = .ok (.getfield 42, 3) := by decide +kernel
theorem dX9_copyFrom_53 : decode cX9_copyFrom 53 = .ok (.aload_n 1, 1) := by decide +kernel
theorem dX9_copyFrom_54 : decode cX9_copyFrom 54 = .ok (.getfield 42, 3) := by decide +kernel
theorem dX9_copyFrom_57 : decode cX9_copyFrom 57 = .ok (.invokevirtual 68, 3) := by decide +kernel
theorem dX9_copyFrom_60 : decode cX9_copyFrom 60 = .ok (.return_, 1) := by decide +kernel
set_option maxRecDepth 20000 in
set_option maxHeartbeats 4000000 in
theorem t_Town_copy (E : xE) (l : Launch) (ws : va_W) {ut uh up ue uw uh1 uh2 up1 up2 up3 up4 ue1 ue2 ue3 ue4 ue5 ue6 uw1 uw2 uw3 uw4 uw5 vt vh vp ve vw vh1 vh2 vp1 vp2 vp3 vp4 ve1 ve2 ve3 ve4 ve5 ve6 vw1 vw2 vw3 vw4 vw5 : Nat} {d1 x1 r1 r2 r3 r4 d2 x2 r5 r6 r7 r8 : Int32} {ufh1 ufh2 ufp1 ufp2 ufp3 ufp4 ufe1 ufe2 ufe3 ufe4 ufe5 ufe6 ufw1 ufw2 ufw3 ufw4 ufw5 vfh1 vfh2 vfp1 vfp2 vfp3 vfp4 vfe1 vfe2 vfe3 vfe4 vfe5 vfe6 vfw1 vfw2 vfw3 vfw4 vfw5 : Nat → Int32} (a : Nat) (k_0 : ws[a]? = some (ob ut 8 [.int d1, .int x1, .ref uh, .ref up, .ref ue, .ref uw, .int r1, .int r2, .int r3, .int r4])) (p_1 : Nat) (k_1 : ws[a + 1]? = some (ob uh 2 [.int 0, .ref uh1, .ref uh2])) (p_2 : Nat) (k_2 : ws[a + 2]? = some (iA E uh1 8 ufh1)) (p_3 : Nat) (k_3 : ws[a + 3]? = some (iA E uh2 8 ufh2)) (p_4 : Nat) (k_4 : ws[a + 4]? = some (ob up 4 [.int 0, .ref up1, .ref up2, .ref up3, .ref up4])) (p_5 : Nat) (k_5 : ws[a + 5]? = some (iA E up1 8 ufp1)) (p_6 : Nat) (k_6 : ws[a + 6]? = some (iA E up2 8 ufp2)) (p_7 : Nat) (k_7 : ws[a + 7]? = some (iA E up3 8 ufp3)) (p_8 : Nat) (k_8 : ws[a + 8]? = some (iA E up4 8 ufp4)) (p_9 : Nat) (k_9 : ws[a + 9]? = some (ob ue 1 [.int 0, .ref ue1, .ref ue2, .ref ue3, .ref ue4, .ref ue5, .ref ue6])) (p_10 : Nat) (k_10 : ws[a + 10]? = some (iA E ue1 48 ufe1)) (p_11 : Nat) (k_11 : ws[a + 11]? = some (iA E ue2 48 ufe2)) (p_12 : Nat) (k_12 : ws[a + 12]? = some (iA E ue3 48 ufe3)) (p_13 : Nat) (k_13 : ws[a + 13]? = some (iA E ue4 48 ufe4)) (p_14 : Nat) (k_14 : ws[a + 14]? = some (iA E ue5 48 ufe5)) (p_15 : Nat) (k_15 : ws[a + 15]? = some (iA E ue6 48 ufe6)) (p_16 : Nat) (k_16 : ws[a + 16]? = some (ob uw 9 [.int 0, .ref uw1, .ref uw2, .ref uw3, .ref uw4, .ref uw5])) (p_17 : Nat) (k_17 : ws[a + 17]? = some (iA E uw1 8 ufw1)) (p_18 : Nat) (k_18 : ws[a + 18]? = some (iA E uw2 8 ufw2)) (p_19 : Nat) (k_19 : ws[a + 19]? = some (iA E uw3 8 ufw3)) (p_20 : Nat) (k_20 : ws[a + 20]? = some (iA E uw4 8 ufw4)) (p_21 : Nat) (k_21 : ws[a + 21]? = some (iA E uw5 8 ufw5)) (b : Nat) (k_22 : ws[b]? = some (ob vt 8 [.int d2, .int x2, .ref vh, .ref vp, .ref ve, .ref vw, .int r5, .int r6, .int r7, .int r8])) (p_23 : Nat) (k_23 : ws[b + 1]? = some (ob vh 2 [.int 0, .ref vh1, .ref vh2])) (p_24 : Nat) (k_24 : ws[b + 2]? = some (iA E vh1 8 vfh1)) (p_25 : Nat) (k_25 : ws[b + 3]? = some (iA E vh2 8 vfh2)) (p_26 : Nat) (k_26 : ws[b + 4]? = some (ob vp 4 [.int 0, .ref vp1, .ref vp2, .ref vp3, .ref vp4])) (p_27 : Nat) (k_27 : ws[b + 5]? = some (iA E vp1 8 vfp1)) (p_28 : Nat) (k_28 : ws[b + 6]? = some (iA E vp2 8 vfp2)) (p_29 : Nat) (k_29 : ws[b + 7]? = some (iA E vp3 8 vfp3)) (p_30 : Nat) (k_30 : ws[b + 8]? = some (iA E vp4 8 vfp4)) (p_31 : Nat) (k_31 : ws[b + 9]? = some (ob ve 1 [.int 0, .ref ve1, .ref ve2, .ref ve3, .ref ve4, .ref ve5, .ref ve6])) (p_32 : Nat) (k_32 : ws[b + 10]? = some (iA E ve1 48 vfe1)) (p_33 : Nat) (k_33 : ws[b + 11]? = some (iA E ve2 48 vfe2)) (p_34 : Nat) (k_34 : ws[b + 12]? = some (iA E ve3 48 vfe3)) (p_35 : Nat) (k_35 : ws[b + 13]? = some (iA E ve4 48 vfe4)) (p_36 : Nat) (k_36 : ws[b + 14]? = some (iA E ve5 48 vfe5)) (p_37 : Nat) (k_37 : ws[b + 15]? = some (iA E ve6 48 vfe6)) (p_38 : Nat) (k_38 : ws[b + 16]? = some (ob vw 9 [.int 0, .ref vw1, .ref vw2, .ref vw3, .ref vw4, .ref vw5])) (p_39 : Nat) (k_39 : ws[b + 17]? = some (iA E vw1 8 vfw1)) (p_40 : Nat) (k_40 : ws[b + 18]? = some (iA E vw2 8 vfw2)) (p_41 : Nat) (k_41 : ws[b + 19]? = some (iA E vw3 8 vfw3)) (p_42 : Nat) (k_42 : ws[b + 20]? = some (iA E vw4 8 vfw4)) (p_43 : Nat) (k_43 : ws[b + 21]? = some (iA E vw5 8 vfw5)) (hab : b + 22 ≤ a) : xV E l yX9_copyFrom cX9_copyFrom 2 2 0 0 [.ref ut, .ref vt] ws (fun w => keeps ws w (fun q => a ≤ q ∧ q < a + 22) ∧ w[a]? = some (ob ut 8 [.int d2, .int x2, .ref uh, .ref up, .ref ue, .ref uw, .int r1, .int r2, .int r3, .int r4]) ∧ w[a + 1]? = some (ob uh 2 [.int 0, .ref uh1, .ref uh2]) ∧ w[a + 9]? = some (ob ue 1 [.int 0, .ref ue1, .ref ue2, .ref ue3, .ref ue4, .ref ue5, .ref ue6])) := by
  refine xV_start (lv := [(0, .ref ut), (1, .ref vt)]) RX9 (by decide) rfl (Nat.le_of_ble_eq_true rfl) rfl (fun p e s m below meth c A C hr hlk hin => ?_)
  have kp0 : keeps ws ws (fun q => a ≤ q ∧ q < a + 22) := keeps_rf
  refine x_aload_n C dX9_copyFrom_0 rfl 0 rfl rfl ?_
  refine x_aload_n C dX9_copyFrom_1 rfl 1 rfl rfl ?_
  refine x_get C (ci := 8) (k := 0) b k_22 rfl in_X9 (by decide) w_195 rfl dX9_copyFrom_2 rfl ?_
  obtain ⟨w1, hw2⟩ : ∃ w : va_W, w = List.set ws a (ob ut 8 [.int d2, .int x1, .ref uh, .ref up, .ref ue, .ref uw, .int r1, .int r2, .int r3, .int r4]) := ⟨_, rfl⟩
  refine x_put C (ci := 8) (k := 0) (ty := .int) a k_0 rfl in_X9 tyX9 tyX9_ok nmX9 (by decide) w_195 rfl rfl rfl rfl (Nat.le_of_ble_eq_true rfl) hw2.symm dX9_copyFrom_5 rfl ?_
  have k3 : w1[a]? = some (ob ut 8 [.int d2, .int x1, .ref uh, .ref up, .ref ue, .ref uw, .int r1, .int r2, .int r3, .int r4]) := by rw [hw2]; exact set_eq k_0
  have k4 : w1[a + 1]? = some (ob uh 2 [.int 0, .ref uh1, .ref uh2]) := by rw [hw2]; exact set_ne k_1 (by omega)
  have k5 : w1[a + 2]? = some (iA E uh1 8 ufh1) := by rw [hw2]; exact set_ne k_2 (by omega)
  have k6 : w1[a + 3]? = some (iA E uh2 8 ufh2) := by rw [hw2]; exact set_ne k_3 (by omega)
  have k7 : w1[a + 4]? = some (ob up 4 [.int 0, .ref up1, .ref up2, .ref up3, .ref up4]) := by rw [hw2]; exact set_ne k_4 (by omega)
  have k8 : w1[a + 5]? = some (iA E up1 8 ufp1) := by rw [hw2]; exact set_ne k_5 (by omega)
  have k9 : w1[a + 6]? = some (iA E up2 8 ufp2) := by rw [hw2]; exact set_ne k_6 (by omega)
  have k10 : w1[a + 7]? = some (iA E up3 8 ufp3) := by rw [hw2]; exact set_ne k_7 (by omega)
  have k11 : w1[a + 8]? = some (iA E up4 8 ufp4) := by rw [hw2]; exact set_ne k_8 (by omega)
  have k12 : w1[a + 9]? = some (ob ue 1 [.int 0, .ref ue1, .ref ue2, .ref ue3, .ref ue4, .ref ue5, .ref ue6]) := by rw [hw2]; exact set_ne k_9 (by omega)
  have k13 : w1[a + 10]? = some (iA E ue1 48 ufe1) := by rw [hw2]; exact set_ne k_10 (by omega)
  have k14 : w1[a + 11]? = some (iA E ue2 48 ufe2) := by rw [hw2]; exact set_ne k_11 (by omega)
  have k15 : w1[a + 12]? = some (iA E ue3 48 ufe3) := by rw [hw2]; exact set_ne k_12 (by omega)
  have k16 : w1[a + 13]? = some (iA E ue4 48 ufe4) := by rw [hw2]; exact set_ne k_13 (by omega)
  have k17 : w1[a + 14]? = some (iA E ue5 48 ufe5) := by rw [hw2]; exact set_ne k_14 (by omega)
  have k18 : w1[a + 15]? = some (iA E ue6 48 ufe6) := by rw [hw2]; exact set_ne k_15 (by omega)
  have k19 : w1[a + 16]? = some (ob uw 9 [.int 0, .ref uw1, .ref uw2, .ref uw3, .ref uw4, .ref uw5]) := by rw [hw2]; exact set_ne k_16 (by omega)
  have k20 : w1[a + 17]? = some (iA E uw1 8 ufw1) := by rw [hw2]; exact set_ne k_17 (by omega)
  have k21 : w1[a + 18]? = some (iA E uw2 8 ufw2) := by rw [hw2]; exact set_ne k_18 (by omega)
  have k22 : w1[a + 19]? = some (iA E uw3 8 ufw3) := by rw [hw2]; exact set_ne k_19 (by omega)
  have k23 : w1[a + 20]? = some (iA E uw4 8 ufw4) := by rw [hw2]; exact set_ne k_20 (by omega)
  have k24 : w1[a + 21]? = some (iA E uw5 8 ufw5) := by rw [hw2]; exact set_ne k_21 (by omega)
  have k25 : w1[b]? = some (ob vt 8 [.int d2, .int x2, .ref vh, .ref vp, .ref ve, .ref vw, .int r5, .int r6, .int r7, .int r8]) := by rw [hw2]; exact set_ne k_22 (by omega)
  have k26 : w1[b + 1]? = some (ob vh 2 [.int 0, .ref vh1, .ref vh2]) := by rw [hw2]; exact set_ne k_23 (by omega)
  have k27 : w1[b + 2]? = some (iA E vh1 8 vfh1) := by rw [hw2]; exact set_ne k_24 (by omega)
  have k28 : w1[b + 3]? = some (iA E vh2 8 vfh2) := by rw [hw2]; exact set_ne k_25 (by omega)
  have k29 : w1[b + 4]? = some (ob vp 4 [.int 0, .ref vp1, .ref vp2, .ref vp3, .ref vp4]) := by rw [hw2]; exact set_ne k_26 (by omega)
  have k30 : w1[b + 5]? = some (iA E vp1 8 vfp1) := by rw [hw2]; exact set_ne k_27 (by omega)
  have k31 : w1[b + 6]? = some (iA E vp2 8 vfp2) := by rw [hw2]; exact set_ne k_28 (by omega)
  have k32 : w1[b + 7]? = some (iA E vp3 8 vfp3) := by rw [hw2]; exact set_ne k_29 (by omega)
  have k33 : w1[b + 8]? = some (iA E vp4 8 vfp4) := by rw [hw2]; exact set_ne k_30 (by omega)
  have k34 : w1[b + 9]? = some (ob ve 1 [.int 0, .ref ve1, .ref ve2, .ref ve3, .ref ve4, .ref ve5, .ref ve6]) := by rw [hw2]; exact set_ne k_31 (by omega)
  have k35 : w1[b + 10]? = some (iA E ve1 48 vfe1) := by rw [hw2]; exact set_ne k_32 (by omega)
  have k36 : w1[b + 11]? = some (iA E ve2 48 vfe2) := by rw [hw2]; exact set_ne k_33 (by omega)
  have k37 : w1[b + 12]? = some (iA E ve3 48 vfe3) := by rw [hw2]; exact set_ne k_34 (by omega)
  have k38 : w1[b + 13]? = some (iA E ve4 48 vfe4) := by rw [hw2]; exact set_ne k_35 (by omega)
  have k39 : w1[b + 14]? = some (iA E ve5 48 vfe5) := by rw [hw2]; exact set_ne k_36 (by omega)
  have k40 : w1[b + 15]? = some (iA E ve6 48 vfe6) := by rw [hw2]; exact set_ne k_37 (by omega)
  have k41 : w1[b + 16]? = some (ob vw 9 [.int 0, .ref vw1, .ref vw2, .ref vw3, .ref vw4, .ref vw5]) := by rw [hw2]; exact set_ne k_38 (by omega)
  have k42 : w1[b + 17]? = some (iA E vw1 8 vfw1) := by rw [hw2]; exact set_ne k_39 (by omega)
  have k43 : w1[b + 18]? = some (iA E vw2 8 vfw2) := by rw [hw2]; exact set_ne k_40 (by omega)
  have k44 : w1[b + 19]? = some (iA E vw3 8 vfw3) := by rw [hw2]; exact set_ne k_41 (by omega)
  have k45 : w1[b + 20]? = some (iA E vw4 8 vfw4) := by rw [hw2]; exact set_ne k_42 (by omega)
  have k46 : w1[b + 21]? = some (iA E vw5 8 vfw5) := by rw [hw2]; exact set_ne k_43 (by omega)
  have kp47 := keeps_set kp0 hw2 (by first | exact rfl | decide | omega | (dsimp only; omega))
  refine x_aload_n C dX9_copyFrom_8 rfl 0 rfl rfl ?_
  refine x_aload_n C dX9_copyFrom_9 rfl 1 rfl rfl ?_
  refine x_get C (ci := 8) (k := 1) b k25 rfl in_X9 (by decide) w_198 rfl dX9_copyFrom_10 rfl ?_
  obtain ⟨w48, hw49⟩ : ∃ w : va_W, w = List.set w1 a (ob ut 8 [.int d2, .int x2, .ref uh, .ref up, .ref ue, .ref uw, .int r1, .int r2, .int r3, .int r4]) := ⟨_, rfl⟩
  refine x_put C (ci := 8) (k := 1) (ty := .int) a k3 rfl in_X9 tyX9 tyX9_ok nmX9 (by decide) w_198 rfl rfl rfl rfl (Nat.le_of_ble_eq_true rfl) hw49.symm dX9_copyFrom_13 rfl ?_
  have k50 : w48[a]? = some (ob ut 8 [.int d2, .int x2, .ref uh, .ref up, .ref ue, .ref uw, .int r1, .int r2, .int r3, .int r4]) := by rw [hw49]; exact set_eq k3
  have k51 : w48[a + 1]? = some (ob uh 2 [.int 0, .ref uh1, .ref uh2]) := by rw [hw49]; exact set_ne k4 (by omega)
  have k52 : w48[a + 2]? = some (iA E uh1 8 ufh1) := by rw [hw49]; exact set_ne k5 (by omega)
  have k53 : w48[a + 3]? = some (iA E uh2 8 ufh2) := by rw [hw49]; exact set_ne k6 (by omega)
  have k54 : w48[a + 4]? = some (ob up 4 [.int 0, .ref up1, .ref up2, .ref up3, .ref up4]) := by rw [hw49]; exact set_ne k7 (by omega)
  have k55 : w48[a + 5]? = some (iA E up1 8 ufp1) := by rw [hw49]; exact set_ne k8 (by omega)
  have k56 : w48[a + 6]? = some (iA E up2 8 ufp2) := by rw [hw49]; exact set_ne k9 (by omega)
  have k57 : w48[a + 7]? = some (iA E up3 8 ufp3) := by rw [hw49]; exact set_ne k10 (by omega)
  have k58 : w48[a + 8]? = some (iA E up4 8 ufp4) := by rw [hw49]; exact set_ne k11 (by omega)
  have k59 : w48[a + 9]? = some (ob ue 1 [.int 0, .ref ue1, .ref ue2, .ref ue3, .ref ue4, .ref ue5, .ref ue6]) := by rw [hw49]; exact set_ne k12 (by omega)
  have k60 : w48[a + 10]? = some (iA E ue1 48 ufe1) := by rw [hw49]; exact set_ne k13 (by omega)
  have k61 : w48[a + 11]? = some (iA E ue2 48 ufe2) := by rw [hw49]; exact set_ne k14 (by omega)
  have k62 : w48[a + 12]? = some (iA E ue3 48 ufe3) := by rw [hw49]; exact set_ne k15 (by omega)
  have k63 : w48[a + 13]? = some (iA E ue4 48 ufe4) := by rw [hw49]; exact set_ne k16 (by omega)
  have k64 : w48[a + 14]? = some (iA E ue5 48 ufe5) := by rw [hw49]; exact set_ne k17 (by omega)
  have k65 : w48[a + 15]? = some (iA E ue6 48 ufe6) := by rw [hw49]; exact set_ne k18 (by omega)
  have k66 : w48[a + 16]? = some (ob uw 9 [.int 0, .ref uw1, .ref uw2, .ref uw3, .ref uw4, .ref uw5]) := by rw [hw49]; exact set_ne k19 (by omega)
  have k67 : w48[a + 17]? = some (iA E uw1 8 ufw1) := by rw [hw49]; exact set_ne k20 (by omega)
  have k68 : w48[a + 18]? = some (iA E uw2 8 ufw2) := by rw [hw49]; exact set_ne k21 (by omega)
  have k69 : w48[a + 19]? = some (iA E uw3 8 ufw3) := by rw [hw49]; exact set_ne k22 (by omega)
  have k70 : w48[a + 20]? = some (iA E uw4 8 ufw4) := by rw [hw49]; exact set_ne k23 (by omega)
  have k71 : w48[a + 21]? = some (iA E uw5 8 ufw5) := by rw [hw49]; exact set_ne k24 (by omega)
  have k72 : w48[b]? = some (ob vt 8 [.int d2, .int x2, .ref vh, .ref vp, .ref ve, .ref vw, .int r5, .int r6, .int r7, .int r8]) := by rw [hw49]; exact set_ne k25 (by omega)
  have k73 : w48[b + 1]? = some (ob vh 2 [.int 0, .ref vh1, .ref vh2]) := by rw [hw49]; exact set_ne k26 (by omega)
  have k74 : w48[b + 2]? = some (iA E vh1 8 vfh1) := by rw [hw49]; exact set_ne k27 (by omega)
  have k75 : w48[b + 3]? = some (iA E vh2 8 vfh2) := by rw [hw49]; exact set_ne k28 (by omega)
  have k76 : w48[b + 4]? = some (ob vp 4 [.int 0, .ref vp1, .ref vp2, .ref vp3, .ref vp4]) := by rw [hw49]; exact set_ne k29 (by omega)
  have k77 : w48[b + 5]? = some (iA E vp1 8 vfp1) := by rw [hw49]; exact set_ne k30 (by omega)
  have k78 : w48[b + 6]? = some (iA E vp2 8 vfp2) := by rw [hw49]; exact set_ne k31 (by omega)
  have k79 : w48[b + 7]? = some (iA E vp3 8 vfp3) := by rw [hw49]; exact set_ne k32 (by omega)
  have k80 : w48[b + 8]? = some (iA E vp4 8 vfp4) := by rw [hw49]; exact set_ne k33 (by omega)
  have k81 : w48[b + 9]? = some (ob ve 1 [.int 0, .ref ve1, .ref ve2, .ref ve3, .ref ve4, .ref ve5, .ref ve6]) := by rw [hw49]; exact set_ne k34 (by omega)
  have k82 : w48[b + 10]? = some (iA E ve1 48 vfe1) := by rw [hw49]; exact set_ne k35 (by omega)
  have k83 : w48[b + 11]? = some (iA E ve2 48 vfe2) := by rw [hw49]; exact set_ne k36 (by omega)
  have k84 : w48[b + 12]? = some (iA E ve3 48 vfe3) := by rw [hw49]; exact set_ne k37 (by omega)
  have k85 : w48[b + 13]? = some (iA E ve4 48 vfe4) := by rw [hw49]; exact set_ne k38 (by omega)
  have k86 : w48[b + 14]? = some (iA E ve5 48 vfe5) := by rw [hw49]; exact set_ne k39 (by omega)
  have k87 : w48[b + 15]? = some (iA E ve6 48 vfe6) := by rw [hw49]; exact set_ne k40 (by omega)
  have k88 : w48[b + 16]? = some (ob vw 9 [.int 0, .ref vw1, .ref vw2, .ref vw3, .ref vw4, .ref vw5]) := by rw [hw49]; exact set_ne k41 (by omega)
  have k89 : w48[b + 17]? = some (iA E vw1 8 vfw1) := by rw [hw49]; exact set_ne k42 (by omega)
  have k90 : w48[b + 18]? = some (iA E vw2 8 vfw2) := by rw [hw49]; exact set_ne k43 (by omega)
  have k91 : w48[b + 19]? = some (iA E vw3 8 vfw3) := by rw [hw49]; exact set_ne k44 (by omega)
  have k92 : w48[b + 20]? = some (iA E vw4 8 vfw4) := by rw [hw49]; exact set_ne k45 (by omega)
  have k93 : w48[b + 21]? = some (iA E vw5 8 vfw5) := by rw [hw49]; exact set_ne k46 (by omega)
  have kp94 := keeps_set kp47 hw49 (by first | exact rfl | decide | omega | (dsimp only; omega))
  refine x_aload_n C dX9_copyFrom_16 rfl 0 rfl rfl ?_
  refine x_get C (ci := 8) (k := 2) a k50 rfl in_X9 (by decide) w_200 rfl dX9_copyFrom_17 rfl ?_
  refine x_aload_n C dX9_copyFrom_20 rfl 1 rfl rfl ?_
  refine x_get C (ci := 8) (k := 2) b k72 rfl in_X9 (by decide) w_200 rfl dX9_copyFrom_21 rfl ?_
  refine x_vv C (As := [.ref vh]) (rest := []) (t_Hens_copy E l w48 (a + 1) k51 (a + 2) k52 (a + 3) k53 (b + 1) k73 (b + 2) k74 (b + 3) k75 (by omega)) mf_X2_copyFrom w_792 (a + 1) k51 rfl rfl rfl (Nat.le_of_ble_eq_true rfl) ⟨(Nat.le_of_ble_eq_true rfl), (Nat.le_of_ble_eq_true rfl)⟩ ⟨(Nat.le_of_ble_eq_true rfl), (Nat.le_of_ble_eq_true rfl)⟩ dX9_copyFrom_24 rfl (fun w97 h95 => ?_)
  obtain ⟨g98, g99⟩ := h95
  have k101 : w97[a]? = some (ob ut 8 [.int d2, .int x2, .ref uh, .ref up, .ref ue, .ref uw, .int r1, .int r2, .int r3, .int r4]) := keeps_at g98 k50 (by first | decide | omega | (dsimp only; omega))
  have k102 : w97[a + 4]? = some (ob up 4 [.int 0, .ref up1, .ref up2, .ref up3, .ref up4]) := keeps_at g98 k54 (by first | decide | omega | (dsimp only; omega))
  have k103 : w97[a + 5]? = some (iA E up1 8 ufp1) := keeps_at g98 k55 (by first | decide | omega | (dsimp only; omega))
  have k104 : w97[a + 6]? = some (iA E up2 8 ufp2) := keeps_at g98 k56 (by first | decide | omega | (dsimp only; omega))
  have k105 : w97[a + 7]? = some (iA E up3 8 ufp3) := keeps_at g98 k57 (by first | decide | omega | (dsimp only; omega))
  have k106 : w97[a + 8]? = some (iA E up4 8 ufp4) := keeps_at g98 k58 (by first | decide | omega | (dsimp only; omega))
  have k107 : w97[a + 9]? = some (ob ue 1 [.int 0, .ref ue1, .ref ue2, .ref ue3, .ref ue4, .ref ue5, .ref ue6]) := keeps_at g98 k59 (by first | decide | omega | (dsimp only; omega))
  have k108 : w97[a + 10]? = some (iA E ue1 48 ufe1) := keeps_at g98 k60 (by first | decide | omega | (dsimp only; omega))
  have k109 : w97[a + 11]? = some (iA E ue2 48 ufe2) := keeps_at g98 k61 (by first | decide | omega | (dsimp only; omega))
  have k110 : w97[a + 12]? = some (iA E ue3 48 ufe3) := keeps_at g98 k62 (by first | decide | omega | (dsimp only; omega))
  have k111 : w97[a + 13]? = some (iA E ue4 48 ufe4) := keeps_at g98 k63 (by first | decide | omega | (dsimp only; omega))
  have k112 : w97[a + 14]? = some (iA E ue5 48 ufe5) := keeps_at g98 k64 (by first | decide | omega | (dsimp only; omega))
  have k113 : w97[a + 15]? = some (iA E ue6 48 ufe6) := keeps_at g98 k65 (by first | decide | omega | (dsimp only; omega))
  have k114 : w97[a + 16]? = some (ob uw 9 [.int 0, .ref uw1, .ref uw2, .ref uw3, .ref uw4, .ref uw5]) := keeps_at g98 k66 (by first | decide | omega | (dsimp only; omega))
  have k115 : w97[a + 17]? = some (iA E uw1 8 ufw1) := keeps_at g98 k67 (by first | decide | omega | (dsimp only; omega))
  have k116 : w97[a + 18]? = some (iA E uw2 8 ufw2) := keeps_at g98 k68 (by first | decide | omega | (dsimp only; omega))
  have k117 : w97[a + 19]? = some (iA E uw3 8 ufw3) := keeps_at g98 k69 (by first | decide | omega | (dsimp only; omega))
  have k118 : w97[a + 20]? = some (iA E uw4 8 ufw4) := keeps_at g98 k70 (by first | decide | omega | (dsimp only; omega))
  have k119 : w97[a + 21]? = some (iA E uw5 8 ufw5) := keeps_at g98 k71 (by first | decide | omega | (dsimp only; omega))
  have k120 : w97[b]? = some (ob vt 8 [.int d2, .int x2, .ref vh, .ref vp, .ref ve, .ref vw, .int r5, .int r6, .int r7, .int r8]) := keeps_at g98 k72 (by first | decide | omega | (dsimp only; omega))
  have k121 : w97[b + 1]? = some (ob vh 2 [.int 0, .ref vh1, .ref vh2]) := keeps_at g98 k73 (by first | decide | omega | (dsimp only; omega))
  have k122 : w97[b + 2]? = some (iA E vh1 8 vfh1) := keeps_at g98 k74 (by first | decide | omega | (dsimp only; omega))
  have k123 : w97[b + 3]? = some (iA E vh2 8 vfh2) := keeps_at g98 k75 (by first | decide | omega | (dsimp only; omega))
  have k124 : w97[b + 4]? = some (ob vp 4 [.int 0, .ref vp1, .ref vp2, .ref vp3, .ref vp4]) := keeps_at g98 k76 (by first | decide | omega | (dsimp only; omega))
  have k125 : w97[b + 5]? = some (iA E vp1 8 vfp1) := keeps_at g98 k77 (by first | decide | omega | (dsimp only; omega))
  have k126 : w97[b + 6]? = some (iA E vp2 8 vfp2) := keeps_at g98 k78 (by first | decide | omega | (dsimp only; omega))
  have k127 : w97[b + 7]? = some (iA E vp3 8 vfp3) := keeps_at g98 k79 (by first | decide | omega | (dsimp only; omega))
  have k128 : w97[b + 8]? = some (iA E vp4 8 vfp4) := keeps_at g98 k80 (by first | decide | omega | (dsimp only; omega))
  have k129 : w97[b + 9]? = some (ob ve 1 [.int 0, .ref ve1, .ref ve2, .ref ve3, .ref ve4, .ref ve5, .ref ve6]) := keeps_at g98 k81 (by first | decide | omega | (dsimp only; omega))
  have k130 : w97[b + 10]? = some (iA E ve1 48 vfe1) := keeps_at g98 k82 (by first | decide | omega | (dsimp only; omega))
  have k131 : w97[b + 11]? = some (iA E ve2 48 vfe2) := keeps_at g98 k83 (by first | decide | omega | (dsimp only; omega))
  have k132 : w97[b + 12]? = some (iA E ve3 48 vfe3) := keeps_at g98 k84 (by first | decide | omega | (dsimp only; omega))
  have k133 : w97[b + 13]? = some (iA E ve4 48 vfe4) := keeps_at g98 k85 (by first | decide | omega | (dsimp only; omega))
  have k134 : w97[b + 14]? = some (iA E ve5 48 vfe5) := keeps_at g98 k86 (by first | decide | omega | (dsimp only; omega))
  have k135 : w97[b + 15]? = some (iA E ve6 48 vfe6) := keeps_at g98 k87 (by first | decide | omega | (dsimp only; omega))
  have k136 : w97[b + 16]? = some (ob vw 9 [.int 0, .ref vw1, .ref vw2, .ref vw3, .ref vw4, .ref vw5]) := keeps_at g98 k88 (by first | decide | omega | (dsimp only; omega))
  have k137 : w97[b + 17]? = some (iA E vw1 8 vfw1) := keeps_at g98 k89 (by first | decide | omega | (dsimp only; omega))
  have k138 : w97[b + 18]? = some (iA E vw2 8 vfw2) := keeps_at g98 k90 (by first | decide | omega | (dsimp only; omega))
  have k139 : w97[b + 19]? = some (iA E vw3 8 vfw3) := keeps_at g98 k91 (by first | decide | omega | (dsimp only; omega))
  have k140 : w97[b + 20]? = some (iA E vw4 8 vfw4) := keeps_at g98 k92 (by first | decide | omega | (dsimp only; omega))
  have k141 : w97[b + 21]? = some (iA E vw5 8 vfw5) := keeps_at g98 k93 (by first | decide | omega | (dsimp only; omega))
  have kp142 := keeps_tr kp94 g98 (fun q hq => by first | omega | (dsimp only at *; omega))
  refine x_aload_n C dX9_copyFrom_27 rfl 0 rfl rfl ?_
  refine x_get C (ci := 8) (k := 3) a k101 rfl in_X9 (by decide) w_203 rfl dX9_copyFrom_28 rfl ?_
  refine x_aload_n C dX9_copyFrom_31 rfl 1 rfl rfl ?_
  refine x_get C (ci := 8) (k := 3) b k120 rfl in_X9 (by decide) w_203 rfl dX9_copyFrom_32 rfl ?_
  refine x_vv C (As := [.ref vp]) (rest := []) (t_People_copy E l w97 (a + 4) k102 (a + 5) k103 (a + 6) k104 (a + 7) k105 (a + 8) k106 (b + 4) k124 (b + 5) k125 (b + 6) k126 (b + 7) k127 (b + 8) k128 (by omega)) mf_X5_copyFrom w_799 (a + 4) k102 rfl rfl rfl (Nat.le_of_ble_eq_true rfl) ⟨(Nat.le_of_ble_eq_true rfl), (Nat.le_of_ble_eq_true rfl)⟩ ⟨(Nat.le_of_ble_eq_true rfl), (Nat.le_of_ble_eq_true rfl)⟩ dX9_copyFrom_35 rfl (fun w145 h143 => ?_)
  obtain ⟨g146, g147⟩ := h143
  have k149 : w145[a]? = some (ob ut 8 [.int d2, .int x2, .ref uh, .ref up, .ref ue, .ref uw, .int r1, .int r2, .int r3, .int r4]) := keeps_at g146 k101 (by first | decide | omega | (dsimp only; omega))
  have k150 : w145[a + 1]? = some (ob uh 2 [.int 0, .ref uh1, .ref uh2]) := keeps_at g146 g99 (by first | decide | omega | (dsimp only; omega))
  have k151 : w145[a + 9]? = some (ob ue 1 [.int 0, .ref ue1, .ref ue2, .ref ue3, .ref ue4, .ref ue5, .ref ue6]) := keeps_at g146 k107 (by first | decide | omega | (dsimp only; omega))
  have k152 : w145[a + 10]? = some (iA E ue1 48 ufe1) := keeps_at g146 k108 (by first | decide | omega | (dsimp only; omega))
  have k153 : w145[a + 11]? = some (iA E ue2 48 ufe2) := keeps_at g146 k109 (by first | decide | omega | (dsimp only; omega))
  have k154 : w145[a + 12]? = some (iA E ue3 48 ufe3) := keeps_at g146 k110 (by first | decide | omega | (dsimp only; omega))
  have k155 : w145[a + 13]? = some (iA E ue4 48 ufe4) := keeps_at g146 k111 (by first | decide | omega | (dsimp only; omega))
  have k156 : w145[a + 14]? = some (iA E ue5 48 ufe5) := keeps_at g146 k112 (by first | decide | omega | (dsimp only; omega))
  have k157 : w145[a + 15]? = some (iA E ue6 48 ufe6) := keeps_at g146 k113 (by first | decide | omega | (dsimp only; omega))
  have k158 : w145[a + 16]? = some (ob uw 9 [.int 0, .ref uw1, .ref uw2, .ref uw3, .ref uw4, .ref uw5]) := keeps_at g146 k114 (by first | decide | omega | (dsimp only; omega))
  have k159 : w145[a + 17]? = some (iA E uw1 8 ufw1) := keeps_at g146 k115 (by first | decide | omega | (dsimp only; omega))
  have k160 : w145[a + 18]? = some (iA E uw2 8 ufw2) := keeps_at g146 k116 (by first | decide | omega | (dsimp only; omega))
  have k161 : w145[a + 19]? = some (iA E uw3 8 ufw3) := keeps_at g146 k117 (by first | decide | omega | (dsimp only; omega))
  have k162 : w145[a + 20]? = some (iA E uw4 8 ufw4) := keeps_at g146 k118 (by first | decide | omega | (dsimp only; omega))
  have k163 : w145[a + 21]? = some (iA E uw5 8 ufw5) := keeps_at g146 k119 (by first | decide | omega | (dsimp only; omega))
  have k164 : w145[b]? = some (ob vt 8 [.int d2, .int x2, .ref vh, .ref vp, .ref ve, .ref vw, .int r5, .int r6, .int r7, .int r8]) := keeps_at g146 k120 (by first | decide | omega | (dsimp only; omega))
  have k165 : w145[b + 1]? = some (ob vh 2 [.int 0, .ref vh1, .ref vh2]) := keeps_at g146 k121 (by first | decide | omega | (dsimp only; omega))
  have k166 : w145[b + 2]? = some (iA E vh1 8 vfh1) := keeps_at g146 k122 (by first | decide | omega | (dsimp only; omega))
  have k167 : w145[b + 3]? = some (iA E vh2 8 vfh2) := keeps_at g146 k123 (by first | decide | omega | (dsimp only; omega))
  have k168 : w145[b + 4]? = some (ob vp 4 [.int 0, .ref vp1, .ref vp2, .ref vp3, .ref vp4]) := keeps_at g146 k124 (by first | decide | omega | (dsimp only; omega))
  have k169 : w145[b + 5]? = some (iA E vp1 8 vfp1) := keeps_at g146 k125 (by first | decide | omega | (dsimp only; omega))
  have k170 : w145[b + 6]? = some (iA E vp2 8 vfp2) := keeps_at g146 k126 (by first | decide | omega | (dsimp only; omega))
  have k171 : w145[b + 7]? = some (iA E vp3 8 vfp3) := keeps_at g146 k127 (by first | decide | omega | (dsimp only; omega))
  have k172 : w145[b + 8]? = some (iA E vp4 8 vfp4) := keeps_at g146 k128 (by first | decide | omega | (dsimp only; omega))
  have k173 : w145[b + 9]? = some (ob ve 1 [.int 0, .ref ve1, .ref ve2, .ref ve3, .ref ve4, .ref ve5, .ref ve6]) := keeps_at g146 k129 (by first | decide | omega | (dsimp only; omega))
  have k174 : w145[b + 10]? = some (iA E ve1 48 vfe1) := keeps_at g146 k130 (by first | decide | omega | (dsimp only; omega))
  have k175 : w145[b + 11]? = some (iA E ve2 48 vfe2) := keeps_at g146 k131 (by first | decide | omega | (dsimp only; omega))
  have k176 : w145[b + 12]? = some (iA E ve3 48 vfe3) := keeps_at g146 k132 (by first | decide | omega | (dsimp only; omega))
  have k177 : w145[b + 13]? = some (iA E ve4 48 vfe4) := keeps_at g146 k133 (by first | decide | omega | (dsimp only; omega))
  have k178 : w145[b + 14]? = some (iA E ve5 48 vfe5) := keeps_at g146 k134 (by first | decide | omega | (dsimp only; omega))
  have k179 : w145[b + 15]? = some (iA E ve6 48 vfe6) := keeps_at g146 k135 (by first | decide | omega | (dsimp only; omega))
  have k180 : w145[b + 16]? = some (ob vw 9 [.int 0, .ref vw1, .ref vw2, .ref vw3, .ref vw4, .ref vw5]) := keeps_at g146 k136 (by first | decide | omega | (dsimp only; omega))
  have k181 : w145[b + 17]? = some (iA E vw1 8 vfw1) := keeps_at g146 k137 (by first | decide | omega | (dsimp only; omega))
  have k182 : w145[b + 18]? = some (iA E vw2 8 vfw2) := keeps_at g146 k138 (by first | decide | omega | (dsimp only; omega))
  have k183 : w145[b + 19]? = some (iA E vw3 8 vfw3) := keeps_at g146 k139 (by first | decide | omega | (dsimp only; omega))
  have k184 : w145[b + 20]? = some (iA E vw4 8 vfw4) := keeps_at g146 k140 (by first | decide | omega | (dsimp only; omega))
  have k185 : w145[b + 21]? = some (iA E vw5 8 vfw5) := keeps_at g146 k141 (by first | decide | omega | (dsimp only; omega))
  have kp186 := keeps_tr kp142 g146 (fun q hq => by first | omega | (dsimp only at *; omega))
  refine x_aload_n C dX9_copyFrom_38 rfl 0 rfl rfl ?_
  refine x_get C (ci := 8) (k := 4) a k149 rfl in_X9 (by decide) w_206 rfl dX9_copyFrom_39 rfl ?_
  refine x_aload_n C dX9_copyFrom_42 rfl 1 rfl rfl ?_
  refine x_get C (ci := 8) (k := 4) b k164 rfl in_X9 (by decide) w_206 rfl dX9_copyFrom_43 rfl ?_
  refine x_vv C (As := [.ref ve]) (rest := []) (t_Eggs_copy E l w145 (a + 9) k151 (a + 10) k152 (a + 11) k153 (a + 12) k154 (a + 13) k155 (a + 14) k156 (a + 15) k157 (b + 9) k173 (b + 10) k174 (b + 11) k175 (b + 12) k176 (b + 13) k177 (b + 14) k178 (b + 15) k179 (by omega)) mf_X1_copyFrom w_804 (a + 9) k151 rfl rfl rfl (Nat.le_of_ble_eq_true rfl) ⟨(Nat.le_of_ble_eq_true rfl), (Nat.le_of_ble_eq_true rfl)⟩ ⟨(Nat.le_of_ble_eq_true rfl), (Nat.le_of_ble_eq_true rfl)⟩ dX9_copyFrom_46 rfl (fun w189 h187 => ?_)
  obtain ⟨g190, g191⟩ := h187
  have k193 : w189[a]? = some (ob ut 8 [.int d2, .int x2, .ref uh, .ref up, .ref ue, .ref uw, .int r1, .int r2, .int r3, .int r4]) := keeps_at g190 k149 (by first | decide | omega | (dsimp only; omega))
  have k194 : w189[a + 1]? = some (ob uh 2 [.int 0, .ref uh1, .ref uh2]) := keeps_at g190 k150 (by first | decide | omega | (dsimp only; omega))
  have k195 : w189[a + 4]? = some (ob up 4 [.int 0, .ref up1, .ref up2, .ref up3, .ref up4]) := keeps_at g190 g147 (by first | decide | omega | (dsimp only; omega))
  have k196 : w189[a + 16]? = some (ob uw 9 [.int 0, .ref uw1, .ref uw2, .ref uw3, .ref uw4, .ref uw5]) := keeps_at g190 k158 (by first | decide | omega | (dsimp only; omega))
  have k197 : w189[a + 17]? = some (iA E uw1 8 ufw1) := keeps_at g190 k159 (by first | decide | omega | (dsimp only; omega))
  have k198 : w189[a + 18]? = some (iA E uw2 8 ufw2) := keeps_at g190 k160 (by first | decide | omega | (dsimp only; omega))
  have k199 : w189[a + 19]? = some (iA E uw3 8 ufw3) := keeps_at g190 k161 (by first | decide | omega | (dsimp only; omega))
  have k200 : w189[a + 20]? = some (iA E uw4 8 ufw4) := keeps_at g190 k162 (by first | decide | omega | (dsimp only; omega))
  have k201 : w189[a + 21]? = some (iA E uw5 8 ufw5) := keeps_at g190 k163 (by first | decide | omega | (dsimp only; omega))
  have k202 : w189[b]? = some (ob vt 8 [.int d2, .int x2, .ref vh, .ref vp, .ref ve, .ref vw, .int r5, .int r6, .int r7, .int r8]) := keeps_at g190 k164 (by first | decide | omega | (dsimp only; omega))
  have k203 : w189[b + 1]? = some (ob vh 2 [.int 0, .ref vh1, .ref vh2]) := keeps_at g190 k165 (by first | decide | omega | (dsimp only; omega))
  have k204 : w189[b + 2]? = some (iA E vh1 8 vfh1) := keeps_at g190 k166 (by first | decide | omega | (dsimp only; omega))
  have k205 : w189[b + 3]? = some (iA E vh2 8 vfh2) := keeps_at g190 k167 (by first | decide | omega | (dsimp only; omega))
  have k206 : w189[b + 4]? = some (ob vp 4 [.int 0, .ref vp1, .ref vp2, .ref vp3, .ref vp4]) := keeps_at g190 k168 (by first | decide | omega | (dsimp only; omega))
  have k207 : w189[b + 5]? = some (iA E vp1 8 vfp1) := keeps_at g190 k169 (by first | decide | omega | (dsimp only; omega))
  have k208 : w189[b + 6]? = some (iA E vp2 8 vfp2) := keeps_at g190 k170 (by first | decide | omega | (dsimp only; omega))
  have k209 : w189[b + 7]? = some (iA E vp3 8 vfp3) := keeps_at g190 k171 (by first | decide | omega | (dsimp only; omega))
  have k210 : w189[b + 8]? = some (iA E vp4 8 vfp4) := keeps_at g190 k172 (by first | decide | omega | (dsimp only; omega))
  have k211 : w189[b + 9]? = some (ob ve 1 [.int 0, .ref ve1, .ref ve2, .ref ve3, .ref ve4, .ref ve5, .ref ve6]) := keeps_at g190 k173 (by first | decide | omega | (dsimp only; omega))
  have k212 : w189[b + 10]? = some (iA E ve1 48 vfe1) := keeps_at g190 k174 (by first | decide | omega | (dsimp only; omega))
  have k213 : w189[b + 11]? = some (iA E ve2 48 vfe2) := keeps_at g190 k175 (by first | decide | omega | (dsimp only; omega))
  have k214 : w189[b + 12]? = some (iA E ve3 48 vfe3) := keeps_at g190 k176 (by first | decide | omega | (dsimp only; omega))
  have k215 : w189[b + 13]? = some (iA E ve4 48 vfe4) := keeps_at g190 k177 (by first | decide | omega | (dsimp only; omega))
  have k216 : w189[b + 14]? = some (iA E ve5 48 vfe5) := keeps_at g190 k178 (by first | decide | omega | (dsimp only; omega))
  have k217 : w189[b + 15]? = some (iA E ve6 48 vfe6) := keeps_at g190 k179 (by first | decide | omega | (dsimp only; omega))
  have k218 : w189[b + 16]? = some (ob vw 9 [.int 0, .ref vw1, .ref vw2, .ref vw3, .ref vw4, .ref vw5]) := keeps_at g190 k180 (by first | decide | omega | (dsimp only; omega))
  have k219 : w189[b + 17]? = some (iA E vw1 8 vfw1) := keeps_at g190 k181 (by first | decide | omega | (dsimp only; omega))
  have k220 : w189[b + 18]? = some (iA E vw2 8 vfw2) := keeps_at g190 k182 (by first | decide | omega | (dsimp only; omega))
  have k221 : w189[b + 19]? = some (iA E vw3 8 vfw3) := keeps_at g190 k183 (by first | decide | omega | (dsimp only; omega))
  have k222 : w189[b + 20]? = some (iA E vw4 8 vfw4) := keeps_at g190 k184 (by first | decide | omega | (dsimp only; omega))
  have k223 : w189[b + 21]? = some (iA E vw5 8 vfw5) := keeps_at g190 k185 (by first | decide | omega | (dsimp only; omega))
  have kp224 := keeps_tr kp186 g190 (fun q hq => by first | omega | (dsimp only at *; omega))
  refine x_aload_n C dX9_copyFrom_49 rfl 0 rfl rfl ?_
  refine x_get C (ci := 8) (k := 5) a k193 rfl in_X9 (by decide) w_211 rfl dX9_copyFrom_50 rfl ?_
  refine x_aload_n C dX9_copyFrom_53 rfl 1 rfl rfl ?_
  refine x_get C (ci := 8) (k := 5) b k202 rfl in_X9 (by decide) w_211 rfl dX9_copyFrom_54 rfl ?_
  refine x_vv C (As := [.ref vw]) (rest := []) (t_Works_copy E l w189 (a + 16) k196 (a + 17) k197 (a + 18) k198 (a + 19) k199 (a + 20) k200 (a + 21) k201 (b + 16) k218 (b + 17) k219 (b + 18) k220 (b + 19) k221 (b + 20) k222 (b + 21) k223 (by omega)) mf_X10_copyFrom w_809 (a + 16) k196 rfl rfl rfl (Nat.le_of_ble_eq_true rfl) ⟨(Nat.le_of_ble_eq_true rfl), (Nat.le_of_ble_eq_true rfl)⟩ ⟨(Nat.le_of_ble_eq_true rfl), (Nat.le_of_ble_eq_true rfl)⟩ dX9_copyFrom_57 rfl (fun w227 h225 => ?_)
  obtain ⟨g228, g229⟩ := h225
  have k231 : w227[a]? = some (ob ut 8 [.int d2, .int x2, .ref uh, .ref up, .ref ue, .ref uw, .int r1, .int r2, .int r3, .int r4]) := keeps_at g228 k193 (by first | decide | omega | (dsimp only; omega))
  have k232 : w227[a + 1]? = some (ob uh 2 [.int 0, .ref uh1, .ref uh2]) := keeps_at g228 k194 (by first | decide | omega | (dsimp only; omega))
  have k233 : w227[a + 4]? = some (ob up 4 [.int 0, .ref up1, .ref up2, .ref up3, .ref up4]) := keeps_at g228 k195 (by first | decide | omega | (dsimp only; omega))
  have k234 : w227[a + 9]? = some (ob ue 1 [.int 0, .ref ue1, .ref ue2, .ref ue3, .ref ue4, .ref ue5, .ref ue6]) := keeps_at g228 g191 (by first | decide | omega | (dsimp only; omega))
  have k235 : w227[b]? = some (ob vt 8 [.int d2, .int x2, .ref vh, .ref vp, .ref ve, .ref vw, .int r5, .int r6, .int r7, .int r8]) := keeps_at g228 k202 (by first | decide | omega | (dsimp only; omega))
  have k236 : w227[b + 1]? = some (ob vh 2 [.int 0, .ref vh1, .ref vh2]) := keeps_at g228 k203 (by first | decide | omega | (dsimp only; omega))
  have k237 : w227[b + 2]? = some (iA E vh1 8 vfh1) := keeps_at g228 k204 (by first | decide | omega | (dsimp only; omega))
  have k238 : w227[b + 3]? = some (iA E vh2 8 vfh2) := keeps_at g228 k205 (by first | decide | omega | (dsimp only; omega))
  have k239 : w227[b + 4]? = some (ob vp 4 [.int 0, .ref vp1, .ref vp2, .ref vp3, .ref vp4]) := keeps_at g228 k206 (by first | decide | omega | (dsimp only; omega))
  have k240 : w227[b + 5]? = some (iA E vp1 8 vfp1) := keeps_at g228 k207 (by first | decide | omega | (dsimp only; omega))
  have k241 : w227[b + 6]? = some (iA E vp2 8 vfp2) := keeps_at g228 k208 (by first | decide | omega | (dsimp only; omega))
  have k242 : w227[b + 7]? = some (iA E vp3 8 vfp3) := keeps_at g228 k209 (by first | decide | omega | (dsimp only; omega))
  have k243 : w227[b + 8]? = some (iA E vp4 8 vfp4) := keeps_at g228 k210 (by first | decide | omega | (dsimp only; omega))
  have k244 : w227[b + 9]? = some (ob ve 1 [.int 0, .ref ve1, .ref ve2, .ref ve3, .ref ve4, .ref ve5, .ref ve6]) := keeps_at g228 k211 (by first | decide | omega | (dsimp only; omega))
  have k245 : w227[b + 10]? = some (iA E ve1 48 vfe1) := keeps_at g228 k212 (by first | decide | omega | (dsimp only; omega))
  have k246 : w227[b + 11]? = some (iA E ve2 48 vfe2) := keeps_at g228 k213 (by first | decide | omega | (dsimp only; omega))
  have k247 : w227[b + 12]? = some (iA E ve3 48 vfe3) := keeps_at g228 k214 (by first | decide | omega | (dsimp only; omega))
  have k248 : w227[b + 13]? = some (iA E ve4 48 vfe4) := keeps_at g228 k215 (by first | decide | omega | (dsimp only; omega))
  have k249 : w227[b + 14]? = some (iA E ve5 48 vfe5) := keeps_at g228 k216 (by first | decide | omega | (dsimp only; omega))
  have k250 : w227[b + 15]? = some (iA E ve6 48 vfe6) := keeps_at g228 k217 (by first | decide | omega | (dsimp only; omega))
  have k251 : w227[b + 16]? = some (ob vw 9 [.int 0, .ref vw1, .ref vw2, .ref vw3, .ref vw4, .ref vw5]) := keeps_at g228 k218 (by first | decide | omega | (dsimp only; omega))
  have k252 : w227[b + 17]? = some (iA E vw1 8 vfw1) := keeps_at g228 k219 (by first | decide | omega | (dsimp only; omega))
  have k253 : w227[b + 18]? = some (iA E vw2 8 vfw2) := keeps_at g228 k220 (by first | decide | omega | (dsimp only; omega))
  have k254 : w227[b + 19]? = some (iA E vw3 8 vfw3) := keeps_at g228 k221 (by first | decide | omega | (dsimp only; omega))
  have k255 : w227[b + 20]? = some (iA E vw4 8 vfw4) := keeps_at g228 k222 (by first | decide | omega | (dsimp only; omega))
  have k256 : w227[b + 21]? = some (iA E vw5 8 vfw5) := keeps_at g228 k223 (by first | decide | omega | (dsimp only; omega))
  have kp257 := keeps_tr kp224 g228 (fun q hq => by first | omega | (dsimp only at *; omega))
  exact x_vret C hr hlk dX9_copyFrom_60 ⟨kp257, k231, k232, k234⟩
