def dI (a : Nat → Nat) (t : Nat) (w : va_W) (n : Nat) : Prop := ∃ (v1 v6 v7 v8 v9 : Int32), w[t]? = some (ob (a t) 8 [.int (nI n), .int v1, .ref (a (t + 1)), .ref (a (t + 4)), .ref (a (t + 9)), .ref (a (t + 16)), .int v6, .int v7, .int v8, .int v9])
/-- the day stays -/
def dK (a : Nat → Nat) (t : Nat) (ws w : va_W) : Prop := ∀ n : Nat, dI a t ws n → dI a t w n
theorem dK_of {a : Nat → Nat} {t n : Nat} {ws w : va_W} {r0 : List Value} (h0 : ws[t]? = some (ob (a t) 8 (.int (nI n) :: r0))) (h1 : dI a t w n) : dK a t ws w := by
  intro m hm
  obtain ⟨v1, v6, v7, v8, v9, h⟩ := hm
  rw [h] at h0
  have e : nI m = nI n := by
    injection h0 with h0
    injection h0 with _ h0
    injection h0 with h0
    injection h0 with _ h0
    injection h0 with h0
    injection h0
  rw [dI, e]
  exact h1
theorem dX9_draw_0 : decode cX9_draw 0 = .ok (.aload_n 0, 1) := by decide +kernel
theorem dX9_draw_1 : decode cX9_draw 1 = .ok (.sipush 25173, 3) := by decide +kernel
theorem dX9_draw_4 : decode cX9_draw 4 = .ok (.aload_n 0, 1) := by decide +kernel
theorem dX9_draw_5 : decode cX9_draw 5 = .ok (.getfield 15, 3) := by decide +kernel
theorem dX9_draw_8 : decode cX9_draw 8 = .ok (.imul, 1) := by decide +kernel
theorem dX9_draw_9 : decode cX9_draw 9 = .ok (.sipush 13849, 3) := by decide +kernel
theorem dX9_draw_12 : decode cX9_draw 12 = .ok (.iadd, 1) := by decide +kernel
theorem dX9_draw_13 : decode cX9_draw 13 = .ok (.ldc 96, 2) := by decide +kernel
theorem dX9_draw_15 : decode cX9_draw 15 = .ok (.iand, 1) := by decide +kernel
theorem dX9_draw_16 : decode cX9_draw 16 = .ok (.putfield 15, 3) := by decide +kernel
theorem dX9_draw_19 : decode cX9_draw 19 = .ok (.aload_n 0, 1) := by decide +kernel
theorem dX9_draw_20 : decode cX9_draw 20 = .ok (.getfield 15, 3) := by decide +kernel
theorem dX9_draw_23 : decode cX9_draw 23 = .ok (.bipush 10, 2) := by decide +kernel
theorem dX9_draw_25 : decode cX9_draw 25 = .ok (.irem, 1) := by decide +kernel
theorem dX9_draw_26 : decode cX9_draw 26 = .ok (.ireturn, 1) := by decide +kernel
set_option maxRecDepth 20000 in
set_option maxHeartbeats 4000000 in
theorem c_draw (E : xE) (l : Launch) (a : Nat → Nat) (ws : va_W) (hW : WX (okX E a) ws) (t : Nat) (ht : tb t) : xI E l yX9_draw cX9_draw 1 (some .int) 0 [.ref (a t)] ws (fun r w => WX (okX E a) w ∧ keeps ws w (fun q => t ≤ q ∧ q < t + 22 ∧ q ≠ t + 1 ∧ q ≠ t + 4) ∧ (dK a t ws w)) := by
  refine xI_start (lv := [(0, .ref (a t))]) RX9 (by decide) rfl (Nat.le_of_ble_eq_true rfl) rfl (fun p e s m below meth c A C hr hlk => ?_)
  have htb := tb_lo ht
  have kp0 : keeps ws ws (fun q => t ≤ q ∧ q < t + 22 ∧ q ≠ t + 1 ∧ q ≠ t + 4) := keeps_rf
  obtain ⟨_, k1, n2, v4, v5, v6, v7, v8, bn3, rfl⟩ := hW (t + 0) _ (okX_t ht (j := 0) rfl)
  refine x_aload_n C dX9_draw_0 rfl 0 rfl rfl ?_
  refine x_sipush C (v := 25173) dX9_draw_1 (by decide) rfl ?_
  refine x_aload_n C dX9_draw_4 rfl 0 rfl rfl ?_
  refine x_get C (ci := 8) (k := 1) t k1 rfl in_X9 (by decide) w_198 rfl dX9_draw_5 rfl ?_
  refine x_imul C (v := ((25173 : Int32) * v4)) dX9_draw_8 rfl rfl ?_
  refine x_any (fun v9 => ?_)
  refine x_sipush C (v := 13849) dX9_draw_9 (by decide) rfl ?_
  refine x_iadd C (v := (v9 + (13849 : Int32))) dX9_draw_12 rfl rfl ?_
  refine x_any (fun v10 => ?_)
  refine x_ldc C w_835 dX9_draw_13 rfl ?_
  refine x_iand C (v := (v10 &&& (65535 : Int32))) dX9_draw_15 rfl rfl ?_
  refine x_any (fun v11 => ?_)
  obtain ⟨w12, hw13⟩ : ∃ w : va_W, w = List.set ws t (ob (a t) 8 [.int (nI n2), .int v11, .ref (a (t + 1)), .ref (a (t + 4)), .ref (a (t + 9)), .ref (a (t + 16)), .int v5, .int v6, .int v7, .int v8]) := ⟨_, rfl⟩
  refine x_put C (ci := 8) (k := 1) (ty := .int) t k1 rfl in_X9 tyX9 tyX9_ok nmX9 (by decide) w_198 rfl rfl rfl rfl (Nat.le_of_ble_eq_true rfl) hw13.symm dX9_draw_16 rfl ?_
  have hW14 : WX (okX E a) w12 := by rw [hw13]; exact hW.set (k := t) (okX_t ht (j := 0) rfl) ⟨n2, v11, v5, v6, v7, v8, by omega, rfl⟩
  have k15 : w12[t]? = some (ob (a t) 8 [.int (nI n2), .int v11, .ref (a (t + 1)), .ref (a (t + 4)), .ref (a (t + 9)), .ref (a (t + 16)), .int v5, .int v6, .int v7, .int v8]) := by rw [hw13]; exact set_eq k1
  have kp16 := keeps_set kp0 hw13 (by first | exact rfl | decide | omega | (dsimp only; omega))
  refine x_aload_n C dX9_draw_19 rfl 0 rfl rfl ?_
  refine x_get C (ci := 8) (k := 1) t k15 rfl in_X9 (by decide) w_198 rfl dX9_draw_20 rfl ?_
  refine x_bipush C (v := 10) dX9_draw_23 (by decide) rfl ?_
  refine x_irem C (v := (v11 - v11 / (10 : Int32) * (10 : Int32))) dX9_draw_25 (by decide) rfl rfl ?_
  refine x_any (fun v17 => ?_)
  exact x_zret C hr hlk rfl dX9_draw_26 ⟨hW14, kp16, (dK_of k1 ⟨_, _, _, _, _, k15⟩)⟩
theorem dX5_live_0 : decode cX5_live 0 = .ok (.aload_n 0, 1) := by decide +kernel
theorem dX5_live_1 : decode cX5_live 1 = .ok (.getfield 15, 3) := by decide +kernel
theorem dX5_live_4 : decode cX5_live 4 = .ok (.iload_n 1, 1) := by decide +kernel
theorem dX5_live_5 : decode cX5_live 5 = .ok (.ldc 36, 2) := by decide +kernel
theorem dX5_live_7 : decode cX5_live 7 = .ok (.aload_n 0, 1) := by decide +kernel
theorem dX5_live_8 : decode cX5_live 8 = .ok (.getfield 15, 3) := by decide +kernel
theorem dX5_live_11 : decode cX5_live 11 = .ok (.iload_n 1, 1) := by decide +kernel
theorem dX5_live_12 : decode cX5_live 12 = .ok (.iaload, 1) := by decide +kernel
theorem dX5_live_13 : decode cX5_live 13 = .ok (.iload_n 2, 1) := by decide +kernel
theorem dX5_live_14 : decode cX5_live 14 = .ok (.iadd, 1) := by decide +kernel
theorem dX5_live_15 : decode cX5_live 15 = .ok (.invokestatic 37, 3) := by decide +kernel
theorem dX5_live_18 : decode cX5_live 18 = .ok (.iastore, 1) := by decide +kernel
theorem dX5_live_19 : decode cX5_live 19 = .ok (.return_, 1) := by decide +kernel
set_option maxRecDepth 20000 in
set_option maxHeartbeats 4000000 in
theorem c_live (E : xE) (l : Launch) (a : Nat → Nat) (ws : va_W) (hW : WX (okX E a) ws) (t : Nat) (ht : tb t) (p0 : Nat) (mi : Int32) (hp0 : p0 ≤ 7) : xV E l yX5_live cX5_live 3 1 0 0 [.ref (a (t + 4)), .int (nI p0), .int mi] ws (fun w => WX (okX E a) w ∧ keeps ws w (fun q => t ≤ q ∧ q < t + 22 ∧ q ≠ t + 1 ∧ q ≠ t + 4)) := by
  refine xV_start (lv := [(0, .ref (a (t + 4))), (1, .int (nI p0)), (2, .int mi)]) RX5 (by decide) rfl (Nat.le_of_ble_eq_true rfl) rfl (fun p e s m below meth c A C hr hlk hin => ?_)
  have htb := tb_lo ht
  have kp0 : keeps ws ws (fun q => t ≤ q ∧ q < t + 22 ∧ q ≠ t + 1 ∧ q ≠ t + 4) := keeps_rf
  refine x_aload_n C dX5_live_0 rfl 0 rfl rfl ?_
  obtain ⟨_, k1, v2, rfl⟩ := hW (t + 4) _ (okX_t ht (j := 4) rfl)
  refine x_get C (ci := 4) (k := 1) (t + 4) k1 rfl in_X5 (by decide) w_92 rfl dX5_live_1 rfl ?_
  refine x_iload_n C dX5_live_4 rfl 1 rfl rfl ?_
  refine x_ldc C w_776 dX5_live_5 rfl ?_
  refine x_aload_n C dX5_live_7 rfl 0 rfl rfl ?_
  refine x_get C (ci := 4) (k := 1) (t + 4) k1 rfl in_X5 (by decide) w_92 rfl dX5_live_8 rfl ?_
  refine x_iload_n C dX5_live_11 rfl 1 rfl rfl ?_
  obtain ⟨_, k3, f4, rfl⟩ := hW (t + 5) _ (okX_t ht (j := 5) rfl)
  refine x_iald C (v := (f4 (nI p0).toNatClampNeg)) (t + 5) k3 (vp_in_nI (by omega) (by decide)) rfl dX5_live_12 rfl ?_
  refine x_any (fun v5 => ?_)
  refine x_iload_n C dX5_live_13 rfl 2 rfl rfl ?_
  refine x_iadd C (v := (v5 + mi)) dX5_live_14 rfl rfl ?_
  refine x_any (fun v6 => ?_)
  refine x_mmin C (v := (if v6 < (999999 : Int32) then v6 else (999999 : Int32))) w_777 w_561 w_16 w_562 (Nat.le_of_ble_eq_true rfl) (Nat.le_of_ble_eq_true rfl) (Nat.le_of_ble_eq_true rfl) (Nat.le_of_ble_eq_true rfl) rfl dX5_live_15 rfl ?_
  refine x_any (fun v7 => ?_)
  obtain ⟨w8, hw9⟩ : ∃ w : va_W, w = List.set ws (t + 5) (iA E (a (t + 5)) 8 (upd f4 (nI p0).toNatClampNeg v7)) := ⟨_, rfl⟩
  refine x_iast C (t + 5) k3 (vp_in_nI (by omega) (by decide)) hw9.symm dX5_live_18 rfl ?_
  have hW10 : WX (okX E a) w8 := by rw [hw9]; exact hW.set (k := (t + 5)) (okX_t ht (j := 5) rfl) ⟨_, rfl⟩
  have k11 : w8[t + 4]? = some (ob (a (t + 4)) 4 [.int v2, .ref (a (t + 5)), .ref (a (t + 6)), .ref (a (t + 7)), .ref (a (t + 8))]) := by rw [hw9]; exact set_ne k1 (by omega)
  have k12 : w8[t + 5]? = some (iA E (a (t + 5)) 8 (upd f4 (nI p0).toNatClampNeg v7)) := by rw [hw9]; exact set_eq k3
  have kp13 := keeps_set kp0 hw9 (by first | exact rfl | decide | omega | (dsimp only; omega))
  exact x_vret C hr hlk dX5_live_19 ⟨hW10, kp13⟩
theorem dX10_add_0 : decode cX10_add 0 = .ok (.aload_n 0, 1) := by decide +kernel
theorem dX10_add_1 : decode cX10_add 1 = .ok (.iload_n 1, 1) := by decide +kernel
theorem dX10_add_2 : decode cX10_add 2 = .ok (.invokevirtual 39, 3) := by decide +kernel
theorem dX10_add_5 : decode cX10_add 5 = .ok (.ifCond .ne 33, 3) := by decide +kernel
theorem dX10_add_8 : decode cX10_add 8 = .ok (.aload_n 0, 1) := by decide +kernel
theorem dX10_add_9 : decode cX10_add 9 = .ok (.getfield 19, 3) := by decide +kernel
theorem dX10_add_12 : decode cX10_add 12 = .ok (.iload_n 1, 1) := by decide +kernel
theorem dX10_add_13 : decode cX10_add 13 = .ok (.aload_n 0, 1) := by decide +kernel
theorem dX10_add_14 : decode cX10_add 14 = .ok (.getfield 15, 3) := by decide +kernel
theorem dX10_add_17 : decode cX10_add 17 = .ok (.iload_n 1, 1) := by decide +kernel
theorem dX10_add_18 : decode cX10_add 18 = .ok (.iaload, 1) := by decide +kernel
theorem dX10_add_19 : decode cX10_add 19 = .ok (.aload_n 0, 1) := by decide +kernel
theorem dX10_add_20 : decode cX10_add 20 = .ok (.getfield 19, 3) := by decide +kernel
theorem dX10_add_23 : decode cX10_add 23 = .ok (.iload_n 1, 1) := by decide +kernel
theorem dX10_add_24 : decode cX10_add 24 = .ok (.iaload, 1) := by decide +kernel
theorem dX10_add_25 : decode cX10_add 25 = .ok (.iload_n 2, 1) := by decide +kernel
theorem dX10_add_26 : decode cX10_add 26 = .ok (.iadd, 1) := by decide +kernel
theorem dX10_add_27 : decode cX10_add 27 = .ok (.invokestatic 42, 3) := by decide +kernel
theorem dX10_add_30 : decode cX10_add 30 = .ok (.iastore, 1) := by decide +kernel
theorem dX10_add_31 : decode cX10_add 31 = .ok (.aload_n 0, 1) := by decide +kernel
theorem dX10_add_32 : decode cX10_add 32 = .ok (.getfield 28, 3) := by decide +kernel
theorem dX10_add_35 : decode cX10_add 35 = .ok (.iload_n 1, 1) := by decide +kernel
theorem dX10_add_36 : decode cX10_add 36 = .ok (.iload_n 3, 1) := by decide +kernel
theorem dX10_add_37 : decode cX10_add 37 = .ok (.iastore, 1) := by decide +kernel
theorem dX10_add_38 : decode cX10_add 38 = .ok (.return_, 1) := by decide +kernel
set_option maxRecDepth 20000 in
set_option maxHeartbeats 4000000 in
theorem c_Works_add (E : xE) (l : Launch) (a : Nat → Nat) (ws : va_W) (hW : WX (okX E a) ws) (t : Nat) (ht : tb t) (i0 : Nat) (mi : Int32) (dy : Int32) (hi0 : i0 ≤ 7) : xV E l yX10_add cX10_add 4 3 0 0 [.ref (a (t + 16)), .int (nI i0), .int mi, .int dy] ws (fun w => WX (okX E a) w ∧ keeps ws w (fun q => t ≤ q ∧ q < t + 22 ∧ q ≠ t + 1 ∧ q ≠ t + 4)) := by
  refine xV_start (lv := [(0, .ref (a (t + 16))), (1, .int (nI i0)), (2, .int mi), (3, .int dy)]) RX10 (by decide) rfl (Nat.le_of_ble_eq_true rfl) rfl (fun p e s m below meth c A C hr hlk hin => ?_)
  have htb := tb_lo ht
  have kp0 : keeps ws ws (fun q => t ≤ q ∧ q < t + 22 ∧ q ≠ t + 1 ∧ q ≠ t + 4) := keeps_rf
  refine x_aload_n C dX10_add_0 rfl 0 rfl rfl ?_
  refine x_iload_n C dX10_add_1 rfl 1 rfl rfl ?_
  obtain ⟨_, k1, v2, rfl⟩ := hW (t + 16) _ (okX_t ht (j := 16) rfl)
  refine x_vi C (As := [.int (nI i0)]) (rest := []) (c_Works_isDone E l a ws hW t ht ((nI i0))) mf_X10_isDone w_766 (t + 16) k1 rfl rfl rfl (Nat.le_of_ble_eq_true rfl) ⟨(Nat.le_of_ble_eq_true rfl), (Nat.le_of_ble_eq_true rfl)⟩ ⟨(Nat.le_of_ble_eq_true rfl), (Nat.le_of_ble_eq_true rfl)⟩ dX10_add_2 rfl (fun r4 w5 h3 => ?_)
  obtain ⟨hW6, zb7, x8⟩ := h3
  refine x_ws hW6 ?_
  refine x_if_ne C (tgt := 38) dX10_add_5 (by decide) rfl (fun c9 => ?_) (fun c9 => ?_)
  · skip
    have wi10 := wth_le (a := 0) (b := 7) (j := i0) (x8 c9) (by omega) (by decide) (by decide)
    exact x_vret C hr hlk dX10_add_38 ⟨hW, kp0⟩
  · skip
    refine x_aload_n C dX10_add_8 rfl 0 rfl rfl ?_
    refine x_get C (ci := 9) (k := 2) (t + 16) k1 rfl in_X10 (by decide) w_173 rfl dX10_add_9 rfl ?_
    refine x_iload_n C dX10_add_12 rfl 1 rfl rfl ?_
    refine x_aload_n C dX10_add_13 rfl 0 rfl rfl ?_
    refine x_get C (ci := 9) (k := 1) (t + 16) k1 rfl in_X10 (by decide) w_170 rfl dX10_add_14 rfl ?_
    refine x_iload_n C dX10_add_17 rfl 1 rfl rfl ?_
    obtain ⟨_, k11, f12, rfl⟩ := hW (t + 17) _ (okX_t ht (j := 17) rfl)
    refine x_iald C (v := (f12 (nI i0).toNatClampNeg)) (t + 17) k11 (vp_in_nI (by omega) (by decide)) rfl dX10_add_18 rfl ?_
    refine x_any (fun v13 => ?_)
    refine x_aload_n C dX10_add_19 rfl 0 rfl rfl ?_
    refine x_get C (ci := 9) (k := 2) (t + 16) k1 rfl in_X10 (by decide) w_173 rfl dX10_add_20 rfl ?_
    refine x_iload_n C dX10_add_23 rfl 1 rfl rfl ?_
    obtain ⟨_, k14, f15, rfl⟩ := hW (t + 18) _ (okX_t ht (j := 18) rfl)
    refine x_iald C (v := (f15 (nI i0).toNatClampNeg)) (t + 18) k14 (vp_in_nI (by omega) (by decide)) rfl dX10_add_24 rfl ?_
    refine x_any (fun v16 => ?_)
    refine x_iload_n C dX10_add_25 rfl 2 rfl rfl ?_
    refine x_iadd C (v := (v16 + mi)) dX10_add_26 rfl rfl ?_
    refine x_any (fun v17 => ?_)
    refine x_mmin C (v := (if v17 < v13 then v17 else v13)) w_767 w_561 w_16 w_562 (Nat.le_of_ble_eq_true rfl) (Nat.le_of_ble_eq_true rfl) (Nat.le_of_ble_eq_true rfl) (Nat.le_of_ble_eq_true rfl) rfl dX10_add_27 rfl ?_
    refine x_any (fun v18 => ?_)
    obtain ⟨w19, hw20⟩ : ∃ w : va_W, w = List.set ws (t + 18) (iA E (a (t + 18)) 8 (upd f15 (nI i0).toNatClampNeg v18)) := ⟨_, rfl⟩
    refine x_iast C (t + 18) k14 (vp_in_nI (by omega) (by decide)) hw20.symm dX10_add_30 rfl ?_
    have hW21 : WX (okX E a) w19 := by rw [hw20]; exact hW.set (k := (t + 18)) (okX_t ht (j := 18) rfl) ⟨_, rfl⟩
    have k22 : w19[t + 16]? = some (ob (a (t + 16)) 9 [.int v2, .ref (a (t + 17)), .ref (a (t + 18)), .ref (a (t + 19)), .ref (a (t + 20)), .ref (a (t + 21))]) := by rw [hw20]; exact set_ne k1 (by omega)
    have k23 : w19[t + 17]? = some (iA E (a (t + 17)) 8 f12) := by rw [hw20]; exact set_ne k11 (by omega)
    have k24 : w19[t + 18]? = some (iA E (a (t + 18)) 8 (upd f15 (nI i0).toNatClampNeg v18)) := by rw [hw20]; exact set_eq k14
    have kp25 := keeps_set kp0 hw20 (by first | exact rfl | decide | omega | (dsimp only; omega))
    refine x_aload_n C dX10_add_31 rfl 0 rfl rfl ?_
    refine x_get C (ci := 9) (k := 5) (t + 16) k22 rfl in_X10 (by decide) w_181 rfl dX10_add_32 rfl ?_
    refine x_iload_n C dX10_add_35 rfl 1 rfl rfl ?_
    refine x_iload_n C dX10_add_36 rfl 3 rfl rfl ?_
    obtain ⟨_, k26, f27, rfl⟩ := hW21 (t + 21) _ (okX_t ht (j := 21) rfl)
    obtain ⟨w28, hw29⟩ : ∃ w : va_W, w = List.set w19 (t + 21) (iA E (a (t + 21)) 8 (upd f27 (nI i0).toNatClampNeg dy)) := ⟨_, rfl⟩
    refine x_iast C (t + 21) k26 (vp_in_nI (by omega) (by decide)) hw29.symm dX10_add_37 rfl ?_
    have hW30 : WX (okX E a) w28 := by rw [hw29]; exact hW21.set (k := (t + 21)) (okX_t ht (j := 21) rfl) ⟨_, rfl⟩
    have k31 : w28[t + 16]? = some (ob (a (t + 16)) 9 [.int v2, .ref (a (t + 17)), .ref (a (t + 18)), .ref (a (t + 19)), .ref (a (t + 20)), .ref (a (t + 21))]) := by rw [hw29]; exact set_ne k22 (by omega)
    have k32 : w28[t + 17]? = some (iA E (a (t + 17)) 8 f12) := by rw [hw29]; exact set_ne k23 (by omega)
    have k33 : w28[t + 18]? = some (iA E (a (t + 18)) 8 (upd f15 (nI i0).toNatClampNeg v18)) := by rw [hw29]; exact set_ne k24 (by omega)
    have k34 : w28[t + 21]? = some (iA E (a (t + 21)) 8 (upd f27 (nI i0).toNatClampNeg dy)) := by rw [hw29]; exact set_eq k26
    have kp35 := keeps_set kp25 hw29 (by first | exact rfl | decide | omega | (dsimp only; omega))
    exact x_vret C hr hlk dX10_add_38 ⟨hW30, kp35⟩
theorem dX10_isInTime_0 : decode cX10_isInTime 0 = .ok (.aload_n 0, 1) := by decide +kernel
theorem dX10_isInTime_1 : decode cX10_isInTime 1 = .ok (.iload_n 1, 1) := by decide +kernel
theorem dX10_isInTime_2 : decode cX10_isInTime 2 = .ok (.invokevirtual 39, 3) := by decide +kernel
theorem dX10_isInTime_5 : decode cX10_isInTime 5 = .ok (.ifCond .eq 12, 3) := by decide +kernel
theorem dX10_isInTime_8 : decode cX10_isInTime 8 = .ok (.aload_n 0, 1) := by decide +kernel
theorem dX10_isInTime_9 : decode cX10_isInTime 9 = .ok (.getfield 28, 3) := by decide +kernel
theorem dX10_isInTime_12 : decode cX10_isInTime 12 = .ok (.iload_n 1, 1) := by decide +kernel
theorem dX10_isInTime_13 : decode cX10_isInTime 13 = .ok (.iaload, 1) := by decide +kernel
theorem dX10_isInTime_14 : decode cX10_isInTime 14 = .ok (.goto 4, 3) := by decide +kernel
theorem dX10_isInTime_17 : decode cX10_isInTime 17 = .ok (.iload_n 2, 1) := by decide +kernel
theorem dX10_isInTime_18 : decode cX10_isInTime 18 = .ok (.aload_n 0, 1) := by decide +kernel
theorem dX10_isInTime_19 : decode cX10_isInTime 19 = .ok (.getfield 25, 3) := by decide +kernel
theorem dX10_isInTime_22 : decode cX10_isInTime 22 = .ok (.iload_n 1, 1) := by decide +kernel
theorem dX10_isInTime_23 : decode cX10_isInTime 23 = .ok (.iaload, 1) := by decide +kernel
theorem dX10_isInTime_24 : decode cX10_isInTime 24 = .ok (.if_icmp .gt 7, 3) := by decide +kernel
theorem dX10_isInTime_27 : decode cX10_isInTime 27 = .ok (.iconst 1, 1) := by decide +kernel
theorem dX10_isInTime_28 : decode cX10_isInTime 28 = .ok (.goto 4, 3) := by decide +kernel
theorem dX10_isInTime_31 : decode cX10_isInTime 31 = .ok (.iconst 0, 1) := by decide +kernel
theorem dX10_isInTime_32 : decode cX10_isInTime 32 = .ok (.ireturn, 1) := by decide +kernel
set_option maxRecDepth 20000 in
set_option maxHeartbeats 4000000 in
theorem c_isInTime (E : xE) (l : Launch) (a : Nat → Nat) (ws : va_W) (hW : WX (okX E a) ws) (t : Nat) (ht : tb t) (i0 : Nat) (dy : Int32) (hi0 : i0 ≤ 7) : xI E l yX10_isInTime cX10_isInTime 3 (some .boolean) 3 [.ref (a (t + 16)), .int (nI i0), .int dy] ws (fun r w => w = ws ∧ zb r) := by
  refine xI_start (lv := [(0, .ref (a (t + 16))), (1, .int (nI i0)), (2, .int dy)]) RX10 (by decide) rfl (Nat.le_of_ble_eq_true rfl) rfl (fun p e s m below meth c A C hr hlk => ?_)
  have htb := tb_lo ht
  refine x_aload_n C dX10_isInTime_0 rfl 0 rfl rfl ?_
  refine x_iload_n C dX10_isInTime_1 rfl 1 rfl rfl ?_
  obtain ⟨_, k1, v2, rfl⟩ := hW (t + 16) _ (okX_t ht (j := 16) rfl)
  refine x_vi C (As := [.int (nI i0)]) (rest := []) (c_Works_isDone E l a ws hW t ht ((nI i0))) mf_X10_isDone w_766 (t + 16) k1 rfl rfl rfl (Nat.le_of_ble_eq_true rfl) ⟨(Nat.le_of_ble_eq_true rfl), (Nat.le_of_ble_eq_true rfl)⟩ ⟨(Nat.le_of_ble_eq_true rfl), (Nat.le_of_ble_eq_true rfl)⟩ dX10_isInTime_2 rfl (fun r4 w5 h3 => ?_)
  obtain ⟨hW6, zb7, x8⟩ := h3
  refine x_ws hW6 ?_
  refine x_if_eq C (tgt := 17) dX10_isInTime_5 (by decide) rfl (fun c9 => ?_) (fun c9 => ?_)
  · skip
    refine x_iload_n C dX10_isInTime_17 rfl 2 rfl rfl ?_
    refine x_aload_n C dX10_isInTime_18 rfl 0 rfl rfl ?_
    refine x_get C (ci := 9) (k := 4) (t + 16) k1 rfl in_X10 (by decide) w_179 rfl dX10_isInTime_19 rfl ?_
    refine x_iload_n C dX10_isInTime_22 rfl 1 rfl rfl ?_
    obtain ⟨_, k10, f11, rfl⟩ := hW (t + 20) _ (okX_t ht (j := 20) rfl)
    refine x_iald C (v := (f11 (nI i0).toNatClampNeg)) (t + 20) k10 (vp_in_nI (by omega) (by decide)) rfl dX10_isInTime_23 rfl ?_
    refine x_any (fun v12 => ?_)
    refine x_icmp_gt C (tgt := 31) dX10_isInTime_24 (by decide) rfl (fun c13 => ?_) (fun c13 => ?_)
    · skip
      refine x_iconst C (v := 0) dX10_isInTime_31 (by decide) rfl ?_
      exact x_zret C hr hlk rfl dX10_isInTime_32 ⟨rfl, (Or.inl rfl)⟩
    · skip
      refine x_iconst C (v := 1) dX10_isInTime_27 (by decide) rfl ?_
      refine x_goto C (tgt := 32) dX10_isInTime_28 (by decide) ?_
      exact x_zret C hr hlk rfl dX10_isInTime_32 ⟨rfl, (Or.inr rfl)⟩
  · skip
    have wi14 := wth_le (a := 0) (b := 7) (j := i0) (x8 c9) (by omega) (by decide) (by decide)
    refine x_aload_n C dX10_isInTime_8 rfl 0 rfl rfl ?_
    refine x_get C (ci := 9) (k := 5) (t + 16) k1 rfl in_X10 (by decide) w_181 rfl dX10_isInTime_9 rfl ?_
    refine x_iload_n C dX10_isInTime_12 rfl 1 rfl rfl ?_
    obtain ⟨_, k15, f16, rfl⟩ := hW (t + 21) _ (okX_t ht (j := 21) rfl)
    refine x_iald C (v := (f16 (nI i0).toNatClampNeg)) (t + 21) k15 (vp_in_nI (by omega) (by decide)) rfl dX10_isInTime_13 rfl ?_
    refine x_any (fun v17 => ?_)
    refine x_goto C (tgt := 18) dX10_isInTime_14 (by decide) ?_
    refine x_aload_n C dX10_isInTime_18 rfl 0 rfl rfl ?_
    refine x_get C (ci := 9) (k := 4) (t + 16) k1 rfl in_X10 (by decide) w_179 rfl dX10_isInTime_19 rfl ?_
    refine x_iload_n C dX10_isInTime_22 rfl 1 rfl rfl ?_
    obtain ⟨_, k18, f19, rfl⟩ := hW (t + 20) _ (okX_t ht (j := 20) rfl)
    refine x_iald C (v := (f19 (nI i0).toNatClampNeg)) (t + 20) k18 (vp_in_nI (by omega) (by decide)) rfl dX10_isInTime_23 rfl ?_
    refine x_any (fun v20 => ?_)
    refine x_icmp_gt C (tgt := 31) dX10_isInTime_24 (by decide) rfl (fun c21 => ?_) (fun c21 => ?_)
    · skip
      refine x_iconst C (v := 0) dX10_isInTime_31 (by decide) rfl ?_
      exact x_zret C hr hlk rfl dX10_isInTime_32 ⟨rfl, (Or.inl rfl)⟩
    · skip
      refine x_iconst C (v := 1) dX10_isInTime_27 (by decide) rfl ?_
      refine x_goto C (tgt := 32) dX10_isInTime_28 (by decide) ?_
      exact x_zret C hr hlk rfl dX10_isInTime_32 ⟨rfl, (Or.inr rfl)⟩
theorem dX9_canLayFor_0 : decode cX9_canLayFor 0 = .ok (.aload_n 0, 1) := by decide +kernel
theorem dX9_canLayFor_1 : decode cX9_canLayFor 1 = .ok (.getfield 35, 3) := by decide +kernel
theorem dX9_canLayFor_4 : decode cX9_canLayFor 4 = .ok (.getfield 83, 3) := by decide +kernel
theorem dX9_canLayFor_7 : decode cX9_canLayFor 7 = .ok (.bipush 48, 2) := by decide +kernel
theorem dX9_canLayFor_9 : decode cX9_canLayFor 9 = .ok (.if_icmp .ge 18, 3) := by decide +kernel
theorem dX9_canLayFor_12 : decode cX9_canLayFor 12 = .ok (.aload_n 0, 1) := by decide +kernel
theorem dX9_canLayFor_13 : decode cX9_canLayFor 13 = .ok (.getfield 21, 3) := by decide +kernel
theorem dX9_canLayFor_16 : decode cX9_canLayFor 16 = .ok (.iload_n 1, 1) := by decide +kernel
theorem dX9_canLayFor_17 : decode cX9_canLayFor 17 = .ok (.invokevirtual 92, 3) := by decide +kernel
theorem dX9_canLayFor_20 : decode cX9_canLayFor 20 = .ok (.ifCond .le 7, 3) := by decide +kernel
theorem dX9_canLayFor_23 : decode cX9_canLayFor 23 = .ok (.iconst 1, 1) := by decide +kernel
theorem dX9_canLayFor_24 : decode cX9_canLayFor 24 = .ok (.goto 4, 3) := by decide +kernel
theorem dX9_canLayFor_27 : decode cX9_canLayFor 27 = .ok (.iconst 0, 1) := by decide +kernel
theorem dX9_canLayFor_28 : decode cX9_canLayFor 28 = .ok (.ireturn, 1) := by decide +kernel
set_option maxRecDepth 20000 in
set_option maxHeartbeats 4000000 in
theorem c_canLayFor (E : xE) (l : Launch) (a : Nat → Nat) (ws : va_W) (hW : WX (okX E a) ws) (t : Nat) (ht : tb t) (p0 : Int32) : xI E l yX9_canLayFor cX9_canLayFor 2 (some .boolean) 3 [.ref (a t), .int p0] ws (fun r w => w = ws ∧ zb r) := by
  refine xI_start (lv := [(0, .ref (a t)), (1, .int p0)]) RX9 (by decide) rfl (Nat.le_of_ble_eq_true rfl) rfl (fun p e s m below meth c A C hr hlk => ?_)
  have htb := tb_lo ht
  refine x_aload_n C dX9_canLayFor_0 rfl 0 rfl rfl ?_
  obtain ⟨_, k1, n2, v4, v5, v6, v7, v8, bn3, rfl⟩ := hW (t + 0) _ (okX_t ht (j := 0) rfl)
  refine x_get C (ci := 8) (k := 4) t k1 rfl in_X9 (by decide) w_206 rfl dX9_canLayFor_1 rfl ?_
  obtain ⟨_, k9, n10, bn11, rfl⟩ := hW (t + 9) _ (okX_t ht (j := 9) rfl)
  refine x_get C (ci := 1) (k := 0) (t + 9) k9 rfl in_X1 (by decide) w_121 rfl dX9_canLayFor_4 rfl ?_
  refine x_bipush C (v := 48) dX9_canLayFor_7 (by decide) rfl ?_
  refine x_icmp_ge C (tgt := 27) dX9_canLayFor_9 (by decide) rfl (fun c12 => ?_) (fun c12 => ?_)
  · skip
    have nf13 := nI_le' (a := 48) (b := n10) c12 (by omega) (by omega)
    refine x_iconst C (v := 0) dX9_canLayFor_27 (by decide) rfl ?_
    exact x_zret C hr hlk rfl dX9_canLayFor_28 ⟨rfl, (Or.inl rfl)⟩
  · skip
    have nf14 := nI_nle' (a := 48) (b := n10) c12 (by omega) (by omega)
    refine x_aload_n C dX9_canLayFor_12 rfl 0 rfl rfl ?_
    refine x_get C (ci := 8) (k := 2) t k1 rfl in_X9 (by decide) w_200 rfl dX9_canLayFor_13 rfl ?_
    refine x_iload_n C dX9_canLayFor_16 rfl 1 rfl rfl ?_
    obtain ⟨_, k15, v16, rfl⟩ := hW (t + 1) _ (okX_t ht (j := 1) rfl)
    refine x_vi C (As := [.int p0]) (rest := []) (c_Hens_howManyOf E l a ws hW t ht p0) mf_X2_howManyOf w_1068 (t + 1) k15 rfl rfl rfl (Nat.le_of_ble_eq_true rfl) ⟨(Nat.le_of_ble_eq_true rfl), (Nat.le_of_ble_eq_true rfl)⟩ ⟨(Nat.le_of_ble_eq_true rfl), (Nat.le_of_ble_eq_true rfl)⟩ dX9_canLayFor_17 rfl (fun r18 w19 h17 => ?_)
    have hW20 := h17
    refine x_ws hW20 ?_
    refine x_if_le C (tgt := 27) dX9_canLayFor_20 (by decide) rfl (fun c21 => ?_) (fun c21 => ?_)
    · skip
      refine x_iconst C (v := 0) dX9_canLayFor_27 (by decide) rfl ?_
      exact x_zret C hr hlk rfl dX9_canLayFor_28 ⟨rfl, (Or.inl rfl)⟩
    · skip
      obtain ⟨j22, hj23, ej24⟩ := nI_of (fun q => c21 (Int32.le_of_lt q))
      subst ej24
      refine x_iconst C (v := 1) dX9_canLayFor_23 (by decide) rfl ?_
      refine x_goto C (tgt := 28) dX9_canLayFor_24 (by decide) ?_
      exact x_zret C hr hlk rfl dX9_canLayFor_28 ⟨rfl, (Or.inr rfl)⟩
theorem dX9_strikeOrLay_0 : decode cX9_strikeOrLay 0 = .ok (.aload_n 0, 1) := by decide +kernel
theorem dX9_strikeOrLay_1 : decode cX9_strikeOrLay 1 = .ok (.invokevirtual 97, 3) := by decide +kernel
theorem dX9_strikeOrLay_4 : decode cX9_strikeOrLay 4 = .ok (.aload_n 2, 1) := by decide +kernel
theorem dX9_strikeOrLay_5 : decode cX9_strikeOrLay 5 = .ok (.iconst 1, 1) := by decide +kernel
theorem dX9_strikeOrLay_6 : decode cX9_strikeOrLay 6 = .ok (.aload_n 0, 1) := by decide +kernel
theorem dX9_strikeOrLay_7 : decode cX9_strikeOrLay 7 = .ok (.iload_n 1, 1) := by decide +kernel
theorem dX9_strikeOrLay_8 : decode cX9_strikeOrLay 8 = .ok (.iconst 0, 1) := by decide +kernel
theorem dX9_strikeOrLay_9 : decode cX9_strikeOrLay 9 = .ok (.invokevirtual 101, 3) := by decide +kernel
theorem dX9_strikeOrLay_12 : decode cX9_strikeOrLay 12 = .ok (.if_icmp .ge 16, 3) := by decide +kernel
theorem dX9_strikeOrLay_15 : decode cX9_strikeOrLay 15 = .ok (.aload_n 0, 1) := by decide +kernel
theorem dX9_strikeOrLay_16 : decode cX9_strikeOrLay 16 = .ok (.dup, 1) := by decide +kernel
theorem dX9_strikeOrLay_17 : decode cX9_strikeOrLay 17 = .ok (.getfield 55, 3) := by decide +kernel
theorem dX9_strikeOrLay_20 : decode cX9_strikeOrLay 20 = .ok (.iconst 1, 1) := by decide +kernel
theorem dX9_strikeOrLay_21 : decode cX9_strikeOrLay 21 = .ok (.iadd, 1) := by decide +kernel
theorem dX9_strikeOrLay_22 : decode cX9_strikeOrLay 22 = .ok (.putfield 55, 3) := by decide +kernel
theorem dX9_strikeOrLay_25 : decode cX9_strikeOrLay 25 = .ok (.goto 87, 3) := by decide +kernel
theorem dX9_strikeOrLay_28 : decode cX9_strikeOrLay 28 = .ok (.aload_n 0, 1) := by decide +kernel
theorem dX9_strikeOrLay_29 : decode cX9_strikeOrLay 29 = .ok (.getfield 35, 3) := by decide +kernel
theorem dX9_strikeOrLay_32 : decode cX9_strikeOrLay 32 = .ok (.getfield 83, 3) := by decide +kernel
theorem dX9_strikeOrLay_35 : decode cX9_strikeOrLay 35 = .ok (.bipush 48, 2) := by decide +kernel
theorem dX9_strikeOrLay_37 : decode cX9_strikeOrLay 37 = .ok (.if_icmp .ge 75, 3) := by decide +kernel
theorem dX9_strikeOrLay_40 : decode cX9_strikeOrLay 40 = .ok (.aload_n 2, 1) := by decide +kernel
theorem dX9_strikeOrLay_41 : decode cX9_strikeOrLay 41 = .ok (.iconst 0, 1) := by decide +kernel
theorem dX9_strikeOrLay_42 : decode cX9_strikeOrLay 42 = .ok (.aload_n 0, 1) := by decide +kernel
theorem dX9_strikeOrLay_43 : decode cX9_strikeOrLay 43 = .ok (.iload_n 1, 1) := by decide +kernel
theorem dX9_strikeOrLay_44 : decode cX9_strikeOrLay 44 = .ok (.aload_n 0, 1) := by decide +kernel
theorem dX9_strikeOrLay_45 : decode cX9_strikeOrLay 45 = .ok (.invokevirtual 97, 3) := by decide +kernel
theorem dX9_strikeOrLay_48 : decode cX9_strikeOrLay 48 = .ok (.invokevirtual 101, 3) := by decide +kernel
theorem dX9_strikeOrLay_51 : decode cX9_strikeOrLay 51 = .ok (.istore_n 3, 1) := by decide +kernel
theorem dX9_strikeOrLay_52 : decode cX9_strikeOrLay 52 = .ok (.aload_n 0, 1) := by decide +kernel
theorem dX9_strikeOrLay_53 : decode cX9_strikeOrLay 53 = .ok (.getfield 21, 3) := by decide +kernel
theorem dX9_strikeOrLay_56 : decode cX9_strikeOrLay 56 = .ok (.getfield 107, 3) := by decide +kernel
theorem dX9_strikeOrLay_59 : decode cX9_strikeOrLay 59 = .ok (.iload_n 1, 1) := by decide +kernel
theorem dX9_strikeOrLay_60 : decode cX9_strikeOrLay 60 = .ok (.iaload, 1) := by decide +kernel
theorem dX9_strikeOrLay_61 : decode cX9_strikeOrLay 61 = .ok (.istore 4, 2) := by decide +kernel
theorem dX9_strikeOrLay_63 : decode cX9_strikeOrLay 63 = .ok (.aload_n 0, 1) := by decide +kernel
theorem dX9_strikeOrLay_64 : decode cX9_strikeOrLay 64 = .ok (.getfield 35, 3) := by decide +kernel
theorem dX9_strikeOrLay_67 : decode cX9_strikeOrLay 67 = .ok (.iload_n 3, 1) := by decide +kernel
theorem dX9_strikeOrLay_68 : decode cX9_strikeOrLay 68 = .ok (.aload_n 0, 1) := by decide +kernel
theorem dX9_strikeOrLay_69 : decode cX9_strikeOrLay 69 = .ok (.getfield 9, 3) := by decide +kernel
theorem dX9_strikeOrLay_72 : decode cX9_strikeOrLay 72 = .ok (.iload_n 1, 1) := by decide +kernel
theorem dX9_strikeOrLay_73 : decode cX9_strikeOrLay 73 = .ok (.iload 4, 2) := by decide +kernel
theorem dX9_strikeOrLay_75 : decode cX9_strikeOrLay 75 = .ok (.invokevirtual 111, 3) := by decide +kernel
theorem dX9_strikeOrLay_78 : decode cX9_strikeOrLay 78 = .ok (.aload_n 0, 1) := by decide +kernel
theorem dX9_strikeOrLay_79 : decode cX9_strikeOrLay 79 = .ok (.getfield 28, 3) := by decide +kernel
theorem dX9_strikeOrLay_82 : decode cX9_strikeOrLay 82 = .ok (.getfield 115, 3) := by decide +kernel
theorem dX9_strikeOrLay_85 : decode cX9_strikeOrLay 85 = .ok (.iload 4, 2) := by decide +kernel
theorem dX9_strikeOrLay_87 : decode cX9_strikeOrLay 87 = .ok (.dup2, 1) := by decide +kernel
theorem dX9_strikeOrLay_88 : decode cX9_strikeOrLay 88 = .ok (.iaload, 1) := by decide +kernel
theorem dX9_strikeOrLay_89 : decode cX9_strikeOrLay 89 = .ok (.iload_n 3, 1) := by decide +kernel
theorem dX9_strikeOrLay_90 : decode cX9_strikeOrLay 90 = .ok (.iadd, 1) := by decide +kernel
theorem dX9_strikeOrLay_91 : decode cX9_strikeOrLay 91 = .ok (.iastore, 1) := by decide +kernel
theorem dX9_strikeOrLay_92 : decode cX9_strikeOrLay 92 = .ok (.aload_n 0, 1) := by decide +kernel
theorem dX9_strikeOrLay_93 : decode cX9_strikeOrLay 93 = .ok (.dup, 1) := by decide +kernel
theorem dX9_strikeOrLay_94 : decode cX9_strikeOrLay 94 = .ok (.getfield 46, 3) := by decide +kernel
theorem dX9_strikeOrLay_97 : decode cX9_strikeOrLay 97 = .ok (.iconst 1, 1) := by decide +kernel
theorem dX9_strikeOrLay_98 : decode cX9_strikeOrLay 98 = .ok (.iadd, 1) := by decide +kernel
theorem dX9_strikeOrLay_99 : decode cX9_strikeOrLay 99 = .ok (.putfield 46, 3) := by decide +kernel
theorem dX9_strikeOrLay_102 : decode cX9_strikeOrLay 102 = .ok (.aload_n 0, 1) := by decide +kernel
theorem dX9_strikeOrLay_103 : decode cX9_strikeOrLay 103 = .ok (.dup, 1) := by decide +kernel
theorem dX9_strikeOrLay_104 : decode cX9_strikeOrLay 104 = .ok (.getfield 49, 3) := by decide +kernel
theorem dX9_strikeOrLay_107 : decode cX9_strikeOrLay 107 = .ok (.iload_n 3, 1) := by decide +kernel
theorem dX9_strikeOrLay_108 : decode cX9_strikeOrLay 108 = .ok (.iadd, 1) := by decide +kernel
theorem dX9_strikeOrLay_109 : decode cX9_strikeOrLay 109 = .ok (.putfield 49, 3) := by decide +kernel
theorem dX9_strikeOrLay_112 : decode cX9_strikeOrLay 112 = .ok (.return_, 1) := by decide +kernel
set_option maxRecDepth 20000 in
set_option maxHeartbeats 4000000 in
theorem c_strikeOrLay (E : xE) (l : Launch) (a : Nat → Nat) (ws : va_W) (hW : WX (okX E a) ws) (t : Nat) (ht : tb t) (y0 : Nat) (hy0 : y0 ≤ 7) : xV E l yX9_strikeOrLay cX9_strikeOrLay 5 4 0 0 [.ref (a t), .int (nI y0), .ref (a 71)] ws (fun w => WX (okX E a) w ∧ keeps ws w (fun q => (t ≤ q ∧ q < t + 22 ∧ q ≠ t + 1 ∧ q ≠ t + 4) ∨ (71 ≤ q ∧ q < 79)) ∧ (dK a t ws w)) := by
  refine xV_start (lv := [(0, .ref (a t)), (1, .int (nI y0)), (2, .ref (a 71))]) RX9 (by decide) rfl (Nat.le_of_ble_eq_true rfl) rfl (fun p e s m below meth c A C hr hlk hin => ?_)
  have htb := tb_lo ht
  have kp0 : keeps ws ws (fun q => (t ≤ q ∧ q < t + 22 ∧ q ≠ t + 1 ∧ q ≠ t + 4) ∨ (71 ≤ q ∧ q < 79)) := keeps_rf
  obtain ⟨_, k1, n2, v4, v5, v6, v7, v8, bn3, rfl⟩ := hW (t + 0) _ (okX_t ht (j := 0) rfl)
  refine x_aload_n C dX9_strikeOrLay_0 rfl 0 rfl rfl ?_
  refine x_vi C (As := []) (rest := []) (c_draw E l a ws hW t ht) mf_X9_draw w_831 t k1 rfl rfl rfl (Nat.le_of_ble_eq_true rfl) ⟨(Nat.le_of_ble_eq_true rfl), (Nat.le_of_ble_eq_true rfl)⟩ ⟨(Nat.le_of_ble_eq_true rfl), (Nat.le_of_ble_eq_true rfl)⟩ dX9_strikeOrLay_1 rfl (fun r10 w11 h9 => ?_)
  obtain ⟨hW12, kq13, x14⟩ := h9
  have kp15 := keeps_tr kp0 kq13 (fun q hq => by first | omega | (dsimp only at *; omega))
  obtain ⟨v16, v17, v18, v19, v20, k21⟩ := x14 _ ⟨_, _, _, _, _, k1⟩
  refine x_aload_n C dX9_strikeOrLay_4 rfl 2 rfl rfl ?_
  refine x_iconst C (v := 1) dX9_strikeOrLay_5 (by decide) rfl ?_
  refine x_aload_n C dX9_strikeOrLay_6 rfl 0 rfl rfl ?_
  refine x_iload_n C dX9_strikeOrLay_7 rfl 1 rfl rfl ?_
  refine x_iconst C (v := 0) dX9_strikeOrLay_8 (by decide) rfl ?_
  obtain ⟨_, k22, v23, n24, n26, bn25, bn27, rfl⟩ := hW12 71 _ rfl
  refine x_vi C (As := [.int 1, .ref (a t), .int (nI y0), .int 0]) (rest := [.int r10]) (c_ofHen E l a w11 hW12 t ht 1 y0 (0 : Int32) (by omega) (by omega)) mf_X3_ofHen w_836 71 k22 rfl rfl rfl (Nat.le_of_ble_eq_true rfl) ⟨(Nat.le_of_ble_eq_true rfl), (Nat.le_of_ble_eq_true rfl)⟩ ⟨(Nat.le_of_ble_eq_true rfl), (Nat.le_of_ble_eq_true rfl)⟩ dX9_strikeOrLay_9 rfl (fun r29 w30 h28 => ?_)
  obtain ⟨hW31, kq32⟩ := h28
  have k33 : w30[t]? = some (ob (a t) 8 [.int (nI n2), .int v16, .ref (a (t + 1)), .ref (a (t + 4)), .ref (a (t + 9)), .ref (a (t + 16)), .int v17, .int v18, .int v19, .int v20]) := keeps_at kq32 k21 (by first | decide | omega | (dsimp only; omega))
  have kp34 := keeps_tr kp15 kq32 (fun q hq => by first | omega | (dsimp only at *; omega))
  refine x_icmp_ge C (tgt := 28) dX9_strikeOrLay_12 (by decide) rfl (fun c35 => ?_) (fun c35 => ?_)
  · skip
    refine x_aload_n C dX9_strikeOrLay_28 rfl 0 rfl rfl ?_
    refine x_get C (ci := 8) (k := 4) t k33 rfl in_X9 (by decide) w_206 rfl dX9_strikeOrLay_29 rfl ?_
    obtain ⟨_, k36, n37, bn38, rfl⟩ := hW31 (t + 9) _ (okX_t ht (j := 9) rfl)
    refine x_get C (ci := 1) (k := 0) (t + 9) k36 rfl in_X1 (by decide) w_121 rfl dX9_strikeOrLay_32 rfl ?_
    refine x_bipush C (v := 48) dX9_strikeOrLay_35 (by decide) rfl ?_
    refine x_icmp_ge C (tgt := 112) dX9_strikeOrLay_37 (by decide) rfl (fun c39 => ?_) (fun c39 => ?_)
    · skip
      have nf40 := nI_le' (a := 48) (b := n37) c39 (by omega) (by omega)
      exact x_vret C hr hlk dX9_strikeOrLay_112 ⟨hW31, kp34, (dK_of k1 ⟨_, _, _, _, _, k33⟩)⟩
    · skip
      have nf41 := nI_nle' (a := 48) (b := n37) c39 (by omega) (by omega)
      refine x_aload_n C dX9_strikeOrLay_40 rfl 2 rfl rfl ?_
      refine x_iconst C (v := 0) dX9_strikeOrLay_41 (by decide) rfl ?_
      refine x_aload_n C dX9_strikeOrLay_42 rfl 0 rfl rfl ?_
      refine x_iload_n C dX9_strikeOrLay_43 rfl 1 rfl rfl ?_
      refine x_aload_n C dX9_strikeOrLay_44 rfl 0 rfl rfl ?_
      refine x_vi C (As := []) (rest := [.int (nI y0), .ref (a t), .int 0, .ref (a 71)]) (c_draw E l a w30 hW31 t ht) mf_X9_draw w_831 t k33 rfl rfl rfl (Nat.le_of_ble_eq_true rfl) ⟨(Nat.le_of_ble_eq_true rfl), (Nat.le_of_ble_eq_true rfl)⟩ ⟨(Nat.le_of_ble_eq_true rfl), (Nat.le_of_ble_eq_true rfl)⟩ dX9_strikeOrLay_45 rfl (fun r43 w44 h42 => ?_)
      obtain ⟨hW45, kq46, x47⟩ := h42
      have kp48 := keeps_tr kp34 kq46 (fun q hq => by first | omega | (dsimp only at *; omega))
      obtain ⟨v49, v50, v51, v52, v53, k54⟩ := x47 _ ⟨_, _, _, _, _, k33⟩
      obtain ⟨_, k55, v56, n57, n59, bn58, bn60, rfl⟩ := hW45 71 _ rfl
      refine x_vi C (As := [.int 0, .ref (a t), .int (nI y0), .int r43]) (rest := []) (c_ofHen E l a w44 hW45 t ht 0 y0 r43 (by omega) (by omega)) mf_X3_ofHen w_836 71 k55 rfl rfl rfl (Nat.le_of_ble_eq_true rfl) ⟨(Nat.le_of_ble_eq_true rfl), (Nat.le_of_ble_eq_true rfl)⟩ ⟨(Nat.le_of_ble_eq_true rfl), (Nat.le_of_ble_eq_true rfl)⟩ dX9_strikeOrLay_48 rfl (fun r62 w63 h61 => ?_)
      obtain ⟨hW64, kq65⟩ := h61
      have k66 : w63[t]? = some (ob (a t) 8 [.int (nI n2), .int v49, .ref (a (t + 1)), .ref (a (t + 4)), .ref (a (t + 9)), .ref (a (t + 16)), .int v50, .int v51, .int v52, .int v53]) := keeps_at kq65 k54 (by first | decide | omega | (dsimp only; omega))
      have kp67 := keeps_tr kp48 kq65 (fun q hq => by first | omega | (dsimp only at *; omega))
      refine x_istore_n C (lv' := [(3, .int r62), (0, .ref (a t)), (1, .int (nI y0)), (2, .ref (a 71))]) dX9_strikeOrLay_51 rfl (by decide) rfl rfl ?_
      refine x_aload_n C dX9_strikeOrLay_52 rfl 1 rfl rfl ?_
      refine x_get C (ci := 8) (k := 2) t k66 rfl in_X9 (by decide) w_200 rfl dX9_strikeOrLay_53 rfl ?_
      obtain ⟨_, k68, v69, rfl⟩ := hW64 (t + 1) _ (okX_t ht (j := 1) rfl)
      refine x_get C (ci := 2) (k := 2) (t + 1) k68 rfl in_X2 (by decide) w_75 rfl dX9_strikeOrLay_56 rfl ?_
      refine x_iload_n C dX9_strikeOrLay_59 rfl 2 rfl rfl ?_
      obtain ⟨_, k70, g71, gb72, rfl⟩ := hW64 (t + 3) _ (okX_t ht (j := 3) rfl)
      refine x_ialk C (v := nI (g71 y0)) y0 (nI_clamp (by omega)) (nI_pos (by omega)) (by omega) (t + 3) k70 rfl dX9_strikeOrLay_60 rfl ?_
      have bx73 := gb72 y0
      refine x_istore C (lv' := [(4, .int (nI (g71 y0))), (3, .int r62), (0, .ref (a t)), (1, .int (nI y0)), (2, .ref (a 71))]) dX9_strikeOrLay_61 (by decide) rfl rfl ?_
      refine x_aload_n C dX9_strikeOrLay_63 rfl 2 rfl rfl ?_
      refine x_get C (ci := 8) (k := 4) t k66 rfl in_X9 (by decide) w_206 rfl dX9_strikeOrLay_64 rfl ?_
      refine x_iload_n C dX9_strikeOrLay_67 rfl 1 rfl rfl ?_
      refine x_aload_n C dX9_strikeOrLay_68 rfl 2 rfl rfl ?_
      refine x_get C (ci := 8) (k := 0) t k66 rfl in_X9 (by decide) w_195 rfl dX9_strikeOrLay_69 rfl ?_
      refine x_iload_n C dX9_strikeOrLay_72 rfl 3 rfl rfl ?_
      refine x_iload C dX9_strikeOrLay_73 0 rfl rfl ?_
      obtain ⟨_, k74, n75, bn76, rfl⟩ := hW64 (t + 9) _ (okX_t ht (j := 9) rfl)
      refine x_vv C (As := [.int r62, .int (nI n2), .int (nI y0), .int (nI (g71 y0))]) (rest := []) (c_Eggs_lay E l a w63 hW64 t ht r62 n2 ((nI y0)) (g71 y0) (by omega) (by omega)) mf_X1_lay w_840 (t + 9) k74 rfl rfl rfl (Nat.le_of_ble_eq_true rfl) ⟨(Nat.le_of_ble_eq_true rfl), (Nat.le_of_ble_eq_true rfl)⟩ ⟨(Nat.le_of_ble_eq_true rfl), (Nat.le_of_ble_eq_true rfl)⟩ dX9_strikeOrLay_75 rfl (fun w79 h77 => ?_)
      obtain ⟨hW80, kq81⟩ := h77
      have k82 : w79[t]? = some (ob (a t) 8 [.int (nI n2), .int v49, .ref (a (t + 1)), .ref (a (t + 4)), .ref (a (t + 9)), .ref (a (t + 16)), .int v50, .int v51, .int v52, .int v53]) := keeps_at kq81 k66 (by first | decide | omega | (dsimp only; omega))
      have k83 : w79[t + 1]? = some (ob (a (t + 1)) 2 [.int v69, .ref (a (t + 2)), .ref (a (t + 3))]) := keeps_at kq81 k68 (by first | decide | omega | (dsimp only; omega))
      have k84 : w79[t + 3]? = some (iA E (a (t + 3)) 8 (fun j => nI (g71 j))) := keeps_at kq81 k70 (by first | decide | omega | (dsimp only; omega))
      have kp85 := keeps_tr kp67 kq81 (fun q hq => by first | omega | (dsimp only at *; omega))
      refine x_aload_n C dX9_strikeOrLay_78 rfl 2 rfl rfl ?_
      refine x_get C (ci := 8) (k := 3) t k82 rfl in_X9 (by decide) w_203 rfl dX9_strikeOrLay_79 rfl ?_
      obtain ⟨_, k86, v87, rfl⟩ := hW80 (t + 4) _ (okX_t ht (j := 4) rfl)
      refine x_get C (ci := 4) (k := 2) (t + 4) k86 rfl in_X5 (by decide) w_95 rfl dX9_strikeOrLay_82 rfl ?_
      refine x_iload C dX9_strikeOrLay_85 0 rfl rfl ?_
      refine x_dup2 C dX9_strikeOrLay_87 rfl rfl rfl ?_
      obtain ⟨_, k88, f89, rfl⟩ := hW80 (t + 6) _ (okX_t ht (j := 6) rfl)
      refine x_iald C (v := (f89 (nI (g71 y0)).toNatClampNeg)) (t + 6) k88 (vp_in_nI (by omega) (by decide)) rfl dX9_strikeOrLay_88 rfl ?_
      refine x_any (fun v90 => ?_)
      refine x_iload_n C dX9_strikeOrLay_89 rfl 1 rfl rfl ?_
      refine x_iadd C (v := (v90 + r62)) dX9_strikeOrLay_90 rfl rfl ?_
      refine x_any (fun v91 => ?_)
      obtain ⟨w92, hw93⟩ : ∃ w : va_W, w = List.set w79 (t + 6) (iA E (a (t + 6)) 8 (upd f89 (nI (g71 y0)).toNatClampNeg v91)) := ⟨_, rfl⟩
      refine x_iast C (t + 6) k88 (vp_in_nI (by omega) (by decide)) hw93.symm dX9_strikeOrLay_91 rfl ?_
      have hW94 : WX (okX E a) w92 := by rw [hw93]; exact hW80.set (k := (t + 6)) (okX_t ht (j := 6) rfl) ⟨_, rfl⟩
      have k95 : w92[t]? = some (ob (a t) 8 [.int (nI n2), .int v49, .ref (a (t + 1)), .ref (a (t + 4)), .ref (a (t + 9)), .ref (a (t + 16)), .int v50, .int v51, .int v52, .int v53]) := by rw [hw93]; exact set_ne k82 (by omega)
      have k96 : w92[t + 1]? = some (ob (a (t + 1)) 2 [.int v69, .ref (a (t + 2)), .ref (a (t + 3))]) := by rw [hw93]; exact set_ne k83 (by omega)
      have k97 : w92[t + 3]? = some (iA E (a (t + 3)) 8 (fun j => nI (g71 j))) := by rw [hw93]; exact set_ne k84 (by omega)
      have k98 : w92[t + 4]? = some (ob (a (t + 4)) 4 [.int v87, .ref (a (t + 5)), .ref (a (t + 6)), .ref (a (t + 7)), .ref (a (t + 8))]) := by rw [hw93]; exact set_ne k86 (by omega)
      have k99 : w92[t + 6]? = some (iA E (a (t + 6)) 8 (upd f89 (nI (g71 y0)).toNatClampNeg v91)) := by rw [hw93]; exact set_eq k88
      have kp100 := keeps_set kp85 hw93 (by first | exact rfl | decide | omega | (dsimp only; omega))
      refine x_aload_n C dX9_strikeOrLay_92 rfl 2 rfl rfl ?_
      refine x_dup C dX9_strikeOrLay_93 rfl rfl ?_
      refine x_get C (ci := 8) (k := 6) t k95 rfl in_X9 (by decide) w_215 rfl dX9_strikeOrLay_94 rfl ?_
      refine x_iconst C (v := 1) dX9_strikeOrLay_97 (by decide) rfl ?_
      refine x_iadd C (v := (v50 + (1 : Int32))) dX9_strikeOrLay_98 rfl rfl ?_
      refine x_any (fun v101 => ?_)
      obtain ⟨w102, hw103⟩ : ∃ w : va_W, w = List.set w92 t (ob (a t) 8 [.int (nI n2), .int v49, .ref (a (t + 1)), .ref (a (t + 4)), .ref (a (t + 9)), .ref (a (t + 16)), .int v101, .int v51, .int v52, .int v53]) := ⟨_, rfl⟩
      refine x_put C (ci := 8) (k := 6) (ty := .int) t k95 rfl in_X9 tyX9 tyX9_ok nmX9 (by decide) w_215 rfl rfl rfl rfl (Nat.le_of_ble_eq_true rfl) hw103.symm dX9_strikeOrLay_99 rfl ?_
      have hW104 : WX (okX E a) w102 := by rw [hw103]; exact hW94.set (k := t) (okX_t ht (j := 0) rfl) ⟨n2, v49, v101, v51, v52, v53, by omega, rfl⟩
      have k105 : w102[t]? = some (ob (a t) 8 [.int (nI n2), .int v49, .ref (a (t + 1)), .ref (a (t + 4)), .ref (a (t + 9)), .ref (a (t + 16)), .int v101, .int v51, .int v52, .int v53]) := by rw [hw103]; exact set_eq k95
      have k106 : w102[t + 1]? = some (ob (a (t + 1)) 2 [.int v69, .ref (a (t + 2)), .ref (a (t + 3))]) := by rw [hw103]; exact set_ne k96 (by omega)
      have k107 : w102[t + 3]? = some (iA E (a (t + 3)) 8 (fun j => nI (g71 j))) := by rw [hw103]; exact set_ne k97 (by omega)
      have k108 : w102[t + 4]? = some (ob (a (t + 4)) 4 [.int v87, .ref (a (t + 5)), .ref (a (t + 6)), .ref (a (t + 7)), .ref (a (t + 8))]) := by rw [hw103]; exact set_ne k98 (by omega)
      have k109 : w102[t + 6]? = some (iA E (a (t + 6)) 8 (upd f89 (nI (g71 y0)).toNatClampNeg v91)) := by rw [hw103]; exact set_ne k99 (by omega)
      have kp110 := keeps_set kp100 hw103 (by first | exact rfl | decide | omega | (dsimp only; omega))
      refine x_aload_n C dX9_strikeOrLay_102 rfl 2 rfl rfl ?_
      refine x_dup C dX9_strikeOrLay_103 rfl rfl ?_
      refine x_get C (ci := 8) (k := 7) t k105 rfl in_X9 (by decide) w_217 rfl dX9_strikeOrLay_104 rfl ?_
      refine x_iload_n C dX9_strikeOrLay_107 rfl 1 rfl rfl ?_
      refine x_iadd C (v := (v51 + r62)) dX9_strikeOrLay_108 rfl rfl ?_
      refine x_any (fun v111 => ?_)
      obtain ⟨w112, hw113⟩ : ∃ w : va_W, w = List.set w102 t (ob (a t) 8 [.int (nI n2), .int v49, .ref (a (t + 1)), .ref (a (t + 4)), .ref (a (t + 9)), .ref (a (t + 16)), .int v101, .int v111, .int v52, .int v53]) := ⟨_, rfl⟩
      refine x_put C (ci := 8) (k := 7) (ty := .int) t k105 rfl in_X9 tyX9 tyX9_ok nmX9 (by decide) w_217 rfl rfl rfl rfl (Nat.le_of_ble_eq_true rfl) hw113.symm dX9_strikeOrLay_109 rfl ?_
      have hW114 : WX (okX E a) w112 := by rw [hw113]; exact hW104.set (k := t) (okX_t ht (j := 0) rfl) ⟨n2, v49, v101, v111, v52, v53, by omega, rfl⟩
      have k115 : w112[t]? = some (ob (a t) 8 [.int (nI n2), .int v49, .ref (a (t + 1)), .ref (a (t + 4)), .ref (a (t + 9)), .ref (a (t + 16)), .int v101, .int v111, .int v52, .int v53]) := by rw [hw113]; exact set_eq k105
      have k116 : w112[t + 1]? = some (ob (a (t + 1)) 2 [.int v69, .ref (a (t + 2)), .ref (a (t + 3))]) := by rw [hw113]; exact set_ne k106 (by omega)
      have k117 : w112[t + 3]? = some (iA E (a (t + 3)) 8 (fun j => nI (g71 j))) := by rw [hw113]; exact set_ne k107 (by omega)
      have k118 : w112[t + 4]? = some (ob (a (t + 4)) 4 [.int v87, .ref (a (t + 5)), .ref (a (t + 6)), .ref (a (t + 7)), .ref (a (t + 8))]) := by rw [hw113]; exact set_ne k108 (by omega)
      have k119 : w112[t + 6]? = some (iA E (a (t + 6)) 8 (upd f89 (nI (g71 y0)).toNatClampNeg v91)) := by rw [hw113]; exact set_ne k109 (by omega)
      have kp120 := keeps_set kp110 hw113 (by first | exact rfl | decide | omega | (dsimp only; omega))
      exact x_vret C hr hlk dX9_strikeOrLay_112 ⟨hW114, kp120, (dK_of k1 ⟨_, _, _, _, _, k115⟩)⟩
  · skip
    refine x_aload_n C dX9_strikeOrLay_15 rfl 0 rfl rfl ?_
    refine x_dup C dX9_strikeOrLay_16 rfl rfl ?_
    refine x_get C (ci := 8) (k := 9) t k33 rfl in_X9 (by decide) w_221 rfl dX9_strikeOrLay_17 rfl ?_
    refine x_iconst C (v := 1) dX9_strikeOrLay_20 (by decide) rfl ?_
    refine x_iadd C (v := (v20 + (1 : Int32))) dX9_strikeOrLay_21 rfl rfl ?_
    refine x_any (fun v121 => ?_)
    obtain ⟨w122, hw123⟩ : ∃ w : va_W, w = List.set w30 t (ob (a t) 8 [.int (nI n2), .int v16, .ref (a (t + 1)), .ref (a (t + 4)), .ref (a (t + 9)), .ref (a (t + 16)), .int v17, .int v18, .int v19, .int v121]) := ⟨_, rfl⟩
    refine x_put C (ci := 8) (k := 9) (ty := .int) t k33 rfl in_X9 tyX9 tyX9_ok nmX9 (by decide) w_221 rfl rfl rfl rfl (Nat.le_of_ble_eq_true rfl) hw123.symm dX9_strikeOrLay_22 rfl ?_
    have hW124 : WX (okX E a) w122 := by rw [hw123]; exact hW31.set (k := t) (okX_t ht (j := 0) rfl) ⟨n2, v16, v17, v18, v19, v121, by omega, rfl⟩
    have k125 : w122[t]? = some (ob (a t) 8 [.int (nI n2), .int v16, .ref (a (t + 1)), .ref (a (t + 4)), .ref (a (t + 9)), .ref (a (t + 16)), .int v17, .int v18, .int v19, .int v121]) := by rw [hw123]; exact set_eq k33
    have kp126 := keeps_set kp34 hw123 (by first | exact rfl | decide | omega | (dsimp only; omega))
    refine x_goto C (tgt := 112) dX9_strikeOrLay_25 (by decide) ?_
    exact x_vret C hr hlk dX9_strikeOrLay_112 ⟨hW124, kp126, (dK_of k1 ⟨_, _, _, _, _, k125⟩)⟩
theorem dX9_mayGoBad_0 : decode cX9_mayGoBad 0 = .ok (.aload_n 2, 1) := by decide +kernel
theorem dX9_mayGoBad_1 : decode cX9_mayGoBad 1 = .ok (.iconst 2, 1) := by decide +kernel
theorem dX9_mayGoBad_2 : decode cX9_mayGoBad 2 = .ok (.aload_n 0, 1) := by decide +kernel
theorem dX9_mayGoBad_3 : decode cX9_mayGoBad 3 = .ok (.iload_n 1, 1) := by decide +kernel
theorem dX9_mayGoBad_4 : decode cX9_mayGoBad 4 = .ok (.iconst 0, 1) := by decide +kernel
theorem dX9_mayGoBad_5 : decode cX9_mayGoBad 5 = .ok (.invokevirtual 118, 3) := by decide +kernel
theorem dX9_mayGoBad_8 : decode cX9_mayGoBad 8 = .ok (.istore_n 3, 1) := by decide +kernel
theorem dX9_mayGoBad_9 : decode cX9_mayGoBad 9 = .ok (.iload_n 3, 1) := by decide +kernel
theorem dX9_mayGoBad_10 : decode cX9_mayGoBad 10 = .ok (.ifCond .le 41, 3) := by decide +kernel
theorem dX9_mayGoBad_13 : decode cX9_mayGoBad 13 = .ok (.aload_n 0, 1) := by decide +kernel
theorem dX9_mayGoBad_14 : decode cX9_mayGoBad 14 = .ok (.getfield 9, 3) := by decide +kernel
theorem dX9_mayGoBad_17 : decode cX9_mayGoBad 17 = .ok (.aload_n 0, 1) := by decide +kernel
theorem dX9_mayGoBad_18 : decode cX9_mayGoBad 18 = .ok (.getfield 35, 3) := by decide +kernel
theorem dX9_mayGoBad_21 : decode cX9_mayGoBad 21 = .ok (.getfield 121, 3) := by decide +kernel
theorem dX9_mayGoBad_24 : decode cX9_mayGoBad 24 = .ok (.iload_n 1, 1) := by decide +kernel
theorem dX9_mayGoBad_25 : decode cX9_mayGoBad 25 = .ok (.iaload, 1) := by decide +kernel
theorem dX9_mayGoBad_26 : decode cX9_mayGoBad 26 = .ok (.isub, 1) := by decide +kernel
theorem dX9_mayGoBad_27 : decode cX9_mayGoBad 27 = .ok (.iload_n 3, 1) := by decide +kernel
theorem dX9_mayGoBad_28 : decode cX9_mayGoBad 28 = .ok (.if_icmp .lt 23, 3) := by decide +kernel
theorem dX9_mayGoBad_31 : decode cX9_mayGoBad 31 = .ok (.aload_n 0, 1) := by decide +kernel
theorem dX9_mayGoBad_32 : decode cX9_mayGoBad 32 = .ok (.getfield 35, 3) := by decide +kernel
theorem dX9_mayGoBad_35 : decode cX9_mayGoBad 35 = .ok (.getfield 124, 3) := by decide +kernel
theorem dX9_mayGoBad_38 : decode cX9_mayGoBad 38 = .ok (.iload_n 1, 1) := by decide +kernel
theorem dX9_mayGoBad_39 : decode cX9_mayGoBad 39 = .ok (.iconst 2, 1) := by decide +kernel
theorem dX9_mayGoBad_40 : decode cX9_mayGoBad 40 = .ok (.iastore, 1) := by decide +kernel
theorem dX9_mayGoBad_41 : decode cX9_mayGoBad 41 = .ok (.aload_n 0, 1) := by decide +kernel
theorem dX9_mayGoBad_42 : decode cX9_mayGoBad 42 = .ok (.dup, 1) := by decide +kernel
theorem dX9_mayGoBad_43 : decode cX9_mayGoBad 43 = .ok (.getfield 52, 3) := by decide +kernel
theorem dX9_mayGoBad_46 : decode cX9_mayGoBad 46 = .ok (.iconst 1, 1) := by decide +kernel
theorem dX9_mayGoBad_47 : decode cX9_mayGoBad 47 = .ok (.iadd, 1) := by decide +kernel
theorem dX9_mayGoBad_48 : decode cX9_mayGoBad 48 = .ok (.putfield 52, 3) := by decide +kernel
theorem dX9_mayGoBad_51 : decode cX9_mayGoBad 51 = .ok (.return_, 1) := by decide +kernel
set_option maxRecDepth 20000 in
set_option maxHeartbeats 4000000 in
theorem c_mayGoBad (E : xE) (l : Launch) (a : Nat → Nat) (ws : va_W) (hW : WX (okX E a) ws) (t : Nat) (ht : tb t) (i0 : Nat) (hi0 : i0 ≤ 47) : xV E l yX9_mayGoBad cX9_mayGoBad 4 4 0 0 [.ref (a t), .int (nI i0), .ref (a 71)] ws (fun w => WX (okX E a) w ∧ keeps ws w (fun q => (t ≤ q ∧ q < t + 22 ∧ q ≠ t + 1 ∧ q ≠ t + 4) ∨ (71 ≤ q ∧ q < 79)) ∧ (dK a t ws w)) := by
  refine xV_start (lv := [(0, .ref (a t)), (1, .int (nI i0)), (2, .ref (a 71))]) RX9 (by decide) rfl (Nat.le_of_ble_eq_true rfl) rfl (fun p e s m below meth c A C hr hlk hin => ?_)
  have htb := tb_lo ht
  have kp0 : keeps ws ws (fun q => (t ≤ q ∧ q < t + 22 ∧ q ≠ t + 1 ∧ q ≠ t + 4) ∨ (71 ≤ q ∧ q < 79)) := keeps_rf
  obtain ⟨_, k1, n2, v4, v5, v6, v7, v8, bn3, rfl⟩ := hW (t + 0) _ (okX_t ht (j := 0) rfl)
  refine x_aload_n C dX9_mayGoBad_0 rfl 2 rfl rfl ?_
  refine x_iconst C (v := 2) dX9_mayGoBad_1 (by decide) rfl ?_
  refine x_aload_n C dX9_mayGoBad_2 rfl 0 rfl rfl ?_
  refine x_iload_n C dX9_mayGoBad_3 rfl 1 rfl rfl ?_
  refine x_iconst C (v := 0) dX9_mayGoBad_4 (by decide) rfl ?_
  obtain ⟨_, k9, v10, n11, n13, bn12, bn14, rfl⟩ := hW 71 _ rfl
  refine x_vi C (As := [.int 2, .ref (a t), .int (nI i0), .int 0]) (rest := []) (c_ofEgg E l a ws hW t ht 2 i0 (0 : Int32) (by omega) (by omega)) mf_X3_ofEgg w_731 71 k9 rfl rfl rfl (Nat.le_of_ble_eq_true rfl) ⟨(Nat.le_of_ble_eq_true rfl), (Nat.le_of_ble_eq_true rfl)⟩ ⟨(Nat.le_of_ble_eq_true rfl), (Nat.le_of_ble_eq_true rfl)⟩ dX9_mayGoBad_5 rfl (fun r16 w17 h15 => ?_)
  obtain ⟨hW18, kq19⟩ := h15
  have k20 : w17[t]? = some (ob (a t) 8 [.int (nI n2), .int v4, .ref (a (t + 1)), .ref (a (t + 4)), .ref (a (t + 9)), .ref (a (t + 16)), .int v5, .int v6, .int v7, .int v8]) := keeps_at kq19 k1 (by first | decide | omega | (dsimp only; omega))
  have kp21 := keeps_tr kp0 kq19 (fun q hq => by first | omega | (dsimp only at *; omega))
  refine x_istore_n C (lv' := [(3, .int r16), (0, .ref (a t)), (1, .int (nI i0)), (2, .ref (a 71))]) dX9_mayGoBad_8 rfl (by decide) rfl rfl ?_
  refine x_iload_n C dX9_mayGoBad_9 rfl 0 rfl rfl ?_
  refine x_if_le C (tgt := 51) dX9_mayGoBad_10 (by decide) rfl (fun c22 => ?_) (fun c22 => ?_)
  · skip
    exact x_vret C hr hlk dX9_mayGoBad_51 ⟨hW18, kp21, (dK_of k1 ⟨_, _, _, _, _, k20⟩)⟩
  · skip
    obtain ⟨j23, hj24, ej25⟩ := nI_of (fun q => c22 (Int32.le_of_lt q))
    subst ej25
    refine x_aload_n C dX9_mayGoBad_13 rfl 1 rfl rfl ?_
    refine x_get C (ci := 8) (k := 0) t k20 rfl in_X9 (by decide) w_195 rfl dX9_mayGoBad_14 rfl ?_
    refine x_aload_n C dX9_mayGoBad_17 rfl 1 rfl rfl ?_
    refine x_get C (ci := 8) (k := 4) t k20 rfl in_X9 (by decide) w_206 rfl dX9_mayGoBad_18 rfl ?_
    obtain ⟨_, k26, n27, bn28, rfl⟩ := hW18 (t + 9) _ (okX_t ht (j := 9) rfl)
    refine x_get C (ci := 1) (k := 2) (t + 9) k26 rfl in_X1 (by decide) w_129 rfl dX9_mayGoBad_21 rfl ?_
    refine x_iload_n C dX9_mayGoBad_24 rfl 2 rfl rfl ?_
    obtain ⟨_, k29, g30, gb31, rfl⟩ := hW18 (t + 11) _ (okX_t ht (j := 11) rfl)
    refine x_ialk C (v := nI (g30 i0)) i0 (nI_clamp (by omega)) (nI_pos (by omega)) (by omega) (t + 11) k29 rfl dX9_mayGoBad_25 rfl ?_
    have bx32 := gb31 i0
    refine x_isub C (v := ((nI n2) - (nI (g30 i0)))) dX9_mayGoBad_26 rfl rfl ?_
    refine x_any (fun v33 => ?_)
    refine x_iload_n C dX9_mayGoBad_27 rfl 0 rfl rfl ?_
    refine x_icmp_lt C (tgt := 51) dX9_mayGoBad_28 (by decide) rfl (fun c34 => ?_) (fun c34 => ?_)
    · skip
      exact x_vret C hr hlk dX9_mayGoBad_51 ⟨hW18, kp21, (dK_of k1 ⟨_, _, _, _, _, k20⟩)⟩
    · skip
      refine x_aload_n C dX9_mayGoBad_31 rfl 1 rfl rfl ?_
      refine x_get C (ci := 8) (k := 4) t k20 rfl in_X9 (by decide) w_206 rfl dX9_mayGoBad_32 rfl ?_
      refine x_get C (ci := 1) (k := 6) (t + 9) k26 rfl in_X1 (by decide) w_145 rfl dX9_mayGoBad_35 rfl ?_
      refine x_iload_n C dX9_mayGoBad_38 rfl 2 rfl rfl ?_
      refine x_iconst C (v := 2) dX9_mayGoBad_39 (by decide) rfl ?_
      obtain ⟨_, k35, f36, rfl⟩ := hW18 (t + 15) _ (okX_t ht (j := 15) rfl)
      obtain ⟨w37, hw38⟩ : ∃ w : va_W, w = List.set w17 (t + 15) (iA E (a (t + 15)) 48 (upd f36 (nI i0).toNatClampNeg 2)) := ⟨_, rfl⟩
      refine x_iast C (t + 15) k35 (vp_in_nI (by omega) (by decide)) hw38.symm dX9_mayGoBad_40 rfl ?_
      have hW39 : WX (okX E a) w37 := by rw [hw38]; exact hW18.set (k := (t + 15)) (okX_t ht (j := 15) rfl) ⟨_, rfl⟩
      have k40 : w37[t]? = some (ob (a t) 8 [.int (nI n2), .int v4, .ref (a (t + 1)), .ref (a (t + 4)), .ref (a (t + 9)), .ref (a (t + 16)), .int v5, .int v6, .int v7, .int v8]) := by rw [hw38]; exact set_ne k20 (by omega)
      have k41 : w37[t + 9]? = some (ob (a (t + 9)) 1 [.int (nI n27), .ref (a (t + 10)), .ref (a (t + 11)), .ref (a (t + 12)), .ref (a (t + 13)), .ref (a (t + 14)), .ref (a (t + 15))]) := by rw [hw38]; exact set_ne k26 (by omega)
      have k42 : w37[t + 11]? = some (iA E (a (t + 11)) 48 (fun j => nI (g30 j))) := by rw [hw38]; exact set_ne k29 (by omega)
      have k43 : w37[t + 15]? = some (iA E (a (t + 15)) 48 (upd f36 (nI i0).toNatClampNeg 2)) := by rw [hw38]; exact set_eq k35
      have kp44 := keeps_set kp21 hw38 (by first | exact rfl | decide | omega | (dsimp only; omega))
      refine x_aload_n C dX9_mayGoBad_41 rfl 1 rfl rfl ?_
      refine x_dup C dX9_mayGoBad_42 rfl rfl ?_
      refine x_get C (ci := 8) (k := 8) t k40 rfl in_X9 (by decide) w_219 rfl dX9_mayGoBad_43 rfl ?_
      refine x_iconst C (v := 1) dX9_mayGoBad_46 (by decide) rfl ?_
      refine x_iadd C (v := (v7 + (1 : Int32))) dX9_mayGoBad_47 rfl rfl ?_
      refine x_any (fun v45 => ?_)
      obtain ⟨w46, hw47⟩ : ∃ w : va_W, w = List.set w37 t (ob (a t) 8 [.int (nI n2), .int v4, .ref (a (t + 1)), .ref (a (t + 4)), .ref (a (t + 9)), .ref (a (t + 16)), .int v5, .int v6, .int v45, .int v8]) := ⟨_, rfl⟩
      refine x_put C (ci := 8) (k := 8) (ty := .int) t k40 rfl in_X9 tyX9 tyX9_ok nmX9 (by decide) w_219 rfl rfl rfl rfl (Nat.le_of_ble_eq_true rfl) hw47.symm dX9_mayGoBad_48 rfl ?_
      have hW48 : WX (okX E a) w46 := by rw [hw47]; exact hW39.set (k := t) (okX_t ht (j := 0) rfl) ⟨n2, v4, v5, v6, v45, v8, by omega, rfl⟩
      have k49 : w46[t]? = some (ob (a t) 8 [.int (nI n2), .int v4, .ref (a (t + 1)), .ref (a (t + 4)), .ref (a (t + 9)), .ref (a (t + 16)), .int v5, .int v6, .int v45, .int v8]) := by rw [hw47]; exact set_eq k40
      have k50 : w46[t + 9]? = some (ob (a (t + 9)) 1 [.int (nI n27), .ref (a (t + 10)), .ref (a (t + 11)), .ref (a (t + 12)), .ref (a (t + 13)), .ref (a (t + 14)), .ref (a (t + 15))]) := by rw [hw47]; exact set_ne k41 (by omega)
      have k51 : w46[t + 11]? = some (iA E (a (t + 11)) 48 (fun j => nI (g30 j))) := by rw [hw47]; exact set_ne k42 (by omega)
      have k52 : w46[t + 15]? = some (iA E (a (t + 15)) 48 (upd f36 (nI i0).toNatClampNeg 2)) := by rw [hw47]; exact set_ne k43 (by omega)
      have kp53 := keeps_set kp44 hw47 (by first | exact rfl | decide | omega | (dsimp only; omega))
      exact x_vret C hr hlk dX9_mayGoBad_51 ⟨hW48, kp53, (dK_of k1 ⟨_, _, _, _, _, k49⟩)⟩
theorem dX9_passDay_0 : decode cX9_passDay 0 = .ok (.aload_n 0, 1) := by decide +kernel
theorem dX9_passDay_1 : decode cX9_passDay 1 = .ok (.getfield 9, 3) := by decide +kernel
theorem dX9_passDay_4 : decode cX9_passDay 4 = .ok (.sipush 9999, 3) := by decide +kernel
theorem dX9_passDay_7 : decode cX9_passDay 7 = .ok (.if_icmp .lt 5, 3) := by decide +kernel
theorem dX9_passDay_10 : decode cX9_passDay 10 = .ok (.iconst 0, 1) := by decide +kernel
theorem dX9_passDay_11 : decode cX9_passDay 11 = .ok (.ireturn, 1) := by decide +kernel
theorem dX9_passDay_12 : decode cX9_passDay 12 = .ok (.iconst 0, 1) := by decide +kernel
theorem dX9_passDay_13 : decode cX9_passDay 13 = .ok (.istore_n 2, 1) := by decide +kernel
theorem dX9_passDay_14 : decode cX9_passDay 14 = .ok (.iload_n 2, 1) := by decide +kernel
theorem dX9_passDay_15 : decode cX9_passDay 15 = .ok (.bipush 8, 2) := by decide +kernel
theorem dX9_passDay_17 : decode cX9_passDay 17 = .ok (.if_icmp .ge 26, 3) := by decide +kernel
theorem dX9_passDay_20 : decode cX9_passDay 20 = .ok (.aload_n 0, 1) := by decide +kernel
theorem dX9_passDay_21 : decode cX9_passDay 21 = .ok (.getfield 21, 3) := by decide +kernel
theorem dX9_passDay_24 : decode cX9_passDay 24 = .ok (.iload_n 2, 1) := by decide +kernel
theorem dX9_passDay_25 : decode cX9_passDay 25 = .ok (.invokevirtual 75, 3) := by decide +kernel
theorem dX9_passDay_28 : decode cX9_passDay 28 = .ok (.ifCond .eq 9, 3) := by decide +kernel
theorem dX9_passDay_31 : decode cX9_passDay 31 = .ok (.aload_n 0, 1) := by decide +kernel
theorem dX9_passDay_32 : decode cX9_passDay 32 = .ok (.iload_n 2, 1) := by decide +kernel
theorem dX9_passDay_33 : decode cX9_passDay 33 = .ok (.aload_n 1, 1) := by decide +kernel
theorem dX9_passDay_34 : decode cX9_passDay 34 = .ok (.invokevirtual 79, 3) := by decide +kernel
theorem dX9_passDay_37 : decode cX9_passDay 37 = .ok (.iinc 2 1, 3) := by decide +kernel
theorem dX9_passDay_40 : decode cX9_passDay 40 = .ok (.goto (-26), 3) := by decide +kernel
theorem dX9_passDay_43 : decode cX9_passDay 43 = .ok (.iconst 0, 1) := by decide +kernel
theorem dX9_passDay_44 : decode cX9_passDay 44 = .ok (.istore_n 2, 1) := by decide +kernel
theorem dX9_passDay_45 : decode cX9_passDay 45 = .ok (.iload_n 2, 1) := by decide +kernel
theorem dX9_passDay_46 : decode cX9_passDay 46 = .ok (.aload_n 0, 1) := by decide +kernel
theorem dX9_passDay_47 : decode cX9_passDay 47 = .ok (.getfield 35, 3) := by decide +kernel
theorem dX9_passDay_50 : decode cX9_passDay 50 = .ok (.getfield 83, 3) := by decide +kernel
theorem dX9_passDay_53 : decode cX9_passDay 53 = .ok (.if_icmp .ge 26, 3) := by decide +kernel
theorem dX9_passDay_56 : decode cX9_passDay 56 = .ok (.aload_n 0, 1) := by decide +kernel
theorem dX9_passDay_57 : decode cX9_passDay 57 = .ok (.getfield 35, 3) := by decide +kernel
theorem dX9_passDay_60 : decode cX9_passDay 60 = .ok (.iload_n 2, 1) := by decide +kernel
theorem dX9_passDay_61 : decode cX9_passDay 61 = .ok (.invokevirtual 86, 3) := by decide +kernel
theorem dX9_passDay_64 : decode cX9_passDay 64 = .ok (.ifCond .eq 9, 3) := by decide +kernel
theorem dX9_passDay_67 : decode cX9_passDay 67 = .ok (.aload_n 0, 1) := by decide +kernel
theorem dX9_passDay_68 : decode cX9_passDay 68 = .ok (.iload_n 2, 1) := by decide +kernel
theorem dX9_passDay_69 : decode cX9_passDay 69 = .ok (.aload_n 1, 1) := by decide +kernel
theorem dX9_passDay_70 : decode cX9_passDay 70 = .ok (.invokevirtual 89, 3) := by decide +kernel
theorem dX9_passDay_73 : decode cX9_passDay 73 = .ok (.iinc 2 1, 3) := by decide +kernel
theorem dX9_passDay_76 : decode cX9_passDay 76 = .ok (.goto (-31), 3) := by decide +kernel
theorem dX9_passDay_79 : decode cX9_passDay 79 = .ok (.aload_n 0, 1) := by decide +kernel
theorem dX9_passDay_80 : decode cX9_passDay 80 = .ok (.dup, 1) := by decide +kernel
theorem dX9_passDay_81 : decode cX9_passDay 81 = .ok (.getfield 9, 3) := by decide +kernel
theorem dX9_passDay_84 : decode cX9_passDay 84 = .ok (.iconst 1, 1) := by decide +kernel
theorem dX9_passDay_85 : decode cX9_passDay 85 = .ok (.iadd, 1) := by decide +kernel
theorem dX9_passDay_86 : decode cX9_passDay 86 = .ok (.putfield 9, 3) := by decide +kernel
theorem dX9_passDay_89 : decode cX9_passDay 89 = .ok (.iconst 1, 1) := by decide +kernel
theorem dX9_passDay_90 : decode cX9_passDay 90 = .ok (.ireturn, 1) := by decide +kernel
set_option maxRecDepth 20000 in
set_option maxHeartbeats 4000000 in
theorem c_passDay (E : xE) (l : Launch) (a : Nat → Nat) (ws : va_W) (hW : WX (okX E a) ws) (t : Nat) (ht : tb t) : xI E l yX9_passDay cX9_passDay 3 (some .boolean) 5 [.ref (a t), .ref (a 71)] ws (fun r w => WX (okX E a) w ∧ keeps ws w (fun q => (t ≤ q ∧ q < t + 22 ∧ q ≠ t + 1 ∧ q ≠ t + 4) ∨ (71 ≤ q ∧ q < 79)) ∧ zb r) := by
  refine xI_start (lv := [(0, .ref (a t)), (1, .ref (a 71))]) RX9 (by decide) rfl (Nat.le_of_ble_eq_true rfl) rfl (fun p e s m below meth c A C hr hlk => ?_)
  have htb := tb_lo ht
  have kp0 : keeps ws ws (fun q => (t ≤ q ∧ q < t + 22 ∧ q ≠ t + 1 ∧ q ≠ t + 4) ∨ (71 ≤ q ∧ q < 79)) := keeps_rf
  obtain ⟨_, k1, n2, v4, v5, v6, v7, v8, bn3, rfl⟩ := hW (t + 0) _ (okX_t ht (j := 0) rfl)
  refine x_aload_n C dX9_passDay_0 rfl 0 rfl rfl ?_
  refine x_get C (ci := 8) (k := 0) t k1 rfl in_X9 (by decide) w_195 rfl dX9_passDay_1 rfl ?_
  refine x_sipush C (v := 9999) dX9_passDay_4 (by decide) rfl ?_
  refine x_icmp_lt C (tgt := 12) dX9_passDay_7 (by decide) rfl (fun c9 => ?_) (fun c9 => ?_)
  · skip
    have nf10 := nI_lt' (a := n2) (b := 9999) c9 (by omega) (by omega)
    refine x_iconst C (v := 0) dX9_passDay_12 (by decide) rfl ?_
    refine x_istore_n C (lv' := [(2, .int 0), (0, .ref (a t)), (1, .ref (a 71))]) dX9_passDay_13 rfl (by decide) rfl rfl ?_
    have loop14 : ∀ (fu14 : Nat) (y : Nat) (wl14 : va_W), WX (okX E a) wl14 → 8 - y < fu14 → y ≤ 8 → dI a t wl14 n2 → keeps ws wl14 (fun q => (t ≤ q ∧ q < t + 22 ∧ q ≠ t + 1 ∧ q ≠ t + 4) ∨ (71 ≤ q ∧ q < 79)) → X E p l e (xRm 5 0 0) s m ([.ref (a t), .ref (a 71)] : List Value).toArray below meth c A 3 0 0 (MQ below (va_Qi (fun r w => WX (okX E a) w ∧ keeps ws w (fun q => (t ≤ q ∧ q < t + 22 ∧ q ≠ t + 1 ∧ q ≠ t + 4) ∨ (71 ≤ q ∧ q < 79)) ∧ zb r) (xB E A) A) ([.ref (a t), .ref (a 71)] : List Value).toArray s 0 0 A) wl14 14 [(0, .ref (a t)), (1, .ref (a 71)), (2, .int (nI y))] [] := by
      intro fu14
      induction fu14 with
      | zero => intro y wl14 _ q; omega
      | succ fu14 ih14 =>
        intro y wl14 hWl14 me14 iv14_0 iv14_1 kq14
        obtain ⟨v11, v12, v13, v14, v15, k16⟩ := iv14_1
        refine x_iload_n C dX9_passDay_14 rfl 2 rfl rfl ?_
        refine x_bipush C (v := 8) dX9_passDay_15 (by decide) rfl ?_
        refine x_icmp_ge C (tgt := 43) dX9_passDay_17 (by decide) rfl (fun c17 => ?_) (fun c17 => ?_)
        · skip
          have nf18 := nI_le' (a := 8) (b := y) c17 (by omega) (by omega)
          refine x_iconst C (v := 0) dX9_passDay_43 (by decide) rfl ?_
          refine x_istore_n C (lv' := [(2, .int 0), (0, .ref (a t)), (1, .ref (a 71))]) dX9_passDay_44 rfl (by decide) rfl rfl ?_
          have loop45 : ∀ (fu45 : Nat) (i : Nat) (wl45 : va_W), WX (okX E a) wl45 → 48 - i < fu45 → i ≤ 48 → dI a t wl45 n2 → keeps ws wl45 (fun q => (t ≤ q ∧ q < t + 22 ∧ q ≠ t + 1 ∧ q ≠ t + 4) ∨ (71 ≤ q ∧ q < 79)) → X E p l e (xRm 5 0 0) s m ([.ref (a t), .ref (a 71)] : List Value).toArray below meth c A 3 0 0 (MQ below (va_Qi (fun r w => WX (okX E a) w ∧ keeps ws w (fun q => (t ≤ q ∧ q < t + 22 ∧ q ≠ t + 1 ∧ q ≠ t + 4) ∨ (71 ≤ q ∧ q < 79)) ∧ zb r) (xB E A) A) ([.ref (a t), .ref (a 71)] : List Value).toArray s 0 0 A) wl45 45 [(0, .ref (a t)), (1, .ref (a 71)), (2, .int (nI i))] [] := by
            intro fu45
            induction fu45 with
            | zero => intro i wl45 _ q; omega
            | succ fu45 ih45 =>
              intro i wl45 hWl45 me45 iv45_0 iv45_1 kq45
              obtain ⟨v19, v20, v21, v22, v23, k24⟩ := iv45_1
              refine x_iload_n C dX9_passDay_45 rfl 2 rfl rfl ?_
              refine x_aload_n C dX9_passDay_46 rfl 0 rfl rfl ?_
              refine x_get C (ci := 8) (k := 4) t k24 rfl in_X9 (by decide) w_206 rfl dX9_passDay_47 rfl ?_
              obtain ⟨_, k25, n26, bn27, rfl⟩ := hWl45 (t + 9) _ (okX_t ht (j := 9) rfl)
              refine x_get C (ci := 1) (k := 0) (t + 9) k25 rfl in_X1 (by decide) w_121 rfl dX9_passDay_50 rfl ?_
              refine x_icmp_ge C (tgt := 79) dX9_passDay_53 (by decide) rfl (fun c28 => ?_) (fun c28 => ?_)
              · skip
                have nf29 := nI_le' (a := n26) (b := i) c28 (by omega) (by omega)
                refine x_aload_n C dX9_passDay_79 rfl 0 rfl rfl ?_
                refine x_dup C dX9_passDay_80 rfl rfl ?_
                refine x_get C (ci := 8) (k := 0) t k24 rfl in_X9 (by decide) w_195 rfl dX9_passDay_81 rfl ?_
                refine x_iconst C (v := 1) dX9_passDay_84 (by decide) rfl ?_
                refine x_iadd C (v := (nI (n2 + 1))) dX9_passDay_85 (nI_add n2 1) rfl ?_
                obtain ⟨w30, hw31⟩ : ∃ w : va_W, w = List.set wl45 t (ob (a t) 8 [.int (nI (n2 + 1)), .int v19, .ref (a (t + 1)), .ref (a (t + 4)), .ref (a (t + 9)), .ref (a (t + 16)), .int v20, .int v21, .int v22, .int v23]) := ⟨_, rfl⟩
                refine x_put C (ci := 8) (k := 0) (ty := .int) t k24 rfl in_X9 tyX9 tyX9_ok nmX9 (by decide) w_195 rfl rfl rfl rfl (Nat.le_of_ble_eq_true rfl) hw31.symm dX9_passDay_86 rfl ?_
                have hW32 : WX (okX E a) w30 := by rw [hw31]; exact hWl45.set (k := t) (okX_t ht (j := 0) rfl) ⟨(n2 + 1), v19, v20, v21, v22, v23, by omega, rfl⟩
                have k33 : w30[t]? = some (ob (a t) 8 [.int (nI (n2 + 1)), .int v19, .ref (a (t + 1)), .ref (a (t + 4)), .ref (a (t + 9)), .ref (a (t + 16)), .int v20, .int v21, .int v22, .int v23]) := by rw [hw31]; exact set_eq k24
                have k34 : w30[t + 9]? = some (ob (a (t + 9)) 1 [.int (nI n26), .ref (a (t + 10)), .ref (a (t + 11)), .ref (a (t + 12)), .ref (a (t + 13)), .ref (a (t + 14)), .ref (a (t + 15))]) := by rw [hw31]; exact set_ne k25 (by omega)
                have kp35 := keeps_set kq45 hw31 (by first | exact rfl | decide | omega | (dsimp only; omega))
                refine x_iconst C (v := 1) dX9_passDay_89 (by decide) rfl ?_
                exact x_zret C hr hlk rfl dX9_passDay_90 ⟨hW32, kp35, (Or.inr rfl)⟩
              · skip
                have nf36 := nI_nle' (a := n26) (b := i) c28 (by omega) (by omega)
                refine x_aload_n C dX9_passDay_56 rfl 0 rfl rfl ?_
                refine x_get C (ci := 8) (k := 4) t k24 rfl in_X9 (by decide) w_206 rfl dX9_passDay_57 rfl ?_
                refine x_iload_n C dX9_passDay_60 rfl 2 rfl rfl ?_
                refine x_vi C (As := [.int (nI i)]) (rest := []) (c_Eggs_isWhole E l a wl45 hWl45 t ht ((nI i))) mf_X1_isWhole w_844 (t + 9) k25 rfl rfl rfl (Nat.le_of_ble_eq_true rfl) ⟨(Nat.le_of_ble_eq_true rfl), (Nat.le_of_ble_eq_true rfl)⟩ ⟨(Nat.le_of_ble_eq_true rfl), (Nat.le_of_ble_eq_true rfl)⟩ dX9_passDay_61 rfl (fun r38 w39 h37 => ?_)
                obtain ⟨hW40, zb41, x42⟩ := h37
                refine x_ws hW40 ?_
                refine x_if_eq C (tgt := 73) dX9_passDay_64 (by decide) rfl (fun c43 => ?_) (fun c43 => ?_)
                · skip
                  refine x_iinc C (v := (nI (i + 1))) (lv' := [(2, .int (nI (i + 1))), (0, .ref (a t)), (1, .ref (a 71))]) dX9_passDay_73 2 rfl (nI_add i 1) (by decide) rfl rfl ?_
                  refine x_goto C (tgt := 45) dX9_passDay_76 (by decide) ?_
                  refine x_lv (lv1 := [(0, .ref (a t)), (1, .ref (a 71)), (2, .int (nI (i + 1)))]) [1, 2, 0] rfl ?_
                  exact ih45 (i + 1) wl45 hWl45 (by omega) (by omega) ⟨_, _, _, _, _, k24⟩ kq45
                · skip
                  have wi44 := wth_le (a := 0) (b := 47) (j := i) (x42 c43) (by omega) (by decide) (by decide)
                  refine x_aload_n C dX9_passDay_67 rfl 0 rfl rfl ?_
                  refine x_iload_n C dX9_passDay_68 rfl 2 rfl rfl ?_
                  refine x_aload_n C dX9_passDay_69 rfl 1 rfl rfl ?_
                  refine x_vv C (As := [.int (nI i), .ref (a 71)]) (rest := []) (c_mayGoBad E l a wl45 hWl45 t ht i (by omega)) mf_X9_mayGoBad w_845 t k24 rfl rfl rfl (Nat.le_of_ble_eq_true rfl) ⟨(Nat.le_of_ble_eq_true rfl), (Nat.le_of_ble_eq_true rfl)⟩ ⟨(Nat.le_of_ble_eq_true rfl), (Nat.le_of_ble_eq_true rfl)⟩ dX9_passDay_70 rfl (fun w47 h45 => ?_)
                  obtain ⟨hW48, kq49, x50⟩ := h45
                  have kp51 := keeps_tr kq45 kq49 (fun q hq => by first | omega | (dsimp only at *; omega))
                  obtain ⟨v52, v53, v54, v55, v56, k57⟩ := x50 _ ⟨_, _, _, _, _, k24⟩
                  refine x_iinc C (v := (nI (i + 1))) (lv' := [(2, .int (nI (i + 1))), (0, .ref (a t)), (1, .ref (a 71))]) dX9_passDay_73 2 rfl (nI_add i 1) (by decide) rfl rfl ?_
                  refine x_goto C (tgt := 45) dX9_passDay_76 (by decide) ?_
                  refine x_lv (lv1 := [(0, .ref (a t)), (1, .ref (a 71)), (2, .int (nI (i + 1)))]) [1, 2, 0] rfl ?_
                  exact ih45 (i + 1) w47 hW48 (by omega) (by omega) ⟨_, _, _, _, _, k57⟩ kp51
          refine x_lv (lv1 := [(0, .ref (a t)), (1, .ref (a 71)), (2, .int 0)]) [1, 2, 0] rfl ?_
          exact loop45 _ 0 wl14 hWl14 (Nat.lt_succ_self _) (by omega) ⟨_, _, _, _, _, k16⟩ kq14
        · skip
          have nf58 := nI_nle' (a := 8) (b := y) c17 (by omega) (by omega)
          refine x_aload_n C dX9_passDay_20 rfl 0 rfl rfl ?_
          refine x_get C (ci := 8) (k := 2) t k16 rfl in_X9 (by decide) w_200 rfl dX9_passDay_21 rfl ?_
          refine x_iload_n C dX9_passDay_24 rfl 2 rfl rfl ?_
          obtain ⟨_, k59, v60, rfl⟩ := hWl14 (t + 1) _ (okX_t ht (j := 1) rfl)
          refine x_vi C (As := [.int (nI y)]) (rest := []) (c_Hens_isTold E l a wl14 hWl14 t ht ((nI y))) mf_X2_isTold w_826 (t + 1) k59 rfl rfl rfl (Nat.le_of_ble_eq_true rfl) ⟨(Nat.le_of_ble_eq_true rfl), (Nat.le_of_ble_eq_true rfl)⟩ ⟨(Nat.le_of_ble_eq_true rfl), (Nat.le_of_ble_eq_true rfl)⟩ dX9_passDay_25 rfl (fun r62 w63 h61 => ?_)
          obtain ⟨hW64, zb65, x66⟩ := h61
          refine x_ws hW64 ?_
          refine x_if_eq C (tgt := 37) dX9_passDay_28 (by decide) rfl (fun c67 => ?_) (fun c67 => ?_)
          · skip
            refine x_iinc C (v := (nI (y + 1))) (lv' := [(2, .int (nI (y + 1))), (0, .ref (a t)), (1, .ref (a 71))]) dX9_passDay_37 2 rfl (nI_add y 1) (by decide) rfl rfl ?_
            refine x_goto C (tgt := 14) dX9_passDay_40 (by decide) ?_
            refine x_lv (lv1 := [(0, .ref (a t)), (1, .ref (a 71)), (2, .int (nI (y + 1)))]) [1, 2, 0] rfl ?_
            exact ih14 (y + 1) wl14 hWl14 (by omega) (by omega) ⟨_, _, _, _, _, k16⟩ kq14
          · skip
            have wi68 := wth_le (a := 0) (b := 7) (j := y) (x66 c67) (by omega) (by decide) (by decide)
            refine x_aload_n C dX9_passDay_31 rfl 0 rfl rfl ?_
            refine x_iload_n C dX9_passDay_32 rfl 2 rfl rfl ?_
            refine x_aload_n C dX9_passDay_33 rfl 1 rfl rfl ?_
            refine x_vv C (As := [.int (nI y), .ref (a 71)]) (rest := []) (c_strikeOrLay E l a wl14 hWl14 t ht y (by omega)) mf_X9_strikeOrLay w_827 t k16 rfl rfl rfl (Nat.le_of_ble_eq_true rfl) ⟨(Nat.le_of_ble_eq_true rfl), (Nat.le_of_ble_eq_true rfl)⟩ ⟨(Nat.le_of_ble_eq_true rfl), (Nat.le_of_ble_eq_true rfl)⟩ dX9_passDay_34 rfl (fun w71 h69 => ?_)
            obtain ⟨hW72, kq73, x74⟩ := h69
            have k75 : w71[t + 1]? = some (ob (a (t + 1)) 2 [.int v60, .ref (a (t + 2)), .ref (a (t + 3))]) := keeps_at kq73 k59 (by first | decide | omega | (dsimp only; omega))
            have kp76 := keeps_tr kq14 kq73 (fun q hq => by first | omega | (dsimp only at *; omega))
            obtain ⟨v77, v78, v79, v80, v81, k82⟩ := x74 _ ⟨_, _, _, _, _, k16⟩
            refine x_iinc C (v := (nI (y + 1))) (lv' := [(2, .int (nI (y + 1))), (0, .ref (a t)), (1, .ref (a 71))]) dX9_passDay_37 2 rfl (nI_add y 1) (by decide) rfl rfl ?_
            refine x_goto C (tgt := 14) dX9_passDay_40 (by decide) ?_
            refine x_lv (lv1 := [(0, .ref (a t)), (1, .ref (a 71)), (2, .int (nI (y + 1)))]) [1, 2, 0] rfl ?_
            exact ih14 (y + 1) w71 hW72 (by omega) (by omega) ⟨_, _, _, _, _, k82⟩ kp76
    refine x_lv (lv1 := [(0, .ref (a t)), (1, .ref (a 71)), (2, .int 0)]) [1, 2, 0] rfl ?_
    exact loop14 _ 0 ws hW (Nat.lt_succ_self _) (by omega) ⟨_, _, _, _, _, k1⟩ kp0
  · skip
    have nf83 := nI_nlt' (a := n2) (b := 9999) c9 (by omega) (by omega)
    refine x_iconst C (v := 0) dX9_passDay_10 (by decide) rfl ?_
    exact x_zret C hr hlk rfl dX9_passDay_11 ⟨hW, kp0, (Or.inl rfl)⟩
theorem dX9_passDays_0 : decode cX9_passDays 0 = .ok (.aload_n 0, 1) := by decide +kernel
theorem dX9_passDays_1 : decode cX9_passDays 1 = .ok (.iconst 0, 1) := by decide +kernel
theorem dX9_passDays_2 : decode cX9_passDays 2 = .ok (.putfield 46, 3) := by decide +kernel
theorem dX9_passDays_5 : decode cX9_passDays 5 = .ok (.aload_n 0, 1) := by decide +kernel
theorem dX9_passDays_6 : decode cX9_passDays 6 = .ok (.iconst 0, 1) := by decide +kernel
theorem dX9_passDays_7 : decode cX9_passDays 7 = .ok (.putfield 49, 3) := by decide +kernel
theorem dX9_passDays_10 : decode cX9_passDays 10 = .ok (.aload_n 0, 1) := by decide +kernel
theorem dX9_passDays_11 : decode cX9_passDays 11 = .ok (.iconst 0, 1) := by decide +kernel
theorem dX9_passDays_12 : decode cX9_passDays 12 = .ok (.putfield 52, 3) := by decide +kernel
theorem dX9_passDays_15 : decode cX9_passDays 15 = .ok (.aload_n 0, 1) := by decide +kernel
theorem dX9_passDays_16 : decode cX9_passDays 16 = .ok (.iconst 0, 1) := by decide +kernel
theorem dX9_passDays_17 : decode cX9_passDays 17 = .ok (.putfield 55, 3) := by decide +kernel
theorem dX9_passDays_20 : decode cX9_passDays 20 = .ok (.iconst 0, 1) := by decide +kernel
theorem dX9_passDays_21 : decode cX9_passDays 21 = .ok (.istore_n 3, 1) := by decide +kernel
theorem dX9_passDays_22 : decode cX9_passDays 22 = .ok (.iload_n 3, 1) := by decide +kernel
theorem dX9_passDays_23 : decode cX9_passDays 23 = .ok (.iload_n 1, 1) := by decide +kernel
theorem dX9_passDays_24 : decode cX9_passDays 24 = .ok (.if_icmp .ge 18, 3) := by decide +kernel
theorem dX9_passDays_27 : decode cX9_passDays 27 = .ok (.aload_n 0, 1) := by decide +kernel
theorem dX9_passDays_28 : decode cX9_passDays 28 = .ok (.aload_n 2, 1) := by decide +kernel
theorem dX9_passDays_29 : decode cX9_passDays 29 = .ok (.invokevirtual 71, 3) := by decide +kernel
theorem dX9_passDays_32 : decode cX9_passDays 32 = .ok (.ifCond .ne 4, 3) := by decide +kernel
theorem dX9_passDays_35 : decode cX9_passDays 35 = .ok (.return_, 1) := by decide +kernel
theorem dX9_passDays_36 : decode cX9_passDays 36 = .ok (.iinc 3 1, 3) := by decide +kernel
theorem dX9_passDays_39 : decode cX9_passDays 39 = .ok (.goto (-17), 3) := by decide +kernel
theorem dX9_passDays_42 : decode cX9_passDays 42 = .ok (.return_, 1) := by decide +kernel
set_option maxRecDepth 20000 in
set_option maxHeartbeats 4000000 in
theorem c_passDays (E : xE) (l : Launch) (a : Nat → Nat) (ws : va_W) (hW : WX (okX E a) ws) (t : Nat) (ht : tb t) (n0 : Nat) (hn0 : n0 ≤ 60) : xV E l yX9_passDays cX9_passDays 4 6 0 0 [.ref (a t), .int (nI n0), .ref (a 71)] ws (fun w => WX (okX E a) w ∧ keeps ws w (fun q => (t ≤ q ∧ q < t + 22 ∧ q ≠ t + 1 ∧ q ≠ t + 4) ∨ (71 ≤ q ∧ q < 79))) := by
  refine xV_start (lv := [(0, .ref (a t)), (1, .int (nI n0)), (2, .ref (a 71))]) RX9 (by decide) rfl (Nat.le_of_ble_eq_true rfl) rfl (fun p e s m below meth c A C hr hlk hin => ?_)
  have htb := tb_lo ht
  have kp0 : keeps ws ws (fun q => (t ≤ q ∧ q < t + 22 ∧ q ≠ t + 1 ∧ q ≠ t + 4) ∨ (71 ≤ q ∧ q < 79)) := keeps_rf
  refine x_aload_n C dX9_passDays_0 rfl 0 rfl rfl ?_
  refine x_iconst C (v := 0) dX9_passDays_1 (by decide) rfl ?_
  obtain ⟨_, k1, n2, v4, v5, v6, v7, v8, bn3, rfl⟩ := hW (t + 0) _ (okX_t ht (j := 0) rfl)
  obtain ⟨w9, hw10⟩ : ∃ w : va_W, w = List.set ws t (ob (a t) 8 [.int (nI n2), .int v4, .ref (a (t + 1)), .ref (a (t + 4)), .ref (a (t + 9)), .ref (a (t + 16)), .int 0, .int v6, .int v7, .int v8]) := ⟨_, rfl⟩
  refine x_put C (ci := 8) (k := 6) (ty := .int) t k1 rfl in_X9 tyX9 tyX9_ok nmX9 (by decide) w_215 rfl rfl rfl rfl (Nat.le_of_ble_eq_true rfl) hw10.symm dX9_passDays_2 rfl ?_
  have hW11 : WX (okX E a) w9 := by rw [hw10]; exact hW.set (k := t) (okX_t ht (j := 0) rfl) ⟨n2, v4, (0 : Int32), v6, v7, v8, by omega, rfl⟩
  have k12 : w9[t]? = some (ob (a t) 8 [.int (nI n2), .int v4, .ref (a (t + 1)), .ref (a (t + 4)), .ref (a (t + 9)), .ref (a (t + 16)), .int 0, .int v6, .int v7, .int v8]) := by rw [hw10]; exact set_eq k1
  have kp13 := keeps_set kp0 hw10 (by first | exact rfl | decide | omega | (dsimp only; omega))
  refine x_aload_n C dX9_passDays_5 rfl 0 rfl rfl ?_
  refine x_iconst C (v := 0) dX9_passDays_6 (by decide) rfl ?_
  obtain ⟨w14, hw15⟩ : ∃ w : va_W, w = List.set w9 t (ob (a t) 8 [.int (nI n2), .int v4, .ref (a (t + 1)), .ref (a (t + 4)), .ref (a (t + 9)), .ref (a (t + 16)), .int 0, .int 0, .int v7, .int v8]) := ⟨_, rfl⟩
  refine x_put C (ci := 8) (k := 7) (ty := .int) t k12 rfl in_X9 tyX9 tyX9_ok nmX9 (by decide) w_217 rfl rfl rfl rfl (Nat.le_of_ble_eq_true rfl) hw15.symm dX9_passDays_7 rfl ?_
  have hW16 : WX (okX E a) w14 := by rw [hw15]; exact hW11.set (k := t) (okX_t ht (j := 0) rfl) ⟨n2, v4, (0 : Int32), (0 : Int32), v7, v8, by omega, rfl⟩
  have k17 : w14[t]? = some (ob (a t) 8 [.int (nI n2), .int v4, .ref (a (t + 1)), .ref (a (t + 4)), .ref (a (t + 9)), .ref (a (t + 16)), .int 0, .int 0, .int v7, .int v8]) := by rw [hw15]; exact set_eq k12
  have kp18 := keeps_set kp13 hw15 (by first | exact rfl | decide | omega | (dsimp only; omega))
  refine x_aload_n C dX9_passDays_10 rfl 0 rfl rfl ?_
  refine x_iconst C (v := 0) dX9_passDays_11 (by decide) rfl ?_
  obtain ⟨w19, hw20⟩ : ∃ w : va_W, w = List.set w14 t (ob (a t) 8 [.int (nI n2), .int v4, .ref (a (t + 1)), .ref (a (t + 4)), .ref (a (t + 9)), .ref (a (t + 16)), .int 0, .int 0, .int 0, .int v8]) := ⟨_, rfl⟩
  refine x_put C (ci := 8) (k := 8) (ty := .int) t k17 rfl in_X9 tyX9 tyX9_ok nmX9 (by decide) w_219 rfl rfl rfl rfl (Nat.le_of_ble_eq_true rfl) hw20.symm dX9_passDays_12 rfl ?_
  have hW21 : WX (okX E a) w19 := by rw [hw20]; exact hW16.set (k := t) (okX_t ht (j := 0) rfl) ⟨n2, v4, (0 : Int32), (0 : Int32), (0 : Int32), v8, by omega, rfl⟩
  have k22 : w19[t]? = some (ob (a t) 8 [.int (nI n2), .int v4, .ref (a (t + 1)), .ref (a (t + 4)), .ref (a (t + 9)), .ref (a (t + 16)), .int 0, .int 0, .int 0, .int v8]) := by rw [hw20]; exact set_eq k17
  have kp23 := keeps_set kp18 hw20 (by first | exact rfl | decide | omega | (dsimp only; omega))
  refine x_aload_n C dX9_passDays_15 rfl 0 rfl rfl ?_
  refine x_iconst C (v := 0) dX9_passDays_16 (by decide) rfl ?_
  obtain ⟨w24, hw25⟩ : ∃ w : va_W, w = List.set w19 t (ob (a t) 8 [.int (nI n2), .int v4, .ref (a (t + 1)), .ref (a (t + 4)), .ref (a (t + 9)), .ref (a (t + 16)), .int 0, .int 0, .int 0, .int 0]) := ⟨_, rfl⟩
  refine x_put C (ci := 8) (k := 9) (ty := .int) t k22 rfl in_X9 tyX9 tyX9_ok nmX9 (by decide) w_221 rfl rfl rfl rfl (Nat.le_of_ble_eq_true rfl) hw25.symm dX9_passDays_17 rfl ?_
  have hW26 : WX (okX E a) w24 := by rw [hw25]; exact hW21.set (k := t) (okX_t ht (j := 0) rfl) ⟨n2, v4, (0 : Int32), (0 : Int32), (0 : Int32), (0 : Int32), by omega, rfl⟩
  have k27 : w24[t]? = some (ob (a t) 8 [.int (nI n2), .int v4, .ref (a (t + 1)), .ref (a (t + 4)), .ref (a (t + 9)), .ref (a (t + 16)), .int 0, .int 0, .int 0, .int 0]) := by rw [hw25]; exact set_eq k22
  have kp28 := keeps_set kp23 hw25 (by first | exact rfl | decide | omega | (dsimp only; omega))
  refine x_iconst C (v := 0) dX9_passDays_20 (by decide) rfl ?_
  refine x_istore_n C (lv' := [(3, .int 0), (0, .ref (a t)), (1, .int (nI n0)), (2, .ref (a 71))]) dX9_passDays_21 rfl (by decide) rfl rfl ?_
  have loop22 : ∀ (fu22 : Nat) (k : Nat) (wl22 : va_W), WX (okX E a) wl22 → n0 - k < fu22 → k ≤ n0 → keeps ws wl22 (fun q => (t ≤ q ∧ q < t + 22 ∧ q ≠ t + 1 ∧ q ≠ t + 4) ∨ (71 ≤ q ∧ q < 79)) → X E p l e (xRm 6 0 0) s m ([.ref (a t), .int (nI n0), .ref (a 71)] : List Value).toArray below meth c A 4 0 0 (MQ below (va_Qv (fun w => WX (okX E a) w ∧ keeps ws w (fun q => (t ≤ q ∧ q < t + 22 ∧ q ≠ t + 1 ∧ q ≠ t + 4) ∨ (71 ≤ q ∧ q < 79))) (xB E A) A) ([.ref (a t), .int (nI n0), .ref (a 71)] : List Value).toArray s 0 0 A) wl22 22 [(0, .ref (a t)), (1, .int (nI n0)), (2, .ref (a 71)), (3, .int (nI k))] [] := by
    intro fu22
    induction fu22 with
    | zero => intro k wl22 _ q; omega
    | succ fu22 ih22 =>
      intro k wl22 hWl22 me22 iv22_0 kq22
      refine x_iload_n C dX9_passDays_22 rfl 3 rfl rfl ?_
      refine x_iload_n C dX9_passDays_23 rfl 1 rfl rfl ?_
      refine x_icmp_ge C (tgt := 42) dX9_passDays_24 (by decide) rfl (fun c29 => ?_) (fun c29 => ?_)
      · skip
        have nf30 := nI_le' (a := n0) (b := k) c29 (by omega) (by omega)
        exact x_vret C hr hlk dX9_passDays_42 ⟨hWl22, kq22⟩
      · skip
        have nf31 := nI_nle' (a := n0) (b := k) c29 (by omega) (by omega)
        refine x_aload_n C dX9_passDays_27 rfl 0 rfl rfl ?_
        refine x_aload_n C dX9_passDays_28 rfl 2 rfl rfl ?_
        obtain ⟨_, k32, n33, v35, v36, v37, v38, v39, bn34, rfl⟩ := hWl22 (t + 0) _ (okX_t ht (j := 0) rfl)
        refine x_vi C (As := [.ref (a 71)]) (rest := []) (c_passDay E l a wl22 hWl22 t ht) mf_X9_passDay w_822 t k32 rfl rfl rfl (Nat.le_of_ble_eq_true rfl) ⟨(Nat.le_of_ble_eq_true rfl), (Nat.le_of_ble_eq_true rfl)⟩ ⟨(Nat.le_of_ble_eq_true rfl), (Nat.le_of_ble_eq_true rfl)⟩ dX9_passDays_29 rfl (fun r41 w42 h40 => ?_)
        obtain ⟨hW43, kq44, zb45⟩ := h40
        have kp46 := keeps_tr kq22 kq44 (fun q hq => by first | omega | (dsimp only at *; omega))
        refine x_if_ne C (tgt := 36) dX9_passDays_32 (by decide) rfl (fun c47 => ?_) (fun c47 => ?_)
        · skip
          refine x_iinc C (v := (nI (k + 1))) (lv' := [(3, .int (nI (k + 1))), (0, .ref (a t)), (1, .int (nI n0)), (2, .ref (a 71))]) dX9_passDays_36 3 rfl (nI_add k 1) (by decide) rfl rfl ?_
          refine x_goto C (tgt := 22) dX9_passDays_39 (by decide) ?_
          refine x_lv (lv1 := [(0, .ref (a t)), (1, .int (nI n0)), (2, .ref (a 71)), (3, .int (nI (k + 1)))]) [1, 2, 3, 0] rfl ?_
          exact ih22 (k + 1) w42 hW43 (by omega) (by omega) kp46
        · skip
          exact x_vret C hr hlk dX9_passDays_35 ⟨hW43, kp46⟩
  refine x_lv (lv1 := [(0, .ref (a t)), (1, .int (nI n0)), (2, .ref (a 71)), (3, .int 0)]) [1, 2, 3, 0] rfl ?_
  exact loop22 _ 0 w24 hW26 (Nat.lt_succ_self _) (by omega) kp28
theorem dX9_breakEgg_0 : decode cX9_breakEgg 0 = .ok (.aload_n 0, 1) := by decide +kernel
theorem dX9_breakEgg_1 : decode cX9_breakEgg 1 = .ok (.getfield 35, 3) := by decide +kernel
theorem dX9_breakEgg_4 : decode cX9_breakEgg 4 = .ok (.getfield 124, 3) := by decide +kernel
theorem dX9_breakEgg_7 : decode cX9_breakEgg 7 = .ok (.iload_n 1, 1) := by decide +kernel
theorem dX9_breakEgg_8 : decode cX9_breakEgg 8 = .ok (.iconst 1, 1) := by decide +kernel
theorem dX9_breakEgg_9 : decode cX9_breakEgg 9 = .ok (.iastore, 1) := by decide +kernel
theorem dX9_breakEgg_10 : decode cX9_breakEgg 10 = .ok (.aload_n 0, 1) := by decide +kernel
theorem dX9_breakEgg_11 : decode cX9_breakEgg 11 = .ok (.getfield 28, 3) := by decide +kernel
theorem dX9_breakEgg_14 : decode cX9_breakEgg 14 = .ok (.aload_n 0, 1) := by decide +kernel
theorem dX9_breakEgg_15 : decode cX9_breakEgg 15 = .ok (.getfield 35, 3) := by decide +kernel
theorem dX9_breakEgg_18 : decode cX9_breakEgg 18 = .ok (.getfield 127, 3) := by decide +kernel
theorem dX9_breakEgg_21 : decode cX9_breakEgg 21 = .ok (.iload_n 1, 1) := by decide +kernel
theorem dX9_breakEgg_22 : decode cX9_breakEgg 22 = .ok (.iaload, 1) := by decide +kernel
theorem dX9_breakEgg_23 : decode cX9_breakEgg 23 = .ok (.aload_n 0, 1) := by decide +kernel
theorem dX9_breakEgg_24 : decode cX9_breakEgg 24 = .ok (.getfield 35, 3) := by decide +kernel
theorem dX9_breakEgg_27 : decode cX9_breakEgg 27 = .ok (.getfield 128, 3) := by decide +kernel
theorem dX9_breakEgg_30 : decode cX9_breakEgg 30 = .ok (.iload_n 1, 1) := by decide +kernel
theorem dX9_breakEgg_31 : decode cX9_breakEgg 31 = .ok (.iaload, 1) := by decide +kernel
theorem dX9_breakEgg_32 : decode cX9_breakEgg 32 = .ok (.invokevirtual 131, 3) := by decide +kernel
theorem dX9_breakEgg_35 : decode cX9_breakEgg 35 = .ok (.return_, 1) := by decide +kernel
set_option maxRecDepth 20000 in
set_option maxHeartbeats 4000000 in
theorem c_breakEgg (E : xE) (l : Launch) (a : Nat → Nat) (ws : va_W) (hW : WX (okX E a) ws) (t : Nat) (ht : tb t) (i0 : Nat) (hi0 : i0 ≤ 47) : xV E l yX9_breakEgg cX9_breakEgg 2 2 0 0 [.ref (a t), .int (nI i0)] ws (fun w => WX (okX E a) w ∧ keeps ws w (fun q => t ≤ q ∧ q < t + 22 ∧ q ≠ t + 1 ∧ q ≠ t + 4)) := by
  refine xV_start (lv := [(0, .ref (a t)), (1, .int (nI i0))]) RX9 (by decide) rfl (Nat.le_of_ble_eq_true rfl) rfl (fun p e s m below meth c A C hr hlk hin => ?_)
  have htb := tb_lo ht
  have kp0 : keeps ws ws (fun q => t ≤ q ∧ q < t + 22 ∧ q ≠ t + 1 ∧ q ≠ t + 4) := keeps_rf
  refine x_aload_n C dX9_breakEgg_0 rfl 0 rfl rfl ?_
  obtain ⟨_, k1, n2, v4, v5, v6, v7, v8, bn3, rfl⟩ := hW (t + 0) _ (okX_t ht (j := 0) rfl)
  refine x_get C (ci := 8) (k := 4) t k1 rfl in_X9 (by decide) w_206 rfl dX9_breakEgg_1 rfl ?_
  obtain ⟨_, k9, n10, bn11, rfl⟩ := hW (t + 9) _ (okX_t ht (j := 9) rfl)
  refine x_get C (ci := 1) (k := 6) (t + 9) k9 rfl in_X1 (by decide) w_145 rfl dX9_breakEgg_4 rfl ?_
  refine x_iload_n C dX9_breakEgg_7 rfl 1 rfl rfl ?_
  refine x_iconst C (v := 1) dX9_breakEgg_8 (by decide) rfl ?_
  obtain ⟨_, k12, f13, rfl⟩ := hW (t + 15) _ (okX_t ht (j := 15) rfl)
  obtain ⟨w14, hw15⟩ : ∃ w : va_W, w = List.set ws (t + 15) (iA E (a (t + 15)) 48 (upd f13 (nI i0).toNatClampNeg 1)) := ⟨_, rfl⟩
  refine x_iast C (t + 15) k12 (vp_in_nI (by omega) (by decide)) hw15.symm dX9_breakEgg_9 rfl ?_
  have hW16 : WX (okX E a) w14 := by rw [hw15]; exact hW.set (k := (t + 15)) (okX_t ht (j := 15) rfl) ⟨_, rfl⟩
  have k17 : w14[t]? = some (ob (a t) 8 [.int (nI n2), .int v4, .ref (a (t + 1)), .ref (a (t + 4)), .ref (a (t + 9)), .ref (a (t + 16)), .int v5, .int v6, .int v7, .int v8]) := by rw [hw15]; exact set_ne k1 (by omega)
  have k18 : w14[t + 9]? = some (ob (a (t + 9)) 1 [.int (nI n10), .ref (a (t + 10)), .ref (a (t + 11)), .ref (a (t + 12)), .ref (a (t + 13)), .ref (a (t + 14)), .ref (a (t + 15))]) := by rw [hw15]; exact set_ne k9 (by omega)
  have k19 : w14[t + 15]? = some (iA E (a (t + 15)) 48 (upd f13 (nI i0).toNatClampNeg 1)) := by rw [hw15]; exact set_eq k12
  have kp20 := keeps_set kp0 hw15 (by first | exact rfl | decide | omega | (dsimp only; omega))
  refine x_aload_n C dX9_breakEgg_10 rfl 0 rfl rfl ?_
  refine x_get C (ci := 8) (k := 3) t k17 rfl in_X9 (by decide) w_203 rfl dX9_breakEgg_11 rfl ?_
  refine x_aload_n C dX9_breakEgg_14 rfl 0 rfl rfl ?_
  refine x_get C (ci := 8) (k := 4) t k17 rfl in_X9 (by decide) w_206 rfl dX9_breakEgg_15 rfl ?_
  refine x_get C (ci := 1) (k := 4) (t + 9) k18 rfl in_X1 (by decide) w_137 rfl dX9_breakEgg_18 rfl ?_
  refine x_iload_n C dX9_breakEgg_21 rfl 1 rfl rfl ?_
  obtain ⟨_, k21, g22, gb23, rfl⟩ := hW16 (t + 13) _ (okX_t ht (j := 13) rfl)
  refine x_ialk C (v := nI (g22 i0)) i0 (nI_clamp (by omega)) (nI_pos (by omega)) (by omega) (t + 13) k21 rfl dX9_breakEgg_22 rfl ?_
  have bx24 := gb23 i0
  refine x_aload_n C dX9_breakEgg_23 rfl 0 rfl rfl ?_
  refine x_get C (ci := 8) (k := 4) t k17 rfl in_X9 (by decide) w_206 rfl dX9_breakEgg_24 rfl ?_
  refine x_get C (ci := 1) (k := 1) (t + 9) k18 rfl in_X1 (by decide) w_125 rfl dX9_breakEgg_27 rfl ?_
  refine x_iload_n C dX9_breakEgg_30 rfl 1 rfl rfl ?_
  obtain ⟨_, k25, f26, rfl⟩ := hW16 (t + 10) _ (okX_t ht (j := 10) rfl)
  refine x_iald C (v := (f26 (nI i0).toNatClampNeg)) (t + 10) k25 (vp_in_nI (by omega) (by decide)) rfl dX9_breakEgg_31 rfl ?_
  refine x_any (fun v27 => ?_)
  obtain ⟨_, k28, v29, rfl⟩ := hW16 (t + 4) _ (okX_t ht (j := 4) rfl)
  refine x_vv C (As := [.int (nI (g22 i0)), .int v27]) (rest := []) (c_live E l a w14 hW16 t ht (g22 i0) v27 (by omega)) mf_X5_live w_772 (t + 4) k28 rfl rfl rfl (Nat.le_of_ble_eq_true rfl) ⟨(Nat.le_of_ble_eq_true rfl), (Nat.le_of_ble_eq_true rfl)⟩ ⟨(Nat.le_of_ble_eq_true rfl), (Nat.le_of_ble_eq_true rfl)⟩ dX9_breakEgg_32 rfl (fun w32 h30 => ?_)
  obtain ⟨hW33, kq34⟩ := h30
  have k35 : w32[t + 4]? = some (ob (a (t + 4)) 4 [.int v29, .ref (a (t + 5)), .ref (a (t + 6)), .ref (a (t + 7)), .ref (a (t + 8))]) := keeps_at kq34 k28 (by first | decide | omega | (dsimp only; omega))
  have kp36 := keeps_tr kp20 kq34 (fun q hq => by first | omega | (dsimp only at *; omega))
  exact x_vret C hr hlk dX9_breakEgg_35 ⟨hW33, kp36⟩
theorem dX9_breakFor_0 : decode cX9_breakFor 0 = .ok (.aload_n 0, 1) := by decide +kernel
theorem dX9_breakFor_1 : decode cX9_breakFor 1 = .ok (.getfield 42, 3) := by decide +kernel
theorem dX9_breakFor_4 : decode cX9_breakFor 4 = .ok (.iload_n 2, 1) := by decide +kernel
theorem dX9_breakFor_5 : decode cX9_breakFor 5 = .ok (.aload_n 3, 1) := by decide +kernel
theorem dX9_breakFor_6 : decode cX9_breakFor 6 = .ok (.iconst 5, 1) := by decide +kernel
theorem dX9_breakFor_7 : decode cX9_breakFor 7 = .ok (.aload_n 0, 1) := by decide +kernel
theorem dX9_breakFor_8 : decode cX9_breakFor 8 = .ok (.iload_n 1, 1) := by decide +kernel
theorem dX9_breakFor_9 : decode cX9_breakFor 9 = .ok (.iload_n 2, 1) := by decide +kernel
theorem dX9_breakFor_10 : decode cX9_breakFor 10 = .ok (.invokevirtual 118, 3) := by decide +kernel
theorem dX9_breakFor_13 : decode cX9_breakFor 13 = .ok (.aload_n 0, 1) := by decide +kernel
theorem dX9_breakFor_14 : decode cX9_breakFor 14 = .ok (.getfield 9, 3) := by decide +kernel
theorem dX9_breakFor_17 : decode cX9_breakFor 17 = .ok (.invokevirtual 135, 3) := by decide +kernel
theorem dX9_breakFor_20 : decode cX9_breakFor 20 = .ok (.aload_n 0, 1) := by decide +kernel
theorem dX9_breakFor_21 : decode cX9_breakFor 21 = .ok (.iload_n 1, 1) := by decide +kernel
theorem dX9_breakFor_22 : decode cX9_breakFor 22 = .ok (.invokevirtual 139, 3) := by decide +kernel
theorem dX9_breakFor_25 : decode cX9_breakFor 25 = .ok (.return_, 1) := by decide +kernel
set_option maxRecDepth 20000 in
set_option maxHeartbeats 4000000 in
theorem c_breakFor (E : xE) (l : Launch) (a : Nat → Nat) (ws : va_W) (hW : WX (okX E a) ws) (t : Nat) (ht : tb t) (i0 : Nat) (wk : Nat) (hi0 : i0 ≤ 47) (hwk : wk ≤ 7) : xV E l yX9_breakFor cX9_breakFor 4 4 0 0 [.ref (a t), .int (nI i0), .int (nI wk), .ref (a 71)] ws (fun w => WX (okX E a) w ∧ keeps ws w (fun q => (t ≤ q ∧ q < t + 22 ∧ q ≠ t + 1 ∧ q ≠ t + 4) ∨ (71 ≤ q ∧ q < 79))) := by
  refine xV_start (lv := [(0, .ref (a t)), (1, .int (nI i0)), (2, .int (nI wk)), (3, .ref (a 71))]) RX9 (by decide) rfl (Nat.le_of_ble_eq_true rfl) rfl (fun p e s m below meth c A C hr hlk hin => ?_)
  have htb := tb_lo ht
  have kp0 : keeps ws ws (fun q => (t ≤ q ∧ q < t + 22 ∧ q ≠ t + 1 ∧ q ≠ t + 4) ∨ (71 ≤ q ∧ q < 79)) := keeps_rf
  refine x_aload_n C dX9_breakFor_0 rfl 0 rfl rfl ?_
  obtain ⟨_, k1, n2, v4, v5, v6, v7, v8, bn3, rfl⟩ := hW (t + 0) _ (okX_t ht (j := 0) rfl)
  refine x_get C (ci := 8) (k := 5) t k1 rfl in_X9 (by decide) w_211 rfl dX9_breakFor_1 rfl ?_
  refine x_iload_n C dX9_breakFor_4 rfl 2 rfl rfl ?_
  refine x_aload_n C dX9_breakFor_5 rfl 3 rfl rfl ?_
  refine x_iconst C (v := 5) dX9_breakFor_6 (by decide) rfl ?_
  refine x_aload_n C dX9_breakFor_7 rfl 0 rfl rfl ?_
  refine x_iload_n C dX9_breakFor_8 rfl 1 rfl rfl ?_
  refine x_iload_n C dX9_breakFor_9 rfl 2 rfl rfl ?_
  obtain ⟨_, k9, v10, n11, n13, bn12, bn14, rfl⟩ := hW 71 _ rfl
  refine x_vi C (As := [.int 5, .ref (a t), .int (nI i0), .int (nI wk)]) (rest := [.int (nI wk), .ref (a (t + 16))]) (c_ofEgg E l a ws hW t ht 5 i0 ((nI wk)) (by omega) (by omega)) mf_X3_ofEgg w_731 71 k9 rfl rfl rfl (Nat.le_of_ble_eq_true rfl) ⟨(Nat.le_of_ble_eq_true rfl), (Nat.le_of_ble_eq_true rfl)⟩ ⟨(Nat.le_of_ble_eq_true rfl), (Nat.le_of_ble_eq_true rfl)⟩ dX9_breakFor_10 rfl (fun r16 w17 h15 => ?_)
  obtain ⟨hW18, kq19⟩ := h15
  have k20 : w17[t]? = some (ob (a t) 8 [.int (nI n2), .int v4, .ref (a (t + 1)), .ref (a (t + 4)), .ref (a (t + 9)), .ref (a (t + 16)), .int v5, .int v6, .int v7, .int v8]) := keeps_at kq19 k1 (by first | decide | omega | (dsimp only; omega))
  have kp21 := keeps_tr kp0 kq19 (fun q hq => by first | omega | (dsimp only at *; omega))
  refine x_aload_n C dX9_breakFor_13 rfl 0 rfl rfl ?_
  refine x_get C (ci := 8) (k := 0) t k20 rfl in_X9 (by decide) w_195 rfl dX9_breakFor_14 rfl ?_
  obtain ⟨_, k22, v23, rfl⟩ := hW18 (t + 16) _ (okX_t ht (j := 16) rfl)
  refine x_vv C (As := [.int (nI wk), .int r16, .int (nI n2)]) (rest := []) (c_Works_add E l a w17 hW18 t ht wk r16 ((nI n2)) (by omega)) mf_X10_add w_762 (t + 16) k22 rfl rfl rfl (Nat.le_of_ble_eq_true rfl) ⟨(Nat.le_of_ble_eq_true rfl), (Nat.le_of_ble_eq_true rfl)⟩ ⟨(Nat.le_of_ble_eq_true rfl), (Nat.le_of_ble_eq_true rfl)⟩ dX9_breakFor_17 rfl (fun w26 h24 => ?_)
  obtain ⟨hW27, kq28⟩ := h24
  have kp29 := keeps_tr kp21 kq28 (fun q hq => by first | omega | (dsimp only at *; omega))
  refine x_aload_n C dX9_breakFor_20 rfl 0 rfl rfl ?_
  refine x_iload_n C dX9_breakFor_21 rfl 1 rfl rfl ?_
  obtain ⟨_, k30, n31, v33, v34, v35, v36, v37, bn32, rfl⟩ := hW27 (t + 0) _ (okX_t ht (j := 0) rfl)
  refine x_vv C (As := [.int (nI i0)]) (rest := []) (c_breakEgg E l a w26 hW27 t ht i0 (by omega)) mf_X9_breakEgg w_768 t k30 rfl rfl rfl (Nat.le_of_ble_eq_true rfl) ⟨(Nat.le_of_ble_eq_true rfl), (Nat.le_of_ble_eq_true rfl)⟩ ⟨(Nat.le_of_ble_eq_true rfl), (Nat.le_of_ble_eq_true rfl)⟩ dX9_breakFor_22 rfl (fun w40 h38 => ?_)
  obtain ⟨hW41, kq42⟩ := h38
  have kp43 := keeps_tr kp29 kq42 (fun q hq => by first | omega | (dsimp only at *; omega))
  exact x_vret C hr hlk dX9_breakFor_25 ⟨hW41, kp43⟩
theorem dX9_breakAllFor_0 : decode cX9_breakAllFor 0 = .ok (.iconst 0, 1) := by decide +kernel
theorem dX9_breakAllFor_1 : decode cX9_breakAllFor 1 = .ok (.istore 4, 2) := by decide +kernel
theorem dX9_breakAllFor_3 : decode cX9_breakAllFor 3 = .ok (.iload 4, 2) := by decide +kernel
theorem dX9_breakAllFor_5 : decode cX9_breakAllFor 5 = .ok (.aload_n 0, 1) := by decide +kernel
theorem dX9_breakAllFor_6 : decode cX9_breakAllFor 6 = .ok (.getfield 35, 3) := by decide +kernel
theorem dX9_breakAllFor_9 : decode cX9_breakAllFor 9 = .ok (.getfield 83, 3) := by decide +kernel
theorem dX9_breakAllFor_12 : decode cX9_breakAllFor 12 = .ok (.if_icmp .ge 30, 3) := by decide +kernel
theorem dX9_breakAllFor_15 : decode cX9_breakAllFor 15 = .ok (.aload_n 0, 1) := by decide +kernel
theorem dX9_breakAllFor_16 : decode cX9_breakAllFor 16 = .ok (.getfield 35, 3) := by decide +kernel
theorem dX9_breakAllFor_19 : decode cX9_breakAllFor 19 = .ok (.iload 4, 2) := by decide +kernel
theorem dX9_breakAllFor_21 : decode cX9_breakAllFor 21 = .ok (.iload_n 2, 1) := by decide +kernel
theorem dX9_breakAllFor_22 : decode cX9_breakAllFor 22 = .ok (.invokevirtual 143, 3) := by decide +kernel
theorem dX9_breakAllFor_25 : decode cX9_breakAllFor 25 = .ok (.ifCond .eq 11, 3) := by decide +kernel
theorem dX9_breakAllFor_28 : decode cX9_breakAllFor 28 = .ok (.aload_n 0, 1) := by decide +kernel
theorem dX9_breakAllFor_29 : decode cX9_breakAllFor 29 = .ok (.iload 4, 2) := by decide +kernel
theorem dX9_breakAllFor_31 : decode cX9_breakAllFor 31 = .ok (.iload_n 1, 1) := by decide +kernel
theorem dX9_breakAllFor_32 : decode cX9_breakAllFor 32 = .ok (.aload_n 3, 1) := by decide +kernel
theorem dX9_breakAllFor_33 : decode cX9_breakAllFor 33 = .ok (.invokevirtual 147, 3) := by decide +kernel
theorem dX9_breakAllFor_36 : decode cX9_breakAllFor 36 = .ok (.iinc 4 1, 3) := by decide +kernel
theorem dX9_breakAllFor_39 : decode cX9_breakAllFor 39 = .ok (.goto (-36), 3) := by decide +kernel
theorem dX9_breakAllFor_42 : decode cX9_breakAllFor 42 = .ok (.return_, 1) := by decide +kernel
set_option maxRecDepth 20000 in
set_option maxHeartbeats 4000000 in
theorem c_breakAllFor (E : xE) (l : Launch) (a : Nat → Nat) (ws : va_W) (hW : WX (okX E a) ws) (t : Nat) (ht : tb t) (wk : Nat) (p0 : Int32) (hwk : wk ≤ 7) : xV E l yX9_breakAllFor cX9_breakAllFor 5 5 0 0 [.ref (a t), .int (nI wk), .int p0, .ref (a 71)] ws (fun w => WX (okX E a) w ∧ keeps ws w (fun q => (t ≤ q ∧ q < t + 22 ∧ q ≠ t + 1 ∧ q ≠ t + 4) ∨ (71 ≤ q ∧ q < 79))) := by
  refine xV_start (lv := [(0, .ref (a t)), (1, .int (nI wk)), (2, .int p0), (3, .ref (a 71))]) RX9 (by decide) rfl (Nat.le_of_ble_eq_true rfl) rfl (fun p e s m below meth c A C hr hlk hin => ?_)
  have htb := tb_lo ht
  have kp0 : keeps ws ws (fun q => (t ≤ q ∧ q < t + 22 ∧ q ≠ t + 1 ∧ q ≠ t + 4) ∨ (71 ≤ q ∧ q < 79)) := keeps_rf
  refine x_iconst C (v := 0) dX9_breakAllFor_0 (by decide) rfl ?_
  refine x_istore C (lv' := [(4, .int 0), (0, .ref (a t)), (1, .int (nI wk)), (2, .int p0), (3, .ref (a 71))]) dX9_breakAllFor_1 (by decide) rfl rfl ?_
  have loop3 : ∀ (fu3 : Nat) (i : Nat) (wl3 : va_W), WX (okX E a) wl3 → 48 - i < fu3 → i ≤ 48 → keeps ws wl3 (fun q => (t ≤ q ∧ q < t + 22 ∧ q ≠ t + 1 ∧ q ≠ t + 4) ∨ (71 ≤ q ∧ q < 79)) → X E p l e (xRm 5 0 0) s m ([.ref (a t), .int (nI wk), .int p0, .ref (a 71)] : List Value).toArray below meth c A 5 0 0 (MQ below (va_Qv (fun w => WX (okX E a) w ∧ keeps ws w (fun q => (t ≤ q ∧ q < t + 22 ∧ q ≠ t + 1 ∧ q ≠ t + 4) ∨ (71 ≤ q ∧ q < 79))) (xB E A) A) ([.ref (a t), .int (nI wk), .int p0, .ref (a 71)] : List Value).toArray s 0 0 A) wl3 3 [(0, .ref (a t)), (1, .int (nI wk)), (2, .int p0), (3, .ref (a 71)), (4, .int (nI i))] [] := by
    intro fu3
    induction fu3 with
    | zero => intro i wl3 _ q; omega
    | succ fu3 ih3 =>
      intro i wl3 hWl3 me3 iv3_0 kq3
      refine x_iload C dX9_breakAllFor_3 4 rfl rfl ?_
      refine x_aload_n C dX9_breakAllFor_5 rfl 0 rfl rfl ?_
      obtain ⟨_, k1, n2, v4, v5, v6, v7, v8, bn3, rfl⟩ := hWl3 (t + 0) _ (okX_t ht (j := 0) rfl)
      refine x_get C (ci := 8) (k := 4) t k1 rfl in_X9 (by decide) w_206 rfl dX9_breakAllFor_6 rfl ?_
      obtain ⟨_, k9, n10, bn11, rfl⟩ := hWl3 (t + 9) _ (okX_t ht (j := 9) rfl)
      refine x_get C (ci := 1) (k := 0) (t + 9) k9 rfl in_X1 (by decide) w_121 rfl dX9_breakAllFor_9 rfl ?_
      refine x_icmp_ge C (tgt := 42) dX9_breakAllFor_12 (by decide) rfl (fun c12 => ?_) (fun c12 => ?_)
      · skip
        have nf13 := nI_le' (a := n10) (b := i) c12 (by omega) (by omega)
        exact x_vret C hr hlk dX9_breakAllFor_42 ⟨hWl3, kq3⟩
      · skip
        have nf14 := nI_nle' (a := n10) (b := i) c12 (by omega) (by omega)
        refine x_aload_n C dX9_breakAllFor_15 rfl 0 rfl rfl ?_
        refine x_get C (ci := 8) (k := 4) t k1 rfl in_X9 (by decide) w_206 rfl dX9_breakAllFor_16 rfl ?_
        refine x_iload C dX9_breakAllFor_19 4 rfl rfl ?_
        refine x_iload_n C dX9_breakAllFor_21 rfl 2 rfl rfl ?_
        refine x_vi C (As := [.int (nI i), .int p0]) (rest := []) (c_Eggs_isWholeOf E l a wl3 hWl3 t ht ((nI i)) p0) mf_X1_isWholeOf w_1062 (t + 9) k9 rfl rfl rfl (Nat.le_of_ble_eq_true rfl) ⟨(Nat.le_of_ble_eq_true rfl), (Nat.le_of_ble_eq_true rfl)⟩ ⟨(Nat.le_of_ble_eq_true rfl), (Nat.le_of_ble_eq_true rfl)⟩ dX9_breakAllFor_22 rfl (fun r16 w17 h15 => ?_)
        obtain ⟨hW18, zb19, x20⟩ := h15
        refine x_ws hW18 ?_
        refine x_if_eq C (tgt := 36) dX9_breakAllFor_25 (by decide) rfl (fun c21 => ?_) (fun c21 => ?_)
        · skip
          refine x_iinc C (v := (nI (i + 1))) (lv' := [(4, .int (nI (i + 1))), (0, .ref (a t)), (1, .int (nI wk)), (2, .int p0), (3, .ref (a 71))]) dX9_breakAllFor_36 4 rfl (nI_add i 1) (by decide) rfl rfl ?_
          refine x_goto C (tgt := 3) dX9_breakAllFor_39 (by decide) ?_
          refine x_lv (lv1 := [(0, .ref (a t)), (1, .int (nI wk)), (2, .int p0), (3, .ref (a 71)), (4, .int (nI (i + 1)))]) [1, 2, 3, 4, 0] rfl ?_
          exact ih3 (i + 1) wl3 hWl3 (by omega) (by omega) kq3
        · skip
          have wi22 := wth_le (a := 0) (b := 47) (j := i) (x20 c21) (by omega) (by decide) (by decide)
          refine x_aload_n C dX9_breakAllFor_28 rfl 0 rfl rfl ?_
          refine x_iload C dX9_breakAllFor_29 4 rfl rfl ?_
          refine x_iload_n C dX9_breakAllFor_31 rfl 1 rfl rfl ?_
          refine x_aload_n C dX9_breakAllFor_32 rfl 3 rfl rfl ?_
          refine x_vv C (As := [.int (nI i), .int (nI wk), .ref (a 71)]) (rest := []) (c_breakFor E l a wl3 hWl3 t ht i wk (by omega) (by omega)) mf_X9_breakFor w_1063 t k1 rfl rfl rfl (Nat.le_of_ble_eq_true rfl) ⟨(Nat.le_of_ble_eq_true rfl), (Nat.le_of_ble_eq_true rfl)⟩ ⟨(Nat.le_of_ble_eq_true rfl), (Nat.le_of_ble_eq_true rfl)⟩ dX9_breakAllFor_33 rfl (fun w25 h23 => ?_)
          obtain ⟨hW26, kq27⟩ := h23
          have kp28 := keeps_tr kq3 kq27 (fun q hq => by first | omega | (dsimp only at *; omega))
          refine x_iinc C (v := (nI (i + 1))) (lv' := [(4, .int (nI (i + 1))), (0, .ref (a t)), (1, .int (nI wk)), (2, .int p0), (3, .ref (a 71))]) dX9_breakAllFor_36 4 rfl (nI_add i 1) (by decide) rfl rfl ?_
          refine x_goto C (tgt := 3) dX9_breakAllFor_39 (by decide) ?_
          refine x_lv (lv1 := [(0, .ref (a t)), (1, .int (nI wk)), (2, .int p0), (3, .ref (a 71)), (4, .int (nI (i + 1)))]) [1, 2, 3, 4, 0] rfl ?_
          exact ih3 (i + 1) w25 hW26 (by omega) (by omega) kp28
  refine x_lv (lv1 := [(0, .ref (a t)), (1, .int (nI wk)), (2, .int p0), (3, .ref (a 71)), (4, .int 0)]) [1, 2, 3, 4, 0] rfl ?_
  exact loop3 _ 0 ws hW (Nat.lt_succ_self _) (by omega) kp0
theorem dX9_give_0 : decode cX9_give 0 = .ok (.aload_n 0, 1) := by decide +kernel
theorem dX9_give_1 : decode cX9_give 1 = .ok (.getfield 28, 3) := by decide +kernel
theorem dX9_give_4 : decode cX9_give 4 = .ok (.getfield 151, 3) := by decide +kernel
theorem dX9_give_7 : decode cX9_give 7 = .ok (.aload_n 0, 1) := by decide +kernel
theorem dX9_give_8 : decode cX9_give 8 = .ok (.getfield 35, 3) := by decide +kernel
theorem dX9_give_11 : decode cX9_give 11 = .ok (.getfield 127, 3) := by decide +kernel
theorem dX9_give_14 : decode cX9_give 14 = .ok (.iload_n 1, 1) := by decide +kernel
theorem dX9_give_15 : decode cX9_give 15 = .ok (.iaload, 1) := by decide +kernel
theorem dX9_give_16 : decode cX9_give 16 = .ok (.dup2, 1) := by decide +kernel
theorem dX9_give_17 : decode cX9_give 17 = .ok (.iaload, 1) := by decide +kernel
theorem dX9_give_18 : decode cX9_give 18 = .ok (.aload_n 0, 1) := by decide +kernel
theorem dX9_give_19 : decode cX9_give 19 = .ok (.getfield 35, 3) := by decide +kernel
theorem dX9_give_22 : decode cX9_give 22 = .ok (.getfield 128, 3) := by decide +kernel
theorem dX9_give_25 : decode cX9_give 25 = .ok (.iload_n 1, 1) := by decide +kernel
theorem dX9_give_26 : decode cX9_give 26 = .ok (.iaload, 1) := by decide +kernel
theorem dX9_give_27 : decode cX9_give 27 = .ok (.iadd, 1) := by decide +kernel
theorem dX9_give_28 : decode cX9_give 28 = .ok (.iastore, 1) := by decide +kernel
theorem dX9_give_29 : decode cX9_give 29 = .ok (.aload_n 0, 1) := by decide +kernel
theorem dX9_give_30 : decode cX9_give 30 = .ok (.getfield 28, 3) := by decide +kernel
theorem dX9_give_33 : decode cX9_give 33 = .ok (.getfield 154, 3) := by decide +kernel
theorem dX9_give_36 : decode cX9_give 36 = .ok (.iload_n 2, 1) := by decide +kernel
theorem dX9_give_37 : decode cX9_give 37 = .ok (.dup2, 1) := by decide +kernel
theorem dX9_give_38 : decode cX9_give 38 = .ok (.iaload, 1) := by decide +kernel
theorem dX9_give_39 : decode cX9_give 39 = .ok (.aload_n 0, 1) := by decide +kernel
theorem dX9_give_40 : decode cX9_give 40 = .ok (.getfield 35, 3) := by decide +kernel
theorem dX9_give_43 : decode cX9_give 43 = .ok (.getfield 128, 3) := by decide +kernel
theorem dX9_give_46 : decode cX9_give 46 = .ok (.iload_n 1, 1) := by decide +kernel
theorem dX9_give_47 : decode cX9_give 47 = .ok (.iaload, 1) := by decide +kernel
theorem dX9_give_48 : decode cX9_give 48 = .ok (.iadd, 1) := by decide +kernel
theorem dX9_give_49 : decode cX9_give 49 = .ok (.iastore, 1) := by decide +kernel
theorem dX9_give_50 : decode cX9_give 50 = .ok (.aload_n 0, 1) := by decide +kernel
theorem dX9_give_51 : decode cX9_give 51 = .ok (.getfield 35, 3) := by decide +kernel
theorem dX9_give_54 : decode cX9_give 54 = .ok (.getfield 127, 3) := by decide +kernel
theorem dX9_give_57 : decode cX9_give 57 = .ok (.iload_n 1, 1) := by decide +kernel
theorem dX9_give_58 : decode cX9_give 58 = .ok (.iload_n 2, 1) := by decide +kernel
theorem dX9_give_59 : decode cX9_give 59 = .ok (.iastore, 1) := by decide +kernel
theorem dX9_give_60 : decode cX9_give 60 = .ok (.return_, 1) := by decide +kernel
set_option maxRecDepth 20000 in
set_option maxHeartbeats 4000000 in
theorem c_give (E : xE) (l : Launch) (a : Nat → Nat) (ws : va_W) (hW : WX (okX E a) ws) (t : Nat) (ht : tb t) (i0 : Nat) (p0 : Nat) (hi0 : i0 ≤ 47) (hp0 : p0 ≤ 7) : xV E l yX9_give cX9_give 3 0 0 0 [.ref (a t), .int (nI i0), .int (nI p0)] ws (fun w => WX (okX E a) w ∧ keeps ws w (fun q => t ≤ q ∧ q < t + 22 ∧ q ≠ t + 1 ∧ q ≠ t + 4)) := by
  refine xV_start (lv := [(0, .ref (a t)), (1, .int (nI i0)), (2, .int (nI p0))]) RX9 (by decide) rfl (Nat.le_of_ble_eq_true rfl) rfl (fun p e s m below meth c A C hr hlk hin => ?_)
  have htb := tb_lo ht
  have kp0 : keeps ws ws (fun q => t ≤ q ∧ q < t + 22 ∧ q ≠ t + 1 ∧ q ≠ t + 4) := keeps_rf
  refine x_aload_n C dX9_give_0 rfl 0 rfl rfl ?_
  obtain ⟨_, k1, n2, v4, v5, v6, v7, v8, bn3, rfl⟩ := hW (t + 0) _ (okX_t ht (j := 0) rfl)
  refine x_get C (ci := 8) (k := 3) t k1 rfl in_X9 (by decide) w_203 rfl dX9_give_1 rfl ?_
  obtain ⟨_, k9, v10, rfl⟩ := hW (t + 4) _ (okX_t ht (j := 4) rfl)
  refine x_get C (ci := 4) (k := 4) (t + 4) k9 rfl in_X5 (by decide) w_101 rfl dX9_give_4 rfl ?_
  refine x_aload_n C dX9_give_7 rfl 0 rfl rfl ?_
  refine x_get C (ci := 8) (k := 4) t k1 rfl in_X9 (by decide) w_206 rfl dX9_give_8 rfl ?_
  obtain ⟨_, k11, n12, bn13, rfl⟩ := hW (t + 9) _ (okX_t ht (j := 9) rfl)
  refine x_get C (ci := 1) (k := 4) (t + 9) k11 rfl in_X1 (by decide) w_137 rfl dX9_give_11 rfl ?_
  refine x_iload_n C dX9_give_14 rfl 1 rfl rfl ?_
  obtain ⟨_, k14, g15, gb16, rfl⟩ := hW (t + 13) _ (okX_t ht (j := 13) rfl)
  refine x_ialk C (v := nI (g15 i0)) i0 (nI_clamp (by omega)) (nI_pos (by omega)) (by omega) (t + 13) k14 rfl dX9_give_15 rfl ?_
  have bx17 := gb16 i0
  refine x_dup2 C dX9_give_16 rfl rfl rfl ?_
  obtain ⟨_, k18, f19, rfl⟩ := hW (t + 8) _ (okX_t ht (j := 8) rfl)
  refine x_iald C (v := (f19 (nI (g15 i0)).toNatClampNeg)) (t + 8) k18 (vp_in_nI (by omega) (by decide)) rfl dX9_give_17 rfl ?_
  refine x_any (fun v20 => ?_)
  refine x_aload_n C dX9_give_18 rfl 0 rfl rfl ?_
  refine x_get C (ci := 8) (k := 4) t k1 rfl in_X9 (by decide) w_206 rfl dX9_give_19 rfl ?_
  refine x_get C (ci := 1) (k := 1) (t + 9) k11 rfl in_X1 (by decide) w_125 rfl dX9_give_22 rfl ?_
  refine x_iload_n C dX9_give_25 rfl 1 rfl rfl ?_
  obtain ⟨_, k21, f22, rfl⟩ := hW (t + 10) _ (okX_t ht (j := 10) rfl)
  refine x_iald C (v := (f22 (nI i0).toNatClampNeg)) (t + 10) k21 (vp_in_nI (by omega) (by decide)) rfl dX9_give_26 rfl ?_
  refine x_any (fun v23 => ?_)
  refine x_iadd C (v := (v20 + v23)) dX9_give_27 rfl rfl ?_
  refine x_any (fun v24 => ?_)
  obtain ⟨w25, hw26⟩ : ∃ w : va_W, w = List.set ws (t + 8) (iA E (a (t + 8)) 8 (upd f19 (nI (g15 i0)).toNatClampNeg v24)) := ⟨_, rfl⟩
  refine x_iast C (t + 8) k18 (vp_in_nI (by omega) (by decide)) hw26.symm dX9_give_28 rfl ?_
  have hW27 : WX (okX E a) w25 := by rw [hw26]; exact hW.set (k := (t + 8)) (okX_t ht (j := 8) rfl) ⟨_, rfl⟩
  have k28 : w25[t]? = some (ob (a t) 8 [.int (nI n2), .int v4, .ref (a (t + 1)), .ref (a (t + 4)), .ref (a (t + 9)), .ref (a (t + 16)), .int v5, .int v6, .int v7, .int v8]) := by rw [hw26]; exact set_ne k1 (by omega)
  have k29 : w25[t + 4]? = some (ob (a (t + 4)) 4 [.int v10, .ref (a (t + 5)), .ref (a (t + 6)), .ref (a (t + 7)), .ref (a (t + 8))]) := by rw [hw26]; exact set_ne k9 (by omega)
  have k30 : w25[t + 9]? = some (ob (a (t + 9)) 1 [.int (nI n12), .ref (a (t + 10)), .ref (a (t + 11)), .ref (a (t + 12)), .ref (a (t + 13)), .ref (a (t + 14)), .ref (a (t + 15))]) := by rw [hw26]; exact set_ne k11 (by omega)
  have k31 : w25[t + 13]? = some (iA E (a (t + 13)) 48 (fun j => nI (g15 j))) := by rw [hw26]; exact set_ne k14 (by omega)
  have k32 : w25[t + 8]? = some (iA E (a (t + 8)) 8 (upd f19 (nI (g15 i0)).toNatClampNeg v24)) := by rw [hw26]; exact set_eq k18
  have k33 : w25[t + 10]? = some (iA E (a (t + 10)) 48 f22) := by rw [hw26]; exact set_ne k21 (by omega)
  have kp34 := keeps_set kp0 hw26 (by first | exact rfl | decide | omega | (dsimp only; omega))
  refine x_aload_n C dX9_give_29 rfl 0 rfl rfl ?_
  refine x_get C (ci := 8) (k := 3) t k28 rfl in_X9 (by decide) w_203 rfl dX9_give_30 rfl ?_
  refine x_get C (ci := 4) (k := 3) (t + 4) k29 rfl in_X5 (by decide) w_98 rfl dX9_give_33 rfl ?_
  refine x_iload_n C dX9_give_36 rfl 2 rfl rfl ?_
  refine x_dup2 C dX9_give_37 rfl rfl rfl ?_
  obtain ⟨_, k35, f36, rfl⟩ := hW27 (t + 7) _ (okX_t ht (j := 7) rfl)
  refine x_iald C (v := (f36 (nI p0).toNatClampNeg)) (t + 7) k35 (vp_in_nI (by omega) (by decide)) rfl dX9_give_38 rfl ?_
  refine x_any (fun v37 => ?_)
  refine x_aload_n C dX9_give_39 rfl 0 rfl rfl ?_
  refine x_get C (ci := 8) (k := 4) t k28 rfl in_X9 (by decide) w_206 rfl dX9_give_40 rfl ?_
  refine x_get C (ci := 1) (k := 1) (t + 9) k30 rfl in_X1 (by decide) w_125 rfl dX9_give_43 rfl ?_
  refine x_iload_n C dX9_give_46 rfl 1 rfl rfl ?_
  refine x_iald C (v := (f22 (nI i0).toNatClampNeg)) (t + 10) k33 (vp_in_nI (by omega) (by decide)) rfl dX9_give_47 rfl ?_
  refine x_any (fun v38 => ?_)
  refine x_iadd C (v := (v37 + v38)) dX9_give_48 rfl rfl ?_
  refine x_any (fun v39 => ?_)
  obtain ⟨w40, hw41⟩ : ∃ w : va_W, w = List.set w25 (t + 7) (iA E (a (t + 7)) 8 (upd f36 (nI p0).toNatClampNeg v39)) := ⟨_, rfl⟩
  refine x_iast C (t + 7) k35 (vp_in_nI (by omega) (by decide)) hw41.symm dX9_give_49 rfl ?_
  have hW42 : WX (okX E a) w40 := by rw [hw41]; exact hW27.set (k := (t + 7)) (okX_t ht (j := 7) rfl) ⟨_, rfl⟩
  have k43 : w40[t]? = some (ob (a t) 8 [.int (nI n2), .int v4, .ref (a (t + 1)), .ref (a (t + 4)), .ref (a (t + 9)), .ref (a (t + 16)), .int v5, .int v6, .int v7, .int v8]) := by rw [hw41]; exact set_ne k28 (by omega)
  have k44 : w40[t + 4]? = some (ob (a (t + 4)) 4 [.int v10, .ref (a (t + 5)), .ref (a (t + 6)), .ref (a (t + 7)), .ref (a (t + 8))]) := by rw [hw41]; exact set_ne k29 (by omega)
  have k45 : w40[t + 9]? = some (ob (a (t + 9)) 1 [.int (nI n12), .ref (a (t + 10)), .ref (a (t + 11)), .ref (a (t + 12)), .ref (a (t + 13)), .ref (a (t + 14)), .ref (a (t + 15))]) := by rw [hw41]; exact set_ne k30 (by omega)
  have k46 : w40[t + 13]? = some (iA E (a (t + 13)) 48 (fun j => nI (g15 j))) := by rw [hw41]; exact set_ne k31 (by omega)
  have k47 : w40[t + 8]? = some (iA E (a (t + 8)) 8 (upd f19 (nI (g15 i0)).toNatClampNeg v24)) := by rw [hw41]; exact set_ne k32 (by omega)
  have k48 : w40[t + 10]? = some (iA E (a (t + 10)) 48 f22) := by rw [hw41]; exact set_ne k33 (by omega)
  have k49 : w40[t + 7]? = some (iA E (a (t + 7)) 8 (upd f36 (nI p0).toNatClampNeg v39)) := by rw [hw41]; exact set_eq k35
  have kp50 := keeps_set kp34 hw41 (by first | exact rfl | decide | omega | (dsimp only; omega))
  refine x_aload_n C dX9_give_50 rfl 0 rfl rfl ?_
  refine x_get C (ci := 8) (k := 4) t k43 rfl in_X9 (by decide) w_206 rfl dX9_give_51 rfl ?_
  refine x_get C (ci := 1) (k := 4) (t + 9) k45 rfl in_X1 (by decide) w_137 rfl dX9_give_54 rfl ?_
  refine x_iload_n C dX9_give_57 rfl 1 rfl rfl ?_
  refine x_iload_n C dX9_give_58 rfl 2 rfl rfl ?_
  have gb51 := updn_le (i := i0) (v := p0) gb16 (by omega)
  obtain ⟨w52, hw53⟩ : ∃ w : va_W, w = List.set w40 (t + 13) (iA E (a (t + 13)) 48 (upd (fun j => nI (g15 j)) i0 (nI p0))) := ⟨_, rfl⟩
  refine x_iask C i0 (nI_clamp (by omega)) (nI_pos (by omega)) (by omega) (t + 13) k46 hw53.symm dX9_give_59 rfl ?_
  have hW54 : WX (okX E a) w52 := by rw [hw53]; exact hW42.set (k := (t + 13)) (okX_t ht (j := 13) rfl) ⟨_, gb51, iA_n (upd_nI g15 i0 p0)⟩
  have k55 : w52[t]? = some (ob (a t) 8 [.int (nI n2), .int v4, .ref (a (t + 1)), .ref (a (t + 4)), .ref (a (t + 9)), .ref (a (t + 16)), .int v5, .int v6, .int v7, .int v8]) := by rw [hw53]; exact set_ne k43 (by omega)
  have k56 : w52[t + 4]? = some (ob (a (t + 4)) 4 [.int v10, .ref (a (t + 5)), .ref (a (t + 6)), .ref (a (t + 7)), .ref (a (t + 8))]) := by rw [hw53]; exact set_ne k44 (by omega)
  have k57 : w52[t + 9]? = some (ob (a (t + 9)) 1 [.int (nI n12), .ref (a (t + 10)), .ref (a (t + 11)), .ref (a (t + 12)), .ref (a (t + 13)), .ref (a (t + 14)), .ref (a (t + 15))]) := by rw [hw53]; exact set_ne k45 (by omega)
  have k58 : w52[t + 13]? = some (iA E (a (t + 13)) 48 (upd (fun j => nI (g15 j)) i0 (nI p0))) := by rw [hw53]; exact set_eq k46
  have k59 : w52[t + 8]? = some (iA E (a (t + 8)) 8 (upd f19 (nI (g15 i0)).toNatClampNeg v24)) := by rw [hw53]; exact set_ne k47 (by omega)
  have k60 : w52[t + 10]? = some (iA E (a (t + 10)) 48 f22) := by rw [hw53]; exact set_ne k48 (by omega)
  have k61 : w52[t + 7]? = some (iA E (a (t + 7)) 8 (upd f36 (nI p0).toNatClampNeg v39)) := by rw [hw53]; exact set_ne k49 (by omega)
  have kp62 := keeps_set kp50 hw53 (by first | exact rfl | decide | omega | (dsimp only; omega))
  have k63 : w52[t + 13]? = some (iA E (a (t + 13)) 48 (fun j => nI ((updn g15 i0 p0) j))) := by rw [← upd_nI]; exact k58
  exact x_vret C hr hlk dX9_give_60 ⟨hW54, kp62⟩
theorem dX9_brood_0 : decode cX9_brood 0 = .ok (.aload_n 2, 1) := by decide +kernel
theorem dX9_brood_1 : decode cX9_brood 1 = .ok (.iconst 3, 1) := by decide +kernel
theorem dX9_brood_2 : decode cX9_brood 2 = .ok (.aload_n 0, 1) := by decide +kernel
theorem dX9_brood_3 : decode cX9_brood 3 = .ok (.iload_n 1, 1) := by decide +kernel
theorem dX9_brood_4 : decode cX9_brood 4 = .ok (.iconst 0, 1) := by decide +kernel
theorem dX9_brood_5 : decode cX9_brood 5 = .ok (.invokevirtual 118, 3) := by decide +kernel
theorem dX9_brood_8 : decode cX9_brood 8 = .ok (.istore_n 3, 1) := by decide +kernel
theorem dX9_brood_9 : decode cX9_brood 9 = .ok (.aload_n 0, 1) := by decide +kernel
theorem dX9_brood_10 : decode cX9_brood 10 = .ok (.getfield 35, 3) := by decide +kernel
theorem dX9_brood_13 : decode cX9_brood 13 = .ok (.getfield 128, 3) := by decide +kernel
theorem dX9_brood_16 : decode cX9_brood 16 = .ok (.iload_n 1, 1) := by decide +kernel
theorem dX9_brood_17 : decode cX9_brood 17 = .ok (.sipush 240, 3) := by decide +kernel
theorem dX9_brood_20 : decode cX9_brood 20 = .ok (.aload_n 0, 1) := by decide +kernel
theorem dX9_brood_21 : decode cX9_brood 21 = .ok (.getfield 35, 3) := by decide +kernel
theorem dX9_brood_24 : decode cX9_brood 24 = .ok (.getfield 128, 3) := by decide +kernel
theorem dX9_brood_27 : decode cX9_brood 27 = .ok (.iload_n 1, 1) := by decide +kernel
theorem dX9_brood_28 : decode cX9_brood 28 = .ok (.iaload, 1) := by decide +kernel
theorem dX9_brood_29 : decode cX9_brood 29 = .ok (.iload_n 3, 1) := by decide +kernel
theorem dX9_brood_30 : decode cX9_brood 30 = .ok (.iadd, 1) := by decide +kernel
theorem dX9_brood_31 : decode cX9_brood 31 = .ok (.invokestatic 157, 3) := by decide +kernel
theorem dX9_brood_34 : decode cX9_brood 34 = .ok (.iastore, 1) := by decide +kernel
theorem dX9_brood_35 : decode cX9_brood 35 = .ok (.aload_n 0, 1) := by decide +kernel
theorem dX9_brood_36 : decode cX9_brood 36 = .ok (.getfield 35, 3) := by decide +kernel
theorem dX9_brood_39 : decode cX9_brood 39 = .ok (.getfield 163, 3) := by decide +kernel
theorem dX9_brood_42 : decode cX9_brood 42 = .ok (.iload_n 1, 1) := by decide +kernel
theorem dX9_brood_43 : decode cX9_brood 43 = .ok (.dup2, 1) := by decide +kernel
theorem dX9_brood_44 : decode cX9_brood 44 = .ok (.iaload, 1) := by decide +kernel
theorem dX9_brood_45 : decode cX9_brood 45 = .ok (.iconst 1, 1) := by decide +kernel
theorem dX9_brood_46 : decode cX9_brood 46 = .ok (.iadd, 1) := by decide +kernel
theorem dX9_brood_47 : decode cX9_brood 47 = .ok (.iastore, 1) := by decide +kernel
theorem dX9_brood_48 : decode cX9_brood 48 = .ok (.return_, 1) := by decide +kernel
set_option maxRecDepth 20000 in
set_option maxHeartbeats 4000000 in
theorem c_brood (E : xE) (l : Launch) (a : Nat → Nat) (ws : va_W) (hW : WX (okX E a) ws) (t : Nat) (ht : tb t) (i0 : Nat) (hi0 : i0 ≤ 47) : xV E l yX9_brood cX9_brood 4 4 0 0 [.ref (a t), .int (nI i0), .ref (a 71)] ws (fun w => WX (okX E a) w ∧ keeps ws w (fun q => (t ≤ q ∧ q < t + 22 ∧ q ≠ t + 1 ∧ q ≠ t + 4) ∨ (71 ≤ q ∧ q < 79))) := by
  refine xV_start (lv := [(0, .ref (a t)), (1, .int (nI i0)), (2, .ref (a 71))]) RX9 (by decide) rfl (Nat.le_of_ble_eq_true rfl) rfl (fun p e s m below meth c A C hr hlk hin => ?_)
  have htb := tb_lo ht
  have kp0 : keeps ws ws (fun q => (t ≤ q ∧ q < t + 22 ∧ q ≠ t + 1 ∧ q ≠ t + 4) ∨ (71 ≤ q ∧ q < 79)) := keeps_rf
  refine x_aload_n C dX9_brood_0 rfl 2 rfl rfl ?_
  refine x_iconst C (v := 3) dX9_brood_1 (by decide) rfl ?_
  refine x_aload_n C dX9_brood_2 rfl 0 rfl rfl ?_
  refine x_iload_n C dX9_brood_3 rfl 1 rfl rfl ?_
  refine x_iconst C (v := 0) dX9_brood_4 (by decide) rfl ?_
  obtain ⟨_, k1, v2, n3, n5, bn4, bn6, rfl⟩ := hW 71 _ rfl
  refine x_vi C (As := [.int 3, .ref (a t), .int (nI i0), .int 0]) (rest := []) (c_ofEgg E l a ws hW t ht 3 i0 (0 : Int32) (by omega) (by omega)) mf_X3_ofEgg w_731 71 k1 rfl rfl rfl (Nat.le_of_ble_eq_true rfl) ⟨(Nat.le_of_ble_eq_true rfl), (Nat.le_of_ble_eq_true rfl)⟩ ⟨(Nat.le_of_ble_eq_true rfl), (Nat.le_of_ble_eq_true rfl)⟩ dX9_brood_5 rfl (fun r8 w9 h7 => ?_)
  obtain ⟨hW10, kq11⟩ := h7
  have kp12 := keeps_tr kp0 kq11 (fun q hq => by first | omega | (dsimp only at *; omega))
  refine x_istore_n C (lv' := [(3, .int r8), (0, .ref (a t)), (1, .int (nI i0)), (2, .ref (a 71))]) dX9_brood_8 rfl (by decide) rfl rfl ?_
  refine x_aload_n C dX9_brood_9 rfl 1 rfl rfl ?_
  obtain ⟨_, k13, n14, v16, v17, v18, v19, v20, bn15, rfl⟩ := hW10 (t + 0) _ (okX_t ht (j := 0) rfl)
  refine x_get C (ci := 8) (k := 4) t k13 rfl in_X9 (by decide) w_206 rfl dX9_brood_10 rfl ?_
  obtain ⟨_, k21, n22, bn23, rfl⟩ := hW10 (t + 9) _ (okX_t ht (j := 9) rfl)
  refine x_get C (ci := 1) (k := 1) (t + 9) k21 rfl in_X1 (by decide) w_125 rfl dX9_brood_13 rfl ?_
  refine x_iload_n C dX9_brood_16 rfl 2 rfl rfl ?_
  refine x_sipush C (v := 240) dX9_brood_17 (by decide) rfl ?_
  refine x_aload_n C dX9_brood_20 rfl 1 rfl rfl ?_
  refine x_get C (ci := 8) (k := 4) t k13 rfl in_X9 (by decide) w_206 rfl dX9_brood_21 rfl ?_
  refine x_get C (ci := 1) (k := 1) (t + 9) k21 rfl in_X1 (by decide) w_125 rfl dX9_brood_24 rfl ?_
  refine x_iload_n C dX9_brood_27 rfl 2 rfl rfl ?_
  obtain ⟨_, k24, f25, rfl⟩ := hW10 (t + 10) _ (okX_t ht (j := 10) rfl)
  refine x_iald C (v := (f25 (nI i0).toNatClampNeg)) (t + 10) k24 (vp_in_nI (by omega) (by decide)) rfl dX9_brood_28 rfl ?_
  refine x_any (fun v26 => ?_)
  refine x_iload_n C dX9_brood_29 rfl 0 rfl rfl ?_
  refine x_iadd C (v := (v26 + r8)) dX9_brood_30 rfl rfl ?_
  refine x_any (fun v27 => ?_)
  refine x_mmin C (v := (if v27 < (240 : Int32) then v27 else (240 : Int32))) w_783 w_561 w_16 w_562 (Nat.le_of_ble_eq_true rfl) (Nat.le_of_ble_eq_true rfl) (Nat.le_of_ble_eq_true rfl) (Nat.le_of_ble_eq_true rfl) rfl dX9_brood_31 rfl ?_
  refine x_any (fun v28 => ?_)
  obtain ⟨w29, hw30⟩ : ∃ w : va_W, w = List.set w9 (t + 10) (iA E (a (t + 10)) 48 (upd f25 (nI i0).toNatClampNeg v28)) := ⟨_, rfl⟩
  refine x_iast C (t + 10) k24 (vp_in_nI (by omega) (by decide)) hw30.symm dX9_brood_34 rfl ?_
  have hW31 : WX (okX E a) w29 := by rw [hw30]; exact hW10.set (k := (t + 10)) (okX_t ht (j := 10) rfl) ⟨_, rfl⟩
  have k32 : w29[t]? = some (ob (a t) 8 [.int (nI n14), .int v16, .ref (a (t + 1)), .ref (a (t + 4)), .ref (a (t + 9)), .ref (a (t + 16)), .int v17, .int v18, .int v19, .int v20]) := by rw [hw30]; exact set_ne k13 (by omega)
  have k33 : w29[t + 9]? = some (ob (a (t + 9)) 1 [.int (nI n22), .ref (a (t + 10)), .ref (a (t + 11)), .ref (a (t + 12)), .ref (a (t + 13)), .ref (a (t + 14)), .ref (a (t + 15))]) := by rw [hw30]; exact set_ne k21 (by omega)
  have k34 : w29[t + 10]? = some (iA E (a (t + 10)) 48 (upd f25 (nI i0).toNatClampNeg v28)) := by rw [hw30]; exact set_eq k24
  have kp35 := keeps_set kp12 hw30 (by first | exact rfl | decide | omega | (dsimp only; omega))
  refine x_aload_n C dX9_brood_35 rfl 1 rfl rfl ?_
  refine x_get C (ci := 8) (k := 4) t k32 rfl in_X9 (by decide) w_206 rfl dX9_brood_36 rfl ?_
  refine x_get C (ci := 1) (k := 5) (t + 9) k33 rfl in_X1 (by decide) w_142 rfl dX9_brood_39 rfl ?_
  refine x_iload_n C dX9_brood_42 rfl 2 rfl rfl ?_
  refine x_dup2 C dX9_brood_43 rfl rfl rfl ?_
  obtain ⟨_, k36, f37, rfl⟩ := hW31 (t + 14) _ (okX_t ht (j := 14) rfl)
  refine x_iald C (v := (f37 (nI i0).toNatClampNeg)) (t + 14) k36 (vp_in_nI (by omega) (by decide)) rfl dX9_brood_44 rfl ?_
  refine x_any (fun v38 => ?_)
  refine x_iconst C (v := 1) dX9_brood_45 (by decide) rfl ?_
  refine x_iadd C (v := (v38 + (1 : Int32))) dX9_brood_46 rfl rfl ?_
  refine x_any (fun v39 => ?_)
  obtain ⟨w40, hw41⟩ : ∃ w : va_W, w = List.set w29 (t + 14) (iA E (a (t + 14)) 48 (upd f37 (nI i0).toNatClampNeg v39)) := ⟨_, rfl⟩
  refine x_iast C (t + 14) k36 (vp_in_nI (by omega) (by decide)) hw41.symm dX9_brood_47 rfl ?_
  have hW42 : WX (okX E a) w40 := by rw [hw41]; exact hW31.set (k := (t + 14)) (okX_t ht (j := 14) rfl) ⟨_, rfl⟩
  have k43 : w40[t]? = some (ob (a t) 8 [.int (nI n14), .int v16, .ref (a (t + 1)), .ref (a (t + 4)), .ref (a (t + 9)), .ref (a (t + 16)), .int v17, .int v18, .int v19, .int v20]) := by rw [hw41]; exact set_ne k32 (by omega)
  have k44 : w40[t + 9]? = some (ob (a (t + 9)) 1 [.int (nI n22), .ref (a (t + 10)), .ref (a (t + 11)), .ref (a (t + 12)), .ref (a (t + 13)), .ref (a (t + 14)), .ref (a (t + 15))]) := by rw [hw41]; exact set_ne k33 (by omega)
  have k45 : w40[t + 10]? = some (iA E (a (t + 10)) 48 (upd f25 (nI i0).toNatClampNeg v28)) := by rw [hw41]; exact set_ne k34 (by omega)
  have k46 : w40[t + 14]? = some (iA E (a (t + 14)) 48 (upd f37 (nI i0).toNatClampNeg v39)) := by rw [hw41]; exact set_eq k36
  have kp47 := keeps_set kp35 hw41 (by first | exact rfl | decide | omega | (dsimp only; omega))
  exact x_vret C hr hlk dX9_brood_48 ⟨hW42, kp47⟩
