def p3 (k : Nat) : Nat := 3 ^ k
theorem p3_s (k : Nat) : p3 (k + 1) = 3 * p3 k := by rw [p3, p3, Nat.pow_succ]; omega
theorem p3_0 : p3 0 = 1 := rfl
theorem p3_8 {k : Nat} (h : k ≤ 8) : p3 k ≤ 6561 := Nat.pow_le_pow_right (n := 3) (by omega) h
/-- the first n bytes of the tape are eggs -/
def tE (tf : Nat → Int32) (n : Nat) : Prop := ∀ j : Nat, j < n → ∃ i : Nat, i ≤ 47 ∧ tf j = nI i
theorem tE_step {tf : Nat → Int32} {n i : Nat} (h : tE tf n) (e : tf n = nI i) (hi : i ≤ 47) : tE tf (n + 1) := by
  intro j hj
  by_cases q : j = n
  · subst q; exact ⟨i, hi, e⟩
  · exact h j (by omega)
theorem dX12_soldBy_0 : decode cX12_soldBy 0 = .ok (.aload_n 0, 1) := by decide +kernel
theorem dX12_soldBy_1 : decode cX12_soldBy 1 = .ok (.invokevirtual 234, 3) := by decide +kernel
theorem dX12_soldBy_4 : decode cX12_soldBy 4 = .ok (.aload_n 0, 1) := by decide +kernel
theorem dX12_soldBy_5 : decode cX12_soldBy 5 = .ok (.getfield 59, 3) := by decide +kernel
theorem dX12_soldBy_8 : decode cX12_soldBy 8 = .ok (.bipush 10, 2) := by decide +kernel
theorem dX12_soldBy_10 : decode cX12_soldBy 10 = .ok (.iload_n 1, 1) := by decide +kernel
theorem dX12_soldBy_11 : decode cX12_soldBy 11 = .ok (.iastore, 1) := by decide +kernel
theorem dX12_soldBy_12 : decode cX12_soldBy 12 = .ok (.aload_n 0, 1) := by decide +kernel
theorem dX12_soldBy_13 : decode cX12_soldBy 13 = .ok (.bipush 112, 2) := by decide +kernel
theorem dX12_soldBy_15 : decode cX12_soldBy 15 = .ok (.sipush 999, 3) := by decide +kernel
theorem dX12_soldBy_18 : decode cX12_soldBy 18 = .ok (.invokevirtual 240, 3) := by decide +kernel
theorem dX12_soldBy_21 : decode cX12_soldBy 21 = .ok (.ireturn, 1) := by decide +kernel
set_option maxRecDepth 20000 in
set_option maxHeartbeats 4000000 in
theorem m_soldBy (E : xE) (l : Launch) (a : Nat → Nat) (cd : Cd) (hG : Good cd) (kf : Int32) (jn js jq : Lb) (ws : va_W) (hW : WX (okM E a cd kf jn js jq) ws) (p0 : Int32) : xI E l yX12_soldBy cX12_soldBy 2 (some .int) 3 [.ref (a 0), .int p0] ws (fun r w => WX (okM E a cd kf jn js jq) w ∧ keeps ws w (fun q => q = 16 ∨ q = 17)) := by
  refine xI_start (lv := [(0, .ref (a 0)), (1, .int p0)]) RX12 (by decide) rfl (Nat.le_of_ble_eq_true rfl) rfl (fun p e s m below meth c A C hr hlk => ?_)
  have kp0 : keeps ws ws (fun q => q = 16 ∨ q = 17) := keeps_rf
  obtain ⟨_, k1, f2, pf3, rfl⟩ := hW 1 _ rfl
  refine x_aload_n C dX12_soldBy_0 rfl 0 rfl rfl ?_
  obtain ⟨_, k4, n5, n7, n9, v11, v12, v13, n14, n16, n18, n20, v22, v23, v24, v25, n26, n28, bn6, bn8, bn10, bn15, bn17, bn19, bn21, bn27, bn29, rfl⟩ := hW 0 _ rfl
  refine x_vv C (As := []) (rest := []) (m_feels E l a cd hG kf jn js jq ws hW f2 k1) mf_X12_feels w_1459 0 k4 rfl rfl rfl (Nat.le_of_ble_eq_true rfl) ⟨(Nat.le_of_ble_eq_true rfl), (Nat.le_of_ble_eq_true rfl)⟩ ⟨(Nat.le_of_ble_eq_true rfl), (Nat.le_of_ble_eq_true rfl)⟩ dX12_soldBy_1 rfl (fun w32 h30 => ?_)
  obtain ⟨hW33, kq34, x35⟩ := h30
  have k36 : w32[1]? = some (iA E (a 1) 382 f2) := keeps_at kq34 k1 (by first | decide | omega | (dsimp only; omega))
  have k37 : w32[0]? = some (ob (a 0) 11 [.ref (a 1), .ref (a 2), .ref (a 3), .ref (a 4), .int (nI n5), .int (nI n7), .int (nI n9), .int v11, .int v12, .int v13, .int (nI n14), .int (nI n16), .int (nI n18), .int (nI (cd.2.2.2.2.2)), .ref (a 5), .ref (a 6), .ref (a 7), .ref (a 8), .ref (a 9), .ref (a 10), .ref (a 11), .ref (a 12), .ref (a 13), .ref (a 14), .ref (a 15), .ref (a 16), .ref (a 17), .int (nI n20), .ref (a 18), .ref (a 19), .ref (a 20), .ref (a 21), .int v22, .int v23, .int v24, .int v25, .int (nI n26), .int (nI n28), .ref (a 22), .ref (a 23), .ref (a 24), .ref (a 25), .ref (a 26), .ref (a 27), .ref (a 28), .ref (a 29), .ref (a 30), .int kf]) := keeps_at kq34 k4 (by first | decide | omega | (dsimp only; omega))
  have kp38 := keeps_tr kp0 kq34 (fun q hq => by first | omega | (dsimp only at *; omega))
  obtain ⟨g39, k40, ecl41⟩ := x35
  refine x_aload_n C dX12_soldBy_4 rfl 0 rfl rfl ?_
  refine x_get C (ci := 11) (k := 26) 0 k37 rfl in_X12 (by decide) w_1144 rfl dX12_soldBy_5 rfl ?_
  refine x_bipush C (v := 10) dX12_soldBy_8 (by decide) rfl ?_
  refine x_iload_n C dX12_soldBy_10 rfl 1 rfl rfl ?_
  obtain ⟨w42, hw43⟩ : ∃ w : va_W, w = List.set w32 17 (iA E (a 17) 11 (upd g39 (10 : Int32).toNatClampNeg p0)) := ⟨_, rfl⟩
  refine x_iast C 17 k40 (vp_k (j := 10) (by decide) (by decide) (by decide)) hw43.symm dX12_soldBy_11 rfl ?_
  have hW44 : WX (okM E a cd kf jn js jq) w42 := by rw [hw43]; exact hW33.set (k := 17) rfl ⟨_, rfl⟩
  have k45 : w42[1]? = some (iA E (a 1) 382 f2) := by rw [hw43]; exact set_ne k36 (by decide)
  have k46 : w42[0]? = some (ob (a 0) 11 [.ref (a 1), .ref (a 2), .ref (a 3), .ref (a 4), .int (nI n5), .int (nI n7), .int (nI n9), .int v11, .int v12, .int v13, .int (nI n14), .int (nI n16), .int (nI n18), .int (nI (cd.2.2.2.2.2)), .ref (a 5), .ref (a 6), .ref (a 7), .ref (a 8), .ref (a 9), .ref (a 10), .ref (a 11), .ref (a 12), .ref (a 13), .ref (a 14), .ref (a 15), .ref (a 16), .ref (a 17), .int (nI n20), .ref (a 18), .ref (a 19), .ref (a 20), .ref (a 21), .int v22, .int v23, .int v24, .int v25, .int (nI n26), .int (nI n28), .ref (a 22), .ref (a 23), .ref (a 24), .ref (a 25), .ref (a 26), .ref (a 27), .ref (a 28), .ref (a 29), .ref (a 30), .int kf]) := by rw [hw43]; exact set_ne k37 (by decide)
  have k47 : w42[17]? = some (iA E (a 17) 11 (upd g39 (10 : Int32).toNatClampNeg p0)) := by rw [hw43]; exact set_eq k40
  have kp48 := keeps_set kp38 hw43 (by first | exact rfl | decide | omega | (dsimp only; omega))
  refine x_aload_n C dX12_soldBy_12 rfl 0 rfl rfl ?_
  refine x_bipush C (v := 112) dX12_soldBy_13 (by decide) rfl ?_
  refine x_sipush C (v := 999) dX12_soldBy_15 (by decide) rfl ?_
  refine x_vi C (As := [.int 112, .int 999]) (rest := []) (m_byLaw E l a cd hG kf jn js jq w42 hW44 (112 : Int32) 999 (by omega) ((upd g39 (10 : Int32).toNatClampNeg p0)) k47) mf_X12_byLaw w_1463 0 k46 rfl rfl rfl (Nat.le_of_ble_eq_true rfl) ⟨(Nat.le_of_ble_eq_true rfl), (Nat.le_of_ble_eq_true rfl)⟩ ⟨(Nat.le_of_ble_eq_true rfl), (Nat.le_of_ble_eq_true rfl)⟩ dX12_soldBy_18 rfl (fun r50 w51 h49 => ?_)
  obtain ⟨hW52, kq53, ⟨m55, bm56, e54⟩, x57⟩ := h49
  refine x_top e54 ?_
  have k58 : w51[1]? = some (iA E (a 1) 382 f2) := keeps_at kq53 k45 (by first | decide | omega | (dsimp only; omega))
  have k59 : w51[0]? = some (ob (a 0) 11 [.ref (a 1), .ref (a 2), .ref (a 3), .ref (a 4), .int (nI n5), .int (nI n7), .int (nI n9), .int v11, .int v12, .int v13, .int (nI n14), .int (nI n16), .int (nI n18), .int (nI (cd.2.2.2.2.2)), .ref (a 5), .ref (a 6), .ref (a 7), .ref (a 8), .ref (a 9), .ref (a 10), .ref (a 11), .ref (a 12), .ref (a 13), .ref (a 14), .ref (a 15), .ref (a 16), .ref (a 17), .int (nI n20), .ref (a 18), .ref (a 19), .ref (a 20), .ref (a 21), .int v22, .int v23, .int v24, .int v25, .int (nI n26), .int (nI n28), .ref (a 22), .ref (a 23), .ref (a 24), .ref (a 25), .ref (a 26), .ref (a 27), .ref (a 28), .ref (a 29), .ref (a 30), .int kf]) := keeps_at kq53 k46 (by first | decide | omega | (dsimp only; omega))
  have k60 : w51[17]? = some (iA E (a 17) 11 (upd g39 (10 : Int32).toNatClampNeg p0)) := keeps_at kq53 k47 (by first | decide | omega | (dsimp only; omega))
  have kp61 := keeps_tr kp48 kq53 (fun q hq => by first | omega | (dsimp only at *; omega))
  exact x_zret C hr hlk rfl dX12_soldBy_21 ⟨hW52, kp61⟩
theorem dX12_rests_0 : decode cX12_rests 0 = .ok (.aload_n 0, 1) := by decide +kernel
theorem dX12_rests_1 : decode cX12_rests 1 = .ok (.iload_n 2, 1) := by decide +kernel
theorem dX12_rests_2 : decode cX12_rests 2 = .ok (.invokestatic 347, 3) := by decide +kernel
theorem dX12_rests_5 : decode cX12_rests 5 = .ok (.invokevirtual 383, 3) := by decide +kernel
theorem dX12_rests_8 : decode cX12_rests 8 = .ok (.istore_n 3, 1) := by decide +kernel
theorem dX12_rests_9 : decode cX12_rests 9 = .ok (.aload_n 0, 1) := by decide +kernel
theorem dX12_rests_10 : decode cX12_rests 10 = .ok (.iload_n 2, 1) := by decide +kernel
theorem dX12_rests_11 : decode cX12_rests 11 = .ok (.invokestatic 347, 3) := by decide +kernel
theorem dX12_rests_14 : decode cX12_rests 14 = .ok (.iconst 1, 1) := by decide +kernel
theorem dX12_rests_15 : decode cX12_rests 15 = .ok (.iadd, 1) := by decide +kernel
theorem dX12_rests_16 : decode cX12_rests 16 = .ok (.invokevirtual 383, 3) := by decide +kernel
theorem dX12_rests_19 : decode cX12_rests 19 = .ok (.istore 4, 2) := by decide +kernel
theorem dX12_rests_21 : decode cX12_rests 21 = .ok (.iconst 0, 1) := by decide +kernel
theorem dX12_rests_22 : decode cX12_rests 22 = .ok (.istore 5, 2) := by decide +kernel
theorem dX12_rests_24 : decode cX12_rests 24 = .ok (.iload 5, 2) := by decide +kernel
theorem dX12_rests_26 : decode cX12_rests 26 = .ok (.iload_n 1, 1) := by decide +kernel
theorem dX12_rests_27 : decode cX12_rests 27 = .ok (.if_icmp .ge 46, 3) := by decide +kernel
theorem dX12_rests_30 : decode cX12_rests 30 = .ok (.iload_n 2, 1) := by decide +kernel
theorem dX12_rests_31 : decode cX12_rests 31 = .ok (.iload 5, 2) := by decide +kernel
theorem dX12_rests_33 : decode cX12_rests 33 = .ok (.invokestatic 101, 3) := by decide +kernel
theorem dX12_rests_36 : decode cX12_rests 36 = .ok (.ifCond .eq 17, 3) := by decide +kernel
theorem dX12_rests_39 : decode cX12_rests 39 = .ok (.aload_n 0, 1) := by decide +kernel
theorem dX12_rests_40 : decode cX12_rests 40 = .ok (.getfield 98, 3) := by decide +kernel
theorem dX12_rests_43 : decode cX12_rests 43 = .ok (.iload 5, 2) := by decide +kernel
theorem dX12_rests_45 : decode cX12_rests 45 = .ok (.iaload, 1) := by decide +kernel
theorem dX12_rests_46 : decode cX12_rests 46 = .ok (.iload_n 3, 1) := by decide +kernel
theorem dX12_rests_47 : decode cX12_rests 47 = .ok (.if_icmp .le 20, 3) := by decide +kernel
theorem dX12_rests_50 : decode cX12_rests 50 = .ok (.goto 15, 3) := by decide +kernel
theorem dX12_rests_53 : decode cX12_rests 53 = .ok (.iload 4, 2) := by decide +kernel
theorem dX12_rests_55 : decode cX12_rests 55 = .ok (.aload_n 0, 1) := by decide +kernel
theorem dX12_rests_56 : decode cX12_rests 56 = .ok (.getfield 98, 3) := by decide +kernel
theorem dX12_rests_59 : decode cX12_rests 59 = .ok (.iload 5, 2) := by decide +kernel
theorem dX12_rests_61 : decode cX12_rests 61 = .ok (.iaload, 1) := by decide +kernel
theorem dX12_rests_62 : decode cX12_rests 62 = .ok (.if_icmp .le 5, 3) := by decide +kernel
theorem dX12_rests_65 : decode cX12_rests 65 = .ok (.iconst 0, 1) := by decide +kernel
theorem dX12_rests_66 : decode cX12_rests 66 = .ok (.ireturn, 1) := by decide +kernel
theorem dX12_rests_67 : decode cX12_rests 67 = .ok (.iinc 5 1, 3) := by decide +kernel
theorem dX12_rests_70 : decode cX12_rests 70 = .ok (.goto (-46), 3) := by decide +kernel
theorem dX12_rests_73 : decode cX12_rests 73 = .ok (.iconst 1, 1) := by decide +kernel
theorem dX12_rests_74 : decode cX12_rests 74 = .ok (.ireturn, 1) := by decide +kernel
set_option maxRecDepth 20000 in
set_option maxHeartbeats 4000000 in
theorem m_rests (E : xE) (l : Launch) (a : Nat → Nat) (cd : Cd) (hG : Good cd) (kf : Int32) (jn js jq : Lb) (ws : va_W) (hW : WX (okM E a cd kf jn js jq) ws) (n0 : Nat) (p1 : Int32) (hn0 : n0 ≤ 5) : xI E l yX12_rests cX12_rests 6 (some .boolean) 4 [.ref (a 0), .int (nI n0), .int p1] ws (fun r w => WX (okM E a cd kf jn js jq) w ∧ keeps ws w (fun q => q = 16 ∨ q = 17) ∧ zb r) := by
  refine xI_start (lv := [(0, .ref (a 0)), (1, .int (nI n0)), (2, .int p1)]) RX12 (by decide) rfl (Nat.le_of_ble_eq_true rfl) rfl (fun p e s m below meth c A C hr hlk => ?_)
  have kp0 : keeps ws ws (fun q => q = 16 ∨ q = 17) := keeps_rf
  obtain ⟨_, k1, f2, pf3, rfl⟩ := hW 1 _ rfl
  refine x_aload_n C dX12_rests_0 rfl 0 rfl rfl ?_
  refine x_iload_n C dX12_rests_1 rfl 2 rfl rfl ?_
  refine x_si C (As := [.int p1]) (rest := [.ref (a 0)]) (m_bits E l a cd hG kf jn js jq ws hW p1) mf_X12_bits w_1559 rfl rfl (Nat.le_of_ble_eq_true rfl) ⟨(Nat.le_of_ble_eq_true rfl), (Nat.le_of_ble_eq_true rfl)⟩ ⟨(Nat.le_of_ble_eq_true rfl), (Nat.le_of_ble_eq_true rfl)⟩ dX12_rests_2 rfl (fun r5 w6 h4 => ?_)
  obtain ⟨hW7, x8⟩ := h4
  refine x_ws hW7 ?_
  obtain ⟨_, k9, n10, n12, n14, v16, v17, v18, n19, n21, n23, n25, v27, v28, v29, v30, n31, n33, bn11, bn13, bn15, bn20, bn22, bn24, bn26, bn32, bn34, rfl⟩ := hW 0 _ rfl
  refine x_vi C (As := [.int r5]) (rest := []) (m_soldBy E l a cd hG kf jn js jq ws hW r5) mf_X12_soldBy w_1621 0 k9 rfl rfl rfl (Nat.le_of_ble_eq_true rfl) ⟨(Nat.le_of_ble_eq_true rfl), (Nat.le_of_ble_eq_true rfl)⟩ ⟨(Nat.le_of_ble_eq_true rfl), (Nat.le_of_ble_eq_true rfl)⟩ dX12_rests_5 rfl (fun r36 w37 h35 => ?_)
  obtain ⟨hW38, kq39⟩ := h35
  have k40 : w37[1]? = some (iA E (a 1) 382 f2) := keeps_at kq39 k1 (by first | decide | omega | (dsimp only; omega))
  have k41 : w37[0]? = some (ob (a 0) 11 [.ref (a 1), .ref (a 2), .ref (a 3), .ref (a 4), .int (nI n10), .int (nI n12), .int (nI n14), .int v16, .int v17, .int v18, .int (nI n19), .int (nI n21), .int (nI n23), .int (nI (cd.2.2.2.2.2)), .ref (a 5), .ref (a 6), .ref (a 7), .ref (a 8), .ref (a 9), .ref (a 10), .ref (a 11), .ref (a 12), .ref (a 13), .ref (a 14), .ref (a 15), .ref (a 16), .ref (a 17), .int (nI n25), .ref (a 18), .ref (a 19), .ref (a 20), .ref (a 21), .int v27, .int v28, .int v29, .int v30, .int (nI n31), .int (nI n33), .ref (a 22), .ref (a 23), .ref (a 24), .ref (a 25), .ref (a 26), .ref (a 27), .ref (a 28), .ref (a 29), .ref (a 30), .int kf]) := keeps_at kq39 k9 (by first | decide | omega | (dsimp only; omega))
  have kp42 := keeps_tr kp0 kq39 (fun q hq => by first | omega | (dsimp only at *; omega))
  refine x_istore_n C (lv' := [(3, .int r36), (0, .ref (a 0)), (1, .int (nI n0)), (2, .int p1)]) dX12_rests_8 rfl (by decide) rfl rfl ?_
  refine x_aload_n C dX12_rests_9 rfl 1 rfl rfl ?_
  refine x_iload_n C dX12_rests_10 rfl 3 rfl rfl ?_
  refine x_si C (As := [.int p1]) (rest := [.ref (a 0)]) (m_bits E l a cd hG kf jn js jq w37 hW38 p1) mf_X12_bits w_1559 rfl rfl (Nat.le_of_ble_eq_true rfl) ⟨(Nat.le_of_ble_eq_true rfl), (Nat.le_of_ble_eq_true rfl)⟩ ⟨(Nat.le_of_ble_eq_true rfl), (Nat.le_of_ble_eq_true rfl)⟩ dX12_rests_11 rfl (fun r44 w45 h43 => ?_)
  obtain ⟨hW46, x47⟩ := h43
  refine x_ws hW46 ?_
  refine x_iconst C (v := 1) dX12_rests_14 (by decide) rfl ?_
  refine x_iadd C (v := (r44 + (1 : Int32))) dX12_rests_15 rfl rfl ?_
  refine x_any (fun v48 => ?_)
  refine x_vi C (As := [.int v48]) (rest := []) (m_soldBy E l a cd hG kf jn js jq w37 hW38 v48) mf_X12_soldBy w_1621 0 k41 rfl rfl rfl (Nat.le_of_ble_eq_true rfl) ⟨(Nat.le_of_ble_eq_true rfl), (Nat.le_of_ble_eq_true rfl)⟩ ⟨(Nat.le_of_ble_eq_true rfl), (Nat.le_of_ble_eq_true rfl)⟩ dX12_rests_16 rfl (fun r50 w51 h49 => ?_)
  obtain ⟨hW52, kq53⟩ := h49
  have k54 : w51[1]? = some (iA E (a 1) 382 f2) := keeps_at kq53 k40 (by first | decide | omega | (dsimp only; omega))
  have k55 : w51[0]? = some (ob (a 0) 11 [.ref (a 1), .ref (a 2), .ref (a 3), .ref (a 4), .int (nI n10), .int (nI n12), .int (nI n14), .int v16, .int v17, .int v18, .int (nI n19), .int (nI n21), .int (nI n23), .int (nI (cd.2.2.2.2.2)), .ref (a 5), .ref (a 6), .ref (a 7), .ref (a 8), .ref (a 9), .ref (a 10), .ref (a 11), .ref (a 12), .ref (a 13), .ref (a 14), .ref (a 15), .ref (a 16), .ref (a 17), .int (nI n25), .ref (a 18), .ref (a 19), .ref (a 20), .ref (a 21), .int v27, .int v28, .int v29, .int v30, .int (nI n31), .int (nI n33), .ref (a 22), .ref (a 23), .ref (a 24), .ref (a 25), .ref (a 26), .ref (a 27), .ref (a 28), .ref (a 29), .ref (a 30), .int kf]) := keeps_at kq53 k41 (by first | decide | omega | (dsimp only; omega))
  have kp56 := keeps_tr kp42 kq53 (fun q hq => by first | omega | (dsimp only at *; omega))
  refine x_istore C (lv' := [(4, .int r50), (3, .int r36), (0, .ref (a 0)), (1, .int (nI n0)), (2, .int p1)]) dX12_rests_19 (by decide) rfl rfl ?_
  refine x_iconst C (v := 0) dX12_rests_21 (by decide) rfl ?_
  refine x_istore C (lv' := [(5, .int 0), (4, .int r50), (3, .int r36), (0, .ref (a 0)), (1, .int (nI n0)), (2, .int p1)]) dX12_rests_22 (by decide) rfl rfl ?_
  have loop24 : ∀ (fu24 : Nat) (k : Nat), True → 5 - k < fu24 → k ≤ 5 → X E p l e (xRm 4 0 0) s m ([.ref (a 0), .int (nI n0), .int p1] : List Value).toArray below meth c A 6 0 0 (MQ below (va_Qi (fun r w => WX (okM E a cd kf jn js jq) w ∧ keeps ws w (fun q => q = 16 ∨ q = 17) ∧ zb r) (xB E A) A) ([.ref (a 0), .int (nI n0), .int p1] : List Value).toArray s 0 0 A) w51 24 [(0, .ref (a 0)), (1, .int (nI n0)), (2, .int p1), (3, .int r36), (4, .int r50), (5, .int (nI k))] [] := by
    intro fu24
    induction fu24 with
    | zero => intro k _ q; omega
    | succ fu24 ih24 =>
      intro k _ me24 iv24_0
      refine x_iload C dX12_rests_24 5 rfl rfl ?_
      refine x_iload_n C dX12_rests_26 rfl 1 rfl rfl ?_
      refine x_icmp_ge C (tgt := 73) dX12_rests_27 (by decide) rfl (fun c57 => ?_) (fun c57 => ?_)
      · skip
        have nf58 := nI_le' (a := n0) (b := k) c57 (by omega) (by omega)
        refine x_iconst C (v := 1) dX12_rests_73 (by decide) rfl ?_
        exact x_zret C hr hlk rfl dX12_rests_74 ⟨hW52, kp56, (Or.inr rfl)⟩
      · skip
        have nf59 := nI_nle' (a := n0) (b := k) c57 (by omega) (by omega)
        refine x_iload_n C dX12_rests_30 rfl 2 rfl rfl ?_
        refine x_iload C dX12_rests_31 5 rfl rfl ?_
        refine x_si C (As := [.int p1, .int (nI k)]) (rest := []) (m_has E l a cd hG kf jn js jq w51 hW52 p1 ((nI k))) mf_X12_has w_1274 rfl rfl (Nat.le_of_ble_eq_true rfl) ⟨(Nat.le_of_ble_eq_true rfl), (Nat.le_of_ble_eq_true rfl)⟩ ⟨(Nat.le_of_ble_eq_true rfl), (Nat.le_of_ble_eq_true rfl)⟩ dX12_rests_33 rfl (fun r61 w62 h60 => ?_)
        obtain ⟨hW63, zb64, x65⟩ := h60
        refine x_ws hW63 ?_
        refine x_if_eq C (tgt := 53) dX12_rests_36 (by decide) rfl (fun c66 => ?_) (fun c66 => ?_)
        · skip
          refine x_iload C dX12_rests_53 4 rfl rfl ?_
          refine x_aload_n C dX12_rests_55 rfl 0 rfl rfl ?_
          refine x_get C (ci := 11) (k := 46) 0 k55 rfl in_X12 (by decide) w_1164 rfl dX12_rests_56 rfl ?_
          refine x_iload C dX12_rests_59 5 rfl rfl ?_
          obtain ⟨_, k67, f68, rfl⟩ := hW52 30 _ rfl
          refine x_iald C (v := (f68 (nI k).toNatClampNeg)) 30 k67 (vp_in_nI (by omega) (by decide)) rfl dX12_rests_61 rfl ?_
          refine x_any (fun v69 => ?_)
          refine x_icmp_le C (tgt := 67) dX12_rests_62 (by decide) rfl (fun c70 => ?_) (fun c70 => ?_)
          · skip
            refine x_iinc C (v := (nI (k + 1))) (lv' := [(5, .int (nI (k + 1))), (0, .ref (a 0)), (1, .int (nI n0)), (2, .int p1), (3, .int r36), (4, .int r50)]) dX12_rests_67 5 rfl (nI_add k 1) (by decide) rfl rfl ?_
            refine x_goto C (tgt := 24) dX12_rests_70 (by decide) ?_
            refine x_lv (lv1 := [(0, .ref (a 0)), (1, .int (nI n0)), (2, .int p1), (3, .int r36), (4, .int r50), (5, .int (nI (k + 1)))]) [1, 2, 3, 4, 5, 0] rfl ?_
            exact ih24 (k + 1) trivial (by omega) (by omega)
          · skip
            refine x_iconst C (v := 0) dX12_rests_65 (by decide) rfl ?_
            exact x_zret C hr hlk rfl dX12_rests_66 ⟨hW52, kp56, (Or.inl rfl)⟩
        · skip
          refine x_aload_n C dX12_rests_39 rfl 0 rfl rfl ?_
          refine x_get C (ci := 11) (k := 46) 0 k55 rfl in_X12 (by decide) w_1164 rfl dX12_rests_40 rfl ?_
          refine x_iload C dX12_rests_43 5 rfl rfl ?_
          obtain ⟨_, k71, f72, rfl⟩ := hW52 30 _ rfl
          refine x_iald C (v := (f72 (nI k).toNatClampNeg)) 30 k71 (vp_in_nI (by omega) (by decide)) rfl dX12_rests_45 rfl ?_
          refine x_any (fun v73 => ?_)
          refine x_iload_n C dX12_rests_46 rfl 3 rfl rfl ?_
          refine x_icmp_le C (tgt := 67) dX12_rests_47 (by decide) rfl (fun c74 => ?_) (fun c74 => ?_)
          · skip
            refine x_iinc C (v := (nI (k + 1))) (lv' := [(5, .int (nI (k + 1))), (0, .ref (a 0)), (1, .int (nI n0)), (2, .int p1), (3, .int r36), (4, .int r50)]) dX12_rests_67 5 rfl (nI_add k 1) (by decide) rfl rfl ?_
            refine x_goto C (tgt := 24) dX12_rests_70 (by decide) ?_
            refine x_lv (lv1 := [(0, .ref (a 0)), (1, .int (nI n0)), (2, .int p1), (3, .int r36), (4, .int r50), (5, .int (nI (k + 1)))]) [1, 2, 3, 4, 5, 0] rfl ?_
            exact ih24 (k + 1) trivial (by omega) (by omega)
          · skip
            refine x_goto C (tgt := 65) dX12_rests_50 (by decide) ?_
            refine x_iconst C (v := 0) dX12_rests_65 (by decide) rfl ?_
            exact x_zret C hr hlk rfl dX12_rests_66 ⟨hW52, kp56, (Or.inl rfl)⟩
  refine x_lv (lv1 := [(0, .ref (a 0)), (1, .int (nI n0)), (2, .int p1), (3, .int r36), (4, .int r50), (5, .int 0)]) [3, 4, 5, 2, 1, 0] rfl ?_
  exact loop24 _ 0 trivial (Nat.lt_succ_self _) (by omega)
theorem dX12_hoards_0 : decode cX12_hoards 0 = .ok (.iload_n 1, 1) := by decide +kernel
theorem dX12_hoards_1 : decode cX12_hoards 1 = .ok (.iconst 2, 1) := by decide +kernel
theorem dX12_hoards_2 : decode cX12_hoards 2 = .ok (.iconst 5, 1) := by decide +kernel
theorem dX12_hoards_3 : decode cX12_hoards 3 = .ok (.invokestatic 109, 3) := by decide +kernel
theorem dX12_hoards_6 : decode cX12_hoards 6 = .ok (.ifCond .eq 22, 3) := by decide +kernel
theorem dX12_hoards_9 : decode cX12_hoards 9 = .ok (.iload_n 2, 1) := by decide +kernel
theorem dX12_hoards_10 : decode cX12_hoards 10 = .ok (.iconst 0, 1) := by decide +kernel
theorem dX12_hoards_11 : decode cX12_hoards 11 = .ok (.iconst 1, 1) := by decide +kernel
theorem dX12_hoards_12 : decode cX12_hoards 12 = .ok (.invokestatic 109, 3) := by decide +kernel
theorem dX12_hoards_15 : decode cX12_hoards 15 = .ok (.ifCond .eq 13, 3) := by decide +kernel
theorem dX12_hoards_18 : decode cX12_hoards 18 = .ok (.iconst 2, 1) := by decide +kernel
theorem dX12_hoards_19 : decode cX12_hoards 19 = .ok (.iload_n 1, 1) := by decide +kernel
theorem dX12_hoards_20 : decode cX12_hoards 20 = .ok (.imul, 1) := by decide +kernel
theorem dX12_hoards_21 : decode cX12_hoards 21 = .ok (.aload_n 0, 1) := by decide +kernel
theorem dX12_hoards_22 : decode cX12_hoards 22 = .ok (.getfield 123, 3) := by decide +kernel
theorem dX12_hoards_25 : decode cX12_hoards 25 = .ok (.if_icmp .le 5, 3) := by decide +kernel
theorem dX12_hoards_28 : decode cX12_hoards 28 = .ok (.iconst (-1), 1) := by decide +kernel
theorem dX12_hoards_29 : decode cX12_hoards 29 = .ok (.ireturn, 1) := by decide +kernel
theorem dX12_hoards_30 : decode cX12_hoards 30 = .ok (.aload_n 0, 1) := by decide +kernel
theorem dX12_hoards_31 : decode cX12_hoards 31 = .ok (.iconst 0, 1) := by decide +kernel
theorem dX12_hoards_32 : decode cX12_hoards 32 = .ok (.putfield 123, 3) := by decide +kernel
theorem dX12_hoards_35 : decode cX12_hoards 35 = .ok (.iconst 0, 1) := by decide +kernel
theorem dX12_hoards_36 : decode cX12_hoards 36 = .ok (.istore_n 3, 1) := by decide +kernel
theorem dX12_hoards_37 : decode cX12_hoards 37 = .ok (.iload_n 3, 1) := by decide +kernel
theorem dX12_hoards_38 : decode cX12_hoards 38 = .ok (.iload_n 1, 1) := by decide +kernel
theorem dX12_hoards_39 : decode cX12_hoards 39 = .ok (.if_icmp .ge 61, 3) := by decide +kernel
theorem dX12_hoards_42 : decode cX12_hoards 42 = .ok (.aload_n 0, 1) := by decide +kernel
theorem dX12_hoards_43 : decode cX12_hoards 43 = .ok (.getfield 98, 3) := by decide +kernel
theorem dX12_hoards_46 : decode cX12_hoards 46 = .ok (.iload_n 3, 1) := by decide +kernel
theorem dX12_hoards_47 : decode cX12_hoards 47 = .ok (.aload_n 0, 1) := by decide +kernel
theorem dX12_hoards_48 : decode cX12_hoards 48 = .ok (.getfield 19, 3) := by decide +kernel
theorem dX12_hoards_51 : decode cX12_hoards 51 = .ok (.iconst 2, 1) := by decide +kernel
theorem dX12_hoards_52 : decode cX12_hoards 52 = .ok (.iload_n 3, 1) := by decide +kernel
theorem dX12_hoards_53 : decode cX12_hoards 53 = .ok (.imul, 1) := by decide +kernel
theorem dX12_hoards_54 : decode cX12_hoards 54 = .ok (.baload, 1) := by decide +kernel
theorem dX12_hoards_55 : decode cX12_hoards 55 = .ok (.sipush 255, 3) := by decide +kernel
theorem dX12_hoards_58 : decode cX12_hoards 58 = .ok (.iand, 1) := by decide +kernel
theorem dX12_hoards_59 : decode cX12_hoards 59 = .ok (.sipush 256, 3) := by decide +kernel
theorem dX12_hoards_62 : decode cX12_hoards 62 = .ok (.imul, 1) := by decide +kernel
theorem dX12_hoards_63 : decode cX12_hoards 63 = .ok (.aload_n 0, 1) := by decide +kernel
theorem dX12_hoards_64 : decode cX12_hoards 64 = .ok (.getfield 19, 3) := by decide +kernel
theorem dX12_hoards_67 : decode cX12_hoards 67 = .ok (.iconst 2, 1) := by decide +kernel
theorem dX12_hoards_68 : decode cX12_hoards 68 = .ok (.iload_n 3, 1) := by decide +kernel
theorem dX12_hoards_69 : decode cX12_hoards 69 = .ok (.imul, 1) := by decide +kernel
theorem dX12_hoards_70 : decode cX12_hoards 70 = .ok (.iconst 1, 1) := by decide +kernel
theorem dX12_hoards_71 : decode cX12_hoards 71 = .ok (.iadd, 1) := by decide +kernel
theorem dX12_hoards_72 : decode cX12_hoards 72 = .ok (.baload, 1) := by decide +kernel
theorem dX12_hoards_73 : decode cX12_hoards 73 = .ok (.sipush 255, 3) := by decide +kernel
theorem dX12_hoards_76 : decode cX12_hoards 76 = .ok (.iand, 1) := by decide +kernel
theorem dX12_hoards_77 : decode cX12_hoards 77 = .ok (.iadd, 1) := by decide +kernel
theorem dX12_hoards_78 : decode cX12_hoards 78 = .ok (.iastore, 1) := by decide +kernel
theorem dX12_hoards_79 : decode cX12_hoards 79 = .ok (.aload_n 0, 1) := by decide +kernel
theorem dX12_hoards_80 : decode cX12_hoards 80 = .ok (.getfield 98, 3) := by decide +kernel
theorem dX12_hoards_83 : decode cX12_hoards 83 = .ok (.iload_n 3, 1) := by decide +kernel
theorem dX12_hoards_84 : decode cX12_hoards 84 = .ok (.iaload, 1) := by decide +kernel
theorem dX12_hoards_85 : decode cX12_hoards 85 = .ok (.sipush 999, 3) := by decide +kernel
theorem dX12_hoards_88 : decode cX12_hoards 88 = .ok (.if_icmp .le 6, 3) := by decide +kernel
theorem dX12_hoards_91 : decode cX12_hoards 91 = .ok (.bipush (-3), 2) := by decide +kernel
theorem dX12_hoards_93 : decode cX12_hoards 93 = .ok (.ireturn, 1) := by decide +kernel
theorem dX12_hoards_94 : decode cX12_hoards 94 = .ok (.iinc 3 1, 3) := by decide +kernel
theorem dX12_hoards_97 : decode cX12_hoards 97 = .ok (.goto (-60), 3) := by decide +kernel
theorem dX12_hoards_100 : decode cX12_hoards 100 = .ok (.iconst 0, 1) := by decide +kernel
theorem dX12_hoards_101 : decode cX12_hoards 101 = .ok (.istore_n 3, 1) := by decide +kernel
theorem dX12_hoards_102 : decode cX12_hoards 102 = .ok (.bipush (-2), 2) := by decide +kernel
theorem dX12_hoards_104 : decode cX12_hoards 104 = .ok (.istore 4, 2) := by decide +kernel
theorem dX12_hoards_106 : decode cX12_hoards 106 = .ok (.iconst 0, 1) := by decide +kernel
theorem dX12_hoards_107 : decode cX12_hoards 107 = .ok (.istore 5, 2) := by decide +kernel
theorem dX12_hoards_109 : decode cX12_hoards 109 = .ok (.iload 5, 2) := by decide +kernel
theorem dX12_hoards_111 : decode cX12_hoards 111 = .ok (.iconst 1, 1) := by decide +kernel
theorem dX12_hoards_112 : decode cX12_hoards 112 = .ok (.iload_n 1, 1) := by decide +kernel
theorem dX12_hoards_113 : decode cX12_hoards 113 = .ok (.ishl, 1) := by decide +kernel
theorem dX12_hoards_114 : decode cX12_hoards 114 = .ok (.if_icmp .ge 39, 3) := by decide +kernel
theorem dX12_hoards_117 : decode cX12_hoards 117 = .ok (.aload_n 0, 1) := by decide +kernel
theorem dX12_hoards_118 : decode cX12_hoards 118 = .ok (.iload_n 1, 1) := by decide +kernel
theorem dX12_hoards_119 : decode cX12_hoards 119 = .ok (.iload 5, 2) := by decide +kernel
theorem dX12_hoards_121 : decode cX12_hoards 121 = .ok (.invokevirtual 386, 3) := by decide +kernel
theorem dX12_hoards_124 : decode cX12_hoards 124 = .ok (.ifCond .ne 6, 3) := by decide +kernel
theorem dX12_hoards_127 : decode cX12_hoards 127 = .ok (.goto 20, 3) := by decide +kernel
theorem dX12_hoards_130 : decode cX12_hoards 130 = .ok (.iload_n 3, 1) := by decide +kernel
theorem dX12_hoards_131 : decode cX12_hoards 131 = .ok (.ifCond .ne 8, 3) := by decide +kernel
theorem dX12_hoards_134 : decode cX12_hoards 134 = .ok (.iload 5, 2) := by decide +kernel
theorem dX12_hoards_136 : decode cX12_hoards 136 = .ok (.goto 5, 3) := by decide +kernel
theorem dX12_hoards_139 : decode cX12_hoards 139 = .ok (.iload 4, 2) := by decide +kernel
theorem dX12_hoards_141 : decode cX12_hoards 141 = .ok (.istore 4, 2) := by decide +kernel
theorem dX12_hoards_143 : decode cX12_hoards 143 = .ok (.iload_n 3, 1) := by decide +kernel
theorem dX12_hoards_144 : decode cX12_hoards 144 = .ok (.iconst 1, 1) := by decide +kernel
theorem dX12_hoards_145 : decode cX12_hoards 145 = .ok (.iadd, 1) := by decide +kernel
theorem dX12_hoards_146 : decode cX12_hoards 146 = .ok (.istore_n 3, 1) := by decide +kernel
theorem dX12_hoards_147 : decode cX12_hoards 147 = .ok (.iinc 5 1, 3) := by decide +kernel
theorem dX12_hoards_150 : decode cX12_hoards 150 = .ok (.goto (-41), 3) := by decide +kernel
theorem dX12_hoards_153 : decode cX12_hoards 153 = .ok (.iload_n 2, 1) := by decide +kernel
theorem dX12_hoards_154 : decode cX12_hoards 154 = .ok (.ifCond .ne 7, 3) := by decide +kernel
theorem dX12_hoards_157 : decode cX12_hoards 157 = .ok (.iload_n 3, 1) := by decide +kernel
theorem dX12_hoards_158 : decode cX12_hoards 158 = .ok (.goto 5, 3) := by decide +kernel
theorem dX12_hoards_161 : decode cX12_hoards 161 = .ok (.iload 4, 2) := by decide +kernel
theorem dX12_hoards_163 : decode cX12_hoards 163 = .ok (.ireturn, 1) := by decide +kernel
set_option maxRecDepth 20000 in
set_option maxHeartbeats 4000000 in
theorem m_hoards (E : xE) (l : Launch) (a : Nat → Nat) (cd : Cd) (hG : Good cd) (kf : Int32) (jn js jq : Lb) (ws : va_W) (hW : WX (okM E a cd kf jn js jq) ws) (p0 : Int32) (p1 : Int32) : xI E l yX12_hoards cX12_hoards 6 (some .int) 8 [.ref (a 0), .int p0, .int p1] ws (fun r w => WX (okM E a cd kf jn js jq) w) := by
  refine xI_start (lv := [(0, .ref (a 0)), (1, .int p0), (2, .int p1)]) RX12 (by decide) rfl (Nat.le_of_ble_eq_true rfl) rfl (fun p e s m below meth c A C hr hlk => ?_)
  refine x_iload_n C dX12_hoards_0 rfl 1 rfl rfl ?_
  refine x_iconst C (v := 2) dX12_hoards_1 (by decide) rfl ?_
  refine x_iconst C (v := 5) dX12_hoards_2 (by decide) rfl ?_
  refine x_si C (As := [.int p0, .int 2, .int 5]) (rest := []) (m_in E l a cd hG kf jn js jq ws hW p0 (2 : Int32) (5 : Int32)) mf_X12_in w_1267 rfl rfl (Nat.le_of_ble_eq_true rfl) ⟨(Nat.le_of_ble_eq_true rfl), (Nat.le_of_ble_eq_true rfl)⟩ ⟨(Nat.le_of_ble_eq_true rfl), (Nat.le_of_ble_eq_true rfl)⟩ dX12_hoards_3 rfl (fun r2 w3 h1 => ?_)
  obtain ⟨hW4, zb5, x6⟩ := h1
  refine x_ws hW4 ?_
  refine x_if_eq C (tgt := 28) dX12_hoards_6 (by decide) rfl (fun c7 => ?_) (fun c7 => ?_)
  · skip
    refine x_iconst C (v := (-1)) dX12_hoards_28 (by decide) rfl ?_
    exact x_zret C hr hlk rfl dX12_hoards_29 hW
  · skip
    obtain ⟨j8, hl9, hh10, ej11⟩ := w_nat (a := 2) (b := 5) (by decide) (by decide) (x6 c7)
    subst ej11
    refine x_iload_n C dX12_hoards_9 rfl 2 rfl rfl ?_
    refine x_iconst C (v := 0) dX12_hoards_10 (by decide) rfl ?_
    refine x_iconst C (v := 1) dX12_hoards_11 (by decide) rfl ?_
    refine x_si C (As := [.int p1, .int 0, .int 1]) (rest := []) (m_in E l a cd hG kf jn js jq ws hW p1 (0 : Int32) (1 : Int32)) mf_X12_in w_1267 rfl rfl (Nat.le_of_ble_eq_true rfl) ⟨(Nat.le_of_ble_eq_true rfl), (Nat.le_of_ble_eq_true rfl)⟩ ⟨(Nat.le_of_ble_eq_true rfl), (Nat.le_of_ble_eq_true rfl)⟩ dX12_hoards_12 rfl (fun r13 w14 h12 => ?_)
    obtain ⟨hW15, zb16, x17⟩ := h12
    refine x_ws hW15 ?_
    refine x_if_eq C (tgt := 28) dX12_hoards_15 (by decide) rfl (fun c18 => ?_) (fun c18 => ?_)
    · skip
      refine x_iconst C (v := (-1)) dX12_hoards_28 (by decide) rfl ?_
      exact x_zret C hr hlk rfl dX12_hoards_29 hW
    · skip
      obtain ⟨j19, hl20, hh21, ej22⟩ := w_nat (a := 0) (b := 1) (by decide) (by decide) (x17 c18)
      subst ej22
      refine x_iconst C (v := 2) dX12_hoards_18 (by decide) rfl ?_
      refine x_iload_n C dX12_hoards_19 rfl 1 rfl rfl ?_
      refine x_imul C (v := (nI (2 * j8))) dX12_hoards_20 (pk_mul 2 j8) rfl ?_
      refine x_aload_n C dX12_hoards_21 rfl 0 rfl rfl ?_
      obtain ⟨_, k23, n24, n26, n28, v30, v31, v32, n33, n35, n37, n39, v41, v42, v43, v44, n45, n47, bn25, bn27, bn29, bn34, bn36, bn38, bn40, bn46, bn48, rfl⟩ := hW 0 _ rfl
      refine x_get C (ci := 11) (k := 4) 0 k23 rfl in_X12 (by decide) w_1122 rfl dX12_hoards_22 rfl ?_
      refine x_icmp_le C (tgt := 30) dX12_hoards_25 (by decide) rfl (fun c49 => ?_) (fun c49 => ?_)
      · skip
        have nf50 := nI_le' (a := (2 * j8)) (b := n24) c49 (by omega) (by omega)
        refine x_aload_n C dX12_hoards_30 rfl 0 rfl rfl ?_
        refine x_iconst C (v := 0) dX12_hoards_31 (by decide) rfl ?_
        obtain ⟨w51, hw52⟩ : ∃ w : va_W, w = List.set ws 0 (ob (a 0) 11 [.ref (a 1), .ref (a 2), .ref (a 3), .ref (a 4), .int 0, .int (nI n26), .int (nI n28), .int v30, .int v31, .int v32, .int (nI n33), .int (nI n35), .int (nI n37), .int (nI (cd.2.2.2.2.2)), .ref (a 5), .ref (a 6), .ref (a 7), .ref (a 8), .ref (a 9), .ref (a 10), .ref (a 11), .ref (a 12), .ref (a 13), .ref (a 14), .ref (a 15), .ref (a 16), .ref (a 17), .int (nI n39), .ref (a 18), .ref (a 19), .ref (a 20), .ref (a 21), .int v41, .int v42, .int v43, .int v44, .int (nI n45), .int (nI n47), .ref (a 22), .ref (a 23), .ref (a 24), .ref (a 25), .ref (a 26), .ref (a 27), .ref (a 28), .ref (a 29), .ref (a 30), .int kf]) := ⟨_, rfl⟩
        refine x_put C (ci := 11) (k := 4) (ty := .int) 0 k23 rfl in_X12 tyX12 tyX12_ok nmX12 (by decide) w_1122 rfl rfl rfl rfl (Nat.le_of_ble_eq_true rfl) hw52.symm dX12_hoards_32 rfl ?_
        have hW53 : WX (okM E a cd kf jn js jq) w51 := by rw [hw52]; exact hW.set (k := 0) rfl ⟨0, n26, n28, v30, v31, v32, n33, n35, n37, n39, v41, v42, v43, v44, n45, n47, by omega, by omega, by omega, by omega, by omega, by omega, by omega, by omega, by omega, rfl⟩
        have k54 : w51[0]? = some (ob (a 0) 11 [.ref (a 1), .ref (a 2), .ref (a 3), .ref (a 4), .int 0, .int (nI n26), .int (nI n28), .int v30, .int v31, .int v32, .int (nI n33), .int (nI n35), .int (nI n37), .int (nI (cd.2.2.2.2.2)), .ref (a 5), .ref (a 6), .ref (a 7), .ref (a 8), .ref (a 9), .ref (a 10), .ref (a 11), .ref (a 12), .ref (a 13), .ref (a 14), .ref (a 15), .ref (a 16), .ref (a 17), .int (nI n39), .ref (a 18), .ref (a 19), .ref (a 20), .ref (a 21), .int v41, .int v42, .int v43, .int v44, .int (nI n45), .int (nI n47), .ref (a 22), .ref (a 23), .ref (a 24), .ref (a 25), .ref (a 26), .ref (a 27), .ref (a 28), .ref (a 29), .ref (a 30), .int kf]) := by rw [hw52]; exact set_eq k23
        refine x_iconst C (v := 0) dX12_hoards_35 (by decide) rfl ?_
        refine x_istore_n C (lv' := [(3, .int 0), (0, .ref (a 0)), (1, .int (nI j8)), (2, .int (nI j19))]) dX12_hoards_36 rfl (by decide) rfl rfl ?_
        have loop37 : ∀ (fu37 : Nat) (k : Nat) (wl37 : va_W), WX (okM E a cd kf jn js jq) wl37 → 5 - k < fu37 → k ≤ 5 → X E p l e (xRm 8 0 0) s m ([.ref (a 0), .int (nI j8), .int (nI j19)] : List Value).toArray below meth c A 6 0 0 (MQ below (va_Qi (fun r w => WX (okM E a cd kf jn js jq) w) (xB E A) A) ([.ref (a 0), .int (nI j8), .int (nI j19)] : List Value).toArray s 0 0 A) wl37 37 [(0, .ref (a 0)), (1, .int (nI j8)), (2, .int (nI j19)), (3, .int (nI k))] [] := by
          intro fu37
          induction fu37 with
          | zero => intro k wl37 _ q; omega
          | succ fu37 ih37 =>
            intro k wl37 hWl37 me37 iv37_0
            refine x_iload_n C dX12_hoards_37 rfl 3 rfl rfl ?_
            refine x_iload_n C dX12_hoards_38 rfl 1 rfl rfl ?_
            refine x_icmp_ge C (tgt := 100) dX12_hoards_39 (by decide) rfl (fun c55 => ?_) (fun c55 => ?_)
            · skip
              have nf56 := nI_le' (a := j8) (b := k) c55 (by omega) (by omega)
              refine x_iconst C (v := 0) dX12_hoards_100 (by decide) rfl ?_
              refine x_istore_n C (lv' := [(3, .int 0), (0, .ref (a 0)), (1, .int (nI j8)), (2, .int (nI j19))]) dX12_hoards_101 rfl (by decide) rfl rfl ?_
              refine x_bipush C (v := (-2)) dX12_hoards_102 (by decide) rfl ?_
              refine x_istore C (lv' := [(4, .int (-2)), (3, .int 0), (0, .ref (a 0)), (1, .int (nI j8)), (2, .int (nI j19))]) dX12_hoards_104 (by decide) rfl rfl ?_
              refine x_iconst C (v := 0) dX12_hoards_106 (by decide) rfl ?_
              refine x_istore C (lv' := [(5, .int 0), (4, .int (-2)), (3, .int 0), (0, .ref (a 0)), (1, .int (nI j8)), (2, .int (nI j19))]) dX12_hoards_107 (by decide) rfl rfl ?_
              have loop109 : ∀ (fu109 : Nat) (z109_3 : Int32) (z109_4 : Int32) (rw : Nat) (wl109 : va_W), WX (okM E a cd kf jn js jq) wl109 → 32 - rw < fu109 → rw ≤ 32 → X E p l e (xRm 8 0 0) s m ([.ref (a 0), .int (nI j8), .int (nI j19)] : List Value).toArray below meth c A 6 0 0 (MQ below (va_Qi (fun r w => WX (okM E a cd kf jn js jq) w) (xB E A) A) ([.ref (a 0), .int (nI j8), .int (nI j19)] : List Value).toArray s 0 0 A) wl109 109 [(0, .ref (a 0)), (1, .int (nI j8)), (2, .int (nI j19)), (3, .int z109_3), (4, .int z109_4), (5, .int (nI rw))] [] := by
                intro fu109
                induction fu109 with
                | zero => intro z109_3 z109_4 rw wl109 _ q; omega
                | succ fu109 ih109 =>
                  intro z109_3 z109_4 rw wl109 hWl109 me109 iv109_0
                  refine x_iload C dX12_hoards_109 5 rfl rfl ?_
                  refine x_iconst C (v := 1) dX12_hoards_111 (by decide) rfl ?_
                  refine x_iload_n C dX12_hoards_112 rfl 1 rfl rfl ?_
                  obtain ⟨z57, hz58, ez59⟩ := sh_five (n := j8) (by omega)
                  refine x_ishl C (v := (nI z57)) dX12_hoards_113 ez59 rfl ?_
                  refine x_icmp_ge C (tgt := 153) dX12_hoards_114 (by decide) rfl (fun c60 => ?_) (fun c60 => ?_)
                  · skip
                    have nf61 := nI_le' (a := z57) (b := rw) c60 (by omega) (by omega)
                    refine x_iload_n C dX12_hoards_153 rfl 2 rfl rfl ?_
                    refine x_if_ne C (tgt := 161) dX12_hoards_154 (by decide) rfl (fun c62 => ?_) (fun c62 => ?_)
                    · skip
                      have nf63 : ¬ j19 = 0 := fun q => c62 (congrArg nI q)
                      refine x_iload C dX12_hoards_161 4 rfl rfl ?_
                      exact x_zret C hr hlk rfl dX12_hoards_163 hWl109
                    · skip
                      have nf64 : j19 = 0 := (nI_eq (by omega) (by omega)).mp c62
                      refine x_iload_n C dX12_hoards_157 rfl 3 rfl rfl ?_
                      refine x_goto C (tgt := 163) dX12_hoards_158 (by decide) ?_
                      exact x_zret C hr hlk rfl dX12_hoards_163 hWl109
                  · skip
                    have nf65 := nI_nle' (a := z57) (b := rw) c60 (by omega) (by omega)
                    refine x_aload_n C dX12_hoards_117 rfl 0 rfl rfl ?_
                    refine x_iload_n C dX12_hoards_118 rfl 1 rfl rfl ?_
                    refine x_iload C dX12_hoards_119 5 rfl rfl ?_
                    obtain ⟨_, k66, n67, n69, n71, v73, v74, v75, n76, n78, n80, n82, v84, v85, v86, v87, n88, n90, bn68, bn70, bn72, bn77, bn79, bn81, bn83, bn89, bn91, rfl⟩ := hWl109 0 _ rfl
                    refine x_vi C (As := [.int (nI j8), .int (nI rw)]) (rest := []) (m_rests E l a cd hG kf jn js jq wl109 hWl109 j8 ((nI rw)) (by omega)) mf_X12_rests w_1617 0 k66 rfl rfl rfl (Nat.le_of_ble_eq_true rfl) ⟨(Nat.le_of_ble_eq_true rfl), (Nat.le_of_ble_eq_true rfl)⟩ ⟨(Nat.le_of_ble_eq_true rfl), (Nat.le_of_ble_eq_true rfl)⟩ dX12_hoards_121 rfl (fun r93 w94 h92 => ?_)
                    obtain ⟨hW95, kq96, zb97⟩ := h92
                    have k98 : w94[0]? = some (ob (a 0) 11 [.ref (a 1), .ref (a 2), .ref (a 3), .ref (a 4), .int (nI n67), .int (nI n69), .int (nI n71), .int v73, .int v74, .int v75, .int (nI n76), .int (nI n78), .int (nI n80), .int (nI (cd.2.2.2.2.2)), .ref (a 5), .ref (a 6), .ref (a 7), .ref (a 8), .ref (a 9), .ref (a 10), .ref (a 11), .ref (a 12), .ref (a 13), .ref (a 14), .ref (a 15), .ref (a 16), .ref (a 17), .int (nI n82), .ref (a 18), .ref (a 19), .ref (a 20), .ref (a 21), .int v84, .int v85, .int v86, .int v87, .int (nI n88), .int (nI n90), .ref (a 22), .ref (a 23), .ref (a 24), .ref (a 25), .ref (a 26), .ref (a 27), .ref (a 28), .ref (a 29), .ref (a 30), .int kf]) := keeps_at kq96 k66 (by first | decide | omega | (dsimp only; omega))
                    refine x_if_ne C (tgt := 130) dX12_hoards_124 (by decide) rfl (fun c99 => ?_) (fun c99 => ?_)
                    · skip
                      refine x_iload_n C dX12_hoards_130 rfl 3 rfl rfl ?_
                      refine x_if_ne C (tgt := 139) dX12_hoards_131 (by decide) rfl (fun c100 => ?_) (fun c100 => ?_)
                      · skip
                        refine x_iload C dX12_hoards_139 4 rfl rfl ?_
                        refine x_istore C (lv' := [(4, .int z109_4), (0, .ref (a 0)), (1, .int (nI j8)), (2, .int (nI j19)), (3, .int z109_3), (5, .int (nI rw))]) dX12_hoards_141 (by decide) rfl rfl ?_
                        refine x_iload_n C dX12_hoards_143 rfl 4 rfl rfl ?_
                        refine x_iconst C (v := 1) dX12_hoards_144 (by decide) rfl ?_
                        refine x_iadd C (v := (z109_3 + (1 : Int32))) dX12_hoards_145 rfl rfl ?_
                        refine x_any (fun v101 => ?_)
                        refine x_istore_n C (lv' := [(3, .int v101), (4, .int z109_4), (0, .ref (a 0)), (1, .int (nI j8)), (2, .int (nI j19)), (5, .int (nI rw))]) dX12_hoards_146 rfl (by decide) rfl rfl ?_
                        refine x_iinc C (v := (nI (rw + 1))) (lv' := [(5, .int (nI (rw + 1))), (3, .int v101), (4, .int z109_4), (0, .ref (a 0)), (1, .int (nI j8)), (2, .int (nI j19))]) dX12_hoards_147 5 rfl (nI_add rw 1) (by decide) rfl rfl ?_
                        refine x_goto C (tgt := 109) dX12_hoards_150 (by decide) ?_
                        refine x_lv (lv1 := [(0, .ref (a 0)), (1, .int (nI j8)), (2, .int (nI j19)), (3, .int v101), (4, .int z109_4), (5, .int (nI (rw + 1)))]) [3, 4, 5, 1, 2, 0] rfl ?_
                        exact ih109 v101 z109_4 (rw + 1) w94 hW95 (by omega) (by omega)
                      · skip
                        refine x_iload C dX12_hoards_134 5 rfl rfl ?_
                        refine x_goto C (tgt := 141) dX12_hoards_136 (by decide) ?_
                        refine x_istore C (lv' := [(4, .int (nI rw)), (0, .ref (a 0)), (1, .int (nI j8)), (2, .int (nI j19)), (3, .int z109_3), (5, .int (nI rw))]) dX12_hoards_141 (by decide) rfl rfl ?_
                        refine x_iload_n C dX12_hoards_143 rfl 4 rfl rfl ?_
                        refine x_iconst C (v := 1) dX12_hoards_144 (by decide) rfl ?_
                        refine x_iadd C (v := (z109_3 + (1 : Int32))) dX12_hoards_145 rfl rfl ?_
                        refine x_any (fun v102 => ?_)
                        refine x_istore_n C (lv' := [(3, .int v102), (4, .int (nI rw)), (0, .ref (a 0)), (1, .int (nI j8)), (2, .int (nI j19)), (5, .int (nI rw))]) dX12_hoards_146 rfl (by decide) rfl rfl ?_
                        refine x_iinc C (v := (nI (rw + 1))) (lv' := [(5, .int (nI (rw + 1))), (3, .int v102), (4, .int (nI rw)), (0, .ref (a 0)), (1, .int (nI j8)), (2, .int (nI j19))]) dX12_hoards_147 5 rfl (nI_add rw 1) (by decide) rfl rfl ?_
                        refine x_goto C (tgt := 109) dX12_hoards_150 (by decide) ?_
                        refine x_lv (lv1 := [(0, .ref (a 0)), (1, .int (nI j8)), (2, .int (nI j19)), (3, .int v102), (4, .int (nI rw)), (5, .int (nI (rw + 1)))]) [3, 4, 5, 1, 2, 0] rfl ?_
                        exact ih109 v102 ((nI rw)) (rw + 1) w94 hW95 (by omega) (by omega)
                    · skip
                      refine x_goto C (tgt := 147) dX12_hoards_127 (by decide) ?_
                      refine x_iinc C (v := (nI (rw + 1))) (lv' := [(5, .int (nI (rw + 1))), (0, .ref (a 0)), (1, .int (nI j8)), (2, .int (nI j19)), (3, .int z109_3), (4, .int z109_4)]) dX12_hoards_147 5 rfl (nI_add rw 1) (by decide) rfl rfl ?_
                      refine x_goto C (tgt := 109) dX12_hoards_150 (by decide) ?_
                      refine x_lv (lv1 := [(0, .ref (a 0)), (1, .int (nI j8)), (2, .int (nI j19)), (3, .int z109_3), (4, .int z109_4), (5, .int (nI (rw + 1)))]) [1, 2, 3, 4, 5, 0] rfl ?_
                      exact ih109 z109_3 z109_4 (rw + 1) w94 hW95 (by omega) (by omega)
              refine x_lv (lv1 := [(0, .ref (a 0)), (1, .int (nI j8)), (2, .int (nI j19)), (3, .int 0), (4, .int (-2)), (5, .int 0)]) [3, 4, 5, 2, 1, 0] rfl ?_
              exact loop109 _ (0 : Int32) ((-2) : Int32) 0 wl37 hWl37 (Nat.lt_succ_self _) (by omega)
            · skip
              have nf103 := nI_nle' (a := j8) (b := k) c55 (by omega) (by omega)
              refine x_aload_n C dX12_hoards_42 rfl 0 rfl rfl ?_
              obtain ⟨_, k104, n105, n107, n109, v111, v112, v113, n114, n116, n118, n120, v122, v123, v124, v125, n126, n128, bn106, bn108, bn110, bn115, bn117, bn119, bn121, bn127, bn129, rfl⟩ := hWl37 0 _ rfl
              refine x_get C (ci := 11) (k := 46) 0 k104 rfl in_X12 (by decide) w_1164 rfl dX12_hoards_43 rfl ?_
              refine x_iload_n C dX12_hoards_46 rfl 3 rfl rfl ?_
              refine x_aload_n C dX12_hoards_47 rfl 0 rfl rfl ?_
              refine x_get C (ci := 11) (k := 3) 0 k104 rfl in_X12 (by decide) w_1121 rfl dX12_hoards_48 rfl ?_
              refine x_iconst C (v := 2) dX12_hoards_51 (by decide) rfl ?_
              refine x_iload_n C dX12_hoards_52 rfl 3 rfl rfl ?_
              refine x_imul C (v := (nI (2 * k))) dX12_hoards_53 (pk_mul 2 k) rfl ?_
              obtain ⟨_, k130, f131, rfl⟩ := hWl37 4 _ rfl
              refine x_bald C (v := (f131 (nI (2 * k)).toNatClampNeg)) 4 k130 (vp_in_nI (by omega) (by decide)) rfl dX12_hoards_54 rfl ?_
              refine x_any (fun v132 => ?_)
              refine x_sipush C (v := 255) dX12_hoards_55 (by decide) rfl ?_
              refine x_iand C (v := (v132 &&& (255 : Int32))) dX12_hoards_58 rfl rfl ?_
              refine x_any (fun v133 => ?_)
              refine x_sipush C (v := 256) dX12_hoards_59 (by decide) rfl ?_
              refine x_imul C (v := (v133 * (256 : Int32))) dX12_hoards_62 rfl rfl ?_
              refine x_any (fun v134 => ?_)
              refine x_aload_n C dX12_hoards_63 rfl 0 rfl rfl ?_
              refine x_get C (ci := 11) (k := 3) 0 k104 rfl in_X12 (by decide) w_1121 rfl dX12_hoards_64 rfl ?_
              refine x_iconst C (v := 2) dX12_hoards_67 (by decide) rfl ?_
              refine x_iload_n C dX12_hoards_68 rfl 3 rfl rfl ?_
              refine x_imul C (v := (nI (2 * k))) dX12_hoards_69 (pk_mul 2 k) rfl ?_
              refine x_iconst C (v := 1) dX12_hoards_70 (by decide) rfl ?_
              refine x_iadd C (v := (nI ((2 * k) + 1))) dX12_hoards_71 (nI_add (2 * k) 1) rfl ?_
              refine x_bald C (v := (f131 (nI ((2 * k) + 1)).toNatClampNeg)) 4 k130 (vp_in_nI (by omega) (by decide)) rfl dX12_hoards_72 rfl ?_
              refine x_any (fun v135 => ?_)
              refine x_sipush C (v := 255) dX12_hoards_73 (by decide) rfl ?_
              refine x_iand C (v := (v135 &&& (255 : Int32))) dX12_hoards_76 rfl rfl ?_
              refine x_any (fun v136 => ?_)
              refine x_iadd C (v := (v134 + v136)) dX12_hoards_77 rfl rfl ?_
              refine x_any (fun v137 => ?_)
              obtain ⟨_, k138, f139, rfl⟩ := hWl37 30 _ rfl
              obtain ⟨w140, hw141⟩ : ∃ w : va_W, w = List.set wl37 30 (iA E (a 30) 5 (upd f139 (nI k).toNatClampNeg v137)) := ⟨_, rfl⟩
              refine x_iast C 30 k138 (vp_in_nI (by omega) (by decide)) hw141.symm dX12_hoards_78 rfl ?_
              have hW142 : WX (okM E a cd kf jn js jq) w140 := by rw [hw141]; exact hWl37.set (k := 30) rfl ⟨_, rfl⟩
              have k143 : w140[0]? = some (ob (a 0) 11 [.ref (a 1), .ref (a 2), .ref (a 3), .ref (a 4), .int (nI n105), .int (nI n107), .int (nI n109), .int v111, .int v112, .int v113, .int (nI n114), .int (nI n116), .int (nI n118), .int (nI (cd.2.2.2.2.2)), .ref (a 5), .ref (a 6), .ref (a 7), .ref (a 8), .ref (a 9), .ref (a 10), .ref (a 11), .ref (a 12), .ref (a 13), .ref (a 14), .ref (a 15), .ref (a 16), .ref (a 17), .int (nI n120), .ref (a 18), .ref (a 19), .ref (a 20), .ref (a 21), .int v122, .int v123, .int v124, .int v125, .int (nI n126), .int (nI n128), .ref (a 22), .ref (a 23), .ref (a 24), .ref (a 25), .ref (a 26), .ref (a 27), .ref (a 28), .ref (a 29), .ref (a 30), .int kf]) := by rw [hw141]; exact set_ne k104 (by decide)
              have k144 : w140[4]? = some (bA E (a 4) 260 f131) := by rw [hw141]; exact set_ne k130 (by decide)
              have k145 : w140[30]? = some (iA E (a 30) 5 (upd f139 (nI k).toNatClampNeg v137)) := by rw [hw141]; exact set_eq k138
              refine x_aload_n C dX12_hoards_79 rfl 0 rfl rfl ?_
              refine x_get C (ci := 11) (k := 46) 0 k143 rfl in_X12 (by decide) w_1164 rfl dX12_hoards_80 rfl ?_
              refine x_iload_n C dX12_hoards_83 rfl 3 rfl rfl ?_
              refine x_iald C (v := ((upd f139 (nI k).toNatClampNeg v137) (nI k).toNatClampNeg)) 30 k145 (vp_in_nI (by omega) (by decide)) rfl dX12_hoards_84 rfl ?_
              refine x_any (fun v146 => ?_)
              refine x_sipush C (v := 999) dX12_hoards_85 (by decide) rfl ?_
              refine x_icmp_le C (tgt := 94) dX12_hoards_88 (by decide) rfl (fun c147 => ?_) (fun c147 => ?_)
              · skip
                refine x_iinc C (v := (nI (k + 1))) (lv' := [(3, .int (nI (k + 1))), (0, .ref (a 0)), (1, .int (nI j8)), (2, .int (nI j19))]) dX12_hoards_94 3 rfl (nI_add k 1) (by decide) rfl rfl ?_
                refine x_goto C (tgt := 37) dX12_hoards_97 (by decide) ?_
                refine x_lv (lv1 := [(0, .ref (a 0)), (1, .int (nI j8)), (2, .int (nI j19)), (3, .int (nI (k + 1)))]) [1, 2, 3, 0] rfl ?_
                exact ih37 (k + 1) w140 hW142 (by omega) (by omega)
              · skip
                refine x_bipush C (v := (-3)) dX12_hoards_91 (by decide) rfl ?_
                exact x_zret C hr hlk rfl dX12_hoards_93 hW142
        refine x_lv (lv1 := [(0, .ref (a 0)), (1, .int (nI j8)), (2, .int (nI j19)), (3, .int 0)]) [1, 2, 3, 0] rfl ?_
        exact loop37 _ 0 w51 hW53 (Nat.lt_succ_self _) (by omega)
      · skip
        have nf148 := nI_nle' (a := (2 * j8)) (b := n24) c49 (by omega) (by omega)
        refine x_iconst C (v := (-1)) dX12_hoards_28 (by decide) rfl ?_
        exact x_zret C hr hlk rfl dX12_hoards_29 hW
theorem dX12_areEggs_0 : decode cX12_areEggs 0 = .ok (.iconst 0, 1) := by decide +kernel
theorem dX12_areEggs_1 : decode cX12_areEggs 1 = .ok (.istore_n 3, 1) := by decide +kernel
theorem dX12_areEggs_2 : decode cX12_areEggs 2 = .ok (.iload_n 3, 1) := by decide +kernel
theorem dX12_areEggs_3 : decode cX12_areEggs 3 = .ok (.iload_n 1, 1) := by decide +kernel
theorem dX12_areEggs_4 : decode cX12_areEggs 4 = .ok (.if_icmp .ge 76, 3) := by decide +kernel
theorem dX12_areEggs_7 : decode cX12_areEggs 7 = .ok (.aload_n 0, 1) := by decide +kernel
theorem dX12_areEggs_8 : decode cX12_areEggs 8 = .ok (.aload_n 0, 1) := by decide +kernel
theorem dX12_areEggs_9 : decode cX12_areEggs 9 = .ok (.getfield 19, 3) := by decide +kernel
theorem dX12_areEggs_12 : decode cX12_areEggs 12 = .ok (.iload_n 3, 1) := by decide +kernel
theorem dX12_areEggs_13 : decode cX12_areEggs 13 = .ok (.baload, 1) := by decide +kernel
theorem dX12_areEggs_14 : decode cX12_areEggs 14 = .ok (.invokevirtual 105, 3) := by decide +kernel
theorem dX12_areEggs_17 : decode cX12_areEggs 17 = .ok (.ifCond .eq 22, 3) := by decide +kernel
theorem dX12_areEggs_20 : decode cX12_areEggs 20 = .ok (.aload_n 0, 1) := by decide +kernel
theorem dX12_areEggs_21 : decode cX12_areEggs 21 = .ok (.getfield 7, 3) := by decide +kernel
theorem dX12_areEggs_24 : decode cX12_areEggs 24 = .ok (.sipush 240, 3) := by decide +kernel
theorem dX12_areEggs_27 : decode cX12_areEggs 27 = .ok (.aload_n 0, 1) := by decide +kernel
theorem dX12_areEggs_28 : decode cX12_areEggs 28 = .ok (.getfield 19, 3) := by decide +kernel
theorem dX12_areEggs_31 : decode cX12_areEggs 31 = .ok (.iload_n 3, 1) := by decide +kernel
theorem dX12_areEggs_32 : decode cX12_areEggs 32 = .ok (.baload, 1) := by decide +kernel
theorem dX12_areEggs_33 : decode cX12_areEggs 33 = .ok (.iadd, 1) := by decide +kernel
theorem dX12_areEggs_34 : decode cX12_areEggs 34 = .ok (.iaload, 1) := by decide +kernel
theorem dX12_areEggs_35 : decode cX12_areEggs 35 = .ok (.iload_n 2, 1) := by decide +kernel
theorem dX12_areEggs_36 : decode cX12_areEggs 36 = .ok (.if_icmp .eq 5, 3) := by decide +kernel
theorem dX12_areEggs_39 : decode cX12_areEggs 39 = .ok (.iconst 0, 1) := by decide +kernel
theorem dX12_areEggs_40 : decode cX12_areEggs 40 = .ok (.ireturn, 1) := by decide +kernel
theorem dX12_areEggs_41 : decode cX12_areEggs 41 = .ok (.iconst 0, 1) := by decide +kernel
theorem dX12_areEggs_42 : decode cX12_areEggs 42 = .ok (.istore 4, 2) := by decide +kernel
theorem dX12_areEggs_44 : decode cX12_areEggs 44 = .ok (.iload 4, 2) := by decide +kernel
theorem dX12_areEggs_46 : decode cX12_areEggs 46 = .ok (.iload_n 3, 1) := by decide +kernel
theorem dX12_areEggs_47 : decode cX12_areEggs 47 = .ok (.if_icmp .ge 27, 3) := by decide +kernel
theorem dX12_areEggs_50 : decode cX12_areEggs 50 = .ok (.aload_n 0, 1) := by decide +kernel
theorem dX12_areEggs_51 : decode cX12_areEggs 51 = .ok (.getfield 19, 3) := by decide +kernel
theorem dX12_areEggs_54 : decode cX12_areEggs 54 = .ok (.iload 4, 2) := by decide +kernel
theorem dX12_areEggs_56 : decode cX12_areEggs 56 = .ok (.baload, 1) := by decide +kernel
theorem dX12_areEggs_57 : decode cX12_areEggs 57 = .ok (.aload_n 0, 1) := by decide +kernel
theorem dX12_areEggs_58 : decode cX12_areEggs 58 = .ok (.getfield 19, 3) := by decide +kernel
theorem dX12_areEggs_61 : decode cX12_areEggs 61 = .ok (.iload_n 3, 1) := by decide +kernel
theorem dX12_areEggs_62 : decode cX12_areEggs 62 = .ok (.baload, 1) := by decide +kernel
theorem dX12_areEggs_63 : decode cX12_areEggs 63 = .ok (.if_icmp .ne 5, 3) := by decide +kernel
theorem dX12_areEggs_66 : decode cX12_areEggs 66 = .ok (.iconst 0, 1) := by decide +kernel
theorem dX12_areEggs_67 : decode cX12_areEggs 67 = .ok (.ireturn, 1) := by decide +kernel
theorem dX12_areEggs_68 : decode cX12_areEggs 68 = .ok (.iinc 4 1, 3) := by decide +kernel
theorem dX12_areEggs_71 : decode cX12_areEggs 71 = .ok (.goto (-27), 3) := by decide +kernel
theorem dX12_areEggs_74 : decode cX12_areEggs 74 = .ok (.iinc 3 1, 3) := by decide +kernel
theorem dX12_areEggs_77 : decode cX12_areEggs 77 = .ok (.goto (-75), 3) := by decide +kernel
theorem dX12_areEggs_80 : decode cX12_areEggs 80 = .ok (.iconst 1, 1) := by decide +kernel
theorem dX12_areEggs_81 : decode cX12_areEggs 81 = .ok (.ireturn, 1) := by decide +kernel
set_option maxRecDepth 20000 in
set_option maxHeartbeats 4000000 in
theorem m_areEggs (E : xE) (l : Launch) (a : Nat → Nat) (cd : Cd) (hG : Good cd) (kf : Int32) (jn js jq : Lb) (ws : va_W) (hW : WX (okM E a cd kf jn js jq) ws) (n0 : Nat) (p1 : Int32) (hn0 : n0 ≤ 10) (tf : Nat → Int32) (htf : ws[4]? = some (bA E (a 4) 260 tf)) : xI E l yX12_areEggs cX12_areEggs 5 (some .boolean) 2 [.ref (a 0), .int (nI n0), .int p1] ws (fun r w => w = ws ∧ zb r ∧ (¬ r = 0 → tE tf n0)) := by
  refine xI_start (lv := [(0, .ref (a 0)), (1, .int (nI n0)), (2, .int p1)]) RX12 (by decide) rfl (Nat.le_of_ble_eq_true rfl) rfl (fun p e s m below meth c A C hr hlk => ?_)
  refine x_iconst C (v := 0) dX12_areEggs_0 (by decide) rfl ?_
  refine x_istore_n C (lv' := [(3, .int 0), (0, .ref (a 0)), (1, .int (nI n0)), (2, .int p1)]) dX12_areEggs_1 rfl (by decide) rfl rfl ?_
  have loop2 : ∀ (fu2 : Nat) (k : Nat), True → 10 - k < fu2 → k ≤ 10 → tE tf k → X E p l e (xRm 2 0 0) s m ([.ref (a 0), .int (nI n0), .int p1] : List Value).toArray below meth c A 5 0 0 (MQ below (va_Qi (fun r w => w = ws ∧ zb r ∧ (¬ r = 0 → tE tf n0)) (xB E A) A) ([.ref (a 0), .int (nI n0), .int p1] : List Value).toArray s 0 0 A) ws 2 [(0, .ref (a 0)), (1, .int (nI n0)), (2, .int p1), (3, .int (nI k))] [] := by
    intro fu2
    induction fu2 with
    | zero => intro k _ q; omega
    | succ fu2 ih2 =>
      intro k _ me2 iv2_0 iv2_1
      refine x_iload_n C dX12_areEggs_2 rfl 3 rfl rfl ?_
      refine x_iload_n C dX12_areEggs_3 rfl 1 rfl rfl ?_
      refine x_icmp_ge C (tgt := 80) dX12_areEggs_4 (by decide) rfl (fun c1 => ?_) (fun c1 => ?_)
      · skip
        have nf2 := nI_le' (a := n0) (b := k) c1 (by omega) (by omega)
        refine x_iconst C (v := 1) dX12_areEggs_80 (by decide) rfl ?_
        exact x_zret C hr hlk rfl dX12_areEggs_81 ⟨rfl, (Or.inr rfl), (fun _ j hj => iv2_1 j (by omega))⟩
      · skip
        have nf3 := nI_nle' (a := n0) (b := k) c1 (by omega) (by omega)
        refine x_aload_n C dX12_areEggs_7 rfl 0 rfl rfl ?_
        refine x_aload_n C dX12_areEggs_8 rfl 0 rfl rfl ?_
        obtain ⟨_, k4, n5, n7, n9, v11, v12, v13, n14, n16, n18, n20, v22, v23, v24, v25, n26, n28, bn6, bn8, bn10, bn15, bn17, bn19, bn21, bn27, bn29, rfl⟩ := hW 0 _ rfl
        refine x_get C (ci := 11) (k := 3) 0 k4 rfl in_X12 (by decide) w_1121 rfl dX12_areEggs_9 rfl ?_
        refine x_iload_n C dX12_areEggs_12 rfl 3 rfl rfl ?_
        refine x_bald C (v := (tf (nI k).toNatClampNeg)) 4 htf (vp_in_nI (by omega) (by decide)) rfl dX12_areEggs_13 rfl ?_
        obtain ⟨x30, ex31⟩ : ∃ x : Int32, x = tf k := ⟨_, rfl⟩
        refine x_top (v := x30) (show (tf (nI k).toNatClampNeg) = x30 from by rw [nI_clamp (by omega)]; exact ex31.symm) ?_
        refine x_vi C (As := [.int x30]) (rest := []) (m_isEgg E l a cd hG kf jn js jq ws hW x30) mf_X12_isEgg w_1439 0 k4 rfl rfl rfl (Nat.le_of_ble_eq_true rfl) ⟨(Nat.le_of_ble_eq_true rfl), (Nat.le_of_ble_eq_true rfl)⟩ ⟨(Nat.le_of_ble_eq_true rfl), (Nat.le_of_ble_eq_true rfl)⟩ dX12_areEggs_14 rfl (fun r33 w34 h32 => ?_)
        obtain ⟨hW35, zb36, x37⟩ := h32
        refine x_ws hW35 ?_
        refine x_if_eq C (tgt := 39) dX12_areEggs_17 (by decide) rfl (fun c38 => ?_) (fun c38 => ?_)
        · skip
          refine x_iconst C (v := 0) dX12_areEggs_39 (by decide) rfl ?_
          exact x_zret C hr hlk rfl dX12_areEggs_40 ⟨rfl, (Or.inl rfl), (fun q => absurd rfl q)⟩
        · skip
          obtain ⟨j39, hl40, hh41, ej42⟩ := w_nat (a := 0) (b := 47) (by decide) (by decide) (x37 c38)
          subst ej42
          refine x_aload_n C dX12_areEggs_20 rfl 0 rfl rfl ?_
          refine x_get C (ci := 11) (k := 0) 0 k4 rfl in_X12 (by decide) w_1118 rfl dX12_areEggs_21 rfl ?_
          refine x_sipush C (v := 240) dX12_areEggs_24 (by decide) rfl ?_
          refine x_aload_n C dX12_areEggs_27 rfl 0 rfl rfl ?_
          refine x_get C (ci := 11) (k := 3) 0 k4 rfl in_X12 (by decide) w_1121 rfl dX12_areEggs_28 rfl ?_
          refine x_iload_n C dX12_areEggs_31 rfl 3 rfl rfl ?_
          refine x_bald C (v := (tf (nI k).toNatClampNeg)) 4 htf (vp_in_nI (by omega) (by decide)) rfl dX12_areEggs_32 rfl ?_
          refine x_top (show (tf (nI k).toNatClampNeg) = nI j39 from by rw [nI_clamp (by omega)]; exact ex31.symm) ?_
          refine x_iadd C (v := (nI (240 + j39))) dX12_areEggs_33 (nI_add 240 j39) rfl ?_
          obtain ⟨_, k45, f46, pf47, rfl⟩ := hW 1 _ rfl
          refine x_iald C (v := (f46 (nI (240 + j39)).toNatClampNeg)) 1 k45 (vp_in_nI (by omega) (by decide)) rfl dX12_areEggs_34 rfl ?_
          refine x_any (fun v48 => ?_)
          refine x_iload_n C dX12_areEggs_35 rfl 2 rfl rfl ?_
          refine x_icmp_eq C (tgt := 41) dX12_areEggs_36 (by decide) rfl (fun c49 => ?_) (fun c49 => ?_)
          · skip
            refine x_iconst C (v := 0) dX12_areEggs_41 (by decide) rfl ?_
            refine x_istore C (lv' := [(4, .int 0), (0, .ref (a 0)), (1, .int (nI n0)), (2, .int p1), (3, .int (nI k))]) dX12_areEggs_42 (by decide) rfl rfl ?_
            have loop44 : ∀ (fu44 : Nat) (q : Nat), True → k - q < fu44 → q ≤ k → X E p l e (xRm 2 0 0) s m ([.ref (a 0), .int (nI n0), .int p1] : List Value).toArray below meth c A 5 0 0 (MQ below (va_Qi (fun r w => w = ws ∧ zb r ∧ (¬ r = 0 → tE tf n0)) (xB E A) A) ([.ref (a 0), .int (nI n0), .int p1] : List Value).toArray s 0 0 A) ws 44 [(0, .ref (a 0)), (1, .int (nI n0)), (2, .int p1), (3, .int (nI k)), (4, .int (nI q))] [] := by
              intro fu44
              induction fu44 with
              | zero => intro q _ q; omega
              | succ fu44 ih44 =>
                intro q _ me44 iv44_0
                refine x_iload C dX12_areEggs_44 4 rfl rfl ?_
                refine x_iload_n C dX12_areEggs_46 rfl 3 rfl rfl ?_
                refine x_icmp_ge C (tgt := 74) dX12_areEggs_47 (by decide) rfl (fun c50 => ?_) (fun c50 => ?_)
                · skip
                  have nf51 := nI_le' (a := k) (b := q) c50 (by omega) (by omega)
                  refine x_iinc C (v := (nI (k + 1))) (lv' := [(3, .int (nI (k + 1))), (0, .ref (a 0)), (1, .int (nI n0)), (2, .int p1), (4, .int (nI q))]) dX12_areEggs_74 3 rfl (nI_add k 1) (by decide) rfl rfl ?_
                  refine x_goto C (tgt := 2) dX12_areEggs_77 (by decide) ?_
                  refine x_lv (lv1 := [(0, .ref (a 0)), (1, .int (nI n0)), (2, .int p1), (3, .int (nI (k + 1)))]) [1, 2, 3, 0] rfl ?_
                  exact ih2 (k + 1) trivial (by omega) (by omega) (tE_step iv2_1 (i := j39) ex31.symm (by omega))
                · skip
                  have nf52 := nI_nle' (a := k) (b := q) c50 (by omega) (by omega)
                  refine x_aload_n C dX12_areEggs_50 rfl 0 rfl rfl ?_
                  refine x_get C (ci := 11) (k := 3) 0 k4 rfl in_X12 (by decide) w_1121 rfl dX12_areEggs_51 rfl ?_
                  refine x_iload C dX12_areEggs_54 4 rfl rfl ?_
                  refine x_bald C (v := (tf (nI q).toNatClampNeg)) 4 htf (vp_in_nI (by omega) (by decide)) rfl dX12_areEggs_56 rfl ?_
                  refine x_any (fun v53 => ?_)
                  refine x_aload_n C dX12_areEggs_57 rfl 0 rfl rfl ?_
                  refine x_get C (ci := 11) (k := 3) 0 k4 rfl in_X12 (by decide) w_1121 rfl dX12_areEggs_58 rfl ?_
                  refine x_iload_n C dX12_areEggs_61 rfl 3 rfl rfl ?_
                  refine x_bald C (v := (tf (nI k).toNatClampNeg)) 4 htf (vp_in_nI (by omega) (by decide)) rfl dX12_areEggs_62 rfl ?_
                  refine x_any (fun v54 => ?_)
                  refine x_icmp_ne C (tgt := 68) dX12_areEggs_63 (by decide) rfl (fun c55 => ?_) (fun c55 => ?_)
                  · skip
                    refine x_iinc C (v := (nI (q + 1))) (lv' := [(4, .int (nI (q + 1))), (0, .ref (a 0)), (1, .int (nI n0)), (2, .int p1), (3, .int (nI k))]) dX12_areEggs_68 4 rfl (nI_add q 1) (by decide) rfl rfl ?_
                    refine x_goto C (tgt := 44) dX12_areEggs_71 (by decide) ?_
                    refine x_lv (lv1 := [(0, .ref (a 0)), (1, .int (nI n0)), (2, .int p1), (3, .int (nI k)), (4, .int (nI (q + 1)))]) [1, 2, 3, 4, 0] rfl ?_
                    exact ih44 (q + 1) trivial (by omega) (by omega)
                  · skip
                    refine x_iconst C (v := 0) dX12_areEggs_66 (by decide) rfl ?_
                    exact x_zret C hr hlk rfl dX12_areEggs_67 ⟨rfl, (Or.inl rfl), (fun q => absurd rfl q)⟩
            refine x_lv (lv1 := [(0, .ref (a 0)), (1, .int (nI n0)), (2, .int p1), (3, .int (nI k)), (4, .int 0)]) [1, 2, 3, 4, 0] rfl ?_
            exact loop44 _ 0 trivial (Nat.lt_succ_self _) (by omega)
          · skip
            refine x_iconst C (v := 0) dX12_areEggs_39 (by decide) rfl ?_
            exact x_zret C hr hlk rfl dX12_areEggs_40 ⟨rfl, (Or.inl rfl), (fun q => absurd rfl q)⟩
  refine x_lv (lv1 := [(0, .ref (a 0)), (1, .int (nI n0)), (2, .int p1), (3, .int 0)]) [1, 2, 3, 0] rfl ?_
  exact loop2 _ 0 trivial (Nat.lt_succ_self _) (by omega) (fun j hj => absurd hj (by omega))
theorem dX12_leastOf_0 : decode cX12_leastOf 0 = .ok (.ldc 246, 2) := by decide +kernel
theorem dX12_leastOf_2 : decode cX12_leastOf 2 = .ok (.istore 4, 2) := by decide +kernel
theorem dX12_leastOf_4 : decode cX12_leastOf 4 = .ok (.iconst 0, 1) := by decide +kernel
theorem dX12_leastOf_5 : decode cX12_leastOf 5 = .ok (.istore 5, 2) := by decide +kernel
theorem dX12_leastOf_7 : decode cX12_leastOf 7 = .ok (.iload 5, 2) := by decide +kernel
theorem dX12_leastOf_9 : decode cX12_leastOf 9 = .ok (.iload_n 2, 1) := by decide +kernel
theorem dX12_leastOf_10 : decode cX12_leastOf 10 = .ok (.if_icmp .ge 78, 3) := by decide +kernel
theorem dX12_leastOf_13 : decode cX12_leastOf 13 = .ok (.iload_n 3, 1) := by decide +kernel
theorem dX12_leastOf_14 : decode cX12_leastOf 14 = .ok (.istore 6, 2) := by decide +kernel
theorem dX12_leastOf_16 : decode cX12_leastOf 16 = .ok (.iconst 0, 1) := by decide +kernel
theorem dX12_leastOf_17 : decode cX12_leastOf 17 = .ok (.istore 7, 2) := by decide +kernel
theorem dX12_leastOf_19 : decode cX12_leastOf 19 = .ok (.iload_n 1, 1) := by decide +kernel
theorem dX12_leastOf_20 : decode cX12_leastOf 20 = .ok (.iconst 1, 1) := by decide +kernel
theorem dX12_leastOf_21 : decode cX12_leastOf 21 = .ok (.isub, 1) := by decide +kernel
theorem dX12_leastOf_22 : decode cX12_leastOf 22 = .ok (.istore 8, 2) := by decide +kernel
theorem dX12_leastOf_24 : decode cX12_leastOf 24 = .ok (.iload 8, 2) := by decide +kernel
theorem dX12_leastOf_26 : decode cX12_leastOf 26 = .ok (.ifCond .lt 47, 3) := by decide +kernel
theorem dX12_leastOf_29 : decode cX12_leastOf 29 = .ok (.iload 7, 2) := by decide +kernel
theorem dX12_leastOf_31 : decode cX12_leastOf 31 = .ok (.iload 6, 2) := by decide +kernel
theorem dX12_leastOf_33 : decode cX12_leastOf 33 = .ok (.iload_n 2, 1) := by decide +kernel
theorem dX12_leastOf_34 : decode cX12_leastOf 34 = .ok (.irem, 1) := by decide +kernel
theorem dX12_leastOf_35 : decode cX12_leastOf 35 = .ok (.iload 5, 2) := by decide +kernel
theorem dX12_leastOf_37 : decode cX12_leastOf 37 = .ok (.if_icmp .ne 20, 3) := by decide +kernel
theorem dX12_leastOf_40 : decode cX12_leastOf 40 = .ok (.aload_n 0, 1) := by decide +kernel
theorem dX12_leastOf_41 : decode cX12_leastOf 41 = .ok (.getfield 7, 3) := by decide +kernel
theorem dX12_leastOf_44 : decode cX12_leastOf 44 = .ok (.iconst 0, 1) := by decide +kernel
theorem dX12_leastOf_45 : decode cX12_leastOf 45 = .ok (.aload_n 0, 1) := by decide +kernel
theorem dX12_leastOf_46 : decode cX12_leastOf 46 = .ok (.getfield 19, 3) := by decide +kernel
theorem dX12_leastOf_49 : decode cX12_leastOf 49 = .ok (.iload 8, 2) := by decide +kernel
theorem dX12_leastOf_51 : decode cX12_leastOf 51 = .ok (.baload, 1) := by decide +kernel
theorem dX12_leastOf_52 : decode cX12_leastOf 52 = .ok (.iadd, 1) := by decide +kernel
theorem dX12_leastOf_53 : decode cX12_leastOf 53 = .ok (.iaload, 1) := by decide +kernel
theorem dX12_leastOf_54 : decode cX12_leastOf 54 = .ok (.goto 4, 3) := by decide +kernel
theorem dX12_leastOf_57 : decode cX12_leastOf 57 = .ok (.iconst 0, 1) := by decide +kernel
theorem dX12_leastOf_58 : decode cX12_leastOf 58 = .ok (.iadd, 1) := by decide +kernel
theorem dX12_leastOf_59 : decode cX12_leastOf 59 = .ok (.istore 7, 2) := by decide +kernel
theorem dX12_leastOf_61 : decode cX12_leastOf 61 = .ok (.iload 6, 2) := by decide +kernel
theorem dX12_leastOf_63 : decode cX12_leastOf 63 = .ok (.iload_n 2, 1) := by decide +kernel
theorem dX12_leastOf_64 : decode cX12_leastOf 64 = .ok (.idiv, 1) := by decide +kernel
theorem dX12_leastOf_65 : decode cX12_leastOf 65 = .ok (.istore 6, 2) := by decide +kernel
theorem dX12_leastOf_67 : decode cX12_leastOf 67 = .ok (.iinc 8 (-1), 3) := by decide +kernel
theorem dX12_leastOf_70 : decode cX12_leastOf 70 = .ok (.goto (-46), 3) := by decide +kernel
theorem dX12_leastOf_73 : decode cX12_leastOf 73 = .ok (.iload 4, 2) := by decide +kernel
theorem dX12_leastOf_75 : decode cX12_leastOf 75 = .ok (.iload 7, 2) := by decide +kernel
theorem dX12_leastOf_77 : decode cX12_leastOf 77 = .ok (.invokestatic 272, 3) := by decide +kernel
theorem dX12_leastOf_80 : decode cX12_leastOf 80 = .ok (.istore 4, 2) := by decide +kernel
theorem dX12_leastOf_82 : decode cX12_leastOf 82 = .ok (.iinc 5 1, 3) := by decide +kernel
theorem dX12_leastOf_85 : decode cX12_leastOf 85 = .ok (.goto (-78), 3) := by decide +kernel
theorem dX12_leastOf_88 : decode cX12_leastOf 88 = .ok (.iload 4, 2) := by decide +kernel
theorem dX12_leastOf_90 : decode cX12_leastOf 90 = .ok (.ireturn, 1) := by decide +kernel
set_option maxRecDepth 20000 in
set_option maxHeartbeats 4000000 in
theorem m_leastOf (E : xE) (l : Launch) (a : Nat → Nat) (cd : Cd) (hG : Good cd) (kf : Int32) (jn js jq : Lb) (ws : va_W) (hW : WX (okM E a cd kf jn js jq) ws) (n0 : Nat) (m0 : Nat) (p2 : Int32) (hn0 : 1 ≤ n0 ∧ n0 ≤ 8) (hm0 : 2 ≤ m0 ∧ m0 ≤ 3) (tf : Nat → Int32) (htf : ws[4]? = some (bA E (a 4) 260 tf)) (hte : tE tf n0) : xI E l yX12_leastOf cX12_leastOf 9 (some .int) 1 [.ref (a 0), .int (nI n0), .int (nI m0), .int p2] ws (fun r w => w = ws) := by
  refine xI_start (lv := [(0, .ref (a 0)), (1, .int (nI n0)), (2, .int (nI m0)), (3, .int p2)]) RX12 (by decide) rfl (Nat.le_of_ble_eq_true rfl) rfl (fun p e s m below meth c A C hr hlk => ?_)
  refine x_ldc C w_1538 dX12_leastOf_0 rfl ?_
  refine x_istore C (lv' := [(4, .int 1000000000), (0, .ref (a 0)), (1, .int (nI n0)), (2, .int (nI m0)), (3, .int p2)]) dX12_leastOf_2 (by decide) rfl rfl ?_
  refine x_iconst C (v := 0) dX12_leastOf_4 (by decide) rfl ?_
  refine x_istore C (lv' := [(5, .int 0), (4, .int 1000000000), (0, .ref (a 0)), (1, .int (nI n0)), (2, .int (nI m0)), (3, .int p2)]) dX12_leastOf_5 (by decide) rfl rfl ?_
  have loop7 : ∀ (fu7 : Nat) (z7_4 : Int32) (wh : Nat), True → 3 - wh < fu7 → wh ≤ 3 → X E p l e (xRm 1 0 0) s m ([.ref (a 0), .int (nI n0), .int (nI m0), .int p2] : List Value).toArray below meth c A 9 0 0 (MQ below (va_Qi (fun r w => w = ws) (xB E A) A) ([.ref (a 0), .int (nI n0), .int (nI m0), .int p2] : List Value).toArray s 0 0 A) ws 7 [(0, .ref (a 0)), (1, .int (nI n0)), (2, .int (nI m0)), (3, .int p2), (4, .int z7_4), (5, .int (nI wh))] [] := by
    intro fu7
    induction fu7 with
    | zero => intro z7_4 wh _ q; omega
    | succ fu7 ih7 =>
      intro z7_4 wh _ me7 iv7_0
      refine x_iload C dX12_leastOf_7 5 rfl rfl ?_
      refine x_iload_n C dX12_leastOf_9 rfl 2 rfl rfl ?_
      refine x_icmp_ge C (tgt := 88) dX12_leastOf_10 (by decide) rfl (fun c1 => ?_) (fun c1 => ?_)
      · skip
        have nf2 := nI_le' (a := m0) (b := wh) c1 (by omega) (by omega)
        refine x_iload C dX12_leastOf_88 4 rfl rfl ?_
        exact x_zret C hr hlk rfl dX12_leastOf_90 rfl
      · skip
        have nf3 := nI_nle' (a := m0) (b := wh) c1 (by omega) (by omega)
        refine x_iload_n C dX12_leastOf_13 rfl 3 rfl rfl ?_
        refine x_istore C (lv' := [(6, .int p2), (0, .ref (a 0)), (1, .int (nI n0)), (2, .int (nI m0)), (3, .int p2), (4, .int z7_4), (5, .int (nI wh))]) dX12_leastOf_14 (by decide) rfl rfl ?_
        refine x_iconst C (v := 0) dX12_leastOf_16 (by decide) rfl ?_
        refine x_istore C (lv' := [(7, .int 0), (6, .int p2), (0, .ref (a 0)), (1, .int (nI n0)), (2, .int (nI m0)), (3, .int p2), (4, .int z7_4), (5, .int (nI wh))]) dX12_leastOf_17 (by decide) rfl rfl ?_
        refine x_iload_n C dX12_leastOf_19 rfl 3 rfl rfl ?_
        refine x_iconst C (v := 1) dX12_leastOf_20 (by decide) rfl ?_
        refine x_isub C (v := (nI (n0 - 1))) dX12_leastOf_21 (pk_sub (a := n0) (b := 1) (by omega)) rfl ?_
        refine x_istore C (lv' := [(8, .int (nI (n0 - 1))), (7, .int 0), (6, .int p2), (0, .ref (a 0)), (1, .int (nI n0)), (2, .int (nI m0)), (3, .int p2), (4, .int z7_4), (5, .int (nI wh))]) dX12_leastOf_22 (by decide) rfl rfl ?_
        have loop24 : ∀ (fu24 : Nat) (z24_6 : Int32) (z24_7 : Int32) (k : Nat), True → k < fu24 → k < n0 → X E p l e (xRm 1 0 0) s m ([.ref (a 0), .int (nI n0), .int (nI m0), .int p2] : List Value).toArray below meth c A 9 0 0 (MQ below (va_Qi (fun r w => w = ws) (xB E A) A) ([.ref (a 0), .int (nI n0), .int (nI m0), .int p2] : List Value).toArray s 0 0 A) ws 24 [(0, .ref (a 0)), (1, .int (nI n0)), (2, .int (nI m0)), (3, .int p2), (4, .int z7_4), (5, .int (nI wh)), (6, .int z24_6), (7, .int z24_7), (8, .int (nI k))] [] := by
          intro fu24
          induction fu24 with
          | zero => intro z24_6 z24_7 k _ q; omega
          | succ fu24 ih24 =>
            intro z24_6 z24_7 k _ me24 iv24_0
            refine x_iload C dX12_leastOf_24 8 rfl rfl ?_
            refine x_if_lt C (tgt := 73) dX12_leastOf_26 (by decide) rfl (fun c4 => ?_) (fun c4 => ?_)
            · skip
              have nf5 := nI_lt' (a := k) (b := 0) c4 (by omega) (by omega)
              refine x_iload C dX12_leastOf_73 4 rfl rfl ?_
              refine x_iload C dX12_leastOf_75 7 rfl rfl ?_
              refine x_si C (As := [.int z7_4, .int z24_7]) (rest := []) (m_min E l a cd hG kf jn js jq ws hW z7_4 z24_7) mf_X12_min w_1479 rfl rfl (Nat.le_of_ble_eq_true rfl) ⟨(Nat.le_of_ble_eq_true rfl), (Nat.le_of_ble_eq_true rfl)⟩ ⟨(Nat.le_of_ble_eq_true rfl), (Nat.le_of_ble_eq_true rfl)⟩ dX12_leastOf_77 rfl (fun r7 w8 h6 => ?_)
              have hW9 := h6
              refine x_ws hW9 ?_
              refine x_istore C (lv' := [(4, .int r7), (0, .ref (a 0)), (1, .int (nI n0)), (2, .int (nI m0)), (3, .int p2), (5, .int (nI wh)), (6, .int z24_6), (7, .int z24_7), (8, .int (nI k))]) dX12_leastOf_80 (by decide) rfl rfl ?_
              refine x_iinc C (v := (nI (wh + 1))) (lv' := [(5, .int (nI (wh + 1))), (4, .int r7), (0, .ref (a 0)), (1, .int (nI n0)), (2, .int (nI m0)), (3, .int p2), (6, .int z24_6), (7, .int z24_7), (8, .int (nI k))]) dX12_leastOf_82 5 rfl (nI_add wh 1) (by decide) rfl rfl ?_
              refine x_goto C (tgt := 7) dX12_leastOf_85 (by decide) ?_
              refine x_lv (lv1 := [(0, .ref (a 0)), (1, .int (nI n0)), (2, .int (nI m0)), (3, .int p2), (4, .int r7), (5, .int (nI (wh + 1)))]) [2, 3, 4, 5, 1, 0] rfl ?_
              exact ih7 r7 (wh + 1) trivial (by omega) (by omega)
            · skip
              have nf10 := nI_nlt' (a := k) (b := 0) c4 (by omega) (by omega)
              refine x_iload C dX12_leastOf_29 7 rfl rfl ?_
              refine x_iload C dX12_leastOf_31 6 rfl rfl ?_
              refine x_iload_n C dX12_leastOf_33 rfl 2 rfl rfl ?_
              refine x_irem C (v := (z24_6 - z24_6 / (nI m0) * (nI m0))) dX12_leastOf_34 (nz (by omega) (by omega)) rfl rfl ?_
              refine x_any (fun v11 => ?_)
              refine x_iload C dX12_leastOf_35 5 rfl rfl ?_
              refine x_icmp_ne C (tgt := 57) dX12_leastOf_37 (by decide) rfl (fun c12 => ?_) (fun c12 => ?_)
              · skip
                refine x_iconst C (v := 0) dX12_leastOf_57 (by decide) rfl ?_
                refine x_iadd C (v := (z24_7 + (0 : Int32))) dX12_leastOf_58 rfl rfl ?_
                refine x_any (fun v13 => ?_)
                refine x_istore C (lv' := [(7, .int v13), (0, .ref (a 0)), (1, .int (nI n0)), (2, .int (nI m0)), (3, .int p2), (4, .int z7_4), (5, .int (nI wh)), (6, .int z24_6), (8, .int (nI k))]) dX12_leastOf_59 (by decide) rfl rfl ?_
                refine x_iload C dX12_leastOf_61 7 rfl rfl ?_
                refine x_iload_n C dX12_leastOf_63 rfl 3 rfl rfl ?_
                refine x_idiv C (v := (z24_6 / (nI m0))) dX12_leastOf_64 (nz (by omega) (by omega)) rfl rfl ?_
                refine x_any (fun v14 => ?_)
                refine x_istore C (lv' := [(6, .int v14), (7, .int v13), (0, .ref (a 0)), (1, .int (nI n0)), (2, .int (nI m0)), (3, .int p2), (4, .int z7_4), (5, .int (nI wh)), (8, .int (nI k))]) dX12_leastOf_65 (by decide) rfl rfl ?_
                by_cases hz15 : k = 0
                · refine x_iinc C (v := -1) (lv' := [(8, .int (-1)), (6, .int v14), (7, .int v13), (0, .ref (a 0)), (1, .int (nI n0)), (2, .int (nI m0)), (3, .int p2), (4, .int z7_4), (5, .int (nI wh))]) dX12_leastOf_67 8 rfl (by rw [hz15]; decide) (by decide) rfl rfl ?_
                  refine x_goto C (tgt := 24) dX12_leastOf_70 (by decide) ?_
                  refine x_iload C dX12_leastOf_24 0 rfl rfl ?_
                  refine x_if_lt C (tgt := 73) dX12_leastOf_26 (by decide) rfl (fun _ => ?_) (fun h => absurd h (by decide))
                  refine x_iload C dX12_leastOf_73 7 rfl rfl ?_
                  refine x_iload C dX12_leastOf_75 2 rfl rfl ?_
                  refine x_si C (As := [.int z7_4, .int v13]) (rest := []) (m_min E l a cd hG kf jn js jq ws hW z7_4 v13) mf_X12_min w_1479 rfl rfl (Nat.le_of_ble_eq_true rfl) ⟨(Nat.le_of_ble_eq_true rfl), (Nat.le_of_ble_eq_true rfl)⟩ ⟨(Nat.le_of_ble_eq_true rfl), (Nat.le_of_ble_eq_true rfl)⟩ dX12_leastOf_77 rfl (fun r17 w18 h16 => ?_)
                  have hW19 := h16
                  refine x_ws hW19 ?_
                  refine x_istore C (lv' := [(4, .int r17), (8, .int (-1)), (6, .int v14), (7, .int v13), (0, .ref (a 0)), (1, .int (nI n0)), (2, .int (nI m0)), (3, .int p2), (5, .int (nI wh))]) dX12_leastOf_80 (by decide) rfl rfl ?_
                  refine x_iinc C (v := (nI (wh + 1))) (lv' := [(5, .int (nI (wh + 1))), (4, .int r17), (8, .int (-1)), (6, .int v14), (7, .int v13), (0, .ref (a 0)), (1, .int (nI n0)), (2, .int (nI m0)), (3, .int p2)]) dX12_leastOf_82 8 rfl (nI_add wh 1) (by decide) rfl rfl ?_
                  refine x_goto C (tgt := 7) dX12_leastOf_85 (by decide) ?_
                  refine x_lv (lv1 := [(0, .ref (a 0)), (1, .int (nI n0)), (2, .int (nI m0)), (3, .int p2), (4, .int r17), (5, .int (nI (wh + 1)))]) [5, 6, 7, 8, 1, 0] rfl ?_
                  exact ih7 r17 (wh + 1) trivial (by omega) (by omega)
                · refine x_iinc C (v := nI (k - 1)) (lv' := [(8, .int (nI (k - 1))), (6, .int v14), (7, .int v13), (0, .ref (a 0)), (1, .int (nI n0)), (2, .int (nI m0)), (3, .int p2), (4, .int z7_4), (5, .int (nI wh))]) dX12_leastOf_67 8 rfl (dec_n (by omega)) (by decide) rfl rfl ?_
                  refine x_goto C (tgt := 24) dX12_leastOf_70 (by decide) ?_
                  refine x_lv (lv1 := [(0, .ref (a 0)), (1, .int (nI n0)), (2, .int (nI m0)), (3, .int p2), (4, .int z7_4), (5, .int (nI wh)), (6, .int v14), (7, .int v13), (8, .int (nI (k - 1)))]) [3, 4, 5, 6, 7, 8, 1, 2, 0] rfl ?_
                  exact ih24 v14 v13 (k - 1) trivial (by omega) (by omega)
              · skip
                refine x_aload_n C dX12_leastOf_40 rfl 0 rfl rfl ?_
                obtain ⟨_, k20, n21, n23, n25, v27, v28, v29, n30, n32, n34, n36, v38, v39, v40, v41, n42, n44, bn22, bn24, bn26, bn31, bn33, bn35, bn37, bn43, bn45, rfl⟩ := hW 0 _ rfl
                refine x_get C (ci := 11) (k := 0) 0 k20 rfl in_X12 (by decide) w_1118 rfl dX12_leastOf_41 rfl ?_
                refine x_iconst C (v := 0) dX12_leastOf_44 (by decide) rfl ?_
                refine x_aload_n C dX12_leastOf_45 rfl 0 rfl rfl ?_
                refine x_get C (ci := 11) (k := 3) 0 k20 rfl in_X12 (by decide) w_1121 rfl dX12_leastOf_46 rfl ?_
                refine x_iload C dX12_leastOf_49 8 rfl rfl ?_
                refine x_bald C (v := (tf (nI k).toNatClampNeg)) 4 htf (vp_in_nI (by omega) (by decide)) rfl dX12_leastOf_51 rfl ?_
                obtain ⟨i46, hi47, ei48⟩ := hte k (by omega)
                refine x_top (show (tf (nI k).toNatClampNeg) = nI i46 from by rw [nI_clamp (by omega)]; exact ei48) ?_
                refine x_iadd C (v := (nI (0 + i46))) dX12_leastOf_52 (nI_add 0 i46) rfl ?_
                obtain ⟨_, k49, f50, pf51, rfl⟩ := hW 1 _ rfl
                refine x_iald C (v := (f50 (nI (0 + i46)).toNatClampNeg)) 1 k49 (vp_in_nI (by omega) (by decide)) rfl dX12_leastOf_53 rfl ?_
                refine x_any (fun v52 => ?_)
                refine x_goto C (tgt := 58) dX12_leastOf_54 (by decide) ?_
                refine x_iadd C (v := (z24_7 + v52)) dX12_leastOf_58 rfl rfl ?_
                refine x_any (fun v53 => ?_)
                refine x_istore C (lv' := [(7, .int v53), (0, .ref (a 0)), (1, .int (nI n0)), (2, .int (nI m0)), (3, .int p2), (4, .int z7_4), (5, .int (nI wh)), (6, .int z24_6), (8, .int (nI k))]) dX12_leastOf_59 (by decide) rfl rfl ?_
                refine x_iload C dX12_leastOf_61 7 rfl rfl ?_
                refine x_iload_n C dX12_leastOf_63 rfl 3 rfl rfl ?_
                refine x_idiv C (v := (z24_6 / (nI m0))) dX12_leastOf_64 (nz (by omega) (by omega)) rfl rfl ?_
                refine x_any (fun v54 => ?_)
                refine x_istore C (lv' := [(6, .int v54), (7, .int v53), (0, .ref (a 0)), (1, .int (nI n0)), (2, .int (nI m0)), (3, .int p2), (4, .int z7_4), (5, .int (nI wh)), (8, .int (nI k))]) dX12_leastOf_65 (by decide) rfl rfl ?_
                by_cases hz55 : k = 0
                · refine x_iinc C (v := -1) (lv' := [(8, .int (-1)), (6, .int v54), (7, .int v53), (0, .ref (a 0)), (1, .int (nI n0)), (2, .int (nI m0)), (3, .int p2), (4, .int z7_4), (5, .int (nI wh))]) dX12_leastOf_67 8 rfl (by rw [hz55]; decide) (by decide) rfl rfl ?_
                  refine x_goto C (tgt := 24) dX12_leastOf_70 (by decide) ?_
                  refine x_iload C dX12_leastOf_24 0 rfl rfl ?_
                  refine x_if_lt C (tgt := 73) dX12_leastOf_26 (by decide) rfl (fun _ => ?_) (fun h => absurd h (by decide))
                  refine x_iload C dX12_leastOf_73 7 rfl rfl ?_
                  refine x_iload C dX12_leastOf_75 2 rfl rfl ?_
                  refine x_si C (As := [.int z7_4, .int v53]) (rest := []) (m_min E l a cd hG kf jn js jq ws hW z7_4 v53) mf_X12_min w_1479 rfl rfl (Nat.le_of_ble_eq_true rfl) ⟨(Nat.le_of_ble_eq_true rfl), (Nat.le_of_ble_eq_true rfl)⟩ ⟨(Nat.le_of_ble_eq_true rfl), (Nat.le_of_ble_eq_true rfl)⟩ dX12_leastOf_77 rfl (fun r57 w58 h56 => ?_)
                  have hW59 := h56
                  refine x_ws hW59 ?_
                  refine x_istore C (lv' := [(4, .int r57), (8, .int (-1)), (6, .int v54), (7, .int v53), (0, .ref (a 0)), (1, .int (nI n0)), (2, .int (nI m0)), (3, .int p2), (5, .int (nI wh))]) dX12_leastOf_80 (by decide) rfl rfl ?_
                  refine x_iinc C (v := (nI (wh + 1))) (lv' := [(5, .int (nI (wh + 1))), (4, .int r57), (8, .int (-1)), (6, .int v54), (7, .int v53), (0, .ref (a 0)), (1, .int (nI n0)), (2, .int (nI m0)), (3, .int p2)]) dX12_leastOf_82 8 rfl (nI_add wh 1) (by decide) rfl rfl ?_
                  refine x_goto C (tgt := 7) dX12_leastOf_85 (by decide) ?_
                  refine x_lv (lv1 := [(0, .ref (a 0)), (1, .int (nI n0)), (2, .int (nI m0)), (3, .int p2), (4, .int r57), (5, .int (nI (wh + 1)))]) [5, 6, 7, 8, 1, 0] rfl ?_
                  exact ih7 r57 (wh + 1) trivial (by omega) (by omega)
                · refine x_iinc C (v := nI (k - 1)) (lv' := [(8, .int (nI (k - 1))), (6, .int v54), (7, .int v53), (0, .ref (a 0)), (1, .int (nI n0)), (2, .int (nI m0)), (3, .int p2), (4, .int z7_4), (5, .int (nI wh))]) dX12_leastOf_67 8 rfl (dec_n (by omega)) (by decide) rfl rfl ?_
                  refine x_goto C (tgt := 24) dX12_leastOf_70 (by decide) ?_
                  refine x_lv (lv1 := [(0, .ref (a 0)), (1, .int (nI n0)), (2, .int (nI m0)), (3, .int p2), (4, .int z7_4), (5, .int (nI wh)), (6, .int v54), (7, .int v53), (8, .int (nI (k - 1)))]) [3, 4, 5, 6, 7, 8, 1, 2, 0] rfl ?_
                  exact ih24 v54 v53 (k - 1) trivial (by omega) (by omega)
        refine x_lv (lv1 := [(0, .ref (a 0)), (1, .int (nI n0)), (2, .int (nI m0)), (3, .int p2), (4, .int z7_4), (5, .int (nI wh)), (6, .int p2), (7, .int 0), (8, .int (nI (n0 - 1)))]) [3, 4, 5, 6, 7, 8, 2, 1, 0] rfl ?_
        exact loop24 _ p2 (0 : Int32) (n0 - 1) trivial (Nat.lt_succ_self _) (by omega)
  refine x_lv (lv1 := [(0, .ref (a 0)), (1, .int (nI n0)), (2, .int (nI m0)), (3, .int p2), (4, .int 1000000000), (5, .int 0)]) [2, 3, 4, 5, 1, 0] rfl ?_
  exact loop7 _ (1000000000 : Int32) 0 trivial (Nat.lt_succ_self _) (by omega)
theorem dX12_rations_0 : decode cX12_rations 0 = .ok (.iload_n 1, 1) := by decide +kernel
theorem dX12_rations_1 : decode cX12_rations 1 = .ok (.iconst 1, 1) := by decide +kernel
theorem dX12_rations_2 : decode cX12_rations 2 = .ok (.bipush 8, 2) := by decide +kernel
theorem dX12_rations_4 : decode cX12_rations 4 = .ok (.invokestatic 109, 3) := by decide +kernel
theorem dX12_rations_7 : decode cX12_rations 7 = .ok (.ifCond .eq 20, 3) := by decide +kernel
theorem dX12_rations_10 : decode cX12_rations 10 = .ok (.iload_n 2, 1) := by decide +kernel
theorem dX12_rations_11 : decode cX12_rations 11 = .ok (.iconst 2, 1) := by decide +kernel
theorem dX12_rations_12 : decode cX12_rations 12 = .ok (.iconst 3, 1) := by decide +kernel
theorem dX12_rations_13 : decode cX12_rations 13 = .ok (.invokestatic 109, 3) := by decide +kernel
theorem dX12_rations_16 : decode cX12_rations 16 = .ok (.ifCond .eq 11, 3) := by decide +kernel
theorem dX12_rations_19 : decode cX12_rations 19 = .ok (.iload_n 1, 1) := by decide +kernel
theorem dX12_rations_20 : decode cX12_rations 20 = .ok (.aload_n 0, 1) := by decide +kernel
theorem dX12_rations_21 : decode cX12_rations 21 = .ok (.getfield 123, 3) := by decide +kernel
theorem dX12_rations_24 : decode cX12_rations 24 = .ok (.if_icmp .le 5, 3) := by decide +kernel
theorem dX12_rations_27 : decode cX12_rations 27 = .ok (.iconst (-1), 1) := by decide +kernel
theorem dX12_rations_28 : decode cX12_rations 28 = .ok (.ireturn, 1) := by decide +kernel
theorem dX12_rations_29 : decode cX12_rations 29 = .ok (.aload_n 0, 1) := by decide +kernel
theorem dX12_rations_30 : decode cX12_rations 30 = .ok (.iconst 0, 1) := by decide +kernel
theorem dX12_rations_31 : decode cX12_rations 31 = .ok (.putfield 123, 3) := by decide +kernel
theorem dX12_rations_34 : decode cX12_rations 34 = .ok (.aload_n 0, 1) := by decide +kernel
theorem dX12_rations_35 : decode cX12_rations 35 = .ok (.iload_n 1, 1) := by decide +kernel
theorem dX12_rations_36 : decode cX12_rations 36 = .ok (.iconst 0, 1) := by decide +kernel
theorem dX12_rations_37 : decode cX12_rations 37 = .ok (.invokevirtual 377, 3) := by decide +kernel
theorem dX12_rations_40 : decode cX12_rations 40 = .ok (.ifCond .ne 6, 3) := by decide +kernel
theorem dX12_rations_43 : decode cX12_rations 43 = .ok (.bipush (-2), 2) := by decide +kernel
theorem dX12_rations_45 : decode cX12_rations 45 = .ok (.ireturn, 1) := by decide +kernel
theorem dX12_rations_46 : decode cX12_rations 46 = .ok (.iload_n 3, 1) := by decide +kernel
theorem dX12_rations_47 : decode cX12_rations 47 = .ok (.bipush 10, 2) := by decide +kernel
theorem dX12_rations_49 : decode cX12_rations 49 = .ok (.if_icmp .eq 17, 3) := by decide +kernel
theorem dX12_rations_52 : decode cX12_rations 52 = .ok (.iload_n 3, 1) := by decide +kernel
theorem dX12_rations_53 : decode cX12_rations 53 = .ok (.iconst 0, 1) := by decide +kernel
theorem dX12_rations_54 : decode cX12_rations 54 = .ok (.iload_n 1, 1) := by decide +kernel
theorem dX12_rations_55 : decode cX12_rations 55 = .ok (.iconst 1, 1) := by decide +kernel
theorem dX12_rations_56 : decode cX12_rations 56 = .ok (.isub, 1) := by decide +kernel
theorem dX12_rations_57 : decode cX12_rations 57 = .ok (.invokestatic 109, 3) := by decide +kernel
theorem dX12_rations_60 : decode cX12_rations 60 = .ok (.ifCond .ne 6, 3) := by decide +kernel
theorem dX12_rations_63 : decode cX12_rations 63 = .ok (.bipush (-3), 2) := by decide +kernel
theorem dX12_rations_65 : decode cX12_rations 65 = .ok (.ireturn, 1) := by decide +kernel
theorem dX12_rations_66 : decode cX12_rations 66 = .ok (.iconst 1, 1) := by decide +kernel
theorem dX12_rations_67 : decode cX12_rations 67 = .ok (.istore 4, 2) := by decide +kernel
theorem dX12_rations_69 : decode cX12_rations 69 = .ok (.iconst 0, 1) := by decide +kernel
theorem dX12_rations_70 : decode cX12_rations 70 = .ok (.istore 5, 2) := by decide +kernel
theorem dX12_rations_72 : decode cX12_rations 72 = .ok (.iload 5, 2) := by decide +kernel
theorem dX12_rations_74 : decode cX12_rations 74 = .ok (.iload_n 1, 1) := by decide +kernel
theorem dX12_rations_75 : decode cX12_rations 75 = .ok (.if_icmp .ge 15, 3) := by decide +kernel
theorem dX12_rations_78 : decode cX12_rations 78 = .ok (.iload 4, 2) := by decide +kernel
theorem dX12_rations_80 : decode cX12_rations 80 = .ok (.iload_n 2, 1) := by decide +kernel
theorem dX12_rations_81 : decode cX12_rations 81 = .ok (.imul, 1) := by decide +kernel
theorem dX12_rations_82 : decode cX12_rations 82 = .ok (.istore 4, 2) := by decide +kernel
theorem dX12_rations_84 : decode cX12_rations 84 = .ok (.iinc 5 1, 3) := by decide +kernel
theorem dX12_rations_87 : decode cX12_rations 87 = .ok (.goto (-15), 3) := by decide +kernel
theorem dX12_rations_90 : decode cX12_rations 90 = .ok (.iconst 0, 1) := by decide +kernel
theorem dX12_rations_91 : decode cX12_rations 91 = .ok (.istore 5, 2) := by decide +kernel
theorem dX12_rations_93 : decode cX12_rations 93 = .ok (.aload_n 0, 1) := by decide +kernel
theorem dX12_rations_94 : decode cX12_rations 94 = .ok (.iload_n 1, 1) := by decide +kernel
theorem dX12_rations_95 : decode cX12_rations 95 = .ok (.iload_n 2, 1) := by decide +kernel
theorem dX12_rations_96 : decode cX12_rations 96 = .ok (.iconst 0, 1) := by decide +kernel
theorem dX12_rations_97 : decode cX12_rations 97 = .ok (.invokevirtual 380, 3) := by decide +kernel
theorem dX12_rations_100 : decode cX12_rations 100 = .ok (.istore 6, 2) := by decide +kernel
theorem dX12_rations_102 : decode cX12_rations 102 = .ok (.iconst 1, 1) := by decide +kernel
theorem dX12_rations_103 : decode cX12_rations 103 = .ok (.istore 7, 2) := by decide +kernel
theorem dX12_rations_105 : decode cX12_rations 105 = .ok (.iload 7, 2) := by decide +kernel
theorem dX12_rations_107 : decode cX12_rations 107 = .ok (.iload 4, 2) := by decide +kernel
theorem dX12_rations_109 : decode cX12_rations 109 = .ok (.if_icmp .ge 37, 3) := by decide +kernel
theorem dX12_rations_112 : decode cX12_rations 112 = .ok (.aload_n 0, 1) := by decide +kernel
theorem dX12_rations_113 : decode cX12_rations 113 = .ok (.iload_n 1, 1) := by decide +kernel
theorem dX12_rations_114 : decode cX12_rations 114 = .ok (.iload_n 2, 1) := by decide +kernel
theorem dX12_rations_115 : decode cX12_rations 115 = .ok (.iload 7, 2) := by decide +kernel
theorem dX12_rations_117 : decode cX12_rations 117 = .ok (.invokevirtual 380, 3) := by decide +kernel
theorem dX12_rations_120 : decode cX12_rations 120 = .ok (.istore 8, 2) := by decide +kernel
theorem dX12_rations_122 : decode cX12_rations 122 = .ok (.iload 8, 2) := by decide +kernel
theorem dX12_rations_124 : decode cX12_rations 124 = .ok (.iload 6, 2) := by decide +kernel
theorem dX12_rations_126 : decode cX12_rations 126 = .ok (.if_icmp .gt 6, 3) := by decide +kernel
theorem dX12_rations_129 : decode cX12_rations 129 = .ok (.goto 11, 3) := by decide +kernel
theorem dX12_rations_132 : decode cX12_rations 132 = .ok (.iload 8, 2) := by decide +kernel
theorem dX12_rations_134 : decode cX12_rations 134 = .ok (.istore 6, 2) := by decide +kernel
theorem dX12_rations_136 : decode cX12_rations 136 = .ok (.iload 7, 2) := by decide +kernel
theorem dX12_rations_138 : decode cX12_rations 138 = .ok (.istore 5, 2) := by decide +kernel
theorem dX12_rations_140 : decode cX12_rations 140 = .ok (.iinc 7 1, 3) := by decide +kernel
theorem dX12_rations_143 : decode cX12_rations 143 = .ok (.goto (-38), 3) := by decide +kernel
theorem dX12_rations_146 : decode cX12_rations 146 = .ok (.iload_n 3, 1) := by decide +kernel
theorem dX12_rations_147 : decode cX12_rations 147 = .ok (.bipush 10, 2) := by decide +kernel
theorem dX12_rations_149 : decode cX12_rations 149 = .ok (.if_icmp .ne 6, 3) := by decide +kernel
theorem dX12_rations_152 : decode cX12_rations 152 = .ok (.iload 6, 2) := by decide +kernel
theorem dX12_rations_154 : decode cX12_rations 154 = .ok (.ireturn, 1) := by decide +kernel
theorem dX12_rations_155 : decode cX12_rations 155 = .ok (.iload 5, 2) := by decide +kernel
theorem dX12_rations_157 : decode cX12_rations 157 = .ok (.istore 7, 2) := by decide +kernel
theorem dX12_rations_159 : decode cX12_rations 159 = .ok (.iload_n 1, 1) := by decide +kernel
theorem dX12_rations_160 : decode cX12_rations 160 = .ok (.iconst 1, 1) := by decide +kernel
theorem dX12_rations_161 : decode cX12_rations 161 = .ok (.isub, 1) := by decide +kernel
theorem dX12_rations_162 : decode cX12_rations 162 = .ok (.istore 8, 2) := by decide +kernel
theorem dX12_rations_164 : decode cX12_rations 164 = .ok (.iload 8, 2) := by decide +kernel
theorem dX12_rations_166 : decode cX12_rations 166 = .ok (.iload_n 3, 1) := by decide +kernel
theorem dX12_rations_167 : decode cX12_rations 167 = .ok (.if_icmp .le 15, 3) := by decide +kernel
theorem dX12_rations_170 : decode cX12_rations 170 = .ok (.iload 7, 2) := by decide +kernel
theorem dX12_rations_172 : decode cX12_rations 172 = .ok (.iload_n 2, 1) := by decide +kernel
theorem dX12_rations_173 : decode cX12_rations 173 = .ok (.idiv, 1) := by decide +kernel
theorem dX12_rations_174 : decode cX12_rations 174 = .ok (.istore 7, 2) := by decide +kernel
theorem dX12_rations_176 : decode cX12_rations 176 = .ok (.iinc 8 (-1), 3) := by decide +kernel
theorem dX12_rations_179 : decode cX12_rations 179 = .ok (.goto (-15), 3) := by decide +kernel
theorem dX12_rations_182 : decode cX12_rations 182 = .ok (.iload 7, 2) := by decide +kernel
theorem dX12_rations_184 : decode cX12_rations 184 = .ok (.iload_n 2, 1) := by decide +kernel
theorem dX12_rations_185 : decode cX12_rations 185 = .ok (.irem, 1) := by decide +kernel
theorem dX12_rations_186 : decode cX12_rations 186 = .ok (.ireturn, 1) := by decide +kernel
set_option maxRecDepth 20000 in
set_option maxHeartbeats 4000000 in
theorem m_rations (E : xE) (l : Launch) (a : Nat → Nat) (cd : Cd) (hG : Good cd) (kf : Int32) (jn js jq : Lb) (ws : va_W) (hW : WX (okM E a cd kf jn js jq) ws) (p0 : Int32) (p1 : Int32) (p2 : Int32) : xI E l yX12_rations cX12_rations 9 (some .int) 8 [.ref (a 0), .int p0, .int p1, .int p2] ws (fun r w => WX (okM E a cd kf jn js jq) w) := by
  refine xI_start (lv := [(0, .ref (a 0)), (1, .int p0), (2, .int p1), (3, .int p2)]) RX12 (by decide) rfl (Nat.le_of_ble_eq_true rfl) rfl (fun p e s m below meth c A C hr hlk => ?_)
  refine x_iload_n C dX12_rations_0 rfl 1 rfl rfl ?_
  refine x_iconst C (v := 1) dX12_rations_1 (by decide) rfl ?_
  refine x_bipush C (v := 8) dX12_rations_2 (by decide) rfl ?_
  refine x_si C (As := [.int p0, .int 1, .int 8]) (rest := []) (m_in E l a cd hG kf jn js jq ws hW p0 (1 : Int32) (8 : Int32)) mf_X12_in w_1267 rfl rfl (Nat.le_of_ble_eq_true rfl) ⟨(Nat.le_of_ble_eq_true rfl), (Nat.le_of_ble_eq_true rfl)⟩ ⟨(Nat.le_of_ble_eq_true rfl), (Nat.le_of_ble_eq_true rfl)⟩ dX12_rations_4 rfl (fun r2 w3 h1 => ?_)
  obtain ⟨hW4, zb5, x6⟩ := h1
  refine x_ws hW4 ?_
  refine x_if_eq C (tgt := 27) dX12_rations_7 (by decide) rfl (fun c7 => ?_) (fun c7 => ?_)
  · skip
    refine x_iconst C (v := (-1)) dX12_rations_27 (by decide) rfl ?_
    exact x_zret C hr hlk rfl dX12_rations_28 hW
  · skip
    obtain ⟨j8, hl9, hh10, ej11⟩ := w_nat (a := 1) (b := 8) (by decide) (by decide) (x6 c7)
    subst ej11
    refine x_iload_n C dX12_rations_10 rfl 2 rfl rfl ?_
    refine x_iconst C (v := 2) dX12_rations_11 (by decide) rfl ?_
    refine x_iconst C (v := 3) dX12_rations_12 (by decide) rfl ?_
    refine x_si C (As := [.int p1, .int 2, .int 3]) (rest := []) (m_in E l a cd hG kf jn js jq ws hW p1 (2 : Int32) (3 : Int32)) mf_X12_in w_1267 rfl rfl (Nat.le_of_ble_eq_true rfl) ⟨(Nat.le_of_ble_eq_true rfl), (Nat.le_of_ble_eq_true rfl)⟩ ⟨(Nat.le_of_ble_eq_true rfl), (Nat.le_of_ble_eq_true rfl)⟩ dX12_rations_13 rfl (fun r13 w14 h12 => ?_)
    obtain ⟨hW15, zb16, x17⟩ := h12
    refine x_ws hW15 ?_
    refine x_if_eq C (tgt := 27) dX12_rations_16 (by decide) rfl (fun c18 => ?_) (fun c18 => ?_)
    · skip
      refine x_iconst C (v := (-1)) dX12_rations_27 (by decide) rfl ?_
      exact x_zret C hr hlk rfl dX12_rations_28 hW
    · skip
      obtain ⟨j19, hl20, hh21, ej22⟩ := w_nat (a := 2) (b := 3) (by decide) (by decide) (x17 c18)
      subst ej22
      obtain rfl | rfl : j19 = 2 ∨ j19 = 3 := by omega
      · skip
        refine x_iload_n C dX12_rations_19 rfl 1 rfl rfl ?_
        refine x_aload_n C dX12_rations_20 rfl 0 rfl rfl ?_
        obtain ⟨_, k23, n24, n26, n28, v30, v31, v32, n33, n35, n37, n39, v41, v42, v43, v44, n45, n47, bn25, bn27, bn29, bn34, bn36, bn38, bn40, bn46, bn48, rfl⟩ := hW 0 _ rfl
        refine x_get C (ci := 11) (k := 4) 0 k23 rfl in_X12 (by decide) w_1122 rfl dX12_rations_21 rfl ?_
        refine x_icmp_le C (tgt := 29) dX12_rations_24 (by decide) rfl (fun c49 => ?_) (fun c49 => ?_)
        · skip
          have nf50 := nI_le' (a := j8) (b := n24) c49 (by omega) (by omega)
          refine x_aload_n C dX12_rations_29 rfl 0 rfl rfl ?_
          refine x_iconst C (v := 0) dX12_rations_30 (by decide) rfl ?_
          obtain ⟨w51, hw52⟩ : ∃ w : va_W, w = List.set ws 0 (ob (a 0) 11 [.ref (a 1), .ref (a 2), .ref (a 3), .ref (a 4), .int 0, .int (nI n26), .int (nI n28), .int v30, .int v31, .int v32, .int (nI n33), .int (nI n35), .int (nI n37), .int (nI (cd.2.2.2.2.2)), .ref (a 5), .ref (a 6), .ref (a 7), .ref (a 8), .ref (a 9), .ref (a 10), .ref (a 11), .ref (a 12), .ref (a 13), .ref (a 14), .ref (a 15), .ref (a 16), .ref (a 17), .int (nI n39), .ref (a 18), .ref (a 19), .ref (a 20), .ref (a 21), .int v41, .int v42, .int v43, .int v44, .int (nI n45), .int (nI n47), .ref (a 22), .ref (a 23), .ref (a 24), .ref (a 25), .ref (a 26), .ref (a 27), .ref (a 28), .ref (a 29), .ref (a 30), .int kf]) := ⟨_, rfl⟩
          refine x_put C (ci := 11) (k := 4) (ty := .int) 0 k23 rfl in_X12 tyX12 tyX12_ok nmX12 (by decide) w_1122 rfl rfl rfl rfl (Nat.le_of_ble_eq_true rfl) hw52.symm dX12_rations_31 rfl ?_
          have hW53 : WX (okM E a cd kf jn js jq) w51 := by rw [hw52]; exact hW.set (k := 0) rfl ⟨0, n26, n28, v30, v31, v32, n33, n35, n37, n39, v41, v42, v43, v44, n45, n47, by omega, by omega, by omega, by omega, by omega, by omega, by omega, by omega, by omega, rfl⟩
          have k54 : w51[0]? = some (ob (a 0) 11 [.ref (a 1), .ref (a 2), .ref (a 3), .ref (a 4), .int 0, .int (nI n26), .int (nI n28), .int v30, .int v31, .int v32, .int (nI n33), .int (nI n35), .int (nI n37), .int (nI (cd.2.2.2.2.2)), .ref (a 5), .ref (a 6), .ref (a 7), .ref (a 8), .ref (a 9), .ref (a 10), .ref (a 11), .ref (a 12), .ref (a 13), .ref (a 14), .ref (a 15), .ref (a 16), .ref (a 17), .int (nI n39), .ref (a 18), .ref (a 19), .ref (a 20), .ref (a 21), .int v41, .int v42, .int v43, .int v44, .int (nI n45), .int (nI n47), .ref (a 22), .ref (a 23), .ref (a 24), .ref (a 25), .ref (a 26), .ref (a 27), .ref (a 28), .ref (a 29), .ref (a 30), .int kf]) := by rw [hw52]; exact set_eq k23
          obtain ⟨_, k55, f56, rfl⟩ := hW53 4 _ rfl
          refine x_aload_n C dX12_rations_34 rfl 0 rfl rfl ?_
          refine x_iload_n C dX12_rations_35 rfl 1 rfl rfl ?_
          refine x_iconst C (v := 0) dX12_rations_36 (by decide) rfl ?_
          refine x_vi C (As := [.int (nI j8), .int 0]) (rest := []) (m_areEggs E l a cd hG kf jn js jq w51 hW53 j8 (0 : Int32) (by omega) f56 k55) mf_X12_areEggs w_1605 0 k54 rfl rfl rfl (Nat.le_of_ble_eq_true rfl) ⟨(Nat.le_of_ble_eq_true rfl), (Nat.le_of_ble_eq_true rfl)⟩ ⟨(Nat.le_of_ble_eq_true rfl), (Nat.le_of_ble_eq_true rfl)⟩ dX12_rations_37 rfl (fun r58 w59 h57 => ?_)
          obtain ⟨hW60, zb61, x62⟩ := h57
          refine x_ws hW60 ?_
          refine x_if_ne C (tgt := 46) dX12_rations_40 (by decide) rfl (fun c63 => ?_) (fun c63 => ?_)
          · skip
            have te64 := x62 c63
            refine x_iload_n C dX12_rations_46 rfl 3 rfl rfl ?_
            refine x_bipush C (v := 10) dX12_rations_47 (by decide) rfl ?_
            refine x_icmp_eq C (tgt := 66) dX12_rations_49 (by decide) rfl (fun c65 => ?_) (fun c65 => ?_)
            · skip
              refine x_iconst C (v := 1) dX12_rations_66 (by decide) rfl ?_
              refine x_istore C (lv' := [(4, .int 1), (0, .ref (a 0)), (1, .int (nI j8)), (2, .int (nI 2)), (3, .int p2)]) dX12_rations_67 (by decide) rfl rfl ?_
              refine x_iconst C (v := 0) dX12_rations_69 (by decide) rfl ?_
              refine x_istore C (lv' := [(5, .int 0), (4, .int 1), (0, .ref (a 0)), (1, .int (nI j8)), (2, .int (nI 2)), (3, .int p2)]) dX12_rations_70 (by decide) rfl rfl ?_
              have loop72 : ∀ (fu72 : Nat) (rw : Nat) (k : Nat), True → 8 - k < fu72 → k ≤ 8 → 1 ≤ rw ∧ rw ≤ p3 k → X E p l e (xRm 8 0 0) s m ([.ref (a 0), .int (nI j8), .int (nI 2), .int p2] : List Value).toArray below meth c A 9 0 0 (MQ below (va_Qi (fun r w => WX (okM E a cd kf jn js jq) w) (xB E A) A) ([.ref (a 0), .int (nI j8), .int (nI 2), .int p2] : List Value).toArray s 0 0 A) w51 72 [(0, .ref (a 0)), (1, .int (nI j8)), (2, .int (nI 2)), (3, .int p2), (4, .int (nI rw)), (5, .int (nI k))] [] := by
                intro fu72
                induction fu72 with
                | zero => intro rw k _ q; omega
                | succ fu72 ih72 =>
                  intro rw k _ me72 iv72_0 iv72_1
                  refine x_iload C dX12_rations_72 5 rfl rfl ?_
                  refine x_iload_n C dX12_rations_74 rfl 1 rfl rfl ?_
                  refine x_icmp_ge C (tgt := 90) dX12_rations_75 (by decide) rfl (fun c66 => ?_) (fun c66 => ?_)
                  · skip
                    have nf67 := nI_le' (a := j8) (b := k) c66 (by omega) (by omega)
                    have hp368 := p3_8 (k := k) (by omega)
                    refine x_iconst C (v := 0) dX12_rations_90 (by decide) rfl ?_
                    refine x_istore C (lv' := [(5, .int 0), (0, .ref (a 0)), (1, .int (nI j8)), (2, .int (nI 2)), (3, .int p2), (4, .int (nI rw))]) dX12_rations_91 (by decide) rfl rfl ?_
                    refine x_aload_n C dX12_rations_93 rfl 1 rfl rfl ?_
                    refine x_iload_n C dX12_rations_94 rfl 2 rfl rfl ?_
                    refine x_iload_n C dX12_rations_95 rfl 3 rfl rfl ?_
                    refine x_iconst C (v := 0) dX12_rations_96 (by decide) rfl ?_
                    refine x_vi C (As := [.int (nI j8), .int (nI 2), .int 0]) (rest := []) (m_leastOf E l a cd hG kf jn js jq w51 hW53 j8 2 (0 : Int32) (by omega) (by omega) f56 k55 te64) mf_X12_leastOf w_1609 0 k54 rfl rfl rfl (Nat.le_of_ble_eq_true rfl) ⟨(Nat.le_of_ble_eq_true rfl), (Nat.le_of_ble_eq_true rfl)⟩ ⟨(Nat.le_of_ble_eq_true rfl), (Nat.le_of_ble_eq_true rfl)⟩ dX12_rations_97 rfl (fun r70 w71 h69 => ?_)
                    have hW72 := h69
                    refine x_ws hW72 ?_
                    refine x_istore C (lv' := [(6, .int r70), (5, .int 0), (0, .ref (a 0)), (1, .int (nI j8)), (2, .int (nI 2)), (3, .int p2), (4, .int (nI rw))]) dX12_rations_100 (by decide) rfl rfl ?_
                    refine x_iconst C (v := 1) dX12_rations_102 (by decide) rfl ?_
                    refine x_istore C (lv' := [(7, .int 1), (6, .int r70), (5, .int 0), (0, .ref (a 0)), (1, .int (nI j8)), (2, .int (nI 2)), (3, .int p2), (4, .int (nI rw))]) dX12_rations_103 (by decide) rfl rfl ?_
                    have loop105 : ∀ (fu105 : Nat) (z105_5 : Int32) (z105_6 : Int32) (cq : Nat), True → 6561 - cq < fu105 → 1 ≤ cq ∧ cq ≤ 6561 → X E p l e (xRm 8 0 0) s m ([.ref (a 0), .int (nI j8), .int (nI 2), .int p2] : List Value).toArray below meth c A 9 0 0 (MQ below (va_Qi (fun r w => WX (okM E a cd kf jn js jq) w) (xB E A) A) ([.ref (a 0), .int (nI j8), .int (nI 2), .int p2] : List Value).toArray s 0 0 A) w51 105 [(0, .ref (a 0)), (1, .int (nI j8)), (2, .int (nI 2)), (3, .int p2), (4, .int (nI rw)), (5, .int z105_5), (6, .int z105_6), (7, .int (nI cq))] [] := by
                      intro fu105
                      induction fu105 with
                      | zero => intro z105_5 z105_6 cq _ q; omega
                      | succ fu105 ih105 =>
                        intro z105_5 z105_6 cq _ me105 iv105_0
                        refine x_iload C dX12_rations_105 7 rfl rfl ?_
                        refine x_iload C dX12_rations_107 4 rfl rfl ?_
                        refine x_icmp_ge C (tgt := 146) dX12_rations_109 (by decide) rfl (fun c73 => ?_) (fun c73 => ?_)
                        · skip
                          have nf74 := nI_le' (a := rw) (b := cq) c73 (by omega) (by omega)
                          refine x_iload_n C dX12_rations_146 rfl 3 rfl rfl ?_
                          refine x_bipush C (v := 10) dX12_rations_147 (by decide) rfl ?_
                          refine x_icmp_ne C (tgt := 155) dX12_rations_149 (by decide) rfl (fun h => absurd c65 h) (fun _ => ?_)
                          refine x_iload C dX12_rations_152 6 rfl rfl ?_
                          exact x_zret C hr hlk rfl dX12_rations_154 hW53
                        · skip
                          have nf75 := nI_nle' (a := rw) (b := cq) c73 (by omega) (by omega)
                          refine x_aload_n C dX12_rations_112 rfl 0 rfl rfl ?_
                          refine x_iload_n C dX12_rations_113 rfl 1 rfl rfl ?_
                          refine x_iload_n C dX12_rations_114 rfl 2 rfl rfl ?_
                          refine x_iload C dX12_rations_115 7 rfl rfl ?_
                          refine x_vi C (As := [.int (nI j8), .int (nI 2), .int (nI cq)]) (rest := []) (m_leastOf E l a cd hG kf jn js jq w51 hW53 j8 2 ((nI cq)) (by omega) (by omega) f56 k55 te64) mf_X12_leastOf w_1609 0 k54 rfl rfl rfl (Nat.le_of_ble_eq_true rfl) ⟨(Nat.le_of_ble_eq_true rfl), (Nat.le_of_ble_eq_true rfl)⟩ ⟨(Nat.le_of_ble_eq_true rfl), (Nat.le_of_ble_eq_true rfl)⟩ dX12_rations_117 rfl (fun r77 w78 h76 => ?_)
                          have hW79 := h76
                          refine x_ws hW79 ?_
                          refine x_istore C (lv' := [(8, .int r77), (0, .ref (a 0)), (1, .int (nI j8)), (2, .int (nI 2)), (3, .int p2), (4, .int (nI rw)), (5, .int z105_5), (6, .int z105_6), (7, .int (nI cq))]) dX12_rations_120 (by decide) rfl rfl ?_
                          refine x_iload C dX12_rations_122 0 rfl rfl ?_
                          refine x_iload C dX12_rations_124 7 rfl rfl ?_
                          refine x_icmp_gt C (tgt := 132) dX12_rations_126 (by decide) rfl (fun c80 => ?_) (fun c80 => ?_)
                          · skip
                            refine x_iload C dX12_rations_132 0 rfl rfl ?_
                            refine x_istore C (lv' := [(6, .int r77), (8, .int r77), (0, .ref (a 0)), (1, .int (nI j8)), (2, .int (nI 2)), (3, .int p2), (4, .int (nI rw)), (5, .int z105_5), (7, .int (nI cq))]) dX12_rations_134 (by decide) rfl rfl ?_
                            refine x_iload C dX12_rations_136 8 rfl rfl ?_
                            refine x_istore C (lv' := [(5, .int (nI cq)), (6, .int r77), (8, .int r77), (0, .ref (a 0)), (1, .int (nI j8)), (2, .int (nI 2)), (3, .int p2), (4, .int (nI rw)), (7, .int (nI cq))]) dX12_rations_138 (by decide) rfl rfl ?_
                            refine x_iinc C (v := (nI (cq + 1))) (lv' := [(7, .int (nI (cq + 1))), (5, .int (nI cq)), (6, .int r77), (8, .int r77), (0, .ref (a 0)), (1, .int (nI j8)), (2, .int (nI 2)), (3, .int p2), (4, .int (nI rw))]) dX12_rations_140 8 rfl (nI_add cq 1) (by decide) rfl rfl ?_
                            refine x_goto C (tgt := 105) dX12_rations_143 (by decide) ?_
                            refine x_lv (lv1 := [(0, .ref (a 0)), (1, .int (nI j8)), (2, .int (nI 2)), (3, .int p2), (4, .int (nI rw)), (5, .int (nI cq)), (6, .int r77), (7, .int (nI (cq + 1)))]) [4, 5, 6, 7, 8, 1, 2, 0] rfl ?_
                            exact ih105 ((nI cq)) r77 (cq + 1) trivial (by omega) (by omega)
                          · skip
                            refine x_goto C (tgt := 140) dX12_rations_129 (by decide) ?_
                            refine x_iinc C (v := (nI (cq + 1))) (lv' := [(7, .int (nI (cq + 1))), (8, .int r77), (0, .ref (a 0)), (1, .int (nI j8)), (2, .int (nI 2)), (3, .int p2), (4, .int (nI rw)), (5, .int z105_5), (6, .int z105_6)]) dX12_rations_140 8 rfl (nI_add cq 1) (by decide) rfl rfl ?_
                            refine x_goto C (tgt := 105) dX12_rations_143 (by decide) ?_
                            refine x_lv (lv1 := [(0, .ref (a 0)), (1, .int (nI j8)), (2, .int (nI 2)), (3, .int p2), (4, .int (nI rw)), (5, .int z105_5), (6, .int z105_6), (7, .int (nI (cq + 1)))]) [2, 3, 4, 5, 6, 7, 8, 0] rfl ?_
                            exact ih105 z105_5 z105_6 (cq + 1) trivial (by omega) (by omega)
                    refine x_lv (lv1 := [(0, .ref (a 0)), (1, .int (nI j8)), (2, .int (nI 2)), (3, .int p2), (4, .int (nI rw)), (5, .int 0), (6, .int r70), (7, .int 1)]) [3, 4, 5, 6, 7, 2, 1, 0] rfl ?_
                    exact loop105 _ (0 : Int32) r70 1 trivial (Nat.lt_succ_self _) (by omega)
                  · skip
                    have nf81 := nI_nle' (a := j8) (b := k) c66 (by omega) (by omega)
                    have hp382 := p3_s k
                    refine x_iload C dX12_rations_78 4 rfl rfl ?_
                    refine x_iload_n C dX12_rations_80 rfl 2 rfl rfl ?_
                    refine x_imul C (v := (nI (rw * 2))) dX12_rations_81 (pk_mul rw 2) rfl ?_
                    refine x_istore C (lv' := [(4, .int (nI (rw * 2))), (0, .ref (a 0)), (1, .int (nI j8)), (2, .int (nI 2)), (3, .int p2), (5, .int (nI k))]) dX12_rations_82 (by decide) rfl rfl ?_
                    refine x_iinc C (v := (nI (k + 1))) (lv' := [(5, .int (nI (k + 1))), (4, .int (nI (rw * 2))), (0, .ref (a 0)), (1, .int (nI j8)), (2, .int (nI 2)), (3, .int p2)]) dX12_rations_84 5 rfl (nI_add k 1) (by decide) rfl rfl ?_
                    refine x_goto C (tgt := 72) dX12_rations_87 (by decide) ?_
                    refine x_lv (lv1 := [(0, .ref (a 0)), (1, .int (nI j8)), (2, .int (nI 2)), (3, .int p2), (4, .int (nI (rw * 2))), (5, .int (nI (k + 1)))]) [2, 3, 4, 5, 1, 0] rfl ?_
                    exact ih72 (rw * 2) (k + 1) trivial (by omega) (by omega) (by omega)
              refine x_lv (lv1 := [(0, .ref (a 0)), (1, .int (nI j8)), (2, .int (nI 2)), (3, .int p2), (4, .int 1), (5, .int 0)]) [2, 3, 4, 5, 1, 0] rfl ?_
              exact loop72 _ 1 0 trivial (Nat.lt_succ_self _) (by omega) ⟨by omega, by rw [p3_0]; omega⟩
            · skip
              refine x_iload_n C dX12_rations_52 rfl 3 rfl rfl ?_
              refine x_iconst C (v := 0) dX12_rations_53 (by decide) rfl ?_
              refine x_iload_n C dX12_rations_54 rfl 1 rfl rfl ?_
              refine x_iconst C (v := 1) dX12_rations_55 (by decide) rfl ?_
              refine x_isub C (v := (nI (j8 - 1))) dX12_rations_56 (pk_sub (a := j8) (b := 1) (by omega)) rfl ?_
              refine x_si C (As := [.int p2, .int 0, .int (nI (j8 - 1))]) (rest := []) (m_in E l a cd hG kf jn js jq w51 hW53 p2 (0 : Int32) ((nI (j8 - 1)))) mf_X12_in w_1267 rfl rfl (Nat.le_of_ble_eq_true rfl) ⟨(Nat.le_of_ble_eq_true rfl), (Nat.le_of_ble_eq_true rfl)⟩ ⟨(Nat.le_of_ble_eq_true rfl), (Nat.le_of_ble_eq_true rfl)⟩ dX12_rations_57 rfl (fun r84 w85 h83 => ?_)
              obtain ⟨hW86, zb87, x88⟩ := h83
              refine x_ws hW86 ?_
              refine x_if_ne C (tgt := 66) dX12_rations_60 (by decide) rfl (fun c89 => ?_) (fun c89 => ?_)
              · skip
                obtain ⟨j90, hl91, hh92, ej93⟩ := w_nat (a := 0) (b := (j8 - 1)) (by decide) (nI_toInt (by omega)) (x88 c89)
                subst ej93
                refine x_iconst C (v := 1) dX12_rations_66 (by decide) rfl ?_
                refine x_istore C (lv' := [(4, .int 1), (0, .ref (a 0)), (1, .int (nI j8)), (2, .int (nI 2)), (3, .int (nI j90))]) dX12_rations_67 (by decide) rfl rfl ?_
                refine x_iconst C (v := 0) dX12_rations_69 (by decide) rfl ?_
                refine x_istore C (lv' := [(5, .int 0), (4, .int 1), (0, .ref (a 0)), (1, .int (nI j8)), (2, .int (nI 2)), (3, .int (nI j90))]) dX12_rations_70 (by decide) rfl rfl ?_
                have loop72 : ∀ (fu72 : Nat) (rw : Nat) (k : Nat), True → 8 - k < fu72 → k ≤ 8 → 1 ≤ rw ∧ rw ≤ p3 k → X E p l e (xRm 8 0 0) s m ([.ref (a 0), .int (nI j8), .int (nI 2), .int (nI j90)] : List Value).toArray below meth c A 9 0 0 (MQ below (va_Qi (fun r w => WX (okM E a cd kf jn js jq) w) (xB E A) A) ([.ref (a 0), .int (nI j8), .int (nI 2), .int (nI j90)] : List Value).toArray s 0 0 A) w51 72 [(0, .ref (a 0)), (1, .int (nI j8)), (2, .int (nI 2)), (3, .int (nI j90)), (4, .int (nI rw)), (5, .int (nI k))] [] := by
                  intro fu72
                  induction fu72 with
                  | zero => intro rw k _ q; omega
                  | succ fu72 ih72 =>
                    intro rw k _ me72 iv72_0 iv72_1
                    refine x_iload C dX12_rations_72 5 rfl rfl ?_
                    refine x_iload_n C dX12_rations_74 rfl 1 rfl rfl ?_
                    refine x_icmp_ge C (tgt := 90) dX12_rations_75 (by decide) rfl (fun c94 => ?_) (fun c94 => ?_)
                    · skip
                      have nf95 := nI_le' (a := j8) (b := k) c94 (by omega) (by omega)
                      have hp396 := p3_8 (k := k) (by omega)
                      refine x_iconst C (v := 0) dX12_rations_90 (by decide) rfl ?_
                      refine x_istore C (lv' := [(5, .int 0), (0, .ref (a 0)), (1, .int (nI j8)), (2, .int (nI 2)), (3, .int (nI j90)), (4, .int (nI rw))]) dX12_rations_91 (by decide) rfl rfl ?_
                      refine x_aload_n C dX12_rations_93 rfl 1 rfl rfl ?_
                      refine x_iload_n C dX12_rations_94 rfl 2 rfl rfl ?_
                      refine x_iload_n C dX12_rations_95 rfl 3 rfl rfl ?_
                      refine x_iconst C (v := 0) dX12_rations_96 (by decide) rfl ?_
                      refine x_vi C (As := [.int (nI j8), .int (nI 2), .int 0]) (rest := []) (m_leastOf E l a cd hG kf jn js jq w51 hW53 j8 2 (0 : Int32) (by omega) (by omega) f56 k55 te64) mf_X12_leastOf w_1609 0 k54 rfl rfl rfl (Nat.le_of_ble_eq_true rfl) ⟨(Nat.le_of_ble_eq_true rfl), (Nat.le_of_ble_eq_true rfl)⟩ ⟨(Nat.le_of_ble_eq_true rfl), (Nat.le_of_ble_eq_true rfl)⟩ dX12_rations_97 rfl (fun r98 w99 h97 => ?_)
                      have hW100 := h97
                      refine x_ws hW100 ?_
                      refine x_istore C (lv' := [(6, .int r98), (5, .int 0), (0, .ref (a 0)), (1, .int (nI j8)), (2, .int (nI 2)), (3, .int (nI j90)), (4, .int (nI rw))]) dX12_rations_100 (by decide) rfl rfl ?_
                      refine x_iconst C (v := 1) dX12_rations_102 (by decide) rfl ?_
                      refine x_istore C (lv' := [(7, .int 1), (6, .int r98), (5, .int 0), (0, .ref (a 0)), (1, .int (nI j8)), (2, .int (nI 2)), (3, .int (nI j90)), (4, .int (nI rw))]) dX12_rations_103 (by decide) rfl rfl ?_
                      have loop105 : ∀ (fu105 : Nat) (z105_5 : Int32) (z105_6 : Int32) (cq : Nat), True → 6561 - cq < fu105 → 1 ≤ cq ∧ cq ≤ 6561 → X E p l e (xRm 8 0 0) s m ([.ref (a 0), .int (nI j8), .int (nI 2), .int (nI j90)] : List Value).toArray below meth c A 9 0 0 (MQ below (va_Qi (fun r w => WX (okM E a cd kf jn js jq) w) (xB E A) A) ([.ref (a 0), .int (nI j8), .int (nI 2), .int (nI j90)] : List Value).toArray s 0 0 A) w51 105 [(0, .ref (a 0)), (1, .int (nI j8)), (2, .int (nI 2)), (3, .int (nI j90)), (4, .int (nI rw)), (5, .int z105_5), (6, .int z105_6), (7, .int (nI cq))] [] := by
                        intro fu105
                        induction fu105 with
                        | zero => intro z105_5 z105_6 cq _ q; omega
                        | succ fu105 ih105 =>
                          intro z105_5 z105_6 cq _ me105 iv105_0
                          refine x_iload C dX12_rations_105 7 rfl rfl ?_
                          refine x_iload C dX12_rations_107 4 rfl rfl ?_
                          refine x_icmp_ge C (tgt := 146) dX12_rations_109 (by decide) rfl (fun c101 => ?_) (fun c101 => ?_)
                          · skip
                            have nf102 := nI_le' (a := rw) (b := cq) c101 (by omega) (by omega)
                            refine x_iload_n C dX12_rations_146 rfl 3 rfl rfl ?_
                            refine x_bipush C (v := 10) dX12_rations_147 (by decide) rfl ?_
                            refine x_icmp_ne C (tgt := 155) dX12_rations_149 (by decide) rfl (fun c103 => ?_) (fun c103 => ?_)
                            · skip
                              have nf104 : ¬ j90 = 10 := fun q => c103 (congrArg nI q)
                              refine x_iload C dX12_rations_155 5 rfl rfl ?_
                              refine x_istore C (lv' := [(7, .int z105_5), (0, .ref (a 0)), (1, .int (nI j8)), (2, .int (nI 2)), (3, .int (nI j90)), (4, .int (nI rw)), (5, .int z105_5), (6, .int z105_6)]) dX12_rations_157 (by decide) rfl rfl ?_
                              refine x_iload_n C dX12_rations_159 rfl 2 rfl rfl ?_
                              refine x_iconst C (v := 1) dX12_rations_160 (by decide) rfl ?_
                              refine x_isub C (v := (nI (j8 - 1))) dX12_rations_161 (pk_sub (a := j8) (b := 1) (by omega)) rfl ?_
                              refine x_istore C (lv' := [(8, .int (nI (j8 - 1))), (7, .int z105_5), (0, .ref (a 0)), (1, .int (nI j8)), (2, .int (nI 2)), (3, .int (nI j90)), (4, .int (nI rw)), (5, .int z105_5), (6, .int z105_6)]) dX12_rations_162 (by decide) rfl rfl ?_
                              have loop164 : ∀ (fu164 : Nat) (z164_7 : Int32) (k : Nat), True → k < fu164 → k ≤ 7 → X E p l e (xRm 8 0 0) s m ([.ref (a 0), .int (nI j8), .int (nI 2), .int (nI j90)] : List Value).toArray below meth c A 9 0 0 (MQ below (va_Qi (fun r w => WX (okM E a cd kf jn js jq) w) (xB E A) A) ([.ref (a 0), .int (nI j8), .int (nI 2), .int (nI j90)] : List Value).toArray s 0 0 A) w51 164 [(0, .ref (a 0)), (1, .int (nI j8)), (2, .int (nI 2)), (3, .int (nI j90)), (4, .int (nI rw)), (5, .int z105_5), (6, .int z105_6), (7, .int z164_7), (8, .int (nI k))] [] := by
                                intro fu164
                                induction fu164 with
                                | zero => intro z164_7 k _ q; omega
                                | succ fu164 ih164 =>
                                  intro z164_7 k _ me164 iv164_0
                                  refine x_iload C dX12_rations_164 8 rfl rfl ?_
                                  refine x_iload_n C dX12_rations_166 rfl 3 rfl rfl ?_
                                  refine x_icmp_le C (tgt := 182) dX12_rations_167 (by decide) rfl (fun c105 => ?_) (fun c105 => ?_)
                                  · skip
                                    have nf106 := nI_le' (a := k) (b := j90) c105 (by omega) (by omega)
                                    refine x_iload C dX12_rations_182 7 rfl rfl ?_
                                    refine x_iload_n C dX12_rations_184 rfl 2 rfl rfl ?_
                                    refine x_irem C (v := (z164_7 - z164_7 / (nI 2) * (nI 2))) dX12_rations_185 (nz (by omega) (by omega)) rfl rfl ?_
                                    refine x_any (fun v107 => ?_)
                                    exact x_zret C hr hlk rfl dX12_rations_186 hW53
                                  · skip
                                    have nf108 := nI_nle' (a := k) (b := j90) c105 (by omega) (by omega)
                                    refine x_iload C dX12_rations_170 7 rfl rfl ?_
                                    refine x_iload_n C dX12_rations_172 rfl 2 rfl rfl ?_
                                    refine x_idiv C (v := (z164_7 / (nI 2))) dX12_rations_173 (nz (by omega) (by omega)) rfl rfl ?_
                                    refine x_any (fun v109 => ?_)
                                    refine x_istore C (lv' := [(7, .int v109), (0, .ref (a 0)), (1, .int (nI j8)), (2, .int (nI 2)), (3, .int (nI j90)), (4, .int (nI rw)), (5, .int z105_5), (6, .int z105_6), (8, .int (nI k))]) dX12_rations_174 (by decide) rfl rfl ?_
                                    refine x_iinc C (v := (nI (k - 1))) (lv' := [(8, .int (nI (k - 1))), (7, .int v109), (0, .ref (a 0)), (1, .int (nI j8)), (2, .int (nI 2)), (3, .int (nI j90)), (4, .int (nI rw)), (5, .int z105_5), (6, .int z105_6)]) dX12_rations_176 8 rfl (dec_n (by omega)) (by decide) rfl rfl ?_
                                    refine x_goto C (tgt := 164) dX12_rations_179 (by decide) ?_
                                    refine x_lv (lv1 := [(0, .ref (a 0)), (1, .int (nI j8)), (2, .int (nI 2)), (3, .int (nI j90)), (4, .int (nI rw)), (5, .int z105_5), (6, .int z105_6), (7, .int v109), (8, .int (nI (k - 1)))]) [2, 3, 4, 5, 6, 7, 8, 1, 0] rfl ?_
                                    exact ih164 v109 (k - 1) trivial (by omega) (by omega)
                              refine x_lv (lv1 := [(0, .ref (a 0)), (1, .int (nI j8)), (2, .int (nI 2)), (3, .int (nI j90)), (4, .int (nI rw)), (5, .int z105_5), (6, .int z105_6), (7, .int z105_5), (8, .int (nI (j8 - 1)))]) [2, 3, 4, 5, 6, 7, 8, 1, 0] rfl ?_
                              exact loop164 _ z105_5 (j8 - 1) trivial (Nat.lt_succ_self _) (by omega)
                            · skip
                              have nf110 : j90 = 10 := (nI_eq (by omega) (by omega)).mp c103
                              refine x_iload C dX12_rations_152 6 rfl rfl ?_
                              exact x_zret C hr hlk rfl dX12_rations_154 hW53
                          · skip
                            have nf111 := nI_nle' (a := rw) (b := cq) c101 (by omega) (by omega)
                            refine x_aload_n C dX12_rations_112 rfl 0 rfl rfl ?_
                            refine x_iload_n C dX12_rations_113 rfl 1 rfl rfl ?_
                            refine x_iload_n C dX12_rations_114 rfl 2 rfl rfl ?_
                            refine x_iload C dX12_rations_115 7 rfl rfl ?_
                            refine x_vi C (As := [.int (nI j8), .int (nI 2), .int (nI cq)]) (rest := []) (m_leastOf E l a cd hG kf jn js jq w51 hW53 j8 2 ((nI cq)) (by omega) (by omega) f56 k55 te64) mf_X12_leastOf w_1609 0 k54 rfl rfl rfl (Nat.le_of_ble_eq_true rfl) ⟨(Nat.le_of_ble_eq_true rfl), (Nat.le_of_ble_eq_true rfl)⟩ ⟨(Nat.le_of_ble_eq_true rfl), (Nat.le_of_ble_eq_true rfl)⟩ dX12_rations_117 rfl (fun r113 w114 h112 => ?_)
                            have hW115 := h112
                            refine x_ws hW115 ?_
                            refine x_istore C (lv' := [(8, .int r113), (0, .ref (a 0)), (1, .int (nI j8)), (2, .int (nI 2)), (3, .int (nI j90)), (4, .int (nI rw)), (5, .int z105_5), (6, .int z105_6), (7, .int (nI cq))]) dX12_rations_120 (by decide) rfl rfl ?_
                            refine x_iload C dX12_rations_122 0 rfl rfl ?_
                            refine x_iload C dX12_rations_124 7 rfl rfl ?_
                            refine x_icmp_gt C (tgt := 132) dX12_rations_126 (by decide) rfl (fun c116 => ?_) (fun c116 => ?_)
                            · skip
                              refine x_iload C dX12_rations_132 0 rfl rfl ?_
                              refine x_istore C (lv' := [(6, .int r113), (8, .int r113), (0, .ref (a 0)), (1, .int (nI j8)), (2, .int (nI 2)), (3, .int (nI j90)), (4, .int (nI rw)), (5, .int z105_5), (7, .int (nI cq))]) dX12_rations_134 (by decide) rfl rfl ?_
                              refine x_iload C dX12_rations_136 8 rfl rfl ?_
                              refine x_istore C (lv' := [(5, .int (nI cq)), (6, .int r113), (8, .int r113), (0, .ref (a 0)), (1, .int (nI j8)), (2, .int (nI 2)), (3, .int (nI j90)), (4, .int (nI rw)), (7, .int (nI cq))]) dX12_rations_138 (by decide) rfl rfl ?_
                              refine x_iinc C (v := (nI (cq + 1))) (lv' := [(7, .int (nI (cq + 1))), (5, .int (nI cq)), (6, .int r113), (8, .int r113), (0, .ref (a 0)), (1, .int (nI j8)), (2, .int (nI 2)), (3, .int (nI j90)), (4, .int (nI rw))]) dX12_rations_140 8 rfl (nI_add cq 1) (by decide) rfl rfl ?_
                              refine x_goto C (tgt := 105) dX12_rations_143 (by decide) ?_
                              refine x_lv (lv1 := [(0, .ref (a 0)), (1, .int (nI j8)), (2, .int (nI 2)), (3, .int (nI j90)), (4, .int (nI rw)), (5, .int (nI cq)), (6, .int r113), (7, .int (nI (cq + 1)))]) [4, 5, 6, 7, 8, 1, 2, 0] rfl ?_
                              exact ih105 ((nI cq)) r113 (cq + 1) trivial (by omega) (by omega)
                            · skip
                              refine x_goto C (tgt := 140) dX12_rations_129 (by decide) ?_
                              refine x_iinc C (v := (nI (cq + 1))) (lv' := [(7, .int (nI (cq + 1))), (8, .int r113), (0, .ref (a 0)), (1, .int (nI j8)), (2, .int (nI 2)), (3, .int (nI j90)), (4, .int (nI rw)), (5, .int z105_5), (6, .int z105_6)]) dX12_rations_140 8 rfl (nI_add cq 1) (by decide) rfl rfl ?_
                              refine x_goto C (tgt := 105) dX12_rations_143 (by decide) ?_
                              refine x_lv (lv1 := [(0, .ref (a 0)), (1, .int (nI j8)), (2, .int (nI 2)), (3, .int (nI j90)), (4, .int (nI rw)), (5, .int z105_5), (6, .int z105_6), (7, .int (nI (cq + 1)))]) [2, 3, 4, 5, 6, 7, 8, 0] rfl ?_
                              exact ih105 z105_5 z105_6 (cq + 1) trivial (by omega) (by omega)
                      refine x_lv (lv1 := [(0, .ref (a 0)), (1, .int (nI j8)), (2, .int (nI 2)), (3, .int (nI j90)), (4, .int (nI rw)), (5, .int 0), (6, .int r98), (7, .int 1)]) [3, 4, 5, 6, 7, 2, 1, 0] rfl ?_
                      exact loop105 _ (0 : Int32) r98 1 trivial (Nat.lt_succ_self _) (by omega)
                    · skip
                      have nf117 := nI_nle' (a := j8) (b := k) c94 (by omega) (by omega)
                      have hp3118 := p3_s k
                      refine x_iload C dX12_rations_78 4 rfl rfl ?_
                      refine x_iload_n C dX12_rations_80 rfl 2 rfl rfl ?_
                      refine x_imul C (v := (nI (rw * 2))) dX12_rations_81 (pk_mul rw 2) rfl ?_
                      refine x_istore C (lv' := [(4, .int (nI (rw * 2))), (0, .ref (a 0)), (1, .int (nI j8)), (2, .int (nI 2)), (3, .int (nI j90)), (5, .int (nI k))]) dX12_rations_82 (by decide) rfl rfl ?_
                      refine x_iinc C (v := (nI (k + 1))) (lv' := [(5, .int (nI (k + 1))), (4, .int (nI (rw * 2))), (0, .ref (a 0)), (1, .int (nI j8)), (2, .int (nI 2)), (3, .int (nI j90))]) dX12_rations_84 5 rfl (nI_add k 1) (by decide) rfl rfl ?_
                      refine x_goto C (tgt := 72) dX12_rations_87 (by decide) ?_
                      refine x_lv (lv1 := [(0, .ref (a 0)), (1, .int (nI j8)), (2, .int (nI 2)), (3, .int (nI j90)), (4, .int (nI (rw * 2))), (5, .int (nI (k + 1)))]) [2, 3, 4, 5, 1, 0] rfl ?_
                      exact ih72 (rw * 2) (k + 1) trivial (by omega) (by omega) (by omega)
                refine x_lv (lv1 := [(0, .ref (a 0)), (1, .int (nI j8)), (2, .int (nI 2)), (3, .int (nI j90)), (4, .int 1), (5, .int 0)]) [2, 3, 4, 5, 1, 0] rfl ?_
                exact loop72 _ 1 0 trivial (Nat.lt_succ_self _) (by omega) ⟨by omega, by rw [p3_0]; omega⟩
              · skip
                refine x_bipush C (v := (-3)) dX12_rations_63 (by decide) rfl ?_
                exact x_zret C hr hlk rfl dX12_rations_65 hW53
          · skip
            refine x_bipush C (v := (-2)) dX12_rations_43 (by decide) rfl ?_
            exact x_zret C hr hlk rfl dX12_rations_45 hW53
        · skip
          have nf119 := nI_nle' (a := j8) (b := n24) c49 (by omega) (by omega)
          refine x_iconst C (v := (-1)) dX12_rations_27 (by decide) rfl ?_
          exact x_zret C hr hlk rfl dX12_rations_28 hW
      · skip
        refine x_iload_n C dX12_rations_19 rfl 1 rfl rfl ?_
        refine x_aload_n C dX12_rations_20 rfl 0 rfl rfl ?_
        obtain ⟨_, k120, n121, n123, n125, v127, v128, v129, n130, n132, n134, n136, v138, v139, v140, v141, n142, n144, bn122, bn124, bn126, bn131, bn133, bn135, bn137, bn143, bn145, rfl⟩ := hW 0 _ rfl
        refine x_get C (ci := 11) (k := 4) 0 k120 rfl in_X12 (by decide) w_1122 rfl dX12_rations_21 rfl ?_
        refine x_icmp_le C (tgt := 29) dX12_rations_24 (by decide) rfl (fun c146 => ?_) (fun c146 => ?_)
        · skip
          have nf147 := nI_le' (a := j8) (b := n121) c146 (by omega) (by omega)
          refine x_aload_n C dX12_rations_29 rfl 0 rfl rfl ?_
          refine x_iconst C (v := 0) dX12_rations_30 (by decide) rfl ?_
          obtain ⟨w148, hw149⟩ : ∃ w : va_W, w = List.set ws 0 (ob (a 0) 11 [.ref (a 1), .ref (a 2), .ref (a 3), .ref (a 4), .int 0, .int (nI n123), .int (nI n125), .int v127, .int v128, .int v129, .int (nI n130), .int (nI n132), .int (nI n134), .int (nI (cd.2.2.2.2.2)), .ref (a 5), .ref (a 6), .ref (a 7), .ref (a 8), .ref (a 9), .ref (a 10), .ref (a 11), .ref (a 12), .ref (a 13), .ref (a 14), .ref (a 15), .ref (a 16), .ref (a 17), .int (nI n136), .ref (a 18), .ref (a 19), .ref (a 20), .ref (a 21), .int v138, .int v139, .int v140, .int v141, .int (nI n142), .int (nI n144), .ref (a 22), .ref (a 23), .ref (a 24), .ref (a 25), .ref (a 26), .ref (a 27), .ref (a 28), .ref (a 29), .ref (a 30), .int kf]) := ⟨_, rfl⟩
          refine x_put C (ci := 11) (k := 4) (ty := .int) 0 k120 rfl in_X12 tyX12 tyX12_ok nmX12 (by decide) w_1122 rfl rfl rfl rfl (Nat.le_of_ble_eq_true rfl) hw149.symm dX12_rations_31 rfl ?_
          have hW150 : WX (okM E a cd kf jn js jq) w148 := by rw [hw149]; exact hW.set (k := 0) rfl ⟨0, n123, n125, v127, v128, v129, n130, n132, n134, n136, v138, v139, v140, v141, n142, n144, by omega, by omega, by omega, by omega, by omega, by omega, by omega, by omega, by omega, rfl⟩
          have k151 : w148[0]? = some (ob (a 0) 11 [.ref (a 1), .ref (a 2), .ref (a 3), .ref (a 4), .int 0, .int (nI n123), .int (nI n125), .int v127, .int v128, .int v129, .int (nI n130), .int (nI n132), .int (nI n134), .int (nI (cd.2.2.2.2.2)), .ref (a 5), .ref (a 6), .ref (a 7), .ref (a 8), .ref (a 9), .ref (a 10), .ref (a 11), .ref (a 12), .ref (a 13), .ref (a 14), .ref (a 15), .ref (a 16), .ref (a 17), .int (nI n136), .ref (a 18), .ref (a 19), .ref (a 20), .ref (a 21), .int v138, .int v139, .int v140, .int v141, .int (nI n142), .int (nI n144), .ref (a 22), .ref (a 23), .ref (a 24), .ref (a 25), .ref (a 26), .ref (a 27), .ref (a 28), .ref (a 29), .ref (a 30), .int kf]) := by rw [hw149]; exact set_eq k120
          obtain ⟨_, k152, f153, rfl⟩ := hW150 4 _ rfl
          refine x_aload_n C dX12_rations_34 rfl 0 rfl rfl ?_
          refine x_iload_n C dX12_rations_35 rfl 1 rfl rfl ?_
          refine x_iconst C (v := 0) dX12_rations_36 (by decide) rfl ?_
          refine x_vi C (As := [.int (nI j8), .int 0]) (rest := []) (m_areEggs E l a cd hG kf jn js jq w148 hW150 j8 (0 : Int32) (by omega) f153 k152) mf_X12_areEggs w_1605 0 k151 rfl rfl rfl (Nat.le_of_ble_eq_true rfl) ⟨(Nat.le_of_ble_eq_true rfl), (Nat.le_of_ble_eq_true rfl)⟩ ⟨(Nat.le_of_ble_eq_true rfl), (Nat.le_of_ble_eq_true rfl)⟩ dX12_rations_37 rfl (fun r155 w156 h154 => ?_)
          obtain ⟨hW157, zb158, x159⟩ := h154
          refine x_ws hW157 ?_
          refine x_if_ne C (tgt := 46) dX12_rations_40 (by decide) rfl (fun c160 => ?_) (fun c160 => ?_)
          · skip
            have te161 := x159 c160
            refine x_iload_n C dX12_rations_46 rfl 3 rfl rfl ?_
            refine x_bipush C (v := 10) dX12_rations_47 (by decide) rfl ?_
            refine x_icmp_eq C (tgt := 66) dX12_rations_49 (by decide) rfl (fun c162 => ?_) (fun c162 => ?_)
            · skip
              refine x_iconst C (v := 1) dX12_rations_66 (by decide) rfl ?_
              refine x_istore C (lv' := [(4, .int 1), (0, .ref (a 0)), (1, .int (nI j8)), (2, .int (nI 3)), (3, .int p2)]) dX12_rations_67 (by decide) rfl rfl ?_
              refine x_iconst C (v := 0) dX12_rations_69 (by decide) rfl ?_
              refine x_istore C (lv' := [(5, .int 0), (4, .int 1), (0, .ref (a 0)), (1, .int (nI j8)), (2, .int (nI 3)), (3, .int p2)]) dX12_rations_70 (by decide) rfl rfl ?_
              have loop72 : ∀ (fu72 : Nat) (rw : Nat) (k : Nat), True → 8 - k < fu72 → k ≤ 8 → 1 ≤ rw ∧ rw ≤ p3 k → X E p l e (xRm 8 0 0) s m ([.ref (a 0), .int (nI j8), .int (nI 3), .int p2] : List Value).toArray below meth c A 9 0 0 (MQ below (va_Qi (fun r w => WX (okM E a cd kf jn js jq) w) (xB E A) A) ([.ref (a 0), .int (nI j8), .int (nI 3), .int p2] : List Value).toArray s 0 0 A) w148 72 [(0, .ref (a 0)), (1, .int (nI j8)), (2, .int (nI 3)), (3, .int p2), (4, .int (nI rw)), (5, .int (nI k))] [] := by
                intro fu72
                induction fu72 with
                | zero => intro rw k _ q; omega
                | succ fu72 ih72 =>
                  intro rw k _ me72 iv72_0 iv72_1
                  refine x_iload C dX12_rations_72 5 rfl rfl ?_
                  refine x_iload_n C dX12_rations_74 rfl 1 rfl rfl ?_
                  refine x_icmp_ge C (tgt := 90) dX12_rations_75 (by decide) rfl (fun c163 => ?_) (fun c163 => ?_)
                  · skip
                    have nf164 := nI_le' (a := j8) (b := k) c163 (by omega) (by omega)
                    have hp3165 := p3_8 (k := k) (by omega)
                    refine x_iconst C (v := 0) dX12_rations_90 (by decide) rfl ?_
                    refine x_istore C (lv' := [(5, .int 0), (0, .ref (a 0)), (1, .int (nI j8)), (2, .int (nI 3)), (3, .int p2), (4, .int (nI rw))]) dX12_rations_91 (by decide) rfl rfl ?_
                    refine x_aload_n C dX12_rations_93 rfl 1 rfl rfl ?_
                    refine x_iload_n C dX12_rations_94 rfl 2 rfl rfl ?_
                    refine x_iload_n C dX12_rations_95 rfl 3 rfl rfl ?_
                    refine x_iconst C (v := 0) dX12_rations_96 (by decide) rfl ?_
                    refine x_vi C (As := [.int (nI j8), .int (nI 3), .int 0]) (rest := []) (m_leastOf E l a cd hG kf jn js jq w148 hW150 j8 3 (0 : Int32) (by omega) (by omega) f153 k152 te161) mf_X12_leastOf w_1609 0 k151 rfl rfl rfl (Nat.le_of_ble_eq_true rfl) ⟨(Nat.le_of_ble_eq_true rfl), (Nat.le_of_ble_eq_true rfl)⟩ ⟨(Nat.le_of_ble_eq_true rfl), (Nat.le_of_ble_eq_true rfl)⟩ dX12_rations_97 rfl (fun r167 w168 h166 => ?_)
                    have hW169 := h166
                    refine x_ws hW169 ?_
                    refine x_istore C (lv' := [(6, .int r167), (5, .int 0), (0, .ref (a 0)), (1, .int (nI j8)), (2, .int (nI 3)), (3, .int p2), (4, .int (nI rw))]) dX12_rations_100 (by decide) rfl rfl ?_
                    refine x_iconst C (v := 1) dX12_rations_102 (by decide) rfl ?_
                    refine x_istore C (lv' := [(7, .int 1), (6, .int r167), (5, .int 0), (0, .ref (a 0)), (1, .int (nI j8)), (2, .int (nI 3)), (3, .int p2), (4, .int (nI rw))]) dX12_rations_103 (by decide) rfl rfl ?_
                    have loop105 : ∀ (fu105 : Nat) (z105_5 : Int32) (z105_6 : Int32) (cq : Nat), True → 6561 - cq < fu105 → 1 ≤ cq ∧ cq ≤ 6561 → X E p l e (xRm 8 0 0) s m ([.ref (a 0), .int (nI j8), .int (nI 3), .int p2] : List Value).toArray below meth c A 9 0 0 (MQ below (va_Qi (fun r w => WX (okM E a cd kf jn js jq) w) (xB E A) A) ([.ref (a 0), .int (nI j8), .int (nI 3), .int p2] : List Value).toArray s 0 0 A) w148 105 [(0, .ref (a 0)), (1, .int (nI j8)), (2, .int (nI 3)), (3, .int p2), (4, .int (nI rw)), (5, .int z105_5), (6, .int z105_6), (7, .int (nI cq))] [] := by
                      intro fu105
                      induction fu105 with
                      | zero => intro z105_5 z105_6 cq _ q; omega
                      | succ fu105 ih105 =>
                        intro z105_5 z105_6 cq _ me105 iv105_0
                        refine x_iload C dX12_rations_105 7 rfl rfl ?_
                        refine x_iload C dX12_rations_107 4 rfl rfl ?_
                        refine x_icmp_ge C (tgt := 146) dX12_rations_109 (by decide) rfl (fun c170 => ?_) (fun c170 => ?_)
                        · skip
                          have nf171 := nI_le' (a := rw) (b := cq) c170 (by omega) (by omega)
                          refine x_iload_n C dX12_rations_146 rfl 3 rfl rfl ?_
                          refine x_bipush C (v := 10) dX12_rations_147 (by decide) rfl ?_
                          refine x_icmp_ne C (tgt := 155) dX12_rations_149 (by decide) rfl (fun h => absurd c162 h) (fun _ => ?_)
                          refine x_iload C dX12_rations_152 6 rfl rfl ?_
                          exact x_zret C hr hlk rfl dX12_rations_154 hW150
                        · skip
                          have nf172 := nI_nle' (a := rw) (b := cq) c170 (by omega) (by omega)
                          refine x_aload_n C dX12_rations_112 rfl 0 rfl rfl ?_
                          refine x_iload_n C dX12_rations_113 rfl 1 rfl rfl ?_
                          refine x_iload_n C dX12_rations_114 rfl 2 rfl rfl ?_
                          refine x_iload C dX12_rations_115 7 rfl rfl ?_
                          refine x_vi C (As := [.int (nI j8), .int (nI 3), .int (nI cq)]) (rest := []) (m_leastOf E l a cd hG kf jn js jq w148 hW150 j8 3 ((nI cq)) (by omega) (by omega) f153 k152 te161) mf_X12_leastOf w_1609 0 k151 rfl rfl rfl (Nat.le_of_ble_eq_true rfl) ⟨(Nat.le_of_ble_eq_true rfl), (Nat.le_of_ble_eq_true rfl)⟩ ⟨(Nat.le_of_ble_eq_true rfl), (Nat.le_of_ble_eq_true rfl)⟩ dX12_rations_117 rfl (fun r174 w175 h173 => ?_)
                          have hW176 := h173
                          refine x_ws hW176 ?_
                          refine x_istore C (lv' := [(8, .int r174), (0, .ref (a 0)), (1, .int (nI j8)), (2, .int (nI 3)), (3, .int p2), (4, .int (nI rw)), (5, .int z105_5), (6, .int z105_6), (7, .int (nI cq))]) dX12_rations_120 (by decide) rfl rfl ?_
                          refine x_iload C dX12_rations_122 0 rfl rfl ?_
                          refine x_iload C dX12_rations_124 7 rfl rfl ?_
                          refine x_icmp_gt C (tgt := 132) dX12_rations_126 (by decide) rfl (fun c177 => ?_) (fun c177 => ?_)
                          · skip
                            refine x_iload C dX12_rations_132 0 rfl rfl ?_
                            refine x_istore C (lv' := [(6, .int r174), (8, .int r174), (0, .ref (a 0)), (1, .int (nI j8)), (2, .int (nI 3)), (3, .int p2), (4, .int (nI rw)), (5, .int z105_5), (7, .int (nI cq))]) dX12_rations_134 (by decide) rfl rfl ?_
                            refine x_iload C dX12_rations_136 8 rfl rfl ?_
                            refine x_istore C (lv' := [(5, .int (nI cq)), (6, .int r174), (8, .int r174), (0, .ref (a 0)), (1, .int (nI j8)), (2, .int (nI 3)), (3, .int p2), (4, .int (nI rw)), (7, .int (nI cq))]) dX12_rations_138 (by decide) rfl rfl ?_
                            refine x_iinc C (v := (nI (cq + 1))) (lv' := [(7, .int (nI (cq + 1))), (5, .int (nI cq)), (6, .int r174), (8, .int r174), (0, .ref (a 0)), (1, .int (nI j8)), (2, .int (nI 3)), (3, .int p2), (4, .int (nI rw))]) dX12_rations_140 8 rfl (nI_add cq 1) (by decide) rfl rfl ?_
                            refine x_goto C (tgt := 105) dX12_rations_143 (by decide) ?_
                            refine x_lv (lv1 := [(0, .ref (a 0)), (1, .int (nI j8)), (2, .int (nI 3)), (3, .int p2), (4, .int (nI rw)), (5, .int (nI cq)), (6, .int r174), (7, .int (nI (cq + 1)))]) [4, 5, 6, 7, 8, 1, 2, 0] rfl ?_
                            exact ih105 ((nI cq)) r174 (cq + 1) trivial (by omega) (by omega)
                          · skip
                            refine x_goto C (tgt := 140) dX12_rations_129 (by decide) ?_
                            refine x_iinc C (v := (nI (cq + 1))) (lv' := [(7, .int (nI (cq + 1))), (8, .int r174), (0, .ref (a 0)), (1, .int (nI j8)), (2, .int (nI 3)), (3, .int p2), (4, .int (nI rw)), (5, .int z105_5), (6, .int z105_6)]) dX12_rations_140 8 rfl (nI_add cq 1) (by decide) rfl rfl ?_
                            refine x_goto C (tgt := 105) dX12_rations_143 (by decide) ?_
                            refine x_lv (lv1 := [(0, .ref (a 0)), (1, .int (nI j8)), (2, .int (nI 3)), (3, .int p2), (4, .int (nI rw)), (5, .int z105_5), (6, .int z105_6), (7, .int (nI (cq + 1)))]) [2, 3, 4, 5, 6, 7, 8, 0] rfl ?_
                            exact ih105 z105_5 z105_6 (cq + 1) trivial (by omega) (by omega)
                    refine x_lv (lv1 := [(0, .ref (a 0)), (1, .int (nI j8)), (2, .int (nI 3)), (3, .int p2), (4, .int (nI rw)), (5, .int 0), (6, .int r167), (7, .int 1)]) [3, 4, 5, 6, 7, 2, 1, 0] rfl ?_
                    exact loop105 _ (0 : Int32) r167 1 trivial (Nat.lt_succ_self _) (by omega)
                  · skip
                    have nf178 := nI_nle' (a := j8) (b := k) c163 (by omega) (by omega)
                    have hp3179 := p3_s k
                    refine x_iload C dX12_rations_78 4 rfl rfl ?_
                    refine x_iload_n C dX12_rations_80 rfl 2 rfl rfl ?_
                    refine x_imul C (v := (nI (rw * 3))) dX12_rations_81 (pk_mul rw 3) rfl ?_
                    refine x_istore C (lv' := [(4, .int (nI (rw * 3))), (0, .ref (a 0)), (1, .int (nI j8)), (2, .int (nI 3)), (3, .int p2), (5, .int (nI k))]) dX12_rations_82 (by decide) rfl rfl ?_
                    refine x_iinc C (v := (nI (k + 1))) (lv' := [(5, .int (nI (k + 1))), (4, .int (nI (rw * 3))), (0, .ref (a 0)), (1, .int (nI j8)), (2, .int (nI 3)), (3, .int p2)]) dX12_rations_84 5 rfl (nI_add k 1) (by decide) rfl rfl ?_
                    refine x_goto C (tgt := 72) dX12_rations_87 (by decide) ?_
                    refine x_lv (lv1 := [(0, .ref (a 0)), (1, .int (nI j8)), (2, .int (nI 3)), (3, .int p2), (4, .int (nI (rw * 3))), (5, .int (nI (k + 1)))]) [2, 3, 4, 5, 1, 0] rfl ?_
                    exact ih72 (rw * 3) (k + 1) trivial (by omega) (by omega) (by omega)
              refine x_lv (lv1 := [(0, .ref (a 0)), (1, .int (nI j8)), (2, .int (nI 3)), (3, .int p2), (4, .int 1), (5, .int 0)]) [2, 3, 4, 5, 1, 0] rfl ?_
              exact loop72 _ 1 0 trivial (Nat.lt_succ_self _) (by omega) ⟨by omega, by rw [p3_0]; omega⟩
            · skip
              refine x_iload_n C dX12_rations_52 rfl 3 rfl rfl ?_
              refine x_iconst C (v := 0) dX12_rations_53 (by decide) rfl ?_
              refine x_iload_n C dX12_rations_54 rfl 1 rfl rfl ?_
              refine x_iconst C (v := 1) dX12_rations_55 (by decide) rfl ?_
              refine x_isub C (v := (nI (j8 - 1))) dX12_rations_56 (pk_sub (a := j8) (b := 1) (by omega)) rfl ?_
              refine x_si C (As := [.int p2, .int 0, .int (nI (j8 - 1))]) (rest := []) (m_in E l a cd hG kf jn js jq w148 hW150 p2 (0 : Int32) ((nI (j8 - 1)))) mf_X12_in w_1267 rfl rfl (Nat.le_of_ble_eq_true rfl) ⟨(Nat.le_of_ble_eq_true rfl), (Nat.le_of_ble_eq_true rfl)⟩ ⟨(Nat.le_of_ble_eq_true rfl), (Nat.le_of_ble_eq_true rfl)⟩ dX12_rations_57 rfl (fun r181 w182 h180 => ?_)
              obtain ⟨hW183, zb184, x185⟩ := h180
              refine x_ws hW183 ?_
              refine x_if_ne C (tgt := 66) dX12_rations_60 (by decide) rfl (fun c186 => ?_) (fun c186 => ?_)
              · skip
                obtain ⟨j187, hl188, hh189, ej190⟩ := w_nat (a := 0) (b := (j8 - 1)) (by decide) (nI_toInt (by omega)) (x185 c186)
                subst ej190
                refine x_iconst C (v := 1) dX12_rations_66 (by decide) rfl ?_
                refine x_istore C (lv' := [(4, .int 1), (0, .ref (a 0)), (1, .int (nI j8)), (2, .int (nI 3)), (3, .int (nI j187))]) dX12_rations_67 (by decide) rfl rfl ?_
                refine x_iconst C (v := 0) dX12_rations_69 (by decide) rfl ?_
                refine x_istore C (lv' := [(5, .int 0), (4, .int 1), (0, .ref (a 0)), (1, .int (nI j8)), (2, .int (nI 3)), (3, .int (nI j187))]) dX12_rations_70 (by decide) rfl rfl ?_
                have loop72 : ∀ (fu72 : Nat) (rw : Nat) (k : Nat), True → 8 - k < fu72 → k ≤ 8 → 1 ≤ rw ∧ rw ≤ p3 k → X E p l e (xRm 8 0 0) s m ([.ref (a 0), .int (nI j8), .int (nI 3), .int (nI j187)] : List Value).toArray below meth c A 9 0 0 (MQ below (va_Qi (fun r w => WX (okM E a cd kf jn js jq) w) (xB E A) A) ([.ref (a 0), .int (nI j8), .int (nI 3), .int (nI j187)] : List Value).toArray s 0 0 A) w148 72 [(0, .ref (a 0)), (1, .int (nI j8)), (2, .int (nI 3)), (3, .int (nI j187)), (4, .int (nI rw)), (5, .int (nI k))] [] := by
                  intro fu72
                  induction fu72 with
                  | zero => intro rw k _ q; omega
                  | succ fu72 ih72 =>
                    intro rw k _ me72 iv72_0 iv72_1
                    refine x_iload C dX12_rations_72 5 rfl rfl ?_
                    refine x_iload_n C dX12_rations_74 rfl 1 rfl rfl ?_
                    refine x_icmp_ge C (tgt := 90) dX12_rations_75 (by decide) rfl (fun c191 => ?_) (fun c191 => ?_)
                    · skip
                      have nf192 := nI_le' (a := j8) (b := k) c191 (by omega) (by omega)
                      have hp3193 := p3_8 (k := k) (by omega)
                      refine x_iconst C (v := 0) dX12_rations_90 (by decide) rfl ?_
                      refine x_istore C (lv' := [(5, .int 0), (0, .ref (a 0)), (1, .int (nI j8)), (2, .int (nI 3)), (3, .int (nI j187)), (4, .int (nI rw))]) dX12_rations_91 (by decide) rfl rfl ?_
                      refine x_aload_n C dX12_rations_93 rfl 1 rfl rfl ?_
                      refine x_iload_n C dX12_rations_94 rfl 2 rfl rfl ?_
                      refine x_iload_n C dX12_rations_95 rfl 3 rfl rfl ?_
                      refine x_iconst C (v := 0) dX12_rations_96 (by decide) rfl ?_
                      refine x_vi C (As := [.int (nI j8), .int (nI 3), .int 0]) (rest := []) (m_leastOf E l a cd hG kf jn js jq w148 hW150 j8 3 (0 : Int32) (by omega) (by omega) f153 k152 te161) mf_X12_leastOf w_1609 0 k151 rfl rfl rfl (Nat.le_of_ble_eq_true rfl) ⟨(Nat.le_of_ble_eq_true rfl), (Nat.le_of_ble_eq_true rfl)⟩ ⟨(Nat.le_of_ble_eq_true rfl), (Nat.le_of_ble_eq_true rfl)⟩ dX12_rations_97 rfl (fun r195 w196 h194 => ?_)
                      have hW197 := h194
                      refine x_ws hW197 ?_
                      refine x_istore C (lv' := [(6, .int r195), (5, .int 0), (0, .ref (a 0)), (1, .int (nI j8)), (2, .int (nI 3)), (3, .int (nI j187)), (4, .int (nI rw))]) dX12_rations_100 (by decide) rfl rfl ?_
                      refine x_iconst C (v := 1) dX12_rations_102 (by decide) rfl ?_
                      refine x_istore C (lv' := [(7, .int 1), (6, .int r195), (5, .int 0), (0, .ref (a 0)), (1, .int (nI j8)), (2, .int (nI 3)), (3, .int (nI j187)), (4, .int (nI rw))]) dX12_rations_103 (by decide) rfl rfl ?_
                      have loop105 : ∀ (fu105 : Nat) (z105_5 : Int32) (z105_6 : Int32) (cq : Nat), True → 6561 - cq < fu105 → 1 ≤ cq ∧ cq ≤ 6561 → X E p l e (xRm 8 0 0) s m ([.ref (a 0), .int (nI j8), .int (nI 3), .int (nI j187)] : List Value).toArray below meth c A 9 0 0 (MQ below (va_Qi (fun r w => WX (okM E a cd kf jn js jq) w) (xB E A) A) ([.ref (a 0), .int (nI j8), .int (nI 3), .int (nI j187)] : List Value).toArray s 0 0 A) w148 105 [(0, .ref (a 0)), (1, .int (nI j8)), (2, .int (nI 3)), (3, .int (nI j187)), (4, .int (nI rw)), (5, .int z105_5), (6, .int z105_6), (7, .int (nI cq))] [] := by
                        intro fu105
                        induction fu105 with
                        | zero => intro z105_5 z105_6 cq _ q; omega
                        | succ fu105 ih105 =>
                          intro z105_5 z105_6 cq _ me105 iv105_0
                          refine x_iload C dX12_rations_105 7 rfl rfl ?_
                          refine x_iload C dX12_rations_107 4 rfl rfl ?_
                          refine x_icmp_ge C (tgt := 146) dX12_rations_109 (by decide) rfl (fun c198 => ?_) (fun c198 => ?_)
                          · skip
                            have nf199 := nI_le' (a := rw) (b := cq) c198 (by omega) (by omega)
                            refine x_iload_n C dX12_rations_146 rfl 3 rfl rfl ?_
                            refine x_bipush C (v := 10) dX12_rations_147 (by decide) rfl ?_
                            refine x_icmp_ne C (tgt := 155) dX12_rations_149 (by decide) rfl (fun c200 => ?_) (fun c200 => ?_)
                            · skip
                              have nf201 : ¬ j187 = 10 := fun q => c200 (congrArg nI q)
                              refine x_iload C dX12_rations_155 5 rfl rfl ?_
                              refine x_istore C (lv' := [(7, .int z105_5), (0, .ref (a 0)), (1, .int (nI j8)), (2, .int (nI 3)), (3, .int (nI j187)), (4, .int (nI rw)), (5, .int z105_5), (6, .int z105_6)]) dX12_rations_157 (by decide) rfl rfl ?_
                              refine x_iload_n C dX12_rations_159 rfl 2 rfl rfl ?_
                              refine x_iconst C (v := 1) dX12_rations_160 (by decide) rfl ?_
                              refine x_isub C (v := (nI (j8 - 1))) dX12_rations_161 (pk_sub (a := j8) (b := 1) (by omega)) rfl ?_
                              refine x_istore C (lv' := [(8, .int (nI (j8 - 1))), (7, .int z105_5), (0, .ref (a 0)), (1, .int (nI j8)), (2, .int (nI 3)), (3, .int (nI j187)), (4, .int (nI rw)), (5, .int z105_5), (6, .int z105_6)]) dX12_rations_162 (by decide) rfl rfl ?_
                              have loop164 : ∀ (fu164 : Nat) (z164_7 : Int32) (k : Nat), True → k < fu164 → k ≤ 7 → X E p l e (xRm 8 0 0) s m ([.ref (a 0), .int (nI j8), .int (nI 3), .int (nI j187)] : List Value).toArray below meth c A 9 0 0 (MQ below (va_Qi (fun r w => WX (okM E a cd kf jn js jq) w) (xB E A) A) ([.ref (a 0), .int (nI j8), .int (nI 3), .int (nI j187)] : List Value).toArray s 0 0 A) w148 164 [(0, .ref (a 0)), (1, .int (nI j8)), (2, .int (nI 3)), (3, .int (nI j187)), (4, .int (nI rw)), (5, .int z105_5), (6, .int z105_6), (7, .int z164_7), (8, .int (nI k))] [] := by
                                intro fu164
                                induction fu164 with
                                | zero => intro z164_7 k _ q; omega
                                | succ fu164 ih164 =>
                                  intro z164_7 k _ me164 iv164_0
                                  refine x_iload C dX12_rations_164 8 rfl rfl ?_
                                  refine x_iload_n C dX12_rations_166 rfl 3 rfl rfl ?_
                                  refine x_icmp_le C (tgt := 182) dX12_rations_167 (by decide) rfl (fun c202 => ?_) (fun c202 => ?_)
                                  · skip
                                    have nf203 := nI_le' (a := k) (b := j187) c202 (by omega) (by omega)
                                    refine x_iload C dX12_rations_182 7 rfl rfl ?_
                                    refine x_iload_n C dX12_rations_184 rfl 2 rfl rfl ?_
                                    refine x_irem C (v := (z164_7 - z164_7 / (nI 3) * (nI 3))) dX12_rations_185 (nz (by omega) (by omega)) rfl rfl ?_
                                    refine x_any (fun v204 => ?_)
                                    exact x_zret C hr hlk rfl dX12_rations_186 hW150
                                  · skip
                                    have nf205 := nI_nle' (a := k) (b := j187) c202 (by omega) (by omega)
                                    refine x_iload C dX12_rations_170 7 rfl rfl ?_
                                    refine x_iload_n C dX12_rations_172 rfl 2 rfl rfl ?_
                                    refine x_idiv C (v := (z164_7 / (nI 3))) dX12_rations_173 (nz (by omega) (by omega)) rfl rfl ?_
                                    refine x_any (fun v206 => ?_)
                                    refine x_istore C (lv' := [(7, .int v206), (0, .ref (a 0)), (1, .int (nI j8)), (2, .int (nI 3)), (3, .int (nI j187)), (4, .int (nI rw)), (5, .int z105_5), (6, .int z105_6), (8, .int (nI k))]) dX12_rations_174 (by decide) rfl rfl ?_
                                    refine x_iinc C (v := (nI (k - 1))) (lv' := [(8, .int (nI (k - 1))), (7, .int v206), (0, .ref (a 0)), (1, .int (nI j8)), (2, .int (nI 3)), (3, .int (nI j187)), (4, .int (nI rw)), (5, .int z105_5), (6, .int z105_6)]) dX12_rations_176 8 rfl (dec_n (by omega)) (by decide) rfl rfl ?_
                                    refine x_goto C (tgt := 164) dX12_rations_179 (by decide) ?_
                                    refine x_lv (lv1 := [(0, .ref (a 0)), (1, .int (nI j8)), (2, .int (nI 3)), (3, .int (nI j187)), (4, .int (nI rw)), (5, .int z105_5), (6, .int z105_6), (7, .int v206), (8, .int (nI (k - 1)))]) [2, 3, 4, 5, 6, 7, 8, 1, 0] rfl ?_
                                    exact ih164 v206 (k - 1) trivial (by omega) (by omega)
                              refine x_lv (lv1 := [(0, .ref (a 0)), (1, .int (nI j8)), (2, .int (nI 3)), (3, .int (nI j187)), (4, .int (nI rw)), (5, .int z105_5), (6, .int z105_6), (7, .int z105_5), (8, .int (nI (j8 - 1)))]) [2, 3, 4, 5, 6, 7, 8, 1, 0] rfl ?_
                              exact loop164 _ z105_5 (j8 - 1) trivial (Nat.lt_succ_self _) (by omega)
                            · skip
                              have nf207 : j187 = 10 := (nI_eq (by omega) (by omega)).mp c200
                              refine x_iload C dX12_rations_152 6 rfl rfl ?_
                              exact x_zret C hr hlk rfl dX12_rations_154 hW150
                          · skip
                            have nf208 := nI_nle' (a := rw) (b := cq) c198 (by omega) (by omega)
                            refine x_aload_n C dX12_rations_112 rfl 0 rfl rfl ?_
                            refine x_iload_n C dX12_rations_113 rfl 1 rfl rfl ?_
                            refine x_iload_n C dX12_rations_114 rfl 2 rfl rfl ?_
                            refine x_iload C dX12_rations_115 7 rfl rfl ?_
                            refine x_vi C (As := [.int (nI j8), .int (nI 3), .int (nI cq)]) (rest := []) (m_leastOf E l a cd hG kf jn js jq w148 hW150 j8 3 ((nI cq)) (by omega) (by omega) f153 k152 te161) mf_X12_leastOf w_1609 0 k151 rfl rfl rfl (Nat.le_of_ble_eq_true rfl) ⟨(Nat.le_of_ble_eq_true rfl), (Nat.le_of_ble_eq_true rfl)⟩ ⟨(Nat.le_of_ble_eq_true rfl), (Nat.le_of_ble_eq_true rfl)⟩ dX12_rations_117 rfl (fun r210 w211 h209 => ?_)
                            have hW212 := h209
                            refine x_ws hW212 ?_
                            refine x_istore C (lv' := [(8, .int r210), (0, .ref (a 0)), (1, .int (nI j8)), (2, .int (nI 3)), (3, .int (nI j187)), (4, .int (nI rw)), (5, .int z105_5), (6, .int z105_6), (7, .int (nI cq))]) dX12_rations_120 (by decide) rfl rfl ?_
                            refine x_iload C dX12_rations_122 0 rfl rfl ?_
                            refine x_iload C dX12_rations_124 7 rfl rfl ?_
                            refine x_icmp_gt C (tgt := 132) dX12_rations_126 (by decide) rfl (fun c213 => ?_) (fun c213 => ?_)
                            · skip
                              refine x_iload C dX12_rations_132 0 rfl rfl ?_
                              refine x_istore C (lv' := [(6, .int r210), (8, .int r210), (0, .ref (a 0)), (1, .int (nI j8)), (2, .int (nI 3)), (3, .int (nI j187)), (4, .int (nI rw)), (5, .int z105_5), (7, .int (nI cq))]) dX12_rations_134 (by decide) rfl rfl ?_
                              refine x_iload C dX12_rations_136 8 rfl rfl ?_
                              refine x_istore C (lv' := [(5, .int (nI cq)), (6, .int r210), (8, .int r210), (0, .ref (a 0)), (1, .int (nI j8)), (2, .int (nI 3)), (3, .int (nI j187)), (4, .int (nI rw)), (7, .int (nI cq))]) dX12_rations_138 (by decide) rfl rfl ?_
                              refine x_iinc C (v := (nI (cq + 1))) (lv' := [(7, .int (nI (cq + 1))), (5, .int (nI cq)), (6, .int r210), (8, .int r210), (0, .ref (a 0)), (1, .int (nI j8)), (2, .int (nI 3)), (3, .int (nI j187)), (4, .int (nI rw))]) dX12_rations_140 8 rfl (nI_add cq 1) (by decide) rfl rfl ?_
                              refine x_goto C (tgt := 105) dX12_rations_143 (by decide) ?_
                              refine x_lv (lv1 := [(0, .ref (a 0)), (1, .int (nI j8)), (2, .int (nI 3)), (3, .int (nI j187)), (4, .int (nI rw)), (5, .int (nI cq)), (6, .int r210), (7, .int (nI (cq + 1)))]) [4, 5, 6, 7, 8, 1, 2, 0] rfl ?_
                              exact ih105 ((nI cq)) r210 (cq + 1) trivial (by omega) (by omega)
                            · skip
                              refine x_goto C (tgt := 140) dX12_rations_129 (by decide) ?_
                              refine x_iinc C (v := (nI (cq + 1))) (lv' := [(7, .int (nI (cq + 1))), (8, .int r210), (0, .ref (a 0)), (1, .int (nI j8)), (2, .int (nI 3)), (3, .int (nI j187)), (4, .int (nI rw)), (5, .int z105_5), (6, .int z105_6)]) dX12_rations_140 8 rfl (nI_add cq 1) (by decide) rfl rfl ?_
                              refine x_goto C (tgt := 105) dX12_rations_143 (by decide) ?_
                              refine x_lv (lv1 := [(0, .ref (a 0)), (1, .int (nI j8)), (2, .int (nI 3)), (3, .int (nI j187)), (4, .int (nI rw)), (5, .int z105_5), (6, .int z105_6), (7, .int (nI (cq + 1)))]) [2, 3, 4, 5, 6, 7, 8, 0] rfl ?_
                              exact ih105 z105_5 z105_6 (cq + 1) trivial (by omega) (by omega)
                      refine x_lv (lv1 := [(0, .ref (a 0)), (1, .int (nI j8)), (2, .int (nI 3)), (3, .int (nI j187)), (4, .int (nI rw)), (5, .int 0), (6, .int r195), (7, .int 1)]) [3, 4, 5, 6, 7, 2, 1, 0] rfl ?_
                      exact loop105 _ (0 : Int32) r195 1 trivial (Nat.lt_succ_self _) (by omega)
                    · skip
                      have nf214 := nI_nle' (a := j8) (b := k) c191 (by omega) (by omega)
                      have hp3215 := p3_s k
                      refine x_iload C dX12_rations_78 4 rfl rfl ?_
                      refine x_iload_n C dX12_rations_80 rfl 2 rfl rfl ?_
                      refine x_imul C (v := (nI (rw * 3))) dX12_rations_81 (pk_mul rw 3) rfl ?_
                      refine x_istore C (lv' := [(4, .int (nI (rw * 3))), (0, .ref (a 0)), (1, .int (nI j8)), (2, .int (nI 3)), (3, .int (nI j187)), (5, .int (nI k))]) dX12_rations_82 (by decide) rfl rfl ?_
                      refine x_iinc C (v := (nI (k + 1))) (lv' := [(5, .int (nI (k + 1))), (4, .int (nI (rw * 3))), (0, .ref (a 0)), (1, .int (nI j8)), (2, .int (nI 3)), (3, .int (nI j187))]) dX12_rations_84 5 rfl (nI_add k 1) (by decide) rfl rfl ?_
                      refine x_goto C (tgt := 72) dX12_rations_87 (by decide) ?_
                      refine x_lv (lv1 := [(0, .ref (a 0)), (1, .int (nI j8)), (2, .int (nI 3)), (3, .int (nI j187)), (4, .int (nI (rw * 3))), (5, .int (nI (k + 1)))]) [2, 3, 4, 5, 1, 0] rfl ?_
                      exact ih72 (rw * 3) (k + 1) trivial (by omega) (by omega) (by omega)
                refine x_lv (lv1 := [(0, .ref (a 0)), (1, .int (nI j8)), (2, .int (nI 3)), (3, .int (nI j187)), (4, .int 1), (5, .int 0)]) [2, 3, 4, 5, 1, 0] rfl ?_
                exact loop72 _ 1 0 trivial (Nat.lt_succ_self _) (by omega) ⟨by omega, by rw [p3_0]; omega⟩
              · skip
                refine x_bipush C (v := (-3)) dX12_rations_63 (by decide) rfl ?_
                exact x_zret C hr hlk rfl dX12_rations_65 hW150
          · skip
            refine x_bipush C (v := (-2)) dX12_rations_43 (by decide) rfl ?_
            exact x_zret C hr hlk rfl dX12_rations_45 hW150
        · skip
          have nf216 := nI_nle' (a := j8) (b := n121) c146 (by omega) (by omega)
          refine x_iconst C (v := (-1)) dX12_rations_27 (by decide) rfl ?_
          exact x_zret C hr hlk rfl dX12_rations_28 hW
theorem dX12_yolks_0 : decode cX12_yolks 0 = .ok (.iload_n 1, 1) := by decide +kernel
theorem dX12_yolks_1 : decode cX12_yolks 1 = .ok (.iconst 1, 1) := by decide +kernel
theorem dX12_yolks_2 : decode cX12_yolks 2 = .ok (.bipush 10, 2) := by decide +kernel
theorem dX12_yolks_4 : decode cX12_yolks 4 = .ok (.invokestatic 109, 3) := by decide +kernel
theorem dX12_yolks_7 : decode cX12_yolks 7 = .ok (.ifCond .eq 31, 3) := by decide +kernel
theorem dX12_yolks_10 : decode cX12_yolks 10 = .ok (.iload_n 2, 1) := by decide +kernel
theorem dX12_yolks_11 : decode cX12_yolks 11 = .ok (.iconst 0, 1) := by decide +kernel
theorem dX12_yolks_12 : decode cX12_yolks 12 = .ok (.sipush 9999, 3) := by decide +kernel
theorem dX12_yolks_15 : decode cX12_yolks 15 = .ok (.invokestatic 109, 3) := by decide +kernel
theorem dX12_yolks_18 : decode cX12_yolks 18 = .ok (.ifCond .eq 20, 3) := by decide +kernel
theorem dX12_yolks_21 : decode cX12_yolks 21 = .ok (.iload_n 3, 1) := by decide +kernel
theorem dX12_yolks_22 : decode cX12_yolks 22 = .ok (.iconst 0, 1) := by decide +kernel
theorem dX12_yolks_23 : decode cX12_yolks 23 = .ok (.iconst 1, 1) := by decide +kernel
theorem dX12_yolks_24 : decode cX12_yolks 24 = .ok (.invokestatic 109, 3) := by decide +kernel
theorem dX12_yolks_27 : decode cX12_yolks 27 = .ok (.ifCond .eq 11, 3) := by decide +kernel
theorem dX12_yolks_30 : decode cX12_yolks 30 = .ok (.iload_n 1, 1) := by decide +kernel
theorem dX12_yolks_31 : decode cX12_yolks 31 = .ok (.aload_n 0, 1) := by decide +kernel
theorem dX12_yolks_32 : decode cX12_yolks 32 = .ok (.getfield 123, 3) := by decide +kernel
theorem dX12_yolks_35 : decode cX12_yolks 35 = .ok (.if_icmp .le 5, 3) := by decide +kernel
theorem dX12_yolks_38 : decode cX12_yolks 38 = .ok (.iconst (-1), 1) := by decide +kernel
theorem dX12_yolks_39 : decode cX12_yolks 39 = .ok (.ireturn, 1) := by decide +kernel
theorem dX12_yolks_40 : decode cX12_yolks 40 = .ok (.aload_n 0, 1) := by decide +kernel
theorem dX12_yolks_41 : decode cX12_yolks 41 = .ok (.iconst 0, 1) := by decide +kernel
theorem dX12_yolks_42 : decode cX12_yolks 42 = .ok (.putfield 123, 3) := by decide +kernel
theorem dX12_yolks_45 : decode cX12_yolks 45 = .ok (.aload_n 0, 1) := by decide +kernel
theorem dX12_yolks_46 : decode cX12_yolks 46 = .ok (.iload_n 1, 1) := by decide +kernel
theorem dX12_yolks_47 : decode cX12_yolks 47 = .ok (.iconst 1, 1) := by decide +kernel
theorem dX12_yolks_48 : decode cX12_yolks 48 = .ok (.invokevirtual 377, 3) := by decide +kernel
theorem dX12_yolks_51 : decode cX12_yolks 51 = .ok (.ifCond .ne 6, 3) := by decide +kernel
theorem dX12_yolks_54 : decode cX12_yolks 54 = .ok (.bipush (-3), 2) := by decide +kernel
theorem dX12_yolks_56 : decode cX12_yolks 56 = .ok (.ireturn, 1) := by decide +kernel
theorem dX12_yolks_57 : decode cX12_yolks 57 = .ok (.iconst 0, 1) := by decide +kernel
theorem dX12_yolks_58 : decode cX12_yolks 58 = .ok (.istore 4, 2) := by decide +kernel
theorem dX12_yolks_60 : decode cX12_yolks 60 = .ok (.bipush (-2), 2) := by decide +kernel
theorem dX12_yolks_62 : decode cX12_yolks 62 = .ok (.istore 5, 2) := by decide +kernel
theorem dX12_yolks_64 : decode cX12_yolks 64 = .ok (.iconst 0, 1) := by decide +kernel
theorem dX12_yolks_65 : decode cX12_yolks 65 = .ok (.istore 6, 2) := by decide +kernel
theorem dX12_yolks_67 : decode cX12_yolks 67 = .ok (.iload 6, 2) := by decide +kernel
theorem dX12_yolks_69 : decode cX12_yolks 69 = .ok (.iconst 1, 1) := by decide +kernel
theorem dX12_yolks_70 : decode cX12_yolks 70 = .ok (.iload_n 1, 1) := by decide +kernel
theorem dX12_yolks_71 : decode cX12_yolks 71 = .ok (.ishl, 1) := by decide +kernel
theorem dX12_yolks_72 : decode cX12_yolks 72 = .ok (.if_icmp .ge 91, 3) := by decide +kernel
theorem dX12_yolks_75 : decode cX12_yolks 75 = .ok (.iconst 0, 1) := by decide +kernel
theorem dX12_yolks_76 : decode cX12_yolks 76 = .ok (.istore 7, 2) := by decide +kernel
theorem dX12_yolks_78 : decode cX12_yolks 78 = .ok (.iconst 0, 1) := by decide +kernel
theorem dX12_yolks_79 : decode cX12_yolks 79 = .ok (.istore 8, 2) := by decide +kernel
theorem dX12_yolks_81 : decode cX12_yolks 81 = .ok (.iload 8, 2) := by decide +kernel
theorem dX12_yolks_83 : decode cX12_yolks 83 = .ok (.iload_n 1, 1) := by decide +kernel
theorem dX12_yolks_84 : decode cX12_yolks 84 = .ok (.if_icmp .ge 44, 3) := by decide +kernel
theorem dX12_yolks_87 : decode cX12_yolks 87 = .ok (.iload 7, 2) := by decide +kernel
theorem dX12_yolks_89 : decode cX12_yolks 89 = .ok (.aload_n 0, 1) := by decide +kernel
theorem dX12_yolks_90 : decode cX12_yolks 90 = .ok (.getfield 7, 3) := by decide +kernel
theorem dX12_yolks_93 : decode cX12_yolks 93 = .ok (.iconst 0, 1) := by decide +kernel
theorem dX12_yolks_94 : decode cX12_yolks 94 = .ok (.aload_n 0, 1) := by decide +kernel
theorem dX12_yolks_95 : decode cX12_yolks 95 = .ok (.getfield 19, 3) := by decide +kernel
theorem dX12_yolks_98 : decode cX12_yolks 98 = .ok (.iload 8, 2) := by decide +kernel
theorem dX12_yolks_100 : decode cX12_yolks 100 = .ok (.baload, 1) := by decide +kernel
theorem dX12_yolks_101 : decode cX12_yolks 101 = .ok (.iadd, 1) := by decide +kernel
theorem dX12_yolks_102 : decode cX12_yolks 102 = .ok (.iaload, 1) := by decide +kernel
theorem dX12_yolks_103 : decode cX12_yolks 103 = .ok (.iload 6, 2) := by decide +kernel
theorem dX12_yolks_105 : decode cX12_yolks 105 = .ok (.iload 8, 2) := by decide +kernel
theorem dX12_yolks_107 : decode cX12_yolks 107 = .ok (.invokestatic 101, 3) := by decide +kernel
theorem dX12_yolks_110 : decode cX12_yolks 110 = .ok (.ifCond .eq 7, 3) := by decide +kernel
theorem dX12_yolks_113 : decode cX12_yolks 113 = .ok (.iconst 2, 1) := by decide +kernel
theorem dX12_yolks_114 : decode cX12_yolks 114 = .ok (.goto 4, 3) := by decide +kernel
theorem dX12_yolks_117 : decode cX12_yolks 117 = .ok (.iconst 1, 1) := by decide +kernel
theorem dX12_yolks_118 : decode cX12_yolks 118 = .ok (.imul, 1) := by decide +kernel
theorem dX12_yolks_119 : decode cX12_yolks 119 = .ok (.iadd, 1) := by decide +kernel
theorem dX12_yolks_120 : decode cX12_yolks 120 = .ok (.istore 7, 2) := by decide +kernel
theorem dX12_yolks_122 : decode cX12_yolks 122 = .ok (.iinc 8 1, 3) := by decide +kernel
theorem dX12_yolks_125 : decode cX12_yolks 125 = .ok (.goto (-44), 3) := by decide +kernel
theorem dX12_yolks_128 : decode cX12_yolks 128 = .ok (.iload 7, 2) := by decide +kernel
theorem dX12_yolks_130 : decode cX12_yolks 130 = .ok (.iload_n 2, 1) := by decide +kernel
theorem dX12_yolks_131 : decode cX12_yolks 131 = .ok (.if_icmp .eq 6, 3) := by decide +kernel
theorem dX12_yolks_134 : decode cX12_yolks 134 = .ok (.goto 23, 3) := by decide +kernel
theorem dX12_yolks_137 : decode cX12_yolks 137 = .ok (.iload 4, 2) := by decide +kernel
theorem dX12_yolks_139 : decode cX12_yolks 139 = .ok (.ifCond .ne 8, 3) := by decide +kernel
theorem dX12_yolks_142 : decode cX12_yolks 142 = .ok (.iload 6, 2) := by decide +kernel
theorem dX12_yolks_144 : decode cX12_yolks 144 = .ok (.goto 5, 3) := by decide +kernel
theorem dX12_yolks_147 : decode cX12_yolks 147 = .ok (.iload 5, 2) := by decide +kernel
theorem dX12_yolks_149 : decode cX12_yolks 149 = .ok (.istore 5, 2) := by decide +kernel
theorem dX12_yolks_151 : decode cX12_yolks 151 = .ok (.iload 4, 2) := by decide +kernel
theorem dX12_yolks_153 : decode cX12_yolks 153 = .ok (.iconst 1, 1) := by decide +kernel
theorem dX12_yolks_154 : decode cX12_yolks 154 = .ok (.iadd, 1) := by decide +kernel
theorem dX12_yolks_155 : decode cX12_yolks 155 = .ok (.istore 4, 2) := by decide +kernel
theorem dX12_yolks_157 : decode cX12_yolks 157 = .ok (.iinc 6 1, 3) := by decide +kernel
theorem dX12_yolks_160 : decode cX12_yolks 160 = .ok (.goto (-93), 3) := by decide +kernel
theorem dX12_yolks_163 : decode cX12_yolks 163 = .ok (.iload_n 3, 1) := by decide +kernel
theorem dX12_yolks_164 : decode cX12_yolks 164 = .ok (.ifCond .ne 8, 3) := by decide +kernel
theorem dX12_yolks_167 : decode cX12_yolks 167 = .ok (.iload 4, 2) := by decide +kernel
theorem dX12_yolks_169 : decode cX12_yolks 169 = .ok (.goto 5, 3) := by decide +kernel
theorem dX12_yolks_172 : decode cX12_yolks 172 = .ok (.iload 5, 2) := by decide +kernel
theorem dX12_yolks_174 : decode cX12_yolks 174 = .ok (.ireturn, 1) := by decide +kernel
set_option maxRecDepth 20000 in
set_option maxHeartbeats 4000000 in
theorem m_yolks (E : xE) (l : Launch) (a : Nat → Nat) (cd : Cd) (hG : Good cd) (kf : Int32) (jn js jq : Lb) (ws : va_W) (hW : WX (okM E a cd kf jn js jq) ws) (p0 : Int32) (p1 : Int32) (p2 : Int32) : xI E l yX12_yolks cX12_yolks 9 (some .int) 8 [.ref (a 0), .int p0, .int p1, .int p2] ws (fun r w => WX (okM E a cd kf jn js jq) w) := by
  refine xI_start (lv := [(0, .ref (a 0)), (1, .int p0), (2, .int p1), (3, .int p2)]) RX12 (by decide) rfl (Nat.le_of_ble_eq_true rfl) rfl (fun p e s m below meth c A C hr hlk => ?_)
  refine x_iload_n C dX12_yolks_0 rfl 1 rfl rfl ?_
  refine x_iconst C (v := 1) dX12_yolks_1 (by decide) rfl ?_
  refine x_bipush C (v := 10) dX12_yolks_2 (by decide) rfl ?_
  refine x_si C (As := [.int p0, .int 1, .int 10]) (rest := []) (m_in E l a cd hG kf jn js jq ws hW p0 (1 : Int32) (10 : Int32)) mf_X12_in w_1267 rfl rfl (Nat.le_of_ble_eq_true rfl) ⟨(Nat.le_of_ble_eq_true rfl), (Nat.le_of_ble_eq_true rfl)⟩ ⟨(Nat.le_of_ble_eq_true rfl), (Nat.le_of_ble_eq_true rfl)⟩ dX12_yolks_4 rfl (fun r2 w3 h1 => ?_)
  obtain ⟨hW4, zb5, x6⟩ := h1
  refine x_ws hW4 ?_
  refine x_if_eq C (tgt := 38) dX12_yolks_7 (by decide) rfl (fun c7 => ?_) (fun c7 => ?_)
  · skip
    refine x_iconst C (v := (-1)) dX12_yolks_38 (by decide) rfl ?_
    exact x_zret C hr hlk rfl dX12_yolks_39 hW
  · skip
    obtain ⟨j8, hl9, hh10, ej11⟩ := w_nat (a := 1) (b := 10) (by decide) (by decide) (x6 c7)
    subst ej11
    refine x_iload_n C dX12_yolks_10 rfl 2 rfl rfl ?_
    refine x_iconst C (v := 0) dX12_yolks_11 (by decide) rfl ?_
    refine x_sipush C (v := 9999) dX12_yolks_12 (by decide) rfl ?_
    refine x_si C (As := [.int p1, .int 0, .int 9999]) (rest := []) (m_in E l a cd hG kf jn js jq ws hW p1 (0 : Int32) (9999 : Int32)) mf_X12_in w_1267 rfl rfl (Nat.le_of_ble_eq_true rfl) ⟨(Nat.le_of_ble_eq_true rfl), (Nat.le_of_ble_eq_true rfl)⟩ ⟨(Nat.le_of_ble_eq_true rfl), (Nat.le_of_ble_eq_true rfl)⟩ dX12_yolks_15 rfl (fun r13 w14 h12 => ?_)
    obtain ⟨hW15, zb16, x17⟩ := h12
    refine x_ws hW15 ?_
    refine x_if_eq C (tgt := 38) dX12_yolks_18 (by decide) rfl (fun c18 => ?_) (fun c18 => ?_)
    · skip
      refine x_iconst C (v := (-1)) dX12_yolks_38 (by decide) rfl ?_
      exact x_zret C hr hlk rfl dX12_yolks_39 hW
    · skip
      obtain ⟨j19, hl20, hh21, ej22⟩ := w_nat (a := 0) (b := 9999) (by decide) (by decide) (x17 c18)
      subst ej22
      refine x_iload_n C dX12_yolks_21 rfl 3 rfl rfl ?_
      refine x_iconst C (v := 0) dX12_yolks_22 (by decide) rfl ?_
      refine x_iconst C (v := 1) dX12_yolks_23 (by decide) rfl ?_
      refine x_si C (As := [.int p2, .int 0, .int 1]) (rest := []) (m_in E l a cd hG kf jn js jq ws hW p2 (0 : Int32) (1 : Int32)) mf_X12_in w_1267 rfl rfl (Nat.le_of_ble_eq_true rfl) ⟨(Nat.le_of_ble_eq_true rfl), (Nat.le_of_ble_eq_true rfl)⟩ ⟨(Nat.le_of_ble_eq_true rfl), (Nat.le_of_ble_eq_true rfl)⟩ dX12_yolks_24 rfl (fun r24 w25 h23 => ?_)
      obtain ⟨hW26, zb27, x28⟩ := h23
      refine x_ws hW26 ?_
      refine x_if_eq C (tgt := 38) dX12_yolks_27 (by decide) rfl (fun c29 => ?_) (fun c29 => ?_)
      · skip
        refine x_iconst C (v := (-1)) dX12_yolks_38 (by decide) rfl ?_
        exact x_zret C hr hlk rfl dX12_yolks_39 hW
      · skip
        obtain ⟨j30, hl31, hh32, ej33⟩ := w_nat (a := 0) (b := 1) (by decide) (by decide) (x28 c29)
        subst ej33
        refine x_iload_n C dX12_yolks_30 rfl 1 rfl rfl ?_
        refine x_aload_n C dX12_yolks_31 rfl 0 rfl rfl ?_
        obtain ⟨_, k34, n35, n37, n39, v41, v42, v43, n44, n46, n48, n50, v52, v53, v54, v55, n56, n58, bn36, bn38, bn40, bn45, bn47, bn49, bn51, bn57, bn59, rfl⟩ := hW 0 _ rfl
        refine x_get C (ci := 11) (k := 4) 0 k34 rfl in_X12 (by decide) w_1122 rfl dX12_yolks_32 rfl ?_
        refine x_icmp_le C (tgt := 40) dX12_yolks_35 (by decide) rfl (fun c60 => ?_) (fun c60 => ?_)
        · skip
          have nf61 := nI_le' (a := j8) (b := n35) c60 (by omega) (by omega)
          refine x_aload_n C dX12_yolks_40 rfl 0 rfl rfl ?_
          refine x_iconst C (v := 0) dX12_yolks_41 (by decide) rfl ?_
          obtain ⟨w62, hw63⟩ : ∃ w : va_W, w = List.set ws 0 (ob (a 0) 11 [.ref (a 1), .ref (a 2), .ref (a 3), .ref (a 4), .int 0, .int (nI n37), .int (nI n39), .int v41, .int v42, .int v43, .int (nI n44), .int (nI n46), .int (nI n48), .int (nI (cd.2.2.2.2.2)), .ref (a 5), .ref (a 6), .ref (a 7), .ref (a 8), .ref (a 9), .ref (a 10), .ref (a 11), .ref (a 12), .ref (a 13), .ref (a 14), .ref (a 15), .ref (a 16), .ref (a 17), .int (nI n50), .ref (a 18), .ref (a 19), .ref (a 20), .ref (a 21), .int v52, .int v53, .int v54, .int v55, .int (nI n56), .int (nI n58), .ref (a 22), .ref (a 23), .ref (a 24), .ref (a 25), .ref (a 26), .ref (a 27), .ref (a 28), .ref (a 29), .ref (a 30), .int kf]) := ⟨_, rfl⟩
          refine x_put C (ci := 11) (k := 4) (ty := .int) 0 k34 rfl in_X12 tyX12 tyX12_ok nmX12 (by decide) w_1122 rfl rfl rfl rfl (Nat.le_of_ble_eq_true rfl) hw63.symm dX12_yolks_42 rfl ?_
          have hW64 : WX (okM E a cd kf jn js jq) w62 := by rw [hw63]; exact hW.set (k := 0) rfl ⟨0, n37, n39, v41, v42, v43, n44, n46, n48, n50, v52, v53, v54, v55, n56, n58, by omega, by omega, by omega, by omega, by omega, by omega, by omega, by omega, by omega, rfl⟩
          have k65 : w62[0]? = some (ob (a 0) 11 [.ref (a 1), .ref (a 2), .ref (a 3), .ref (a 4), .int 0, .int (nI n37), .int (nI n39), .int v41, .int v42, .int v43, .int (nI n44), .int (nI n46), .int (nI n48), .int (nI (cd.2.2.2.2.2)), .ref (a 5), .ref (a 6), .ref (a 7), .ref (a 8), .ref (a 9), .ref (a 10), .ref (a 11), .ref (a 12), .ref (a 13), .ref (a 14), .ref (a 15), .ref (a 16), .ref (a 17), .int (nI n50), .ref (a 18), .ref (a 19), .ref (a 20), .ref (a 21), .int v52, .int v53, .int v54, .int v55, .int (nI n56), .int (nI n58), .ref (a 22), .ref (a 23), .ref (a 24), .ref (a 25), .ref (a 26), .ref (a 27), .ref (a 28), .ref (a 29), .ref (a 30), .int kf]) := by rw [hw63]; exact set_eq k34
          obtain ⟨_, k66, f67, rfl⟩ := hW64 4 _ rfl
          refine x_aload_n C dX12_yolks_45 rfl 0 rfl rfl ?_
          refine x_iload_n C dX12_yolks_46 rfl 1 rfl rfl ?_
          refine x_iconst C (v := 1) dX12_yolks_47 (by decide) rfl ?_
          refine x_vi C (As := [.int (nI j8), .int 1]) (rest := []) (m_areEggs E l a cd hG kf jn js jq w62 hW64 j8 (1 : Int32) (by omega) f67 k66) mf_X12_areEggs w_1605 0 k65 rfl rfl rfl (Nat.le_of_ble_eq_true rfl) ⟨(Nat.le_of_ble_eq_true rfl), (Nat.le_of_ble_eq_true rfl)⟩ ⟨(Nat.le_of_ble_eq_true rfl), (Nat.le_of_ble_eq_true rfl)⟩ dX12_yolks_48 rfl (fun r69 w70 h68 => ?_)
          obtain ⟨hW71, zb72, x73⟩ := h68
          refine x_ws hW71 ?_
          refine x_if_ne C (tgt := 57) dX12_yolks_51 (by decide) rfl (fun c74 => ?_) (fun c74 => ?_)
          · skip
            have te75 := x73 c74
            refine x_iconst C (v := 0) dX12_yolks_57 (by decide) rfl ?_
            refine x_istore C (lv' := [(4, .int 0), (0, .ref (a 0)), (1, .int (nI j8)), (2, .int (nI j19)), (3, .int (nI j30))]) dX12_yolks_58 (by decide) rfl rfl ?_
            refine x_bipush C (v := (-2)) dX12_yolks_60 (by decide) rfl ?_
            refine x_istore C (lv' := [(5, .int (-2)), (4, .int 0), (0, .ref (a 0)), (1, .int (nI j8)), (2, .int (nI j19)), (3, .int (nI j30))]) dX12_yolks_62 (by decide) rfl rfl ?_
            refine x_iconst C (v := 0) dX12_yolks_64 (by decide) rfl ?_
            refine x_istore C (lv' := [(6, .int 0), (5, .int (-2)), (4, .int 0), (0, .ref (a 0)), (1, .int (nI j8)), (2, .int (nI j19)), (3, .int (nI j30))]) dX12_yolks_65 (by decide) rfl rfl ?_
            have loop67 : ∀ (fu67 : Nat) (z67_4 : Int32) (z67_5 : Int32) (se : Nat), True → 1024 - se < fu67 → se ≤ 1024 → X E p l e (xRm 8 0 0) s m ([.ref (a 0), .int (nI j8), .int (nI j19), .int (nI j30)] : List Value).toArray below meth c A 9 0 0 (MQ below (va_Qi (fun r w => WX (okM E a cd kf jn js jq) w) (xB E A) A) ([.ref (a 0), .int (nI j8), .int (nI j19), .int (nI j30)] : List Value).toArray s 0 0 A) w62 67 [(0, .ref (a 0)), (1, .int (nI j8)), (2, .int (nI j19)), (3, .int (nI j30)), (4, .int z67_4), (5, .int z67_5), (6, .int (nI se))] [] := by
              intro fu67
              induction fu67 with
              | zero => intro z67_4 z67_5 se _ q; omega
              | succ fu67 ih67 =>
                intro z67_4 z67_5 se _ me67 iv67_0
                refine x_iload C dX12_yolks_67 6 rfl rfl ?_
                refine x_iconst C (v := 1) dX12_yolks_69 (by decide) rfl ?_
                refine x_iload_n C dX12_yolks_70 rfl 1 rfl rfl ?_
                obtain ⟨z76, hz77, ez78⟩ := shm_low (n := j8) (by omega)
                refine x_ishl C (v := (nI z76)) dX12_yolks_71 ez78 rfl ?_
                refine x_icmp_ge C (tgt := 163) dX12_yolks_72 (by decide) rfl (fun c79 => ?_) (fun c79 => ?_)
                · skip
                  have nf80 := nI_le' (a := z76) (b := se) c79 (by omega) (by omega)
                  refine x_iload_n C dX12_yolks_163 rfl 3 rfl rfl ?_
                  refine x_if_ne C (tgt := 172) dX12_yolks_164 (by decide) rfl (fun c81 => ?_) (fun c81 => ?_)
                  · skip
                    have nf82 : ¬ j30 = 0 := fun q => c81 (congrArg nI q)
                    refine x_iload C dX12_yolks_172 5 rfl rfl ?_
                    exact x_zret C hr hlk rfl dX12_yolks_174 hW64
                  · skip
                    have nf83 : j30 = 0 := (nI_eq (by omega) (by omega)).mp c81
                    refine x_iload C dX12_yolks_167 4 rfl rfl ?_
                    refine x_goto C (tgt := 174) dX12_yolks_169 (by decide) ?_
                    exact x_zret C hr hlk rfl dX12_yolks_174 hW64
                · skip
                  have nf84 := nI_nle' (a := z76) (b := se) c79 (by omega) (by omega)
                  refine x_iconst C (v := 0) dX12_yolks_75 (by decide) rfl ?_
                  refine x_istore C (lv' := [(7, .int 0), (0, .ref (a 0)), (1, .int (nI j8)), (2, .int (nI j19)), (3, .int (nI j30)), (4, .int z67_4), (5, .int z67_5), (6, .int (nI se))]) dX12_yolks_76 (by decide) rfl rfl ?_
                  refine x_iconst C (v := 0) dX12_yolks_78 (by decide) rfl ?_
                  refine x_istore C (lv' := [(8, .int 0), (7, .int 0), (0, .ref (a 0)), (1, .int (nI j8)), (2, .int (nI j19)), (3, .int (nI j30)), (4, .int z67_4), (5, .int z67_5), (6, .int (nI se))]) dX12_yolks_79 (by decide) rfl rfl ?_
                  have loop81 : ∀ (fu81 : Nat) (z81_7 : Int32) (k : Nat), True → 10 - k < fu81 → k ≤ 10 → X E p l e (xRm 8 0 0) s m ([.ref (a 0), .int (nI j8), .int (nI j19), .int (nI j30)] : List Value).toArray below meth c A 9 0 0 (MQ below (va_Qi (fun r w => WX (okM E a cd kf jn js jq) w) (xB E A) A) ([.ref (a 0), .int (nI j8), .int (nI j19), .int (nI j30)] : List Value).toArray s 0 0 A) w62 81 [(0, .ref (a 0)), (1, .int (nI j8)), (2, .int (nI j19)), (3, .int (nI j30)), (4, .int z67_4), (5, .int z67_5), (6, .int (nI se)), (7, .int z81_7), (8, .int (nI k))] [] := by
                    intro fu81
                    induction fu81 with
                    | zero => intro z81_7 k _ q; omega
                    | succ fu81 ih81 =>
                      intro z81_7 k _ me81 iv81_0
                      refine x_iload C dX12_yolks_81 8 rfl rfl ?_
                      refine x_iload_n C dX12_yolks_83 rfl 1 rfl rfl ?_
                      refine x_icmp_ge C (tgt := 128) dX12_yolks_84 (by decide) rfl (fun c85 => ?_) (fun c85 => ?_)
                      · skip
                        have nf86 := nI_le' (a := j8) (b := k) c85 (by omega) (by omega)
                        refine x_iload C dX12_yolks_128 7 rfl rfl ?_
                        refine x_iload_n C dX12_yolks_130 rfl 2 rfl rfl ?_
                        refine x_icmp_eq C (tgt := 137) dX12_yolks_131 (by decide) rfl (fun c87 => ?_) (fun c87 => ?_)
                        · skip
                          refine x_iload C dX12_yolks_137 4 rfl rfl ?_
                          refine x_if_ne C (tgt := 147) dX12_yolks_139 (by decide) rfl (fun c88 => ?_) (fun c88 => ?_)
                          · skip
                            refine x_iload C dX12_yolks_147 5 rfl rfl ?_
                            refine x_istore C (lv' := [(5, .int z67_5), (0, .ref (a 0)), (1, .int (nI j8)), (2, .int (nI j19)), (3, .int (nI j30)), (4, .int z67_4), (6, .int (nI se)), (7, .int z81_7), (8, .int (nI k))]) dX12_yolks_149 (by decide) rfl rfl ?_
                            refine x_iload C dX12_yolks_151 5 rfl rfl ?_
                            refine x_iconst C (v := 1) dX12_yolks_153 (by decide) rfl ?_
                            refine x_iadd C (v := (z67_4 + (1 : Int32))) dX12_yolks_154 rfl rfl ?_
                            refine x_any (fun v89 => ?_)
                            refine x_istore C (lv' := [(4, .int v89), (5, .int z67_5), (0, .ref (a 0)), (1, .int (nI j8)), (2, .int (nI j19)), (3, .int (nI j30)), (6, .int (nI se)), (7, .int z81_7), (8, .int (nI k))]) dX12_yolks_155 (by decide) rfl rfl ?_
                            refine x_iinc C (v := (nI (se + 1))) (lv' := [(6, .int (nI (se + 1))), (4, .int v89), (5, .int z67_5), (0, .ref (a 0)), (1, .int (nI j8)), (2, .int (nI j19)), (3, .int (nI j30)), (7, .int z81_7), (8, .int (nI k))]) dX12_yolks_157 6 rfl (nI_add se 1) (by decide) rfl rfl ?_
                            refine x_goto C (tgt := 67) dX12_yolks_160 (by decide) ?_
                            refine x_lv (lv1 := [(0, .ref (a 0)), (1, .int (nI j8)), (2, .int (nI j19)), (3, .int (nI j30)), (4, .int v89), (5, .int z67_5), (6, .int (nI (se + 1)))]) [3, 4, 5, 6, 1, 2, 0] rfl ?_
                            exact ih67 v89 z67_5 (se + 1) trivial (by omega) (by omega)
                          · skip
                            refine x_iload C dX12_yolks_142 6 rfl rfl ?_
                            refine x_goto C (tgt := 149) dX12_yolks_144 (by decide) ?_
                            refine x_istore C (lv' := [(5, .int (nI se)), (0, .ref (a 0)), (1, .int (nI j8)), (2, .int (nI j19)), (3, .int (nI j30)), (4, .int z67_4), (6, .int (nI se)), (7, .int z81_7), (8, .int (nI k))]) dX12_yolks_149 (by decide) rfl rfl ?_
                            refine x_iload C dX12_yolks_151 5 rfl rfl ?_
                            refine x_iconst C (v := 1) dX12_yolks_153 (by decide) rfl ?_
                            refine x_iadd C (v := (z67_4 + (1 : Int32))) dX12_yolks_154 rfl rfl ?_
                            refine x_any (fun v90 => ?_)
                            refine x_istore C (lv' := [(4, .int v90), (5, .int (nI se)), (0, .ref (a 0)), (1, .int (nI j8)), (2, .int (nI j19)), (3, .int (nI j30)), (6, .int (nI se)), (7, .int z81_7), (8, .int (nI k))]) dX12_yolks_155 (by decide) rfl rfl ?_
                            refine x_iinc C (v := (nI (se + 1))) (lv' := [(6, .int (nI (se + 1))), (4, .int v90), (5, .int (nI se)), (0, .ref (a 0)), (1, .int (nI j8)), (2, .int (nI j19)), (3, .int (nI j30)), (7, .int z81_7), (8, .int (nI k))]) dX12_yolks_157 6 rfl (nI_add se 1) (by decide) rfl rfl ?_
                            refine x_goto C (tgt := 67) dX12_yolks_160 (by decide) ?_
                            refine x_lv (lv1 := [(0, .ref (a 0)), (1, .int (nI j8)), (2, .int (nI j19)), (3, .int (nI j30)), (4, .int v90), (5, .int (nI se)), (6, .int (nI (se + 1)))]) [3, 4, 5, 6, 1, 2, 0] rfl ?_
                            exact ih67 v90 ((nI se)) (se + 1) trivial (by omega) (by omega)
                        · skip
                          refine x_goto C (tgt := 157) dX12_yolks_134 (by decide) ?_
                          refine x_iinc C (v := (nI (se + 1))) (lv' := [(6, .int (nI (se + 1))), (0, .ref (a 0)), (1, .int (nI j8)), (2, .int (nI j19)), (3, .int (nI j30)), (4, .int z67_4), (5, .int z67_5), (7, .int z81_7), (8, .int (nI k))]) dX12_yolks_157 6 rfl (nI_add se 1) (by decide) rfl rfl ?_
                          refine x_goto C (tgt := 67) dX12_yolks_160 (by decide) ?_
                          refine x_lv (lv1 := [(0, .ref (a 0)), (1, .int (nI j8)), (2, .int (nI j19)), (3, .int (nI j30)), (4, .int z67_4), (5, .int z67_5), (6, .int (nI (se + 1)))]) [1, 2, 3, 4, 5, 6, 0] rfl ?_
                          exact ih67 z67_4 z67_5 (se + 1) trivial (by omega) (by omega)
                      · skip
                        have nf91 := nI_nle' (a := j8) (b := k) c85 (by omega) (by omega)
                        refine x_iload C dX12_yolks_87 7 rfl rfl ?_
                        refine x_aload_n C dX12_yolks_89 rfl 0 rfl rfl ?_
                        refine x_get C (ci := 11) (k := 0) 0 k65 rfl in_X12 (by decide) w_1118 rfl dX12_yolks_90 rfl ?_
                        refine x_iconst C (v := 0) dX12_yolks_93 (by decide) rfl ?_
                        refine x_aload_n C dX12_yolks_94 rfl 0 rfl rfl ?_
                        refine x_get C (ci := 11) (k := 3) 0 k65 rfl in_X12 (by decide) w_1121 rfl dX12_yolks_95 rfl ?_
                        refine x_iload C dX12_yolks_98 8 rfl rfl ?_
                        refine x_bald C (v := (f67 (nI k).toNatClampNeg)) 4 k66 (vp_in_nI (by omega) (by decide)) rfl dX12_yolks_100 rfl ?_
                        obtain ⟨i92, hi93, ei94⟩ := te75 k (by omega)
                        refine x_top (show (f67 (nI k).toNatClampNeg) = nI i92 from by rw [nI_clamp (by omega)]; exact ei94) ?_
                        refine x_iadd C (v := (nI (0 + i92))) dX12_yolks_101 (nI_add 0 i92) rfl ?_
                        obtain ⟨_, k95, f96, pf97, rfl⟩ := hW64 1 _ rfl
                        refine x_iald C (v := (f96 (nI (0 + i92)).toNatClampNeg)) 1 k95 (vp_in_nI (by omega) (by decide)) rfl dX12_yolks_102 rfl ?_
                        refine x_any (fun v98 => ?_)
                        refine x_iload C dX12_yolks_103 6 rfl rfl ?_
                        refine x_iload C dX12_yolks_105 8 rfl rfl ?_
                        refine x_si C (As := [.int (nI se), .int (nI k)]) (rest := [.int v98, .int z81_7]) (m_has E l a cd hG kf jn js jq w62 hW64 ((nI se)) ((nI k))) mf_X12_has w_1274 rfl rfl (Nat.le_of_ble_eq_true rfl) ⟨(Nat.le_of_ble_eq_true rfl), (Nat.le_of_ble_eq_true rfl)⟩ ⟨(Nat.le_of_ble_eq_true rfl), (Nat.le_of_ble_eq_true rfl)⟩ dX12_yolks_107 rfl (fun r100 w101 h99 => ?_)
                        obtain ⟨hW102, zb103, x104⟩ := h99
                        refine x_ws hW102 ?_
                        refine x_if_eq C (tgt := 117) dX12_yolks_110 (by decide) rfl (fun c105 => ?_) (fun c105 => ?_)
                        · skip
                          refine x_iconst C (v := 1) dX12_yolks_117 (by decide) rfl ?_
                          refine x_imul C (v := (v98 * (1 : Int32))) dX12_yolks_118 rfl rfl ?_
                          refine x_any (fun v106 => ?_)
                          refine x_iadd C (v := (z81_7 + v106)) dX12_yolks_119 rfl rfl ?_
                          refine x_any (fun v107 => ?_)
                          refine x_istore C (lv' := [(7, .int v107), (0, .ref (a 0)), (1, .int (nI j8)), (2, .int (nI j19)), (3, .int (nI j30)), (4, .int z67_4), (5, .int z67_5), (6, .int (nI se)), (8, .int (nI k))]) dX12_yolks_120 (by decide) rfl rfl ?_
                          refine x_iinc C (v := (nI (k + 1))) (lv' := [(8, .int (nI (k + 1))), (7, .int v107), (0, .ref (a 0)), (1, .int (nI j8)), (2, .int (nI j19)), (3, .int (nI j30)), (4, .int z67_4), (5, .int z67_5), (6, .int (nI se))]) dX12_yolks_122 8 rfl (nI_add k 1) (by decide) rfl rfl ?_
                          refine x_goto C (tgt := 81) dX12_yolks_125 (by decide) ?_
                          refine x_lv (lv1 := [(0, .ref (a 0)), (1, .int (nI j8)), (2, .int (nI j19)), (3, .int (nI j30)), (4, .int z67_4), (5, .int z67_5), (6, .int (nI se)), (7, .int v107), (8, .int (nI (k + 1)))]) [2, 3, 4, 5, 6, 7, 8, 1, 0] rfl ?_
                          exact ih81 v107 (k + 1) trivial (by omega) (by omega)
                        · skip
                          refine x_iconst C (v := 2) dX12_yolks_113 (by decide) rfl ?_
                          refine x_goto C (tgt := 118) dX12_yolks_114 (by decide) ?_
                          refine x_imul C (v := (v98 * (2 : Int32))) dX12_yolks_118 rfl rfl ?_
                          refine x_any (fun v108 => ?_)
                          refine x_iadd C (v := (z81_7 + v108)) dX12_yolks_119 rfl rfl ?_
                          refine x_any (fun v109 => ?_)
                          refine x_istore C (lv' := [(7, .int v109), (0, .ref (a 0)), (1, .int (nI j8)), (2, .int (nI j19)), (3, .int (nI j30)), (4, .int z67_4), (5, .int z67_5), (6, .int (nI se)), (8, .int (nI k))]) dX12_yolks_120 (by decide) rfl rfl ?_
                          refine x_iinc C (v := (nI (k + 1))) (lv' := [(8, .int (nI (k + 1))), (7, .int v109), (0, .ref (a 0)), (1, .int (nI j8)), (2, .int (nI j19)), (3, .int (nI j30)), (4, .int z67_4), (5, .int z67_5), (6, .int (nI se))]) dX12_yolks_122 8 rfl (nI_add k 1) (by decide) rfl rfl ?_
                          refine x_goto C (tgt := 81) dX12_yolks_125 (by decide) ?_
                          refine x_lv (lv1 := [(0, .ref (a 0)), (1, .int (nI j8)), (2, .int (nI j19)), (3, .int (nI j30)), (4, .int z67_4), (5, .int z67_5), (6, .int (nI se)), (7, .int v109), (8, .int (nI (k + 1)))]) [2, 3, 4, 5, 6, 7, 8, 1, 0] rfl ?_
                          exact ih81 v109 (k + 1) trivial (by omega) (by omega)
                  refine x_lv (lv1 := [(0, .ref (a 0)), (1, .int (nI j8)), (2, .int (nI j19)), (3, .int (nI j30)), (4, .int z67_4), (5, .int z67_5), (6, .int (nI se)), (7, .int 0), (8, .int 0)]) [2, 3, 4, 5, 6, 7, 8, 1, 0] rfl ?_
                  exact loop81 _ (0 : Int32) 0 trivial (Nat.lt_succ_self _) (by omega)
            refine x_lv (lv1 := [(0, .ref (a 0)), (1, .int (nI j8)), (2, .int (nI j19)), (3, .int (nI j30)), (4, .int 0), (5, .int (-2)), (6, .int 0)]) [3, 4, 5, 6, 2, 1, 0] rfl ?_
            exact loop67 _ (0 : Int32) ((-2) : Int32) 0 trivial (Nat.lt_succ_self _) (by omega)
          · skip
            refine x_bipush C (v := (-3)) dX12_yolks_54 (by decide) rfl ?_
            exact x_zret C hr hlk rfl dX12_yolks_56 hW64
        · skip
          have nf110 := nI_nle' (a := j8) (b := n35) c60 (by omega) (by omega)
          refine x_iconst C (v := (-1)) dX12_yolks_38 (by decide) rfl ?_
          exact x_zret C hr hlk rfl dX12_yolks_39 hW
theorem dX12_thefts_0 : decode cX12_thefts 0 = .ok (.aload_n 0, 1) := by decide +kernel
theorem dX12_thefts_1 : decode cX12_thefts 1 = .ok (.iload_n 1, 1) := by decide +kernel
theorem dX12_thefts_2 : decode cX12_thefts 2 = .ok (.invokevirtual 113, 3) := by decide +kernel
theorem dX12_thefts_5 : decode cX12_thefts 5 = .ok (.ifCond .eq 9, 3) := by decide +kernel
theorem dX12_thefts_8 : decode cX12_thefts 8 = .ok (.aload_n 0, 1) := by decide +kernel
theorem dX12_thefts_9 : decode cX12_thefts 9 = .ok (.iload_n 1, 1) := by decide +kernel
theorem dX12_thefts_10 : decode cX12_thefts 10 = .ok (.invokevirtual 389, 3) := by decide +kernel
theorem dX12_thefts_13 : decode cX12_thefts 13 = .ok (.ireturn, 1) := by decide +kernel
theorem dX12_thefts_14 : decode cX12_thefts 14 = .ok (.iload_n 1, 1) := by decide +kernel
theorem dX12_thefts_15 : decode cX12_thefts 15 = .ok (.bipush 10, 2) := by decide +kernel
theorem dX12_thefts_17 : decode cX12_thefts 17 = .ok (.bipush 11, 2) := by decide +kernel
theorem dX12_thefts_19 : decode cX12_thefts 19 = .ok (.invokestatic 109, 3) := by decide +kernel
theorem dX12_thefts_22 : decode cX12_thefts 22 = .ok (.ifCond .ne 7, 3) := by decide +kernel
theorem dX12_thefts_25 : decode cX12_thefts 25 = .ok (.ldc_w 392, 3) := by decide +kernel
theorem dX12_thefts_28 : decode cX12_thefts 28 = .ok (.ireturn, 1) := by decide +kernel
theorem dX12_thefts_29 : decode cX12_thefts 29 = .ok (.bipush (-2), 2) := by decide +kernel
theorem dX12_thefts_31 : decode cX12_thefts 31 = .ok (.istore_n 2, 1) := by decide +kernel
theorem dX12_thefts_32 : decode cX12_thefts 32 = .ok (.iconst 0, 1) := by decide +kernel
theorem dX12_thefts_33 : decode cX12_thefts 33 = .ok (.istore_n 3, 1) := by decide +kernel
theorem dX12_thefts_34 : decode cX12_thefts 34 = .ok (.iconst 0, 1) := by decide +kernel
theorem dX12_thefts_35 : decode cX12_thefts 35 = .ok (.istore 4, 2) := by decide +kernel
theorem dX12_thefts_37 : decode cX12_thefts 37 = .ok (.iload 4, 2) := by decide +kernel
theorem dX12_thefts_39 : decode cX12_thefts 39 = .ok (.bipush 8, 2) := by decide +kernel
theorem dX12_thefts_41 : decode cX12_thefts 41 = .ok (.if_icmp .ge 57, 3) := by decide +kernel
theorem dX12_thefts_44 : decode cX12_thefts 44 = .ok (.aload_n 0, 1) := by decide +kernel
theorem dX12_thefts_45 : decode cX12_thefts 45 = .ok (.iload 4, 2) := by decide +kernel
theorem dX12_thefts_47 : decode cX12_thefts 47 = .ok (.invokevirtual 113, 3) := by decide +kernel
theorem dX12_thefts_50 : decode cX12_thefts 50 = .ok (.ifCond .eq 42, 3) := by decide +kernel
theorem dX12_thefts_53 : decode cX12_thefts 53 = .ok (.aload_n 0, 1) := by decide +kernel
theorem dX12_thefts_54 : decode cX12_thefts 54 = .ok (.iload 4, 2) := by decide +kernel
theorem dX12_thefts_56 : decode cX12_thefts 56 = .ok (.invokevirtual 389, 3) := by decide +kernel
theorem dX12_thefts_59 : decode cX12_thefts 59 = .ok (.ifCond .gt 6, 3) := by decide +kernel
theorem dX12_thefts_62 : decode cX12_thefts 62 = .ok (.goto 30, 3) := by decide +kernel
theorem dX12_thefts_65 : decode cX12_thefts 65 = .ok (.iload_n 3, 1) := by decide +kernel
theorem dX12_thefts_66 : decode cX12_thefts 66 = .ok (.iconst 1, 1) := by decide +kernel
theorem dX12_thefts_67 : decode cX12_thefts 67 = .ok (.iadd, 1) := by decide +kernel
theorem dX12_thefts_68 : decode cX12_thefts 68 = .ok (.istore_n 3, 1) := by decide +kernel
theorem dX12_thefts_69 : decode cX12_thefts 69 = .ok (.iload_n 2, 1) := by decide +kernel
theorem dX12_thefts_70 : decode cX12_thefts 70 = .ok (.bipush (-2), 2) := by decide +kernel
theorem dX12_thefts_72 : decode cX12_thefts 72 = .ok (.if_icmp .eq 17, 3) := by decide +kernel
theorem dX12_thefts_75 : decode cX12_thefts 75 = .ok (.aload_n 0, 1) := by decide +kernel
theorem dX12_thefts_76 : decode cX12_thefts 76 = .ok (.iload 4, 2) := by decide +kernel
theorem dX12_thefts_78 : decode cX12_thefts 78 = .ok (.invokevirtual 389, 3) := by decide +kernel
theorem dX12_thefts_81 : decode cX12_thefts 81 = .ok (.aload_n 0, 1) := by decide +kernel
theorem dX12_thefts_82 : decode cX12_thefts 82 = .ok (.iload_n 2, 1) := by decide +kernel
theorem dX12_thefts_83 : decode cX12_thefts 83 = .ok (.invokevirtual 389, 3) := by decide +kernel
theorem dX12_thefts_86 : decode cX12_thefts 86 = .ok (.if_icmp .le 6, 3) := by decide +kernel
theorem dX12_thefts_89 : decode cX12_thefts 89 = .ok (.iload 4, 2) := by decide +kernel
theorem dX12_thefts_91 : decode cX12_thefts 91 = .ok (.istore_n 2, 1) := by decide +kernel
theorem dX12_thefts_92 : decode cX12_thefts 92 = .ok (.iinc 4 1, 3) := by decide +kernel
theorem dX12_thefts_95 : decode cX12_thefts 95 = .ok (.goto (-58), 3) := by decide +kernel
theorem dX12_thefts_98 : decode cX12_thefts 98 = .ok (.iload_n 1, 1) := by decide +kernel
theorem dX12_thefts_99 : decode cX12_thefts 99 = .ok (.bipush 10, 2) := by decide +kernel
theorem dX12_thefts_101 : decode cX12_thefts 101 = .ok (.if_icmp .ne 7, 3) := by decide +kernel
theorem dX12_thefts_104 : decode cX12_thefts 104 = .ok (.iload_n 2, 1) := by decide +kernel
theorem dX12_thefts_105 : decode cX12_thefts 105 = .ok (.goto 4, 3) := by decide +kernel
theorem dX12_thefts_108 : decode cX12_thefts 108 = .ok (.iload_n 3, 1) := by decide +kernel
theorem dX12_thefts_109 : decode cX12_thefts 109 = .ok (.ireturn, 1) := by decide +kernel
set_option maxRecDepth 20000 in
set_option maxHeartbeats 4000000 in
theorem m_thefts (E : xE) (l : Launch) (a : Nat → Nat) (cd : Cd) (hG : Good cd) (kf : Int32) (jn js jq : Lb) (ws : va_W) (hW : WX (okM E a cd kf jn js jq) ws) (p0 : Int32) : xI E l yX12_thefts cX12_thefts 5 (some .int) 8 [.ref (a 0), .int p0] ws (fun r w => WX (okM E a cd kf jn js jq) w) := by
  refine xI_start (lv := [(0, .ref (a 0)), (1, .int p0)]) RX12 (by decide) rfl (Nat.le_of_ble_eq_true rfl) rfl (fun p e s m below meth c A C hr hlk => ?_)
  refine x_aload_n C dX12_thefts_0 rfl 0 rfl rfl ?_
  refine x_iload_n C dX12_thefts_1 rfl 1 rfl rfl ?_
  obtain ⟨_, k1, n2, n4, n6, v8, v9, v10, n11, n13, n15, n17, v19, v20, v21, v22, n23, n25, bn3, bn5, bn7, bn12, bn14, bn16, bn18, bn24, bn26, rfl⟩ := hW 0 _ rfl
  refine x_vi C (As := [.int p0]) (rest := []) (m_isPerson E l a cd hG kf jn js jq ws hW p0) mf_X12_isPerson w_1270 0 k1 rfl rfl rfl (Nat.le_of_ble_eq_true rfl) ⟨(Nat.le_of_ble_eq_true rfl), (Nat.le_of_ble_eq_true rfl)⟩ ⟨(Nat.le_of_ble_eq_true rfl), (Nat.le_of_ble_eq_true rfl)⟩ dX12_thefts_2 rfl (fun r28 w29 h27 => ?_)
  obtain ⟨hW30, zb31, x32⟩ := h27
  refine x_ws hW30 ?_
  refine x_if_eq C (tgt := 14) dX12_thefts_5 (by decide) rfl (fun c33 => ?_) (fun c33 => ?_)
  · skip
    refine x_iload_n C dX12_thefts_14 rfl 1 rfl rfl ?_
    refine x_bipush C (v := 10) dX12_thefts_15 (by decide) rfl ?_
    refine x_bipush C (v := 11) dX12_thefts_17 (by decide) rfl ?_
    refine x_si C (As := [.int p0, .int 10, .int 11]) (rest := []) (m_in E l a cd hG kf jn js jq ws hW p0 (10 : Int32) (11 : Int32)) mf_X12_in w_1267 rfl rfl (Nat.le_of_ble_eq_true rfl) ⟨(Nat.le_of_ble_eq_true rfl), (Nat.le_of_ble_eq_true rfl)⟩ ⟨(Nat.le_of_ble_eq_true rfl), (Nat.le_of_ble_eq_true rfl)⟩ dX12_thefts_19 rfl (fun r35 w36 h34 => ?_)
    obtain ⟨hW37, zb38, x39⟩ := h34
    refine x_ws hW37 ?_
    refine x_if_ne C (tgt := 29) dX12_thefts_22 (by decide) rfl (fun c40 => ?_) (fun c40 => ?_)
    · skip
      obtain ⟨j41, hl42, hh43, ej44⟩ := w_nat (a := 10) (b := 11) (by decide) (by decide) (x39 c40)
      subst ej44
      refine x_bipush C (v := (-2)) dX12_thefts_29 (by decide) rfl ?_
      refine x_istore_n C (lv' := [(2, .int (-2)), (0, .ref (a 0)), (1, .int (nI j41))]) dX12_thefts_31 rfl (by decide) rfl rfl ?_
      refine x_iconst C (v := 0) dX12_thefts_32 (by decide) rfl ?_
      refine x_istore_n C (lv' := [(3, .int 0), (2, .int (-2)), (0, .ref (a 0)), (1, .int (nI j41))]) dX12_thefts_33 rfl (by decide) rfl rfl ?_
      refine x_iconst C (v := 0) dX12_thefts_34 (by decide) rfl ?_
      refine x_istore C (lv' := [(4, .int 0), (3, .int 0), (2, .int (-2)), (0, .ref (a 0)), (1, .int (nI j41))]) dX12_thefts_35 (by decide) rfl rfl ?_
      have loop37 : ∀ (fu37 : Nat) (z37_2 : Int32) (z37_3 : Int32) (pp : Nat), True → 8 - pp < fu37 → pp ≤ 8 → (z37_2 = -2 ∨ ∃ i : Nat, i ≤ 7 ∧ z37_2 = nI i) → X E p l e (xRm 8 0 0) s m ([.ref (a 0), .int (nI j41)] : List Value).toArray below meth c A 5 0 0 (MQ below (va_Qi (fun r w => WX (okM E a cd kf jn js jq) w) (xB E A) A) ([.ref (a 0), .int (nI j41)] : List Value).toArray s 0 0 A) ws 37 [(0, .ref (a 0)), (1, .int (nI j41)), (2, .int z37_2), (3, .int z37_3), (4, .int (nI pp))] [] := by
        intro fu37
        induction fu37 with
        | zero => intro z37_2 z37_3 pp _ q; omega
        | succ fu37 ih37 =>
          intro z37_2 z37_3 pp _ me37 iv37_0 iv37_1
          refine x_iload C dX12_thefts_37 4 rfl rfl ?_
          refine x_bipush C (v := 8) dX12_thefts_39 (by decide) rfl ?_
          refine x_icmp_ge C (tgt := 98) dX12_thefts_41 (by decide) rfl (fun c45 => ?_) (fun c45 => ?_)
          · skip
            have nf46 := nI_le' (a := 8) (b := pp) c45 (by omega) (by omega)
            refine x_iload_n C dX12_thefts_98 rfl 1 rfl rfl ?_
            refine x_bipush C (v := 10) dX12_thefts_99 (by decide) rfl ?_
            refine x_icmp_ne C (tgt := 108) dX12_thefts_101 (by decide) rfl (fun c47 => ?_) (fun c47 => ?_)
            · skip
              have nf48 : ¬ j41 = 10 := fun q => c47 (congrArg nI q)
              refine x_iload_n C dX12_thefts_108 rfl 3 rfl rfl ?_
              exact x_zret C hr hlk rfl dX12_thefts_109 hW
            · skip
              have nf49 : j41 = 10 := (nI_eq (by omega) (by omega)).mp c47
              refine x_iload_n C dX12_thefts_104 rfl 2 rfl rfl ?_
              refine x_goto C (tgt := 109) dX12_thefts_105 (by decide) ?_
              exact x_zret C hr hlk rfl dX12_thefts_109 hW
          · skip
            have nf50 := nI_nle' (a := 8) (b := pp) c45 (by omega) (by omega)
            refine x_aload_n C dX12_thefts_44 rfl 0 rfl rfl ?_
            refine x_iload C dX12_thefts_45 4 rfl rfl ?_
            refine x_vi C (As := [.int (nI pp)]) (rest := []) (m_isPerson E l a cd hG kf jn js jq ws hW ((nI pp))) mf_X12_isPerson w_1270 0 k1 rfl rfl rfl (Nat.le_of_ble_eq_true rfl) ⟨(Nat.le_of_ble_eq_true rfl), (Nat.le_of_ble_eq_true rfl)⟩ ⟨(Nat.le_of_ble_eq_true rfl), (Nat.le_of_ble_eq_true rfl)⟩ dX12_thefts_47 rfl (fun r52 w53 h51 => ?_)
            obtain ⟨hW54, zb55, x56⟩ := h51
            refine x_ws hW54 ?_
            refine x_if_eq C (tgt := 92) dX12_thefts_50 (by decide) rfl (fun c57 => ?_) (fun c57 => ?_)
            · skip
              refine x_iinc C (v := (nI (pp + 1))) (lv' := [(4, .int (nI (pp + 1))), (0, .ref (a 0)), (1, .int (nI j41)), (2, .int z37_2), (3, .int z37_3)]) dX12_thefts_92 4 rfl (nI_add pp 1) (by decide) rfl rfl ?_
              refine x_goto C (tgt := 37) dX12_thefts_95 (by decide) ?_
              refine x_lv (lv1 := [(0, .ref (a 0)), (1, .int (nI j41)), (2, .int z37_2), (3, .int z37_3), (4, .int (nI (pp + 1)))]) [1, 2, 3, 4, 0] rfl ?_
              exact ih37 z37_2 z37_3 (pp + 1) trivial (by omega) (by omega) iv37_1
            · skip
              have wi58 := wth_le (a := 0) (b := 7) (j := pp) (x56 c57) (by omega) (by decide) (by decide)
              refine x_aload_n C dX12_thefts_53 rfl 0 rfl rfl ?_
              refine x_iload C dX12_thefts_54 4 rfl rfl ?_
              refine x_vi C (As := [.int (nI pp)]) (rest := []) (m_moreOf E l a cd hG kf jn js jq ws hW pp (by omega)) mf_X12_moreOf w_1633 0 k1 rfl rfl rfl (Nat.le_of_ble_eq_true rfl) ⟨(Nat.le_of_ble_eq_true rfl), (Nat.le_of_ble_eq_true rfl)⟩ ⟨(Nat.le_of_ble_eq_true rfl), (Nat.le_of_ble_eq_true rfl)⟩ dX12_thefts_56 rfl (fun r60 w61 h59 => ?_)
              have hW62 := h59
              refine x_ws hW62 ?_
              refine x_if_gt C (tgt := 65) dX12_thefts_59 (by decide) rfl (fun c63 => ?_) (fun c63 => ?_)
              · skip
                obtain ⟨j64, hj65, ej66⟩ := nI_of (Int32.not_lt.mpr (Int32.le_of_lt c63))
                subst ej66
                refine x_iload_n C dX12_thefts_65 rfl 3 rfl rfl ?_
                refine x_iconst C (v := 1) dX12_thefts_66 (by decide) rfl ?_
                refine x_iadd C (v := (z37_3 + (1 : Int32))) dX12_thefts_67 rfl rfl ?_
                refine x_any (fun v67 => ?_)
                refine x_istore_n C (lv' := [(3, .int v67), (0, .ref (a 0)), (1, .int (nI j41)), (2, .int z37_2), (4, .int (nI pp))]) dX12_thefts_68 rfl (by decide) rfl rfl ?_
                refine x_iload_n C dX12_thefts_69 rfl 3 rfl rfl ?_
                refine x_bipush C (v := (-2)) dX12_thefts_70 (by decide) rfl ?_
                refine x_icmp_eq C (tgt := 89) dX12_thefts_72 (by decide) rfl (fun c68 => ?_) (fun c68 => ?_)
                · skip
                  refine x_iload C dX12_thefts_89 4 rfl rfl ?_
                  refine x_istore_n C (lv' := [(2, .int (nI pp)), (3, .int v67), (0, .ref (a 0)), (1, .int (nI j41)), (4, .int (nI pp))]) dX12_thefts_91 rfl (by decide) rfl rfl ?_
                  refine x_iinc C (v := (nI (pp + 1))) (lv' := [(4, .int (nI (pp + 1))), (2, .int (nI pp)), (3, .int v67), (0, .ref (a 0)), (1, .int (nI j41))]) dX12_thefts_92 4 rfl (nI_add pp 1) (by decide) rfl rfl ?_
                  refine x_goto C (tgt := 37) dX12_thefts_95 (by decide) ?_
                  refine x_lv (lv1 := [(0, .ref (a 0)), (1, .int (nI j41)), (2, .int (nI pp)), (3, .int v67), (4, .int (nI (pp + 1)))]) [3, 4, 1, 2, 0] rfl ?_
                  exact ih37 ((nI pp)) v67 (pp + 1) trivial (by omega) (by omega) (Or.inr ⟨pp, by omega, rfl⟩)
                · skip
                  refine x_aload_n C dX12_thefts_75 rfl 1 rfl rfl ?_
                  refine x_iload C dX12_thefts_76 4 rfl rfl ?_
                  refine x_vi C (As := [.int (nI pp)]) (rest := []) (m_moreOf E l a cd hG kf jn js jq ws hW pp (by omega)) mf_X12_moreOf w_1633 0 k1 rfl rfl rfl (Nat.le_of_ble_eq_true rfl) ⟨(Nat.le_of_ble_eq_true rfl), (Nat.le_of_ble_eq_true rfl)⟩ ⟨(Nat.le_of_ble_eq_true rfl), (Nat.le_of_ble_eq_true rfl)⟩ dX12_thefts_78 rfl (fun r70 w71 h69 => ?_)
                  have hW72 := h69
                  refine x_ws hW72 ?_
                  refine x_aload_n C dX12_thefts_81 rfl 1 rfl rfl ?_
                  refine x_iload_n C dX12_thefts_82 rfl 3 rfl rfl ?_
                  obtain ⟨i73, hi74, ei75⟩ := iv37_1.resolve_left c68
                  refine x_top ei75 ?_
                  refine x_vi C (As := [.int (nI i73)]) (rest := [.int r70]) (m_moreOf E l a cd hG kf jn js jq ws hW i73 (by omega)) mf_X12_moreOf w_1633 0 k1 rfl rfl rfl (Nat.le_of_ble_eq_true rfl) ⟨(Nat.le_of_ble_eq_true rfl), (Nat.le_of_ble_eq_true rfl)⟩ ⟨(Nat.le_of_ble_eq_true rfl), (Nat.le_of_ble_eq_true rfl)⟩ dX12_thefts_83 rfl (fun r77 w78 h76 => ?_)
                  have hW79 := h76
                  refine x_ws hW79 ?_
                  refine x_icmp_le C (tgt := 92) dX12_thefts_86 (by decide) rfl (fun c80 => ?_) (fun c80 => ?_)
                  · skip
                    refine x_iinc C (v := (nI (pp + 1))) (lv' := [(4, .int (nI (pp + 1))), (3, .int v67), (0, .ref (a 0)), (1, .int (nI j41)), (2, .int z37_2)]) dX12_thefts_92 4 rfl (nI_add pp 1) (by decide) rfl rfl ?_
                    refine x_goto C (tgt := 37) dX12_thefts_95 (by decide) ?_
                    refine x_lv (lv1 := [(0, .ref (a 0)), (1, .int (nI j41)), (2, .int z37_2), (3, .int v67), (4, .int (nI (pp + 1)))]) [2, 3, 4, 1, 0] rfl ?_
                    exact ih37 z37_2 v67 (pp + 1) trivial (by omega) (by omega) iv37_1
                  · skip
                    refine x_iload C dX12_thefts_89 4 rfl rfl ?_
                    refine x_istore_n C (lv' := [(2, .int (nI pp)), (3, .int v67), (0, .ref (a 0)), (1, .int (nI j41)), (4, .int (nI pp))]) dX12_thefts_91 rfl (by decide) rfl rfl ?_
                    refine x_iinc C (v := (nI (pp + 1))) (lv' := [(4, .int (nI (pp + 1))), (2, .int (nI pp)), (3, .int v67), (0, .ref (a 0)), (1, .int (nI j41))]) dX12_thefts_92 4 rfl (nI_add pp 1) (by decide) rfl rfl ?_
                    refine x_goto C (tgt := 37) dX12_thefts_95 (by decide) ?_
                    refine x_lv (lv1 := [(0, .ref (a 0)), (1, .int (nI j41)), (2, .int (nI pp)), (3, .int v67), (4, .int (nI (pp + 1)))]) [3, 4, 1, 2, 0] rfl ?_
                    exact ih37 ((nI pp)) v67 (pp + 1) trivial (by omega) (by omega) (Or.inr ⟨pp, by omega, rfl⟩)
              · skip
                refine x_goto C (tgt := 92) dX12_thefts_62 (by decide) ?_
                refine x_iinc C (v := (nI (pp + 1))) (lv' := [(4, .int (nI (pp + 1))), (0, .ref (a 0)), (1, .int (nI j41)), (2, .int z37_2), (3, .int z37_3)]) dX12_thefts_92 4 rfl (nI_add pp 1) (by decide) rfl rfl ?_
                refine x_goto C (tgt := 37) dX12_thefts_95 (by decide) ?_
                refine x_lv (lv1 := [(0, .ref (a 0)), (1, .int (nI j41)), (2, .int z37_2), (3, .int z37_3), (4, .int (nI (pp + 1)))]) [1, 2, 3, 4, 0] rfl ?_
                exact ih37 z37_2 z37_3 (pp + 1) trivial (by omega) (by omega) iv37_1
      refine x_lv (lv1 := [(0, .ref (a 0)), (1, .int (nI j41)), (2, .int (-2)), (3, .int 0), (4, .int 0)]) [3, 4, 2, 1, 0] rfl ?_
      exact loop37 _ ((-2) : Int32) (0 : Int32) 0 trivial (Nat.lt_succ_self _) (by omega) (Or.inl rfl)
    · skip
      refine x_ldcw C w_1637 dX12_thefts_25 rfl ?_
      exact x_zret C hr hlk rfl dX12_thefts_28 hW
  · skip
    obtain ⟨j81, hl82, hh83, ej84⟩ := w_nat (a := 0) (b := 7) (by decide) (by decide) (x32 c33)
    subst ej84
    refine x_aload_n C dX12_thefts_8 rfl 0 rfl rfl ?_
    refine x_iload_n C dX12_thefts_9 rfl 1 rfl rfl ?_
    refine x_vi C (As := [.int (nI j81)]) (rest := []) (m_moreOf E l a cd hG kf jn js jq ws hW j81 (by omega)) mf_X12_moreOf w_1633 0 k1 rfl rfl rfl (Nat.le_of_ble_eq_true rfl) ⟨(Nat.le_of_ble_eq_true rfl), (Nat.le_of_ble_eq_true rfl)⟩ ⟨(Nat.le_of_ble_eq_true rfl), (Nat.le_of_ble_eq_true rfl)⟩ dX12_thefts_10 rfl (fun r86 w87 h85 => ?_)
    have hW88 := h85
    refine x_ws hW88 ?_
    exact x_zret C hr hlk rfl dX12_thefts_13 hW
theorem dX12_laysOwn_0 : decode cX12_laysOwn 0 = .ok (.aload_n 0, 1) := by decide +kernel
theorem dX12_laysOwn_1 : decode cX12_laysOwn 1 = .ok (.iconst 0, 1) := by decide +kernel
theorem dX12_laysOwn_2 : decode cX12_laysOwn 2 = .ok (.putfield 344, 3) := by decide +kernel
theorem dX12_laysOwn_5 : decode cX12_laysOwn 5 = .ok (.iconst 0, 1) := by decide +kernel
theorem dX12_laysOwn_6 : decode cX12_laysOwn 6 = .ok (.istore_n 3, 1) := by decide +kernel
theorem dX12_laysOwn_7 : decode cX12_laysOwn 7 = .ok (.iload_n 3, 1) := by decide +kernel
theorem dX12_laysOwn_8 : decode cX12_laysOwn 8 = .ok (.aload_n 0, 1) := by decide +kernel
theorem dX12_laysOwn_9 : decode cX12_laysOwn 9 = .ok (.getfield 7, 3) := by decide +kernel
theorem dX12_laysOwn_12 : decode cX12_laysOwn 12 = .ok (.sipush 381, 3) := by decide +kernel
theorem dX12_laysOwn_15 : decode cX12_laysOwn 15 = .ok (.iaload, 1) := by decide +kernel
theorem dX12_laysOwn_16 : decode cX12_laysOwn 16 = .ok (.if_icmp .ge 62, 3) := by decide +kernel
theorem dX12_laysOwn_19 : decode cX12_laysOwn 19 = .ok (.aload_n 0, 1) := by decide +kernel
theorem dX12_laysOwn_20 : decode cX12_laysOwn 20 = .ok (.getfield 344, 3) := by decide +kernel
theorem dX12_laysOwn_23 : decode cX12_laysOwn 23 = .ok (.iload_n 2, 1) := by decide +kernel
theorem dX12_laysOwn_24 : decode cX12_laysOwn 24 = .ok (.if_icmp .ge 54, 3) := by decide +kernel
theorem dX12_laysOwn_27 : decode cX12_laysOwn 27 = .ok (.aload_n 0, 1) := by decide +kernel
theorem dX12_laysOwn_28 : decode cX12_laysOwn 28 = .ok (.iload_n 3, 1) := by decide +kernel
theorem dX12_laysOwn_29 : decode cX12_laysOwn 29 = .ok (.invokevirtual 268, 3) := by decide +kernel
theorem dX12_laysOwn_32 : decode cX12_laysOwn 32 = .ok (.ifCond .eq 40, 3) := by decide +kernel
theorem dX12_laysOwn_35 : decode cX12_laysOwn 35 = .ok (.aload_n 0, 1) := by decide +kernel
theorem dX12_laysOwn_36 : decode cX12_laysOwn 36 = .ok (.getfield 7, 3) := by decide +kernel
theorem dX12_laysOwn_39 : decode cX12_laysOwn 39 = .ok (.sipush 144, 3) := by decide +kernel
theorem dX12_laysOwn_42 : decode cX12_laysOwn 42 = .ok (.iload_n 3, 1) := by decide +kernel
theorem dX12_laysOwn_43 : decode cX12_laysOwn 43 = .ok (.iadd, 1) := by decide +kernel
theorem dX12_laysOwn_44 : decode cX12_laysOwn 44 = .ok (.iaload, 1) := by decide +kernel
theorem dX12_laysOwn_45 : decode cX12_laysOwn 45 = .ok (.iload_n 1, 1) := by decide +kernel
theorem dX12_laysOwn_46 : decode cX12_laysOwn 46 = .ok (.if_icmp .eq 6, 3) := by decide +kernel
theorem dX12_laysOwn_49 : decode cX12_laysOwn 49 = .ok (.goto 23, 3) := by decide +kernel
theorem dX12_laysOwn_52 : decode cX12_laysOwn 52 = .ok (.aload_n 0, 1) := by decide +kernel
theorem dX12_laysOwn_53 : decode cX12_laysOwn 53 = .ok (.getfield 74, 3) := by decide +kernel
theorem dX12_laysOwn_56 : decode cX12_laysOwn 56 = .ok (.aload_n 0, 1) := by decide +kernel
theorem dX12_laysOwn_57 : decode cX12_laysOwn 57 = .ok (.getfield 344, 3) := by decide +kernel
theorem dX12_laysOwn_60 : decode cX12_laysOwn 60 = .ok (.iload_n 3, 1) := by decide +kernel
theorem dX12_laysOwn_61 : decode cX12_laysOwn 61 = .ok (.iastore, 1) := by decide +kernel
theorem dX12_laysOwn_62 : decode cX12_laysOwn 62 = .ok (.aload_n 0, 1) := by decide +kernel
theorem dX12_laysOwn_63 : decode cX12_laysOwn 63 = .ok (.aload_n 0, 1) := by decide +kernel
theorem dX12_laysOwn_64 : decode cX12_laysOwn 64 = .ok (.getfield 344, 3) := by decide +kernel
theorem dX12_laysOwn_67 : decode cX12_laysOwn 67 = .ok (.iconst 1, 1) := by decide +kernel
theorem dX12_laysOwn_68 : decode cX12_laysOwn 68 = .ok (.iadd, 1) := by decide +kernel
theorem dX12_laysOwn_69 : decode cX12_laysOwn 69 = .ok (.putfield 344, 3) := by decide +kernel
theorem dX12_laysOwn_72 : decode cX12_laysOwn 72 = .ok (.iinc 3 1, 3) := by decide +kernel
theorem dX12_laysOwn_75 : decode cX12_laysOwn 75 = .ok (.goto (-68), 3) := by decide +kernel
theorem dX12_laysOwn_78 : decode cX12_laysOwn 78 = .ok (.return_, 1) := by decide +kernel
set_option maxRecDepth 20000 in
set_option maxHeartbeats 4000000 in
theorem m_laysOwn (E : xE) (l : Launch) (a : Nat → Nat) (cd : Cd) (hG : Good cd) (kf : Int32) (jn js jq : Lb) (ws : va_W) (hW : WX (okM E a cd kf jn js jq) ws) (p0 : Int32) (m0 : Nat) (hm0 : m0 ≤ 12) : xV E l yX12_laysOwn cX12_laysOwn 4 2 0 0 [.ref (a 0), .int p0, .int (nI m0)] ws (fun w => WX (okM E a cd kf jn js jq) w ∧ keeps ws w (fun q => q = 0 ∨ q = 22)) := by
  refine xV_start (lv := [(0, .ref (a 0)), (1, .int p0), (2, .int (nI m0))]) RX12 (by decide) rfl (Nat.le_of_ble_eq_true rfl) rfl (fun p e s m below meth c A C hr hlk hin => ?_)
  have kp0 : keeps ws ws (fun q => q = 0 ∨ q = 22) := keeps_rf
  refine x_aload_n C dX12_laysOwn_0 rfl 0 rfl rfl ?_
  refine x_iconst C (v := 0) dX12_laysOwn_1 (by decide) rfl ?_
  obtain ⟨_, k1, n2, n4, n6, v8, v9, v10, n11, n13, n15, n17, v19, v20, v21, v22, n23, n25, bn3, bn5, bn7, bn12, bn14, bn16, bn18, bn24, bn26, rfl⟩ := hW 0 _ rfl
  obtain ⟨w27, hw28⟩ : ∃ w : va_W, w = List.set ws 0 (ob (a 0) 11 [.ref (a 1), .ref (a 2), .ref (a 3), .ref (a 4), .int (nI n2), .int (nI n4), .int (nI n6), .int v8, .int v9, .int v10, .int (nI n11), .int (nI n13), .int (nI n15), .int (nI (cd.2.2.2.2.2)), .ref (a 5), .ref (a 6), .ref (a 7), .ref (a 8), .ref (a 9), .ref (a 10), .ref (a 11), .ref (a 12), .ref (a 13), .ref (a 14), .ref (a 15), .ref (a 16), .ref (a 17), .int (nI n17), .ref (a 18), .ref (a 19), .ref (a 20), .ref (a 21), .int v19, .int v20, .int v21, .int v22, .int 0, .int (nI n25), .ref (a 22), .ref (a 23), .ref (a 24), .ref (a 25), .ref (a 26), .ref (a 27), .ref (a 28), .ref (a 29), .ref (a 30), .int kf]) := ⟨_, rfl⟩
  refine x_put C (ci := 11) (k := 36) (ty := .int) 0 k1 rfl in_X12 tyX12 tyX12_ok nmX12 (by decide) w_1154 rfl rfl rfl rfl (Nat.le_of_ble_eq_true rfl) hw28.symm dX12_laysOwn_2 rfl ?_
  have hW29 : WX (okM E a cd kf jn js jq) w27 := by rw [hw28]; exact hW.set (k := 0) rfl ⟨n2, n4, n6, v8, v9, v10, n11, n13, n15, n17, v19, v20, v21, v22, 0, n25, by omega, by omega, by omega, by omega, by omega, by omega, by omega, by omega, by omega, rfl⟩
  have k30 : w27[0]? = some (ob (a 0) 11 [.ref (a 1), .ref (a 2), .ref (a 3), .ref (a 4), .int (nI n2), .int (nI n4), .int (nI n6), .int v8, .int v9, .int v10, .int (nI n11), .int (nI n13), .int (nI n15), .int (nI (cd.2.2.2.2.2)), .ref (a 5), .ref (a 6), .ref (a 7), .ref (a 8), .ref (a 9), .ref (a 10), .ref (a 11), .ref (a 12), .ref (a 13), .ref (a 14), .ref (a 15), .ref (a 16), .ref (a 17), .int (nI n17), .ref (a 18), .ref (a 19), .ref (a 20), .ref (a 21), .int v19, .int v20, .int v21, .int v22, .int 0, .int (nI n25), .ref (a 22), .ref (a 23), .ref (a 24), .ref (a 25), .ref (a 26), .ref (a 27), .ref (a 28), .ref (a 29), .ref (a 30), .int kf]) := by rw [hw28]; exact set_eq k1
  have kp31 := keeps_set kp0 hw28 (by first | exact rfl | decide | omega | (dsimp only; omega))
  refine x_iconst C (v := 0) dX12_laysOwn_5 (by decide) rfl ?_
  refine x_istore_n C (lv' := [(3, .int 0), (0, .ref (a 0)), (1, .int p0), (2, .int (nI m0))]) dX12_laysOwn_6 rfl (by decide) rfl rfl ?_
  have loop7 : ∀ (fu7 : Nat) (i : Nat) (wl7 : va_W), WX (okM E a cd kf jn js jq) wl7 → 48 - i < fu7 → i ≤ 48 → keeps ws wl7 (fun q => q = 0 ∨ q = 22) → X E p l e (xRm 2 0 0) s m ([.ref (a 0), .int p0, .int (nI m0)] : List Value).toArray below meth c A 4 0 0 (MQ below (va_Qv (fun w => WX (okM E a cd kf jn js jq) w ∧ keeps ws w (fun q => q = 0 ∨ q = 22)) (xB E A) A) ([.ref (a 0), .int p0, .int (nI m0)] : List Value).toArray s 0 0 A) wl7 7 [(0, .ref (a 0)), (1, .int p0), (2, .int (nI m0)), (3, .int (nI i))] [] := by
    intro fu7
    induction fu7 with
    | zero => intro i wl7 _ q; omega
    | succ fu7 ih7 =>
      intro i wl7 hWl7 me7 iv7_0 kq7
      refine x_iload_n C dX12_laysOwn_7 rfl 3 rfl rfl ?_
      refine x_aload_n C dX12_laysOwn_8 rfl 0 rfl rfl ?_
      obtain ⟨_, k32, n33, n35, n37, v39, v40, v41, n42, n44, n46, n48, v50, v51, v52, v53, n54, n56, bn34, bn36, bn38, bn43, bn45, bn47, bn49, bn55, bn57, rfl⟩ := hWl7 0 _ rfl
      refine x_get C (ci := 11) (k := 0) 0 k32 rfl in_X12 (by decide) w_1118 rfl dX12_laysOwn_9 rfl ?_
      refine x_sipush C (v := 381) dX12_laysOwn_12 (by decide) rfl ?_
      obtain ⟨_, k58, f59, pf60, rfl⟩ := hWl7 1 _ rfl
      obtain ⟨n61, hn62, en63⟩ := NB_many pf60
      refine x_ialk C (v := nI n61) 381 (by decide) (by decide) (by decide) 1 k58 en63 dX12_laysOwn_15 rfl ?_
      refine x_icmp_ge C (tgt := 78) dX12_laysOwn_16 (by decide) rfl (fun c64 => ?_) (fun c64 => ?_)
      · skip
        have nf65 := nI_le' (a := n61) (b := i) c64 (by omega) (by omega)
        exact x_vret C hr hlk dX12_laysOwn_78 ⟨hWl7, kq7⟩
      · skip
        have nf66 := nI_nle' (a := n61) (b := i) c64 (by omega) (by omega)
        refine x_aload_n C dX12_laysOwn_19 rfl 0 rfl rfl ?_
        refine x_get C (ci := 11) (k := 36) 0 k32 rfl in_X12 (by decide) w_1154 rfl dX12_laysOwn_20 rfl ?_
        refine x_iload_n C dX12_laysOwn_23 rfl 2 rfl rfl ?_
        refine x_icmp_ge C (tgt := 78) dX12_laysOwn_24 (by decide) rfl (fun c67 => ?_) (fun c67 => ?_)
        · skip
          have nf68 := nI_le' (a := m0) (b := n54) c67 (by omega) (by omega)
          exact x_vret C hr hlk dX12_laysOwn_78 ⟨hWl7, kq7⟩
        · skip
          have nf69 := nI_nle' (a := m0) (b := n54) c67 (by omega) (by omega)
          refine x_aload_n C dX12_laysOwn_27 rfl 0 rfl rfl ?_
          refine x_iload_n C dX12_laysOwn_28 rfl 3 rfl rfl ?_
          refine x_vi C (As := [.int (nI i)]) (rest := []) (m_isWhole E l a cd hG kf jn js jq wl7 hWl7 ((nI i))) mf_X12_isWhole w_1435 0 k32 rfl rfl rfl (Nat.le_of_ble_eq_true rfl) ⟨(Nat.le_of_ble_eq_true rfl), (Nat.le_of_ble_eq_true rfl)⟩ ⟨(Nat.le_of_ble_eq_true rfl), (Nat.le_of_ble_eq_true rfl)⟩ dX12_laysOwn_29 rfl (fun r71 w72 h70 => ?_)
          obtain ⟨hW73, zb74, x75⟩ := h70
          refine x_ws hW73 ?_
          refine x_if_eq C (tgt := 72) dX12_laysOwn_32 (by decide) rfl (fun c76 => ?_) (fun c76 => ?_)
          · skip
            refine x_iinc C (v := (nI (i + 1))) (lv' := [(3, .int (nI (i + 1))), (0, .ref (a 0)), (1, .int p0), (2, .int (nI m0))]) dX12_laysOwn_72 3 rfl (nI_add i 1) (by decide) rfl rfl ?_
            refine x_goto C (tgt := 7) dX12_laysOwn_75 (by decide) ?_
            refine x_lv (lv1 := [(0, .ref (a 0)), (1, .int p0), (2, .int (nI m0)), (3, .int (nI (i + 1)))]) [1, 2, 3, 0] rfl ?_
            exact ih7 (i + 1) wl7 hWl7 (by omega) (by omega) kq7
          · skip
            have wi77 := wth_le (a := 0) (b := 47) (j := i) (x75 c76) (by omega) (by decide) (by decide)
            refine x_aload_n C dX12_laysOwn_35 rfl 0 rfl rfl ?_
            refine x_get C (ci := 11) (k := 0) 0 k32 rfl in_X12 (by decide) w_1118 rfl dX12_laysOwn_36 rfl ?_
            refine x_sipush C (v := 144) dX12_laysOwn_39 (by decide) rfl ?_
            refine x_iload_n C dX12_laysOwn_42 rfl 3 rfl rfl ?_
            refine x_iadd C (v := (nI (144 + i))) dX12_laysOwn_43 (nI_add 144 i) rfl ?_
            obtain ⟨n78, hn79, en80⟩ := NB_own (j := i) pf60 (by omega)
            refine x_ialk C (v := nI n78) (144 + i) (nI_clamp (by omega)) (nI_pos (by omega)) (by omega) 1 k58 en80 dX12_laysOwn_44 rfl ?_
            refine x_iload_n C dX12_laysOwn_45 rfl 1 rfl rfl ?_
            refine x_icmp_eq C (tgt := 52) dX12_laysOwn_46 (by decide) rfl (fun c81 => ?_) (fun c81 => ?_)
            · skip
              refine x_aload_n C dX12_laysOwn_52 rfl 0 rfl rfl ?_
              refine x_get C (ci := 11) (k := 38) 0 k32 rfl in_X12 (by decide) w_1156 rfl dX12_laysOwn_53 rfl ?_
              refine x_aload_n C dX12_laysOwn_56 rfl 0 rfl rfl ?_
              refine x_get C (ci := 11) (k := 36) 0 k32 rfl in_X12 (by decide) w_1154 rfl dX12_laysOwn_57 rfl ?_
              refine x_iload_n C dX12_laysOwn_60 rfl 3 rfl rfl ?_
              obtain ⟨_, k82, g83, gb84, rfl⟩ := hWl7 22 _ rfl
              have gb85 := updn_le (i := n54) (v := i) gb84 (by omega)
              obtain ⟨w86, hw87⟩ : ∃ w : va_W, w = List.set wl7 22 (iA E (a 22) 12 (upd (fun j => nI (g83 j)) n54 (nI i))) := ⟨_, rfl⟩
              refine x_iask C n54 (nI_clamp (by omega)) (nI_pos (by omega)) (by omega) 22 k82 hw87.symm dX12_laysOwn_61 rfl ?_
              have hW88 : WX (okM E a cd kf jn js jq) w86 := by rw [hw87]; exact hWl7.set (k := 22) rfl ⟨_, gb85, iA_n (upd_nI g83 n54 i)⟩
              have k89 : w86[0]? = some (ob (a 0) 11 [.ref (a 1), .ref (a 2), .ref (a 3), .ref (a 4), .int (nI n33), .int (nI n35), .int (nI n37), .int v39, .int v40, .int v41, .int (nI n42), .int (nI n44), .int (nI n46), .int (nI (cd.2.2.2.2.2)), .ref (a 5), .ref (a 6), .ref (a 7), .ref (a 8), .ref (a 9), .ref (a 10), .ref (a 11), .ref (a 12), .ref (a 13), .ref (a 14), .ref (a 15), .ref (a 16), .ref (a 17), .int (nI n48), .ref (a 18), .ref (a 19), .ref (a 20), .ref (a 21), .int v50, .int v51, .int v52, .int v53, .int (nI n54), .int (nI n56), .ref (a 22), .ref (a 23), .ref (a 24), .ref (a 25), .ref (a 26), .ref (a 27), .ref (a 28), .ref (a 29), .ref (a 30), .int kf]) := by rw [hw87]; exact set_ne k32 (by decide)
              have k90 : w86[1]? = some (iA E (a 1) 382 f59) := by rw [hw87]; exact set_ne k58 (by decide)
              have k91 : w86[22]? = some (iA E (a 22) 12 (upd (fun j => nI (g83 j)) n54 (nI i))) := by rw [hw87]; exact set_eq k82
              have kp92 := keeps_set kq7 hw87 (by first | exact rfl | decide | omega | (dsimp only; omega))
              have k93 : w86[22]? = some (iA E (a 22) 12 (fun j => nI ((updn g83 n54 i) j))) := by rw [← upd_nI]; exact k91
              refine x_aload_n C dX12_laysOwn_62 rfl 0 rfl rfl ?_
              refine x_aload_n C dX12_laysOwn_63 rfl 0 rfl rfl ?_
              refine x_get C (ci := 11) (k := 36) 0 k89 rfl in_X12 (by decide) w_1154 rfl dX12_laysOwn_64 rfl ?_
              refine x_iconst C (v := 1) dX12_laysOwn_67 (by decide) rfl ?_
              refine x_iadd C (v := (nI (n54 + 1))) dX12_laysOwn_68 (nI_add n54 1) rfl ?_
              obtain ⟨w94, hw95⟩ : ∃ w : va_W, w = List.set w86 0 (ob (a 0) 11 [.ref (a 1), .ref (a 2), .ref (a 3), .ref (a 4), .int (nI n33), .int (nI n35), .int (nI n37), .int v39, .int v40, .int v41, .int (nI n42), .int (nI n44), .int (nI n46), .int (nI (cd.2.2.2.2.2)), .ref (a 5), .ref (a 6), .ref (a 7), .ref (a 8), .ref (a 9), .ref (a 10), .ref (a 11), .ref (a 12), .ref (a 13), .ref (a 14), .ref (a 15), .ref (a 16), .ref (a 17), .int (nI n48), .ref (a 18), .ref (a 19), .ref (a 20), .ref (a 21), .int v50, .int v51, .int v52, .int v53, .int (nI (n54 + 1)), .int (nI n56), .ref (a 22), .ref (a 23), .ref (a 24), .ref (a 25), .ref (a 26), .ref (a 27), .ref (a 28), .ref (a 29), .ref (a 30), .int kf]) := ⟨_, rfl⟩
              refine x_put C (ci := 11) (k := 36) (ty := .int) 0 k89 rfl in_X12 tyX12 tyX12_ok nmX12 (by decide) w_1154 rfl rfl rfl rfl (Nat.le_of_ble_eq_true rfl) hw95.symm dX12_laysOwn_69 rfl ?_
              have hW96 : WX (okM E a cd kf jn js jq) w94 := by rw [hw95]; exact hW88.set (k := 0) rfl ⟨n33, n35, n37, v39, v40, v41, n42, n44, n46, n48, v50, v51, v52, v53, (n54 + 1), n56, by omega, by omega, by omega, by omega, by omega, by omega, by omega, by omega, by omega, rfl⟩
              have k97 : w94[0]? = some (ob (a 0) 11 [.ref (a 1), .ref (a 2), .ref (a 3), .ref (a 4), .int (nI n33), .int (nI n35), .int (nI n37), .int v39, .int v40, .int v41, .int (nI n42), .int (nI n44), .int (nI n46), .int (nI (cd.2.2.2.2.2)), .ref (a 5), .ref (a 6), .ref (a 7), .ref (a 8), .ref (a 9), .ref (a 10), .ref (a 11), .ref (a 12), .ref (a 13), .ref (a 14), .ref (a 15), .ref (a 16), .ref (a 17), .int (nI n48), .ref (a 18), .ref (a 19), .ref (a 20), .ref (a 21), .int v50, .int v51, .int v52, .int v53, .int (nI (n54 + 1)), .int (nI n56), .ref (a 22), .ref (a 23), .ref (a 24), .ref (a 25), .ref (a 26), .ref (a 27), .ref (a 28), .ref (a 29), .ref (a 30), .int kf]) := by rw [hw95]; exact set_eq k89
              have k98 : w94[1]? = some (iA E (a 1) 382 f59) := by rw [hw95]; exact set_ne k90 (by decide)
              have k99 : w94[22]? = some (iA E (a 22) 12 (fun j => nI ((updn g83 n54 i) j))) := by rw [hw95]; exact set_ne k93 (by decide)
              have kp100 := keeps_set kp92 hw95 (by first | exact rfl | decide | omega | (dsimp only; omega))
              refine x_iinc C (v := (nI (i + 1))) (lv' := [(3, .int (nI (i + 1))), (0, .ref (a 0)), (1, .int p0), (2, .int (nI m0))]) dX12_laysOwn_72 3 rfl (nI_add i 1) (by decide) rfl rfl ?_
              refine x_goto C (tgt := 7) dX12_laysOwn_75 (by decide) ?_
              refine x_lv (lv1 := [(0, .ref (a 0)), (1, .int p0), (2, .int (nI m0)), (3, .int (nI (i + 1)))]) [1, 2, 3, 0] rfl ?_
              exact ih7 (i + 1) w94 hW96 (by omega) (by omega) kp100
            · skip
              refine x_goto C (tgt := 72) dX12_laysOwn_49 (by decide) ?_
              refine x_iinc C (v := (nI (i + 1))) (lv' := [(3, .int (nI (i + 1))), (0, .ref (a 0)), (1, .int p0), (2, .int (nI m0))]) dX12_laysOwn_72 3 rfl (nI_add i 1) (by decide) rfl rfl ?_
              refine x_goto C (tgt := 7) dX12_laysOwn_75 (by decide) ?_
              refine x_lv (lv1 := [(0, .ref (a 0)), (1, .int p0), (2, .int (nI m0)), (3, .int (nI (i + 1)))]) [1, 2, 3, 0] rfl ?_
              exact ih7 (i + 1) wl7 hWl7 (by omega) (by omega) kq7
  refine x_lv (lv1 := [(0, .ref (a 0)), (1, .int p0), (2, .int (nI m0)), (3, .int 0)]) [1, 2, 3, 0] rfl ?_
  exact loop7 _ 0 w27 hW29 (Nat.lt_succ_self _) (by omega) kp31
theorem dX12_baskets_0 : decode cX12_baskets 0 = .ok (.aload_n 0, 1) := by decide +kernel
theorem dX12_baskets_1 : decode cX12_baskets 1 = .ok (.iload_n 1, 1) := by decide +kernel
theorem dX12_baskets_2 : decode cX12_baskets 2 = .ok (.invokevirtual 113, 3) := by decide +kernel
theorem dX12_baskets_5 : decode cX12_baskets 5 = .ok (.ifCond .eq 23, 3) := by decide +kernel
theorem dX12_baskets_8 : decode cX12_baskets 8 = .ok (.iload_n 2, 1) := by decide +kernel
theorem dX12_baskets_9 : decode cX12_baskets 9 = .ok (.iconst 0, 1) := by decide +kernel
theorem dX12_baskets_10 : decode cX12_baskets 10 = .ok (.sipush 9999, 3) := by decide +kernel
theorem dX12_baskets_13 : decode cX12_baskets 13 = .ok (.invokestatic 109, 3) := by decide +kernel
theorem dX12_baskets_16 : decode cX12_baskets 16 = .ok (.ifCond .eq 12, 3) := by decide +kernel
theorem dX12_baskets_19 : decode cX12_baskets 19 = .ok (.iload_n 3, 1) := by decide +kernel
theorem dX12_baskets_20 : decode cX12_baskets 20 = .ok (.iconst 0, 1) := by decide +kernel
theorem dX12_baskets_21 : decode cX12_baskets 21 = .ok (.iconst 1, 1) := by decide +kernel
theorem dX12_baskets_22 : decode cX12_baskets 22 = .ok (.invokestatic 109, 3) := by decide +kernel
theorem dX12_baskets_25 : decode cX12_baskets 25 = .ok (.ifCond .ne 5, 3) := by decide +kernel
theorem dX12_baskets_28 : decode cX12_baskets 28 = .ok (.iconst (-1), 1) := by decide +kernel
theorem dX12_baskets_29 : decode cX12_baskets 29 = .ok (.ireturn, 1) := by decide +kernel
theorem dX12_baskets_30 : decode cX12_baskets 30 = .ok (.aload_n 0, 1) := by decide +kernel
theorem dX12_baskets_31 : decode cX12_baskets 31 = .ok (.iload_n 1, 1) := by decide +kernel
theorem dX12_baskets_32 : decode cX12_baskets 32 = .ok (.bipush 12, 2) := by decide +kernel
theorem dX12_baskets_34 : decode cX12_baskets 34 = .ok (.invokevirtual 362, 3) := by decide +kernel
theorem dX12_baskets_37 : decode cX12_baskets 37 = .ok (.iconst 0, 1) := by decide +kernel
theorem dX12_baskets_38 : decode cX12_baskets 38 = .ok (.istore 4, 2) := by decide +kernel
theorem dX12_baskets_40 : decode cX12_baskets 40 = .ok (.bipush (-2), 2) := by decide +kernel
theorem dX12_baskets_42 : decode cX12_baskets 42 = .ok (.istore 5, 2) := by decide +kernel
theorem dX12_baskets_44 : decode cX12_baskets 44 = .ok (.iconst 0, 1) := by decide +kernel
theorem dX12_baskets_45 : decode cX12_baskets 45 = .ok (.istore 6, 2) := by decide +kernel
theorem dX12_baskets_47 : decode cX12_baskets 47 = .ok (.iload 6, 2) := by decide +kernel
theorem dX12_baskets_49 : decode cX12_baskets 49 = .ok (.iconst 1, 1) := by decide +kernel
theorem dX12_baskets_50 : decode cX12_baskets 50 = .ok (.aload_n 0, 1) := by decide +kernel
theorem dX12_baskets_51 : decode cX12_baskets 51 = .ok (.getfield 344, 3) := by decide +kernel
theorem dX12_baskets_54 : decode cX12_baskets 54 = .ok (.ishl, 1) := by decide +kernel
theorem dX12_baskets_55 : decode cX12_baskets 55 = .ok (.if_icmp .ge 102, 3) := by decide +kernel
theorem dX12_baskets_58 : decode cX12_baskets 58 = .ok (.iconst 0, 1) := by decide +kernel
theorem dX12_baskets_59 : decode cX12_baskets 59 = .ok (.istore 7, 2) := by decide +kernel
theorem dX12_baskets_61 : decode cX12_baskets 61 = .ok (.iconst 0, 1) := by decide +kernel
theorem dX12_baskets_62 : decode cX12_baskets 62 = .ok (.istore 8, 2) := by decide +kernel
theorem dX12_baskets_64 : decode cX12_baskets 64 = .ok (.iload 8, 2) := by decide +kernel
theorem dX12_baskets_66 : decode cX12_baskets 66 = .ok (.aload_n 0, 1) := by decide +kernel
theorem dX12_baskets_67 : decode cX12_baskets 67 = .ok (.getfield 344, 3) := by decide +kernel
theorem dX12_baskets_70 : decode cX12_baskets 70 = .ok (.if_icmp .ge 42, 3) := by decide +kernel
theorem dX12_baskets_73 : decode cX12_baskets 73 = .ok (.iload 7, 2) := by decide +kernel
theorem dX12_baskets_75 : decode cX12_baskets 75 = .ok (.iload 6, 2) := by decide +kernel
theorem dX12_baskets_77 : decode cX12_baskets 77 = .ok (.iload 8, 2) := by decide +kernel
theorem dX12_baskets_79 : decode cX12_baskets 79 = .ok (.invokestatic 101, 3) := by decide +kernel
theorem dX12_baskets_82 : decode cX12_baskets 82 = .ok (.ifCond .eq 20, 3) := by decide +kernel
theorem dX12_baskets_85 : decode cX12_baskets 85 = .ok (.aload_n 0, 1) := by decide +kernel
theorem dX12_baskets_86 : decode cX12_baskets 86 = .ok (.getfield 7, 3) := by decide +kernel
theorem dX12_baskets_89 : decode cX12_baskets 89 = .ok (.iconst 0, 1) := by decide +kernel
theorem dX12_baskets_90 : decode cX12_baskets 90 = .ok (.aload_n 0, 1) := by decide +kernel
theorem dX12_baskets_91 : decode cX12_baskets 91 = .ok (.getfield 74, 3) := by decide +kernel
theorem dX12_baskets_94 : decode cX12_baskets 94 = .ok (.iload 8, 2) := by decide +kernel
theorem dX12_baskets_96 : decode cX12_baskets 96 = .ok (.iaload, 1) := by decide +kernel
theorem dX12_baskets_97 : decode cX12_baskets 97 = .ok (.iadd, 1) := by decide +kernel
theorem dX12_baskets_98 : decode cX12_baskets 98 = .ok (.iaload, 1) := by decide +kernel
theorem dX12_baskets_99 : decode cX12_baskets 99 = .ok (.goto 4, 3) := by decide +kernel
theorem dX12_baskets_102 : decode cX12_baskets 102 = .ok (.iconst 0, 1) := by decide +kernel
theorem dX12_baskets_103 : decode cX12_baskets 103 = .ok (.iadd, 1) := by decide +kernel
theorem dX12_baskets_104 : decode cX12_baskets 104 = .ok (.istore 7, 2) := by decide +kernel
theorem dX12_baskets_106 : decode cX12_baskets 106 = .ok (.iinc 8 1, 3) := by decide +kernel
theorem dX12_baskets_109 : decode cX12_baskets 109 = .ok (.goto (-45), 3) := by decide +kernel
theorem dX12_baskets_112 : decode cX12_baskets 112 = .ok (.iload 7, 2) := by decide +kernel
theorem dX12_baskets_114 : decode cX12_baskets 114 = .ok (.iload_n 2, 1) := by decide +kernel
theorem dX12_baskets_115 : decode cX12_baskets 115 = .ok (.if_icmp .eq 6, 3) := by decide +kernel
theorem dX12_baskets_118 : decode cX12_baskets 118 = .ok (.goto 33, 3) := by decide +kernel
theorem dX12_baskets_121 : decode cX12_baskets 121 = .ok (.iload 4, 2) := by decide +kernel
theorem dX12_baskets_123 : decode cX12_baskets 123 = .ok (.iconst 1, 1) := by decide +kernel
theorem dX12_baskets_124 : decode cX12_baskets 124 = .ok (.iadd, 1) := by decide +kernel
theorem dX12_baskets_125 : decode cX12_baskets 125 = .ok (.istore 4, 2) := by decide +kernel
theorem dX12_baskets_127 : decode cX12_baskets 127 = .ok (.iload 5, 2) := by decide +kernel
theorem dX12_baskets_129 : decode cX12_baskets 129 = .ok (.bipush (-2), 2) := by decide +kernel
theorem dX12_baskets_131 : decode cX12_baskets 131 = .ok (.if_icmp .eq 16, 3) := by decide +kernel
theorem dX12_baskets_134 : decode cX12_baskets 134 = .ok (.iload 6, 2) := by decide +kernel
theorem dX12_baskets_136 : decode cX12_baskets 136 = .ok (.invokestatic 347, 3) := by decide +kernel
theorem dX12_baskets_139 : decode cX12_baskets 139 = .ok (.iload 5, 2) := by decide +kernel
theorem dX12_baskets_141 : decode cX12_baskets 141 = .ok (.invokestatic 347, 3) := by decide +kernel
theorem dX12_baskets_144 : decode cX12_baskets 144 = .ok (.if_icmp .ge 7, 3) := by decide +kernel
theorem dX12_baskets_147 : decode cX12_baskets 147 = .ok (.iload 6, 2) := by decide +kernel
theorem dX12_baskets_149 : decode cX12_baskets 149 = .ok (.istore 5, 2) := by decide +kernel
theorem dX12_baskets_151 : decode cX12_baskets 151 = .ok (.iinc 6 1, 3) := by decide +kernel
theorem dX12_baskets_154 : decode cX12_baskets 154 = .ok (.goto (-107), 3) := by decide +kernel
theorem dX12_baskets_157 : decode cX12_baskets 157 = .ok (.iload_n 3, 1) := by decide +kernel
theorem dX12_baskets_158 : decode cX12_baskets 158 = .ok (.ifCond .ne 8, 3) := by decide +kernel
theorem dX12_baskets_161 : decode cX12_baskets 161 = .ok (.iload 4, 2) := by decide +kernel
theorem dX12_baskets_163 : decode cX12_baskets 163 = .ok (.goto 5, 3) := by decide +kernel
theorem dX12_baskets_166 : decode cX12_baskets 166 = .ok (.iload 5, 2) := by decide +kernel
theorem dX12_baskets_168 : decode cX12_baskets 168 = .ok (.ireturn, 1) := by decide +kernel
set_option maxRecDepth 20000 in
set_option maxHeartbeats 4000000 in
theorem m_baskets (E : xE) (l : Launch) (a : Nat → Nat) (cd : Cd) (hG : Good cd) (kf : Int32) (jn js jq : Lb) (ws : va_W) (hW : WX (okM E a cd kf jn js jq) ws) (p0 : Int32) (p1 : Int32) (p2 : Int32) : xI E l yX12_baskets cX12_baskets 9 (some .int) 8 [.ref (a 0), .int p0, .int p1, .int p2] ws (fun r w => WX (okM E a cd kf jn js jq) w) := by
  refine xI_start (lv := [(0, .ref (a 0)), (1, .int p0), (2, .int p1), (3, .int p2)]) RX12 (by decide) rfl (Nat.le_of_ble_eq_true rfl) rfl (fun p e s m below meth c A C hr hlk => ?_)
  refine x_aload_n C dX12_baskets_0 rfl 0 rfl rfl ?_
  refine x_iload_n C dX12_baskets_1 rfl 1 rfl rfl ?_
  obtain ⟨_, k1, n2, n4, n6, v8, v9, v10, n11, n13, n15, n17, v19, v20, v21, v22, n23, n25, bn3, bn5, bn7, bn12, bn14, bn16, bn18, bn24, bn26, rfl⟩ := hW 0 _ rfl
  refine x_vi C (As := [.int p0]) (rest := []) (m_isPerson E l a cd hG kf jn js jq ws hW p0) mf_X12_isPerson w_1270 0 k1 rfl rfl rfl (Nat.le_of_ble_eq_true rfl) ⟨(Nat.le_of_ble_eq_true rfl), (Nat.le_of_ble_eq_true rfl)⟩ ⟨(Nat.le_of_ble_eq_true rfl), (Nat.le_of_ble_eq_true rfl)⟩ dX12_baskets_2 rfl (fun r28 w29 h27 => ?_)
  obtain ⟨hW30, zb31, x32⟩ := h27
  refine x_ws hW30 ?_
  refine x_if_eq C (tgt := 28) dX12_baskets_5 (by decide) rfl (fun c33 => ?_) (fun c33 => ?_)
  · skip
    refine x_iconst C (v := (-1)) dX12_baskets_28 (by decide) rfl ?_
    exact x_zret C hr hlk rfl dX12_baskets_29 hW
  · skip
    obtain ⟨j34, hl35, hh36, ej37⟩ := w_nat (a := 0) (b := 7) (by decide) (by decide) (x32 c33)
    subst ej37
    refine x_iload_n C dX12_baskets_8 rfl 2 rfl rfl ?_
    refine x_iconst C (v := 0) dX12_baskets_9 (by decide) rfl ?_
    refine x_sipush C (v := 9999) dX12_baskets_10 (by decide) rfl ?_
    refine x_si C (As := [.int p1, .int 0, .int 9999]) (rest := []) (m_in E l a cd hG kf jn js jq ws hW p1 (0 : Int32) (9999 : Int32)) mf_X12_in w_1267 rfl rfl (Nat.le_of_ble_eq_true rfl) ⟨(Nat.le_of_ble_eq_true rfl), (Nat.le_of_ble_eq_true rfl)⟩ ⟨(Nat.le_of_ble_eq_true rfl), (Nat.le_of_ble_eq_true rfl)⟩ dX12_baskets_13 rfl (fun r39 w40 h38 => ?_)
    obtain ⟨hW41, zb42, x43⟩ := h38
    refine x_ws hW41 ?_
    refine x_if_eq C (tgt := 28) dX12_baskets_16 (by decide) rfl (fun c44 => ?_) (fun c44 => ?_)
    · skip
      refine x_iconst C (v := (-1)) dX12_baskets_28 (by decide) rfl ?_
      exact x_zret C hr hlk rfl dX12_baskets_29 hW
    · skip
      obtain ⟨j45, hl46, hh47, ej48⟩ := w_nat (a := 0) (b := 9999) (by decide) (by decide) (x43 c44)
      subst ej48
      refine x_iload_n C dX12_baskets_19 rfl 3 rfl rfl ?_
      refine x_iconst C (v := 0) dX12_baskets_20 (by decide) rfl ?_
      refine x_iconst C (v := 1) dX12_baskets_21 (by decide) rfl ?_
      refine x_si C (As := [.int p2, .int 0, .int 1]) (rest := []) (m_in E l a cd hG kf jn js jq ws hW p2 (0 : Int32) (1 : Int32)) mf_X12_in w_1267 rfl rfl (Nat.le_of_ble_eq_true rfl) ⟨(Nat.le_of_ble_eq_true rfl), (Nat.le_of_ble_eq_true rfl)⟩ ⟨(Nat.le_of_ble_eq_true rfl), (Nat.le_of_ble_eq_true rfl)⟩ dX12_baskets_22 rfl (fun r50 w51 h49 => ?_)
      obtain ⟨hW52, zb53, x54⟩ := h49
      refine x_ws hW52 ?_
      refine x_if_ne C (tgt := 30) dX12_baskets_25 (by decide) rfl (fun c55 => ?_) (fun c55 => ?_)
      · skip
        obtain ⟨j56, hl57, hh58, ej59⟩ := w_nat (a := 0) (b := 1) (by decide) (by decide) (x54 c55)
        subst ej59
        refine x_aload_n C dX12_baskets_30 rfl 0 rfl rfl ?_
        refine x_iload_n C dX12_baskets_31 rfl 1 rfl rfl ?_
        refine x_bipush C (v := 12) dX12_baskets_32 (by decide) rfl ?_
        refine x_vv C (As := [.int (nI j34), .int 12]) (rest := []) (m_laysOwn E l a cd hG kf jn js jq ws hW ((nI j34)) 12 (by omega)) mf_X12_laysOwn w_1562 0 k1 rfl rfl rfl (Nat.le_of_ble_eq_true rfl) ⟨(Nat.le_of_ble_eq_true rfl), (Nat.le_of_ble_eq_true rfl)⟩ ⟨(Nat.le_of_ble_eq_true rfl), (Nat.le_of_ble_eq_true rfl)⟩ dX12_baskets_34 rfl (fun w62 h60 => ?_)
        obtain ⟨hW63, kq64⟩ := h60
        refine x_iconst C (v := 0) dX12_baskets_37 (by decide) rfl ?_
        refine x_istore C (lv' := [(4, .int 0), (0, .ref (a 0)), (1, .int (nI j34)), (2, .int (nI j45)), (3, .int (nI j56))]) dX12_baskets_38 (by decide) rfl rfl ?_
        refine x_bipush C (v := (-2)) dX12_baskets_40 (by decide) rfl ?_
        refine x_istore C (lv' := [(5, .int (-2)), (4, .int 0), (0, .ref (a 0)), (1, .int (nI j34)), (2, .int (nI j45)), (3, .int (nI j56))]) dX12_baskets_42 (by decide) rfl rfl ?_
        refine x_iconst C (v := 0) dX12_baskets_44 (by decide) rfl ?_
        refine x_istore C (lv' := [(6, .int 0), (5, .int (-2)), (4, .int 0), (0, .ref (a 0)), (1, .int (nI j34)), (2, .int (nI j45)), (3, .int (nI j56))]) dX12_baskets_45 (by decide) rfl rfl ?_
        have loop47 : ∀ (fu47 : Nat) (z47_4 : Int32) (z47_5 : Int32) (se : Nat), True → 4096 - se < fu47 → se ≤ 4096 → X E p l e (xRm 8 0 0) s m ([.ref (a 0), .int (nI j34), .int (nI j45), .int (nI j56)] : List Value).toArray below meth c A 9 0 0 (MQ below (va_Qi (fun r w => WX (okM E a cd kf jn js jq) w) (xB E A) A) ([.ref (a 0), .int (nI j34), .int (nI j45), .int (nI j56)] : List Value).toArray s 0 0 A) w62 47 [(0, .ref (a 0)), (1, .int (nI j34)), (2, .int (nI j45)), (3, .int (nI j56)), (4, .int z47_4), (5, .int z47_5), (6, .int (nI se))] [] := by
          intro fu47
          induction fu47 with
          | zero => intro z47_4 z47_5 se _ q; omega
          | succ fu47 ih47 =>
            intro z47_4 z47_5 se _ me47 iv47_0
            refine x_iload C dX12_baskets_47 6 rfl rfl ?_
            refine x_iconst C (v := 1) dX12_baskets_49 (by decide) rfl ?_
            refine x_aload_n C dX12_baskets_50 rfl 0 rfl rfl ?_
            obtain ⟨_, k65, n66, n68, n70, v72, v73, v74, n75, n77, n79, n81, v83, v84, v85, v86, n87, n89, bn67, bn69, bn71, bn76, bn78, bn80, bn82, bn88, bn90, rfl⟩ := hW63 0 _ rfl
            refine x_get C (ci := 11) (k := 36) 0 k65 rfl in_X12 (by decide) w_1154 rfl dX12_baskets_51 rfl ?_
            obtain ⟨z91, hz92, ez93⟩ := shl_low (n := n87) (by omega)
            refine x_ishl C (v := (nI z91)) dX12_baskets_54 ez93 rfl ?_
            refine x_icmp_ge C (tgt := 157) dX12_baskets_55 (by decide) rfl (fun c94 => ?_) (fun c94 => ?_)
            · skip
              have nf95 := nI_le' (a := z91) (b := se) c94 (by omega) (by omega)
              refine x_iload_n C dX12_baskets_157 rfl 3 rfl rfl ?_
              refine x_if_ne C (tgt := 166) dX12_baskets_158 (by decide) rfl (fun c96 => ?_) (fun c96 => ?_)
              · skip
                have nf97 : ¬ j56 = 0 := fun q => c96 (congrArg nI q)
                refine x_iload C dX12_baskets_166 5 rfl rfl ?_
                exact x_zret C hr hlk rfl dX12_baskets_168 hW63
              · skip
                have nf98 : j56 = 0 := (nI_eq (by omega) (by omega)).mp c96
                refine x_iload C dX12_baskets_161 4 rfl rfl ?_
                refine x_goto C (tgt := 168) dX12_baskets_163 (by decide) ?_
                exact x_zret C hr hlk rfl dX12_baskets_168 hW63
            · skip
              have nf99 := nI_nle' (a := z91) (b := se) c94 (by omega) (by omega)
              refine x_iconst C (v := 0) dX12_baskets_58 (by decide) rfl ?_
              refine x_istore C (lv' := [(7, .int 0), (0, .ref (a 0)), (1, .int (nI j34)), (2, .int (nI j45)), (3, .int (nI j56)), (4, .int z47_4), (5, .int z47_5), (6, .int (nI se))]) dX12_baskets_59 (by decide) rfl rfl ?_
              refine x_iconst C (v := 0) dX12_baskets_61 (by decide) rfl ?_
              refine x_istore C (lv' := [(8, .int 0), (7, .int 0), (0, .ref (a 0)), (1, .int (nI j34)), (2, .int (nI j45)), (3, .int (nI j56)), (4, .int z47_4), (5, .int z47_5), (6, .int (nI se))]) dX12_baskets_62 (by decide) rfl rfl ?_
              have loop64 : ∀ (fu64 : Nat) (z64_7 : Int32) (k : Nat), True → 12 - k < fu64 → k ≤ 12 → X E p l e (xRm 8 0 0) s m ([.ref (a 0), .int (nI j34), .int (nI j45), .int (nI j56)] : List Value).toArray below meth c A 9 0 0 (MQ below (va_Qi (fun r w => WX (okM E a cd kf jn js jq) w) (xB E A) A) ([.ref (a 0), .int (nI j34), .int (nI j45), .int (nI j56)] : List Value).toArray s 0 0 A) w62 64 [(0, .ref (a 0)), (1, .int (nI j34)), (2, .int (nI j45)), (3, .int (nI j56)), (4, .int z47_4), (5, .int z47_5), (6, .int (nI se)), (7, .int z64_7), (8, .int (nI k))] [] := by
                intro fu64
                induction fu64 with
                | zero => intro z64_7 k _ q; omega
                | succ fu64 ih64 =>
                  intro z64_7 k _ me64 iv64_0
                  refine x_iload C dX12_baskets_64 8 rfl rfl ?_
                  refine x_aload_n C dX12_baskets_66 rfl 0 rfl rfl ?_
                  refine x_get C (ci := 11) (k := 36) 0 k65 rfl in_X12 (by decide) w_1154 rfl dX12_baskets_67 rfl ?_
                  refine x_icmp_ge C (tgt := 112) dX12_baskets_70 (by decide) rfl (fun c100 => ?_) (fun c100 => ?_)
                  · skip
                    have nf101 := nI_le' (a := n87) (b := k) c100 (by omega) (by omega)
                    refine x_iload C dX12_baskets_112 7 rfl rfl ?_
                    refine x_iload_n C dX12_baskets_114 rfl 2 rfl rfl ?_
                    refine x_icmp_eq C (tgt := 121) dX12_baskets_115 (by decide) rfl (fun c102 => ?_) (fun c102 => ?_)
                    · skip
                      refine x_iload C dX12_baskets_121 4 rfl rfl ?_
                      refine x_iconst C (v := 1) dX12_baskets_123 (by decide) rfl ?_
                      refine x_iadd C (v := (z47_4 + (1 : Int32))) dX12_baskets_124 rfl rfl ?_
                      refine x_any (fun v103 => ?_)
                      refine x_istore C (lv' := [(4, .int v103), (0, .ref (a 0)), (1, .int (nI j34)), (2, .int (nI j45)), (3, .int (nI j56)), (5, .int z47_5), (6, .int (nI se)), (7, .int z64_7), (8, .int (nI k))]) dX12_baskets_125 (by decide) rfl rfl ?_
                      refine x_iload C dX12_baskets_127 5 rfl rfl ?_
                      refine x_bipush C (v := (-2)) dX12_baskets_129 (by decide) rfl ?_
                      refine x_icmp_eq C (tgt := 147) dX12_baskets_131 (by decide) rfl (fun c104 => ?_) (fun c104 => ?_)
                      · skip
                        refine x_iload C dX12_baskets_147 6 rfl rfl ?_
                        refine x_istore C (lv' := [(5, .int (nI se)), (4, .int v103), (0, .ref (a 0)), (1, .int (nI j34)), (2, .int (nI j45)), (3, .int (nI j56)), (6, .int (nI se)), (7, .int z64_7), (8, .int (nI k))]) dX12_baskets_149 (by decide) rfl rfl ?_
                        refine x_iinc C (v := (nI (se + 1))) (lv' := [(6, .int (nI (se + 1))), (5, .int (nI se)), (4, .int v103), (0, .ref (a 0)), (1, .int (nI j34)), (2, .int (nI j45)), (3, .int (nI j56)), (7, .int z64_7), (8, .int (nI k))]) dX12_baskets_151 6 rfl (nI_add se 1) (by decide) rfl rfl ?_
                        refine x_goto C (tgt := 47) dX12_baskets_154 (by decide) ?_
                        refine x_lv (lv1 := [(0, .ref (a 0)), (1, .int (nI j34)), (2, .int (nI j45)), (3, .int (nI j56)), (4, .int v103), (5, .int (nI se)), (6, .int (nI (se + 1)))]) [3, 4, 5, 6, 2, 1, 0] rfl ?_
                        exact ih47 v103 ((nI se)) (se + 1) trivial (by omega) (by omega)
                      · skip
                        refine x_iload C dX12_baskets_134 6 rfl rfl ?_
                        refine x_si C (As := [.int (nI se)]) (rest := []) (m_bits E l a cd hG kf jn js jq w62 hW63 ((nI se))) mf_X12_bits w_1559 rfl rfl (Nat.le_of_ble_eq_true rfl) ⟨(Nat.le_of_ble_eq_true rfl), (Nat.le_of_ble_eq_true rfl)⟩ ⟨(Nat.le_of_ble_eq_true rfl), (Nat.le_of_ble_eq_true rfl)⟩ dX12_baskets_136 rfl (fun r106 w107 h105 => ?_)
                        obtain ⟨hW108, x109⟩ := h105
                        refine x_ws hW108 ?_
                        refine x_iload C dX12_baskets_139 5 rfl rfl ?_
                        refine x_si C (As := [.int z47_5]) (rest := [.int r106]) (m_bits E l a cd hG kf jn js jq w62 hW63 z47_5) mf_X12_bits w_1559 rfl rfl (Nat.le_of_ble_eq_true rfl) ⟨(Nat.le_of_ble_eq_true rfl), (Nat.le_of_ble_eq_true rfl)⟩ ⟨(Nat.le_of_ble_eq_true rfl), (Nat.le_of_ble_eq_true rfl)⟩ dX12_baskets_141 rfl (fun r111 w112 h110 => ?_)
                        obtain ⟨hW113, x114⟩ := h110
                        refine x_ws hW113 ?_
                        refine x_icmp_ge C (tgt := 151) dX12_baskets_144 (by decide) rfl (fun c115 => ?_) (fun c115 => ?_)
                        · skip
                          refine x_iinc C (v := (nI (se + 1))) (lv' := [(6, .int (nI (se + 1))), (4, .int v103), (0, .ref (a 0)), (1, .int (nI j34)), (2, .int (nI j45)), (3, .int (nI j56)), (5, .int z47_5), (7, .int z64_7), (8, .int (nI k))]) dX12_baskets_151 6 rfl (nI_add se 1) (by decide) rfl rfl ?_
                          refine x_goto C (tgt := 47) dX12_baskets_154 (by decide) ?_
                          refine x_lv (lv1 := [(0, .ref (a 0)), (1, .int (nI j34)), (2, .int (nI j45)), (3, .int (nI j56)), (4, .int v103), (5, .int z47_5), (6, .int (nI (se + 1)))]) [2, 3, 4, 5, 1, 6, 0] rfl ?_
                          exact ih47 v103 z47_5 (se + 1) trivial (by omega) (by omega)
                        · skip
                          refine x_iload C dX12_baskets_147 6 rfl rfl ?_
                          refine x_istore C (lv' := [(5, .int (nI se)), (4, .int v103), (0, .ref (a 0)), (1, .int (nI j34)), (2, .int (nI j45)), (3, .int (nI j56)), (6, .int (nI se)), (7, .int z64_7), (8, .int (nI k))]) dX12_baskets_149 (by decide) rfl rfl ?_
                          refine x_iinc C (v := (nI (se + 1))) (lv' := [(6, .int (nI (se + 1))), (5, .int (nI se)), (4, .int v103), (0, .ref (a 0)), (1, .int (nI j34)), (2, .int (nI j45)), (3, .int (nI j56)), (7, .int z64_7), (8, .int (nI k))]) dX12_baskets_151 6 rfl (nI_add se 1) (by decide) rfl rfl ?_
                          refine x_goto C (tgt := 47) dX12_baskets_154 (by decide) ?_
                          refine x_lv (lv1 := [(0, .ref (a 0)), (1, .int (nI j34)), (2, .int (nI j45)), (3, .int (nI j56)), (4, .int v103), (5, .int (nI se)), (6, .int (nI (se + 1)))]) [3, 4, 5, 6, 2, 1, 0] rfl ?_
                          exact ih47 v103 ((nI se)) (se + 1) trivial (by omega) (by omega)
                    · skip
                      refine x_goto C (tgt := 151) dX12_baskets_118 (by decide) ?_
                      refine x_iinc C (v := (nI (se + 1))) (lv' := [(6, .int (nI (se + 1))), (0, .ref (a 0)), (1, .int (nI j34)), (2, .int (nI j45)), (3, .int (nI j56)), (4, .int z47_4), (5, .int z47_5), (7, .int z64_7), (8, .int (nI k))]) dX12_baskets_151 6 rfl (nI_add se 1) (by decide) rfl rfl ?_
                      refine x_goto C (tgt := 47) dX12_baskets_154 (by decide) ?_
                      refine x_lv (lv1 := [(0, .ref (a 0)), (1, .int (nI j34)), (2, .int (nI j45)), (3, .int (nI j56)), (4, .int z47_4), (5, .int z47_5), (6, .int (nI (se + 1)))]) [1, 2, 3, 4, 5, 6, 0] rfl ?_
                      exact ih47 z47_4 z47_5 (se + 1) trivial (by omega) (by omega)
                  · skip
                    have nf116 := nI_nle' (a := n87) (b := k) c100 (by omega) (by omega)
                    refine x_iload C dX12_baskets_73 7 rfl rfl ?_
                    refine x_iload C dX12_baskets_75 6 rfl rfl ?_
                    refine x_iload C dX12_baskets_77 8 rfl rfl ?_
                    refine x_si C (As := [.int (nI se), .int (nI k)]) (rest := [.int z64_7]) (m_has E l a cd hG kf jn js jq w62 hW63 ((nI se)) ((nI k))) mf_X12_has w_1274 rfl rfl (Nat.le_of_ble_eq_true rfl) ⟨(Nat.le_of_ble_eq_true rfl), (Nat.le_of_ble_eq_true rfl)⟩ ⟨(Nat.le_of_ble_eq_true rfl), (Nat.le_of_ble_eq_true rfl)⟩ dX12_baskets_79 rfl (fun r118 w119 h117 => ?_)
                    obtain ⟨hW120, zb121, x122⟩ := h117
                    refine x_ws hW120 ?_
                    refine x_if_eq C (tgt := 102) dX12_baskets_82 (by decide) rfl (fun c123 => ?_) (fun c123 => ?_)
                    · skip
                      refine x_iconst C (v := 0) dX12_baskets_102 (by decide) rfl ?_
                      refine x_iadd C (v := (z64_7 + (0 : Int32))) dX12_baskets_103 rfl rfl ?_
                      refine x_any (fun v124 => ?_)
                      refine x_istore C (lv' := [(7, .int v124), (0, .ref (a 0)), (1, .int (nI j34)), (2, .int (nI j45)), (3, .int (nI j56)), (4, .int z47_4), (5, .int z47_5), (6, .int (nI se)), (8, .int (nI k))]) dX12_baskets_104 (by decide) rfl rfl ?_
                      refine x_iinc C (v := (nI (k + 1))) (lv' := [(8, .int (nI (k + 1))), (7, .int v124), (0, .ref (a 0)), (1, .int (nI j34)), (2, .int (nI j45)), (3, .int (nI j56)), (4, .int z47_4), (5, .int z47_5), (6, .int (nI se))]) dX12_baskets_106 8 rfl (nI_add k 1) (by decide) rfl rfl ?_
                      refine x_goto C (tgt := 64) dX12_baskets_109 (by decide) ?_
                      refine x_lv (lv1 := [(0, .ref (a 0)), (1, .int (nI j34)), (2, .int (nI j45)), (3, .int (nI j56)), (4, .int z47_4), (5, .int z47_5), (6, .int (nI se)), (7, .int v124), (8, .int (nI (k + 1)))]) [2, 3, 4, 5, 6, 7, 8, 1, 0] rfl ?_
                      exact ih64 v124 (k + 1) trivial (by omega) (by omega)
                    · skip
                      refine x_aload_n C dX12_baskets_85 rfl 0 rfl rfl ?_
                      refine x_get C (ci := 11) (k := 0) 0 k65 rfl in_X12 (by decide) w_1118 rfl dX12_baskets_86 rfl ?_
                      refine x_iconst C (v := 0) dX12_baskets_89 (by decide) rfl ?_
                      refine x_aload_n C dX12_baskets_90 rfl 0 rfl rfl ?_
                      refine x_get C (ci := 11) (k := 38) 0 k65 rfl in_X12 (by decide) w_1156 rfl dX12_baskets_91 rfl ?_
                      refine x_iload C dX12_baskets_94 8 rfl rfl ?_
                      obtain ⟨_, k125, g126, gb127, rfl⟩ := hW63 22 _ rfl
                      refine x_ialk C (v := nI (g126 k)) k (nI_clamp (by omega)) (nI_pos (by omega)) (by omega) 22 k125 rfl dX12_baskets_96 rfl ?_
                      have bx128 := gb127 k
                      refine x_iadd C (v := (nI (0 + (g126 k)))) dX12_baskets_97 (nI_add 0 (g126 k)) rfl ?_
                      obtain ⟨_, k129, f130, pf131, rfl⟩ := hW63 1 _ rfl
                      refine x_iald C (v := (f130 (nI (0 + (g126 k))).toNatClampNeg)) 1 k129 (vp_in_nI (by omega) (by decide)) rfl dX12_baskets_98 rfl ?_
                      refine x_any (fun v132 => ?_)
                      refine x_goto C (tgt := 103) dX12_baskets_99 (by decide) ?_
                      refine x_iadd C (v := (z64_7 + v132)) dX12_baskets_103 rfl rfl ?_
                      refine x_any (fun v133 => ?_)
                      refine x_istore C (lv' := [(7, .int v133), (0, .ref (a 0)), (1, .int (nI j34)), (2, .int (nI j45)), (3, .int (nI j56)), (4, .int z47_4), (5, .int z47_5), (6, .int (nI se)), (8, .int (nI k))]) dX12_baskets_104 (by decide) rfl rfl ?_
                      refine x_iinc C (v := (nI (k + 1))) (lv' := [(8, .int (nI (k + 1))), (7, .int v133), (0, .ref (a 0)), (1, .int (nI j34)), (2, .int (nI j45)), (3, .int (nI j56)), (4, .int z47_4), (5, .int z47_5), (6, .int (nI se))]) dX12_baskets_106 8 rfl (nI_add k 1) (by decide) rfl rfl ?_
                      refine x_goto C (tgt := 64) dX12_baskets_109 (by decide) ?_
                      refine x_lv (lv1 := [(0, .ref (a 0)), (1, .int (nI j34)), (2, .int (nI j45)), (3, .int (nI j56)), (4, .int z47_4), (5, .int z47_5), (6, .int (nI se)), (7, .int v133), (8, .int (nI (k + 1)))]) [2, 3, 4, 5, 6, 7, 8, 1, 0] rfl ?_
                      exact ih64 v133 (k + 1) trivial (by omega) (by omega)
              refine x_lv (lv1 := [(0, .ref (a 0)), (1, .int (nI j34)), (2, .int (nI j45)), (3, .int (nI j56)), (4, .int z47_4), (5, .int z47_5), (6, .int (nI se)), (7, .int 0), (8, .int 0)]) [2, 3, 4, 5, 6, 7, 8, 1, 0] rfl ?_
              exact loop64 _ (0 : Int32) 0 trivial (Nat.lt_succ_self _) (by omega)
        refine x_lv (lv1 := [(0, .ref (a 0)), (1, .int (nI j34)), (2, .int (nI j45)), (3, .int (nI j56)), (4, .int 0), (5, .int (-2)), (6, .int 0)]) [3, 4, 5, 6, 2, 1, 0] rfl ?_
        exact loop47 _ (0 : Int32) ((-2) : Int32) 0 trivial (Nat.lt_succ_self _) (by omega)
      · skip
        refine x_iconst C (v := (-1)) dX12_baskets_28 (by decide) rfl ?_
        exact x_zret C hr hlk rfl dX12_baskets_29 hW
theorem dX12_barter_0 : decode cX12_barter 0 = .ok (.aload_n 0, 1) := by decide +kernel
theorem dX12_barter_1 : decode cX12_barter 1 = .ok (.iload_n 1, 1) := by decide +kernel
theorem dX12_barter_2 : decode cX12_barter 2 = .ok (.invokevirtual 113, 3) := by decide +kernel
theorem dX12_barter_5 : decode cX12_barter 5 = .ok (.ifCond .eq 49, 3) := by decide +kernel
theorem dX12_barter_8 : decode cX12_barter 8 = .ok (.aload_n 0, 1) := by decide +kernel
theorem dX12_barter_9 : decode cX12_barter 9 = .ok (.iload_n 2, 1) := by decide +kernel
theorem dX12_barter_10 : decode cX12_barter 10 = .ok (.invokevirtual 113, 3) := by decide +kernel
theorem dX12_barter_13 : decode cX12_barter 13 = .ok (.ifCond .eq 41, 3) := by decide +kernel
theorem dX12_barter_16 : decode cX12_barter 16 = .ok (.iload_n 1, 1) := by decide +kernel
theorem dX12_barter_17 : decode cX12_barter 17 = .ok (.iload_n 2, 1) := by decide +kernel
theorem dX12_barter_18 : decode cX12_barter 18 = .ok (.if_icmp .eq 36, 3) := by decide +kernel
theorem dX12_barter_21 : decode cX12_barter 21 = .ok (.iload_n 3, 1) := by decide +kernel
theorem dX12_barter_22 : decode cX12_barter 22 = .ok (.iconst 0, 1) := by decide +kernel
theorem dX12_barter_23 : decode cX12_barter 23 = .ok (.sipush 9999, 3) := by decide +kernel
theorem dX12_barter_26 : decode cX12_barter 26 = .ok (.invokestatic 109, 3) := by decide +kernel
theorem dX12_barter_29 : decode cX12_barter 29 = .ok (.ifCond .eq 25, 3) := by decide +kernel
theorem dX12_barter_32 : decode cX12_barter 32 = .ok (.iload 4, 2) := by decide +kernel
theorem dX12_barter_34 : decode cX12_barter 34 = .ok (.iconst 0, 1) := by decide +kernel
theorem dX12_barter_35 : decode cX12_barter 35 = .ok (.sipush 9999, 3) := by decide +kernel
theorem dX12_barter_38 : decode cX12_barter 38 = .ok (.invokestatic 109, 3) := by decide +kernel
theorem dX12_barter_41 : decode cX12_barter 41 = .ok (.ifCond .eq 13, 3) := by decide +kernel
theorem dX12_barter_44 : decode cX12_barter 44 = .ok (.iload 5, 2) := by decide +kernel
theorem dX12_barter_46 : decode cX12_barter 46 = .ok (.iconst 0, 1) := by decide +kernel
theorem dX12_barter_47 : decode cX12_barter 47 = .ok (.iconst 2, 1) := by decide +kernel
theorem dX12_barter_48 : decode cX12_barter 48 = .ok (.invokestatic 109, 3) := by decide +kernel
theorem dX12_barter_51 : decode cX12_barter 51 = .ok (.ifCond .ne 5, 3) := by decide +kernel
theorem dX12_barter_54 : decode cX12_barter 54 = .ok (.iconst (-1), 1) := by decide +kernel
theorem dX12_barter_55 : decode cX12_barter 55 = .ok (.ireturn, 1) := by decide +kernel
theorem dX12_barter_56 : decode cX12_barter 56 = .ok (.aload_n 0, 1) := by decide +kernel
theorem dX12_barter_57 : decode cX12_barter 57 = .ok (.iload_n 1, 1) := by decide +kernel
theorem dX12_barter_58 : decode cX12_barter 58 = .ok (.iconst 1, 1) := by decide +kernel
theorem dX12_barter_59 : decode cX12_barter 59 = .ok (.invokevirtual 337, 3) := by decide +kernel
theorem dX12_barter_62 : decode cX12_barter 62 = .ok (.istore 6, 2) := by decide +kernel
theorem dX12_barter_64 : decode cX12_barter 64 = .ok (.aload_n 0, 1) := by decide +kernel
theorem dX12_barter_65 : decode cX12_barter 65 = .ok (.iload_n 2, 1) := by decide +kernel
theorem dX12_barter_66 : decode cX12_barter 66 = .ok (.iconst 1, 1) := by decide +kernel
theorem dX12_barter_67 : decode cX12_barter 67 = .ok (.invokevirtual 337, 3) := by decide +kernel
theorem dX12_barter_70 : decode cX12_barter 70 = .ok (.istore 7, 2) := by decide +kernel
theorem dX12_barter_72 : decode cX12_barter 72 = .ok (.iconst 0, 1) := by decide +kernel
theorem dX12_barter_73 : decode cX12_barter 73 = .ok (.istore 8, 2) := by decide +kernel
theorem dX12_barter_75 : decode cX12_barter 75 = .ok (.iconst (-1), 1) := by decide +kernel
theorem dX12_barter_76 : decode cX12_barter 76 = .ok (.istore 9, 2) := by decide +kernel
theorem dX12_barter_78 : decode cX12_barter 78 = .ok (.iconst 0, 1) := by decide +kernel
theorem dX12_barter_79 : decode cX12_barter 79 = .ok (.istore 10, 2) := by decide +kernel
theorem dX12_barter_81 : decode cX12_barter 81 = .ok (.iload 10, 2) := by decide +kernel
theorem dX12_barter_83 : decode cX12_barter 83 = .ok (.aload_n 0, 1) := by decide +kernel
theorem dX12_barter_84 : decode cX12_barter 84 = .ok (.getfield 7, 3) := by decide +kernel
theorem dX12_barter_87 : decode cX12_barter 87 = .ok (.sipush 381, 3) := by decide +kernel
theorem dX12_barter_90 : decode cX12_barter 90 = .ok (.iaload, 1) := by decide +kernel
theorem dX12_barter_91 : decode cX12_barter 91 = .ok (.if_icmp .ge 173, 3) := by decide +kernel
theorem dX12_barter_94 : decode cX12_barter 94 = .ok (.aload_n 0, 1) := by decide +kernel
theorem dX12_barter_95 : decode cX12_barter 95 = .ok (.iload 10, 2) := by decide +kernel
theorem dX12_barter_97 : decode cX12_barter 97 = .ok (.invokevirtual 268, 3) := by decide +kernel
theorem dX12_barter_100 : decode cX12_barter 100 = .ok (.ifCond .eq 158, 3) := by decide +kernel
theorem dX12_barter_103 : decode cX12_barter 103 = .ok (.aload_n 0, 1) := by decide +kernel
theorem dX12_barter_104 : decode cX12_barter 104 = .ok (.getfield 7, 3) := by decide +kernel
theorem dX12_barter_107 : decode cX12_barter 107 = .ok (.sipush 144, 3) := by decide +kernel
theorem dX12_barter_110 : decode cX12_barter 110 = .ok (.iload 10, 2) := by decide +kernel
theorem dX12_barter_112 : decode cX12_barter 112 = .ok (.iadd, 1) := by decide +kernel
theorem dX12_barter_113 : decode cX12_barter 113 = .ok (.iaload, 1) := by decide +kernel
theorem dX12_barter_114 : decode cX12_barter 114 = .ok (.iload_n 1, 1) := by decide +kernel
theorem dX12_barter_115 : decode cX12_barter 115 = .ok (.if_icmp .eq 6, 3) := by decide +kernel
theorem dX12_barter_118 : decode cX12_barter 118 = .ok (.goto 140, 3) := by decide +kernel
theorem dX12_barter_121 : decode cX12_barter 121 = .ok (.iconst 0, 1) := by decide +kernel
theorem dX12_barter_122 : decode cX12_barter 122 = .ok (.istore 11, 2) := by decide +kernel
theorem dX12_barter_124 : decode cX12_barter 124 = .ok (.iload 11, 2) := by decide +kernel
theorem dX12_barter_126 : decode cX12_barter 126 = .ok (.aload_n 0, 1) := by decide +kernel
theorem dX12_barter_127 : decode cX12_barter 127 = .ok (.getfield 7, 3) := by decide +kernel
theorem dX12_barter_130 : decode cX12_barter 130 = .ok (.sipush 381, 3) := by decide +kernel
theorem dX12_barter_133 : decode cX12_barter 133 = .ok (.iaload, 1) := by decide +kernel
theorem dX12_barter_134 : decode cX12_barter 134 = .ok (.if_icmp .ge 124, 3) := by decide +kernel
theorem dX12_barter_137 : decode cX12_barter 137 = .ok (.aload_n 0, 1) := by decide +kernel
theorem dX12_barter_138 : decode cX12_barter 138 = .ok (.iload 11, 2) := by decide +kernel
theorem dX12_barter_140 : decode cX12_barter 140 = .ok (.invokevirtual 268, 3) := by decide +kernel
theorem dX12_barter_143 : decode cX12_barter 143 = .ok (.ifCond .eq 109, 3) := by decide +kernel
theorem dX12_barter_146 : decode cX12_barter 146 = .ok (.aload_n 0, 1) := by decide +kernel
theorem dX12_barter_147 : decode cX12_barter 147 = .ok (.getfield 7, 3) := by decide +kernel
theorem dX12_barter_150 : decode cX12_barter 150 = .ok (.sipush 144, 3) := by decide +kernel
theorem dX12_barter_153 : decode cX12_barter 153 = .ok (.iload 11, 2) := by decide +kernel
theorem dX12_barter_155 : decode cX12_barter 155 = .ok (.iadd, 1) := by decide +kernel
theorem dX12_barter_156 : decode cX12_barter 156 = .ok (.iaload, 1) := by decide +kernel
theorem dX12_barter_157 : decode cX12_barter 157 = .ok (.iload_n 2, 1) := by decide +kernel
theorem dX12_barter_158 : decode cX12_barter 158 = .ok (.if_icmp .eq 6, 3) := by decide +kernel
theorem dX12_barter_161 : decode cX12_barter 161 = .ok (.goto 91, 3) := by decide +kernel
theorem dX12_barter_164 : decode cX12_barter 164 = .ok (.aload_n 0, 1) := by decide +kernel
theorem dX12_barter_165 : decode cX12_barter 165 = .ok (.getfield 7, 3) := by decide +kernel
theorem dX12_barter_168 : decode cX12_barter 168 = .ok (.iconst 0, 1) := by decide +kernel
theorem dX12_barter_169 : decode cX12_barter 169 = .ok (.iload 11, 2) := by decide +kernel
theorem dX12_barter_171 : decode cX12_barter 171 = .ok (.iadd, 1) := by decide +kernel
theorem dX12_barter_172 : decode cX12_barter 172 = .ok (.iaload, 1) := by decide +kernel
theorem dX12_barter_173 : decode cX12_barter 173 = .ok (.aload_n 0, 1) := by decide +kernel
theorem dX12_barter_174 : decode cX12_barter 174 = .ok (.getfield 7, 3) := by decide +kernel
theorem dX12_barter_177 : decode cX12_barter 177 = .ok (.iconst 0, 1) := by decide +kernel
theorem dX12_barter_178 : decode cX12_barter 178 = .ok (.iload 10, 2) := by decide +kernel
theorem dX12_barter_180 : decode cX12_barter 180 = .ok (.iadd, 1) := by decide +kernel
theorem dX12_barter_181 : decode cX12_barter 181 = .ok (.iaload, 1) := by decide +kernel
theorem dX12_barter_182 : decode cX12_barter 182 = .ok (.isub, 1) := by decide +kernel
theorem dX12_barter_183 : decode cX12_barter 183 = .ok (.istore 12, 2) := by decide +kernel
theorem dX12_barter_185 : decode cX12_barter 185 = .ok (.iload 6, 2) := by decide +kernel
theorem dX12_barter_187 : decode cX12_barter 187 = .ok (.iload 12, 2) := by decide +kernel
theorem dX12_barter_189 : decode cX12_barter 189 = .ok (.iadd, 1) := by decide +kernel
theorem dX12_barter_190 : decode cX12_barter 190 = .ok (.iload_n 3, 1) := by decide +kernel
theorem dX12_barter_191 : decode cX12_barter 191 = .ok (.invokestatic 399, 3) := by decide +kernel
theorem dX12_barter_194 : decode cX12_barter 194 = .ok (.iload 6, 2) := by decide +kernel
theorem dX12_barter_196 : decode cX12_barter 196 = .ok (.iload_n 3, 1) := by decide +kernel
theorem dX12_barter_197 : decode cX12_barter 197 = .ok (.invokestatic 399, 3) := by decide +kernel
theorem dX12_barter_200 : decode cX12_barter 200 = .ok (.if_icmp .ge 52, 3) := by decide +kernel
theorem dX12_barter_203 : decode cX12_barter 203 = .ok (.iload 7, 2) := by decide +kernel
theorem dX12_barter_205 : decode cX12_barter 205 = .ok (.iload 12, 2) := by decide +kernel
theorem dX12_barter_207 : decode cX12_barter 207 = .ok (.isub, 1) := by decide +kernel
theorem dX12_barter_208 : decode cX12_barter 208 = .ok (.iload 4, 2) := by decide +kernel
theorem dX12_barter_210 : decode cX12_barter 210 = .ok (.invokestatic 399, 3) := by decide +kernel
theorem dX12_barter_213 : decode cX12_barter 213 = .ok (.iload 7, 2) := by decide +kernel
theorem dX12_barter_215 : decode cX12_barter 215 = .ok (.iload 4, 2) := by decide +kernel
theorem dX12_barter_217 : decode cX12_barter 217 = .ok (.invokestatic 399, 3) := by decide +kernel
theorem dX12_barter_220 : decode cX12_barter 220 = .ok (.if_icmp .lt 6, 3) := by decide +kernel
theorem dX12_barter_223 : decode cX12_barter 223 = .ok (.goto 29, 3) := by decide +kernel
theorem dX12_barter_226 : decode cX12_barter 226 = .ok (.iload 8, 2) := by decide +kernel
theorem dX12_barter_228 : decode cX12_barter 228 = .ok (.ifCond .ne 14, 3) := by decide +kernel
theorem dX12_barter_231 : decode cX12_barter 231 = .ok (.bipush 48, 2) := by decide +kernel
theorem dX12_barter_233 : decode cX12_barter 233 = .ok (.iload 10, 2) := by decide +kernel
theorem dX12_barter_235 : decode cX12_barter 235 = .ok (.imul, 1) := by decide +kernel
theorem dX12_barter_236 : decode cX12_barter 236 = .ok (.iload 11, 2) := by decide +kernel
theorem dX12_barter_238 : decode cX12_barter 238 = .ok (.iadd, 1) := by decide +kernel
theorem dX12_barter_239 : decode cX12_barter 239 = .ok (.goto 5, 3) := by decide +kernel
theorem dX12_barter_242 : decode cX12_barter 242 = .ok (.iload 9, 2) := by decide +kernel
theorem dX12_barter_244 : decode cX12_barter 244 = .ok (.istore 9, 2) := by decide +kernel
theorem dX12_barter_246 : decode cX12_barter 246 = .ok (.iload 8, 2) := by decide +kernel
theorem dX12_barter_248 : decode cX12_barter 248 = .ok (.iconst 1, 1) := by decide +kernel
theorem dX12_barter_249 : decode cX12_barter 249 = .ok (.iadd, 1) := by decide +kernel
theorem dX12_barter_250 : decode cX12_barter 250 = .ok (.istore 8, 2) := by decide +kernel
theorem dX12_barter_252 : decode cX12_barter 252 = .ok (.iinc 11 1, 3) := by decide +kernel
theorem dX12_barter_255 : decode cX12_barter 255 = .ok (.goto (-131), 3) := by decide +kernel
theorem dX12_barter_258 : decode cX12_barter 258 = .ok (.iinc 10 1, 3) := by decide +kernel
theorem dX12_barter_261 : decode cX12_barter 261 = .ok (.goto (-180), 3) := by decide +kernel
theorem dX12_barter_264 : decode cX12_barter 264 = .ok (.iload 5, 2) := by decide +kernel
theorem dX12_barter_266 : decode cX12_barter 266 = .ok (.ifCond .ne 8, 3) := by decide +kernel
theorem dX12_barter_269 : decode cX12_barter 269 = .ok (.iload 8, 2) := by decide +kernel
theorem dX12_barter_271 : decode cX12_barter 271 = .ok (.goto 33, 3) := by decide +kernel
theorem dX12_barter_274 : decode cX12_barter 274 = .ok (.iload 9, 2) := by decide +kernel
theorem dX12_barter_276 : decode cX12_barter 276 = .ok (.iconst (-1), 1) := by decide +kernel
theorem dX12_barter_277 : decode cX12_barter 277 = .ok (.if_icmp .ne 8, 3) := by decide +kernel
theorem dX12_barter_280 : decode cX12_barter 280 = .ok (.bipush (-2), 2) := by decide +kernel
theorem dX12_barter_282 : decode cX12_barter 282 = .ok (.goto 22, 3) := by decide +kernel
theorem dX12_barter_285 : decode cX12_barter 285 = .ok (.iload 5, 2) := by decide +kernel
theorem dX12_barter_287 : decode cX12_barter 287 = .ok (.iconst 1, 1) := by decide +kernel
theorem dX12_barter_288 : decode cX12_barter 288 = .ok (.if_icmp .ne 11, 3) := by decide +kernel
theorem dX12_barter_291 : decode cX12_barter 291 = .ok (.iload 9, 2) := by decide +kernel
theorem dX12_barter_293 : decode cX12_barter 293 = .ok (.bipush 48, 2) := by decide +kernel
theorem dX12_barter_295 : decode cX12_barter 295 = .ok (.idiv, 1) := by decide +kernel
theorem dX12_barter_296 : decode cX12_barter 296 = .ok (.goto 8, 3) := by decide +kernel
theorem dX12_barter_299 : decode cX12_barter 299 = .ok (.iload 9, 2) := by decide +kernel
theorem dX12_barter_301 : decode cX12_barter 301 = .ok (.bipush 48, 2) := by decide +kernel
theorem dX12_barter_303 : decode cX12_barter 303 = .ok (.irem, 1) := by decide +kernel
theorem dX12_barter_304 : decode cX12_barter 304 = .ok (.ireturn, 1) := by decide +kernel
set_option maxRecDepth 20000 in
set_option maxHeartbeats 4000000 in
theorem m_barter (E : xE) (l : Launch) (a : Nat → Nat) (cd : Cd) (hG : Good cd) (kf : Int32) (jn js jq : Lb) (ws : va_W) (hW : WX (okM E a cd kf jn js jq) ws) (p0 : Int32) (p1 : Int32) (p2 : Int32) (p3 : Int32) (p4 : Int32) : xI E l yX12_barter cX12_barter 13 (some .int) 8 [.ref (a 0), .int p0, .int p1, .int p2, .int p3, .int p4] ws (fun r w => WX (okM E a cd kf jn js jq) w) := by
  refine xI_start (lv := [(0, .ref (a 0)), (1, .int p0), (2, .int p1), (3, .int p2), (4, .int p3), (5, .int p4)]) RX12 (by decide) rfl (Nat.le_of_ble_eq_true rfl) rfl (fun p e s m below meth c A C hr hlk => ?_)
  refine x_aload_n C dX12_barter_0 rfl 0 rfl rfl ?_
  refine x_iload_n C dX12_barter_1 rfl 1 rfl rfl ?_
  obtain ⟨_, k1, n2, n4, n6, v8, v9, v10, n11, n13, n15, n17, v19, v20, v21, v22, n23, n25, bn3, bn5, bn7, bn12, bn14, bn16, bn18, bn24, bn26, rfl⟩ := hW 0 _ rfl
  refine x_vi C (As := [.int p0]) (rest := []) (m_isPerson E l a cd hG kf jn js jq ws hW p0) mf_X12_isPerson w_1270 0 k1 rfl rfl rfl (Nat.le_of_ble_eq_true rfl) ⟨(Nat.le_of_ble_eq_true rfl), (Nat.le_of_ble_eq_true rfl)⟩ ⟨(Nat.le_of_ble_eq_true rfl), (Nat.le_of_ble_eq_true rfl)⟩ dX12_barter_2 rfl (fun r28 w29 h27 => ?_)
  obtain ⟨hW30, zb31, x32⟩ := h27
  refine x_ws hW30 ?_
  refine x_if_eq C (tgt := 54) dX12_barter_5 (by decide) rfl (fun c33 => ?_) (fun c33 => ?_)
  · skip
    refine x_iconst C (v := (-1)) dX12_barter_54 (by decide) rfl ?_
    exact x_zret C hr hlk rfl dX12_barter_55 hW
  · skip
    obtain ⟨j34, hl35, hh36, ej37⟩ := w_nat (a := 0) (b := 7) (by decide) (by decide) (x32 c33)
    subst ej37
    refine x_aload_n C dX12_barter_8 rfl 0 rfl rfl ?_
    refine x_iload_n C dX12_barter_9 rfl 2 rfl rfl ?_
    refine x_vi C (As := [.int p1]) (rest := []) (m_isPerson E l a cd hG kf jn js jq ws hW p1) mf_X12_isPerson w_1270 0 k1 rfl rfl rfl (Nat.le_of_ble_eq_true rfl) ⟨(Nat.le_of_ble_eq_true rfl), (Nat.le_of_ble_eq_true rfl)⟩ ⟨(Nat.le_of_ble_eq_true rfl), (Nat.le_of_ble_eq_true rfl)⟩ dX12_barter_10 rfl (fun r39 w40 h38 => ?_)
    obtain ⟨hW41, zb42, x43⟩ := h38
    refine x_ws hW41 ?_
    refine x_if_eq C (tgt := 54) dX12_barter_13 (by decide) rfl (fun c44 => ?_) (fun c44 => ?_)
    · skip
      refine x_iconst C (v := (-1)) dX12_barter_54 (by decide) rfl ?_
      exact x_zret C hr hlk rfl dX12_barter_55 hW
    · skip
      obtain ⟨j45, hl46, hh47, ej48⟩ := w_nat (a := 0) (b := 7) (by decide) (by decide) (x43 c44)
      subst ej48
      refine x_iload_n C dX12_barter_16 rfl 1 rfl rfl ?_
      refine x_iload_n C dX12_barter_17 rfl 2 rfl rfl ?_
      refine x_icmp_eq C (tgt := 54) dX12_barter_18 (by decide) rfl (fun c49 => ?_) (fun c49 => ?_)
      · skip
        have nf50 : j34 = j45 := (nI_eq (by omega) (by omega)).mp c49
        refine x_iconst C (v := (-1)) dX12_barter_54 (by decide) rfl ?_
        exact x_zret C hr hlk rfl dX12_barter_55 hW
      · skip
        have nf51 : ¬ j34 = j45 := fun q => c49 (congrArg nI q)
        refine x_iload_n C dX12_barter_21 rfl 3 rfl rfl ?_
        refine x_iconst C (v := 0) dX12_barter_22 (by decide) rfl ?_
        refine x_sipush C (v := 9999) dX12_barter_23 (by decide) rfl ?_
        refine x_si C (As := [.int p2, .int 0, .int 9999]) (rest := []) (m_in E l a cd hG kf jn js jq ws hW p2 (0 : Int32) (9999 : Int32)) mf_X12_in w_1267 rfl rfl (Nat.le_of_ble_eq_true rfl) ⟨(Nat.le_of_ble_eq_true rfl), (Nat.le_of_ble_eq_true rfl)⟩ ⟨(Nat.le_of_ble_eq_true rfl), (Nat.le_of_ble_eq_true rfl)⟩ dX12_barter_26 rfl (fun r53 w54 h52 => ?_)
        obtain ⟨hW55, zb56, x57⟩ := h52
        refine x_ws hW55 ?_
        refine x_if_eq C (tgt := 54) dX12_barter_29 (by decide) rfl (fun c58 => ?_) (fun c58 => ?_)
        · skip
          refine x_iconst C (v := (-1)) dX12_barter_54 (by decide) rfl ?_
          exact x_zret C hr hlk rfl dX12_barter_55 hW
        · skip
          obtain ⟨j59, hl60, hh61, ej62⟩ := w_nat (a := 0) (b := 9999) (by decide) (by decide) (x57 c58)
          subst ej62
          refine x_iload C dX12_barter_32 4 rfl rfl ?_
          refine x_iconst C (v := 0) dX12_barter_34 (by decide) rfl ?_
          refine x_sipush C (v := 9999) dX12_barter_35 (by decide) rfl ?_
          refine x_si C (As := [.int p3, .int 0, .int 9999]) (rest := []) (m_in E l a cd hG kf jn js jq ws hW p3 (0 : Int32) (9999 : Int32)) mf_X12_in w_1267 rfl rfl (Nat.le_of_ble_eq_true rfl) ⟨(Nat.le_of_ble_eq_true rfl), (Nat.le_of_ble_eq_true rfl)⟩ ⟨(Nat.le_of_ble_eq_true rfl), (Nat.le_of_ble_eq_true rfl)⟩ dX12_barter_38 rfl (fun r64 w65 h63 => ?_)
          obtain ⟨hW66, zb67, x68⟩ := h63
          refine x_ws hW66 ?_
          refine x_if_eq C (tgt := 54) dX12_barter_41 (by decide) rfl (fun c69 => ?_) (fun c69 => ?_)
          · skip
            refine x_iconst C (v := (-1)) dX12_barter_54 (by decide) rfl ?_
            exact x_zret C hr hlk rfl dX12_barter_55 hW
          · skip
            obtain ⟨j70, hl71, hh72, ej73⟩ := w_nat (a := 0) (b := 9999) (by decide) (by decide) (x68 c69)
            subst ej73
            refine x_iload C dX12_barter_44 5 rfl rfl ?_
            refine x_iconst C (v := 0) dX12_barter_46 (by decide) rfl ?_
            refine x_iconst C (v := 2) dX12_barter_47 (by decide) rfl ?_
            refine x_si C (As := [.int p4, .int 0, .int 2]) (rest := []) (m_in E l a cd hG kf jn js jq ws hW p4 (0 : Int32) (2 : Int32)) mf_X12_in w_1267 rfl rfl (Nat.le_of_ble_eq_true rfl) ⟨(Nat.le_of_ble_eq_true rfl), (Nat.le_of_ble_eq_true rfl)⟩ ⟨(Nat.le_of_ble_eq_true rfl), (Nat.le_of_ble_eq_true rfl)⟩ dX12_barter_48 rfl (fun r75 w76 h74 => ?_)
            obtain ⟨hW77, zb78, x79⟩ := h74
            refine x_ws hW77 ?_
            refine x_if_ne C (tgt := 56) dX12_barter_51 (by decide) rfl (fun c80 => ?_) (fun c80 => ?_)
            · skip
              obtain ⟨j81, hl82, hh83, ej84⟩ := w_nat (a := 0) (b := 2) (by decide) (by decide) (x79 c80)
              subst ej84
              refine x_aload_n C dX12_barter_56 rfl 0 rfl rfl ?_
              refine x_iload_n C dX12_barter_57 rfl 1 rfl rfl ?_
              refine x_iconst C (v := 1) dX12_barter_58 (by decide) rfl ?_
              refine x_vi C (As := [.int (nI j34), .int 1]) (rest := []) (m_eggsOf E l a cd hG kf jn js jq ws hW ((nI j34)) (1 : Int32)) mf_X12_eggsOf w_1543 0 k1 rfl rfl rfl (Nat.le_of_ble_eq_true rfl) ⟨(Nat.le_of_ble_eq_true rfl), (Nat.le_of_ble_eq_true rfl)⟩ ⟨(Nat.le_of_ble_eq_true rfl), (Nat.le_of_ble_eq_true rfl)⟩ dX12_barter_59 rfl (fun r86 w87 h85 => ?_)
              have hW88 := h85
              refine x_ws hW88 ?_
              refine x_istore C (lv' := [(6, .int r86), (0, .ref (a 0)), (1, .int (nI j34)), (2, .int (nI j45)), (3, .int (nI j59)), (4, .int (nI j70)), (5, .int (nI j81))]) dX12_barter_62 (by decide) rfl rfl ?_
              refine x_aload_n C dX12_barter_64 rfl 1 rfl rfl ?_
              refine x_iload_n C dX12_barter_65 rfl 3 rfl rfl ?_
              refine x_iconst C (v := 1) dX12_barter_66 (by decide) rfl ?_
              refine x_vi C (As := [.int (nI j45), .int 1]) (rest := []) (m_eggsOf E l a cd hG kf jn js jq ws hW ((nI j45)) (1 : Int32)) mf_X12_eggsOf w_1543 0 k1 rfl rfl rfl (Nat.le_of_ble_eq_true rfl) ⟨(Nat.le_of_ble_eq_true rfl), (Nat.le_of_ble_eq_true rfl)⟩ ⟨(Nat.le_of_ble_eq_true rfl), (Nat.le_of_ble_eq_true rfl)⟩ dX12_barter_67 rfl (fun r90 w91 h89 => ?_)
              have hW92 := h89
              refine x_ws hW92 ?_
              refine x_istore C (lv' := [(7, .int r90), (6, .int r86), (0, .ref (a 0)), (1, .int (nI j34)), (2, .int (nI j45)), (3, .int (nI j59)), (4, .int (nI j70)), (5, .int (nI j81))]) dX12_barter_70 (by decide) rfl rfl ?_
              refine x_iconst C (v := 0) dX12_barter_72 (by decide) rfl ?_
              refine x_istore C (lv' := [(8, .int 0), (7, .int r90), (6, .int r86), (0, .ref (a 0)), (1, .int (nI j34)), (2, .int (nI j45)), (3, .int (nI j59)), (4, .int (nI j70)), (5, .int (nI j81))]) dX12_barter_73 (by decide) rfl rfl ?_
              refine x_iconst C (v := (-1)) dX12_barter_75 (by decide) rfl ?_
              refine x_istore C (lv' := [(9, .int (-1)), (8, .int 0), (7, .int r90), (6, .int r86), (0, .ref (a 0)), (1, .int (nI j34)), (2, .int (nI j45)), (3, .int (nI j59)), (4, .int (nI j70)), (5, .int (nI j81))]) dX12_barter_76 (by decide) rfl rfl ?_
              refine x_iconst C (v := 0) dX12_barter_78 (by decide) rfl ?_
              refine x_istore C (lv' := [(10, .int 0), (9, .int (-1)), (8, .int 0), (7, .int r90), (6, .int r86), (0, .ref (a 0)), (1, .int (nI j34)), (2, .int (nI j45)), (3, .int (nI j59)), (4, .int (nI j70)), (5, .int (nI j81))]) dX12_barter_79 (by decide) rfl rfl ?_
              have loop81 : ∀ (fu81 : Nat) (z81_8 : Int32) (z81_9 : Int32) (i : Nat), True → 48 - i < fu81 → i ≤ 48 → X E p l e (xRm 8 0 0) s m ([.ref (a 0), .int (nI j34), .int (nI j45), .int (nI j59), .int (nI j70), .int (nI j81)] : List Value).toArray below meth c A 13 0 0 (MQ below (va_Qi (fun r w => WX (okM E a cd kf jn js jq) w) (xB E A) A) ([.ref (a 0), .int (nI j34), .int (nI j45), .int (nI j59), .int (nI j70), .int (nI j81)] : List Value).toArray s 0 0 A) ws 81 [(0, .ref (a 0)), (1, .int (nI j34)), (2, .int (nI j45)), (3, .int (nI j59)), (4, .int (nI j70)), (5, .int (nI j81)), (6, .int r86), (7, .int r90), (8, .int z81_8), (9, .int z81_9), (10, .int (nI i))] [] := by
                intro fu81
                induction fu81 with
                | zero => intro z81_8 z81_9 i _ q; omega
                | succ fu81 ih81 =>
                  intro z81_8 z81_9 i _ me81 iv81_0
                  refine x_iload C dX12_barter_81 10 rfl rfl ?_
                  refine x_aload_n C dX12_barter_83 rfl 0 rfl rfl ?_
                  refine x_get C (ci := 11) (k := 0) 0 k1 rfl in_X12 (by decide) w_1118 rfl dX12_barter_84 rfl ?_
                  refine x_sipush C (v := 381) dX12_barter_87 (by decide) rfl ?_
                  obtain ⟨_, k93, f94, pf95, rfl⟩ := hW 1 _ rfl
                  obtain ⟨n96, hn97, en98⟩ := NB_many pf95
                  refine x_ialk C (v := nI n96) 381 (by decide) (by decide) (by decide) 1 k93 en98 dX12_barter_90 rfl ?_
                  refine x_icmp_ge C (tgt := 264) dX12_barter_91 (by decide) rfl (fun c99 => ?_) (fun c99 => ?_)
                  · skip
                    have nf100 := nI_le' (a := n96) (b := i) c99 (by omega) (by omega)
                    refine x_iload C dX12_barter_264 5 rfl rfl ?_
                    refine x_if_ne C (tgt := 274) dX12_barter_266 (by decide) rfl (fun c101 => ?_) (fun c101 => ?_)
                    · skip
                      have nf102 : ¬ j81 = 0 := fun q => c101 (congrArg nI q)
                      refine x_iload C dX12_barter_274 9 rfl rfl ?_
                      refine x_iconst C (v := (-1)) dX12_barter_276 (by decide) rfl ?_
                      refine x_icmp_ne C (tgt := 285) dX12_barter_277 (by decide) rfl (fun c103 => ?_) (fun c103 => ?_)
                      · skip
                        refine x_iload C dX12_barter_285 5 rfl rfl ?_
                        refine x_iconst C (v := 1) dX12_barter_287 (by decide) rfl ?_
                        refine x_icmp_ne C (tgt := 299) dX12_barter_288 (by decide) rfl (fun c104 => ?_) (fun c104 => ?_)
                        · skip
                          have nf105 : ¬ j81 = 1 := fun q => c104 (congrArg nI q)
                          refine x_iload C dX12_barter_299 9 rfl rfl ?_
                          refine x_bipush C (v := 48) dX12_barter_301 (by decide) rfl ?_
                          refine x_irem C (v := (z81_9 - z81_9 / (48 : Int32) * (48 : Int32))) dX12_barter_303 (by decide) rfl rfl ?_
                          refine x_any (fun v106 => ?_)
                          exact x_zret C hr hlk rfl dX12_barter_304 hW
                        · skip
                          have nf107 : j81 = 1 := (nI_eq (by omega) (by omega)).mp c104
                          refine x_iload C dX12_barter_291 9 rfl rfl ?_
                          refine x_bipush C (v := 48) dX12_barter_293 (by decide) rfl ?_
                          refine x_idiv C (v := (z81_9 / (48 : Int32))) dX12_barter_295 (by decide) rfl rfl ?_
                          refine x_any (fun v108 => ?_)
                          refine x_goto C (tgt := 304) dX12_barter_296 (by decide) ?_
                          exact x_zret C hr hlk rfl dX12_barter_304 hW
                      · skip
                        refine x_bipush C (v := (-2)) dX12_barter_280 (by decide) rfl ?_
                        refine x_goto C (tgt := 304) dX12_barter_282 (by decide) ?_
                        exact x_zret C hr hlk rfl dX12_barter_304 hW
                    · skip
                      have nf109 : j81 = 0 := (nI_eq (by omega) (by omega)).mp c101
                      refine x_iload C dX12_barter_269 8 rfl rfl ?_
                      refine x_goto C (tgt := 304) dX12_barter_271 (by decide) ?_
                      exact x_zret C hr hlk rfl dX12_barter_304 hW
                  · skip
                    have nf110 := nI_nle' (a := n96) (b := i) c99 (by omega) (by omega)
                    refine x_aload_n C dX12_barter_94 rfl 0 rfl rfl ?_
                    refine x_iload C dX12_barter_95 10 rfl rfl ?_
                    refine x_vi C (As := [.int (nI i)]) (rest := []) (m_isWhole E l a cd hG kf jn js jq ws hW ((nI i))) mf_X12_isWhole w_1435 0 k1 rfl rfl rfl (Nat.le_of_ble_eq_true rfl) ⟨(Nat.le_of_ble_eq_true rfl), (Nat.le_of_ble_eq_true rfl)⟩ ⟨(Nat.le_of_ble_eq_true rfl), (Nat.le_of_ble_eq_true rfl)⟩ dX12_barter_97 rfl (fun r112 w113 h111 => ?_)
                    obtain ⟨hW114, zb115, x116⟩ := h111
                    refine x_ws hW114 ?_
                    refine x_if_eq C (tgt := 258) dX12_barter_100 (by decide) rfl (fun c117 => ?_) (fun c117 => ?_)
                    · skip
                      refine x_iinc C (v := (nI (i + 1))) (lv' := [(10, .int (nI (i + 1))), (0, .ref (a 0)), (1, .int (nI j34)), (2, .int (nI j45)), (3, .int (nI j59)), (4, .int (nI j70)), (5, .int (nI j81)), (6, .int r86), (7, .int r90), (8, .int z81_8), (9, .int z81_9)]) dX12_barter_258 10 rfl (nI_add i 1) (by decide) rfl rfl ?_
                      refine x_goto C (tgt := 81) dX12_barter_261 (by decide) ?_
                      refine x_lv (lv1 := [(0, .ref (a 0)), (1, .int (nI j34)), (2, .int (nI j45)), (3, .int (nI j59)), (4, .int (nI j70)), (5, .int (nI j81)), (6, .int r86), (7, .int r90), (8, .int z81_8), (9, .int z81_9), (10, .int (nI (i + 1)))]) [1, 2, 3, 4, 5, 6, 7, 8, 9, 10, 0] rfl ?_
                      exact ih81 z81_8 z81_9 (i + 1) trivial (by omega) (by omega)
                    · skip
                      have wi118 := wth_le (a := 0) (b := 47) (j := i) (x116 c117) (by omega) (by decide) (by decide)
                      refine x_aload_n C dX12_barter_103 rfl 0 rfl rfl ?_
                      refine x_get C (ci := 11) (k := 0) 0 k1 rfl in_X12 (by decide) w_1118 rfl dX12_barter_104 rfl ?_
                      refine x_sipush C (v := 144) dX12_barter_107 (by decide) rfl ?_
                      refine x_iload C dX12_barter_110 10 rfl rfl ?_
                      refine x_iadd C (v := (nI (144 + i))) dX12_barter_112 (nI_add 144 i) rfl ?_
                      obtain ⟨n119, hn120, en121⟩ := NB_own (j := i) pf95 (by omega)
                      refine x_ialk C (v := nI n119) (144 + i) (nI_clamp (by omega)) (nI_pos (by omega)) (by omega) 1 k93 en121 dX12_barter_113 rfl ?_
                      refine x_iload_n C dX12_barter_114 rfl 1 rfl rfl ?_
                      refine x_icmp_eq C (tgt := 121) dX12_barter_115 (by decide) rfl (fun c122 => ?_) (fun c122 => ?_)
                      · skip
                        have nf123 : n119 = j34 := (nI_eq (by omega) (by omega)).mp c122
                        refine x_iconst C (v := 0) dX12_barter_121 (by decide) rfl ?_
                        refine x_istore C (lv' := [(11, .int 0), (0, .ref (a 0)), (1, .int (nI j34)), (2, .int (nI j45)), (3, .int (nI j59)), (4, .int (nI j70)), (5, .int (nI j81)), (6, .int r86), (7, .int r90), (8, .int z81_8), (9, .int z81_9), (10, .int (nI i))]) dX12_barter_122 (by decide) rfl rfl ?_
                        have loop124 : ∀ (fu124 : Nat) (z124_8 : Int32) (z124_9 : Int32) (j : Nat), True → 48 - j < fu124 → j ≤ 48 → X E p l e (xRm 8 0 0) s m ([.ref (a 0), .int (nI j34), .int (nI j45), .int (nI j59), .int (nI j70), .int (nI j81)] : List Value).toArray below meth c A 13 0 0 (MQ below (va_Qi (fun r w => WX (okM E a cd kf jn js jq) w) (xB E A) A) ([.ref (a 0), .int (nI j34), .int (nI j45), .int (nI j59), .int (nI j70), .int (nI j81)] : List Value).toArray s 0 0 A) ws 124 [(0, .ref (a 0)), (1, .int (nI j34)), (2, .int (nI j45)), (3, .int (nI j59)), (4, .int (nI j70)), (5, .int (nI j81)), (6, .int r86), (7, .int r90), (8, .int z124_8), (9, .int z124_9), (10, .int (nI i)), (11, .int (nI j))] [] := by
                          intro fu124
                          induction fu124 with
                          | zero => intro z124_8 z124_9 j _ q; omega
                          | succ fu124 ih124 =>
                            intro z124_8 z124_9 j _ me124 iv124_0
                            refine x_iload C dX12_barter_124 11 rfl rfl ?_
                            refine x_aload_n C dX12_barter_126 rfl 0 rfl rfl ?_
                            refine x_get C (ci := 11) (k := 0) 0 k1 rfl in_X12 (by decide) w_1118 rfl dX12_barter_127 rfl ?_
                            refine x_sipush C (v := 381) dX12_barter_130 (by decide) rfl ?_
                            refine x_ialk C (v := nI n96) 381 (by decide) (by decide) (by decide) 1 k93 en98 dX12_barter_133 rfl ?_
                            refine x_icmp_ge C (tgt := 258) dX12_barter_134 (by decide) rfl (fun c127 => ?_) (fun c127 => ?_)
                            · skip
                              have nf128 := nI_le' (a := n96) (b := j) c127 (by omega) (by omega)
                              refine x_iinc C (v := (nI (i + 1))) (lv' := [(10, .int (nI (i + 1))), (0, .ref (a 0)), (1, .int (nI j34)), (2, .int (nI j45)), (3, .int (nI j59)), (4, .int (nI j70)), (5, .int (nI j81)), (6, .int r86), (7, .int r90), (8, .int z124_8), (9, .int z124_9), (11, .int (nI j))]) dX12_barter_258 10 rfl (nI_add i 1) (by decide) rfl rfl ?_
                              refine x_goto C (tgt := 81) dX12_barter_261 (by decide) ?_
                              refine x_lv (lv1 := [(0, .ref (a 0)), (1, .int (nI j34)), (2, .int (nI j45)), (3, .int (nI j59)), (4, .int (nI j70)), (5, .int (nI j81)), (6, .int r86), (7, .int r90), (8, .int z124_8), (9, .int z124_9), (10, .int (nI (i + 1)))]) [1, 2, 3, 4, 5, 6, 7, 8, 9, 10, 0] rfl ?_
                              exact ih81 z124_8 z124_9 (i + 1) trivial (by omega) (by omega)
                            · skip
                              have nf129 := nI_nle' (a := n96) (b := j) c127 (by omega) (by omega)
                              refine x_aload_n C dX12_barter_137 rfl 0 rfl rfl ?_
                              refine x_iload C dX12_barter_138 11 rfl rfl ?_
                              refine x_vi C (As := [.int (nI j)]) (rest := []) (m_isWhole E l a cd hG kf jn js jq ws hW ((nI j))) mf_X12_isWhole w_1435 0 k1 rfl rfl rfl (Nat.le_of_ble_eq_true rfl) ⟨(Nat.le_of_ble_eq_true rfl), (Nat.le_of_ble_eq_true rfl)⟩ ⟨(Nat.le_of_ble_eq_true rfl), (Nat.le_of_ble_eq_true rfl)⟩ dX12_barter_140 rfl (fun r131 w132 h130 => ?_)
                              obtain ⟨hW133, zb134, x135⟩ := h130
                              refine x_ws hW133 ?_
                              refine x_if_eq C (tgt := 252) dX12_barter_143 (by decide) rfl (fun c136 => ?_) (fun c136 => ?_)
                              · skip
                                refine x_iinc C (v := (nI (j + 1))) (lv' := [(11, .int (nI (j + 1))), (0, .ref (a 0)), (1, .int (nI j34)), (2, .int (nI j45)), (3, .int (nI j59)), (4, .int (nI j70)), (5, .int (nI j81)), (6, .int r86), (7, .int r90), (8, .int z124_8), (9, .int z124_9), (10, .int (nI i))]) dX12_barter_252 11 rfl (nI_add j 1) (by decide) rfl rfl ?_
                                refine x_goto C (tgt := 124) dX12_barter_255 (by decide) ?_
                                refine x_lv (lv1 := [(0, .ref (a 0)), (1, .int (nI j34)), (2, .int (nI j45)), (3, .int (nI j59)), (4, .int (nI j70)), (5, .int (nI j81)), (6, .int r86), (7, .int r90), (8, .int z124_8), (9, .int z124_9), (10, .int (nI i)), (11, .int (nI (j + 1)))]) [1, 2, 3, 4, 5, 6, 7, 8, 9, 10, 11, 0] rfl ?_
                                exact ih124 z124_8 z124_9 (j + 1) trivial (by omega) (by omega)
                              · skip
                                have wi137 := wth_le (a := 0) (b := 47) (j := j) (x135 c136) (by omega) (by decide) (by decide)
                                refine x_aload_n C dX12_barter_146 rfl 0 rfl rfl ?_
                                refine x_get C (ci := 11) (k := 0) 0 k1 rfl in_X12 (by decide) w_1118 rfl dX12_barter_147 rfl ?_
                                refine x_sipush C (v := 144) dX12_barter_150 (by decide) rfl ?_
                                refine x_iload C dX12_barter_153 11 rfl rfl ?_
                                refine x_iadd C (v := (nI (144 + j))) dX12_barter_155 (nI_add 144 j) rfl ?_
                                obtain ⟨n138, hn139, en140⟩ := NB_own (j := j) pf95 (by omega)
                                refine x_ialk C (v := nI n138) (144 + j) (nI_clamp (by omega)) (nI_pos (by omega)) (by omega) 1 k93 en140 dX12_barter_156 rfl ?_
                                refine x_iload_n C dX12_barter_157 rfl 2 rfl rfl ?_
                                refine x_icmp_eq C (tgt := 164) dX12_barter_158 (by decide) rfl (fun c141 => ?_) (fun c141 => ?_)
                                · skip
                                  have nf142 : n138 = j45 := (nI_eq (by omega) (by omega)).mp c141
                                  refine x_aload_n C dX12_barter_164 rfl 0 rfl rfl ?_
                                  refine x_get C (ci := 11) (k := 0) 0 k1 rfl in_X12 (by decide) w_1118 rfl dX12_barter_165 rfl ?_
                                  refine x_iconst C (v := 0) dX12_barter_168 (by decide) rfl ?_
                                  refine x_iload C dX12_barter_169 11 rfl rfl ?_
                                  refine x_iadd C (v := (nI (0 + j))) dX12_barter_171 (nI_add 0 j) rfl ?_
                                  refine x_iald C (v := (f94 (nI (0 + j)).toNatClampNeg)) 1 k93 (vp_in_nI (by omega) (by decide)) rfl dX12_barter_172 rfl ?_
                                  refine x_any (fun v143 => ?_)
                                  refine x_aload_n C dX12_barter_173 rfl 0 rfl rfl ?_
                                  refine x_get C (ci := 11) (k := 0) 0 k1 rfl in_X12 (by decide) w_1118 rfl dX12_barter_174 rfl ?_
                                  refine x_iconst C (v := 0) dX12_barter_177 (by decide) rfl ?_
                                  refine x_iload C dX12_barter_178 10 rfl rfl ?_
                                  refine x_iadd C (v := (nI (0 + i))) dX12_barter_180 (nI_add 0 i) rfl ?_
                                  refine x_iald C (v := (f94 (nI (0 + i)).toNatClampNeg)) 1 k93 (vp_in_nI (by omega) (by decide)) rfl dX12_barter_181 rfl ?_
                                  refine x_any (fun v144 => ?_)
                                  refine x_isub C (v := (v143 - v144)) dX12_barter_182 rfl rfl ?_
                                  refine x_any (fun v145 => ?_)
                                  refine x_istore C (lv' := [(12, .int v145), (0, .ref (a 0)), (1, .int (nI j34)), (2, .int (nI j45)), (3, .int (nI j59)), (4, .int (nI j70)), (5, .int (nI j81)), (6, .int r86), (7, .int r90), (8, .int z124_8), (9, .int z124_9), (10, .int (nI i)), (11, .int (nI j))]) dX12_barter_183 (by decide) rfl rfl ?_
                                  refine x_iload C dX12_barter_185 7 rfl rfl ?_
                                  refine x_iload C dX12_barter_187 0 rfl rfl ?_
                                  refine x_iadd C (v := (r86 + v145)) dX12_barter_189 rfl rfl ?_
                                  refine x_any (fun v146 => ?_)
                                  refine x_iload_n C dX12_barter_190 rfl 4 rfl rfl ?_
                                  refine x_si C (As := [.int v146, .int (nI j59)]) (rest := []) (m_apart E l a cd hG kf jn js jq ws hW v146 ((nI j59))) mf_X12_apart w_1662 rfl rfl (Nat.le_of_ble_eq_true rfl) ⟨(Nat.le_of_ble_eq_true rfl), (Nat.le_of_ble_eq_true rfl)⟩ ⟨(Nat.le_of_ble_eq_true rfl), (Nat.le_of_ble_eq_true rfl)⟩ dX12_barter_191 rfl (fun r148 w149 h147 => ?_)
                                  have hW150 := h147
                                  refine x_ws hW150 ?_
                                  refine x_iload C dX12_barter_194 7 rfl rfl ?_
                                  refine x_iload_n C dX12_barter_196 rfl 4 rfl rfl ?_
                                  refine x_si C (As := [.int r86, .int (nI j59)]) (rest := [.int r148]) (m_apart E l a cd hG kf jn js jq ws hW r86 ((nI j59))) mf_X12_apart w_1662 rfl rfl (Nat.le_of_ble_eq_true rfl) ⟨(Nat.le_of_ble_eq_true rfl), (Nat.le_of_ble_eq_true rfl)⟩ ⟨(Nat.le_of_ble_eq_true rfl), (Nat.le_of_ble_eq_true rfl)⟩ dX12_barter_197 rfl (fun r152 w153 h151 => ?_)
                                  have hW154 := h151
                                  refine x_ws hW154 ?_
                                  refine x_icmp_ge C (tgt := 252) dX12_barter_200 (by decide) rfl (fun c155 => ?_) (fun c155 => ?_)
                                  · skip
                                    refine x_iinc C (v := (nI (j + 1))) (lv' := [(11, .int (nI (j + 1))), (12, .int v145), (0, .ref (a 0)), (1, .int (nI j34)), (2, .int (nI j45)), (3, .int (nI j59)), (4, .int (nI j70)), (5, .int (nI j81)), (6, .int r86), (7, .int r90), (8, .int z124_8), (9, .int z124_9), (10, .int (nI i))]) dX12_barter_252 12 rfl (nI_add j 1) (by decide) rfl rfl ?_
                                    refine x_goto C (tgt := 124) dX12_barter_255 (by decide) ?_
                                    refine x_lv (lv1 := [(0, .ref (a 0)), (1, .int (nI j34)), (2, .int (nI j45)), (3, .int (nI j59)), (4, .int (nI j70)), (5, .int (nI j81)), (6, .int r86), (7, .int r90), (8, .int z124_8), (9, .int z124_9), (10, .int (nI i)), (11, .int (nI (j + 1)))]) [2, 3, 4, 5, 6, 7, 8, 9, 10, 11, 12, 0] rfl ?_
                                    exact ih124 z124_8 z124_9 (j + 1) trivial (by omega) (by omega)
                                  · skip
                                    refine x_iload C dX12_barter_203 8 rfl rfl ?_
                                    refine x_iload C dX12_barter_205 0 rfl rfl ?_
                                    refine x_isub C (v := (r90 - v145)) dX12_barter_207 rfl rfl ?_
                                    refine x_any (fun v156 => ?_)
                                    refine x_iload C dX12_barter_208 5 rfl rfl ?_
                                    refine x_si C (As := [.int v156, .int (nI j70)]) (rest := []) (m_apart E l a cd hG kf jn js jq ws hW v156 ((nI j70))) mf_X12_apart w_1662 rfl rfl (Nat.le_of_ble_eq_true rfl) ⟨(Nat.le_of_ble_eq_true rfl), (Nat.le_of_ble_eq_true rfl)⟩ ⟨(Nat.le_of_ble_eq_true rfl), (Nat.le_of_ble_eq_true rfl)⟩ dX12_barter_210 rfl (fun r158 w159 h157 => ?_)
                                    have hW160 := h157
                                    refine x_ws hW160 ?_
                                    refine x_iload C dX12_barter_213 8 rfl rfl ?_
                                    refine x_iload C dX12_barter_215 5 rfl rfl ?_
                                    refine x_si C (As := [.int r90, .int (nI j70)]) (rest := [.int r158]) (m_apart E l a cd hG kf jn js jq ws hW r90 ((nI j70))) mf_X12_apart w_1662 rfl rfl (Nat.le_of_ble_eq_true rfl) ⟨(Nat.le_of_ble_eq_true rfl), (Nat.le_of_ble_eq_true rfl)⟩ ⟨(Nat.le_of_ble_eq_true rfl), (Nat.le_of_ble_eq_true rfl)⟩ dX12_barter_217 rfl (fun r162 w163 h161 => ?_)
                                    have hW164 := h161
                                    refine x_ws hW164 ?_
                                    refine x_icmp_lt C (tgt := 226) dX12_barter_220 (by decide) rfl (fun c165 => ?_) (fun c165 => ?_)
                                    · skip
                                      refine x_iload C dX12_barter_226 9 rfl rfl ?_
                                      refine x_if_ne C (tgt := 242) dX12_barter_228 (by decide) rfl (fun c166 => ?_) (fun c166 => ?_)
                                      · skip
                                        refine x_iload C dX12_barter_242 10 rfl rfl ?_
                                        refine x_istore C (lv' := [(9, .int z124_9), (12, .int v145), (0, .ref (a 0)), (1, .int (nI j34)), (2, .int (nI j45)), (3, .int (nI j59)), (4, .int (nI j70)), (5, .int (nI j81)), (6, .int r86), (7, .int r90), (8, .int z124_8), (10, .int (nI i)), (11, .int (nI j))]) dX12_barter_244 (by decide) rfl rfl ?_
                                        refine x_iload C dX12_barter_246 10 rfl rfl ?_
                                        refine x_iconst C (v := 1) dX12_barter_248 (by decide) rfl ?_
                                        refine x_iadd C (v := (z124_8 + (1 : Int32))) dX12_barter_249 rfl rfl ?_
                                        refine x_any (fun v167 => ?_)
                                        refine x_istore C (lv' := [(8, .int v167), (9, .int z124_9), (12, .int v145), (0, .ref (a 0)), (1, .int (nI j34)), (2, .int (nI j45)), (3, .int (nI j59)), (4, .int (nI j70)), (5, .int (nI j81)), (6, .int r86), (7, .int r90), (10, .int (nI i)), (11, .int (nI j))]) dX12_barter_250 (by decide) rfl rfl ?_
                                        refine x_iinc C (v := (nI (j + 1))) (lv' := [(11, .int (nI (j + 1))), (8, .int v167), (9, .int z124_9), (12, .int v145), (0, .ref (a 0)), (1, .int (nI j34)), (2, .int (nI j45)), (3, .int (nI j59)), (4, .int (nI j70)), (5, .int (nI j81)), (6, .int r86), (7, .int r90), (10, .int (nI i))]) dX12_barter_252 12 rfl (nI_add j 1) (by decide) rfl rfl ?_
                                        refine x_goto C (tgt := 124) dX12_barter_255 (by decide) ?_
                                        refine x_lv (lv1 := [(0, .ref (a 0)), (1, .int (nI j34)), (2, .int (nI j45)), (3, .int (nI j59)), (4, .int (nI j70)), (5, .int (nI j81)), (6, .int r86), (7, .int r90), (8, .int v167), (9, .int z124_9), (10, .int (nI i)), (11, .int (nI (j + 1)))]) [4, 5, 6, 7, 8, 9, 10, 11, 1, 2, 12, 0] rfl ?_
                                        exact ih124 v167 z124_9 (j + 1) trivial (by omega) (by omega)
                                      · skip
                                        refine x_bipush C (v := 48) dX12_barter_231 (by decide) rfl ?_
                                        refine x_iload C dX12_barter_233 11 rfl rfl ?_
                                        refine x_imul C (v := (nI (48 * i))) dX12_barter_235 (pk_mul 48 i) rfl ?_
                                        refine x_iload C dX12_barter_236 12 rfl rfl ?_
                                        refine x_iadd C (v := (nI ((48 * i) + j))) dX12_barter_238 (nI_add (48 * i) j) rfl ?_
                                        refine x_goto C (tgt := 244) dX12_barter_239 (by decide) ?_
                                        refine x_istore C (lv' := [(9, .int (nI ((48 * i) + j))), (12, .int v145), (0, .ref (a 0)), (1, .int (nI j34)), (2, .int (nI j45)), (3, .int (nI j59)), (4, .int (nI j70)), (5, .int (nI j81)), (6, .int r86), (7, .int r90), (8, .int z124_8), (10, .int (nI i)), (11, .int (nI j))]) dX12_barter_244 (by decide) rfl rfl ?_
                                        refine x_iload C dX12_barter_246 10 rfl rfl ?_
                                        refine x_iconst C (v := 1) dX12_barter_248 (by decide) rfl ?_
                                        refine x_iadd C (v := (z124_8 + (1 : Int32))) dX12_barter_249 rfl rfl ?_
                                        refine x_any (fun v168 => ?_)
                                        refine x_istore C (lv' := [(8, .int v168), (9, .int (nI ((48 * i) + j))), (12, .int v145), (0, .ref (a 0)), (1, .int (nI j34)), (2, .int (nI j45)), (3, .int (nI j59)), (4, .int (nI j70)), (5, .int (nI j81)), (6, .int r86), (7, .int r90), (10, .int (nI i)), (11, .int (nI j))]) dX12_barter_250 (by decide) rfl rfl ?_
                                        refine x_iinc C (v := (nI (j + 1))) (lv' := [(11, .int (nI (j + 1))), (8, .int v168), (9, .int (nI ((48 * i) + j))), (12, .int v145), (0, .ref (a 0)), (1, .int (nI j34)), (2, .int (nI j45)), (3, .int (nI j59)), (4, .int (nI j70)), (5, .int (nI j81)), (6, .int r86), (7, .int r90), (10, .int (nI i))]) dX12_barter_252 12 rfl (nI_add j 1) (by decide) rfl rfl ?_
                                        refine x_goto C (tgt := 124) dX12_barter_255 (by decide) ?_
                                        refine x_lv (lv1 := [(0, .ref (a 0)), (1, .int (nI j34)), (2, .int (nI j45)), (3, .int (nI j59)), (4, .int (nI j70)), (5, .int (nI j81)), (6, .int r86), (7, .int r90), (8, .int v168), (9, .int (nI ((48 * i) + j))), (10, .int (nI i)), (11, .int (nI (j + 1)))]) [4, 5, 6, 7, 8, 9, 10, 11, 1, 2, 12, 0] rfl ?_
                                        exact ih124 v168 ((nI ((48 * i) + j))) (j + 1) trivial (by omega) (by omega)
                                    · skip
                                      refine x_goto C (tgt := 252) dX12_barter_223 (by decide) ?_
                                      refine x_iinc C (v := (nI (j + 1))) (lv' := [(11, .int (nI (j + 1))), (12, .int v145), (0, .ref (a 0)), (1, .int (nI j34)), (2, .int (nI j45)), (3, .int (nI j59)), (4, .int (nI j70)), (5, .int (nI j81)), (6, .int r86), (7, .int r90), (8, .int z124_8), (9, .int z124_9), (10, .int (nI i))]) dX12_barter_252 12 rfl (nI_add j 1) (by decide) rfl rfl ?_
                                      refine x_goto C (tgt := 124) dX12_barter_255 (by decide) ?_
                                      refine x_lv (lv1 := [(0, .ref (a 0)), (1, .int (nI j34)), (2, .int (nI j45)), (3, .int (nI j59)), (4, .int (nI j70)), (5, .int (nI j81)), (6, .int r86), (7, .int r90), (8, .int z124_8), (9, .int z124_9), (10, .int (nI i)), (11, .int (nI (j + 1)))]) [2, 3, 4, 5, 6, 7, 8, 9, 10, 11, 12, 0] rfl ?_
                                      exact ih124 z124_8 z124_9 (j + 1) trivial (by omega) (by omega)
                                · skip
                                  have nf169 : ¬ n138 = j45 := fun q => c141 (congrArg nI q)
                                  refine x_goto C (tgt := 252) dX12_barter_161 (by decide) ?_
                                  refine x_iinc C (v := (nI (j + 1))) (lv' := [(11, .int (nI (j + 1))), (0, .ref (a 0)), (1, .int (nI j34)), (2, .int (nI j45)), (3, .int (nI j59)), (4, .int (nI j70)), (5, .int (nI j81)), (6, .int r86), (7, .int r90), (8, .int z124_8), (9, .int z124_9), (10, .int (nI i))]) dX12_barter_252 11 rfl (nI_add j 1) (by decide) rfl rfl ?_
                                  refine x_goto C (tgt := 124) dX12_barter_255 (by decide) ?_
                                  refine x_lv (lv1 := [(0, .ref (a 0)), (1, .int (nI j34)), (2, .int (nI j45)), (3, .int (nI j59)), (4, .int (nI j70)), (5, .int (nI j81)), (6, .int r86), (7, .int r90), (8, .int z124_8), (9, .int z124_9), (10, .int (nI i)), (11, .int (nI (j + 1)))]) [1, 2, 3, 4, 5, 6, 7, 8, 9, 10, 11, 0] rfl ?_
                                  exact ih124 z124_8 z124_9 (j + 1) trivial (by omega) (by omega)
                        refine x_lv (lv1 := [(0, .ref (a 0)), (1, .int (nI j34)), (2, .int (nI j45)), (3, .int (nI j59)), (4, .int (nI j70)), (5, .int (nI j81)), (6, .int r86), (7, .int r90), (8, .int z81_8), (9, .int z81_9), (10, .int (nI i)), (11, .int 0)]) [1, 2, 3, 4, 5, 6, 7, 8, 9, 10, 11, 0] rfl ?_
                        exact loop124 _ z81_8 z81_9 0 trivial (Nat.lt_succ_self _) (by omega)
                      · skip
                        have nf170 : ¬ n119 = j34 := fun q => c122 (congrArg nI q)
                        refine x_goto C (tgt := 258) dX12_barter_118 (by decide) ?_
                        refine x_iinc C (v := (nI (i + 1))) (lv' := [(10, .int (nI (i + 1))), (0, .ref (a 0)), (1, .int (nI j34)), (2, .int (nI j45)), (3, .int (nI j59)), (4, .int (nI j70)), (5, .int (nI j81)), (6, .int r86), (7, .int r90), (8, .int z81_8), (9, .int z81_9)]) dX12_barter_258 10 rfl (nI_add i 1) (by decide) rfl rfl ?_
                        refine x_goto C (tgt := 81) dX12_barter_261 (by decide) ?_
                        refine x_lv (lv1 := [(0, .ref (a 0)), (1, .int (nI j34)), (2, .int (nI j45)), (3, .int (nI j59)), (4, .int (nI j70)), (5, .int (nI j81)), (6, .int r86), (7, .int r90), (8, .int z81_8), (9, .int z81_9), (10, .int (nI (i + 1)))]) [1, 2, 3, 4, 5, 6, 7, 8, 9, 10, 0] rfl ?_
                        exact ih81 z81_8 z81_9 (i + 1) trivial (by omega) (by omega)
              refine x_lv (lv1 := [(0, .ref (a 0)), (1, .int (nI j34)), (2, .int (nI j45)), (3, .int (nI j59)), (4, .int (nI j70)), (5, .int (nI j81)), (6, .int r86), (7, .int r90), (8, .int 0), (9, .int (-1)), (10, .int 0)]) [5, 6, 7, 8, 9, 10, 4, 3, 2, 1, 0] rfl ?_
              exact loop81 _ (0 : Int32) ((-1) : Int32) 0 trivial (Nat.lt_succ_self _) (by omega)
            · skip
              refine x_iconst C (v := (-1)) dX12_barter_54 (by decide) rfl ?_
              exact x_zret C hr hlk rfl dX12_barter_55 hW
theorem dX12_tapeNumber_0 : decode cX12_tapeNumber 0 = .ok (.iconst 0, 1) := by decide +kernel
theorem dX12_tapeNumber_1 : decode cX12_tapeNumber 1 = .ok (.istore_n 2, 1) := by decide +kernel
theorem dX12_tapeNumber_2 : decode cX12_tapeNumber 2 = .ok (.iconst 4, 1) := by decide +kernel
theorem dX12_tapeNumber_3 : decode cX12_tapeNumber 3 = .ok (.iload_n 1, 1) := by decide +kernel
theorem dX12_tapeNumber_4 : decode cX12_tapeNumber 4 = .ok (.imul, 1) := by decide +kernel
theorem dX12_tapeNumber_5 : decode cX12_tapeNumber 5 = .ok (.istore_n 3, 1) := by decide +kernel
theorem dX12_tapeNumber_6 : decode cX12_tapeNumber 6 = .ok (.iload_n 3, 1) := by decide +kernel
theorem dX12_tapeNumber_7 : decode cX12_tapeNumber 7 = .ok (.iconst 4, 1) := by decide +kernel
theorem dX12_tapeNumber_8 : decode cX12_tapeNumber 8 = .ok (.iload_n 1, 1) := by decide +kernel
theorem dX12_tapeNumber_9 : decode cX12_tapeNumber 9 = .ok (.imul, 1) := by decide +kernel
theorem dX12_tapeNumber_10 : decode cX12_tapeNumber 10 = .ok (.iconst 4, 1) := by decide +kernel
theorem dX12_tapeNumber_11 : decode cX12_tapeNumber 11 = .ok (.iadd, 1) := by decide +kernel
theorem dX12_tapeNumber_12 : decode cX12_tapeNumber 12 = .ok (.if_icmp .ge 25, 3) := by decide +kernel
theorem dX12_tapeNumber_15 : decode cX12_tapeNumber 15 = .ok (.iload_n 2, 1) := by decide +kernel
theorem dX12_tapeNumber_16 : decode cX12_tapeNumber 16 = .ok (.bipush 8, 2) := by decide +kernel
theorem dX12_tapeNumber_18 : decode cX12_tapeNumber 18 = .ok (.ishl, 1) := by decide +kernel
theorem dX12_tapeNumber_19 : decode cX12_tapeNumber 19 = .ok (.aload_n 0, 1) := by decide +kernel
theorem dX12_tapeNumber_20 : decode cX12_tapeNumber 20 = .ok (.getfield 19, 3) := by decide +kernel
theorem dX12_tapeNumber_23 : decode cX12_tapeNumber 23 = .ok (.iload_n 3, 1) := by decide +kernel
theorem dX12_tapeNumber_24 : decode cX12_tapeNumber 24 = .ok (.baload, 1) := by decide +kernel
theorem dX12_tapeNumber_25 : decode cX12_tapeNumber 25 = .ok (.sipush 255, 3) := by decide +kernel
theorem dX12_tapeNumber_28 : decode cX12_tapeNumber 28 = .ok (.iand, 1) := by decide +kernel
theorem dX12_tapeNumber_29 : decode cX12_tapeNumber 29 = .ok (.ior, 1) := by decide +kernel
theorem dX12_tapeNumber_30 : decode cX12_tapeNumber 30 = .ok (.istore_n 2, 1) := by decide +kernel
theorem dX12_tapeNumber_31 : decode cX12_tapeNumber 31 = .ok (.iinc 3 1, 3) := by decide +kernel
theorem dX12_tapeNumber_34 : decode cX12_tapeNumber 34 = .ok (.goto (-28), 3) := by decide +kernel
theorem dX12_tapeNumber_37 : decode cX12_tapeNumber 37 = .ok (.iload_n 2, 1) := by decide +kernel
theorem dX12_tapeNumber_38 : decode cX12_tapeNumber 38 = .ok (.ireturn, 1) := by decide +kernel
set_option maxRecDepth 20000 in
set_option maxHeartbeats 4000000 in
theorem m_tapeNumber (E : xE) (l : Launch) (a : Nat → Nat) (cd : Cd) (hG : Good cd) (kf : Int32) (jn js jq : Lb) (ws : va_W) (hW : WX (okM E a cd kf jn js jq) ws) (i0 : Nat) (hi0 : i0 ≤ 47) : xI E l yX12_tapeNumber cX12_tapeNumber 4 (some .int) 0 [.ref (a 0), .int (nI i0)] ws (fun r w => w = ws) := by
  refine xI_start (lv := [(0, .ref (a 0)), (1, .int (nI i0))]) RX12 (by decide) rfl (Nat.le_of_ble_eq_true rfl) rfl (fun p e s m below meth c A C hr hlk => ?_)
  refine x_iconst C (v := 0) dX12_tapeNumber_0 (by decide) rfl ?_
  refine x_istore_n C (lv' := [(2, .int 0), (0, .ref (a 0)), (1, .int (nI i0))]) dX12_tapeNumber_1 rfl (by decide) rfl rfl ?_
  refine x_iconst C (v := 4) dX12_tapeNumber_2 (by decide) rfl ?_
  refine x_iload_n C dX12_tapeNumber_3 rfl 2 rfl rfl ?_
  refine x_imul C (v := (nI (4 * i0))) dX12_tapeNumber_4 (pk_mul 4 i0) rfl ?_
  refine x_istore_n C (lv' := [(3, .int (nI (4 * i0))), (2, .int 0), (0, .ref (a 0)), (1, .int (nI i0))]) dX12_tapeNumber_5 rfl (by decide) rfl rfl ?_
  have loop6 : ∀ (fu6 : Nat) (z6_2 : Int32) (k : Nat), True → 4 * i0 + 4 - k < fu6 → k ≤ 4 * i0 + 4 → X E p l e (xRm 0 0 0) s m ([.ref (a 0), .int (nI i0)] : List Value).toArray below meth c A 4 0 0 (MQ below (va_Qi (fun r w => w = ws) (xB E A) A) ([.ref (a 0), .int (nI i0)] : List Value).toArray s 0 0 A) ws 6 [(0, .ref (a 0)), (1, .int (nI i0)), (2, .int z6_2), (3, .int (nI k))] [] := by
    intro fu6
    induction fu6 with
    | zero => intro z6_2 k _ q; omega
    | succ fu6 ih6 =>
      intro z6_2 k _ me6 iv6_0
      refine x_iload_n C dX12_tapeNumber_6 rfl 3 rfl rfl ?_
      refine x_iconst C (v := 4) dX12_tapeNumber_7 (by decide) rfl ?_
      refine x_iload_n C dX12_tapeNumber_8 rfl 1 rfl rfl ?_
      refine x_imul C (v := (nI (4 * i0))) dX12_tapeNumber_9 (pk_mul 4 i0) rfl ?_
      refine x_iconst C (v := 4) dX12_tapeNumber_10 (by decide) rfl ?_
      refine x_iadd C (v := (nI ((4 * i0) + 4))) dX12_tapeNumber_11 (nI_add (4 * i0) 4) rfl ?_
      refine x_icmp_ge C (tgt := 37) dX12_tapeNumber_12 (by decide) rfl (fun c1 => ?_) (fun c1 => ?_)
      · skip
        have nf2 := nI_le' (a := ((4 * i0) + 4)) (b := k) c1 (by omega) (by omega)
        refine x_iload_n C dX12_tapeNumber_37 rfl 2 rfl rfl ?_
        exact x_zret C hr hlk rfl dX12_tapeNumber_38 rfl
      · skip
        have nf3 := nI_nle' (a := ((4 * i0) + 4)) (b := k) c1 (by omega) (by omega)
        refine x_iload_n C dX12_tapeNumber_15 rfl 2 rfl rfl ?_
        refine x_bipush C (v := 8) dX12_tapeNumber_16 (by decide) rfl ?_
        refine x_ishl C (v := (z6_2 <<< ((8 : Int32) &&& 31))) dX12_tapeNumber_18 rfl rfl ?_
        refine x_any (fun v4 => ?_)
        refine x_aload_n C dX12_tapeNumber_19 rfl 0 rfl rfl ?_
        obtain ⟨_, k5, n6, n8, n10, v12, v13, v14, n15, n17, n19, n21, v23, v24, v25, v26, n27, n29, bn7, bn9, bn11, bn16, bn18, bn20, bn22, bn28, bn30, rfl⟩ := hW 0 _ rfl
        refine x_get C (ci := 11) (k := 3) 0 k5 rfl in_X12 (by decide) w_1121 rfl dX12_tapeNumber_20 rfl ?_
        refine x_iload_n C dX12_tapeNumber_23 rfl 3 rfl rfl ?_
        obtain ⟨_, k31, f32, rfl⟩ := hW 4 _ rfl
        refine x_bald C (v := (f32 (nI k).toNatClampNeg)) 4 k31 (vp_in_nI (by omega) (by decide)) rfl dX12_tapeNumber_24 rfl ?_
        refine x_any (fun v33 => ?_)
        refine x_sipush C (v := 255) dX12_tapeNumber_25 (by decide) rfl ?_
        refine x_iand C (v := (v33 &&& (255 : Int32))) dX12_tapeNumber_28 rfl rfl ?_
        refine x_any (fun v34 => ?_)
        refine x_ior C (v := (v4 ||| v34)) dX12_tapeNumber_29 rfl rfl ?_
        refine x_any (fun v35 => ?_)
        refine x_istore_n C (lv' := [(2, .int v35), (0, .ref (a 0)), (1, .int (nI i0)), (3, .int (nI k))]) dX12_tapeNumber_30 rfl (by decide) rfl rfl ?_
        refine x_iinc C (v := (nI (k + 1))) (lv' := [(3, .int (nI (k + 1))), (2, .int v35), (0, .ref (a 0)), (1, .int (nI i0))]) dX12_tapeNumber_31 3 rfl (nI_add k 1) (by decide) rfl rfl ?_
        refine x_goto C (tgt := 6) dX12_tapeNumber_34 (by decide) ?_
        refine x_lv (lv1 := [(0, .ref (a 0)), (1, .int (nI i0)), (2, .int v35), (3, .int (nI (k + 1)))]) [2, 3, 1, 0] rfl ?_
        exact ih6 v35 (k + 1) trivial (by omega) (by omega)
  refine x_lv (lv1 := [(0, .ref (a 0)), (1, .int (nI i0)), (2, .int 0), (3, .int (nI (4 * i0)))]) [2, 3, 1, 0] rfl ?_
  exact loop6 _ (0 : Int32) (4 * i0) trivial (Nat.lt_succ_self _) (by omega)
theorem dX12_check_0 : decode cX12_check 0 = .ok (.iload_n 1, 1) := by decide +kernel
theorem dX12_check_1 : decode cX12_check 1 = .ok (.iconst 0, 1) := by decide +kernel
theorem dX12_check_2 : decode cX12_check 2 = .ok (.bipush 48, 2) := by decide +kernel
theorem dX12_check_4 : decode cX12_check 4 = .ok (.invokestatic 109, 3) := by decide +kernel
theorem dX12_check_7 : decode cX12_check 7 = .ok (.ifCond .eq 13, 3) := by decide +kernel
theorem dX12_check_10 : decode cX12_check 10 = .ok (.iload_n 1, 1) := by decide +kernel
theorem dX12_check_11 : decode cX12_check 11 = .ok (.aload_n 0, 1) := by decide +kernel
theorem dX12_check_12 : decode cX12_check 12 = .ok (.getfield 123, 3) := by decide +kernel
theorem dX12_check_15 : decode cX12_check 15 = .ok (.iconst 4, 1) := by decide +kernel
theorem dX12_check_16 : decode cX12_check 16 = .ok (.idiv, 1) := by decide +kernel
theorem dX12_check_17 : decode cX12_check 17 = .ok (.if_icmp .le 6, 3) := by decide +kernel
theorem dX12_check_20 : decode cX12_check 20 = .ok (.bipush (-2), 2) := by decide +kernel
theorem dX12_check_22 : decode cX12_check 22 = .ok (.ireturn, 1) := by decide +kernel
theorem dX12_check_23 : decode cX12_check 23 = .ok (.aload_n 0, 1) := by decide +kernel
theorem dX12_check_24 : decode cX12_check 24 = .ok (.iconst 0, 1) := by decide +kernel
theorem dX12_check_25 : decode cX12_check 25 = .ok (.putfield 123, 3) := by decide +kernel
theorem dX12_check_28 : decode cX12_check 28 = .ok (.iconst 0, 1) := by decide +kernel
theorem dX12_check_29 : decode cX12_check 29 = .ok (.istore_n 2, 1) := by decide +kernel
theorem dX12_check_30 : decode cX12_check 30 = .ok (.iload_n 2, 1) := by decide +kernel
theorem dX12_check_31 : decode cX12_check 31 = .ok (.iload_n 1, 1) := by decide +kernel
theorem dX12_check_32 : decode cX12_check 32 = .ok (.if_icmp .ge 39, 3) := by decide +kernel
theorem dX12_check_35 : decode cX12_check 35 = .ok (.aload_n 0, 1) := by decide +kernel
theorem dX12_check_36 : decode cX12_check 36 = .ok (.iload_n 2, 1) := by decide +kernel
theorem dX12_check_37 : decode cX12_check 37 = .ok (.invokevirtual 407, 3) := by decide +kernel
theorem dX12_check_40 : decode cX12_check 40 = .ok (.aload_n 0, 1) := by decide +kernel
theorem dX12_check_41 : decode cX12_check 41 = .ok (.iload_n 2, 1) := by decide +kernel
theorem dX12_check_42 : decode cX12_check 42 = .ok (.invokevirtual 105, 3) := by decide +kernel
theorem dX12_check_45 : decode cX12_check 45 = .ok (.ifCond .eq 14, 3) := by decide +kernel
theorem dX12_check_48 : decode cX12_check 48 = .ok (.aload_n 0, 1) := by decide +kernel
theorem dX12_check_49 : decode cX12_check 49 = .ok (.getfield 7, 3) := by decide +kernel
theorem dX12_check_52 : decode cX12_check 52 = .ok (.iconst 0, 1) := by decide +kernel
theorem dX12_check_53 : decode cX12_check 53 = .ok (.iload_n 2, 1) := by decide +kernel
theorem dX12_check_54 : decode cX12_check 54 = .ok (.iadd, 1) := by decide +kernel
theorem dX12_check_55 : decode cX12_check 55 = .ok (.iaload, 1) := by decide +kernel
theorem dX12_check_56 : decode cX12_check 56 = .ok (.goto 4, 3) := by decide +kernel
theorem dX12_check_59 : decode cX12_check 59 = .ok (.iconst 0, 1) := by decide +kernel
theorem dX12_check_60 : decode cX12_check 60 = .ok (.if_icmp .eq 5, 3) := by decide +kernel
theorem dX12_check_63 : decode cX12_check 63 = .ok (.iload_n 2, 1) := by decide +kernel
theorem dX12_check_64 : decode cX12_check 64 = .ok (.ireturn, 1) := by decide +kernel
theorem dX12_check_65 : decode cX12_check 65 = .ok (.iinc 2 1, 3) := by decide +kernel
theorem dX12_check_68 : decode cX12_check 68 = .ok (.goto (-38), 3) := by decide +kernel
theorem dX12_check_71 : decode cX12_check 71 = .ok (.iconst (-1), 1) := by decide +kernel
theorem dX12_check_72 : decode cX12_check 72 = .ok (.ireturn, 1) := by decide +kernel
set_option maxRecDepth 20000 in
set_option maxHeartbeats 4000000 in
theorem m_check (E : xE) (l : Launch) (a : Nat → Nat) (cd : Cd) (hG : Good cd) (kf : Int32) (jn js jq : Lb) (ws : va_W) (hW : WX (okM E a cd kf jn js jq) ws) (p0 : Int32) : xI E l yX12_check cX12_check 3 (some .int) 8 [.ref (a 0), .int p0] ws (fun r w => WX (okM E a cd kf jn js jq) w) := by
  refine xI_start (lv := [(0, .ref (a 0)), (1, .int p0)]) RX12 (by decide) rfl (Nat.le_of_ble_eq_true rfl) rfl (fun p e s m below meth c A C hr hlk => ?_)
  refine x_iload_n C dX12_check_0 rfl 1 rfl rfl ?_
  refine x_iconst C (v := 0) dX12_check_1 (by decide) rfl ?_
  refine x_bipush C (v := 48) dX12_check_2 (by decide) rfl ?_
  refine x_si C (As := [.int p0, .int 0, .int 48]) (rest := []) (m_in E l a cd hG kf jn js jq ws hW p0 (0 : Int32) (48 : Int32)) mf_X12_in w_1267 rfl rfl (Nat.le_of_ble_eq_true rfl) ⟨(Nat.le_of_ble_eq_true rfl), (Nat.le_of_ble_eq_true rfl)⟩ ⟨(Nat.le_of_ble_eq_true rfl), (Nat.le_of_ble_eq_true rfl)⟩ dX12_check_4 rfl (fun r2 w3 h1 => ?_)
  obtain ⟨hW4, zb5, x6⟩ := h1
  refine x_ws hW4 ?_
  refine x_if_eq C (tgt := 20) dX12_check_7 (by decide) rfl (fun c7 => ?_) (fun c7 => ?_)
  · skip
    refine x_bipush C (v := (-2)) dX12_check_20 (by decide) rfl ?_
    exact x_zret C hr hlk rfl dX12_check_22 hW
  · skip
    obtain ⟨j8, hl9, hh10, ej11⟩ := w_nat (a := 0) (b := 48) (by decide) (by decide) (x6 c7)
    subst ej11
    refine x_iload_n C dX12_check_10 rfl 1 rfl rfl ?_
    refine x_aload_n C dX12_check_11 rfl 0 rfl rfl ?_
    obtain ⟨_, k12, n13, n15, n17, v19, v20, v21, n22, n24, n26, n28, v30, v31, v32, v33, n34, n36, bn14, bn16, bn18, bn23, bn25, bn27, bn29, bn35, bn37, rfl⟩ := hW 0 _ rfl
    refine x_get C (ci := 11) (k := 4) 0 k12 rfl in_X12 (by decide) w_1122 rfl dX12_check_12 rfl ?_
    refine x_iconst C (v := 4) dX12_check_15 (by decide) rfl ?_
    refine x_idiv C (v := ((nI n13) / (4 : Int32))) dX12_check_16 (by decide) rfl rfl ?_
    refine x_any (fun v38 => ?_)
    refine x_icmp_le C (tgt := 23) dX12_check_17 (by decide) rfl (fun c39 => ?_) (fun c39 => ?_)
    · skip
      refine x_aload_n C dX12_check_23 rfl 0 rfl rfl ?_
      refine x_iconst C (v := 0) dX12_check_24 (by decide) rfl ?_
      obtain ⟨w40, hw41⟩ : ∃ w : va_W, w = List.set ws 0 (ob (a 0) 11 [.ref (a 1), .ref (a 2), .ref (a 3), .ref (a 4), .int 0, .int (nI n15), .int (nI n17), .int v19, .int v20, .int v21, .int (nI n22), .int (nI n24), .int (nI n26), .int (nI (cd.2.2.2.2.2)), .ref (a 5), .ref (a 6), .ref (a 7), .ref (a 8), .ref (a 9), .ref (a 10), .ref (a 11), .ref (a 12), .ref (a 13), .ref (a 14), .ref (a 15), .ref (a 16), .ref (a 17), .int (nI n28), .ref (a 18), .ref (a 19), .ref (a 20), .ref (a 21), .int v30, .int v31, .int v32, .int v33, .int (nI n34), .int (nI n36), .ref (a 22), .ref (a 23), .ref (a 24), .ref (a 25), .ref (a 26), .ref (a 27), .ref (a 28), .ref (a 29), .ref (a 30), .int kf]) := ⟨_, rfl⟩
      refine x_put C (ci := 11) (k := 4) (ty := .int) 0 k12 rfl in_X12 tyX12 tyX12_ok nmX12 (by decide) w_1122 rfl rfl rfl rfl (Nat.le_of_ble_eq_true rfl) hw41.symm dX12_check_25 rfl ?_
      have hW42 : WX (okM E a cd kf jn js jq) w40 := by rw [hw41]; exact hW.set (k := 0) rfl ⟨0, n15, n17, v19, v20, v21, n22, n24, n26, n28, v30, v31, v32, v33, n34, n36, by omega, by omega, by omega, by omega, by omega, by omega, by omega, by omega, by omega, rfl⟩
      have k43 : w40[0]? = some (ob (a 0) 11 [.ref (a 1), .ref (a 2), .ref (a 3), .ref (a 4), .int 0, .int (nI n15), .int (nI n17), .int v19, .int v20, .int v21, .int (nI n22), .int (nI n24), .int (nI n26), .int (nI (cd.2.2.2.2.2)), .ref (a 5), .ref (a 6), .ref (a 7), .ref (a 8), .ref (a 9), .ref (a 10), .ref (a 11), .ref (a 12), .ref (a 13), .ref (a 14), .ref (a 15), .ref (a 16), .ref (a 17), .int (nI n28), .ref (a 18), .ref (a 19), .ref (a 20), .ref (a 21), .int v30, .int v31, .int v32, .int v33, .int (nI n34), .int (nI n36), .ref (a 22), .ref (a 23), .ref (a 24), .ref (a 25), .ref (a 26), .ref (a 27), .ref (a 28), .ref (a 29), .ref (a 30), .int kf]) := by rw [hw41]; exact set_eq k12
      refine x_iconst C (v := 0) dX12_check_28 (by decide) rfl ?_
      refine x_istore_n C (lv' := [(2, .int 0), (0, .ref (a 0)), (1, .int (nI j8))]) dX12_check_29 rfl (by decide) rfl rfl ?_
      have loop30 : ∀ (fu30 : Nat) (k : Nat), True → 48 - k < fu30 → k ≤ 48 → X E p l e (xRm 8 0 0) s m ([.ref (a 0), .int (nI j8)] : List Value).toArray below meth c A 3 0 0 (MQ below (va_Qi (fun r w => WX (okM E a cd kf jn js jq) w) (xB E A) A) ([.ref (a 0), .int (nI j8)] : List Value).toArray s 0 0 A) w40 30 [(0, .ref (a 0)), (1, .int (nI j8)), (2, .int (nI k))] [] := by
        intro fu30
        induction fu30 with
        | zero => intro k _ q; omega
        | succ fu30 ih30 =>
          intro k _ me30 iv30_0
          refine x_iload_n C dX12_check_30 rfl 2 rfl rfl ?_
          refine x_iload_n C dX12_check_31 rfl 1 rfl rfl ?_
          refine x_icmp_ge C (tgt := 71) dX12_check_32 (by decide) rfl (fun c44 => ?_) (fun c44 => ?_)
          · skip
            have nf45 := nI_le' (a := j8) (b := k) c44 (by omega) (by omega)
            refine x_iconst C (v := (-1)) dX12_check_71 (by decide) rfl ?_
            exact x_zret C hr hlk rfl dX12_check_72 hW42
          · skip
            have nf46 := nI_nle' (a := j8) (b := k) c44 (by omega) (by omega)
            refine x_aload_n C dX12_check_35 rfl 0 rfl rfl ?_
            refine x_iload_n C dX12_check_36 rfl 2 rfl rfl ?_
            refine x_vi C (As := [.int (nI k)]) (rest := []) (m_tapeNumber E l a cd hG kf jn js jq w40 hW42 k (by omega)) mf_X12_tapeNumber w_1682 0 k43 rfl rfl rfl (Nat.le_of_ble_eq_true rfl) ⟨(Nat.le_of_ble_eq_true rfl), (Nat.le_of_ble_eq_true rfl)⟩ ⟨(Nat.le_of_ble_eq_true rfl), (Nat.le_of_ble_eq_true rfl)⟩ dX12_check_37 rfl (fun r48 w49 h47 => ?_)
            have hW50 := h47
            refine x_ws hW50 ?_
            refine x_aload_n C dX12_check_40 rfl 0 rfl rfl ?_
            refine x_iload_n C dX12_check_41 rfl 2 rfl rfl ?_
            refine x_vi C (As := [.int (nI k)]) (rest := [.int r48]) (m_isEgg E l a cd hG kf jn js jq w40 hW42 ((nI k))) mf_X12_isEgg w_1439 0 k43 rfl rfl rfl (Nat.le_of_ble_eq_true rfl) ⟨(Nat.le_of_ble_eq_true rfl), (Nat.le_of_ble_eq_true rfl)⟩ ⟨(Nat.le_of_ble_eq_true rfl), (Nat.le_of_ble_eq_true rfl)⟩ dX12_check_42 rfl (fun r52 w53 h51 => ?_)
            obtain ⟨hW54, zb55, x56⟩ := h51
            refine x_ws hW54 ?_
            refine x_if_eq C (tgt := 59) dX12_check_45 (by decide) rfl (fun c57 => ?_) (fun c57 => ?_)
            · skip
              refine x_iconst C (v := 0) dX12_check_59 (by decide) rfl ?_
              refine x_icmp_eq C (tgt := 65) dX12_check_60 (by decide) rfl (fun c58 => ?_) (fun c58 => ?_)
              · skip
                refine x_iinc C (v := (nI (k + 1))) (lv' := [(2, .int (nI (k + 1))), (0, .ref (a 0)), (1, .int (nI j8))]) dX12_check_65 2 rfl (nI_add k 1) (by decide) rfl rfl ?_
                refine x_goto C (tgt := 30) dX12_check_68 (by decide) ?_
                refine x_lv (lv1 := [(0, .ref (a 0)), (1, .int (nI j8)), (2, .int (nI (k + 1)))]) [1, 2, 0] rfl ?_
                exact ih30 (k + 1) trivial (by omega) (by omega)
              · skip
                refine x_iload_n C dX12_check_63 rfl 2 rfl rfl ?_
                exact x_zret C hr hlk rfl dX12_check_64 hW42
            · skip
              have wi59 := wth_le (a := 0) (b := 47) (j := k) (x56 c57) (by omega) (by decide) (by decide)
              refine x_aload_n C dX12_check_48 rfl 0 rfl rfl ?_
              refine x_get C (ci := 11) (k := 0) 0 k43 rfl in_X12 (by decide) w_1118 rfl dX12_check_49 rfl ?_
              refine x_iconst C (v := 0) dX12_check_52 (by decide) rfl ?_
              refine x_iload_n C dX12_check_53 rfl 2 rfl rfl ?_
              refine x_iadd C (v := (nI (0 + k))) dX12_check_54 (nI_add 0 k) rfl ?_
              obtain ⟨_, k60, f61, pf62, rfl⟩ := hW42 1 _ rfl
              refine x_iald C (v := (f61 (nI (0 + k)).toNatClampNeg)) 1 k60 (vp_in_nI (by omega) (by decide)) rfl dX12_check_55 rfl ?_
              refine x_any (fun v63 => ?_)
              refine x_goto C (tgt := 60) dX12_check_56 (by decide) ?_
              refine x_icmp_eq C (tgt := 65) dX12_check_60 (by decide) rfl (fun c64 => ?_) (fun c64 => ?_)
              · skip
                refine x_iinc C (v := (nI (k + 1))) (lv' := [(2, .int (nI (k + 1))), (0, .ref (a 0)), (1, .int (nI j8))]) dX12_check_65 2 rfl (nI_add k 1) (by decide) rfl rfl ?_
                refine x_goto C (tgt := 30) dX12_check_68 (by decide) ?_
                refine x_lv (lv1 := [(0, .ref (a 0)), (1, .int (nI j8)), (2, .int (nI (k + 1)))]) [1, 2, 0] rfl ?_
                exact ih30 (k + 1) trivial (by omega) (by omega)
              · skip
                refine x_iload_n C dX12_check_63 rfl 2 rfl rfl ?_
                exact x_zret C hr hlk rfl dX12_check_64 hW42
      refine x_lv (lv1 := [(0, .ref (a 0)), (1, .int (nI j8)), (2, .int 0)]) [1, 2, 0] rfl ?_
      exact loop30 _ 0 trivial (Nat.lt_succ_self _) (by omega)
    · skip
      refine x_bipush C (v := (-2)) dX12_check_20 (by decide) rfl ?_
      exact x_zret C hr hlk rfl dX12_check_22 hW
set_option maxRecDepth 20000 in
set_option maxHeartbeats 4000000 in
theorem m_minN (E : xE) (l : Launch) (a : Nat → Nat) (cd : Cd) (hG : Good cd) (kf : Int32) (jn js jq : Lb) (ws : va_W) (hW : WX (okM E a cd kf jn js jq) ws) (x0 : Nat) (y0 : Nat) (hx0 : x0 < 2 ^ 31) (hy0 : y0 < 2 ^ 31) : xI E l yX12_min cX12_min 2 (some .int) 0 [.int (nI x0), .int (nI y0)] ws (fun r w => w = ws ∧ (∃ rn : Nat, rn ≤ x0 ∧ rn ≤ y0 ∧ r = nI rn)) := by
  refine xI_start (lv := [(0, .int (nI x0)), (1, .int (nI y0))]) RX12 (by decide) rfl (Nat.le_of_ble_eq_true rfl) rfl (fun p e s m below meth c A C hr hlk => ?_)
  refine x_iload_n C dX12_min_0 rfl 0 rfl rfl ?_
  refine x_iload_n C dX12_min_1 rfl 1 rfl rfl ?_
  refine x_icmp_ge C (tgt := 9) dX12_min_2 (by decide) rfl (fun c1 => ?_) (fun c1 => ?_)
  · skip
    have nf2 := nI_le' (a := y0) (b := x0) c1 (by omega) (by omega)
    refine x_iload_n C dX12_min_9 rfl 1 rfl rfl ?_
    exact x_zret C hr hlk rfl dX12_min_10 ⟨rfl, ⟨_, by omega, by omega, rfl⟩⟩
  · skip
    have nf3 := nI_nle' (a := y0) (b := x0) c1 (by omega) (by omega)
    refine x_iload_n C dX12_min_5 rfl 0 rfl rfl ?_
    refine x_goto C (tgt := 10) dX12_min_6 (by decide) ?_
    exact x_zret C hr hlk rfl dX12_min_10 ⟨rfl, ⟨_, by omega, by omega, rfl⟩⟩
theorem dX12_hoursBy_0 : decode cX12_hoursBy 0 = .ok (.iload_n 2, 1) := by decide +kernel
theorem dX12_hoursBy_1 : decode cX12_hoursBy 1 = .ok (.iload_n 3, 1) := by decide +kernel
theorem dX12_hoursBy_2 : decode cX12_hoursBy 2 = .ok (.isub, 1) := by decide +kernel
theorem dX12_hoursBy_3 : decode cX12_hoursBy 3 = .ok (.aload_n 0, 1) := by decide +kernel
theorem dX12_hoursBy_4 : decode cX12_hoursBy 4 = .ok (.getfield 95, 3) := by decide +kernel
theorem dX12_hoursBy_7 : decode cX12_hoursBy 7 = .ok (.bipush 21, 2) := by decide +kernel
theorem dX12_hoursBy_9 : decode cX12_hoursBy 9 = .ok (.iload_n 1, 1) := by decide +kernel
theorem dX12_hoursBy_10 : decode cX12_hoursBy 10 = .ok (.iconst 1, 1) := by decide +kernel
theorem dX12_hoursBy_11 : decode cX12_hoursBy 11 = .ok (.isub, 1) := by decide +kernel
theorem dX12_hoursBy_12 : decode cX12_hoursBy 12 = .ok (.imul, 1) := by decide +kernel
theorem dX12_hoursBy_13 : decode cX12_hoursBy 13 = .ok (.iload_n 2, 1) := by decide +kernel
theorem dX12_hoursBy_14 : decode cX12_hoursBy 14 = .ok (.iadd, 1) := by decide +kernel
theorem dX12_hoursBy_15 : decode cX12_hoursBy 15 = .ok (.iload_n 3, 1) := by decide +kernel
theorem dX12_hoursBy_16 : decode cX12_hoursBy 16 = .ok (.iadd, 1) := by decide +kernel
theorem dX12_hoursBy_17 : decode cX12_hoursBy 17 = .ok (.iaload, 1) := by decide +kernel
theorem dX12_hoursBy_18 : decode cX12_hoursBy 18 = .ok (.iadd, 1) := by decide +kernel
theorem dX12_hoursBy_19 : decode cX12_hoursBy 19 = .ok (.ireturn, 1) := by decide +kernel
set_option maxRecDepth 20000 in
set_option maxHeartbeats 4000000 in
theorem m_hoursBy (E : xE) (l : Launch) (a : Nat → Nat) (cd : Cd) (hG : Good cd) (kf : Int32) (jn js jq : Lb) (ws : va_W) (hW : WX (okM E a cd kf jn js jq) ws) (n0 : Nat) (h0 : Nat) (x0 : Nat) (hn0 : 1 ≤ n0 ∧ n0 ≤ 12) (hhx : h0 + x0 ≤ 20) : xI E l yX12_hoursBy cX12_hoursBy 4 (some .int) 0 [.ref (a 0), .int (nI n0), .int (nI h0), .int (nI x0)] ws (fun r w => w = ws) := by
  refine xI_start (lv := [(0, .ref (a 0)), (1, .int (nI n0)), (2, .int (nI h0)), (3, .int (nI x0))]) RX12 (by decide) rfl (Nat.le_of_ble_eq_true rfl) rfl (fun p e s m below meth c A C hr hlk => ?_)
  refine x_iload_n C dX12_hoursBy_0 rfl 2 rfl rfl ?_
  refine x_iload_n C dX12_hoursBy_1 rfl 3 rfl rfl ?_
  refine x_isub C (v := ((nI h0) - (nI x0))) dX12_hoursBy_2 rfl rfl ?_
  refine x_any (fun v1 => ?_)
  refine x_aload_n C dX12_hoursBy_3 rfl 0 rfl rfl ?_
  obtain ⟨_, k2, n3, n5, n7, v9, v10, v11, n12, n14, n16, n18, v20, v21, v22, v23, n24, n26, bn4, bn6, bn8, bn13, bn15, bn17, bn19, bn25, bn27, rfl⟩ := hW 0 _ rfl
  refine x_get C (ci := 11) (k := 45) 0 k2 rfl in_X12 (by decide) w_1163 rfl dX12_hoursBy_4 rfl ?_
  refine x_bipush C (v := 21) dX12_hoursBy_7 (by decide) rfl ?_
  refine x_iload_n C dX12_hoursBy_9 rfl 1 rfl rfl ?_
  refine x_iconst C (v := 1) dX12_hoursBy_10 (by decide) rfl ?_
  refine x_isub C (v := (nI (n0 - 1))) dX12_hoursBy_11 (pk_sub (a := n0) (b := 1) (by omega)) rfl ?_
  refine x_imul C (v := (nI (21 * (n0 - 1)))) dX12_hoursBy_12 (pk_mul 21 (n0 - 1)) rfl ?_
  refine x_iload_n C dX12_hoursBy_13 rfl 2 rfl rfl ?_
  refine x_iadd C (v := (nI ((21 * (n0 - 1)) + h0))) dX12_hoursBy_14 (nI_add (21 * (n0 - 1)) h0) rfl ?_
  refine x_iload_n C dX12_hoursBy_15 rfl 3 rfl rfl ?_
  refine x_iadd C (v := (nI (((21 * (n0 - 1)) + h0) + x0))) dX12_hoursBy_16 (nI_add ((21 * (n0 - 1)) + h0) x0) rfl ?_
  obtain ⟨_, k28, f29, rfl⟩ := hW 29 _ rfl
  refine x_iald C (v := (f29 (nI (((21 * (n0 - 1)) + h0) + x0)).toNatClampNeg)) 29 k28 (vp_in_nI (by omega) (by decide)) rfl dX12_hoursBy_17 rfl ?_
  refine x_any (fun v30 => ?_)
  refine x_iadd C (v := (v1 + v30)) dX12_hoursBy_18 rfl rfl ?_
  refine x_any (fun v31 => ?_)
  exact x_zret C hr hlk rfl dX12_hoursBy_19 rfl
theorem dX12_flock_0 : decode cX12_flock 0 = .ok (.iload_n 1, 1) := by decide +kernel
theorem dX12_flock_1 : decode cX12_flock 1 = .ok (.iconst 1, 1) := by decide +kernel
theorem dX12_flock_2 : decode cX12_flock 2 = .ok (.bipush 20, 2) := by decide +kernel
theorem dX12_flock_4 : decode cX12_flock 4 = .ok (.invokestatic 109, 3) := by decide +kernel
theorem dX12_flock_7 : decode cX12_flock 7 = .ok (.ifCond .eq 22, 3) := by decide +kernel
theorem dX12_flock_10 : decode cX12_flock 10 = .ok (.iload_n 2, 1) := by decide +kernel
theorem dX12_flock_11 : decode cX12_flock 11 = .ok (.iconst 1, 1) := by decide +kernel
theorem dX12_flock_12 : decode cX12_flock 12 = .ok (.bipush 12, 2) := by decide +kernel
theorem dX12_flock_14 : decode cX12_flock 14 = .ok (.invokestatic 109, 3) := by decide +kernel
theorem dX12_flock_17 : decode cX12_flock 17 = .ok (.ifCond .eq 12, 3) := by decide +kernel
theorem dX12_flock_20 : decode cX12_flock 20 = .ok (.iload_n 3, 1) := by decide +kernel
theorem dX12_flock_21 : decode cX12_flock 21 = .ok (.iconst 0, 1) := by decide +kernel
theorem dX12_flock_22 : decode cX12_flock 22 = .ok (.iconst 1, 1) := by decide +kernel
theorem dX12_flock_23 : decode cX12_flock 23 = .ok (.invokestatic 109, 3) := by decide +kernel
theorem dX12_flock_26 : decode cX12_flock 26 = .ok (.ifCond .ne 5, 3) := by decide +kernel
theorem dX12_flock_29 : decode cX12_flock 29 = .ok (.iconst (-1), 1) := by decide +kernel
theorem dX12_flock_30 : decode cX12_flock 30 = .ok (.ireturn, 1) := by decide +kernel
theorem dX12_flock_31 : decode cX12_flock 31 = .ok (.iconst 0, 1) := by decide +kernel
theorem dX12_flock_32 : decode cX12_flock 32 = .ok (.istore 4, 2) := by decide +kernel
theorem dX12_flock_34 : decode cX12_flock 34 = .ok (.iconst 0, 1) := by decide +kernel
theorem dX12_flock_35 : decode cX12_flock 35 = .ok (.istore 5, 2) := by decide +kernel
theorem dX12_flock_37 : decode cX12_flock 37 = .ok (.iload 5, 2) := by decide +kernel
theorem dX12_flock_39 : decode cX12_flock 39 = .ok (.bipush 20, 2) := by decide +kernel
theorem dX12_flock_41 : decode cX12_flock 41 = .ok (.if_icmp .gt 17, 3) := by decide +kernel
theorem dX12_flock_44 : decode cX12_flock 44 = .ok (.aload_n 0, 1) := by decide +kernel
theorem dX12_flock_45 : decode cX12_flock 45 = .ok (.getfield 95, 3) := by decide +kernel
theorem dX12_flock_48 : decode cX12_flock 48 = .ok (.iload 5, 2) := by decide +kernel
theorem dX12_flock_50 : decode cX12_flock 50 = .ok (.iconst 0, 1) := by decide +kernel
theorem dX12_flock_51 : decode cX12_flock 51 = .ok (.iastore, 1) := by decide +kernel
theorem dX12_flock_52 : decode cX12_flock 52 = .ok (.iinc 5 1, 3) := by decide +kernel
theorem dX12_flock_55 : decode cX12_flock 55 = .ok (.goto (-18), 3) := by decide +kernel
theorem dX12_flock_58 : decode cX12_flock 58 = .ok (.iconst 1, 1) := by decide +kernel
theorem dX12_flock_59 : decode cX12_flock 59 = .ok (.istore 5, 2) := by decide +kernel
theorem dX12_flock_61 : decode cX12_flock 61 = .ok (.iload 5, 2) := by decide +kernel
theorem dX12_flock_63 : decode cX12_flock 63 = .ok (.iload_n 2, 1) := by decide +kernel
theorem dX12_flock_64 : decode cX12_flock 64 = .ok (.if_icmp .gt 112, 3) := by decide +kernel
theorem dX12_flock_67 : decode cX12_flock 67 = .ok (.iconst 1, 1) := by decide +kernel
theorem dX12_flock_68 : decode cX12_flock 68 = .ok (.istore 6, 2) := by decide +kernel
theorem dX12_flock_70 : decode cX12_flock 70 = .ok (.iload 6, 2) := by decide +kernel
theorem dX12_flock_72 : decode cX12_flock 72 = .ok (.bipush 20, 2) := by decide +kernel
theorem dX12_flock_74 : decode cX12_flock 74 = .ok (.if_icmp .gt 96, 3) := by decide +kernel
theorem dX12_flock_77 : decode cX12_flock 77 = .ok (.iconst 0, 1) := by decide +kernel
theorem dX12_flock_78 : decode cX12_flock 78 = .ok (.istore 7, 2) := by decide +kernel
theorem dX12_flock_80 : decode cX12_flock 80 = .ok (.iconst 1, 1) := by decide +kernel
theorem dX12_flock_81 : decode cX12_flock 81 = .ok (.istore 8, 2) := by decide +kernel
theorem dX12_flock_83 : decode cX12_flock 83 = .ok (.iload 8, 2) := by decide +kernel
theorem dX12_flock_85 : decode cX12_flock 85 = .ok (.iload 6, 2) := by decide +kernel
theorem dX12_flock_87 : decode cX12_flock 87 = .ok (.bipush 20, 2) := by decide +kernel
theorem dX12_flock_89 : decode cX12_flock 89 = .ok (.iload 6, 2) := by decide +kernel
theorem dX12_flock_91 : decode cX12_flock 91 = .ok (.isub, 1) := by decide +kernel
theorem dX12_flock_92 : decode cX12_flock 92 = .ok (.invokestatic 272, 3) := by decide +kernel
theorem dX12_flock_95 : decode cX12_flock 95 = .ok (.if_icmp .gt 36, 3) := by decide +kernel
theorem dX12_flock_98 : decode cX12_flock 98 = .ok (.aload_n 0, 1) := by decide +kernel
theorem dX12_flock_99 : decode cX12_flock 99 = .ok (.iload 5, 2) := by decide +kernel
theorem dX12_flock_101 : decode cX12_flock 101 = .ok (.iload 6, 2) := by decide +kernel
theorem dX12_flock_103 : decode cX12_flock 103 = .ok (.iload 8, 2) := by decide +kernel
theorem dX12_flock_105 : decode cX12_flock 105 = .ok (.invokevirtual 374, 3) := by decide +kernel
theorem dX12_flock_108 : decode cX12_flock 108 = .ok (.aload_n 0, 1) := by decide +kernel
theorem dX12_flock_109 : decode cX12_flock 109 = .ok (.iload 5, 2) := by decide +kernel
theorem dX12_flock_111 : decode cX12_flock 111 = .ok (.iload 6, 2) := by decide +kernel
theorem dX12_flock_113 : decode cX12_flock 113 = .ok (.iload 7, 2) := by decide +kernel
theorem dX12_flock_115 : decode cX12_flock 115 = .ok (.invokevirtual 374, 3) := by decide +kernel
theorem dX12_flock_118 : decode cX12_flock 118 = .ok (.if_icmp .le 7, 3) := by decide +kernel
theorem dX12_flock_121 : decode cX12_flock 121 = .ok (.iload 8, 2) := by decide +kernel
theorem dX12_flock_123 : decode cX12_flock 123 = .ok (.istore 7, 2) := by decide +kernel
theorem dX12_flock_125 : decode cX12_flock 125 = .ok (.iinc 8 1, 3) := by decide +kernel
theorem dX12_flock_128 : decode cX12_flock 128 = .ok (.goto (-45), 3) := by decide +kernel
theorem dX12_flock_131 : decode cX12_flock 131 = .ok (.aload_n 0, 1) := by decide +kernel
theorem dX12_flock_132 : decode cX12_flock 132 = .ok (.getfield 95, 3) := by decide +kernel
theorem dX12_flock_135 : decode cX12_flock 135 = .ok (.bipush 21, 2) := by decide +kernel
theorem dX12_flock_137 : decode cX12_flock 137 = .ok (.iload 5, 2) := by decide +kernel
theorem dX12_flock_139 : decode cX12_flock 139 = .ok (.imul, 1) := by decide +kernel
theorem dX12_flock_140 : decode cX12_flock 140 = .ok (.iload 6, 2) := by decide +kernel
theorem dX12_flock_142 : decode cX12_flock 142 = .ok (.iadd, 1) := by decide +kernel
theorem dX12_flock_143 : decode cX12_flock 143 = .ok (.aload_n 0, 1) := by decide +kernel
theorem dX12_flock_144 : decode cX12_flock 144 = .ok (.iload 5, 2) := by decide +kernel
theorem dX12_flock_146 : decode cX12_flock 146 = .ok (.iload 6, 2) := by decide +kernel
theorem dX12_flock_148 : decode cX12_flock 148 = .ok (.iload 7, 2) := by decide +kernel
theorem dX12_flock_150 : decode cX12_flock 150 = .ok (.invokevirtual 374, 3) := by decide +kernel
theorem dX12_flock_153 : decode cX12_flock 153 = .ok (.iastore, 1) := by decide +kernel
theorem dX12_flock_154 : decode cX12_flock 154 = .ok (.iload 6, 2) := by decide +kernel
theorem dX12_flock_156 : decode cX12_flock 156 = .ok (.iload_n 1, 1) := by decide +kernel
theorem dX12_flock_157 : decode cX12_flock 157 = .ok (.if_icmp .ne 7, 3) := by decide +kernel
theorem dX12_flock_160 : decode cX12_flock 160 = .ok (.iload 7, 2) := by decide +kernel
theorem dX12_flock_162 : decode cX12_flock 162 = .ok (.istore 4, 2) := by decide +kernel
theorem dX12_flock_164 : decode cX12_flock 164 = .ok (.iinc 6 1, 3) := by decide +kernel
theorem dX12_flock_167 : decode cX12_flock 167 = .ok (.goto (-97), 3) := by decide +kernel
theorem dX12_flock_170 : decode cX12_flock 170 = .ok (.iinc 5 1, 3) := by decide +kernel
theorem dX12_flock_173 : decode cX12_flock 173 = .ok (.goto (-112), 3) := by decide +kernel
theorem dX12_flock_176 : decode cX12_flock 176 = .ok (.iload_n 3, 1) := by decide +kernel
theorem dX12_flock_177 : decode cX12_flock 177 = .ok (.ifCond .ne 17, 3) := by decide +kernel
theorem dX12_flock_180 : decode cX12_flock 180 = .ok (.aload_n 0, 1) := by decide +kernel
theorem dX12_flock_181 : decode cX12_flock 181 = .ok (.getfield 95, 3) := by decide +kernel
theorem dX12_flock_184 : decode cX12_flock 184 = .ok (.bipush 21, 2) := by decide +kernel
theorem dX12_flock_186 : decode cX12_flock 186 = .ok (.iload_n 2, 1) := by decide +kernel
theorem dX12_flock_187 : decode cX12_flock 187 = .ok (.imul, 1) := by decide +kernel
theorem dX12_flock_188 : decode cX12_flock 188 = .ok (.iload_n 1, 1) := by decide +kernel
theorem dX12_flock_189 : decode cX12_flock 189 = .ok (.iadd, 1) := by decide +kernel
theorem dX12_flock_190 : decode cX12_flock 190 = .ok (.iaload, 1) := by decide +kernel
theorem dX12_flock_191 : decode cX12_flock 191 = .ok (.goto 5, 3) := by decide +kernel
theorem dX12_flock_194 : decode cX12_flock 194 = .ok (.iload 4, 2) := by decide +kernel
theorem dX12_flock_196 : decode cX12_flock 196 = .ok (.ireturn, 1) := by decide +kernel
set_option maxRecDepth 20000 in
set_option maxHeartbeats 4000000 in
theorem m_flock (E : xE) (l : Launch) (a : Nat → Nat) (cd : Cd) (hG : Good cd) (kf : Int32) (jn js jq : Lb) (ws : va_W) (hW : WX (okM E a cd kf jn js jq) ws) (p0 : Int32) (p1 : Int32) (p2 : Int32) : xI E l yX12_flock cX12_flock 9 (some .int) 8 [.ref (a 0), .int p0, .int p1, .int p2] ws (fun r w => WX (okM E a cd kf jn js jq) w) := by
  refine xI_start (lv := [(0, .ref (a 0)), (1, .int p0), (2, .int p1), (3, .int p2)]) RX12 (by decide) rfl (Nat.le_of_ble_eq_true rfl) rfl (fun p e s m below meth c A C hr hlk => ?_)
  refine x_iload_n C dX12_flock_0 rfl 1 rfl rfl ?_
  refine x_iconst C (v := 1) dX12_flock_1 (by decide) rfl ?_
  refine x_bipush C (v := 20) dX12_flock_2 (by decide) rfl ?_
  refine x_si C (As := [.int p0, .int 1, .int 20]) (rest := []) (m_in E l a cd hG kf jn js jq ws hW p0 (1 : Int32) (20 : Int32)) mf_X12_in w_1267 rfl rfl (Nat.le_of_ble_eq_true rfl) ⟨(Nat.le_of_ble_eq_true rfl), (Nat.le_of_ble_eq_true rfl)⟩ ⟨(Nat.le_of_ble_eq_true rfl), (Nat.le_of_ble_eq_true rfl)⟩ dX12_flock_4 rfl (fun r2 w3 h1 => ?_)
  obtain ⟨hW4, zb5, x6⟩ := h1
  refine x_ws hW4 ?_
  refine x_if_eq C (tgt := 29) dX12_flock_7 (by decide) rfl (fun c7 => ?_) (fun c7 => ?_)
  · skip
    refine x_iconst C (v := (-1)) dX12_flock_29 (by decide) rfl ?_
    exact x_zret C hr hlk rfl dX12_flock_30 hW
  · skip
    obtain ⟨j8, hl9, hh10, ej11⟩ := w_nat (a := 1) (b := 20) (by decide) (by decide) (x6 c7)
    subst ej11
    refine x_iload_n C dX12_flock_10 rfl 2 rfl rfl ?_
    refine x_iconst C (v := 1) dX12_flock_11 (by decide) rfl ?_
    refine x_bipush C (v := 12) dX12_flock_12 (by decide) rfl ?_
    refine x_si C (As := [.int p1, .int 1, .int 12]) (rest := []) (m_in E l a cd hG kf jn js jq ws hW p1 (1 : Int32) (12 : Int32)) mf_X12_in w_1267 rfl rfl (Nat.le_of_ble_eq_true rfl) ⟨(Nat.le_of_ble_eq_true rfl), (Nat.le_of_ble_eq_true rfl)⟩ ⟨(Nat.le_of_ble_eq_true rfl), (Nat.le_of_ble_eq_true rfl)⟩ dX12_flock_14 rfl (fun r13 w14 h12 => ?_)
    obtain ⟨hW15, zb16, x17⟩ := h12
    refine x_ws hW15 ?_
    refine x_if_eq C (tgt := 29) dX12_flock_17 (by decide) rfl (fun c18 => ?_) (fun c18 => ?_)
    · skip
      refine x_iconst C (v := (-1)) dX12_flock_29 (by decide) rfl ?_
      exact x_zret C hr hlk rfl dX12_flock_30 hW
    · skip
      obtain ⟨j19, hl20, hh21, ej22⟩ := w_nat (a := 1) (b := 12) (by decide) (by decide) (x17 c18)
      subst ej22
      refine x_iload_n C dX12_flock_20 rfl 3 rfl rfl ?_
      refine x_iconst C (v := 0) dX12_flock_21 (by decide) rfl ?_
      refine x_iconst C (v := 1) dX12_flock_22 (by decide) rfl ?_
      refine x_si C (As := [.int p2, .int 0, .int 1]) (rest := []) (m_in E l a cd hG kf jn js jq ws hW p2 (0 : Int32) (1 : Int32)) mf_X12_in w_1267 rfl rfl (Nat.le_of_ble_eq_true rfl) ⟨(Nat.le_of_ble_eq_true rfl), (Nat.le_of_ble_eq_true rfl)⟩ ⟨(Nat.le_of_ble_eq_true rfl), (Nat.le_of_ble_eq_true rfl)⟩ dX12_flock_23 rfl (fun r24 w25 h23 => ?_)
      obtain ⟨hW26, zb27, x28⟩ := h23
      refine x_ws hW26 ?_
      refine x_if_ne C (tgt := 31) dX12_flock_26 (by decide) rfl (fun c29 => ?_) (fun c29 => ?_)
      · skip
        obtain ⟨j30, hl31, hh32, ej33⟩ := w_nat (a := 0) (b := 1) (by decide) (by decide) (x28 c29)
        subst ej33
        refine x_iconst C (v := 0) dX12_flock_31 (by decide) rfl ?_
        refine x_istore C (lv' := [(4, .int 0), (0, .ref (a 0)), (1, .int (nI j8)), (2, .int (nI j19)), (3, .int (nI j30))]) dX12_flock_32 (by decide) rfl rfl ?_
        refine x_iconst C (v := 0) dX12_flock_34 (by decide) rfl ?_
        refine x_istore C (lv' := [(5, .int 0), (4, .int 0), (0, .ref (a 0)), (1, .int (nI j8)), (2, .int (nI j19)), (3, .int (nI j30))]) dX12_flock_35 (by decide) rfl rfl ?_
        have loop37 : ∀ (fu37 : Nat) (h : Nat) (wl37 : va_W), WX (okM E a cd kf jn js jq) wl37 → 21 - h < fu37 → h ≤ 21 → X E p l e (xRm 8 0 0) s m ([.ref (a 0), .int (nI j8), .int (nI j19), .int (nI j30)] : List Value).toArray below meth c A 9 0 0 (MQ below (va_Qi (fun r w => WX (okM E a cd kf jn js jq) w) (xB E A) A) ([.ref (a 0), .int (nI j8), .int (nI j19), .int (nI j30)] : List Value).toArray s 0 0 A) wl37 37 [(0, .ref (a 0)), (1, .int (nI j8)), (2, .int (nI j19)), (3, .int (nI j30)), (4, .int 0), (5, .int (nI h))] [] := by
          intro fu37
          induction fu37 with
          | zero => intro h wl37 _ q; omega
          | succ fu37 ih37 =>
            intro h wl37 hWl37 me37 iv37_0
            refine x_iload C dX12_flock_37 5 rfl rfl ?_
            refine x_bipush C (v := 20) dX12_flock_39 (by decide) rfl ?_
            refine x_icmp_gt C (tgt := 58) dX12_flock_41 (by decide) rfl (fun c34 => ?_) (fun c34 => ?_)
            · skip
              have nf35 := nI_lt' (a := 20) (b := h) c34 (by omega) (by omega)
              refine x_iconst C (v := 1) dX12_flock_58 (by decide) rfl ?_
              refine x_istore C (lv' := [(5, .int 1), (0, .ref (a 0)), (1, .int (nI j8)), (2, .int (nI j19)), (3, .int (nI j30)), (4, .int 0)]) dX12_flock_59 (by decide) rfl rfl ?_
              have loop61 : ∀ (fu61 : Nat) (z61_4 : Int32) (d : Nat) (wl61 : va_W), WX (okM E a cd kf jn js jq) wl61 → 13 - d < fu61 → 1 ≤ d ∧ d ≤ 13 → X E p l e (xRm 8 0 0) s m ([.ref (a 0), .int (nI j8), .int (nI j19), .int (nI j30)] : List Value).toArray below meth c A 9 0 0 (MQ below (va_Qi (fun r w => WX (okM E a cd kf jn js jq) w) (xB E A) A) ([.ref (a 0), .int (nI j8), .int (nI j19), .int (nI j30)] : List Value).toArray s 0 0 A) wl61 61 [(0, .ref (a 0)), (1, .int (nI j8)), (2, .int (nI j19)), (3, .int (nI j30)), (4, .int z61_4), (5, .int (nI d))] [] := by
                intro fu61
                induction fu61 with
                | zero => intro z61_4 d wl61 _ q; omega
                | succ fu61 ih61 =>
                  intro z61_4 d wl61 hWl61 me61 iv61_0
                  refine x_iload C dX12_flock_61 5 rfl rfl ?_
                  refine x_iload_n C dX12_flock_63 rfl 2 rfl rfl ?_
                  refine x_icmp_gt C (tgt := 176) dX12_flock_64 (by decide) rfl (fun c36 => ?_) (fun c36 => ?_)
                  · skip
                    have nf37 := nI_lt' (a := j19) (b := d) c36 (by omega) (by omega)
                    refine x_iload_n C dX12_flock_176 rfl 3 rfl rfl ?_
                    refine x_if_ne C (tgt := 194) dX12_flock_177 (by decide) rfl (fun c38 => ?_) (fun c38 => ?_)
                    · skip
                      have nf39 : ¬ j30 = 0 := fun q => c38 (congrArg nI q)
                      refine x_iload C dX12_flock_194 4 rfl rfl ?_
                      exact x_zret C hr hlk rfl dX12_flock_196 hWl61
                    · skip
                      have nf40 : j30 = 0 := (nI_eq (by omega) (by omega)).mp c38
                      refine x_aload_n C dX12_flock_180 rfl 0 rfl rfl ?_
                      obtain ⟨_, k41, n42, n44, n46, v48, v49, v50, n51, n53, n55, n57, v59, v60, v61, v62, n63, n65, bn43, bn45, bn47, bn52, bn54, bn56, bn58, bn64, bn66, rfl⟩ := hWl61 0 _ rfl
                      refine x_get C (ci := 11) (k := 45) 0 k41 rfl in_X12 (by decide) w_1163 rfl dX12_flock_181 rfl ?_
                      refine x_bipush C (v := 21) dX12_flock_184 (by decide) rfl ?_
                      refine x_iload_n C dX12_flock_186 rfl 2 rfl rfl ?_
                      refine x_imul C (v := (nI (21 * j19))) dX12_flock_187 (pk_mul 21 j19) rfl ?_
                      refine x_iload_n C dX12_flock_188 rfl 1 rfl rfl ?_
                      refine x_iadd C (v := (nI ((21 * j19) + j8))) dX12_flock_189 (nI_add (21 * j19) j8) rfl ?_
                      obtain ⟨_, k67, f68, rfl⟩ := hWl61 29 _ rfl
                      refine x_iald C (v := (f68 (nI ((21 * j19) + j8)).toNatClampNeg)) 29 k67 (vp_in_nI (by omega) (by decide)) rfl dX12_flock_190 rfl ?_
                      refine x_any (fun v69 => ?_)
                      refine x_goto C (tgt := 196) dX12_flock_191 (by decide) ?_
                      exact x_zret C hr hlk rfl dX12_flock_196 hWl61
                  · skip
                    have nf70 := nI_nlt' (a := j19) (b := d) c36 (by omega) (by omega)
                    refine x_iconst C (v := 1) dX12_flock_67 (by decide) rfl ?_
                    refine x_istore C (lv' := [(6, .int 1), (0, .ref (a 0)), (1, .int (nI j8)), (2, .int (nI j19)), (3, .int (nI j30)), (4, .int z61_4), (5, .int (nI d))]) dX12_flock_68 (by decide) rfl rfl ?_
                    have loop70 : ∀ (fu70 : Nat) (z70_4 : Int32) (h : Nat) (wl70 : va_W), WX (okM E a cd kf jn js jq) wl70 → 21 - h < fu70 → 1 ≤ h ∧ h ≤ 21 → X E p l e (xRm 8 0 0) s m ([.ref (a 0), .int (nI j8), .int (nI j19), .int (nI j30)] : List Value).toArray below meth c A 9 0 0 (MQ below (va_Qi (fun r w => WX (okM E a cd kf jn js jq) w) (xB E A) A) ([.ref (a 0), .int (nI j8), .int (nI j19), .int (nI j30)] : List Value).toArray s 0 0 A) wl70 70 [(0, .ref (a 0)), (1, .int (nI j8)), (2, .int (nI j19)), (3, .int (nI j30)), (4, .int z70_4), (5, .int (nI d)), (6, .int (nI h))] [] := by
                      intro fu70
                      induction fu70 with
                      | zero => intro z70_4 h wl70 _ q; omega
                      | succ fu70 ih70 =>
                        intro z70_4 h wl70 hWl70 me70 iv70_0
                        refine x_iload C dX12_flock_70 6 rfl rfl ?_
                        refine x_bipush C (v := 20) dX12_flock_72 (by decide) rfl ?_
                        refine x_icmp_gt C (tgt := 170) dX12_flock_74 (by decide) rfl (fun c71 => ?_) (fun c71 => ?_)
                        · skip
                          have nf72 := nI_lt' (a := 20) (b := h) c71 (by omega) (by omega)
                          refine x_iinc C (v := (nI (d + 1))) (lv' := [(5, .int (nI (d + 1))), (0, .ref (a 0)), (1, .int (nI j8)), (2, .int (nI j19)), (3, .int (nI j30)), (4, .int z70_4), (6, .int (nI h))]) dX12_flock_170 5 rfl (nI_add d 1) (by decide) rfl rfl ?_
                          refine x_goto C (tgt := 61) dX12_flock_173 (by decide) ?_
                          refine x_lv (lv1 := [(0, .ref (a 0)), (1, .int (nI j8)), (2, .int (nI j19)), (3, .int (nI j30)), (4, .int z70_4), (5, .int (nI (d + 1)))]) [1, 2, 3, 4, 5, 0] rfl ?_
                          exact ih61 z70_4 (d + 1) wl70 hWl70 (by omega) (by omega)
                        · skip
                          have nf73 := nI_nlt' (a := 20) (b := h) c71 (by omega) (by omega)
                          refine x_iconst C (v := 0) dX12_flock_77 (by decide) rfl ?_
                          refine x_istore C (lv' := [(7, .int 0), (0, .ref (a 0)), (1, .int (nI j8)), (2, .int (nI j19)), (3, .int (nI j30)), (4, .int z70_4), (5, .int (nI d)), (6, .int (nI h))]) dX12_flock_78 (by decide) rfl rfl ?_
                          refine x_iconst C (v := 1) dX12_flock_80 (by decide) rfl ?_
                          refine x_istore C (lv' := [(8, .int 1), (7, .int 0), (0, .ref (a 0)), (1, .int (nI j8)), (2, .int (nI j19)), (3, .int (nI j30)), (4, .int z70_4), (5, .int (nI d)), (6, .int (nI h))]) dX12_flock_81 (by decide) rfl rfl ?_
                          have loop83 : ∀ (fu83 : Nat) (fi : Nat) (x : Nat), True → 21 - x < fu83 → 1 ≤ x ∧ x ≤ 21 → h + fi ≤ 20 → X E p l e (xRm 8 0 0) s m ([.ref (a 0), .int (nI j8), .int (nI j19), .int (nI j30)] : List Value).toArray below meth c A 9 0 0 (MQ below (va_Qi (fun r w => WX (okM E a cd kf jn js jq) w) (xB E A) A) ([.ref (a 0), .int (nI j8), .int (nI j19), .int (nI j30)] : List Value).toArray s 0 0 A) wl70 83 [(0, .ref (a 0)), (1, .int (nI j8)), (2, .int (nI j19)), (3, .int (nI j30)), (4, .int z70_4), (5, .int (nI d)), (6, .int (nI h)), (7, .int (nI fi)), (8, .int (nI x))] [] := by
                            intro fu83
                            induction fu83 with
                            | zero => intro fi x _ q; omega
                            | succ fu83 ih83 =>
                              intro fi x _ me83 iv83_0 iv83_1
                              refine x_iload C dX12_flock_83 8 rfl rfl ?_
                              refine x_iload C dX12_flock_85 6 rfl rfl ?_
                              refine x_bipush C (v := 20) dX12_flock_87 (by decide) rfl ?_
                              refine x_iload C dX12_flock_89 6 rfl rfl ?_
                              refine x_isub C (v := (nI (20 - h))) dX12_flock_91 (pk_sub (a := 20) (b := h) (by omega)) rfl ?_
                              refine x_si C (As := [.int (nI h), .int (nI (20 - h))]) (rest := [.int (nI x)]) (m_minN E l a cd hG kf jn js jq wl70 hWl70 h (20 - h) (by omega) (by omega)) mf_X12_min w_1479 rfl rfl (Nat.le_of_ble_eq_true rfl) ⟨(Nat.le_of_ble_eq_true rfl), (Nat.le_of_ble_eq_true rfl)⟩ ⟨(Nat.le_of_ble_eq_true rfl), (Nat.le_of_ble_eq_true rfl)⟩ dX12_flock_92 rfl (fun r75 w76 h74 => ?_)
                              obtain ⟨hW77, x78⟩ := h74
                              refine x_ws hW77 ?_
                              obtain ⟨n79, h80, h81, e82⟩ := x78
                              refine x_top e82 ?_
                              refine x_icmp_gt C (tgt := 131) dX12_flock_95 (by decide) rfl (fun c83 => ?_) (fun c83 => ?_)
                              · skip
                                have nf84 := nI_lt' (a := n79) (b := x) c83 (by omega) (by omega)
                                refine x_aload_n C dX12_flock_131 rfl 0 rfl rfl ?_
                                obtain ⟨_, k85, n86, n88, n90, v92, v93, v94, n95, n97, n99, n101, v103, v104, v105, v106, n107, n109, bn87, bn89, bn91, bn96, bn98, bn100, bn102, bn108, bn110, rfl⟩ := hWl70 0 _ rfl
                                refine x_get C (ci := 11) (k := 45) 0 k85 rfl in_X12 (by decide) w_1163 rfl dX12_flock_132 rfl ?_
                                refine x_bipush C (v := 21) dX12_flock_135 (by decide) rfl ?_
                                refine x_iload C dX12_flock_137 5 rfl rfl ?_
                                refine x_imul C (v := (nI (21 * d))) dX12_flock_139 (pk_mul 21 d) rfl ?_
                                refine x_iload C dX12_flock_140 6 rfl rfl ?_
                                refine x_iadd C (v := (nI ((21 * d) + h))) dX12_flock_142 (nI_add (21 * d) h) rfl ?_
                                refine x_aload_n C dX12_flock_143 rfl 0 rfl rfl ?_
                                refine x_iload C dX12_flock_144 5 rfl rfl ?_
                                refine x_iload C dX12_flock_146 6 rfl rfl ?_
                                refine x_iload C dX12_flock_148 7 rfl rfl ?_
                                refine x_vi C (As := [.int (nI d), .int (nI h), .int (nI fi)]) (rest := [.int (nI ((21 * d) + h)), .ref (a 29)]) (m_hoursBy E l a cd hG kf jn js jq wl70 hWl70 d h fi (by omega) (by omega)) mf_X12_hoursBy w_1597 0 k85 rfl rfl rfl (Nat.le_of_ble_eq_true rfl) ⟨(Nat.le_of_ble_eq_true rfl), (Nat.le_of_ble_eq_true rfl)⟩ ⟨(Nat.le_of_ble_eq_true rfl), (Nat.le_of_ble_eq_true rfl)⟩ dX12_flock_150 rfl (fun r112 w113 h111 => ?_)
                                have hW114 := h111
                                refine x_ws hW114 ?_
                                obtain ⟨_, k115, f116, rfl⟩ := hWl70 29 _ rfl
                                obtain ⟨w117, hw118⟩ : ∃ w : va_W, w = List.set wl70 29 (iA E (a 29) 273 (upd f116 (nI ((21 * d) + h)).toNatClampNeg r112)) := ⟨_, rfl⟩
                                refine x_iast C 29 k115 (vp_in_nI (by omega) (by decide)) hw118.symm dX12_flock_153 rfl ?_
                                have hW119 : WX (okM E a cd kf jn js jq) w117 := by rw [hw118]; exact hWl70.set (k := 29) rfl ⟨_, rfl⟩
                                have k120 : w117[0]? = some (ob (a 0) 11 [.ref (a 1), .ref (a 2), .ref (a 3), .ref (a 4), .int (nI n86), .int (nI n88), .int (nI n90), .int v92, .int v93, .int v94, .int (nI n95), .int (nI n97), .int (nI n99), .int (nI (cd.2.2.2.2.2)), .ref (a 5), .ref (a 6), .ref (a 7), .ref (a 8), .ref (a 9), .ref (a 10), .ref (a 11), .ref (a 12), .ref (a 13), .ref (a 14), .ref (a 15), .ref (a 16), .ref (a 17), .int (nI n101), .ref (a 18), .ref (a 19), .ref (a 20), .ref (a 21), .int v103, .int v104, .int v105, .int v106, .int (nI n107), .int (nI n109), .ref (a 22), .ref (a 23), .ref (a 24), .ref (a 25), .ref (a 26), .ref (a 27), .ref (a 28), .ref (a 29), .ref (a 30), .int kf]) := by rw [hw118]; exact set_ne k85 (by decide)
                                have k121 : w117[29]? = some (iA E (a 29) 273 (upd f116 (nI ((21 * d) + h)).toNatClampNeg r112)) := by rw [hw118]; exact set_eq k115
                                refine x_iload C dX12_flock_154 6 rfl rfl ?_
                                refine x_iload_n C dX12_flock_156 rfl 1 rfl rfl ?_
                                refine x_icmp_ne C (tgt := 164) dX12_flock_157 (by decide) rfl (fun c122 => ?_) (fun c122 => ?_)
                                · skip
                                  have nf123 : ¬ h = j8 := fun q => c122 (congrArg nI q)
                                  refine x_iinc C (v := (nI (h + 1))) (lv' := [(6, .int (nI (h + 1))), (0, .ref (a 0)), (1, .int (nI j8)), (2, .int (nI j19)), (3, .int (nI j30)), (4, .int z70_4), (5, .int (nI d)), (7, .int (nI fi)), (8, .int (nI x))]) dX12_flock_164 6 rfl (nI_add h 1) (by decide) rfl rfl ?_
                                  refine x_goto C (tgt := 70) dX12_flock_167 (by decide) ?_
                                  refine x_lv (lv1 := [(0, .ref (a 0)), (1, .int (nI j8)), (2, .int (nI j19)), (3, .int (nI j30)), (4, .int z70_4), (5, .int (nI d)), (6, .int (nI (h + 1)))]) [1, 2, 3, 4, 5, 6, 0] rfl ?_
                                  exact ih70 z70_4 (h + 1) w117 hW119 (by omega) (by omega)
                                · skip
                                  have nf124 : h = j8 := (nI_eq (by omega) (by omega)).mp c122
                                  refine x_iload C dX12_flock_160 7 rfl rfl ?_
                                  refine x_istore C (lv' := [(4, .int (nI fi)), (0, .ref (a 0)), (1, .int (nI j8)), (2, .int (nI j19)), (3, .int (nI j30)), (5, .int (nI d)), (6, .int (nI h)), (7, .int (nI fi)), (8, .int (nI x))]) dX12_flock_162 (by decide) rfl rfl ?_
                                  refine x_iinc C (v := (nI (h + 1))) (lv' := [(6, .int (nI (h + 1))), (4, .int (nI fi)), (0, .ref (a 0)), (1, .int (nI j8)), (2, .int (nI j19)), (3, .int (nI j30)), (5, .int (nI d)), (7, .int (nI fi)), (8, .int (nI x))]) dX12_flock_164 6 rfl (nI_add h 1) (by decide) rfl rfl ?_
                                  refine x_goto C (tgt := 70) dX12_flock_167 (by decide) ?_
                                  refine x_lv (lv1 := [(0, .ref (a 0)), (1, .int (nI j8)), (2, .int (nI j19)), (3, .int (nI j30)), (4, .int (nI fi)), (5, .int (nI d)), (6, .int (nI (h + 1)))]) [2, 3, 4, 5, 1, 6, 0] rfl ?_
                                  exact ih70 ((nI fi)) (h + 1) w117 hW119 (by omega) (by omega)
                              · skip
                                have nf125 := nI_nlt' (a := n79) (b := x) c83 (by omega) (by omega)
                                refine x_aload_n C dX12_flock_98 rfl 0 rfl rfl ?_
                                refine x_iload C dX12_flock_99 5 rfl rfl ?_
                                refine x_iload C dX12_flock_101 6 rfl rfl ?_
                                refine x_iload C dX12_flock_103 8 rfl rfl ?_
                                obtain ⟨_, k126, n127, n129, n131, v133, v134, v135, n136, n138, n140, n142, v144, v145, v146, v147, n148, n150, bn128, bn130, bn132, bn137, bn139, bn141, bn143, bn149, bn151, rfl⟩ := hWl70 0 _ rfl
                                refine x_vi C (As := [.int (nI d), .int (nI h), .int (nI x)]) (rest := []) (m_hoursBy E l a cd hG kf jn js jq wl70 hWl70 d h x (by omega) (by omega)) mf_X12_hoursBy w_1597 0 k126 rfl rfl rfl (Nat.le_of_ble_eq_true rfl) ⟨(Nat.le_of_ble_eq_true rfl), (Nat.le_of_ble_eq_true rfl)⟩ ⟨(Nat.le_of_ble_eq_true rfl), (Nat.le_of_ble_eq_true rfl)⟩ dX12_flock_105 rfl (fun r153 w154 h152 => ?_)
                                have hW155 := h152
                                refine x_ws hW155 ?_
                                refine x_aload_n C dX12_flock_108 rfl 0 rfl rfl ?_
                                refine x_iload C dX12_flock_109 5 rfl rfl ?_
                                refine x_iload C dX12_flock_111 6 rfl rfl ?_
                                refine x_iload C dX12_flock_113 7 rfl rfl ?_
                                refine x_vi C (As := [.int (nI d), .int (nI h), .int (nI fi)]) (rest := [.int r153]) (m_hoursBy E l a cd hG kf jn js jq wl70 hWl70 d h fi (by omega) (by omega)) mf_X12_hoursBy w_1597 0 k126 rfl rfl rfl (Nat.le_of_ble_eq_true rfl) ⟨(Nat.le_of_ble_eq_true rfl), (Nat.le_of_ble_eq_true rfl)⟩ ⟨(Nat.le_of_ble_eq_true rfl), (Nat.le_of_ble_eq_true rfl)⟩ dX12_flock_115 rfl (fun r157 w158 h156 => ?_)
                                have hW159 := h156
                                refine x_ws hW159 ?_
                                refine x_icmp_le C (tgt := 125) dX12_flock_118 (by decide) rfl (fun c160 => ?_) (fun c160 => ?_)
                                · skip
                                  refine x_iinc C (v := (nI (x + 1))) (lv' := [(8, .int (nI (x + 1))), (0, .ref (a 0)), (1, .int (nI j8)), (2, .int (nI j19)), (3, .int (nI j30)), (4, .int z70_4), (5, .int (nI d)), (6, .int (nI h)), (7, .int (nI fi))]) dX12_flock_125 8 rfl (nI_add x 1) (by decide) rfl rfl ?_
                                  refine x_goto C (tgt := 83) dX12_flock_128 (by decide) ?_
                                  refine x_lv (lv1 := [(0, .ref (a 0)), (1, .int (nI j8)), (2, .int (nI j19)), (3, .int (nI j30)), (4, .int z70_4), (5, .int (nI d)), (6, .int (nI h)), (7, .int (nI fi)), (8, .int (nI (x + 1)))]) [1, 2, 3, 4, 5, 6, 7, 8, 0] rfl ?_
                                  exact ih83 fi (x + 1) trivial (by omega) (by omega) (by omega)
                                · skip
                                  refine x_iload C dX12_flock_121 8 rfl rfl ?_
                                  refine x_istore C (lv' := [(7, .int (nI x)), (0, .ref (a 0)), (1, .int (nI j8)), (2, .int (nI j19)), (3, .int (nI j30)), (4, .int z70_4), (5, .int (nI d)), (6, .int (nI h)), (8, .int (nI x))]) dX12_flock_123 (by decide) rfl rfl ?_
                                  refine x_iinc C (v := (nI (x + 1))) (lv' := [(8, .int (nI (x + 1))), (7, .int (nI x)), (0, .ref (a 0)), (1, .int (nI j8)), (2, .int (nI j19)), (3, .int (nI j30)), (4, .int z70_4), (5, .int (nI d)), (6, .int (nI h))]) dX12_flock_125 8 rfl (nI_add x 1) (by decide) rfl rfl ?_
                                  refine x_goto C (tgt := 83) dX12_flock_128 (by decide) ?_
                                  refine x_lv (lv1 := [(0, .ref (a 0)), (1, .int (nI j8)), (2, .int (nI j19)), (3, .int (nI j30)), (4, .int z70_4), (5, .int (nI d)), (6, .int (nI h)), (7, .int (nI x)), (8, .int (nI (x + 1)))]) [2, 3, 4, 5, 6, 7, 8, 1, 0] rfl ?_
                                  exact ih83 x (x + 1) trivial (by omega) (by omega) (by omega)
                          refine x_lv (lv1 := [(0, .ref (a 0)), (1, .int (nI j8)), (2, .int (nI j19)), (3, .int (nI j30)), (4, .int z70_4), (5, .int (nI d)), (6, .int (nI h)), (7, .int 0), (8, .int 1)]) [2, 3, 4, 5, 6, 7, 8, 1, 0] rfl ?_
                          exact loop83 _ 0 1 trivial (Nat.lt_succ_self _) (by omega) (by omega)
                    refine x_lv (lv1 := [(0, .ref (a 0)), (1, .int (nI j8)), (2, .int (nI j19)), (3, .int (nI j30)), (4, .int z61_4), (5, .int (nI d)), (6, .int 1)]) [1, 2, 3, 4, 5, 6, 0] rfl ?_
                    exact loop70 _ z61_4 1 wl61 hWl61 (Nat.lt_succ_self _) (by omega)
              refine x_lv (lv1 := [(0, .ref (a 0)), (1, .int (nI j8)), (2, .int (nI j19)), (3, .int (nI j30)), (4, .int 0), (5, .int 1)]) [1, 2, 3, 4, 5, 0] rfl ?_
              exact loop61 _ (0 : Int32) 1 wl37 hWl37 (Nat.lt_succ_self _) (by omega)
            · skip
              have nf161 := nI_nlt' (a := 20) (b := h) c34 (by omega) (by omega)
              refine x_aload_n C dX12_flock_44 rfl 0 rfl rfl ?_
              obtain ⟨_, k162, n163, n165, n167, v169, v170, v171, n172, n174, n176, n178, v180, v181, v182, v183, n184, n186, bn164, bn166, bn168, bn173, bn175, bn177, bn179, bn185, bn187, rfl⟩ := hWl37 0 _ rfl
              refine x_get C (ci := 11) (k := 45) 0 k162 rfl in_X12 (by decide) w_1163 rfl dX12_flock_45 rfl ?_
              refine x_iload C dX12_flock_48 5 rfl rfl ?_
              refine x_iconst C (v := 0) dX12_flock_50 (by decide) rfl ?_
              obtain ⟨_, k188, f189, rfl⟩ := hWl37 29 _ rfl
              obtain ⟨w190, hw191⟩ : ∃ w : va_W, w = List.set wl37 29 (iA E (a 29) 273 (upd f189 (nI h).toNatClampNeg 0)) := ⟨_, rfl⟩
              refine x_iast C 29 k188 (vp_in_nI (by omega) (by decide)) hw191.symm dX12_flock_51 rfl ?_
              have hW192 : WX (okM E a cd kf jn js jq) w190 := by rw [hw191]; exact hWl37.set (k := 29) rfl ⟨_, rfl⟩
              have k193 : w190[0]? = some (ob (a 0) 11 [.ref (a 1), .ref (a 2), .ref (a 3), .ref (a 4), .int (nI n163), .int (nI n165), .int (nI n167), .int v169, .int v170, .int v171, .int (nI n172), .int (nI n174), .int (nI n176), .int (nI (cd.2.2.2.2.2)), .ref (a 5), .ref (a 6), .ref (a 7), .ref (a 8), .ref (a 9), .ref (a 10), .ref (a 11), .ref (a 12), .ref (a 13), .ref (a 14), .ref (a 15), .ref (a 16), .ref (a 17), .int (nI n178), .ref (a 18), .ref (a 19), .ref (a 20), .ref (a 21), .int v180, .int v181, .int v182, .int v183, .int (nI n184), .int (nI n186), .ref (a 22), .ref (a 23), .ref (a 24), .ref (a 25), .ref (a 26), .ref (a 27), .ref (a 28), .ref (a 29), .ref (a 30), .int kf]) := by rw [hw191]; exact set_ne k162 (by decide)
              have k194 : w190[29]? = some (iA E (a 29) 273 (upd f189 (nI h).toNatClampNeg 0)) := by rw [hw191]; exact set_eq k188
              refine x_iinc C (v := (nI (h + 1))) (lv' := [(5, .int (nI (h + 1))), (0, .ref (a 0)), (1, .int (nI j8)), (2, .int (nI j19)), (3, .int (nI j30)), (4, .int 0)]) dX12_flock_52 5 rfl (nI_add h 1) (by decide) rfl rfl ?_
              refine x_goto C (tgt := 37) dX12_flock_55 (by decide) ?_
              refine x_lv (lv1 := [(0, .ref (a 0)), (1, .int (nI j8)), (2, .int (nI j19)), (3, .int (nI j30)), (4, .int 0), (5, .int (nI (h + 1)))]) [1, 2, 3, 4, 5, 0] rfl ?_
              exact ih37 (h + 1) w190 hW192 (by omega) (by omega)
        refine x_lv (lv1 := [(0, .ref (a 0)), (1, .int (nI j8)), (2, .int (nI j19)), (3, .int (nI j30)), (4, .int 0), (5, .int 0)]) [2, 3, 4, 5, 1, 0] rfl ?_
        exact loop37 _ 0 ws hW (Nat.lt_succ_self _) (by omega)
      · skip
        refine x_iconst C (v := (-1)) dX12_flock_29 (by decide) rfl ?_
        exact x_zret C hr hlk rfl dX12_flock_30 hW
