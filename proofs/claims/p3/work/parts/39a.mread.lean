theorem dX12_notes_0 : decode cX12_notes 0 = .ok (.aload_n 0, 1) := by decide +kernel
theorem dX12_notes_1 : decode cX12_notes 1 = .ok (.getfield 23, 3) := by decide +kernel
theorem dX12_notes_4 : decode cX12_notes 4 = .ok (.aload_n 0, 1) := by decide +kernel
theorem dX12_notes_5 : decode cX12_notes 5 = .ok (.getfield 154, 3) := by decide +kernel
theorem dX12_notes_8 : decode cX12_notes 8 = .ok (.ldc 157, 2) := by decide +kernel
theorem dX12_notes_10 : decode cX12_notes 10 = .ok (.iload_n 1, 1) := by decide +kernel
theorem dX12_notes_11 : decode cX12_notes 11 = .ok (.imul, 1) := by decide +kernel
theorem dX12_notes_12 : decode cX12_notes 12 = .ok (.iload_n 2, 1) := by decide +kernel
theorem dX12_notes_13 : decode cX12_notes 13 = .ok (.iadd, 1) := by decide +kernel
theorem dX12_notes_14 : decode cX12_notes 14 = .ok (.iastore, 1) := by decide +kernel
theorem dX12_notes_15 : decode cX12_notes 15 = .ok (.aload_n 0, 1) := by decide +kernel
theorem dX12_notes_16 : decode cX12_notes 16 = .ok (.aload_n 0, 1) := by decide +kernel
theorem dX12_notes_17 : decode cX12_notes 17 = .ok (.getfield 154, 3) := by decide +kernel
theorem dX12_notes_20 : decode cX12_notes 20 = .ok (.iconst 1, 1) := by decide +kernel
theorem dX12_notes_21 : decode cX12_notes 21 = .ok (.iadd, 1) := by decide +kernel
theorem dX12_notes_22 : decode cX12_notes 22 = .ok (.putfield 154, 3) := by decide +kernel
theorem dX12_notes_25 : decode cX12_notes 25 = .ok (.return_, 1) := by decide +kernel
set_option maxRecDepth 20000 in
set_option maxHeartbeats 4000000 in
theorem m_notes (E : xE) (l : Launch) (a : Nat → Nat) (cd : Cd) (hG : Good cd) (kf : Int32) (jn js jq : Lb) (ws : va_W) (hW : WX (okM E a cd kf jn js jq) ws) (o0 : Nat) (v0 : Nat) (ho0 : o0 ≤ 12) (hv0 : v0 < 1048576) (tp pl le cm wt sm lm : Nat) (nu : Int32) (h0 : MO a cd kf ws tp pl le cm wt sm lm nu) (fs : Nat → Int32) (hfs : ws[5]? = some (iA E (a 5) 260 fs)) (hcm : cm ≤ 259) : xV E l yX12_notes cX12_notes 3 0 0 0 [.ref (a 0), .int (nI o0), .int (nI v0)] ws (fun w => WX (okM E a cd kf jn js jq) w ∧ keeps ws w (fun q => q = 0 ∨ q = 5) ∧ (MO a cd kf w tp pl le (cm + 1) wt sm lm nu ∧ w[5]? = some (iA E (a 5) 260 (upd fs cm (nI (1048576 * o0 + v0)))))) := by
  refine xV_start (lv := [(0, .ref (a 0)), (1, .int (nI o0)), (2, .int (nI v0))]) RX12 (by decide) rfl (Nat.le_of_ble_eq_true rfl) rfl (fun p e s m below meth c A C hr hlk hin => ?_)
  have kp0 : keeps ws ws (fun q => q = 0 ∨ q = 5) := keeps_rf
  obtain ⟨v1, v2, v3, v4, v5, v6, n7, n8, bo9, bo10, k11⟩ := h0
  refine x_aload_n C dX12_notes_0 rfl 0 rfl rfl ?_
  refine x_get C (ci := 11) (k := 14) 0 k11 rfl in_X12 (by decide) w_1132 rfl dX12_notes_1 rfl ?_
  refine x_aload_n C dX12_notes_4 rfl 0 rfl rfl ?_
  refine x_get C (ci := 11) (k := 10) 0 k11 rfl in_X12 (by decide) w_1128 rfl dX12_notes_5 rfl ?_
  refine x_ldc C w_1340 dX12_notes_8 rfl ?_
  refine x_iload_n C dX12_notes_10 rfl 1 rfl rfl ?_
  refine x_imul C (v := (nI (1048576 * o0))) dX12_notes_11 (pk_mul 1048576 o0) rfl ?_
  refine x_iload_n C dX12_notes_12 rfl 2 rfl rfl ?_
  refine x_iadd C (v := (nI ((1048576 * o0) + v0))) dX12_notes_13 (nI_add (1048576 * o0) v0) rfl ?_
  obtain ⟨w12, hw13⟩ : ∃ w : va_W, w = List.set ws 5 (iA E (a 5) 260 (upd fs cm (nI ((1048576 * o0) + v0)))) := ⟨_, rfl⟩
  refine x_iask C cm (nI_clamp (by omega)) (nI_pos (by omega)) (by omega) 5 hfs hw13.symm dX12_notes_14 rfl ?_
  have hW14 : WX (okM E a cd kf jn js jq) w12 := by rw [hw13]; exact hW.set (k := 5) rfl ⟨_, rfl⟩
  have k15 : w12[0]? = some (ob (a 0) 11 [.ref (a 1), .ref (a 2), .ref (a 3), .ref (a 4), .int (nI tp), .int (nI pl), .int (nI le), .int v1, .int nu, .int v2, .int (nI cm), .int (nI wt), .int (nI sm), .int (nI (cd.2.2.2.2.2)), .ref (a 5), .ref (a 6), .ref (a 7), .ref (a 8), .ref (a 9), .ref (a 10), .ref (a 11), .ref (a 12), .ref (a 13), .ref (a 14), .ref (a 15), .ref (a 16), .ref (a 17), .int (nI lm), .ref (a 18), .ref (a 19), .ref (a 20), .ref (a 21), .int v3, .int v4, .int v5, .int v6, .int (nI n7), .int (nI n8), .ref (a 22), .ref (a 23), .ref (a 24), .ref (a 25), .ref (a 26), .ref (a 27), .ref (a 28), .ref (a 29), .ref (a 30), .int kf]) := by rw [hw13]; exact set_ne k11 (by decide)
  have k16 : w12[5]? = some (iA E (a 5) 260 (upd fs cm (nI ((1048576 * o0) + v0)))) := by rw [hw13]; exact set_eq hfs
  have kp17 := keeps_set kp0 hw13 (by first | exact rfl | decide | omega | (dsimp only; omega))
  refine x_aload_n C dX12_notes_15 rfl 0 rfl rfl ?_
  refine x_aload_n C dX12_notes_16 rfl 0 rfl rfl ?_
  refine x_get C (ci := 11) (k := 10) 0 k15 rfl in_X12 (by decide) w_1128 rfl dX12_notes_17 rfl ?_
  refine x_iconst C (v := 1) dX12_notes_20 (by decide) rfl ?_
  refine x_iadd C (v := (nI (cm + 1))) dX12_notes_21 (nI_add cm 1) rfl ?_
  obtain ⟨w18, hw19⟩ : ∃ w : va_W, w = List.set w12 0 (ob (a 0) 11 [.ref (a 1), .ref (a 2), .ref (a 3), .ref (a 4), .int (nI tp), .int (nI pl), .int (nI le), .int v1, .int nu, .int v2, .int (nI (cm + 1)), .int (nI wt), .int (nI sm), .int (nI (cd.2.2.2.2.2)), .ref (a 5), .ref (a 6), .ref (a 7), .ref (a 8), .ref (a 9), .ref (a 10), .ref (a 11), .ref (a 12), .ref (a 13), .ref (a 14), .ref (a 15), .ref (a 16), .ref (a 17), .int (nI lm), .ref (a 18), .ref (a 19), .ref (a 20), .ref (a 21), .int v3, .int v4, .int v5, .int v6, .int (nI n7), .int (nI n8), .ref (a 22), .ref (a 23), .ref (a 24), .ref (a 25), .ref (a 26), .ref (a 27), .ref (a 28), .ref (a 29), .ref (a 30), .int kf]) := ⟨_, rfl⟩
  refine x_put C (ci := 11) (k := 10) (ty := .int) 0 k15 rfl in_X12 tyX12 tyX12_ok nmX12 (by decide) w_1128 rfl rfl rfl rfl (Nat.le_of_ble_eq_true rfl) hw19.symm dX12_notes_22 rfl ?_
  have hW20 : WX (okM E a cd kf jn js jq) w18 := by rw [hw19]; exact hW14.set (k := 0) rfl ⟨tp, pl, le, v1, nu, v2, (cm + 1), wt, sm, lm, v3, v4, v5, v6, n7, n8, by omega, by omega, by omega, by omega, by omega, by omega, by omega, by omega, by omega, rfl⟩
  have k21 : w18[0]? = some (ob (a 0) 11 [.ref (a 1), .ref (a 2), .ref (a 3), .ref (a 4), .int (nI tp), .int (nI pl), .int (nI le), .int v1, .int nu, .int v2, .int (nI (cm + 1)), .int (nI wt), .int (nI sm), .int (nI (cd.2.2.2.2.2)), .ref (a 5), .ref (a 6), .ref (a 7), .ref (a 8), .ref (a 9), .ref (a 10), .ref (a 11), .ref (a 12), .ref (a 13), .ref (a 14), .ref (a 15), .ref (a 16), .ref (a 17), .int (nI lm), .ref (a 18), .ref (a 19), .ref (a 20), .ref (a 21), .int v3, .int v4, .int v5, .int v6, .int (nI n7), .int (nI n8), .ref (a 22), .ref (a 23), .ref (a 24), .ref (a 25), .ref (a 26), .ref (a 27), .ref (a 28), .ref (a 29), .ref (a 30), .int kf]) := by rw [hw19]; exact set_eq k15
  have k22 : w18[5]? = some (iA E (a 5) 260 (upd fs cm (nI ((1048576 * o0) + v0)))) := by rw [hw19]; exact set_ne k16 (by decide)
  have kp23 := keeps_set kp17 hw19 (by first | exact rfl | decide | omega | (dsimp only; omega))
  exact x_vret C hr hlk dX12_notes_25 ⟨hW20, kp23, ⟨⟨v1, v2, v3, v4, v5, v6, n7, n8, ⟨by omega, by omega, by omega, by omega, by omega, by omega, by omega⟩, ⟨by omega, by omega⟩, k21⟩, k22⟩⟩
theorem dX12_opens_0 : decode cX12_opens 0 = .ok (.aload_n 0, 1) := by decide +kernel
theorem dX12_opens_1 : decode cX12_opens 1 = .ok (.getfield 158, 3) := by decide +kernel
theorem dX12_opens_4 : decode cX12_opens 4 = .ok (.bipush 6, 2) := by decide +kernel
theorem dX12_opens_6 : decode cX12_opens 6 = .ok (.if_icmp .ne 13, 3) := by decide +kernel
theorem dX12_opens_9 : decode cX12_opens 9 = .ok (.aload_n 0, 1) := by decide +kernel
theorem dX12_opens_10 : decode cX12_opens 10 = .ok (.iconst 5, 1) := by decide +kernel
theorem dX12_opens_11 : decode cX12_opens 11 = .ok (.aload_n 0, 1) := by decide +kernel
theorem dX12_opens_12 : decode cX12_opens 12 = .ok (.getfield 131, 3) := by decide +kernel
theorem dX12_opens_15 : decode cX12_opens 15 = .ok (.invokevirtual 144, 3) := by decide +kernel
theorem dX12_opens_18 : decode cX12_opens 18 = .ok (.ireturn, 1) := by decide +kernel
theorem dX12_opens_19 : decode cX12_opens 19 = .ok (.aload_n 0, 1) := by decide +kernel
theorem dX12_opens_20 : decode cX12_opens 20 = .ok (.aload_n 0, 1) := by decide +kernel
theorem dX12_opens_21 : decode cX12_opens 21 = .ok (.getfield 158, 3) := by decide +kernel
theorem dX12_opens_24 : decode cX12_opens 24 = .ok (.iconst 1, 1) := by decide +kernel
theorem dX12_opens_25 : decode cX12_opens 25 = .ok (.iadd, 1) := by decide +kernel
theorem dX12_opens_26 : decode cX12_opens 26 = .ok (.putfield 158, 3) := by decide +kernel
theorem dX12_opens_29 : decode cX12_opens 29 = .ok (.aload_n 0, 1) := by decide +kernel
theorem dX12_opens_30 : decode cX12_opens 30 = .ok (.getfield 26, 3) := by decide +kernel
theorem dX12_opens_33 : decode cX12_opens 33 = .ok (.aload_n 0, 1) := by decide +kernel
theorem dX12_opens_34 : decode cX12_opens 34 = .ok (.getfield 161, 3) := by decide +kernel
theorem dX12_opens_37 : decode cX12_opens 37 = .ok (.ldc 157, 2) := by decide +kernel
theorem dX12_opens_39 : decode cX12_opens 39 = .ok (.iload_n 1, 1) := by decide +kernel
theorem dX12_opens_40 : decode cX12_opens 40 = .ok (.imul, 1) := by decide +kernel
theorem dX12_opens_41 : decode cX12_opens 41 = .ok (.iastore, 1) := by decide +kernel
theorem dX12_opens_42 : decode cX12_opens 42 = .ok (.aload_n 0, 1) := by decide +kernel
theorem dX12_opens_43 : decode cX12_opens 43 = .ok (.aload_n 0, 1) := by decide +kernel
theorem dX12_opens_44 : decode cX12_opens 44 = .ok (.getfield 161, 3) := by decide +kernel
theorem dX12_opens_47 : decode cX12_opens 47 = .ok (.iconst 1, 1) := by decide +kernel
theorem dX12_opens_48 : decode cX12_opens 48 = .ok (.iadd, 1) := by decide +kernel
theorem dX12_opens_49 : decode cX12_opens 49 = .ok (.putfield 161, 3) := by decide +kernel
theorem dX12_opens_52 : decode cX12_opens 52 = .ok (.aload_n 0, 1) := by decide +kernel
theorem dX12_opens_53 : decode cX12_opens 53 = .ok (.aload_n 0, 1) := by decide +kernel
theorem dX12_opens_54 : decode cX12_opens 54 = .ok (.getfield 131, 3) := by decide +kernel
theorem dX12_opens_57 : decode cX12_opens 57 = .ok (.iconst 1, 1) := by decide +kernel
theorem dX12_opens_58 : decode cX12_opens 58 = .ok (.iadd, 1) := by decide +kernel
theorem dX12_opens_59 : decode cX12_opens 59 = .ok (.putfield 131, 3) := by decide +kernel
theorem dX12_opens_62 : decode cX12_opens 62 = .ok (.iconst 1, 1) := by decide +kernel
theorem dX12_opens_63 : decode cX12_opens 63 = .ok (.ireturn, 1) := by decide +kernel
set_option maxRecDepth 20000 in
set_option maxHeartbeats 4000000 in
theorem m_opens10 (E : xE) (l : Launch) (a : Nat → Nat) (cd : Cd) (hG : Good cd) (kf : Int32) (jn js jq : Lb) (ws : va_W) (hW : WX (okM E a cd kf jn js jq) ws) (tp pl le cm wt sm lm : Nat) (nu : Int32) (h0 : MO a cd kf ws tp pl le cm wt sm lm nu) (fw : Nat → Int32) (hfw : ws[6]? = some (iA E (a 6) 260 fw)) (hwt : wt ≤ 259) (hpl : pl ≤ 239) : xI E l yX12_opens cX12_opens 2 (some .boolean) 1 [.ref (a 0), .int 10] ws (fun r w => WX (okM E a cd kf jn js jq) w ∧ keeps ws w (fun q => q = 0 ∨ q = 6) ∧ zb r ∧ ((r = 0 ∧ MO a cd kf w tp pl le cm wt sm lm nu ∧ w[6]? = some (iA E (a 6) 260 fw)) ∨ (r = 1 ∧ MO a cd kf w tp (pl + 1) le cm (wt + 1) sm lm nu ∧ w[6]? = some (iA E (a 6) 260 (upd fw wt (nI (1048576 * 10 + 0))))))) := by
  refine xI_start (lv := [(0, .ref (a 0)), (1, .int 10)]) RX12 (by decide) rfl (Nat.le_of_ble_eq_true rfl) rfl (fun p e s m below meth c A C hr hlk => ?_)
  have kp0 : keeps ws ws (fun q => q = 0 ∨ q = 6) := keeps_rf
  obtain ⟨v1, v2, v3, v4, v5, v6, n7, n8, bo9, bo10, k11⟩ := h0
  refine x_aload_n C dX12_opens_0 rfl 0 rfl rfl ?_
  refine x_get C (ci := 11) (k := 9) 0 k11 rfl in_X12 (by decide) w_1127 rfl dX12_opens_1 rfl ?_
  refine x_bipush C (v := 6) dX12_opens_4 (by decide) rfl ?_
  refine x_icmp_ne C (tgt := 19) dX12_opens_6 (by decide) rfl (fun c12 => ?_) (fun c12 => ?_)
  · skip
    refine x_aload_n C dX12_opens_19 rfl 0 rfl rfl ?_
    refine x_aload_n C dX12_opens_20 rfl 0 rfl rfl ?_
    refine x_get C (ci := 11) (k := 9) 0 k11 rfl in_X12 (by decide) w_1127 rfl dX12_opens_21 rfl ?_
    refine x_iconst C (v := 1) dX12_opens_24 (by decide) rfl ?_
    refine x_iadd C (v := (v2 + (1 : Int32))) dX12_opens_25 rfl rfl ?_
    refine x_any (fun v13 => ?_)
    obtain ⟨w14, hw15⟩ : ∃ w : va_W, w = List.set ws 0 (ob (a 0) 11 [.ref (a 1), .ref (a 2), .ref (a 3), .ref (a 4), .int (nI tp), .int (nI pl), .int (nI le), .int v1, .int nu, .int v13, .int (nI cm), .int (nI wt), .int (nI sm), .int (nI (cd.2.2.2.2.2)), .ref (a 5), .ref (a 6), .ref (a 7), .ref (a 8), .ref (a 9), .ref (a 10), .ref (a 11), .ref (a 12), .ref (a 13), .ref (a 14), .ref (a 15), .ref (a 16), .ref (a 17), .int (nI lm), .ref (a 18), .ref (a 19), .ref (a 20), .ref (a 21), .int v3, .int v4, .int v5, .int v6, .int (nI n7), .int (nI n8), .ref (a 22), .ref (a 23), .ref (a 24), .ref (a 25), .ref (a 26), .ref (a 27), .ref (a 28), .ref (a 29), .ref (a 30), .int kf]) := ⟨_, rfl⟩
    refine x_put C (ci := 11) (k := 9) (ty := .int) 0 k11 rfl in_X12 tyX12 tyX12_ok nmX12 (by decide) w_1127 rfl rfl rfl rfl (Nat.le_of_ble_eq_true rfl) hw15.symm dX12_opens_26 rfl ?_
    have hW16 : WX (okM E a cd kf jn js jq) w14 := by rw [hw15]; exact hW.set (k := 0) rfl ⟨tp, pl, le, v1, nu, v13, cm, wt, sm, lm, v3, v4, v5, v6, n7, n8, by omega, by omega, by omega, by omega, by omega, by omega, by omega, by omega, by omega, rfl⟩
    have k17 : w14[0]? = some (ob (a 0) 11 [.ref (a 1), .ref (a 2), .ref (a 3), .ref (a 4), .int (nI tp), .int (nI pl), .int (nI le), .int v1, .int nu, .int v13, .int (nI cm), .int (nI wt), .int (nI sm), .int (nI (cd.2.2.2.2.2)), .ref (a 5), .ref (a 6), .ref (a 7), .ref (a 8), .ref (a 9), .ref (a 10), .ref (a 11), .ref (a 12), .ref (a 13), .ref (a 14), .ref (a 15), .ref (a 16), .ref (a 17), .int (nI lm), .ref (a 18), .ref (a 19), .ref (a 20), .ref (a 21), .int v3, .int v4, .int v5, .int v6, .int (nI n7), .int (nI n8), .ref (a 22), .ref (a 23), .ref (a 24), .ref (a 25), .ref (a 26), .ref (a 27), .ref (a 28), .ref (a 29), .ref (a 30), .int kf]) := by rw [hw15]; exact set_eq k11
    have k18 : w14[6]? = some (iA E (a 6) 260 fw) := by rw [hw15]; exact set_ne hfw (by decide)
    have kp19 := keeps_set kp0 hw15 (by first | exact rfl | decide | omega | (dsimp only; omega))
    refine x_aload_n C dX12_opens_29 rfl 0 rfl rfl ?_
    refine x_get C (ci := 11) (k := 15) 0 k17 rfl in_X12 (by decide) w_1133 rfl dX12_opens_30 rfl ?_
    refine x_aload_n C dX12_opens_33 rfl 0 rfl rfl ?_
    refine x_get C (ci := 11) (k := 11) 0 k17 rfl in_X12 (by decide) w_1129 rfl dX12_opens_34 rfl ?_
    refine x_ldc C w_1340 dX12_opens_37 rfl ?_
    refine x_iload_n C dX12_opens_39 rfl 1 rfl rfl ?_
    refine x_imul C (v := 10485760) dX12_opens_40 (by decide) rfl ?_
    obtain ⟨w20, hw21⟩ : ∃ w : va_W, w = List.set w14 6 (iA E (a 6) 260 (upd fw wt (10485760 : Int32))) := ⟨_, rfl⟩
    refine x_iask C wt (nI_clamp (by omega)) (nI_pos (by omega)) (by omega) 6 k18 hw21.symm dX12_opens_41 rfl ?_
    have hW22 : WX (okM E a cd kf jn js jq) w20 := by rw [hw21]; exact hW16.set (k := 6) rfl ⟨_, rfl⟩
    have k23 : w20[0]? = some (ob (a 0) 11 [.ref (a 1), .ref (a 2), .ref (a 3), .ref (a 4), .int (nI tp), .int (nI pl), .int (nI le), .int v1, .int nu, .int v13, .int (nI cm), .int (nI wt), .int (nI sm), .int (nI (cd.2.2.2.2.2)), .ref (a 5), .ref (a 6), .ref (a 7), .ref (a 8), .ref (a 9), .ref (a 10), .ref (a 11), .ref (a 12), .ref (a 13), .ref (a 14), .ref (a 15), .ref (a 16), .ref (a 17), .int (nI lm), .ref (a 18), .ref (a 19), .ref (a 20), .ref (a 21), .int v3, .int v4, .int v5, .int v6, .int (nI n7), .int (nI n8), .ref (a 22), .ref (a 23), .ref (a 24), .ref (a 25), .ref (a 26), .ref (a 27), .ref (a 28), .ref (a 29), .ref (a 30), .int kf]) := by rw [hw21]; exact set_ne k17 (by decide)
    have k24 : w20[6]? = some (iA E (a 6) 260 (upd fw wt (10485760 : Int32))) := by rw [hw21]; exact set_eq k18
    have kp25 := keeps_set kp19 hw21 (by first | exact rfl | decide | omega | (dsimp only; omega))
    refine x_aload_n C dX12_opens_42 rfl 0 rfl rfl ?_
    refine x_aload_n C dX12_opens_43 rfl 0 rfl rfl ?_
    refine x_get C (ci := 11) (k := 11) 0 k23 rfl in_X12 (by decide) w_1129 rfl dX12_opens_44 rfl ?_
    refine x_iconst C (v := 1) dX12_opens_47 (by decide) rfl ?_
    refine x_iadd C (v := (nI (wt + 1))) dX12_opens_48 (nI_add wt 1) rfl ?_
    obtain ⟨w26, hw27⟩ : ∃ w : va_W, w = List.set w20 0 (ob (a 0) 11 [.ref (a 1), .ref (a 2), .ref (a 3), .ref (a 4), .int (nI tp), .int (nI pl), .int (nI le), .int v1, .int nu, .int v13, .int (nI cm), .int (nI (wt + 1)), .int (nI sm), .int (nI (cd.2.2.2.2.2)), .ref (a 5), .ref (a 6), .ref (a 7), .ref (a 8), .ref (a 9), .ref (a 10), .ref (a 11), .ref (a 12), .ref (a 13), .ref (a 14), .ref (a 15), .ref (a 16), .ref (a 17), .int (nI lm), .ref (a 18), .ref (a 19), .ref (a 20), .ref (a 21), .int v3, .int v4, .int v5, .int v6, .int (nI n7), .int (nI n8), .ref (a 22), .ref (a 23), .ref (a 24), .ref (a 25), .ref (a 26), .ref (a 27), .ref (a 28), .ref (a 29), .ref (a 30), .int kf]) := ⟨_, rfl⟩
    refine x_put C (ci := 11) (k := 11) (ty := .int) 0 k23 rfl in_X12 tyX12 tyX12_ok nmX12 (by decide) w_1129 rfl rfl rfl rfl (Nat.le_of_ble_eq_true rfl) hw27.symm dX12_opens_49 rfl ?_
    have hW28 : WX (okM E a cd kf jn js jq) w26 := by rw [hw27]; exact hW22.set (k := 0) rfl ⟨tp, pl, le, v1, nu, v13, cm, (wt + 1), sm, lm, v3, v4, v5, v6, n7, n8, by omega, by omega, by omega, by omega, by omega, by omega, by omega, by omega, by omega, rfl⟩
    have k29 : w26[0]? = some (ob (a 0) 11 [.ref (a 1), .ref (a 2), .ref (a 3), .ref (a 4), .int (nI tp), .int (nI pl), .int (nI le), .int v1, .int nu, .int v13, .int (nI cm), .int (nI (wt + 1)), .int (nI sm), .int (nI (cd.2.2.2.2.2)), .ref (a 5), .ref (a 6), .ref (a 7), .ref (a 8), .ref (a 9), .ref (a 10), .ref (a 11), .ref (a 12), .ref (a 13), .ref (a 14), .ref (a 15), .ref (a 16), .ref (a 17), .int (nI lm), .ref (a 18), .ref (a 19), .ref (a 20), .ref (a 21), .int v3, .int v4, .int v5, .int v6, .int (nI n7), .int (nI n8), .ref (a 22), .ref (a 23), .ref (a 24), .ref (a 25), .ref (a 26), .ref (a 27), .ref (a 28), .ref (a 29), .ref (a 30), .int kf]) := by rw [hw27]; exact set_eq k23
    have k30 : w26[6]? = some (iA E (a 6) 260 (upd fw wt (10485760 : Int32))) := by rw [hw27]; exact set_ne k24 (by decide)
    have kp31 := keeps_set kp25 hw27 (by first | exact rfl | decide | omega | (dsimp only; omega))
    refine x_aload_n C dX12_opens_52 rfl 0 rfl rfl ?_
    refine x_aload_n C dX12_opens_53 rfl 0 rfl rfl ?_
    refine x_get C (ci := 11) (k := 5) 0 k29 rfl in_X12 (by decide) w_1123 rfl dX12_opens_54 rfl ?_
    refine x_iconst C (v := 1) dX12_opens_57 (by decide) rfl ?_
    refine x_iadd C (v := (nI (pl + 1))) dX12_opens_58 (nI_add pl 1) rfl ?_
    obtain ⟨w32, hw33⟩ : ∃ w : va_W, w = List.set w26 0 (ob (a 0) 11 [.ref (a 1), .ref (a 2), .ref (a 3), .ref (a 4), .int (nI tp), .int (nI (pl + 1)), .int (nI le), .int v1, .int nu, .int v13, .int (nI cm), .int (nI (wt + 1)), .int (nI sm), .int (nI (cd.2.2.2.2.2)), .ref (a 5), .ref (a 6), .ref (a 7), .ref (a 8), .ref (a 9), .ref (a 10), .ref (a 11), .ref (a 12), .ref (a 13), .ref (a 14), .ref (a 15), .ref (a 16), .ref (a 17), .int (nI lm), .ref (a 18), .ref (a 19), .ref (a 20), .ref (a 21), .int v3, .int v4, .int v5, .int v6, .int (nI n7), .int (nI n8), .ref (a 22), .ref (a 23), .ref (a 24), .ref (a 25), .ref (a 26), .ref (a 27), .ref (a 28), .ref (a 29), .ref (a 30), .int kf]) := ⟨_, rfl⟩
    refine x_put C (ci := 11) (k := 5) (ty := .int) 0 k29 rfl in_X12 tyX12 tyX12_ok nmX12 (by decide) w_1123 rfl rfl rfl rfl (Nat.le_of_ble_eq_true rfl) hw33.symm dX12_opens_59 rfl ?_
    have hW34 : WX (okM E a cd kf jn js jq) w32 := by rw [hw33]; exact hW28.set (k := 0) rfl ⟨tp, (pl + 1), le, v1, nu, v13, cm, (wt + 1), sm, lm, v3, v4, v5, v6, n7, n8, by omega, by omega, by omega, by omega, by omega, by omega, by omega, by omega, by omega, rfl⟩
    have k35 : w32[0]? = some (ob (a 0) 11 [.ref (a 1), .ref (a 2), .ref (a 3), .ref (a 4), .int (nI tp), .int (nI (pl + 1)), .int (nI le), .int v1, .int nu, .int v13, .int (nI cm), .int (nI (wt + 1)), .int (nI sm), .int (nI (cd.2.2.2.2.2)), .ref (a 5), .ref (a 6), .ref (a 7), .ref (a 8), .ref (a 9), .ref (a 10), .ref (a 11), .ref (a 12), .ref (a 13), .ref (a 14), .ref (a 15), .ref (a 16), .ref (a 17), .int (nI lm), .ref (a 18), .ref (a 19), .ref (a 20), .ref (a 21), .int v3, .int v4, .int v5, .int v6, .int (nI n7), .int (nI n8), .ref (a 22), .ref (a 23), .ref (a 24), .ref (a 25), .ref (a 26), .ref (a 27), .ref (a 28), .ref (a 29), .ref (a 30), .int kf]) := by rw [hw33]; exact set_eq k29
    have k36 : w32[6]? = some (iA E (a 6) 260 (upd fw wt (10485760 : Int32))) := by rw [hw33]; exact set_ne k30 (by decide)
    have kp37 := keeps_set kp31 hw33 (by first | exact rfl | decide | omega | (dsimp only; omega))
    refine x_iconst C (v := 1) dX12_opens_62 (by decide) rfl ?_
    exact x_zret C hr hlk rfl dX12_opens_63 ⟨hW34, kp37, (Or.inr rfl), (Or.inr ⟨rfl, ⟨v1, v13, v3, v4, v5, v6, n7, n8, ⟨by omega, by omega, by omega, by omega, by omega, by omega, by omega⟩, ⟨by omega, by omega⟩, k35⟩, k36⟩)⟩
  · skip
    refine x_aload_n C dX12_opens_9 rfl 0 rfl rfl ?_
    refine x_iconst C (v := 5) dX12_opens_10 (by decide) rfl ?_
    refine x_aload_n C dX12_opens_11 rfl 0 rfl rfl ?_
    refine x_get C (ci := 11) (k := 5) 0 k11 rfl in_X12 (by decide) w_1123 rfl dX12_opens_12 rfl ?_
    refine x_vi C (As := [.int 5, .int (nI pl)]) (rest := []) (m_wrongAt E l a cd hG kf jn js jq ws hW (5 : Int32) ((nI pl)) tp pl le cm wt sm lm nu ⟨v1, v2, v3, v4, v5, v6, n7, n8, ⟨by omega, by omega, by omega, by omega, by omega, by omega, by omega⟩, ⟨by omega, by omega⟩, k11⟩) mf_X12_wrongAt w_1324 0 k11 rfl rfl rfl (Nat.le_of_ble_eq_true rfl) ⟨(Nat.le_of_ble_eq_true rfl), (Nat.le_of_ble_eq_true rfl)⟩ ⟨(Nat.le_of_ble_eq_true rfl), (Nat.le_of_ble_eq_true rfl)⟩ dX12_opens_15 rfl (fun r39 w40 h38 => ?_)
    obtain ⟨hW41, kq42, e43, x44⟩ := h38
    refine x_top e43 ?_
    have k45 : w40[6]? = some (iA E (a 6) 260 fw) := keeps_at kq42 hfw (by first | decide | omega | (dsimp only; omega))
    have kp46 := keeps_tr kp0 kq42 (fun q hq => by first | omega | (dsimp only at *; omega))
    obtain ⟨v47, v48, v49, v50, v51, v52, n53, n54, bo55, bo56, k57⟩ := x44
    exact x_zret C hr hlk rfl dX12_opens_18 ⟨hW41, kp46, (Or.inl rfl), (Or.inl ⟨rfl, ⟨v47, v48, v49, v50, v51, v52, n53, n54, ⟨by omega, by omega, by omega, by omega, by omega, by omega, by omega⟩, ⟨by omega, by omega⟩, k57⟩, k45⟩)⟩
set_option maxRecDepth 20000 in
set_option maxHeartbeats 4000000 in
theorem m_opens13 (E : xE) (l : Launch) (a : Nat → Nat) (cd : Cd) (hG : Good cd) (kf : Int32) (jn js jq : Lb) (ws : va_W) (hW : WX (okM E a cd kf jn js jq) ws) (tp pl le cm wt sm lm : Nat) (nu : Int32) (h0 : MO a cd kf ws tp pl le cm wt sm lm nu) (fw : Nat → Int32) (hfw : ws[6]? = some (iA E (a 6) 260 fw)) (hwt : wt ≤ 259) (hpl : pl ≤ 239) : xI E l yX12_opens cX12_opens 2 (some .boolean) 1 [.ref (a 0), .int 13] ws (fun r w => WX (okM E a cd kf jn js jq) w ∧ keeps ws w (fun q => q = 0 ∨ q = 6) ∧ zb r ∧ ((r = 0 ∧ MO a cd kf w tp pl le cm wt sm lm nu ∧ w[6]? = some (iA E (a 6) 260 fw)) ∨ (r = 1 ∧ MO a cd kf w tp (pl + 1) le cm (wt + 1) sm lm nu ∧ w[6]? = some (iA E (a 6) 260 (upd fw wt (nI (1048576 * 13 + 0))))))) := by
  refine xI_start (lv := [(0, .ref (a 0)), (1, .int 13)]) RX12 (by decide) rfl (Nat.le_of_ble_eq_true rfl) rfl (fun p e s m below meth c A C hr hlk => ?_)
  have kp0 : keeps ws ws (fun q => q = 0 ∨ q = 6) := keeps_rf
  obtain ⟨v1, v2, v3, v4, v5, v6, n7, n8, bo9, bo10, k11⟩ := h0
  refine x_aload_n C dX12_opens_0 rfl 0 rfl rfl ?_
  refine x_get C (ci := 11) (k := 9) 0 k11 rfl in_X12 (by decide) w_1127 rfl dX12_opens_1 rfl ?_
  refine x_bipush C (v := 6) dX12_opens_4 (by decide) rfl ?_
  refine x_icmp_ne C (tgt := 19) dX12_opens_6 (by decide) rfl (fun c12 => ?_) (fun c12 => ?_)
  · skip
    refine x_aload_n C dX12_opens_19 rfl 0 rfl rfl ?_
    refine x_aload_n C dX12_opens_20 rfl 0 rfl rfl ?_
    refine x_get C (ci := 11) (k := 9) 0 k11 rfl in_X12 (by decide) w_1127 rfl dX12_opens_21 rfl ?_
    refine x_iconst C (v := 1) dX12_opens_24 (by decide) rfl ?_
    refine x_iadd C (v := (v2 + (1 : Int32))) dX12_opens_25 rfl rfl ?_
    refine x_any (fun v13 => ?_)
    obtain ⟨w14, hw15⟩ : ∃ w : va_W, w = List.set ws 0 (ob (a 0) 11 [.ref (a 1), .ref (a 2), .ref (a 3), .ref (a 4), .int (nI tp), .int (nI pl), .int (nI le), .int v1, .int nu, .int v13, .int (nI cm), .int (nI wt), .int (nI sm), .int (nI (cd.2.2.2.2.2)), .ref (a 5), .ref (a 6), .ref (a 7), .ref (a 8), .ref (a 9), .ref (a 10), .ref (a 11), .ref (a 12), .ref (a 13), .ref (a 14), .ref (a 15), .ref (a 16), .ref (a 17), .int (nI lm), .ref (a 18), .ref (a 19), .ref (a 20), .ref (a 21), .int v3, .int v4, .int v5, .int v6, .int (nI n7), .int (nI n8), .ref (a 22), .ref (a 23), .ref (a 24), .ref (a 25), .ref (a 26), .ref (a 27), .ref (a 28), .ref (a 29), .ref (a 30), .int kf]) := ⟨_, rfl⟩
    refine x_put C (ci := 11) (k := 9) (ty := .int) 0 k11 rfl in_X12 tyX12 tyX12_ok nmX12 (by decide) w_1127 rfl rfl rfl rfl (Nat.le_of_ble_eq_true rfl) hw15.symm dX12_opens_26 rfl ?_
    have hW16 : WX (okM E a cd kf jn js jq) w14 := by rw [hw15]; exact hW.set (k := 0) rfl ⟨tp, pl, le, v1, nu, v13, cm, wt, sm, lm, v3, v4, v5, v6, n7, n8, by omega, by omega, by omega, by omega, by omega, by omega, by omega, by omega, by omega, rfl⟩
    have k17 : w14[0]? = some (ob (a 0) 11 [.ref (a 1), .ref (a 2), .ref (a 3), .ref (a 4), .int (nI tp), .int (nI pl), .int (nI le), .int v1, .int nu, .int v13, .int (nI cm), .int (nI wt), .int (nI sm), .int (nI (cd.2.2.2.2.2)), .ref (a 5), .ref (a 6), .ref (a 7), .ref (a 8), .ref (a 9), .ref (a 10), .ref (a 11), .ref (a 12), .ref (a 13), .ref (a 14), .ref (a 15), .ref (a 16), .ref (a 17), .int (nI lm), .ref (a 18), .ref (a 19), .ref (a 20), .ref (a 21), .int v3, .int v4, .int v5, .int v6, .int (nI n7), .int (nI n8), .ref (a 22), .ref (a 23), .ref (a 24), .ref (a 25), .ref (a 26), .ref (a 27), .ref (a 28), .ref (a 29), .ref (a 30), .int kf]) := by rw [hw15]; exact set_eq k11
    have k18 : w14[6]? = some (iA E (a 6) 260 fw) := by rw [hw15]; exact set_ne hfw (by decide)
    have kp19 := keeps_set kp0 hw15 (by first | exact rfl | decide | omega | (dsimp only; omega))
    refine x_aload_n C dX12_opens_29 rfl 0 rfl rfl ?_
    refine x_get C (ci := 11) (k := 15) 0 k17 rfl in_X12 (by decide) w_1133 rfl dX12_opens_30 rfl ?_
    refine x_aload_n C dX12_opens_33 rfl 0 rfl rfl ?_
    refine x_get C (ci := 11) (k := 11) 0 k17 rfl in_X12 (by decide) w_1129 rfl dX12_opens_34 rfl ?_
    refine x_ldc C w_1340 dX12_opens_37 rfl ?_
    refine x_iload_n C dX12_opens_39 rfl 1 rfl rfl ?_
    refine x_imul C (v := 13631488) dX12_opens_40 (by decide) rfl ?_
    obtain ⟨w20, hw21⟩ : ∃ w : va_W, w = List.set w14 6 (iA E (a 6) 260 (upd fw wt (13631488 : Int32))) := ⟨_, rfl⟩
    refine x_iask C wt (nI_clamp (by omega)) (nI_pos (by omega)) (by omega) 6 k18 hw21.symm dX12_opens_41 rfl ?_
    have hW22 : WX (okM E a cd kf jn js jq) w20 := by rw [hw21]; exact hW16.set (k := 6) rfl ⟨_, rfl⟩
    have k23 : w20[0]? = some (ob (a 0) 11 [.ref (a 1), .ref (a 2), .ref (a 3), .ref (a 4), .int (nI tp), .int (nI pl), .int (nI le), .int v1, .int nu, .int v13, .int (nI cm), .int (nI wt), .int (nI sm), .int (nI (cd.2.2.2.2.2)), .ref (a 5), .ref (a 6), .ref (a 7), .ref (a 8), .ref (a 9), .ref (a 10), .ref (a 11), .ref (a 12), .ref (a 13), .ref (a 14), .ref (a 15), .ref (a 16), .ref (a 17), .int (nI lm), .ref (a 18), .ref (a 19), .ref (a 20), .ref (a 21), .int v3, .int v4, .int v5, .int v6, .int (nI n7), .int (nI n8), .ref (a 22), .ref (a 23), .ref (a 24), .ref (a 25), .ref (a 26), .ref (a 27), .ref (a 28), .ref (a 29), .ref (a 30), .int kf]) := by rw [hw21]; exact set_ne k17 (by decide)
    have k24 : w20[6]? = some (iA E (a 6) 260 (upd fw wt (13631488 : Int32))) := by rw [hw21]; exact set_eq k18
    have kp25 := keeps_set kp19 hw21 (by first | exact rfl | decide | omega | (dsimp only; omega))
    refine x_aload_n C dX12_opens_42 rfl 0 rfl rfl ?_
    refine x_aload_n C dX12_opens_43 rfl 0 rfl rfl ?_
    refine x_get C (ci := 11) (k := 11) 0 k23 rfl in_X12 (by decide) w_1129 rfl dX12_opens_44 rfl ?_
    refine x_iconst C (v := 1) dX12_opens_47 (by decide) rfl ?_
    refine x_iadd C (v := (nI (wt + 1))) dX12_opens_48 (nI_add wt 1) rfl ?_
    obtain ⟨w26, hw27⟩ : ∃ w : va_W, w = List.set w20 0 (ob (a 0) 11 [.ref (a 1), .ref (a 2), .ref (a 3), .ref (a 4), .int (nI tp), .int (nI pl), .int (nI le), .int v1, .int nu, .int v13, .int (nI cm), .int (nI (wt + 1)), .int (nI sm), .int (nI (cd.2.2.2.2.2)), .ref (a 5), .ref (a 6), .ref (a 7), .ref (a 8), .ref (a 9), .ref (a 10), .ref (a 11), .ref (a 12), .ref (a 13), .ref (a 14), .ref (a 15), .ref (a 16), .ref (a 17), .int (nI lm), .ref (a 18), .ref (a 19), .ref (a 20), .ref (a 21), .int v3, .int v4, .int v5, .int v6, .int (nI n7), .int (nI n8), .ref (a 22), .ref (a 23), .ref (a 24), .ref (a 25), .ref (a 26), .ref (a 27), .ref (a 28), .ref (a 29), .ref (a 30), .int kf]) := ⟨_, rfl⟩
    refine x_put C (ci := 11) (k := 11) (ty := .int) 0 k23 rfl in_X12 tyX12 tyX12_ok nmX12 (by decide) w_1129 rfl rfl rfl rfl (Nat.le_of_ble_eq_true rfl) hw27.symm dX12_opens_49 rfl ?_
    have hW28 : WX (okM E a cd kf jn js jq) w26 := by rw [hw27]; exact hW22.set (k := 0) rfl ⟨tp, pl, le, v1, nu, v13, cm, (wt + 1), sm, lm, v3, v4, v5, v6, n7, n8, by omega, by omega, by omega, by omega, by omega, by omega, by omega, by omega, by omega, rfl⟩
    have k29 : w26[0]? = some (ob (a 0) 11 [.ref (a 1), .ref (a 2), .ref (a 3), .ref (a 4), .int (nI tp), .int (nI pl), .int (nI le), .int v1, .int nu, .int v13, .int (nI cm), .int (nI (wt + 1)), .int (nI sm), .int (nI (cd.2.2.2.2.2)), .ref (a 5), .ref (a 6), .ref (a 7), .ref (a 8), .ref (a 9), .ref (a 10), .ref (a 11), .ref (a 12), .ref (a 13), .ref (a 14), .ref (a 15), .ref (a 16), .ref (a 17), .int (nI lm), .ref (a 18), .ref (a 19), .ref (a 20), .ref (a 21), .int v3, .int v4, .int v5, .int v6, .int (nI n7), .int (nI n8), .ref (a 22), .ref (a 23), .ref (a 24), .ref (a 25), .ref (a 26), .ref (a 27), .ref (a 28), .ref (a 29), .ref (a 30), .int kf]) := by rw [hw27]; exact set_eq k23
    have k30 : w26[6]? = some (iA E (a 6) 260 (upd fw wt (13631488 : Int32))) := by rw [hw27]; exact set_ne k24 (by decide)
    have kp31 := keeps_set kp25 hw27 (by first | exact rfl | decide | omega | (dsimp only; omega))
    refine x_aload_n C dX12_opens_52 rfl 0 rfl rfl ?_
    refine x_aload_n C dX12_opens_53 rfl 0 rfl rfl ?_
    refine x_get C (ci := 11) (k := 5) 0 k29 rfl in_X12 (by decide) w_1123 rfl dX12_opens_54 rfl ?_
    refine x_iconst C (v := 1) dX12_opens_57 (by decide) rfl ?_
    refine x_iadd C (v := (nI (pl + 1))) dX12_opens_58 (nI_add pl 1) rfl ?_
    obtain ⟨w32, hw33⟩ : ∃ w : va_W, w = List.set w26 0 (ob (a 0) 11 [.ref (a 1), .ref (a 2), .ref (a 3), .ref (a 4), .int (nI tp), .int (nI (pl + 1)), .int (nI le), .int v1, .int nu, .int v13, .int (nI cm), .int (nI (wt + 1)), .int (nI sm), .int (nI (cd.2.2.2.2.2)), .ref (a 5), .ref (a 6), .ref (a 7), .ref (a 8), .ref (a 9), .ref (a 10), .ref (a 11), .ref (a 12), .ref (a 13), .ref (a 14), .ref (a 15), .ref (a 16), .ref (a 17), .int (nI lm), .ref (a 18), .ref (a 19), .ref (a 20), .ref (a 21), .int v3, .int v4, .int v5, .int v6, .int (nI n7), .int (nI n8), .ref (a 22), .ref (a 23), .ref (a 24), .ref (a 25), .ref (a 26), .ref (a 27), .ref (a 28), .ref (a 29), .ref (a 30), .int kf]) := ⟨_, rfl⟩
    refine x_put C (ci := 11) (k := 5) (ty := .int) 0 k29 rfl in_X12 tyX12 tyX12_ok nmX12 (by decide) w_1123 rfl rfl rfl rfl (Nat.le_of_ble_eq_true rfl) hw33.symm dX12_opens_59 rfl ?_
    have hW34 : WX (okM E a cd kf jn js jq) w32 := by rw [hw33]; exact hW28.set (k := 0) rfl ⟨tp, (pl + 1), le, v1, nu, v13, cm, (wt + 1), sm, lm, v3, v4, v5, v6, n7, n8, by omega, by omega, by omega, by omega, by omega, by omega, by omega, by omega, by omega, rfl⟩
    have k35 : w32[0]? = some (ob (a 0) 11 [.ref (a 1), .ref (a 2), .ref (a 3), .ref (a 4), .int (nI tp), .int (nI (pl + 1)), .int (nI le), .int v1, .int nu, .int v13, .int (nI cm), .int (nI (wt + 1)), .int (nI sm), .int (nI (cd.2.2.2.2.2)), .ref (a 5), .ref (a 6), .ref (a 7), .ref (a 8), .ref (a 9), .ref (a 10), .ref (a 11), .ref (a 12), .ref (a 13), .ref (a 14), .ref (a 15), .ref (a 16), .ref (a 17), .int (nI lm), .ref (a 18), .ref (a 19), .ref (a 20), .ref (a 21), .int v3, .int v4, .int v5, .int v6, .int (nI n7), .int (nI n8), .ref (a 22), .ref (a 23), .ref (a 24), .ref (a 25), .ref (a 26), .ref (a 27), .ref (a 28), .ref (a 29), .ref (a 30), .int kf]) := by rw [hw33]; exact set_eq k29
    have k36 : w32[6]? = some (iA E (a 6) 260 (upd fw wt (13631488 : Int32))) := by rw [hw33]; exact set_ne k30 (by decide)
    have kp37 := keeps_set kp31 hw33 (by first | exact rfl | decide | omega | (dsimp only; omega))
    refine x_iconst C (v := 1) dX12_opens_62 (by decide) rfl ?_
    exact x_zret C hr hlk rfl dX12_opens_63 ⟨hW34, kp37, (Or.inr rfl), (Or.inr ⟨rfl, ⟨v1, v13, v3, v4, v5, v6, n7, n8, ⟨by omega, by omega, by omega, by omega, by omega, by omega, by omega⟩, ⟨by omega, by omega⟩, k35⟩, k36⟩)⟩
  · skip
    refine x_aload_n C dX12_opens_9 rfl 0 rfl rfl ?_
    refine x_iconst C (v := 5) dX12_opens_10 (by decide) rfl ?_
    refine x_aload_n C dX12_opens_11 rfl 0 rfl rfl ?_
    refine x_get C (ci := 11) (k := 5) 0 k11 rfl in_X12 (by decide) w_1123 rfl dX12_opens_12 rfl ?_
    refine x_vi C (As := [.int 5, .int (nI pl)]) (rest := []) (m_wrongAt E l a cd hG kf jn js jq ws hW (5 : Int32) ((nI pl)) tp pl le cm wt sm lm nu ⟨v1, v2, v3, v4, v5, v6, n7, n8, ⟨by omega, by omega, by omega, by omega, by omega, by omega, by omega⟩, ⟨by omega, by omega⟩, k11⟩) mf_X12_wrongAt w_1324 0 k11 rfl rfl rfl (Nat.le_of_ble_eq_true rfl) ⟨(Nat.le_of_ble_eq_true rfl), (Nat.le_of_ble_eq_true rfl)⟩ ⟨(Nat.le_of_ble_eq_true rfl), (Nat.le_of_ble_eq_true rfl)⟩ dX12_opens_15 rfl (fun r39 w40 h38 => ?_)
    obtain ⟨hW41, kq42, e43, x44⟩ := h38
    refine x_top e43 ?_
    have k45 : w40[6]? = some (iA E (a 6) 260 fw) := keeps_at kq42 hfw (by first | decide | omega | (dsimp only; omega))
    have kp46 := keeps_tr kp0 kq42 (fun q hq => by first | omega | (dsimp only at *; omega))
    obtain ⟨v47, v48, v49, v50, v51, v52, n53, n54, bo55, bo56, k57⟩ := x44
    exact x_zret C hr hlk rfl dX12_opens_18 ⟨hW41, kp46, (Or.inl rfl), (Or.inl ⟨rfl, ⟨v47, v48, v49, v50, v51, v52, n53, n54, ⟨by omega, by omega, by omega, by omega, by omega, by omega, by omega⟩, ⟨by omega, by omega⟩, k57⟩, k45⟩)⟩
set_option maxRecDepth 20000 in
set_option maxHeartbeats 4000000 in
theorem m_opens14 (E : xE) (l : Launch) (a : Nat → Nat) (cd : Cd) (hG : Good cd) (kf : Int32) (jn js jq : Lb) (ws : va_W) (hW : WX (okM E a cd kf jn js jq) ws) (tp pl le cm wt sm lm : Nat) (nu : Int32) (h0 : MO a cd kf ws tp pl le cm wt sm lm nu) (fw : Nat → Int32) (hfw : ws[6]? = some (iA E (a 6) 260 fw)) (hwt : wt ≤ 259) (hpl : pl ≤ 239) : xI E l yX12_opens cX12_opens 2 (some .boolean) 1 [.ref (a 0), .int 14] ws (fun r w => WX (okM E a cd kf jn js jq) w ∧ keeps ws w (fun q => q = 0 ∨ q = 6) ∧ zb r ∧ ((r = 0 ∧ MO a cd kf w tp pl le cm wt sm lm nu ∧ w[6]? = some (iA E (a 6) 260 fw)) ∨ (r = 1 ∧ MO a cd kf w tp (pl + 1) le cm (wt + 1) sm lm nu ∧ w[6]? = some (iA E (a 6) 260 (upd fw wt (nI (1048576 * 14 + 0))))))) := by
  refine xI_start (lv := [(0, .ref (a 0)), (1, .int 14)]) RX12 (by decide) rfl (Nat.le_of_ble_eq_true rfl) rfl (fun p e s m below meth c A C hr hlk => ?_)
  have kp0 : keeps ws ws (fun q => q = 0 ∨ q = 6) := keeps_rf
  obtain ⟨v1, v2, v3, v4, v5, v6, n7, n8, bo9, bo10, k11⟩ := h0
  refine x_aload_n C dX12_opens_0 rfl 0 rfl rfl ?_
  refine x_get C (ci := 11) (k := 9) 0 k11 rfl in_X12 (by decide) w_1127 rfl dX12_opens_1 rfl ?_
  refine x_bipush C (v := 6) dX12_opens_4 (by decide) rfl ?_
  refine x_icmp_ne C (tgt := 19) dX12_opens_6 (by decide) rfl (fun c12 => ?_) (fun c12 => ?_)
  · skip
    refine x_aload_n C dX12_opens_19 rfl 0 rfl rfl ?_
    refine x_aload_n C dX12_opens_20 rfl 0 rfl rfl ?_
    refine x_get C (ci := 11) (k := 9) 0 k11 rfl in_X12 (by decide) w_1127 rfl dX12_opens_21 rfl ?_
    refine x_iconst C (v := 1) dX12_opens_24 (by decide) rfl ?_
    refine x_iadd C (v := (v2 + (1 : Int32))) dX12_opens_25 rfl rfl ?_
    refine x_any (fun v13 => ?_)
    obtain ⟨w14, hw15⟩ : ∃ w : va_W, w = List.set ws 0 (ob (a 0) 11 [.ref (a 1), .ref (a 2), .ref (a 3), .ref (a 4), .int (nI tp), .int (nI pl), .int (nI le), .int v1, .int nu, .int v13, .int (nI cm), .int (nI wt), .int (nI sm), .int (nI (cd.2.2.2.2.2)), .ref (a 5), .ref (a 6), .ref (a 7), .ref (a 8), .ref (a 9), .ref (a 10), .ref (a 11), .ref (a 12), .ref (a 13), .ref (a 14), .ref (a 15), .ref (a 16), .ref (a 17), .int (nI lm), .ref (a 18), .ref (a 19), .ref (a 20), .ref (a 21), .int v3, .int v4, .int v5, .int v6, .int (nI n7), .int (nI n8), .ref (a 22), .ref (a 23), .ref (a 24), .ref (a 25), .ref (a 26), .ref (a 27), .ref (a 28), .ref (a 29), .ref (a 30), .int kf]) := ⟨_, rfl⟩
    refine x_put C (ci := 11) (k := 9) (ty := .int) 0 k11 rfl in_X12 tyX12 tyX12_ok nmX12 (by decide) w_1127 rfl rfl rfl rfl (Nat.le_of_ble_eq_true rfl) hw15.symm dX12_opens_26 rfl ?_
    have hW16 : WX (okM E a cd kf jn js jq) w14 := by rw [hw15]; exact hW.set (k := 0) rfl ⟨tp, pl, le, v1, nu, v13, cm, wt, sm, lm, v3, v4, v5, v6, n7, n8, by omega, by omega, by omega, by omega, by omega, by omega, by omega, by omega, by omega, rfl⟩
    have k17 : w14[0]? = some (ob (a 0) 11 [.ref (a 1), .ref (a 2), .ref (a 3), .ref (a 4), .int (nI tp), .int (nI pl), .int (nI le), .int v1, .int nu, .int v13, .int (nI cm), .int (nI wt), .int (nI sm), .int (nI (cd.2.2.2.2.2)), .ref (a 5), .ref (a 6), .ref (a 7), .ref (a 8), .ref (a 9), .ref (a 10), .ref (a 11), .ref (a 12), .ref (a 13), .ref (a 14), .ref (a 15), .ref (a 16), .ref (a 17), .int (nI lm), .ref (a 18), .ref (a 19), .ref (a 20), .ref (a 21), .int v3, .int v4, .int v5, .int v6, .int (nI n7), .int (nI n8), .ref (a 22), .ref (a 23), .ref (a 24), .ref (a 25), .ref (a 26), .ref (a 27), .ref (a 28), .ref (a 29), .ref (a 30), .int kf]) := by rw [hw15]; exact set_eq k11
    have k18 : w14[6]? = some (iA E (a 6) 260 fw) := by rw [hw15]; exact set_ne hfw (by decide)
    have kp19 := keeps_set kp0 hw15 (by first | exact rfl | decide | omega | (dsimp only; omega))
    refine x_aload_n C dX12_opens_29 rfl 0 rfl rfl ?_
    refine x_get C (ci := 11) (k := 15) 0 k17 rfl in_X12 (by decide) w_1133 rfl dX12_opens_30 rfl ?_
    refine x_aload_n C dX12_opens_33 rfl 0 rfl rfl ?_
    refine x_get C (ci := 11) (k := 11) 0 k17 rfl in_X12 (by decide) w_1129 rfl dX12_opens_34 rfl ?_
    refine x_ldc C w_1340 dX12_opens_37 rfl ?_
    refine x_iload_n C dX12_opens_39 rfl 1 rfl rfl ?_
    refine x_imul C (v := 14680064) dX12_opens_40 (by decide) rfl ?_
    obtain ⟨w20, hw21⟩ : ∃ w : va_W, w = List.set w14 6 (iA E (a 6) 260 (upd fw wt (14680064 : Int32))) := ⟨_, rfl⟩
    refine x_iask C wt (nI_clamp (by omega)) (nI_pos (by omega)) (by omega) 6 k18 hw21.symm dX12_opens_41 rfl ?_
    have hW22 : WX (okM E a cd kf jn js jq) w20 := by rw [hw21]; exact hW16.set (k := 6) rfl ⟨_, rfl⟩
    have k23 : w20[0]? = some (ob (a 0) 11 [.ref (a 1), .ref (a 2), .ref (a 3), .ref (a 4), .int (nI tp), .int (nI pl), .int (nI le), .int v1, .int nu, .int v13, .int (nI cm), .int (nI wt), .int (nI sm), .int (nI (cd.2.2.2.2.2)), .ref (a 5), .ref (a 6), .ref (a 7), .ref (a 8), .ref (a 9), .ref (a 10), .ref (a 11), .ref (a 12), .ref (a 13), .ref (a 14), .ref (a 15), .ref (a 16), .ref (a 17), .int (nI lm), .ref (a 18), .ref (a 19), .ref (a 20), .ref (a 21), .int v3, .int v4, .int v5, .int v6, .int (nI n7), .int (nI n8), .ref (a 22), .ref (a 23), .ref (a 24), .ref (a 25), .ref (a 26), .ref (a 27), .ref (a 28), .ref (a 29), .ref (a 30), .int kf]) := by rw [hw21]; exact set_ne k17 (by decide)
    have k24 : w20[6]? = some (iA E (a 6) 260 (upd fw wt (14680064 : Int32))) := by rw [hw21]; exact set_eq k18
    have kp25 := keeps_set kp19 hw21 (by first | exact rfl | decide | omega | (dsimp only; omega))
    refine x_aload_n C dX12_opens_42 rfl 0 rfl rfl ?_
    refine x_aload_n C dX12_opens_43 rfl 0 rfl rfl ?_
    refine x_get C (ci := 11) (k := 11) 0 k23 rfl in_X12 (by decide) w_1129 rfl dX12_opens_44 rfl ?_
    refine x_iconst C (v := 1) dX12_opens_47 (by decide) rfl ?_
    refine x_iadd C (v := (nI (wt + 1))) dX12_opens_48 (nI_add wt 1) rfl ?_
    obtain ⟨w26, hw27⟩ : ∃ w : va_W, w = List.set w20 0 (ob (a 0) 11 [.ref (a 1), .ref (a 2), .ref (a 3), .ref (a 4), .int (nI tp), .int (nI pl), .int (nI le), .int v1, .int nu, .int v13, .int (nI cm), .int (nI (wt + 1)), .int (nI sm), .int (nI (cd.2.2.2.2.2)), .ref (a 5), .ref (a 6), .ref (a 7), .ref (a 8), .ref (a 9), .ref (a 10), .ref (a 11), .ref (a 12), .ref (a 13), .ref (a 14), .ref (a 15), .ref (a 16), .ref (a 17), .int (nI lm), .ref (a 18), .ref (a 19), .ref (a 20), .ref (a 21), .int v3, .int v4, .int v5, .int v6, .int (nI n7), .int (nI n8), .ref (a 22), .ref (a 23), .ref (a 24), .ref (a 25), .ref (a 26), .ref (a 27), .ref (a 28), .ref (a 29), .ref (a 30), .int kf]) := ⟨_, rfl⟩
    refine x_put C (ci := 11) (k := 11) (ty := .int) 0 k23 rfl in_X12 tyX12 tyX12_ok nmX12 (by decide) w_1129 rfl rfl rfl rfl (Nat.le_of_ble_eq_true rfl) hw27.symm dX12_opens_49 rfl ?_
    have hW28 : WX (okM E a cd kf jn js jq) w26 := by rw [hw27]; exact hW22.set (k := 0) rfl ⟨tp, pl, le, v1, nu, v13, cm, (wt + 1), sm, lm, v3, v4, v5, v6, n7, n8, by omega, by omega, by omega, by omega, by omega, by omega, by omega, by omega, by omega, rfl⟩
    have k29 : w26[0]? = some (ob (a 0) 11 [.ref (a 1), .ref (a 2), .ref (a 3), .ref (a 4), .int (nI tp), .int (nI pl), .int (nI le), .int v1, .int nu, .int v13, .int (nI cm), .int (nI (wt + 1)), .int (nI sm), .int (nI (cd.2.2.2.2.2)), .ref (a 5), .ref (a 6), .ref (a 7), .ref (a 8), .ref (a 9), .ref (a 10), .ref (a 11), .ref (a 12), .ref (a 13), .ref (a 14), .ref (a 15), .ref (a 16), .ref (a 17), .int (nI lm), .ref (a 18), .ref (a 19), .ref (a 20), .ref (a 21), .int v3, .int v4, .int v5, .int v6, .int (nI n7), .int (nI n8), .ref (a 22), .ref (a 23), .ref (a 24), .ref (a 25), .ref (a 26), .ref (a 27), .ref (a 28), .ref (a 29), .ref (a 30), .int kf]) := by rw [hw27]; exact set_eq k23
    have k30 : w26[6]? = some (iA E (a 6) 260 (upd fw wt (14680064 : Int32))) := by rw [hw27]; exact set_ne k24 (by decide)
    have kp31 := keeps_set kp25 hw27 (by first | exact rfl | decide | omega | (dsimp only; omega))
    refine x_aload_n C dX12_opens_52 rfl 0 rfl rfl ?_
    refine x_aload_n C dX12_opens_53 rfl 0 rfl rfl ?_
    refine x_get C (ci := 11) (k := 5) 0 k29 rfl in_X12 (by decide) w_1123 rfl dX12_opens_54 rfl ?_
    refine x_iconst C (v := 1) dX12_opens_57 (by decide) rfl ?_
    refine x_iadd C (v := (nI (pl + 1))) dX12_opens_58 (nI_add pl 1) rfl ?_
    obtain ⟨w32, hw33⟩ : ∃ w : va_W, w = List.set w26 0 (ob (a 0) 11 [.ref (a 1), .ref (a 2), .ref (a 3), .ref (a 4), .int (nI tp), .int (nI (pl + 1)), .int (nI le), .int v1, .int nu, .int v13, .int (nI cm), .int (nI (wt + 1)), .int (nI sm), .int (nI (cd.2.2.2.2.2)), .ref (a 5), .ref (a 6), .ref (a 7), .ref (a 8), .ref (a 9), .ref (a 10), .ref (a 11), .ref (a 12), .ref (a 13), .ref (a 14), .ref (a 15), .ref (a 16), .ref (a 17), .int (nI lm), .ref (a 18), .ref (a 19), .ref (a 20), .ref (a 21), .int v3, .int v4, .int v5, .int v6, .int (nI n7), .int (nI n8), .ref (a 22), .ref (a 23), .ref (a 24), .ref (a 25), .ref (a 26), .ref (a 27), .ref (a 28), .ref (a 29), .ref (a 30), .int kf]) := ⟨_, rfl⟩
    refine x_put C (ci := 11) (k := 5) (ty := .int) 0 k29 rfl in_X12 tyX12 tyX12_ok nmX12 (by decide) w_1123 rfl rfl rfl rfl (Nat.le_of_ble_eq_true rfl) hw33.symm dX12_opens_59 rfl ?_
    have hW34 : WX (okM E a cd kf jn js jq) w32 := by rw [hw33]; exact hW28.set (k := 0) rfl ⟨tp, (pl + 1), le, v1, nu, v13, cm, (wt + 1), sm, lm, v3, v4, v5, v6, n7, n8, by omega, by omega, by omega, by omega, by omega, by omega, by omega, by omega, by omega, rfl⟩
    have k35 : w32[0]? = some (ob (a 0) 11 [.ref (a 1), .ref (a 2), .ref (a 3), .ref (a 4), .int (nI tp), .int (nI (pl + 1)), .int (nI le), .int v1, .int nu, .int v13, .int (nI cm), .int (nI (wt + 1)), .int (nI sm), .int (nI (cd.2.2.2.2.2)), .ref (a 5), .ref (a 6), .ref (a 7), .ref (a 8), .ref (a 9), .ref (a 10), .ref (a 11), .ref (a 12), .ref (a 13), .ref (a 14), .ref (a 15), .ref (a 16), .ref (a 17), .int (nI lm), .ref (a 18), .ref (a 19), .ref (a 20), .ref (a 21), .int v3, .int v4, .int v5, .int v6, .int (nI n7), .int (nI n8), .ref (a 22), .ref (a 23), .ref (a 24), .ref (a 25), .ref (a 26), .ref (a 27), .ref (a 28), .ref (a 29), .ref (a 30), .int kf]) := by rw [hw33]; exact set_eq k29
    have k36 : w32[6]? = some (iA E (a 6) 260 (upd fw wt (14680064 : Int32))) := by rw [hw33]; exact set_ne k30 (by decide)
    have kp37 := keeps_set kp31 hw33 (by first | exact rfl | decide | omega | (dsimp only; omega))
    refine x_iconst C (v := 1) dX12_opens_62 (by decide) rfl ?_
    exact x_zret C hr hlk rfl dX12_opens_63 ⟨hW34, kp37, (Or.inr rfl), (Or.inr ⟨rfl, ⟨v1, v13, v3, v4, v5, v6, n7, n8, ⟨by omega, by omega, by omega, by omega, by omega, by omega, by omega⟩, ⟨by omega, by omega⟩, k35⟩, k36⟩)⟩
  · skip
    refine x_aload_n C dX12_opens_9 rfl 0 rfl rfl ?_
    refine x_iconst C (v := 5) dX12_opens_10 (by decide) rfl ?_
    refine x_aload_n C dX12_opens_11 rfl 0 rfl rfl ?_
    refine x_get C (ci := 11) (k := 5) 0 k11 rfl in_X12 (by decide) w_1123 rfl dX12_opens_12 rfl ?_
    refine x_vi C (As := [.int 5, .int (nI pl)]) (rest := []) (m_wrongAt E l a cd hG kf jn js jq ws hW (5 : Int32) ((nI pl)) tp pl le cm wt sm lm nu ⟨v1, v2, v3, v4, v5, v6, n7, n8, ⟨by omega, by omega, by omega, by omega, by omega, by omega, by omega⟩, ⟨by omega, by omega⟩, k11⟩) mf_X12_wrongAt w_1324 0 k11 rfl rfl rfl (Nat.le_of_ble_eq_true rfl) ⟨(Nat.le_of_ble_eq_true rfl), (Nat.le_of_ble_eq_true rfl)⟩ ⟨(Nat.le_of_ble_eq_true rfl), (Nat.le_of_ble_eq_true rfl)⟩ dX12_opens_15 rfl (fun r39 w40 h38 => ?_)
    obtain ⟨hW41, kq42, e43, x44⟩ := h38
    refine x_top e43 ?_
    have k45 : w40[6]? = some (iA E (a 6) 260 fw) := keeps_at kq42 hfw (by first | decide | omega | (dsimp only; omega))
    have kp46 := keeps_tr kp0 kq42 (fun q hq => by first | omega | (dsimp only at *; omega))
    obtain ⟨v47, v48, v49, v50, v51, v52, n53, n54, bo55, bo56, k57⟩ := x44
    exact x_zret C hr hlk rfl dX12_opens_18 ⟨hW41, kp46, (Or.inl rfl), (Or.inl ⟨rfl, ⟨v47, v48, v49, v50, v51, v52, n53, n54, ⟨by omega, by omega, by omega, by omega, by omega, by omega, by omega⟩, ⟨by omega, by omega⟩, k57⟩, k45⟩)⟩
theorem dX12_waitTop_0 : decode cX12_waitTop 0 = .ok (.aload_n 0, 1) := by decide +kernel
theorem dX12_waitTop_1 : decode cX12_waitTop 1 = .ok (.getfield 161, 3) := by decide +kernel
theorem dX12_waitTop_4 : decode cX12_waitTop 4 = .ok (.ifCond .ne 7, 3) := by decide +kernel
theorem dX12_waitTop_7 : decode cX12_waitTop 7 = .ok (.iconst (-1), 1) := by decide +kernel
theorem dX12_waitTop_8 : decode cX12_waitTop 8 = .ok (.goto 17, 3) := by decide +kernel
theorem dX12_waitTop_11 : decode cX12_waitTop 11 = .ok (.aload_n 0, 1) := by decide +kernel
theorem dX12_waitTop_12 : decode cX12_waitTop 12 = .ok (.getfield 26, 3) := by decide +kernel
theorem dX12_waitTop_15 : decode cX12_waitTop 15 = .ok (.aload_n 0, 1) := by decide +kernel
theorem dX12_waitTop_16 : decode cX12_waitTop 16 = .ok (.getfield 161, 3) := by decide +kernel
theorem dX12_waitTop_19 : decode cX12_waitTop 19 = .ok (.iconst 1, 1) := by decide +kernel
theorem dX12_waitTop_20 : decode cX12_waitTop 20 = .ok (.isub, 1) := by decide +kernel
theorem dX12_waitTop_21 : decode cX12_waitTop 21 = .ok (.iaload, 1) := by decide +kernel
theorem dX12_waitTop_22 : decode cX12_waitTop 22 = .ok (.ldc 157, 2) := by decide +kernel
theorem dX12_waitTop_24 : decode cX12_waitTop 24 = .ok (.idiv, 1) := by decide +kernel
theorem dX12_waitTop_25 : decode cX12_waitTop 25 = .ok (.ireturn, 1) := by decide +kernel
set_option maxRecDepth 20000 in
set_option maxHeartbeats 4000000 in
theorem m_waitTop (E : xE) (l : Launch) (a : Nat → Nat) (cd : Cd) (hG : Good cd) (kf : Int32) (jn js jq : Lb) (ws : va_W) (hW : WX (okM E a cd kf jn js jq) ws) (tp pl le cm wt sm lm : Nat) (nu : Int32) (h0 : MO a cd kf ws tp pl le cm wt sm lm nu) (fw : Nat → Int32) (hfw : ws[6]? = some (iA E (a 6) 260 fw)) (W : WL) (hwr : wR fw W wt) : xI E l yX12_waitTop cX12_waitTop 1 (some .int) 0 [.ref (a 0)] ws (fun r w => w = ws ∧ (r = wtop W)) := by
  refine xI_start (lv := [(0, .ref (a 0))]) RX12 (by decide) rfl (Nat.le_of_ble_eq_true rfl) rfl (fun p e s m below meth c A C hr hlk => ?_)
  obtain ⟨v1, v2, v3, v4, v5, v6, n7, n8, bo9, bo10, k11⟩ := h0
  refine x_aload_n C dX12_waitTop_0 rfl 0 rfl rfl ?_
  refine x_get C (ci := 11) (k := 11) 0 k11 rfl in_X12 (by decide) w_1129 rfl dX12_waitTop_1 rfl ?_
  refine x_if_ne C (tgt := 11) dX12_waitTop_4 (by decide) rfl (fun c12 => ?_) (fun c12 => ?_)
  · skip
    have nf13 : ¬ wt = 0 := fun q => c12 (congrArg nI q)
    refine x_aload_n C dX12_waitTop_11 rfl 0 rfl rfl ?_
    refine x_get C (ci := 11) (k := 15) 0 k11 rfl in_X12 (by decide) w_1133 rfl dX12_waitTop_12 rfl ?_
    refine x_aload_n C dX12_waitTop_15 rfl 0 rfl rfl ?_
    refine x_get C (ci := 11) (k := 11) 0 k11 rfl in_X12 (by decide) w_1129 rfl dX12_waitTop_16 rfl ?_
    refine x_iconst C (v := 1) dX12_waitTop_19 (by decide) rfl ?_
    refine x_isub C (v := (nI (wt - 1))) dX12_waitTop_20 (pk_sub (a := wt) (b := 1) (by omega)) rfl ?_
    refine x_ialk C (v := (fw (wt - 1))) (wt - 1) (nI_clamp (by omega)) (nI_pos (by omega)) (by omega) 6 hfw rfl dX12_waitTop_21 rfl ?_
    obtain ⟨op, pay, ew, ho, hp, hw⟩ := wtop_cons hwr (by omega)
    refine x_top ew ?_
    refine x_ldc C w_1340 dX12_waitTop_22 rfl ?_
    refine x_idiv C (v := (nI op)) dX12_waitTop_24 (by decide) (divW ho hp) rfl ?_
    exact x_zret C hr hlk rfl dX12_waitTop_25 ⟨rfl, hw⟩
  · skip
    have nf14 : wt = 0 := (nI_eq (by omega) (by omega)).mp c12
    refine x_iconst C (v := (-1)) dX12_waitTop_7 (by decide) rfl ?_
    refine x_goto C (tgt := 25) dX12_waitTop_8 (by decide) ?_
    exact x_zret C hr hlk rfl dX12_waitTop_25 ⟨rfl, (wtop_nil hwr (by omega)).symm⟩
theorem dX12_factOf_0 : decode cX12_factOf 0 = .ok (.iload_n 0, 1) := by decide +kernel
theorem dX12_factOf_1 : decode cX12_factOf 1 = .ok (.tableswitch 142 97 121 #[127, 142, 130, 115, 142, 142, 142, 142, 136, 142, 121, 142, 125, 139, 133, 142, 142, 123, 142, 142, 142, 142, 117, 142, 119], 115) := by decide +kernel
theorem dX12_factOf_116 : decode cX12_factOf 116 = .ok (.iconst 0, 1) := by decide +kernel
theorem dX12_factOf_117 : decode cX12_factOf 117 = .ok (.ireturn, 1) := by decide +kernel
theorem dX12_factOf_118 : decode cX12_factOf 118 = .ok (.iconst 1, 1) := by decide +kernel
theorem dX12_factOf_119 : decode cX12_factOf 119 = .ok (.ireturn, 1) := by decide +kernel
theorem dX12_factOf_120 : decode cX12_factOf 120 = .ok (.iconst 2, 1) := by decide +kernel
theorem dX12_factOf_121 : decode cX12_factOf 121 = .ok (.ireturn, 1) := by decide +kernel
theorem dX12_factOf_122 : decode cX12_factOf 122 = .ok (.iconst 3, 1) := by decide +kernel
theorem dX12_factOf_123 : decode cX12_factOf 123 = .ok (.ireturn, 1) := by decide +kernel
theorem dX12_factOf_124 : decode cX12_factOf 124 = .ok (.iconst 4, 1) := by decide +kernel
theorem dX12_factOf_125 : decode cX12_factOf 125 = .ok (.ireturn, 1) := by decide +kernel
theorem dX12_factOf_126 : decode cX12_factOf 126 = .ok (.iconst 5, 1) := by decide +kernel
theorem dX12_factOf_127 : decode cX12_factOf 127 = .ok (.ireturn, 1) := by decide +kernel
theorem dX12_factOf_128 : decode cX12_factOf 128 = .ok (.bipush 6, 2) := by decide +kernel
theorem dX12_factOf_130 : decode cX12_factOf 130 = .ok (.ireturn, 1) := by decide +kernel
theorem dX12_factOf_131 : decode cX12_factOf 131 = .ok (.bipush 7, 2) := by decide +kernel
theorem dX12_factOf_133 : decode cX12_factOf 133 = .ok (.ireturn, 1) := by decide +kernel
theorem dX12_factOf_134 : decode cX12_factOf 134 = .ok (.bipush 8, 2) := by decide +kernel
theorem dX12_factOf_136 : decode cX12_factOf 136 = .ok (.ireturn, 1) := by decide +kernel
theorem dX12_factOf_137 : decode cX12_factOf 137 = .ok (.bipush 9, 2) := by decide +kernel
theorem dX12_factOf_139 : decode cX12_factOf 139 = .ok (.ireturn, 1) := by decide +kernel
theorem dX12_factOf_140 : decode cX12_factOf 140 = .ok (.bipush 10, 2) := by decide +kernel
theorem dX12_factOf_142 : decode cX12_factOf 142 = .ok (.ireturn, 1) := by decide +kernel
theorem dX12_factOf_143 : decode cX12_factOf 143 = .ok (.iconst (-1), 1) := by decide +kernel
theorem dX12_factOf_144 : decode cX12_factOf 144 = .ok (.ireturn, 1) := by decide +kernel
set_option maxRecDepth 20000 in
set_option maxHeartbeats 4000000 in
theorem m_factOf (E : xE) (l : Launch) (a : Nat → Nat) (cd : Cd) (hG : Good cd) (kf : Int32) (jn js jq : Lb) (ws : va_W) (hW : WX (okM E a cd kf jn js jq) ws) (p0 : Int32) : xI E l yX12_factOf cX12_factOf 1 (some .int) 0 [.int p0] ws (fun r w => w = ws ∧ (r = -1 ∨ ∃ n : Nat, n ≤ 10 ∧ r = nI n ∧ ¬ p0 = -1)) := by
  refine xI_start (lv := [(0, .int p0)]) RX12 (by decide) rfl (Nat.le_of_ble_eq_true rfl) rfl (fun p e s m below meth c A C hr hlk => ?_)
  refine x_iload_n C dX12_factOf_0 rfl 0 rfl rfl ?_
  by_cases s1 : (p0).toInt < 97
  · refine x_tabOut C (tgt := 143) dX12_factOf_1 (Or.inl s1) (by decide) ?_
    refine x_iconst C (v := (-1)) dX12_factOf_143 (by decide) rfl ?_
    exact x_zret C hr hlk rfl dX12_factOf_144 ⟨rfl, (Or.inl rfl)⟩
  by_cases s2 : 121 < (p0).toInt
  · refine x_tabOut C (tgt := 143) dX12_factOf_1 (Or.inr s2) (by decide) ?_
    refine x_iconst C (v := (-1)) dX12_factOf_143 (by decide) rfl ?_
    exact x_zret C hr hlk rfl dX12_factOf_144 ⟨rfl, (Or.inl rfl)⟩
  by_cases s3 : p0 = 97
  · refine x_tabIn C (tgt := 128) dX12_factOf_1 (by rw [s3]; decide) (by rw [s3]; decide) (by rw [s3]; rfl) (by decide) ?_
    refine x_bipush C (v := 6) dX12_factOf_128 (by decide) rfl ?_
    exact x_zret C hr hlk rfl dX12_factOf_130 ⟨rfl, (Or.inr ⟨6, by omega, rfl, by rw [s3]; decide⟩)⟩
  have zs3 := sw_ne (by decide : (97 : Int32).toInt = 97) s3
  by_cases s4 : p0 = 98
  · refine x_tabIn C (tgt := 143) dX12_factOf_1 (by rw [s4]; decide) (by rw [s4]; decide) (by rw [s4]; rfl) (by decide) ?_
    refine x_iconst C (v := (-1)) dX12_factOf_143 (by decide) rfl ?_
    exact x_zret C hr hlk rfl dX12_factOf_144 ⟨rfl, (Or.inl rfl)⟩
  have zs4 := sw_ne (by decide : (98 : Int32).toInt = 98) s4
  by_cases s5 : p0 = 99
  · refine x_tabIn C (tgt := 131) dX12_factOf_1 (by rw [s5]; decide) (by rw [s5]; decide) (by rw [s5]; rfl) (by decide) ?_
    refine x_bipush C (v := 7) dX12_factOf_131 (by decide) rfl ?_
    exact x_zret C hr hlk rfl dX12_factOf_133 ⟨rfl, (Or.inr ⟨7, by omega, rfl, by rw [s5]; decide⟩)⟩
  have zs5 := sw_ne (by decide : (99 : Int32).toInt = 99) s5
  by_cases s6 : p0 = 100
  · refine x_tabIn C (tgt := 116) dX12_factOf_1 (by rw [s6]; decide) (by rw [s6]; decide) (by rw [s6]; rfl) (by decide) ?_
    refine x_iconst C (v := 0) dX12_factOf_116 (by decide) rfl ?_
    exact x_zret C hr hlk rfl dX12_factOf_117 ⟨rfl, (Or.inr ⟨0, by omega, rfl, by rw [s6]; decide⟩)⟩
  have zs6 := sw_ne (by decide : (100 : Int32).toInt = 100) s6
  by_cases s7 : p0 = 101
  · refine x_tabIn C (tgt := 143) dX12_factOf_1 (by rw [s7]; decide) (by rw [s7]; decide) (by rw [s7]; rfl) (by decide) ?_
    refine x_iconst C (v := (-1)) dX12_factOf_143 (by decide) rfl ?_
    exact x_zret C hr hlk rfl dX12_factOf_144 ⟨rfl, (Or.inl rfl)⟩
  have zs7 := sw_ne (by decide : (101 : Int32).toInt = 101) s7
  by_cases s8 : p0 = 102
  · refine x_tabIn C (tgt := 143) dX12_factOf_1 (by rw [s8]; decide) (by rw [s8]; decide) (by rw [s8]; rfl) (by decide) ?_
    refine x_iconst C (v := (-1)) dX12_factOf_143 (by decide) rfl ?_
    exact x_zret C hr hlk rfl dX12_factOf_144 ⟨rfl, (Or.inl rfl)⟩
  have zs8 := sw_ne (by decide : (102 : Int32).toInt = 102) s8
  by_cases s9 : p0 = 103
  · refine x_tabIn C (tgt := 143) dX12_factOf_1 (by rw [s9]; decide) (by rw [s9]; decide) (by rw [s9]; rfl) (by decide) ?_
    refine x_iconst C (v := (-1)) dX12_factOf_143 (by decide) rfl ?_
    exact x_zret C hr hlk rfl dX12_factOf_144 ⟨rfl, (Or.inl rfl)⟩
  have zs9 := sw_ne (by decide : (103 : Int32).toInt = 103) s9
  by_cases s10 : p0 = 104
  · refine x_tabIn C (tgt := 143) dX12_factOf_1 (by rw [s10]; decide) (by rw [s10]; decide) (by rw [s10]; rfl) (by decide) ?_
    refine x_iconst C (v := (-1)) dX12_factOf_143 (by decide) rfl ?_
    exact x_zret C hr hlk rfl dX12_factOf_144 ⟨rfl, (Or.inl rfl)⟩
  have zs10 := sw_ne (by decide : (104 : Int32).toInt = 104) s10
  by_cases s11 : p0 = 105
  · refine x_tabIn C (tgt := 137) dX12_factOf_1 (by rw [s11]; decide) (by rw [s11]; decide) (by rw [s11]; rfl) (by decide) ?_
    refine x_bipush C (v := 9) dX12_factOf_137 (by decide) rfl ?_
    exact x_zret C hr hlk rfl dX12_factOf_139 ⟨rfl, (Or.inr ⟨9, by omega, rfl, by rw [s11]; decide⟩)⟩
  have zs11 := sw_ne (by decide : (105 : Int32).toInt = 105) s11
  by_cases s12 : p0 = 106
  · refine x_tabIn C (tgt := 143) dX12_factOf_1 (by rw [s12]; decide) (by rw [s12]; decide) (by rw [s12]; rfl) (by decide) ?_
    refine x_iconst C (v := (-1)) dX12_factOf_143 (by decide) rfl ?_
    exact x_zret C hr hlk rfl dX12_factOf_144 ⟨rfl, (Or.inl rfl)⟩
  have zs12 := sw_ne (by decide : (106 : Int32).toInt = 106) s12
  by_cases s13 : p0 = 107
  · refine x_tabIn C (tgt := 122) dX12_factOf_1 (by rw [s13]; decide) (by rw [s13]; decide) (by rw [s13]; rfl) (by decide) ?_
    refine x_iconst C (v := 3) dX12_factOf_122 (by decide) rfl ?_
    exact x_zret C hr hlk rfl dX12_factOf_123 ⟨rfl, (Or.inr ⟨3, by omega, rfl, by rw [s13]; decide⟩)⟩
  have zs13 := sw_ne (by decide : (107 : Int32).toInt = 107) s13
  by_cases s14 : p0 = 108
  · refine x_tabIn C (tgt := 143) dX12_factOf_1 (by rw [s14]; decide) (by rw [s14]; decide) (by rw [s14]; rfl) (by decide) ?_
    refine x_iconst C (v := (-1)) dX12_factOf_143 (by decide) rfl ?_
    exact x_zret C hr hlk rfl dX12_factOf_144 ⟨rfl, (Or.inl rfl)⟩
  have zs14 := sw_ne (by decide : (108 : Int32).toInt = 108) s14
  by_cases s15 : p0 = 109
  · refine x_tabIn C (tgt := 126) dX12_factOf_1 (by rw [s15]; decide) (by rw [s15]; decide) (by rw [s15]; rfl) (by decide) ?_
    refine x_iconst C (v := 5) dX12_factOf_126 (by decide) rfl ?_
    exact x_zret C hr hlk rfl dX12_factOf_127 ⟨rfl, (Or.inr ⟨5, by omega, rfl, by rw [s15]; decide⟩)⟩
  have zs15 := sw_ne (by decide : (109 : Int32).toInt = 109) s15
  by_cases s16 : p0 = 110
  · refine x_tabIn C (tgt := 140) dX12_factOf_1 (by rw [s16]; decide) (by rw [s16]; decide) (by rw [s16]; rfl) (by decide) ?_
    refine x_bipush C (v := 10) dX12_factOf_140 (by decide) rfl ?_
    exact x_zret C hr hlk rfl dX12_factOf_142 ⟨rfl, (Or.inr ⟨10, by omega, rfl, by rw [s16]; decide⟩)⟩
  have zs16 := sw_ne (by decide : (110 : Int32).toInt = 110) s16
  by_cases s17 : p0 = 111
  · refine x_tabIn C (tgt := 134) dX12_factOf_1 (by rw [s17]; decide) (by rw [s17]; decide) (by rw [s17]; rfl) (by decide) ?_
    refine x_bipush C (v := 8) dX12_factOf_134 (by decide) rfl ?_
    exact x_zret C hr hlk rfl dX12_factOf_136 ⟨rfl, (Or.inr ⟨8, by omega, rfl, by rw [s17]; decide⟩)⟩
  have zs17 := sw_ne (by decide : (111 : Int32).toInt = 111) s17
  by_cases s18 : p0 = 112
  · refine x_tabIn C (tgt := 143) dX12_factOf_1 (by rw [s18]; decide) (by rw [s18]; decide) (by rw [s18]; rfl) (by decide) ?_
    refine x_iconst C (v := (-1)) dX12_factOf_143 (by decide) rfl ?_
    exact x_zret C hr hlk rfl dX12_factOf_144 ⟨rfl, (Or.inl rfl)⟩
  have zs18 := sw_ne (by decide : (112 : Int32).toInt = 112) s18
  by_cases s19 : p0 = 113
  · refine x_tabIn C (tgt := 143) dX12_factOf_1 (by rw [s19]; decide) (by rw [s19]; decide) (by rw [s19]; rfl) (by decide) ?_
    refine x_iconst C (v := (-1)) dX12_factOf_143 (by decide) rfl ?_
    exact x_zret C hr hlk rfl dX12_factOf_144 ⟨rfl, (Or.inl rfl)⟩
  have zs19 := sw_ne (by decide : (113 : Int32).toInt = 113) s19
  by_cases s20 : p0 = 114
  · refine x_tabIn C (tgt := 124) dX12_factOf_1 (by rw [s20]; decide) (by rw [s20]; decide) (by rw [s20]; rfl) (by decide) ?_
    refine x_iconst C (v := 4) dX12_factOf_124 (by decide) rfl ?_
    exact x_zret C hr hlk rfl dX12_factOf_125 ⟨rfl, (Or.inr ⟨4, by omega, rfl, by rw [s20]; decide⟩)⟩
  have zs20 := sw_ne (by decide : (114 : Int32).toInt = 114) s20
  by_cases s21 : p0 = 115
  · refine x_tabIn C (tgt := 143) dX12_factOf_1 (by rw [s21]; decide) (by rw [s21]; decide) (by rw [s21]; rfl) (by decide) ?_
    refine x_iconst C (v := (-1)) dX12_factOf_143 (by decide) rfl ?_
    exact x_zret C hr hlk rfl dX12_factOf_144 ⟨rfl, (Or.inl rfl)⟩
  have zs21 := sw_ne (by decide : (115 : Int32).toInt = 115) s21
  by_cases s22 : p0 = 116
  · refine x_tabIn C (tgt := 143) dX12_factOf_1 (by rw [s22]; decide) (by rw [s22]; decide) (by rw [s22]; rfl) (by decide) ?_
    refine x_iconst C (v := (-1)) dX12_factOf_143 (by decide) rfl ?_
    exact x_zret C hr hlk rfl dX12_factOf_144 ⟨rfl, (Or.inl rfl)⟩
  have zs22 := sw_ne (by decide : (116 : Int32).toInt = 116) s22
  by_cases s23 : p0 = 117
  · refine x_tabIn C (tgt := 143) dX12_factOf_1 (by rw [s23]; decide) (by rw [s23]; decide) (by rw [s23]; rfl) (by decide) ?_
    refine x_iconst C (v := (-1)) dX12_factOf_143 (by decide) rfl ?_
    exact x_zret C hr hlk rfl dX12_factOf_144 ⟨rfl, (Or.inl rfl)⟩
  have zs23 := sw_ne (by decide : (117 : Int32).toInt = 117) s23
  by_cases s24 : p0 = 118
  · refine x_tabIn C (tgt := 143) dX12_factOf_1 (by rw [s24]; decide) (by rw [s24]; decide) (by rw [s24]; rfl) (by decide) ?_
    refine x_iconst C (v := (-1)) dX12_factOf_143 (by decide) rfl ?_
    exact x_zret C hr hlk rfl dX12_factOf_144 ⟨rfl, (Or.inl rfl)⟩
  have zs24 := sw_ne (by decide : (118 : Int32).toInt = 118) s24
  by_cases s25 : p0 = 119
  · refine x_tabIn C (tgt := 118) dX12_factOf_1 (by rw [s25]; decide) (by rw [s25]; decide) (by rw [s25]; rfl) (by decide) ?_
    refine x_iconst C (v := 1) dX12_factOf_118 (by decide) rfl ?_
    exact x_zret C hr hlk rfl dX12_factOf_119 ⟨rfl, (Or.inr ⟨1, by omega, rfl, by rw [s25]; decide⟩)⟩
  have zs25 := sw_ne (by decide : (119 : Int32).toInt = 119) s25
  by_cases s26 : p0 = 120
  · refine x_tabIn C (tgt := 143) dX12_factOf_1 (by rw [s26]; decide) (by rw [s26]; decide) (by rw [s26]; rfl) (by decide) ?_
    refine x_iconst C (v := (-1)) dX12_factOf_143 (by decide) rfl ?_
    exact x_zret C hr hlk rfl dX12_factOf_144 ⟨rfl, (Or.inl rfl)⟩
  have zs26 := sw_ne (by decide : (120 : Int32).toInt = 120) s26
  have s27 : p0 = 121 := sw_last (n := 121) (by decide) s1 s2 (by omega)
  refine x_tabIn C (tgt := 120) dX12_factOf_1 (by rw [s27]; decide) (by rw [s27]; decide) (by rw [s27]; rfl) (by decide) ?_
  refine x_iconst C (v := 2) dX12_factOf_120 (by decide) rfl ?_
  exact x_zret C hr hlk rfl dX12_factOf_121 ⟨rfl, (Or.inr ⟨2, by omega, rfl, by rw [s27]; decide⟩)⟩
theorem dX12_sumSign_0 : decode cX12_sumSign 0 = .ok (.iload_n 0, 1) := by decide +kernel
theorem dX12_sumSign_1 : decode cX12_sumSign 1 = .ok (.bipush 43, 2) := by decide +kernel
theorem dX12_sumSign_3 : decode cX12_sumSign 3 = .ok (.if_icmp .ne 7, 3) := by decide +kernel
theorem dX12_sumSign_6 : decode cX12_sumSign 6 = .ok (.iconst 2, 1) := by decide +kernel
theorem dX12_sumSign_7 : decode cX12_sumSign 7 = .ok (.goto 45, 3) := by decide +kernel
theorem dX12_sumSign_10 : decode cX12_sumSign 10 = .ok (.iload_n 0, 1) := by decide +kernel
theorem dX12_sumSign_11 : decode cX12_sumSign 11 = .ok (.bipush 45, 2) := by decide +kernel
theorem dX12_sumSign_13 : decode cX12_sumSign 13 = .ok (.if_icmp .ne 7, 3) := by decide +kernel
theorem dX12_sumSign_16 : decode cX12_sumSign 16 = .ok (.iconst 3, 1) := by decide +kernel
theorem dX12_sumSign_17 : decode cX12_sumSign 17 = .ok (.goto 35, 3) := by decide +kernel
theorem dX12_sumSign_20 : decode cX12_sumSign 20 = .ok (.iload_n 0, 1) := by decide +kernel
theorem dX12_sumSign_21 : decode cX12_sumSign 21 = .ok (.bipush 42, 2) := by decide +kernel
theorem dX12_sumSign_23 : decode cX12_sumSign 23 = .ok (.if_icmp .ne 7, 3) := by decide +kernel
theorem dX12_sumSign_26 : decode cX12_sumSign 26 = .ok (.iconst 4, 1) := by decide +kernel
theorem dX12_sumSign_27 : decode cX12_sumSign 27 = .ok (.goto 25, 3) := by decide +kernel
theorem dX12_sumSign_30 : decode cX12_sumSign 30 = .ok (.iload_n 0, 1) := by decide +kernel
theorem dX12_sumSign_31 : decode cX12_sumSign 31 = .ok (.bipush 47, 2) := by decide +kernel
theorem dX12_sumSign_33 : decode cX12_sumSign 33 = .ok (.if_icmp .ne 7, 3) := by decide +kernel
theorem dX12_sumSign_36 : decode cX12_sumSign 36 = .ok (.iconst 5, 1) := by decide +kernel
theorem dX12_sumSign_37 : decode cX12_sumSign 37 = .ok (.goto 15, 3) := by decide +kernel
theorem dX12_sumSign_40 : decode cX12_sumSign 40 = .ok (.iload_n 0, 1) := by decide +kernel
theorem dX12_sumSign_41 : decode cX12_sumSign 41 = .ok (.bipush 37, 2) := by decide +kernel
theorem dX12_sumSign_43 : decode cX12_sumSign 43 = .ok (.if_icmp .ne 8, 3) := by decide +kernel
theorem dX12_sumSign_46 : decode cX12_sumSign 46 = .ok (.bipush 6, 2) := by decide +kernel
theorem dX12_sumSign_48 : decode cX12_sumSign 48 = .ok (.goto 4, 3) := by decide +kernel
theorem dX12_sumSign_51 : decode cX12_sumSign 51 = .ok (.iconst (-1), 1) := by decide +kernel
theorem dX12_sumSign_52 : decode cX12_sumSign 52 = .ok (.ireturn, 1) := by decide +kernel
set_option maxRecDepth 20000 in
set_option maxHeartbeats 4000000 in
theorem m_sumSign (E : xE) (l : Launch) (a : Nat → Nat) (cd : Cd) (hG : Good cd) (kf : Int32) (jn js jq : Lb) (ws : va_W) (hW : WX (okM E a cd kf jn js jq) ws) (p0 : Int32) : xI E l yX12_sumSign cX12_sumSign 1 (some .int) 0 [.int p0] ws (fun r w => w = ws ∧ (r = -1 ∨ ∃ n : Nat, (2 ≤ n ∧ n ≤ 6) ∧ r = nI n ∧ ¬ p0 = -1)) := by
  refine xI_start (lv := [(0, .int p0)]) RX12 (by decide) rfl (Nat.le_of_ble_eq_true rfl) rfl (fun p e s m below meth c A C hr hlk => ?_)
  refine x_iload_n C dX12_sumSign_0 rfl 0 rfl rfl ?_
  refine x_bipush C (v := 43) dX12_sumSign_1 (by decide) rfl ?_
  refine x_icmp_ne C (tgt := 10) dX12_sumSign_3 (by decide) rfl (fun c1 => ?_) (fun c1 => ?_)
  · skip
    refine x_iload_n C dX12_sumSign_10 rfl 0 rfl rfl ?_
    refine x_bipush C (v := 45) dX12_sumSign_11 (by decide) rfl ?_
    refine x_icmp_ne C (tgt := 20) dX12_sumSign_13 (by decide) rfl (fun c2 => ?_) (fun c2 => ?_)
    · skip
      refine x_iload_n C dX12_sumSign_20 rfl 0 rfl rfl ?_
      refine x_bipush C (v := 42) dX12_sumSign_21 (by decide) rfl ?_
      refine x_icmp_ne C (tgt := 30) dX12_sumSign_23 (by decide) rfl (fun c3 => ?_) (fun c3 => ?_)
      · skip
        refine x_iload_n C dX12_sumSign_30 rfl 0 rfl rfl ?_
        refine x_bipush C (v := 47) dX12_sumSign_31 (by decide) rfl ?_
        refine x_icmp_ne C (tgt := 40) dX12_sumSign_33 (by decide) rfl (fun c4 => ?_) (fun c4 => ?_)
        · skip
          refine x_iload_n C dX12_sumSign_40 rfl 0 rfl rfl ?_
          refine x_bipush C (v := 37) dX12_sumSign_41 (by decide) rfl ?_
          refine x_icmp_ne C (tgt := 51) dX12_sumSign_43 (by decide) rfl (fun c5 => ?_) (fun c5 => ?_)
          · skip
            refine x_iconst C (v := (-1)) dX12_sumSign_51 (by decide) rfl ?_
            exact x_zret C hr hlk rfl dX12_sumSign_52 ⟨rfl, (Or.inl rfl)⟩
          · skip
            refine x_bipush C (v := 6) dX12_sumSign_46 (by decide) rfl ?_
            refine x_goto C (tgt := 52) dX12_sumSign_48 (by decide) ?_
            exact x_zret C hr hlk rfl dX12_sumSign_52 ⟨rfl, (Or.inr ⟨6, by omega, rfl, by rw [c5]; decide⟩)⟩
        · skip
          refine x_iconst C (v := 5) dX12_sumSign_36 (by decide) rfl ?_
          refine x_goto C (tgt := 52) dX12_sumSign_37 (by decide) ?_
          exact x_zret C hr hlk rfl dX12_sumSign_52 ⟨rfl, (Or.inr ⟨5, by omega, rfl, by rw [c4]; decide⟩)⟩
      · skip
        refine x_iconst C (v := 4) dX12_sumSign_26 (by decide) rfl ?_
        refine x_goto C (tgt := 52) dX12_sumSign_27 (by decide) ?_
        exact x_zret C hr hlk rfl dX12_sumSign_52 ⟨rfl, (Or.inr ⟨4, by omega, rfl, by rw [c3]; decide⟩)⟩
    · skip
      refine x_iconst C (v := 3) dX12_sumSign_16 (by decide) rfl ?_
      refine x_goto C (tgt := 52) dX12_sumSign_17 (by decide) ?_
      exact x_zret C hr hlk rfl dX12_sumSign_52 ⟨rfl, (Or.inr ⟨3, by omega, rfl, by rw [c2]; decide⟩)⟩
  · skip
    refine x_iconst C (v := 2) dX12_sumSign_6 (by decide) rfl ?_
    refine x_goto C (tgt := 52) dX12_sumSign_7 (by decide) ?_
    exact x_zret C hr hlk rfl dX12_sumSign_52 ⟨rfl, (Or.inr ⟨2, by omega, rfl, by rw [c1]; decide⟩)⟩
set_option maxRecDepth 20000 in
set_option maxHeartbeats 4000000 in
theorem m_isDigitX (E : xE) (l : Launch) (a : Nat → Nat) (cd : Cd) (hG : Good cd) (kf : Int32) (jn js jq : Lb) (ws : va_W) (hW : WX (okM E a cd kf jn js jq) ws) (tp pl le cm wt sm lm : Nat) (nu : Int32) (h0 : MO a cd kf ws tp pl le cm wt sm lm nu) (tf : Nat → Int32) (htf : ws[4]? = some (bA E (a 4) 260 tf)) : xI E l yX12_isDigit cX12_isDigit 1 (some .boolean) 1 [.ref (a 0)] ws (fun r w => w = ws ∧ zb r ∧ ((¬ r = 0 ∧ ∃ d : Nat, d ≤ 9 ∧ hv tf pl le = nI (48 + d) ∧ pl < le) ∨ (r = 0 ∧ ∀ d : Nat, d ≤ 9 → ¬ hv tf pl le = nI (48 + d)))) := by
  refine xI_start (lv := [(0, .ref (a 0))]) RX12 (by decide) rfl (Nat.le_of_ble_eq_true rfl) rfl (fun p e s m below meth c A C hr hlk => ?_)
  obtain ⟨v1, v2, v3, v4, v5, v6, n7, n8, bo9, bo10, k11⟩ := h0
  refine x_aload_n C dX12_isDigit_0 rfl 0 rfl rfl ?_
  refine x_vi C (As := []) (rest := []) (m_here E l a cd hG kf jn js jq ws hW tp pl le cm wt sm lm nu ⟨v1, v2, v3, v4, v5, v6, n7, n8, ⟨by omega, by omega, by omega, by omega, by omega, by omega, by omega⟩, ⟨by omega, by omega⟩, k11⟩ tf htf) mf_X12_here w_1317 0 k11 rfl rfl rfl (Nat.le_of_ble_eq_true rfl) ⟨(Nat.le_of_ble_eq_true rfl), (Nat.le_of_ble_eq_true rfl)⟩ ⟨(Nat.le_of_ble_eq_true rfl), (Nat.le_of_ble_eq_true rfl)⟩ dX12_isDigit_1 rfl (fun r13 w14 h12 => ?_)
  obtain ⟨hW15, x16⟩ := h12
  refine x_ws hW15 ?_
  refine x_bipush C (v := 48) dX12_isDigit_4 (by decide) rfl ?_
  refine x_icmp_lt C (tgt := 22) dX12_isDigit_6 (by decide) rfl (fun c17 => ?_) (fun c17 => ?_)
  · skip
    refine x_iconst C (v := 0) dX12_isDigit_22 (by decide) rfl ?_
    exact x_zret C hr hlk rfl dX12_isDigit_23 ⟨rfl, (Or.inl rfl), (Or.inr ⟨rfl, hv_nd1 (by rw [← x16]; exact c17)⟩)⟩
  · skip
    refine x_aload_n C dX12_isDigit_9 rfl 0 rfl rfl ?_
    refine x_vi C (As := []) (rest := []) (m_here E l a cd hG kf jn js jq ws hW tp pl le cm wt sm lm nu ⟨v1, v2, v3, v4, v5, v6, n7, n8, ⟨by omega, by omega, by omega, by omega, by omega, by omega, by omega⟩, ⟨by omega, by omega⟩, k11⟩ tf htf) mf_X12_here w_1317 0 k11 rfl rfl rfl (Nat.le_of_ble_eq_true rfl) ⟨(Nat.le_of_ble_eq_true rfl), (Nat.le_of_ble_eq_true rfl)⟩ ⟨(Nat.le_of_ble_eq_true rfl), (Nat.le_of_ble_eq_true rfl)⟩ dX12_isDigit_10 rfl (fun r19 w20 h18 => ?_)
    obtain ⟨hW21, x22⟩ := h18
    refine x_ws hW21 ?_
    refine x_bipush C (v := 57) dX12_isDigit_13 (by decide) rfl ?_
    refine x_icmp_gt C (tgt := 22) dX12_isDigit_15 (by decide) rfl (fun c23 => ?_) (fun c23 => ?_)
    · skip
      refine x_iconst C (v := 0) dX12_isDigit_22 (by decide) rfl ?_
      exact x_zret C hr hlk rfl dX12_isDigit_23 ⟨rfl, (Or.inl rfl), (Or.inr ⟨rfl, hv_nd2 (by rw [← x22]; exact c23)⟩)⟩
    · skip
      refine x_iconst C (v := 1) dX12_isDigit_18 (by decide) rfl ?_
      refine x_goto C (tgt := 23) dX12_isDigit_19 (by decide) ?_
      exact x_zret C hr hlk rfl dX12_isDigit_23 ⟨rfl, (Or.inr rfl), (Or.inl ⟨by decide, hv_dig (fun q => c17 (by rw [x16]; exact q)) (fun q => c23 (by rw [x22]; exact q))⟩)⟩
theorem dX12_readsNumber_0 : decode cX12_readsNumber 0 = .ok (.aload_n 0, 1) := by decide +kernel
theorem dX12_readsNumber_1 : decode cX12_readsNumber 1 = .ok (.getfield 131, 3) := by decide +kernel
theorem dX12_readsNumber_4 : decode cX12_readsNumber 4 = .ok (.istore_n 1, 1) := by decide +kernel
theorem dX12_readsNumber_5 : decode cX12_readsNumber 5 = .ok (.aload_n 0, 1) := by decide +kernel
theorem dX12_readsNumber_6 : decode cX12_readsNumber 6 = .ok (.iconst 0, 1) := by decide +kernel
theorem dX12_readsNumber_7 : decode cX12_readsNumber 7 = .ok (.putfield 147, 3) := by decide +kernel
theorem dX12_readsNumber_10 : decode cX12_readsNumber 10 = .ok (.aload_n 0, 1) := by decide +kernel
theorem dX12_readsNumber_11 : decode cX12_readsNumber 11 = .ok (.invokevirtual 150, 3) := by decide +kernel
theorem dX12_readsNumber_14 : decode cX12_readsNumber 14 = .ok (.ifCond .eq 55, 3) := by decide +kernel
theorem dX12_readsNumber_17 : decode cX12_readsNumber 17 = .ok (.aload_n 0, 1) := by decide +kernel
theorem dX12_readsNumber_18 : decode cX12_readsNumber 18 = .ok (.getfield 131, 3) := by decide +kernel
theorem dX12_readsNumber_21 : decode cX12_readsNumber 21 = .ok (.iload_n 1, 1) := by decide +kernel
theorem dX12_readsNumber_22 : decode cX12_readsNumber 22 = .ok (.iconst 5, 1) := by decide +kernel
theorem dX12_readsNumber_23 : decode cX12_readsNumber 23 = .ok (.iadd, 1) := by decide +kernel
theorem dX12_readsNumber_24 : decode cX12_readsNumber 24 = .ok (.if_icmp .ne 13, 3) := by decide +kernel
theorem dX12_readsNumber_27 : decode cX12_readsNumber 27 = .ok (.aload_n 0, 1) := by decide +kernel
theorem dX12_readsNumber_28 : decode cX12_readsNumber 28 = .ok (.iconst 2, 1) := by decide +kernel
theorem dX12_readsNumber_29 : decode cX12_readsNumber 29 = .ok (.aload_n 0, 1) := by decide +kernel
theorem dX12_readsNumber_30 : decode cX12_readsNumber 30 = .ok (.getfield 131, 3) := by decide +kernel
theorem dX12_readsNumber_33 : decode cX12_readsNumber 33 = .ok (.invokevirtual 144, 3) := by decide +kernel
theorem dX12_readsNumber_36 : decode cX12_readsNumber 36 = .ok (.ireturn, 1) := by decide +kernel
theorem dX12_readsNumber_37 : decode cX12_readsNumber 37 = .ok (.aload_n 0, 1) := by decide +kernel
theorem dX12_readsNumber_38 : decode cX12_readsNumber 38 = .ok (.bipush 10, 2) := by decide +kernel
theorem dX12_readsNumber_40 : decode cX12_readsNumber 40 = .ok (.aload_n 0, 1) := by decide +kernel
theorem dX12_readsNumber_41 : decode cX12_readsNumber 41 = .ok (.getfield 147, 3) := by decide +kernel
theorem dX12_readsNumber_44 : decode cX12_readsNumber 44 = .ok (.imul, 1) := by decide +kernel
theorem dX12_readsNumber_45 : decode cX12_readsNumber 45 = .ok (.aload_n 0, 1) := by decide +kernel
theorem dX12_readsNumber_46 : decode cX12_readsNumber 46 = .ok (.invokevirtual 137, 3) := by decide +kernel
theorem dX12_readsNumber_49 : decode cX12_readsNumber 49 = .ok (.iadd, 1) := by decide +kernel
theorem dX12_readsNumber_50 : decode cX12_readsNumber 50 = .ok (.bipush 48, 2) := by decide +kernel
theorem dX12_readsNumber_52 : decode cX12_readsNumber 52 = .ok (.isub, 1) := by decide +kernel
theorem dX12_readsNumber_53 : decode cX12_readsNumber 53 = .ok (.putfield 147, 3) := by decide +kernel
theorem dX12_readsNumber_56 : decode cX12_readsNumber 56 = .ok (.aload_n 0, 1) := by decide +kernel
theorem dX12_readsNumber_57 : decode cX12_readsNumber 57 = .ok (.aload_n 0, 1) := by decide +kernel
theorem dX12_readsNumber_58 : decode cX12_readsNumber 58 = .ok (.getfield 131, 3) := by decide +kernel
theorem dX12_readsNumber_61 : decode cX12_readsNumber 61 = .ok (.iconst 1, 1) := by decide +kernel
theorem dX12_readsNumber_62 : decode cX12_readsNumber 62 = .ok (.iadd, 1) := by decide +kernel
theorem dX12_readsNumber_63 : decode cX12_readsNumber 63 = .ok (.putfield 131, 3) := by decide +kernel
theorem dX12_readsNumber_66 : decode cX12_readsNumber 66 = .ok (.goto (-56), 3) := by decide +kernel
theorem dX12_readsNumber_69 : decode cX12_readsNumber 69 = .ok (.iconst 1, 1) := by decide +kernel
theorem dX12_readsNumber_70 : decode cX12_readsNumber 70 = .ok (.ireturn, 1) := by decide +kernel
set_option maxRecDepth 20000 in
set_option maxHeartbeats 4000000 in
theorem m_readsNumber (E : xE) (l : Launch) (a : Nat → Nat) (cd : Cd) (hG : Good cd) (kf : Int32) (jn js jq : Lb) (ws : va_W) (hW : WX (okM E a cd kf jn js jq) ws) (tp pl le cm wt sm lm : Nat) (nu : Int32) (h0 : MO a cd kf ws tp pl le cm wt sm lm nu) (tf : Nat → Int32) (htf : ws[4]? = some (bA E (a 4) 260 tf)) (hpl : pl ≤ le) (d0 : Nat) (hd0 : d0 ≤ 9) (hdg : hv tf pl le = nI (48 + d0)) : xI E l yX12_readsNumber cX12_readsNumber 2 (some .boolean) 2 [.ref (a 0)] ws (fun r w => WX (okM E a cd kf jn js jq) w ∧ keeps ws w (fun q => q = 0) ∧ zb r ∧ ((r = 0 ∧ ∃ (pl2 : Nat) (nu2 : Int32), pl2 ≤ le ∧ MO a cd kf w tp pl2 le cm wt sm lm nu2) ∨ (r = 1 ∧ ∃ pl2 n : Nat, pl < pl2 ∧ pl2 ≤ le ∧ n ≤ 99999 ∧ MO a cd kf w tp pl2 le cm wt sm lm (nI n)))) := by
  refine xI_start (lv := [(0, .ref (a 0))]) RX12 (by decide) rfl (Nat.le_of_ble_eq_true rfl) rfl (fun p e s m below meth c A C hr hlk => ?_)
  have kp0 : keeps ws ws (fun q => q = 0) := keeps_rf
  obtain ⟨v1, v2, v3, v4, v5, v6, n7, n8, bo9, bo10, k11⟩ := h0
  refine x_aload_n C dX12_readsNumber_0 rfl 0 rfl rfl ?_
  refine x_get C (ci := 11) (k := 5) 0 k11 rfl in_X12 (by decide) w_1123 rfl dX12_readsNumber_1 rfl ?_
  refine x_istore_n C (lv' := [(1, .int (nI pl)), (0, .ref (a 0))]) dX12_readsNumber_4 rfl (by decide) rfl rfl ?_
  refine x_aload_n C dX12_readsNumber_5 rfl 1 rfl rfl ?_
  refine x_iconst C (v := 0) dX12_readsNumber_6 (by decide) rfl ?_
  obtain ⟨w12, hw13⟩ : ∃ w : va_W, w = List.set ws 0 (ob (a 0) 11 [.ref (a 1), .ref (a 2), .ref (a 3), .ref (a 4), .int (nI tp), .int (nI pl), .int (nI le), .int v1, .int 0, .int v2, .int (nI cm), .int (nI wt), .int (nI sm), .int (nI (cd.2.2.2.2.2)), .ref (a 5), .ref (a 6), .ref (a 7), .ref (a 8), .ref (a 9), .ref (a 10), .ref (a 11), .ref (a 12), .ref (a 13), .ref (a 14), .ref (a 15), .ref (a 16), .ref (a 17), .int (nI lm), .ref (a 18), .ref (a 19), .ref (a 20), .ref (a 21), .int v3, .int v4, .int v5, .int v6, .int (nI n7), .int (nI n8), .ref (a 22), .ref (a 23), .ref (a 24), .ref (a 25), .ref (a 26), .ref (a 27), .ref (a 28), .ref (a 29), .ref (a 30), .int kf]) := ⟨_, rfl⟩
  refine x_put C (ci := 11) (k := 8) (ty := .int) 0 k11 rfl in_X12 tyX12 tyX12_ok nmX12 (by decide) w_1126 rfl rfl rfl rfl (Nat.le_of_ble_eq_true rfl) hw13.symm dX12_readsNumber_7 rfl ?_
  have hW14 : WX (okM E a cd kf jn js jq) w12 := by rw [hw13]; exact hW.set (k := 0) rfl ⟨tp, pl, le, v1, (0 : Int32), v2, cm, wt, sm, lm, v3, v4, v5, v6, n7, n8, by omega, by omega, by omega, by omega, by omega, by omega, by omega, by omega, by omega, rfl⟩
  have k15 : w12[0]? = some (ob (a 0) 11 [.ref (a 1), .ref (a 2), .ref (a 3), .ref (a 4), .int (nI tp), .int (nI pl), .int (nI le), .int v1, .int 0, .int v2, .int (nI cm), .int (nI wt), .int (nI sm), .int (nI (cd.2.2.2.2.2)), .ref (a 5), .ref (a 6), .ref (a 7), .ref (a 8), .ref (a 9), .ref (a 10), .ref (a 11), .ref (a 12), .ref (a 13), .ref (a 14), .ref (a 15), .ref (a 16), .ref (a 17), .int (nI lm), .ref (a 18), .ref (a 19), .ref (a 20), .ref (a 21), .int v3, .int v4, .int v5, .int v6, .int (nI n7), .int (nI n8), .ref (a 22), .ref (a 23), .ref (a 24), .ref (a 25), .ref (a 26), .ref (a 27), .ref (a 28), .ref (a 29), .ref (a 30), .int kf]) := by rw [hw13]; exact set_eq k11
  have k16 : w12[4]? = some (bA E (a 4) 260 tf) := by rw [hw13]; exact set_ne htf (by decide)
  have kp17 := keeps_set kp0 hw13 (by first | exact rfl | decide | omega | (dsimp only; omega))
  have loop10 : ∀ (fu10 : Nat) (px : Nat) (nm : Nat) (wl10 : va_W), WX (okM E a cd kf jn js jq) wl10 → pl + 5 - px < fu10 → MO a cd kf wl10 tp px le cm wt sm lm (nI nm) → wl10[4]? = some (bA E (a 4) 260 tf) → (px = pl + 0 ∧ nm ≤ 0) ∨ (px = pl + 1 ∧ nm ≤ 9) ∨ (px = pl + 2 ∧ nm ≤ 99) ∨ (px = pl + 3 ∧ nm ≤ 999) ∨ (px = pl + 4 ∧ nm ≤ 9999) ∨ (px = pl + 5 ∧ nm ≤ 99999) → px ≤ le → keeps ws wl10 (fun q => q = 0) → X E p l e (xRm 2 0 0) s m ([.ref (a 0)] : List Value).toArray below meth c A 2 0 0 (MQ below (va_Qi (fun r w => WX (okM E a cd kf jn js jq) w ∧ keeps ws w (fun q => q = 0) ∧ zb r ∧ ((r = 0 ∧ ∃ (pl2 : Nat) (nu2 : Int32), pl2 ≤ le ∧ MO a cd kf w tp pl2 le cm wt sm lm nu2) ∨ (r = 1 ∧ ∃ pl2 n : Nat, pl < pl2 ∧ pl2 ≤ le ∧ n ≤ 99999 ∧ MO a cd kf w tp pl2 le cm wt sm lm (nI n)))) (xB E A) A) ([.ref (a 0)] : List Value).toArray s 0 0 A) wl10 10 [(0, .ref (a 0)), (1, .int (nI pl))] [] := by
    intro fu10
    induction fu10 with
    | zero => intro px nm wl10 _ q; omega
    | succ fu10 ih10 =>
      intro px nm wl10 hWl10 me10 iv10_0 iv10_1 iv10_2 iv10_3 kq10
      obtain ⟨v18, v19, v20, v21, v22, v23, n24, n25, bo26, bo27, k28⟩ := iv10_0
      refine x_aload_n C dX12_readsNumber_10 rfl 0 rfl rfl ?_
      refine x_vi C (As := []) (rest := []) (m_isDigitX E l a cd hG kf jn js jq wl10 hWl10 tp px le cm wt sm lm ((nI nm)) ⟨v18, v19, v20, v21, v22, v23, n24, n25, ⟨by omega, by omega, by omega, by omega, by omega, by omega, by omega⟩, ⟨by omega, by omega⟩, k28⟩ tf iv10_1) mf_X12_isDigit w_1341 0 k28 rfl rfl rfl (Nat.le_of_ble_eq_true rfl) ⟨(Nat.le_of_ble_eq_true rfl), (Nat.le_of_ble_eq_true rfl)⟩ ⟨(Nat.le_of_ble_eq_true rfl), (Nat.le_of_ble_eq_true rfl)⟩ dX12_readsNumber_11 rfl (fun r30 w31 h29 => ?_)
      obtain ⟨hW32, zb33, x34⟩ := h29
      refine x_ws hW32 ?_
      rcases x34 with ⟨hn35, d36, hd37, ed38, hp39⟩ | ⟨e40, hno41⟩
      · skip
        refine x_if_eq C (tgt := 69) dX12_readsNumber_14 (by decide) rfl (fun h => absurd h hn35) (fun _ => ?_)
        refine x_aload_n C dX12_readsNumber_17 rfl 0 rfl rfl ?_
        refine x_get C (ci := 11) (k := 5) 0 k28 rfl in_X12 (by decide) w_1123 rfl dX12_readsNumber_18 rfl ?_
        refine x_iload_n C dX12_readsNumber_21 rfl 1 rfl rfl ?_
        refine x_iconst C (v := 5) dX12_readsNumber_22 (by decide) rfl ?_
        refine x_iadd C (v := (nI (pl + 5))) dX12_readsNumber_23 (nI_add pl 5) rfl ?_
        refine x_icmp_ne C (tgt := 37) dX12_readsNumber_24 (by decide) rfl (fun c42 => ?_) (fun c42 => ?_)
        · skip
          have nf43 : ¬ px = pl + 5 := fun q => c42 (congrArg nI q)
          refine x_aload_n C dX12_readsNumber_37 rfl 0 rfl rfl ?_
          refine x_bipush C (v := 10) dX12_readsNumber_38 (by decide) rfl ?_
          refine x_aload_n C dX12_readsNumber_40 rfl 0 rfl rfl ?_
          refine x_get C (ci := 11) (k := 8) 0 k28 rfl in_X12 (by decide) w_1126 rfl dX12_readsNumber_41 rfl ?_
          refine x_imul C (v := (nI (10 * nm))) dX12_readsNumber_44 (pk_mul 10 nm) rfl ?_
          refine x_aload_n C dX12_readsNumber_45 rfl 0 rfl rfl ?_
          refine x_vi C (As := []) (rest := [.int (nI (10 * nm)), .ref (a 0)]) (m_here E l a cd hG kf jn js jq wl10 hWl10 tp px le cm wt sm lm ((nI nm)) ⟨v18, v19, v20, v21, v22, v23, n24, n25, ⟨by omega, by omega, by omega, by omega, by omega, by omega, by omega⟩, ⟨by omega, by omega⟩, k28⟩ tf iv10_1) mf_X12_here w_1317 0 k28 rfl rfl rfl (Nat.le_of_ble_eq_true rfl) ⟨(Nat.le_of_ble_eq_true rfl), (Nat.le_of_ble_eq_true rfl)⟩ ⟨(Nat.le_of_ble_eq_true rfl), (Nat.le_of_ble_eq_true rfl)⟩ dX12_readsNumber_46 rfl (fun r45 w46 h44 => ?_)
          obtain ⟨hW47, x48⟩ := h44
          refine x_ws hW47 ?_
          refine x_top (x48.trans ed38) ?_
          refine x_iadd C (v := (nI ((10 * nm) + (48 + d36)))) dX12_readsNumber_49 (nI_add (10 * nm) (48 + d36)) rfl ?_
          refine x_bipush C (v := 48) dX12_readsNumber_50 (by decide) rfl ?_
          refine x_isub C (v := (nI (((10 * nm) + (48 + d36)) - 48))) dX12_readsNumber_52 (pk_sub (a := ((10 * nm) + (48 + d36))) (b := 48) (by omega)) rfl ?_
          obtain ⟨w49, hw50⟩ : ∃ w : va_W, w = List.set wl10 0 (ob (a 0) 11 [.ref (a 1), .ref (a 2), .ref (a 3), .ref (a 4), .int (nI tp), .int (nI px), .int (nI le), .int v18, .int (nI (((10 * nm) + (48 + d36)) - 48)), .int v19, .int (nI cm), .int (nI wt), .int (nI sm), .int (nI (cd.2.2.2.2.2)), .ref (a 5), .ref (a 6), .ref (a 7), .ref (a 8), .ref (a 9), .ref (a 10), .ref (a 11), .ref (a 12), .ref (a 13), .ref (a 14), .ref (a 15), .ref (a 16), .ref (a 17), .int (nI lm), .ref (a 18), .ref (a 19), .ref (a 20), .ref (a 21), .int v20, .int v21, .int v22, .int v23, .int (nI n24), .int (nI n25), .ref (a 22), .ref (a 23), .ref (a 24), .ref (a 25), .ref (a 26), .ref (a 27), .ref (a 28), .ref (a 29), .ref (a 30), .int kf]) := ⟨_, rfl⟩
          refine x_put C (ci := 11) (k := 8) (ty := .int) 0 k28 rfl in_X12 tyX12 tyX12_ok nmX12 (by decide) w_1126 rfl rfl rfl rfl (Nat.le_of_ble_eq_true rfl) hw50.symm dX12_readsNumber_53 rfl ?_
          have hW51 : WX (okM E a cd kf jn js jq) w49 := by rw [hw50]; exact hWl10.set (k := 0) rfl ⟨tp, px, le, v18, (nI (((10 * nm) + (48 + d36)) - 48)), v19, cm, wt, sm, lm, v20, v21, v22, v23, n24, n25, by omega, by omega, by omega, by omega, by omega, by omega, by omega, by omega, by omega, rfl⟩
          have k52 : w49[0]? = some (ob (a 0) 11 [.ref (a 1), .ref (a 2), .ref (a 3), .ref (a 4), .int (nI tp), .int (nI px), .int (nI le), .int v18, .int (nI (((10 * nm) + (48 + d36)) - 48)), .int v19, .int (nI cm), .int (nI wt), .int (nI sm), .int (nI (cd.2.2.2.2.2)), .ref (a 5), .ref (a 6), .ref (a 7), .ref (a 8), .ref (a 9), .ref (a 10), .ref (a 11), .ref (a 12), .ref (a 13), .ref (a 14), .ref (a 15), .ref (a 16), .ref (a 17), .int (nI lm), .ref (a 18), .ref (a 19), .ref (a 20), .ref (a 21), .int v20, .int v21, .int v22, .int v23, .int (nI n24), .int (nI n25), .ref (a 22), .ref (a 23), .ref (a 24), .ref (a 25), .ref (a 26), .ref (a 27), .ref (a 28), .ref (a 29), .ref (a 30), .int kf]) := by rw [hw50]; exact set_eq k28
          have k53 : w49[4]? = some (bA E (a 4) 260 tf) := by rw [hw50]; exact set_ne iv10_1 (by decide)
          have kp54 := keeps_set kq10 hw50 (by first | exact rfl | decide | omega | (dsimp only; omega))
          refine x_aload_n C dX12_readsNumber_56 rfl 0 rfl rfl ?_
          refine x_aload_n C dX12_readsNumber_57 rfl 0 rfl rfl ?_
          refine x_get C (ci := 11) (k := 5) 0 k52 rfl in_X12 (by decide) w_1123 rfl dX12_readsNumber_58 rfl ?_
          refine x_iconst C (v := 1) dX12_readsNumber_61 (by decide) rfl ?_
          refine x_iadd C (v := (nI (px + 1))) dX12_readsNumber_62 (nI_add px 1) rfl ?_
          obtain ⟨w55, hw56⟩ : ∃ w : va_W, w = List.set w49 0 (ob (a 0) 11 [.ref (a 1), .ref (a 2), .ref (a 3), .ref (a 4), .int (nI tp), .int (nI (px + 1)), .int (nI le), .int v18, .int (nI (((10 * nm) + (48 + d36)) - 48)), .int v19, .int (nI cm), .int (nI wt), .int (nI sm), .int (nI (cd.2.2.2.2.2)), .ref (a 5), .ref (a 6), .ref (a 7), .ref (a 8), .ref (a 9), .ref (a 10), .ref (a 11), .ref (a 12), .ref (a 13), .ref (a 14), .ref (a 15), .ref (a 16), .ref (a 17), .int (nI lm), .ref (a 18), .ref (a 19), .ref (a 20), .ref (a 21), .int v20, .int v21, .int v22, .int v23, .int (nI n24), .int (nI n25), .ref (a 22), .ref (a 23), .ref (a 24), .ref (a 25), .ref (a 26), .ref (a 27), .ref (a 28), .ref (a 29), .ref (a 30), .int kf]) := ⟨_, rfl⟩
          refine x_put C (ci := 11) (k := 5) (ty := .int) 0 k52 rfl in_X12 tyX12 tyX12_ok nmX12 (by decide) w_1123 rfl rfl rfl rfl (Nat.le_of_ble_eq_true rfl) hw56.symm dX12_readsNumber_63 rfl ?_
          have hW57 : WX (okM E a cd kf jn js jq) w55 := by rw [hw56]; exact hW51.set (k := 0) rfl ⟨tp, (px + 1), le, v18, (nI (((10 * nm) + (48 + d36)) - 48)), v19, cm, wt, sm, lm, v20, v21, v22, v23, n24, n25, by omega, by omega, by omega, by omega, by omega, by omega, by omega, by omega, by omega, rfl⟩
          have k58 : w55[0]? = some (ob (a 0) 11 [.ref (a 1), .ref (a 2), .ref (a 3), .ref (a 4), .int (nI tp), .int (nI (px + 1)), .int (nI le), .int v18, .int (nI (((10 * nm) + (48 + d36)) - 48)), .int v19, .int (nI cm), .int (nI wt), .int (nI sm), .int (nI (cd.2.2.2.2.2)), .ref (a 5), .ref (a 6), .ref (a 7), .ref (a 8), .ref (a 9), .ref (a 10), .ref (a 11), .ref (a 12), .ref (a 13), .ref (a 14), .ref (a 15), .ref (a 16), .ref (a 17), .int (nI lm), .ref (a 18), .ref (a 19), .ref (a 20), .ref (a 21), .int v20, .int v21, .int v22, .int v23, .int (nI n24), .int (nI n25), .ref (a 22), .ref (a 23), .ref (a 24), .ref (a 25), .ref (a 26), .ref (a 27), .ref (a 28), .ref (a 29), .ref (a 30), .int kf]) := by rw [hw56]; exact set_eq k52
          have k59 : w55[4]? = some (bA E (a 4) 260 tf) := by rw [hw56]; exact set_ne k53 (by decide)
          have kp60 := keeps_set kp54 hw56 (by first | exact rfl | decide | omega | (dsimp only; omega))
          refine x_goto C (tgt := 10) dX12_readsNumber_66 (by decide) ?_
          refine x_lv (lv1 := [(0, .ref (a 0)), (1, .int (nI pl))]) [0, 1] rfl ?_
          exact ih10 (px + 1) (((10 * nm) + (48 + d36)) - 48) w55 hW57 (by omega) ⟨v18, v19, v20, v21, v22, v23, n24, n25, ⟨by omega, by omega, by omega, by omega, by omega, by omega, by omega⟩, ⟨by omega, by omega⟩, k58⟩ k59 (by omega) (by omega) kp60
        · skip
          have nf61 : px = pl + 5 := (nI_eq (by omega) (by omega)).mp c42
          refine x_aload_n C dX12_readsNumber_27 rfl 0 rfl rfl ?_
          refine x_iconst C (v := 2) dX12_readsNumber_28 (by decide) rfl ?_
          refine x_aload_n C dX12_readsNumber_29 rfl 0 rfl rfl ?_
          refine x_get C (ci := 11) (k := 5) 0 k28 rfl in_X12 (by decide) w_1123 rfl dX12_readsNumber_30 rfl ?_
          refine x_vi C (As := [.int 2, .int (nI px)]) (rest := []) (m_wrongAt E l a cd hG kf jn js jq wl10 hWl10 (2 : Int32) ((nI px)) tp px le cm wt sm lm ((nI nm)) ⟨v18, v19, v20, v21, v22, v23, n24, n25, ⟨by omega, by omega, by omega, by omega, by omega, by omega, by omega⟩, ⟨by omega, by omega⟩, k28⟩) mf_X12_wrongAt w_1324 0 k28 rfl rfl rfl (Nat.le_of_ble_eq_true rfl) ⟨(Nat.le_of_ble_eq_true rfl), (Nat.le_of_ble_eq_true rfl)⟩ ⟨(Nat.le_of_ble_eq_true rfl), (Nat.le_of_ble_eq_true rfl)⟩ dX12_readsNumber_33 rfl (fun r63 w64 h62 => ?_)
          obtain ⟨hW65, kq66, e67, x68⟩ := h62
          refine x_top e67 ?_
          have k69 : w64[4]? = some (bA E (a 4) 260 tf) := keeps_at kq66 iv10_1 (by first | decide | omega | (dsimp only; omega))
          have kp70 := keeps_tr kq10 kq66 (fun q hq => by first | omega | (dsimp only at *; omega))
          obtain ⟨v71, v72, v73, v74, v75, v76, n77, n78, bo79, bo80, k81⟩ := x68
          exact x_zret C hr hlk rfl dX12_readsNumber_36 ⟨hW65, kp70, (Or.inl rfl), (Or.inl ⟨rfl, px, ((nI nm)), by omega, ⟨v71, v72, v73, v74, v75, v76, n77, n78, ⟨by omega, by omega, by omega, by omega, by omega, by omega, by omega⟩, ⟨by omega, by omega⟩, k81⟩⟩)⟩
      · refine x_top e40 ?_
        refine x_if_eq C (tgt := 69) dX12_readsNumber_14 (by decide) rfl (fun _ => ?_) (fun h => absurd h (by decide))
        have hgt : pl < px := by
          rcases Nat.lt_or_ge pl px with q | q
          · exact q
          · have q9 : px = pl := by omega
            subst q9
            exact absurd hdg (hno41 d0 hd0)
        refine x_iconst C (v := 1) dX12_readsNumber_69 (by decide) rfl ?_
        exact x_zret C hr hlk rfl dX12_readsNumber_70 ⟨hWl10, kq10, (Or.inr rfl), (Or.inr ⟨rfl, px, nm, hgt, by omega, by omega, ⟨v18, v19, v20, v21, v22, v23, n24, n25, ⟨by omega, by omega, by omega, by omega, by omega, by omega, by omega⟩, ⟨by omega, by omega⟩, k28⟩⟩)⟩
  refine x_lv (lv1 := [(0, .ref (a 0)), (1, .int (nI pl))]) [1, 0] rfl ?_
  exact loop10 _ pl 0 w12 hW14 (Nat.lt_succ_self _) ⟨v1, v2, v3, v4, v5, v6, n7, n8, ⟨by omega, by omega, by omega, by omega, by omega, by omega, by omega⟩, ⟨by omega, by omega⟩, k15⟩ k16 (by omega) (by omega) kp17
theorem dX12_readsFactor_0 : decode cX12_readsFactor 0 = .ok (.aload_n 0, 1) := by decide +kernel
theorem dX12_readsFactor_1 : decode cX12_readsFactor 1 = .ok (.invokevirtual 137, 3) := by decide +kernel
theorem dX12_readsFactor_4 : decode cX12_readsFactor 4 = .ok (.bipush 91, 2) := by decide +kernel
theorem dX12_readsFactor_6 : decode cX12_readsFactor 6 = .ok (.if_icmp .ne 14, 3) := by decide +kernel
theorem dX12_readsFactor_9 : decode cX12_readsFactor 9 = .ok (.aload_n 0, 1) := by decide +kernel
theorem dX12_readsFactor_10 : decode cX12_readsFactor 10 = .ok (.bipush 14, 2) := by decide +kernel
theorem dX12_readsFactor_12 : decode cX12_readsFactor 12 = .ok (.invokevirtual 170, 3) := by decide +kernel
theorem dX12_readsFactor_15 : decode cX12_readsFactor 15 = .ok (.ifCond .ne (-15), 3) := by decide +kernel
theorem dX12_readsFactor_18 : decode cX12_readsFactor 18 = .ok (.iconst 0, 1) := by decide +kernel
theorem dX12_readsFactor_19 : decode cX12_readsFactor 19 = .ok (.ireturn, 1) := by decide +kernel
theorem dX12_readsFactor_20 : decode cX12_readsFactor 20 = .ok (.aload_n 0, 1) := by decide +kernel
theorem dX12_readsFactor_21 : decode cX12_readsFactor 21 = .ok (.invokevirtual 150, 3) := by decide +kernel
theorem dX12_readsFactor_24 : decode cX12_readsFactor 24 = .ok (.ifCond .eq 23, 3) := by decide +kernel
theorem dX12_readsFactor_27 : decode cX12_readsFactor 27 = .ok (.aload_n 0, 1) := by decide +kernel
theorem dX12_readsFactor_28 : decode cX12_readsFactor 28 = .ok (.invokevirtual 173, 3) := by decide +kernel
theorem dX12_readsFactor_31 : decode cX12_readsFactor 31 = .ok (.ifCond .ne 5, 3) := by decide +kernel
theorem dX12_readsFactor_34 : decode cX12_readsFactor 34 = .ok (.iconst 0, 1) := by decide +kernel
theorem dX12_readsFactor_35 : decode cX12_readsFactor 35 = .ok (.ireturn, 1) := by decide +kernel
theorem dX12_readsFactor_36 : decode cX12_readsFactor 36 = .ok (.aload_n 0, 1) := by decide +kernel
theorem dX12_readsFactor_37 : decode cX12_readsFactor 37 = .ok (.iconst 0, 1) := by decide +kernel
theorem dX12_readsFactor_38 : decode cX12_readsFactor 38 = .ok (.aload_n 0, 1) := by decide +kernel
theorem dX12_readsFactor_39 : decode cX12_readsFactor 39 = .ok (.getfield 147, 3) := by decide +kernel
theorem dX12_readsFactor_42 : decode cX12_readsFactor 42 = .ok (.invokevirtual 167, 3) := by decide +kernel
theorem dX12_readsFactor_45 : decode cX12_readsFactor 45 = .ok (.iconst 1, 1) := by decide +kernel
theorem dX12_readsFactor_46 : decode cX12_readsFactor 46 = .ok (.ireturn, 1) := by decide +kernel
theorem dX12_readsFactor_47 : decode cX12_readsFactor 47 = .ok (.aload_n 0, 1) := by decide +kernel
theorem dX12_readsFactor_48 : decode cX12_readsFactor 48 = .ok (.invokevirtual 137, 3) := by decide +kernel
theorem dX12_readsFactor_51 : decode cX12_readsFactor 51 = .ok (.invokestatic 176, 3) := by decide +kernel
theorem dX12_readsFactor_54 : decode cX12_readsFactor 54 = .ok (.istore_n 1, 1) := by decide +kernel
theorem dX12_readsFactor_55 : decode cX12_readsFactor 55 = .ok (.iload_n 1, 1) := by decide +kernel
theorem dX12_readsFactor_56 : decode cX12_readsFactor 56 = .ok (.iconst (-1), 1) := by decide +kernel
theorem dX12_readsFactor_57 : decode cX12_readsFactor 57 = .ok (.if_icmp .ne 13, 3) := by decide +kernel
theorem dX12_readsFactor_60 : decode cX12_readsFactor 60 = .ok (.aload_n 0, 1) := by decide +kernel
theorem dX12_readsFactor_61 : decode cX12_readsFactor 61 = .ok (.iconst 1, 1) := by decide +kernel
theorem dX12_readsFactor_62 : decode cX12_readsFactor 62 = .ok (.aload_n 0, 1) := by decide +kernel
theorem dX12_readsFactor_63 : decode cX12_readsFactor 63 = .ok (.getfield 131, 3) := by decide +kernel
theorem dX12_readsFactor_66 : decode cX12_readsFactor 66 = .ok (.invokevirtual 144, 3) := by decide +kernel
theorem dX12_readsFactor_69 : decode cX12_readsFactor 69 = .ok (.ireturn, 1) := by decide +kernel
theorem dX12_readsFactor_70 : decode cX12_readsFactor 70 = .ok (.aload_n 0, 1) := by decide +kernel
theorem dX12_readsFactor_71 : decode cX12_readsFactor 71 = .ok (.iconst 1, 1) := by decide +kernel
theorem dX12_readsFactor_72 : decode cX12_readsFactor 72 = .ok (.iload_n 1, 1) := by decide +kernel
theorem dX12_readsFactor_73 : decode cX12_readsFactor 73 = .ok (.invokevirtual 167, 3) := by decide +kernel
theorem dX12_readsFactor_76 : decode cX12_readsFactor 76 = .ok (.aload_n 0, 1) := by decide +kernel
theorem dX12_readsFactor_77 : decode cX12_readsFactor 77 = .ok (.aload_n 0, 1) := by decide +kernel
theorem dX12_readsFactor_78 : decode cX12_readsFactor 78 = .ok (.getfield 131, 3) := by decide +kernel
theorem dX12_readsFactor_81 : decode cX12_readsFactor 81 = .ok (.iconst 1, 1) := by decide +kernel
theorem dX12_readsFactor_82 : decode cX12_readsFactor 82 = .ok (.iadd, 1) := by decide +kernel
theorem dX12_readsFactor_83 : decode cX12_readsFactor 83 = .ok (.putfield 131, 3) := by decide +kernel
theorem dX12_readsFactor_86 : decode cX12_readsFactor 86 = .ok (.iconst 1, 1) := by decide +kernel
theorem dX12_readsFactor_87 : decode cX12_readsFactor 87 = .ok (.ireturn, 1) := by decide +kernel
set_option maxRecDepth 20000 in
set_option maxHeartbeats 4000000 in
theorem m_readsFactor (E : xE) (l : Launch) (a : Nat → Nat) (cd : Cd) (hG : Good cd) (kf : Int32) (jn js jq : Lb) (ws : va_W) (hW : WX (okM E a cd kf jn js jq) ws) (tp pl le cm wt sm lm : Nat) (nu : Int32) (h0 : MO a cd kf ws tp pl le cm wt sm lm nu) (tf : Nat → Int32) (htf : ws[4]? = some (bA E (a 4) 260 tf)) (hpl : pl ≤ le) (fs : Nat → Int32) (hfs : ws[5]? = some (iA E (a 5) 260 fs)) (fw : Nat → Int32) (hfw : ws[6]? = some (iA E (a 6) 260 fw)) (W : WL) (hwr : wR fw W wt) (c0 h : Nat) (hci : CI fs c0 cm h W) (hh : h ≤ 250) (sg : Nat) (hphi : cm + wgt W + sg ≤ pl) (hwp : wt ≤ pl) : xI E l yX12_readsFactor cX12_readsFactor 2 (some .boolean) 3 [.ref (a 0)] ws (fun r w => WX (okM E a cd kf jn js jq) w ∧ keeps ws w (fun q => q = 0 ∨ q = 5 ∨ q = 6) ∧ zb r ∧ ((r = 0 ∧ RF E a cd kf w tp le sm lm) ∨ (r = 1 ∧ ∃ (pl2 wt2 : Nat) (x : Int32) (fw2 : Nat → Int32) (Wn : WL), pl < pl2 ∧ pl2 ≤ le ∧ (∀ e ∈ Wn, e.1 = 14) ∧ wR fw2 (Wn ++ W) wt2 ∧ RS E a cd kf w tp pl2 le (cm + 1) wt2 sm lm (upd fs cm x) fw2 ∧ CI (upd fs cm x) c0 (cm + 1) (h + 1) (Wn ++ W) ∧ cm + 1 + wgt W + sg ≤ pl2 ∧ wt2 ≤ pl2))) := by
  refine xI_start (lv := [(0, .ref (a 0))]) RX12 (by decide) rfl (Nat.le_of_ble_eq_true rfl) rfl (fun p e s m below meth c A C hr hlk => ?_)
  have kp0 : keeps ws ws (fun q => q = 0 ∨ q = 5 ∨ q = 6) := keeps_rf
  obtain ⟨v1, v2, v3, v4, v5, v6, n7, n8, bo9, bo10, k11⟩ := h0
  have loop0 : ∀ (fu0 : Nat) (px : Nat) (wx : Nat) (nz : Int32) (gx : Nat → Int32) (Wn : WL) (wl0 : va_W), WX (okM E a cd kf jn js jq) wl0 → le - px < fu0 → MO a cd kf wl0 tp px le cm wx sm lm nz → wl0[4]? = some (bA E (a 4) 260 tf) → wl0[5]? = some (iA E (a 5) 260 fs) → wl0[6]? = some (iA E (a 6) 260 gx) → wR gx (Wn ++ W) wx → (∀ e ∈ Wn, e.1 = 14) → CI fs c0 cm h (Wn ++ W) → pl ≤ px ∧ px ≤ le ∧ wx ≤ px → keeps ws wl0 (fun q => q = 0 ∨ q = 5 ∨ q = 6) → X E p l e (xRm 3 0 0) s m ([.ref (a 0)] : List Value).toArray below meth c A 2 0 0 (MQ below (va_Qi (fun r w => WX (okM E a cd kf jn js jq) w ∧ keeps ws w (fun q => q = 0 ∨ q = 5 ∨ q = 6) ∧ zb r ∧ ((r = 0 ∧ RF E a cd kf w tp le sm lm) ∨ (r = 1 ∧ ∃ (pl2 wt2 : Nat) (x : Int32) (fw2 : Nat → Int32) (Wn : WL), pl < pl2 ∧ pl2 ≤ le ∧ (∀ e ∈ Wn, e.1 = 14) ∧ wR fw2 (Wn ++ W) wt2 ∧ RS E a cd kf w tp pl2 le (cm + 1) wt2 sm lm (upd fs cm x) fw2 ∧ CI (upd fs cm x) c0 (cm + 1) (h + 1) (Wn ++ W) ∧ cm + 1 + wgt W + sg ≤ pl2 ∧ wt2 ≤ pl2))) (xB E A) A) ([.ref (a 0)] : List Value).toArray s 0 0 A) wl0 0 [(0, .ref (a 0))] [] := by
    intro fu0
    induction fu0 with
    | zero => intro px wx nz gx Wn wl0 _ q; omega
    | succ fu0 ih0 =>
      intro px wx nz gx Wn wl0 hWl0 me0 iv0_0 iv0_1 iv0_2 iv0_3 iv0_4 iv0_5 iv0_6 iv0_7 kq0
      obtain ⟨v12, v13, v14, v15, v16, v17, n18, n19, bo20, bo21, k22⟩ := iv0_0
      refine x_aload_n C dX12_readsFactor_0 rfl 0 rfl rfl ?_
      refine x_vi C (As := []) (rest := []) (m_here E l a cd hG kf jn js jq wl0 hWl0 tp px le cm wx sm lm nz ⟨v12, v13, v14, v15, v16, v17, n18, n19, ⟨by omega, by omega, by omega, by omega, by omega, by omega, by omega⟩, ⟨by omega, by omega⟩, k22⟩ tf iv0_1) mf_X12_here w_1317 0 k22 rfl rfl rfl (Nat.le_of_ble_eq_true rfl) ⟨(Nat.le_of_ble_eq_true rfl), (Nat.le_of_ble_eq_true rfl)⟩ ⟨(Nat.le_of_ble_eq_true rfl), (Nat.le_of_ble_eq_true rfl)⟩ dX12_readsFactor_1 rfl (fun r24 w25 h23 => ?_)
      obtain ⟨hW26, x27⟩ := h23
      refine x_ws hW26 ?_
      refine x_bipush C (v := 91) dX12_readsFactor_4 (by decide) rfl ?_
      refine x_icmp_ne C (tgt := 20) dX12_readsFactor_6 (by decide) rfl (fun c28 => ?_) (fun c28 => ?_)
      · skip
        refine x_aload_n C dX12_readsFactor_20 rfl 0 rfl rfl ?_
        refine x_vi C (As := []) (rest := []) (m_isDigitX E l a cd hG kf jn js jq wl0 hWl0 tp px le cm wx sm lm nz ⟨v12, v13, v14, v15, v16, v17, n18, n19, ⟨by omega, by omega, by omega, by omega, by omega, by omega, by omega⟩, ⟨by omega, by omega⟩, k22⟩ tf iv0_1) mf_X12_isDigit w_1341 0 k22 rfl rfl rfl (Nat.le_of_ble_eq_true rfl) ⟨(Nat.le_of_ble_eq_true rfl), (Nat.le_of_ble_eq_true rfl)⟩ ⟨(Nat.le_of_ble_eq_true rfl), (Nat.le_of_ble_eq_true rfl)⟩ dX12_readsFactor_21 rfl (fun r30 w31 h29 => ?_)
        obtain ⟨hW32, zb33, x34⟩ := h29
        refine x_ws hW32 ?_
        rcases x34 with ⟨hn35, d36, hd37, ed38, hp39⟩ | ⟨e40, hno41⟩
        · skip
          refine x_if_eq C (tgt := 47) dX12_readsFactor_24 (by decide) rfl (fun h => absurd h hn35) (fun _ => ?_)
          refine x_aload_n C dX12_readsFactor_27 rfl 0 rfl rfl ?_
          refine x_vi C (As := []) (rest := []) (m_readsNumber E l a cd hG kf jn js jq wl0 hWl0 tp px le cm wx sm lm nz ⟨v12, v13, v14, v15, v16, v17, n18, n19, ⟨by omega, by omega, by omega, by omega, by omega, by omega, by omega⟩, ⟨by omega, by omega⟩, k22⟩ tf iv0_1 (by omega) d36 hd37 ed38) mf_X12_readsNumber w_1345 0 k22 rfl rfl rfl (Nat.le_of_ble_eq_true rfl) ⟨(Nat.le_of_ble_eq_true rfl), (Nat.le_of_ble_eq_true rfl)⟩ ⟨(Nat.le_of_ble_eq_true rfl), (Nat.le_of_ble_eq_true rfl)⟩ dX12_readsFactor_28 rfl (fun r43 w44 h42 => ?_)
          obtain ⟨hW45, kq46, zb47, x48⟩ := h42
          have k49 : w44[4]? = some (bA E (a 4) 260 tf) := keeps_at kq46 iv0_1 (by first | decide | omega | (dsimp only; omega))
          have k50 : w44[5]? = some (iA E (a 5) 260 fs) := keeps_at kq46 iv0_2 (by first | decide | omega | (dsimp only; omega))
          have k51 : w44[6]? = some (iA E (a 6) 260 gx) := keeps_at kq46 iv0_3 (by first | decide | omega | (dsimp only; omega))
          have kp52 := keeps_tr kq0 kq46 (fun q hq => by first | omega | (dsimp only at *; omega))
          rcases x48 with ⟨e53, pl54, nu55, hp56, mo57⟩ | ⟨e58, pl59, n60, hp61, hp62, hp63, mo64⟩
          · refine x_top e53 ?_
            obtain ⟨v65, v66, v67, v68, v69, v70, n71, n72, bo73, bo74, k75⟩ := mo57
            refine x_if_ne C (tgt := 36) dX12_readsFactor_31 (by decide) rfl (fun h => absurd h (by decide)) (fun _ => ?_)
            refine x_iconst C (v := 0) dX12_readsFactor_34 (by decide) rfl ?_
            exact x_zret C hr hlk rfl dX12_readsFactor_35 ⟨hW45, kp52, (Or.inl rfl), (Or.inl ⟨rfl, ⟨pl54, cm, wx, _, _, ⟨⟨_, ⟨v65, v66, v67, v68, v69, v70, n71, n72, ⟨by omega, by omega, by omega, by omega, by omega, by omega, by omega⟩, ⟨by omega, by omega⟩, k75⟩⟩, k50, k51⟩⟩⟩)⟩
          · refine x_top e58 ?_
            obtain ⟨v76, v77, v78, v79, v80, v81, n82, n83, bo84, bo85, k86⟩ := mo64
            refine x_if_ne C (tgt := 36) dX12_readsFactor_31 (by decide) rfl (fun _ => ?_) (fun h => absurd h (by decide))
            refine x_aload_n C dX12_readsFactor_36 rfl 0 rfl rfl ?_
            refine x_iconst C (v := 0) dX12_readsFactor_37 (by decide) rfl ?_
            refine x_aload_n C dX12_readsFactor_38 rfl 0 rfl rfl ?_
            refine x_get C (ci := 11) (k := 8) 0 k86 rfl in_X12 (by decide) w_1126 rfl dX12_readsFactor_39 rfl ?_
            refine x_vv C (As := [.int 0, .int (nI n60)]) (rest := []) (m_notes E l a cd hG kf jn js jq w44 hW45 0 n60 (by omega) (by omega) tp pl59 le cm wx sm lm ((nI n60)) ⟨v76, v77, v78, v79, v80, v81, n82, n83, ⟨by omega, by omega, by omega, by omega, by omega, by omega, by omega⟩, ⟨by omega, by omega⟩, k86⟩ fs k50 (by omega)) mf_X12_notes w_1349 0 k86 rfl rfl rfl (Nat.le_of_ble_eq_true rfl) ⟨(Nat.le_of_ble_eq_true rfl), (Nat.le_of_ble_eq_true rfl)⟩ ⟨(Nat.le_of_ble_eq_true rfl), (Nat.le_of_ble_eq_true rfl)⟩ dX12_readsFactor_42 rfl (fun w89 h87 => ?_)
            obtain ⟨hW90, kq91, x92⟩ := h87
            have k93 : w89[4]? = some (bA E (a 4) 260 tf) := keeps_at kq91 k49 (by first | decide | omega | (dsimp only; omega))
            have k94 : w89[6]? = some (iA E (a 6) 260 gx) := keeps_at kq91 k51 (by first | decide | omega | (dsimp only; omega))
            have kp95 := keeps_tr kp52 kq91 (fun q hq => by first | omega | (dsimp only at *; omega))
            obtain ⟨mo96, k97⟩ := x92
            obtain ⟨v98, v99, v100, v101, v102, v103, n104, n105, bo106, bo107, k108⟩ := mo96
            have ci109 := CI_note (op := 0) (v := n60) (h' := h + 1) iv0_6 (by omega) (by omega) (by omega) (Or.inl ⟨rfl, rfl⟩)
            refine x_iconst C (v := 1) dX12_readsFactor_45 (by decide) rfl ?_
            exact x_zret C hr hlk rfl dX12_readsFactor_46 ⟨hW90, kp95, (Or.inr rfl), (Or.inr ⟨rfl, pl59, wx, (nI (1048576 * 0 + n60)), _, Wn, by omega, by omega, iv0_5, iv0_4, ⟨⟨_, ⟨v98, v99, v100, v101, v102, v103, n104, n105, ⟨by omega, by omega, by omega, by omega, by omega, by omega, by omega⟩, ⟨by omega, by omega⟩, k108⟩⟩, k97, k94⟩, ci109, by omega, by omega⟩)⟩
        · refine x_top e40 ?_
          refine x_if_eq C (tgt := 47) dX12_readsFactor_24 (by decide) rfl (fun _ => ?_) (fun h => absurd h (by decide))
          refine x_aload_n C dX12_readsFactor_47 rfl 0 rfl rfl ?_
          refine x_vi C (As := []) (rest := []) (m_here E l a cd hG kf jn js jq wl0 hWl0 tp px le cm wx sm lm nz ⟨v12, v13, v14, v15, v16, v17, n18, n19, ⟨by omega, by omega, by omega, by omega, by omega, by omega, by omega⟩, ⟨by omega, by omega⟩, k22⟩ tf iv0_1) mf_X12_here w_1317 0 k22 rfl rfl rfl (Nat.le_of_ble_eq_true rfl) ⟨(Nat.le_of_ble_eq_true rfl), (Nat.le_of_ble_eq_true rfl)⟩ ⟨(Nat.le_of_ble_eq_true rfl), (Nat.le_of_ble_eq_true rfl)⟩ dX12_readsFactor_48 rfl (fun r111 w112 h110 => ?_)
          obtain ⟨hW113, x114⟩ := h110
          refine x_ws hW113 ?_
          refine x_si C (As := [.int r111]) (rest := []) (m_factOf E l a cd hG kf jn js jq wl0 hWl0 r111) mf_X12_factOf w_1353 rfl rfl (Nat.le_of_ble_eq_true rfl) ⟨(Nat.le_of_ble_eq_true rfl), (Nat.le_of_ble_eq_true rfl)⟩ ⟨(Nat.le_of_ble_eq_true rfl), (Nat.le_of_ble_eq_true rfl)⟩ dX12_readsFactor_51 rfl (fun r116 w117 h115 => ?_)
          obtain ⟨hW118, x119⟩ := h115
          refine x_ws hW118 ?_
          rcases x119 with e120 | ⟨n121, hn122, en123, hm124⟩
          · refine x_top e120 ?_
            refine x_istore_n C (lv' := [(1, .int (-1)), (0, .ref (a 0))]) dX12_readsFactor_54 rfl (by decide) rfl rfl ?_
            refine x_iload_n C dX12_readsFactor_55 rfl 0 rfl rfl ?_
            refine x_iconst C (v := (-1)) dX12_readsFactor_56 (by decide) rfl ?_
            refine x_icmp_ne C (tgt := 70) dX12_readsFactor_57 (by decide) rfl (fun h => absurd h (by decide)) (fun _ => ?_)
            refine x_aload_n C dX12_readsFactor_60 rfl 1 rfl rfl ?_
            refine x_iconst C (v := 1) dX12_readsFactor_61 (by decide) rfl ?_
            refine x_aload_n C dX12_readsFactor_62 rfl 1 rfl rfl ?_
            refine x_get C (ci := 11) (k := 5) 0 k22 rfl in_X12 (by decide) w_1123 rfl dX12_readsFactor_63 rfl ?_
            refine x_vi C (As := [.int 1, .int (nI px)]) (rest := []) (m_wrongAt E l a cd hG kf jn js jq wl0 hWl0 (1 : Int32) ((nI px)) tp px le cm wx sm lm nz ⟨v12, v13, v14, v15, v16, v17, n18, n19, ⟨by omega, by omega, by omega, by omega, by omega, by omega, by omega⟩, ⟨by omega, by omega⟩, k22⟩) mf_X12_wrongAt w_1324 0 k22 rfl rfl rfl (Nat.le_of_ble_eq_true rfl) ⟨(Nat.le_of_ble_eq_true rfl), (Nat.le_of_ble_eq_true rfl)⟩ ⟨(Nat.le_of_ble_eq_true rfl), (Nat.le_of_ble_eq_true rfl)⟩ dX12_readsFactor_66 rfl (fun r126 w127 h125 => ?_)
            obtain ⟨hW128, kq129, e130, x131⟩ := h125
            refine x_top e130 ?_
            have k132 : w127[4]? = some (bA E (a 4) 260 tf) := keeps_at kq129 iv0_1 (by first | decide | omega | (dsimp only; omega))
            have k133 : w127[5]? = some (iA E (a 5) 260 fs) := keeps_at kq129 iv0_2 (by first | decide | omega | (dsimp only; omega))
            have k134 : w127[6]? = some (iA E (a 6) 260 gx) := keeps_at kq129 iv0_3 (by first | decide | omega | (dsimp only; omega))
            have kp135 := keeps_tr kq0 kq129 (fun q hq => by first | omega | (dsimp only at *; omega))
            obtain ⟨v136, v137, v138, v139, v140, v141, n142, n143, bo144, bo145, k146⟩ := x131
            exact x_zret C hr hlk rfl dX12_readsFactor_69 ⟨hW128, kp135, (Or.inl rfl), (Or.inl ⟨rfl, ⟨px, cm, wx, _, _, ⟨⟨_, ⟨v136, v137, v138, v139, v140, v141, n142, n143, ⟨by omega, by omega, by omega, by omega, by omega, by omega, by omega⟩, ⟨by omega, by omega⟩, k146⟩⟩, k133, k134⟩⟩⟩)⟩
          · refine x_top en123 ?_
            have hp147 := hv_lt (x114.symm) hm124
            refine x_istore_n C (lv' := [(1, .int (nI n121)), (0, .ref (a 0))]) dX12_readsFactor_54 rfl (by decide) rfl rfl ?_
            refine x_iload_n C dX12_readsFactor_55 rfl 0 rfl rfl ?_
            refine x_iconst C (v := (-1)) dX12_readsFactor_56 (by decide) rfl ?_
            refine x_icmp_ne C (tgt := 70) dX12_readsFactor_57 (by decide) rfl (fun c148 => ?_) (fun c148 => ?_)
            · skip
              refine x_aload_n C dX12_readsFactor_70 rfl 1 rfl rfl ?_
              refine x_iconst C (v := 1) dX12_readsFactor_71 (by decide) rfl ?_
              refine x_iload_n C dX12_readsFactor_72 rfl 0 rfl rfl ?_
              refine x_vv C (As := [.int 1, .int (nI n121)]) (rest := []) (m_notes E l a cd hG kf jn js jq wl0 hWl0 1 n121 (by omega) (by omega) tp px le cm wx sm lm nz ⟨v12, v13, v14, v15, v16, v17, n18, n19, ⟨by omega, by omega, by omega, by omega, by omega, by omega, by omega⟩, ⟨by omega, by omega⟩, k22⟩ fs iv0_2 (by omega)) mf_X12_notes w_1349 0 k22 rfl rfl rfl (Nat.le_of_ble_eq_true rfl) ⟨(Nat.le_of_ble_eq_true rfl), (Nat.le_of_ble_eq_true rfl)⟩ ⟨(Nat.le_of_ble_eq_true rfl), (Nat.le_of_ble_eq_true rfl)⟩ dX12_readsFactor_73 rfl (fun w151 h149 => ?_)
              obtain ⟨hW152, kq153, x154⟩ := h149
              have k155 : w151[4]? = some (bA E (a 4) 260 tf) := keeps_at kq153 iv0_1 (by first | decide | omega | (dsimp only; omega))
              have k156 : w151[6]? = some (iA E (a 6) 260 gx) := keeps_at kq153 iv0_3 (by first | decide | omega | (dsimp only; omega))
              have kp157 := keeps_tr kq0 kq153 (fun q hq => by first | omega | (dsimp only at *; omega))
              obtain ⟨mo158, k159⟩ := x154
              obtain ⟨v160, v161, v162, v163, v164, v165, n166, n167, bo168, bo169, k170⟩ := mo158
              have ci171 := CI_note (op := 1) (v := n121) (h' := h + 1) iv0_6 (by omega) (by omega) (by omega) (Or.inr (Or.inl ⟨rfl, by omega, rfl⟩))
              refine x_aload_n C dX12_readsFactor_76 rfl 1 rfl rfl ?_
              refine x_aload_n C dX12_readsFactor_77 rfl 1 rfl rfl ?_
              refine x_get C (ci := 11) (k := 5) 0 k170 rfl in_X12 (by decide) w_1123 rfl dX12_readsFactor_78 rfl ?_
              refine x_iconst C (v := 1) dX12_readsFactor_81 (by decide) rfl ?_
              refine x_iadd C (v := (nI (px + 1))) dX12_readsFactor_82 (nI_add px 1) rfl ?_
              obtain ⟨w172, hw173⟩ : ∃ w : va_W, w = List.set w151 0 (ob (a 0) 11 [.ref (a 1), .ref (a 2), .ref (a 3), .ref (a 4), .int (nI tp), .int (nI (px + 1)), .int (nI le), .int v160, .int nz, .int v161, .int (nI (cm + 1)), .int (nI wx), .int (nI sm), .int (nI (cd.2.2.2.2.2)), .ref (a 5), .ref (a 6), .ref (a 7), .ref (a 8), .ref (a 9), .ref (a 10), .ref (a 11), .ref (a 12), .ref (a 13), .ref (a 14), .ref (a 15), .ref (a 16), .ref (a 17), .int (nI lm), .ref (a 18), .ref (a 19), .ref (a 20), .ref (a 21), .int v162, .int v163, .int v164, .int v165, .int (nI n166), .int (nI n167), .ref (a 22), .ref (a 23), .ref (a 24), .ref (a 25), .ref (a 26), .ref (a 27), .ref (a 28), .ref (a 29), .ref (a 30), .int kf]) := ⟨_, rfl⟩
              refine x_put C (ci := 11) (k := 5) (ty := .int) 0 k170 rfl in_X12 tyX12 tyX12_ok nmX12 (by decide) w_1123 rfl rfl rfl rfl (Nat.le_of_ble_eq_true rfl) hw173.symm dX12_readsFactor_83 rfl ?_
              have hW174 : WX (okM E a cd kf jn js jq) w172 := by rw [hw173]; exact hW152.set (k := 0) rfl ⟨tp, (px + 1), le, v160, nz, v161, (cm + 1), wx, sm, lm, v162, v163, v164, v165, n166, n167, by omega, by omega, by omega, by omega, by omega, by omega, by omega, by omega, by omega, rfl⟩
              have k175 : w172[4]? = some (bA E (a 4) 260 tf) := by rw [hw173]; exact set_ne k155 (by decide)
              have k176 : w172[6]? = some (iA E (a 6) 260 gx) := by rw [hw173]; exact set_ne k156 (by decide)
              have k177 : w172[0]? = some (ob (a 0) 11 [.ref (a 1), .ref (a 2), .ref (a 3), .ref (a 4), .int (nI tp), .int (nI (px + 1)), .int (nI le), .int v160, .int nz, .int v161, .int (nI (cm + 1)), .int (nI wx), .int (nI sm), .int (nI (cd.2.2.2.2.2)), .ref (a 5), .ref (a 6), .ref (a 7), .ref (a 8), .ref (a 9), .ref (a 10), .ref (a 11), .ref (a 12), .ref (a 13), .ref (a 14), .ref (a 15), .ref (a 16), .ref (a 17), .int (nI lm), .ref (a 18), .ref (a 19), .ref (a 20), .ref (a 21), .int v162, .int v163, .int v164, .int v165, .int (nI n166), .int (nI n167), .ref (a 22), .ref (a 23), .ref (a 24), .ref (a 25), .ref (a 26), .ref (a 27), .ref (a 28), .ref (a 29), .ref (a 30), .int kf]) := by rw [hw173]; exact set_eq k170
              have k178 : w172[5]? = some (iA E (a 5) 260 (upd fs cm (nI (1048576 * 1 + n121)))) := by rw [hw173]; exact set_ne k159 (by decide)
              have kp179 := keeps_set kp157 hw173 (by first | exact rfl | decide | omega | (dsimp only; omega))
              refine x_iconst C (v := 1) dX12_readsFactor_86 (by decide) rfl ?_
              exact x_zret C hr hlk rfl dX12_readsFactor_87 ⟨hW174, kp179, (Or.inr rfl), (Or.inr ⟨rfl, (px + 1), wx, (nI (1048576 * 1 + n121)), _, Wn, by omega, by omega, iv0_5, iv0_4, ⟨⟨_, ⟨v160, v161, v162, v163, v164, v165, n166, n167, ⟨by omega, by omega, by omega, by omega, by omega, by omega, by omega⟩, ⟨by omega, by omega⟩, k177⟩⟩, k178, k176⟩, ci171, by omega, by omega⟩)⟩
            · skip
              refine x_aload_n C dX12_readsFactor_60 rfl 1 rfl rfl ?_
              refine x_iconst C (v := 1) dX12_readsFactor_61 (by decide) rfl ?_
              refine x_aload_n C dX12_readsFactor_62 rfl 1 rfl rfl ?_
              refine x_get C (ci := 11) (k := 5) 0 k22 rfl in_X12 (by decide) w_1123 rfl dX12_readsFactor_63 rfl ?_
              refine x_vi C (As := [.int 1, .int (nI px)]) (rest := []) (m_wrongAt E l a cd hG kf jn js jq wl0 hWl0 (1 : Int32) ((nI px)) tp px le cm wx sm lm nz ⟨v12, v13, v14, v15, v16, v17, n18, n19, ⟨by omega, by omega, by omega, by omega, by omega, by omega, by omega⟩, ⟨by omega, by omega⟩, k22⟩) mf_X12_wrongAt w_1324 0 k22 rfl rfl rfl (Nat.le_of_ble_eq_true rfl) ⟨(Nat.le_of_ble_eq_true rfl), (Nat.le_of_ble_eq_true rfl)⟩ ⟨(Nat.le_of_ble_eq_true rfl), (Nat.le_of_ble_eq_true rfl)⟩ dX12_readsFactor_66 rfl (fun r181 w182 h180 => ?_)
              obtain ⟨hW183, kq184, e185, x186⟩ := h180
              refine x_top e185 ?_
              have k187 : w182[4]? = some (bA E (a 4) 260 tf) := keeps_at kq184 iv0_1 (by first | decide | omega | (dsimp only; omega))
              have k188 : w182[5]? = some (iA E (a 5) 260 fs) := keeps_at kq184 iv0_2 (by first | decide | omega | (dsimp only; omega))
              have k189 : w182[6]? = some (iA E (a 6) 260 gx) := keeps_at kq184 iv0_3 (by first | decide | omega | (dsimp only; omega))
              have kp190 := keeps_tr kq0 kq184 (fun q hq => by first | omega | (dsimp only at *; omega))
              obtain ⟨v191, v192, v193, v194, v195, v196, n197, n198, bo199, bo200, k201⟩ := x186
              exact x_zret C hr hlk rfl dX12_readsFactor_69 ⟨hW183, kp190, (Or.inl rfl), (Or.inl ⟨rfl, ⟨px, cm, wx, _, _, ⟨⟨_, ⟨v191, v192, v193, v194, v195, v196, n197, n198, ⟨by omega, by omega, by omega, by omega, by omega, by omega, by omega⟩, ⟨by omega, by omega⟩, k201⟩⟩, k188, k189⟩⟩⟩)⟩
      · skip
        have hp202 := hv_lt (x27.symm.trans c28) (by decide)
        refine x_aload_n C dX12_readsFactor_9 rfl 0 rfl rfl ?_
        refine x_bipush C (v := 14) dX12_readsFactor_10 (by decide) rfl ?_
        refine x_vi C (As := [.int 14]) (rest := []) (m_opens14 E l a cd hG kf jn js jq wl0 hWl0 tp px le cm wx sm lm nz ⟨v12, v13, v14, v15, v16, v17, n18, n19, ⟨by omega, by omega, by omega, by omega, by omega, by omega, by omega⟩, ⟨by omega, by omega⟩, k22⟩ gx iv0_3 (by omega) (by omega)) mf_X12_opens w_1336 0 k22 rfl rfl rfl (Nat.le_of_ble_eq_true rfl) ⟨(Nat.le_of_ble_eq_true rfl), (Nat.le_of_ble_eq_true rfl)⟩ ⟨(Nat.le_of_ble_eq_true rfl), (Nat.le_of_ble_eq_true rfl)⟩ dX12_readsFactor_12 rfl (fun r204 w205 h203 => ?_)
        obtain ⟨hW206, kq207, zb208, x209⟩ := h203
        have k210 : w205[4]? = some (bA E (a 4) 260 tf) := keeps_at kq207 iv0_1 (by first | decide | omega | (dsimp only; omega))
        have k211 : w205[5]? = some (iA E (a 5) 260 fs) := keeps_at kq207 iv0_2 (by first | decide | omega | (dsimp only; omega))
        have kp212 := keeps_tr kq0 kq207 (fun q hq => by first | omega | (dsimp only at *; omega))
        rcases x209 with ⟨e213, mo214, k215⟩ | ⟨e216, mo217, k218⟩
        · refine x_top e213 ?_
          obtain ⟨v219, v220, v221, v222, v223, v224, n225, n226, bo227, bo228, k229⟩ := mo214
          refine x_if_ne C (tgt := 0) dX12_readsFactor_15 (by decide) rfl (fun h => absurd h (by decide)) (fun _ => ?_)
          refine x_iconst C (v := 0) dX12_readsFactor_18 (by decide) rfl ?_
          exact x_zret C hr hlk rfl dX12_readsFactor_19 ⟨hW206, kp212, (Or.inl rfl), (Or.inl ⟨rfl, ⟨px, cm, wx, _, _, ⟨⟨_, ⟨v219, v220, v221, v222, v223, v224, n225, n226, ⟨by omega, by omega, by omega, by omega, by omega, by omega, by omega⟩, ⟨by omega, by omega⟩, k229⟩⟩, k211, k215⟩⟩⟩)⟩
        · refine x_top e216 ?_
          obtain ⟨v230, v231, v232, v233, v234, v235, n236, n237, bo238, bo239, k240⟩ := mo217
          refine x_if_ne C (tgt := 0) dX12_readsFactor_15 (by decide) rfl (fun _ => ?_) (fun h => absurd h (by decide))
          refine x_lv (lv1 := [(0, .ref (a 0))]) [0] rfl ?_
          exact ih0 (px + 1) (wx + 1) nz ((upd gx wx (nI (1048576 * 14 + 0)))) ((14, 0) :: Wn) w205 hW206 (by omega) ⟨v230, v231, v232, v233, v234, v235, n236, n237, ⟨by omega, by omega, by omega, by omega, by omega, by omega, by omega⟩, ⟨by omega, by omega⟩, k240⟩ k210 k211 k218 (wR_push (op := 14) (pay := 0) iv0_4 (by omega) (by omega)) (fun z hz => (List.mem_cons.mp hz).elim (fun q => by rw [q]) (fun q => iv0_5 z q)) (CI_push (e := (14, 0)) iv0_6 (fun q => by rcases q with q | q <;> exact absurd q (by decide))) (by omega) kp212
  refine x_lv (lv1 := [(0, .ref (a 0))]) [0] rfl ?_
  exact loop0 _ pl wt nu fw [] ws hW (Nat.lt_succ_self _) ⟨v1, v2, v3, v4, v5, v6, n7, n8, ⟨by omega, by omega, by omega, by omega, by omega, by omega, by omega⟩, ⟨by omega, by omega⟩, k11⟩ htf hfs hfw hwr (fun z hz => absurd hz List.not_mem_nil) hci (by omega) kp0
