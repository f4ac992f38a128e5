theorem dX12_notes_0 : decode cX12_notes 0 = .ok (.aload_n 0, 1) := by decide +kernel
theorem dX12_notes_1 : decode cX12_notes 1 = .ok (.getfield 23, 3) := by decide +kernel
theorem dX12_notes_4 : decode cX12_notes 4 = .ok (.aload_n 0, 1) := by decide +kernel
theorem dX12_notes_5 : decode cX12_notes 5 = .ok (.getfield 154, 3) := by decide +kernel
theorem dX12_notes_8 : decode cX12_notes 8 = .ok (.ldc 157, 2) := by decide +kernel
theorem dX12_notes_10 : decode cX12_notes 10 = .ok (.iload_n 1, 1) := by decide +kernel
theorem dX12_notes_11 : decode cX12_notes 11 = .ok (.imul, 1) := by decide +kernel
theorem dX12_notes_12 : decode cX12_notes 12 = .ok (.iload_n 2, 1) := by decide +kernel
theorem dX12_notes_13 : decode cX12_notes 13 = .ok (.iadd, 1) := by decide +kernel
theorem dX12_notes_14 : decode cX12_notes 14 = .ok (.iastore, 1) := by decide +kernel
theorem dX12_notes_15 : decode cX12_notes 15 = .ok (.aload_n 0, 1) := by decide +kernel
theorem dX12_notes_16 : decode cX12_notes 16 = .ok (.aload_n 0, 1) := by decide +kernel
theorem dX12_notes_17 : decode cX12_notes 17 = .ok (.getfield 154, 3) := by decide +kernel
theorem dX12_notes_20 : decode cX12_notes 20 = .ok (.iconst 1, 1) := by decide +kernel
theorem dX12_notes_21 : decode cX12_notes 21 = .ok (.iadd, 1) := by decide +kernel
theorem dX12_notes_22 : decode cX12_notes 22 = .ok (.putfield 154, 3) := by decide +kernel
theorem dX12_notes_25 : decode cX12_notes 25 = .ok (.return_, 1) := by decide +kernel
set_option maxRecDepth 20000 in
set_option maxHeartbeats 4000000 in
theorem m_notes (E : xE) (l : Launch) (a : Nat → Nat) (cd : Cd) (hG : Good cd) (ws : va_W) (hW : WX (okM E a cd) ws) (o0 : Nat) (v0 : Nat) (ho0 : o0 ≤ 12) (hv0 : v0 < 1048576) (tp pl le cm wt sm lm : Nat) (nu : Int32) (h0 : MO a cd ws tp pl le cm wt sm lm nu) (fs : Nat → Int32) (hfs : ws[5]? = some (iA E (a 5) 260 fs)) (hcm : cm ≤ 259) : xV E l yX12_notes cX12_notes 3 0 0 0 [.ref (a 0), .int (nI o0), .int (nI v0)] ws (fun w => WX (okM E a cd) w ∧ keeps ws w (fun q => q = 0 ∨ q = 5) ∧ (MO a cd w tp pl le (cm + 1) wt sm lm nu ∧ w[5]? = some (iA E (a 5) 260 (upd fs cm (nI (1048576 * o0 + v0)))))) := by
  refine xV_start (lv := [(0, .ref (a 0)), (1, .int (nI o0)), (2, .int (nI v0))]) RX12 (by decide) rfl (Nat.le_of_ble_eq_true rfl) rfl (fun p e s m below meth c A C hr hlk hin => ?_)
  have kp0 : keeps ws ws (fun q => q = 0 ∨ q = 5) := keeps_rf
  obtain ⟨v1, v2, v3, v4, v5, v6, v7, n8, n9, bo10, bo11, zb12, k13⟩ := h0
  refine x_aload_n C dX12_notes_0 rfl 0 rfl rfl ?_
  refine x_get C (ci := 11) (k := 14) 0 k13 rfl in_X12 (by decide) w_1132 rfl dX12_notes_1 rfl ?_
  refine x_aload_n C dX12_notes_4 rfl 0 rfl rfl ?_
  refine x_get C (ci := 11) (k := 10) 0 k13 rfl in_X12 (by decide) w_1128 rfl dX12_notes_5 rfl ?_
  refine x_ldc C w_1340 dX12_notes_8 rfl ?_
  refine x_iload_n C dX12_notes_10 rfl 1 rfl rfl ?_
  refine x_imul C (v := (nI (1048576 * o0))) dX12_notes_11 (pk_mul 1048576 o0) rfl ?_
  refine x_iload_n C dX12_notes_12 rfl 2 rfl rfl ?_
  refine x_iadd C (v := (nI ((1048576 * o0) + v0))) dX12_notes_13 (nI_add (1048576 * o0) v0) rfl ?_
  obtain ⟨w14, hw15⟩ : ∃ w : va_W, w = List.set ws 5 (iA E (a 5) 260 (upd fs cm (nI ((1048576 * o0) + v0)))) := ⟨_, rfl⟩
  refine x_iask C cm (nI_clamp (by omega)) (nI_pos (by omega)) (by omega) 5 hfs hw15.symm dX12_notes_14 rfl ?_
  have hW16 : WX (okM E a cd) w14 := by rw [hw15]; exact hW.set (k := 5) rfl ⟨_, rfl⟩
  have k17 : w14[0]? = some (ob (a 0) 11 [.ref (a 1), .ref (a 2), .ref (a 3), .ref (a 4), .int (nI tp), .int (nI pl), .int (nI le), .int v1, .int nu, .int v2, .int (nI cm), .int (nI wt), .int (nI sm), .int (nI (cd.2.2.2.2.2)), .ref (a 5), .ref (a 6), .ref (a 7), .ref (a 8), .ref (a 9), .ref (a 10), .ref (a 11), .ref (a 12), .ref (a 13), .ref (a 14), .ref (a 15), .ref (a 16), .ref (a 17), .int (nI lm), .ref (a 18), .ref (a 19), .ref (a 20), .ref (a 21), .int v3, .int v4, .int v5, .int v6, .int (nI n8), .int (nI n9), .ref (a 22), .ref (a 23), .ref (a 24), .ref (a 25), .ref (a 26), .ref (a 27), .ref (a 28), .ref (a 29), .ref (a 30), .int v7]) := by rw [hw15]; exact set_ne k13 (by decide)
  have k18 : w14[5]? = some (iA E (a 5) 260 (upd fs cm (nI ((1048576 * o0) + v0)))) := by rw [hw15]; exact set_eq hfs
  have kp19 := keeps_set kp0 hw15 (by first | exact rfl | decide | omega | (dsimp only; omega))
  refine x_aload_n C dX12_notes_15 rfl 0 rfl rfl ?_
  refine x_aload_n C dX12_notes_16 rfl 0 rfl rfl ?_
  refine x_get C (ci := 11) (k := 10) 0 k17 rfl in_X12 (by decide) w_1128 rfl dX12_notes_17 rfl ?_
  refine x_iconst C (v := 1) dX12_notes_20 (by decide) rfl ?_
  refine x_iadd C (v := (nI (cm + 1))) dX12_notes_21 (nI_add cm 1) rfl ?_
  obtain ⟨w20, hw21⟩ : ∃ w : va_W, w = List.set w14 0 (ob (a 0) 11 [.ref (a 1), .ref (a 2), .ref (a 3), .ref (a 4), .int (nI tp), .int (nI pl), .int (nI le), .int v1, .int nu, .int v2, .int (nI (cm + 1)), .int (nI wt), .int (nI sm), .int (nI (cd.2.2.2.2.2)), .ref (a 5), .ref (a 6), .ref (a 7), .ref (a 8), .ref (a 9), .ref (a 10), .ref (a 11), .ref (a 12), .ref (a 13), .ref (a 14), .ref (a 15), .ref (a 16), .ref (a 17), .int (nI lm), .ref (a 18), .ref (a 19), .ref (a 20), .ref (a 21), .int v3, .int v4, .int v5, .int v6, .int (nI n8), .int (nI n9), .ref (a 22), .ref (a 23), .ref (a 24), .ref (a 25), .ref (a 26), .ref (a 27), .ref (a 28), .ref (a 29), .ref (a 30), .int v7]) := ⟨_, rfl⟩
  refine x_put C (ci := 11) (k := 10) (ty := .int) 0 k17 rfl in_X12 tyX12 tyX12_ok nmX12 (by decide) w_1128 rfl rfl rfl rfl (Nat.le_of_ble_eq_true rfl) hw21.symm dX12_notes_22 rfl ?_
  have hW22 : WX (okM E a cd) w20 := by rw [hw21]; exact hW16.set (k := 0) rfl ⟨tp, pl, le, v1, nu, v2, (cm + 1), wt, sm, lm, v3, v4, v5, v6, n8, n9, v7, by omega, by omega, by omega, by omega, by omega, by omega, by omega, by omega, by omega, zb12, rfl⟩
  have k23 : w20[0]? = some (ob (a 0) 11 [.ref (a 1), .ref (a 2), .ref (a 3), .ref (a 4), .int (nI tp), .int (nI pl), .int (nI le), .int v1, .int nu, .int v2, .int (nI (cm + 1)), .int (nI wt), .int (nI sm), .int (nI (cd.2.2.2.2.2)), .ref (a 5), .ref (a 6), .ref (a 7), .ref (a 8), .ref (a 9), .ref (a 10), .ref (a 11), .ref (a 12), .ref (a 13), .ref (a 14), .ref (a 15), .ref (a 16), .ref (a 17), .int (nI lm), .ref (a 18), .ref (a 19), .ref (a 20), .ref (a 21), .int v3, .int v4, .int v5, .int v6, .int (nI n8), .int (nI n9), .ref (a 22), .ref (a 23), .ref (a 24), .ref (a 25), .ref (a 26), .ref (a 27), .ref (a 28), .ref (a 29), .ref (a 30), .int v7]) := by rw [hw21]; exact set_eq k17
  have k24 : w20[5]? = some (iA E (a 5) 260 (upd fs cm (nI ((1048576 * o0) + v0)))) := by rw [hw21]; exact set_ne k18 (by decide)
  have kp25 := keeps_set kp19 hw21 (by first | exact rfl | decide | omega | (dsimp only; omega))
  exact x_vret C hr hlk dX12_notes_25 ⟨hW22, kp25, ⟨⟨v1, v2, v3, v4, v5, v6, v7, n8, n9, ⟨by omega, by omega, by omega, by omega, by omega, by omega, by omega⟩, ⟨by omega, by omega⟩, zb12, k23⟩, k24⟩⟩
theorem dX12_opens_0 : decode cX12_opens 0 = .ok (.aload_n 0, 1) := by decide +kernel
theorem dX12_opens_1 : decode cX12_opens 1 = .ok (.getfield 158, 3) := by decide +kernel
theorem dX12_opens_4 : decode cX12_opens 4 = .ok (.bipush 6, 2) := by decide +kernel
theorem dX12_opens_6 : decode cX12_opens 6 = .ok (.if_icmp .ne 13, 3) := by decide +kernel
theorem dX12_opens_9 : decode cX12_opens 9 = .ok (.aload_n 0, 1) := by decide +kernel
theorem dX12_opens_10 : decode cX12_opens 10 = .ok (.iconst 5, 1) := by decide +kernel
theorem dX12_opens_11 : decode cX12_opens 11 = .ok (.aload_n 0, 1) := by decide +kernel
theorem dX12_opens_12 : decode cX12_opens 12 = .ok (.getfield 131, 3) := by decide +kernel
theorem dX12_opens_15 : decode cX12_opens 15 = .ok (.invokevirtual 144, 3) := by decide +kernel
theorem dX12_opens_18 : decode cX12_opens 18 = .ok (.ireturn, 1) := by decide +kernel
theorem dX12_opens_19 : decode cX12_opens 19 = .ok (.aload_n 0, 1) := by decide +kernel
theorem dX12_opens_20 : decode cX12_opens 20 = .ok (.aload_n 0, 1) := by decide +kernel
theorem dX12_opens_21 : decode cX12_opens 21 = .ok (.getfield 158, 3) := by decide +kernel
theorem dX12_opens_24 : decode cX12_opens 24 = .ok (.iconst 1, 1) := by decide +kernel
theorem dX12_opens_25 : decode cX12_opens 25 = .ok (.iadd, 1) := by decide +kernel
theorem dX12_opens_26 : decode cX12_opens 26 = .ok (.putfield 158, 3) := by decide +kernel
theorem dX12_opens_29 : decode cX12_opens 29 = .ok (.aload_n 0, 1) := by decide +kernel
theorem dX12_opens_30 : decode cX12_opens 30 = .ok (.getfield 26, 3) := by decide +kernel
theorem dX12_opens_33 : decode cX12_opens 33 = .ok (.aload_n 0, 1) := by decide +kernel
theorem dX12_opens_34 : decode cX12_opens 34 = .ok (.getfield 161, 3) := by decide +kernel
theorem dX12_opens_37 : decode cX12_opens 37 = .ok (.ldc 157, 2) := by decide +kernel
theorem dX12_opens_39 : decode cX12_opens 39 = .ok (.iload_n 1, 1) := by decide +kernel
theorem dX12_opens_40 : decode cX12_opens 40 = .ok (.imul, 1) := by decide +kernel
theorem dX12_opens_41 : decode cX12_opens 41 = .ok (.iastore, 1) := by decide +kernel
theorem dX12_opens_42 : decode cX12_opens 42 = .ok (.aload_n 0, 1) := by decide +kernel
theorem dX12_opens_43 : decode cX12_opens 43 = .ok (.aload_n 0, 1) := by decide +kernel
theorem dX12_opens_44 : decode cX12_opens 44 = .ok (.getfield 161, 3) := by decide +kernel
theorem dX12_opens_47 : decode cX12_opens 47 = .ok (.iconst 1, 1) := by decide +kernel
theorem dX12_opens_48 : decode cX12_opens 48 = .ok (.iadd, 1) := by decide +kernel
theorem dX12_opens_49 : decode cX12_opens 49 = .ok (.putfield 161, 3) := by decide +kernel
theorem dX12_opens_52 : decode cX12_opens 52 = .ok (.aload_n 0, 1) := by decide +kernel
theorem dX12_opens_53 : decode cX12_opens 53 = .ok (.aload_n 0, 1) := by decide +kernel
theorem dX12_opens_54 : decode cX12_opens 54 = .ok (.getfield 131, 3) := by decide +kernel
theorem dX12_opens_57 : decode cX12_opens 57 = .ok (.iconst 1, 1) := by decide +kernel
theorem dX12_opens_58 : decode cX12_opens 58 = .ok (.iadd, 1) := by decide +kernel
theorem dX12_opens_59 : decode cX12_opens 59 = .ok (.putfield 131, 3) := by decide +kernel
theorem dX12_opens_62 : decode cX12_opens 62 = .ok (.iconst 1, 1) := by decide +kernel
theorem dX12_opens_63 : decode cX12_opens 63 = .ok (.ireturn, 1) := by decide +kernel
set_option maxRecDepth 20000 in
set_option maxHeartbeats 4000000 in
theorem m_opens10 (E : xE) (l : Launch) (a : Nat → Nat) (cd : Cd) (hG : Good cd) (ws : va_W) (hW : WX (okM E a cd) ws) (tp pl le cm wt sm lm : Nat) (nu : Int32) (h0 : MO a cd ws tp pl le cm wt sm lm nu) (fw : Nat → Int32) (hfw : ws[6]? = some (iA E (a 6) 260 fw)) (hwt : wt ≤ 259) (hpl : pl ≤ 239) : xI E l yX12_opens cX12_opens 2 (some .boolean) 1 [.ref (a 0), .int 10] ws (fun r w => WX (okM E a cd) w ∧ keeps ws w (fun q => q = 0 ∨ q = 6) ∧ zb r ∧ ((r = 0 ∧ MO a cd w tp pl le cm wt sm lm nu ∧ w[6]? = some (iA E (a 6) 260 fw)) ∨ (r = 1 ∧ MO a cd w tp (pl + 1) le cm (wt + 1) sm lm nu ∧ w[6]? = some (iA E (a 6) 260 (upd fw wt (nI (1048576 * 10 + 0))))))) := by
  refine xI_start (lv := [(0, .ref (a 0)), (1, .int 10)]) RX12 (by decide) rfl (Nat.le_of_ble_eq_true rfl) rfl (fun p e s m below meth c A C hr hlk => ?_)
  have kp0 : keeps ws ws (fun q => q = 0 ∨ q = 6) := keeps_rf
  obtain ⟨v1, v2, v3, v4, v5, v6, v7, n8, n9, bo10, bo11, zb12, k13⟩ := h0
  refine x_aload_n C dX12_opens_0 rfl 0 rfl rfl ?_
  refine x_get C (ci := 11) (k := 9) 0 k13 rfl in_X12 (by decide) w_1127 rfl dX12_opens_1 rfl ?_
  refine x_bipush C (v := 6) dX12_opens_4 (by decide) rfl ?_
  refine x_icmp_ne C (tgt := 19) dX12_opens_6 (by decide) rfl (fun c14 => ?_) (fun c14 => ?_)
  · skip
    refine x_aload_n C dX12_opens_19 rfl 0 rfl rfl ?_
    refine x_aload_n C dX12_opens_20 rfl 0 rfl rfl ?_
    refine x_get C (ci := 11) (k := 9) 0 k13 rfl in_X12 (by decide) w_1127 rfl dX12_opens_21 rfl ?_
    refine x_iconst C (v := 1) dX12_opens_24 (by decide) rfl ?_
    refine x_iadd C (v := (v2 + (1 : Int32))) dX12_opens_25 rfl rfl ?_
    refine x_any (fun v15 => ?_)
    obtain ⟨w16, hw17⟩ : ∃ w : va_W, w = List.set ws 0 (ob (a 0) 11 [.ref (a 1), .ref (a 2), .ref (a 3), .ref (a 4), .int (nI tp), .int (nI pl), .int (nI le), .int v1, .int nu, .int v15, .int (nI cm), .int (nI wt), .int (nI sm), .int (nI (cd.2.2.2.2.2)), .ref (a 5), .ref (a 6), .ref (a 7), .ref (a 8), .ref (a 9), .ref (a 10), .ref (a 11), .ref (a 12), .ref (a 13), .ref (a 14), .ref (a 15), .ref (a 16), .ref (a 17), .int (nI lm), .ref (a 18), .ref (a 19), .ref (a 20), .ref (a 21), .int v3, .int v4, .int v5, .int v6, .int (nI n8), .int (nI n9), .ref (a 22), .ref (a 23), .ref (a 24), .ref (a 25), .ref (a 26), .ref (a 27), .ref (a 28), .ref (a 29), .ref (a 30), .int v7]) := ⟨_, rfl⟩
    refine x_put C (ci := 11) (k := 9) (ty := .int) 0 k13 rfl in_X12 tyX12 tyX12_ok nmX12 (by decide) w_1127 rfl rfl rfl rfl (Nat.le_of_ble_eq_true rfl) hw17.symm dX12_opens_26 rfl ?_
    have hW18 : WX (okM E a cd) w16 := by rw [hw17]; exact hW.set (k := 0) rfl ⟨tp, pl, le, v1, nu, v15, cm, wt, sm, lm, v3, v4, v5, v6, n8, n9, v7, by omega, by omega, by omega, by omega, by omega, by omega, by omega, by omega, by omega, zb12, rfl⟩
    have k19 : w16[0]? = some (ob (a 0) 11 [.ref (a 1), .ref (a 2), .ref (a 3), .ref (a 4), .int (nI tp), .int (nI pl), .int (nI le), .int v1, .int nu, .int v15, .int (nI cm), .int (nI wt), .int (nI sm), .int (nI (cd.2.2.2.2.2)), .ref (a 5), .ref (a 6), .ref (a 7), .ref (a 8), .ref (a 9), .ref (a 10), .ref (a 11), .ref (a 12), .ref (a 13), .ref (a 14), .ref (a 15), .ref (a 16), .ref (a 17), .int (nI lm), .ref (a 18), .ref (a 19), .ref (a 20), .ref (a 21), .int v3, .int v4, .int v5, .int v6, .int (nI n8), .int (nI n9), .ref (a 22), .ref (a 23), .ref (a 24), .ref (a 25), .ref (a 26), .ref (a 27), .ref (a 28), .ref (a 29), .ref (a 30), .int v7]) := by rw [hw17]; exact set_eq k13
    have k20 : w16[6]? = some (iA E (a 6) 260 fw) := by rw [hw17]; exact set_ne hfw (by decide)
    have kp21 := keeps_set kp0 hw17 (by first | exact rfl | decide | omega | (dsimp only; omega))
    refine x_aload_n C dX12_opens_29 rfl 0 rfl rfl ?_
    refine x_get C (ci := 11) (k := 15) 0 k19 rfl in_X12 (by decide) w_1133 rfl dX12_opens_30 rfl ?_
    refine x_aload_n C dX12_opens_33 rfl 0 rfl rfl ?_
    refine x_get C (ci := 11) (k := 11) 0 k19 rfl in_X12 (by decide) w_1129 rfl dX12_opens_34 rfl ?_
    refine x_ldc C w_1340 dX12_opens_37 rfl ?_
    refine x_iload_n C dX12_opens_39 rfl 1 rfl rfl ?_
    refine x_imul C (v := 10485760) dX12_opens_40 (by decide) rfl ?_
    obtain ⟨w22, hw23⟩ : ∃ w : va_W, w = List.set w16 6 (iA E (a 6) 260 (upd fw wt (10485760 : Int32))) := ⟨_, rfl⟩
    refine x_iask C wt (nI_clamp (by omega)) (nI_pos (by omega)) (by omega) 6 k20 hw23.symm dX12_opens_41 rfl ?_
    have hW24 : WX (okM E a cd) w22 := by rw [hw23]; exact hW18.set (k := 6) rfl ⟨_, rfl⟩
    have k25 : w22[0]? = some (ob (a 0) 11 [.ref (a 1), .ref (a 2), .ref (a 3), .ref (a 4), .int (nI tp), .int (nI pl), .int (nI le), .int v1, .int nu, .int v15, .int (nI cm), .int (nI wt), .int (nI sm), .int (nI (cd.2.2.2.2.2)), .ref (a 5), .ref (a 6), .ref (a 7), .ref (a 8), .ref (a 9), .ref (a 10), .ref (a 11), .ref (a 12), .ref (a 13), .ref (a 14), .ref (a 15), .ref (a 16), .ref (a 17), .int (nI lm), .ref (a 18), .ref (a 19), .ref (a 20), .ref (a 21), .int v3, .int v4, .int v5, .int v6, .int (nI n8), .int (nI n9), .ref (a 22), .ref (a 23), .ref (a 24), .ref (a 25), .ref (a 26), .ref (a 27), .ref (a 28), .ref (a 29), .ref (a 30), .int v7]) := by rw [hw23]; exact set_ne k19 (by decide)
    have k26 : w22[6]? = some (iA E (a 6) 260 (upd fw wt (10485760 : Int32))) := by rw [hw23]; exact set_eq k20
    have kp27 := keeps_set kp21 hw23 (by first | exact rfl | decide | omega | (dsimp only; omega))
    refine x_aload_n C dX12_opens_42 rfl 0 rfl rfl ?_
    refine x_aload_n C dX12_opens_43 rfl 0 rfl rfl ?_
    refine x_get C (ci := 11) (k := 11) 0 k25 rfl in_X12 (by decide) w_1129 rfl dX12_opens_44 rfl ?_
    refine x_iconst C (v := 1) dX12_opens_47 (by decide) rfl ?_
    refine x_iadd C (v := (nI (wt + 1))) dX12_opens_48 (nI_add wt 1) rfl ?_
    obtain ⟨w28, hw29⟩ : ∃ w : va_W, w = List.set w22 0 (ob (a 0) 11 [.ref (a 1), .ref (a 2), .ref (a 3), .ref (a 4), .int (nI tp), .int (nI pl), .int (nI le), .int v1, .int nu, .int v15, .int (nI cm), .int (nI (wt + 1)), .int (nI sm), .int (nI (cd.2.2.2.2.2)), .ref (a 5), .ref (a 6), .ref (a 7), .ref (a 8), .ref (a 9), .ref (a 10), .ref (a 11), .ref (a 12), .ref (a 13), .ref (a 14), .ref (a 15), .ref (a 16), .ref (a 17), .int (nI lm), .ref (a 18), .ref (a 19), .ref (a 20), .ref (a 21), .int v3, .int v4, .int v5, .int v6, .int (nI n8), .int (nI n9), .ref (a 22), .ref (a 23), .ref (a 24), .ref (a 25), .ref (a 26), .ref (a 27), .ref (a 28), .ref (a 29), .ref (a 30), .int v7]) := ⟨_, rfl⟩
    refine x_put C (ci := 11) (k := 11) (ty := .int) 0 k25 rfl in_X12 tyX12 tyX12_ok nmX12 (by decide) w_1129 rfl rfl rfl rfl (Nat.le_of_ble_eq_true rfl) hw29.symm dX12_opens_49 rfl ?_
    have hW30 : WX (okM E a cd) w28 := by rw [hw29]; exact hW24.set (k := 0) rfl ⟨tp, pl, le, v1, nu, v15, cm, (wt + 1), sm, lm, v3, v4, v5, v6, n8, n9, v7, by omega, by omega, by omega, by omega, by omega, by omega, by omega, by omega, by omega, zb12, rfl⟩
    have k31 : w28[0]? = some (ob (a 0) 11 [.ref (a 1), .ref (a 2), .ref (a 3), .ref (a 4), .int (nI tp), .int (nI pl), .int (nI le), .int v1, .int nu, .int v15, .int (nI cm), .int (nI (wt + 1)), .int (nI sm), .int (nI (cd.2.2.2.2.2)), .ref (a 5), .ref (a 6), .ref (a 7), .ref (a 8), .ref (a 9), .ref (a 10), .ref (a 11), .ref (a 12), .ref (a 13), .ref (a 14), .ref (a 15), .ref (a 16), .ref (a 17), .int (nI lm), .ref (a 18), .ref (a 19), .ref (a 20), .ref (a 21), .int v3, .int v4, .int v5, .int v6, .int (nI n8), .int (nI n9), .ref (a 22), .ref (a 23), .ref (a 24), .ref (a 25), .ref (a 26), .ref (a 27), .ref (a 28), .ref (a 29), .ref (a 30), .int v7]) := by rw [hw29]; exact set_eq k25
    have k32 : w28[6]? = some (iA E (a 6) 260 (upd fw wt (10485760 : Int32))) := by rw [hw29]; exact set_ne k26 (by decide)
    have kp33 := keeps_set kp27 hw29 (by first | exact rfl | decide | omega | (dsimp only; omega))
    refine x_aload_n C dX12_opens_52 rfl 0 rfl rfl ?_
    refine x_aload_n C dX12_opens_53 rfl 0 rfl rfl ?_
    refine x_get C (ci := 11) (k := 5) 0 k31 rfl in_X12 (by decide) w_1123 rfl dX12_opens_54 rfl ?_
    refine x_iconst C (v := 1) dX12_opens_57 (by decide) rfl ?_
    refine x_iadd C (v := (nI (pl + 1))) dX12_opens_58 (nI_add pl 1) rfl ?_
    obtain ⟨w34, hw35⟩ : ∃ w : va_W, w = List.set w28 0 (ob (a 0) 11 [.ref (a 1), .ref (a 2), .ref (a 3), .ref (a 4), .int (nI tp), .int (nI (pl + 1)), .int (nI le), .int v1, .int nu, .int v15, .int (nI cm), .int (nI (wt + 1)), .int (nI sm), .int (nI (cd.2.2.2.2.2)), .ref (a 5), .ref (a 6), .ref (a 7), .ref (a 8), .ref (a 9), .ref (a 10), .ref (a 11), .ref (a 12), .ref (a 13), .ref (a 14), .ref (a 15), .ref (a 16), .ref (a 17), .int (nI lm), .ref (a 18), .ref (a 19), .ref (a 20), .ref (a 21), .int v3, .int v4, .int v5, .int v6, .int (nI n8), .int (nI n9), .ref (a 22), .ref (a 23), .ref (a 24), .ref (a 25), .ref (a 26), .ref (a 27), .ref (a 28), .ref (a 29), .ref (a 30), .int v7]) := ⟨_, rfl⟩
    refine x_put C (ci := 11) (k := 5) (ty := .int) 0 k31 rfl in_X12 tyX12 tyX12_ok nmX12 (by decide) w_1123 rfl rfl rfl rfl (Nat.le_of_ble_eq_true rfl) hw35.symm dX12_opens_59 rfl ?_
    have hW36 : WX (okM E a cd) w34 := by rw [hw35]; exact hW30.set (k := 0) rfl ⟨tp, (pl + 1), le, v1, nu, v15, cm, (wt + 1), sm, lm, v3, v4, v5, v6, n8, n9, v7, by omega, by omega, by omega, by omega, by omega, by omega, by omega, by omega, by omega, zb12, rfl⟩
    have k37 : w34[0]? = some (ob (a 0) 11 [.ref (a 1), .ref (a 2), .ref (a 3), .ref (a 4), .int (nI tp), .int (nI (pl + 1)), .int (nI le), .int v1, .int nu, .int v15, .int (nI cm), .int (nI (wt + 1)), .int (nI sm), .int (nI (cd.2.2.2.2.2)), .ref (a 5), .ref (a 6), .ref (a 7), .ref (a 8), .ref (a 9), .ref (a 10), .ref (a 11), .ref (a 12), .ref (a 13), .ref (a 14), .ref (a 15), .ref (a 16), .ref (a 17), .int (nI lm), .ref (a 18), .ref (a 19), .ref (a 20), .ref (a 21), .int v3, .int v4, .int v5, .int v6, .int (nI n8), .int (nI n9), .ref (a 22), .ref (a 23), .ref (a 24), .ref (a 25), .ref (a 26), .ref (a 27), .ref (a 28), .ref (a 29), .ref (a 30), .int v7]) := by rw [hw35]; exact set_eq k31
    have k38 : w34[6]? = some (iA E (a 6) 260 (upd fw wt (10485760 : Int32))) := by rw [hw35]; exact set_ne k32 (by decide)
    have kp39 := keeps_set kp33 hw35 (by first | exact rfl | decide | omega | (dsimp only; omega))
    refine x_iconst C (v := 1) dX12_opens_62 (by decide) rfl ?_
    exact x_zret C hr hlk rfl dX12_opens_63 ⟨hW36, kp39, (Or.inr rfl), (Or.inr ⟨rfl, ⟨v1, v15, v3, v4, v5, v6, v7, n8, n9, ⟨by omega, by omega, by omega, by omega, by omega, by omega, by omega⟩, ⟨by omega, by omega⟩, zb12, k37⟩, k38⟩)⟩
  · skip
    refine x_aload_n C dX12_opens_9 rfl 0 rfl rfl ?_
    refine x_iconst C (v := 5) dX12_opens_10 (by decide) rfl ?_
    refine x_aload_n C dX12_opens_11 rfl 0 rfl rfl ?_
    refine x_get C (ci := 11) (k := 5) 0 k13 rfl in_X12 (by decide) w_1123 rfl dX12_opens_12 rfl ?_
    refine x_vi C (As := [.int 5, .int (nI pl)]) (rest := []) (m_wrongAt E l a cd hG ws hW (5 : Int32) ((nI pl)) tp pl le cm wt sm lm nu ⟨v1, v2, v3, v4, v5, v6, v7, n8, n9, ⟨by omega, by omega, by omega, by omega, by omega, by omega, by omega⟩, ⟨by omega, by omega⟩, zb12, k13⟩) mf_X12_wrongAt w_1324 0 k13 rfl rfl rfl (Nat.le_of_ble_eq_true rfl) ⟨(Nat.le_of_ble_eq_true rfl), (Nat.le_of_ble_eq_true rfl)⟩ ⟨(Nat.le_of_ble_eq_true rfl), (Nat.le_of_ble_eq_true rfl)⟩ dX12_opens_15 rfl (fun r41 w42 h40 => ?_)
    obtain ⟨hW43, kq44, e45, x46⟩ := h40
    refine x_top e45 ?_
    have k47 : w42[6]? = some (iA E (a 6) 260 fw) := keeps_at kq44 hfw (by first | decide | omega | (dsimp only; omega))
    have kp48 := keeps_tr kp0 kq44 (fun q hq => by first | omega | (dsimp only at *; omega))
    obtain ⟨v49, v50, v51, v52, v53, v54, v55, n56, n57, bo58, bo59, zb60, k61⟩ := x46
    exact x_zret C hr hlk rfl dX12_opens_18 ⟨hW43, kp48, (Or.inl rfl), (Or.inl ⟨rfl, ⟨v49, v50, v51, v52, v53, v54, v55, n56, n57, ⟨by omega, by omega, by omega, by omega, by omega, by omega, by omega⟩, ⟨by omega, by omega⟩, zb60, k61⟩, k47⟩)⟩
set_option maxRecDepth 20000 in
set_option maxHeartbeats 4000000 in
theorem m_opens13 (E : xE) (l : Launch) (a : Nat → Nat) (cd : Cd) (hG : Good cd) (ws : va_W) (hW : WX (okM E a cd) ws) (tp pl le cm wt sm lm : Nat) (nu : Int32) (h0 : MO a cd ws tp pl le cm wt sm lm nu) (fw : Nat → Int32) (hfw : ws[6]? = some (iA E (a 6) 260 fw)) (hwt : wt ≤ 259) (hpl : pl ≤ 239) : xI E l yX12_opens cX12_opens 2 (some .boolean) 1 [.ref (a 0), .int 13] ws (fun r w => WX (okM E a cd) w ∧ keeps ws w (fun q => q = 0 ∨ q = 6) ∧ zb r ∧ ((r = 0 ∧ MO a cd w tp pl le cm wt sm lm nu ∧ w[6]? = some (iA E (a 6) 260 fw)) ∨ (r = 1 ∧ MO a cd w tp (pl + 1) le cm (wt + 1) sm lm nu ∧ w[6]? = some (iA E (a 6) 260 (upd fw wt (nI (1048576 * 13 + 0))))))) := by
  refine xI_start (lv := [(0, .ref (a 0)), (1, .int 13)]) RX12 (by decide) rfl (Nat.le_of_ble_eq_true rfl) rfl (fun p e s m below meth c A C hr hlk => ?_)
  have kp0 : keeps ws ws (fun q => q = 0 ∨ q = 6) := keeps_rf
  obtain ⟨v1, v2, v3, v4, v5, v6, v7, n8, n9, bo10, bo11, zb12, k13⟩ := h0
  refine x_aload_n C dX12_opens_0 rfl 0 rfl rfl ?_
  refine x_get C (ci := 11) (k := 9) 0 k13 rfl in_X12 (by decide) w_1127 rfl dX12_opens_1 rfl ?_
  refine x_bipush C (v := 6) dX12_opens_4 (by decide) rfl ?_
  refine x_icmp_ne C (tgt := 19) dX12_opens_6 (by decide) rfl (fun c14 => ?_) (fun c14 => ?_)
  · skip
    refine x_aload_n C dX12_opens_19 rfl 0 rfl rfl ?_
    refine x_aload_n C dX12_opens_20 rfl 0 rfl rfl ?_
    refine x_get C (ci := 11) (k := 9) 0 k13 rfl in_X12 (by decide) w_1127 rfl dX12_opens_21 rfl ?_
    refine x_iconst C (v := 1) dX12_opens_24 (by decide) rfl ?_
    refine x_iadd C (v := (v2 + (1 : Int32))) dX12_opens_25 rfl rfl ?_
    refine x_any (fun v15 => ?_)
    obtain ⟨w16, hw17⟩ : ∃ w : va_W, w = List.set ws 0 (ob (a 0) 11 [.ref (a 1), .ref (a 2), .ref (a 3), .ref (a 4), .int (nI tp), .int (nI pl), .int (nI le), .int v1, .int nu, .int v15, .int (nI cm), .int (nI wt), .int (nI sm), .int (nI (cd.2.2.2.2.2)), .ref (a 5), .ref (a 6), .ref (a 7), .ref (a 8), .ref (a 9), .ref (a 10), .ref (a 11), .ref (a 12), .ref (a 13), .ref (a 14), .ref (a 15), .ref (a 16), .ref (a 17), .int (nI lm), .ref (a 18), .ref (a 19), .ref (a 20), .ref (a 21), .int v3, .int v4, .int v5, .int v6, .int (nI n8), .int (nI n9), .ref (a 22), .ref (a 23), .ref (a 24), .ref (a 25), .ref (a 26), .ref (a 27), .ref (a 28), .ref (a 29), .ref (a 30), .int v7]) := ⟨_, rfl⟩
    refine x_put C (ci := 11) (k := 9) (ty := .int) 0 k13 rfl in_X12 tyX12 tyX12_ok nmX12 (by decide) w_1127 rfl rfl rfl rfl (Nat.le_of_ble_eq_true rfl) hw17.symm dX12_opens_26 rfl ?_
    have hW18 : WX (okM E a cd) w16 := by rw [hw17]; exact hW.set (k := 0) rfl ⟨tp, pl, le, v1, nu, v15, cm, wt, sm, lm, v3, v4, v5, v6, n8, n9, v7, by omega, by omega, by omega, by omega, by omega, by omega, by omega, by omega, by omega, zb12, rfl⟩
    have k19 : w16[0]? = some (ob (a 0) 11 [.ref (a 1), .ref (a 2), .ref (a 3), .ref (a 4), .int (nI tp), .int (nI pl), .int (nI le), .int v1, .int nu, .int v15, .int (nI cm), .int (nI wt), .int (nI sm), .int (nI (cd.2.2.2.2.2)), .ref (a 5), .ref (a 6), .ref (a 7), .ref (a 8), .ref (a 9), .ref (a 10), .ref (a 11), .ref (a 12), .ref (a 13), .ref (a 14), .ref (a 15), .ref (a 16), .ref (a 17), .int (nI lm), .ref (a 18), .ref (a 19), .ref (a 20), .ref (a 21), .int v3, .int v4, .int v5, .int v6, .int (nI n8), .int (nI n9), .ref (a 22), .ref (a 23), .ref (a 24), .ref (a 25), .ref (a 26), .ref (a 27), .ref (a 28), .ref (a 29), .ref (a 30), .int v7]) := by rw [hw17]; exact set_eq k13
    have k20 : w16[6]? = some (iA E (a 6) 260 fw) := by rw [hw17]; exact set_ne hfw (by decide)
    have kp21 := keeps_set kp0 hw17 (by first | exact rfl | decide | omega | (dsimp only; omega))
    refine x_aload_n C dX12_opens_29 rfl 0 rfl rfl ?_
    refine x_get C (ci := 11) (k := 15) 0 k19 rfl in_X12 (by decide) w_1133 rfl dX12_opens_30 rfl ?_
    refine x_aload_n C dX12_opens_33 rfl 0 rfl rfl ?_
    refine x_get C (ci := 11) (k := 11) 0 k19 rfl in_X12 (by decide) w_1129 rfl dX12_opens_34 rfl ?_
    refine x_ldc C w_1340 dX12_opens_37 rfl ?_
    refine x_iload_n C dX12_opens_39 rfl 1 rfl rfl ?_
    refine x_imul C (v := 13631488) dX12_opens_40 (by decide) rfl ?_
    obtain ⟨w22, hw23⟩ : ∃ w : va_W, w = List.set w16 6 (iA E (a 6) 260 (upd fw wt (13631488 : Int32))) := ⟨_, rfl⟩
    refine x_iask C wt (nI_clamp (by omega)) (nI_pos (by omega)) (by omega) 6 k20 hw23.symm dX12_opens_41 rfl ?_
    have hW24 : WX (okM E a cd) w22 := by rw [hw23]; exact hW18.set (k := 6) rfl ⟨_, rfl⟩
    have k25 : w22[0]? = some (ob (a 0) 11 [.ref (a 1), .ref (a 2), .ref (a 3), .ref (a 4), .int (nI tp), .int (nI pl), .int (nI le), .int v1, .int nu, .int v15, .int (nI cm), .int (nI wt), .int (nI sm), .int (nI (cd.2.2.2.2.2)), .ref (a 5), .ref (a 6), .ref (a 7), .ref (a 8), .ref (a 9), .ref (a 10), .ref (a 11), .ref (a 12), .ref (a 13), .ref (a 14), .ref (a 15), .ref (a 16), .ref (a 17), .int (nI lm), .ref (a 18), .ref (a 19), .ref (a 20), .ref (a 21), .int v3, .int v4, .int v5, .int v6, .int (nI n8), .int (nI n9), .ref (a 22), .ref (a 23), .ref (a 24), .ref (a 25), .ref (a 26), .ref (a 27), .ref (a 28), .ref (a 29), .ref (a 30), .int v7]) := by rw [hw23]; exact set_ne k19 (by decide)
    have k26 : w22[6]? = some (iA E (a 6) 260 (upd fw wt (13631488 : Int32))) := by rw [hw23]; exact set_eq k20
    have kp27 := keeps_set kp21 hw23 (by first | exact rfl | decide | omega | (dsimp only; omega))
    refine x_aload_n C dX12_opens_42 rfl 0 rfl rfl ?_
    refine x_aload_n C dX12_opens_43 rfl 0 rfl rfl ?_
    refine x_get C (ci := 11) (k := 11) 0 k25 rfl in_X12 (by decide) w_1129 rfl dX12_opens_44 rfl ?_
    refine x_iconst C (v := 1) dX12_opens_47 (by decide) rfl ?_
    refine x_iadd C (v := (nI (wt + 1))) dX12_opens_48 (nI_add wt 1) rfl ?_
    obtain ⟨w28, hw29⟩ : ∃ w : va_W, w = List.set w22 0 (ob (a 0) 11 [.ref (a 1), .ref (a 2), .ref (a 3), .ref (a 4), .int (nI tp), .int (nI pl), .int (nI le), .int v1, .int nu, .int v15, .int (nI cm), .int (nI (wt + 1)), .int (nI sm), .int (nI (cd.2.2.2.2.2)), .ref (a 5), .ref (a 6), .ref (a 7), .ref (a 8), .ref (a 9), .ref (a 10), .ref (a 11), .ref (a 12), .ref (a 13), .ref (a 14), .ref (a 15), .ref (a 16), .ref (a 17), .int (nI lm), .ref (a 18), .ref (a 19), .ref (a 20), .ref (a 21), .int v3, .int v4, .int v5, .int v6, .int (nI n8), .int (nI n9), .ref (a 22), .ref (a 23), .ref (a 24), .ref (a 25), .ref (a 26), .ref (a 27), .ref (a 28), .ref (a 29), .ref (a 30), .int v7]) := ⟨_, rfl⟩
    refine x_put C (ci := 11) (k := 11) (ty := .int) 0 k25 rfl in_X12 tyX12 tyX12_ok nmX12 (by decide) w_1129 rfl rfl rfl rfl (Nat.le_of_ble_eq_true rfl) hw29.symm dX12_opens_49 rfl ?_
    have hW30 : WX (okM E a cd) w28 := by rw [hw29]; exact hW24.set (k := 0) rfl ⟨tp, pl, le, v1, nu, v15, cm, (wt + 1), sm, lm, v3, v4, v5, v6, n8, n9, v7, by omega, by omega, by omega, by omega, by omega, by omega, by omega, by omega, by omega, zb12, rfl⟩
    have k31 : w28[0]? = some (ob (a 0) 11 [.ref (a 1), .ref (a 2), .ref (a 3), .ref (a 4), .int (nI tp), .int (nI pl), .int (nI le), .int v1, .int nu, .int v15, .int (nI cm), .int (nI (wt + 1)), .int (nI sm), .int (nI (cd.2.2.2.2.2)), .ref (a 5), .ref (a 6), .ref (a 7), .ref (a 8), .ref (a 9), .ref (a 10), .ref (a 11), .ref (a 12), .ref (a 13), .ref (a 14), .ref (a 15), .ref (a 16), .ref (a 17), .int (nI lm), .ref (a 18), .ref (a 19), .ref (a 20), .ref (a 21), .int v3, .int v4, .int v5, .int v6, .int (nI n8), .int (nI n9), .ref (a 22), .ref (a 23), .ref (a 24), .ref (a 25), .ref (a 26), .ref (a 27), .ref (a 28), .ref (a 29), .ref (a 30), .int v7]) := by rw [hw29]; exact set_eq k25
    have k32 : w28[6]? = some (iA E (a 6) 260 (upd fw wt (13631488 : Int32))) := by rw [hw29]; exact set_ne k26 (by decide)
    have kp33 := keeps_set kp27 hw29 (by first | exact rfl | decide | omega | (dsimp only; omega))
    refine x_aload_n C dX12_opens_52 rfl 0 rfl rfl ?_
    refine x_aload_n C dX12_opens_53 rfl 0 rfl rfl ?_
    refine x_get C (ci := 11) (k := 5) 0 k31 rfl in_X12 (by decide) w_1123 rfl dX12_opens_54 rfl ?_
    refine x_iconst C (v := 1) dX12_opens_57 (by decide) rfl ?_
    refine x_iadd C (v := (nI (pl + 1))) dX12_opens_58 (nI_add pl 1) rfl ?_
    obtain ⟨w34, hw35⟩ : ∃ w : va_W, w = List.set w28 0 (ob (a 0) 11 [.ref (a 1), .ref (a 2), .ref (a 3), .ref (a 4), .int (nI tp), .int (nI (pl + 1)), .int (nI le), .int v1, .int nu, .int v15, .int (nI cm), .int (nI (wt + 1)), .int (nI sm), .int (nI (cd.2.2.2.2.2)), .ref (a 5), .ref (a 6), .ref (a 7), .ref (a 8), .ref (a 9), .ref (a 10), .ref (a 11), .ref (a 12), .ref (a 13), .ref (a 14), .ref (a 15), .ref (a 16), .ref (a 17), .int (nI lm), .ref (a 18), .ref (a 19), .ref (a 20), .ref (a 21), .int v3, .int v4, .int v5, .int v6, .int (nI n8), .int (nI n9), .ref (a 22), .ref (a 23), .ref (a 24), .ref (a 25), .ref (a 26), .ref (a 27), .ref (a 28), .ref (a 29), .ref (a 30), .int v7]) := ⟨_, rfl⟩
    refine x_put C (ci := 11) (k := 5) (ty := .int) 0 k31 rfl in_X12 tyX12 tyX12_ok nmX12 (by decide) w_1123 rfl rfl rfl rfl (Nat.le_of_ble_eq_true rfl) hw35.symm dX12_opens_59 rfl ?_
    have hW36 : WX (okM E a cd) w34 := by rw [hw35]; exact hW30.set (k := 0) rfl ⟨tp, (pl + 1), le, v1, nu, v15, cm, (wt + 1), sm, lm, v3, v4, v5, v6, n8, n9, v7, by omega, by omega, by omega, by omega, by omega, by omega, by omega, by omega, by omega, zb12, rfl⟩
    have k37 : w34[0]? = some (ob (a 0) 11 [.ref (a 1), .ref (a 2), .ref (a 3), .ref (a 4), .int (nI tp), .int (nI (pl + 1)), .int (nI le), .int v1, .int nu, .int v15, .int (nI cm), .int (nI (wt + 1)), .int (nI sm), .int (nI (cd.2.2.2.2.2)), .ref (a 5), .ref (a 6), .ref (a 7), .ref (a 8), .ref (a 9), .ref (a 10), .ref (a 11), .ref (a 12), .ref (a 13), .ref (a 14), .ref (a 15), .ref (a 16), .ref (a 17), .int (nI lm), .ref (a 18), .ref (a 19), .ref (a 20), .ref (a 21), .int v3, .int v4, .int v5, .int v6, .int (nI n8), .int (nI n9), .ref (a 22), .ref (a 23), .ref (a 24), .ref (a 25), .ref (a 26), .ref (a 27), .ref (a 28), .ref (a 29), .ref (a 30), .int v7]) := by rw [hw35]; exact set_eq k31
    have k38 : w34[6]? = some (iA E (a 6) 260 (upd fw wt (13631488 : Int32))) := by rw [hw35]; exact set_ne k32 (by decide)
    have kp39 := keeps_set kp33 hw35 (by first | exact rfl | decide | omega | (dsimp only; omega))
    refine x_iconst C (v := 1) dX12_opens_62 (by decide) rfl ?_
    exact x_zret C hr hlk rfl dX12_opens_63 ⟨hW36, kp39, (Or.inr rfl), (Or.inr ⟨rfl, ⟨v1, v15, v3, v4, v5, v6, v7, n8, n9, ⟨by omega, by omega, by omega, by omega, by omega, by omega, by omega⟩, ⟨by omega, by omega⟩, zb12, k37⟩, k38⟩)⟩
  · skip
    refine x_aload_n C dX12_opens_9 rfl 0 rfl rfl ?_
    refine x_iconst C (v := 5) dX12_opens_10 (by decide) rfl ?_
    refine x_aload_n C dX12_opens_11 rfl 0 rfl rfl ?_
    refine x_get C (ci := 11) (k := 5) 0 k13 rfl in_X12 (by decide) w_1123 rfl dX12_opens_12 rfl ?_
    refine x_vi C (As := [.int 5, .int (nI pl)]) (rest := []) (m_wrongAt E l a cd hG ws hW (5 : Int32) ((nI pl)) tp pl le cm wt sm lm nu ⟨v1, v2, v3, v4, v5, v6, v7, n8, n9, ⟨by omega, by omega, by omega, by omega, by omega, by omega, by omega⟩, ⟨by omega, by omega⟩, zb12, k13⟩) mf_X12_wrongAt w_1324 0 k13 rfl rfl rfl (Nat.le_of_ble_eq_true rfl) ⟨(Nat.le_of_ble_eq_true rfl), (Nat.le_of_ble_eq_true rfl)⟩ ⟨(Nat.le_of_ble_eq_true rfl), (Nat.le_of_ble_eq_true rfl)⟩ dX12_opens_15 rfl (fun r41 w42 h40 => ?_)
    obtain ⟨hW43, kq44, e45, x46⟩ := h40
    refine x_top e45 ?_
    have k47 : w42[6]? = some (iA E (a 6) 260 fw) := keeps_at kq44 hfw (by first | decide | omega | (dsimp only; omega))
    have kp48 := keeps_tr kp0 kq44 (fun q hq => by first | omega | (dsimp only at *; omega))
    obtain ⟨v49, v50, v51, v52, v53, v54, v55, n56, n57, bo58, bo59, zb60, k61⟩ := x46
    exact x_zret C hr hlk rfl dX12_opens_18 ⟨hW43, kp48, (Or.inl rfl), (Or.inl ⟨rfl, ⟨v49, v50, v51, v52, v53, v54, v55, n56, n57, ⟨by omega, by omega, by omega, by omega, by omega, by omega, by omega⟩, ⟨by omega, by omega⟩, zb60, k61⟩, k47⟩)⟩
set_option maxRecDepth 20000 in
set_option maxHeartbeats 4000000 in
theorem m_opens14 (E : xE) (l : Launch) (a : Nat → Nat) (cd : Cd) (hG : Good cd) (ws : va_W) (hW : WX (okM E a cd) ws) (tp pl le cm wt sm lm : Nat) (nu : Int32) (h0 : MO a cd ws tp pl le cm wt sm lm nu) (fw : Nat → Int32) (hfw : ws[6]? = some (iA E (a 6) 260 fw)) (hwt : wt ≤ 259) (hpl : pl ≤ 239) : xI E l yX12_opens cX12_opens 2 (some .boolean) 1 [.ref (a 0), .int 14] ws (fun r w => WX (okM E a cd) w ∧ keeps ws w (fun q => q = 0 ∨ q = 6) ∧ zb r ∧ ((r = 0 ∧ MO a cd w tp pl le cm wt sm lm nu ∧ w[6]? = some (iA E (a 6) 260 fw)) ∨ (r = 1 ∧ MO a cd w tp (pl + 1) le cm (wt + 1) sm lm nu ∧ w[6]? = some (iA E (a 6) 260 (upd fw wt (nI (1048576 * 14 + 0))))))) := by
  refine xI_start (lv := [(0, .ref (a 0)), (1, .int 14)]) RX12 (by decide) rfl (Nat.le_of_ble_eq_true rfl) rfl (fun p e s m below meth c A C hr hlk => ?_)
  have kp0 : keeps ws ws (fun q => q = 0 ∨ q = 6) := keeps_rf
  obtain ⟨v1, v2, v3, v4, v5, v6, v7, n8, n9, bo10, bo11, zb12, k13⟩ := h0
  refine x_aload_n C dX12_opens_0 rfl 0 rfl rfl ?_
  refine x_get C (ci := 11) (k := 9) 0 k13 rfl in_X12 (by decide) w_1127 rfl dX12_opens_1 rfl ?_
  refine x_bipush C (v := 6) dX12_opens_4 (by decide) rfl ?_
  refine x_icmp_ne C (tgt := 19) dX12_opens_6 (by decide) rfl (fun c14 => ?_) (fun c14 => ?_)
  · skip
    refine x_aload_n C dX12_opens_19 rfl 0 rfl rfl ?_
    refine x_aload_n C dX12_opens_20 rfl 0 rfl rfl ?_
    refine x_get C (ci := 11) (k := 9) 0 k13 rfl in_X12 (by decide) w_1127 rfl dX12_opens_21 rfl ?_
    refine x_iconst C (v := 1) dX12_opens_24 (by decide) rfl ?_
    refine x_iadd C (v := (v2 + (1 : Int32))) dX12_opens_25 rfl rfl ?_
    refine x_any (fun v15 => ?_)
    obtain ⟨w16, hw17⟩ : ∃ w : va_W, w = List.set ws 0 (ob (a 0) 11 [.ref (a 1), .ref (a 2), .ref (a 3), .ref (a 4), .int (nI tp), .int (nI pl), .int (nI le), .int v1, .int nu, .int v15, .int (nI cm), .int (nI wt), .int (nI sm), .int (nI (cd.2.2.2.2.2)), .ref (a 5), .ref (a 6), .ref (a 7), .ref (a 8), .ref (a 9), .ref (a 10), .ref (a 11), .ref (a 12), .ref (a 13), .ref (a 14), .ref (a 15), .ref (a 16), .ref (a 17), .int (nI lm), .ref (a 18), .ref (a 19), .ref (a 20), .ref (a 21), .int v3, .int v4, .int v5, .int v6, .int (nI n8), .int (nI n9), .ref (a 22), .ref (a 23), .ref (a 24), .ref (a 25), .ref (a 26), .ref (a 27), .ref (a 28), .ref (a 29), .ref (a 30), .int v7]) := ⟨_, rfl⟩
    refine x_put C (ci := 11) (k := 9) (ty := .int) 0 k13 rfl in_X12 tyX12 tyX12_ok nmX12 (by decide) w_1127 rfl rfl rfl rfl (Nat.le_of_ble_eq_true rfl) hw17.symm dX12_opens_26 rfl ?_
    have hW18 : WX (okM E a cd) w16 := by rw [hw17]; exact hW.set (k := 0) rfl ⟨tp, pl, le, v1, nu, v15, cm, wt, sm, lm, v3, v4, v5, v6, n8, n9, v7, by omega, by omega, by omega, by omega, by omega, by omega, by omega, by omega, by omega, zb12, rfl⟩
    have k19 : w16[0]? = some (ob (a 0) 11 [.ref (a 1), .ref (a 2), .ref (a 3), .ref (a 4), .int (nI tp), .int (nI pl), .int (nI le), .int v1, .int nu, .int v15, .int (nI cm), .int (nI wt), .int (nI sm), .int (nI (cd.2.2.2.2.2)), .ref (a 5), .ref (a 6), .ref (a 7), .ref (a 8), .ref (a 9), .ref (a 10), .ref (a 11), .ref (a 12), .ref (a 13), .ref (a 14), .ref (a 15), .ref (a 16), .ref (a 17), .int (nI lm), .ref (a 18), .ref (a 19), .ref (a 20), .ref (a 21), .int v3, .int v4, .int v5, .int v6, .int (nI n8), .int (nI n9), .ref (a 22), .ref (a 23), .ref (a 24), .ref (a 25), .ref (a 26), .ref (a 27), .ref (a 28), .ref (a 29), .ref (a 30), .int v7]) := by rw [hw17]; exact set_eq k13
    have k20 : w16[6]? = some (iA E (a 6) 260 fw) := by rw [hw17]; exact set_ne hfw (by decide)
    have kp21 := keeps_set kp0 hw17 (by first | exact rfl | decide | omega | (dsimp only; omega))
    refine x_aload_n C dX12_opens_29 rfl 0 rfl rfl ?_
    refine x_get C (ci := 11) (k := 15) 0 k19 rfl in_X12 (by decide) w_1133 rfl dX12_opens_30 rfl ?_
    refine x_aload_n C dX12_opens_33 rfl 0 rfl rfl ?_
    refine x_get C (ci := 11) (k := 11) 0 k19 rfl in_X12 (by decide) w_1129 rfl dX12_opens_34 rfl ?_
    refine x_ldc C w_1340 dX12_opens_37 rfl ?_
    refine x_iload_n C dX12_opens_39 rfl 1 rfl rfl ?_
    refine x_imul C (v := 14680064) dX12_opens_40 (by decide) rfl ?_
    obtain ⟨w22, hw23⟩ : ∃ w : va_W, w = List.set w16 6 (iA E (a 6) 260 (upd fw wt (14680064 : Int32))) := ⟨_, rfl⟩
    refine x_iask C wt (nI_clamp (by omega)) (nI_pos (by omega)) (by omega) 6 k20 hw23.symm dX12_opens_41 rfl ?_
    have hW24 : WX (okM E a cd) w22 := by rw [hw23]; exact hW18.set (k := 6) rfl ⟨_, rfl⟩
    have k25 : w22[0]? = some (ob (a 0) 11 [.ref (a 1), .ref (a 2), .ref (a 3), .ref (a 4), .int (nI tp), .int (nI pl), .int (nI le), .int v1, .int nu, .int v15, .int (nI cm), .int (nI wt), .int (nI sm), .int (nI (cd.2.2.2.2.2)), .ref (a 5), .ref (a 6), .ref (a 7), .ref (a 8), .ref (a 9), .ref (a 10), .ref (a 11), .ref (a 12), .ref (a 13), .ref (a 14), .ref (a 15), .ref (a 16), .ref (a 17), .int (nI lm), .ref (a 18), .ref (a 19), .ref (a 20), .ref (a 21), .int v3, .int v4, .int v5, .int v6, .int (nI n8), .int (nI n9), .ref (a 22), .ref (a 23), .ref (a 24), .ref (a 25), .ref (a 26), .ref (a 27), .ref (a 28), .ref (a 29), .ref (a 30), .int v7]) := by rw [hw23]; exact set_ne k19 (by decide)
    have k26 : w22[6]? = some (iA E (a 6) 260 (upd fw wt (14680064 : Int32))) := by rw [hw23]; exact set_eq k20
    have kp27 := keeps_set kp21 hw23 (by first | exact rfl | decide | omega | (dsimp only; omega))
    refine x_aload_n C dX12_opens_42 rfl 0 rfl rfl ?_
    refine x_aload_n C dX12_opens_43 rfl 0 rfl rfl ?_
    refine x_get C (ci := 11) (k := 11) 0 k25 rfl in_X12 (by decide) w_1129 rfl dX12_opens_44 rfl ?_
    refine x_iconst C (v := 1) dX12_opens_47 (by decide) rfl ?_
    refine x_iadd C (v := (nI (wt + 1))) dX12_opens_48 (nI_add wt 1) rfl ?_
    obtain ⟨w28, hw29⟩ : ∃ w : va_W, w = List.set w22 0 (ob (a 0) 11 [.ref (a 1), .ref (a 2), .ref (a 3), .ref (a 4), .int (nI tp), .int (nI pl), .int (nI le), .int v1, .int nu, .int v15, .int (nI cm), .int (nI (wt + 1)), .int (nI sm), .int (nI (cd.2.2.2.2.2)), .ref (a 5), .ref (a 6), .ref (a 7), .ref (a 8), .ref (a 9), .ref (a 10), .ref (a 11), .ref (a 12), .ref (a 13), .ref (a 14), .ref (a 15), .ref (a 16), .ref (a 17), .int (nI lm), .ref (a 18), .ref (a 19), .ref (a 20), .ref (a 21), .int v3, .int v4, .int v5, .int v6, .int (nI n8), .int (nI n9), .ref (a 22), .ref (a 23), .ref (a 24), .ref (a 25), .ref (a 26), .ref (a 27), .ref (a 28), .ref (a 29), .ref (a 30), .int v7]) := ⟨_, rfl⟩
    refine x_put C (ci := 11) (k := 11) (ty := .int) 0 k25 rfl in_X12 tyX12 tyX12_ok nmX12 (by decide) w_1129 rfl rfl rfl rfl (Nat.le_of_ble_eq_true rfl) hw29.symm dX12_opens_49 rfl ?_
    have hW30 : WX (okM E a cd) w28 := by rw [hw29]; exact hW24.set (k := 0) rfl ⟨tp, pl, le, v1, nu, v15, cm, (wt + 1), sm, lm, v3, v4, v5, v6, n8, n9, v7, by omega, by omega, by omega, by omega, by omega, by omega, by omega, by omega, by omega, zb12, rfl⟩
    have k31 : w28[0]? = some (ob (a 0) 11 [.ref (a 1), .ref (a 2), .ref (a 3), .ref (a 4), .int (nI tp), .int (nI pl), .int (nI le), .int v1, .int nu, .int v15, .int (nI cm), .int (nI (wt + 1)), .int (nI sm), .int (nI (cd.2.2.2.2.2)), .ref (a 5), .ref (a 6), .ref (a 7), .ref (a 8), .ref (a 9), .ref (a 10), .ref (a 11), .ref (a 12), .ref (a 13), .ref (a 14), .ref (a 15), .ref (a 16), .ref (a 17), .int (nI lm), .ref (a 18), .ref (a 19), .ref (a 20), .ref (a 21), .int v3, .int v4, .int v5, .int v6, .int (nI n8), .int (nI n9), .ref (a 22), .ref (a 23), .ref (a 24), .ref (a 25), .ref (a 26), .ref (a 27), .ref (a 28), .ref (a 29), .ref (a 30), .int v7]) := by rw [hw29]; exact set_eq k25
    have k32 : w28[6]? = some (iA E (a 6) 260 (upd fw wt (14680064 : Int32))) := by rw [hw29]; exact set_ne k26 (by decide)
    have kp33 := keeps_set kp27 hw29 (by first | exact rfl | decide | omega | (dsimp only; omega))
    refine x_aload_n C dX12_opens_52 rfl 0 rfl rfl ?_
    refine x_aload_n C dX12_opens_53 rfl 0 rfl rfl ?_
    refine x_get C (ci := 11) (k := 5) 0 k31 rfl in_X12 (by decide) w_1123 rfl dX12_opens_54 rfl ?_
    refine x_iconst C (v := 1) dX12_opens_57 (by decide) rfl ?_
    refine x_iadd C (v := (nI (pl + 1))) dX12_opens_58 (nI_add pl 1) rfl ?_
    obtain ⟨w34, hw35⟩ : ∃ w : va_W, w = List.set w28 0 (ob (a 0) 11 [.ref (a 1), .ref (a 2), .ref (a 3), .ref (a 4), .int (nI tp), .int (nI (pl + 1)), .int (nI le), .int v1, .int nu, .int v15, .int (nI cm), .int (nI (wt + 1)), .int (nI sm), .int (nI (cd.2.2.2.2.2)), .ref (a 5), .ref (a 6), .ref (a 7), .ref (a 8), .ref (a 9), .ref (a 10), .ref (a 11), .ref (a 12), .ref (a 13), .ref (a 14), .ref (a 15), .ref (a 16), .ref (a 17), .int (nI lm), .ref (a 18), .ref (a 19), .ref (a 20), .ref (a 21), .int v3, .int v4, .int v5, .int v6, .int (nI n8), .int (nI n9), .ref (a 22), .ref (a 23), .ref (a 24), .ref (a 25), .ref (a 26), .ref (a 27), .ref (a 28), .ref (a 29), .ref (a 30), .int v7]) := ⟨_, rfl⟩
    refine x_put C (ci := 11) (k := 5) (ty := .int) 0 k31 rfl in_X12 tyX12 tyX12_ok nmX12 (by decide) w_1123 rfl rfl rfl rfl (Nat.le_of_ble_eq_true rfl) hw35.symm dX12_opens_59 rfl ?_
    have hW36 : WX (okM E a cd) w34 := by rw [hw35]; exact hW30.set (k := 0) rfl ⟨tp, (pl + 1), le, v1, nu, v15, cm, (wt + 1), sm, lm, v3, v4, v5, v6, n8, n9, v7, by omega, by omega, by omega, by omega, by omega, by omega, by omega, by omega, by omega, zb12, rfl⟩
    have k37 : w34[0]? = some (ob (a 0) 11 [.ref (a 1), .ref (a 2), .ref (a 3), .ref (a 4), .int (nI tp), .int (nI (pl + 1)), .int (nI le), .int v1, .int nu, .int v15, .int (nI cm), .int (nI (wt + 1)), .int (nI sm), .int (nI (cd.2.2.2.2.2)), .ref (a 5), .ref (a 6), .ref (a 7), .ref (a 8), .ref (a 9), .ref (a 10), .ref (a 11), .ref (a 12), .ref (a 13), .ref (a 14), .ref (a 15), .ref (a 16), .ref (a 17), .int (nI lm), .ref (a 18), .ref (a 19), .ref (a 20), .ref (a 21), .int v3, .int v4, .int v5, .int v6, .int (nI n8), .int (nI n9), .ref (a 22), .ref (a 23), .ref (a 24), .ref (a 25), .ref (a 26), .ref (a 27), .ref (a 28), .ref (a 29), .ref (a 30), .int v7]) := by rw [hw35]; exact set_eq k31
    have k38 : w34[6]? = some (iA E (a 6) 260 (upd fw wt (14680064 : Int32))) := by rw [hw35]; exact set_ne k32 (by decide)
    have kp39 := keeps_set kp33 hw35 (by first | exact rfl | decide | omega | (dsimp only; omega))
    refine x_iconst C (v := 1) dX12_opens_62 (by decide) rfl ?_
    exact x_zret C hr hlk rfl dX12_opens_63 ⟨hW36, kp39, (Or.inr rfl), (Or.inr ⟨rfl, ⟨v1, v15, v3, v4, v5, v6, v7, n8, n9, ⟨by omega, by omega, by omega, by omega, by omega, by omega, by omega⟩, ⟨by omega, by omega⟩, zb12, k37⟩, k38⟩)⟩
  · skip
    refine x_aload_n C dX12_opens_9 rfl 0 rfl rfl ?_
    refine x_iconst C (v := 5) dX12_opens_10 (by decide) rfl ?_
    refine x_aload_n C dX12_opens_11 rfl 0 rfl rfl ?_
    refine x_get C (ci := 11) (k := 5) 0 k13 rfl in_X12 (by decide) w_1123 rfl dX12_opens_12 rfl ?_
    refine x_vi C (As := [.int 5, .int (nI pl)]) (rest := []) (m_wrongAt E l a cd hG ws hW (5 : Int32) ((nI pl)) tp pl le cm wt sm lm nu ⟨v1, v2, v3, v4, v5, v6, v7, n8, n9, ⟨by omega, by omega, by omega, by omega, by omega, by omega, by omega⟩, ⟨by omega, by omega⟩, zb12, k13⟩) mf_X12_wrongAt w_1324 0 k13 rfl rfl rfl (Nat.le_of_ble_eq_true rfl) ⟨(Nat.le_of_ble_eq_true rfl), (Nat.le_of_ble_eq_true rfl)⟩ ⟨(Nat.le_of_ble_eq_true rfl), (Nat.le_of_ble_eq_true rfl)⟩ dX12_opens_15 rfl (fun r41 w42 h40 => ?_)
    obtain ⟨hW43, kq44, e45, x46⟩ := h40
    refine x_top e45 ?_
    have k47 : w42[6]? = some (iA E (a 6) 260 fw) := keeps_at kq44 hfw (by first | decide | omega | (dsimp only; omega))
    have kp48 := keeps_tr kp0 kq44 (fun q hq => by first | omega | (dsimp only at *; omega))
    obtain ⟨v49, v50, v51, v52, v53, v54, v55, n56, n57, bo58, bo59, zb60, k61⟩ := x46
    exact x_zret C hr hlk rfl dX12_opens_18 ⟨hW43, kp48, (Or.inl rfl), (Or.inl ⟨rfl, ⟨v49, v50, v51, v52, v53, v54, v55, n56, n57, ⟨by omega, by omega, by omega, by omega, by omega, by omega, by omega⟩, ⟨by omega, by omega⟩, zb60, k61⟩, k47⟩)⟩
theorem dX12_waitTop_0 : decode cX12_waitTop 0 = .ok (.aload_n 0, 1) := by decide +kernel
theorem dX12_waitTop_1 : decode cX12_waitTop 1 = .ok (.getfield 161, 3) := by decide +kernel
theorem dX12_waitTop_4 : decode cX12_waitTop 4 = .ok (.ifCond .ne 7, 3) := by decide +kernel
theorem dX12_waitTop_7 : decode cX12_waitTop 7 = .ok (.iconst (-1), 1) := by decide +kernel
theorem dX12_waitTop_8 : decode cX12_waitTop 8 = .ok (.goto 17, 3) := by decide +kernel
theorem dX12_waitTop_11 : decode cX12_waitTop 11 = .ok (.aload_n 0, 1) := by decide +kernel
theorem dX12_waitTop_12 : decode cX12_waitTop 12 = .ok (.getfield 26, 3) := by decide +kernel
theorem dX12_waitTop_15 : decode cX12_waitTop 15 = .ok (.aload_n 0, 1) := by decide +kernel
theorem dX12_waitTop_16 : decode cX12_waitTop 16 = .ok (.getfield 161, 3) := by decide +kernel
theorem dX12_waitTop_19 : decode cX12_waitTop 19 = .ok (.iconst 1, 1) := by decide +kernel
theorem dX12_waitTop_20 : decode cX12_waitTop 20 = .ok (.isub, 1) := by decide +kernel
theorem dX12_waitTop_21 : decode cX12_waitTop 21 = .ok (.iaload, 1) := by decide +kernel
theorem dX12_waitTop_22 : decode cX12_waitTop 22 = .ok (.ldc 157, 2) := by decide +kernel
theorem dX12_waitTop_24 : decode cX12_waitTop 24 = .ok (.idiv, 1) := by decide +kernel
theorem dX12_waitTop_25 : decode cX12_waitTop 25 = .ok (.ireturn, 1) := by decide +kernel
set_option maxRecDepth 20000 in
set_option maxHeartbeats 4000000 in
theorem m_waitTop (E : xE) (l : Launch) (a : Nat → Nat) (cd : Cd) (hG : Good cd) (ws : va_W) (hW : WX (okM E a cd) ws) (tp pl le cm wt sm lm : Nat) (nu : Int32) (h0 : MO a cd ws tp pl le cm wt sm lm nu) (fw : Nat → Int32) (hfw : ws[6]? = some (iA E (a 6) 260 fw)) (W : WL) (hwr : wR fw W wt) : xI E l yX12_waitTop cX12_waitTop 1 (some .int) 0 [.ref (a 0)] ws (fun r w => w = ws ∧ (r = wtop W)) := by
  refine xI_start (lv := [(0, .ref (a 0))]) RX12 (by decide) rfl (Nat.le_of_ble_eq_true rfl) rfl (fun p e s m below meth c A C hr hlk => ?_)
  obtain ⟨v1, v2, v3, v4, v5, v6, v7, n8, n9, bo10, bo11, zb12, k13⟩ := h0
  refine x_aload_n C dX12_waitTop_0 rfl 0 rfl rfl ?_
  refine x_get C (ci := 11) (k := 11) 0 k13 rfl in_X12 (by decide) w_1129 rfl dX12_waitTop_1 rfl ?_
  refine x_if_ne C (tgt := 11) dX12_waitTop_4 (by decide) rfl (fun c14 => ?_) (fun c14 => ?_)
  · skip
    have nf15 : ¬ wt = 0 := fun q => c14 (congrArg nI q)
    refine x_aload_n C dX12_waitTop_11 rfl 0 rfl rfl ?_
    refine x_get C (ci := 11) (k := 15) 0 k13 rfl in_X12 (by decide) w_1133 rfl dX12_waitTop_12 rfl ?_
    refine x_aload_n C dX12_waitTop_15 rfl 0 rfl rfl ?_
    refine x_get C (ci := 11) (k := 11) 0 k13 rfl in_X12 (by decide) w_1129 rfl dX12_waitTop_16 rfl ?_
    refine x_iconst C (v := 1) dX12_waitTop_19 (by decide) rfl ?_
    refine x_isub C (v := (nI (wt - 1))) dX12_waitTop_20 (pk_sub (a := wt) (b := 1) (by omega)) rfl ?_
    refine x_ialk C (v := (fw (wt - 1))) (wt - 1) (nI_clamp (by omega)) (nI_pos (by omega)) (by omega) 6 hfw rfl dX12_waitTop_21 rfl ?_
    obtain ⟨op, pay, ew, ho, hp, hw⟩ := wtop_cons hwr (by omega)
    refine x_top ew ?_
    refine x_ldc C w_1340 dX12_waitTop_22 rfl ?_
    refine x_idiv C (v := (nI op)) dX12_waitTop_24 (by decide) (divW ho hp) rfl ?_
    exact x_zret C hr hlk rfl dX12_waitTop_25 ⟨rfl, hw⟩
  · skip
    have nf16 : wt = 0 := (nI_eq (by omega) (by omega)).mp c14
    refine x_iconst C (v := (-1)) dX12_waitTop_7 (by decide) rfl ?_
    refine x_goto C (tgt := 25) dX12_waitTop_8 (by decide) ?_
    exact x_zret C hr hlk rfl dX12_waitTop_25 ⟨rfl, (wtop_nil hwr (by omega)).symm⟩
theorem dX12_factOf_0 : decode cX12_factOf 0 = .ok (.iload_n 0, 1) := by decide +kernel
theorem dX12_factOf_1 : decode cX12_factOf 1 = .ok (.tableswitch 142 97 121 #[127, 142, 130, 115, 142, 142, 142, 142, 136, 142, 121, 142, 125, 139, 133, 142, 142, 123, 142, 142, 142, 142, 117, 142, 119], 115) := by decide +kernel
theorem dX12_factOf_116 : decode cX12_factOf 116 = .ok (.iconst 0, 1) := by decide +kernel
theorem dX12_factOf_117 : decode cX12_factOf 117 = .ok (.ireturn, 1) := by decide +kernel
theorem dX12_factOf_118 : decode cX12_factOf 118 = .ok (.iconst 1, 1) := by decide +kernel
theorem dX12_factOf_119 : decode cX12_factOf 119 = .ok (.ireturn, 1) := by decide +kernel
theorem dX12_factOf_120 : decode cX12_factOf 120 = .ok (.iconst 2, 1) := by decide +kernel
theorem dX12_factOf_121 : decode cX12_factOf 121 = .ok (.ireturn, 1) := by decide +kernel
theorem dX12_factOf_122 : decode cX12_factOf 122 = .ok (.iconst 3, 1) := by decide +kernel
theorem dX12_factOf_123 : decode cX12_factOf 123 = .ok (.ireturn, 1) := by decide +kernel
theorem dX12_factOf_124 : decode cX12_factOf 124 = .ok (.iconst 4, 1) := by decide +kernel
theorem dX12_factOf_125 : decode cX12_factOf 125 = .ok (.ireturn, 1) := by decide +kernel
theorem dX12_factOf_126 : decode cX12_factOf 126 = .ok (.iconst 5, 1) := by decide +kernel
theorem dX12_factOf_127 : decode cX12_factOf 127 = .ok (.ireturn, 1) := by decide +kernel
theorem dX12_factOf_128 : decode cX12_factOf 128 = .ok (.bipush 6, 2) := by decide +kernel
theorem dX12_factOf_130 : decode cX12_factOf 130 = .ok (.ireturn, 1) := by decide +kernel
theorem dX12_factOf_131 : decode cX12_factOf 131 = .ok (.bipush 7, 2) := by decide +kernel
theorem dX12_factOf_133 : decode cX12_factOf 133 = .ok (.ireturn, 1) := by decide +kernel
theorem dX12_factOf_134 : decode cX12_factOf 134 = .ok (.bipush 8, 2) := by decide +kernel
theorem dX12_factOf_136 : decode cX12_factOf 136 = .ok (.ireturn, 1) := by decide +kernel
theorem dX12_factOf_137 : decode cX12_factOf 137 = .ok (.bipush 9, 2) := by decide +kernel
theorem dX12_factOf_139 : decode cX12_factOf 139 = .ok (.ireturn, 1) := by decide +kernel
theorem dX12_factOf_140 : decode cX12_factOf 140 = .ok (.bipush 10, 2) := by decide +kernel
theorem dX12_factOf_142 : decode cX12_factOf 142 = .ok (.ireturn, 1) := by decide +kernel
theorem dX12_factOf_143 : decode cX12_factOf 143 = .ok (.iconst (-1), 1) := by decide +kernel
theorem dX12_factOf_144 : decode cX12_factOf 144 = .ok (.ireturn, 1) := by decide +kernel
set_option maxRecDepth 20000 in
set_option maxHeartbeats 4000000 in
theorem m_factOf (E : xE) (l : Launch) (a : Nat → Nat) (cd : Cd) (hG : Good cd) (ws : va_W) (hW : WX (okM E a cd) ws) (p0 : Int32) : xI E l yX12_factOf cX12_factOf 1 (some .int) 0 [.int p0] ws (fun r w => w = ws ∧ (r = -1 ∨ ∃ n : Nat, n ≤ 10 ∧ r = nI n ∧ ¬ p0 = -1)) := by
  refine xI_start (lv := [(0, .int p0)]) RX12 (by decide) rfl (Nat.le_of_ble_eq_true rfl) rfl (fun p e s m below meth c A C hr hlk => ?_)
  refine x_iload_n C dX12_factOf_0 rfl 0 rfl rfl ?_
  by_cases s1 : (p0).toInt < 97
  · refine x_tabOut C (tgt := 143) dX12_factOf_1 (Or.inl s1) (by decide) ?_
    refine x_iconst C (v := (-1)) dX12_factOf_143 (by decide) rfl ?_
    exact x_zret C hr hlk rfl dX12_factOf_144 ⟨rfl, (Or.inl rfl)⟩
  by_cases s2 : 121 < (p0).toInt
  · refine x_tabOut C (tgt := 143) dX12_factOf_1 (Or.inr s2) (by decide) ?_
    refine x_iconst C (v := (-1)) dX12_factOf_143 (by decide) rfl ?_
    exact x_zret C hr hlk rfl dX12_factOf_144 ⟨rfl, (Or.inl rfl)⟩
  by_cases s3 : p0 = 97
  · refine x_tabIn C (tgt := 128) dX12_factOf_1 (by rw [s3]; decide) (by rw [s3]; decide) (by rw [s3]; rfl) (by decide) ?_
    refine x_bipush C (v := 6) dX12_factOf_128 (by decide) rfl ?_
    exact x_zret C hr hlk rfl dX12_factOf_130 ⟨rfl, (Or.inr ⟨6, by omega, rfl, by rw [s3]; decide⟩)⟩
  have zs3 := sw_ne (by decide : (97 : Int32).toInt = 97) s3
  by_cases s4 : p0 = 98
  · refine x_tabIn C (tgt := 143) dX12_factOf_1 (by rw [s4]; decide) (by rw [s4]; decide) (by rw [s4]; rfl) (by decide) ?_
    refine x_iconst C (v := (-1)) dX12_factOf_143 (by decide) rfl ?_
    exact x_zret C hr hlk rfl dX12_factOf_144 ⟨rfl, (Or.inl rfl)⟩
  have zs4 := sw_ne (by decide : (98 : Int32).toInt = 98) s4
  by_cases s5 : p0 = 99
  · refine x_tabIn C (tgt := 131) dX12_factOf_1 (by rw [s5]; decide) (by rw [s5]; decide) (by rw [s5]; rfl) (by decide) ?_
    refine x_bipush C (v := 7) dX12_factOf_131 (by decide) rfl ?_
    exact x_zret C hr hlk rfl dX12_factOf_133 ⟨rfl, (Or.inr ⟨7, by omega, rfl, by rw [s5]; decide⟩)⟩
  have zs5 := sw_ne (by decide : (99 : Int32).toInt = 99) s5
  by_cases s6 : p0 = 100
  · refine x_tabIn C (tgt := 116) dX12_factOf_1 (by rw [s6]; decide) (by rw [s6]; decide) (by rw [s6]; rfl) (by decide) ?_
    refine x_iconst C (v := 0) dX12_factOf_116 (by decide) rfl ?_
    exact x_zret C hr hlk rfl dX12_factOf_117 ⟨rfl, (Or.inr ⟨0, by omega, rfl, by rw [s6]; decide⟩)⟩
  have zs6 := sw_ne (by decide : (100 : Int32).toInt = 100) s6
  by_cases s7 : p0 = 101
  · refine x_tabIn C (tgt := 143) dX12_factOf_1 (by rw [s7]; decide) (by rw [s7]; decide) (by rw [s7]; rfl) (by decide) ?_
    refine x_iconst C (v := (-1)) dX12_factOf_143 (by decide) rfl ?_
    exact x_zret C hr hlk rfl dX12_factOf_144 ⟨rfl, (Or.inl rfl)⟩
  have zs7 := sw_ne (by decide : (101 : Int32).toInt = 101) s7
  by_cases s8 : p0 = 102
  · refine x_tabIn C (tgt := 143) dX12_factOf_1 (by rw [s8]; decide) (by rw [s8]; decide) (by rw [s8]; rfl) (by decide) ?_
    refine x_iconst C (v := (-1)) dX12_factOf_143 (by decide) rfl ?_
    exact x_zret C hr hlk rfl dX12_factOf_144 ⟨rfl, (Or.inl rfl)⟩
  have zs8 := sw_ne (by decide : (102 : Int32).toInt = 102) s8
  by_cases s9 : p0 = 103
  · refine x_tabIn C (tgt := 143) dX12_factOf_1 (by rw [s9]; decide) (by rw [s9]; decide) (by rw [s9]; rfl) (by decide) ?_
    refine x_iconst C (v := (-1)) dX12_factOf_143 (by decide) rfl ?_
    exact x_zret C hr hlk rfl dX12_factOf_144 ⟨rfl, (Or.inl rfl)⟩
  have zs9 := sw_ne (by decide : (103 : Int32).toInt = 103) s9
  by_cases s10 : p0 = 104
  · refine x_tabIn C (tgt := 143) dX12_factOf_1 (by rw [s10]; decide) (by rw [s10]; decide) (by rw [s10]; rfl) (by decide) ?_
    refine x_iconst C (v := (-1)) dX12_factOf_143 (by decide) rfl ?_
    exact x_zret C hr hlk rfl dX12_factOf_144 ⟨rfl, (Or.inl rfl)⟩
  have zs10 := sw_ne (by decide : (104 : Int32).toInt = 104) s10
  by_cases s11 : p0 = 105
  · refine x_tabIn C (tgt := 137) dX12_factOf_1 (by rw [s11]; decide) (by rw [s11]; decide) (by rw [s11]; rfl) (by decide) ?_
    refine x_bipush C (v := 9) dX12_factOf_137 (by decide) rfl ?_
    exact x_zret C hr hlk rfl dX12_factOf_139 ⟨rfl, (Or.inr ⟨9, by omega, rfl, by rw [s11]; decide⟩)⟩
  have zs11 := sw_ne (by decide : (105 : Int32).toInt = 105) s11
  by_cases s12 : p0 = 106
  · refine x_tabIn C (tgt := 143) dX12_factOf_1 (by rw [s12]; decide) (by rw [s12]; decide) (by rw [s12]; rfl) (by decide) ?_
    refine x_iconst C (v := (-1)) dX12_factOf_143 (by decide) rfl ?_
    exact x_zret C hr hlk rfl dX12_factOf_144 ⟨rfl, (Or.inl rfl)⟩
  have zs12 := sw_ne (by decide : (106 : Int32).toInt = 106) s12
  by_cases s13 : p0 = 107
  · refine x_tabIn C (tgt := 122) dX12_factOf_1 (by rw [s13]; decide) (by rw [s13]; decide) (by rw [s13]; rfl) (by decide) ?_
    refine x_iconst C (v := 3) dX12_factOf_122 (by decide) rfl ?_
    exact x_zret C hr hlk rfl dX12_factOf_123 ⟨rfl, (Or.inr ⟨3, by omega, rfl, by rw [s13]; decide⟩)⟩
  have zs13 := sw_ne (by decide : (107 : Int32).toInt = 107) s13
  by_cases s14 : p0 = 108
  · refine x_tabIn C (tgt := 143) dX12_factOf_1 (by rw [s14]; decide) (by rw [s14]; decide) (by rw [s14]; rfl) (by decide) ?_
    refine x_iconst C (v := (-1)) dX12_factOf_143 (by decide) rfl ?_
    exact x_zret C hr hlk rfl dX12_factOf_144 ⟨rfl, (Or.inl rfl)⟩
  have zs14 := sw_ne (by decide : (108 : Int32).toInt = 108) s14
  by_cases s15 : p0 = 109
  · refine x_tabIn C (tgt := 126) dX12_factOf_1 (by rw [s15]; decide) (by rw [s15]; decide) (by rw [s15]; rfl) (by decide) ?_
    refine x_iconst C (v := 5) dX12_factOf_126 (by decide) rfl ?_
    exact x_zret C hr hlk rfl dX12_factOf_127 ⟨rfl, (Or.inr ⟨5, by omega, rfl, by rw [s15]; decide⟩)⟩
  have zs15 := sw_ne (by decide : (109 : Int32).toInt = 109) s15
  by_cases s16 : p0 = 110
  · refine x_tabIn C (tgt := 140) dX12_factOf_1 (by rw [s16]; decide) (by rw [s16]; decide) (by rw [s16]; rfl) (by decide) ?_
    refine x_bipush C (v := 10) dX12_factOf_140 (by decide) rfl ?_
    exact x_zret C hr hlk rfl dX12_factOf_142 ⟨rfl, (Or.inr ⟨10, by omega, rfl, by rw [s16]; decide⟩)⟩
  have zs16 := sw_ne (by decide : (110 : Int32).toInt = 110) s16
  by_cases s17 : p0 = 111
  · refine x_tabIn C (tgt := 134) dX12_factOf_1 (by rw [s17]; decide) (by rw [s17]; decide) (by rw [s17]; rfl) (by decide) ?_
    refine x_bipush C (v := 8) dX12_factOf_134 (by decide) rfl ?_
    exact x_zret C hr hlk rfl dX12_factOf_136 ⟨rfl, (Or.inr ⟨8, by omega, rfl, by rw [s17]; decide⟩)⟩
  have zs17 := sw_ne (by decide : (111 : Int32).toInt = 111) s17
  by_cases s18 : p0 = 112
  · refine x_tabIn C (tgt := 143) dX12_factOf_1 (by rw [s18]; decide) (by rw [s18]; decide) (by rw [s18]; rfl) (by decide) ?_
    refine x_iconst C (v := (-1)) dX12_factOf_143 (by decide) rfl ?_
    exact x_zret C hr hlk rfl dX12_factOf_144 ⟨rfl, (Or.inl rfl)⟩
  have zs18 := sw_ne (by decide : (112 : Int32).toInt = 112) s18
  by_cases s19 : p0 = 113
  · refine x_tabIn C (tgt := 143) dX12_factOf_1 (by rw [s19]; decide) (by rw [s19]; decide) (by rw [s19]; rfl) (by decide) ?_
    refine x_iconst C (v := (-1)) dX12_factOf_143 (by decide) rfl ?_
    exact x_zret C hr hlk rfl dX12_factOf_144 ⟨rfl, (Or.inl rfl)⟩
  have zs19 := sw_ne (by decide : (113 : Int32).toInt = 113) s19
  by_cases s20 : p0 = 114
  · refine x_tabIn C (tgt := 124) dX12_factOf_1 (by rw [s20]; decide) (by rw [s20]; decide) (by rw [s20]; rfl) (by decide) ?_
    refine x_iconst C (v := 4) dX12_factOf_124 (by decide) rfl ?_
    exact x_zret C hr hlk rfl dX12_factOf_125 ⟨rfl, (Or.inr ⟨4, by omega, rfl, by rw [s20]; decide⟩)⟩
  have zs20 := sw_ne (by decide : (114 : Int32).toInt = 114) s20
  by_cases s21 : p0 = 115
  · refine x_tabIn C (tgt := 143) dX12_factOf_1 (by rw [s21]; decide) (by rw [s21]; decide) (by rw [s21]; rfl) (by decide) ?_
    refine x_iconst C (v := (-1)) dX12_factOf_143 (by decide) rfl ?_
    exact x_zret C hr hlk rfl dX12_factOf_144 ⟨rfl, (Or.inl rfl)⟩
  have zs21 := sw_ne (by decide : (115 : Int32).toInt = 115) s21
  by_cases s22 : p0 = 116
  · refine x_tabIn C (tgt := 143) dX12_factOf_1 (by rw [s22]; decide) (by rw [s22]; decide) (by rw [s22]; rfl) (by decide) ?_
    refine x_iconst C (v := (-1)) dX12_factOf_143 (by decide) rfl ?_
    exact x_zret C hr hlk rfl dX12_factOf_144 ⟨rfl, (Or.inl rfl)⟩
  have zs22 := sw_ne (by decide : (116 : Int32).toInt = 116) s22
  by_cases s23 : p0 = 117
  · refine x_tabIn C (tgt := 143) dX12_factOf_1 (by rw [s23]; decide) (by rw [s23]; decide) (by rw [s23]; rfl) (by decide) ?_
    refine x_iconst C (v := (-1)) dX12_factOf_143 (by decide) rfl ?_
    exact x_zret C hr hlk rfl dX12_factOf_144 ⟨rfl, (Or.inl rfl)⟩
  have zs23 := sw_ne (by decide : (117 : Int32).toInt = 117) s23
  by_cases s24 : p0 = 118
  · refine x_tabIn C (tgt := 143) dX12_factOf_1 (by rw [s24]; decide) (by rw [s24]; decide) (by rw [s24]; rfl) (by decide) ?_
    refine x_iconst C (v := (-1)) dX12_factOf_143 (by decide) rfl ?_
    exact x_zret C hr hlk rfl dX12_factOf_144 ⟨rfl, (Or.inl rfl)⟩
  have zs24 := sw_ne (by decide : (118 : Int32).toInt = 118) s24
  by_cases s25 : p0 = 119
  · refine x_tabIn C (tgt := 118) dX12_factOf_1 (by rw [s25]; decide) (by rw [s25]; decide) (by rw [s25]; rfl) (by decide) ?_
    refine x_iconst C (v := 1) dX12_factOf_118 (by decide) rfl ?_
    exact x_zret C hr hlk rfl dX12_factOf_119 ⟨rfl, (Or.inr ⟨1, by omega, rfl, by rw [s25]; decide⟩)⟩
  have zs25 := sw_ne (by decide : (119 : Int32).toInt = 119) s25
  by_cases s26 : p0 = 120
  · refine x_tabIn C (tgt := 143) dX12_factOf_1 (by rw [s26]; decide) (by rw [s26]; decide) (by rw [s26]; rfl) (by decide) ?_
    refine x_iconst C (v := (-1)) dX12_factOf_143 (by decide) rfl ?_
    exact x_zret C hr hlk rfl dX12_factOf_144 ⟨rfl, (Or.inl rfl)⟩
  have zs26 := sw_ne (by decide : (120 : Int32).toInt = 120) s26
  have s27 : p0 = 121 := sw_last (n := 121) (by decide) s1 s2 (by omega)
  refine x_tabIn C (tgt := 120) dX12_factOf_1 (by rw [s27]; decide) (by rw [s27]; decide) (by rw [s27]; rfl) (by decide) ?_
  refine x_iconst C (v := 2) dX12_factOf_120 (by decide) rfl ?_
  exact x_zret C hr hlk rfl dX12_factOf_121 ⟨rfl, (Or.inr ⟨2, by omega, rfl, by rw [s27]; decide⟩)⟩
theorem dX12_sumSign_0 : decode cX12_sumSign 0 = .ok (.iload_n 0, 1) := by decide +kernel
theorem dX12_sumSign_1 : decode cX12_sumSign 1 = .ok (.bipush 43, 2) := by decide +kernel
theorem dX12_sumSign_3 : decode cX12_sumSign 3 = .ok (.if_icmp .ne 7, 3) := by decide +kernel
theorem dX12_sumSign_6 : decode cX12_sumSign 6 = .ok (.iconst 2, 1) := by decide +kernel
theorem dX12_sumSign_7 : decode cX12_sumSign 7 = .ok (.goto 45, 3) := by decide +kernel
theorem dX12_sumSign_10 : decode cX12_sumSign 10 = .ok (.iload_n 0, 1) := by decide +kernel
theorem dX12_sumSign_11 : decode cX12_sumSign 11 = .ok (.bipush 45, 2) := by decide +kernel
theorem dX12_sumSign_13 : decode cX12_sumSign 13 = .ok (.if_icmp .ne 7, 3) := by decide +kernel
theorem dX12_sumSign_16 : decode cX12_sumSign 16 = .ok (.iconst 3, 1) := by decide +kernel
theorem dX12_sumSign_17 : decode cX12_sumSign 17 = .ok (.goto 35, 3) := by decide +kernel
theorem dX12_sumSign_20 : decode cX12_sumSign 20 = .ok (.iload_n 0, 1) := by decide +kernel
theorem dX12_sumSign_21 : decode cX12_sumSign 21 = .ok (.bipush 42, 2) := by decide +kernel
theorem dX12_sumSign_23 : decode cX12_sumSign 23 = .ok (.if_icmp .ne 7, 3) := by decide +kernel
theorem dX12_sumSign_26 : decode cX12_sumSign 26 = .ok (.iconst 4, 1) := by decide +kernel
theorem dX12_sumSign_27 : decode cX12_sumSign 27 = .ok (.goto 25, 3) := by decide +kernel
theorem dX12_sumSign_30 : decode cX12_sumSign 30 = .ok (.iload_n 0, 1) := by decide +kernel
theorem dX12_sumSign_31 : decode cX12_sumSign 31 = .ok (.bipush 47, 2) := by decide +kernel
theorem dX12_sumSign_33 : decode cX12_sumSign 33 = .ok (.if_icmp .ne 7, 3) := by decide +kernel
theorem dX12_sumSign_36 : decode cX12_sumSign 36 = .ok (.iconst 5, 1) := by decide +kernel
theorem dX12_sumSign_37 : decode cX12_sumSign 37 = .ok (.goto 15, 3) := by decide +kernel
theorem dX12_sumSign_40 : decode cX12_sumSign 40 = .ok (.iload_n 0, 1) := by decide +kernel
theorem dX12_sumSign_41 : decode cX12_sumSign 41 = .ok (.bipush 37, 2) := by decide +kernel
theorem dX12_sumSign_43 : decode cX12_sumSign 43 = .ok (.if_icmp .ne 8, 3) := by decide +kernel
theorem dX12_sumSign_46 : decode cX12_sumSign 46 = .ok (.bipush 6, 2) := by decide +kernel
theorem dX12_sumSign_48 : decode cX12_sumSign 48 = .ok (.goto 4, 3) := by decide +kernel
theorem dX12_sumSign_51 : decode cX12_sumSign 51 = .ok (.iconst (-1), 1) := by decide +kernel
theorem dX12_sumSign_52 : decode cX12_sumSign 52 = .ok (.ireturn, 1) := by decide +kernel
set_option maxRecDepth 20000 in
set_option maxHeartbeats 4000000 in
theorem m_sumSign (E : xE) (l : Launch) (a : Nat → Nat) (cd : Cd) (hG : Good cd) (ws : va_W) (hW : WX (okM E a cd) ws) (p0 : Int32) : xI E l yX12_sumSign cX12_sumSign 1 (some .int) 0 [.int p0] ws (fun r w => w = ws ∧ (r = -1 ∨ ∃ n : Nat, (2 ≤ n ∧ n ≤ 6) ∧ r = nI n ∧ ¬ p0 = -1)) := by
  refine xI_start (lv := [(0, .int p0)]) RX12 (by decide) rfl (Nat.le_of_ble_eq_true rfl) rfl (fun p e s m below meth c A C hr hlk => ?_)
  refine x_iload_n C dX12_sumSign_0 rfl 0 rfl rfl ?_
  refine x_bipush C (v := 43) dX12_sumSign_1 (by decide) rfl ?_
  refine x_icmp_ne C (tgt := 10) dX12_sumSign_3 (by decide) rfl (fun c1 => ?_) (fun c1 => ?_)
  · skip
    refine x_iload_n C dX12_sumSign_10 rfl 0 rfl rfl ?_
    refine x_bipush C (v := 45) dX12_sumSign_11 (by decide) rfl ?_
    refine x_icmp_ne C (tgt := 20) dX12_sumSign_13 (by decide) rfl (fun c2 => ?_) (fun c2 => ?_)
    · skip
      refine x_iload_n C dX12_sumSign_20 rfl 0 rfl rfl ?_
      refine x_bipush C (v := 42) dX12_sumSign_21 (by decide) rfl ?_
      refine x_icmp_ne C (tgt := 30) dX12_sumSign_23 (by decide) rfl (fun c3 => ?_) (fun c3 => ?_)
      · skip
        refine x_iload_n C dX12_sumSign_30 rfl 0 rfl rfl ?_
        refine x_bipush C (v := 47) dX12_sumSign_31 (by decide) rfl ?_
        refine x_icmp_ne C (tgt := 40) dX12_sumSign_33 (by decide) rfl (fun c4 => ?_) (fun c4 => ?_)
        · skip
          refine x_iload_n C dX12_sumSign_40 rfl 0 rfl rfl ?_
          refine x_bipush C (v := 37) dX12_sumSign_41 (by decide) rfl ?_
          refine x_icmp_ne C (tgt := 51) dX12_sumSign_43 (by decide) rfl (fun c5 => ?_) (fun c5 => ?_)
          · skip
            refine x_iconst C (v := (-1)) dX12_sumSign_51 (by decide) rfl ?_
            exact x_zret C hr hlk rfl dX12_sumSign_52 ⟨rfl, (Or.inl rfl)⟩
          · skip
            refine x_bipush C (v := 6) dX12_sumSign_46 (by decide) rfl ?_
            refine x_goto C (tgt := 52) dX12_sumSign_48 (by decide) ?_
            exact x_zret C hr hlk rfl dX12_sumSign_52 ⟨rfl, (Or.inr ⟨6, by omega, rfl, by rw [c5]; decide⟩)⟩
        · skip
          refine x_iconst C (v := 5) dX12_sumSign_36 (by decide) rfl ?_
          refine x_goto C (tgt := 52) dX12_sumSign_37 (by decide) ?_
          exact x_zret C hr hlk rfl dX12_sumSign_52 ⟨rfl, (Or.inr ⟨5, by omega, rfl, by rw [c4]; decide⟩)⟩
      · skip
        refine x_iconst C (v := 4) dX12_sumSign_26 (by decide) rfl ?_
        refine x_goto C (tgt := 52) dX12_sumSign_27 (by decide) ?_
        exact x_zret C hr hlk rfl dX12_sumSign_52 ⟨rfl, (Or.inr ⟨4, by omega, rfl, by rw [c3]; decide⟩)⟩
    · skip
      refine x_iconst C (v := 3) dX12_sumSign_16 (by decide) rfl ?_
      refine x_goto C (tgt := 52) dX12_sumSign_17 (by decide) ?_
      exact x_zret C hr hlk rfl dX12_sumSign_52 ⟨rfl, (Or.inr ⟨3, by omega, rfl, by rw [c2]; decide⟩)⟩
  · skip
    refine x_iconst C (v := 2) dX12_sumSign_6 (by decide) rfl ?_
    refine x_goto C (tgt := 52) dX12_sumSign_7 (by decide) ?_
    exact x_zret C hr hlk rfl dX12_sumSign_52 ⟨rfl, (Or.inr ⟨2, by omega, rfl, by rw [c1]; decide⟩)⟩
set_option maxRecDepth 20000 in
set_option maxHeartbeats 4000000 in
theorem m_isDigitX (E : xE) (l : Launch) (a : Nat → Nat) (cd : Cd) (hG : Good cd) (ws : va_W) (hW : WX (okM E a cd) ws) (tp pl le cm wt sm lm : Nat) (nu : Int32) (h0 : MO a cd ws tp pl le cm wt sm lm nu) (tf : Nat → Int32) (htf : ws[4]? = some (bA E (a 4) 260 tf)) : xI E l yX12_isDigit cX12_isDigit 1 (some .boolean) 1 [.ref (a 0)] ws (fun r w => w = ws ∧ zb r ∧ ((¬ r = 0 ∧ ∃ d : Nat, d ≤ 9 ∧ hv tf pl le = nI (48 + d) ∧ pl < le) ∨ (r = 0 ∧ ∀ d : Nat, d ≤ 9 → ¬ hv tf pl le = nI (48 + d)))) := by
  refine xI_start (lv := [(0, .ref (a 0))]) RX12 (by decide) rfl (Nat.le_of_ble_eq_true rfl) rfl (fun p e s m below meth c A C hr hlk => ?_)
  obtain ⟨v1, v2, v3, v4, v5, v6, v7, n8, n9, bo10, bo11, zb12, k13⟩ := h0
  refine x_aload_n C dX12_isDigit_0 rfl 0 rfl rfl ?_
  refine x_vi C (As := []) (rest := []) (m_here E l a cd hG ws hW tp pl le cm wt sm lm nu ⟨v1, v2, v3, v4, v5, v6, v7, n8, n9, ⟨by omega, by omega, by omega, by omega, by omega, by omega, by omega⟩, ⟨by omega, by omega⟩, zb12, k13⟩ tf htf) mf_X12_here w_1317 0 k13 rfl rfl rfl (Nat.le_of_ble_eq_true rfl) ⟨(Nat.le_of_ble_eq_true rfl), (Nat.le_of_ble_eq_true rfl)⟩ ⟨(Nat.le_of_ble_eq_true rfl), (Nat.le_of_ble_eq_true rfl)⟩ dX12_isDigit_1 rfl (fun r15 w16 h14 => ?_)
  obtain ⟨hW17, x18⟩ := h14
  refine x_ws hW17 ?_
  refine x_bipush C (v := 48) dX12_isDigit_4 (by decide) rfl ?_
  refine x_icmp_lt C (tgt := 22) dX12_isDigit_6 (by decide) rfl (fun c19 => ?_) (fun c19 => ?_)
  · skip
    refine x_iconst C (v := 0) dX12_isDigit_22 (by decide) rfl ?_
    exact x_zret C hr hlk rfl dX12_isDigit_23 ⟨rfl, (Or.inl rfl), (Or.inr ⟨rfl, hv_nd1 (by rw [← x18]; exact c19)⟩)⟩
  · skip
    refine x_aload_n C dX12_isDigit_9 rfl 0 rfl rfl ?_
    refine x_vi C (As := []) (rest := []) (m_here E l a cd hG ws hW tp pl le cm wt sm lm nu ⟨v1, v2, v3, v4, v5, v6, v7, n8, n9, ⟨by omega, by omega, by omega, by omega, by omega, by omega, by omega⟩, ⟨by omega, by omega⟩, zb12, k13⟩ tf htf) mf_X12_here w_1317 0 k13 rfl rfl rfl (Nat.le_of_ble_eq_true rfl) ⟨(Nat.le_of_ble_eq_true rfl), (Nat.le_of_ble_eq_true rfl)⟩ ⟨(Nat.le_of_ble_eq_true rfl), (Nat.le_of_ble_eq_true rfl)⟩ dX12_isDigit_10 rfl (fun r21 w22 h20 => ?_)
    obtain ⟨hW23, x24⟩ := h20
    refine x_ws hW23 ?_
    refine x_bipush C (v := 57) dX12_isDigit_13 (by decide) rfl ?_
    refine x_icmp_gt C (tgt := 22) dX12_isDigit_15 (by decide) rfl (fun c25 => ?_) (fun c25 => ?_)
    · skip
      refine x_iconst C (v := 0) dX12_isDigit_22 (by decide) rfl ?_
      exact x_zret C hr hlk rfl dX12_isDigit_23 ⟨rfl, (Or.inl rfl), (Or.inr ⟨rfl, hv_nd2 (by rw [← x24]; exact c25)⟩)⟩
    · skip
      refine x_iconst C (v := 1) dX12_isDigit_18 (by decide) rfl ?_
      refine x_goto C (tgt := 23) dX12_isDigit_19 (by decide) ?_
      exact x_zret C hr hlk rfl dX12_isDigit_23 ⟨rfl, (Or.inr rfl), (Or.inl ⟨by decide, hv_dig (fun q => c19 (by rw [x18]; exact q)) (fun q => c25 (by rw [x24]; exact q))⟩)⟩
theorem dX12_readsNumber_0 : decode cX12_readsNumber 0 = .ok (.aload_n 0, 1) := by decide +kernel
theorem dX12_readsNumber_1 : decode cX12_readsNumber 1 = .ok (.getfield 131, 3) := by decide +kernel
theorem dX12_readsNumber_4 : decode cX12_readsNumber 4 = .ok (.istore_n 1, 1) := by decide +kernel
theorem dX12_readsNumber_5 : decode cX12_readsNumber 5 = .ok (.aload_n 0, 1) := by decide +kernel
theorem dX12_readsNumber_6 : decode cX12_readsNumber 6 = .ok (.iconst 0, 1) := by decide +kernel
theorem dX12_readsNumber_7 : decode cX12_readsNumber 7 = .ok (.putfield 147, 3) := by decide +kernel
theorem dX12_readsNumber_10 : decode cX12_readsNumber 10 = .ok (.aload_n 0, 1) := by decide +kernel
theorem dX12_readsNumber_11 : decode cX12_readsNumber 11 = .ok (.invokevirtual 150, 3) := by decide +kernel
theorem dX12_readsNumber_14 : decode cX12_readsNumber 14 = .ok (.ifCond .eq 55, 3) := by decide +kernel
theorem dX12_readsNumber_17 : decode cX12_readsNumber 17 = .ok (.aload_n 0, 1) := by decide +kernel
theorem dX12_readsNumber_18 : decode cX12_readsNumber 18 = .ok (.getfield 131, 3) := by decide +kernel
theorem dX12_readsNumber_21 : decode cX12_readsNumber 21 = .ok (.iload_n 1, 1) := by decide +kernel
theorem dX12_readsNumber_22 : decode cX12_readsNumber 22 = .ok (.iconst 5, 1) := by decide +kernel
theorem dX12_readsNumber_23 : decode cX12_readsNumber 23 = .ok (.iadd, 1) := by decide +kernel
theorem dX12_readsNumber_24 : decode cX12_readsNumber 24 = .ok (.if_icmp .ne 13, 3) := by decide +kernel
theorem dX12_readsNumber_27 : decode cX12_readsNumber 27 = .ok (.aload_n 0, 1) := by decide +kernel
theorem dX12_readsNumber_28 : decode cX12_readsNumber 28 = .ok (.iconst 2, 1) := by decide +kernel
theorem dX12_readsNumber_29 : decode cX12_readsNumber 29 = .ok (.aload_n 0, 1) := by decide +kernel
theorem dX12_readsNumber_30 : decode cX12_readsNumber 30 = .ok (.getfield 131, 3) := by decide +kernel
theorem dX12_readsNumber_33 : decode cX12_readsNumber 33 = .ok (.invokevirtual 144, 3) := by decide +kernel
theorem dX12_readsNumber_36 : decode cX12_readsNumber 36 = .ok (.ireturn, 1) := by decide +kernel
theorem dX12_readsNumber_37 : decode cX12_readsNumber 37 = .ok (.aload_n 0, 1) := by decide +kernel
theorem dX12_readsNumber_38 : decode cX12_readsNumber 38 = .ok (.bipush 10, 2) := by decide +kernel
theorem dX12_readsNumber_40 : decode cX12_readsNumber 40 = .ok (.aload_n 0, 1) := by decide +kernel
theorem dX12_readsNumber_41 : decode cX12_readsNumber 41 = .ok (.getfield 147, 3) := by decide +kernel
theorem dX12_readsNumber_44 : decode cX12_readsNumber 44 = .ok (.imul, 1) := by decide +kernel
theorem dX12_readsNumber_45 : decode cX12_readsNumber 45 = .ok (.aload_n 0, 1) := by decide +kernel
theorem dX12_readsNumber_46 : decode cX12_readsNumber 46 = .ok (.invokevirtual 137, 3) := by decide +kernel
theorem dX12_readsNumber_49 : decode cX12_readsNumber 49 = .ok (.iadd, 1) := by decide +kernel
theorem dX12_readsNumber_50 : decode cX12_readsNumber 50 = .ok (.bipush 48, 2) := by decide +kernel
theorem dX12_readsNumber_52 : decode cX12_readsNumber 52 = .ok (.isub, 1) := by decide +kernel
theorem dX12_readsNumber_53 : decode cX12_readsNumber 53 = .ok (.putfield 147, 3) := by decide +kernel
theorem dX12_readsNumber_56 : decode cX12_readsNumber 56 = .ok (.aload_n 0, 1) := by decide +kernel
theorem dX12_readsNumber_57 : decode cX12_readsNumber 57 = .ok (.aload_n 0, 1) := by decide +kernel
theorem dX12_readsNumber_58 : decode cX12_readsNumber 58 = .ok (.getfield 131, 3) := by decide +kernel
theorem dX12_readsNumber_61 : decode cX12_readsNumber 61 = .ok (.iconst 1, 1) := by decide +kernel
theorem dX12_readsNumber_62 : decode cX12_readsNumber 62 = .ok (.iadd, 1) := by decide +kernel
theorem dX12_readsNumber_63 : decode cX12_readsNumber 63 = .ok (.putfield 131, 3) := by decide +kernel
theorem dX12_readsNumber_66 : decode cX12_readsNumber 66 = .ok (.goto (-56), 3) := by decide +kernel
theorem dX12_readsNumber_69 : decode cX12_readsNumber 69 = .ok (.iconst 1, 1) := by decide +kernel
theorem dX12_readsNumber_70 : decode cX12_readsNumber 70 = .ok (.ireturn, 1) := by decide +kernel
set_option maxRecDepth 20000 in
set_option maxHeartbeats 4000000 in
theorem m_readsNumber (E : xE) (l : Launch) (a : Nat → Nat) (cd : Cd) (hG : Good cd) (ws : va_W) (hW : WX (okM E a cd) ws) (tp pl le cm wt sm lm : Nat) (nu : Int32) (h0 : MO a cd ws tp pl le cm wt sm lm nu) (tf : Nat → Int32) (htf : ws[4]? = some (bA E (a 4) 260 tf)) (hpl : pl ≤ le) (d0 : Nat) (hd0 : d0 ≤ 9) (hdg : hv tf pl le = nI (48 + d0)) : xI E l yX12_readsNumber cX12_readsNumber 2 (some .boolean) 2 [.ref (a 0)] ws (fun r w => WX (okM E a cd) w ∧ keeps ws w (fun q => q = 0) ∧ zb r ∧ ((r = 0 ∧ ∃ (pl2 : Nat) (nu2 : Int32), pl2 ≤ le ∧ MO a cd w tp pl2 le cm wt sm lm nu2) ∨ (r = 1 ∧ ∃ pl2 n : Nat, pl < pl2 ∧ pl2 ≤ le ∧ n ≤ 99999 ∧ MO a cd w tp pl2 le cm wt sm lm (nI n)))) := by
  refine xI_start (lv := [(0, .ref (a 0))]) RX12 (by decide) rfl (Nat.le_of_ble_eq_true rfl) rfl (fun p e s m below meth c A C hr hlk => ?_)
  have kp0 : keeps ws ws (fun q => q = 0) := keeps_rf
  obtain ⟨v1, v2, v3, v4, v5, v6, v7, n8, n9, bo10, bo11, zb12, k13⟩ := h0
  refine x_aload_n C dX12_readsNumber_0 rfl 0 rfl rfl ?_
  refine x_get C (ci := 11) (k := 5) 0 k13 rfl in_X12 (by decide) w_1123 rfl dX12_readsNumber_1 rfl ?_
  refine x_istore_n C (lv' := [(1, .int (nI pl)), (0, .ref (a 0))]) dX12_readsNumber_4 rfl (by decide) rfl rfl ?_
  refine x_aload_n C dX12_readsNumber_5 rfl 1 rfl rfl ?_
  refine x_iconst C (v := 0) dX12_readsNumber_6 (by decide) rfl ?_
  obtain ⟨w14, hw15⟩ : ∃ w : va_W, w = List.set ws 0 (ob (a 0) 11 [.ref (a 1), .ref (a 2), .ref (a 3), .ref (a 4), .int (nI tp), .int (nI pl), .int (nI le), .int v1, .int 0, .int v2, .int (nI cm), .int (nI wt), .int (nI sm), .int (nI (cd.2.2.2.2.2)), .ref (a 5), .ref (a 6), .ref (a 7), .ref (a 8), .ref (a 9), .ref (a 10), .ref (a 11), .ref (a 12), .ref (a 13), .ref (a 14), .ref (a 15), .ref (a 16), .ref (a 17), .int (nI lm), .ref (a 18), .ref (a 19), .ref (a 20), .ref (a 21), .int v3, .int v4, .int v5, .int v6, .int (nI n8), .int (nI n9), .ref (a 22), .ref (a 23), .ref (a 24), .ref (a 25), .ref (a 26), .ref (a 27), .ref (a 28), .ref (a 29), .ref (a 30), .int v7]) := ⟨_, rfl⟩
  refine x_put C (ci := 11) (k := 8) (ty := .int) 0 k13 rfl in_X12 tyX12 tyX12_ok nmX12 (by decide) w_1126 rfl rfl rfl rfl (Nat.le_of_ble_eq_true rfl) hw15.symm dX12_readsNumber_7 rfl ?_
  have hW16 : WX (okM E a cd) w14 := by rw [hw15]; exact hW.set (k := 0) rfl ⟨tp, pl, le, v1, (0 : Int32), v2, cm, wt, sm, lm, v3, v4, v5, v6, n8, n9, v7, by omega, by omega, by omega, by omega, by omega, by omega, by omega, by omega, by omega, zb12, rfl⟩
  have k17 : w14[0]? = some (ob (a 0) 11 [.ref (a 1), .ref (a 2), .ref (a 3), .ref (a 4), .int (nI tp), .int (nI pl), .int (nI le), .int v1, .int 0, .int v2, .int (nI cm), .int (nI wt), .int (nI sm), .int (nI (cd.2.2.2.2.2)), .ref (a 5), .ref (a 6), .ref (a 7), .ref (a 8), .ref (a 9), .ref (a 10), .ref (a 11), .ref (a 12), .ref (a 13), .ref (a 14), .ref (a 15), .ref (a 16), .ref (a 17), .int (nI lm), .ref (a 18), .ref (a 19), .ref (a 20), .ref (a 21), .int v3, .int v4, .int v5, .int v6, .int (nI n8), .int (nI n9), .ref (a 22), .ref (a 23), .ref (a 24), .ref (a 25), .ref (a 26), .ref (a 27), .ref (a 28), .ref (a 29), .ref (a 30), .int v7]) := by rw [hw15]; exact set_eq k13
  have k18 : w14[4]? = some (bA E (a 4) 260 tf) := by rw [hw15]; exact set_ne htf (by decide)
  have kp19 := keeps_set kp0 hw15 (by first | exact rfl | decide | omega | (dsimp only; omega))
  have loop10 : ∀ (fu10 : Nat) (px : Nat) (nm : Nat) (wl10 : va_W), WX (okM E a cd) wl10 → pl + 5 - px < fu10 → MO a cd wl10 tp px le cm wt sm lm (nI nm) → wl10[4]? = some (bA E (a 4) 260 tf) → (px = pl + 0 ∧ nm ≤ 0) ∨ (px = pl + 1 ∧ nm ≤ 9) ∨ (px = pl + 2 ∧ nm ≤ 99) ∨ (px = pl + 3 ∧ nm ≤ 999) ∨ (px = pl + 4 ∧ nm ≤ 9999) ∨ (px = pl + 5 ∧ nm ≤ 99999) → px ≤ le → keeps ws wl10 (fun q => q = 0) → X E p l e (xRm 2 0 0) s m ([.ref (a 0)] : List Value).toArray below meth c A 2 0 0 (MQ below (va_Qi (fun r w => WX (okM E a cd) w ∧ keeps ws w (fun q => q = 0) ∧ zb r ∧ ((r = 0 ∧ ∃ (pl2 : Nat) (nu2 : Int32), pl2 ≤ le ∧ MO a cd w tp pl2 le cm wt sm lm nu2) ∨ (r = 1 ∧ ∃ pl2 n : Nat, pl < pl2 ∧ pl2 ≤ le ∧ n ≤ 99999 ∧ MO a cd w tp pl2 le cm wt sm lm (nI n)))) (xB E A) A) ([.ref (a 0)] : List Value).toArray s 0 0 A) wl10 10 [(0, .ref (a 0)), (1, .int (nI pl))] [] := by
    intro fu10
    induction fu10 with
    | zero => intro px nm wl10 _ q; omega
    | succ fu10 ih10 =>
      intro px nm wl10 hWl10 me10 iv10_0 iv10_1 iv10_2 iv10_3 kq10
      obtain ⟨v20, v21, v22, v23, v24, v25, v26, n27, n28, bo29, bo30, zb31, k32⟩ := iv10_0
      refine x_aload_n C dX12_readsNumber_10 rfl 0 rfl rfl ?_
      refine x_vi C (As := []) (rest := []) (m_isDigitX E l a cd hG wl10 hWl10 tp px le cm wt sm lm ((nI nm)) ⟨v20, v21, v22, v23, v24, v25, v26, n27, n28, ⟨by omega, by omega, by omega, by omega, by omega, by omega, by omega⟩, ⟨by omega, by omega⟩, zb31, k32⟩ tf iv10_1) mf_X12_isDigit w_1341 0 k32 rfl rfl rfl (Nat.le_of_ble_eq_true rfl) ⟨(Nat.le_of_ble_eq_true rfl), (Nat.le_of_ble_eq_true rfl)⟩ ⟨(Nat.le_of_ble_eq_true rfl), (Nat.le_of_ble_eq_true rfl)⟩ dX12_readsNumber_11 rfl (fun r34 w35 h33 => ?_)
      obtain ⟨hW36, zb37, x38⟩ := h33
      refine x_ws hW36 ?_
      rcases x38 with ⟨hn39, d40, hd41, ed42, hp43⟩ | ⟨e44, hno45⟩
      · skip
        refine x_if_eq C (tgt := 69) dX12_readsNumber_14 (by decide) rfl (fun h => absurd h hn39) (fun _ => ?_)
        refine x_aload_n C dX12_readsNumber_17 rfl 0 rfl rfl ?_
        refine x_get C (ci := 11) (k := 5) 0 k32 rfl in_X12 (by decide) w_1123 rfl dX12_readsNumber_18 rfl ?_
        refine x_iload_n C dX12_readsNumber_21 rfl 1 rfl rfl ?_
        refine x_iconst C (v := 5) dX12_readsNumber_22 (by decide) rfl ?_
        refine x_iadd C (v := (nI (pl + 5))) dX12_readsNumber_23 (nI_add pl 5) rfl ?_
        refine x_icmp_ne C (tgt := 37) dX12_readsNumber_24 (by decide) rfl (fun c46 => ?_) (fun c46 => ?_)
        · skip
          have nf47 : ¬ px = pl + 5 := fun q => c46 (congrArg nI q)
          refine x_aload_n C dX12_readsNumber_37 rfl 0 rfl rfl ?_
          refine x_bipush C (v := 10) dX12_readsNumber_38 (by decide) rfl ?_
          refine x_aload_n C dX12_readsNumber_40 rfl 0 rfl rfl ?_
          refine x_get C (ci := 11) (k := 8) 0 k32 rfl in_X12 (by decide) w_1126 rfl dX12_readsNumber_41 rfl ?_
          refine x_imul C (v := (nI (10 * nm))) dX12_readsNumber_44 (pk_mul 10 nm) rfl ?_
          refine x_aload_n C dX12_readsNumber_45 rfl 0 rfl rfl ?_
          refine x_vi C (As := []) (rest := [.int (nI (10 * nm)), .ref (a 0)]) (m_here E l a cd hG wl10 hWl10 tp px le cm wt sm lm ((nI nm)) ⟨v20, v21, v22, v23, v24, v25, v26, n27, n28, ⟨by omega, by omega, by omega, by omega, by omega, by omega, by omega⟩, ⟨by omega, by omega⟩, zb31, k32⟩ tf iv10_1) mf_X12_here w_1317 0 k32 rfl rfl rfl (Nat.le_of_ble_eq_true rfl) ⟨(Nat.le_of_ble_eq_true rfl), (Nat.le_of_ble_eq_true rfl)⟩ ⟨(Nat.le_of_ble_eq_true rfl), (Nat.le_of_ble_eq_true rfl)⟩ dX12_readsNumber_46 rfl (fun r49 w50 h48 => ?_)
          obtain ⟨hW51, x52⟩ := h48
          refine x_ws hW51 ?_
          refine x_top (x52.trans ed42) ?_
          refine x_iadd C (v := (nI ((10 * nm) + (48 + d40)))) dX12_readsNumber_49 (nI_add (10 * nm) (48 + d40)) rfl ?_
          refine x_bipush C (v := 48) dX12_readsNumber_50 (by decide) rfl ?_
          refine x_isub C (v := (nI (((10 * nm) + (48 + d40)) - 48))) dX12_readsNumber_52 (pk_sub (a := ((10 * nm) + (48 + d40))) (b := 48) (by omega)) rfl ?_
          obtain ⟨w53, hw54⟩ : ∃ w : va_W, w = List.set wl10 0 (ob (a 0) 11 [.ref (a 1), .ref (a 2), .ref (a 3), .ref (a 4), .int (nI tp), .int (nI px), .int (nI le), .int v20, .int (nI (((10 * nm) + (48 + d40)) - 48)), .int v21, .int (nI cm), .int (nI wt), .int (nI sm), .int (nI (cd.2.2.2.2.2)), .ref (a 5), .ref (a 6), .ref (a 7), .ref (a 8), .ref (a 9), .ref (a 10), .ref (a 11), .ref (a 12), .ref (a 13), .ref (a 14), .ref (a 15), .ref (a 16), .ref (a 17), .int (nI lm), .ref (a 18), .ref (a 19), .ref (a 20), .ref (a 21), .int v22, .int v23, .int v24, .int v25, .int (nI n27), .int (nI n28), .ref (a 22), .ref (a 23), .ref (a 24), .ref (a 25), .ref (a 26), .ref (a 27), .ref (a 28), .ref (a 29), .ref (a 30), .int v26]) := ⟨_, rfl⟩
          refine x_put C (ci := 11) (k := 8) (ty := .int) 0 k32 rfl in_X12 tyX12 tyX12_ok nmX12 (by decide) w_1126 rfl rfl rfl rfl (Nat.le_of_ble_eq_true rfl) hw54.symm dX12_readsNumber_53 rfl ?_
          have hW55 : WX (okM E a cd) w53 := by rw [hw54]; exact hWl10.set (k := 0) rfl ⟨tp, px, le, v20, (nI (((10 * nm) + (48 + d40)) - 48)), v21, cm, wt, sm, lm, v22, v23, v24, v25, n27, n28, v26, by omega, by omega, by omega, by omega, by omega, by omega, by omega, by omega, by omega, zb31, rfl⟩
          have k56 : w53[0]? = some (ob (a 0) 11 [.ref (a 1), .ref (a 2), .ref (a 3), .ref (a 4), .int (nI tp), .int (nI px), .int (nI le), .int v20, .int (nI (((10 * nm) + (48 + d40)) - 48)), .int v21, .int (nI cm), .int (nI wt), .int (nI sm), .int (nI (cd.2.2.2.2.2)), .ref (a 5), .ref (a 6), .ref (a 7), .ref (a 8), .ref (a 9), .ref (a 10), .ref (a 11), .ref (a 12), .ref (a 13), .ref (a 14), .ref (a 15), .ref (a 16), .ref (a 17), .int (nI lm), .ref (a 18), .ref (a 19), .ref (a 20), .ref (a 21), .int v22, .int v23, .int v24, .int v25, .int (nI n27), .int (nI n28), .ref (a 22), .ref (a 23), .ref (a 24), .ref (a 25), .ref (a 26), .ref (a 27), .ref (a 28), .ref (a 29), .ref (a 30), .int v26]) := by rw [hw54]; exact set_eq k32
          have k57 : w53[4]? = some (bA E (a 4) 260 tf) := by rw [hw54]; exact set_ne iv10_1 (by decide)
          have kp58 := keeps_set kq10 hw54 (by first | exact rfl | decide | omega | (dsimp only; omega))
          refine x_aload_n C dX12_readsNumber_56 rfl 0 rfl rfl ?_
          refine x_aload_n C dX12_readsNumber_57 rfl 0 rfl rfl ?_
          refine x_get C (ci := 11) (k := 5) 0 k56 rfl in_X12 (by decide) w_1123 rfl dX12_readsNumber_58 rfl ?_
          refine x_iconst C (v := 1) dX12_readsNumber_61 (by decide) rfl ?_
          refine x_iadd C (v := (nI (px + 1))) dX12_readsNumber_62 (nI_add px 1) rfl ?_
          obtain ⟨w59, hw60⟩ : ∃ w : va_W, w = List.set w53 0 (ob (a 0) 11 [.ref (a 1), .ref (a 2), .ref (a 3), .ref (a 4), .int (nI tp), .int (nI (px + 1)), .int (nI le), .int v20, .int (nI (((10 * nm) + (48 + d40)) - 48)), .int v21, .int (nI cm), .int (nI wt), .int (nI sm), .int (nI (cd.2.2.2.2.2)), .ref (a 5), .ref (a 6), .ref (a 7), .ref (a 8), .ref (a 9), .ref (a 10), .ref (a 11), .ref (a 12), .ref (a 13), .ref (a 14), .ref (a 15), .ref (a 16), .ref (a 17), .int (nI lm), .ref (a 18), .ref (a 19), .ref (a 20), .ref (a 21), .int v22, .int v23, .int v24, .int v25, .int (nI n27), .int (nI n28), .ref (a 22), .ref (a 23), .ref (a 24), .ref (a 25), .ref (a 26), .ref (a 27), .ref (a 28), .ref (a 29), .ref (a 30), .int v26]) := ⟨_, rfl⟩
          refine x_put C (ci := 11) (k := 5) (ty := .int) 0 k56 rfl in_X12 tyX12 tyX12_ok nmX12 (by decide) w_1123 rfl rfl rfl rfl (Nat.le_of_ble_eq_true rfl) hw60.symm dX12_readsNumber_63 rfl ?_
          have hW61 : WX (okM E a cd) w59 := by rw [hw60]; exact hW55.set (k := 0) rfl ⟨tp, (px + 1), le, v20, (nI (((10 * nm) + (48 + d40)) - 48)), v21, cm, wt, sm, lm, v22, v23, v24, v25, n27, n28, v26, by omega, by omega, by omega, by omega, by omega, by omega, by omega, by omega, by omega, zb31, rfl⟩
          have k62 : w59[0]? = some (ob (a 0) 11 [.ref (a 1), .ref (a 2), .ref (a 3), .ref (a 4), .int (nI tp), .int (nI (px + 1)), .int (nI le), .int v20, .int (nI (((10 * nm) + (48 + d40)) - 48)), .int v21, .int (nI cm), .int (nI wt), .int (nI sm), .int (nI (cd.2.2.2.2.2)), .ref (a 5), .ref (a 6), .ref (a 7), .ref (a 8), .ref (a 9), .ref (a 10), .ref (a 11), .ref (a 12), .ref (a 13), .ref (a 14), .ref (a 15), .ref (a 16), .ref (a 17), .int (nI lm), .ref (a 18), .ref (a 19), .ref (a 20), .ref (a 21), .int v22, .int v23, .int v24, .int v25, .int (nI n27), .int (nI n28), .ref (a 22), .ref (a 23), .ref (a 24), .ref (a 25), .ref (a 26), .ref (a 27), .ref (a 28), .ref (a 29), .ref (a 30), .int v26]) := by rw [hw60]; exact set_eq k56
          have k63 : w59[4]? = some (bA E (a 4) 260 tf) := by rw [hw60]; exact set_ne k57 (by decide)
          have kp64 := keeps_set kp58 hw60 (by first | exact rfl | decide | omega | (dsimp only; omega))
          refine x_goto C (tgt := 10) dX12_readsNumber_66 (by decide) ?_
          refine x_lv (lv1 := [(0, .ref (a 0)), (1, .int (nI pl))]) [0, 1] rfl ?_
          exact ih10 (px + 1) (((10 * nm) + (48 + d40)) - 48) w59 hW61 (by omega) ⟨v20, v21, v22, v23, v24, v25, v26, n27, n28, ⟨by omega, by omega, by omega, by omega, by omega, by omega, by omega⟩, ⟨by omega, by omega⟩, zb31, k62⟩ k63 (by omega) (by omega) kp64
        · skip
          have nf65 : px = pl + 5 := (nI_eq (by omega) (by omega)).mp c46
          refine x_aload_n C dX12_readsNumber_27 rfl 0 rfl rfl ?_
          refine x_iconst C (v := 2) dX12_readsNumber_28 (by decide) rfl ?_
          refine x_aload_n C dX12_readsNumber_29 rfl 0 rfl rfl ?_
          refine x_get C (ci := 11) (k := 5) 0 k32 rfl in_X12 (by decide) w_1123 rfl dX12_readsNumber_30 rfl ?_
          refine x_vi C (As := [.int 2, .int (nI px)]) (rest := []) (m_wrongAt E l a cd hG wl10 hWl10 (2 : Int32) ((nI px)) tp px le cm wt sm lm ((nI nm)) ⟨v20, v21, v22, v23, v24, v25, v26, n27, n28, ⟨by omega, by omega, by omega, by omega, by omega, by omega, by omega⟩, ⟨by omega, by omega⟩, zb31, k32⟩) mf_X12_wrongAt w_1324 0 k32 rfl rfl rfl (Nat.le_of_ble_eq_true rfl) ⟨(Nat.le_of_ble_eq_true rfl), (Nat.le_of_ble_eq_true rfl)⟩ ⟨(Nat.le_of_ble_eq_true rfl), (Nat.le_of_ble_eq_true rfl)⟩ dX12_readsNumber_33 rfl (fun r67 w68 h66 => ?_)
          obtain ⟨hW69, kq70, e71, x72⟩ := h66
          refine x_top e71 ?_
          have k73 : w68[4]? = some (bA E (a 4) 260 tf) := keeps_at kq70 iv10_1 (by first | decide | omega | (dsimp only; omega))
          have kp74 := keeps_tr kq10 kq70 (fun q hq => by first | omega | (dsimp only at *; omega))
          obtain ⟨v75, v76, v77, v78, v79, v80, v81, n82, n83, bo84, bo85, zb86, k87⟩ := x72
          exact x_zret C hr hlk rfl dX12_readsNumber_36 ⟨hW69, kp74, (Or.inl rfl), (Or.inl ⟨rfl, px, ((nI nm)), by omega, ⟨v75, v76, v77, v78, v79, v80, v81, n82, n83, ⟨by omega, by omega, by omega, by omega, by omega, by omega, by omega⟩, ⟨by omega, by omega⟩, zb86, k87⟩⟩)⟩
      · refine x_top e44 ?_
        refine x_if_eq C (tgt := 69) dX12_readsNumber_14 (by decide) rfl (fun _ => ?_) (fun h => absurd h (by decide))
        have hgt : pl < px := by
          rcases Nat.lt_or_ge pl px with q | q
          · exact q
          · have q9 : px = pl := by omega
            subst q9
            exact absurd hdg (hno45 d0 hd0)
        refine x_iconst C (v := 1) dX12_readsNumber_69 (by decide) rfl ?_
        exact x_zret C hr hlk rfl dX12_readsNumber_70 ⟨hWl10, kq10, (Or.inr rfl), (Or.inr ⟨rfl, px, nm, hgt, by omega, by omega, ⟨v20, v21, v22, v23, v24, v25, v26, n27, n28, ⟨by omega, by omega, by omega, by omega, by omega, by omega, by omega⟩, ⟨by omega, by omega⟩, zb31, k32⟩⟩)⟩
  refine x_lv (lv1 := [(0, .ref (a 0)), (1, .int (nI pl))]) [1, 0] rfl ?_
  exact loop10 _ pl 0 w14 hW16 (Nat.lt_succ_self _) ⟨v1, v2, v3, v4, v5, v6, v7, n8, n9, ⟨by omega, by omega, by omega, by omega, by omega, by omega, by omega⟩, ⟨by omega, by omega⟩, zb12, k17⟩ k18 (by omega) (by omega) kp19
theorem dX12_readsFactor_0 : decode cX12_readsFactor 0 = .ok (.aload_n 0, 1) := by decide +kernel
theorem dX12_readsFactor_1 : decode cX12_readsFactor 1 = .ok (.invokevirtual 137, 3) := by decide +kernel
theorem dX12_readsFactor_4 : decode cX12_readsFactor 4 = .ok (.bipush 91, 2) := by decide +kernel
theorem dX12_readsFactor_6 : decode cX12_readsFactor 6 = .ok (.if_icmp .ne 14, 3) := by decide +kernel
theorem dX12_readsFactor_9 : decode cX12_readsFactor 9 = .ok (.aload_n 0, 1) := by decide +kernel
theorem dX12_readsFactor_10 : decode cX12_readsFactor 10 = .ok (.bipush 14, 2) := by decide +kernel
theorem dX12_readsFactor_12 : decode cX12_readsFactor 12 = .ok (.invokevirtual 170, 3) := by decide +kernel
theorem dX12_readsFactor_15 : decode cX12_readsFactor 15 = .ok (.ifCond .ne (-15), 3) := by decide +kernel
theorem dX12_readsFactor_18 : decode cX12_readsFactor 18 = .ok (.iconst 0, 1) := by decide +kernel
theorem dX12_readsFactor_19 : decode cX12_readsFactor 19 = .ok (.ireturn, 1) := by decide +kernel
theorem dX12_readsFactor_20 : decode cX12_readsFactor 20 = .ok (.aload_n 0, 1) := by decide +kernel
theorem dX12_readsFactor_21 : decode cX12_readsFactor 21 = .ok (.invokevirtual 150, 3) := by decide +kernel
theorem dX12_readsFactor_24 : decode cX12_readsFactor 24 = .ok (.ifCond .eq 23, 3) := by decide +kernel
theorem dX12_readsFactor_27 : decode cX12_readsFactor 27 = .ok (.aload_n 0, 1) := by decide +kernel
theorem dX12_readsFactor_28 : decode cX12_readsFactor 28 = .ok (.invokevirtual 173, 3) := by decide +kernel
theorem dX12_readsFactor_31 : decode cX12_readsFactor 31 = .ok (.ifCond .ne 5, 3) := by decide +kernel
theorem dX12_readsFactor_34 : decode cX12_readsFactor 34 = .ok (.iconst 0, 1) := by decide +kernel
theorem dX12_readsFactor_35 : decode cX12_readsFactor 35 = .ok (.ireturn, 1) := by decide +kernel
theorem dX12_readsFactor_36 : decode cX12_readsFactor 36 = .ok (.aload_n 0, 1) := by decide +kernel
theorem dX12_readsFactor_37 : decode cX12_readsFactor 37 = .ok (.iconst 0, 1) := by decide +kernel
theorem dX12_readsFactor_38 : decode cX12_readsFactor 38 = .ok (.aload_n 0, 1) := by decide +kernel
theorem dX12_readsFactor_39 : decode cX12_readsFactor 39 = .ok (.getfield 147, 3) := by decide +kernel
theorem dX12_readsFactor_42 : decode cX12_readsFactor 42 = .ok (.invokevirtual 167, 3) := by decide +kernel
theorem dX12_readsFactor_45 : decode cX12_readsFactor 45 = .ok (.iconst 1, 1) := by decide +kernel
theorem dX12_readsFactor_46 : decode cX12_readsFactor 46 = .ok (.ireturn, 1) := by decide +kernel
theorem dX12_readsFactor_47 : decode cX12_readsFactor 47 = .ok (.aload_n 0, 1) := by decide +kernel
theorem dX12_readsFactor_48 : decode cX12_readsFactor 48 = .ok (.invokevirtual 137, 3) := by decide +kernel
theorem dX12_readsFactor_51 : decode cX12_readsFactor 51 = .ok (.invokestatic 176, 3) := by decide +kernel
theorem dX12_readsFactor_54 : decode cX12_readsFactor 54 = .ok (.istore_n 1, 1) := by decide +kernel
theorem dX12_readsFactor_55 : decode cX12_readsFactor 55 = .ok (.iload_n 1, 1) := by decide +kernel
theorem dX12_readsFactor_56 : decode cX12_readsFactor 56 = .ok (.iconst (-1), 1) := by decide +kernel
theorem dX12_readsFactor_57 : decode cX12_readsFactor 57 = .ok (.if_icmp .ne 13, 3) := by decide +kernel
theorem dX12_readsFactor_60 : decode cX12_readsFactor 60 = .ok (.aload_n 0, 1) := by decide +kernel
theorem dX12_readsFactor_61 : decode cX12_readsFactor 61 = .ok (.iconst 1, 1) := by decide +kernel
theorem dX12_readsFactor_62 : decode cX12_readsFactor 62 = .ok (.aload_n 0, 1) := by decide +kernel
theorem dX12_readsFactor_63 : decode cX12_readsFactor 63 = .ok (.getfield 131, 3) := by decide +kernel
theorem dX12_readsFactor_66 : decode cX12_readsFactor 66 = .ok (.invokevirtual 144, 3) := by decide +kernel
theorem dX12_readsFactor_69 : decode cX12_readsFactor 69 = .ok (.ireturn, 1) := by decide +kernel
theorem dX12_readsFactor_70 : decode cX12_readsFactor 70 = .ok (.aload_n 0, 1) := by decide +kernel
theorem dX12_readsFactor_71 : decode cX12_readsFactor 71 = .ok (.iconst 1, 1) := by decide +kernel
theorem dX12_readsFactor_72 : decode cX12_readsFactor 72 = .ok (.iload_n 1, 1) := by decide +kernel
theorem dX12_readsFactor_73 : decode cX12_readsFactor 73 = .ok (.invokevirtual 167, 3) := by decide +kernel
theorem dX12_readsFactor_76 : decode cX12_readsFactor 76 = .ok (.aload_n 0, 1) := by decide +kernel
theorem dX12_readsFactor_77 : decode cX12_readsFactor 77 = .ok (.aload_n 0, 1) := by decide +kernel
theorem dX12_readsFactor_78 : decode cX12_readsFactor 78 = .ok (.getfield 131, 3) := by decide +kernel
theorem dX12_readsFactor_81 : decode cX12_readsFactor 81 = .ok (.iconst 1, 1) := by decide +kernel
theorem dX12_readsFactor_82 : decode cX12_readsFactor 82 = .ok (.iadd, 1) := by decide +kernel
theorem dX12_readsFactor_83 : decode cX12_readsFactor 83 = .ok (.putfield 131, 3) := by decide +kernel
theorem dX12_readsFactor_86 : decode cX12_readsFactor 86 = .ok (.iconst 1, 1) := by decide +kernel
theorem dX12_readsFactor_87 : decode cX12_readsFactor 87 = .ok (.ireturn, 1) := by decide +kernel
set_option maxRecDepth 20000 in
set_option maxHeartbeats 4000000 in
theorem m_readsFactor (E : xE) (l : Launch) (a : Nat → Nat) (cd : Cd) (hG : Good cd) (ws : va_W) (hW : WX (okM E a cd) ws) (tp pl le cm wt sm lm : Nat) (nu : Int32) (h0 : MO a cd ws tp pl le cm wt sm lm nu) (tf : Nat → Int32) (htf : ws[4]? = some (bA E (a 4) 260 tf)) (hpl : pl ≤ le) (fs : Nat → Int32) (hfs : ws[5]? = some (iA E (a 5) 260 fs)) (fw : Nat → Int32) (hfw : ws[6]? = some (iA E (a 6) 260 fw)) (W : WL) (hwr : wR fw W wt) (c0 h : Nat) (hci : CI fs c0 cm h W) (hh : h ≤ 250) (sg : Nat) (hphi : cm + wgt W + sg ≤ pl) (hwp : wt ≤ pl) : xI E l yX12_readsFactor cX12_readsFactor 2 (some .boolean) 3 [.ref (a 0)] ws (fun r w => WX (okM E a cd) w ∧ keeps ws w (fun q => q = 0 ∨ q = 5 ∨ q = 6) ∧ zb r ∧ ((r = 0 ∧ RF E a cd w tp le sm lm) ∨ (r = 1 ∧ ∃ (pl2 wt2 : Nat) (x : Int32) (fw2 : Nat → Int32) (Wn : WL), pl < pl2 ∧ pl2 ≤ le ∧ (∀ e ∈ Wn, e.1 = 14) ∧ wR fw2 (Wn ++ W) wt2 ∧ RS E a cd w tp pl2 le (cm + 1) wt2 sm lm (upd fs cm x) fw2 ∧ CI (upd fs cm x) c0 (cm + 1) (h + 1) (Wn ++ W) ∧ cm + 1 + wgt W + sg ≤ pl2 ∧ wt2 ≤ pl2))) := by
  refine xI_start (lv := [(0, .ref (a 0))]) RX12 (by decide) rfl (Nat.le_of_ble_eq_true rfl) rfl (fun p e s m below meth c A C hr hlk => ?_)
  have kp0 : keeps ws ws (fun q => q = 0 ∨ q = 5 ∨ q = 6) := keeps_rf
  obtain ⟨v1, v2, v3, v4, v5, v6, v7, n8, n9, bo10, bo11, zb12, k13⟩ := h0
  have loop0 : ∀ (fu0 : Nat) (px : Nat) (wx : Nat) (nz : Int32) (gx : Nat → Int32) (Wn : WL) (wl0 : va_W), WX (okM E a cd) wl0 → le - px < fu0 → MO a cd wl0 tp px le cm wx sm lm nz → wl0[4]? = some (bA E (a 4) 260 tf) → wl0[5]? = some (iA E (a 5) 260 fs) → wl0[6]? = some (iA E (a 6) 260 gx) → wR gx (Wn ++ W) wx → (∀ e ∈ Wn, e.1 = 14) → CI fs c0 cm h (Wn ++ W) → pl ≤ px ∧ px ≤ le ∧ wx ≤ px → keeps ws wl0 (fun q => q = 0 ∨ q = 5 ∨ q = 6) → X E p l e (xRm 3 0 0) s m ([.ref (a 0)] : List Value).toArray below meth c A 2 0 0 (MQ below (va_Qi (fun r w => WX (okM E a cd) w ∧ keeps ws w (fun q => q = 0 ∨ q = 5 ∨ q = 6) ∧ zb r ∧ ((r = 0 ∧ RF E a cd w tp le sm lm) ∨ (r = 1 ∧ ∃ (pl2 wt2 : Nat) (x : Int32) (fw2 : Nat → Int32) (Wn : WL), pl < pl2 ∧ pl2 ≤ le ∧ (∀ e ∈ Wn, e.1 = 14) ∧ wR fw2 (Wn ++ W) wt2 ∧ RS E a cd w tp pl2 le (cm + 1) wt2 sm lm (upd fs cm x) fw2 ∧ CI (upd fs cm x) c0 (cm + 1) (h + 1) (Wn ++ W) ∧ cm + 1 + wgt W + sg ≤ pl2 ∧ wt2 ≤ pl2))) (xB E A) A) ([.ref (a 0)] : List Value).toArray s 0 0 A) wl0 0 [(0, .ref (a 0))] [] := by
    intro fu0
    induction fu0 with
    | zero => intro px wx nz gx Wn wl0 _ q; omega
    | succ fu0 ih0 =>
      intro px wx nz gx Wn wl0 hWl0 me0 iv0_0 iv0_1 iv0_2 iv0_3 iv0_4 iv0_5 iv0_6 iv0_7 kq0
      obtain ⟨v14, v15, v16, v17, v18, v19, v20, n21, n22, bo23, bo24, zb25, k26⟩ := iv0_0
      refine x_aload_n C dX12_readsFactor_0 rfl 0 rfl rfl ?_
      refine x_vi C (As := []) (rest := []) (m_here E l a cd hG wl0 hWl0 tp px le cm wx sm lm nz ⟨v14, v15, v16, v17, v18, v19, v20, n21, n22, ⟨by omega, by omega, by omega, by omega, by omega, by omega, by omega⟩, ⟨by omega, by omega⟩, zb25, k26⟩ tf iv0_1) mf_X12_here w_1317 0 k26 rfl rfl rfl (Nat.le_of_ble_eq_true rfl) ⟨(Nat.le_of_ble_eq_true rfl), (Nat.le_of_ble_eq_true rfl)⟩ ⟨(Nat.le_of_ble_eq_true rfl), (Nat.le_of_ble_eq_true rfl)⟩ dX12_readsFactor_1 rfl (fun r28 w29 h27 => ?_)
      obtain ⟨hW30, x31⟩ := h27
      refine x_ws hW30 ?_
      refine x_bipush C (v := 91) dX12_readsFactor_4 (by decide) rfl ?_
      refine x_icmp_ne C (tgt := 20) dX12_readsFactor_6 (by decide) rfl (fun c32 => ?_) (fun c32 => ?_)
      · skip
        refine x_aload_n C dX12_readsFactor_20 rfl 0 rfl rfl ?_
        refine x_vi C (As := []) (rest := []) (m_isDigitX E l a cd hG wl0 hWl0 tp px le cm wx sm lm nz ⟨v14, v15, v16, v17, v18, v19, v20, n21, n22, ⟨by omega, by omega, by omega, by omega, by omega, by omega, by omega⟩, ⟨by omega, by omega⟩, zb25, k26⟩ tf iv0_1) mf_X12_isDigit w_1341 0 k26 rfl rfl rfl (Nat.le_of_ble_eq_true rfl) ⟨(Nat.le_of_ble_eq_true rfl), (Nat.le_of_ble_eq_true rfl)⟩ ⟨(Nat.le_of_ble_eq_true rfl), (Nat.le_of_ble_eq_true rfl)⟩ dX12_readsFactor_21 rfl (fun r34 w35 h33 => ?_)
        obtain ⟨hW36, zb37, x38⟩ := h33
        refine x_ws hW36 ?_
        rcases x38 with ⟨hn39, d40, hd41, ed42, hp43⟩ | ⟨e44, hno45⟩
        · skip
          refine x_if_eq C (tgt := 47) dX12_readsFactor_24 (by decide) rfl (fun h => absurd h hn39) (fun _ => ?_)
          refine x_aload_n C dX12_readsFactor_27 rfl 0 rfl rfl ?_
          refine x_vi C (As := []) (rest := []) (m_readsNumber E l a cd hG wl0 hWl0 tp px le cm wx sm lm nz ⟨v14, v15, v16, v17, v18, v19, v20, n21, n22, ⟨by omega, by omega, by omega, by omega, by omega, by omega, by omega⟩, ⟨by omega, by omega⟩, zb25, k26⟩ tf iv0_1 (by omega) d40 hd41 ed42) mf_X12_readsNumber w_1345 0 k26 rfl rfl rfl (Nat.le_of_ble_eq_true rfl) ⟨(Nat.le_of_ble_eq_true rfl), (Nat.le_of_ble_eq_true rfl)⟩ ⟨(Nat.le_of_ble_eq_true rfl), (Nat.le_of_ble_eq_true rfl)⟩ dX12_readsFactor_28 rfl (fun r47 w48 h46 => ?_)
          obtain ⟨hW49, kq50, zb51, x52⟩ := h46
          have k53 : w48[4]? = some (bA E (a 4) 260 tf) := keeps_at kq50 iv0_1 (by first | decide | omega | (dsimp only; omega))
          have k54 : w48[5]? = some (iA E (a 5) 260 fs) := keeps_at kq50 iv0_2 (by first | decide | omega | (dsimp only; omega))
          have k55 : w48[6]? = some (iA E (a 6) 260 gx) := keeps_at kq50 iv0_3 (by first | decide | omega | (dsimp only; omega))
          have kp56 := keeps_tr kq0 kq50 (fun q hq => by first | omega | (dsimp only at *; omega))
          rcases x52 with ⟨e57, pl58, nu59, hp60, mo61⟩ | ⟨e62, pl63, n64, hp65, hp66, hp67, mo68⟩
          · refine x_top e57 ?_
            obtain ⟨v69, v70, v71, v72, v73, v74, v75, n76, n77, bo78, bo79, zb80, k81⟩ := mo61
            refine x_if_ne C (tgt := 36) dX12_readsFactor_31 (by decide) rfl (fun h => absurd h (by decide)) (fun _ => ?_)
            refine x_iconst C (v := 0) dX12_readsFactor_34 (by decide) rfl ?_
            exact x_zret C hr hlk rfl dX12_readsFactor_35 ⟨hW49, kp56, (Or.inl rfl), (Or.inl ⟨rfl, ⟨pl58, cm, wx, _, _, ⟨⟨_, ⟨v69, v70, v71, v72, v73, v74, v75, n76, n77, ⟨by omega, by omega, by omega, by omega, by omega, by omega, by omega⟩, ⟨by omega, by omega⟩, zb80, k81⟩⟩, k54, k55⟩⟩⟩)⟩
          · refine x_top e62 ?_
            obtain ⟨v82, v83, v84, v85, v86, v87, v88, n89, n90, bo91, bo92, zb93, k94⟩ := mo68
            refine x_if_ne C (tgt := 36) dX12_readsFactor_31 (by decide) rfl (fun _ => ?_) (fun h => absurd h (by decide))
            refine x_aload_n C dX12_readsFactor_36 rfl 0 rfl rfl ?_
            refine x_iconst C (v := 0) dX12_readsFactor_37 (by decide) rfl ?_
            refine x_aload_n C dX12_readsFactor_38 rfl 0 rfl rfl ?_
            refine x_get C (ci := 11) (k := 8) 0 k94 rfl in_X12 (by decide) w_1126 rfl dX12_readsFactor_39 rfl ?_
            refine x_vv C (As := [.int 0, .int (nI n64)]) (rest := []) (m_notes E l a cd hG w48 hW49 0 n64 (by omega) (by omega) tp pl63 le cm wx sm lm ((nI n64)) ⟨v82, v83, v84, v85, v86, v87, v88, n89, n90, ⟨by omega, by omega, by omega, by omega, by omega, by omega, by omega⟩, ⟨by omega, by omega⟩, zb93, k94⟩ fs k54 (by omega)) mf_X12_notes w_1349 0 k94 rfl rfl rfl (Nat.le_of_ble_eq_true rfl) ⟨(Nat.le_of_ble_eq_true rfl), (Nat.le_of_ble_eq_true rfl)⟩ ⟨(Nat.le_of_ble_eq_true rfl), (Nat.le_of_ble_eq_true rfl)⟩ dX12_readsFactor_42 rfl (fun w97 h95 => ?_)
            obtain ⟨hW98, kq99, x100⟩ := h95
            have k101 : w97[4]? = some (bA E (a 4) 260 tf) := keeps_at kq99 k53 (by first | decide | omega | (dsimp only; omega))
            have k102 : w97[6]? = some (iA E (a 6) 260 gx) := keeps_at kq99 k55 (by first | decide | omega | (dsimp only; omega))
            have kp103 := keeps_tr kp56 kq99 (fun q hq => by first | omega | (dsimp only at *; omega))
            obtain ⟨mo104, k105⟩ := x100
            obtain ⟨v106, v107, v108, v109, v110, v111, v112, n113, n114, bo115, bo116, zb117, k118⟩ := mo104
            have ci119 := CI_note (op := 0) (v := n64) (h' := h + 1) iv0_6 (by omega) (by omega) (by omega) (Or.inl ⟨rfl, rfl⟩)
            refine x_iconst C (v := 1) dX12_readsFactor_45 (by decide) rfl ?_
            exact x_zret C hr hlk rfl dX12_readsFactor_46 ⟨hW98, kp103, (Or.inr rfl), (Or.inr ⟨rfl, pl63, wx, (nI (1048576 * 0 + n64)), _, Wn, by omega, by omega, iv0_5, iv0_4, ⟨⟨_, ⟨v106, v107, v108, v109, v110, v111, v112, n113, n114, ⟨by omega, by omega, by omega, by omega, by omega, by omega, by omega⟩, ⟨by omega, by omega⟩, zb117, k118⟩⟩, k105, k102⟩, ci119, by omega, by omega⟩)⟩
        · refine x_top e44 ?_
          refine x_if_eq C (tgt := 47) dX12_readsFactor_24 (by decide) rfl (fun _ => ?_) (fun h => absurd h (by decide))
          refine x_aload_n C dX12_readsFactor_47 rfl 0 rfl rfl ?_
          refine x_vi C (As := []) (rest := []) (m_here E l a cd hG wl0 hWl0 tp px le cm wx sm lm nz ⟨v14, v15, v16, v17, v18, v19, v20, n21, n22, ⟨by omega, by omega, by omega, by omega, by omega, by omega, by omega⟩, ⟨by omega, by omega⟩, zb25, k26⟩ tf iv0_1) mf_X12_here w_1317 0 k26 rfl rfl rfl (Nat.le_of_ble_eq_true rfl) ⟨(Nat.le_of_ble_eq_true rfl), (Nat.le_of_ble_eq_true rfl)⟩ ⟨(Nat.le_of_ble_eq_true rfl), (Nat.le_of_ble_eq_true rfl)⟩ dX12_readsFactor_48 rfl (fun r121 w122 h120 => ?_)
          obtain ⟨hW123, x124⟩ := h120
          refine x_ws hW123 ?_
          refine x_si C (As := [.int r121]) (rest := []) (m_factOf E l a cd hG wl0 hWl0 r121) mf_X12_factOf w_1353 rfl rfl (Nat.le_of_ble_eq_true rfl) ⟨(Nat.le_of_ble_eq_true rfl), (Nat.le_of_ble_eq_true rfl)⟩ ⟨(Nat.le_of_ble_eq_true rfl), (Nat.le_of_ble_eq_true rfl)⟩ dX12_readsFactor_51 rfl (fun r126 w127 h125 => ?_)
          obtain ⟨hW128, x129⟩ := h125
          refine x_ws hW128 ?_
          rcases x129 with e130 | ⟨n131, hn132, en133, hm134⟩
          · refine x_top e130 ?_
            refine x_istore_n C (lv' := [(1, .int (-1)), (0, .ref (a 0))]) dX12_readsFactor_54 rfl (by decide) rfl rfl ?_
            refine x_iload_n C dX12_readsFactor_55 rfl 0 rfl rfl ?_
            refine x_iconst C (v := (-1)) dX12_readsFactor_56 (by decide) rfl ?_
            refine x_icmp_ne C (tgt := 70) dX12_readsFactor_57 (by decide) rfl (fun h => absurd h (by decide)) (fun _ => ?_)
            refine x_aload_n C dX12_readsFactor_60 rfl 1 rfl rfl ?_
            refine x_iconst C (v := 1) dX12_readsFactor_61 (by decide) rfl ?_
            refine x_aload_n C dX12_readsFactor_62 rfl 1 rfl rfl ?_
            refine x_get C (ci := 11) (k := 5) 0 k26 rfl in_X12 (by decide) w_1123 rfl dX12_readsFactor_63 rfl ?_
            refine x_vi C (As := [.int 1, .int (nI px)]) (rest := []) (m_wrongAt E l a cd hG wl0 hWl0 (1 : Int32) ((nI px)) tp px le cm wx sm lm nz ⟨v14, v15, v16, v17, v18, v19, v20, n21, n22, ⟨by omega, by omega, by omega, by omega, by omega, by omega, by omega⟩, ⟨by omega, by omega⟩, zb25, k26⟩) mf_X12_wrongAt w_1324 0 k26 rfl rfl rfl (Nat.le_of_ble_eq_true rfl) ⟨(Nat.le_of_ble_eq_true rfl), (Nat.le_of_ble_eq_true rfl)⟩ ⟨(Nat.le_of_ble_eq_true rfl), (Nat.le_of_ble_eq_true rfl)⟩ dX12_readsFactor_66 rfl (fun r136 w137 h135 => ?_)
            obtain ⟨hW138, kq139, e140, x141⟩ := h135
            refine x_top e140 ?_
            have k142 : w137[4]? = some (bA E (a 4) 260 tf) := keeps_at kq139 iv0_1 (by first | decide | omega | (dsimp only; omega))
            have k143 : w137[5]? = some (iA E (a 5) 260 fs) := keeps_at kq139 iv0_2 (by first | decide | omega | (dsimp only; omega))
            have k144 : w137[6]? = some (iA E (a 6) 260 gx) := keeps_at kq139 iv0_3 (by first | decide | omega | (dsimp only; omega))
            have kp145 := keeps_tr kq0 kq139 (fun q hq => by first | omega | (dsimp only at *; omega))
            obtain ⟨v146, v147, v148, v149, v150, v151, v152, n153, n154, bo155, bo156, zb157, k158⟩ := x141
            exact x_zret C hr hlk rfl dX12_readsFactor_69 ⟨hW138, kp145, (Or.inl rfl), (Or.inl ⟨rfl, ⟨px, cm, wx, _, _, ⟨⟨_, ⟨v146, v147, v148, v149, v150, v151, v152, n153, n154, ⟨by omega, by omega, by omega, by omega, by omega, by omega, by omega⟩, ⟨by omega, by omega⟩, zb157, k158⟩⟩, k143, k144⟩⟩⟩)⟩
          · refine x_top en133 ?_
            have hp159 := hv_lt (x124.symm) hm134
            refine x_istore_n C (lv' := [(1, .int (nI n131)), (0, .ref (a 0))]) dX12_readsFactor_54 rfl (by decide) rfl rfl ?_
            refine x_iload_n C dX12_readsFactor_55 rfl 0 rfl rfl ?_
            refine x_iconst C (v := (-1)) dX12_readsFactor_56 (by decide) rfl ?_
            refine x_icmp_ne C (tgt := 70) dX12_readsFactor_57 (by decide) rfl (fun c160 => ?_) (fun c160 => ?_)
            · skip
              refine x_aload_n C dX12_readsFactor_70 rfl 1 rfl rfl ?_
              refine x_iconst C (v := 1) dX12_readsFactor_71 (by decide) rfl ?_
              refine x_iload_n C dX12_readsFactor_72 rfl 0 rfl rfl ?_
              refine x_vv C (As := [.int 1, .int (nI n131)]) (rest := []) (m_notes E l a cd hG wl0 hWl0 1 n131 (by omega) (by omega) tp px le cm wx sm lm nz ⟨v14, v15, v16, v17, v18, v19, v20, n21, n22, ⟨by omega, by omega, by omega, by omega, by omega, by omega, by omega⟩, ⟨by omega, by omega⟩, zb25, k26⟩ fs iv0_2 (by omega)) mf_X12_notes w_1349 0 k26 rfl rfl rfl (Nat.le_of_ble_eq_true rfl) ⟨(Nat.le_of_ble_eq_true rfl), (Nat.le_of_ble_eq_true rfl)⟩ ⟨(Nat.le_of_ble_eq_true rfl), (Nat.le_of_ble_eq_true rfl)⟩ dX12_readsFactor_73 rfl (fun w163 h161 => ?_)
              obtain ⟨hW164, kq165, x166⟩ := h161
              have k167 : w163[4]? = some (bA E (a 4) 260 tf) := keeps_at kq165 iv0_1 (by first | decide | omega | (dsimp only; omega))
              have k168 : w163[6]? = some (iA E (a 6) 260 gx) := keeps_at kq165 iv0_3 (by first | decide | omega | (dsimp only; omega))
              have kp169 := keeps_tr kq0 kq165 (fun q hq => by first | omega | (dsimp only at *; omega))
              obtain ⟨mo170, k171⟩ := x166
              obtain ⟨v172, v173, v174, v175, v176, v177, v178, n179, n180, bo181, bo182, zb183, k184⟩ := mo170
              have ci185 := CI_note (op := 1) (v := n131) (h' := h + 1) iv0_6 (by omega) (by omega) (by omega) (Or.inr (Or.inl ⟨rfl, by omega, rfl⟩))
              refine x_aload_n C dX12_readsFactor_76 rfl 1 rfl rfl ?_
              refine x_aload_n C dX12_readsFactor_77 rfl 1 rfl rfl ?_
              refine x_get C (ci := 11) (k := 5) 0 k184 rfl in_X12 (by decide) w_1123 rfl dX12_readsFactor_78 rfl ?_
              refine x_iconst C (v := 1) dX12_readsFactor_81 (by decide) rfl ?_
              refine x_iadd C (v := (nI (px + 1))) dX12_readsFactor_82 (nI_add px 1) rfl ?_
              obtain ⟨w186, hw187⟩ : ∃ w : va_W, w = List.set w163 0 (ob (a 0) 11 [.ref (a 1), .ref (a 2), .ref (a 3), .ref (a 4), .int (nI tp), .int (nI (px + 1)), .int (nI le), .int v172, .int nz, .int v173, .int (nI (cm + 1)), .int (nI wx), .int (nI sm), .int (nI (cd.2.2.2.2.2)), .ref (a 5), .ref (a 6), .ref (a 7), .ref (a 8), .ref (a 9), .ref (a 10), .ref (a 11), .ref (a 12), .ref (a 13), .ref (a 14), .ref (a 15), .ref (a 16), .ref (a 17), .int (nI lm), .ref (a 18), .ref (a 19), .ref (a 20), .ref (a 21), .int v174, .int v175, .int v176, .int v177, .int (nI n179), .int (nI n180), .ref (a 22), .ref (a 23), .ref (a 24), .ref (a 25), .ref (a 26), .ref (a 27), .ref (a 28), .ref (a 29), .ref (a 30), .int v178]) := ⟨_, rfl⟩
              refine x_put C (ci := 11) (k := 5) (ty := .int) 0 k184 rfl in_X12 tyX12 tyX12_ok nmX12 (by decide) w_1123 rfl rfl rfl rfl (Nat.le_of_ble_eq_true rfl) hw187.symm dX12_readsFactor_83 rfl ?_
              have hW188 : WX (okM E a cd) w186 := by rw [hw187]; exact hW164.set (k := 0) rfl ⟨tp, (px + 1), le, v172, nz, v173, (cm + 1), wx, sm, lm, v174, v175, v176, v177, n179, n180, v178, by omega, by omega, by omega, by omega, by omega, by omega, by omega, by omega, by omega, zb183, rfl⟩
              have k189 : w186[4]? = some (bA E (a 4) 260 tf) := by rw [hw187]; exact set_ne k167 (by decide)
              have k190 : w186[6]? = some (iA E (a 6) 260 gx) := by rw [hw187]; exact set_ne k168 (by decide)
              have k191 : w186[0]? = some (ob (a 0) 11 [.ref (a 1), .ref (a 2), .ref (a 3), .ref (a 4), .int (nI tp), .int (nI (px + 1)), .int (nI le), .int v172, .int nz, .int v173, .int (nI (cm + 1)), .int (nI wx), .int (nI sm), .int (nI (cd.2.2.2.2.2)), .ref (a 5), .ref (a 6), .ref (a 7), .ref (a 8), .ref (a 9), .ref (a 10), .ref (a 11), .ref (a 12), .ref (a 13), .ref (a 14), .ref (a 15), .ref (a 16), .ref (a 17), .int (nI lm), .ref (a 18), .ref (a 19), .ref (a 20), .ref (a 21), .int v174, .int v175, .int v176, .int v177, .int (nI n179), .int (nI n180), .ref (a 22), .ref (a 23), .ref (a 24), .ref (a 25), .ref (a 26), .ref (a 27), .ref (a 28), .ref (a 29), .ref (a 30), .int v178]) := by rw [hw187]; exact set_eq k184
              have k192 : w186[5]? = some (iA E (a 5) 260 (upd fs cm (nI (1048576 * 1 + n131)))) := by rw [hw187]; exact set_ne k171 (by decide)
              have kp193 := keeps_set kp169 hw187 (by first | exact rfl | decide | omega | (dsimp only; omega))
              refine x_iconst C (v := 1) dX12_readsFactor_86 (by decide) rfl ?_
              exact x_zret C hr hlk rfl dX12_readsFactor_87 ⟨hW188, kp193, (Or.inr rfl), (Or.inr ⟨rfl, (px + 1), wx, (nI (1048576 * 1 + n131)), _, Wn, by omega, by omega, iv0_5, iv0_4, ⟨⟨_, ⟨v172, v173, v174, v175, v176, v177, v178, n179, n180, ⟨by omega, by omega, by omega, by omega, by omega, by omega, by omega⟩, ⟨by omega, by omega⟩, zb183, k191⟩⟩, k192, k190⟩, ci185, by omega, by omega⟩)⟩
            · skip
              refine x_aload_n C dX12_readsFactor_60 rfl 1 rfl rfl ?_
              refine x_iconst C (v := 1) dX12_readsFactor_61 (by decide) rfl ?_
              refine x_aload_n C dX12_readsFactor_62 rfl 1 rfl rfl ?_
              refine x_get C (ci := 11) (k := 5) 0 k26 rfl in_X12 (by decide) w_1123 rfl dX12_readsFactor_63 rfl ?_
              refine x_vi C (As := [.int 1, .int (nI px)]) (rest := []) (m_wrongAt E l a cd hG wl0 hWl0 (1 : Int32) ((nI px)) tp px le cm wx sm lm nz ⟨v14, v15, v16, v17, v18, v19, v20, n21, n22, ⟨by omega, by omega, by omega, by omega, by omega, by omega, by omega⟩, ⟨by omega, by omega⟩, zb25, k26⟩) mf_X12_wrongAt w_1324 0 k26 rfl rfl rfl (Nat.le_of_ble_eq_true rfl) ⟨(Nat.le_of_ble_eq_true rfl), (Nat.le_of_ble_eq_true rfl)⟩ ⟨(Nat.le_of_ble_eq_true rfl), (Nat.le_of_ble_eq_true rfl)⟩ dX12_readsFactor_66 rfl (fun r195 w196 h194 => ?_)
              obtain ⟨hW197, kq198, e199, x200⟩ := h194
              refine x_top e199 ?_
              have k201 : w196[4]? = some (bA E (a 4) 260 tf) := keeps_at kq198 iv0_1 (by first | decide | omega | (dsimp only; omega))
              have k202 : w196[5]? = some (iA E (a 5) 260 fs) := keeps_at kq198 iv0_2 (by first | decide | omega | (dsimp only; omega))
              have k203 : w196[6]? = some (iA E (a 6) 260 gx) := keeps_at kq198 iv0_3 (by first | decide | omega | (dsimp only; omega))
              have kp204 := keeps_tr kq0 kq198 (fun q hq => by first | omega | (dsimp only at *; omega))
              obtain ⟨v205, v206, v207, v208, v209, v210, v211, n212, n213, bo214, bo215, zb216, k217⟩ := x200
              exact x_zret C hr hlk rfl dX12_readsFactor_69 ⟨hW197, kp204, (Or.inl rfl), (Or.inl ⟨rfl, ⟨px, cm, wx, _, _, ⟨⟨_, ⟨v205, v206, v207, v208, v209, v210, v211, n212, n213, ⟨by omega, by omega, by omega, by omega, by omega, by omega, by omega⟩, ⟨by omega, by omega⟩, zb216, k217⟩⟩, k202, k203⟩⟩⟩)⟩
      · skip
        have hp218 := hv_lt (x31.symm.trans c32) (by decide)
        refine x_aload_n C dX12_readsFactor_9 rfl 0 rfl rfl ?_
        refine x_bipush C (v := 14) dX12_readsFactor_10 (by decide) rfl ?_
        refine x_vi C (As := [.int 14]) (rest := []) (m_opens14 E l a cd hG wl0 hWl0 tp px le cm wx sm lm nz ⟨v14, v15, v16, v17, v18, v19, v20, n21, n22, ⟨by omega, by omega, by omega, by omega, by omega, by omega, by omega⟩, ⟨by omega, by omega⟩, zb25, k26⟩ gx iv0_3 (by omega) (by omega)) mf_X12_opens w_1336 0 k26 rfl rfl rfl (Nat.le_of_ble_eq_true rfl) ⟨(Nat.le_of_ble_eq_true rfl), (Nat.le_of_ble_eq_true rfl)⟩ ⟨(Nat.le_of_ble_eq_true rfl), (Nat.le_of_ble_eq_true rfl)⟩ dX12_readsFactor_12 rfl (fun r220 w221 h219 => ?_)
        obtain ⟨hW222, kq223, zb224, x225⟩ := h219
        have k226 : w221[4]? = some (bA E (a 4) 260 tf) := keeps_at kq223 iv0_1 (by first | decide | omega | (dsimp only; omega))
        have k227 : w221[5]? = some (iA E (a 5) 260 fs) := keeps_at kq223 iv0_2 (by first | decide | omega | (dsimp only; omega))
        have kp228 := keeps_tr kq0 kq223 (fun q hq => by first | omega | (dsimp only at *; omega))
        rcases x225 with ⟨e229, mo230, k231⟩ | ⟨e232, mo233, k234⟩
        · refine x_top e229 ?_
          obtain ⟨v235, v236, v237, v238, v239, v240, v241, n242, n243, bo244, bo245, zb246, k247⟩ := mo230
          refine x_if_ne C (tgt := 0) dX12_readsFactor_15 (by decide) rfl (fun h => absurd h (by decide)) (fun _ => ?_)
          refine x_iconst C (v := 0) dX12_readsFactor_18 (by decide) rfl ?_
          exact x_zret C hr hlk rfl dX12_readsFactor_19 ⟨hW222, kp228, (Or.inl rfl), (Or.inl ⟨rfl, ⟨px, cm, wx, _, _, ⟨⟨_, ⟨v235, v236, v237, v238, v239, v240, v241, n242, n243, ⟨by omega, by omega, by omega, by omega, by omega, by omega, by omega⟩, ⟨by omega, by omega⟩, zb246, k247⟩⟩, k227, k231⟩⟩⟩)⟩
        · refine x_top e232 ?_
          obtain ⟨v248, v249, v250, v251, v252, v253, v254, n255, n256, bo257, bo258, zb259, k260⟩ := mo233
          refine x_if_ne C (tgt := 0) dX12_readsFactor_15 (by decide) rfl (fun _ => ?_) (fun h => absurd h (by decide))
          refine x_lv (lv1 := [(0, .ref (a 0))]) [0] rfl ?_
          exact ih0 (px + 1) (wx + 1) nz ((upd gx wx (nI (1048576 * 14 + 0)))) ((14, 0) :: Wn) w221 hW222 (by omega) ⟨v248, v249, v250, v251, v252, v253, v254, n255, n256, ⟨by omega, by omega, by omega, by omega, by omega, by omega, by omega⟩, ⟨by omega, by omega⟩, zb259, k260⟩ k226 k227 k234 (wR_push (op := 14) (pay := 0) iv0_4 (by omega) (by omega)) (fun z hz => (List.mem_cons.mp hz).elim (fun q => by rw [q]) (fun q => iv0_5 z q)) (CI_push (e := (14, 0)) iv0_6 (fun q => by rcases q with q | q <;> exact absurd q (by decide))) (by omega) kp228
  refine x_lv (lv1 := [(0, .ref (a 0))]) [0] rfl ?_
  exact loop0 _ pl wt nu fw [] ws hW (Nat.lt_succ_self _) ⟨v1, v2, v3, v4, v5, v6, v7, n8, n9, ⟨by omega, by omega, by omega, by omega, by omega, by omega, by omega⟩, ⟨by omega, by omega⟩, zb12, k13⟩ htf hfs hfw hwr (fun z hz => absurd hz List.not_mem_nil) hci (by omega) kp0
