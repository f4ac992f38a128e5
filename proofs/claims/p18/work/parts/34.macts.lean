def MO (a : Nat → Nat) (cd : Cd) (w : va_W) (tp pl le cm wt sm lm : Nat) (nu : Int32) : Prop := ∃ (v7 v9 v32 v33 v34 v35 v47 : Int32) (n36 n37 : Nat), (tp ≤ 260 ∧ pl ≤ 240 ∧ le ≤ 240 ∧ cm ≤ 260 ∧ wt ≤ 260 ∧ sm ≤ 16 ∧ lm ≤ 24) ∧ (n36 ≤ 12 ∧ n37 ≤ 4) ∧ zb v47 ∧ w[0]? = some (ob (a 0) 11 [.ref (a 1), .ref (a 2), .ref (a 3), .ref (a 4), .int (nI tp), .int (nI pl), .int (nI le), .int v7, .int nu, .int v9, .int (nI cm), .int (nI wt), .int (nI sm), .int (nI cd.2.2.2.2.2), .ref (a 5), .ref (a 6), .ref (a 7), .ref (a 8), .ref (a 9), .ref (a 10), .ref (a 11), .ref (a 12), .ref (a 13), .ref (a 14), .ref (a 15), .ref (a 16), .ref (a 17), .int (nI lm), .ref (a 18), .ref (a 19), .ref (a 20), .ref (a 21), .int v32, .int v33, .int v34, .int v35, .int (nI n36), .int (nI n37), .ref (a 22), .ref (a 23), .ref (a 24), .ref (a 25), .ref (a 26), .ref (a 27), .ref (a 28), .ref (a 29), .ref (a 30), .int v47])
def hv (tf : Nat → Int32) (pl le : Nat) : Int32 := if pl < le then tf pl &&& 255 else -1
theorem and255 (v : Int32) : ∃ b : Nat, b ≤ 255 ∧ v &&& 255 = nI b := by
  obtain ⟨z, hz, e⟩ := and_low (f := 255) (by omega) v
  refine ⟨z, ?_, ?_⟩
  · have q : (255 : Int32) &&& v = nI z := e
    have h1 : ((255 : Int32) &&& v).toBitVec.toNat ≤ 255 := by
      rw [Int32.toBitVec_and, BitVec.toNat_and]; exact Nat.and_le_left
    rw [q] at h1
    have h2 : (nI z).toBitVec.toNat = z := pk_tn (by omega)
    omega
  · rw [Int32.and_comm]; exact e
theorem hv_lt {tf : Nat → Int32} {pl le : Nat} {v : Int32} (h : hv tf pl le = v) (hn : ¬ v = -1) : pl < le := by
  rcases Nat.lt_or_ge pl le with q | q
  · exact q
  · rw [hv, if_neg (by omega)] at h; exact absurd h.symm hn
theorem hv_dig {tf : Nat → Int32} {pl le : Nat} (h1 : ¬ hv tf pl le < 48) (h2 : ¬ 57 < hv tf pl le) : ∃ d : Nat, d ≤ 9 ∧ hv tf pl le = nI (48 + d) ∧ pl < le := by
  rcases Nat.lt_or_ge pl le with q | q
  · rw [hv, if_pos q] at h1 h2 ⊢
    obtain ⟨b, hb, e⟩ := and255 (tf pl)
    rw [e] at h1 h2 ⊢
    have a1 := nI_nlt' (a := b) (b := 48) h1 (by omega) (by omega)
    have a2 := nI_nlt' (a := 57) (b := b) h2 (by omega) (by omega)
    exact ⟨b - 48, by omega, congrArg nI (by omega), q⟩
  · rw [hv, if_neg (by omega)] at h1; exact absurd (by decide : (-1 : Int32) < 48) h1
theorem dX12_types_0 : decode cX12_types 0 = .ok (.iconst 3, 1) := by decide +kernel
theorem dX12_types_1 : decode cX12_types 1 = .ok (.istore_n 2, 1) := by decide +kernel
theorem dX12_types_2 : decode cX12_types 2 = .ok (.iload_n 2, 1) := by decide +kernel
theorem dX12_types_3 : decode cX12_types 3 = .ok (.ifCond .lt 35, 3) := by decide +kernel
theorem dX12_types_6 : decode cX12_types 6 = .ok (.aload_n 0, 1) := by decide +kernel
theorem dX12_types_7 : decode cX12_types 7 = .ok (.getfield 19, 3) := by decide +kernel
theorem dX12_types_10 : decode cX12_types 10 = .ok (.aload_n 0, 1) := by decide +kernel
theorem dX12_types_11 : decode cX12_types 11 = .ok (.getfield 123, 3) := by decide +kernel
theorem dX12_types_14 : decode cX12_types 14 = .ok (.iload_n 1, 1) := by decide +kernel
theorem dX12_types_15 : decode cX12_types 15 = .ok (.bipush 8, 2) := by decide +kernel
theorem dX12_types_17 : decode cX12_types 17 = .ok (.iload_n 2, 1) := by decide +kernel
theorem dX12_types_18 : decode cX12_types 18 = .ok (.imul, 1) := by decide +kernel
theorem dX12_types_19 : decode cX12_types 19 = .ok (.ishr, 1) := by decide +kernel
theorem dX12_types_20 : decode cX12_types 20 = .ok (.i2b, 1) := by decide +kernel
theorem dX12_types_21 : decode cX12_types 21 = .ok (.bastore, 1) := by decide +kernel
theorem dX12_types_22 : decode cX12_types 22 = .ok (.aload_n 0, 1) := by decide +kernel
theorem dX12_types_23 : decode cX12_types 23 = .ok (.aload_n 0, 1) := by decide +kernel
theorem dX12_types_24 : decode cX12_types 24 = .ok (.getfield 123, 3) := by decide +kernel
theorem dX12_types_27 : decode cX12_types 27 = .ok (.iconst 1, 1) := by decide +kernel
theorem dX12_types_28 : decode cX12_types 28 = .ok (.iadd, 1) := by decide +kernel
theorem dX12_types_29 : decode cX12_types 29 = .ok (.putfield 123, 3) := by decide +kernel
theorem dX12_types_32 : decode cX12_types 32 = .ok (.iinc 2 (-1), 3) := by decide +kernel
theorem dX12_types_35 : decode cX12_types 35 = .ok (.goto (-33), 3) := by decide +kernel
theorem dX12_types_38 : decode cX12_types 38 = .ok (.return_, 1) := by decide +kernel
set_option maxRecDepth 20000 in
set_option maxHeartbeats 4000000 in
theorem m_types (E : xE) (l : Launch) (a : Nat → Nat) (cd : Cd) (hG : Good cd) (ws : va_W) (hW : WX (okM E a cd) ws) (p0 : Int32) (tp pl le cm wt sm lm : Nat) (nu : Int32) (h0 : MO a cd ws tp pl le cm wt sm lm nu) (htp : tp ≤ 256) : xV E l yX12_types cX12_types 3 0 0 0 [.ref (a 0), .int p0] ws (fun w => WX (okM E a cd) w ∧ keeps ws w (fun q => q = 0 ∨ q = 4) ∧ (MO a cd w (tp + 4) pl le cm wt sm lm nu)) := by
  refine xV_start (lv := [(0, .ref (a 0)), (1, .int p0)]) RX12 (by decide) rfl (Nat.le_of_ble_eq_true rfl) rfl (fun p e s m below meth c A C hr hlk hin => ?_)
  have kp0 : keeps ws ws (fun q => q = 0 ∨ q = 4) := keeps_rf
  obtain ⟨v1, v2, v3, v4, v5, v6, v7, n8, n9, bo10, bo11, zb12, k13⟩ := h0
  refine x_iconst C (v := 3) dX12_types_0 (by decide) rfl ?_
  refine x_istore_n C (lv' := [(2, .int 3), (0, .ref (a 0)), (1, .int p0)]) dX12_types_1 rfl (by decide) rfl rfl ?_
  refine x_iload_n C dX12_types_2 rfl 0 rfl rfl ?_
  refine x_if_lt C (tgt := 38) dX12_types_3 (by decide) rfl (fun h => absurd h (by decide)) (fun _ => ?_)
  refine x_aload_n C dX12_types_6 rfl 1 rfl rfl ?_
  refine x_get C (ci := 11) (k := 3) 0 k13 rfl in_X12 (by decide) w_1121 rfl dX12_types_7 rfl ?_
  refine x_aload_n C dX12_types_10 rfl 1 rfl rfl ?_
  refine x_get C (ci := 11) (k := 4) 0 k13 rfl in_X12 (by decide) w_1122 rfl dX12_types_11 rfl ?_
  refine x_iload_n C dX12_types_14 rfl 2 rfl rfl ?_
  refine x_bipush C (v := 8) dX12_types_15 (by decide) rfl ?_
  refine x_iload_n C dX12_types_17 rfl 0 rfl rfl ?_
  refine x_imul C (v := 24) dX12_types_18 (by decide) rfl ?_
  refine x_ishr C (v := (p0 >>> ((24 : Int32) &&& 31))) dX12_types_19 rfl rfl ?_
  refine x_any (fun v14 => ?_)
  refine x_i2b C dX12_types_20 rfl rfl ?_
  refine x_any (fun v15 => ?_)
  obtain ⟨_, k16, f17, rfl⟩ := hW 4 _ rfl
  obtain ⟨w18, hw19⟩ : ∃ w : va_W, w = List.set ws 4 (bA E (a 4) 260 (upd f17 tp (vp_nar .byte v15))) := ⟨_, rfl⟩
  refine x_bask C tp (nI_clamp (by omega)) (nI_pos (by omega)) (by omega) 4 k16 hw19.symm dX12_types_21 rfl ?_
  have hW20 : WX (okM E a cd) w18 := by rw [hw19]; exact hW.set (k := 4) rfl ⟨_, rfl⟩
  have k21 : w18[0]? = some (ob (a 0) 11 [.ref (a 1), .ref (a 2), .ref (a 3), .ref (a 4), .int (nI tp), .int (nI pl), .int (nI le), .int v1, .int nu, .int v2, .int (nI cm), .int (nI wt), .int (nI sm), .int (nI (cd.2.2.2.2.2)), .ref (a 5), .ref (a 6), .ref (a 7), .ref (a 8), .ref (a 9), .ref (a 10), .ref (a 11), .ref (a 12), .ref (a 13), .ref (a 14), .ref (a 15), .ref (a 16), .ref (a 17), .int (nI lm), .ref (a 18), .ref (a 19), .ref (a 20), .ref (a 21), .int v3, .int v4, .int v5, .int v6, .int (nI n8), .int (nI n9), .ref (a 22), .ref (a 23), .ref (a 24), .ref (a 25), .ref (a 26), .ref (a 27), .ref (a 28), .ref (a 29), .ref (a 30), .int v7]) := by rw [hw19]; exact set_ne k13 (by decide)
  have k22 : w18[4]? = some (bA E (a 4) 260 (upd f17 tp (vp_nar .byte v15))) := by rw [hw19]; exact set_eq k16
  have kp23 := keeps_set kp0 hw19 (by first | exact rfl | decide | omega | (dsimp only; omega))
  refine x_aload_n C dX12_types_22 rfl 1 rfl rfl ?_
  refine x_aload_n C dX12_types_23 rfl 1 rfl rfl ?_
  refine x_get C (ci := 11) (k := 4) 0 k21 rfl in_X12 (by decide) w_1122 rfl dX12_types_24 rfl ?_
  refine x_iconst C (v := 1) dX12_types_27 (by decide) rfl ?_
  refine x_iadd C (v := (nI (tp + 1))) dX12_types_28 (nI_add tp 1) rfl ?_
  obtain ⟨w24, hw25⟩ : ∃ w : va_W, w = List.set w18 0 (ob (a 0) 11 [.ref (a 1), .ref (a 2), .ref (a 3), .ref (a 4), .int (nI (tp + 1)), .int (nI pl), .int (nI le), .int v1, .int nu, .int v2, .int (nI cm), .int (nI wt), .int (nI sm), .int (nI (cd.2.2.2.2.2)), .ref (a 5), .ref (a 6), .ref (a 7), .ref (a 8), .ref (a 9), .ref (a 10), .ref (a 11), .ref (a 12), .ref (a 13), .ref (a 14), .ref (a 15), .ref (a 16), .ref (a 17), .int (nI lm), .ref (a 18), .ref (a 19), .ref (a 20), .ref (a 21), .int v3, .int v4, .int v5, .int v6, .int (nI n8), .int (nI n9), .ref (a 22), .ref (a 23), .ref (a 24), .ref (a 25), .ref (a 26), .ref (a 27), .ref (a 28), .ref (a 29), .ref (a 30), .int v7]) := ⟨_, rfl⟩
  refine x_put C (ci := 11) (k := 4) (ty := .int) 0 k21 rfl in_X12 tyX12 tyX12_ok nmX12 (by decide) w_1122 rfl rfl rfl rfl (Nat.le_of_ble_eq_true rfl) hw25.symm dX12_types_29 rfl ?_
  have hW26 : WX (okM E a cd) w24 := by rw [hw25]; exact hW20.set (k := 0) rfl ⟨(tp + 1), pl, le, v1, nu, v2, cm, wt, sm, lm, v3, v4, v5, v6, n8, n9, v7, by omega, by omega, by omega, by omega, by omega, by omega, by omega, by omega, by omega, zb12, rfl⟩
  have k27 : w24[0]? = some (ob (a 0) 11 [.ref (a 1), .ref (a 2), .ref (a 3), .ref (a 4), .int (nI (tp + 1)), .int (nI pl), .int (nI le), .int v1, .int nu, .int v2, .int (nI cm), .int (nI wt), .int (nI sm), .int (nI (cd.2.2.2.2.2)), .ref (a 5), .ref (a 6), .ref (a 7), .ref (a 8), .ref (a 9), .ref (a 10), .ref (a 11), .ref (a 12), .ref (a 13), .ref (a 14), .ref (a 15), .ref (a 16), .ref (a 17), .int (nI lm), .ref (a 18), .ref (a 19), .ref (a 20), .ref (a 21), .int v3, .int v4, .int v5, .int v6, .int (nI n8), .int (nI n9), .ref (a 22), .ref (a 23), .ref (a 24), .ref (a 25), .ref (a 26), .ref (a 27), .ref (a 28), .ref (a 29), .ref (a 30), .int v7]) := by rw [hw25]; exact set_eq k21
  have k28 : w24[4]? = some (bA E (a 4) 260 (upd f17 tp (vp_nar .byte v15))) := by rw [hw25]; exact set_ne k22 (by decide)
  have kp29 := keeps_set kp23 hw25 (by first | exact rfl | decide | omega | (dsimp only; omega))
  refine x_iinc C (v := 2) (lv' := [(2, .int 2), (0, .ref (a 0)), (1, .int p0)]) dX12_types_32 0 rfl (by decide) (by decide) rfl rfl ?_
  refine x_goto C (tgt := 2) dX12_types_35 (by decide) ?_
  refine x_iload_n C dX12_types_2 rfl 0 rfl rfl ?_
  refine x_if_lt C (tgt := 38) dX12_types_3 (by decide) rfl (fun h => absurd h (by decide)) (fun _ => ?_)
  refine x_aload_n C dX12_types_6 rfl 1 rfl rfl ?_
  refine x_get C (ci := 11) (k := 3) 0 k27 rfl in_X12 (by decide) w_1121 rfl dX12_types_7 rfl ?_
  refine x_aload_n C dX12_types_10 rfl 1 rfl rfl ?_
  refine x_get C (ci := 11) (k := 4) 0 k27 rfl in_X12 (by decide) w_1122 rfl dX12_types_11 rfl ?_
  refine x_iload_n C dX12_types_14 rfl 2 rfl rfl ?_
  refine x_bipush C (v := 8) dX12_types_15 (by decide) rfl ?_
  refine x_iload_n C dX12_types_17 rfl 0 rfl rfl ?_
  refine x_imul C (v := 16) dX12_types_18 (by decide) rfl ?_
  refine x_ishr C (v := (p0 >>> ((16 : Int32) &&& 31))) dX12_types_19 rfl rfl ?_
  refine x_any (fun v30 => ?_)
  refine x_i2b C dX12_types_20 rfl rfl ?_
  refine x_any (fun v31 => ?_)
  obtain ⟨w32, hw33⟩ : ∃ w : va_W, w = List.set w24 4 (bA E (a 4) 260 (upd (upd f17 tp (vp_nar .byte v15)) (tp + 1) (vp_nar .byte v31))) := ⟨_, rfl⟩
  refine x_bask C (tp + 1) (nI_clamp (by omega)) (nI_pos (by omega)) (by omega) 4 k28 hw33.symm dX12_types_21 rfl ?_
  have hW34 : WX (okM E a cd) w32 := by rw [hw33]; exact hW26.set (k := 4) rfl ⟨_, rfl⟩
  have k35 : w32[0]? = some (ob (a 0) 11 [.ref (a 1), .ref (a 2), .ref (a 3), .ref (a 4), .int (nI (tp + 1)), .int (nI pl), .int (nI le), .int v1, .int nu, .int v2, .int (nI cm), .int (nI wt), .int (nI sm), .int (nI (cd.2.2.2.2.2)), .ref (a 5), .ref (a 6), .ref (a 7), .ref (a 8), .ref (a 9), .ref (a 10), .ref (a 11), .ref (a 12), .ref (a 13), .ref (a 14), .ref (a 15), .ref (a 16), .ref (a 17), .int (nI lm), .ref (a 18), .ref (a 19), .ref (a 20), .ref (a 21), .int v3, .int v4, .int v5, .int v6, .int (nI n8), .int (nI n9), .ref (a 22), .ref (a 23), .ref (a 24), .ref (a 25), .ref (a 26), .ref (a 27), .ref (a 28), .ref (a 29), .ref (a 30), .int v7]) := by rw [hw33]; exact set_ne k27 (by decide)
  have k36 : w32[4]? = some (bA E (a 4) 260 (upd (upd f17 tp (vp_nar .byte v15)) (tp + 1) (vp_nar .byte v31))) := by rw [hw33]; exact set_eq k28
  have kp37 := keeps_set kp29 hw33 (by first | exact rfl | decide | omega | (dsimp only; omega))
  refine x_aload_n C dX12_types_22 rfl 1 rfl rfl ?_
  refine x_aload_n C dX12_types_23 rfl 1 rfl rfl ?_
  refine x_get C (ci := 11) (k := 4) 0 k35 rfl in_X12 (by decide) w_1122 rfl dX12_types_24 rfl ?_
  refine x_iconst C (v := 1) dX12_types_27 (by decide) rfl ?_
  refine x_iadd C (v := (nI ((tp + 1) + 1))) dX12_types_28 (nI_add (tp + 1) 1) rfl ?_
  obtain ⟨w38, hw39⟩ : ∃ w : va_W, w = List.set w32 0 (ob (a 0) 11 [.ref (a 1), .ref (a 2), .ref (a 3), .ref (a 4), .int (nI ((tp + 1) + 1)), .int (nI pl), .int (nI le), .int v1, .int nu, .int v2, .int (nI cm), .int (nI wt), .int (nI sm), .int (nI (cd.2.2.2.2.2)), .ref (a 5), .ref (a 6), .ref (a 7), .ref (a 8), .ref (a 9), .ref (a 10), .ref (a 11), .ref (a 12), .ref (a 13), .ref (a 14), .ref (a 15), .ref (a 16), .ref (a 17), .int (nI lm), .ref (a 18), .ref (a 19), .ref (a 20), .ref (a 21), .int v3, .int v4, .int v5, .int v6, .int (nI n8), .int (nI n9), .ref (a 22), .ref (a 23), .ref (a 24), .ref (a 25), .ref (a 26), .ref (a 27), .ref (a 28), .ref (a 29), .ref (a 30), .int v7]) := ⟨_, rfl⟩
  refine x_put C (ci := 11) (k := 4) (ty := .int) 0 k35 rfl in_X12 tyX12 tyX12_ok nmX12 (by decide) w_1122 rfl rfl rfl rfl (Nat.le_of_ble_eq_true rfl) hw39.symm dX12_types_29 rfl ?_
  have hW40 : WX (okM E a cd) w38 := by rw [hw39]; exact hW34.set (k := 0) rfl ⟨((tp + 1) + 1), pl, le, v1, nu, v2, cm, wt, sm, lm, v3, v4, v5, v6, n8, n9, v7, by omega, by omega, by omega, by omega, by omega, by omega, by omega, by omega, by omega, zb12, rfl⟩
  have k41 : w38[0]? = some (ob (a 0) 11 [.ref (a 1), .ref (a 2), .ref (a 3), .ref (a 4), .int (nI ((tp + 1) + 1)), .int (nI pl), .int (nI le), .int v1, .int nu, .int v2, .int (nI cm), .int (nI wt), .int (nI sm), .int (nI (cd.2.2.2.2.2)), .ref (a 5), .ref (a 6), .ref (a 7), .ref (a 8), .ref (a 9), .ref (a 10), .ref (a 11), .ref (a 12), .ref (a 13), .ref (a 14), .ref (a 15), .ref (a 16), .ref (a 17), .int (nI lm), .ref (a 18), .ref (a 19), .ref (a 20), .ref (a 21), .int v3, .int v4, .int v5, .int v6, .int (nI n8), .int (nI n9), .ref (a 22), .ref (a 23), .ref (a 24), .ref (a 25), .ref (a 26), .ref (a 27), .ref (a 28), .ref (a 29), .ref (a 30), .int v7]) := by rw [hw39]; exact set_eq k35
  have k42 : w38[4]? = some (bA E (a 4) 260 (upd (upd f17 tp (vp_nar .byte v15)) (tp + 1) (vp_nar .byte v31))) := by rw [hw39]; exact set_ne k36 (by decide)
  have kp43 := keeps_set kp37 hw39 (by first | exact rfl | decide | omega | (dsimp only; omega))
  refine x_iinc C (v := 1) (lv' := [(2, .int 1), (0, .ref (a 0)), (1, .int p0)]) dX12_types_32 0 rfl (by decide) (by decide) rfl rfl ?_
  refine x_goto C (tgt := 2) dX12_types_35 (by decide) ?_
  refine x_iload_n C dX12_types_2 rfl 0 rfl rfl ?_
  refine x_if_lt C (tgt := 38) dX12_types_3 (by decide) rfl (fun h => absurd h (by decide)) (fun _ => ?_)
  refine x_aload_n C dX12_types_6 rfl 1 rfl rfl ?_
  refine x_get C (ci := 11) (k := 3) 0 k41 rfl in_X12 (by decide) w_1121 rfl dX12_types_7 rfl ?_
  refine x_aload_n C dX12_types_10 rfl 1 rfl rfl ?_
  refine x_get C (ci := 11) (k := 4) 0 k41 rfl in_X12 (by decide) w_1122 rfl dX12_types_11 rfl ?_
  refine x_iload_n C dX12_types_14 rfl 2 rfl rfl ?_
  refine x_bipush C (v := 8) dX12_types_15 (by decide) rfl ?_
  refine x_iload_n C dX12_types_17 rfl 0 rfl rfl ?_
  refine x_imul C (v := 8) dX12_types_18 (by decide) rfl ?_
  refine x_ishr C (v := (p0 >>> ((8 : Int32) &&& 31))) dX12_types_19 rfl rfl ?_
  refine x_any (fun v44 => ?_)
  refine x_i2b C dX12_types_20 rfl rfl ?_
  refine x_any (fun v45 => ?_)
  obtain ⟨w46, hw47⟩ : ∃ w : va_W, w = List.set w38 4 (bA E (a 4) 260 (upd (upd (upd f17 tp (vp_nar .byte v15)) (tp + 1) (vp_nar .byte v31)) ((tp + 1) + 1) (vp_nar .byte v45))) := ⟨_, rfl⟩
  refine x_bask C ((tp + 1) + 1) (nI_clamp (by omega)) (nI_pos (by omega)) (by omega) 4 k42 hw47.symm dX12_types_21 rfl ?_
  have hW48 : WX (okM E a cd) w46 := by rw [hw47]; exact hW40.set (k := 4) rfl ⟨_, rfl⟩
  have k49 : w46[0]? = some (ob (a 0) 11 [.ref (a 1), .ref (a 2), .ref (a 3), .ref (a 4), .int (nI ((tp + 1) + 1)), .int (nI pl), .int (nI le), .int v1, .int nu, .int v2, .int (nI cm), .int (nI wt), .int (nI sm), .int (nI (cd.2.2.2.2.2)), .ref (a 5), .ref (a 6), .ref (a 7), .ref (a 8), .ref (a 9), .ref (a 10), .ref (a 11), .ref (a 12), .ref (a 13), .ref (a 14), .ref (a 15), .ref (a 16), .ref (a 17), .int (nI lm), .ref (a 18), .ref (a 19), .ref (a 20), .ref (a 21), .int v3, .int v4, .int v5, .int v6, .int (nI n8), .int (nI n9), .ref (a 22), .ref (a 23), .ref (a 24), .ref (a 25), .ref (a 26), .ref (a 27), .ref (a 28), .ref (a 29), .ref (a 30), .int v7]) := by rw [hw47]; exact set_ne k41 (by decide)
  have k50 : w46[4]? = some (bA E (a 4) 260 (upd (upd (upd f17 tp (vp_nar .byte v15)) (tp + 1) (vp_nar .byte v31)) ((tp + 1) + 1) (vp_nar .byte v45))) := by rw [hw47]; exact set_eq k42
  have kp51 := keeps_set kp43 hw47 (by first | exact rfl | decide | omega | (dsimp only; omega))
  refine x_aload_n C dX12_types_22 rfl 1 rfl rfl ?_
  refine x_aload_n C dX12_types_23 rfl 1 rfl rfl ?_
  refine x_get C (ci := 11) (k := 4) 0 k49 rfl in_X12 (by decide) w_1122 rfl dX12_types_24 rfl ?_
  refine x_iconst C (v := 1) dX12_types_27 (by decide) rfl ?_
  refine x_iadd C (v := (nI (((tp + 1) + 1) + 1))) dX12_types_28 (nI_add ((tp + 1) + 1) 1) rfl ?_
  obtain ⟨w52, hw53⟩ : ∃ w : va_W, w = List.set w46 0 (ob (a 0) 11 [.ref (a 1), .ref (a 2), .ref (a 3), .ref (a 4), .int (nI (((tp + 1) + 1) + 1)), .int (nI pl), .int (nI le), .int v1, .int nu, .int v2, .int (nI cm), .int (nI wt), .int (nI sm), .int (nI (cd.2.2.2.2.2)), .ref (a 5), .ref (a 6), .ref (a 7), .ref (a 8), .ref (a 9), .ref (a 10), .ref (a 11), .ref (a 12), .ref (a 13), .ref (a 14), .ref (a 15), .ref (a 16), .ref (a 17), .int (nI lm), .ref (a 18), .ref (a 19), .ref (a 20), .ref (a 21), .int v3, .int v4, .int v5, .int v6, .int (nI n8), .int (nI n9), .ref (a 22), .ref (a 23), .ref (a 24), .ref (a 25), .ref (a 26), .ref (a 27), .ref (a 28), .ref (a 29), .ref (a 30), .int v7]) := ⟨_, rfl⟩
  refine x_put C (ci := 11) (k := 4) (ty := .int) 0 k49 rfl in_X12 tyX12 tyX12_ok nmX12 (by decide) w_1122 rfl rfl rfl rfl (Nat.le_of_ble_eq_true rfl) hw53.symm dX12_types_29 rfl ?_
  have hW54 : WX (okM E a cd) w52 := by rw [hw53]; exact hW48.set (k := 0) rfl ⟨(((tp + 1) + 1) + 1), pl, le, v1, nu, v2, cm, wt, sm, lm, v3, v4, v5, v6, n8, n9, v7, by omega, by omega, by omega, by omega, by omega, by omega, by omega, by omega, by omega, zb12, rfl⟩
  have k55 : w52[0]? = some (ob (a 0) 11 [.ref (a 1), .ref (a 2), .ref (a 3), .ref (a 4), .int (nI (((tp + 1) + 1) + 1)), .int (nI pl), .int (nI le), .int v1, .int nu, .int v2, .int (nI cm), .int (nI wt), .int (nI sm), .int (nI (cd.2.2.2.2.2)), .ref (a 5), .ref (a 6), .ref (a 7), .ref (a 8), .ref (a 9), .ref (a 10), .ref (a 11), .ref (a 12), .ref (a 13), .ref (a 14), .ref (a 15), .ref (a 16), .ref (a 17), .int (nI lm), .ref (a 18), .ref (a 19), .ref (a 20), .ref (a 21), .int v3, .int v4, .int v5, .int v6, .int (nI n8), .int (nI n9), .ref (a 22), .ref (a 23), .ref (a 24), .ref (a 25), .ref (a 26), .ref (a 27), .ref (a 28), .ref (a 29), .ref (a 30), .int v7]) := by rw [hw53]; exact set_eq k49
  have k56 : w52[4]? = some (bA E (a 4) 260 (upd (upd (upd f17 tp (vp_nar .byte v15)) (tp + 1) (vp_nar .byte v31)) ((tp + 1) + 1) (vp_nar .byte v45))) := by rw [hw53]; exact set_ne k50 (by decide)
  have kp57 := keeps_set kp51 hw53 (by first | exact rfl | decide | omega | (dsimp only; omega))
  refine x_iinc C (v := 0) (lv' := [(2, .int 0), (0, .ref (a 0)), (1, .int p0)]) dX12_types_32 0 rfl (by decide) (by decide) rfl rfl ?_
  refine x_goto C (tgt := 2) dX12_types_35 (by decide) ?_
  refine x_iload_n C dX12_types_2 rfl 0 rfl rfl ?_
  refine x_if_lt C (tgt := 38) dX12_types_3 (by decide) rfl (fun h => absurd h (by decide)) (fun _ => ?_)
  refine x_aload_n C dX12_types_6 rfl 1 rfl rfl ?_
  refine x_get C (ci := 11) (k := 3) 0 k55 rfl in_X12 (by decide) w_1121 rfl dX12_types_7 rfl ?_
  refine x_aload_n C dX12_types_10 rfl 1 rfl rfl ?_
  refine x_get C (ci := 11) (k := 4) 0 k55 rfl in_X12 (by decide) w_1122 rfl dX12_types_11 rfl ?_
  refine x_iload_n C dX12_types_14 rfl 2 rfl rfl ?_
  refine x_bipush C (v := 8) dX12_types_15 (by decide) rfl ?_
  refine x_iload_n C dX12_types_17 rfl 0 rfl rfl ?_
  refine x_imul C (v := 0) dX12_types_18 (by decide) rfl ?_
  refine x_ishr C (v := (p0 >>> ((0 : Int32) &&& 31))) dX12_types_19 rfl rfl ?_
  refine x_any (fun v58 => ?_)
  refine x_i2b C dX12_types_20 rfl rfl ?_
  refine x_any (fun v59 => ?_)
  obtain ⟨w60, hw61⟩ : ∃ w : va_W, w = List.set w52 4 (bA E (a 4) 260 (upd (upd (upd (upd f17 tp (vp_nar .byte v15)) (tp + 1) (vp_nar .byte v31)) ((tp + 1) + 1) (vp_nar .byte v45)) (((tp + 1) + 1) + 1) (vp_nar .byte v59))) := ⟨_, rfl⟩
  refine x_bask C (((tp + 1) + 1) + 1) (nI_clamp (by omega)) (nI_pos (by omega)) (by omega) 4 k56 hw61.symm dX12_types_21 rfl ?_
  have hW62 : WX (okM E a cd) w60 := by rw [hw61]; exact hW54.set (k := 4) rfl ⟨_, rfl⟩
  have k63 : w60[0]? = some (ob (a 0) 11 [.ref (a 1), .ref (a 2), .ref (a 3), .ref (a 4), .int (nI (((tp + 1) + 1) + 1)), .int (nI pl), .int (nI le), .int v1, .int nu, .int v2, .int (nI cm), .int (nI wt), .int (nI sm), .int (nI (cd.2.2.2.2.2)), .ref (a 5), .ref (a 6), .ref (a 7), .ref (a 8), .ref (a 9), .ref (a 10), .ref (a 11), .ref (a 12), .ref (a 13), .ref (a 14), .ref (a 15), .ref (a 16), .ref (a 17), .int (nI lm), .ref (a 18), .ref (a 19), .ref (a 20), .ref (a 21), .int v3, .int v4, .int v5, .int v6, .int (nI n8), .int (nI n9), .ref (a 22), .ref (a 23), .ref (a 24), .ref (a 25), .ref (a 26), .ref (a 27), .ref (a 28), .ref (a 29), .ref (a 30), .int v7]) := by rw [hw61]; exact set_ne k55 (by decide)
  have k64 : w60[4]? = some (bA E (a 4) 260 (upd (upd (upd (upd f17 tp (vp_nar .byte v15)) (tp + 1) (vp_nar .byte v31)) ((tp + 1) + 1) (vp_nar .byte v45)) (((tp + 1) + 1) + 1) (vp_nar .byte v59))) := by rw [hw61]; exact set_eq k56
  have kp65 := keeps_set kp57 hw61 (by first | exact rfl | decide | omega | (dsimp only; omega))
  refine x_aload_n C dX12_types_22 rfl 1 rfl rfl ?_
  refine x_aload_n C dX12_types_23 rfl 1 rfl rfl ?_
  refine x_get C (ci := 11) (k := 4) 0 k63 rfl in_X12 (by decide) w_1122 rfl dX12_types_24 rfl ?_
  refine x_iconst C (v := 1) dX12_types_27 (by decide) rfl ?_
  refine x_iadd C (v := (nI ((((tp + 1) + 1) + 1) + 1))) dX12_types_28 (nI_add (((tp + 1) + 1) + 1) 1) rfl ?_
  obtain ⟨w66, hw67⟩ : ∃ w : va_W, w = List.set w60 0 (ob (a 0) 11 [.ref (a 1), .ref (a 2), .ref (a 3), .ref (a 4), .int (nI ((((tp + 1) + 1) + 1) + 1)), .int (nI pl), .int (nI le), .int v1, .int nu, .int v2, .int (nI cm), .int (nI wt), .int (nI sm), .int (nI (cd.2.2.2.2.2)), .ref (a 5), .ref (a 6), .ref (a 7), .ref (a 8), .ref (a 9), .ref (a 10), .ref (a 11), .ref (a 12), .ref (a 13), .ref (a 14), .ref (a 15), .ref (a 16), .ref (a 17), .int (nI lm), .ref (a 18), .ref (a 19), .ref (a 20), .ref (a 21), .int v3, .int v4, .int v5, .int v6, .int (nI n8), .int (nI n9), .ref (a 22), .ref (a 23), .ref (a 24), .ref (a 25), .ref (a 26), .ref (a 27), .ref (a 28), .ref (a 29), .ref (a 30), .int v7]) := ⟨_, rfl⟩
  refine x_put C (ci := 11) (k := 4) (ty := .int) 0 k63 rfl in_X12 tyX12 tyX12_ok nmX12 (by decide) w_1122 rfl rfl rfl rfl (Nat.le_of_ble_eq_true rfl) hw67.symm dX12_types_29 rfl ?_
  have hW68 : WX (okM E a cd) w66 := by rw [hw67]; exact hW62.set (k := 0) rfl ⟨((((tp + 1) + 1) + 1) + 1), pl, le, v1, nu, v2, cm, wt, sm, lm, v3, v4, v5, v6, n8, n9, v7, by omega, by omega, by omega, by omega, by omega, by omega, by omega, by omega, by omega, zb12, rfl⟩
  have k69 : w66[0]? = some (ob (a 0) 11 [.ref (a 1), .ref (a 2), .ref (a 3), .ref (a 4), .int (nI ((((tp + 1) + 1) + 1) + 1)), .int (nI pl), .int (nI le), .int v1, .int nu, .int v2, .int (nI cm), .int (nI wt), .int (nI sm), .int (nI (cd.2.2.2.2.2)), .ref (a 5), .ref (a 6), .ref (a 7), .ref (a 8), .ref (a 9), .ref (a 10), .ref (a 11), .ref (a 12), .ref (a 13), .ref (a 14), .ref (a 15), .ref (a 16), .ref (a 17), .int (nI lm), .ref (a 18), .ref (a 19), .ref (a 20), .ref (a 21), .int v3, .int v4, .int v5, .int v6, .int (nI n8), .int (nI n9), .ref (a 22), .ref (a 23), .ref (a 24), .ref (a 25), .ref (a 26), .ref (a 27), .ref (a 28), .ref (a 29), .ref (a 30), .int v7]) := by rw [hw67]; exact set_eq k63
  have k70 : w66[4]? = some (bA E (a 4) 260 (upd (upd (upd (upd f17 tp (vp_nar .byte v15)) (tp + 1) (vp_nar .byte v31)) ((tp + 1) + 1) (vp_nar .byte v45)) (((tp + 1) + 1) + 1) (vp_nar .byte v59))) := by rw [hw67]; exact set_ne k64 (by decide)
  have kp71 := keeps_set kp65 hw67 (by first | exact rfl | decide | omega | (dsimp only; omega))
  refine x_iinc C (v := (-1)) (lv' := [(2, .int (-1)), (0, .ref (a 0)), (1, .int p0)]) dX12_types_32 0 rfl (by decide) (by decide) rfl rfl ?_
  refine x_goto C (tgt := 2) dX12_types_35 (by decide) ?_
  refine x_iload_n C dX12_types_2 rfl 0 rfl rfl ?_
  refine x_if_lt C (tgt := 38) dX12_types_3 (by decide) rfl (fun _ => ?_) (fun h => absurd h (by decide))
  exact x_vret C hr hlk dX12_types_38 ⟨hW68, kp71, (by have q9 := (show MO a cd w66 (tp + 4) pl le cm wt sm lm nu from ⟨v1, v2, v3, v4, v5, v6, v7, n8, n9, ⟨by omega, by omega, by omega, by omega, by omega, by omega, by omega⟩, ⟨by omega, by omega⟩, zb12, (by rw [show tp + 4 = (((tp + 1) + 1) + 1) + 1 from by omega]; exact k69)⟩); exact q9)⟩
theorem dX12_feed_0 : decode cX12_feed 0 = .ok (.aload_n 0, 1) := by decide +kernel
theorem dX12_feed_1 : decode cX12_feed 1 = .ok (.getfield 123, 3) := by decide +kernel
theorem dX12_feed_4 : decode cX12_feed 4 = .ok (.bipush 20, 2) := by decide +kernel
theorem dX12_feed_6 : decode cX12_feed 6 = .ok (.iadd, 1) := by decide +kernel
theorem dX12_feed_7 : decode cX12_feed 7 = .ok (.sipush 260, 3) := by decide +kernel
theorem dX12_feed_10 : decode cX12_feed 10 = .ok (.if_icmp .le 5, 3) := by decide +kernel
theorem dX12_feed_13 : decode cX12_feed 13 = .ok (.iconst (-1), 1) := by decide +kernel
theorem dX12_feed_14 : decode cX12_feed 14 = .ok (.ireturn, 1) := by decide +kernel
theorem dX12_feed_15 : decode cX12_feed 15 = .ok (.aload_n 0, 1) := by decide +kernel
theorem dX12_feed_16 : decode cX12_feed 16 = .ok (.iload_n 1, 1) := by decide +kernel
theorem dX12_feed_17 : decode cX12_feed 17 = .ok (.invokevirtual 127, 3) := by decide +kernel
theorem dX12_feed_20 : decode cX12_feed 20 = .ok (.aload_n 0, 1) := by decide +kernel
theorem dX12_feed_21 : decode cX12_feed 21 = .ok (.iload_n 2, 1) := by decide +kernel
theorem dX12_feed_22 : decode cX12_feed 22 = .ok (.invokevirtual 127, 3) := by decide +kernel
theorem dX12_feed_25 : decode cX12_feed 25 = .ok (.aload_n 0, 1) := by decide +kernel
theorem dX12_feed_26 : decode cX12_feed 26 = .ok (.iload_n 3, 1) := by decide +kernel
theorem dX12_feed_27 : decode cX12_feed 27 = .ok (.invokevirtual 127, 3) := by decide +kernel
theorem dX12_feed_30 : decode cX12_feed 30 = .ok (.aload_n 0, 1) := by decide +kernel
theorem dX12_feed_31 : decode cX12_feed 31 = .ok (.iload 4, 2) := by decide +kernel
theorem dX12_feed_33 : decode cX12_feed 33 = .ok (.invokevirtual 127, 3) := by decide +kernel
theorem dX12_feed_36 : decode cX12_feed 36 = .ok (.aload_n 0, 1) := by decide +kernel
theorem dX12_feed_37 : decode cX12_feed 37 = .ok (.iload 5, 2) := by decide +kernel
theorem dX12_feed_39 : decode cX12_feed 39 = .ok (.invokevirtual 127, 3) := by decide +kernel
theorem dX12_feed_42 : decode cX12_feed 42 = .ok (.aload_n 0, 1) := by decide +kernel
theorem dX12_feed_43 : decode cX12_feed 43 = .ok (.getfield 123, 3) := by decide +kernel
theorem dX12_feed_46 : decode cX12_feed 46 = .ok (.ireturn, 1) := by decide +kernel
set_option maxRecDepth 20000 in
set_option maxHeartbeats 4000000 in
theorem m_feed (E : xE) (l : Launch) (a : Nat → Nat) (cd : Cd) (hG : Good cd) (ws : va_W) (hW : WX (okM E a cd) ws) (p0 : Int32) (p1 : Int32) (p2 : Int32) (p3 : Int32) (p4 : Int32) : xI E l yX12_feed cX12_feed 6 (some .int) 8 [.ref (a 0), .int p0, .int p1, .int p2, .int p3, .int p4] ws (fun r w => WX (okM E a cd) w) := by
  refine xI_start (lv := [(0, .ref (a 0)), (1, .int p0), (2, .int p1), (3, .int p2), (4, .int p3), (5, .int p4)]) RX12 (by decide) rfl (Nat.le_of_ble_eq_true rfl) rfl (fun p e s m below meth c A C hr hlk => ?_)
  refine x_aload_n C dX12_feed_0 rfl 0 rfl rfl ?_
  obtain ⟨_, k1, n2, n4, n6, v8, v9, v10, n11, n13, n15, n17, v19, v20, v21, v22, n23, n25, v27, bn3, bn5, bn7, bn12, bn14, bn16, bn18, bn24, bn26, zv28, rfl⟩ := hW 0 _ rfl
  refine x_get C (ci := 11) (k := 4) 0 k1 rfl in_X12 (by decide) w_1122 rfl dX12_feed_1 rfl ?_
  refine x_bipush C (v := 20) dX12_feed_4 (by decide) rfl ?_
  refine x_iadd C (v := (nI (n2 + 20))) dX12_feed_6 (nI_add n2 20) rfl ?_
  refine x_sipush C (v := 260) dX12_feed_7 (by decide) rfl ?_
  refine x_icmp_le C (tgt := 15) dX12_feed_10 (by decide) rfl (fun c29 => ?_) (fun c29 => ?_)
  · skip
    have nf30 := nI_le' (a := (n2 + 20)) (b := 260) c29 (by omega) (by omega)
    refine x_aload_n C dX12_feed_15 rfl 0 rfl rfl ?_
    refine x_iload_n C dX12_feed_16 rfl 1 rfl rfl ?_
    refine x_vv C (As := [.int p0]) (rest := []) (m_types E l a cd hG ws hW p0 n2 n4 n6 n11 n13 n15 n17 v9 ⟨v8, v10, v19, v20, v21, v22, v27, n23, n25, ⟨by omega, by omega, by omega, by omega, by omega, by omega, by omega⟩, ⟨by omega, by omega⟩, zv28, k1⟩ (by omega)) mf_X12_types w_1305 0 k1 rfl rfl rfl (Nat.le_of_ble_eq_true rfl) ⟨(Nat.le_of_ble_eq_true rfl), (Nat.le_of_ble_eq_true rfl)⟩ ⟨(Nat.le_of_ble_eq_true rfl), (Nat.le_of_ble_eq_true rfl)⟩ dX12_feed_17 rfl (fun w33 h31 => ?_)
    obtain ⟨hW34, kq35, x36⟩ := h31
    obtain ⟨v37, v38, v39, v40, v41, v42, v43, n44, n45, bo46, bo47, zb48, k49⟩ := x36
    refine x_aload_n C dX12_feed_20 rfl 0 rfl rfl ?_
    refine x_iload_n C dX12_feed_21 rfl 2 rfl rfl ?_
    refine x_vv C (As := [.int p1]) (rest := []) (m_types E l a cd hG w33 hW34 p1 (n2 + 4) n4 n6 n11 n13 n15 n17 v9 ⟨v37, v38, v39, v40, v41, v42, v43, n44, n45, ⟨by omega, by omega, by omega, by omega, by omega, by omega, by omega⟩, ⟨by omega, by omega⟩, zb48, k49⟩ (by omega)) mf_X12_types w_1305 0 k49 rfl rfl rfl (Nat.le_of_ble_eq_true rfl) ⟨(Nat.le_of_ble_eq_true rfl), (Nat.le_of_ble_eq_true rfl)⟩ ⟨(Nat.le_of_ble_eq_true rfl), (Nat.le_of_ble_eq_true rfl)⟩ dX12_feed_22 rfl (fun w52 h50 => ?_)
    obtain ⟨hW53, kq54, x55⟩ := h50
    obtain ⟨v56, v57, v58, v59, v60, v61, v62, n63, n64, bo65, bo66, zb67, k68⟩ := x55
    refine x_aload_n C dX12_feed_25 rfl 0 rfl rfl ?_
    refine x_iload_n C dX12_feed_26 rfl 3 rfl rfl ?_
    refine x_vv C (As := [.int p2]) (rest := []) (m_types E l a cd hG w52 hW53 p2 ((n2 + 4) + 4) n4 n6 n11 n13 n15 n17 v9 ⟨v56, v57, v58, v59, v60, v61, v62, n63, n64, ⟨by omega, by omega, by omega, by omega, by omega, by omega, by omega⟩, ⟨by omega, by omega⟩, zb67, k68⟩ (by omega)) mf_X12_types w_1305 0 k68 rfl rfl rfl (Nat.le_of_ble_eq_true rfl) ⟨(Nat.le_of_ble_eq_true rfl), (Nat.le_of_ble_eq_true rfl)⟩ ⟨(Nat.le_of_ble_eq_true rfl), (Nat.le_of_ble_eq_true rfl)⟩ dX12_feed_27 rfl (fun w71 h69 => ?_)
    obtain ⟨hW72, kq73, x74⟩ := h69
    obtain ⟨v75, v76, v77, v78, v79, v80, v81, n82, n83, bo84, bo85, zb86, k87⟩ := x74
    refine x_aload_n C dX12_feed_30 rfl 0 rfl rfl ?_
    refine x_iload C dX12_feed_31 4 rfl rfl ?_
    refine x_vv C (As := [.int p3]) (rest := []) (m_types E l a cd hG w71 hW72 p3 (((n2 + 4) + 4) + 4) n4 n6 n11 n13 n15 n17 v9 ⟨v75, v76, v77, v78, v79, v80, v81, n82, n83, ⟨by omega, by omega, by omega, by omega, by omega, by omega, by omega⟩, ⟨by omega, by omega⟩, zb86, k87⟩ (by omega)) mf_X12_types w_1305 0 k87 rfl rfl rfl (Nat.le_of_ble_eq_true rfl) ⟨(Nat.le_of_ble_eq_true rfl), (Nat.le_of_ble_eq_true rfl)⟩ ⟨(Nat.le_of_ble_eq_true rfl), (Nat.le_of_ble_eq_true rfl)⟩ dX12_feed_33 rfl (fun w90 h88 => ?_)
    obtain ⟨hW91, kq92, x93⟩ := h88
    obtain ⟨v94, v95, v96, v97, v98, v99, v100, n101, n102, bo103, bo104, zb105, k106⟩ := x93
    refine x_aload_n C dX12_feed_36 rfl 0 rfl rfl ?_
    refine x_iload C dX12_feed_37 5 rfl rfl ?_
    refine x_vv C (As := [.int p4]) (rest := []) (m_types E l a cd hG w90 hW91 p4 ((((n2 + 4) + 4) + 4) + 4) n4 n6 n11 n13 n15 n17 v9 ⟨v94, v95, v96, v97, v98, v99, v100, n101, n102, ⟨by omega, by omega, by omega, by omega, by omega, by omega, by omega⟩, ⟨by omega, by omega⟩, zb105, k106⟩ (by omega)) mf_X12_types w_1305 0 k106 rfl rfl rfl (Nat.le_of_ble_eq_true rfl) ⟨(Nat.le_of_ble_eq_true rfl), (Nat.le_of_ble_eq_true rfl)⟩ ⟨(Nat.le_of_ble_eq_true rfl), (Nat.le_of_ble_eq_true rfl)⟩ dX12_feed_39 rfl (fun w109 h107 => ?_)
    obtain ⟨hW110, kq111, x112⟩ := h107
    obtain ⟨v113, v114, v115, v116, v117, v118, v119, n120, n121, bo122, bo123, zb124, k125⟩ := x112
    refine x_aload_n C dX12_feed_42 rfl 0 rfl rfl ?_
    refine x_get C (ci := 11) (k := 4) 0 k125 rfl in_X12 (by decide) w_1122 rfl dX12_feed_43 rfl ?_
    exact x_zret C hr hlk rfl dX12_feed_46 hW110
  · skip
    have nf126 := nI_nle' (a := (n2 + 20)) (b := 260) c29 (by omega) (by omega)
    refine x_iconst C (v := (-1)) dX12_feed_13 (by decide) rfl ?_
    exact x_zret C hr hlk rfl dX12_feed_14 hW
theorem dX12_here_0 : decode cX12_here 0 = .ok (.aload_n 0, 1) := by decide +kernel
theorem dX12_here_1 : decode cX12_here 1 = .ok (.getfield 131, 3) := by decide +kernel
theorem dX12_here_4 : decode cX12_here 4 = .ok (.aload_n 0, 1) := by decide +kernel
theorem dX12_here_5 : decode cX12_here 5 = .ok (.getfield 134, 3) := by decide +kernel
theorem dX12_here_8 : decode cX12_here 8 = .ok (.if_icmp .ge 19, 3) := by decide +kernel
theorem dX12_here_11 : decode cX12_here 11 = .ok (.aload_n 0, 1) := by decide +kernel
theorem dX12_here_12 : decode cX12_here 12 = .ok (.getfield 19, 3) := by decide +kernel
theorem dX12_here_15 : decode cX12_here 15 = .ok (.aload_n 0, 1) := by decide +kernel
theorem dX12_here_16 : decode cX12_here 16 = .ok (.getfield 131, 3) := by decide +kernel
theorem dX12_here_19 : decode cX12_here 19 = .ok (.baload, 1) := by decide +kernel
theorem dX12_here_20 : decode cX12_here 20 = .ok (.sipush 255, 3) := by decide +kernel
theorem dX12_here_23 : decode cX12_here 23 = .ok (.iand, 1) := by decide +kernel
theorem dX12_here_24 : decode cX12_here 24 = .ok (.goto 4, 3) := by decide +kernel
theorem dX12_here_27 : decode cX12_here 27 = .ok (.iconst (-1), 1) := by decide +kernel
theorem dX12_here_28 : decode cX12_here 28 = .ok (.ireturn, 1) := by decide +kernel
set_option maxRecDepth 20000 in
set_option maxHeartbeats 4000000 in
theorem m_here (E : xE) (l : Launch) (a : Nat → Nat) (cd : Cd) (hG : Good cd) (ws : va_W) (hW : WX (okM E a cd) ws) (tp pl le cm wt sm lm : Nat) (nu : Int32) (h0 : MO a cd ws tp pl le cm wt sm lm nu) (tf : Nat → Int32) (htf : ws[4]? = some (bA E (a 4) 260 tf)) : xI E l yX12_here cX12_here 1 (some .int) 0 [.ref (a 0)] ws (fun r w => w = ws ∧ (r = hv tf pl le)) := by
  refine xI_start (lv := [(0, .ref (a 0))]) RX12 (by decide) rfl (Nat.le_of_ble_eq_true rfl) rfl (fun p e s m below meth c A C hr hlk => ?_)
  obtain ⟨v1, v2, v3, v4, v5, v6, v7, n8, n9, bo10, bo11, zb12, k13⟩ := h0
  refine x_aload_n C dX12_here_0 rfl 0 rfl rfl ?_
  refine x_get C (ci := 11) (k := 5) 0 k13 rfl in_X12 (by decide) w_1123 rfl dX12_here_1 rfl ?_
  refine x_aload_n C dX12_here_4 rfl 0 rfl rfl ?_
  refine x_get C (ci := 11) (k := 6) 0 k13 rfl in_X12 (by decide) w_1124 rfl dX12_here_5 rfl ?_
  refine x_icmp_ge C (tgt := 27) dX12_here_8 (by decide) rfl (fun c14 => ?_) (fun c14 => ?_)
  · skip
    have nf15 := nI_le' (a := le) (b := pl) c14 (by omega) (by omega)
    refine x_iconst C (v := (-1)) dX12_here_27 (by decide) rfl ?_
    exact x_zret C hr hlk rfl dX12_here_28 ⟨rfl, (if_neg (by omega)).symm⟩
  · skip
    have nf16 := nI_nle' (a := le) (b := pl) c14 (by omega) (by omega)
    refine x_aload_n C dX12_here_11 rfl 0 rfl rfl ?_
    refine x_get C (ci := 11) (k := 3) 0 k13 rfl in_X12 (by decide) w_1121 rfl dX12_here_12 rfl ?_
    refine x_aload_n C dX12_here_15 rfl 0 rfl rfl ?_
    refine x_get C (ci := 11) (k := 5) 0 k13 rfl in_X12 (by decide) w_1123 rfl dX12_here_16 rfl ?_
    refine x_bald C (v := (tf (nI pl).toNatClampNeg)) 4 htf (vp_in_nI (by omega) (by decide)) rfl dX12_here_19 rfl ?_
    refine x_top (show tf (nI pl).toNatClampNeg = tf pl from by rw [nI_clamp (by omega)]) ?_
    refine x_sipush C (v := 255) dX12_here_20 (by decide) rfl ?_
    refine x_iand C (v := ((tf pl) &&& (255 : Int32))) dX12_here_23 rfl rfl ?_
    refine x_goto C (tgt := 28) dX12_here_24 (by decide) ?_
    exact x_zret C hr hlk rfl dX12_here_28 ⟨rfl, (if_pos (by omega)).symm⟩
theorem dX12_isDigit_0 : decode cX12_isDigit 0 = .ok (.aload_n 0, 1) := by decide +kernel
theorem dX12_isDigit_1 : decode cX12_isDigit 1 = .ok (.invokevirtual 137, 3) := by decide +kernel
theorem dX12_isDigit_4 : decode cX12_isDigit 4 = .ok (.bipush 48, 2) := by decide +kernel
theorem dX12_isDigit_6 : decode cX12_isDigit 6 = .ok (.if_icmp .lt 16, 3) := by decide +kernel
theorem dX12_isDigit_9 : decode cX12_isDigit 9 = .ok (.aload_n 0, 1) := by decide +kernel
theorem dX12_isDigit_10 : decode cX12_isDigit 10 = .ok (.invokevirtual 137, 3) := by decide +kernel
theorem dX12_isDigit_13 : decode cX12_isDigit 13 = .ok (.bipush 57, 2) := by decide +kernel
theorem dX12_isDigit_15 : decode cX12_isDigit 15 = .ok (.if_icmp .gt 7, 3) := by decide +kernel
theorem dX12_isDigit_18 : decode cX12_isDigit 18 = .ok (.iconst 1, 1) := by decide +kernel
theorem dX12_isDigit_19 : decode cX12_isDigit 19 = .ok (.goto 4, 3) := by decide +kernel
theorem dX12_isDigit_22 : decode cX12_isDigit 22 = .ok (.iconst 0, 1) := by decide +kernel
theorem dX12_isDigit_23 : decode cX12_isDigit 23 = .ok (.ireturn, 1) := by decide +kernel
set_option maxRecDepth 20000 in
set_option maxHeartbeats 4000000 in
theorem m_isDigit (E : xE) (l : Launch) (a : Nat → Nat) (cd : Cd) (hG : Good cd) (ws : va_W) (hW : WX (okM E a cd) ws) (tp pl le cm wt sm lm : Nat) (nu : Int32) (h0 : MO a cd ws tp pl le cm wt sm lm nu) (tf : Nat → Int32) (htf : ws[4]? = some (bA E (a 4) 260 tf)) : xI E l yX12_isDigit cX12_isDigit 1 (some .boolean) 1 [.ref (a 0)] ws (fun r w => w = ws ∧ zb r ∧ (¬ r = 0 → ∃ d : Nat, d ≤ 9 ∧ hv tf pl le = nI (48 + d) ∧ pl < le)) := by
  refine xI_start (lv := [(0, .ref (a 0))]) RX12 (by decide) rfl (Nat.le_of_ble_eq_true rfl) rfl (fun p e s m below meth c A C hr hlk => ?_)
  obtain ⟨v1, v2, v3, v4, v5, v6, v7, n8, n9, bo10, bo11, zb12, k13⟩ := h0
  refine x_aload_n C dX12_isDigit_0 rfl 0 rfl rfl ?_
  refine x_vi C (As := []) (rest := []) (m_here E l a cd hG ws hW tp pl le cm wt sm lm nu ⟨v1, v2, v3, v4, v5, v6, v7, n8, n9, ⟨by omega, by omega, by omega, by omega, by omega, by omega, by omega⟩, ⟨by omega, by omega⟩, zb12, k13⟩ tf htf) mf_X12_here w_1317 0 k13 rfl rfl rfl (Nat.le_of_ble_eq_true rfl) ⟨(Nat.le_of_ble_eq_true rfl), (Nat.le_of_ble_eq_true rfl)⟩ ⟨(Nat.le_of_ble_eq_true rfl), (Nat.le_of_ble_eq_true rfl)⟩ dX12_isDigit_1 rfl (fun r15 w16 h14 => ?_)
  obtain ⟨hW17, x18⟩ := h14
  refine x_ws hW17 ?_
  refine x_bipush C (v := 48) dX12_isDigit_4 (by decide) rfl ?_
  refine x_icmp_lt C (tgt := 22) dX12_isDigit_6 (by decide) rfl (fun c19 => ?_) (fun c19 => ?_)
  · skip
    refine x_iconst C (v := 0) dX12_isDigit_22 (by decide) rfl ?_
    exact x_zret C hr hlk rfl dX12_isDigit_23 ⟨rfl, (Or.inl rfl), (fun q => absurd rfl q)⟩
  · skip
    refine x_aload_n C dX12_isDigit_9 rfl 0 rfl rfl ?_
    refine x_vi C (As := []) (rest := []) (m_here E l a cd hG ws hW tp pl le cm wt sm lm nu ⟨v1, v2, v3, v4, v5, v6, v7, n8, n9, ⟨by omega, by omega, by omega, by omega, by omega, by omega, by omega⟩, ⟨by omega, by omega⟩, zb12, k13⟩ tf htf) mf_X12_here w_1317 0 k13 rfl rfl rfl (Nat.le_of_ble_eq_true rfl) ⟨(Nat.le_of_ble_eq_true rfl), (Nat.le_of_ble_eq_true rfl)⟩ ⟨(Nat.le_of_ble_eq_true rfl), (Nat.le_of_ble_eq_true rfl)⟩ dX12_isDigit_10 rfl (fun r21 w22 h20 => ?_)
    obtain ⟨hW23, x24⟩ := h20
    refine x_ws hW23 ?_
    refine x_bipush C (v := 57) dX12_isDigit_13 (by decide) rfl ?_
    refine x_icmp_gt C (tgt := 22) dX12_isDigit_15 (by decide) rfl (fun c25 => ?_) (fun c25 => ?_)
    · skip
      refine x_iconst C (v := 0) dX12_isDigit_22 (by decide) rfl ?_
      exact x_zret C hr hlk rfl dX12_isDigit_23 ⟨rfl, (Or.inl rfl), (fun q => absurd rfl q)⟩
    · skip
      refine x_iconst C (v := 1) dX12_isDigit_18 (by decide) rfl ?_
      refine x_goto C (tgt := 23) dX12_isDigit_19 (by decide) ?_
      exact x_zret C hr hlk rfl dX12_isDigit_23 ⟨rfl, (Or.inr rfl), (fun _ => hv_dig (fun q => c19 (by rw [x18]; exact q)) (fun q => c25 (by rw [x24]; exact q)))⟩
theorem dX12_wrongAt_0 : decode cX12_wrongAt 0 = .ok (.aload_n 0, 1) := by decide +kernel
theorem dX12_wrongAt_1 : decode cX12_wrongAt 1 = .ok (.sipush (-1000), 3) := by decide +kernel
theorem dX12_wrongAt_4 : decode cX12_wrongAt 4 = .ok (.iload_n 1, 1) := by decide +kernel
theorem dX12_wrongAt_5 : decode cX12_wrongAt 5 = .ok (.imul, 1) := by decide +kernel
theorem dX12_wrongAt_6 : decode cX12_wrongAt 6 = .ok (.iload_n 2, 1) := by decide +kernel
theorem dX12_wrongAt_7 : decode cX12_wrongAt 7 = .ok (.isub, 1) := by decide +kernel
theorem dX12_wrongAt_8 : decode cX12_wrongAt 8 = .ok (.putfield 141, 3) := by decide +kernel
theorem dX12_wrongAt_11 : decode cX12_wrongAt 11 = .ok (.iconst 0, 1) := by decide +kernel
theorem dX12_wrongAt_12 : decode cX12_wrongAt 12 = .ok (.ireturn, 1) := by decide +kernel
set_option maxRecDepth 20000 in
set_option maxHeartbeats 4000000 in
theorem m_wrongAt (E : xE) (l : Launch) (a : Nat → Nat) (cd : Cd) (hG : Good cd) (ws : va_W) (hW : WX (okM E a cd) ws) (p0 : Int32) (p1 : Int32) (tp pl le cm wt sm lm : Nat) (nu : Int32) (h0 : MO a cd ws tp pl le cm wt sm lm nu) : xI E l yX12_wrongAt cX12_wrongAt 3 (some .boolean) 0 [.ref (a 0), .int p0, .int p1] ws (fun r w => WX (okM E a cd) w ∧ keeps ws w (fun q => q = 0) ∧ r = 0 ∧ (MO a cd w tp pl le cm wt sm lm nu)) := by
  refine xI_start (lv := [(0, .ref (a 0)), (1, .int p0), (2, .int p1)]) RX12 (by decide) rfl (Nat.le_of_ble_eq_true rfl) rfl (fun p e s m below meth c A C hr hlk => ?_)
  have kp0 : keeps ws ws (fun q => q = 0) := keeps_rf
  obtain ⟨v1, v2, v3, v4, v5, v6, v7, n8, n9, bo10, bo11, zb12, k13⟩ := h0
  refine x_aload_n C dX12_wrongAt_0 rfl 0 rfl rfl ?_
  refine x_sipush C (v := (-1000)) dX12_wrongAt_1 (by decide) rfl ?_
  refine x_iload_n C dX12_wrongAt_4 rfl 1 rfl rfl ?_
  refine x_imul C (v := (((-1000) : Int32) * p0)) dX12_wrongAt_5 rfl rfl ?_
  refine x_any (fun v14 => ?_)
  refine x_iload_n C dX12_wrongAt_6 rfl 2 rfl rfl ?_
  refine x_isub C (v := (v14 - p1)) dX12_wrongAt_7 rfl rfl ?_
  refine x_any (fun v15 => ?_)
  obtain ⟨w16, hw17⟩ : ∃ w : va_W, w = List.set ws 0 (ob (a 0) 11 [.ref (a 1), .ref (a 2), .ref (a 3), .ref (a 4), .int (nI tp), .int (nI pl), .int (nI le), .int v15, .int nu, .int v2, .int (nI cm), .int (nI wt), .int (nI sm), .int (nI (cd.2.2.2.2.2)), .ref (a 5), .ref (a 6), .ref (a 7), .ref (a 8), .ref (a 9), .ref (a 10), .ref (a 11), .ref (a 12), .ref (a 13), .ref (a 14), .ref (a 15), .ref (a 16), .ref (a 17), .int (nI lm), .ref (a 18), .ref (a 19), .ref (a 20), .ref (a 21), .int v3, .int v4, .int v5, .int v6, .int (nI n8), .int (nI n9), .ref (a 22), .ref (a 23), .ref (a 24), .ref (a 25), .ref (a 26), .ref (a 27), .ref (a 28), .ref (a 29), .ref (a 30), .int v7]) := ⟨_, rfl⟩
  refine x_put C (ci := 11) (k := 7) (ty := .int) 0 k13 rfl in_X12 tyX12 tyX12_ok nmX12 (by decide) w_1125 rfl rfl rfl rfl (Nat.le_of_ble_eq_true rfl) hw17.symm dX12_wrongAt_8 rfl ?_
  have hW18 : WX (okM E a cd) w16 := by rw [hw17]; exact hW.set (k := 0) rfl ⟨tp, pl, le, v15, nu, v2, cm, wt, sm, lm, v3, v4, v5, v6, n8, n9, v7, by omega, by omega, by omega, by omega, by omega, by omega, by omega, by omega, by omega, zb12, rfl⟩
  have k19 : w16[0]? = some (ob (a 0) 11 [.ref (a 1), .ref (a 2), .ref (a 3), .ref (a 4), .int (nI tp), .int (nI pl), .int (nI le), .int v15, .int nu, .int v2, .int (nI cm), .int (nI wt), .int (nI sm), .int (nI (cd.2.2.2.2.2)), .ref (a 5), .ref (a 6), .ref (a 7), .ref (a 8), .ref (a 9), .ref (a 10), .ref (a 11), .ref (a 12), .ref (a 13), .ref (a 14), .ref (a 15), .ref (a 16), .ref (a 17), .int (nI lm), .ref (a 18), .ref (a 19), .ref (a 20), .ref (a 21), .int v3, .int v4, .int v5, .int v6, .int (nI n8), .int (nI n9), .ref (a 22), .ref (a 23), .ref (a 24), .ref (a 25), .ref (a 26), .ref (a 27), .ref (a 28), .ref (a 29), .ref (a 30), .int v7]) := by rw [hw17]; exact set_eq k13
  have kp20 := keeps_set kp0 hw17 (by first | exact rfl | decide | omega | (dsimp only; omega))
  refine x_iconst C (v := 0) dX12_wrongAt_11 (by decide) rfl ?_
  exact x_zret C hr hlk rfl dX12_wrongAt_12 ⟨hW18, kp20, rfl, ⟨v15, v2, v3, v4, v5, v6, v7, n8, n9, ⟨by omega, by omega, by omega, by omega, by omega, by omega, by omega⟩, ⟨by omega, by omega⟩, zb12, k19⟩⟩
theorem dX12_takes_0 : decode cX12_takes 0 = .ok (.aload_n 0, 1) := by decide +kernel
theorem dX12_takes_1 : decode cX12_takes 1 = .ok (.invokevirtual 137, 3) := by decide +kernel
theorem dX12_takes_4 : decode cX12_takes 4 = .ok (.iload_n 1, 1) := by decide +kernel
theorem dX12_takes_5 : decode cX12_takes 5 = .ok (.if_icmp .eq 13, 3) := by decide +kernel
theorem dX12_takes_8 : decode cX12_takes 8 = .ok (.aload_n 0, 1) := by decide +kernel
theorem dX12_takes_9 : decode cX12_takes 9 = .ok (.iconst 1, 1) := by decide +kernel
theorem dX12_takes_10 : decode cX12_takes 10 = .ok (.aload_n 0, 1) := by decide +kernel
theorem dX12_takes_11 : decode cX12_takes 11 = .ok (.getfield 131, 3) := by decide +kernel
theorem dX12_takes_14 : decode cX12_takes 14 = .ok (.invokevirtual 144, 3) := by decide +kernel
theorem dX12_takes_17 : decode cX12_takes 17 = .ok (.ireturn, 1) := by decide +kernel
theorem dX12_takes_18 : decode cX12_takes 18 = .ok (.aload_n 0, 1) := by decide +kernel
theorem dX12_takes_19 : decode cX12_takes 19 = .ok (.aload_n 0, 1) := by decide +kernel
theorem dX12_takes_20 : decode cX12_takes 20 = .ok (.getfield 131, 3) := by decide +kernel
theorem dX12_takes_23 : decode cX12_takes 23 = .ok (.iconst 1, 1) := by decide +kernel
theorem dX12_takes_24 : decode cX12_takes 24 = .ok (.iadd, 1) := by decide +kernel
theorem dX12_takes_25 : decode cX12_takes 25 = .ok (.putfield 131, 3) := by decide +kernel
theorem dX12_takes_28 : decode cX12_takes 28 = .ok (.iconst 1, 1) := by decide +kernel
theorem dX12_takes_29 : decode cX12_takes 29 = .ok (.ireturn, 1) := by decide +kernel
set_option maxRecDepth 20000 in
set_option maxHeartbeats 4000000 in
theorem m_takes44 (E : xE) (l : Launch) (a : Nat → Nat) (cd : Cd) (hG : Good cd) (ws : va_W) (hW : WX (okM E a cd) ws) (tp pl le cm wt sm lm : Nat) (nu : Int32) (h0 : MO a cd ws tp pl le cm wt sm lm nu) (tf : Nat → Int32) (htf : ws[4]? = some (bA E (a 4) 260 tf)) : xI E l yX12_takes cX12_takes 2 (some .boolean) 1 [.ref (a 0), .int 44] ws (fun r w => WX (okM E a cd) w ∧ keeps ws w (fun q => q = 0) ∧ zb r ∧ ((r = 0 ∧ MO a cd w tp pl le cm wt sm lm nu) ∨ (r = 1 ∧ pl < le ∧ MO a cd w tp (pl + 1) le cm wt sm lm nu))) := by
  refine xI_start (lv := [(0, .ref (a 0)), (1, .int 44)]) RX12 (by decide) rfl (Nat.le_of_ble_eq_true rfl) rfl (fun p e s m below meth c A C hr hlk => ?_)
  have kp0 : keeps ws ws (fun q => q = 0) := keeps_rf
  obtain ⟨v1, v2, v3, v4, v5, v6, v7, n8, n9, bo10, bo11, zb12, k13⟩ := h0
  refine x_aload_n C dX12_takes_0 rfl 0 rfl rfl ?_
  refine x_vi C (As := []) (rest := []) (m_here E l a cd hG ws hW tp pl le cm wt sm lm nu ⟨v1, v2, v3, v4, v5, v6, v7, n8, n9, ⟨by omega, by omega, by omega, by omega, by omega, by omega, by omega⟩, ⟨by omega, by omega⟩, zb12, k13⟩ tf htf) mf_X12_here w_1317 0 k13 rfl rfl rfl (Nat.le_of_ble_eq_true rfl) ⟨(Nat.le_of_ble_eq_true rfl), (Nat.le_of_ble_eq_true rfl)⟩ ⟨(Nat.le_of_ble_eq_true rfl), (Nat.le_of_ble_eq_true rfl)⟩ dX12_takes_1 rfl (fun r15 w16 h14 => ?_)
  obtain ⟨hW17, x18⟩ := h14
  refine x_ws hW17 ?_
  refine x_iload_n C dX12_takes_4 rfl 1 rfl rfl ?_
  refine x_icmp_eq C (tgt := 18) dX12_takes_5 (by decide) rfl (fun c19 => ?_) (fun c19 => ?_)
  · skip
    have hp20 := hv_lt (x18.symm.trans c19) (by decide)
    refine x_aload_n C dX12_takes_18 rfl 0 rfl rfl ?_
    refine x_aload_n C dX12_takes_19 rfl 0 rfl rfl ?_
    refine x_get C (ci := 11) (k := 5) 0 k13 rfl in_X12 (by decide) w_1123 rfl dX12_takes_20 rfl ?_
    refine x_iconst C (v := 1) dX12_takes_23 (by decide) rfl ?_
    refine x_iadd C (v := (nI (pl + 1))) dX12_takes_24 (nI_add pl 1) rfl ?_
    obtain ⟨w21, hw22⟩ : ∃ w : va_W, w = List.set ws 0 (ob (a 0) 11 [.ref (a 1), .ref (a 2), .ref (a 3), .ref (a 4), .int (nI tp), .int (nI (pl + 1)), .int (nI le), .int v1, .int nu, .int v2, .int (nI cm), .int (nI wt), .int (nI sm), .int (nI (cd.2.2.2.2.2)), .ref (a 5), .ref (a 6), .ref (a 7), .ref (a 8), .ref (a 9), .ref (a 10), .ref (a 11), .ref (a 12), .ref (a 13), .ref (a 14), .ref (a 15), .ref (a 16), .ref (a 17), .int (nI lm), .ref (a 18), .ref (a 19), .ref (a 20), .ref (a 21), .int v3, .int v4, .int v5, .int v6, .int (nI n8), .int (nI n9), .ref (a 22), .ref (a 23), .ref (a 24), .ref (a 25), .ref (a 26), .ref (a 27), .ref (a 28), .ref (a 29), .ref (a 30), .int v7]) := ⟨_, rfl⟩
    refine x_put C (ci := 11) (k := 5) (ty := .int) 0 k13 rfl in_X12 tyX12 tyX12_ok nmX12 (by decide) w_1123 rfl rfl rfl rfl (Nat.le_of_ble_eq_true rfl) hw22.symm dX12_takes_25 rfl ?_
    have hW23 : WX (okM E a cd) w21 := by rw [hw22]; exact hW.set (k := 0) rfl ⟨tp, (pl + 1), le, v1, nu, v2, cm, wt, sm, lm, v3, v4, v5, v6, n8, n9, v7, by omega, by omega, by omega, by omega, by omega, by omega, by omega, by omega, by omega, zb12, rfl⟩
    have k24 : w21[0]? = some (ob (a 0) 11 [.ref (a 1), .ref (a 2), .ref (a 3), .ref (a 4), .int (nI tp), .int (nI (pl + 1)), .int (nI le), .int v1, .int nu, .int v2, .int (nI cm), .int (nI wt), .int (nI sm), .int (nI (cd.2.2.2.2.2)), .ref (a 5), .ref (a 6), .ref (a 7), .ref (a 8), .ref (a 9), .ref (a 10), .ref (a 11), .ref (a 12), .ref (a 13), .ref (a 14), .ref (a 15), .ref (a 16), .ref (a 17), .int (nI lm), .ref (a 18), .ref (a 19), .ref (a 20), .ref (a 21), .int v3, .int v4, .int v5, .int v6, .int (nI n8), .int (nI n9), .ref (a 22), .ref (a 23), .ref (a 24), .ref (a 25), .ref (a 26), .ref (a 27), .ref (a 28), .ref (a 29), .ref (a 30), .int v7]) := by rw [hw22]; exact set_eq k13
    have k25 : w21[4]? = some (bA E (a 4) 260 tf) := by rw [hw22]; exact set_ne htf (by decide)
    have kp26 := keeps_set kp0 hw22 (by first | exact rfl | decide | omega | (dsimp only; omega))
    refine x_iconst C (v := 1) dX12_takes_28 (by decide) rfl ?_
    exact x_zret C hr hlk rfl dX12_takes_29 ⟨hW23, kp26, (Or.inr rfl), (Or.inr ⟨rfl, by omega, ⟨v1, v2, v3, v4, v5, v6, v7, n8, n9, ⟨by omega, by omega, by omega, by omega, by omega, by omega, by omega⟩, ⟨by omega, by omega⟩, zb12, k24⟩⟩)⟩
  · skip
    refine x_aload_n C dX12_takes_8 rfl 0 rfl rfl ?_
    refine x_iconst C (v := 1) dX12_takes_9 (by decide) rfl ?_
    refine x_aload_n C dX12_takes_10 rfl 0 rfl rfl ?_
    refine x_get C (ci := 11) (k := 5) 0 k13 rfl in_X12 (by decide) w_1123 rfl dX12_takes_11 rfl ?_
    refine x_vi C (As := [.int 1, .int (nI pl)]) (rest := []) (m_wrongAt E l a cd hG ws hW (1 : Int32) ((nI pl)) tp pl le cm wt sm lm nu ⟨v1, v2, v3, v4, v5, v6, v7, n8, n9, ⟨by omega, by omega, by omega, by omega, by omega, by omega, by omega⟩, ⟨by omega, by omega⟩, zb12, k13⟩) mf_X12_wrongAt w_1324 0 k13 rfl rfl rfl (Nat.le_of_ble_eq_true rfl) ⟨(Nat.le_of_ble_eq_true rfl), (Nat.le_of_ble_eq_true rfl)⟩ ⟨(Nat.le_of_ble_eq_true rfl), (Nat.le_of_ble_eq_true rfl)⟩ dX12_takes_14 rfl (fun r28 w29 h27 => ?_)
    obtain ⟨hW30, kq31, e32, x33⟩ := h27
    refine x_top e32 ?_
    have k34 : w29[4]? = some (bA E (a 4) 260 tf) := keeps_at kq31 htf (by first | decide | omega | (dsimp only; omega))
    have kp35 := keeps_tr kp0 kq31 (fun q hq => by first | omega | (dsimp only at *; omega))
    obtain ⟨v36, v37, v38, v39, v40, v41, v42, n43, n44, bo45, bo46, zb47, k48⟩ := x33
    exact x_zret C hr hlk rfl dX12_takes_17 ⟨hW30, kp35, (Or.inl rfl), (Or.inl ⟨rfl, ⟨v36, v37, v38, v39, v40, v41, v42, n43, n44, ⟨by omega, by omega, by omega, by omega, by omega, by omega, by omega⟩, ⟨by omega, by omega⟩, zb47, k48⟩⟩)⟩
set_option maxRecDepth 20000 in
set_option maxHeartbeats 4000000 in
theorem m_takes41 (E : xE) (l : Launch) (a : Nat → Nat) (cd : Cd) (hG : Good cd) (ws : va_W) (hW : WX (okM E a cd) ws) (tp pl le cm wt sm lm : Nat) (nu : Int32) (h0 : MO a cd ws tp pl le cm wt sm lm nu) (tf : Nat → Int32) (htf : ws[4]? = some (bA E (a 4) 260 tf)) : xI E l yX12_takes cX12_takes 2 (some .boolean) 1 [.ref (a 0), .int 41] ws (fun r w => WX (okM E a cd) w ∧ keeps ws w (fun q => q = 0) ∧ zb r ∧ ((r = 0 ∧ MO a cd w tp pl le cm wt sm lm nu) ∨ (r = 1 ∧ pl < le ∧ MO a cd w tp (pl + 1) le cm wt sm lm nu))) := by
  refine xI_start (lv := [(0, .ref (a 0)), (1, .int 41)]) RX12 (by decide) rfl (Nat.le_of_ble_eq_true rfl) rfl (fun p e s m below meth c A C hr hlk => ?_)
  have kp0 : keeps ws ws (fun q => q = 0) := keeps_rf
  obtain ⟨v1, v2, v3, v4, v5, v6, v7, n8, n9, bo10, bo11, zb12, k13⟩ := h0
  refine x_aload_n C dX12_takes_0 rfl 0 rfl rfl ?_
  refine x_vi C (As := []) (rest := []) (m_here E l a cd hG ws hW tp pl le cm wt sm lm nu ⟨v1, v2, v3, v4, v5, v6, v7, n8, n9, ⟨by omega, by omega, by omega, by omega, by omega, by omega, by omega⟩, ⟨by omega, by omega⟩, zb12, k13⟩ tf htf) mf_X12_here w_1317 0 k13 rfl rfl rfl (Nat.le_of_ble_eq_true rfl) ⟨(Nat.le_of_ble_eq_true rfl), (Nat.le_of_ble_eq_true rfl)⟩ ⟨(Nat.le_of_ble_eq_true rfl), (Nat.le_of_ble_eq_true rfl)⟩ dX12_takes_1 rfl (fun r15 w16 h14 => ?_)
  obtain ⟨hW17, x18⟩ := h14
  refine x_ws hW17 ?_
  refine x_iload_n C dX12_takes_4 rfl 1 rfl rfl ?_
  refine x_icmp_eq C (tgt := 18) dX12_takes_5 (by decide) rfl (fun c19 => ?_) (fun c19 => ?_)
  · skip
    have hp20 := hv_lt (x18.symm.trans c19) (by decide)
    refine x_aload_n C dX12_takes_18 rfl 0 rfl rfl ?_
    refine x_aload_n C dX12_takes_19 rfl 0 rfl rfl ?_
    refine x_get C (ci := 11) (k := 5) 0 k13 rfl in_X12 (by decide) w_1123 rfl dX12_takes_20 rfl ?_
    refine x_iconst C (v := 1) dX12_takes_23 (by decide) rfl ?_
    refine x_iadd C (v := (nI (pl + 1))) dX12_takes_24 (nI_add pl 1) rfl ?_
    obtain ⟨w21, hw22⟩ : ∃ w : va_W, w = List.set ws 0 (ob (a 0) 11 [.ref (a 1), .ref (a 2), .ref (a 3), .ref (a 4), .int (nI tp), .int (nI (pl + 1)), .int (nI le), .int v1, .int nu, .int v2, .int (nI cm), .int (nI wt), .int (nI sm), .int (nI (cd.2.2.2.2.2)), .ref (a 5), .ref (a 6), .ref (a 7), .ref (a 8), .ref (a 9), .ref (a 10), .ref (a 11), .ref (a 12), .ref (a 13), .ref (a 14), .ref (a 15), .ref (a 16), .ref (a 17), .int (nI lm), .ref (a 18), .ref (a 19), .ref (a 20), .ref (a 21), .int v3, .int v4, .int v5, .int v6, .int (nI n8), .int (nI n9), .ref (a 22), .ref (a 23), .ref (a 24), .ref (a 25), .ref (a 26), .ref (a 27), .ref (a 28), .ref (a 29), .ref (a 30), .int v7]) := ⟨_, rfl⟩
    refine x_put C (ci := 11) (k := 5) (ty := .int) 0 k13 rfl in_X12 tyX12 tyX12_ok nmX12 (by decide) w_1123 rfl rfl rfl rfl (Nat.le_of_ble_eq_true rfl) hw22.symm dX12_takes_25 rfl ?_
    have hW23 : WX (okM E a cd) w21 := by rw [hw22]; exact hW.set (k := 0) rfl ⟨tp, (pl + 1), le, v1, nu, v2, cm, wt, sm, lm, v3, v4, v5, v6, n8, n9, v7, by omega, by omega, by omega, by omega, by omega, by omega, by omega, by omega, by omega, zb12, rfl⟩
    have k24 : w21[0]? = some (ob (a 0) 11 [.ref (a 1), .ref (a 2), .ref (a 3), .ref (a 4), .int (nI tp), .int (nI (pl + 1)), .int (nI le), .int v1, .int nu, .int v2, .int (nI cm), .int (nI wt), .int (nI sm), .int (nI (cd.2.2.2.2.2)), .ref (a 5), .ref (a 6), .ref (a 7), .ref (a 8), .ref (a 9), .ref (a 10), .ref (a 11), .ref (a 12), .ref (a 13), .ref (a 14), .ref (a 15), .ref (a 16), .ref (a 17), .int (nI lm), .ref (a 18), .ref (a 19), .ref (a 20), .ref (a 21), .int v3, .int v4, .int v5, .int v6, .int (nI n8), .int (nI n9), .ref (a 22), .ref (a 23), .ref (a 24), .ref (a 25), .ref (a 26), .ref (a 27), .ref (a 28), .ref (a 29), .ref (a 30), .int v7]) := by rw [hw22]; exact set_eq k13
    have k25 : w21[4]? = some (bA E (a 4) 260 tf) := by rw [hw22]; exact set_ne htf (by decide)
    have kp26 := keeps_set kp0 hw22 (by first | exact rfl | decide | omega | (dsimp only; omega))
    refine x_iconst C (v := 1) dX12_takes_28 (by decide) rfl ?_
    exact x_zret C hr hlk rfl dX12_takes_29 ⟨hW23, kp26, (Or.inr rfl), (Or.inr ⟨rfl, by omega, ⟨v1, v2, v3, v4, v5, v6, v7, n8, n9, ⟨by omega, by omega, by omega, by omega, by omega, by omega, by omega⟩, ⟨by omega, by omega⟩, zb12, k24⟩⟩)⟩
  · skip
    refine x_aload_n C dX12_takes_8 rfl 0 rfl rfl ?_
    refine x_iconst C (v := 1) dX12_takes_9 (by decide) rfl ?_
    refine x_aload_n C dX12_takes_10 rfl 0 rfl rfl ?_
    refine x_get C (ci := 11) (k := 5) 0 k13 rfl in_X12 (by decide) w_1123 rfl dX12_takes_11 rfl ?_
    refine x_vi C (As := [.int 1, .int (nI pl)]) (rest := []) (m_wrongAt E l a cd hG ws hW (1 : Int32) ((nI pl)) tp pl le cm wt sm lm nu ⟨v1, v2, v3, v4, v5, v6, v7, n8, n9, ⟨by omega, by omega, by omega, by omega, by omega, by omega, by omega⟩, ⟨by omega, by omega⟩, zb12, k13⟩) mf_X12_wrongAt w_1324 0 k13 rfl rfl rfl (Nat.le_of_ble_eq_true rfl) ⟨(Nat.le_of_ble_eq_true rfl), (Nat.le_of_ble_eq_true rfl)⟩ ⟨(Nat.le_of_ble_eq_true rfl), (Nat.le_of_ble_eq_true rfl)⟩ dX12_takes_14 rfl (fun r28 w29 h27 => ?_)
    obtain ⟨hW30, kq31, e32, x33⟩ := h27
    refine x_top e32 ?_
    have k34 : w29[4]? = some (bA E (a 4) 260 tf) := keeps_at kq31 htf (by first | decide | omega | (dsimp only; omega))
    have kp35 := keeps_tr kp0 kq31 (fun q hq => by first | omega | (dsimp only at *; omega))
    obtain ⟨v36, v37, v38, v39, v40, v41, v42, n43, n44, bo45, bo46, zb47, k48⟩ := x33
    exact x_zret C hr hlk rfl dX12_takes_17 ⟨hW30, kp35, (Or.inl rfl), (Or.inl ⟨rfl, ⟨v36, v37, v38, v39, v40, v41, v42, n43, n44, ⟨by omega, by omega, by omega, by omega, by omega, by omega, by omega⟩, ⟨by omega, by omega⟩, zb47, k48⟩⟩)⟩
set_option maxRecDepth 20000 in
set_option maxHeartbeats 4000000 in
theorem m_takes59 (E : xE) (l : Launch) (a : Nat → Nat) (cd : Cd) (hG : Good cd) (ws : va_W) (hW : WX (okM E a cd) ws) (tp pl le cm wt sm lm : Nat) (nu : Int32) (h0 : MO a cd ws tp pl le cm wt sm lm nu) (tf : Nat → Int32) (htf : ws[4]? = some (bA E (a 4) 260 tf)) : xI E l yX12_takes cX12_takes 2 (some .boolean) 1 [.ref (a 0), .int 59] ws (fun r w => WX (okM E a cd) w ∧ keeps ws w (fun q => q = 0) ∧ zb r ∧ ((r = 0 ∧ MO a cd w tp pl le cm wt sm lm nu) ∨ (r = 1 ∧ pl < le ∧ MO a cd w tp (pl + 1) le cm wt sm lm nu))) := by
  refine xI_start (lv := [(0, .ref (a 0)), (1, .int 59)]) RX12 (by decide) rfl (Nat.le_of_ble_eq_true rfl) rfl (fun p e s m below meth c A C hr hlk => ?_)
  have kp0 : keeps ws ws (fun q => q = 0) := keeps_rf
  obtain ⟨v1, v2, v3, v4, v5, v6, v7, n8, n9, bo10, bo11, zb12, k13⟩ := h0
  refine x_aload_n C dX12_takes_0 rfl 0 rfl rfl ?_
  refine x_vi C (As := []) (rest := []) (m_here E l a cd hG ws hW tp pl le cm wt sm lm nu ⟨v1, v2, v3, v4, v5, v6, v7, n8, n9, ⟨by omega, by omega, by omega, by omega, by omega, by omega, by omega⟩, ⟨by omega, by omega⟩, zb12, k13⟩ tf htf) mf_X12_here w_1317 0 k13 rfl rfl rfl (Nat.le_of_ble_eq_true rfl) ⟨(Nat.le_of_ble_eq_true rfl), (Nat.le_of_ble_eq_true rfl)⟩ ⟨(Nat.le_of_ble_eq_true rfl), (Nat.le_of_ble_eq_true rfl)⟩ dX12_takes_1 rfl (fun r15 w16 h14 => ?_)
  obtain ⟨hW17, x18⟩ := h14
  refine x_ws hW17 ?_
  refine x_iload_n C dX12_takes_4 rfl 1 rfl rfl ?_
  refine x_icmp_eq C (tgt := 18) dX12_takes_5 (by decide) rfl (fun c19 => ?_) (fun c19 => ?_)
  · skip
    have hp20 := hv_lt (x18.symm.trans c19) (by decide)
    refine x_aload_n C dX12_takes_18 rfl 0 rfl rfl ?_
    refine x_aload_n C dX12_takes_19 rfl 0 rfl rfl ?_
    refine x_get C (ci := 11) (k := 5) 0 k13 rfl in_X12 (by decide) w_1123 rfl dX12_takes_20 rfl ?_
    refine x_iconst C (v := 1) dX12_takes_23 (by decide) rfl ?_
    refine x_iadd C (v := (nI (pl + 1))) dX12_takes_24 (nI_add pl 1) rfl ?_
    obtain ⟨w21, hw22⟩ : ∃ w : va_W, w = List.set ws 0 (ob (a 0) 11 [.ref (a 1), .ref (a 2), .ref (a 3), .ref (a 4), .int (nI tp), .int (nI (pl + 1)), .int (nI le), .int v1, .int nu, .int v2, .int (nI cm), .int (nI wt), .int (nI sm), .int (nI (cd.2.2.2.2.2)), .ref (a 5), .ref (a 6), .ref (a 7), .ref (a 8), .ref (a 9), .ref (a 10), .ref (a 11), .ref (a 12), .ref (a 13), .ref (a 14), .ref (a 15), .ref (a 16), .ref (a 17), .int (nI lm), .ref (a 18), .ref (a 19), .ref (a 20), .ref (a 21), .int v3, .int v4, .int v5, .int v6, .int (nI n8), .int (nI n9), .ref (a 22), .ref (a 23), .ref (a 24), .ref (a 25), .ref (a 26), .ref (a 27), .ref (a 28), .ref (a 29), .ref (a 30), .int v7]) := ⟨_, rfl⟩
    refine x_put C (ci := 11) (k := 5) (ty := .int) 0 k13 rfl in_X12 tyX12 tyX12_ok nmX12 (by decide) w_1123 rfl rfl rfl rfl (Nat.le_of_ble_eq_true rfl) hw22.symm dX12_takes_25 rfl ?_
    have hW23 : WX (okM E a cd) w21 := by rw [hw22]; exact hW.set (k := 0) rfl ⟨tp, (pl + 1), le, v1, nu, v2, cm, wt, sm, lm, v3, v4, v5, v6, n8, n9, v7, by omega, by omega, by omega, by omega, by omega, by omega, by omega, by omega, by omega, zb12, rfl⟩
    have k24 : w21[0]? = some (ob (a 0) 11 [.ref (a 1), .ref (a 2), .ref (a 3), .ref (a 4), .int (nI tp), .int (nI (pl + 1)), .int (nI le), .int v1, .int nu, .int v2, .int (nI cm), .int (nI wt), .int (nI sm), .int (nI (cd.2.2.2.2.2)), .ref (a 5), .ref (a 6), .ref (a 7), .ref (a 8), .ref (a 9), .ref (a 10), .ref (a 11), .ref (a 12), .ref (a 13), .ref (a 14), .ref (a 15), .ref (a 16), .ref (a 17), .int (nI lm), .ref (a 18), .ref (a 19), .ref (a 20), .ref (a 21), .int v3, .int v4, .int v5, .int v6, .int (nI n8), .int (nI n9), .ref (a 22), .ref (a 23), .ref (a 24), .ref (a 25), .ref (a 26), .ref (a 27), .ref (a 28), .ref (a 29), .ref (a 30), .int v7]) := by rw [hw22]; exact set_eq k13
    have k25 : w21[4]? = some (bA E (a 4) 260 tf) := by rw [hw22]; exact set_ne htf (by decide)
    have kp26 := keeps_set kp0 hw22 (by first | exact rfl | decide | omega | (dsimp only; omega))
    refine x_iconst C (v := 1) dX12_takes_28 (by decide) rfl ?_
    exact x_zret C hr hlk rfl dX12_takes_29 ⟨hW23, kp26, (Or.inr rfl), (Or.inr ⟨rfl, by omega, ⟨v1, v2, v3, v4, v5, v6, v7, n8, n9, ⟨by omega, by omega, by omega, by omega, by omega, by omega, by omega⟩, ⟨by omega, by omega⟩, zb12, k24⟩⟩)⟩
  · skip
    refine x_aload_n C dX12_takes_8 rfl 0 rfl rfl ?_
    refine x_iconst C (v := 1) dX12_takes_9 (by decide) rfl ?_
    refine x_aload_n C dX12_takes_10 rfl 0 rfl rfl ?_
    refine x_get C (ci := 11) (k := 5) 0 k13 rfl in_X12 (by decide) w_1123 rfl dX12_takes_11 rfl ?_
    refine x_vi C (As := [.int 1, .int (nI pl)]) (rest := []) (m_wrongAt E l a cd hG ws hW (1 : Int32) ((nI pl)) tp pl le cm wt sm lm nu ⟨v1, v2, v3, v4, v5, v6, v7, n8, n9, ⟨by omega, by omega, by omega, by omega, by omega, by omega, by omega⟩, ⟨by omega, by omega⟩, zb12, k13⟩) mf_X12_wrongAt w_1324 0 k13 rfl rfl rfl (Nat.le_of_ble_eq_true rfl) ⟨(Nat.le_of_ble_eq_true rfl), (Nat.le_of_ble_eq_true rfl)⟩ ⟨(Nat.le_of_ble_eq_true rfl), (Nat.le_of_ble_eq_true rfl)⟩ dX12_takes_14 rfl (fun r28 w29 h27 => ?_)
    obtain ⟨hW30, kq31, e32, x33⟩ := h27
    refine x_top e32 ?_
    have k34 : w29[4]? = some (bA E (a 4) 260 tf) := keeps_at kq31 htf (by first | decide | omega | (dsimp only; omega))
    have kp35 := keeps_tr kp0 kq31 (fun q hq => by first | omega | (dsimp only at *; omega))
    obtain ⟨v36, v37, v38, v39, v40, v41, v42, n43, n44, bo45, bo46, zb47, k48⟩ := x33
    exact x_zret C hr hlk rfl dX12_takes_17 ⟨hW30, kp35, (Or.inl rfl), (Or.inl ⟨rfl, ⟨v36, v37, v38, v39, v40, v41, v42, n43, n44, ⟨by omega, by omega, by omega, by omega, by omega, by omega, by omega⟩, ⟨by omega, by omega⟩, zb47, k48⟩⟩)⟩
theorem dX12_isInHandful_0 : decode cX12_isInHandful 0 = .ok (.aload_n 0, 1) := by decide +kernel
theorem dX12_isInHandful_1 : decode cX12_isInHandful 1 = .ok (.getfield 62, 3) := by decide +kernel
theorem dX12_isInHandful_4 : decode cX12_isInHandful 4 = .ok (.aload_n 0, 1) := by decide +kernel
theorem dX12_isInHandful_5 : decode cX12_isInHandful 5 = .ok (.getfield 247, 3) := by decide +kernel
theorem dX12_isInHandful_8 : decode cX12_isInHandful 8 = .ok (.iaload, 1) := by decide +kernel
theorem dX12_isInHandful_9 : decode cX12_isInHandful 9 = .ok (.istore_n 3, 1) := by decide +kernel
theorem dX12_isInHandful_10 : decode cX12_isInHandful 10 = .ok (.iload_n 3, 1) := by decide +kernel
theorem dX12_isInHandful_11 : decode cX12_isInHandful 11 = .ok (.aload_n 0, 1) := by decide +kernel
theorem dX12_isInHandful_12 : decode cX12_isInHandful 12 = .ok (.getfield 62, 3) := by decide +kernel
theorem dX12_isInHandful_15 : decode cX12_isInHandful 15 = .ok (.aload_n 0, 1) := by decide +kernel
theorem dX12_isInHandful_16 : decode cX12_isInHandful 16 = .ok (.getfield 247, 3) := by decide +kernel
theorem dX12_isInHandful_19 : decode cX12_isInHandful 19 = .ok (.iaload, 1) := by decide +kernel
theorem dX12_isInHandful_20 : decode cX12_isInHandful 20 = .ok (.iload_n 2, 1) := by decide +kernel
theorem dX12_isInHandful_21 : decode cX12_isInHandful 21 = .ok (.iadd, 1) := by decide +kernel
theorem dX12_isInHandful_22 : decode cX12_isInHandful 22 = .ok (.if_icmp .ge 21, 3) := by decide +kernel
theorem dX12_isInHandful_25 : decode cX12_isInHandful 25 = .ok (.aload_n 0, 1) := by decide +kernel
theorem dX12_isInHandful_26 : decode cX12_isInHandful 26 = .ok (.getfield 71, 3) := by decide +kernel
theorem dX12_isInHandful_29 : decode cX12_isInHandful 29 = .ok (.iload_n 3, 1) := by decide +kernel
theorem dX12_isInHandful_30 : decode cX12_isInHandful 30 = .ok (.iaload, 1) := by decide +kernel
theorem dX12_isInHandful_31 : decode cX12_isInHandful 31 = .ok (.iload_n 1, 1) := by decide +kernel
theorem dX12_isInHandful_32 : decode cX12_isInHandful 32 = .ok (.if_icmp .ne 5, 3) := by decide +kernel
theorem dX12_isInHandful_35 : decode cX12_isInHandful 35 = .ok (.iconst 1, 1) := by decide +kernel
theorem dX12_isInHandful_36 : decode cX12_isInHandful 36 = .ok (.ireturn, 1) := by decide +kernel
theorem dX12_isInHandful_37 : decode cX12_isInHandful 37 = .ok (.iinc 3 1, 3) := by decide +kernel
theorem dX12_isInHandful_40 : decode cX12_isInHandful 40 = .ok (.goto (-30), 3) := by decide +kernel
theorem dX12_isInHandful_43 : decode cX12_isInHandful 43 = .ok (.iconst 0, 1) := by decide +kernel
theorem dX12_isInHandful_44 : decode cX12_isInHandful 44 = .ok (.ireturn, 1) := by decide +kernel
set_option maxRecDepth 20000 in
set_option maxHeartbeats 4000000 in
theorem m_isInHandful (E : xE) (l : Launch) (a : Nat → Nat) (cd : Cd) (hG : Good cd) (ws : va_W) (hW : WX (okM E a cd) ws) (p0 : Int32) (n0 : Nat) (hn0 : n0 ≤ 7) (tp pl le cm wt sm lm : Nat) (nu : Int32) (h0 : MO a cd ws tp pl le cm wt sm lm nu) (hlm : lm ≤ 23) : xI E l yX12_isInHandful cX12_isInHandful 4 (some .boolean) 0 [.ref (a 0), .int p0, .int (nI n0)] ws (fun r w => w = ws ∧ zb r) := by
  refine xI_start (lv := [(0, .ref (a 0)), (1, .int p0), (2, .int (nI n0))]) RX12 (by decide) rfl (Nat.le_of_ble_eq_true rfl) rfl (fun p e s m below meth c A C hr hlk => ?_)
  obtain ⟨v1, v2, v3, v4, v5, v6, v7, n8, n9, bo10, bo11, zb12, k13⟩ := h0
  refine x_aload_n C dX12_isInHandful_0 rfl 0 rfl rfl ?_
  refine x_get C (ci := 11) (k := 28) 0 k13 rfl in_X12 (by decide) w_1146 rfl dX12_isInHandful_1 rfl ?_
  refine x_aload_n C dX12_isInHandful_4 rfl 0 rfl rfl ?_
  refine x_get C (ci := 11) (k := 27) 0 k13 rfl in_X12 (by decide) w_1145 rfl dX12_isInHandful_5 rfl ?_
  obtain ⟨_, k14, g15, gb16, rfl⟩ := hW 18 _ rfl
  refine x_ialk C (v := nI (g15 lm)) lm (nI_clamp (by omega)) (nI_pos (by omega)) (by omega) 18 k14 rfl dX12_isInHandful_8 rfl ?_
  have bx17 := gb16 lm
  refine x_istore_n C (lv' := [(3, .int (nI (g15 lm))), (0, .ref (a 0)), (1, .int p0), (2, .int (nI n0))]) dX12_isInHandful_9 rfl (by decide) rfl rfl ?_
  have loop10 : ∀ (fu10 : Nat) (k : Nat), True → 191 - k < fu10 → k ≤ 191 → X E p l e (xRm 0 0 0) s m ([.ref (a 0), .int p0, .int (nI n0)] : List Value).toArray below meth c A 4 0 0 (MQ below (va_Qi (fun r w => w = ws ∧ zb r) (xB E A) A) ([.ref (a 0), .int p0, .int (nI n0)] : List Value).toArray s 0 0 A) ws 10 [(0, .ref (a 0)), (1, .int p0), (2, .int (nI n0)), (3, .int (nI k))] [] := by
    intro fu10
    induction fu10 with
    | zero => intro k _ q; omega
    | succ fu10 ih10 =>
      intro k _ me10 iv10_0
      refine x_iload_n C dX12_isInHandful_10 rfl 3 rfl rfl ?_
      refine x_aload_n C dX12_isInHandful_11 rfl 0 rfl rfl ?_
      refine x_get C (ci := 11) (k := 28) 0 k13 rfl in_X12 (by decide) w_1146 rfl dX12_isInHandful_12 rfl ?_
      refine x_aload_n C dX12_isInHandful_15 rfl 0 rfl rfl ?_
      refine x_get C (ci := 11) (k := 27) 0 k13 rfl in_X12 (by decide) w_1145 rfl dX12_isInHandful_16 rfl ?_
      refine x_ialk C (v := nI (g15 lm)) lm (nI_clamp (by omega)) (nI_pos (by omega)) (by omega) 18 k14 rfl dX12_isInHandful_19 rfl ?_
      have bx18 := gb16 lm
      refine x_iload_n C dX12_isInHandful_20 rfl 2 rfl rfl ?_
      refine x_iadd C (v := (nI ((g15 lm) + n0))) dX12_isInHandful_21 (nI_add (g15 lm) n0) rfl ?_
      refine x_icmp_ge C (tgt := 43) dX12_isInHandful_22 (by decide) rfl (fun c19 => ?_) (fun c19 => ?_)
      · skip
        have nf20 := nI_le' (a := ((g15 lm) + n0)) (b := k) c19 (by omega) (by omega)
        refine x_iconst C (v := 0) dX12_isInHandful_43 (by decide) rfl ?_
        exact x_zret C hr hlk rfl dX12_isInHandful_44 ⟨rfl, (Or.inl rfl)⟩
      · skip
        have nf21 := nI_nle' (a := ((g15 lm) + n0)) (b := k) c19 (by omega) (by omega)
        refine x_aload_n C dX12_isInHandful_25 rfl 0 rfl rfl ?_
        refine x_get C (ci := 11) (k := 31) 0 k13 rfl in_X12 (by decide) w_1149 rfl dX12_isInHandful_26 rfl ?_
        refine x_iload_n C dX12_isInHandful_29 rfl 3 rfl rfl ?_
        obtain ⟨_, k22, g23, gb24, rfl⟩ := hW 21 _ rfl
        refine x_ialk C (v := nI (g23 k)) k (nI_clamp (by omega)) (nI_pos (by omega)) (by omega) 21 k22 rfl dX12_isInHandful_30 rfl ?_
        have bx25 := gb24 k
        refine x_iload_n C dX12_isInHandful_31 rfl 1 rfl rfl ?_
        refine x_icmp_ne C (tgt := 37) dX12_isInHandful_32 (by decide) rfl (fun c26 => ?_) (fun c26 => ?_)
        · skip
          refine x_iinc C (v := (nI (k + 1))) (lv' := [(3, .int (nI (k + 1))), (0, .ref (a 0)), (1, .int p0), (2, .int (nI n0))]) dX12_isInHandful_37 3 rfl (nI_add k 1) (by decide) rfl rfl ?_
          refine x_goto C (tgt := 10) dX12_isInHandful_40 (by decide) ?_
          refine x_lv (lv1 := [(0, .ref (a 0)), (1, .int p0), (2, .int (nI n0)), (3, .int (nI (k + 1)))]) [1, 2, 3, 0] rfl ?_
          exact ih10 (k + 1) trivial (by omega) (by omega)
        · skip
          refine x_iconst C (v := 1) dX12_isInHandful_35 (by decide) rfl ?_
          exact x_zret C hr hlk rfl dX12_isInHandful_36 ⟨rfl, (Or.inr rfl)⟩
  refine x_lv (lv1 := [(0, .ref (a 0)), (1, .int p0), (2, .int (nI n0)), (3, .int (nI (g15 lm)))]) [1, 2, 3, 0] rfl ?_
  exact loop10 _ (g15 lm) trivial (Nat.lt_succ_self _) (by omega)
theorem dX12_readsEgg_0 : decode cX12_readsEgg 0 = .ok (.aload_n 0, 1) := by decide +kernel
theorem dX12_readsEgg_1 : decode cX12_readsEgg 1 = .ok (.getfield 131, 3) := by decide +kernel
theorem dX12_readsEgg_4 : decode cX12_readsEgg 4 = .ok (.istore_n 2, 1) := by decide +kernel
theorem dX12_readsEgg_5 : decode cX12_readsEgg 5 = .ok (.aload_n 0, 1) := by decide +kernel
theorem dX12_readsEgg_6 : decode cX12_readsEgg 6 = .ok (.invokevirtual 150, 3) := by decide +kernel
theorem dX12_readsEgg_9 : decode cX12_readsEgg 9 = .ok (.ifCond .ne 13, 3) := by decide +kernel
theorem dX12_readsEgg_12 : decode cX12_readsEgg 12 = .ok (.aload_n 0, 1) := by decide +kernel
theorem dX12_readsEgg_13 : decode cX12_readsEgg 13 = .ok (.iconst 1, 1) := by decide +kernel
theorem dX12_readsEgg_14 : decode cX12_readsEgg 14 = .ok (.aload_n 0, 1) := by decide +kernel
theorem dX12_readsEgg_15 : decode cX12_readsEgg 15 = .ok (.getfield 131, 3) := by decide +kernel
theorem dX12_readsEgg_18 : decode cX12_readsEgg 18 = .ok (.invokevirtual 144, 3) := by decide +kernel
theorem dX12_readsEgg_21 : decode cX12_readsEgg 21 = .ok (.ireturn, 1) := by decide +kernel
theorem dX12_readsEgg_22 : decode cX12_readsEgg 22 = .ok (.iload_n 1, 1) := by decide +kernel
theorem dX12_readsEgg_23 : decode cX12_readsEgg 23 = .ok (.bipush 8, 2) := by decide +kernel
theorem dX12_readsEgg_25 : decode cX12_readsEgg 25 = .ok (.if_icmp .ne 14, 3) := by decide +kernel
theorem dX12_readsEgg_28 : decode cX12_readsEgg 28 = .ok (.aload_n 0, 1) := by decide +kernel
theorem dX12_readsEgg_29 : decode cX12_readsEgg 29 = .ok (.bipush 6, 2) := by decide +kernel
theorem dX12_readsEgg_31 : decode cX12_readsEgg 31 = .ok (.aload_n 0, 1) := by decide +kernel
theorem dX12_readsEgg_32 : decode cX12_readsEgg 32 = .ok (.getfield 131, 3) := by decide +kernel
theorem dX12_readsEgg_35 : decode cX12_readsEgg 35 = .ok (.invokevirtual 144, 3) := by decide +kernel
theorem dX12_readsEgg_38 : decode cX12_readsEgg 38 = .ok (.ireturn, 1) := by decide +kernel
theorem dX12_readsEgg_39 : decode cX12_readsEgg 39 = .ok (.aload_n 0, 1) := by decide +kernel
theorem dX12_readsEgg_40 : decode cX12_readsEgg 40 = .ok (.iconst 0, 1) := by decide +kernel
theorem dX12_readsEgg_41 : decode cX12_readsEgg 41 = .ok (.putfield 147, 3) := by decide +kernel
theorem dX12_readsEgg_44 : decode cX12_readsEgg 44 = .ok (.aload_n 0, 1) := by decide +kernel
theorem dX12_readsEgg_45 : decode cX12_readsEgg 45 = .ok (.invokevirtual 150, 3) := by decide +kernel
theorem dX12_readsEgg_48 : decode cX12_readsEgg 48 = .ok (.ifCond .eq 45, 3) := by decide +kernel
theorem dX12_readsEgg_51 : decode cX12_readsEgg 51 = .ok (.aload_n 0, 1) := by decide +kernel
theorem dX12_readsEgg_52 : decode cX12_readsEgg 52 = .ok (.getfield 131, 3) := by decide +kernel
theorem dX12_readsEgg_55 : decode cX12_readsEgg 55 = .ok (.iload_n 2, 1) := by decide +kernel
theorem dX12_readsEgg_56 : decode cX12_readsEgg 56 = .ok (.iconst 2, 1) := by decide +kernel
theorem dX12_readsEgg_57 : decode cX12_readsEgg 57 = .ok (.iadd, 1) := by decide +kernel
theorem dX12_readsEgg_58 : decode cX12_readsEgg 58 = .ok (.if_icmp .ge 35, 3) := by decide +kernel
theorem dX12_readsEgg_61 : decode cX12_readsEgg 61 = .ok (.aload_n 0, 1) := by decide +kernel
theorem dX12_readsEgg_62 : decode cX12_readsEgg 62 = .ok (.bipush 10, 2) := by decide +kernel
theorem dX12_readsEgg_64 : decode cX12_readsEgg 64 = .ok (.aload_n 0, 1) := by decide +kernel
theorem dX12_readsEgg_65 : decode cX12_readsEgg 65 = .ok (.getfield 147, 3) := by decide +kernel
theorem dX12_readsEgg_68 : decode cX12_readsEgg 68 = .ok (.imul, 1) := by decide +kernel
theorem dX12_readsEgg_69 : decode cX12_readsEgg 69 = .ok (.aload_n 0, 1) := by decide +kernel
theorem dX12_readsEgg_70 : decode cX12_readsEgg 70 = .ok (.invokevirtual 137, 3) := by decide +kernel
theorem dX12_readsEgg_73 : decode cX12_readsEgg 73 = .ok (.iadd, 1) := by decide +kernel
theorem dX12_readsEgg_74 : decode cX12_readsEgg 74 = .ok (.bipush 48, 2) := by decide +kernel
theorem dX12_readsEgg_76 : decode cX12_readsEgg 76 = .ok (.isub, 1) := by decide +kernel
theorem dX12_readsEgg_77 : decode cX12_readsEgg 77 = .ok (.putfield 147, 3) := by decide +kernel
theorem dX12_readsEgg_80 : decode cX12_readsEgg 80 = .ok (.aload_n 0, 1) := by decide +kernel
theorem dX12_readsEgg_81 : decode cX12_readsEgg 81 = .ok (.aload_n 0, 1) := by decide +kernel
theorem dX12_readsEgg_82 : decode cX12_readsEgg 82 = .ok (.getfield 131, 3) := by decide +kernel
theorem dX12_readsEgg_85 : decode cX12_readsEgg 85 = .ok (.iconst 1, 1) := by decide +kernel
theorem dX12_readsEgg_86 : decode cX12_readsEgg 86 = .ok (.iadd, 1) := by decide +kernel
theorem dX12_readsEgg_87 : decode cX12_readsEgg 87 = .ok (.putfield 131, 3) := by decide +kernel
theorem dX12_readsEgg_90 : decode cX12_readsEgg 90 = .ok (.goto (-46), 3) := by decide +kernel
theorem dX12_readsEgg_93 : decode cX12_readsEgg 93 = .ok (.aload_n 0, 1) := by decide +kernel
theorem dX12_readsEgg_94 : decode cX12_readsEgg 94 = .ok (.getfield 147, 3) := by decide +kernel
theorem dX12_readsEgg_97 : decode cX12_readsEgg 97 = .ok (.bipush 48, 2) := by decide +kernel
theorem dX12_readsEgg_99 : decode cX12_readsEgg 99 = .ok (.if_icmp .lt 10, 3) := by decide +kernel
theorem dX12_readsEgg_102 : decode cX12_readsEgg 102 = .ok (.aload_n 0, 1) := by decide +kernel
theorem dX12_readsEgg_103 : decode cX12_readsEgg 103 = .ok (.iconst 3, 1) := by decide +kernel
theorem dX12_readsEgg_104 : decode cX12_readsEgg 104 = .ok (.iload_n 2, 1) := by decide +kernel
theorem dX12_readsEgg_105 : decode cX12_readsEgg 105 = .ok (.invokevirtual 144, 3) := by decide +kernel
theorem dX12_readsEgg_108 : decode cX12_readsEgg 108 = .ok (.ireturn, 1) := by decide +kernel
theorem dX12_readsEgg_109 : decode cX12_readsEgg 109 = .ok (.aload_n 0, 1) := by decide +kernel
theorem dX12_readsEgg_110 : decode cX12_readsEgg 110 = .ok (.aload_n 0, 1) := by decide +kernel
theorem dX12_readsEgg_111 : decode cX12_readsEgg 111 = .ok (.getfield 147, 3) := by decide +kernel
theorem dX12_readsEgg_114 : decode cX12_readsEgg 114 = .ok (.iload_n 1, 1) := by decide +kernel
theorem dX12_readsEgg_115 : decode cX12_readsEgg 115 = .ok (.invokevirtual 250, 3) := by decide +kernel
theorem dX12_readsEgg_118 : decode cX12_readsEgg 118 = .ok (.ifCond .eq 11, 3) := by decide +kernel
theorem dX12_readsEgg_121 : decode cX12_readsEgg 121 = .ok (.aload_n 0, 1) := by decide +kernel
theorem dX12_readsEgg_122 : decode cX12_readsEgg 122 = .ok (.bipush 7, 2) := by decide +kernel
theorem dX12_readsEgg_124 : decode cX12_readsEgg 124 = .ok (.iload_n 2, 1) := by decide +kernel
theorem dX12_readsEgg_125 : decode cX12_readsEgg 125 = .ok (.invokevirtual 144, 3) := by decide +kernel
theorem dX12_readsEgg_128 : decode cX12_readsEgg 128 = .ok (.ireturn, 1) := by decide +kernel
theorem dX12_readsEgg_129 : decode cX12_readsEgg 129 = .ok (.aload_n 0, 1) := by decide +kernel
theorem dX12_readsEgg_130 : decode cX12_readsEgg 130 = .ok (.getfield 71, 3) := by decide +kernel
theorem dX12_readsEgg_133 : decode cX12_readsEgg 133 = .ok (.aload_n 0, 1) := by decide +kernel
theorem dX12_readsEgg_134 : decode cX12_readsEgg 134 = .ok (.getfield 62, 3) := by decide +kernel
theorem dX12_readsEgg_137 : decode cX12_readsEgg 137 = .ok (.aload_n 0, 1) := by decide +kernel
theorem dX12_readsEgg_138 : decode cX12_readsEgg 138 = .ok (.getfield 247, 3) := by decide +kernel
theorem dX12_readsEgg_141 : decode cX12_readsEgg 141 = .ok (.iaload, 1) := by decide +kernel
theorem dX12_readsEgg_142 : decode cX12_readsEgg 142 = .ok (.iload_n 1, 1) := by decide +kernel
theorem dX12_readsEgg_143 : decode cX12_readsEgg 143 = .ok (.iadd, 1) := by decide +kernel
theorem dX12_readsEgg_144 : decode cX12_readsEgg 144 = .ok (.aload_n 0, 1) := by decide +kernel
theorem dX12_readsEgg_145 : decode cX12_readsEgg 145 = .ok (.getfield 147, 3) := by decide +kernel
theorem dX12_readsEgg_148 : decode cX12_readsEgg 148 = .ok (.iastore, 1) := by decide +kernel
theorem dX12_readsEgg_149 : decode cX12_readsEgg 149 = .ok (.iconst 1, 1) := by decide +kernel
theorem dX12_readsEgg_150 : decode cX12_readsEgg 150 = .ok (.ireturn, 1) := by decide +kernel
set_option maxRecDepth 20000 in
set_option maxHeartbeats 4000000 in
theorem m_readsEgg (E : xE) (l : Launch) (a : Nat → Nat) (cd : Cd) (hG : Good cd) (ws : va_W) (hW : WX (okM E a cd) ws) (n0 : Nat) (hn0 : n0 ≤ 8) (tp pl le cm wt sm lm : Nat) (nu : Int32) (h0 : MO a cd ws tp pl le cm wt sm lm nu) (tf : Nat → Int32) (htf : ws[4]? = some (bA E (a 4) 260 tf)) (hlm : lm ≤ 23) (hpl : pl ≤ le) : xI E l yX12_readsEgg cX12_readsEgg 3 (some .boolean) 2 [.ref (a 0), .int (nI n0)] ws (fun r w => WX (okM E a cd) w ∧ keeps ws w (fun q => q = 0 ∨ q = 21) ∧ zb r ∧ (∃ (pl2 : Nat) (nu2 : Int32), pl ≤ pl2 ∧ pl2 ≤ le ∧ MO a cd w tp pl2 le cm wt sm lm nu2 ∧ (¬ r = 0 → n0 ≤ 7))) := by
  refine xI_start (lv := [(0, .ref (a 0)), (1, .int (nI n0))]) RX12 (by decide) rfl (Nat.le_of_ble_eq_true rfl) rfl (fun p e s m below meth c A C hr hlk => ?_)
  have kp0 : keeps ws ws (fun q => q = 0 ∨ q = 21) := keeps_rf
  obtain ⟨v1, v2, v3, v4, v5, v6, v7, n8, n9, bo10, bo11, zb12, k13⟩ := h0
  refine x_aload_n C dX12_readsEgg_0 rfl 0 rfl rfl ?_
  refine x_get C (ci := 11) (k := 5) 0 k13 rfl in_X12 (by decide) w_1123 rfl dX12_readsEgg_1 rfl ?_
  refine x_istore_n C (lv' := [(2, .int (nI pl)), (0, .ref (a 0)), (1, .int (nI n0))]) dX12_readsEgg_4 rfl (by decide) rfl rfl ?_
  refine x_aload_n C dX12_readsEgg_5 rfl 1 rfl rfl ?_
  refine x_vi C (As := []) (rest := []) (m_isDigit E l a cd hG ws hW tp pl le cm wt sm lm nu ⟨v1, v2, v3, v4, v5, v6, v7, n8, n9, ⟨by omega, by omega, by omega, by omega, by omega, by omega, by omega⟩, ⟨by omega, by omega⟩, zb12, k13⟩ tf htf) mf_X12_isDigit w_1341 0 k13 rfl rfl rfl (Nat.le_of_ble_eq_true rfl) ⟨(Nat.le_of_ble_eq_true rfl), (Nat.le_of_ble_eq_true rfl)⟩ ⟨(Nat.le_of_ble_eq_true rfl), (Nat.le_of_ble_eq_true rfl)⟩ dX12_readsEgg_6 rfl (fun r15 w16 h14 => ?_)
  obtain ⟨hW17, zb18, x19⟩ := h14
  refine x_ws hW17 ?_
  refine x_if_ne C (tgt := 22) dX12_readsEgg_9 (by decide) rfl (fun c20 => ?_) (fun c20 => ?_)
  · skip
    obtain ⟨d21, hd22, ed23, hp24⟩ := x19 c20
    refine x_iload_n C dX12_readsEgg_22 rfl 2 rfl rfl ?_
    refine x_bipush C (v := 8) dX12_readsEgg_23 (by decide) rfl ?_
    refine x_icmp_ne C (tgt := 39) dX12_readsEgg_25 (by decide) rfl (fun c25 => ?_) (fun c25 => ?_)
    · skip
      have nf26 : ¬ n0 = 8 := fun q => c25 (congrArg nI q)
      refine x_aload_n C dX12_readsEgg_39 rfl 1 rfl rfl ?_
      refine x_iconst C (v := 0) dX12_readsEgg_40 (by decide) rfl ?_
      obtain ⟨w27, hw28⟩ : ∃ w : va_W, w = List.set ws 0 (ob (a 0) 11 [.ref (a 1), .ref (a 2), .ref (a 3), .ref (a 4), .int (nI tp), .int (nI pl), .int (nI le), .int v1, .int 0, .int v2, .int (nI cm), .int (nI wt), .int (nI sm), .int (nI (cd.2.2.2.2.2)), .ref (a 5), .ref (a 6), .ref (a 7), .ref (a 8), .ref (a 9), .ref (a 10), .ref (a 11), .ref (a 12), .ref (a 13), .ref (a 14), .ref (a 15), .ref (a 16), .ref (a 17), .int (nI lm), .ref (a 18), .ref (a 19), .ref (a 20), .ref (a 21), .int v3, .int v4, .int v5, .int v6, .int (nI n8), .int (nI n9), .ref (a 22), .ref (a 23), .ref (a 24), .ref (a 25), .ref (a 26), .ref (a 27), .ref (a 28), .ref (a 29), .ref (a 30), .int v7]) := ⟨_, rfl⟩
      refine x_put C (ci := 11) (k := 8) (ty := .int) 0 k13 rfl in_X12 tyX12 tyX12_ok nmX12 (by decide) w_1126 rfl rfl rfl rfl (Nat.le_of_ble_eq_true rfl) hw28.symm dX12_readsEgg_41 rfl ?_
      have hW29 : WX (okM E a cd) w27 := by rw [hw28]; exact hW.set (k := 0) rfl ⟨tp, pl, le, v1, (0 : Int32), v2, cm, wt, sm, lm, v3, v4, v5, v6, n8, n9, v7, by omega, by omega, by omega, by omega, by omega, by omega, by omega, by omega, by omega, zb12, rfl⟩
      have k30 : w27[0]? = some (ob (a 0) 11 [.ref (a 1), .ref (a 2), .ref (a 3), .ref (a 4), .int (nI tp), .int (nI pl), .int (nI le), .int v1, .int 0, .int v2, .int (nI cm), .int (nI wt), .int (nI sm), .int (nI (cd.2.2.2.2.2)), .ref (a 5), .ref (a 6), .ref (a 7), .ref (a 8), .ref (a 9), .ref (a 10), .ref (a 11), .ref (a 12), .ref (a 13), .ref (a 14), .ref (a 15), .ref (a 16), .ref (a 17), .int (nI lm), .ref (a 18), .ref (a 19), .ref (a 20), .ref (a 21), .int v3, .int v4, .int v5, .int v6, .int (nI n8), .int (nI n9), .ref (a 22), .ref (a 23), .ref (a 24), .ref (a 25), .ref (a 26), .ref (a 27), .ref (a 28), .ref (a 29), .ref (a 30), .int v7]) := by rw [hw28]; exact set_eq k13
      have k31 : w27[4]? = some (bA E (a 4) 260 tf) := by rw [hw28]; exact set_ne htf (by decide)
      have kp32 := keeps_set kp0 hw28 (by first | exact rfl | decide | omega | (dsimp only; omega))
      have loop44 : ∀ (fu44 : Nat) (px : Nat) (nm : Nat) (wl44 : va_W), WX (okM E a cd) wl44 → pl + 2 - px < fu44 → MO a cd wl44 tp px le cm wt sm lm (nI nm) → wl44[4]? = some (bA E (a 4) 260 tf) → (px = pl ∧ nm = 0) ∨ (px = pl + 1 ∧ nm ≤ 9) ∨ (px = pl + 2 ∧ nm ≤ 99) → px ≤ le → keeps ws wl44 (fun q => q = 0 ∨ q = 21) → X E p l e (xRm 2 0 0) s m ([.ref (a 0), .int (nI n0)] : List Value).toArray below meth c A 3 0 0 (MQ below (va_Qi (fun r w => WX (okM E a cd) w ∧ keeps ws w (fun q => q = 0 ∨ q = 21) ∧ zb r ∧ (∃ (pl2 : Nat) (nu2 : Int32), pl ≤ pl2 ∧ pl2 ≤ le ∧ MO a cd w tp pl2 le cm wt sm lm nu2 ∧ (¬ r = 0 → n0 ≤ 7))) (xB E A) A) ([.ref (a 0), .int (nI n0)] : List Value).toArray s 0 0 A) wl44 44 [(0, .ref (a 0)), (1, .int (nI n0)), (2, .int (nI pl))] [] := by
        intro fu44
        induction fu44 with
        | zero => intro px nm wl44 _ q; omega
        | succ fu44 ih44 =>
          intro px nm wl44 hWl44 me44 iv44_0 iv44_1 iv44_2 iv44_3 kq44
          obtain ⟨v33, v34, v35, v36, v37, v38, v39, n40, n41, bo42, bo43, zb44, k45⟩ := iv44_0
          refine x_aload_n C dX12_readsEgg_44 rfl 0 rfl rfl ?_
          refine x_vi C (As := []) (rest := []) (m_isDigit E l a cd hG wl44 hWl44 tp px le cm wt sm lm ((nI nm)) ⟨v33, v34, v35, v36, v37, v38, v39, n40, n41, ⟨by omega, by omega, by omega, by omega, by omega, by omega, by omega⟩, ⟨by omega, by omega⟩, zb44, k45⟩ tf iv44_1) mf_X12_isDigit w_1341 0 k45 rfl rfl rfl (Nat.le_of_ble_eq_true rfl) ⟨(Nat.le_of_ble_eq_true rfl), (Nat.le_of_ble_eq_true rfl)⟩ ⟨(Nat.le_of_ble_eq_true rfl), (Nat.le_of_ble_eq_true rfl)⟩ dX12_readsEgg_45 rfl (fun r47 w48 h46 => ?_)
          obtain ⟨hW49, zb50, x51⟩ := h46
          refine x_ws hW49 ?_
          refine x_if_eq C (tgt := 93) dX12_readsEgg_48 (by decide) rfl (fun c52 => ?_) (fun c52 => ?_)
          · skip
            refine x_aload_n C dX12_readsEgg_93 rfl 0 rfl rfl ?_
            refine x_get C (ci := 11) (k := 8) 0 k45 rfl in_X12 (by decide) w_1126 rfl dX12_readsEgg_94 rfl ?_
            refine x_bipush C (v := 48) dX12_readsEgg_97 (by decide) rfl ?_
            refine x_icmp_lt C (tgt := 109) dX12_readsEgg_99 (by decide) rfl (fun c53 => ?_) (fun c53 => ?_)
            · skip
              have nf54 := nI_lt' (a := nm) (b := 48) c53 (by omega) (by omega)
              refine x_aload_n C dX12_readsEgg_109 rfl 0 rfl rfl ?_
              refine x_aload_n C dX12_readsEgg_110 rfl 0 rfl rfl ?_
              refine x_get C (ci := 11) (k := 8) 0 k45 rfl in_X12 (by decide) w_1126 rfl dX12_readsEgg_111 rfl ?_
              refine x_iload_n C dX12_readsEgg_114 rfl 1 rfl rfl ?_
              refine x_vi C (As := [.int (nI nm), .int (nI n0)]) (rest := []) (m_isInHandful E l a cd hG wl44 hWl44 ((nI nm)) n0 (by omega) tp px le cm wt sm lm ((nI nm)) ⟨v33, v34, v35, v36, v37, v38, v39, n40, n41, ⟨by omega, by omega, by omega, by omega, by omega, by omega, by omega⟩, ⟨by omega, by omega⟩, zb44, k45⟩ (by omega)) mf_X12_isInHandful w_1415 0 k45 rfl rfl rfl (Nat.le_of_ble_eq_true rfl) ⟨(Nat.le_of_ble_eq_true rfl), (Nat.le_of_ble_eq_true rfl)⟩ ⟨(Nat.le_of_ble_eq_true rfl), (Nat.le_of_ble_eq_true rfl)⟩ dX12_readsEgg_115 rfl (fun r56 w57 h55 => ?_)
              obtain ⟨hW58, zb59⟩ := h55
              refine x_ws hW58 ?_
              refine x_if_eq C (tgt := 129) dX12_readsEgg_118 (by decide) rfl (fun c60 => ?_) (fun c60 => ?_)
              · skip
                refine x_aload_n C dX12_readsEgg_129 rfl 0 rfl rfl ?_
                refine x_get C (ci := 11) (k := 31) 0 k45 rfl in_X12 (by decide) w_1149 rfl dX12_readsEgg_130 rfl ?_
                refine x_aload_n C dX12_readsEgg_133 rfl 0 rfl rfl ?_
                refine x_get C (ci := 11) (k := 28) 0 k45 rfl in_X12 (by decide) w_1146 rfl dX12_readsEgg_134 rfl ?_
                refine x_aload_n C dX12_readsEgg_137 rfl 0 rfl rfl ?_
                refine x_get C (ci := 11) (k := 27) 0 k45 rfl in_X12 (by decide) w_1145 rfl dX12_readsEgg_138 rfl ?_
                obtain ⟨_, k61, g62, gb63, rfl⟩ := hWl44 18 _ rfl
                refine x_ialk C (v := nI (g62 lm)) lm (nI_clamp (by omega)) (nI_pos (by omega)) (by omega) 18 k61 rfl dX12_readsEgg_141 rfl ?_
                have bx64 := gb63 lm
                refine x_iload_n C dX12_readsEgg_142 rfl 1 rfl rfl ?_
                refine x_iadd C (v := (nI ((g62 lm) + n0))) dX12_readsEgg_143 (nI_add (g62 lm) n0) rfl ?_
                refine x_aload_n C dX12_readsEgg_144 rfl 0 rfl rfl ?_
                refine x_get C (ci := 11) (k := 8) 0 k45 rfl in_X12 (by decide) w_1126 rfl dX12_readsEgg_145 rfl ?_
                obtain ⟨_, k65, g66, gb67, rfl⟩ := hWl44 21 _ rfl
                have gb68 := updn_le (i := ((g62 lm) + n0)) (v := nm) gb67 (by omega)
                obtain ⟨w69, hw70⟩ : ∃ w : va_W, w = List.set wl44 21 (iA E (a 21) 192 (upd (fun j => nI (g66 j)) ((g62 lm) + n0) (nI nm))) := ⟨_, rfl⟩
                refine x_iask C ((g62 lm) + n0) (nI_clamp (by omega)) (nI_pos (by omega)) (by omega) 21 k65 hw70.symm dX12_readsEgg_148 rfl ?_
                have hW71 : WX (okM E a cd) w69 := by rw [hw70]; exact hWl44.set (k := 21) rfl ⟨_, gb68, iA_n (upd_nI g66 ((g62 lm) + n0) nm)⟩
                have k72 : w69[0]? = some (ob (a 0) 11 [.ref (a 1), .ref (a 2), .ref (a 3), .ref (a 4), .int (nI tp), .int (nI px), .int (nI le), .int v33, .int (nI nm), .int v34, .int (nI cm), .int (nI wt), .int (nI sm), .int (nI (cd.2.2.2.2.2)), .ref (a 5), .ref (a 6), .ref (a 7), .ref (a 8), .ref (a 9), .ref (a 10), .ref (a 11), .ref (a 12), .ref (a 13), .ref (a 14), .ref (a 15), .ref (a 16), .ref (a 17), .int (nI lm), .ref (a 18), .ref (a 19), .ref (a 20), .ref (a 21), .int v35, .int v36, .int v37, .int v38, .int (nI n40), .int (nI n41), .ref (a 22), .ref (a 23), .ref (a 24), .ref (a 25), .ref (a 26), .ref (a 27), .ref (a 28), .ref (a 29), .ref (a 30), .int v39]) := by rw [hw70]; exact set_ne k45 (by decide)
                have k73 : w69[4]? = some (bA E (a 4) 260 tf) := by rw [hw70]; exact set_ne iv44_1 (by decide)
                have k74 : w69[18]? = some (iA E (a 18) 25 (fun j => nI (g62 j))) := by rw [hw70]; exact set_ne k61 (by decide)
                have k75 : w69[21]? = some (iA E (a 21) 192 (upd (fun j => nI (g66 j)) ((g62 lm) + n0) (nI nm))) := by rw [hw70]; exact set_eq k65
                have kp76 := keeps_set kq44 hw70 (by first | exact rfl | decide | omega | (dsimp only; omega))
                have k77 : w69[21]? = some (iA E (a 21) 192 (fun j => nI ((updn g66 ((g62 lm) + n0) nm) j))) := by rw [← upd_nI]; exact k75
                refine x_iconst C (v := 1) dX12_readsEgg_149 (by decide) rfl ?_
                exact x_zret C hr hlk rfl dX12_readsEgg_150 ⟨hW71, kp76, (Or.inr rfl), ⟨px, ((nI nm)), by omega, by omega, ⟨v33, v34, v35, v36, v37, v38, v39, n40, n41, ⟨by omega, by omega, by omega, by omega, by omega, by omega, by omega⟩, ⟨by omega, by omega⟩, zb44, k72⟩, fun _ => by omega⟩⟩
              · skip
                refine x_aload_n C dX12_readsEgg_121 rfl 0 rfl rfl ?_
                refine x_bipush C (v := 7) dX12_readsEgg_122 (by decide) rfl ?_
                refine x_iload_n C dX12_readsEgg_124 rfl 2 rfl rfl ?_
                refine x_vi C (As := [.int 7, .int (nI pl)]) (rest := []) (m_wrongAt E l a cd hG wl44 hWl44 (7 : Int32) ((nI pl)) tp px le cm wt sm lm ((nI nm)) ⟨v33, v34, v35, v36, v37, v38, v39, n40, n41, ⟨by omega, by omega, by omega, by omega, by omega, by omega, by omega⟩, ⟨by omega, by omega⟩, zb44, k45⟩) mf_X12_wrongAt w_1324 0 k45 rfl rfl rfl (Nat.le_of_ble_eq_true rfl) ⟨(Nat.le_of_ble_eq_true rfl), (Nat.le_of_ble_eq_true rfl)⟩ ⟨(Nat.le_of_ble_eq_true rfl), (Nat.le_of_ble_eq_true rfl)⟩ dX12_readsEgg_125 rfl (fun r79 w80 h78 => ?_)
                obtain ⟨hW81, kq82, e83, x84⟩ := h78
                refine x_top e83 ?_
                have k85 : w80[4]? = some (bA E (a 4) 260 tf) := keeps_at kq82 iv44_1 (by first | decide | omega | (dsimp only; omega))
                have kp86 := keeps_tr kq44 kq82 (fun q hq => by first | omega | (dsimp only at *; omega))
                obtain ⟨v87, v88, v89, v90, v91, v92, v93, n94, n95, bo96, bo97, zb98, k99⟩ := x84
                exact x_zret C hr hlk rfl dX12_readsEgg_128 ⟨hW81, kp86, (Or.inl rfl), ⟨px, ((nI nm)), by omega, by omega, ⟨v87, v88, v89, v90, v91, v92, v93, n94, n95, ⟨by omega, by omega, by omega, by omega, by omega, by omega, by omega⟩, ⟨by omega, by omega⟩, zb98, k99⟩, fun q => absurd rfl q⟩⟩
            · skip
              have nf100 := nI_nlt' (a := nm) (b := 48) c53 (by omega) (by omega)
              refine x_aload_n C dX12_readsEgg_102 rfl 0 rfl rfl ?_
              refine x_iconst C (v := 3) dX12_readsEgg_103 (by decide) rfl ?_
              refine x_iload_n C dX12_readsEgg_104 rfl 2 rfl rfl ?_
              refine x_vi C (As := [.int 3, .int (nI pl)]) (rest := []) (m_wrongAt E l a cd hG wl44 hWl44 (3 : Int32) ((nI pl)) tp px le cm wt sm lm ((nI nm)) ⟨v33, v34, v35, v36, v37, v38, v39, n40, n41, ⟨by omega, by omega, by omega, by omega, by omega, by omega, by omega⟩, ⟨by omega, by omega⟩, zb44, k45⟩) mf_X12_wrongAt w_1324 0 k45 rfl rfl rfl (Nat.le_of_ble_eq_true rfl) ⟨(Nat.le_of_ble_eq_true rfl), (Nat.le_of_ble_eq_true rfl)⟩ ⟨(Nat.le_of_ble_eq_true rfl), (Nat.le_of_ble_eq_true rfl)⟩ dX12_readsEgg_105 rfl (fun r102 w103 h101 => ?_)
              obtain ⟨hW104, kq105, e106, x107⟩ := h101
              refine x_top e106 ?_
              have k108 : w103[4]? = some (bA E (a 4) 260 tf) := keeps_at kq105 iv44_1 (by first | decide | omega | (dsimp only; omega))
              have kp109 := keeps_tr kq44 kq105 (fun q hq => by first | omega | (dsimp only at *; omega))
              obtain ⟨v110, v111, v112, v113, v114, v115, v116, n117, n118, bo119, bo120, zb121, k122⟩ := x107
              exact x_zret C hr hlk rfl dX12_readsEgg_108 ⟨hW104, kp109, (Or.inl rfl), ⟨px, ((nI nm)), by omega, by omega, ⟨v110, v111, v112, v113, v114, v115, v116, n117, n118, ⟨by omega, by omega, by omega, by omega, by omega, by omega, by omega⟩, ⟨by omega, by omega⟩, zb121, k122⟩, fun q => absurd rfl q⟩⟩
          · skip
            obtain ⟨d123, hd124, ed125, hp126⟩ := x51 c52
            refine x_aload_n C dX12_readsEgg_51 rfl 0 rfl rfl ?_
            refine x_get C (ci := 11) (k := 5) 0 k45 rfl in_X12 (by decide) w_1123 rfl dX12_readsEgg_52 rfl ?_
            refine x_iload_n C dX12_readsEgg_55 rfl 2 rfl rfl ?_
            refine x_iconst C (v := 2) dX12_readsEgg_56 (by decide) rfl ?_
            refine x_iadd C (v := (nI (pl + 2))) dX12_readsEgg_57 (nI_add pl 2) rfl ?_
            refine x_icmp_ge C (tgt := 93) dX12_readsEgg_58 (by decide) rfl (fun c127 => ?_) (fun c127 => ?_)
            · skip
              have nf128 := nI_le' (a := (pl + 2)) (b := px) c127 (by omega) (by omega)
              refine x_aload_n C dX12_readsEgg_93 rfl 0 rfl rfl ?_
              refine x_get C (ci := 11) (k := 8) 0 k45 rfl in_X12 (by decide) w_1126 rfl dX12_readsEgg_94 rfl ?_
              refine x_bipush C (v := 48) dX12_readsEgg_97 (by decide) rfl ?_
              refine x_icmp_lt C (tgt := 109) dX12_readsEgg_99 (by decide) rfl (fun c129 => ?_) (fun c129 => ?_)
              · skip
                have nf130 := nI_lt' (a := nm) (b := 48) c129 (by omega) (by omega)
                refine x_aload_n C dX12_readsEgg_109 rfl 0 rfl rfl ?_
                refine x_aload_n C dX12_readsEgg_110 rfl 0 rfl rfl ?_
                refine x_get C (ci := 11) (k := 8) 0 k45 rfl in_X12 (by decide) w_1126 rfl dX12_readsEgg_111 rfl ?_
                refine x_iload_n C dX12_readsEgg_114 rfl 1 rfl rfl ?_
                refine x_vi C (As := [.int (nI nm), .int (nI n0)]) (rest := []) (m_isInHandful E l a cd hG wl44 hWl44 ((nI nm)) n0 (by omega) tp px le cm wt sm lm ((nI nm)) ⟨v33, v34, v35, v36, v37, v38, v39, n40, n41, ⟨by omega, by omega, by omega, by omega, by omega, by omega, by omega⟩, ⟨by omega, by omega⟩, zb44, k45⟩ (by omega)) mf_X12_isInHandful w_1415 0 k45 rfl rfl rfl (Nat.le_of_ble_eq_true rfl) ⟨(Nat.le_of_ble_eq_true rfl), (Nat.le_of_ble_eq_true rfl)⟩ ⟨(Nat.le_of_ble_eq_true rfl), (Nat.le_of_ble_eq_true rfl)⟩ dX12_readsEgg_115 rfl (fun r132 w133 h131 => ?_)
                obtain ⟨hW134, zb135⟩ := h131
                refine x_ws hW134 ?_
                refine x_if_eq C (tgt := 129) dX12_readsEgg_118 (by decide) rfl (fun c136 => ?_) (fun c136 => ?_)
                · skip
                  refine x_aload_n C dX12_readsEgg_129 rfl 0 rfl rfl ?_
                  refine x_get C (ci := 11) (k := 31) 0 k45 rfl in_X12 (by decide) w_1149 rfl dX12_readsEgg_130 rfl ?_
                  refine x_aload_n C dX12_readsEgg_133 rfl 0 rfl rfl ?_
                  refine x_get C (ci := 11) (k := 28) 0 k45 rfl in_X12 (by decide) w_1146 rfl dX12_readsEgg_134 rfl ?_
                  refine x_aload_n C dX12_readsEgg_137 rfl 0 rfl rfl ?_
                  refine x_get C (ci := 11) (k := 27) 0 k45 rfl in_X12 (by decide) w_1145 rfl dX12_readsEgg_138 rfl ?_
                  obtain ⟨_, k137, g138, gb139, rfl⟩ := hWl44 18 _ rfl
                  refine x_ialk C (v := nI (g138 lm)) lm (nI_clamp (by omega)) (nI_pos (by omega)) (by omega) 18 k137 rfl dX12_readsEgg_141 rfl ?_
                  have bx140 := gb139 lm
                  refine x_iload_n C dX12_readsEgg_142 rfl 1 rfl rfl ?_
                  refine x_iadd C (v := (nI ((g138 lm) + n0))) dX12_readsEgg_143 (nI_add (g138 lm) n0) rfl ?_
                  refine x_aload_n C dX12_readsEgg_144 rfl 0 rfl rfl ?_
                  refine x_get C (ci := 11) (k := 8) 0 k45 rfl in_X12 (by decide) w_1126 rfl dX12_readsEgg_145 rfl ?_
                  obtain ⟨_, k141, g142, gb143, rfl⟩ := hWl44 21 _ rfl
                  have gb144 := updn_le (i := ((g138 lm) + n0)) (v := nm) gb143 (by omega)
                  obtain ⟨w145, hw146⟩ : ∃ w : va_W, w = List.set wl44 21 (iA E (a 21) 192 (upd (fun j => nI (g142 j)) ((g138 lm) + n0) (nI nm))) := ⟨_, rfl⟩
                  refine x_iask C ((g138 lm) + n0) (nI_clamp (by omega)) (nI_pos (by omega)) (by omega) 21 k141 hw146.symm dX12_readsEgg_148 rfl ?_
                  have hW147 : WX (okM E a cd) w145 := by rw [hw146]; exact hWl44.set (k := 21) rfl ⟨_, gb144, iA_n (upd_nI g142 ((g138 lm) + n0) nm)⟩
                  have k148 : w145[0]? = some (ob (a 0) 11 [.ref (a 1), .ref (a 2), .ref (a 3), .ref (a 4), .int (nI tp), .int (nI px), .int (nI le), .int v33, .int (nI nm), .int v34, .int (nI cm), .int (nI wt), .int (nI sm), .int (nI (cd.2.2.2.2.2)), .ref (a 5), .ref (a 6), .ref (a 7), .ref (a 8), .ref (a 9), .ref (a 10), .ref (a 11), .ref (a 12), .ref (a 13), .ref (a 14), .ref (a 15), .ref (a 16), .ref (a 17), .int (nI lm), .ref (a 18), .ref (a 19), .ref (a 20), .ref (a 21), .int v35, .int v36, .int v37, .int v38, .int (nI n40), .int (nI n41), .ref (a 22), .ref (a 23), .ref (a 24), .ref (a 25), .ref (a 26), .ref (a 27), .ref (a 28), .ref (a 29), .ref (a 30), .int v39]) := by rw [hw146]; exact set_ne k45 (by decide)
                  have k149 : w145[4]? = some (bA E (a 4) 260 tf) := by rw [hw146]; exact set_ne iv44_1 (by decide)
                  have k150 : w145[18]? = some (iA E (a 18) 25 (fun j => nI (g138 j))) := by rw [hw146]; exact set_ne k137 (by decide)
                  have k151 : w145[21]? = some (iA E (a 21) 192 (upd (fun j => nI (g142 j)) ((g138 lm) + n0) (nI nm))) := by rw [hw146]; exact set_eq k141
                  have kp152 := keeps_set kq44 hw146 (by first | exact rfl | decide | omega | (dsimp only; omega))
                  have k153 : w145[21]? = some (iA E (a 21) 192 (fun j => nI ((updn g142 ((g138 lm) + n0) nm) j))) := by rw [← upd_nI]; exact k151
                  refine x_iconst C (v := 1) dX12_readsEgg_149 (by decide) rfl ?_
                  exact x_zret C hr hlk rfl dX12_readsEgg_150 ⟨hW147, kp152, (Or.inr rfl), ⟨px, ((nI nm)), by omega, by omega, ⟨v33, v34, v35, v36, v37, v38, v39, n40, n41, ⟨by omega, by omega, by omega, by omega, by omega, by omega, by omega⟩, ⟨by omega, by omega⟩, zb44, k148⟩, fun _ => by omega⟩⟩
                · skip
                  refine x_aload_n C dX12_readsEgg_121 rfl 0 rfl rfl ?_
                  refine x_bipush C (v := 7) dX12_readsEgg_122 (by decide) rfl ?_
                  refine x_iload_n C dX12_readsEgg_124 rfl 2 rfl rfl ?_
                  refine x_vi C (As := [.int 7, .int (nI pl)]) (rest := []) (m_wrongAt E l a cd hG wl44 hWl44 (7 : Int32) ((nI pl)) tp px le cm wt sm lm ((nI nm)) ⟨v33, v34, v35, v36, v37, v38, v39, n40, n41, ⟨by omega, by omega, by omega, by omega, by omega, by omega, by omega⟩, ⟨by omega, by omega⟩, zb44, k45⟩) mf_X12_wrongAt w_1324 0 k45 rfl rfl rfl (Nat.le_of_ble_eq_true rfl) ⟨(Nat.le_of_ble_eq_true rfl), (Nat.le_of_ble_eq_true rfl)⟩ ⟨(Nat.le_of_ble_eq_true rfl), (Nat.le_of_ble_eq_true rfl)⟩ dX12_readsEgg_125 rfl (fun r155 w156 h154 => ?_)
                  obtain ⟨hW157, kq158, e159, x160⟩ := h154
                  refine x_top e159 ?_
                  have k161 : w156[4]? = some (bA E (a 4) 260 tf) := keeps_at kq158 iv44_1 (by first | decide | omega | (dsimp only; omega))
                  have kp162 := keeps_tr kq44 kq158 (fun q hq => by first | omega | (dsimp only at *; omega))
                  obtain ⟨v163, v164, v165, v166, v167, v168, v169, n170, n171, bo172, bo173, zb174, k175⟩ := x160
                  exact x_zret C hr hlk rfl dX12_readsEgg_128 ⟨hW157, kp162, (Or.inl rfl), ⟨px, ((nI nm)), by omega, by omega, ⟨v163, v164, v165, v166, v167, v168, v169, n170, n171, ⟨by omega, by omega, by omega, by omega, by omega, by omega, by omega⟩, ⟨by omega, by omega⟩, zb174, k175⟩, fun q => absurd rfl q⟩⟩
              · skip
                have nf176 := nI_nlt' (a := nm) (b := 48) c129 (by omega) (by omega)
                refine x_aload_n C dX12_readsEgg_102 rfl 0 rfl rfl ?_
                refine x_iconst C (v := 3) dX12_readsEgg_103 (by decide) rfl ?_
                refine x_iload_n C dX12_readsEgg_104 rfl 2 rfl rfl ?_
                refine x_vi C (As := [.int 3, .int (nI pl)]) (rest := []) (m_wrongAt E l a cd hG wl44 hWl44 (3 : Int32) ((nI pl)) tp px le cm wt sm lm ((nI nm)) ⟨v33, v34, v35, v36, v37, v38, v39, n40, n41, ⟨by omega, by omega, by omega, by omega, by omega, by omega, by omega⟩, ⟨by omega, by omega⟩, zb44, k45⟩) mf_X12_wrongAt w_1324 0 k45 rfl rfl rfl (Nat.le_of_ble_eq_true rfl) ⟨(Nat.le_of_ble_eq_true rfl), (Nat.le_of_ble_eq_true rfl)⟩ ⟨(Nat.le_of_ble_eq_true rfl), (Nat.le_of_ble_eq_true rfl)⟩ dX12_readsEgg_105 rfl (fun r178 w179 h177 => ?_)
                obtain ⟨hW180, kq181, e182, x183⟩ := h177
                refine x_top e182 ?_
                have k184 : w179[4]? = some (bA E (a 4) 260 tf) := keeps_at kq181 iv44_1 (by first | decide | omega | (dsimp only; omega))
                have kp185 := keeps_tr kq44 kq181 (fun q hq => by first | omega | (dsimp only at *; omega))
                obtain ⟨v186, v187, v188, v189, v190, v191, v192, n193, n194, bo195, bo196, zb197, k198⟩ := x183
                exact x_zret C hr hlk rfl dX12_readsEgg_108 ⟨hW180, kp185, (Or.inl rfl), ⟨px, ((nI nm)), by omega, by omega, ⟨v186, v187, v188, v189, v190, v191, v192, n193, n194, ⟨by omega, by omega, by omega, by omega, by omega, by omega, by omega⟩, ⟨by omega, by omega⟩, zb197, k198⟩, fun q => absurd rfl q⟩⟩
            · skip
              have nf199 := nI_nle' (a := (pl + 2)) (b := px) c127 (by omega) (by omega)
              refine x_aload_n C dX12_readsEgg_61 rfl 0 rfl rfl ?_
              refine x_bipush C (v := 10) dX12_readsEgg_62 (by decide) rfl ?_
              refine x_aload_n C dX12_readsEgg_64 rfl 0 rfl rfl ?_
              refine x_get C (ci := 11) (k := 8) 0 k45 rfl in_X12 (by decide) w_1126 rfl dX12_readsEgg_65 rfl ?_
              refine x_imul C (v := (nI (10 * nm))) dX12_readsEgg_68 (pk_mul 10 nm) rfl ?_
              refine x_aload_n C dX12_readsEgg_69 rfl 0 rfl rfl ?_
              refine x_vi C (As := []) (rest := [.int (nI (10 * nm)), .ref (a 0)]) (m_here E l a cd hG wl44 hWl44 tp px le cm wt sm lm ((nI nm)) ⟨v33, v34, v35, v36, v37, v38, v39, n40, n41, ⟨by omega, by omega, by omega, by omega, by omega, by omega, by omega⟩, ⟨by omega, by omega⟩, zb44, k45⟩ tf iv44_1) mf_X12_here w_1317 0 k45 rfl rfl rfl (Nat.le_of_ble_eq_true rfl) ⟨(Nat.le_of_ble_eq_true rfl), (Nat.le_of_ble_eq_true rfl)⟩ ⟨(Nat.le_of_ble_eq_true rfl), (Nat.le_of_ble_eq_true rfl)⟩ dX12_readsEgg_70 rfl (fun r201 w202 h200 => ?_)
              obtain ⟨hW203, x204⟩ := h200
              refine x_ws hW203 ?_
              refine x_top (x204.trans ed125) ?_
              refine x_iadd C (v := (nI ((10 * nm) + (48 + d123)))) dX12_readsEgg_73 (nI_add (10 * nm) (48 + d123)) rfl ?_
              refine x_bipush C (v := 48) dX12_readsEgg_74 (by decide) rfl ?_
              refine x_isub C (v := (nI (((10 * nm) + (48 + d123)) - 48))) dX12_readsEgg_76 (pk_sub (a := ((10 * nm) + (48 + d123))) (b := 48) (by omega)) rfl ?_
              obtain ⟨w205, hw206⟩ : ∃ w : va_W, w = List.set wl44 0 (ob (a 0) 11 [.ref (a 1), .ref (a 2), .ref (a 3), .ref (a 4), .int (nI tp), .int (nI px), .int (nI le), .int v33, .int (nI (((10 * nm) + (48 + d123)) - 48)), .int v34, .int (nI cm), .int (nI wt), .int (nI sm), .int (nI (cd.2.2.2.2.2)), .ref (a 5), .ref (a 6), .ref (a 7), .ref (a 8), .ref (a 9), .ref (a 10), .ref (a 11), .ref (a 12), .ref (a 13), .ref (a 14), .ref (a 15), .ref (a 16), .ref (a 17), .int (nI lm), .ref (a 18), .ref (a 19), .ref (a 20), .ref (a 21), .int v35, .int v36, .int v37, .int v38, .int (nI n40), .int (nI n41), .ref (a 22), .ref (a 23), .ref (a 24), .ref (a 25), .ref (a 26), .ref (a 27), .ref (a 28), .ref (a 29), .ref (a 30), .int v39]) := ⟨_, rfl⟩
              refine x_put C (ci := 11) (k := 8) (ty := .int) 0 k45 rfl in_X12 tyX12 tyX12_ok nmX12 (by decide) w_1126 rfl rfl rfl rfl (Nat.le_of_ble_eq_true rfl) hw206.symm dX12_readsEgg_77 rfl ?_
              have hW207 : WX (okM E a cd) w205 := by rw [hw206]; exact hWl44.set (k := 0) rfl ⟨tp, px, le, v33, (nI (((10 * nm) + (48 + d123)) - 48)), v34, cm, wt, sm, lm, v35, v36, v37, v38, n40, n41, v39, by omega, by omega, by omega, by omega, by omega, by omega, by omega, by omega, by omega, zb44, rfl⟩
              have k208 : w205[0]? = some (ob (a 0) 11 [.ref (a 1), .ref (a 2), .ref (a 3), .ref (a 4), .int (nI tp), .int (nI px), .int (nI le), .int v33, .int (nI (((10 * nm) + (48 + d123)) - 48)), .int v34, .int (nI cm), .int (nI wt), .int (nI sm), .int (nI (cd.2.2.2.2.2)), .ref (a 5), .ref (a 6), .ref (a 7), .ref (a 8), .ref (a 9), .ref (a 10), .ref (a 11), .ref (a 12), .ref (a 13), .ref (a 14), .ref (a 15), .ref (a 16), .ref (a 17), .int (nI lm), .ref (a 18), .ref (a 19), .ref (a 20), .ref (a 21), .int v35, .int v36, .int v37, .int v38, .int (nI n40), .int (nI n41), .ref (a 22), .ref (a 23), .ref (a 24), .ref (a 25), .ref (a 26), .ref (a 27), .ref (a 28), .ref (a 29), .ref (a 30), .int v39]) := by rw [hw206]; exact set_eq k45
              have k209 : w205[4]? = some (bA E (a 4) 260 tf) := by rw [hw206]; exact set_ne iv44_1 (by decide)
              have kp210 := keeps_set kq44 hw206 (by first | exact rfl | decide | omega | (dsimp only; omega))
              refine x_aload_n C dX12_readsEgg_80 rfl 0 rfl rfl ?_
              refine x_aload_n C dX12_readsEgg_81 rfl 0 rfl rfl ?_
              refine x_get C (ci := 11) (k := 5) 0 k208 rfl in_X12 (by decide) w_1123 rfl dX12_readsEgg_82 rfl ?_
              refine x_iconst C (v := 1) dX12_readsEgg_85 (by decide) rfl ?_
              refine x_iadd C (v := (nI (px + 1))) dX12_readsEgg_86 (nI_add px 1) rfl ?_
              obtain ⟨w211, hw212⟩ : ∃ w : va_W, w = List.set w205 0 (ob (a 0) 11 [.ref (a 1), .ref (a 2), .ref (a 3), .ref (a 4), .int (nI tp), .int (nI (px + 1)), .int (nI le), .int v33, .int (nI (((10 * nm) + (48 + d123)) - 48)), .int v34, .int (nI cm), .int (nI wt), .int (nI sm), .int (nI (cd.2.2.2.2.2)), .ref (a 5), .ref (a 6), .ref (a 7), .ref (a 8), .ref (a 9), .ref (a 10), .ref (a 11), .ref (a 12), .ref (a 13), .ref (a 14), .ref (a 15), .ref (a 16), .ref (a 17), .int (nI lm), .ref (a 18), .ref (a 19), .ref (a 20), .ref (a 21), .int v35, .int v36, .int v37, .int v38, .int (nI n40), .int (nI n41), .ref (a 22), .ref (a 23), .ref (a 24), .ref (a 25), .ref (a 26), .ref (a 27), .ref (a 28), .ref (a 29), .ref (a 30), .int v39]) := ⟨_, rfl⟩
              refine x_put C (ci := 11) (k := 5) (ty := .int) 0 k208 rfl in_X12 tyX12 tyX12_ok nmX12 (by decide) w_1123 rfl rfl rfl rfl (Nat.le_of_ble_eq_true rfl) hw212.symm dX12_readsEgg_87 rfl ?_
              have hW213 : WX (okM E a cd) w211 := by rw [hw212]; exact hW207.set (k := 0) rfl ⟨tp, (px + 1), le, v33, (nI (((10 * nm) + (48 + d123)) - 48)), v34, cm, wt, sm, lm, v35, v36, v37, v38, n40, n41, v39, by omega, by omega, by omega, by omega, by omega, by omega, by omega, by omega, by omega, zb44, rfl⟩
              have k214 : w211[0]? = some (ob (a 0) 11 [.ref (a 1), .ref (a 2), .ref (a 3), .ref (a 4), .int (nI tp), .int (nI (px + 1)), .int (nI le), .int v33, .int (nI (((10 * nm) + (48 + d123)) - 48)), .int v34, .int (nI cm), .int (nI wt), .int (nI sm), .int (nI (cd.2.2.2.2.2)), .ref (a 5), .ref (a 6), .ref (a 7), .ref (a 8), .ref (a 9), .ref (a 10), .ref (a 11), .ref (a 12), .ref (a 13), .ref (a 14), .ref (a 15), .ref (a 16), .ref (a 17), .int (nI lm), .ref (a 18), .ref (a 19), .ref (a 20), .ref (a 21), .int v35, .int v36, .int v37, .int v38, .int (nI n40), .int (nI n41), .ref (a 22), .ref (a 23), .ref (a 24), .ref (a 25), .ref (a 26), .ref (a 27), .ref (a 28), .ref (a 29), .ref (a 30), .int v39]) := by rw [hw212]; exact set_eq k208
              have k215 : w211[4]? = some (bA E (a 4) 260 tf) := by rw [hw212]; exact set_ne k209 (by decide)
              have kp216 := keeps_set kp210 hw212 (by first | exact rfl | decide | omega | (dsimp only; omega))
              refine x_goto C (tgt := 44) dX12_readsEgg_90 (by decide) ?_
              refine x_lv (lv1 := [(0, .ref (a 0)), (1, .int (nI n0)), (2, .int (nI pl))]) [0, 1, 2] rfl ?_
              exact ih44 (px + 1) (((10 * nm) + (48 + d123)) - 48) w211 hW213 (by omega) ⟨v33, v34, v35, v36, v37, v38, v39, n40, n41, ⟨by omega, by omega, by omega, by omega, by omega, by omega, by omega⟩, ⟨by omega, by omega⟩, zb44, k214⟩ k215 (by omega) (by omega) kp216
      refine x_lv (lv1 := [(0, .ref (a 0)), (1, .int (nI n0)), (2, .int (nI pl))]) [1, 2, 0] rfl ?_
      exact loop44 _ pl 0 w27 hW29 (Nat.lt_succ_self _) ⟨v1, v2, v3, v4, v5, v6, v7, n8, n9, ⟨by omega, by omega, by omega, by omega, by omega, by omega, by omega⟩, ⟨by omega, by omega⟩, zb12, k30⟩ k31 (by omega) (by omega) kp32
    · skip
      have nf217 : n0 = 8 := (nI_eq (by omega) (by omega)).mp c25
      refine x_aload_n C dX12_readsEgg_28 rfl 1 rfl rfl ?_
      refine x_bipush C (v := 6) dX12_readsEgg_29 (by decide) rfl ?_
      refine x_aload_n C dX12_readsEgg_31 rfl 1 rfl rfl ?_
      refine x_get C (ci := 11) (k := 5) 0 k13 rfl in_X12 (by decide) w_1123 rfl dX12_readsEgg_32 rfl ?_
      refine x_vi C (As := [.int 6, .int (nI pl)]) (rest := []) (m_wrongAt E l a cd hG ws hW (6 : Int32) ((nI pl)) tp pl le cm wt sm lm nu ⟨v1, v2, v3, v4, v5, v6, v7, n8, n9, ⟨by omega, by omega, by omega, by omega, by omega, by omega, by omega⟩, ⟨by omega, by omega⟩, zb12, k13⟩) mf_X12_wrongAt w_1324 0 k13 rfl rfl rfl (Nat.le_of_ble_eq_true rfl) ⟨(Nat.le_of_ble_eq_true rfl), (Nat.le_of_ble_eq_true rfl)⟩ ⟨(Nat.le_of_ble_eq_true rfl), (Nat.le_of_ble_eq_true rfl)⟩ dX12_readsEgg_35 rfl (fun r219 w220 h218 => ?_)
      obtain ⟨hW221, kq222, e223, x224⟩ := h218
      refine x_top e223 ?_
      have k225 : w220[4]? = some (bA E (a 4) 260 tf) := keeps_at kq222 htf (by first | decide | omega | (dsimp only; omega))
      have kp226 := keeps_tr kp0 kq222 (fun q hq => by first | omega | (dsimp only at *; omega))
      obtain ⟨v227, v228, v229, v230, v231, v232, v233, n234, n235, bo236, bo237, zb238, k239⟩ := x224
      exact x_zret C hr hlk rfl dX12_readsEgg_38 ⟨hW221, kp226, (Or.inl rfl), ⟨pl, nu, by omega, by omega, ⟨v227, v228, v229, v230, v231, v232, v233, n234, n235, ⟨by omega, by omega, by omega, by omega, by omega, by omega, by omega⟩, ⟨by omega, by omega⟩, zb238, k239⟩, fun q => absurd rfl q⟩⟩
  · skip
    refine x_aload_n C dX12_readsEgg_12 rfl 1 rfl rfl ?_
    refine x_iconst C (v := 1) dX12_readsEgg_13 (by decide) rfl ?_
    refine x_aload_n C dX12_readsEgg_14 rfl 1 rfl rfl ?_
    refine x_get C (ci := 11) (k := 5) 0 k13 rfl in_X12 (by decide) w_1123 rfl dX12_readsEgg_15 rfl ?_
    refine x_vi C (As := [.int 1, .int (nI pl)]) (rest := []) (m_wrongAt E l a cd hG ws hW (1 : Int32) ((nI pl)) tp pl le cm wt sm lm nu ⟨v1, v2, v3, v4, v5, v6, v7, n8, n9, ⟨by omega, by omega, by omega, by omega, by omega, by omega, by omega⟩, ⟨by omega, by omega⟩, zb12, k13⟩) mf_X12_wrongAt w_1324 0 k13 rfl rfl rfl (Nat.le_of_ble_eq_true rfl) ⟨(Nat.le_of_ble_eq_true rfl), (Nat.le_of_ble_eq_true rfl)⟩ ⟨(Nat.le_of_ble_eq_true rfl), (Nat.le_of_ble_eq_true rfl)⟩ dX12_readsEgg_18 rfl (fun r241 w242 h240 => ?_)
    obtain ⟨hW243, kq244, e245, x246⟩ := h240
    refine x_top e245 ?_
    have k247 : w242[4]? = some (bA E (a 4) 260 tf) := keeps_at kq244 htf (by first | decide | omega | (dsimp only; omega))
    have kp248 := keeps_tr kp0 kq244 (fun q hq => by first | omega | (dsimp only at *; omega))
    obtain ⟨v249, v250, v251, v252, v253, v254, v255, n256, n257, bo258, bo259, zb260, k261⟩ := x246
    exact x_zret C hr hlk rfl dX12_readsEgg_21 ⟨hW243, kp248, (Or.inl rfl), ⟨pl, nu, by omega, by omega, ⟨v249, v250, v251, v252, v253, v254, v255, n256, n257, ⟨by omega, by omega, by omega, by omega, by omega, by omega, by omega⟩, ⟨by omega, by omega⟩, zb260, k261⟩, fun q => absurd rfl q⟩⟩
theorem dX12_readsEggs_0 : decode cX12_readsEggs 0 = .ok (.aload_n 0, 1) := by decide +kernel
theorem dX12_readsEggs_1 : decode cX12_readsEggs 1 = .ok (.invokevirtual 137, 3) := by decide +kernel
theorem dX12_readsEggs_4 : decode cX12_readsEggs 4 = .ok (.bipush 40, 2) := by decide +kernel
theorem dX12_readsEggs_6 : decode cX12_readsEggs 6 = .ok (.if_icmp .eq 17, 3) := by decide +kernel
theorem dX12_readsEggs_9 : decode cX12_readsEggs 9 = .ok (.aload_n 0, 1) := by decide +kernel
theorem dX12_readsEggs_10 : decode cX12_readsEggs 10 = .ok (.iconst 0, 1) := by decide +kernel
theorem dX12_readsEggs_11 : decode cX12_readsEggs 11 = .ok (.invokevirtual 253, 3) := by decide +kernel
theorem dX12_readsEggs_14 : decode cX12_readsEggs 14 = .ok (.ifCond .eq 7, 3) := by decide +kernel
theorem dX12_readsEggs_17 : decode cX12_readsEggs 17 = .ok (.iconst 1, 1) := by decide +kernel
theorem dX12_readsEggs_18 : decode cX12_readsEggs 18 = .ok (.goto 4, 3) := by decide +kernel
theorem dX12_readsEggs_21 : decode cX12_readsEggs 21 = .ok (.iconst (-1), 1) := by decide +kernel
theorem dX12_readsEggs_22 : decode cX12_readsEggs 22 = .ok (.ireturn, 1) := by decide +kernel
theorem dX12_readsEggs_23 : decode cX12_readsEggs 23 = .ok (.aload_n 0, 1) := by decide +kernel
theorem dX12_readsEggs_24 : decode cX12_readsEggs 24 = .ok (.aload_n 0, 1) := by decide +kernel
theorem dX12_readsEggs_25 : decode cX12_readsEggs 25 = .ok (.getfield 131, 3) := by decide +kernel
theorem dX12_readsEggs_28 : decode cX12_readsEggs 28 = .ok (.iconst 1, 1) := by decide +kernel
theorem dX12_readsEggs_29 : decode cX12_readsEggs 29 = .ok (.iadd, 1) := by decide +kernel
theorem dX12_readsEggs_30 : decode cX12_readsEggs 30 = .ok (.putfield 131, 3) := by decide +kernel
theorem dX12_readsEggs_33 : decode cX12_readsEggs 33 = .ok (.aload_n 0, 1) := by decide +kernel
theorem dX12_readsEggs_34 : decode cX12_readsEggs 34 = .ok (.iconst 0, 1) := by decide +kernel
theorem dX12_readsEggs_35 : decode cX12_readsEggs 35 = .ok (.invokevirtual 253, 3) := by decide +kernel
theorem dX12_readsEggs_38 : decode cX12_readsEggs 38 = .ok (.ifCond .ne 5, 3) := by decide +kernel
theorem dX12_readsEggs_41 : decode cX12_readsEggs 41 = .ok (.iconst (-1), 1) := by decide +kernel
theorem dX12_readsEggs_42 : decode cX12_readsEggs 42 = .ok (.ireturn, 1) := by decide +kernel
theorem dX12_readsEggs_43 : decode cX12_readsEggs 43 = .ok (.iconst 1, 1) := by decide +kernel
theorem dX12_readsEggs_44 : decode cX12_readsEggs 44 = .ok (.istore_n 1, 1) := by decide +kernel
theorem dX12_readsEggs_45 : decode cX12_readsEggs 45 = .ok (.aload_n 0, 1) := by decide +kernel
theorem dX12_readsEggs_46 : decode cX12_readsEggs 46 = .ok (.invokevirtual 137, 3) := by decide +kernel
theorem dX12_readsEggs_49 : decode cX12_readsEggs 49 = .ok (.bipush 43, 2) := by decide +kernel
theorem dX12_readsEggs_51 : decode cX12_readsEggs 51 = .ok (.if_icmp .ne 30, 3) := by decide +kernel
theorem dX12_readsEggs_54 : decode cX12_readsEggs 54 = .ok (.aload_n 0, 1) := by decide +kernel
theorem dX12_readsEggs_55 : decode cX12_readsEggs 55 = .ok (.aload_n 0, 1) := by decide +kernel
theorem dX12_readsEggs_56 : decode cX12_readsEggs 56 = .ok (.getfield 131, 3) := by decide +kernel
theorem dX12_readsEggs_59 : decode cX12_readsEggs 59 = .ok (.iconst 1, 1) := by decide +kernel
theorem dX12_readsEggs_60 : decode cX12_readsEggs 60 = .ok (.iadd, 1) := by decide +kernel
theorem dX12_readsEggs_61 : decode cX12_readsEggs 61 = .ok (.putfield 131, 3) := by decide +kernel
theorem dX12_readsEggs_64 : decode cX12_readsEggs 64 = .ok (.aload_n 0, 1) := by decide +kernel
theorem dX12_readsEggs_65 : decode cX12_readsEggs 65 = .ok (.iload_n 1, 1) := by decide +kernel
theorem dX12_readsEggs_66 : decode cX12_readsEggs 66 = .ok (.invokevirtual 253, 3) := by decide +kernel
theorem dX12_readsEggs_69 : decode cX12_readsEggs 69 = .ok (.ifCond .ne 5, 3) := by decide +kernel
theorem dX12_readsEggs_72 : decode cX12_readsEggs 72 = .ok (.iconst (-1), 1) := by decide +kernel
theorem dX12_readsEggs_73 : decode cX12_readsEggs 73 = .ok (.ireturn, 1) := by decide +kernel
theorem dX12_readsEggs_74 : decode cX12_readsEggs 74 = .ok (.iload_n 1, 1) := by decide +kernel
theorem dX12_readsEggs_75 : decode cX12_readsEggs 75 = .ok (.iconst 1, 1) := by decide +kernel
theorem dX12_readsEggs_76 : decode cX12_readsEggs 76 = .ok (.iadd, 1) := by decide +kernel
theorem dX12_readsEggs_77 : decode cX12_readsEggs 77 = .ok (.istore_n 1, 1) := by decide +kernel
theorem dX12_readsEggs_78 : decode cX12_readsEggs 78 = .ok (.goto (-33), 3) := by decide +kernel
theorem dX12_readsEggs_81 : decode cX12_readsEggs 81 = .ok (.aload_n 0, 1) := by decide +kernel
theorem dX12_readsEggs_82 : decode cX12_readsEggs 82 = .ok (.bipush 41, 2) := by decide +kernel
theorem dX12_readsEggs_84 : decode cX12_readsEggs 84 = .ok (.invokevirtual 220, 3) := by decide +kernel
theorem dX12_readsEggs_87 : decode cX12_readsEggs 87 = .ok (.ifCond .eq 7, 3) := by decide +kernel
theorem dX12_readsEggs_90 : decode cX12_readsEggs 90 = .ok (.iload_n 1, 1) := by decide +kernel
theorem dX12_readsEggs_91 : decode cX12_readsEggs 91 = .ok (.goto 4, 3) := by decide +kernel
theorem dX12_readsEggs_94 : decode cX12_readsEggs 94 = .ok (.iconst (-1), 1) := by decide +kernel
theorem dX12_readsEggs_95 : decode cX12_readsEggs 95 = .ok (.ireturn, 1) := by decide +kernel
set_option maxRecDepth 20000 in
set_option maxHeartbeats 4000000 in
theorem m_readsEggs (E : xE) (l : Launch) (a : Nat → Nat) (cd : Cd) (hG : Good cd) (ws : va_W) (hW : WX (okM E a cd) ws) (tp pl le cm wt sm lm : Nat) (nu : Int32) (h0 : MO a cd ws tp pl le cm wt sm lm nu) (tf : Nat → Int32) (htf : ws[4]? = some (bA E (a 4) 260 tf)) (hlm : lm ≤ 23) (hpl : pl ≤ le) : xI E l yX12_readsEggs cX12_readsEggs 2 (some .int) 3 [.ref (a 0)] ws (fun r w => WX (okM E a cd) w ∧ keeps ws w (fun q => q = 0 ∨ q = 21) ∧ (∃ (pl2 : Nat) (nu2 : Int32), pl ≤ pl2 ∧ pl2 ≤ le ∧ MO a cd w tp pl2 le cm wt sm lm nu2 ∧ (r = -1 ∨ ∃ mm : Nat, 1 ≤ mm ∧ mm ≤ 8 ∧ r = nI mm))) := by
  refine xI_start (lv := [(0, .ref (a 0))]) RX12 (by decide) rfl (Nat.le_of_ble_eq_true rfl) rfl (fun p e s m below meth c A C hr hlk => ?_)
  have kp0 : keeps ws ws (fun q => q = 0 ∨ q = 21) := keeps_rf
  obtain ⟨v1, v2, v3, v4, v5, v6, v7, n8, n9, bo10, bo11, zb12, k13⟩ := h0
  refine x_aload_n C dX12_readsEggs_0 rfl 0 rfl rfl ?_
  refine x_vi C (As := []) (rest := []) (m_here E l a cd hG ws hW tp pl le cm wt sm lm nu ⟨v1, v2, v3, v4, v5, v6, v7, n8, n9, ⟨by omega, by omega, by omega, by omega, by omega, by omega, by omega⟩, ⟨by omega, by omega⟩, zb12, k13⟩ tf htf) mf_X12_here w_1317 0 k13 rfl rfl rfl (Nat.le_of_ble_eq_true rfl) ⟨(Nat.le_of_ble_eq_true rfl), (Nat.le_of_ble_eq_true rfl)⟩ ⟨(Nat.le_of_ble_eq_true rfl), (Nat.le_of_ble_eq_true rfl)⟩ dX12_readsEggs_1 rfl (fun r15 w16 h14 => ?_)
  obtain ⟨hW17, x18⟩ := h14
  refine x_ws hW17 ?_
  refine x_bipush C (v := 40) dX12_readsEggs_4 (by decide) rfl ?_
  refine x_icmp_eq C (tgt := 23) dX12_readsEggs_6 (by decide) rfl (fun c19 => ?_) (fun c19 => ?_)
  · skip
    have hp20 := hv_lt (x18.symm.trans c19) (by decide)
    refine x_aload_n C dX12_readsEggs_23 rfl 0 rfl rfl ?_
    refine x_aload_n C dX12_readsEggs_24 rfl 0 rfl rfl ?_
    refine x_get C (ci := 11) (k := 5) 0 k13 rfl in_X12 (by decide) w_1123 rfl dX12_readsEggs_25 rfl ?_
    refine x_iconst C (v := 1) dX12_readsEggs_28 (by decide) rfl ?_
    refine x_iadd C (v := (nI (pl + 1))) dX12_readsEggs_29 (nI_add pl 1) rfl ?_
    obtain ⟨w21, hw22⟩ : ∃ w : va_W, w = List.set ws 0 (ob (a 0) 11 [.ref (a 1), .ref (a 2), .ref (a 3), .ref (a 4), .int (nI tp), .int (nI (pl + 1)), .int (nI le), .int v1, .int nu, .int v2, .int (nI cm), .int (nI wt), .int (nI sm), .int (nI (cd.2.2.2.2.2)), .ref (a 5), .ref (a 6), .ref (a 7), .ref (a 8), .ref (a 9), .ref (a 10), .ref (a 11), .ref (a 12), .ref (a 13), .ref (a 14), .ref (a 15), .ref (a 16), .ref (a 17), .int (nI lm), .ref (a 18), .ref (a 19), .ref (a 20), .ref (a 21), .int v3, .int v4, .int v5, .int v6, .int (nI n8), .int (nI n9), .ref (a 22), .ref (a 23), .ref (a 24), .ref (a 25), .ref (a 26), .ref (a 27), .ref (a 28), .ref (a 29), .ref (a 30), .int v7]) := ⟨_, rfl⟩
    refine x_put C (ci := 11) (k := 5) (ty := .int) 0 k13 rfl in_X12 tyX12 tyX12_ok nmX12 (by decide) w_1123 rfl rfl rfl rfl (Nat.le_of_ble_eq_true rfl) hw22.symm dX12_readsEggs_30 rfl ?_
    have hW23 : WX (okM E a cd) w21 := by rw [hw22]; exact hW.set (k := 0) rfl ⟨tp, (pl + 1), le, v1, nu, v2, cm, wt, sm, lm, v3, v4, v5, v6, n8, n9, v7, by omega, by omega, by omega, by omega, by omega, by omega, by omega, by omega, by omega, zb12, rfl⟩
    have k24 : w21[0]? = some (ob (a 0) 11 [.ref (a 1), .ref (a 2), .ref (a 3), .ref (a 4), .int (nI tp), .int (nI (pl + 1)), .int (nI le), .int v1, .int nu, .int v2, .int (nI cm), .int (nI wt), .int (nI sm), .int (nI (cd.2.2.2.2.2)), .ref (a 5), .ref (a 6), .ref (a 7), .ref (a 8), .ref (a 9), .ref (a 10), .ref (a 11), .ref (a 12), .ref (a 13), .ref (a 14), .ref (a 15), .ref (a 16), .ref (a 17), .int (nI lm), .ref (a 18), .ref (a 19), .ref (a 20), .ref (a 21), .int v3, .int v4, .int v5, .int v6, .int (nI n8), .int (nI n9), .ref (a 22), .ref (a 23), .ref (a 24), .ref (a 25), .ref (a 26), .ref (a 27), .ref (a 28), .ref (a 29), .ref (a 30), .int v7]) := by rw [hw22]; exact set_eq k13
    have k25 : w21[4]? = some (bA E (a 4) 260 tf) := by rw [hw22]; exact set_ne htf (by decide)
    have kp26 := keeps_set kp0 hw22 (by first | exact rfl | decide | omega | (dsimp only; omega))
    refine x_aload_n C dX12_readsEggs_33 rfl 0 rfl rfl ?_
    refine x_iconst C (v := 0) dX12_readsEggs_34 (by decide) rfl ?_
    refine x_vi C (As := [.int 0]) (rest := []) (m_readsEgg E l a cd hG w21 hW23 0 (by omega) tp (pl + 1) le cm wt sm lm nu ⟨v1, v2, v3, v4, v5, v6, v7, n8, n9, ⟨by omega, by omega, by omega, by omega, by omega, by omega, by omega⟩, ⟨by omega, by omega⟩, zb12, k24⟩ tf k25 (by omega) (by omega)) mf_X12_readsEgg w_1411 0 k24 rfl rfl rfl (Nat.le_of_ble_eq_true rfl) ⟨(Nat.le_of_ble_eq_true rfl), (Nat.le_of_ble_eq_true rfl)⟩ ⟨(Nat.le_of_ble_eq_true rfl), (Nat.le_of_ble_eq_true rfl)⟩ dX12_readsEggs_35 rfl (fun r28 w29 h27 => ?_)
    obtain ⟨hW30, kq31, zb32, x33⟩ := h27
    have k34 : w29[4]? = some (bA E (a 4) 260 tf) := keeps_at kq31 k25 (by first | decide | omega | (dsimp only; omega))
    have kp35 := keeps_tr kp26 kq31 (fun q hq => by first | omega | (dsimp only at *; omega))
    obtain ⟨pl36, nu37, hp38, hp39, mo40, hx41⟩ := x33
    obtain ⟨v42, v43, v44, v45, v46, v47, v48, n49, n50, bo51, bo52, zb53, k54⟩ := mo40
    refine x_if_ne C (tgt := 43) dX12_readsEggs_38 (by decide) rfl (fun c55 => ?_) (fun c55 => ?_)
    · skip
      refine x_iconst C (v := 1) dX12_readsEggs_43 (by decide) rfl ?_
      refine x_istore_n C (lv' := [(1, .int 1), (0, .ref (a 0))]) dX12_readsEggs_44 rfl (by decide) rfl rfl ?_
      have loop45 : ∀ (fu45 : Nat) (mm : Nat) (px : Nat) (nz : Int32) (wl45 : va_W), WX (okM E a cd) wl45 → le - px < fu45 → MO a cd wl45 tp px le cm wt sm lm nz → wl45[4]? = some (bA E (a 4) 260 tf) → 1 ≤ mm ∧ mm ≤ 8 → pl ≤ px ∧ px ≤ le → keeps ws wl45 (fun q => q = 0 ∨ q = 21) → X E p l e (xRm 3 0 0) s m ([.ref (a 0)] : List Value).toArray below meth c A 2 0 0 (MQ below (va_Qi (fun r w => WX (okM E a cd) w ∧ keeps ws w (fun q => q = 0 ∨ q = 21) ∧ (∃ (pl2 : Nat) (nu2 : Int32), pl ≤ pl2 ∧ pl2 ≤ le ∧ MO a cd w tp pl2 le cm wt sm lm nu2 ∧ (r = -1 ∨ ∃ mm : Nat, 1 ≤ mm ∧ mm ≤ 8 ∧ r = nI mm))) (xB E A) A) ([.ref (a 0)] : List Value).toArray s 0 0 A) wl45 45 [(0, .ref (a 0)), (1, .int (nI mm))] [] := by
        intro fu45
        induction fu45 with
        | zero => intro mm px nz wl45 _ q; omega
        | succ fu45 ih45 =>
          intro mm px nz wl45 hWl45 me45 iv45_0 iv45_1 iv45_2 iv45_3 kq45
          obtain ⟨v56, v57, v58, v59, v60, v61, v62, n63, n64, bo65, bo66, zb67, k68⟩ := iv45_0
          refine x_aload_n C dX12_readsEggs_45 rfl 0 rfl rfl ?_
          refine x_vi C (As := []) (rest := []) (m_here E l a cd hG wl45 hWl45 tp px le cm wt sm lm nz ⟨v56, v57, v58, v59, v60, v61, v62, n63, n64, ⟨by omega, by omega, by omega, by omega, by omega, by omega, by omega⟩, ⟨by omega, by omega⟩, zb67, k68⟩ tf iv45_1) mf_X12_here w_1317 0 k68 rfl rfl rfl (Nat.le_of_ble_eq_true rfl) ⟨(Nat.le_of_ble_eq_true rfl), (Nat.le_of_ble_eq_true rfl)⟩ ⟨(Nat.le_of_ble_eq_true rfl), (Nat.le_of_ble_eq_true rfl)⟩ dX12_readsEggs_46 rfl (fun r70 w71 h69 => ?_)
          obtain ⟨hW72, x73⟩ := h69
          refine x_ws hW72 ?_
          refine x_bipush C (v := 43) dX12_readsEggs_49 (by decide) rfl ?_
          refine x_icmp_ne C (tgt := 81) dX12_readsEggs_51 (by decide) rfl (fun c74 => ?_) (fun c74 => ?_)
          · skip
            refine x_aload_n C dX12_readsEggs_81 rfl 0 rfl rfl ?_
            refine x_bipush C (v := 41) dX12_readsEggs_82 (by decide) rfl ?_
            refine x_vi C (As := [.int 41]) (rest := []) (m_takes41 E l a cd hG wl45 hWl45 tp px le cm wt sm lm nz ⟨v56, v57, v58, v59, v60, v61, v62, n63, n64, ⟨by omega, by omega, by omega, by omega, by omega, by omega, by omega⟩, ⟨by omega, by omega⟩, zb67, k68⟩ tf iv45_1) mf_X12_takes w_1391 0 k68 rfl rfl rfl (Nat.le_of_ble_eq_true rfl) ⟨(Nat.le_of_ble_eq_true rfl), (Nat.le_of_ble_eq_true rfl)⟩ ⟨(Nat.le_of_ble_eq_true rfl), (Nat.le_of_ble_eq_true rfl)⟩ dX12_readsEggs_84 rfl (fun r76 w77 h75 => ?_)
            obtain ⟨hW78, kq79, zb80, x81⟩ := h75
            have k82 : w77[4]? = some (bA E (a 4) 260 tf) := keeps_at kq79 iv45_1 (by first | decide | omega | (dsimp only; omega))
            have kp83 := keeps_tr kq45 kq79 (fun q hq => by first | omega | (dsimp only at *; omega))
            rcases x81 with ⟨e84, mo85⟩ | ⟨e86, hp87, mo88⟩
            · refine x_top e84 ?_
              obtain ⟨v89, v90, v91, v92, v93, v94, v95, n96, n97, bo98, bo99, zb100, k101⟩ := mo85
              refine x_if_eq C (tgt := 94) dX12_readsEggs_87 (by decide) rfl (fun _ => ?_) (fun h => absurd h (by decide))
              refine x_iconst C (v := (-1)) dX12_readsEggs_94 (by decide) rfl ?_
              exact x_zret C hr hlk rfl dX12_readsEggs_95 ⟨hW78, kp83, ⟨px, nz, by omega, by omega, ⟨v89, v90, v91, v92, v93, v94, v95, n96, n97, ⟨by omega, by omega, by omega, by omega, by omega, by omega, by omega⟩, ⟨by omega, by omega⟩, zb100, k101⟩, Or.inl rfl⟩⟩
            · refine x_top e86 ?_
              obtain ⟨v102, v103, v104, v105, v106, v107, v108, n109, n110, bo111, bo112, zb113, k114⟩ := mo88
              refine x_if_eq C (tgt := 94) dX12_readsEggs_87 (by decide) rfl (fun h => absurd h (by decide)) (fun _ => ?_)
              refine x_iload_n C dX12_readsEggs_90 rfl 1 rfl rfl ?_
              refine x_goto C (tgt := 95) dX12_readsEggs_91 (by decide) ?_
              exact x_zret C hr hlk rfl dX12_readsEggs_95 ⟨hW78, kp83, ⟨(px + 1), nz, by omega, by omega, ⟨v102, v103, v104, v105, v106, v107, v108, n109, n110, ⟨by omega, by omega, by omega, by omega, by omega, by omega, by omega⟩, ⟨by omega, by omega⟩, zb113, k114⟩, Or.inr ⟨mm, by omega, by omega, rfl⟩⟩⟩
          · skip
            have hp115 := hv_lt (x73.symm.trans c74) (by decide)
            refine x_aload_n C dX12_readsEggs_54 rfl 0 rfl rfl ?_
            refine x_aload_n C dX12_readsEggs_55 rfl 0 rfl rfl ?_
            refine x_get C (ci := 11) (k := 5) 0 k68 rfl in_X12 (by decide) w_1123 rfl dX12_readsEggs_56 rfl ?_
            refine x_iconst C (v := 1) dX12_readsEggs_59 (by decide) rfl ?_
            refine x_iadd C (v := (nI (px + 1))) dX12_readsEggs_60 (nI_add px 1) rfl ?_
            obtain ⟨w116, hw117⟩ : ∃ w : va_W, w = List.set wl45 0 (ob (a 0) 11 [.ref (a 1), .ref (a 2), .ref (a 3), .ref (a 4), .int (nI tp), .int (nI (px + 1)), .int (nI le), .int v56, .int nz, .int v57, .int (nI cm), .int (nI wt), .int (nI sm), .int (nI (cd.2.2.2.2.2)), .ref (a 5), .ref (a 6), .ref (a 7), .ref (a 8), .ref (a 9), .ref (a 10), .ref (a 11), .ref (a 12), .ref (a 13), .ref (a 14), .ref (a 15), .ref (a 16), .ref (a 17), .int (nI lm), .ref (a 18), .ref (a 19), .ref (a 20), .ref (a 21), .int v58, .int v59, .int v60, .int v61, .int (nI n63), .int (nI n64), .ref (a 22), .ref (a 23), .ref (a 24), .ref (a 25), .ref (a 26), .ref (a 27), .ref (a 28), .ref (a 29), .ref (a 30), .int v62]) := ⟨_, rfl⟩
            refine x_put C (ci := 11) (k := 5) (ty := .int) 0 k68 rfl in_X12 tyX12 tyX12_ok nmX12 (by decide) w_1123 rfl rfl rfl rfl (Nat.le_of_ble_eq_true rfl) hw117.symm dX12_readsEggs_61 rfl ?_
            have hW118 : WX (okM E a cd) w116 := by rw [hw117]; exact hWl45.set (k := 0) rfl ⟨tp, (px + 1), le, v56, nz, v57, cm, wt, sm, lm, v58, v59, v60, v61, n63, n64, v62, by omega, by omega, by omega, by omega, by omega, by omega, by omega, by omega, by omega, zb67, rfl⟩
            have k119 : w116[0]? = some (ob (a 0) 11 [.ref (a 1), .ref (a 2), .ref (a 3), .ref (a 4), .int (nI tp), .int (nI (px + 1)), .int (nI le), .int v56, .int nz, .int v57, .int (nI cm), .int (nI wt), .int (nI sm), .int (nI (cd.2.2.2.2.2)), .ref (a 5), .ref (a 6), .ref (a 7), .ref (a 8), .ref (a 9), .ref (a 10), .ref (a 11), .ref (a 12), .ref (a 13), .ref (a 14), .ref (a 15), .ref (a 16), .ref (a 17), .int (nI lm), .ref (a 18), .ref (a 19), .ref (a 20), .ref (a 21), .int v58, .int v59, .int v60, .int v61, .int (nI n63), .int (nI n64), .ref (a 22), .ref (a 23), .ref (a 24), .ref (a 25), .ref (a 26), .ref (a 27), .ref (a 28), .ref (a 29), .ref (a 30), .int v62]) := by rw [hw117]; exact set_eq k68
            have k120 : w116[4]? = some (bA E (a 4) 260 tf) := by rw [hw117]; exact set_ne iv45_1 (by decide)
            have kp121 := keeps_set kq45 hw117 (by first | exact rfl | decide | omega | (dsimp only; omega))
            refine x_aload_n C dX12_readsEggs_64 rfl 0 rfl rfl ?_
            refine x_iload_n C dX12_readsEggs_65 rfl 1 rfl rfl ?_
            refine x_vi C (As := [.int (nI mm)]) (rest := []) (m_readsEgg E l a cd hG w116 hW118 mm (by omega) tp (px + 1) le cm wt sm lm nz ⟨v56, v57, v58, v59, v60, v61, v62, n63, n64, ⟨by omega, by omega, by omega, by omega, by omega, by omega, by omega⟩, ⟨by omega, by omega⟩, zb67, k119⟩ tf k120 (by omega) (by omega)) mf_X12_readsEgg w_1411 0 k119 rfl rfl rfl (Nat.le_of_ble_eq_true rfl) ⟨(Nat.le_of_ble_eq_true rfl), (Nat.le_of_ble_eq_true rfl)⟩ ⟨(Nat.le_of_ble_eq_true rfl), (Nat.le_of_ble_eq_true rfl)⟩ dX12_readsEggs_66 rfl (fun r123 w124 h122 => ?_)
            obtain ⟨hW125, kq126, zb127, x128⟩ := h122
            have k129 : w124[4]? = some (bA E (a 4) 260 tf) := keeps_at kq126 k120 (by first | decide | omega | (dsimp only; omega))
            have kp130 := keeps_tr kp121 kq126 (fun q hq => by first | omega | (dsimp only at *; omega))
            obtain ⟨pl131, nu132, hp133, hp134, mo135, hx136⟩ := x128
            obtain ⟨v137, v138, v139, v140, v141, v142, v143, n144, n145, bo146, bo147, zb148, k149⟩ := mo135
            refine x_if_ne C (tgt := 74) dX12_readsEggs_69 (by decide) rfl (fun c150 => ?_) (fun c150 => ?_)
            · skip
              have h7151 := hx136 c150
              refine x_iload_n C dX12_readsEggs_74 rfl 1 rfl rfl ?_
              refine x_iconst C (v := 1) dX12_readsEggs_75 (by decide) rfl ?_
              refine x_iadd C (v := (nI (mm + 1))) dX12_readsEggs_76 (nI_add mm 1) rfl ?_
              refine x_istore_n C (lv' := [(1, .int (nI (mm + 1))), (0, .ref (a 0))]) dX12_readsEggs_77 rfl (by decide) rfl rfl ?_
              refine x_goto C (tgt := 45) dX12_readsEggs_78 (by decide) ?_
              refine x_lv (lv1 := [(0, .ref (a 0)), (1, .int (nI (mm + 1)))]) [1, 0] rfl ?_
              exact ih45 (mm + 1) pl131 nu132 w124 hW125 (by omega) ⟨v137, v138, v139, v140, v141, v142, v143, n144, n145, ⟨by omega, by omega, by omega, by omega, by omega, by omega, by omega⟩, ⟨by omega, by omega⟩, zb148, k149⟩ k129 (by omega) (by omega) kp130
            · skip
              refine x_iconst C (v := (-1)) dX12_readsEggs_72 (by decide) rfl ?_
              exact x_zret C hr hlk rfl dX12_readsEggs_73 ⟨hW125, kp130, ⟨pl131, nu132, by omega, by omega, ⟨v137, v138, v139, v140, v141, v142, v143, n144, n145, ⟨by omega, by omega, by omega, by omega, by omega, by omega, by omega⟩, ⟨by omega, by omega⟩, zb148, k149⟩, Or.inl rfl⟩⟩
      refine x_lv (lv1 := [(0, .ref (a 0)), (1, .int 1)]) [1, 0] rfl ?_
      exact loop45 _ 1 pl36 nu37 w29 hW30 (Nat.lt_succ_self _) ⟨v42, v43, v44, v45, v46, v47, v48, n49, n50, ⟨by omega, by omega, by omega, by omega, by omega, by omega, by omega⟩, ⟨by omega, by omega⟩, zb53, k54⟩ k34 (by omega) (by omega) kp35
    · skip
      refine x_iconst C (v := (-1)) dX12_readsEggs_41 (by decide) rfl ?_
      exact x_zret C hr hlk rfl dX12_readsEggs_42 ⟨hW30, kp35, ⟨pl36, nu37, by omega, by omega, ⟨v42, v43, v44, v45, v46, v47, v48, n49, n50, ⟨by omega, by omega, by omega, by omega, by omega, by omega, by omega⟩, ⟨by omega, by omega⟩, zb53, k54⟩, Or.inl rfl⟩⟩
  · skip
    refine x_aload_n C dX12_readsEggs_9 rfl 0 rfl rfl ?_
    refine x_iconst C (v := 0) dX12_readsEggs_10 (by decide) rfl ?_
    refine x_vi C (As := [.int 0]) (rest := []) (m_readsEgg E l a cd hG ws hW 0 (by omega) tp pl le cm wt sm lm nu ⟨v1, v2, v3, v4, v5, v6, v7, n8, n9, ⟨by omega, by omega, by omega, by omega, by omega, by omega, by omega⟩, ⟨by omega, by omega⟩, zb12, k13⟩ tf htf (by omega) (by omega)) mf_X12_readsEgg w_1411 0 k13 rfl rfl rfl (Nat.le_of_ble_eq_true rfl) ⟨(Nat.le_of_ble_eq_true rfl), (Nat.le_of_ble_eq_true rfl)⟩ ⟨(Nat.le_of_ble_eq_true rfl), (Nat.le_of_ble_eq_true rfl)⟩ dX12_readsEggs_11 rfl (fun r153 w154 h152 => ?_)
    obtain ⟨hW155, kq156, zb157, x158⟩ := h152
    have k159 : w154[4]? = some (bA E (a 4) 260 tf) := keeps_at kq156 htf (by first | decide | omega | (dsimp only; omega))
    have kp160 := keeps_tr kp0 kq156 (fun q hq => by first | omega | (dsimp only at *; omega))
    obtain ⟨pl161, nu162, hp163, hp164, mo165, hx166⟩ := x158
    obtain ⟨v167, v168, v169, v170, v171, v172, v173, n174, n175, bo176, bo177, zb178, k179⟩ := mo165
    refine x_if_eq C (tgt := 21) dX12_readsEggs_14 (by decide) rfl (fun c180 => ?_) (fun c180 => ?_)
    · skip
      refine x_iconst C (v := (-1)) dX12_readsEggs_21 (by decide) rfl ?_
      exact x_zret C hr hlk rfl dX12_readsEggs_22 ⟨hW155, kp160, ⟨pl161, nu162, by omega, by omega, ⟨v167, v168, v169, v170, v171, v172, v173, n174, n175, ⟨by omega, by omega, by omega, by omega, by omega, by omega, by omega⟩, ⟨by omega, by omega⟩, zb178, k179⟩, Or.inl rfl⟩⟩
    · skip
      refine x_iconst C (v := 1) dX12_readsEggs_17 (by decide) rfl ?_
      refine x_goto C (tgt := 22) dX12_readsEggs_18 (by decide) ?_
      exact x_zret C hr hlk rfl dX12_readsEggs_22 ⟨hW155, kp160, ⟨pl161, nu162, by omega, by omega, ⟨v167, v168, v169, v170, v171, v172, v173, n174, n175, ⟨by omega, by omega, by omega, by omega, by omega, by omega, by omega⟩, ⟨by omega, by omega⟩, zb178, k179⟩, Or.inr ⟨1, by omega, by omega, rfl⟩⟩⟩
theorem dX12_readsLine_0 : decode cX12_readsLine 0 = .ok (.aload_n 0, 1) := by decide +kernel
theorem dX12_readsLine_1 : decode cX12_readsLine 1 = .ok (.invokevirtual 150, 3) := by decide +kernel
theorem dX12_readsLine_4 : decode cX12_readsLine 4 = .ok (.ifCond .ne 22, 3) := by decide +kernel
theorem dX12_readsLine_7 : decode cX12_readsLine 7 = .ok (.aload_n 0, 1) := by decide +kernel
theorem dX12_readsLine_8 : decode cX12_readsLine 8 = .ok (.invokevirtual 137, 3) := by decide +kernel
theorem dX12_readsLine_11 : decode cX12_readsLine 11 = .ok (.bipush 40, 2) := by decide +kernel
theorem dX12_readsLine_13 : decode cX12_readsLine 13 = .ok (.if_icmp .eq 13, 3) := by decide +kernel
theorem dX12_readsLine_16 : decode cX12_readsLine 16 = .ok (.aload_n 0, 1) := by decide +kernel
theorem dX12_readsLine_17 : decode cX12_readsLine 17 = .ok (.iconst 1, 1) := by decide +kernel
theorem dX12_readsLine_18 : decode cX12_readsLine 18 = .ok (.aload_n 0, 1) := by decide +kernel
theorem dX12_readsLine_19 : decode cX12_readsLine 19 = .ok (.getfield 131, 3) := by decide +kernel
theorem dX12_readsLine_22 : decode cX12_readsLine 22 = .ok (.invokevirtual 144, 3) := by decide +kernel
theorem dX12_readsLine_25 : decode cX12_readsLine 25 = .ok (.ireturn, 1) := by decide +kernel
theorem dX12_readsLine_26 : decode cX12_readsLine 26 = .ok (.aload_n 0, 1) := by decide +kernel
theorem dX12_readsLine_27 : decode cX12_readsLine 27 = .ok (.getfield 247, 3) := by decide +kernel
theorem dX12_readsLine_30 : decode cX12_readsLine 30 = .ok (.bipush 24, 2) := by decide +kernel
theorem dX12_readsLine_32 : decode cX12_readsLine 32 = .ok (.if_icmp .ne 13, 3) := by decide +kernel
theorem dX12_readsLine_35 : decode cX12_readsLine 35 = .ok (.aload_n 0, 1) := by decide +kernel
theorem dX12_readsLine_36 : decode cX12_readsLine 36 = .ok (.iconst 4, 1) := by decide +kernel
theorem dX12_readsLine_37 : decode cX12_readsLine 37 = .ok (.aload_n 0, 1) := by decide +kernel
theorem dX12_readsLine_38 : decode cX12_readsLine 38 = .ok (.getfield 131, 3) := by decide +kernel
theorem dX12_readsLine_41 : decode cX12_readsLine 41 = .ok (.invokevirtual 144, 3) := by decide +kernel
theorem dX12_readsLine_44 : decode cX12_readsLine 44 = .ok (.ireturn, 1) := by decide +kernel
theorem dX12_readsLine_45 : decode cX12_readsLine 45 = .ok (.aload_n 0, 1) := by decide +kernel
theorem dX12_readsLine_46 : decode cX12_readsLine 46 = .ok (.invokevirtual 256, 3) := by decide +kernel
theorem dX12_readsLine_49 : decode cX12_readsLine 49 = .ok (.istore_n 1, 1) := by decide +kernel
theorem dX12_readsLine_50 : decode cX12_readsLine 50 = .ok (.iload_n 1, 1) := by decide +kernel
theorem dX12_readsLine_51 : decode cX12_readsLine 51 = .ok (.iconst (-1), 1) := by decide +kernel
theorem dX12_readsLine_52 : decode cX12_readsLine 52 = .ok (.if_icmp .ne 5, 3) := by decide +kernel
theorem dX12_readsLine_55 : decode cX12_readsLine 55 = .ok (.iconst 0, 1) := by decide +kernel
theorem dX12_readsLine_56 : decode cX12_readsLine 56 = .ok (.ireturn, 1) := by decide +kernel
theorem dX12_readsLine_57 : decode cX12_readsLine 57 = .ok (.aload_n 0, 1) := by decide +kernel
theorem dX12_readsLine_58 : decode cX12_readsLine 58 = .ok (.invokevirtual 137, 3) := by decide +kernel
theorem dX12_readsLine_61 : decode cX12_readsLine 61 = .ok (.istore_n 2, 1) := by decide +kernel
theorem dX12_readsLine_62 : decode cX12_readsLine 62 = .ok (.iload_n 2, 1) := by decide +kernel
theorem dX12_readsLine_63 : decode cX12_readsLine 63 = .ok (.bipush 62, 2) := by decide +kernel
theorem dX12_readsLine_65 : decode cX12_readsLine 65 = .ok (.if_icmp .eq 31, 3) := by decide +kernel
theorem dX12_readsLine_68 : decode cX12_readsLine 68 = .ok (.iload_n 2, 1) := by decide +kernel
theorem dX12_readsLine_69 : decode cX12_readsLine 69 = .ok (.bipush 33, 2) := by decide +kernel
theorem dX12_readsLine_71 : decode cX12_readsLine 71 = .ok (.if_icmp .eq 25, 3) := by decide +kernel
theorem dX12_readsLine_74 : decode cX12_readsLine 74 = .ok (.iload_n 2, 1) := by decide +kernel
theorem dX12_readsLine_75 : decode cX12_readsLine 75 = .ok (.bipush 46, 2) := by decide +kernel
theorem dX12_readsLine_77 : decode cX12_readsLine 77 = .ok (.if_icmp .eq 19, 3) := by decide +kernel
theorem dX12_readsLine_80 : decode cX12_readsLine 80 = .ok (.iload_n 2, 1) := by decide +kernel
theorem dX12_readsLine_81 : decode cX12_readsLine 81 = .ok (.bipush 42, 2) := by decide +kernel
theorem dX12_readsLine_83 : decode cX12_readsLine 83 = .ok (.if_icmp .eq 13, 3) := by decide +kernel
theorem dX12_readsLine_86 : decode cX12_readsLine 86 = .ok (.aload_n 0, 1) := by decide +kernel
theorem dX12_readsLine_87 : decode cX12_readsLine 87 = .ok (.iconst 1, 1) := by decide +kernel
theorem dX12_readsLine_88 : decode cX12_readsLine 88 = .ok (.aload_n 0, 1) := by decide +kernel
theorem dX12_readsLine_89 : decode cX12_readsLine 89 = .ok (.getfield 131, 3) := by decide +kernel
theorem dX12_readsLine_92 : decode cX12_readsLine 92 = .ok (.invokevirtual 144, 3) := by decide +kernel
theorem dX12_readsLine_95 : decode cX12_readsLine 95 = .ok (.ireturn, 1) := by decide +kernel
theorem dX12_readsLine_96 : decode cX12_readsLine 96 = .ok (.aload_n 0, 1) := by decide +kernel
theorem dX12_readsLine_97 : decode cX12_readsLine 97 = .ok (.aload_n 0, 1) := by decide +kernel
theorem dX12_readsLine_98 : decode cX12_readsLine 98 = .ok (.getfield 131, 3) := by decide +kernel
theorem dX12_readsLine_101 : decode cX12_readsLine 101 = .ok (.iconst 1, 1) := by decide +kernel
theorem dX12_readsLine_102 : decode cX12_readsLine 102 = .ok (.iadd, 1) := by decide +kernel
theorem dX12_readsLine_103 : decode cX12_readsLine 103 = .ok (.putfield 131, 3) := by decide +kernel
theorem dX12_readsLine_106 : decode cX12_readsLine 106 = .ok (.aload_n 0, 1) := by decide +kernel
theorem dX12_readsLine_107 : decode cX12_readsLine 107 = .ok (.getfield 65, 3) := by decide +kernel
theorem dX12_readsLine_110 : decode cX12_readsLine 110 = .ok (.aload_n 0, 1) := by decide +kernel
theorem dX12_readsLine_111 : decode cX12_readsLine 111 = .ok (.getfield 247, 3) := by decide +kernel
theorem dX12_readsLine_114 : decode cX12_readsLine 114 = .ok (.iload_n 2, 1) := by decide +kernel
theorem dX12_readsLine_115 : decode cX12_readsLine 115 = .ok (.iastore, 1) := by decide +kernel
theorem dX12_readsLine_116 : decode cX12_readsLine 116 = .ok (.aload_n 0, 1) := by decide +kernel
theorem dX12_readsLine_117 : decode cX12_readsLine 117 = .ok (.getfield 68, 3) := by decide +kernel
theorem dX12_readsLine_120 : decode cX12_readsLine 120 = .ok (.aload_n 0, 1) := by decide +kernel
theorem dX12_readsLine_121 : decode cX12_readsLine 121 = .ok (.getfield 247, 3) := by decide +kernel
theorem dX12_readsLine_124 : decode cX12_readsLine 124 = .ok (.iconst 0, 1) := by decide +kernel
theorem dX12_readsLine_125 : decode cX12_readsLine 125 = .ok (.iastore, 1) := by decide +kernel
theorem dX12_readsLine_126 : decode cX12_readsLine 126 = .ok (.iload_n 2, 1) := by decide +kernel
theorem dX12_readsLine_127 : decode cX12_readsLine 127 = .ok (.bipush 62, 2) := by decide +kernel
theorem dX12_readsLine_129 : decode cX12_readsLine 129 = .ok (.if_icmp .eq 9, 3) := by decide +kernel
theorem dX12_readsLine_132 : decode cX12_readsLine 132 = .ok (.iload_n 2, 1) := by decide +kernel
theorem dX12_readsLine_133 : decode cX12_readsLine 133 = .ok (.bipush 33, 2) := by decide +kernel
theorem dX12_readsLine_135 : decode cX12_readsLine 135 = .ok (.if_icmp .ne 65, 3) := by decide +kernel
theorem dX12_readsLine_138 : decode cX12_readsLine 138 = .ok (.aload_n 0, 1) := by decide +kernel
theorem dX12_readsLine_139 : decode cX12_readsLine 139 = .ok (.invokevirtual 150, 3) := by decide +kernel
theorem dX12_readsLine_142 : decode cX12_readsLine 142 = .ok (.ifCond .ne 13, 3) := by decide +kernel
theorem dX12_readsLine_145 : decode cX12_readsLine 145 = .ok (.aload_n 0, 1) := by decide +kernel
theorem dX12_readsLine_146 : decode cX12_readsLine 146 = .ok (.iconst 1, 1) := by decide +kernel
theorem dX12_readsLine_147 : decode cX12_readsLine 147 = .ok (.aload_n 0, 1) := by decide +kernel
theorem dX12_readsLine_148 : decode cX12_readsLine 148 = .ok (.getfield 131, 3) := by decide +kernel
theorem dX12_readsLine_151 : decode cX12_readsLine 151 = .ok (.invokevirtual 144, 3) := by decide +kernel
theorem dX12_readsLine_154 : decode cX12_readsLine 154 = .ok (.ireturn, 1) := by decide +kernel
theorem dX12_readsLine_155 : decode cX12_readsLine 155 = .ok (.aload_n 0, 1) := by decide +kernel
theorem dX12_readsLine_156 : decode cX12_readsLine 156 = .ok (.invokevirtual 137, 3) := by decide +kernel
theorem dX12_readsLine_159 : decode cX12_readsLine 159 = .ok (.bipush 55, 2) := by decide +kernel
theorem dX12_readsLine_161 : decode cX12_readsLine 161 = .ok (.if_icmp .le 13, 3) := by decide +kernel
theorem dX12_readsLine_164 : decode cX12_readsLine 164 = .ok (.aload_n 0, 1) := by decide +kernel
theorem dX12_readsLine_165 : decode cX12_readsLine 165 = .ok (.iconst 3, 1) := by decide +kernel
theorem dX12_readsLine_166 : decode cX12_readsLine 166 = .ok (.aload_n 0, 1) := by decide +kernel
theorem dX12_readsLine_167 : decode cX12_readsLine 167 = .ok (.getfield 131, 3) := by decide +kernel
theorem dX12_readsLine_170 : decode cX12_readsLine 170 = .ok (.invokevirtual 144, 3) := by decide +kernel
theorem dX12_readsLine_173 : decode cX12_readsLine 173 = .ok (.ireturn, 1) := by decide +kernel
theorem dX12_readsLine_174 : decode cX12_readsLine 174 = .ok (.aload_n 0, 1) := by decide +kernel
theorem dX12_readsLine_175 : decode cX12_readsLine 175 = .ok (.getfield 68, 3) := by decide +kernel
theorem dX12_readsLine_178 : decode cX12_readsLine 178 = .ok (.aload_n 0, 1) := by decide +kernel
theorem dX12_readsLine_179 : decode cX12_readsLine 179 = .ok (.getfield 247, 3) := by decide +kernel
theorem dX12_readsLine_182 : decode cX12_readsLine 182 = .ok (.aload_n 0, 1) := by decide +kernel
theorem dX12_readsLine_183 : decode cX12_readsLine 183 = .ok (.invokevirtual 137, 3) := by decide +kernel
theorem dX12_readsLine_186 : decode cX12_readsLine 186 = .ok (.bipush 48, 2) := by decide +kernel
theorem dX12_readsLine_188 : decode cX12_readsLine 188 = .ok (.isub, 1) := by decide +kernel
theorem dX12_readsLine_189 : decode cX12_readsLine 189 = .ok (.iastore, 1) := by decide +kernel
theorem dX12_readsLine_190 : decode cX12_readsLine 190 = .ok (.aload_n 0, 1) := by decide +kernel
theorem dX12_readsLine_191 : decode cX12_readsLine 191 = .ok (.aload_n 0, 1) := by decide +kernel
theorem dX12_readsLine_192 : decode cX12_readsLine 192 = .ok (.getfield 131, 3) := by decide +kernel
theorem dX12_readsLine_195 : decode cX12_readsLine 195 = .ok (.iconst 1, 1) := by decide +kernel
theorem dX12_readsLine_196 : decode cX12_readsLine 196 = .ok (.iadd, 1) := by decide +kernel
theorem dX12_readsLine_197 : decode cX12_readsLine 197 = .ok (.putfield 131, 3) := by decide +kernel
theorem dX12_readsLine_200 : decode cX12_readsLine 200 = .ok (.aload_n 0, 1) := by decide +kernel
theorem dX12_readsLine_201 : decode cX12_readsLine 201 = .ok (.getfield 62, 3) := by decide +kernel
theorem dX12_readsLine_204 : decode cX12_readsLine 204 = .ok (.aload_n 0, 1) := by decide +kernel
theorem dX12_readsLine_205 : decode cX12_readsLine 205 = .ok (.getfield 247, 3) := by decide +kernel
theorem dX12_readsLine_208 : decode cX12_readsLine 208 = .ok (.iconst 1, 1) := by decide +kernel
theorem dX12_readsLine_209 : decode cX12_readsLine 209 = .ok (.iadd, 1) := by decide +kernel
theorem dX12_readsLine_210 : decode cX12_readsLine 210 = .ok (.aload_n 0, 1) := by decide +kernel
theorem dX12_readsLine_211 : decode cX12_readsLine 211 = .ok (.getfield 62, 3) := by decide +kernel
theorem dX12_readsLine_214 : decode cX12_readsLine 214 = .ok (.aload_n 0, 1) := by decide +kernel
theorem dX12_readsLine_215 : decode cX12_readsLine 215 = .ok (.getfield 247, 3) := by decide +kernel
theorem dX12_readsLine_218 : decode cX12_readsLine 218 = .ok (.iaload, 1) := by decide +kernel
theorem dX12_readsLine_219 : decode cX12_readsLine 219 = .ok (.iload_n 1, 1) := by decide +kernel
theorem dX12_readsLine_220 : decode cX12_readsLine 220 = .ok (.iadd, 1) := by decide +kernel
theorem dX12_readsLine_221 : decode cX12_readsLine 221 = .ok (.iastore, 1) := by decide +kernel
theorem dX12_readsLine_222 : decode cX12_readsLine 222 = .ok (.aload_n 0, 1) := by decide +kernel
theorem dX12_readsLine_223 : decode cX12_readsLine 223 = .ok (.aload_n 0, 1) := by decide +kernel
theorem dX12_readsLine_224 : decode cX12_readsLine 224 = .ok (.getfield 247, 3) := by decide +kernel
theorem dX12_readsLine_227 : decode cX12_readsLine 227 = .ok (.iconst 1, 1) := by decide +kernel
theorem dX12_readsLine_228 : decode cX12_readsLine 228 = .ok (.iadd, 1) := by decide +kernel
theorem dX12_readsLine_229 : decode cX12_readsLine 229 = .ok (.putfield 247, 3) := by decide +kernel
theorem dX12_readsLine_232 : decode cX12_readsLine 232 = .ok (.iconst 1, 1) := by decide +kernel
theorem dX12_readsLine_233 : decode cX12_readsLine 233 = .ok (.ireturn, 1) := by decide +kernel
set_option maxRecDepth 20000 in
set_option maxHeartbeats 4000000 in
theorem m_readsLine (E : xE) (l : Launch) (a : Nat → Nat) (cd : Cd) (hG : Good cd) (ws : va_W) (hW : WX (okM E a cd) ws) (tp pl le cm wt sm lm : Nat) (nu : Int32) (h0 : MO a cd ws tp pl le cm wt sm lm nu) (tf : Nat → Int32) (htf : ws[4]? = some (bA E (a 4) 260 tf)) (hpl : pl ≤ le) : xI E l yX12_readsLine cX12_readsLine 3 (some .boolean) 4 [.ref (a 0)] ws (fun r w => WX (okM E a cd) w ∧ keeps ws w (fun q => q = 0 ∨ q = 18 ∨ q = 19 ∨ q = 20 ∨ q = 21) ∧ zb r ∧ (∃ (pl2 lm2 : Nat) (nu2 : Int32), pl ≤ pl2 ∧ pl2 ≤ le ∧ lm2 ≤ 24 ∧ MO a cd w tp pl2 le cm wt sm lm2 nu2)) := by
  refine xI_start (lv := [(0, .ref (a 0))]) RX12 (by decide) rfl (Nat.le_of_ble_eq_true rfl) rfl (fun p e s m below meth c A C hr hlk => ?_)
  have kp0 : keeps ws ws (fun q => q = 0 ∨ q = 18 ∨ q = 19 ∨ q = 20 ∨ q = 21) := keeps_rf
  obtain ⟨v1, v2, v3, v4, v5, v6, v7, n8, n9, bo10, bo11, zb12, k13⟩ := h0
  refine x_aload_n C dX12_readsLine_0 rfl 0 rfl rfl ?_
  refine x_vi C (As := []) (rest := []) (m_isDigit E l a cd hG ws hW tp pl le cm wt sm lm nu ⟨v1, v2, v3, v4, v5, v6, v7, n8, n9, ⟨by omega, by omega, by omega, by omega, by omega, by omega, by omega⟩, ⟨by omega, by omega⟩, zb12, k13⟩ tf htf) mf_X12_isDigit w_1341 0 k13 rfl rfl rfl (Nat.le_of_ble_eq_true rfl) ⟨(Nat.le_of_ble_eq_true rfl), (Nat.le_of_ble_eq_true rfl)⟩ ⟨(Nat.le_of_ble_eq_true rfl), (Nat.le_of_ble_eq_true rfl)⟩ dX12_readsLine_1 rfl (fun r15 w16 h14 => ?_)
  obtain ⟨hW17, zb18, x19⟩ := h14
  refine x_ws hW17 ?_
  refine x_if_ne C (tgt := 26) dX12_readsLine_4 (by decide) rfl (fun c20 => ?_) (fun c20 => ?_)
  · skip
    obtain ⟨d21, hd22, ed23, hp24⟩ := x19 c20
    refine x_aload_n C dX12_readsLine_26 rfl 0 rfl rfl ?_
    refine x_get C (ci := 11) (k := 27) 0 k13 rfl in_X12 (by decide) w_1145 rfl dX12_readsLine_27 rfl ?_
    refine x_bipush C (v := 24) dX12_readsLine_30 (by decide) rfl ?_
    refine x_icmp_ne C (tgt := 45) dX12_readsLine_32 (by decide) rfl (fun c25 => ?_) (fun c25 => ?_)
    · skip
      have nf26 : ¬ lm = 24 := fun q => c25 (congrArg nI q)
      refine x_aload_n C dX12_readsLine_45 rfl 0 rfl rfl ?_
      refine x_vi C (As := []) (rest := []) (m_readsEggs E l a cd hG ws hW tp pl le cm wt sm lm nu ⟨v1, v2, v3, v4, v5, v6, v7, n8, n9, ⟨by omega, by omega, by omega, by omega, by omega, by omega, by omega⟩, ⟨by omega, by omega⟩, zb12, k13⟩ tf htf (by omega) (by omega)) mf_X12_readsEggs w_1407 0 k13 rfl rfl rfl (Nat.le_of_ble_eq_true rfl) ⟨(Nat.le_of_ble_eq_true rfl), (Nat.le_of_ble_eq_true rfl)⟩ ⟨(Nat.le_of_ble_eq_true rfl), (Nat.le_of_ble_eq_true rfl)⟩ dX12_readsLine_46 rfl (fun r28 w29 h27 => ?_)
      obtain ⟨hW30, kq31, x32⟩ := h27
      have k33 : w29[4]? = some (bA E (a 4) 260 tf) := keeps_at kq31 htf (by first | decide | omega | (dsimp only; omega))
      have kp34 := keeps_tr kp0 kq31 (fun q hq => by first | omega | (dsimp only at *; omega))
      obtain ⟨pl35, nu36, hp37, hp38, mo39, hx40⟩ := x32
      obtain ⟨v41, v42, v43, v44, v45, v46, v47, n48, n49, bo50, bo51, zb52, k53⟩ := mo39
      rcases hx40 with e54 | ⟨mm55, h56, h57, en58⟩
      · refine x_top e54 ?_
        refine x_istore_n C (lv' := [(1, .int (-1)), (0, .ref (a 0))]) dX12_readsLine_49 rfl (by decide) rfl rfl ?_
        refine x_iload_n C dX12_readsLine_50 rfl 0 rfl rfl ?_
        refine x_iconst C (v := (-1)) dX12_readsLine_51 (by decide) rfl ?_
        refine x_icmp_ne C (tgt := 57) dX12_readsLine_52 (by decide) rfl (fun h => absurd h (by decide)) (fun _ => ?_)
        refine x_iconst C (v := 0) dX12_readsLine_55 (by decide) rfl ?_
        exact x_zret C hr hlk rfl dX12_readsLine_56 ⟨hW30, kp34, (Or.inl rfl), ⟨pl35, lm, nu36, by omega, by omega, by omega, ⟨v41, v42, v43, v44, v45, v46, v47, n48, n49, ⟨by omega, by omega, by omega, by omega, by omega, by omega, by omega⟩, ⟨by omega, by omega⟩, zb52, k53⟩⟩⟩
      · refine x_top en58 ?_
        refine x_istore_n C (lv' := [(1, .int (nI mm55)), (0, .ref (a 0))]) dX12_readsLine_49 rfl (by decide) rfl rfl ?_
        refine x_iload_n C dX12_readsLine_50 rfl 0 rfl rfl ?_
        refine x_iconst C (v := (-1)) dX12_readsLine_51 (by decide) rfl ?_
        refine x_icmp_ne C (tgt := 57) dX12_readsLine_52 (by decide) rfl (fun c59 => ?_) (fun c59 => ?_)
        · skip
          refine x_aload_n C dX12_readsLine_57 rfl 1 rfl rfl ?_
          refine x_vi C (As := []) (rest := []) (m_here E l a cd hG w29 hW30 tp pl35 le cm wt sm lm nu36 ⟨v41, v42, v43, v44, v45, v46, v47, n48, n49, ⟨by omega, by omega, by omega, by omega, by omega, by omega, by omega⟩, ⟨by omega, by omega⟩, zb52, k53⟩ tf k33) mf_X12_here w_1317 0 k53 rfl rfl rfl (Nat.le_of_ble_eq_true rfl) ⟨(Nat.le_of_ble_eq_true rfl), (Nat.le_of_ble_eq_true rfl)⟩ ⟨(Nat.le_of_ble_eq_true rfl), (Nat.le_of_ble_eq_true rfl)⟩ dX12_readsLine_58 rfl (fun r61 w62 h60 => ?_)
          obtain ⟨hW63, x64⟩ := h60
          refine x_ws hW63 ?_
          refine x_istore_n C (lv' := [(2, .int r61), (1, .int (nI mm55)), (0, .ref (a 0))]) dX12_readsLine_61 rfl (by decide) rfl rfl ?_
          refine x_iload_n C dX12_readsLine_62 rfl 0 rfl rfl ?_
          refine x_bipush C (v := 62) dX12_readsLine_63 (by decide) rfl ?_
          refine x_icmp_eq C (tgt := 96) dX12_readsLine_65 (by decide) rfl (fun c65 => ?_) (fun c65 => ?_)
          · skip
            have hp66 := hv_lt (x64.symm.trans c65) (by decide)
            refine x_aload_n C dX12_readsLine_96 rfl 2 rfl rfl ?_
            refine x_aload_n C dX12_readsLine_97 rfl 2 rfl rfl ?_
            refine x_get C (ci := 11) (k := 5) 0 k53 rfl in_X12 (by decide) w_1123 rfl dX12_readsLine_98 rfl ?_
            refine x_iconst C (v := 1) dX12_readsLine_101 (by decide) rfl ?_
            refine x_iadd C (v := (nI (pl35 + 1))) dX12_readsLine_102 (nI_add pl35 1) rfl ?_
            obtain ⟨w67, hw68⟩ : ∃ w : va_W, w = List.set w29 0 (ob (a 0) 11 [.ref (a 1), .ref (a 2), .ref (a 3), .ref (a 4), .int (nI tp), .int (nI (pl35 + 1)), .int (nI le), .int v41, .int nu36, .int v42, .int (nI cm), .int (nI wt), .int (nI sm), .int (nI (cd.2.2.2.2.2)), .ref (a 5), .ref (a 6), .ref (a 7), .ref (a 8), .ref (a 9), .ref (a 10), .ref (a 11), .ref (a 12), .ref (a 13), .ref (a 14), .ref (a 15), .ref (a 16), .ref (a 17), .int (nI lm), .ref (a 18), .ref (a 19), .ref (a 20), .ref (a 21), .int v43, .int v44, .int v45, .int v46, .int (nI n48), .int (nI n49), .ref (a 22), .ref (a 23), .ref (a 24), .ref (a 25), .ref (a 26), .ref (a 27), .ref (a 28), .ref (a 29), .ref (a 30), .int v47]) := ⟨_, rfl⟩
            refine x_put C (ci := 11) (k := 5) (ty := .int) 0 k53 rfl in_X12 tyX12 tyX12_ok nmX12 (by decide) w_1123 rfl rfl rfl rfl (Nat.le_of_ble_eq_true rfl) hw68.symm dX12_readsLine_103 rfl ?_
            have hW69 : WX (okM E a cd) w67 := by rw [hw68]; exact hW30.set (k := 0) rfl ⟨tp, (pl35 + 1), le, v41, nu36, v42, cm, wt, sm, lm, v43, v44, v45, v46, n48, n49, v47, by omega, by omega, by omega, by omega, by omega, by omega, by omega, by omega, by omega, zb52, rfl⟩
            have k70 : w67[4]? = some (bA E (a 4) 260 tf) := by rw [hw68]; exact set_ne k33 (by decide)
            have k71 : w67[0]? = some (ob (a 0) 11 [.ref (a 1), .ref (a 2), .ref (a 3), .ref (a 4), .int (nI tp), .int (nI (pl35 + 1)), .int (nI le), .int v41, .int nu36, .int v42, .int (nI cm), .int (nI wt), .int (nI sm), .int (nI (cd.2.2.2.2.2)), .ref (a 5), .ref (a 6), .ref (a 7), .ref (a 8), .ref (a 9), .ref (a 10), .ref (a 11), .ref (a 12), .ref (a 13), .ref (a 14), .ref (a 15), .ref (a 16), .ref (a 17), .int (nI lm), .ref (a 18), .ref (a 19), .ref (a 20), .ref (a 21), .int v43, .int v44, .int v45, .int v46, .int (nI n48), .int (nI n49), .ref (a 22), .ref (a 23), .ref (a 24), .ref (a 25), .ref (a 26), .ref (a 27), .ref (a 28), .ref (a 29), .ref (a 30), .int v47]) := by rw [hw68]; exact set_eq k53
            have kp72 := keeps_set kp34 hw68 (by first | exact rfl | decide | omega | (dsimp only; omega))
            refine x_aload_n C dX12_readsLine_106 rfl 2 rfl rfl ?_
            refine x_get C (ci := 11) (k := 29) 0 k71 rfl in_X12 (by decide) w_1147 rfl dX12_readsLine_107 rfl ?_
            refine x_aload_n C dX12_readsLine_110 rfl 2 rfl rfl ?_
            refine x_get C (ci := 11) (k := 27) 0 k71 rfl in_X12 (by decide) w_1145 rfl dX12_readsLine_111 rfl ?_
            refine x_iload_n C dX12_readsLine_114 rfl 0 rfl rfl ?_
            obtain ⟨_, k73, f74, rfl⟩ := hW69 19 _ rfl
            obtain ⟨w75, hw76⟩ : ∃ w : va_W, w = List.set w67 19 (iA E (a 19) 24 (upd f74 (nI lm).toNatClampNeg r61)) := ⟨_, rfl⟩
            refine x_iast C 19 k73 (vp_in_nI (by omega) (by decide)) hw76.symm dX12_readsLine_115 rfl ?_
            have hW77 : WX (okM E a cd) w75 := by rw [hw76]; exact hW69.set (k := 19) rfl ⟨_, rfl⟩
            have k78 : w75[4]? = some (bA E (a 4) 260 tf) := by rw [hw76]; exact set_ne k70 (by decide)
            have k79 : w75[0]? = some (ob (a 0) 11 [.ref (a 1), .ref (a 2), .ref (a 3), .ref (a 4), .int (nI tp), .int (nI (pl35 + 1)), .int (nI le), .int v41, .int nu36, .int v42, .int (nI cm), .int (nI wt), .int (nI sm), .int (nI (cd.2.2.2.2.2)), .ref (a 5), .ref (a 6), .ref (a 7), .ref (a 8), .ref (a 9), .ref (a 10), .ref (a 11), .ref (a 12), .ref (a 13), .ref (a 14), .ref (a 15), .ref (a 16), .ref (a 17), .int (nI lm), .ref (a 18), .ref (a 19), .ref (a 20), .ref (a 21), .int v43, .int v44, .int v45, .int v46, .int (nI n48), .int (nI n49), .ref (a 22), .ref (a 23), .ref (a 24), .ref (a 25), .ref (a 26), .ref (a 27), .ref (a 28), .ref (a 29), .ref (a 30), .int v47]) := by rw [hw76]; exact set_ne k71 (by decide)
            have k80 : w75[19]? = some (iA E (a 19) 24 (upd f74 (nI lm).toNatClampNeg r61)) := by rw [hw76]; exact set_eq k73
            have kp81 := keeps_set kp72 hw76 (by first | exact rfl | decide | omega | (dsimp only; omega))
            refine x_aload_n C dX12_readsLine_116 rfl 2 rfl rfl ?_
            refine x_get C (ci := 11) (k := 30) 0 k79 rfl in_X12 (by decide) w_1148 rfl dX12_readsLine_117 rfl ?_
            refine x_aload_n C dX12_readsLine_120 rfl 2 rfl rfl ?_
            refine x_get C (ci := 11) (k := 27) 0 k79 rfl in_X12 (by decide) w_1145 rfl dX12_readsLine_121 rfl ?_
            refine x_iconst C (v := 0) dX12_readsLine_124 (by decide) rfl ?_
            obtain ⟨_, k82, g83, gb84, rfl⟩ := hW77 20 _ rfl
            have gb85 := updn_le (i := lm) (v := 0) gb84 (by omega)
            obtain ⟨w86, hw87⟩ : ∃ w : va_W, w = List.set w75 20 (iA E (a 20) 24 (upd (fun j => nI (g83 j)) lm (nI 0))) := ⟨_, rfl⟩
            refine x_iask C lm (nI_clamp (by omega)) (nI_pos (by omega)) (by omega) 20 k82 hw87.symm dX12_readsLine_125 rfl ?_
            have hW88 : WX (okM E a cd) w86 := by rw [hw87]; exact hW77.set (k := 20) rfl ⟨_, gb85, iA_n (upd_nI g83 lm 0)⟩
            have k89 : w86[4]? = some (bA E (a 4) 260 tf) := by rw [hw87]; exact set_ne k78 (by decide)
            have k90 : w86[0]? = some (ob (a 0) 11 [.ref (a 1), .ref (a 2), .ref (a 3), .ref (a 4), .int (nI tp), .int (nI (pl35 + 1)), .int (nI le), .int v41, .int nu36, .int v42, .int (nI cm), .int (nI wt), .int (nI sm), .int (nI (cd.2.2.2.2.2)), .ref (a 5), .ref (a 6), .ref (a 7), .ref (a 8), .ref (a 9), .ref (a 10), .ref (a 11), .ref (a 12), .ref (a 13), .ref (a 14), .ref (a 15), .ref (a 16), .ref (a 17), .int (nI lm), .ref (a 18), .ref (a 19), .ref (a 20), .ref (a 21), .int v43, .int v44, .int v45, .int v46, .int (nI n48), .int (nI n49), .ref (a 22), .ref (a 23), .ref (a 24), .ref (a 25), .ref (a 26), .ref (a 27), .ref (a 28), .ref (a 29), .ref (a 30), .int v47]) := by rw [hw87]; exact set_ne k79 (by decide)
            have k91 : w86[19]? = some (iA E (a 19) 24 (upd f74 (nI lm).toNatClampNeg r61)) := by rw [hw87]; exact set_ne k80 (by decide)
            have k92 : w86[20]? = some (iA E (a 20) 24 (upd (fun j => nI (g83 j)) lm (nI 0))) := by rw [hw87]; exact set_eq k82
            have kp93 := keeps_set kp81 hw87 (by first | exact rfl | decide | omega | (dsimp only; omega))
            have k94 : w86[20]? = some (iA E (a 20) 24 (fun j => nI ((updn g83 lm 0) j))) := by rw [← upd_nI]; exact k92
            refine x_iload_n C dX12_readsLine_126 rfl 0 rfl rfl ?_
            refine x_bipush C (v := 62) dX12_readsLine_127 (by decide) rfl ?_
            refine x_icmp_eq C (tgt := 138) dX12_readsLine_129 (by decide) rfl (fun c95 => ?_) (fun c95 => ?_)
            · skip
              have hp96 := hv_lt (x64.symm.trans c95) (by decide)
              refine x_aload_n C dX12_readsLine_138 rfl 2 rfl rfl ?_
              refine x_vi C (As := []) (rest := []) (m_isDigit E l a cd hG w86 hW88 tp (pl35 + 1) le cm wt sm lm nu36 ⟨v41, v42, v43, v44, v45, v46, v47, n48, n49, ⟨by omega, by omega, by omega, by omega, by omega, by omega, by omega⟩, ⟨by omega, by omega⟩, zb52, k90⟩ tf k89) mf_X12_isDigit w_1341 0 k90 rfl rfl rfl (Nat.le_of_ble_eq_true rfl) ⟨(Nat.le_of_ble_eq_true rfl), (Nat.le_of_ble_eq_true rfl)⟩ ⟨(Nat.le_of_ble_eq_true rfl), (Nat.le_of_ble_eq_true rfl)⟩ dX12_readsLine_139 rfl (fun r98 w99 h97 => ?_)
              obtain ⟨hW100, zb101, x102⟩ := h97
              refine x_ws hW100 ?_
              refine x_if_ne C (tgt := 155) dX12_readsLine_142 (by decide) rfl (fun c103 => ?_) (fun c103 => ?_)
              · skip
                obtain ⟨d104, hd105, ed106, hp107⟩ := x102 c103
                refine x_aload_n C dX12_readsLine_155 rfl 2 rfl rfl ?_
                refine x_vi C (As := []) (rest := []) (m_here E l a cd hG w86 hW88 tp (pl35 + 1) le cm wt sm lm nu36 ⟨v41, v42, v43, v44, v45, v46, v47, n48, n49, ⟨by omega, by omega, by omega, by omega, by omega, by omega, by omega⟩, ⟨by omega, by omega⟩, zb52, k90⟩ tf k89) mf_X12_here w_1317 0 k90 rfl rfl rfl (Nat.le_of_ble_eq_true rfl) ⟨(Nat.le_of_ble_eq_true rfl), (Nat.le_of_ble_eq_true rfl)⟩ ⟨(Nat.le_of_ble_eq_true rfl), (Nat.le_of_ble_eq_true rfl)⟩ dX12_readsLine_156 rfl (fun r109 w110 h108 => ?_)
                obtain ⟨hW111, x112⟩ := h108
                refine x_ws hW111 ?_
                refine x_top (x112.trans ed106) ?_
                refine x_bipush C (v := 55) dX12_readsLine_159 (by decide) rfl ?_
                refine x_icmp_le C (tgt := 174) dX12_readsLine_161 (by decide) rfl (fun c113 => ?_) (fun c113 => ?_)
                · skip
                  have nf114 := nI_le' (a := (48 + d104)) (b := 55) c113 (by omega) (by omega)
                  refine x_aload_n C dX12_readsLine_174 rfl 2 rfl rfl ?_
                  refine x_get C (ci := 11) (k := 30) 0 k90 rfl in_X12 (by decide) w_1148 rfl dX12_readsLine_175 rfl ?_
                  refine x_aload_n C dX12_readsLine_178 rfl 2 rfl rfl ?_
                  refine x_get C (ci := 11) (k := 27) 0 k90 rfl in_X12 (by decide) w_1145 rfl dX12_readsLine_179 rfl ?_
                  refine x_aload_n C dX12_readsLine_182 rfl 2 rfl rfl ?_
                  refine x_vi C (As := []) (rest := [.int (nI lm), .ref (a 20)]) (m_here E l a cd hG w86 hW88 tp (pl35 + 1) le cm wt sm lm nu36 ⟨v41, v42, v43, v44, v45, v46, v47, n48, n49, ⟨by omega, by omega, by omega, by omega, by omega, by omega, by omega⟩, ⟨by omega, by omega⟩, zb52, k90⟩ tf k89) mf_X12_here w_1317 0 k90 rfl rfl rfl (Nat.le_of_ble_eq_true rfl) ⟨(Nat.le_of_ble_eq_true rfl), (Nat.le_of_ble_eq_true rfl)⟩ ⟨(Nat.le_of_ble_eq_true rfl), (Nat.le_of_ble_eq_true rfl)⟩ dX12_readsLine_183 rfl (fun r116 w117 h115 => ?_)
                  obtain ⟨hW118, x119⟩ := h115
                  refine x_ws hW118 ?_
                  refine x_top (x119.trans ed106) ?_
                  refine x_bipush C (v := 48) dX12_readsLine_186 (by decide) rfl ?_
                  refine x_isub C (v := (nI ((48 + d104) - 48))) dX12_readsLine_188 (pk_sub (a := (48 + d104)) (b := 48) (by omega)) rfl ?_
                  have gb120 := updn_le (i := lm) (v := ((48 + d104) - 48)) gb85 (by omega)
                  obtain ⟨w121, hw122⟩ : ∃ w : va_W, w = List.set w86 20 (iA E (a 20) 24 (upd (fun j => nI ((updn g83 lm 0) j)) lm (nI ((48 + d104) - 48)))) := ⟨_, rfl⟩
                  refine x_iask C lm (nI_clamp (by omega)) (nI_pos (by omega)) (by omega) 20 k94 hw122.symm dX12_readsLine_189 rfl ?_
                  have hW123 : WX (okM E a cd) w121 := by rw [hw122]; exact hW88.set (k := 20) rfl ⟨_, gb120, iA_n (upd_nI (updn g83 lm 0) lm ((48 + d104) - 48))⟩
                  have k124 : w121[4]? = some (bA E (a 4) 260 tf) := by rw [hw122]; exact set_ne k89 (by decide)
                  have k125 : w121[0]? = some (ob (a 0) 11 [.ref (a 1), .ref (a 2), .ref (a 3), .ref (a 4), .int (nI tp), .int (nI (pl35 + 1)), .int (nI le), .int v41, .int nu36, .int v42, .int (nI cm), .int (nI wt), .int (nI sm), .int (nI (cd.2.2.2.2.2)), .ref (a 5), .ref (a 6), .ref (a 7), .ref (a 8), .ref (a 9), .ref (a 10), .ref (a 11), .ref (a 12), .ref (a 13), .ref (a 14), .ref (a 15), .ref (a 16), .ref (a 17), .int (nI lm), .ref (a 18), .ref (a 19), .ref (a 20), .ref (a 21), .int v43, .int v44, .int v45, .int v46, .int (nI n48), .int (nI n49), .ref (a 22), .ref (a 23), .ref (a 24), .ref (a 25), .ref (a 26), .ref (a 27), .ref (a 28), .ref (a 29), .ref (a 30), .int v47]) := by rw [hw122]; exact set_ne k90 (by decide)
                  have k126 : w121[19]? = some (iA E (a 19) 24 (upd f74 (nI lm).toNatClampNeg r61)) := by rw [hw122]; exact set_ne k91 (by decide)
                  have k127 : w121[20]? = some (iA E (a 20) 24 (upd (fun j => nI ((updn g83 lm 0) j)) lm (nI ((48 + d104) - 48)))) := by rw [hw122]; exact set_eq k94
                  have kp128 := keeps_set kp93 hw122 (by first | exact rfl | decide | omega | (dsimp only; omega))
                  have k129 : w121[20]? = some (iA E (a 20) 24 (fun j => nI ((updn (updn g83 lm 0) lm ((48 + d104) - 48)) j))) := by rw [← upd_nI]; exact k127
                  refine x_aload_n C dX12_readsLine_190 rfl 2 rfl rfl ?_
                  refine x_aload_n C dX12_readsLine_191 rfl 2 rfl rfl ?_
                  refine x_get C (ci := 11) (k := 5) 0 k125 rfl in_X12 (by decide) w_1123 rfl dX12_readsLine_192 rfl ?_
                  refine x_iconst C (v := 1) dX12_readsLine_195 (by decide) rfl ?_
                  refine x_iadd C (v := (nI ((pl35 + 1) + 1))) dX12_readsLine_196 (nI_add (pl35 + 1) 1) rfl ?_
                  obtain ⟨w130, hw131⟩ : ∃ w : va_W, w = List.set w121 0 (ob (a 0) 11 [.ref (a 1), .ref (a 2), .ref (a 3), .ref (a 4), .int (nI tp), .int (nI ((pl35 + 1) + 1)), .int (nI le), .int v41, .int nu36, .int v42, .int (nI cm), .int (nI wt), .int (nI sm), .int (nI (cd.2.2.2.2.2)), .ref (a 5), .ref (a 6), .ref (a 7), .ref (a 8), .ref (a 9), .ref (a 10), .ref (a 11), .ref (a 12), .ref (a 13), .ref (a 14), .ref (a 15), .ref (a 16), .ref (a 17), .int (nI lm), .ref (a 18), .ref (a 19), .ref (a 20), .ref (a 21), .int v43, .int v44, .int v45, .int v46, .int (nI n48), .int (nI n49), .ref (a 22), .ref (a 23), .ref (a 24), .ref (a 25), .ref (a 26), .ref (a 27), .ref (a 28), .ref (a 29), .ref (a 30), .int v47]) := ⟨_, rfl⟩
                  refine x_put C (ci := 11) (k := 5) (ty := .int) 0 k125 rfl in_X12 tyX12 tyX12_ok nmX12 (by decide) w_1123 rfl rfl rfl rfl (Nat.le_of_ble_eq_true rfl) hw131.symm dX12_readsLine_197 rfl ?_
                  have hW132 : WX (okM E a cd) w130 := by rw [hw131]; exact hW123.set (k := 0) rfl ⟨tp, ((pl35 + 1) + 1), le, v41, nu36, v42, cm, wt, sm, lm, v43, v44, v45, v46, n48, n49, v47, by omega, by omega, by omega, by omega, by omega, by omega, by omega, by omega, by omega, zb52, rfl⟩
                  have k133 : w130[4]? = some (bA E (a 4) 260 tf) := by rw [hw131]; exact set_ne k124 (by decide)
                  have k134 : w130[0]? = some (ob (a 0) 11 [.ref (a 1), .ref (a 2), .ref (a 3), .ref (a 4), .int (nI tp), .int (nI ((pl35 + 1) + 1)), .int (nI le), .int v41, .int nu36, .int v42, .int (nI cm), .int (nI wt), .int (nI sm), .int (nI (cd.2.2.2.2.2)), .ref (a 5), .ref (a 6), .ref (a 7), .ref (a 8), .ref (a 9), .ref (a 10), .ref (a 11), .ref (a 12), .ref (a 13), .ref (a 14), .ref (a 15), .ref (a 16), .ref (a 17), .int (nI lm), .ref (a 18), .ref (a 19), .ref (a 20), .ref (a 21), .int v43, .int v44, .int v45, .int v46, .int (nI n48), .int (nI n49), .ref (a 22), .ref (a 23), .ref (a 24), .ref (a 25), .ref (a 26), .ref (a 27), .ref (a 28), .ref (a 29), .ref (a 30), .int v47]) := by rw [hw131]; exact set_eq k125
                  have k135 : w130[19]? = some (iA E (a 19) 24 (upd f74 (nI lm).toNatClampNeg r61)) := by rw [hw131]; exact set_ne k126 (by decide)
                  have k136 : w130[20]? = some (iA E (a 20) 24 (fun j => nI ((updn (updn g83 lm 0) lm ((48 + d104) - 48)) j))) := by rw [hw131]; exact set_ne k129 (by decide)
                  have kp137 := keeps_set kp128 hw131 (by first | exact rfl | decide | omega | (dsimp only; omega))
                  refine x_aload_n C dX12_readsLine_200 rfl 2 rfl rfl ?_
                  refine x_get C (ci := 11) (k := 28) 0 k134 rfl in_X12 (by decide) w_1146 rfl dX12_readsLine_201 rfl ?_
                  refine x_aload_n C dX12_readsLine_204 rfl 2 rfl rfl ?_
                  refine x_get C (ci := 11) (k := 27) 0 k134 rfl in_X12 (by decide) w_1145 rfl dX12_readsLine_205 rfl ?_
                  refine x_iconst C (v := 1) dX12_readsLine_208 (by decide) rfl ?_
                  refine x_iadd C (v := (nI (lm + 1))) dX12_readsLine_209 (nI_add lm 1) rfl ?_
                  refine x_aload_n C dX12_readsLine_210 rfl 2 rfl rfl ?_
                  refine x_get C (ci := 11) (k := 28) 0 k134 rfl in_X12 (by decide) w_1146 rfl dX12_readsLine_211 rfl ?_
                  refine x_aload_n C dX12_readsLine_214 rfl 2 rfl rfl ?_
                  refine x_get C (ci := 11) (k := 27) 0 k134 rfl in_X12 (by decide) w_1145 rfl dX12_readsLine_215 rfl ?_
                  obtain ⟨_, k138, g139, gb140, rfl⟩ := hW132 18 _ rfl
                  refine x_ialk C (v := nI (g139 lm)) lm (nI_clamp (by omega)) (nI_pos (by omega)) (by omega) 18 k138 rfl dX12_readsLine_218 rfl ?_
                  have bx141 := gb140 lm
                  refine x_iload_n C dX12_readsLine_219 rfl 1 rfl rfl ?_
                  refine x_iadd C (v := (nI ((g139 lm) + mm55))) dX12_readsLine_220 (nI_add (g139 lm) mm55) rfl ?_
                  have gb142 := updn_leF (i := (lm + 1)) (v := ((g139 lm) + mm55)) gb140 (by omega)
                  obtain ⟨w143, hw144⟩ : ∃ w : va_W, w = List.set w130 18 (iA E (a 18) 25 (upd (fun j => nI (g139 j)) (lm + 1) (nI ((g139 lm) + mm55)))) := ⟨_, rfl⟩
                  refine x_iask C (lm + 1) (nI_clamp (by omega)) (nI_pos (by omega)) (by omega) 18 k138 hw144.symm dX12_readsLine_221 rfl ?_
                  have hW145 : WX (okM E a cd) w143 := by rw [hw144]; exact hW132.set (k := 18) rfl ⟨_, gb142, iA_n (upd_nI g139 (lm + 1) ((g139 lm) + mm55))⟩
                  have k146 : w143[4]? = some (bA E (a 4) 260 tf) := by rw [hw144]; exact set_ne k133 (by decide)
                  have k147 : w143[0]? = some (ob (a 0) 11 [.ref (a 1), .ref (a 2), .ref (a 3), .ref (a 4), .int (nI tp), .int (nI ((pl35 + 1) + 1)), .int (nI le), .int v41, .int nu36, .int v42, .int (nI cm), .int (nI wt), .int (nI sm), .int (nI (cd.2.2.2.2.2)), .ref (a 5), .ref (a 6), .ref (a 7), .ref (a 8), .ref (a 9), .ref (a 10), .ref (a 11), .ref (a 12), .ref (a 13), .ref (a 14), .ref (a 15), .ref (a 16), .ref (a 17), .int (nI lm), .ref (a 18), .ref (a 19), .ref (a 20), .ref (a 21), .int v43, .int v44, .int v45, .int v46, .int (nI n48), .int (nI n49), .ref (a 22), .ref (a 23), .ref (a 24), .ref (a 25), .ref (a 26), .ref (a 27), .ref (a 28), .ref (a 29), .ref (a 30), .int v47]) := by rw [hw144]; exact set_ne k134 (by decide)
                  have k148 : w143[19]? = some (iA E (a 19) 24 (upd f74 (nI lm).toNatClampNeg r61)) := by rw [hw144]; exact set_ne k135 (by decide)
                  have k149 : w143[20]? = some (iA E (a 20) 24 (fun j => nI ((updn (updn g83 lm 0) lm ((48 + d104) - 48)) j))) := by rw [hw144]; exact set_ne k136 (by decide)
                  have k150 : w143[18]? = some (iA E (a 18) 25 (upd (fun j => nI (g139 j)) (lm + 1) (nI ((g139 lm) + mm55)))) := by rw [hw144]; exact set_eq k138
                  have kp151 := keeps_set kp137 hw144 (by first | exact rfl | decide | omega | (dsimp only; omega))
                  have k152 : w143[18]? = some (iA E (a 18) 25 (fun j => nI ((updn g139 (lm + 1) ((g139 lm) + mm55)) j))) := by rw [← upd_nI]; exact k150
                  refine x_aload_n C dX12_readsLine_222 rfl 2 rfl rfl ?_
                  refine x_aload_n C dX12_readsLine_223 rfl 2 rfl rfl ?_
                  refine x_get C (ci := 11) (k := 27) 0 k147 rfl in_X12 (by decide) w_1145 rfl dX12_readsLine_224 rfl ?_
                  refine x_iconst C (v := 1) dX12_readsLine_227 (by decide) rfl ?_
                  refine x_iadd C (v := (nI (lm + 1))) dX12_readsLine_228 (nI_add lm 1) rfl ?_
                  obtain ⟨w153, hw154⟩ : ∃ w : va_W, w = List.set w143 0 (ob (a 0) 11 [.ref (a 1), .ref (a 2), .ref (a 3), .ref (a 4), .int (nI tp), .int (nI ((pl35 + 1) + 1)), .int (nI le), .int v41, .int nu36, .int v42, .int (nI cm), .int (nI wt), .int (nI sm), .int (nI (cd.2.2.2.2.2)), .ref (a 5), .ref (a 6), .ref (a 7), .ref (a 8), .ref (a 9), .ref (a 10), .ref (a 11), .ref (a 12), .ref (a 13), .ref (a 14), .ref (a 15), .ref (a 16), .ref (a 17), .int (nI (lm + 1)), .ref (a 18), .ref (a 19), .ref (a 20), .ref (a 21), .int v43, .int v44, .int v45, .int v46, .int (nI n48), .int (nI n49), .ref (a 22), .ref (a 23), .ref (a 24), .ref (a 25), .ref (a 26), .ref (a 27), .ref (a 28), .ref (a 29), .ref (a 30), .int v47]) := ⟨_, rfl⟩
                  refine x_put C (ci := 11) (k := 27) (ty := .int) 0 k147 rfl in_X12 tyX12 tyX12_ok nmX12 (by decide) w_1145 rfl rfl rfl rfl (Nat.le_of_ble_eq_true rfl) hw154.symm dX12_readsLine_229 rfl ?_
                  have hW155 : WX (okM E a cd) w153 := by rw [hw154]; exact hW145.set (k := 0) rfl ⟨tp, ((pl35 + 1) + 1), le, v41, nu36, v42, cm, wt, sm, (lm + 1), v43, v44, v45, v46, n48, n49, v47, by omega, by omega, by omega, by omega, by omega, by omega, by omega, by omega, by omega, zb52, rfl⟩
                  have k156 : w153[4]? = some (bA E (a 4) 260 tf) := by rw [hw154]; exact set_ne k146 (by decide)
                  have k157 : w153[0]? = some (ob (a 0) 11 [.ref (a 1), .ref (a 2), .ref (a 3), .ref (a 4), .int (nI tp), .int (nI ((pl35 + 1) + 1)), .int (nI le), .int v41, .int nu36, .int v42, .int (nI cm), .int (nI wt), .int (nI sm), .int (nI (cd.2.2.2.2.2)), .ref (a 5), .ref (a 6), .ref (a 7), .ref (a 8), .ref (a 9), .ref (a 10), .ref (a 11), .ref (a 12), .ref (a 13), .ref (a 14), .ref (a 15), .ref (a 16), .ref (a 17), .int (nI (lm + 1)), .ref (a 18), .ref (a 19), .ref (a 20), .ref (a 21), .int v43, .int v44, .int v45, .int v46, .int (nI n48), .int (nI n49), .ref (a 22), .ref (a 23), .ref (a 24), .ref (a 25), .ref (a 26), .ref (a 27), .ref (a 28), .ref (a 29), .ref (a 30), .int v47]) := by rw [hw154]; exact set_eq k147
                  have k158 : w153[19]? = some (iA E (a 19) 24 (upd f74 (nI lm).toNatClampNeg r61)) := by rw [hw154]; exact set_ne k148 (by decide)
                  have k159 : w153[20]? = some (iA E (a 20) 24 (fun j => nI ((updn (updn g83 lm 0) lm ((48 + d104) - 48)) j))) := by rw [hw154]; exact set_ne k149 (by decide)
                  have k160 : w153[18]? = some (iA E (a 18) 25 (fun j => nI ((updn g139 (lm + 1) ((g139 lm) + mm55)) j))) := by rw [hw154]; exact set_ne k152 (by decide)
                  have kp161 := keeps_set kp151 hw154 (by first | exact rfl | decide | omega | (dsimp only; omega))
                  refine x_iconst C (v := 1) dX12_readsLine_232 (by decide) rfl ?_
                  exact x_zret C hr hlk rfl dX12_readsLine_233 ⟨hW155, kp161, (Or.inr rfl), ⟨((pl35 + 1) + 1), (lm + 1), nu36, by omega, by omega, by omega, ⟨v41, v42, v43, v44, v45, v46, v47, n48, n49, ⟨by omega, by omega, by omega, by omega, by omega, by omega, by omega⟩, ⟨by omega, by omega⟩, zb52, k157⟩⟩⟩
                · skip
                  have nf162 := nI_nle' (a := (48 + d104)) (b := 55) c113 (by omega) (by omega)
                  refine x_aload_n C dX12_readsLine_164 rfl 2 rfl rfl ?_
                  refine x_iconst C (v := 3) dX12_readsLine_165 (by decide) rfl ?_
                  refine x_aload_n C dX12_readsLine_166 rfl 2 rfl rfl ?_
                  refine x_get C (ci := 11) (k := 5) 0 k90 rfl in_X12 (by decide) w_1123 rfl dX12_readsLine_167 rfl ?_
                  refine x_vi C (As := [.int 3, .int (nI (pl35 + 1))]) (rest := []) (m_wrongAt E l a cd hG w86 hW88 (3 : Int32) ((nI (pl35 + 1))) tp (pl35 + 1) le cm wt sm lm nu36 ⟨v41, v42, v43, v44, v45, v46, v47, n48, n49, ⟨by omega, by omega, by omega, by omega, by omega, by omega, by omega⟩, ⟨by omega, by omega⟩, zb52, k90⟩) mf_X12_wrongAt w_1324 0 k90 rfl rfl rfl (Nat.le_of_ble_eq_true rfl) ⟨(Nat.le_of_ble_eq_true rfl), (Nat.le_of_ble_eq_true rfl)⟩ ⟨(Nat.le_of_ble_eq_true rfl), (Nat.le_of_ble_eq_true rfl)⟩ dX12_readsLine_170 rfl (fun r164 w165 h163 => ?_)
                  obtain ⟨hW166, kq167, e168, x169⟩ := h163
                  refine x_top e168 ?_
                  have k170 : w165[4]? = some (bA E (a 4) 260 tf) := keeps_at kq167 k89 (by first | decide | omega | (dsimp only; omega))
                  have k171 : w165[19]? = some (iA E (a 19) 24 (upd f74 (nI lm).toNatClampNeg r61)) := keeps_at kq167 k91 (by first | decide | omega | (dsimp only; omega))
                  have k172 : w165[20]? = some (iA E (a 20) 24 (fun j => nI ((updn g83 lm 0) j))) := keeps_at kq167 k94 (by first | decide | omega | (dsimp only; omega))
                  have kp173 := keeps_tr kp93 kq167 (fun q hq => by first | omega | (dsimp only at *; omega))
                  obtain ⟨v174, v175, v176, v177, v178, v179, v180, n181, n182, bo183, bo184, zb185, k186⟩ := x169
                  exact x_zret C hr hlk rfl dX12_readsLine_173 ⟨hW166, kp173, (Or.inl rfl), ⟨((pl35 + 1)), lm, nu36, by omega, by omega, by omega, ⟨v174, v175, v176, v177, v178, v179, v180, n181, n182, ⟨by omega, by omega, by omega, by omega, by omega, by omega, by omega⟩, ⟨by omega, by omega⟩, zb185, k186⟩⟩⟩
              · skip
                refine x_aload_n C dX12_readsLine_145 rfl 2 rfl rfl ?_
                refine x_iconst C (v := 1) dX12_readsLine_146 (by decide) rfl ?_
                refine x_aload_n C dX12_readsLine_147 rfl 2 rfl rfl ?_
                refine x_get C (ci := 11) (k := 5) 0 k90 rfl in_X12 (by decide) w_1123 rfl dX12_readsLine_148 rfl ?_
                refine x_vi C (As := [.int 1, .int (nI (pl35 + 1))]) (rest := []) (m_wrongAt E l a cd hG w86 hW88 (1 : Int32) ((nI (pl35 + 1))) tp (pl35 + 1) le cm wt sm lm nu36 ⟨v41, v42, v43, v44, v45, v46, v47, n48, n49, ⟨by omega, by omega, by omega, by omega, by omega, by omega, by omega⟩, ⟨by omega, by omega⟩, zb52, k90⟩) mf_X12_wrongAt w_1324 0 k90 rfl rfl rfl (Nat.le_of_ble_eq_true rfl) ⟨(Nat.le_of_ble_eq_true rfl), (Nat.le_of_ble_eq_true rfl)⟩ ⟨(Nat.le_of_ble_eq_true rfl), (Nat.le_of_ble_eq_true rfl)⟩ dX12_readsLine_151 rfl (fun r188 w189 h187 => ?_)
                obtain ⟨hW190, kq191, e192, x193⟩ := h187
                refine x_top e192 ?_
                have k194 : w189[4]? = some (bA E (a 4) 260 tf) := keeps_at kq191 k89 (by first | decide | omega | (dsimp only; omega))
                have k195 : w189[19]? = some (iA E (a 19) 24 (upd f74 (nI lm).toNatClampNeg r61)) := keeps_at kq191 k91 (by first | decide | omega | (dsimp only; omega))
                have k196 : w189[20]? = some (iA E (a 20) 24 (fun j => nI ((updn g83 lm 0) j))) := keeps_at kq191 k94 (by first | decide | omega | (dsimp only; omega))
                have kp197 := keeps_tr kp93 kq191 (fun q hq => by first | omega | (dsimp only at *; omega))
                obtain ⟨v198, v199, v200, v201, v202, v203, v204, n205, n206, bo207, bo208, zb209, k210⟩ := x193
                exact x_zret C hr hlk rfl dX12_readsLine_154 ⟨hW190, kp197, (Or.inl rfl), ⟨((pl35 + 1)), lm, nu36, by omega, by omega, by omega, ⟨v198, v199, v200, v201, v202, v203, v204, n205, n206, ⟨by omega, by omega, by omega, by omega, by omega, by omega, by omega⟩, ⟨by omega, by omega⟩, zb209, k210⟩⟩⟩
            · skip
              refine x_iload_n C dX12_readsLine_132 rfl 0 rfl rfl ?_
              refine x_bipush C (v := 33) dX12_readsLine_133 (by decide) rfl ?_
              refine x_icmp_ne C (tgt := 200) dX12_readsLine_135 (by decide) rfl (fun c211 => ?_) (fun c211 => ?_)
              · skip
                refine x_aload_n C dX12_readsLine_200 rfl 2 rfl rfl ?_
                refine x_get C (ci := 11) (k := 28) 0 k90 rfl in_X12 (by decide) w_1146 rfl dX12_readsLine_201 rfl ?_
                refine x_aload_n C dX12_readsLine_204 rfl 2 rfl rfl ?_
                refine x_get C (ci := 11) (k := 27) 0 k90 rfl in_X12 (by decide) w_1145 rfl dX12_readsLine_205 rfl ?_
                refine x_iconst C (v := 1) dX12_readsLine_208 (by decide) rfl ?_
                refine x_iadd C (v := (nI (lm + 1))) dX12_readsLine_209 (nI_add lm 1) rfl ?_
                refine x_aload_n C dX12_readsLine_210 rfl 2 rfl rfl ?_
                refine x_get C (ci := 11) (k := 28) 0 k90 rfl in_X12 (by decide) w_1146 rfl dX12_readsLine_211 rfl ?_
                refine x_aload_n C dX12_readsLine_214 rfl 2 rfl rfl ?_
                refine x_get C (ci := 11) (k := 27) 0 k90 rfl in_X12 (by decide) w_1145 rfl dX12_readsLine_215 rfl ?_
                obtain ⟨_, k212, g213, gb214, rfl⟩ := hW88 18 _ rfl
                refine x_ialk C (v := nI (g213 lm)) lm (nI_clamp (by omega)) (nI_pos (by omega)) (by omega) 18 k212 rfl dX12_readsLine_218 rfl ?_
                have bx215 := gb214 lm
                refine x_iload_n C dX12_readsLine_219 rfl 1 rfl rfl ?_
                refine x_iadd C (v := (nI ((g213 lm) + mm55))) dX12_readsLine_220 (nI_add (g213 lm) mm55) rfl ?_
                have gb216 := updn_leF (i := (lm + 1)) (v := ((g213 lm) + mm55)) gb214 (by omega)
                obtain ⟨w217, hw218⟩ : ∃ w : va_W, w = List.set w86 18 (iA E (a 18) 25 (upd (fun j => nI (g213 j)) (lm + 1) (nI ((g213 lm) + mm55)))) := ⟨_, rfl⟩
                refine x_iask C (lm + 1) (nI_clamp (by omega)) (nI_pos (by omega)) (by omega) 18 k212 hw218.symm dX12_readsLine_221 rfl ?_
                have hW219 : WX (okM E a cd) w217 := by rw [hw218]; exact hW88.set (k := 18) rfl ⟨_, gb216, iA_n (upd_nI g213 (lm + 1) ((g213 lm) + mm55))⟩
                have k220 : w217[4]? = some (bA E (a 4) 260 tf) := by rw [hw218]; exact set_ne k89 (by decide)
                have k221 : w217[0]? = some (ob (a 0) 11 [.ref (a 1), .ref (a 2), .ref (a 3), .ref (a 4), .int (nI tp), .int (nI (pl35 + 1)), .int (nI le), .int v41, .int nu36, .int v42, .int (nI cm), .int (nI wt), .int (nI sm), .int (nI (cd.2.2.2.2.2)), .ref (a 5), .ref (a 6), .ref (a 7), .ref (a 8), .ref (a 9), .ref (a 10), .ref (a 11), .ref (a 12), .ref (a 13), .ref (a 14), .ref (a 15), .ref (a 16), .ref (a 17), .int (nI lm), .ref (a 18), .ref (a 19), .ref (a 20), .ref (a 21), .int v43, .int v44, .int v45, .int v46, .int (nI n48), .int (nI n49), .ref (a 22), .ref (a 23), .ref (a 24), .ref (a 25), .ref (a 26), .ref (a 27), .ref (a 28), .ref (a 29), .ref (a 30), .int v47]) := by rw [hw218]; exact set_ne k90 (by decide)
                have k222 : w217[19]? = some (iA E (a 19) 24 (upd f74 (nI lm).toNatClampNeg r61)) := by rw [hw218]; exact set_ne k91 (by decide)
                have k223 : w217[20]? = some (iA E (a 20) 24 (fun j => nI ((updn g83 lm 0) j))) := by rw [hw218]; exact set_ne k94 (by decide)
                have k224 : w217[18]? = some (iA E (a 18) 25 (upd (fun j => nI (g213 j)) (lm + 1) (nI ((g213 lm) + mm55)))) := by rw [hw218]; exact set_eq k212
                have kp225 := keeps_set kp93 hw218 (by first | exact rfl | decide | omega | (dsimp only; omega))
                have k226 : w217[18]? = some (iA E (a 18) 25 (fun j => nI ((updn g213 (lm + 1) ((g213 lm) + mm55)) j))) := by rw [← upd_nI]; exact k224
                refine x_aload_n C dX12_readsLine_222 rfl 2 rfl rfl ?_
                refine x_aload_n C dX12_readsLine_223 rfl 2 rfl rfl ?_
                refine x_get C (ci := 11) (k := 27) 0 k221 rfl in_X12 (by decide) w_1145 rfl dX12_readsLine_224 rfl ?_
                refine x_iconst C (v := 1) dX12_readsLine_227 (by decide) rfl ?_
                refine x_iadd C (v := (nI (lm + 1))) dX12_readsLine_228 (nI_add lm 1) rfl ?_
                obtain ⟨w227, hw228⟩ : ∃ w : va_W, w = List.set w217 0 (ob (a 0) 11 [.ref (a 1), .ref (a 2), .ref (a 3), .ref (a 4), .int (nI tp), .int (nI (pl35 + 1)), .int (nI le), .int v41, .int nu36, .int v42, .int (nI cm), .int (nI wt), .int (nI sm), .int (nI (cd.2.2.2.2.2)), .ref (a 5), .ref (a 6), .ref (a 7), .ref (a 8), .ref (a 9), .ref (a 10), .ref (a 11), .ref (a 12), .ref (a 13), .ref (a 14), .ref (a 15), .ref (a 16), .ref (a 17), .int (nI (lm + 1)), .ref (a 18), .ref (a 19), .ref (a 20), .ref (a 21), .int v43, .int v44, .int v45, .int v46, .int (nI n48), .int (nI n49), .ref (a 22), .ref (a 23), .ref (a 24), .ref (a 25), .ref (a 26), .ref (a 27), .ref (a 28), .ref (a 29), .ref (a 30), .int v47]) := ⟨_, rfl⟩
                refine x_put C (ci := 11) (k := 27) (ty := .int) 0 k221 rfl in_X12 tyX12 tyX12_ok nmX12 (by decide) w_1145 rfl rfl rfl rfl (Nat.le_of_ble_eq_true rfl) hw228.symm dX12_readsLine_229 rfl ?_
                have hW229 : WX (okM E a cd) w227 := by rw [hw228]; exact hW219.set (k := 0) rfl ⟨tp, (pl35 + 1), le, v41, nu36, v42, cm, wt, sm, (lm + 1), v43, v44, v45, v46, n48, n49, v47, by omega, by omega, by omega, by omega, by omega, by omega, by omega, by omega, by omega, zb52, rfl⟩
                have k230 : w227[4]? = some (bA E (a 4) 260 tf) := by rw [hw228]; exact set_ne k220 (by decide)
                have k231 : w227[0]? = some (ob (a 0) 11 [.ref (a 1), .ref (a 2), .ref (a 3), .ref (a 4), .int (nI tp), .int (nI (pl35 + 1)), .int (nI le), .int v41, .int nu36, .int v42, .int (nI cm), .int (nI wt), .int (nI sm), .int (nI (cd.2.2.2.2.2)), .ref (a 5), .ref (a 6), .ref (a 7), .ref (a 8), .ref (a 9), .ref (a 10), .ref (a 11), .ref (a 12), .ref (a 13), .ref (a 14), .ref (a 15), .ref (a 16), .ref (a 17), .int (nI (lm + 1)), .ref (a 18), .ref (a 19), .ref (a 20), .ref (a 21), .int v43, .int v44, .int v45, .int v46, .int (nI n48), .int (nI n49), .ref (a 22), .ref (a 23), .ref (a 24), .ref (a 25), .ref (a 26), .ref (a 27), .ref (a 28), .ref (a 29), .ref (a 30), .int v47]) := by rw [hw228]; exact set_eq k221
                have k232 : w227[19]? = some (iA E (a 19) 24 (upd f74 (nI lm).toNatClampNeg r61)) := by rw [hw228]; exact set_ne k222 (by decide)
                have k233 : w227[20]? = some (iA E (a 20) 24 (fun j => nI ((updn g83 lm 0) j))) := by rw [hw228]; exact set_ne k223 (by decide)
                have k234 : w227[18]? = some (iA E (a 18) 25 (fun j => nI ((updn g213 (lm + 1) ((g213 lm) + mm55)) j))) := by rw [hw228]; exact set_ne k226 (by decide)
                have kp235 := keeps_set kp225 hw228 (by first | exact rfl | decide | omega | (dsimp only; omega))
                refine x_iconst C (v := 1) dX12_readsLine_232 (by decide) rfl ?_
                exact x_zret C hr hlk rfl dX12_readsLine_233 ⟨hW229, kp235, (Or.inr rfl), ⟨(pl35 + 1), (lm + 1), nu36, by omega, by omega, by omega, ⟨v41, v42, v43, v44, v45, v46, v47, n48, n49, ⟨by omega, by omega, by omega, by omega, by omega, by omega, by omega⟩, ⟨by omega, by omega⟩, zb52, k231⟩⟩⟩
              · skip
                have hp236 := hv_lt (x64.symm.trans c211) (by decide)
                refine x_aload_n C dX12_readsLine_138 rfl 2 rfl rfl ?_
                refine x_vi C (As := []) (rest := []) (m_isDigit E l a cd hG w86 hW88 tp (pl35 + 1) le cm wt sm lm nu36 ⟨v41, v42, v43, v44, v45, v46, v47, n48, n49, ⟨by omega, by omega, by omega, by omega, by omega, by omega, by omega⟩, ⟨by omega, by omega⟩, zb52, k90⟩ tf k89) mf_X12_isDigit w_1341 0 k90 rfl rfl rfl (Nat.le_of_ble_eq_true rfl) ⟨(Nat.le_of_ble_eq_true rfl), (Nat.le_of_ble_eq_true rfl)⟩ ⟨(Nat.le_of_ble_eq_true rfl), (Nat.le_of_ble_eq_true rfl)⟩ dX12_readsLine_139 rfl (fun r238 w239 h237 => ?_)
                obtain ⟨hW240, zb241, x242⟩ := h237
                refine x_ws hW240 ?_
                refine x_if_ne C (tgt := 155) dX12_readsLine_142 (by decide) rfl (fun c243 => ?_) (fun c243 => ?_)
                · skip
                  obtain ⟨d244, hd245, ed246, hp247⟩ := x242 c243
                  refine x_aload_n C dX12_readsLine_155 rfl 2 rfl rfl ?_
                  refine x_vi C (As := []) (rest := []) (m_here E l a cd hG w86 hW88 tp (pl35 + 1) le cm wt sm lm nu36 ⟨v41, v42, v43, v44, v45, v46, v47, n48, n49, ⟨by omega, by omega, by omega, by omega, by omega, by omega, by omega⟩, ⟨by omega, by omega⟩, zb52, k90⟩ tf k89) mf_X12_here w_1317 0 k90 rfl rfl rfl (Nat.le_of_ble_eq_true rfl) ⟨(Nat.le_of_ble_eq_true rfl), (Nat.le_of_ble_eq_true rfl)⟩ ⟨(Nat.le_of_ble_eq_true rfl), (Nat.le_of_ble_eq_true rfl)⟩ dX12_readsLine_156 rfl (fun r249 w250 h248 => ?_)
                  obtain ⟨hW251, x252⟩ := h248
                  refine x_ws hW251 ?_
                  refine x_top (x252.trans ed246) ?_
                  refine x_bipush C (v := 55) dX12_readsLine_159 (by decide) rfl ?_
                  refine x_icmp_le C (tgt := 174) dX12_readsLine_161 (by decide) rfl (fun c253 => ?_) (fun c253 => ?_)
                  · skip
                    have nf254 := nI_le' (a := (48 + d244)) (b := 55) c253 (by omega) (by omega)
                    refine x_aload_n C dX12_readsLine_174 rfl 2 rfl rfl ?_
                    refine x_get C (ci := 11) (k := 30) 0 k90 rfl in_X12 (by decide) w_1148 rfl dX12_readsLine_175 rfl ?_
                    refine x_aload_n C dX12_readsLine_178 rfl 2 rfl rfl ?_
                    refine x_get C (ci := 11) (k := 27) 0 k90 rfl in_X12 (by decide) w_1145 rfl dX12_readsLine_179 rfl ?_
                    refine x_aload_n C dX12_readsLine_182 rfl 2 rfl rfl ?_
                    refine x_vi C (As := []) (rest := [.int (nI lm), .ref (a 20)]) (m_here E l a cd hG w86 hW88 tp (pl35 + 1) le cm wt sm lm nu36 ⟨v41, v42, v43, v44, v45, v46, v47, n48, n49, ⟨by omega, by omega, by omega, by omega, by omega, by omega, by omega⟩, ⟨by omega, by omega⟩, zb52, k90⟩ tf k89) mf_X12_here w_1317 0 k90 rfl rfl rfl (Nat.le_of_ble_eq_true rfl) ⟨(Nat.le_of_ble_eq_true rfl), (Nat.le_of_ble_eq_true rfl)⟩ ⟨(Nat.le_of_ble_eq_true rfl), (Nat.le_of_ble_eq_true rfl)⟩ dX12_readsLine_183 rfl (fun r256 w257 h255 => ?_)
                    obtain ⟨hW258, x259⟩ := h255
                    refine x_ws hW258 ?_
                    refine x_top (x259.trans ed246) ?_
                    refine x_bipush C (v := 48) dX12_readsLine_186 (by decide) rfl ?_
                    refine x_isub C (v := (nI ((48 + d244) - 48))) dX12_readsLine_188 (pk_sub (a := (48 + d244)) (b := 48) (by omega)) rfl ?_
                    have gb260 := updn_le (i := lm) (v := ((48 + d244) - 48)) gb85 (by omega)
                    obtain ⟨w261, hw262⟩ : ∃ w : va_W, w = List.set w86 20 (iA E (a 20) 24 (upd (fun j => nI ((updn g83 lm 0) j)) lm (nI ((48 + d244) - 48)))) := ⟨_, rfl⟩
                    refine x_iask C lm (nI_clamp (by omega)) (nI_pos (by omega)) (by omega) 20 k94 hw262.symm dX12_readsLine_189 rfl ?_
                    have hW263 : WX (okM E a cd) w261 := by rw [hw262]; exact hW88.set (k := 20) rfl ⟨_, gb260, iA_n (upd_nI (updn g83 lm 0) lm ((48 + d244) - 48))⟩
                    have k264 : w261[4]? = some (bA E (a 4) 260 tf) := by rw [hw262]; exact set_ne k89 (by decide)
                    have k265 : w261[0]? = some (ob (a 0) 11 [.ref (a 1), .ref (a 2), .ref (a 3), .ref (a 4), .int (nI tp), .int (nI (pl35 + 1)), .int (nI le), .int v41, .int nu36, .int v42, .int (nI cm), .int (nI wt), .int (nI sm), .int (nI (cd.2.2.2.2.2)), .ref (a 5), .ref (a 6), .ref (a 7), .ref (a 8), .ref (a 9), .ref (a 10), .ref (a 11), .ref (a 12), .ref (a 13), .ref (a 14), .ref (a 15), .ref (a 16), .ref (a 17), .int (nI lm), .ref (a 18), .ref (a 19), .ref (a 20), .ref (a 21), .int v43, .int v44, .int v45, .int v46, .int (nI n48), .int (nI n49), .ref (a 22), .ref (a 23), .ref (a 24), .ref (a 25), .ref (a 26), .ref (a 27), .ref (a 28), .ref (a 29), .ref (a 30), .int v47]) := by rw [hw262]; exact set_ne k90 (by decide)
                    have k266 : w261[19]? = some (iA E (a 19) 24 (upd f74 (nI lm).toNatClampNeg r61)) := by rw [hw262]; exact set_ne k91 (by decide)
                    have k267 : w261[20]? = some (iA E (a 20) 24 (upd (fun j => nI ((updn g83 lm 0) j)) lm (nI ((48 + d244) - 48)))) := by rw [hw262]; exact set_eq k94
                    have kp268 := keeps_set kp93 hw262 (by first | exact rfl | decide | omega | (dsimp only; omega))
                    have k269 : w261[20]? = some (iA E (a 20) 24 (fun j => nI ((updn (updn g83 lm 0) lm ((48 + d244) - 48)) j))) := by rw [← upd_nI]; exact k267
                    refine x_aload_n C dX12_readsLine_190 rfl 2 rfl rfl ?_
                    refine x_aload_n C dX12_readsLine_191 rfl 2 rfl rfl ?_
                    refine x_get C (ci := 11) (k := 5) 0 k265 rfl in_X12 (by decide) w_1123 rfl dX12_readsLine_192 rfl ?_
                    refine x_iconst C (v := 1) dX12_readsLine_195 (by decide) rfl ?_
                    refine x_iadd C (v := (nI ((pl35 + 1) + 1))) dX12_readsLine_196 (nI_add (pl35 + 1) 1) rfl ?_
                    obtain ⟨w270, hw271⟩ : ∃ w : va_W, w = List.set w261 0 (ob (a 0) 11 [.ref (a 1), .ref (a 2), .ref (a 3), .ref (a 4), .int (nI tp), .int (nI ((pl35 + 1) + 1)), .int (nI le), .int v41, .int nu36, .int v42, .int (nI cm), .int (nI wt), .int (nI sm), .int (nI (cd.2.2.2.2.2)), .ref (a 5), .ref (a 6), .ref (a 7), .ref (a 8), .ref (a 9), .ref (a 10), .ref (a 11), .ref (a 12), .ref (a 13), .ref (a 14), .ref (a 15), .ref (a 16), .ref (a 17), .int (nI lm), .ref (a 18), .ref (a 19), .ref (a 20), .ref (a 21), .int v43, .int v44, .int v45, .int v46, .int (nI n48), .int (nI n49), .ref (a 22), .ref (a 23), .ref (a 24), .ref (a 25), .ref (a 26), .ref (a 27), .ref (a 28), .ref (a 29), .ref (a 30), .int v47]) := ⟨_, rfl⟩
                    refine x_put C (ci := 11) (k := 5) (ty := .int) 0 k265 rfl in_X12 tyX12 tyX12_ok nmX12 (by decide) w_1123 rfl rfl rfl rfl (Nat.le_of_ble_eq_true rfl) hw271.symm dX12_readsLine_197 rfl ?_
                    have hW272 : WX (okM E a cd) w270 := by rw [hw271]; exact hW263.set (k := 0) rfl ⟨tp, ((pl35 + 1) + 1), le, v41, nu36, v42, cm, wt, sm, lm, v43, v44, v45, v46, n48, n49, v47, by omega, by omega, by omega, by omega, by omega, by omega, by omega, by omega, by omega, zb52, rfl⟩
                    have k273 : w270[4]? = some (bA E (a 4) 260 tf) := by rw [hw271]; exact set_ne k264 (by decide)
                    have k274 : w270[0]? = some (ob (a 0) 11 [.ref (a 1), .ref (a 2), .ref (a 3), .ref (a 4), .int (nI tp), .int (nI ((pl35 + 1) + 1)), .int (nI le), .int v41, .int nu36, .int v42, .int (nI cm), .int (nI wt), .int (nI sm), .int (nI (cd.2.2.2.2.2)), .ref (a 5), .ref (a 6), .ref (a 7), .ref (a 8), .ref (a 9), .ref (a 10), .ref (a 11), .ref (a 12), .ref (a 13), .ref (a 14), .ref (a 15), .ref (a 16), .ref (a 17), .int (nI lm), .ref (a 18), .ref (a 19), .ref (a 20), .ref (a 21), .int v43, .int v44, .int v45, .int v46, .int (nI n48), .int (nI n49), .ref (a 22), .ref (a 23), .ref (a 24), .ref (a 25), .ref (a 26), .ref (a 27), .ref (a 28), .ref (a 29), .ref (a 30), .int v47]) := by rw [hw271]; exact set_eq k265
                    have k275 : w270[19]? = some (iA E (a 19) 24 (upd f74 (nI lm).toNatClampNeg r61)) := by rw [hw271]; exact set_ne k266 (by decide)
                    have k276 : w270[20]? = some (iA E (a 20) 24 (fun j => nI ((updn (updn g83 lm 0) lm ((48 + d244) - 48)) j))) := by rw [hw271]; exact set_ne k269 (by decide)
                    have kp277 := keeps_set kp268 hw271 (by first | exact rfl | decide | omega | (dsimp only; omega))
                    refine x_aload_n C dX12_readsLine_200 rfl 2 rfl rfl ?_
                    refine x_get C (ci := 11) (k := 28) 0 k274 rfl in_X12 (by decide) w_1146 rfl dX12_readsLine_201 rfl ?_
                    refine x_aload_n C dX12_readsLine_204 rfl 2 rfl rfl ?_
                    refine x_get C (ci := 11) (k := 27) 0 k274 rfl in_X12 (by decide) w_1145 rfl dX12_readsLine_205 rfl ?_
                    refine x_iconst C (v := 1) dX12_readsLine_208 (by decide) rfl ?_
                    refine x_iadd C (v := (nI (lm + 1))) dX12_readsLine_209 (nI_add lm 1) rfl ?_
                    refine x_aload_n C dX12_readsLine_210 rfl 2 rfl rfl ?_
                    refine x_get C (ci := 11) (k := 28) 0 k274 rfl in_X12 (by decide) w_1146 rfl dX12_readsLine_211 rfl ?_
                    refine x_aload_n C dX12_readsLine_214 rfl 2 rfl rfl ?_
                    refine x_get C (ci := 11) (k := 27) 0 k274 rfl in_X12 (by decide) w_1145 rfl dX12_readsLine_215 rfl ?_
                    obtain ⟨_, k278, g279, gb280, rfl⟩ := hW272 18 _ rfl
                    refine x_ialk C (v := nI (g279 lm)) lm (nI_clamp (by omega)) (nI_pos (by omega)) (by omega) 18 k278 rfl dX12_readsLine_218 rfl ?_
                    have bx281 := gb280 lm
                    refine x_iload_n C dX12_readsLine_219 rfl 1 rfl rfl ?_
                    refine x_iadd C (v := (nI ((g279 lm) + mm55))) dX12_readsLine_220 (nI_add (g279 lm) mm55) rfl ?_
                    have gb282 := updn_leF (i := (lm + 1)) (v := ((g279 lm) + mm55)) gb280 (by omega)
                    obtain ⟨w283, hw284⟩ : ∃ w : va_W, w = List.set w270 18 (iA E (a 18) 25 (upd (fun j => nI (g279 j)) (lm + 1) (nI ((g279 lm) + mm55)))) := ⟨_, rfl⟩
                    refine x_iask C (lm + 1) (nI_clamp (by omega)) (nI_pos (by omega)) (by omega) 18 k278 hw284.symm dX12_readsLine_221 rfl ?_
                    have hW285 : WX (okM E a cd) w283 := by rw [hw284]; exact hW272.set (k := 18) rfl ⟨_, gb282, iA_n (upd_nI g279 (lm + 1) ((g279 lm) + mm55))⟩
                    have k286 : w283[4]? = some (bA E (a 4) 260 tf) := by rw [hw284]; exact set_ne k273 (by decide)
                    have k287 : w283[0]? = some (ob (a 0) 11 [.ref (a 1), .ref (a 2), .ref (a 3), .ref (a 4), .int (nI tp), .int (nI ((pl35 + 1) + 1)), .int (nI le), .int v41, .int nu36, .int v42, .int (nI cm), .int (nI wt), .int (nI sm), .int (nI (cd.2.2.2.2.2)), .ref (a 5), .ref (a 6), .ref (a 7), .ref (a 8), .ref (a 9), .ref (a 10), .ref (a 11), .ref (a 12), .ref (a 13), .ref (a 14), .ref (a 15), .ref (a 16), .ref (a 17), .int (nI lm), .ref (a 18), .ref (a 19), .ref (a 20), .ref (a 21), .int v43, .int v44, .int v45, .int v46, .int (nI n48), .int (nI n49), .ref (a 22), .ref (a 23), .ref (a 24), .ref (a 25), .ref (a 26), .ref (a 27), .ref (a 28), .ref (a 29), .ref (a 30), .int v47]) := by rw [hw284]; exact set_ne k274 (by decide)
                    have k288 : w283[19]? = some (iA E (a 19) 24 (upd f74 (nI lm).toNatClampNeg r61)) := by rw [hw284]; exact set_ne k275 (by decide)
                    have k289 : w283[20]? = some (iA E (a 20) 24 (fun j => nI ((updn (updn g83 lm 0) lm ((48 + d244) - 48)) j))) := by rw [hw284]; exact set_ne k276 (by decide)
                    have k290 : w283[18]? = some (iA E (a 18) 25 (upd (fun j => nI (g279 j)) (lm + 1) (nI ((g279 lm) + mm55)))) := by rw [hw284]; exact set_eq k278
                    have kp291 := keeps_set kp277 hw284 (by first | exact rfl | decide | omega | (dsimp only; omega))
                    have k292 : w283[18]? = some (iA E (a 18) 25 (fun j => nI ((updn g279 (lm + 1) ((g279 lm) + mm55)) j))) := by rw [← upd_nI]; exact k290
                    refine x_aload_n C dX12_readsLine_222 rfl 2 rfl rfl ?_
                    refine x_aload_n C dX12_readsLine_223 rfl 2 rfl rfl ?_
                    refine x_get C (ci := 11) (k := 27) 0 k287 rfl in_X12 (by decide) w_1145 rfl dX12_readsLine_224 rfl ?_
                    refine x_iconst C (v := 1) dX12_readsLine_227 (by decide) rfl ?_
                    refine x_iadd C (v := (nI (lm + 1))) dX12_readsLine_228 (nI_add lm 1) rfl ?_
                    obtain ⟨w293, hw294⟩ : ∃ w : va_W, w = List.set w283 0 (ob (a 0) 11 [.ref (a 1), .ref (a 2), .ref (a 3), .ref (a 4), .int (nI tp), .int (nI ((pl35 + 1) + 1)), .int (nI le), .int v41, .int nu36, .int v42, .int (nI cm), .int (nI wt), .int (nI sm), .int (nI (cd.2.2.2.2.2)), .ref (a 5), .ref (a 6), .ref (a 7), .ref (a 8), .ref (a 9), .ref (a 10), .ref (a 11), .ref (a 12), .ref (a 13), .ref (a 14), .ref (a 15), .ref (a 16), .ref (a 17), .int (nI (lm + 1)), .ref (a 18), .ref (a 19), .ref (a 20), .ref (a 21), .int v43, .int v44, .int v45, .int v46, .int (nI n48), .int (nI n49), .ref (a 22), .ref (a 23), .ref (a 24), .ref (a 25), .ref (a 26), .ref (a 27), .ref (a 28), .ref (a 29), .ref (a 30), .int v47]) := ⟨_, rfl⟩
                    refine x_put C (ci := 11) (k := 27) (ty := .int) 0 k287 rfl in_X12 tyX12 tyX12_ok nmX12 (by decide) w_1145 rfl rfl rfl rfl (Nat.le_of_ble_eq_true rfl) hw294.symm dX12_readsLine_229 rfl ?_
                    have hW295 : WX (okM E a cd) w293 := by rw [hw294]; exact hW285.set (k := 0) rfl ⟨tp, ((pl35 + 1) + 1), le, v41, nu36, v42, cm, wt, sm, (lm + 1), v43, v44, v45, v46, n48, n49, v47, by omega, by omega, by omega, by omega, by omega, by omega, by omega, by omega, by omega, zb52, rfl⟩
                    have k296 : w293[4]? = some (bA E (a 4) 260 tf) := by rw [hw294]; exact set_ne k286 (by decide)
                    have k297 : w293[0]? = some (ob (a 0) 11 [.ref (a 1), .ref (a 2), .ref (a 3), .ref (a 4), .int (nI tp), .int (nI ((pl35 + 1) + 1)), .int (nI le), .int v41, .int nu36, .int v42, .int (nI cm), .int (nI wt), .int (nI sm), .int (nI (cd.2.2.2.2.2)), .ref (a 5), .ref (a 6), .ref (a 7), .ref (a 8), .ref (a 9), .ref (a 10), .ref (a 11), .ref (a 12), .ref (a 13), .ref (a 14), .ref (a 15), .ref (a 16), .ref (a 17), .int (nI (lm + 1)), .ref (a 18), .ref (a 19), .ref (a 20), .ref (a 21), .int v43, .int v44, .int v45, .int v46, .int (nI n48), .int (nI n49), .ref (a 22), .ref (a 23), .ref (a 24), .ref (a 25), .ref (a 26), .ref (a 27), .ref (a 28), .ref (a 29), .ref (a 30), .int v47]) := by rw [hw294]; exact set_eq k287
                    have k298 : w293[19]? = some (iA E (a 19) 24 (upd f74 (nI lm).toNatClampNeg r61)) := by rw [hw294]; exact set_ne k288 (by decide)
                    have k299 : w293[20]? = some (iA E (a 20) 24 (fun j => nI ((updn (updn g83 lm 0) lm ((48 + d244) - 48)) j))) := by rw [hw294]; exact set_ne k289 (by decide)
                    have k300 : w293[18]? = some (iA E (a 18) 25 (fun j => nI ((updn g279 (lm + 1) ((g279 lm) + mm55)) j))) := by rw [hw294]; exact set_ne k292 (by decide)
                    have kp301 := keeps_set kp291 hw294 (by first | exact rfl | decide | omega | (dsimp only; omega))
                    refine x_iconst C (v := 1) dX12_readsLine_232 (by decide) rfl ?_
                    exact x_zret C hr hlk rfl dX12_readsLine_233 ⟨hW295, kp301, (Or.inr rfl), ⟨((pl35 + 1) + 1), (lm + 1), nu36, by omega, by omega, by omega, ⟨v41, v42, v43, v44, v45, v46, v47, n48, n49, ⟨by omega, by omega, by omega, by omega, by omega, by omega, by omega⟩, ⟨by omega, by omega⟩, zb52, k297⟩⟩⟩
                  · skip
                    have nf302 := nI_nle' (a := (48 + d244)) (b := 55) c253 (by omega) (by omega)
                    refine x_aload_n C dX12_readsLine_164 rfl 2 rfl rfl ?_
                    refine x_iconst C (v := 3) dX12_readsLine_165 (by decide) rfl ?_
                    refine x_aload_n C dX12_readsLine_166 rfl 2 rfl rfl ?_
                    refine x_get C (ci := 11) (k := 5) 0 k90 rfl in_X12 (by decide) w_1123 rfl dX12_readsLine_167 rfl ?_
                    refine x_vi C (As := [.int 3, .int (nI (pl35 + 1))]) (rest := []) (m_wrongAt E l a cd hG w86 hW88 (3 : Int32) ((nI (pl35 + 1))) tp (pl35 + 1) le cm wt sm lm nu36 ⟨v41, v42, v43, v44, v45, v46, v47, n48, n49, ⟨by omega, by omega, by omega, by omega, by omega, by omega, by omega⟩, ⟨by omega, by omega⟩, zb52, k90⟩) mf_X12_wrongAt w_1324 0 k90 rfl rfl rfl (Nat.le_of_ble_eq_true rfl) ⟨(Nat.le_of_ble_eq_true rfl), (Nat.le_of_ble_eq_true rfl)⟩ ⟨(Nat.le_of_ble_eq_true rfl), (Nat.le_of_ble_eq_true rfl)⟩ dX12_readsLine_170 rfl (fun r304 w305 h303 => ?_)
                    obtain ⟨hW306, kq307, e308, x309⟩ := h303
                    refine x_top e308 ?_
                    have k310 : w305[4]? = some (bA E (a 4) 260 tf) := keeps_at kq307 k89 (by first | decide | omega | (dsimp only; omega))
                    have k311 : w305[19]? = some (iA E (a 19) 24 (upd f74 (nI lm).toNatClampNeg r61)) := keeps_at kq307 k91 (by first | decide | omega | (dsimp only; omega))
                    have k312 : w305[20]? = some (iA E (a 20) 24 (fun j => nI ((updn g83 lm 0) j))) := keeps_at kq307 k94 (by first | decide | omega | (dsimp only; omega))
                    have kp313 := keeps_tr kp93 kq307 (fun q hq => by first | omega | (dsimp only at *; omega))
                    obtain ⟨v314, v315, v316, v317, v318, v319, v320, n321, n322, bo323, bo324, zb325, k326⟩ := x309
                    exact x_zret C hr hlk rfl dX12_readsLine_173 ⟨hW306, kp313, (Or.inl rfl), ⟨((pl35 + 1)), lm, nu36, by omega, by omega, by omega, ⟨v314, v315, v316, v317, v318, v319, v320, n321, n322, ⟨by omega, by omega, by omega, by omega, by omega, by omega, by omega⟩, ⟨by omega, by omega⟩, zb325, k326⟩⟩⟩
                · skip
                  refine x_aload_n C dX12_readsLine_145 rfl 2 rfl rfl ?_
                  refine x_iconst C (v := 1) dX12_readsLine_146 (by decide) rfl ?_
                  refine x_aload_n C dX12_readsLine_147 rfl 2 rfl rfl ?_
                  refine x_get C (ci := 11) (k := 5) 0 k90 rfl in_X12 (by decide) w_1123 rfl dX12_readsLine_148 rfl ?_
                  refine x_vi C (As := [.int 1, .int (nI (pl35 + 1))]) (rest := []) (m_wrongAt E l a cd hG w86 hW88 (1 : Int32) ((nI (pl35 + 1))) tp (pl35 + 1) le cm wt sm lm nu36 ⟨v41, v42, v43, v44, v45, v46, v47, n48, n49, ⟨by omega, by omega, by omega, by omega, by omega, by omega, by omega⟩, ⟨by omega, by omega⟩, zb52, k90⟩) mf_X12_wrongAt w_1324 0 k90 rfl rfl rfl (Nat.le_of_ble_eq_true rfl) ⟨(Nat.le_of_ble_eq_true rfl), (Nat.le_of_ble_eq_true rfl)⟩ ⟨(Nat.le_of_ble_eq_true rfl), (Nat.le_of_ble_eq_true rfl)⟩ dX12_readsLine_151 rfl (fun r328 w329 h327 => ?_)
                  obtain ⟨hW330, kq331, e332, x333⟩ := h327
                  refine x_top e332 ?_
                  have k334 : w329[4]? = some (bA E (a 4) 260 tf) := keeps_at kq331 k89 (by first | decide | omega | (dsimp only; omega))
                  have k335 : w329[19]? = some (iA E (a 19) 24 (upd f74 (nI lm).toNatClampNeg r61)) := keeps_at kq331 k91 (by first | decide | omega | (dsimp only; omega))
                  have k336 : w329[20]? = some (iA E (a 20) 24 (fun j => nI ((updn g83 lm 0) j))) := keeps_at kq331 k94 (by first | decide | omega | (dsimp only; omega))
                  have kp337 := keeps_tr kp93 kq331 (fun q hq => by first | omega | (dsimp only at *; omega))
                  obtain ⟨v338, v339, v340, v341, v342, v343, v344, n345, n346, bo347, bo348, zb349, k350⟩ := x333
                  exact x_zret C hr hlk rfl dX12_readsLine_154 ⟨hW330, kp337, (Or.inl rfl), ⟨((pl35 + 1)), lm, nu36, by omega, by omega, by omega, ⟨v338, v339, v340, v341, v342, v343, v344, n345, n346, ⟨by omega, by omega, by omega, by omega, by omega, by omega, by omega⟩, ⟨by omega, by omega⟩, zb349, k350⟩⟩⟩
          · skip
            refine x_iload_n C dX12_readsLine_68 rfl 0 rfl rfl ?_
            refine x_bipush C (v := 33) dX12_readsLine_69 (by decide) rfl ?_
            refine x_icmp_eq C (tgt := 96) dX12_readsLine_71 (by decide) rfl (fun c351 => ?_) (fun c351 => ?_)
            · skip
              have hp352 := hv_lt (x64.symm.trans c351) (by decide)
              refine x_aload_n C dX12_readsLine_96 rfl 2 rfl rfl ?_
              refine x_aload_n C dX12_readsLine_97 rfl 2 rfl rfl ?_
              refine x_get C (ci := 11) (k := 5) 0 k53 rfl in_X12 (by decide) w_1123 rfl dX12_readsLine_98 rfl ?_
              refine x_iconst C (v := 1) dX12_readsLine_101 (by decide) rfl ?_
              refine x_iadd C (v := (nI (pl35 + 1))) dX12_readsLine_102 (nI_add pl35 1) rfl ?_
              obtain ⟨w353, hw354⟩ : ∃ w : va_W, w = List.set w29 0 (ob (a 0) 11 [.ref (a 1), .ref (a 2), .ref (a 3), .ref (a 4), .int (nI tp), .int (nI (pl35 + 1)), .int (nI le), .int v41, .int nu36, .int v42, .int (nI cm), .int (nI wt), .int (nI sm), .int (nI (cd.2.2.2.2.2)), .ref (a 5), .ref (a 6), .ref (a 7), .ref (a 8), .ref (a 9), .ref (a 10), .ref (a 11), .ref (a 12), .ref (a 13), .ref (a 14), .ref (a 15), .ref (a 16), .ref (a 17), .int (nI lm), .ref (a 18), .ref (a 19), .ref (a 20), .ref (a 21), .int v43, .int v44, .int v45, .int v46, .int (nI n48), .int (nI n49), .ref (a 22), .ref (a 23), .ref (a 24), .ref (a 25), .ref (a 26), .ref (a 27), .ref (a 28), .ref (a 29), .ref (a 30), .int v47]) := ⟨_, rfl⟩
              refine x_put C (ci := 11) (k := 5) (ty := .int) 0 k53 rfl in_X12 tyX12 tyX12_ok nmX12 (by decide) w_1123 rfl rfl rfl rfl (Nat.le_of_ble_eq_true rfl) hw354.symm dX12_readsLine_103 rfl ?_
              have hW355 : WX (okM E a cd) w353 := by rw [hw354]; exact hW30.set (k := 0) rfl ⟨tp, (pl35 + 1), le, v41, nu36, v42, cm, wt, sm, lm, v43, v44, v45, v46, n48, n49, v47, by omega, by omega, by omega, by omega, by omega, by omega, by omega, by omega, by omega, zb52, rfl⟩
              have k356 : w353[4]? = some (bA E (a 4) 260 tf) := by rw [hw354]; exact set_ne k33 (by decide)
              have k357 : w353[0]? = some (ob (a 0) 11 [.ref (a 1), .ref (a 2), .ref (a 3), .ref (a 4), .int (nI tp), .int (nI (pl35 + 1)), .int (nI le), .int v41, .int nu36, .int v42, .int (nI cm), .int (nI wt), .int (nI sm), .int (nI (cd.2.2.2.2.2)), .ref (a 5), .ref (a 6), .ref (a 7), .ref (a 8), .ref (a 9), .ref (a 10), .ref (a 11), .ref (a 12), .ref (a 13), .ref (a 14), .ref (a 15), .ref (a 16), .ref (a 17), .int (nI lm), .ref (a 18), .ref (a 19), .ref (a 20), .ref (a 21), .int v43, .int v44, .int v45, .int v46, .int (nI n48), .int (nI n49), .ref (a 22), .ref (a 23), .ref (a 24), .ref (a 25), .ref (a 26), .ref (a 27), .ref (a 28), .ref (a 29), .ref (a 30), .int v47]) := by rw [hw354]; exact set_eq k53
              have kp358 := keeps_set kp34 hw354 (by first | exact rfl | decide | omega | (dsimp only; omega))
              refine x_aload_n C dX12_readsLine_106 rfl 2 rfl rfl ?_
              refine x_get C (ci := 11) (k := 29) 0 k357 rfl in_X12 (by decide) w_1147 rfl dX12_readsLine_107 rfl ?_
              refine x_aload_n C dX12_readsLine_110 rfl 2 rfl rfl ?_
              refine x_get C (ci := 11) (k := 27) 0 k357 rfl in_X12 (by decide) w_1145 rfl dX12_readsLine_111 rfl ?_
              refine x_iload_n C dX12_readsLine_114 rfl 0 rfl rfl ?_
              obtain ⟨_, k359, f360, rfl⟩ := hW355 19 _ rfl
              obtain ⟨w361, hw362⟩ : ∃ w : va_W, w = List.set w353 19 (iA E (a 19) 24 (upd f360 (nI lm).toNatClampNeg r61)) := ⟨_, rfl⟩
              refine x_iast C 19 k359 (vp_in_nI (by omega) (by decide)) hw362.symm dX12_readsLine_115 rfl ?_
              have hW363 : WX (okM E a cd) w361 := by rw [hw362]; exact hW355.set (k := 19) rfl ⟨_, rfl⟩
              have k364 : w361[4]? = some (bA E (a 4) 260 tf) := by rw [hw362]; exact set_ne k356 (by decide)
              have k365 : w361[0]? = some (ob (a 0) 11 [.ref (a 1), .ref (a 2), .ref (a 3), .ref (a 4), .int (nI tp), .int (nI (pl35 + 1)), .int (nI le), .int v41, .int nu36, .int v42, .int (nI cm), .int (nI wt), .int (nI sm), .int (nI (cd.2.2.2.2.2)), .ref (a 5), .ref (a 6), .ref (a 7), .ref (a 8), .ref (a 9), .ref (a 10), .ref (a 11), .ref (a 12), .ref (a 13), .ref (a 14), .ref (a 15), .ref (a 16), .ref (a 17), .int (nI lm), .ref (a 18), .ref (a 19), .ref (a 20), .ref (a 21), .int v43, .int v44, .int v45, .int v46, .int (nI n48), .int (nI n49), .ref (a 22), .ref (a 23), .ref (a 24), .ref (a 25), .ref (a 26), .ref (a 27), .ref (a 28), .ref (a 29), .ref (a 30), .int v47]) := by rw [hw362]; exact set_ne k357 (by decide)
              have k366 : w361[19]? = some (iA E (a 19) 24 (upd f360 (nI lm).toNatClampNeg r61)) := by rw [hw362]; exact set_eq k359
              have kp367 := keeps_set kp358 hw362 (by first | exact rfl | decide | omega | (dsimp only; omega))
              refine x_aload_n C dX12_readsLine_116 rfl 2 rfl rfl ?_
              refine x_get C (ci := 11) (k := 30) 0 k365 rfl in_X12 (by decide) w_1148 rfl dX12_readsLine_117 rfl ?_
              refine x_aload_n C dX12_readsLine_120 rfl 2 rfl rfl ?_
              refine x_get C (ci := 11) (k := 27) 0 k365 rfl in_X12 (by decide) w_1145 rfl dX12_readsLine_121 rfl ?_
              refine x_iconst C (v := 0) dX12_readsLine_124 (by decide) rfl ?_
              obtain ⟨_, k368, g369, gb370, rfl⟩ := hW363 20 _ rfl
              have gb371 := updn_le (i := lm) (v := 0) gb370 (by omega)
              obtain ⟨w372, hw373⟩ : ∃ w : va_W, w = List.set w361 20 (iA E (a 20) 24 (upd (fun j => nI (g369 j)) lm (nI 0))) := ⟨_, rfl⟩
              refine x_iask C lm (nI_clamp (by omega)) (nI_pos (by omega)) (by omega) 20 k368 hw373.symm dX12_readsLine_125 rfl ?_
              have hW374 : WX (okM E a cd) w372 := by rw [hw373]; exact hW363.set (k := 20) rfl ⟨_, gb371, iA_n (upd_nI g369 lm 0)⟩
              have k375 : w372[4]? = some (bA E (a 4) 260 tf) := by rw [hw373]; exact set_ne k364 (by decide)
              have k376 : w372[0]? = some (ob (a 0) 11 [.ref (a 1), .ref (a 2), .ref (a 3), .ref (a 4), .int (nI tp), .int (nI (pl35 + 1)), .int (nI le), .int v41, .int nu36, .int v42, .int (nI cm), .int (nI wt), .int (nI sm), .int (nI (cd.2.2.2.2.2)), .ref (a 5), .ref (a 6), .ref (a 7), .ref (a 8), .ref (a 9), .ref (a 10), .ref (a 11), .ref (a 12), .ref (a 13), .ref (a 14), .ref (a 15), .ref (a 16), .ref (a 17), .int (nI lm), .ref (a 18), .ref (a 19), .ref (a 20), .ref (a 21), .int v43, .int v44, .int v45, .int v46, .int (nI n48), .int (nI n49), .ref (a 22), .ref (a 23), .ref (a 24), .ref (a 25), .ref (a 26), .ref (a 27), .ref (a 28), .ref (a 29), .ref (a 30), .int v47]) := by rw [hw373]; exact set_ne k365 (by decide)
              have k377 : w372[19]? = some (iA E (a 19) 24 (upd f360 (nI lm).toNatClampNeg r61)) := by rw [hw373]; exact set_ne k366 (by decide)
              have k378 : w372[20]? = some (iA E (a 20) 24 (upd (fun j => nI (g369 j)) lm (nI 0))) := by rw [hw373]; exact set_eq k368
              have kp379 := keeps_set kp367 hw373 (by first | exact rfl | decide | omega | (dsimp only; omega))
              have k380 : w372[20]? = some (iA E (a 20) 24 (fun j => nI ((updn g369 lm 0) j))) := by rw [← upd_nI]; exact k378
              refine x_iload_n C dX12_readsLine_126 rfl 0 rfl rfl ?_
              refine x_bipush C (v := 62) dX12_readsLine_127 (by decide) rfl ?_
              refine x_icmp_eq C (tgt := 138) dX12_readsLine_129 (by decide) rfl (fun c381 => ?_) (fun c381 => ?_)
              · skip
                have hp382 := hv_lt (x64.symm.trans c381) (by decide)
                refine x_aload_n C dX12_readsLine_138 rfl 2 rfl rfl ?_
                refine x_vi C (As := []) (rest := []) (m_isDigit E l a cd hG w372 hW374 tp (pl35 + 1) le cm wt sm lm nu36 ⟨v41, v42, v43, v44, v45, v46, v47, n48, n49, ⟨by omega, by omega, by omega, by omega, by omega, by omega, by omega⟩, ⟨by omega, by omega⟩, zb52, k376⟩ tf k375) mf_X12_isDigit w_1341 0 k376 rfl rfl rfl (Nat.le_of_ble_eq_true rfl) ⟨(Nat.le_of_ble_eq_true rfl), (Nat.le_of_ble_eq_true rfl)⟩ ⟨(Nat.le_of_ble_eq_true rfl), (Nat.le_of_ble_eq_true rfl)⟩ dX12_readsLine_139 rfl (fun r384 w385 h383 => ?_)
                obtain ⟨hW386, zb387, x388⟩ := h383
                refine x_ws hW386 ?_
                refine x_if_ne C (tgt := 155) dX12_readsLine_142 (by decide) rfl (fun c389 => ?_) (fun c389 => ?_)
                · skip
                  obtain ⟨d390, hd391, ed392, hp393⟩ := x388 c389
                  refine x_aload_n C dX12_readsLine_155 rfl 2 rfl rfl ?_
                  refine x_vi C (As := []) (rest := []) (m_here E l a cd hG w372 hW374 tp (pl35 + 1) le cm wt sm lm nu36 ⟨v41, v42, v43, v44, v45, v46, v47, n48, n49, ⟨by omega, by omega, by omega, by omega, by omega, by omega, by omega⟩, ⟨by omega, by omega⟩, zb52, k376⟩ tf k375) mf_X12_here w_1317 0 k376 rfl rfl rfl (Nat.le_of_ble_eq_true rfl) ⟨(Nat.le_of_ble_eq_true rfl), (Nat.le_of_ble_eq_true rfl)⟩ ⟨(Nat.le_of_ble_eq_true rfl), (Nat.le_of_ble_eq_true rfl)⟩ dX12_readsLine_156 rfl (fun r395 w396 h394 => ?_)
                  obtain ⟨hW397, x398⟩ := h394
                  refine x_ws hW397 ?_
                  refine x_top (x398.trans ed392) ?_
                  refine x_bipush C (v := 55) dX12_readsLine_159 (by decide) rfl ?_
                  refine x_icmp_le C (tgt := 174) dX12_readsLine_161 (by decide) rfl (fun c399 => ?_) (fun c399 => ?_)
                  · skip
                    have nf400 := nI_le' (a := (48 + d390)) (b := 55) c399 (by omega) (by omega)
                    refine x_aload_n C dX12_readsLine_174 rfl 2 rfl rfl ?_
                    refine x_get C (ci := 11) (k := 30) 0 k376 rfl in_X12 (by decide) w_1148 rfl dX12_readsLine_175 rfl ?_
                    refine x_aload_n C dX12_readsLine_178 rfl 2 rfl rfl ?_
                    refine x_get C (ci := 11) (k := 27) 0 k376 rfl in_X12 (by decide) w_1145 rfl dX12_readsLine_179 rfl ?_
                    refine x_aload_n C dX12_readsLine_182 rfl 2 rfl rfl ?_
                    refine x_vi C (As := []) (rest := [.int (nI lm), .ref (a 20)]) (m_here E l a cd hG w372 hW374 tp (pl35 + 1) le cm wt sm lm nu36 ⟨v41, v42, v43, v44, v45, v46, v47, n48, n49, ⟨by omega, by omega, by omega, by omega, by omega, by omega, by omega⟩, ⟨by omega, by omega⟩, zb52, k376⟩ tf k375) mf_X12_here w_1317 0 k376 rfl rfl rfl (Nat.le_of_ble_eq_true rfl) ⟨(Nat.le_of_ble_eq_true rfl), (Nat.le_of_ble_eq_true rfl)⟩ ⟨(Nat.le_of_ble_eq_true rfl), (Nat.le_of_ble_eq_true rfl)⟩ dX12_readsLine_183 rfl (fun r402 w403 h401 => ?_)
                    obtain ⟨hW404, x405⟩ := h401
                    refine x_ws hW404 ?_
                    refine x_top (x405.trans ed392) ?_
                    refine x_bipush C (v := 48) dX12_readsLine_186 (by decide) rfl ?_
                    refine x_isub C (v := (nI ((48 + d390) - 48))) dX12_readsLine_188 (pk_sub (a := (48 + d390)) (b := 48) (by omega)) rfl ?_
                    have gb406 := updn_le (i := lm) (v := ((48 + d390) - 48)) gb371 (by omega)
                    obtain ⟨w407, hw408⟩ : ∃ w : va_W, w = List.set w372 20 (iA E (a 20) 24 (upd (fun j => nI ((updn g369 lm 0) j)) lm (nI ((48 + d390) - 48)))) := ⟨_, rfl⟩
                    refine x_iask C lm (nI_clamp (by omega)) (nI_pos (by omega)) (by omega) 20 k380 hw408.symm dX12_readsLine_189 rfl ?_
                    have hW409 : WX (okM E a cd) w407 := by rw [hw408]; exact hW374.set (k := 20) rfl ⟨_, gb406, iA_n (upd_nI (updn g369 lm 0) lm ((48 + d390) - 48))⟩
                    have k410 : w407[4]? = some (bA E (a 4) 260 tf) := by rw [hw408]; exact set_ne k375 (by decide)
                    have k411 : w407[0]? = some (ob (a 0) 11 [.ref (a 1), .ref (a 2), .ref (a 3), .ref (a 4), .int (nI tp), .int (nI (pl35 + 1)), .int (nI le), .int v41, .int nu36, .int v42, .int (nI cm), .int (nI wt), .int (nI sm), .int (nI (cd.2.2.2.2.2)), .ref (a 5), .ref (a 6), .ref (a 7), .ref (a 8), .ref (a 9), .ref (a 10), .ref (a 11), .ref (a 12), .ref (a 13), .ref (a 14), .ref (a 15), .ref (a 16), .ref (a 17), .int (nI lm), .ref (a 18), .ref (a 19), .ref (a 20), .ref (a 21), .int v43, .int v44, .int v45, .int v46, .int (nI n48), .int (nI n49), .ref (a 22), .ref (a 23), .ref (a 24), .ref (a 25), .ref (a 26), .ref (a 27), .ref (a 28), .ref (a 29), .ref (a 30), .int v47]) := by rw [hw408]; exact set_ne k376 (by decide)
                    have k412 : w407[19]? = some (iA E (a 19) 24 (upd f360 (nI lm).toNatClampNeg r61)) := by rw [hw408]; exact set_ne k377 (by decide)
                    have k413 : w407[20]? = some (iA E (a 20) 24 (upd (fun j => nI ((updn g369 lm 0) j)) lm (nI ((48 + d390) - 48)))) := by rw [hw408]; exact set_eq k380
                    have kp414 := keeps_set kp379 hw408 (by first | exact rfl | decide | omega | (dsimp only; omega))
                    have k415 : w407[20]? = some (iA E (a 20) 24 (fun j => nI ((updn (updn g369 lm 0) lm ((48 + d390) - 48)) j))) := by rw [← upd_nI]; exact k413
                    refine x_aload_n C dX12_readsLine_190 rfl 2 rfl rfl ?_
                    refine x_aload_n C dX12_readsLine_191 rfl 2 rfl rfl ?_
                    refine x_get C (ci := 11) (k := 5) 0 k411 rfl in_X12 (by decide) w_1123 rfl dX12_readsLine_192 rfl ?_
                    refine x_iconst C (v := 1) dX12_readsLine_195 (by decide) rfl ?_
                    refine x_iadd C (v := (nI ((pl35 + 1) + 1))) dX12_readsLine_196 (nI_add (pl35 + 1) 1) rfl ?_
                    obtain ⟨w416, hw417⟩ : ∃ w : va_W, w = List.set w407 0 (ob (a 0) 11 [.ref (a 1), .ref (a 2), .ref (a 3), .ref (a 4), .int (nI tp), .int (nI ((pl35 + 1) + 1)), .int (nI le), .int v41, .int nu36, .int v42, .int (nI cm), .int (nI wt), .int (nI sm), .int (nI (cd.2.2.2.2.2)), .ref (a 5), .ref (a 6), .ref (a 7), .ref (a 8), .ref (a 9), .ref (a 10), .ref (a 11), .ref (a 12), .ref (a 13), .ref (a 14), .ref (a 15), .ref (a 16), .ref (a 17), .int (nI lm), .ref (a 18), .ref (a 19), .ref (a 20), .ref (a 21), .int v43, .int v44, .int v45, .int v46, .int (nI n48), .int (nI n49), .ref (a 22), .ref (a 23), .ref (a 24), .ref (a 25), .ref (a 26), .ref (a 27), .ref (a 28), .ref (a 29), .ref (a 30), .int v47]) := ⟨_, rfl⟩
                    refine x_put C (ci := 11) (k := 5) (ty := .int) 0 k411 rfl in_X12 tyX12 tyX12_ok nmX12 (by decide) w_1123 rfl rfl rfl rfl (Nat.le_of_ble_eq_true rfl) hw417.symm dX12_readsLine_197 rfl ?_
                    have hW418 : WX (okM E a cd) w416 := by rw [hw417]; exact hW409.set (k := 0) rfl ⟨tp, ((pl35 + 1) + 1), le, v41, nu36, v42, cm, wt, sm, lm, v43, v44, v45, v46, n48, n49, v47, by omega, by omega, by omega, by omega, by omega, by omega, by omega, by omega, by omega, zb52, rfl⟩
                    have k419 : w416[4]? = some (bA E (a 4) 260 tf) := by rw [hw417]; exact set_ne k410 (by decide)
                    have k420 : w416[0]? = some (ob (a 0) 11 [.ref (a 1), .ref (a 2), .ref (a 3), .ref (a 4), .int (nI tp), .int (nI ((pl35 + 1) + 1)), .int (nI le), .int v41, .int nu36, .int v42, .int (nI cm), .int (nI wt), .int (nI sm), .int (nI (cd.2.2.2.2.2)), .ref (a 5), .ref (a 6), .ref (a 7), .ref (a 8), .ref (a 9), .ref (a 10), .ref (a 11), .ref (a 12), .ref (a 13), .ref (a 14), .ref (a 15), .ref (a 16), .ref (a 17), .int (nI lm), .ref (a 18), .ref (a 19), .ref (a 20), .ref (a 21), .int v43, .int v44, .int v45, .int v46, .int (nI n48), .int (nI n49), .ref (a 22), .ref (a 23), .ref (a 24), .ref (a 25), .ref (a 26), .ref (a 27), .ref (a 28), .ref (a 29), .ref (a 30), .int v47]) := by rw [hw417]; exact set_eq k411
                    have k421 : w416[19]? = some (iA E (a 19) 24 (upd f360 (nI lm).toNatClampNeg r61)) := by rw [hw417]; exact set_ne k412 (by decide)
                    have k422 : w416[20]? = some (iA E (a 20) 24 (fun j => nI ((updn (updn g369 lm 0) lm ((48 + d390) - 48)) j))) := by rw [hw417]; exact set_ne k415 (by decide)
                    have kp423 := keeps_set kp414 hw417 (by first | exact rfl | decide | omega | (dsimp only; omega))
                    refine x_aload_n C dX12_readsLine_200 rfl 2 rfl rfl ?_
                    refine x_get C (ci := 11) (k := 28) 0 k420 rfl in_X12 (by decide) w_1146 rfl dX12_readsLine_201 rfl ?_
                    refine x_aload_n C dX12_readsLine_204 rfl 2 rfl rfl ?_
                    refine x_get C (ci := 11) (k := 27) 0 k420 rfl in_X12 (by decide) w_1145 rfl dX12_readsLine_205 rfl ?_
                    refine x_iconst C (v := 1) dX12_readsLine_208 (by decide) rfl ?_
                    refine x_iadd C (v := (nI (lm + 1))) dX12_readsLine_209 (nI_add lm 1) rfl ?_
                    refine x_aload_n C dX12_readsLine_210 rfl 2 rfl rfl ?_
                    refine x_get C (ci := 11) (k := 28) 0 k420 rfl in_X12 (by decide) w_1146 rfl dX12_readsLine_211 rfl ?_
                    refine x_aload_n C dX12_readsLine_214 rfl 2 rfl rfl ?_
                    refine x_get C (ci := 11) (k := 27) 0 k420 rfl in_X12 (by decide) w_1145 rfl dX12_readsLine_215 rfl ?_
                    obtain ⟨_, k424, g425, gb426, rfl⟩ := hW418 18 _ rfl
                    refine x_ialk C (v := nI (g425 lm)) lm (nI_clamp (by omega)) (nI_pos (by omega)) (by omega) 18 k424 rfl dX12_readsLine_218 rfl ?_
                    have bx427 := gb426 lm
                    refine x_iload_n C dX12_readsLine_219 rfl 1 rfl rfl ?_
                    refine x_iadd C (v := (nI ((g425 lm) + mm55))) dX12_readsLine_220 (nI_add (g425 lm) mm55) rfl ?_
                    have gb428 := updn_leF (i := (lm + 1)) (v := ((g425 lm) + mm55)) gb426 (by omega)
                    obtain ⟨w429, hw430⟩ : ∃ w : va_W, w = List.set w416 18 (iA E (a 18) 25 (upd (fun j => nI (g425 j)) (lm + 1) (nI ((g425 lm) + mm55)))) := ⟨_, rfl⟩
                    refine x_iask C (lm + 1) (nI_clamp (by omega)) (nI_pos (by omega)) (by omega) 18 k424 hw430.symm dX12_readsLine_221 rfl ?_
                    have hW431 : WX (okM E a cd) w429 := by rw [hw430]; exact hW418.set (k := 18) rfl ⟨_, gb428, iA_n (upd_nI g425 (lm + 1) ((g425 lm) + mm55))⟩
                    have k432 : w429[4]? = some (bA E (a 4) 260 tf) := by rw [hw430]; exact set_ne k419 (by decide)
                    have k433 : w429[0]? = some (ob (a 0) 11 [.ref (a 1), .ref (a 2), .ref (a 3), .ref (a 4), .int (nI tp), .int (nI ((pl35 + 1) + 1)), .int (nI le), .int v41, .int nu36, .int v42, .int (nI cm), .int (nI wt), .int (nI sm), .int (nI (cd.2.2.2.2.2)), .ref (a 5), .ref (a 6), .ref (a 7), .ref (a 8), .ref (a 9), .ref (a 10), .ref (a 11), .ref (a 12), .ref (a 13), .ref (a 14), .ref (a 15), .ref (a 16), .ref (a 17), .int (nI lm), .ref (a 18), .ref (a 19), .ref (a 20), .ref (a 21), .int v43, .int v44, .int v45, .int v46, .int (nI n48), .int (nI n49), .ref (a 22), .ref (a 23), .ref (a 24), .ref (a 25), .ref (a 26), .ref (a 27), .ref (a 28), .ref (a 29), .ref (a 30), .int v47]) := by rw [hw430]; exact set_ne k420 (by decide)
                    have k434 : w429[19]? = some (iA E (a 19) 24 (upd f360 (nI lm).toNatClampNeg r61)) := by rw [hw430]; exact set_ne k421 (by decide)
                    have k435 : w429[20]? = some (iA E (a 20) 24 (fun j => nI ((updn (updn g369 lm 0) lm ((48 + d390) - 48)) j))) := by rw [hw430]; exact set_ne k422 (by decide)
                    have k436 : w429[18]? = some (iA E (a 18) 25 (upd (fun j => nI (g425 j)) (lm + 1) (nI ((g425 lm) + mm55)))) := by rw [hw430]; exact set_eq k424
                    have kp437 := keeps_set kp423 hw430 (by first | exact rfl | decide | omega | (dsimp only; omega))
                    have k438 : w429[18]? = some (iA E (a 18) 25 (fun j => nI ((updn g425 (lm + 1) ((g425 lm) + mm55)) j))) := by rw [← upd_nI]; exact k436
                    refine x_aload_n C dX12_readsLine_222 rfl 2 rfl rfl ?_
                    refine x_aload_n C dX12_readsLine_223 rfl 2 rfl rfl ?_
                    refine x_get C (ci := 11) (k := 27) 0 k433 rfl in_X12 (by decide) w_1145 rfl dX12_readsLine_224 rfl ?_
                    refine x_iconst C (v := 1) dX12_readsLine_227 (by decide) rfl ?_
                    refine x_iadd C (v := (nI (lm + 1))) dX12_readsLine_228 (nI_add lm 1) rfl ?_
                    obtain ⟨w439, hw440⟩ : ∃ w : va_W, w = List.set w429 0 (ob (a 0) 11 [.ref (a 1), .ref (a 2), .ref (a 3), .ref (a 4), .int (nI tp), .int (nI ((pl35 + 1) + 1)), .int (nI le), .int v41, .int nu36, .int v42, .int (nI cm), .int (nI wt), .int (nI sm), .int (nI (cd.2.2.2.2.2)), .ref (a 5), .ref (a 6), .ref (a 7), .ref (a 8), .ref (a 9), .ref (a 10), .ref (a 11), .ref (a 12), .ref (a 13), .ref (a 14), .ref (a 15), .ref (a 16), .ref (a 17), .int (nI (lm + 1)), .ref (a 18), .ref (a 19), .ref (a 20), .ref (a 21), .int v43, .int v44, .int v45, .int v46, .int (nI n48), .int (nI n49), .ref (a 22), .ref (a 23), .ref (a 24), .ref (a 25), .ref (a 26), .ref (a 27), .ref (a 28), .ref (a 29), .ref (a 30), .int v47]) := ⟨_, rfl⟩
                    refine x_put C (ci := 11) (k := 27) (ty := .int) 0 k433 rfl in_X12 tyX12 tyX12_ok nmX12 (by decide) w_1145 rfl rfl rfl rfl (Nat.le_of_ble_eq_true rfl) hw440.symm dX12_readsLine_229 rfl ?_
                    have hW441 : WX (okM E a cd) w439 := by rw [hw440]; exact hW431.set (k := 0) rfl ⟨tp, ((pl35 + 1) + 1), le, v41, nu36, v42, cm, wt, sm, (lm + 1), v43, v44, v45, v46, n48, n49, v47, by omega, by omega, by omega, by omega, by omega, by omega, by omega, by omega, by omega, zb52, rfl⟩
                    have k442 : w439[4]? = some (bA E (a 4) 260 tf) := by rw [hw440]; exact set_ne k432 (by decide)
                    have k443 : w439[0]? = some (ob (a 0) 11 [.ref (a 1), .ref (a 2), .ref (a 3), .ref (a 4), .int (nI tp), .int (nI ((pl35 + 1) + 1)), .int (nI le), .int v41, .int nu36, .int v42, .int (nI cm), .int (nI wt), .int (nI sm), .int (nI (cd.2.2.2.2.2)), .ref (a 5), .ref (a 6), .ref (a 7), .ref (a 8), .ref (a 9), .ref (a 10), .ref (a 11), .ref (a 12), .ref (a 13), .ref (a 14), .ref (a 15), .ref (a 16), .ref (a 17), .int (nI (lm + 1)), .ref (a 18), .ref (a 19), .ref (a 20), .ref (a 21), .int v43, .int v44, .int v45, .int v46, .int (nI n48), .int (nI n49), .ref (a 22), .ref (a 23), .ref (a 24), .ref (a 25), .ref (a 26), .ref (a 27), .ref (a 28), .ref (a 29), .ref (a 30), .int v47]) := by rw [hw440]; exact set_eq k433
                    have k444 : w439[19]? = some (iA E (a 19) 24 (upd f360 (nI lm).toNatClampNeg r61)) := by rw [hw440]; exact set_ne k434 (by decide)
                    have k445 : w439[20]? = some (iA E (a 20) 24 (fun j => nI ((updn (updn g369 lm 0) lm ((48 + d390) - 48)) j))) := by rw [hw440]; exact set_ne k435 (by decide)
                    have k446 : w439[18]? = some (iA E (a 18) 25 (fun j => nI ((updn g425 (lm + 1) ((g425 lm) + mm55)) j))) := by rw [hw440]; exact set_ne k438 (by decide)
                    have kp447 := keeps_set kp437 hw440 (by first | exact rfl | decide | omega | (dsimp only; omega))
                    refine x_iconst C (v := 1) dX12_readsLine_232 (by decide) rfl ?_
                    exact x_zret C hr hlk rfl dX12_readsLine_233 ⟨hW441, kp447, (Or.inr rfl), ⟨((pl35 + 1) + 1), (lm + 1), nu36, by omega, by omega, by omega, ⟨v41, v42, v43, v44, v45, v46, v47, n48, n49, ⟨by omega, by omega, by omega, by omega, by omega, by omega, by omega⟩, ⟨by omega, by omega⟩, zb52, k443⟩⟩⟩
                  · skip
                    have nf448 := nI_nle' (a := (48 + d390)) (b := 55) c399 (by omega) (by omega)
                    refine x_aload_n C dX12_readsLine_164 rfl 2 rfl rfl ?_
                    refine x_iconst C (v := 3) dX12_readsLine_165 (by decide) rfl ?_
                    refine x_aload_n C dX12_readsLine_166 rfl 2 rfl rfl ?_
                    refine x_get C (ci := 11) (k := 5) 0 k376 rfl in_X12 (by decide) w_1123 rfl dX12_readsLine_167 rfl ?_
                    refine x_vi C (As := [.int 3, .int (nI (pl35 + 1))]) (rest := []) (m_wrongAt E l a cd hG w372 hW374 (3 : Int32) ((nI (pl35 + 1))) tp (pl35 + 1) le cm wt sm lm nu36 ⟨v41, v42, v43, v44, v45, v46, v47, n48, n49, ⟨by omega, by omega, by omega, by omega, by omega, by omega, by omega⟩, ⟨by omega, by omega⟩, zb52, k376⟩) mf_X12_wrongAt w_1324 0 k376 rfl rfl rfl (Nat.le_of_ble_eq_true rfl) ⟨(Nat.le_of_ble_eq_true rfl), (Nat.le_of_ble_eq_true rfl)⟩ ⟨(Nat.le_of_ble_eq_true rfl), (Nat.le_of_ble_eq_true rfl)⟩ dX12_readsLine_170 rfl (fun r450 w451 h449 => ?_)
                    obtain ⟨hW452, kq453, e454, x455⟩ := h449
                    refine x_top e454 ?_
                    have k456 : w451[4]? = some (bA E (a 4) 260 tf) := keeps_at kq453 k375 (by first | decide | omega | (dsimp only; omega))
                    have k457 : w451[19]? = some (iA E (a 19) 24 (upd f360 (nI lm).toNatClampNeg r61)) := keeps_at kq453 k377 (by first | decide | omega | (dsimp only; omega))
                    have k458 : w451[20]? = some (iA E (a 20) 24 (fun j => nI ((updn g369 lm 0) j))) := keeps_at kq453 k380 (by first | decide | omega | (dsimp only; omega))
                    have kp459 := keeps_tr kp379 kq453 (fun q hq => by first | omega | (dsimp only at *; omega))
                    obtain ⟨v460, v461, v462, v463, v464, v465, v466, n467, n468, bo469, bo470, zb471, k472⟩ := x455
                    exact x_zret C hr hlk rfl dX12_readsLine_173 ⟨hW452, kp459, (Or.inl rfl), ⟨((pl35 + 1)), lm, nu36, by omega, by omega, by omega, ⟨v460, v461, v462, v463, v464, v465, v466, n467, n468, ⟨by omega, by omega, by omega, by omega, by omega, by omega, by omega⟩, ⟨by omega, by omega⟩, zb471, k472⟩⟩⟩
                · skip
                  refine x_aload_n C dX12_readsLine_145 rfl 2 rfl rfl ?_
                  refine x_iconst C (v := 1) dX12_readsLine_146 (by decide) rfl ?_
                  refine x_aload_n C dX12_readsLine_147 rfl 2 rfl rfl ?_
                  refine x_get C (ci := 11) (k := 5) 0 k376 rfl in_X12 (by decide) w_1123 rfl dX12_readsLine_148 rfl ?_
                  refine x_vi C (As := [.int 1, .int (nI (pl35 + 1))]) (rest := []) (m_wrongAt E l a cd hG w372 hW374 (1 : Int32) ((nI (pl35 + 1))) tp (pl35 + 1) le cm wt sm lm nu36 ⟨v41, v42, v43, v44, v45, v46, v47, n48, n49, ⟨by omega, by omega, by omega, by omega, by omega, by omega, by omega⟩, ⟨by omega, by omega⟩, zb52, k376⟩) mf_X12_wrongAt w_1324 0 k376 rfl rfl rfl (Nat.le_of_ble_eq_true rfl) ⟨(Nat.le_of_ble_eq_true rfl), (Nat.le_of_ble_eq_true rfl)⟩ ⟨(Nat.le_of_ble_eq_true rfl), (Nat.le_of_ble_eq_true rfl)⟩ dX12_readsLine_151 rfl (fun r474 w475 h473 => ?_)
                  obtain ⟨hW476, kq477, e478, x479⟩ := h473
                  refine x_top e478 ?_
                  have k480 : w475[4]? = some (bA E (a 4) 260 tf) := keeps_at kq477 k375 (by first | decide | omega | (dsimp only; omega))
                  have k481 : w475[19]? = some (iA E (a 19) 24 (upd f360 (nI lm).toNatClampNeg r61)) := keeps_at kq477 k377 (by first | decide | omega | (dsimp only; omega))
                  have k482 : w475[20]? = some (iA E (a 20) 24 (fun j => nI ((updn g369 lm 0) j))) := keeps_at kq477 k380 (by first | decide | omega | (dsimp only; omega))
                  have kp483 := keeps_tr kp379 kq477 (fun q hq => by first | omega | (dsimp only at *; omega))
                  obtain ⟨v484, v485, v486, v487, v488, v489, v490, n491, n492, bo493, bo494, zb495, k496⟩ := x479
                  exact x_zret C hr hlk rfl dX12_readsLine_154 ⟨hW476, kp483, (Or.inl rfl), ⟨((pl35 + 1)), lm, nu36, by omega, by omega, by omega, ⟨v484, v485, v486, v487, v488, v489, v490, n491, n492, ⟨by omega, by omega, by omega, by omega, by omega, by omega, by omega⟩, ⟨by omega, by omega⟩, zb495, k496⟩⟩⟩
              · skip
                refine x_iload_n C dX12_readsLine_132 rfl 0 rfl rfl ?_
                refine x_bipush C (v := 33) dX12_readsLine_133 (by decide) rfl ?_
                refine x_icmp_ne C (tgt := 200) dX12_readsLine_135 (by decide) rfl (fun c497 => ?_) (fun c497 => ?_)
                · skip
                  refine x_aload_n C dX12_readsLine_200 rfl 2 rfl rfl ?_
                  refine x_get C (ci := 11) (k := 28) 0 k376 rfl in_X12 (by decide) w_1146 rfl dX12_readsLine_201 rfl ?_
                  refine x_aload_n C dX12_readsLine_204 rfl 2 rfl rfl ?_
                  refine x_get C (ci := 11) (k := 27) 0 k376 rfl in_X12 (by decide) w_1145 rfl dX12_readsLine_205 rfl ?_
                  refine x_iconst C (v := 1) dX12_readsLine_208 (by decide) rfl ?_
                  refine x_iadd C (v := (nI (lm + 1))) dX12_readsLine_209 (nI_add lm 1) rfl ?_
                  refine x_aload_n C dX12_readsLine_210 rfl 2 rfl rfl ?_
                  refine x_get C (ci := 11) (k := 28) 0 k376 rfl in_X12 (by decide) w_1146 rfl dX12_readsLine_211 rfl ?_
                  refine x_aload_n C dX12_readsLine_214 rfl 2 rfl rfl ?_
                  refine x_get C (ci := 11) (k := 27) 0 k376 rfl in_X12 (by decide) w_1145 rfl dX12_readsLine_215 rfl ?_
                  obtain ⟨_, k498, g499, gb500, rfl⟩ := hW374 18 _ rfl
                  refine x_ialk C (v := nI (g499 lm)) lm (nI_clamp (by omega)) (nI_pos (by omega)) (by omega) 18 k498 rfl dX12_readsLine_218 rfl ?_
                  have bx501 := gb500 lm
                  refine x_iload_n C dX12_readsLine_219 rfl 1 rfl rfl ?_
                  refine x_iadd C (v := (nI ((g499 lm) + mm55))) dX12_readsLine_220 (nI_add (g499 lm) mm55) rfl ?_
                  have gb502 := updn_leF (i := (lm + 1)) (v := ((g499 lm) + mm55)) gb500 (by omega)
                  obtain ⟨w503, hw504⟩ : ∃ w : va_W, w = List.set w372 18 (iA E (a 18) 25 (upd (fun j => nI (g499 j)) (lm + 1) (nI ((g499 lm) + mm55)))) := ⟨_, rfl⟩
                  refine x_iask C (lm + 1) (nI_clamp (by omega)) (nI_pos (by omega)) (by omega) 18 k498 hw504.symm dX12_readsLine_221 rfl ?_
                  have hW505 : WX (okM E a cd) w503 := by rw [hw504]; exact hW374.set (k := 18) rfl ⟨_, gb502, iA_n (upd_nI g499 (lm + 1) ((g499 lm) + mm55))⟩
                  have k506 : w503[4]? = some (bA E (a 4) 260 tf) := by rw [hw504]; exact set_ne k375 (by decide)
                  have k507 : w503[0]? = some (ob (a 0) 11 [.ref (a 1), .ref (a 2), .ref (a 3), .ref (a 4), .int (nI tp), .int (nI (pl35 + 1)), .int (nI le), .int v41, .int nu36, .int v42, .int (nI cm), .int (nI wt), .int (nI sm), .int (nI (cd.2.2.2.2.2)), .ref (a 5), .ref (a 6), .ref (a 7), .ref (a 8), .ref (a 9), .ref (a 10), .ref (a 11), .ref (a 12), .ref (a 13), .ref (a 14), .ref (a 15), .ref (a 16), .ref (a 17), .int (nI lm), .ref (a 18), .ref (a 19), .ref (a 20), .ref (a 21), .int v43, .int v44, .int v45, .int v46, .int (nI n48), .int (nI n49), .ref (a 22), .ref (a 23), .ref (a 24), .ref (a 25), .ref (a 26), .ref (a 27), .ref (a 28), .ref (a 29), .ref (a 30), .int v47]) := by rw [hw504]; exact set_ne k376 (by decide)
                  have k508 : w503[19]? = some (iA E (a 19) 24 (upd f360 (nI lm).toNatClampNeg r61)) := by rw [hw504]; exact set_ne k377 (by decide)
                  have k509 : w503[20]? = some (iA E (a 20) 24 (fun j => nI ((updn g369 lm 0) j))) := by rw [hw504]; exact set_ne k380 (by decide)
                  have k510 : w503[18]? = some (iA E (a 18) 25 (upd (fun j => nI (g499 j)) (lm + 1) (nI ((g499 lm) + mm55)))) := by rw [hw504]; exact set_eq k498
                  have kp511 := keeps_set kp379 hw504 (by first | exact rfl | decide | omega | (dsimp only; omega))
                  have k512 : w503[18]? = some (iA E (a 18) 25 (fun j => nI ((updn g499 (lm + 1) ((g499 lm) + mm55)) j))) := by rw [← upd_nI]; exact k510
                  refine x_aload_n C dX12_readsLine_222 rfl 2 rfl rfl ?_
                  refine x_aload_n C dX12_readsLine_223 rfl 2 rfl rfl ?_
                  refine x_get C (ci := 11) (k := 27) 0 k507 rfl in_X12 (by decide) w_1145 rfl dX12_readsLine_224 rfl ?_
                  refine x_iconst C (v := 1) dX12_readsLine_227 (by decide) rfl ?_
                  refine x_iadd C (v := (nI (lm + 1))) dX12_readsLine_228 (nI_add lm 1) rfl ?_
                  obtain ⟨w513, hw514⟩ : ∃ w : va_W, w = List.set w503 0 (ob (a 0) 11 [.ref (a 1), .ref (a 2), .ref (a 3), .ref (a 4), .int (nI tp), .int (nI (pl35 + 1)), .int (nI le), .int v41, .int nu36, .int v42, .int (nI cm), .int (nI wt), .int (nI sm), .int (nI (cd.2.2.2.2.2)), .ref (a 5), .ref (a 6), .ref (a 7), .ref (a 8), .ref (a 9), .ref (a 10), .ref (a 11), .ref (a 12), .ref (a 13), .ref (a 14), .ref (a 15), .ref (a 16), .ref (a 17), .int (nI (lm + 1)), .ref (a 18), .ref (a 19), .ref (a 20), .ref (a 21), .int v43, .int v44, .int v45, .int v46, .int (nI n48), .int (nI n49), .ref (a 22), .ref (a 23), .ref (a 24), .ref (a 25), .ref (a 26), .ref (a 27), .ref (a 28), .ref (a 29), .ref (a 30), .int v47]) := ⟨_, rfl⟩
                  refine x_put C (ci := 11) (k := 27) (ty := .int) 0 k507 rfl in_X12 tyX12 tyX12_ok nmX12 (by decide) w_1145 rfl rfl rfl rfl (Nat.le_of_ble_eq_true rfl) hw514.symm dX12_readsLine_229 rfl ?_
                  have hW515 : WX (okM E a cd) w513 := by rw [hw514]; exact hW505.set (k := 0) rfl ⟨tp, (pl35 + 1), le, v41, nu36, v42, cm, wt, sm, (lm + 1), v43, v44, v45, v46, n48, n49, v47, by omega, by omega, by omega, by omega, by omega, by omega, by omega, by omega, by omega, zb52, rfl⟩
                  have k516 : w513[4]? = some (bA E (a 4) 260 tf) := by rw [hw514]; exact set_ne k506 (by decide)
                  have k517 : w513[0]? = some (ob (a 0) 11 [.ref (a 1), .ref (a 2), .ref (a 3), .ref (a 4), .int (nI tp), .int (nI (pl35 + 1)), .int (nI le), .int v41, .int nu36, .int v42, .int (nI cm), .int (nI wt), .int (nI sm), .int (nI (cd.2.2.2.2.2)), .ref (a 5), .ref (a 6), .ref (a 7), .ref (a 8), .ref (a 9), .ref (a 10), .ref (a 11), .ref (a 12), .ref (a 13), .ref (a 14), .ref (a 15), .ref (a 16), .ref (a 17), .int (nI (lm + 1)), .ref (a 18), .ref (a 19), .ref (a 20), .ref (a 21), .int v43, .int v44, .int v45, .int v46, .int (nI n48), .int (nI n49), .ref (a 22), .ref (a 23), .ref (a 24), .ref (a 25), .ref (a 26), .ref (a 27), .ref (a 28), .ref (a 29), .ref (a 30), .int v47]) := by rw [hw514]; exact set_eq k507
                  have k518 : w513[19]? = some (iA E (a 19) 24 (upd f360 (nI lm).toNatClampNeg r61)) := by rw [hw514]; exact set_ne k508 (by decide)
                  have k519 : w513[20]? = some (iA E (a 20) 24 (fun j => nI ((updn g369 lm 0) j))) := by rw [hw514]; exact set_ne k509 (by decide)
                  have k520 : w513[18]? = some (iA E (a 18) 25 (fun j => nI ((updn g499 (lm + 1) ((g499 lm) + mm55)) j))) := by rw [hw514]; exact set_ne k512 (by decide)
                  have kp521 := keeps_set kp511 hw514 (by first | exact rfl | decide | omega | (dsimp only; omega))
                  refine x_iconst C (v := 1) dX12_readsLine_232 (by decide) rfl ?_
                  exact x_zret C hr hlk rfl dX12_readsLine_233 ⟨hW515, kp521, (Or.inr rfl), ⟨(pl35 + 1), (lm + 1), nu36, by omega, by omega, by omega, ⟨v41, v42, v43, v44, v45, v46, v47, n48, n49, ⟨by omega, by omega, by omega, by omega, by omega, by omega, by omega⟩, ⟨by omega, by omega⟩, zb52, k517⟩⟩⟩
                · skip
                  have hp522 := hv_lt (x64.symm.trans c497) (by decide)
                  refine x_aload_n C dX12_readsLine_138 rfl 2 rfl rfl ?_
                  refine x_vi C (As := []) (rest := []) (m_isDigit E l a cd hG w372 hW374 tp (pl35 + 1) le cm wt sm lm nu36 ⟨v41, v42, v43, v44, v45, v46, v47, n48, n49, ⟨by omega, by omega, by omega, by omega, by omega, by omega, by omega⟩, ⟨by omega, by omega⟩, zb52, k376⟩ tf k375) mf_X12_isDigit w_1341 0 k376 rfl rfl rfl (Nat.le_of_ble_eq_true rfl) ⟨(Nat.le_of_ble_eq_true rfl), (Nat.le_of_ble_eq_true rfl)⟩ ⟨(Nat.le_of_ble_eq_true rfl), (Nat.le_of_ble_eq_true rfl)⟩ dX12_readsLine_139 rfl (fun r524 w525 h523 => ?_)
                  obtain ⟨hW526, zb527, x528⟩ := h523
                  refine x_ws hW526 ?_
                  refine x_if_ne C (tgt := 155) dX12_readsLine_142 (by decide) rfl (fun c529 => ?_) (fun c529 => ?_)
                  · skip
                    obtain ⟨d530, hd531, ed532, hp533⟩ := x528 c529
                    refine x_aload_n C dX12_readsLine_155 rfl 2 rfl rfl ?_
                    refine x_vi C (As := []) (rest := []) (m_here E l a cd hG w372 hW374 tp (pl35 + 1) le cm wt sm lm nu36 ⟨v41, v42, v43, v44, v45, v46, v47, n48, n49, ⟨by omega, by omega, by omega, by omega, by omega, by omega, by omega⟩, ⟨by omega, by omega⟩, zb52, k376⟩ tf k375) mf_X12_here w_1317 0 k376 rfl rfl rfl (Nat.le_of_ble_eq_true rfl) ⟨(Nat.le_of_ble_eq_true rfl), (Nat.le_of_ble_eq_true rfl)⟩ ⟨(Nat.le_of_ble_eq_true rfl), (Nat.le_of_ble_eq_true rfl)⟩ dX12_readsLine_156 rfl (fun r535 w536 h534 => ?_)
                    obtain ⟨hW537, x538⟩ := h534
                    refine x_ws hW537 ?_
                    refine x_top (x538.trans ed532) ?_
                    refine x_bipush C (v := 55) dX12_readsLine_159 (by decide) rfl ?_
                    refine x_icmp_le C (tgt := 174) dX12_readsLine_161 (by decide) rfl (fun c539 => ?_) (fun c539 => ?_)
                    · skip
                      have nf540 := nI_le' (a := (48 + d530)) (b := 55) c539 (by omega) (by omega)
                      refine x_aload_n C dX12_readsLine_174 rfl 2 rfl rfl ?_
                      refine x_get C (ci := 11) (k := 30) 0 k376 rfl in_X12 (by decide) w_1148 rfl dX12_readsLine_175 rfl ?_
                      refine x_aload_n C dX12_readsLine_178 rfl 2 rfl rfl ?_
                      refine x_get C (ci := 11) (k := 27) 0 k376 rfl in_X12 (by decide) w_1145 rfl dX12_readsLine_179 rfl ?_
                      refine x_aload_n C dX12_readsLine_182 rfl 2 rfl rfl ?_
                      refine x_vi C (As := []) (rest := [.int (nI lm), .ref (a 20)]) (m_here E l a cd hG w372 hW374 tp (pl35 + 1) le cm wt sm lm nu36 ⟨v41, v42, v43, v44, v45, v46, v47, n48, n49, ⟨by omega, by omega, by omega, by omega, by omega, by omega, by omega⟩, ⟨by omega, by omega⟩, zb52, k376⟩ tf k375) mf_X12_here w_1317 0 k376 rfl rfl rfl (Nat.le_of_ble_eq_true rfl) ⟨(Nat.le_of_ble_eq_true rfl), (Nat.le_of_ble_eq_true rfl)⟩ ⟨(Nat.le_of_ble_eq_true rfl), (Nat.le_of_ble_eq_true rfl)⟩ dX12_readsLine_183 rfl (fun r542 w543 h541 => ?_)
                      obtain ⟨hW544, x545⟩ := h541
                      refine x_ws hW544 ?_
                      refine x_top (x545.trans ed532) ?_
                      refine x_bipush C (v := 48) dX12_readsLine_186 (by decide) rfl ?_
                      refine x_isub C (v := (nI ((48 + d530) - 48))) dX12_readsLine_188 (pk_sub (a := (48 + d530)) (b := 48) (by omega)) rfl ?_
                      have gb546 := updn_le (i := lm) (v := ((48 + d530) - 48)) gb371 (by omega)
                      obtain ⟨w547, hw548⟩ : ∃ w : va_W, w = List.set w372 20 (iA E (a 20) 24 (upd (fun j => nI ((updn g369 lm 0) j)) lm (nI ((48 + d530) - 48)))) := ⟨_, rfl⟩
                      refine x_iask C lm (nI_clamp (by omega)) (nI_pos (by omega)) (by omega) 20 k380 hw548.symm dX12_readsLine_189 rfl ?_
                      have hW549 : WX (okM E a cd) w547 := by rw [hw548]; exact hW374.set (k := 20) rfl ⟨_, gb546, iA_n (upd_nI (updn g369 lm 0) lm ((48 + d530) - 48))⟩
                      have k550 : w547[4]? = some (bA E (a 4) 260 tf) := by rw [hw548]; exact set_ne k375 (by decide)
                      have k551 : w547[0]? = some (ob (a 0) 11 [.ref (a 1), .ref (a 2), .ref (a 3), .ref (a 4), .int (nI tp), .int (nI (pl35 + 1)), .int (nI le), .int v41, .int nu36, .int v42, .int (nI cm), .int (nI wt), .int (nI sm), .int (nI (cd.2.2.2.2.2)), .ref (a 5), .ref (a 6), .ref (a 7), .ref (a 8), .ref (a 9), .ref (a 10), .ref (a 11), .ref (a 12), .ref (a 13), .ref (a 14), .ref (a 15), .ref (a 16), .ref (a 17), .int (nI lm), .ref (a 18), .ref (a 19), .ref (a 20), .ref (a 21), .int v43, .int v44, .int v45, .int v46, .int (nI n48), .int (nI n49), .ref (a 22), .ref (a 23), .ref (a 24), .ref (a 25), .ref (a 26), .ref (a 27), .ref (a 28), .ref (a 29), .ref (a 30), .int v47]) := by rw [hw548]; exact set_ne k376 (by decide)
                      have k552 : w547[19]? = some (iA E (a 19) 24 (upd f360 (nI lm).toNatClampNeg r61)) := by rw [hw548]; exact set_ne k377 (by decide)
                      have k553 : w547[20]? = some (iA E (a 20) 24 (upd (fun j => nI ((updn g369 lm 0) j)) lm (nI ((48 + d530) - 48)))) := by rw [hw548]; exact set_eq k380
                      have kp554 := keeps_set kp379 hw548 (by first | exact rfl | decide | omega | (dsimp only; omega))
                      have k555 : w547[20]? = some (iA E (a 20) 24 (fun j => nI ((updn (updn g369 lm 0) lm ((48 + d530) - 48)) j))) := by rw [← upd_nI]; exact k553
                      refine x_aload_n C dX12_readsLine_190 rfl 2 rfl rfl ?_
                      refine x_aload_n C dX12_readsLine_191 rfl 2 rfl rfl ?_
                      refine x_get C (ci := 11) (k := 5) 0 k551 rfl in_X12 (by decide) w_1123 rfl dX12_readsLine_192 rfl ?_
                      refine x_iconst C (v := 1) dX12_readsLine_195 (by decide) rfl ?_
                      refine x_iadd C (v := (nI ((pl35 + 1) + 1))) dX12_readsLine_196 (nI_add (pl35 + 1) 1) rfl ?_
                      obtain ⟨w556, hw557⟩ : ∃ w : va_W, w = List.set w547 0 (ob (a 0) 11 [.ref (a 1), .ref (a 2), .ref (a 3), .ref (a 4), .int (nI tp), .int (nI ((pl35 + 1) + 1)), .int (nI le), .int v41, .int nu36, .int v42, .int (nI cm), .int (nI wt), .int (nI sm), .int (nI (cd.2.2.2.2.2)), .ref (a 5), .ref (a 6), .ref (a 7), .ref (a 8), .ref (a 9), .ref (a 10), .ref (a 11), .ref (a 12), .ref (a 13), .ref (a 14), .ref (a 15), .ref (a 16), .ref (a 17), .int (nI lm), .ref (a 18), .ref (a 19), .ref (a 20), .ref (a 21), .int v43, .int v44, .int v45, .int v46, .int (nI n48), .int (nI n49), .ref (a 22), .ref (a 23), .ref (a 24), .ref (a 25), .ref (a 26), .ref (a 27), .ref (a 28), .ref (a 29), .ref (a 30), .int v47]) := ⟨_, rfl⟩
                      refine x_put C (ci := 11) (k := 5) (ty := .int) 0 k551 rfl in_X12 tyX12 tyX12_ok nmX12 (by decide) w_1123 rfl rfl rfl rfl (Nat.le_of_ble_eq_true rfl) hw557.symm dX12_readsLine_197 rfl ?_
                      have hW558 : WX (okM E a cd) w556 := by rw [hw557]; exact hW549.set (k := 0) rfl ⟨tp, ((pl35 + 1) + 1), le, v41, nu36, v42, cm, wt, sm, lm, v43, v44, v45, v46, n48, n49, v47, by omega, by omega, by omega, by omega, by omega, by omega, by omega, by omega, by omega, zb52, rfl⟩
                      have k559 : w556[4]? = some (bA E (a 4) 260 tf) := by rw [hw557]; exact set_ne k550 (by decide)
                      have k560 : w556[0]? = some (ob (a 0) 11 [.ref (a 1), .ref (a 2), .ref (a 3), .ref (a 4), .int (nI tp), .int (nI ((pl35 + 1) + 1)), .int (nI le), .int v41, .int nu36, .int v42, .int (nI cm), .int (nI wt), .int (nI sm), .int (nI (cd.2.2.2.2.2)), .ref (a 5), .ref (a 6), .ref (a 7), .ref (a 8), .ref (a 9), .ref (a 10), .ref (a 11), .ref (a 12), .ref (a 13), .ref (a 14), .ref (a 15), .ref (a 16), .ref (a 17), .int (nI lm), .ref (a 18), .ref (a 19), .ref (a 20), .ref (a 21), .int v43, .int v44, .int v45, .int v46, .int (nI n48), .int (nI n49), .ref (a 22), .ref (a 23), .ref (a 24), .ref (a 25), .ref (a 26), .ref (a 27), .ref (a 28), .ref (a 29), .ref (a 30), .int v47]) := by rw [hw557]; exact set_eq k551
                      have k561 : w556[19]? = some (iA E (a 19) 24 (upd f360 (nI lm).toNatClampNeg r61)) := by rw [hw557]; exact set_ne k552 (by decide)
                      have k562 : w556[20]? = some (iA E (a 20) 24 (fun j => nI ((updn (updn g369 lm 0) lm ((48 + d530) - 48)) j))) := by rw [hw557]; exact set_ne k555 (by decide)
                      have kp563 := keeps_set kp554 hw557 (by first | exact rfl | decide | omega | (dsimp only; omega))
                      refine x_aload_n C dX12_readsLine_200 rfl 2 rfl rfl ?_
                      refine x_get C (ci := 11) (k := 28) 0 k560 rfl in_X12 (by decide) w_1146 rfl dX12_readsLine_201 rfl ?_
                      refine x_aload_n C dX12_readsLine_204 rfl 2 rfl rfl ?_
                      refine x_get C (ci := 11) (k := 27) 0 k560 rfl in_X12 (by decide) w_1145 rfl dX12_readsLine_205 rfl ?_
                      refine x_iconst C (v := 1) dX12_readsLine_208 (by decide) rfl ?_
                      refine x_iadd C (v := (nI (lm + 1))) dX12_readsLine_209 (nI_add lm 1) rfl ?_
                      refine x_aload_n C dX12_readsLine_210 rfl 2 rfl rfl ?_
                      refine x_get C (ci := 11) (k := 28) 0 k560 rfl in_X12 (by decide) w_1146 rfl dX12_readsLine_211 rfl ?_
                      refine x_aload_n C dX12_readsLine_214 rfl 2 rfl rfl ?_
                      refine x_get C (ci := 11) (k := 27) 0 k560 rfl in_X12 (by decide) w_1145 rfl dX12_readsLine_215 rfl ?_
                      obtain ⟨_, k564, g565, gb566, rfl⟩ := hW558 18 _ rfl
                      refine x_ialk C (v := nI (g565 lm)) lm (nI_clamp (by omega)) (nI_pos (by omega)) (by omega) 18 k564 rfl dX12_readsLine_218 rfl ?_
                      have bx567 := gb566 lm
                      refine x_iload_n C dX12_readsLine_219 rfl 1 rfl rfl ?_
                      refine x_iadd C (v := (nI ((g565 lm) + mm55))) dX12_readsLine_220 (nI_add (g565 lm) mm55) rfl ?_
                      have gb568 := updn_leF (i := (lm + 1)) (v := ((g565 lm) + mm55)) gb566 (by omega)
                      obtain ⟨w569, hw570⟩ : ∃ w : va_W, w = List.set w556 18 (iA E (a 18) 25 (upd (fun j => nI (g565 j)) (lm + 1) (nI ((g565 lm) + mm55)))) := ⟨_, rfl⟩
                      refine x_iask C (lm + 1) (nI_clamp (by omega)) (nI_pos (by omega)) (by omega) 18 k564 hw570.symm dX12_readsLine_221 rfl ?_
                      have hW571 : WX (okM E a cd) w569 := by rw [hw570]; exact hW558.set (k := 18) rfl ⟨_, gb568, iA_n (upd_nI g565 (lm + 1) ((g565 lm) + mm55))⟩
                      have k572 : w569[4]? = some (bA E (a 4) 260 tf) := by rw [hw570]; exact set_ne k559 (by decide)
                      have k573 : w569[0]? = some (ob (a 0) 11 [.ref (a 1), .ref (a 2), .ref (a 3), .ref (a 4), .int (nI tp), .int (nI ((pl35 + 1) + 1)), .int (nI le), .int v41, .int nu36, .int v42, .int (nI cm), .int (nI wt), .int (nI sm), .int (nI (cd.2.2.2.2.2)), .ref (a 5), .ref (a 6), .ref (a 7), .ref (a 8), .ref (a 9), .ref (a 10), .ref (a 11), .ref (a 12), .ref (a 13), .ref (a 14), .ref (a 15), .ref (a 16), .ref (a 17), .int (nI lm), .ref (a 18), .ref (a 19), .ref (a 20), .ref (a 21), .int v43, .int v44, .int v45, .int v46, .int (nI n48), .int (nI n49), .ref (a 22), .ref (a 23), .ref (a 24), .ref (a 25), .ref (a 26), .ref (a 27), .ref (a 28), .ref (a 29), .ref (a 30), .int v47]) := by rw [hw570]; exact set_ne k560 (by decide)
                      have k574 : w569[19]? = some (iA E (a 19) 24 (upd f360 (nI lm).toNatClampNeg r61)) := by rw [hw570]; exact set_ne k561 (by decide)
                      have k575 : w569[20]? = some (iA E (a 20) 24 (fun j => nI ((updn (updn g369 lm 0) lm ((48 + d530) - 48)) j))) := by rw [hw570]; exact set_ne k562 (by decide)
                      have k576 : w569[18]? = some (iA E (a 18) 25 (upd (fun j => nI (g565 j)) (lm + 1) (nI ((g565 lm) + mm55)))) := by rw [hw570]; exact set_eq k564
                      have kp577 := keeps_set kp563 hw570 (by first | exact rfl | decide | omega | (dsimp only; omega))
                      have k578 : w569[18]? = some (iA E (a 18) 25 (fun j => nI ((updn g565 (lm + 1) ((g565 lm) + mm55)) j))) := by rw [← upd_nI]; exact k576
                      refine x_aload_n C dX12_readsLine_222 rfl 2 rfl rfl ?_
                      refine x_aload_n C dX12_readsLine_223 rfl 2 rfl rfl ?_
                      refine x_get C (ci := 11) (k := 27) 0 k573 rfl in_X12 (by decide) w_1145 rfl dX12_readsLine_224 rfl ?_
                      refine x_iconst C (v := 1) dX12_readsLine_227 (by decide) rfl ?_
                      refine x_iadd C (v := (nI (lm + 1))) dX12_readsLine_228 (nI_add lm 1) rfl ?_
                      obtain ⟨w579, hw580⟩ : ∃ w : va_W, w = List.set w569 0 (ob (a 0) 11 [.ref (a 1), .ref (a 2), .ref (a 3), .ref (a 4), .int (nI tp), .int (nI ((pl35 + 1) + 1)), .int (nI le), .int v41, .int nu36, .int v42, .int (nI cm), .int (nI wt), .int (nI sm), .int (nI (cd.2.2.2.2.2)), .ref (a 5), .ref (a 6), .ref (a 7), .ref (a 8), .ref (a 9), .ref (a 10), .ref (a 11), .ref (a 12), .ref (a 13), .ref (a 14), .ref (a 15), .ref (a 16), .ref (a 17), .int (nI (lm + 1)), .ref (a 18), .ref (a 19), .ref (a 20), .ref (a 21), .int v43, .int v44, .int v45, .int v46, .int (nI n48), .int (nI n49), .ref (a 22), .ref (a 23), .ref (a 24), .ref (a 25), .ref (a 26), .ref (a 27), .ref (a 28), .ref (a 29), .ref (a 30), .int v47]) := ⟨_, rfl⟩
                      refine x_put C (ci := 11) (k := 27) (ty := .int) 0 k573 rfl in_X12 tyX12 tyX12_ok nmX12 (by decide) w_1145 rfl rfl rfl rfl (Nat.le_of_ble_eq_true rfl) hw580.symm dX12_readsLine_229 rfl ?_
                      have hW581 : WX (okM E a cd) w579 := by rw [hw580]; exact hW571.set (k := 0) rfl ⟨tp, ((pl35 + 1) + 1), le, v41, nu36, v42, cm, wt, sm, (lm + 1), v43, v44, v45, v46, n48, n49, v47, by omega, by omega, by omega, by omega, by omega, by omega, by omega, by omega, by omega, zb52, rfl⟩
                      have k582 : w579[4]? = some (bA E (a 4) 260 tf) := by rw [hw580]; exact set_ne k572 (by decide)
                      have k583 : w579[0]? = some (ob (a 0) 11 [.ref (a 1), .ref (a 2), .ref (a 3), .ref (a 4), .int (nI tp), .int (nI ((pl35 + 1) + 1)), .int (nI le), .int v41, .int nu36, .int v42, .int (nI cm), .int (nI wt), .int (nI sm), .int (nI (cd.2.2.2.2.2)), .ref (a 5), .ref (a 6), .ref (a 7), .ref (a 8), .ref (a 9), .ref (a 10), .ref (a 11), .ref (a 12), .ref (a 13), .ref (a 14), .ref (a 15), .ref (a 16), .ref (a 17), .int (nI (lm + 1)), .ref (a 18), .ref (a 19), .ref (a 20), .ref (a 21), .int v43, .int v44, .int v45, .int v46, .int (nI n48), .int (nI n49), .ref (a 22), .ref (a 23), .ref (a 24), .ref (a 25), .ref (a 26), .ref (a 27), .ref (a 28), .ref (a 29), .ref (a 30), .int v47]) := by rw [hw580]; exact set_eq k573
                      have k584 : w579[19]? = some (iA E (a 19) 24 (upd f360 (nI lm).toNatClampNeg r61)) := by rw [hw580]; exact set_ne k574 (by decide)
                      have k585 : w579[20]? = some (iA E (a 20) 24 (fun j => nI ((updn (updn g369 lm 0) lm ((48 + d530) - 48)) j))) := by rw [hw580]; exact set_ne k575 (by decide)
                      have k586 : w579[18]? = some (iA E (a 18) 25 (fun j => nI ((updn g565 (lm + 1) ((g565 lm) + mm55)) j))) := by rw [hw580]; exact set_ne k578 (by decide)
                      have kp587 := keeps_set kp577 hw580 (by first | exact rfl | decide | omega | (dsimp only; omega))
                      refine x_iconst C (v := 1) dX12_readsLine_232 (by decide) rfl ?_
                      exact x_zret C hr hlk rfl dX12_readsLine_233 ⟨hW581, kp587, (Or.inr rfl), ⟨((pl35 + 1) + 1), (lm + 1), nu36, by omega, by omega, by omega, ⟨v41, v42, v43, v44, v45, v46, v47, n48, n49, ⟨by omega, by omega, by omega, by omega, by omega, by omega, by omega⟩, ⟨by omega, by omega⟩, zb52, k583⟩⟩⟩
                    · skip
                      have nf588 := nI_nle' (a := (48 + d530)) (b := 55) c539 (by omega) (by omega)
                      refine x_aload_n C dX12_readsLine_164 rfl 2 rfl rfl ?_
                      refine x_iconst C (v := 3) dX12_readsLine_165 (by decide) rfl ?_
                      refine x_aload_n C dX12_readsLine_166 rfl 2 rfl rfl ?_
                      refine x_get C (ci := 11) (k := 5) 0 k376 rfl in_X12 (by decide) w_1123 rfl dX12_readsLine_167 rfl ?_
                      refine x_vi C (As := [.int 3, .int (nI (pl35 + 1))]) (rest := []) (m_wrongAt E l a cd hG w372 hW374 (3 : Int32) ((nI (pl35 + 1))) tp (pl35 + 1) le cm wt sm lm nu36 ⟨v41, v42, v43, v44, v45, v46, v47, n48, n49, ⟨by omega, by omega, by omega, by omega, by omega, by omega, by omega⟩, ⟨by omega, by omega⟩, zb52, k376⟩) mf_X12_wrongAt w_1324 0 k376 rfl rfl rfl (Nat.le_of_ble_eq_true rfl) ⟨(Nat.le_of_ble_eq_true rfl), (Nat.le_of_ble_eq_true rfl)⟩ ⟨(Nat.le_of_ble_eq_true rfl), (Nat.le_of_ble_eq_true rfl)⟩ dX12_readsLine_170 rfl (fun r590 w591 h589 => ?_)
                      obtain ⟨hW592, kq593, e594, x595⟩ := h589
                      refine x_top e594 ?_
                      have k596 : w591[4]? = some (bA E (a 4) 260 tf) := keeps_at kq593 k375 (by first | decide | omega | (dsimp only; omega))
                      have k597 : w591[19]? = some (iA E (a 19) 24 (upd f360 (nI lm).toNatClampNeg r61)) := keeps_at kq593 k377 (by first | decide | omega | (dsimp only; omega))
                      have k598 : w591[20]? = some (iA E (a 20) 24 (fun j => nI ((updn g369 lm 0) j))) := keeps_at kq593 k380 (by first | decide | omega | (dsimp only; omega))
                      have kp599 := keeps_tr kp379 kq593 (fun q hq => by first | omega | (dsimp only at *; omega))
                      obtain ⟨v600, v601, v602, v603, v604, v605, v606, n607, n608, bo609, bo610, zb611, k612⟩ := x595
                      exact x_zret C hr hlk rfl dX12_readsLine_173 ⟨hW592, kp599, (Or.inl rfl), ⟨((pl35 + 1)), lm, nu36, by omega, by omega, by omega, ⟨v600, v601, v602, v603, v604, v605, v606, n607, n608, ⟨by omega, by omega, by omega, by omega, by omega, by omega, by omega⟩, ⟨by omega, by omega⟩, zb611, k612⟩⟩⟩
                  · skip
                    refine x_aload_n C dX12_readsLine_145 rfl 2 rfl rfl ?_
                    refine x_iconst C (v := 1) dX12_readsLine_146 (by decide) rfl ?_
                    refine x_aload_n C dX12_readsLine_147 rfl 2 rfl rfl ?_
                    refine x_get C (ci := 11) (k := 5) 0 k376 rfl in_X12 (by decide) w_1123 rfl dX12_readsLine_148 rfl ?_
                    refine x_vi C (As := [.int 1, .int (nI (pl35 + 1))]) (rest := []) (m_wrongAt E l a cd hG w372 hW374 (1 : Int32) ((nI (pl35 + 1))) tp (pl35 + 1) le cm wt sm lm nu36 ⟨v41, v42, v43, v44, v45, v46, v47, n48, n49, ⟨by omega, by omega, by omega, by omega, by omega, by omega, by omega⟩, ⟨by omega, by omega⟩, zb52, k376⟩) mf_X12_wrongAt w_1324 0 k376 rfl rfl rfl (Nat.le_of_ble_eq_true rfl) ⟨(Nat.le_of_ble_eq_true rfl), (Nat.le_of_ble_eq_true rfl)⟩ ⟨(Nat.le_of_ble_eq_true rfl), (Nat.le_of_ble_eq_true rfl)⟩ dX12_readsLine_151 rfl (fun r614 w615 h613 => ?_)
                    obtain ⟨hW616, kq617, e618, x619⟩ := h613
                    refine x_top e618 ?_
                    have k620 : w615[4]? = some (bA E (a 4) 260 tf) := keeps_at kq617 k375 (by first | decide | omega | (dsimp only; omega))
                    have k621 : w615[19]? = some (iA E (a 19) 24 (upd f360 (nI lm).toNatClampNeg r61)) := keeps_at kq617 k377 (by first | decide | omega | (dsimp only; omega))
                    have k622 : w615[20]? = some (iA E (a 20) 24 (fun j => nI ((updn g369 lm 0) j))) := keeps_at kq617 k380 (by first | decide | omega | (dsimp only; omega))
                    have kp623 := keeps_tr kp379 kq617 (fun q hq => by first | omega | (dsimp only at *; omega))
                    obtain ⟨v624, v625, v626, v627, v628, v629, v630, n631, n632, bo633, bo634, zb635, k636⟩ := x619
                    exact x_zret C hr hlk rfl dX12_readsLine_154 ⟨hW616, kp623, (Or.inl rfl), ⟨((pl35 + 1)), lm, nu36, by omega, by omega, by omega, ⟨v624, v625, v626, v627, v628, v629, v630, n631, n632, ⟨by omega, by omega, by omega, by omega, by omega, by omega, by omega⟩, ⟨by omega, by omega⟩, zb635, k636⟩⟩⟩
            · skip
              refine x_iload_n C dX12_readsLine_74 rfl 0 rfl rfl ?_
              refine x_bipush C (v := 46) dX12_readsLine_75 (by decide) rfl ?_
              refine x_icmp_eq C (tgt := 96) dX12_readsLine_77 (by decide) rfl (fun c637 => ?_) (fun c637 => ?_)
              · skip
                have hp638 := hv_lt (x64.symm.trans c637) (by decide)
                refine x_aload_n C dX12_readsLine_96 rfl 2 rfl rfl ?_
                refine x_aload_n C dX12_readsLine_97 rfl 2 rfl rfl ?_
                refine x_get C (ci := 11) (k := 5) 0 k53 rfl in_X12 (by decide) w_1123 rfl dX12_readsLine_98 rfl ?_
                refine x_iconst C (v := 1) dX12_readsLine_101 (by decide) rfl ?_
                refine x_iadd C (v := (nI (pl35 + 1))) dX12_readsLine_102 (nI_add pl35 1) rfl ?_
                obtain ⟨w639, hw640⟩ : ∃ w : va_W, w = List.set w29 0 (ob (a 0) 11 [.ref (a 1), .ref (a 2), .ref (a 3), .ref (a 4), .int (nI tp), .int (nI (pl35 + 1)), .int (nI le), .int v41, .int nu36, .int v42, .int (nI cm), .int (nI wt), .int (nI sm), .int (nI (cd.2.2.2.2.2)), .ref (a 5), .ref (a 6), .ref (a 7), .ref (a 8), .ref (a 9), .ref (a 10), .ref (a 11), .ref (a 12), .ref (a 13), .ref (a 14), .ref (a 15), .ref (a 16), .ref (a 17), .int (nI lm), .ref (a 18), .ref (a 19), .ref (a 20), .ref (a 21), .int v43, .int v44, .int v45, .int v46, .int (nI n48), .int (nI n49), .ref (a 22), .ref (a 23), .ref (a 24), .ref (a 25), .ref (a 26), .ref (a 27), .ref (a 28), .ref (a 29), .ref (a 30), .int v47]) := ⟨_, rfl⟩
                refine x_put C (ci := 11) (k := 5) (ty := .int) 0 k53 rfl in_X12 tyX12 tyX12_ok nmX12 (by decide) w_1123 rfl rfl rfl rfl (Nat.le_of_ble_eq_true rfl) hw640.symm dX12_readsLine_103 rfl ?_
                have hW641 : WX (okM E a cd) w639 := by rw [hw640]; exact hW30.set (k := 0) rfl ⟨tp, (pl35 + 1), le, v41, nu36, v42, cm, wt, sm, lm, v43, v44, v45, v46, n48, n49, v47, by omega, by omega, by omega, by omega, by omega, by omega, by omega, by omega, by omega, zb52, rfl⟩
                have k642 : w639[4]? = some (bA E (a 4) 260 tf) := by rw [hw640]; exact set_ne k33 (by decide)
                have k643 : w639[0]? = some (ob (a 0) 11 [.ref (a 1), .ref (a 2), .ref (a 3), .ref (a 4), .int (nI tp), .int (nI (pl35 + 1)), .int (nI le), .int v41, .int nu36, .int v42, .int (nI cm), .int (nI wt), .int (nI sm), .int (nI (cd.2.2.2.2.2)), .ref (a 5), .ref (a 6), .ref (a 7), .ref (a 8), .ref (a 9), .ref (a 10), .ref (a 11), .ref (a 12), .ref (a 13), .ref (a 14), .ref (a 15), .ref (a 16), .ref (a 17), .int (nI lm), .ref (a 18), .ref (a 19), .ref (a 20), .ref (a 21), .int v43, .int v44, .int v45, .int v46, .int (nI n48), .int (nI n49), .ref (a 22), .ref (a 23), .ref (a 24), .ref (a 25), .ref (a 26), .ref (a 27), .ref (a 28), .ref (a 29), .ref (a 30), .int v47]) := by rw [hw640]; exact set_eq k53
                have kp644 := keeps_set kp34 hw640 (by first | exact rfl | decide | omega | (dsimp only; omega))
                refine x_aload_n C dX12_readsLine_106 rfl 2 rfl rfl ?_
                refine x_get C (ci := 11) (k := 29) 0 k643 rfl in_X12 (by decide) w_1147 rfl dX12_readsLine_107 rfl ?_
                refine x_aload_n C dX12_readsLine_110 rfl 2 rfl rfl ?_
                refine x_get C (ci := 11) (k := 27) 0 k643 rfl in_X12 (by decide) w_1145 rfl dX12_readsLine_111 rfl ?_
                refine x_iload_n C dX12_readsLine_114 rfl 0 rfl rfl ?_
                obtain ⟨_, k645, f646, rfl⟩ := hW641 19 _ rfl
                obtain ⟨w647, hw648⟩ : ∃ w : va_W, w = List.set w639 19 (iA E (a 19) 24 (upd f646 (nI lm).toNatClampNeg r61)) := ⟨_, rfl⟩
                refine x_iast C 19 k645 (vp_in_nI (by omega) (by decide)) hw648.symm dX12_readsLine_115 rfl ?_
                have hW649 : WX (okM E a cd) w647 := by rw [hw648]; exact hW641.set (k := 19) rfl ⟨_, rfl⟩
                have k650 : w647[4]? = some (bA E (a 4) 260 tf) := by rw [hw648]; exact set_ne k642 (by decide)
                have k651 : w647[0]? = some (ob (a 0) 11 [.ref (a 1), .ref (a 2), .ref (a 3), .ref (a 4), .int (nI tp), .int (nI (pl35 + 1)), .int (nI le), .int v41, .int nu36, .int v42, .int (nI cm), .int (nI wt), .int (nI sm), .int (nI (cd.2.2.2.2.2)), .ref (a 5), .ref (a 6), .ref (a 7), .ref (a 8), .ref (a 9), .ref (a 10), .ref (a 11), .ref (a 12), .ref (a 13), .ref (a 14), .ref (a 15), .ref (a 16), .ref (a 17), .int (nI lm), .ref (a 18), .ref (a 19), .ref (a 20), .ref (a 21), .int v43, .int v44, .int v45, .int v46, .int (nI n48), .int (nI n49), .ref (a 22), .ref (a 23), .ref (a 24), .ref (a 25), .ref (a 26), .ref (a 27), .ref (a 28), .ref (a 29), .ref (a 30), .int v47]) := by rw [hw648]; exact set_ne k643 (by decide)
                have k652 : w647[19]? = some (iA E (a 19) 24 (upd f646 (nI lm).toNatClampNeg r61)) := by rw [hw648]; exact set_eq k645
                have kp653 := keeps_set kp644 hw648 (by first | exact rfl | decide | omega | (dsimp only; omega))
                refine x_aload_n C dX12_readsLine_116 rfl 2 rfl rfl ?_
                refine x_get C (ci := 11) (k := 30) 0 k651 rfl in_X12 (by decide) w_1148 rfl dX12_readsLine_117 rfl ?_
                refine x_aload_n C dX12_readsLine_120 rfl 2 rfl rfl ?_
                refine x_get C (ci := 11) (k := 27) 0 k651 rfl in_X12 (by decide) w_1145 rfl dX12_readsLine_121 rfl ?_
                refine x_iconst C (v := 0) dX12_readsLine_124 (by decide) rfl ?_
                obtain ⟨_, k654, g655, gb656, rfl⟩ := hW649 20 _ rfl
                have gb657 := updn_le (i := lm) (v := 0) gb656 (by omega)
                obtain ⟨w658, hw659⟩ : ∃ w : va_W, w = List.set w647 20 (iA E (a 20) 24 (upd (fun j => nI (g655 j)) lm (nI 0))) := ⟨_, rfl⟩
                refine x_iask C lm (nI_clamp (by omega)) (nI_pos (by omega)) (by omega) 20 k654 hw659.symm dX12_readsLine_125 rfl ?_
                have hW660 : WX (okM E a cd) w658 := by rw [hw659]; exact hW649.set (k := 20) rfl ⟨_, gb657, iA_n (upd_nI g655 lm 0)⟩
                have k661 : w658[4]? = some (bA E (a 4) 260 tf) := by rw [hw659]; exact set_ne k650 (by decide)
                have k662 : w658[0]? = some (ob (a 0) 11 [.ref (a 1), .ref (a 2), .ref (a 3), .ref (a 4), .int (nI tp), .int (nI (pl35 + 1)), .int (nI le), .int v41, .int nu36, .int v42, .int (nI cm), .int (nI wt), .int (nI sm), .int (nI (cd.2.2.2.2.2)), .ref (a 5), .ref (a 6), .ref (a 7), .ref (a 8), .ref (a 9), .ref (a 10), .ref (a 11), .ref (a 12), .ref (a 13), .ref (a 14), .ref (a 15), .ref (a 16), .ref (a 17), .int (nI lm), .ref (a 18), .ref (a 19), .ref (a 20), .ref (a 21), .int v43, .int v44, .int v45, .int v46, .int (nI n48), .int (nI n49), .ref (a 22), .ref (a 23), .ref (a 24), .ref (a 25), .ref (a 26), .ref (a 27), .ref (a 28), .ref (a 29), .ref (a 30), .int v47]) := by rw [hw659]; exact set_ne k651 (by decide)
                have k663 : w658[19]? = some (iA E (a 19) 24 (upd f646 (nI lm).toNatClampNeg r61)) := by rw [hw659]; exact set_ne k652 (by decide)
                have k664 : w658[20]? = some (iA E (a 20) 24 (upd (fun j => nI (g655 j)) lm (nI 0))) := by rw [hw659]; exact set_eq k654
                have kp665 := keeps_set kp653 hw659 (by first | exact rfl | decide | omega | (dsimp only; omega))
                have k666 : w658[20]? = some (iA E (a 20) 24 (fun j => nI ((updn g655 lm 0) j))) := by rw [← upd_nI]; exact k664
                refine x_iload_n C dX12_readsLine_126 rfl 0 rfl rfl ?_
                refine x_bipush C (v := 62) dX12_readsLine_127 (by decide) rfl ?_
                refine x_icmp_eq C (tgt := 138) dX12_readsLine_129 (by decide) rfl (fun c667 => ?_) (fun c667 => ?_)
                · skip
                  have hp668 := hv_lt (x64.symm.trans c667) (by decide)
                  refine x_aload_n C dX12_readsLine_138 rfl 2 rfl rfl ?_
                  refine x_vi C (As := []) (rest := []) (m_isDigit E l a cd hG w658 hW660 tp (pl35 + 1) le cm wt sm lm nu36 ⟨v41, v42, v43, v44, v45, v46, v47, n48, n49, ⟨by omega, by omega, by omega, by omega, by omega, by omega, by omega⟩, ⟨by omega, by omega⟩, zb52, k662⟩ tf k661) mf_X12_isDigit w_1341 0 k662 rfl rfl rfl (Nat.le_of_ble_eq_true rfl) ⟨(Nat.le_of_ble_eq_true rfl), (Nat.le_of_ble_eq_true rfl)⟩ ⟨(Nat.le_of_ble_eq_true rfl), (Nat.le_of_ble_eq_true rfl)⟩ dX12_readsLine_139 rfl (fun r670 w671 h669 => ?_)
                  obtain ⟨hW672, zb673, x674⟩ := h669
                  refine x_ws hW672 ?_
                  refine x_if_ne C (tgt := 155) dX12_readsLine_142 (by decide) rfl (fun c675 => ?_) (fun c675 => ?_)
                  · skip
                    obtain ⟨d676, hd677, ed678, hp679⟩ := x674 c675
                    refine x_aload_n C dX12_readsLine_155 rfl 2 rfl rfl ?_
                    refine x_vi C (As := []) (rest := []) (m_here E l a cd hG w658 hW660 tp (pl35 + 1) le cm wt sm lm nu36 ⟨v41, v42, v43, v44, v45, v46, v47, n48, n49, ⟨by omega, by omega, by omega, by omega, by omega, by omega, by omega⟩, ⟨by omega, by omega⟩, zb52, k662⟩ tf k661) mf_X12_here w_1317 0 k662 rfl rfl rfl (Nat.le_of_ble_eq_true rfl) ⟨(Nat.le_of_ble_eq_true rfl), (Nat.le_of_ble_eq_true rfl)⟩ ⟨(Nat.le_of_ble_eq_true rfl), (Nat.le_of_ble_eq_true rfl)⟩ dX12_readsLine_156 rfl (fun r681 w682 h680 => ?_)
                    obtain ⟨hW683, x684⟩ := h680
                    refine x_ws hW683 ?_
                    refine x_top (x684.trans ed678) ?_
                    refine x_bipush C (v := 55) dX12_readsLine_159 (by decide) rfl ?_
                    refine x_icmp_le C (tgt := 174) dX12_readsLine_161 (by decide) rfl (fun c685 => ?_) (fun c685 => ?_)
                    · skip
                      have nf686 := nI_le' (a := (48 + d676)) (b := 55) c685 (by omega) (by omega)
                      refine x_aload_n C dX12_readsLine_174 rfl 2 rfl rfl ?_
                      refine x_get C (ci := 11) (k := 30) 0 k662 rfl in_X12 (by decide) w_1148 rfl dX12_readsLine_175 rfl ?_
                      refine x_aload_n C dX12_readsLine_178 rfl 2 rfl rfl ?_
                      refine x_get C (ci := 11) (k := 27) 0 k662 rfl in_X12 (by decide) w_1145 rfl dX12_readsLine_179 rfl ?_
                      refine x_aload_n C dX12_readsLine_182 rfl 2 rfl rfl ?_
                      refine x_vi C (As := []) (rest := [.int (nI lm), .ref (a 20)]) (m_here E l a cd hG w658 hW660 tp (pl35 + 1) le cm wt sm lm nu36 ⟨v41, v42, v43, v44, v45, v46, v47, n48, n49, ⟨by omega, by omega, by omega, by omega, by omega, by omega, by omega⟩, ⟨by omega, by omega⟩, zb52, k662⟩ tf k661) mf_X12_here w_1317 0 k662 rfl rfl rfl (Nat.le_of_ble_eq_true rfl) ⟨(Nat.le_of_ble_eq_true rfl), (Nat.le_of_ble_eq_true rfl)⟩ ⟨(Nat.le_of_ble_eq_true rfl), (Nat.le_of_ble_eq_true rfl)⟩ dX12_readsLine_183 rfl (fun r688 w689 h687 => ?_)
                      obtain ⟨hW690, x691⟩ := h687
                      refine x_ws hW690 ?_
                      refine x_top (x691.trans ed678) ?_
                      refine x_bipush C (v := 48) dX12_readsLine_186 (by decide) rfl ?_
                      refine x_isub C (v := (nI ((48 + d676) - 48))) dX12_readsLine_188 (pk_sub (a := (48 + d676)) (b := 48) (by omega)) rfl ?_
                      have gb692 := updn_le (i := lm) (v := ((48 + d676) - 48)) gb657 (by omega)
                      obtain ⟨w693, hw694⟩ : ∃ w : va_W, w = List.set w658 20 (iA E (a 20) 24 (upd (fun j => nI ((updn g655 lm 0) j)) lm (nI ((48 + d676) - 48)))) := ⟨_, rfl⟩
                      refine x_iask C lm (nI_clamp (by omega)) (nI_pos (by omega)) (by omega) 20 k666 hw694.symm dX12_readsLine_189 rfl ?_
                      have hW695 : WX (okM E a cd) w693 := by rw [hw694]; exact hW660.set (k := 20) rfl ⟨_, gb692, iA_n (upd_nI (updn g655 lm 0) lm ((48 + d676) - 48))⟩
                      have k696 : w693[4]? = some (bA E (a 4) 260 tf) := by rw [hw694]; exact set_ne k661 (by decide)
                      have k697 : w693[0]? = some (ob (a 0) 11 [.ref (a 1), .ref (a 2), .ref (a 3), .ref (a 4), .int (nI tp), .int (nI (pl35 + 1)), .int (nI le), .int v41, .int nu36, .int v42, .int (nI cm), .int (nI wt), .int (nI sm), .int (nI (cd.2.2.2.2.2)), .ref (a 5), .ref (a 6), .ref (a 7), .ref (a 8), .ref (a 9), .ref (a 10), .ref (a 11), .ref (a 12), .ref (a 13), .ref (a 14), .ref (a 15), .ref (a 16), .ref (a 17), .int (nI lm), .ref (a 18), .ref (a 19), .ref (a 20), .ref (a 21), .int v43, .int v44, .int v45, .int v46, .int (nI n48), .int (nI n49), .ref (a 22), .ref (a 23), .ref (a 24), .ref (a 25), .ref (a 26), .ref (a 27), .ref (a 28), .ref (a 29), .ref (a 30), .int v47]) := by rw [hw694]; exact set_ne k662 (by decide)
                      have k698 : w693[19]? = some (iA E (a 19) 24 (upd f646 (nI lm).toNatClampNeg r61)) := by rw [hw694]; exact set_ne k663 (by decide)
                      have k699 : w693[20]? = some (iA E (a 20) 24 (upd (fun j => nI ((updn g655 lm 0) j)) lm (nI ((48 + d676) - 48)))) := by rw [hw694]; exact set_eq k666
                      have kp700 := keeps_set kp665 hw694 (by first | exact rfl | decide | omega | (dsimp only; omega))
                      have k701 : w693[20]? = some (iA E (a 20) 24 (fun j => nI ((updn (updn g655 lm 0) lm ((48 + d676) - 48)) j))) := by rw [← upd_nI]; exact k699
                      refine x_aload_n C dX12_readsLine_190 rfl 2 rfl rfl ?_
                      refine x_aload_n C dX12_readsLine_191 rfl 2 rfl rfl ?_
                      refine x_get C (ci := 11) (k := 5) 0 k697 rfl in_X12 (by decide) w_1123 rfl dX12_readsLine_192 rfl ?_
                      refine x_iconst C (v := 1) dX12_readsLine_195 (by decide) rfl ?_
                      refine x_iadd C (v := (nI ((pl35 + 1) + 1))) dX12_readsLine_196 (nI_add (pl35 + 1) 1) rfl ?_
                      obtain ⟨w702, hw703⟩ : ∃ w : va_W, w = List.set w693 0 (ob (a 0) 11 [.ref (a 1), .ref (a 2), .ref (a 3), .ref (a 4), .int (nI tp), .int (nI ((pl35 + 1) + 1)), .int (nI le), .int v41, .int nu36, .int v42, .int (nI cm), .int (nI wt), .int (nI sm), .int (nI (cd.2.2.2.2.2)), .ref (a 5), .ref (a 6), .ref (a 7), .ref (a 8), .ref (a 9), .ref (a 10), .ref (a 11), .ref (a 12), .ref (a 13), .ref (a 14), .ref (a 15), .ref (a 16), .ref (a 17), .int (nI lm), .ref (a 18), .ref (a 19), .ref (a 20), .ref (a 21), .int v43, .int v44, .int v45, .int v46, .int (nI n48), .int (nI n49), .ref (a 22), .ref (a 23), .ref (a 24), .ref (a 25), .ref (a 26), .ref (a 27), .ref (a 28), .ref (a 29), .ref (a 30), .int v47]) := ⟨_, rfl⟩
                      refine x_put C (ci := 11) (k := 5) (ty := .int) 0 k697 rfl in_X12 tyX12 tyX12_ok nmX12 (by decide) w_1123 rfl rfl rfl rfl (Nat.le_of_ble_eq_true rfl) hw703.symm dX12_readsLine_197 rfl ?_
                      have hW704 : WX (okM E a cd) w702 := by rw [hw703]; exact hW695.set (k := 0) rfl ⟨tp, ((pl35 + 1) + 1), le, v41, nu36, v42, cm, wt, sm, lm, v43, v44, v45, v46, n48, n49, v47, by omega, by omega, by omega, by omega, by omega, by omega, by omega, by omega, by omega, zb52, rfl⟩
                      have k705 : w702[4]? = some (bA E (a 4) 260 tf) := by rw [hw703]; exact set_ne k696 (by decide)
                      have k706 : w702[0]? = some (ob (a 0) 11 [.ref (a 1), .ref (a 2), .ref (a 3), .ref (a 4), .int (nI tp), .int (nI ((pl35 + 1) + 1)), .int (nI le), .int v41, .int nu36, .int v42, .int (nI cm), .int (nI wt), .int (nI sm), .int (nI (cd.2.2.2.2.2)), .ref (a 5), .ref (a 6), .ref (a 7), .ref (a 8), .ref (a 9), .ref (a 10), .ref (a 11), .ref (a 12), .ref (a 13), .ref (a 14), .ref (a 15), .ref (a 16), .ref (a 17), .int (nI lm), .ref (a 18), .ref (a 19), .ref (a 20), .ref (a 21), .int v43, .int v44, .int v45, .int v46, .int (nI n48), .int (nI n49), .ref (a 22), .ref (a 23), .ref (a 24), .ref (a 25), .ref (a 26), .ref (a 27), .ref (a 28), .ref (a 29), .ref (a 30), .int v47]) := by rw [hw703]; exact set_eq k697
                      have k707 : w702[19]? = some (iA E (a 19) 24 (upd f646 (nI lm).toNatClampNeg r61)) := by rw [hw703]; exact set_ne k698 (by decide)
                      have k708 : w702[20]? = some (iA E (a 20) 24 (fun j => nI ((updn (updn g655 lm 0) lm ((48 + d676) - 48)) j))) := by rw [hw703]; exact set_ne k701 (by decide)
                      have kp709 := keeps_set kp700 hw703 (by first | exact rfl | decide | omega | (dsimp only; omega))
                      refine x_aload_n C dX12_readsLine_200 rfl 2 rfl rfl ?_
                      refine x_get C (ci := 11) (k := 28) 0 k706 rfl in_X12 (by decide) w_1146 rfl dX12_readsLine_201 rfl ?_
                      refine x_aload_n C dX12_readsLine_204 rfl 2 rfl rfl ?_
                      refine x_get C (ci := 11) (k := 27) 0 k706 rfl in_X12 (by decide) w_1145 rfl dX12_readsLine_205 rfl ?_
                      refine x_iconst C (v := 1) dX12_readsLine_208 (by decide) rfl ?_
                      refine x_iadd C (v := (nI (lm + 1))) dX12_readsLine_209 (nI_add lm 1) rfl ?_
                      refine x_aload_n C dX12_readsLine_210 rfl 2 rfl rfl ?_
                      refine x_get C (ci := 11) (k := 28) 0 k706 rfl in_X12 (by decide) w_1146 rfl dX12_readsLine_211 rfl ?_
                      refine x_aload_n C dX12_readsLine_214 rfl 2 rfl rfl ?_
                      refine x_get C (ci := 11) (k := 27) 0 k706 rfl in_X12 (by decide) w_1145 rfl dX12_readsLine_215 rfl ?_
                      obtain ⟨_, k710, g711, gb712, rfl⟩ := hW704 18 _ rfl
                      refine x_ialk C (v := nI (g711 lm)) lm (nI_clamp (by omega)) (nI_pos (by omega)) (by omega) 18 k710 rfl dX12_readsLine_218 rfl ?_
                      have bx713 := gb712 lm
                      refine x_iload_n C dX12_readsLine_219 rfl 1 rfl rfl ?_
                      refine x_iadd C (v := (nI ((g711 lm) + mm55))) dX12_readsLine_220 (nI_add (g711 lm) mm55) rfl ?_
                      have gb714 := updn_leF (i := (lm + 1)) (v := ((g711 lm) + mm55)) gb712 (by omega)
                      obtain ⟨w715, hw716⟩ : ∃ w : va_W, w = List.set w702 18 (iA E (a 18) 25 (upd (fun j => nI (g711 j)) (lm + 1) (nI ((g711 lm) + mm55)))) := ⟨_, rfl⟩
                      refine x_iask C (lm + 1) (nI_clamp (by omega)) (nI_pos (by omega)) (by omega) 18 k710 hw716.symm dX12_readsLine_221 rfl ?_
                      have hW717 : WX (okM E a cd) w715 := by rw [hw716]; exact hW704.set (k := 18) rfl ⟨_, gb714, iA_n (upd_nI g711 (lm + 1) ((g711 lm) + mm55))⟩
                      have k718 : w715[4]? = some (bA E (a 4) 260 tf) := by rw [hw716]; exact set_ne k705 (by decide)
                      have k719 : w715[0]? = some (ob (a 0) 11 [.ref (a 1), .ref (a 2), .ref (a 3), .ref (a 4), .int (nI tp), .int (nI ((pl35 + 1) + 1)), .int (nI le), .int v41, .int nu36, .int v42, .int (nI cm), .int (nI wt), .int (nI sm), .int (nI (cd.2.2.2.2.2)), .ref (a 5), .ref (a 6), .ref (a 7), .ref (a 8), .ref (a 9), .ref (a 10), .ref (a 11), .ref (a 12), .ref (a 13), .ref (a 14), .ref (a 15), .ref (a 16), .ref (a 17), .int (nI lm), .ref (a 18), .ref (a 19), .ref (a 20), .ref (a 21), .int v43, .int v44, .int v45, .int v46, .int (nI n48), .int (nI n49), .ref (a 22), .ref (a 23), .ref (a 24), .ref (a 25), .ref (a 26), .ref (a 27), .ref (a 28), .ref (a 29), .ref (a 30), .int v47]) := by rw [hw716]; exact set_ne k706 (by decide)
                      have k720 : w715[19]? = some (iA E (a 19) 24 (upd f646 (nI lm).toNatClampNeg r61)) := by rw [hw716]; exact set_ne k707 (by decide)
                      have k721 : w715[20]? = some (iA E (a 20) 24 (fun j => nI ((updn (updn g655 lm 0) lm ((48 + d676) - 48)) j))) := by rw [hw716]; exact set_ne k708 (by decide)
                      have k722 : w715[18]? = some (iA E (a 18) 25 (upd (fun j => nI (g711 j)) (lm + 1) (nI ((g711 lm) + mm55)))) := by rw [hw716]; exact set_eq k710
                      have kp723 := keeps_set kp709 hw716 (by first | exact rfl | decide | omega | (dsimp only; omega))
                      have k724 : w715[18]? = some (iA E (a 18) 25 (fun j => nI ((updn g711 (lm + 1) ((g711 lm) + mm55)) j))) := by rw [← upd_nI]; exact k722
                      refine x_aload_n C dX12_readsLine_222 rfl 2 rfl rfl ?_
                      refine x_aload_n C dX12_readsLine_223 rfl 2 rfl rfl ?_
                      refine x_get C (ci := 11) (k := 27) 0 k719 rfl in_X12 (by decide) w_1145 rfl dX12_readsLine_224 rfl ?_
                      refine x_iconst C (v := 1) dX12_readsLine_227 (by decide) rfl ?_
                      refine x_iadd C (v := (nI (lm + 1))) dX12_readsLine_228 (nI_add lm 1) rfl ?_
                      obtain ⟨w725, hw726⟩ : ∃ w : va_W, w = List.set w715 0 (ob (a 0) 11 [.ref (a 1), .ref (a 2), .ref (a 3), .ref (a 4), .int (nI tp), .int (nI ((pl35 + 1) + 1)), .int (nI le), .int v41, .int nu36, .int v42, .int (nI cm), .int (nI wt), .int (nI sm), .int (nI (cd.2.2.2.2.2)), .ref (a 5), .ref (a 6), .ref (a 7), .ref (a 8), .ref (a 9), .ref (a 10), .ref (a 11), .ref (a 12), .ref (a 13), .ref (a 14), .ref (a 15), .ref (a 16), .ref (a 17), .int (nI (lm + 1)), .ref (a 18), .ref (a 19), .ref (a 20), .ref (a 21), .int v43, .int v44, .int v45, .int v46, .int (nI n48), .int (nI n49), .ref (a 22), .ref (a 23), .ref (a 24), .ref (a 25), .ref (a 26), .ref (a 27), .ref (a 28), .ref (a 29), .ref (a 30), .int v47]) := ⟨_, rfl⟩
                      refine x_put C (ci := 11) (k := 27) (ty := .int) 0 k719 rfl in_X12 tyX12 tyX12_ok nmX12 (by decide) w_1145 rfl rfl rfl rfl (Nat.le_of_ble_eq_true rfl) hw726.symm dX12_readsLine_229 rfl ?_
                      have hW727 : WX (okM E a cd) w725 := by rw [hw726]; exact hW717.set (k := 0) rfl ⟨tp, ((pl35 + 1) + 1), le, v41, nu36, v42, cm, wt, sm, (lm + 1), v43, v44, v45, v46, n48, n49, v47, by omega, by omega, by omega, by omega, by omega, by omega, by omega, by omega, by omega, zb52, rfl⟩
                      have k728 : w725[4]? = some (bA E (a 4) 260 tf) := by rw [hw726]; exact set_ne k718 (by decide)
                      have k729 : w725[0]? = some (ob (a 0) 11 [.ref (a 1), .ref (a 2), .ref (a 3), .ref (a 4), .int (nI tp), .int (nI ((pl35 + 1) + 1)), .int (nI le), .int v41, .int nu36, .int v42, .int (nI cm), .int (nI wt), .int (nI sm), .int (nI (cd.2.2.2.2.2)), .ref (a 5), .ref (a 6), .ref (a 7), .ref (a 8), .ref (a 9), .ref (a 10), .ref (a 11), .ref (a 12), .ref (a 13), .ref (a 14), .ref (a 15), .ref (a 16), .ref (a 17), .int (nI (lm + 1)), .ref (a 18), .ref (a 19), .ref (a 20), .ref (a 21), .int v43, .int v44, .int v45, .int v46, .int (nI n48), .int (nI n49), .ref (a 22), .ref (a 23), .ref (a 24), .ref (a 25), .ref (a 26), .ref (a 27), .ref (a 28), .ref (a 29), .ref (a 30), .int v47]) := by rw [hw726]; exact set_eq k719
                      have k730 : w725[19]? = some (iA E (a 19) 24 (upd f646 (nI lm).toNatClampNeg r61)) := by rw [hw726]; exact set_ne k720 (by decide)
                      have k731 : w725[20]? = some (iA E (a 20) 24 (fun j => nI ((updn (updn g655 lm 0) lm ((48 + d676) - 48)) j))) := by rw [hw726]; exact set_ne k721 (by decide)
                      have k732 : w725[18]? = some (iA E (a 18) 25 (fun j => nI ((updn g711 (lm + 1) ((g711 lm) + mm55)) j))) := by rw [hw726]; exact set_ne k724 (by decide)
                      have kp733 := keeps_set kp723 hw726 (by first | exact rfl | decide | omega | (dsimp only; omega))
                      refine x_iconst C (v := 1) dX12_readsLine_232 (by decide) rfl ?_
                      exact x_zret C hr hlk rfl dX12_readsLine_233 ⟨hW727, kp733, (Or.inr rfl), ⟨((pl35 + 1) + 1), (lm + 1), nu36, by omega, by omega, by omega, ⟨v41, v42, v43, v44, v45, v46, v47, n48, n49, ⟨by omega, by omega, by omega, by omega, by omega, by omega, by omega⟩, ⟨by omega, by omega⟩, zb52, k729⟩⟩⟩
                    · skip
                      have nf734 := nI_nle' (a := (48 + d676)) (b := 55) c685 (by omega) (by omega)
                      refine x_aload_n C dX12_readsLine_164 rfl 2 rfl rfl ?_
                      refine x_iconst C (v := 3) dX12_readsLine_165 (by decide) rfl ?_
                      refine x_aload_n C dX12_readsLine_166 rfl 2 rfl rfl ?_
                      refine x_get C (ci := 11) (k := 5) 0 k662 rfl in_X12 (by decide) w_1123 rfl dX12_readsLine_167 rfl ?_
                      refine x_vi C (As := [.int 3, .int (nI (pl35 + 1))]) (rest := []) (m_wrongAt E l a cd hG w658 hW660 (3 : Int32) ((nI (pl35 + 1))) tp (pl35 + 1) le cm wt sm lm nu36 ⟨v41, v42, v43, v44, v45, v46, v47, n48, n49, ⟨by omega, by omega, by omega, by omega, by omega, by omega, by omega⟩, ⟨by omega, by omega⟩, zb52, k662⟩) mf_X12_wrongAt w_1324 0 k662 rfl rfl rfl (Nat.le_of_ble_eq_true rfl) ⟨(Nat.le_of_ble_eq_true rfl), (Nat.le_of_ble_eq_true rfl)⟩ ⟨(Nat.le_of_ble_eq_true rfl), (Nat.le_of_ble_eq_true rfl)⟩ dX12_readsLine_170 rfl (fun r736 w737 h735 => ?_)
                      obtain ⟨hW738, kq739, e740, x741⟩ := h735
                      refine x_top e740 ?_
                      have k742 : w737[4]? = some (bA E (a 4) 260 tf) := keeps_at kq739 k661 (by first | decide | omega | (dsimp only; omega))
                      have k743 : w737[19]? = some (iA E (a 19) 24 (upd f646 (nI lm).toNatClampNeg r61)) := keeps_at kq739 k663 (by first | decide | omega | (dsimp only; omega))
                      have k744 : w737[20]? = some (iA E (a 20) 24 (fun j => nI ((updn g655 lm 0) j))) := keeps_at kq739 k666 (by first | decide | omega | (dsimp only; omega))
                      have kp745 := keeps_tr kp665 kq739 (fun q hq => by first | omega | (dsimp only at *; omega))
                      obtain ⟨v746, v747, v748, v749, v750, v751, v752, n753, n754, bo755, bo756, zb757, k758⟩ := x741
                      exact x_zret C hr hlk rfl dX12_readsLine_173 ⟨hW738, kp745, (Or.inl rfl), ⟨((pl35 + 1)), lm, nu36, by omega, by omega, by omega, ⟨v746, v747, v748, v749, v750, v751, v752, n753, n754, ⟨by omega, by omega, by omega, by omega, by omega, by omega, by omega⟩, ⟨by omega, by omega⟩, zb757, k758⟩⟩⟩
                  · skip
                    refine x_aload_n C dX12_readsLine_145 rfl 2 rfl rfl ?_
                    refine x_iconst C (v := 1) dX12_readsLine_146 (by decide) rfl ?_
                    refine x_aload_n C dX12_readsLine_147 rfl 2 rfl rfl ?_
                    refine x_get C (ci := 11) (k := 5) 0 k662 rfl in_X12 (by decide) w_1123 rfl dX12_readsLine_148 rfl ?_
                    refine x_vi C (As := [.int 1, .int (nI (pl35 + 1))]) (rest := []) (m_wrongAt E l a cd hG w658 hW660 (1 : Int32) ((nI (pl35 + 1))) tp (pl35 + 1) le cm wt sm lm nu36 ⟨v41, v42, v43, v44, v45, v46, v47, n48, n49, ⟨by omega, by omega, by omega, by omega, by omega, by omega, by omega⟩, ⟨by omega, by omega⟩, zb52, k662⟩) mf_X12_wrongAt w_1324 0 k662 rfl rfl rfl (Nat.le_of_ble_eq_true rfl) ⟨(Nat.le_of_ble_eq_true rfl), (Nat.le_of_ble_eq_true rfl)⟩ ⟨(Nat.le_of_ble_eq_true rfl), (Nat.le_of_ble_eq_true rfl)⟩ dX12_readsLine_151 rfl (fun r760 w761 h759 => ?_)
                    obtain ⟨hW762, kq763, e764, x765⟩ := h759
                    refine x_top e764 ?_
                    have k766 : w761[4]? = some (bA E (a 4) 260 tf) := keeps_at kq763 k661 (by first | decide | omega | (dsimp only; omega))
                    have k767 : w761[19]? = some (iA E (a 19) 24 (upd f646 (nI lm).toNatClampNeg r61)) := keeps_at kq763 k663 (by first | decide | omega | (dsimp only; omega))
                    have k768 : w761[20]? = some (iA E (a 20) 24 (fun j => nI ((updn g655 lm 0) j))) := keeps_at kq763 k666 (by first | decide | omega | (dsimp only; omega))
                    have kp769 := keeps_tr kp665 kq763 (fun q hq => by first | omega | (dsimp only at *; omega))
                    obtain ⟨v770, v771, v772, v773, v774, v775, v776, n777, n778, bo779, bo780, zb781, k782⟩ := x765
                    exact x_zret C hr hlk rfl dX12_readsLine_154 ⟨hW762, kp769, (Or.inl rfl), ⟨((pl35 + 1)), lm, nu36, by omega, by omega, by omega, ⟨v770, v771, v772, v773, v774, v775, v776, n777, n778, ⟨by omega, by omega, by omega, by omega, by omega, by omega, by omega⟩, ⟨by omega, by omega⟩, zb781, k782⟩⟩⟩
                · skip
                  refine x_iload_n C dX12_readsLine_132 rfl 0 rfl rfl ?_
                  refine x_bipush C (v := 33) dX12_readsLine_133 (by decide) rfl ?_
                  refine x_icmp_ne C (tgt := 200) dX12_readsLine_135 (by decide) rfl (fun c783 => ?_) (fun c783 => ?_)
                  · skip
                    refine x_aload_n C dX12_readsLine_200 rfl 2 rfl rfl ?_
                    refine x_get C (ci := 11) (k := 28) 0 k662 rfl in_X12 (by decide) w_1146 rfl dX12_readsLine_201 rfl ?_
                    refine x_aload_n C dX12_readsLine_204 rfl 2 rfl rfl ?_
                    refine x_get C (ci := 11) (k := 27) 0 k662 rfl in_X12 (by decide) w_1145 rfl dX12_readsLine_205 rfl ?_
                    refine x_iconst C (v := 1) dX12_readsLine_208 (by decide) rfl ?_
                    refine x_iadd C (v := (nI (lm + 1))) dX12_readsLine_209 (nI_add lm 1) rfl ?_
                    refine x_aload_n C dX12_readsLine_210 rfl 2 rfl rfl ?_
                    refine x_get C (ci := 11) (k := 28) 0 k662 rfl in_X12 (by decide) w_1146 rfl dX12_readsLine_211 rfl ?_
                    refine x_aload_n C dX12_readsLine_214 rfl 2 rfl rfl ?_
                    refine x_get C (ci := 11) (k := 27) 0 k662 rfl in_X12 (by decide) w_1145 rfl dX12_readsLine_215 rfl ?_
                    obtain ⟨_, k784, g785, gb786, rfl⟩ := hW660 18 _ rfl
                    refine x_ialk C (v := nI (g785 lm)) lm (nI_clamp (by omega)) (nI_pos (by omega)) (by omega) 18 k784 rfl dX12_readsLine_218 rfl ?_
                    have bx787 := gb786 lm
                    refine x_iload_n C dX12_readsLine_219 rfl 1 rfl rfl ?_
                    refine x_iadd C (v := (nI ((g785 lm) + mm55))) dX12_readsLine_220 (nI_add (g785 lm) mm55) rfl ?_
                    have gb788 := updn_leF (i := (lm + 1)) (v := ((g785 lm) + mm55)) gb786 (by omega)
                    obtain ⟨w789, hw790⟩ : ∃ w : va_W, w = List.set w658 18 (iA E (a 18) 25 (upd (fun j => nI (g785 j)) (lm + 1) (nI ((g785 lm) + mm55)))) := ⟨_, rfl⟩
                    refine x_iask C (lm + 1) (nI_clamp (by omega)) (nI_pos (by omega)) (by omega) 18 k784 hw790.symm dX12_readsLine_221 rfl ?_
                    have hW791 : WX (okM E a cd) w789 := by rw [hw790]; exact hW660.set (k := 18) rfl ⟨_, gb788, iA_n (upd_nI g785 (lm + 1) ((g785 lm) + mm55))⟩
                    have k792 : w789[4]? = some (bA E (a 4) 260 tf) := by rw [hw790]; exact set_ne k661 (by decide)
                    have k793 : w789[0]? = some (ob (a 0) 11 [.ref (a 1), .ref (a 2), .ref (a 3), .ref (a 4), .int (nI tp), .int (nI (pl35 + 1)), .int (nI le), .int v41, .int nu36, .int v42, .int (nI cm), .int (nI wt), .int (nI sm), .int (nI (cd.2.2.2.2.2)), .ref (a 5), .ref (a 6), .ref (a 7), .ref (a 8), .ref (a 9), .ref (a 10), .ref (a 11), .ref (a 12), .ref (a 13), .ref (a 14), .ref (a 15), .ref (a 16), .ref (a 17), .int (nI lm), .ref (a 18), .ref (a 19), .ref (a 20), .ref (a 21), .int v43, .int v44, .int v45, .int v46, .int (nI n48), .int (nI n49), .ref (a 22), .ref (a 23), .ref (a 24), .ref (a 25), .ref (a 26), .ref (a 27), .ref (a 28), .ref (a 29), .ref (a 30), .int v47]) := by rw [hw790]; exact set_ne k662 (by decide)
                    have k794 : w789[19]? = some (iA E (a 19) 24 (upd f646 (nI lm).toNatClampNeg r61)) := by rw [hw790]; exact set_ne k663 (by decide)
                    have k795 : w789[20]? = some (iA E (a 20) 24 (fun j => nI ((updn g655 lm 0) j))) := by rw [hw790]; exact set_ne k666 (by decide)
                    have k796 : w789[18]? = some (iA E (a 18) 25 (upd (fun j => nI (g785 j)) (lm + 1) (nI ((g785 lm) + mm55)))) := by rw [hw790]; exact set_eq k784
                    have kp797 := keeps_set kp665 hw790 (by first | exact rfl | decide | omega | (dsimp only; omega))
                    have k798 : w789[18]? = some (iA E (a 18) 25 (fun j => nI ((updn g785 (lm + 1) ((g785 lm) + mm55)) j))) := by rw [← upd_nI]; exact k796
                    refine x_aload_n C dX12_readsLine_222 rfl 2 rfl rfl ?_
                    refine x_aload_n C dX12_readsLine_223 rfl 2 rfl rfl ?_
                    refine x_get C (ci := 11) (k := 27) 0 k793 rfl in_X12 (by decide) w_1145 rfl dX12_readsLine_224 rfl ?_
                    refine x_iconst C (v := 1) dX12_readsLine_227 (by decide) rfl ?_
                    refine x_iadd C (v := (nI (lm + 1))) dX12_readsLine_228 (nI_add lm 1) rfl ?_
                    obtain ⟨w799, hw800⟩ : ∃ w : va_W, w = List.set w789 0 (ob (a 0) 11 [.ref (a 1), .ref (a 2), .ref (a 3), .ref (a 4), .int (nI tp), .int (nI (pl35 + 1)), .int (nI le), .int v41, .int nu36, .int v42, .int (nI cm), .int (nI wt), .int (nI sm), .int (nI (cd.2.2.2.2.2)), .ref (a 5), .ref (a 6), .ref (a 7), .ref (a 8), .ref (a 9), .ref (a 10), .ref (a 11), .ref (a 12), .ref (a 13), .ref (a 14), .ref (a 15), .ref (a 16), .ref (a 17), .int (nI (lm + 1)), .ref (a 18), .ref (a 19), .ref (a 20), .ref (a 21), .int v43, .int v44, .int v45, .int v46, .int (nI n48), .int (nI n49), .ref (a 22), .ref (a 23), .ref (a 24), .ref (a 25), .ref (a 26), .ref (a 27), .ref (a 28), .ref (a 29), .ref (a 30), .int v47]) := ⟨_, rfl⟩
                    refine x_put C (ci := 11) (k := 27) (ty := .int) 0 k793 rfl in_X12 tyX12 tyX12_ok nmX12 (by decide) w_1145 rfl rfl rfl rfl (Nat.le_of_ble_eq_true rfl) hw800.symm dX12_readsLine_229 rfl ?_
                    have hW801 : WX (okM E a cd) w799 := by rw [hw800]; exact hW791.set (k := 0) rfl ⟨tp, (pl35 + 1), le, v41, nu36, v42, cm, wt, sm, (lm + 1), v43, v44, v45, v46, n48, n49, v47, by omega, by omega, by omega, by omega, by omega, by omega, by omega, by omega, by omega, zb52, rfl⟩
                    have k802 : w799[4]? = some (bA E (a 4) 260 tf) := by rw [hw800]; exact set_ne k792 (by decide)
                    have k803 : w799[0]? = some (ob (a 0) 11 [.ref (a 1), .ref (a 2), .ref (a 3), .ref (a 4), .int (nI tp), .int (nI (pl35 + 1)), .int (nI le), .int v41, .int nu36, .int v42, .int (nI cm), .int (nI wt), .int (nI sm), .int (nI (cd.2.2.2.2.2)), .ref (a 5), .ref (a 6), .ref (a 7), .ref (a 8), .ref (a 9), .ref (a 10), .ref (a 11), .ref (a 12), .ref (a 13), .ref (a 14), .ref (a 15), .ref (a 16), .ref (a 17), .int (nI (lm + 1)), .ref (a 18), .ref (a 19), .ref (a 20), .ref (a 21), .int v43, .int v44, .int v45, .int v46, .int (nI n48), .int (nI n49), .ref (a 22), .ref (a 23), .ref (a 24), .ref (a 25), .ref (a 26), .ref (a 27), .ref (a 28), .ref (a 29), .ref (a 30), .int v47]) := by rw [hw800]; exact set_eq k793
                    have k804 : w799[19]? = some (iA E (a 19) 24 (upd f646 (nI lm).toNatClampNeg r61)) := by rw [hw800]; exact set_ne k794 (by decide)
                    have k805 : w799[20]? = some (iA E (a 20) 24 (fun j => nI ((updn g655 lm 0) j))) := by rw [hw800]; exact set_ne k795 (by decide)
                    have k806 : w799[18]? = some (iA E (a 18) 25 (fun j => nI ((updn g785 (lm + 1) ((g785 lm) + mm55)) j))) := by rw [hw800]; exact set_ne k798 (by decide)
                    have kp807 := keeps_set kp797 hw800 (by first | exact rfl | decide | omega | (dsimp only; omega))
                    refine x_iconst C (v := 1) dX12_readsLine_232 (by decide) rfl ?_
                    exact x_zret C hr hlk rfl dX12_readsLine_233 ⟨hW801, kp807, (Or.inr rfl), ⟨(pl35 + 1), (lm + 1), nu36, by omega, by omega, by omega, ⟨v41, v42, v43, v44, v45, v46, v47, n48, n49, ⟨by omega, by omega, by omega, by omega, by omega, by omega, by omega⟩, ⟨by omega, by omega⟩, zb52, k803⟩⟩⟩
                  · skip
                    have hp808 := hv_lt (x64.symm.trans c783) (by decide)
                    refine x_aload_n C dX12_readsLine_138 rfl 2 rfl rfl ?_
                    refine x_vi C (As := []) (rest := []) (m_isDigit E l a cd hG w658 hW660 tp (pl35 + 1) le cm wt sm lm nu36 ⟨v41, v42, v43, v44, v45, v46, v47, n48, n49, ⟨by omega, by omega, by omega, by omega, by omega, by omega, by omega⟩, ⟨by omega, by omega⟩, zb52, k662⟩ tf k661) mf_X12_isDigit w_1341 0 k662 rfl rfl rfl (Nat.le_of_ble_eq_true rfl) ⟨(Nat.le_of_ble_eq_true rfl), (Nat.le_of_ble_eq_true rfl)⟩ ⟨(Nat.le_of_ble_eq_true rfl), (Nat.le_of_ble_eq_true rfl)⟩ dX12_readsLine_139 rfl (fun r810 w811 h809 => ?_)
                    obtain ⟨hW812, zb813, x814⟩ := h809
                    refine x_ws hW812 ?_
                    refine x_if_ne C (tgt := 155) dX12_readsLine_142 (by decide) rfl (fun c815 => ?_) (fun c815 => ?_)
                    · skip
                      obtain ⟨d816, hd817, ed818, hp819⟩ := x814 c815
                      refine x_aload_n C dX12_readsLine_155 rfl 2 rfl rfl ?_
                      refine x_vi C (As := []) (rest := []) (m_here E l a cd hG w658 hW660 tp (pl35 + 1) le cm wt sm lm nu36 ⟨v41, v42, v43, v44, v45, v46, v47, n48, n49, ⟨by omega, by omega, by omega, by omega, by omega, by omega, by omega⟩, ⟨by omega, by omega⟩, zb52, k662⟩ tf k661) mf_X12_here w_1317 0 k662 rfl rfl rfl (Nat.le_of_ble_eq_true rfl) ⟨(Nat.le_of_ble_eq_true rfl), (Nat.le_of_ble_eq_true rfl)⟩ ⟨(Nat.le_of_ble_eq_true rfl), (Nat.le_of_ble_eq_true rfl)⟩ dX12_readsLine_156 rfl (fun r821 w822 h820 => ?_)
                      obtain ⟨hW823, x824⟩ := h820
                      refine x_ws hW823 ?_
                      refine x_top (x824.trans ed818) ?_
                      refine x_bipush C (v := 55) dX12_readsLine_159 (by decide) rfl ?_
                      refine x_icmp_le C (tgt := 174) dX12_readsLine_161 (by decide) rfl (fun c825 => ?_) (fun c825 => ?_)
                      · skip
                        have nf826 := nI_le' (a := (48 + d816)) (b := 55) c825 (by omega) (by omega)
                        refine x_aload_n C dX12_readsLine_174 rfl 2 rfl rfl ?_
                        refine x_get C (ci := 11) (k := 30) 0 k662 rfl in_X12 (by decide) w_1148 rfl dX12_readsLine_175 rfl ?_
                        refine x_aload_n C dX12_readsLine_178 rfl 2 rfl rfl ?_
                        refine x_get C (ci := 11) (k := 27) 0 k662 rfl in_X12 (by decide) w_1145 rfl dX12_readsLine_179 rfl ?_
                        refine x_aload_n C dX12_readsLine_182 rfl 2 rfl rfl ?_
                        refine x_vi C (As := []) (rest := [.int (nI lm), .ref (a 20)]) (m_here E l a cd hG w658 hW660 tp (pl35 + 1) le cm wt sm lm nu36 ⟨v41, v42, v43, v44, v45, v46, v47, n48, n49, ⟨by omega, by omega, by omega, by omega, by omega, by omega, by omega⟩, ⟨by omega, by omega⟩, zb52, k662⟩ tf k661) mf_X12_here w_1317 0 k662 rfl rfl rfl (Nat.le_of_ble_eq_true rfl) ⟨(Nat.le_of_ble_eq_true rfl), (Nat.le_of_ble_eq_true rfl)⟩ ⟨(Nat.le_of_ble_eq_true rfl), (Nat.le_of_ble_eq_true rfl)⟩ dX12_readsLine_183 rfl (fun r828 w829 h827 => ?_)
                        obtain ⟨hW830, x831⟩ := h827
                        refine x_ws hW830 ?_
                        refine x_top (x831.trans ed818) ?_
                        refine x_bipush C (v := 48) dX12_readsLine_186 (by decide) rfl ?_
                        refine x_isub C (v := (nI ((48 + d816) - 48))) dX12_readsLine_188 (pk_sub (a := (48 + d816)) (b := 48) (by omega)) rfl ?_
                        have gb832 := updn_le (i := lm) (v := ((48 + d816) - 48)) gb657 (by omega)
                        obtain ⟨w833, hw834⟩ : ∃ w : va_W, w = List.set w658 20 (iA E (a 20) 24 (upd (fun j => nI ((updn g655 lm 0) j)) lm (nI ((48 + d816) - 48)))) := ⟨_, rfl⟩
                        refine x_iask C lm (nI_clamp (by omega)) (nI_pos (by omega)) (by omega) 20 k666 hw834.symm dX12_readsLine_189 rfl ?_
                        have hW835 : WX (okM E a cd) w833 := by rw [hw834]; exact hW660.set (k := 20) rfl ⟨_, gb832, iA_n (upd_nI (updn g655 lm 0) lm ((48 + d816) - 48))⟩
                        have k836 : w833[4]? = some (bA E (a 4) 260 tf) := by rw [hw834]; exact set_ne k661 (by decide)
                        have k837 : w833[0]? = some (ob (a 0) 11 [.ref (a 1), .ref (a 2), .ref (a 3), .ref (a 4), .int (nI tp), .int (nI (pl35 + 1)), .int (nI le), .int v41, .int nu36, .int v42, .int (nI cm), .int (nI wt), .int (nI sm), .int (nI (cd.2.2.2.2.2)), .ref (a 5), .ref (a 6), .ref (a 7), .ref (a 8), .ref (a 9), .ref (a 10), .ref (a 11), .ref (a 12), .ref (a 13), .ref (a 14), .ref (a 15), .ref (a 16), .ref (a 17), .int (nI lm), .ref (a 18), .ref (a 19), .ref (a 20), .ref (a 21), .int v43, .int v44, .int v45, .int v46, .int (nI n48), .int (nI n49), .ref (a 22), .ref (a 23), .ref (a 24), .ref (a 25), .ref (a 26), .ref (a 27), .ref (a 28), .ref (a 29), .ref (a 30), .int v47]) := by rw [hw834]; exact set_ne k662 (by decide)
                        have k838 : w833[19]? = some (iA E (a 19) 24 (upd f646 (nI lm).toNatClampNeg r61)) := by rw [hw834]; exact set_ne k663 (by decide)
                        have k839 : w833[20]? = some (iA E (a 20) 24 (upd (fun j => nI ((updn g655 lm 0) j)) lm (nI ((48 + d816) - 48)))) := by rw [hw834]; exact set_eq k666
                        have kp840 := keeps_set kp665 hw834 (by first | exact rfl | decide | omega | (dsimp only; omega))
                        have k841 : w833[20]? = some (iA E (a 20) 24 (fun j => nI ((updn (updn g655 lm 0) lm ((48 + d816) - 48)) j))) := by rw [← upd_nI]; exact k839
                        refine x_aload_n C dX12_readsLine_190 rfl 2 rfl rfl ?_
                        refine x_aload_n C dX12_readsLine_191 rfl 2 rfl rfl ?_
                        refine x_get C (ci := 11) (k := 5) 0 k837 rfl in_X12 (by decide) w_1123 rfl dX12_readsLine_192 rfl ?_
                        refine x_iconst C (v := 1) dX12_readsLine_195 (by decide) rfl ?_
                        refine x_iadd C (v := (nI ((pl35 + 1) + 1))) dX12_readsLine_196 (nI_add (pl35 + 1) 1) rfl ?_
                        obtain ⟨w842, hw843⟩ : ∃ w : va_W, w = List.set w833 0 (ob (a 0) 11 [.ref (a 1), .ref (a 2), .ref (a 3), .ref (a 4), .int (nI tp), .int (nI ((pl35 + 1) + 1)), .int (nI le), .int v41, .int nu36, .int v42, .int (nI cm), .int (nI wt), .int (nI sm), .int (nI (cd.2.2.2.2.2)), .ref (a 5), .ref (a 6), .ref (a 7), .ref (a 8), .ref (a 9), .ref (a 10), .ref (a 11), .ref (a 12), .ref (a 13), .ref (a 14), .ref (a 15), .ref (a 16), .ref (a 17), .int (nI lm), .ref (a 18), .ref (a 19), .ref (a 20), .ref (a 21), .int v43, .int v44, .int v45, .int v46, .int (nI n48), .int (nI n49), .ref (a 22), .ref (a 23), .ref (a 24), .ref (a 25), .ref (a 26), .ref (a 27), .ref (a 28), .ref (a 29), .ref (a 30), .int v47]) := ⟨_, rfl⟩
                        refine x_put C (ci := 11) (k := 5) (ty := .int) 0 k837 rfl in_X12 tyX12 tyX12_ok nmX12 (by decide) w_1123 rfl rfl rfl rfl (Nat.le_of_ble_eq_true rfl) hw843.symm dX12_readsLine_197 rfl ?_
                        have hW844 : WX (okM E a cd) w842 := by rw [hw843]; exact hW835.set (k := 0) rfl ⟨tp, ((pl35 + 1) + 1), le, v41, nu36, v42, cm, wt, sm, lm, v43, v44, v45, v46, n48, n49, v47, by omega, by omega, by omega, by omega, by omega, by omega, by omega, by omega, by omega, zb52, rfl⟩
                        have k845 : w842[4]? = some (bA E (a 4) 260 tf) := by rw [hw843]; exact set_ne k836 (by decide)
                        have k846 : w842[0]? = some (ob (a 0) 11 [.ref (a 1), .ref (a 2), .ref (a 3), .ref (a 4), .int (nI tp), .int (nI ((pl35 + 1) + 1)), .int (nI le), .int v41, .int nu36, .int v42, .int (nI cm), .int (nI wt), .int (nI sm), .int (nI (cd.2.2.2.2.2)), .ref (a 5), .ref (a 6), .ref (a 7), .ref (a 8), .ref (a 9), .ref (a 10), .ref (a 11), .ref (a 12), .ref (a 13), .ref (a 14), .ref (a 15), .ref (a 16), .ref (a 17), .int (nI lm), .ref (a 18), .ref (a 19), .ref (a 20), .ref (a 21), .int v43, .int v44, .int v45, .int v46, .int (nI n48), .int (nI n49), .ref (a 22), .ref (a 23), .ref (a 24), .ref (a 25), .ref (a 26), .ref (a 27), .ref (a 28), .ref (a 29), .ref (a 30), .int v47]) := by rw [hw843]; exact set_eq k837
                        have k847 : w842[19]? = some (iA E (a 19) 24 (upd f646 (nI lm).toNatClampNeg r61)) := by rw [hw843]; exact set_ne k838 (by decide)
                        have k848 : w842[20]? = some (iA E (a 20) 24 (fun j => nI ((updn (updn g655 lm 0) lm ((48 + d816) - 48)) j))) := by rw [hw843]; exact set_ne k841 (by decide)
                        have kp849 := keeps_set kp840 hw843 (by first | exact rfl | decide | omega | (dsimp only; omega))
                        refine x_aload_n C dX12_readsLine_200 rfl 2 rfl rfl ?_
                        refine x_get C (ci := 11) (k := 28) 0 k846 rfl in_X12 (by decide) w_1146 rfl dX12_readsLine_201 rfl ?_
                        refine x_aload_n C dX12_readsLine_204 rfl 2 rfl rfl ?_
                        refine x_get C (ci := 11) (k := 27) 0 k846 rfl in_X12 (by decide) w_1145 rfl dX12_readsLine_205 rfl ?_
                        refine x_iconst C (v := 1) dX12_readsLine_208 (by decide) rfl ?_
                        refine x_iadd C (v := (nI (lm + 1))) dX12_readsLine_209 (nI_add lm 1) rfl ?_
                        refine x_aload_n C dX12_readsLine_210 rfl 2 rfl rfl ?_
                        refine x_get C (ci := 11) (k := 28) 0 k846 rfl in_X12 (by decide) w_1146 rfl dX12_readsLine_211 rfl ?_
                        refine x_aload_n C dX12_readsLine_214 rfl 2 rfl rfl ?_
                        refine x_get C (ci := 11) (k := 27) 0 k846 rfl in_X12 (by decide) w_1145 rfl dX12_readsLine_215 rfl ?_
                        obtain ⟨_, k850, g851, gb852, rfl⟩ := hW844 18 _ rfl
                        refine x_ialk C (v := nI (g851 lm)) lm (nI_clamp (by omega)) (nI_pos (by omega)) (by omega) 18 k850 rfl dX12_readsLine_218 rfl ?_
                        have bx853 := gb852 lm
                        refine x_iload_n C dX12_readsLine_219 rfl 1 rfl rfl ?_
                        refine x_iadd C (v := (nI ((g851 lm) + mm55))) dX12_readsLine_220 (nI_add (g851 lm) mm55) rfl ?_
                        have gb854 := updn_leF (i := (lm + 1)) (v := ((g851 lm) + mm55)) gb852 (by omega)
                        obtain ⟨w855, hw856⟩ : ∃ w : va_W, w = List.set w842 18 (iA E (a 18) 25 (upd (fun j => nI (g851 j)) (lm + 1) (nI ((g851 lm) + mm55)))) := ⟨_, rfl⟩
                        refine x_iask C (lm + 1) (nI_clamp (by omega)) (nI_pos (by omega)) (by omega) 18 k850 hw856.symm dX12_readsLine_221 rfl ?_
                        have hW857 : WX (okM E a cd) w855 := by rw [hw856]; exact hW844.set (k := 18) rfl ⟨_, gb854, iA_n (upd_nI g851 (lm + 1) ((g851 lm) + mm55))⟩
                        have k858 : w855[4]? = some (bA E (a 4) 260 tf) := by rw [hw856]; exact set_ne k845 (by decide)
                        have k859 : w855[0]? = some (ob (a 0) 11 [.ref (a 1), .ref (a 2), .ref (a 3), .ref (a 4), .int (nI tp), .int (nI ((pl35 + 1) + 1)), .int (nI le), .int v41, .int nu36, .int v42, .int (nI cm), .int (nI wt), .int (nI sm), .int (nI (cd.2.2.2.2.2)), .ref (a 5), .ref (a 6), .ref (a 7), .ref (a 8), .ref (a 9), .ref (a 10), .ref (a 11), .ref (a 12), .ref (a 13), .ref (a 14), .ref (a 15), .ref (a 16), .ref (a 17), .int (nI lm), .ref (a 18), .ref (a 19), .ref (a 20), .ref (a 21), .int v43, .int v44, .int v45, .int v46, .int (nI n48), .int (nI n49), .ref (a 22), .ref (a 23), .ref (a 24), .ref (a 25), .ref (a 26), .ref (a 27), .ref (a 28), .ref (a 29), .ref (a 30), .int v47]) := by rw [hw856]; exact set_ne k846 (by decide)
                        have k860 : w855[19]? = some (iA E (a 19) 24 (upd f646 (nI lm).toNatClampNeg r61)) := by rw [hw856]; exact set_ne k847 (by decide)
                        have k861 : w855[20]? = some (iA E (a 20) 24 (fun j => nI ((updn (updn g655 lm 0) lm ((48 + d816) - 48)) j))) := by rw [hw856]; exact set_ne k848 (by decide)
                        have k862 : w855[18]? = some (iA E (a 18) 25 (upd (fun j => nI (g851 j)) (lm + 1) (nI ((g851 lm) + mm55)))) := by rw [hw856]; exact set_eq k850
                        have kp863 := keeps_set kp849 hw856 (by first | exact rfl | decide | omega | (dsimp only; omega))
                        have k864 : w855[18]? = some (iA E (a 18) 25 (fun j => nI ((updn g851 (lm + 1) ((g851 lm) + mm55)) j))) := by rw [← upd_nI]; exact k862
                        refine x_aload_n C dX12_readsLine_222 rfl 2 rfl rfl ?_
                        refine x_aload_n C dX12_readsLine_223 rfl 2 rfl rfl ?_
                        refine x_get C (ci := 11) (k := 27) 0 k859 rfl in_X12 (by decide) w_1145 rfl dX12_readsLine_224 rfl ?_
                        refine x_iconst C (v := 1) dX12_readsLine_227 (by decide) rfl ?_
                        refine x_iadd C (v := (nI (lm + 1))) dX12_readsLine_228 (nI_add lm 1) rfl ?_
                        obtain ⟨w865, hw866⟩ : ∃ w : va_W, w = List.set w855 0 (ob (a 0) 11 [.ref (a 1), .ref (a 2), .ref (a 3), .ref (a 4), .int (nI tp), .int (nI ((pl35 + 1) + 1)), .int (nI le), .int v41, .int nu36, .int v42, .int (nI cm), .int (nI wt), .int (nI sm), .int (nI (cd.2.2.2.2.2)), .ref (a 5), .ref (a 6), .ref (a 7), .ref (a 8), .ref (a 9), .ref (a 10), .ref (a 11), .ref (a 12), .ref (a 13), .ref (a 14), .ref (a 15), .ref (a 16), .ref (a 17), .int (nI (lm + 1)), .ref (a 18), .ref (a 19), .ref (a 20), .ref (a 21), .int v43, .int v44, .int v45, .int v46, .int (nI n48), .int (nI n49), .ref (a 22), .ref (a 23), .ref (a 24), .ref (a 25), .ref (a 26), .ref (a 27), .ref (a 28), .ref (a 29), .ref (a 30), .int v47]) := ⟨_, rfl⟩
                        refine x_put C (ci := 11) (k := 27) (ty := .int) 0 k859 rfl in_X12 tyX12 tyX12_ok nmX12 (by decide) w_1145 rfl rfl rfl rfl (Nat.le_of_ble_eq_true rfl) hw866.symm dX12_readsLine_229 rfl ?_
                        have hW867 : WX (okM E a cd) w865 := by rw [hw866]; exact hW857.set (k := 0) rfl ⟨tp, ((pl35 + 1) + 1), le, v41, nu36, v42, cm, wt, sm, (lm + 1), v43, v44, v45, v46, n48, n49, v47, by omega, by omega, by omega, by omega, by omega, by omega, by omega, by omega, by omega, zb52, rfl⟩
                        have k868 : w865[4]? = some (bA E (a 4) 260 tf) := by rw [hw866]; exact set_ne k858 (by decide)
                        have k869 : w865[0]? = some (ob (a 0) 11 [.ref (a 1), .ref (a 2), .ref (a 3), .ref (a 4), .int (nI tp), .int (nI ((pl35 + 1) + 1)), .int (nI le), .int v41, .int nu36, .int v42, .int (nI cm), .int (nI wt), .int (nI sm), .int (nI (cd.2.2.2.2.2)), .ref (a 5), .ref (a 6), .ref (a 7), .ref (a 8), .ref (a 9), .ref (a 10), .ref (a 11), .ref (a 12), .ref (a 13), .ref (a 14), .ref (a 15), .ref (a 16), .ref (a 17), .int (nI (lm + 1)), .ref (a 18), .ref (a 19), .ref (a 20), .ref (a 21), .int v43, .int v44, .int v45, .int v46, .int (nI n48), .int (nI n49), .ref (a 22), .ref (a 23), .ref (a 24), .ref (a 25), .ref (a 26), .ref (a 27), .ref (a 28), .ref (a 29), .ref (a 30), .int v47]) := by rw [hw866]; exact set_eq k859
                        have k870 : w865[19]? = some (iA E (a 19) 24 (upd f646 (nI lm).toNatClampNeg r61)) := by rw [hw866]; exact set_ne k860 (by decide)
                        have k871 : w865[20]? = some (iA E (a 20) 24 (fun j => nI ((updn (updn g655 lm 0) lm ((48 + d816) - 48)) j))) := by rw [hw866]; exact set_ne k861 (by decide)
                        have k872 : w865[18]? = some (iA E (a 18) 25 (fun j => nI ((updn g851 (lm + 1) ((g851 lm) + mm55)) j))) := by rw [hw866]; exact set_ne k864 (by decide)
                        have kp873 := keeps_set kp863 hw866 (by first | exact rfl | decide | omega | (dsimp only; omega))
                        refine x_iconst C (v := 1) dX12_readsLine_232 (by decide) rfl ?_
                        exact x_zret C hr hlk rfl dX12_readsLine_233 ⟨hW867, kp873, (Or.inr rfl), ⟨((pl35 + 1) + 1), (lm + 1), nu36, by omega, by omega, by omega, ⟨v41, v42, v43, v44, v45, v46, v47, n48, n49, ⟨by omega, by omega, by omega, by omega, by omega, by omega, by omega⟩, ⟨by omega, by omega⟩, zb52, k869⟩⟩⟩
                      · skip
                        have nf874 := nI_nle' (a := (48 + d816)) (b := 55) c825 (by omega) (by omega)
                        refine x_aload_n C dX12_readsLine_164 rfl 2 rfl rfl ?_
                        refine x_iconst C (v := 3) dX12_readsLine_165 (by decide) rfl ?_
                        refine x_aload_n C dX12_readsLine_166 rfl 2 rfl rfl ?_
                        refine x_get C (ci := 11) (k := 5) 0 k662 rfl in_X12 (by decide) w_1123 rfl dX12_readsLine_167 rfl ?_
                        refine x_vi C (As := [.int 3, .int (nI (pl35 + 1))]) (rest := []) (m_wrongAt E l a cd hG w658 hW660 (3 : Int32) ((nI (pl35 + 1))) tp (pl35 + 1) le cm wt sm lm nu36 ⟨v41, v42, v43, v44, v45, v46, v47, n48, n49, ⟨by omega, by omega, by omega, by omega, by omega, by omega, by omega⟩, ⟨by omega, by omega⟩, zb52, k662⟩) mf_X12_wrongAt w_1324 0 k662 rfl rfl rfl (Nat.le_of_ble_eq_true rfl) ⟨(Nat.le_of_ble_eq_true rfl), (Nat.le_of_ble_eq_true rfl)⟩ ⟨(Nat.le_of_ble_eq_true rfl), (Nat.le_of_ble_eq_true rfl)⟩ dX12_readsLine_170 rfl (fun r876 w877 h875 => ?_)
                        obtain ⟨hW878, kq879, e880, x881⟩ := h875
                        refine x_top e880 ?_
                        have k882 : w877[4]? = some (bA E (a 4) 260 tf) := keeps_at kq879 k661 (by first | decide | omega | (dsimp only; omega))
                        have k883 : w877[19]? = some (iA E (a 19) 24 (upd f646 (nI lm).toNatClampNeg r61)) := keeps_at kq879 k663 (by first | decide | omega | (dsimp only; omega))
                        have k884 : w877[20]? = some (iA E (a 20) 24 (fun j => nI ((updn g655 lm 0) j))) := keeps_at kq879 k666 (by first | decide | omega | (dsimp only; omega))
                        have kp885 := keeps_tr kp665 kq879 (fun q hq => by first | omega | (dsimp only at *; omega))
                        obtain ⟨v886, v887, v888, v889, v890, v891, v892, n893, n894, bo895, bo896, zb897, k898⟩ := x881
                        exact x_zret C hr hlk rfl dX12_readsLine_173 ⟨hW878, kp885, (Or.inl rfl), ⟨((pl35 + 1)), lm, nu36, by omega, by omega, by omega, ⟨v886, v887, v888, v889, v890, v891, v892, n893, n894, ⟨by omega, by omega, by omega, by omega, by omega, by omega, by omega⟩, ⟨by omega, by omega⟩, zb897, k898⟩⟩⟩
                    · skip
                      refine x_aload_n C dX12_readsLine_145 rfl 2 rfl rfl ?_
                      refine x_iconst C (v := 1) dX12_readsLine_146 (by decide) rfl ?_
                      refine x_aload_n C dX12_readsLine_147 rfl 2 rfl rfl ?_
                      refine x_get C (ci := 11) (k := 5) 0 k662 rfl in_X12 (by decide) w_1123 rfl dX12_readsLine_148 rfl ?_
                      refine x_vi C (As := [.int 1, .int (nI (pl35 + 1))]) (rest := []) (m_wrongAt E l a cd hG w658 hW660 (1 : Int32) ((nI (pl35 + 1))) tp (pl35 + 1) le cm wt sm lm nu36 ⟨v41, v42, v43, v44, v45, v46, v47, n48, n49, ⟨by omega, by omega, by omega, by omega, by omega, by omega, by omega⟩, ⟨by omega, by omega⟩, zb52, k662⟩) mf_X12_wrongAt w_1324 0 k662 rfl rfl rfl (Nat.le_of_ble_eq_true rfl) ⟨(Nat.le_of_ble_eq_true rfl), (Nat.le_of_ble_eq_true rfl)⟩ ⟨(Nat.le_of_ble_eq_true rfl), (Nat.le_of_ble_eq_true rfl)⟩ dX12_readsLine_151 rfl (fun r900 w901 h899 => ?_)
                      obtain ⟨hW902, kq903, e904, x905⟩ := h899
                      refine x_top e904 ?_
                      have k906 : w901[4]? = some (bA E (a 4) 260 tf) := keeps_at kq903 k661 (by first | decide | omega | (dsimp only; omega))
                      have k907 : w901[19]? = some (iA E (a 19) 24 (upd f646 (nI lm).toNatClampNeg r61)) := keeps_at kq903 k663 (by first | decide | omega | (dsimp only; omega))
                      have k908 : w901[20]? = some (iA E (a 20) 24 (fun j => nI ((updn g655 lm 0) j))) := keeps_at kq903 k666 (by first | decide | omega | (dsimp only; omega))
                      have kp909 := keeps_tr kp665 kq903 (fun q hq => by first | omega | (dsimp only at *; omega))
                      obtain ⟨v910, v911, v912, v913, v914, v915, v916, n917, n918, bo919, bo920, zb921, k922⟩ := x905
                      exact x_zret C hr hlk rfl dX12_readsLine_154 ⟨hW902, kp909, (Or.inl rfl), ⟨((pl35 + 1)), lm, nu36, by omega, by omega, by omega, ⟨v910, v911, v912, v913, v914, v915, v916, n917, n918, ⟨by omega, by omega, by omega, by omega, by omega, by omega, by omega⟩, ⟨by omega, by omega⟩, zb921, k922⟩⟩⟩
              · skip
                refine x_iload_n C dX12_readsLine_80 rfl 0 rfl rfl ?_
                refine x_bipush C (v := 42) dX12_readsLine_81 (by decide) rfl ?_
                refine x_icmp_eq C (tgt := 96) dX12_readsLine_83 (by decide) rfl (fun c923 => ?_) (fun c923 => ?_)
                · skip
                  have hp924 := hv_lt (x64.symm.trans c923) (by decide)
                  refine x_aload_n C dX12_readsLine_96 rfl 2 rfl rfl ?_
                  refine x_aload_n C dX12_readsLine_97 rfl 2 rfl rfl ?_
                  refine x_get C (ci := 11) (k := 5) 0 k53 rfl in_X12 (by decide) w_1123 rfl dX12_readsLine_98 rfl ?_
                  refine x_iconst C (v := 1) dX12_readsLine_101 (by decide) rfl ?_
                  refine x_iadd C (v := (nI (pl35 + 1))) dX12_readsLine_102 (nI_add pl35 1) rfl ?_
                  obtain ⟨w925, hw926⟩ : ∃ w : va_W, w = List.set w29 0 (ob (a 0) 11 [.ref (a 1), .ref (a 2), .ref (a 3), .ref (a 4), .int (nI tp), .int (nI (pl35 + 1)), .int (nI le), .int v41, .int nu36, .int v42, .int (nI cm), .int (nI wt), .int (nI sm), .int (nI (cd.2.2.2.2.2)), .ref (a 5), .ref (a 6), .ref (a 7), .ref (a 8), .ref (a 9), .ref (a 10), .ref (a 11), .ref (a 12), .ref (a 13), .ref (a 14), .ref (a 15), .ref (a 16), .ref (a 17), .int (nI lm), .ref (a 18), .ref (a 19), .ref (a 20), .ref (a 21), .int v43, .int v44, .int v45, .int v46, .int (nI n48), .int (nI n49), .ref (a 22), .ref (a 23), .ref (a 24), .ref (a 25), .ref (a 26), .ref (a 27), .ref (a 28), .ref (a 29), .ref (a 30), .int v47]) := ⟨_, rfl⟩
                  refine x_put C (ci := 11) (k := 5) (ty := .int) 0 k53 rfl in_X12 tyX12 tyX12_ok nmX12 (by decide) w_1123 rfl rfl rfl rfl (Nat.le_of_ble_eq_true rfl) hw926.symm dX12_readsLine_103 rfl ?_
                  have hW927 : WX (okM E a cd) w925 := by rw [hw926]; exact hW30.set (k := 0) rfl ⟨tp, (pl35 + 1), le, v41, nu36, v42, cm, wt, sm, lm, v43, v44, v45, v46, n48, n49, v47, by omega, by omega, by omega, by omega, by omega, by omega, by omega, by omega, by omega, zb52, rfl⟩
                  have k928 : w925[4]? = some (bA E (a 4) 260 tf) := by rw [hw926]; exact set_ne k33 (by decide)
                  have k929 : w925[0]? = some (ob (a 0) 11 [.ref (a 1), .ref (a 2), .ref (a 3), .ref (a 4), .int (nI tp), .int (nI (pl35 + 1)), .int (nI le), .int v41, .int nu36, .int v42, .int (nI cm), .int (nI wt), .int (nI sm), .int (nI (cd.2.2.2.2.2)), .ref (a 5), .ref (a 6), .ref (a 7), .ref (a 8), .ref (a 9), .ref (a 10), .ref (a 11), .ref (a 12), .ref (a 13), .ref (a 14), .ref (a 15), .ref (a 16), .ref (a 17), .int (nI lm), .ref (a 18), .ref (a 19), .ref (a 20), .ref (a 21), .int v43, .int v44, .int v45, .int v46, .int (nI n48), .int (nI n49), .ref (a 22), .ref (a 23), .ref (a 24), .ref (a 25), .ref (a 26), .ref (a 27), .ref (a 28), .ref (a 29), .ref (a 30), .int v47]) := by rw [hw926]; exact set_eq k53
                  have kp930 := keeps_set kp34 hw926 (by first | exact rfl | decide | omega | (dsimp only; omega))
                  refine x_aload_n C dX12_readsLine_106 rfl 2 rfl rfl ?_
                  refine x_get C (ci := 11) (k := 29) 0 k929 rfl in_X12 (by decide) w_1147 rfl dX12_readsLine_107 rfl ?_
                  refine x_aload_n C dX12_readsLine_110 rfl 2 rfl rfl ?_
                  refine x_get C (ci := 11) (k := 27) 0 k929 rfl in_X12 (by decide) w_1145 rfl dX12_readsLine_111 rfl ?_
                  refine x_iload_n C dX12_readsLine_114 rfl 0 rfl rfl ?_
                  obtain ⟨_, k931, f932, rfl⟩ := hW927 19 _ rfl
                  obtain ⟨w933, hw934⟩ : ∃ w : va_W, w = List.set w925 19 (iA E (a 19) 24 (upd f932 (nI lm).toNatClampNeg r61)) := ⟨_, rfl⟩
                  refine x_iast C 19 k931 (vp_in_nI (by omega) (by decide)) hw934.symm dX12_readsLine_115 rfl ?_
                  have hW935 : WX (okM E a cd) w933 := by rw [hw934]; exact hW927.set (k := 19) rfl ⟨_, rfl⟩
                  have k936 : w933[4]? = some (bA E (a 4) 260 tf) := by rw [hw934]; exact set_ne k928 (by decide)
                  have k937 : w933[0]? = some (ob (a 0) 11 [.ref (a 1), .ref (a 2), .ref (a 3), .ref (a 4), .int (nI tp), .int (nI (pl35 + 1)), .int (nI le), .int v41, .int nu36, .int v42, .int (nI cm), .int (nI wt), .int (nI sm), .int (nI (cd.2.2.2.2.2)), .ref (a 5), .ref (a 6), .ref (a 7), .ref (a 8), .ref (a 9), .ref (a 10), .ref (a 11), .ref (a 12), .ref (a 13), .ref (a 14), .ref (a 15), .ref (a 16), .ref (a 17), .int (nI lm), .ref (a 18), .ref (a 19), .ref (a 20), .ref (a 21), .int v43, .int v44, .int v45, .int v46, .int (nI n48), .int (nI n49), .ref (a 22), .ref (a 23), .ref (a 24), .ref (a 25), .ref (a 26), .ref (a 27), .ref (a 28), .ref (a 29), .ref (a 30), .int v47]) := by rw [hw934]; exact set_ne k929 (by decide)
                  have k938 : w933[19]? = some (iA E (a 19) 24 (upd f932 (nI lm).toNatClampNeg r61)) := by rw [hw934]; exact set_eq k931
                  have kp939 := keeps_set kp930 hw934 (by first | exact rfl | decide | omega | (dsimp only; omega))
                  refine x_aload_n C dX12_readsLine_116 rfl 2 rfl rfl ?_
                  refine x_get C (ci := 11) (k := 30) 0 k937 rfl in_X12 (by decide) w_1148 rfl dX12_readsLine_117 rfl ?_
                  refine x_aload_n C dX12_readsLine_120 rfl 2 rfl rfl ?_
                  refine x_get C (ci := 11) (k := 27) 0 k937 rfl in_X12 (by decide) w_1145 rfl dX12_readsLine_121 rfl ?_
                  refine x_iconst C (v := 0) dX12_readsLine_124 (by decide) rfl ?_
                  obtain ⟨_, k940, g941, gb942, rfl⟩ := hW935 20 _ rfl
                  have gb943 := updn_le (i := lm) (v := 0) gb942 (by omega)
                  obtain ⟨w944, hw945⟩ : ∃ w : va_W, w = List.set w933 20 (iA E (a 20) 24 (upd (fun j => nI (g941 j)) lm (nI 0))) := ⟨_, rfl⟩
                  refine x_iask C lm (nI_clamp (by omega)) (nI_pos (by omega)) (by omega) 20 k940 hw945.symm dX12_readsLine_125 rfl ?_
                  have hW946 : WX (okM E a cd) w944 := by rw [hw945]; exact hW935.set (k := 20) rfl ⟨_, gb943, iA_n (upd_nI g941 lm 0)⟩
                  have k947 : w944[4]? = some (bA E (a 4) 260 tf) := by rw [hw945]; exact set_ne k936 (by decide)
                  have k948 : w944[0]? = some (ob (a 0) 11 [.ref (a 1), .ref (a 2), .ref (a 3), .ref (a 4), .int (nI tp), .int (nI (pl35 + 1)), .int (nI le), .int v41, .int nu36, .int v42, .int (nI cm), .int (nI wt), .int (nI sm), .int (nI (cd.2.2.2.2.2)), .ref (a 5), .ref (a 6), .ref (a 7), .ref (a 8), .ref (a 9), .ref (a 10), .ref (a 11), .ref (a 12), .ref (a 13), .ref (a 14), .ref (a 15), .ref (a 16), .ref (a 17), .int (nI lm), .ref (a 18), .ref (a 19), .ref (a 20), .ref (a 21), .int v43, .int v44, .int v45, .int v46, .int (nI n48), .int (nI n49), .ref (a 22), .ref (a 23), .ref (a 24), .ref (a 25), .ref (a 26), .ref (a 27), .ref (a 28), .ref (a 29), .ref (a 30), .int v47]) := by rw [hw945]; exact set_ne k937 (by decide)
                  have k949 : w944[19]? = some (iA E (a 19) 24 (upd f932 (nI lm).toNatClampNeg r61)) := by rw [hw945]; exact set_ne k938 (by decide)
                  have k950 : w944[20]? = some (iA E (a 20) 24 (upd (fun j => nI (g941 j)) lm (nI 0))) := by rw [hw945]; exact set_eq k940
                  have kp951 := keeps_set kp939 hw945 (by first | exact rfl | decide | omega | (dsimp only; omega))
                  have k952 : w944[20]? = some (iA E (a 20) 24 (fun j => nI ((updn g941 lm 0) j))) := by rw [← upd_nI]; exact k950
                  refine x_iload_n C dX12_readsLine_126 rfl 0 rfl rfl ?_
                  refine x_bipush C (v := 62) dX12_readsLine_127 (by decide) rfl ?_
                  refine x_icmp_eq C (tgt := 138) dX12_readsLine_129 (by decide) rfl (fun c953 => ?_) (fun c953 => ?_)
                  · skip
                    have hp954 := hv_lt (x64.symm.trans c953) (by decide)
                    refine x_aload_n C dX12_readsLine_138 rfl 2 rfl rfl ?_
                    refine x_vi C (As := []) (rest := []) (m_isDigit E l a cd hG w944 hW946 tp (pl35 + 1) le cm wt sm lm nu36 ⟨v41, v42, v43, v44, v45, v46, v47, n48, n49, ⟨by omega, by omega, by omega, by omega, by omega, by omega, by omega⟩, ⟨by omega, by omega⟩, zb52, k948⟩ tf k947) mf_X12_isDigit w_1341 0 k948 rfl rfl rfl (Nat.le_of_ble_eq_true rfl) ⟨(Nat.le_of_ble_eq_true rfl), (Nat.le_of_ble_eq_true rfl)⟩ ⟨(Nat.le_of_ble_eq_true rfl), (Nat.le_of_ble_eq_true rfl)⟩ dX12_readsLine_139 rfl (fun r956 w957 h955 => ?_)
                    obtain ⟨hW958, zb959, x960⟩ := h955
                    refine x_ws hW958 ?_
                    refine x_if_ne C (tgt := 155) dX12_readsLine_142 (by decide) rfl (fun c961 => ?_) (fun c961 => ?_)
                    · skip
                      obtain ⟨d962, hd963, ed964, hp965⟩ := x960 c961
                      refine x_aload_n C dX12_readsLine_155 rfl 2 rfl rfl ?_
                      refine x_vi C (As := []) (rest := []) (m_here E l a cd hG w944 hW946 tp (pl35 + 1) le cm wt sm lm nu36 ⟨v41, v42, v43, v44, v45, v46, v47, n48, n49, ⟨by omega, by omega, by omega, by omega, by omega, by omega, by omega⟩, ⟨by omega, by omega⟩, zb52, k948⟩ tf k947) mf_X12_here w_1317 0 k948 rfl rfl rfl (Nat.le_of_ble_eq_true rfl) ⟨(Nat.le_of_ble_eq_true rfl), (Nat.le_of_ble_eq_true rfl)⟩ ⟨(Nat.le_of_ble_eq_true rfl), (Nat.le_of_ble_eq_true rfl)⟩ dX12_readsLine_156 rfl (fun r967 w968 h966 => ?_)
                      obtain ⟨hW969, x970⟩ := h966
                      refine x_ws hW969 ?_
                      refine x_top (x970.trans ed964) ?_
                      refine x_bipush C (v := 55) dX12_readsLine_159 (by decide) rfl ?_
                      refine x_icmp_le C (tgt := 174) dX12_readsLine_161 (by decide) rfl (fun c971 => ?_) (fun c971 => ?_)
                      · skip
                        have nf972 := nI_le' (a := (48 + d962)) (b := 55) c971 (by omega) (by omega)
                        refine x_aload_n C dX12_readsLine_174 rfl 2 rfl rfl ?_
                        refine x_get C (ci := 11) (k := 30) 0 k948 rfl in_X12 (by decide) w_1148 rfl dX12_readsLine_175 rfl ?_
                        refine x_aload_n C dX12_readsLine_178 rfl 2 rfl rfl ?_
                        refine x_get C (ci := 11) (k := 27) 0 k948 rfl in_X12 (by decide) w_1145 rfl dX12_readsLine_179 rfl ?_
                        refine x_aload_n C dX12_readsLine_182 rfl 2 rfl rfl ?_
                        refine x_vi C (As := []) (rest := [.int (nI lm), .ref (a 20)]) (m_here E l a cd hG w944 hW946 tp (pl35 + 1) le cm wt sm lm nu36 ⟨v41, v42, v43, v44, v45, v46, v47, n48, n49, ⟨by omega, by omega, by omega, by omega, by omega, by omega, by omega⟩, ⟨by omega, by omega⟩, zb52, k948⟩ tf k947) mf_X12_here w_1317 0 k948 rfl rfl rfl (Nat.le_of_ble_eq_true rfl) ⟨(Nat.le_of_ble_eq_true rfl), (Nat.le_of_ble_eq_true rfl)⟩ ⟨(Nat.le_of_ble_eq_true rfl), (Nat.le_of_ble_eq_true rfl)⟩ dX12_readsLine_183 rfl (fun r974 w975 h973 => ?_)
                        obtain ⟨hW976, x977⟩ := h973
                        refine x_ws hW976 ?_
                        refine x_top (x977.trans ed964) ?_
                        refine x_bipush C (v := 48) dX12_readsLine_186 (by decide) rfl ?_
                        refine x_isub C (v := (nI ((48 + d962) - 48))) dX12_readsLine_188 (pk_sub (a := (48 + d962)) (b := 48) (by omega)) rfl ?_
                        have gb978 := updn_le (i := lm) (v := ((48 + d962) - 48)) gb943 (by omega)
                        obtain ⟨w979, hw980⟩ : ∃ w : va_W, w = List.set w944 20 (iA E (a 20) 24 (upd (fun j => nI ((updn g941 lm 0) j)) lm (nI ((48 + d962) - 48)))) := ⟨_, rfl⟩
                        refine x_iask C lm (nI_clamp (by omega)) (nI_pos (by omega)) (by omega) 20 k952 hw980.symm dX12_readsLine_189 rfl ?_
                        have hW981 : WX (okM E a cd) w979 := by rw [hw980]; exact hW946.set (k := 20) rfl ⟨_, gb978, iA_n (upd_nI (updn g941 lm 0) lm ((48 + d962) - 48))⟩
                        have k982 : w979[4]? = some (bA E (a 4) 260 tf) := by rw [hw980]; exact set_ne k947 (by decide)
                        have k983 : w979[0]? = some (ob (a 0) 11 [.ref (a 1), .ref (a 2), .ref (a 3), .ref (a 4), .int (nI tp), .int (nI (pl35 + 1)), .int (nI le), .int v41, .int nu36, .int v42, .int (nI cm), .int (nI wt), .int (nI sm), .int (nI (cd.2.2.2.2.2)), .ref (a 5), .ref (a 6), .ref (a 7), .ref (a 8), .ref (a 9), .ref (a 10), .ref (a 11), .ref (a 12), .ref (a 13), .ref (a 14), .ref (a 15), .ref (a 16), .ref (a 17), .int (nI lm), .ref (a 18), .ref (a 19), .ref (a 20), .ref (a 21), .int v43, .int v44, .int v45, .int v46, .int (nI n48), .int (nI n49), .ref (a 22), .ref (a 23), .ref (a 24), .ref (a 25), .ref (a 26), .ref (a 27), .ref (a 28), .ref (a 29), .ref (a 30), .int v47]) := by rw [hw980]; exact set_ne k948 (by decide)
                        have k984 : w979[19]? = some (iA E (a 19) 24 (upd f932 (nI lm).toNatClampNeg r61)) := by rw [hw980]; exact set_ne k949 (by decide)
                        have k985 : w979[20]? = some (iA E (a 20) 24 (upd (fun j => nI ((updn g941 lm 0) j)) lm (nI ((48 + d962) - 48)))) := by rw [hw980]; exact set_eq k952
                        have kp986 := keeps_set kp951 hw980 (by first | exact rfl | decide | omega | (dsimp only; omega))
                        have k987 : w979[20]? = some (iA E (a 20) 24 (fun j => nI ((updn (updn g941 lm 0) lm ((48 + d962) - 48)) j))) := by rw [← upd_nI]; exact k985
                        refine x_aload_n C dX12_readsLine_190 rfl 2 rfl rfl ?_
                        refine x_aload_n C dX12_readsLine_191 rfl 2 rfl rfl ?_
                        refine x_get C (ci := 11) (k := 5) 0 k983 rfl in_X12 (by decide) w_1123 rfl dX12_readsLine_192 rfl ?_
                        refine x_iconst C (v := 1) dX12_readsLine_195 (by decide) rfl ?_
                        refine x_iadd C (v := (nI ((pl35 + 1) + 1))) dX12_readsLine_196 (nI_add (pl35 + 1) 1) rfl ?_
                        obtain ⟨w988, hw989⟩ : ∃ w : va_W, w = List.set w979 0 (ob (a 0) 11 [.ref (a 1), .ref (a 2), .ref (a 3), .ref (a 4), .int (nI tp), .int (nI ((pl35 + 1) + 1)), .int (nI le), .int v41, .int nu36, .int v42, .int (nI cm), .int (nI wt), .int (nI sm), .int (nI (cd.2.2.2.2.2)), .ref (a 5), .ref (a 6), .ref (a 7), .ref (a 8), .ref (a 9), .ref (a 10), .ref (a 11), .ref (a 12), .ref (a 13), .ref (a 14), .ref (a 15), .ref (a 16), .ref (a 17), .int (nI lm), .ref (a 18), .ref (a 19), .ref (a 20), .ref (a 21), .int v43, .int v44, .int v45, .int v46, .int (nI n48), .int (nI n49), .ref (a 22), .ref (a 23), .ref (a 24), .ref (a 25), .ref (a 26), .ref (a 27), .ref (a 28), .ref (a 29), .ref (a 30), .int v47]) := ⟨_, rfl⟩
                        refine x_put C (ci := 11) (k := 5) (ty := .int) 0 k983 rfl in_X12 tyX12 tyX12_ok nmX12 (by decide) w_1123 rfl rfl rfl rfl (Nat.le_of_ble_eq_true rfl) hw989.symm dX12_readsLine_197 rfl ?_
                        have hW990 : WX (okM E a cd) w988 := by rw [hw989]; exact hW981.set (k := 0) rfl ⟨tp, ((pl35 + 1) + 1), le, v41, nu36, v42, cm, wt, sm, lm, v43, v44, v45, v46, n48, n49, v47, by omega, by omega, by omega, by omega, by omega, by omega, by omega, by omega, by omega, zb52, rfl⟩
                        have k991 : w988[4]? = some (bA E (a 4) 260 tf) := by rw [hw989]; exact set_ne k982 (by decide)
                        have k992 : w988[0]? = some (ob (a 0) 11 [.ref (a 1), .ref (a 2), .ref (a 3), .ref (a 4), .int (nI tp), .int (nI ((pl35 + 1) + 1)), .int (nI le), .int v41, .int nu36, .int v42, .int (nI cm), .int (nI wt), .int (nI sm), .int (nI (cd.2.2.2.2.2)), .ref (a 5), .ref (a 6), .ref (a 7), .ref (a 8), .ref (a 9), .ref (a 10), .ref (a 11), .ref (a 12), .ref (a 13), .ref (a 14), .ref (a 15), .ref (a 16), .ref (a 17), .int (nI lm), .ref (a 18), .ref (a 19), .ref (a 20), .ref (a 21), .int v43, .int v44, .int v45, .int v46, .int (nI n48), .int (nI n49), .ref (a 22), .ref (a 23), .ref (a 24), .ref (a 25), .ref (a 26), .ref (a 27), .ref (a 28), .ref (a 29), .ref (a 30), .int v47]) := by rw [hw989]; exact set_eq k983
                        have k993 : w988[19]? = some (iA E (a 19) 24 (upd f932 (nI lm).toNatClampNeg r61)) := by rw [hw989]; exact set_ne k984 (by decide)
                        have k994 : w988[20]? = some (iA E (a 20) 24 (fun j => nI ((updn (updn g941 lm 0) lm ((48 + d962) - 48)) j))) := by rw [hw989]; exact set_ne k987 (by decide)
                        have kp995 := keeps_set kp986 hw989 (by first | exact rfl | decide | omega | (dsimp only; omega))
                        refine x_aload_n C dX12_readsLine_200 rfl 2 rfl rfl ?_
                        refine x_get C (ci := 11) (k := 28) 0 k992 rfl in_X12 (by decide) w_1146 rfl dX12_readsLine_201 rfl ?_
                        refine x_aload_n C dX12_readsLine_204 rfl 2 rfl rfl ?_
                        refine x_get C (ci := 11) (k := 27) 0 k992 rfl in_X12 (by decide) w_1145 rfl dX12_readsLine_205 rfl ?_
                        refine x_iconst C (v := 1) dX12_readsLine_208 (by decide) rfl ?_
                        refine x_iadd C (v := (nI (lm + 1))) dX12_readsLine_209 (nI_add lm 1) rfl ?_
                        refine x_aload_n C dX12_readsLine_210 rfl 2 rfl rfl ?_
                        refine x_get C (ci := 11) (k := 28) 0 k992 rfl in_X12 (by decide) w_1146 rfl dX12_readsLine_211 rfl ?_
                        refine x_aload_n C dX12_readsLine_214 rfl 2 rfl rfl ?_
                        refine x_get C (ci := 11) (k := 27) 0 k992 rfl in_X12 (by decide) w_1145 rfl dX12_readsLine_215 rfl ?_
                        obtain ⟨_, k996, g997, gb998, rfl⟩ := hW990 18 _ rfl
                        refine x_ialk C (v := nI (g997 lm)) lm (nI_clamp (by omega)) (nI_pos (by omega)) (by omega) 18 k996 rfl dX12_readsLine_218 rfl ?_
                        have bx999 := gb998 lm
                        refine x_iload_n C dX12_readsLine_219 rfl 1 rfl rfl ?_
                        refine x_iadd C (v := (nI ((g997 lm) + mm55))) dX12_readsLine_220 (nI_add (g997 lm) mm55) rfl ?_
                        have gb1000 := updn_leF (i := (lm + 1)) (v := ((g997 lm) + mm55)) gb998 (by omega)
                        obtain ⟨w1001, hw1002⟩ : ∃ w : va_W, w = List.set w988 18 (iA E (a 18) 25 (upd (fun j => nI (g997 j)) (lm + 1) (nI ((g997 lm) + mm55)))) := ⟨_, rfl⟩
                        refine x_iask C (lm + 1) (nI_clamp (by omega)) (nI_pos (by omega)) (by omega) 18 k996 hw1002.symm dX12_readsLine_221 rfl ?_
                        have hW1003 : WX (okM E a cd) w1001 := by rw [hw1002]; exact hW990.set (k := 18) rfl ⟨_, gb1000, iA_n (upd_nI g997 (lm + 1) ((g997 lm) + mm55))⟩
                        have k1004 : w1001[4]? = some (bA E (a 4) 260 tf) := by rw [hw1002]; exact set_ne k991 (by decide)
                        have k1005 : w1001[0]? = some (ob (a 0) 11 [.ref (a 1), .ref (a 2), .ref (a 3), .ref (a 4), .int (nI tp), .int (nI ((pl35 + 1) + 1)), .int (nI le), .int v41, .int nu36, .int v42, .int (nI cm), .int (nI wt), .int (nI sm), .int (nI (cd.2.2.2.2.2)), .ref (a 5), .ref (a 6), .ref (a 7), .ref (a 8), .ref (a 9), .ref (a 10), .ref (a 11), .ref (a 12), .ref (a 13), .ref (a 14), .ref (a 15), .ref (a 16), .ref (a 17), .int (nI lm), .ref (a 18), .ref (a 19), .ref (a 20), .ref (a 21), .int v43, .int v44, .int v45, .int v46, .int (nI n48), .int (nI n49), .ref (a 22), .ref (a 23), .ref (a 24), .ref (a 25), .ref (a 26), .ref (a 27), .ref (a 28), .ref (a 29), .ref (a 30), .int v47]) := by rw [hw1002]; exact set_ne k992 (by decide)
                        have k1006 : w1001[19]? = some (iA E (a 19) 24 (upd f932 (nI lm).toNatClampNeg r61)) := by rw [hw1002]; exact set_ne k993 (by decide)
                        have k1007 : w1001[20]? = some (iA E (a 20) 24 (fun j => nI ((updn (updn g941 lm 0) lm ((48 + d962) - 48)) j))) := by rw [hw1002]; exact set_ne k994 (by decide)
                        have k1008 : w1001[18]? = some (iA E (a 18) 25 (upd (fun j => nI (g997 j)) (lm + 1) (nI ((g997 lm) + mm55)))) := by rw [hw1002]; exact set_eq k996
                        have kp1009 := keeps_set kp995 hw1002 (by first | exact rfl | decide | omega | (dsimp only; omega))
                        have k1010 : w1001[18]? = some (iA E (a 18) 25 (fun j => nI ((updn g997 (lm + 1) ((g997 lm) + mm55)) j))) := by rw [← upd_nI]; exact k1008
                        refine x_aload_n C dX12_readsLine_222 rfl 2 rfl rfl ?_
                        refine x_aload_n C dX12_readsLine_223 rfl 2 rfl rfl ?_
                        refine x_get C (ci := 11) (k := 27) 0 k1005 rfl in_X12 (by decide) w_1145 rfl dX12_readsLine_224 rfl ?_
                        refine x_iconst C (v := 1) dX12_readsLine_227 (by decide) rfl ?_
                        refine x_iadd C (v := (nI (lm + 1))) dX12_readsLine_228 (nI_add lm 1) rfl ?_
                        obtain ⟨w1011, hw1012⟩ : ∃ w : va_W, w = List.set w1001 0 (ob (a 0) 11 [.ref (a 1), .ref (a 2), .ref (a 3), .ref (a 4), .int (nI tp), .int (nI ((pl35 + 1) + 1)), .int (nI le), .int v41, .int nu36, .int v42, .int (nI cm), .int (nI wt), .int (nI sm), .int (nI (cd.2.2.2.2.2)), .ref (a 5), .ref (a 6), .ref (a 7), .ref (a 8), .ref (a 9), .ref (a 10), .ref (a 11), .ref (a 12), .ref (a 13), .ref (a 14), .ref (a 15), .ref (a 16), .ref (a 17), .int (nI (lm + 1)), .ref (a 18), .ref (a 19), .ref (a 20), .ref (a 21), .int v43, .int v44, .int v45, .int v46, .int (nI n48), .int (nI n49), .ref (a 22), .ref (a 23), .ref (a 24), .ref (a 25), .ref (a 26), .ref (a 27), .ref (a 28), .ref (a 29), .ref (a 30), .int v47]) := ⟨_, rfl⟩
                        refine x_put C (ci := 11) (k := 27) (ty := .int) 0 k1005 rfl in_X12 tyX12 tyX12_ok nmX12 (by decide) w_1145 rfl rfl rfl rfl (Nat.le_of_ble_eq_true rfl) hw1012.symm dX12_readsLine_229 rfl ?_
                        have hW1013 : WX (okM E a cd) w1011 := by rw [hw1012]; exact hW1003.set (k := 0) rfl ⟨tp, ((pl35 + 1) + 1), le, v41, nu36, v42, cm, wt, sm, (lm + 1), v43, v44, v45, v46, n48, n49, v47, by omega, by omega, by omega, by omega, by omega, by omega, by omega, by omega, by omega, zb52, rfl⟩
                        have k1014 : w1011[4]? = some (bA E (a 4) 260 tf) := by rw [hw1012]; exact set_ne k1004 (by decide)
                        have k1015 : w1011[0]? = some (ob (a 0) 11 [.ref (a 1), .ref (a 2), .ref (a 3), .ref (a 4), .int (nI tp), .int (nI ((pl35 + 1) + 1)), .int (nI le), .int v41, .int nu36, .int v42, .int (nI cm), .int (nI wt), .int (nI sm), .int (nI (cd.2.2.2.2.2)), .ref (a 5), .ref (a 6), .ref (a 7), .ref (a 8), .ref (a 9), .ref (a 10), .ref (a 11), .ref (a 12), .ref (a 13), .ref (a 14), .ref (a 15), .ref (a 16), .ref (a 17), .int (nI (lm + 1)), .ref (a 18), .ref (a 19), .ref (a 20), .ref (a 21), .int v43, .int v44, .int v45, .int v46, .int (nI n48), .int (nI n49), .ref (a 22), .ref (a 23), .ref (a 24), .ref (a 25), .ref (a 26), .ref (a 27), .ref (a 28), .ref (a 29), .ref (a 30), .int v47]) := by rw [hw1012]; exact set_eq k1005
                        have k1016 : w1011[19]? = some (iA E (a 19) 24 (upd f932 (nI lm).toNatClampNeg r61)) := by rw [hw1012]; exact set_ne k1006 (by decide)
                        have k1017 : w1011[20]? = some (iA E (a 20) 24 (fun j => nI ((updn (updn g941 lm 0) lm ((48 + d962) - 48)) j))) := by rw [hw1012]; exact set_ne k1007 (by decide)
                        have k1018 : w1011[18]? = some (iA E (a 18) 25 (fun j => nI ((updn g997 (lm + 1) ((g997 lm) + mm55)) j))) := by rw [hw1012]; exact set_ne k1010 (by decide)
                        have kp1019 := keeps_set kp1009 hw1012 (by first | exact rfl | decide | omega | (dsimp only; omega))
                        refine x_iconst C (v := 1) dX12_readsLine_232 (by decide) rfl ?_
                        exact x_zret C hr hlk rfl dX12_readsLine_233 ⟨hW1013, kp1019, (Or.inr rfl), ⟨((pl35 + 1) + 1), (lm + 1), nu36, by omega, by omega, by omega, ⟨v41, v42, v43, v44, v45, v46, v47, n48, n49, ⟨by omega, by omega, by omega, by omega, by omega, by omega, by omega⟩, ⟨by omega, by omega⟩, zb52, k1015⟩⟩⟩
                      · skip
                        have nf1020 := nI_nle' (a := (48 + d962)) (b := 55) c971 (by omega) (by omega)
                        refine x_aload_n C dX12_readsLine_164 rfl 2 rfl rfl ?_
                        refine x_iconst C (v := 3) dX12_readsLine_165 (by decide) rfl ?_
                        refine x_aload_n C dX12_readsLine_166 rfl 2 rfl rfl ?_
                        refine x_get C (ci := 11) (k := 5) 0 k948 rfl in_X12 (by decide) w_1123 rfl dX12_readsLine_167 rfl ?_
                        refine x_vi C (As := [.int 3, .int (nI (pl35 + 1))]) (rest := []) (m_wrongAt E l a cd hG w944 hW946 (3 : Int32) ((nI (pl35 + 1))) tp (pl35 + 1) le cm wt sm lm nu36 ⟨v41, v42, v43, v44, v45, v46, v47, n48, n49, ⟨by omega, by omega, by omega, by omega, by omega, by omega, by omega⟩, ⟨by omega, by omega⟩, zb52, k948⟩) mf_X12_wrongAt w_1324 0 k948 rfl rfl rfl (Nat.le_of_ble_eq_true rfl) ⟨(Nat.le_of_ble_eq_true rfl), (Nat.le_of_ble_eq_true rfl)⟩ ⟨(Nat.le_of_ble_eq_true rfl), (Nat.le_of_ble_eq_true rfl)⟩ dX12_readsLine_170 rfl (fun r1022 w1023 h1021 => ?_)
                        obtain ⟨hW1024, kq1025, e1026, x1027⟩ := h1021
                        refine x_top e1026 ?_
                        have k1028 : w1023[4]? = some (bA E (a 4) 260 tf) := keeps_at kq1025 k947 (by first | decide | omega | (dsimp only; omega))
                        have k1029 : w1023[19]? = some (iA E (a 19) 24 (upd f932 (nI lm).toNatClampNeg r61)) := keeps_at kq1025 k949 (by first | decide | omega | (dsimp only; omega))
                        have k1030 : w1023[20]? = some (iA E (a 20) 24 (fun j => nI ((updn g941 lm 0) j))) := keeps_at kq1025 k952 (by first | decide | omega | (dsimp only; omega))
                        have kp1031 := keeps_tr kp951 kq1025 (fun q hq => by first | omega | (dsimp only at *; omega))
                        obtain ⟨v1032, v1033, v1034, v1035, v1036, v1037, v1038, n1039, n1040, bo1041, bo1042, zb1043, k1044⟩ := x1027
                        exact x_zret C hr hlk rfl dX12_readsLine_173 ⟨hW1024, kp1031, (Or.inl rfl), ⟨((pl35 + 1)), lm, nu36, by omega, by omega, by omega, ⟨v1032, v1033, v1034, v1035, v1036, v1037, v1038, n1039, n1040, ⟨by omega, by omega, by omega, by omega, by omega, by omega, by omega⟩, ⟨by omega, by omega⟩, zb1043, k1044⟩⟩⟩
                    · skip
                      refine x_aload_n C dX12_readsLine_145 rfl 2 rfl rfl ?_
                      refine x_iconst C (v := 1) dX12_readsLine_146 (by decide) rfl ?_
                      refine x_aload_n C dX12_readsLine_147 rfl 2 rfl rfl ?_
                      refine x_get C (ci := 11) (k := 5) 0 k948 rfl in_X12 (by decide) w_1123 rfl dX12_readsLine_148 rfl ?_
                      refine x_vi C (As := [.int 1, .int (nI (pl35 + 1))]) (rest := []) (m_wrongAt E l a cd hG w944 hW946 (1 : Int32) ((nI (pl35 + 1))) tp (pl35 + 1) le cm wt sm lm nu36 ⟨v41, v42, v43, v44, v45, v46, v47, n48, n49, ⟨by omega, by omega, by omega, by omega, by omega, by omega, by omega⟩, ⟨by omega, by omega⟩, zb52, k948⟩) mf_X12_wrongAt w_1324 0 k948 rfl rfl rfl (Nat.le_of_ble_eq_true rfl) ⟨(Nat.le_of_ble_eq_true rfl), (Nat.le_of_ble_eq_true rfl)⟩ ⟨(Nat.le_of_ble_eq_true rfl), (Nat.le_of_ble_eq_true rfl)⟩ dX12_readsLine_151 rfl (fun r1046 w1047 h1045 => ?_)
                      obtain ⟨hW1048, kq1049, e1050, x1051⟩ := h1045
                      refine x_top e1050 ?_
                      have k1052 : w1047[4]? = some (bA E (a 4) 260 tf) := keeps_at kq1049 k947 (by first | decide | omega | (dsimp only; omega))
                      have k1053 : w1047[19]? = some (iA E (a 19) 24 (upd f932 (nI lm).toNatClampNeg r61)) := keeps_at kq1049 k949 (by first | decide | omega | (dsimp only; omega))
                      have k1054 : w1047[20]? = some (iA E (a 20) 24 (fun j => nI ((updn g941 lm 0) j))) := keeps_at kq1049 k952 (by first | decide | omega | (dsimp only; omega))
                      have kp1055 := keeps_tr kp951 kq1049 (fun q hq => by first | omega | (dsimp only at *; omega))
                      obtain ⟨v1056, v1057, v1058, v1059, v1060, v1061, v1062, n1063, n1064, bo1065, bo1066, zb1067, k1068⟩ := x1051
                      exact x_zret C hr hlk rfl dX12_readsLine_154 ⟨hW1048, kp1055, (Or.inl rfl), ⟨((pl35 + 1)), lm, nu36, by omega, by omega, by omega, ⟨v1056, v1057, v1058, v1059, v1060, v1061, v1062, n1063, n1064, ⟨by omega, by omega, by omega, by omega, by omega, by omega, by omega⟩, ⟨by omega, by omega⟩, zb1067, k1068⟩⟩⟩
                  · skip
                    refine x_iload_n C dX12_readsLine_132 rfl 0 rfl rfl ?_
                    refine x_bipush C (v := 33) dX12_readsLine_133 (by decide) rfl ?_
                    refine x_icmp_ne C (tgt := 200) dX12_readsLine_135 (by decide) rfl (fun c1069 => ?_) (fun c1069 => ?_)
                    · skip
                      refine x_aload_n C dX12_readsLine_200 rfl 2 rfl rfl ?_
                      refine x_get C (ci := 11) (k := 28) 0 k948 rfl in_X12 (by decide) w_1146 rfl dX12_readsLine_201 rfl ?_
                      refine x_aload_n C dX12_readsLine_204 rfl 2 rfl rfl ?_
                      refine x_get C (ci := 11) (k := 27) 0 k948 rfl in_X12 (by decide) w_1145 rfl dX12_readsLine_205 rfl ?_
                      refine x_iconst C (v := 1) dX12_readsLine_208 (by decide) rfl ?_
                      refine x_iadd C (v := (nI (lm + 1))) dX12_readsLine_209 (nI_add lm 1) rfl ?_
                      refine x_aload_n C dX12_readsLine_210 rfl 2 rfl rfl ?_
                      refine x_get C (ci := 11) (k := 28) 0 k948 rfl in_X12 (by decide) w_1146 rfl dX12_readsLine_211 rfl ?_
                      refine x_aload_n C dX12_readsLine_214 rfl 2 rfl rfl ?_
                      refine x_get C (ci := 11) (k := 27) 0 k948 rfl in_X12 (by decide) w_1145 rfl dX12_readsLine_215 rfl ?_
                      obtain ⟨_, k1070, g1071, gb1072, rfl⟩ := hW946 18 _ rfl
                      refine x_ialk C (v := nI (g1071 lm)) lm (nI_clamp (by omega)) (nI_pos (by omega)) (by omega) 18 k1070 rfl dX12_readsLine_218 rfl ?_
                      have bx1073 := gb1072 lm
                      refine x_iload_n C dX12_readsLine_219 rfl 1 rfl rfl ?_
                      refine x_iadd C (v := (nI ((g1071 lm) + mm55))) dX12_readsLine_220 (nI_add (g1071 lm) mm55) rfl ?_
                      have gb1074 := updn_leF (i := (lm + 1)) (v := ((g1071 lm) + mm55)) gb1072 (by omega)
                      obtain ⟨w1075, hw1076⟩ : ∃ w : va_W, w = List.set w944 18 (iA E (a 18) 25 (upd (fun j => nI (g1071 j)) (lm + 1) (nI ((g1071 lm) + mm55)))) := ⟨_, rfl⟩
                      refine x_iask C (lm + 1) (nI_clamp (by omega)) (nI_pos (by omega)) (by omega) 18 k1070 hw1076.symm dX12_readsLine_221 rfl ?_
                      have hW1077 : WX (okM E a cd) w1075 := by rw [hw1076]; exact hW946.set (k := 18) rfl ⟨_, gb1074, iA_n (upd_nI g1071 (lm + 1) ((g1071 lm) + mm55))⟩
                      have k1078 : w1075[4]? = some (bA E (a 4) 260 tf) := by rw [hw1076]; exact set_ne k947 (by decide)
                      have k1079 : w1075[0]? = some (ob (a 0) 11 [.ref (a 1), .ref (a 2), .ref (a 3), .ref (a 4), .int (nI tp), .int (nI (pl35 + 1)), .int (nI le), .int v41, .int nu36, .int v42, .int (nI cm), .int (nI wt), .int (nI sm), .int (nI (cd.2.2.2.2.2)), .ref (a 5), .ref (a 6), .ref (a 7), .ref (a 8), .ref (a 9), .ref (a 10), .ref (a 11), .ref (a 12), .ref (a 13), .ref (a 14), .ref (a 15), .ref (a 16), .ref (a 17), .int (nI lm), .ref (a 18), .ref (a 19), .ref (a 20), .ref (a 21), .int v43, .int v44, .int v45, .int v46, .int (nI n48), .int (nI n49), .ref (a 22), .ref (a 23), .ref (a 24), .ref (a 25), .ref (a 26), .ref (a 27), .ref (a 28), .ref (a 29), .ref (a 30), .int v47]) := by rw [hw1076]; exact set_ne k948 (by decide)
                      have k1080 : w1075[19]? = some (iA E (a 19) 24 (upd f932 (nI lm).toNatClampNeg r61)) := by rw [hw1076]; exact set_ne k949 (by decide)
                      have k1081 : w1075[20]? = some (iA E (a 20) 24 (fun j => nI ((updn g941 lm 0) j))) := by rw [hw1076]; exact set_ne k952 (by decide)
                      have k1082 : w1075[18]? = some (iA E (a 18) 25 (upd (fun j => nI (g1071 j)) (lm + 1) (nI ((g1071 lm) + mm55)))) := by rw [hw1076]; exact set_eq k1070
                      have kp1083 := keeps_set kp951 hw1076 (by first | exact rfl | decide | omega | (dsimp only; omega))
                      have k1084 : w1075[18]? = some (iA E (a 18) 25 (fun j => nI ((updn g1071 (lm + 1) ((g1071 lm) + mm55)) j))) := by rw [← upd_nI]; exact k1082
                      refine x_aload_n C dX12_readsLine_222 rfl 2 rfl rfl ?_
                      refine x_aload_n C dX12_readsLine_223 rfl 2 rfl rfl ?_
                      refine x_get C (ci := 11) (k := 27) 0 k1079 rfl in_X12 (by decide) w_1145 rfl dX12_readsLine_224 rfl ?_
                      refine x_iconst C (v := 1) dX12_readsLine_227 (by decide) rfl ?_
                      refine x_iadd C (v := (nI (lm + 1))) dX12_readsLine_228 (nI_add lm 1) rfl ?_
                      obtain ⟨w1085, hw1086⟩ : ∃ w : va_W, w = List.set w1075 0 (ob (a 0) 11 [.ref (a 1), .ref (a 2), .ref (a 3), .ref (a 4), .int (nI tp), .int (nI (pl35 + 1)), .int (nI le), .int v41, .int nu36, .int v42, .int (nI cm), .int (nI wt), .int (nI sm), .int (nI (cd.2.2.2.2.2)), .ref (a 5), .ref (a 6), .ref (a 7), .ref (a 8), .ref (a 9), .ref (a 10), .ref (a 11), .ref (a 12), .ref (a 13), .ref (a 14), .ref (a 15), .ref (a 16), .ref (a 17), .int (nI (lm + 1)), .ref (a 18), .ref (a 19), .ref (a 20), .ref (a 21), .int v43, .int v44, .int v45, .int v46, .int (nI n48), .int (nI n49), .ref (a 22), .ref (a 23), .ref (a 24), .ref (a 25), .ref (a 26), .ref (a 27), .ref (a 28), .ref (a 29), .ref (a 30), .int v47]) := ⟨_, rfl⟩
                      refine x_put C (ci := 11) (k := 27) (ty := .int) 0 k1079 rfl in_X12 tyX12 tyX12_ok nmX12 (by decide) w_1145 rfl rfl rfl rfl (Nat.le_of_ble_eq_true rfl) hw1086.symm dX12_readsLine_229 rfl ?_
                      have hW1087 : WX (okM E a cd) w1085 := by rw [hw1086]; exact hW1077.set (k := 0) rfl ⟨tp, (pl35 + 1), le, v41, nu36, v42, cm, wt, sm, (lm + 1), v43, v44, v45, v46, n48, n49, v47, by omega, by omega, by omega, by omega, by omega, by omega, by omega, by omega, by omega, zb52, rfl⟩
                      have k1088 : w1085[4]? = some (bA E (a 4) 260 tf) := by rw [hw1086]; exact set_ne k1078 (by decide)
                      have k1089 : w1085[0]? = some (ob (a 0) 11 [.ref (a 1), .ref (a 2), .ref (a 3), .ref (a 4), .int (nI tp), .int (nI (pl35 + 1)), .int (nI le), .int v41, .int nu36, .int v42, .int (nI cm), .int (nI wt), .int (nI sm), .int (nI (cd.2.2.2.2.2)), .ref (a 5), .ref (a 6), .ref (a 7), .ref (a 8), .ref (a 9), .ref (a 10), .ref (a 11), .ref (a 12), .ref (a 13), .ref (a 14), .ref (a 15), .ref (a 16), .ref (a 17), .int (nI (lm + 1)), .ref (a 18), .ref (a 19), .ref (a 20), .ref (a 21), .int v43, .int v44, .int v45, .int v46, .int (nI n48), .int (nI n49), .ref (a 22), .ref (a 23), .ref (a 24), .ref (a 25), .ref (a 26), .ref (a 27), .ref (a 28), .ref (a 29), .ref (a 30), .int v47]) := by rw [hw1086]; exact set_eq k1079
                      have k1090 : w1085[19]? = some (iA E (a 19) 24 (upd f932 (nI lm).toNatClampNeg r61)) := by rw [hw1086]; exact set_ne k1080 (by decide)
                      have k1091 : w1085[20]? = some (iA E (a 20) 24 (fun j => nI ((updn g941 lm 0) j))) := by rw [hw1086]; exact set_ne k1081 (by decide)
                      have k1092 : w1085[18]? = some (iA E (a 18) 25 (fun j => nI ((updn g1071 (lm + 1) ((g1071 lm) + mm55)) j))) := by rw [hw1086]; exact set_ne k1084 (by decide)
                      have kp1093 := keeps_set kp1083 hw1086 (by first | exact rfl | decide | omega | (dsimp only; omega))
                      refine x_iconst C (v := 1) dX12_readsLine_232 (by decide) rfl ?_
                      exact x_zret C hr hlk rfl dX12_readsLine_233 ⟨hW1087, kp1093, (Or.inr rfl), ⟨(pl35 + 1), (lm + 1), nu36, by omega, by omega, by omega, ⟨v41, v42, v43, v44, v45, v46, v47, n48, n49, ⟨by omega, by omega, by omega, by omega, by omega, by omega, by omega⟩, ⟨by omega, by omega⟩, zb52, k1089⟩⟩⟩
                    · skip
                      have hp1094 := hv_lt (x64.symm.trans c1069) (by decide)
                      refine x_aload_n C dX12_readsLine_138 rfl 2 rfl rfl ?_
                      refine x_vi C (As := []) (rest := []) (m_isDigit E l a cd hG w944 hW946 tp (pl35 + 1) le cm wt sm lm nu36 ⟨v41, v42, v43, v44, v45, v46, v47, n48, n49, ⟨by omega, by omega, by omega, by omega, by omega, by omega, by omega⟩, ⟨by omega, by omega⟩, zb52, k948⟩ tf k947) mf_X12_isDigit w_1341 0 k948 rfl rfl rfl (Nat.le_of_ble_eq_true rfl) ⟨(Nat.le_of_ble_eq_true rfl), (Nat.le_of_ble_eq_true rfl)⟩ ⟨(Nat.le_of_ble_eq_true rfl), (Nat.le_of_ble_eq_true rfl)⟩ dX12_readsLine_139 rfl (fun r1096 w1097 h1095 => ?_)
                      obtain ⟨hW1098, zb1099, x1100⟩ := h1095
                      refine x_ws hW1098 ?_
                      refine x_if_ne C (tgt := 155) dX12_readsLine_142 (by decide) rfl (fun c1101 => ?_) (fun c1101 => ?_)
                      · skip
                        obtain ⟨d1102, hd1103, ed1104, hp1105⟩ := x1100 c1101
                        refine x_aload_n C dX12_readsLine_155 rfl 2 rfl rfl ?_
                        refine x_vi C (As := []) (rest := []) (m_here E l a cd hG w944 hW946 tp (pl35 + 1) le cm wt sm lm nu36 ⟨v41, v42, v43, v44, v45, v46, v47, n48, n49, ⟨by omega, by omega, by omega, by omega, by omega, by omega, by omega⟩, ⟨by omega, by omega⟩, zb52, k948⟩ tf k947) mf_X12_here w_1317 0 k948 rfl rfl rfl (Nat.le_of_ble_eq_true rfl) ⟨(Nat.le_of_ble_eq_true rfl), (Nat.le_of_ble_eq_true rfl)⟩ ⟨(Nat.le_of_ble_eq_true rfl), (Nat.le_of_ble_eq_true rfl)⟩ dX12_readsLine_156 rfl (fun r1107 w1108 h1106 => ?_)
                        obtain ⟨hW1109, x1110⟩ := h1106
                        refine x_ws hW1109 ?_
                        refine x_top (x1110.trans ed1104) ?_
                        refine x_bipush C (v := 55) dX12_readsLine_159 (by decide) rfl ?_
                        refine x_icmp_le C (tgt := 174) dX12_readsLine_161 (by decide) rfl (fun c1111 => ?_) (fun c1111 => ?_)
                        · skip
                          have nf1112 := nI_le' (a := (48 + d1102)) (b := 55) c1111 (by omega) (by omega)
                          refine x_aload_n C dX12_readsLine_174 rfl 2 rfl rfl ?_
                          refine x_get C (ci := 11) (k := 30) 0 k948 rfl in_X12 (by decide) w_1148 rfl dX12_readsLine_175 rfl ?_
                          refine x_aload_n C dX12_readsLine_178 rfl 2 rfl rfl ?_
                          refine x_get C (ci := 11) (k := 27) 0 k948 rfl in_X12 (by decide) w_1145 rfl dX12_readsLine_179 rfl ?_
                          refine x_aload_n C dX12_readsLine_182 rfl 2 rfl rfl ?_
                          refine x_vi C (As := []) (rest := [.int (nI lm), .ref (a 20)]) (m_here E l a cd hG w944 hW946 tp (pl35 + 1) le cm wt sm lm nu36 ⟨v41, v42, v43, v44, v45, v46, v47, n48, n49, ⟨by omega, by omega, by omega, by omega, by omega, by omega, by omega⟩, ⟨by omega, by omega⟩, zb52, k948⟩ tf k947) mf_X12_here w_1317 0 k948 rfl rfl rfl (Nat.le_of_ble_eq_true rfl) ⟨(Nat.le_of_ble_eq_true rfl), (Nat.le_of_ble_eq_true rfl)⟩ ⟨(Nat.le_of_ble_eq_true rfl), (Nat.le_of_ble_eq_true rfl)⟩ dX12_readsLine_183 rfl (fun r1114 w1115 h1113 => ?_)
                          obtain ⟨hW1116, x1117⟩ := h1113
                          refine x_ws hW1116 ?_
                          refine x_top (x1117.trans ed1104) ?_
                          refine x_bipush C (v := 48) dX12_readsLine_186 (by decide) rfl ?_
                          refine x_isub C (v := (nI ((48 + d1102) - 48))) dX12_readsLine_188 (pk_sub (a := (48 + d1102)) (b := 48) (by omega)) rfl ?_
                          have gb1118 := updn_le (i := lm) (v := ((48 + d1102) - 48)) gb943 (by omega)
                          obtain ⟨w1119, hw1120⟩ : ∃ w : va_W, w = List.set w944 20 (iA E (a 20) 24 (upd (fun j => nI ((updn g941 lm 0) j)) lm (nI ((48 + d1102) - 48)))) := ⟨_, rfl⟩
                          refine x_iask C lm (nI_clamp (by omega)) (nI_pos (by omega)) (by omega) 20 k952 hw1120.symm dX12_readsLine_189 rfl ?_
                          have hW1121 : WX (okM E a cd) w1119 := by rw [hw1120]; exact hW946.set (k := 20) rfl ⟨_, gb1118, iA_n (upd_nI (updn g941 lm 0) lm ((48 + d1102) - 48))⟩
                          have k1122 : w1119[4]? = some (bA E (a 4) 260 tf) := by rw [hw1120]; exact set_ne k947 (by decide)
                          have k1123 : w1119[0]? = some (ob (a 0) 11 [.ref (a 1), .ref (a 2), .ref (a 3), .ref (a 4), .int (nI tp), .int (nI (pl35 + 1)), .int (nI le), .int v41, .int nu36, .int v42, .int (nI cm), .int (nI wt), .int (nI sm), .int (nI (cd.2.2.2.2.2)), .ref (a 5), .ref (a 6), .ref (a 7), .ref (a 8), .ref (a 9), .ref (a 10), .ref (a 11), .ref (a 12), .ref (a 13), .ref (a 14), .ref (a 15), .ref (a 16), .ref (a 17), .int (nI lm), .ref (a 18), .ref (a 19), .ref (a 20), .ref (a 21), .int v43, .int v44, .int v45, .int v46, .int (nI n48), .int (nI n49), .ref (a 22), .ref (a 23), .ref (a 24), .ref (a 25), .ref (a 26), .ref (a 27), .ref (a 28), .ref (a 29), .ref (a 30), .int v47]) := by rw [hw1120]; exact set_ne k948 (by decide)
                          have k1124 : w1119[19]? = some (iA E (a 19) 24 (upd f932 (nI lm).toNatClampNeg r61)) := by rw [hw1120]; exact set_ne k949 (by decide)
                          have k1125 : w1119[20]? = some (iA E (a 20) 24 (upd (fun j => nI ((updn g941 lm 0) j)) lm (nI ((48 + d1102) - 48)))) := by rw [hw1120]; exact set_eq k952
                          have kp1126 := keeps_set kp951 hw1120 (by first | exact rfl | decide | omega | (dsimp only; omega))
                          have k1127 : w1119[20]? = some (iA E (a 20) 24 (fun j => nI ((updn (updn g941 lm 0) lm ((48 + d1102) - 48)) j))) := by rw [← upd_nI]; exact k1125
                          refine x_aload_n C dX12_readsLine_190 rfl 2 rfl rfl ?_
                          refine x_aload_n C dX12_readsLine_191 rfl 2 rfl rfl ?_
                          refine x_get C (ci := 11) (k := 5) 0 k1123 rfl in_X12 (by decide) w_1123 rfl dX12_readsLine_192 rfl ?_
                          refine x_iconst C (v := 1) dX12_readsLine_195 (by decide) rfl ?_
                          refine x_iadd C (v := (nI ((pl35 + 1) + 1))) dX12_readsLine_196 (nI_add (pl35 + 1) 1) rfl ?_
                          obtain ⟨w1128, hw1129⟩ : ∃ w : va_W, w = List.set w1119 0 (ob (a 0) 11 [.ref (a 1), .ref (a 2), .ref (a 3), .ref (a 4), .int (nI tp), .int (nI ((pl35 + 1) + 1)), .int (nI le), .int v41, .int nu36, .int v42, .int (nI cm), .int (nI wt), .int (nI sm), .int (nI (cd.2.2.2.2.2)), .ref (a 5), .ref (a 6), .ref (a 7), .ref (a 8), .ref (a 9), .ref (a 10), .ref (a 11), .ref (a 12), .ref (a 13), .ref (a 14), .ref (a 15), .ref (a 16), .ref (a 17), .int (nI lm), .ref (a 18), .ref (a 19), .ref (a 20), .ref (a 21), .int v43, .int v44, .int v45, .int v46, .int (nI n48), .int (nI n49), .ref (a 22), .ref (a 23), .ref (a 24), .ref (a 25), .ref (a 26), .ref (a 27), .ref (a 28), .ref (a 29), .ref (a 30), .int v47]) := ⟨_, rfl⟩
                          refine x_put C (ci := 11) (k := 5) (ty := .int) 0 k1123 rfl in_X12 tyX12 tyX12_ok nmX12 (by decide) w_1123 rfl rfl rfl rfl (Nat.le_of_ble_eq_true rfl) hw1129.symm dX12_readsLine_197 rfl ?_
                          have hW1130 : WX (okM E a cd) w1128 := by rw [hw1129]; exact hW1121.set (k := 0) rfl ⟨tp, ((pl35 + 1) + 1), le, v41, nu36, v42, cm, wt, sm, lm, v43, v44, v45, v46, n48, n49, v47, by omega, by omega, by omega, by omega, by omega, by omega, by omega, by omega, by omega, zb52, rfl⟩
                          have k1131 : w1128[4]? = some (bA E (a 4) 260 tf) := by rw [hw1129]; exact set_ne k1122 (by decide)
                          have k1132 : w1128[0]? = some (ob (a 0) 11 [.ref (a 1), .ref (a 2), .ref (a 3), .ref (a 4), .int (nI tp), .int (nI ((pl35 + 1) + 1)), .int (nI le), .int v41, .int nu36, .int v42, .int (nI cm), .int (nI wt), .int (nI sm), .int (nI (cd.2.2.2.2.2)), .ref (a 5), .ref (a 6), .ref (a 7), .ref (a 8), .ref (a 9), .ref (a 10), .ref (a 11), .ref (a 12), .ref (a 13), .ref (a 14), .ref (a 15), .ref (a 16), .ref (a 17), .int (nI lm), .ref (a 18), .ref (a 19), .ref (a 20), .ref (a 21), .int v43, .int v44, .int v45, .int v46, .int (nI n48), .int (nI n49), .ref (a 22), .ref (a 23), .ref (a 24), .ref (a 25), .ref (a 26), .ref (a 27), .ref (a 28), .ref (a 29), .ref (a 30), .int v47]) := by rw [hw1129]; exact set_eq k1123
                          have k1133 : w1128[19]? = some (iA E (a 19) 24 (upd f932 (nI lm).toNatClampNeg r61)) := by rw [hw1129]; exact set_ne k1124 (by decide)
                          have k1134 : w1128[20]? = some (iA E (a 20) 24 (fun j => nI ((updn (updn g941 lm 0) lm ((48 + d1102) - 48)) j))) := by rw [hw1129]; exact set_ne k1127 (by decide)
                          have kp1135 := keeps_set kp1126 hw1129 (by first | exact rfl | decide | omega | (dsimp only; omega))
                          refine x_aload_n C dX12_readsLine_200 rfl 2 rfl rfl ?_
                          refine x_get C (ci := 11) (k := 28) 0 k1132 rfl in_X12 (by decide) w_1146 rfl dX12_readsLine_201 rfl ?_
                          refine x_aload_n C dX12_readsLine_204 rfl 2 rfl rfl ?_
                          refine x_get C (ci := 11) (k := 27) 0 k1132 rfl in_X12 (by decide) w_1145 rfl dX12_readsLine_205 rfl ?_
                          refine x_iconst C (v := 1) dX12_readsLine_208 (by decide) rfl ?_
                          refine x_iadd C (v := (nI (lm + 1))) dX12_readsLine_209 (nI_add lm 1) rfl ?_
                          refine x_aload_n C dX12_readsLine_210 rfl 2 rfl rfl ?_
                          refine x_get C (ci := 11) (k := 28) 0 k1132 rfl in_X12 (by decide) w_1146 rfl dX12_readsLine_211 rfl ?_
                          refine x_aload_n C dX12_readsLine_214 rfl 2 rfl rfl ?_
                          refine x_get C (ci := 11) (k := 27) 0 k1132 rfl in_X12 (by decide) w_1145 rfl dX12_readsLine_215 rfl ?_
                          obtain ⟨_, k1136, g1137, gb1138, rfl⟩ := hW1130 18 _ rfl
                          refine x_ialk C (v := nI (g1137 lm)) lm (nI_clamp (by omega)) (nI_pos (by omega)) (by omega) 18 k1136 rfl dX12_readsLine_218 rfl ?_
                          have bx1139 := gb1138 lm
                          refine x_iload_n C dX12_readsLine_219 rfl 1 rfl rfl ?_
                          refine x_iadd C (v := (nI ((g1137 lm) + mm55))) dX12_readsLine_220 (nI_add (g1137 lm) mm55) rfl ?_
                          have gb1140 := updn_leF (i := (lm + 1)) (v := ((g1137 lm) + mm55)) gb1138 (by omega)
                          obtain ⟨w1141, hw1142⟩ : ∃ w : va_W, w = List.set w1128 18 (iA E (a 18) 25 (upd (fun j => nI (g1137 j)) (lm + 1) (nI ((g1137 lm) + mm55)))) := ⟨_, rfl⟩
                          refine x_iask C (lm + 1) (nI_clamp (by omega)) (nI_pos (by omega)) (by omega) 18 k1136 hw1142.symm dX12_readsLine_221 rfl ?_
                          have hW1143 : WX (okM E a cd) w1141 := by rw [hw1142]; exact hW1130.set (k := 18) rfl ⟨_, gb1140, iA_n (upd_nI g1137 (lm + 1) ((g1137 lm) + mm55))⟩
                          have k1144 : w1141[4]? = some (bA E (a 4) 260 tf) := by rw [hw1142]; exact set_ne k1131 (by decide)
                          have k1145 : w1141[0]? = some (ob (a 0) 11 [.ref (a 1), .ref (a 2), .ref (a 3), .ref (a 4), .int (nI tp), .int (nI ((pl35 + 1) + 1)), .int (nI le), .int v41, .int nu36, .int v42, .int (nI cm), .int (nI wt), .int (nI sm), .int (nI (cd.2.2.2.2.2)), .ref (a 5), .ref (a 6), .ref (a 7), .ref (a 8), .ref (a 9), .ref (a 10), .ref (a 11), .ref (a 12), .ref (a 13), .ref (a 14), .ref (a 15), .ref (a 16), .ref (a 17), .int (nI lm), .ref (a 18), .ref (a 19), .ref (a 20), .ref (a 21), .int v43, .int v44, .int v45, .int v46, .int (nI n48), .int (nI n49), .ref (a 22), .ref (a 23), .ref (a 24), .ref (a 25), .ref (a 26), .ref (a 27), .ref (a 28), .ref (a 29), .ref (a 30), .int v47]) := by rw [hw1142]; exact set_ne k1132 (by decide)
                          have k1146 : w1141[19]? = some (iA E (a 19) 24 (upd f932 (nI lm).toNatClampNeg r61)) := by rw [hw1142]; exact set_ne k1133 (by decide)
                          have k1147 : w1141[20]? = some (iA E (a 20) 24 (fun j => nI ((updn (updn g941 lm 0) lm ((48 + d1102) - 48)) j))) := by rw [hw1142]; exact set_ne k1134 (by decide)
                          have k1148 : w1141[18]? = some (iA E (a 18) 25 (upd (fun j => nI (g1137 j)) (lm + 1) (nI ((g1137 lm) + mm55)))) := by rw [hw1142]; exact set_eq k1136
                          have kp1149 := keeps_set kp1135 hw1142 (by first | exact rfl | decide | omega | (dsimp only; omega))
                          have k1150 : w1141[18]? = some (iA E (a 18) 25 (fun j => nI ((updn g1137 (lm + 1) ((g1137 lm) + mm55)) j))) := by rw [← upd_nI]; exact k1148
                          refine x_aload_n C dX12_readsLine_222 rfl 2 rfl rfl ?_
                          refine x_aload_n C dX12_readsLine_223 rfl 2 rfl rfl ?_
                          refine x_get C (ci := 11) (k := 27) 0 k1145 rfl in_X12 (by decide) w_1145 rfl dX12_readsLine_224 rfl ?_
                          refine x_iconst C (v := 1) dX12_readsLine_227 (by decide) rfl ?_
                          refine x_iadd C (v := (nI (lm + 1))) dX12_readsLine_228 (nI_add lm 1) rfl ?_
                          obtain ⟨w1151, hw1152⟩ : ∃ w : va_W, w = List.set w1141 0 (ob (a 0) 11 [.ref (a 1), .ref (a 2), .ref (a 3), .ref (a 4), .int (nI tp), .int (nI ((pl35 + 1) + 1)), .int (nI le), .int v41, .int nu36, .int v42, .int (nI cm), .int (nI wt), .int (nI sm), .int (nI (cd.2.2.2.2.2)), .ref (a 5), .ref (a 6), .ref (a 7), .ref (a 8), .ref (a 9), .ref (a 10), .ref (a 11), .ref (a 12), .ref (a 13), .ref (a 14), .ref (a 15), .ref (a 16), .ref (a 17), .int (nI (lm + 1)), .ref (a 18), .ref (a 19), .ref (a 20), .ref (a 21), .int v43, .int v44, .int v45, .int v46, .int (nI n48), .int (nI n49), .ref (a 22), .ref (a 23), .ref (a 24), .ref (a 25), .ref (a 26), .ref (a 27), .ref (a 28), .ref (a 29), .ref (a 30), .int v47]) := ⟨_, rfl⟩
                          refine x_put C (ci := 11) (k := 27) (ty := .int) 0 k1145 rfl in_X12 tyX12 tyX12_ok nmX12 (by decide) w_1145 rfl rfl rfl rfl (Nat.le_of_ble_eq_true rfl) hw1152.symm dX12_readsLine_229 rfl ?_
                          have hW1153 : WX (okM E a cd) w1151 := by rw [hw1152]; exact hW1143.set (k := 0) rfl ⟨tp, ((pl35 + 1) + 1), le, v41, nu36, v42, cm, wt, sm, (lm + 1), v43, v44, v45, v46, n48, n49, v47, by omega, by omega, by omega, by omega, by omega, by omega, by omega, by omega, by omega, zb52, rfl⟩
                          have k1154 : w1151[4]? = some (bA E (a 4) 260 tf) := by rw [hw1152]; exact set_ne k1144 (by decide)
                          have k1155 : w1151[0]? = some (ob (a 0) 11 [.ref (a 1), .ref (a 2), .ref (a 3), .ref (a 4), .int (nI tp), .int (nI ((pl35 + 1) + 1)), .int (nI le), .int v41, .int nu36, .int v42, .int (nI cm), .int (nI wt), .int (nI sm), .int (nI (cd.2.2.2.2.2)), .ref (a 5), .ref (a 6), .ref (a 7), .ref (a 8), .ref (a 9), .ref (a 10), .ref (a 11), .ref (a 12), .ref (a 13), .ref (a 14), .ref (a 15), .ref (a 16), .ref (a 17), .int (nI (lm + 1)), .ref (a 18), .ref (a 19), .ref (a 20), .ref (a 21), .int v43, .int v44, .int v45, .int v46, .int (nI n48), .int (nI n49), .ref (a 22), .ref (a 23), .ref (a 24), .ref (a 25), .ref (a 26), .ref (a 27), .ref (a 28), .ref (a 29), .ref (a 30), .int v47]) := by rw [hw1152]; exact set_eq k1145
                          have k1156 : w1151[19]? = some (iA E (a 19) 24 (upd f932 (nI lm).toNatClampNeg r61)) := by rw [hw1152]; exact set_ne k1146 (by decide)
                          have k1157 : w1151[20]? = some (iA E (a 20) 24 (fun j => nI ((updn (updn g941 lm 0) lm ((48 + d1102) - 48)) j))) := by rw [hw1152]; exact set_ne k1147 (by decide)
                          have k1158 : w1151[18]? = some (iA E (a 18) 25 (fun j => nI ((updn g1137 (lm + 1) ((g1137 lm) + mm55)) j))) := by rw [hw1152]; exact set_ne k1150 (by decide)
                          have kp1159 := keeps_set kp1149 hw1152 (by first | exact rfl | decide | omega | (dsimp only; omega))
                          refine x_iconst C (v := 1) dX12_readsLine_232 (by decide) rfl ?_
                          exact x_zret C hr hlk rfl dX12_readsLine_233 ⟨hW1153, kp1159, (Or.inr rfl), ⟨((pl35 + 1) + 1), (lm + 1), nu36, by omega, by omega, by omega, ⟨v41, v42, v43, v44, v45, v46, v47, n48, n49, ⟨by omega, by omega, by omega, by omega, by omega, by omega, by omega⟩, ⟨by omega, by omega⟩, zb52, k1155⟩⟩⟩
                        · skip
                          have nf1160 := nI_nle' (a := (48 + d1102)) (b := 55) c1111 (by omega) (by omega)
                          refine x_aload_n C dX12_readsLine_164 rfl 2 rfl rfl ?_
                          refine x_iconst C (v := 3) dX12_readsLine_165 (by decide) rfl ?_
                          refine x_aload_n C dX12_readsLine_166 rfl 2 rfl rfl ?_
                          refine x_get C (ci := 11) (k := 5) 0 k948 rfl in_X12 (by decide) w_1123 rfl dX12_readsLine_167 rfl ?_
                          refine x_vi C (As := [.int 3, .int (nI (pl35 + 1))]) (rest := []) (m_wrongAt E l a cd hG w944 hW946 (3 : Int32) ((nI (pl35 + 1))) tp (pl35 + 1) le cm wt sm lm nu36 ⟨v41, v42, v43, v44, v45, v46, v47, n48, n49, ⟨by omega, by omega, by omega, by omega, by omega, by omega, by omega⟩, ⟨by omega, by omega⟩, zb52, k948⟩) mf_X12_wrongAt w_1324 0 k948 rfl rfl rfl (Nat.le_of_ble_eq_true rfl) ⟨(Nat.le_of_ble_eq_true rfl), (Nat.le_of_ble_eq_true rfl)⟩ ⟨(Nat.le_of_ble_eq_true rfl), (Nat.le_of_ble_eq_true rfl)⟩ dX12_readsLine_170 rfl (fun r1162 w1163 h1161 => ?_)
                          obtain ⟨hW1164, kq1165, e1166, x1167⟩ := h1161
                          refine x_top e1166 ?_
                          have k1168 : w1163[4]? = some (bA E (a 4) 260 tf) := keeps_at kq1165 k947 (by first | decide | omega | (dsimp only; omega))
                          have k1169 : w1163[19]? = some (iA E (a 19) 24 (upd f932 (nI lm).toNatClampNeg r61)) := keeps_at kq1165 k949 (by first | decide | omega | (dsimp only; omega))
                          have k1170 : w1163[20]? = some (iA E (a 20) 24 (fun j => nI ((updn g941 lm 0) j))) := keeps_at kq1165 k952 (by first | decide | omega | (dsimp only; omega))
                          have kp1171 := keeps_tr kp951 kq1165 (fun q hq => by first | omega | (dsimp only at *; omega))
                          obtain ⟨v1172, v1173, v1174, v1175, v1176, v1177, v1178, n1179, n1180, bo1181, bo1182, zb1183, k1184⟩ := x1167
                          exact x_zret C hr hlk rfl dX12_readsLine_173 ⟨hW1164, kp1171, (Or.inl rfl), ⟨((pl35 + 1)), lm, nu36, by omega, by omega, by omega, ⟨v1172, v1173, v1174, v1175, v1176, v1177, v1178, n1179, n1180, ⟨by omega, by omega, by omega, by omega, by omega, by omega, by omega⟩, ⟨by omega, by omega⟩, zb1183, k1184⟩⟩⟩
                      · skip
                        refine x_aload_n C dX12_readsLine_145 rfl 2 rfl rfl ?_
                        refine x_iconst C (v := 1) dX12_readsLine_146 (by decide) rfl ?_
                        refine x_aload_n C dX12_readsLine_147 rfl 2 rfl rfl ?_
                        refine x_get C (ci := 11) (k := 5) 0 k948 rfl in_X12 (by decide) w_1123 rfl dX12_readsLine_148 rfl ?_
                        refine x_vi C (As := [.int 1, .int (nI (pl35 + 1))]) (rest := []) (m_wrongAt E l a cd hG w944 hW946 (1 : Int32) ((nI (pl35 + 1))) tp (pl35 + 1) le cm wt sm lm nu36 ⟨v41, v42, v43, v44, v45, v46, v47, n48, n49, ⟨by omega, by omega, by omega, by omega, by omega, by omega, by omega⟩, ⟨by omega, by omega⟩, zb52, k948⟩) mf_X12_wrongAt w_1324 0 k948 rfl rfl rfl (Nat.le_of_ble_eq_true rfl) ⟨(Nat.le_of_ble_eq_true rfl), (Nat.le_of_ble_eq_true rfl)⟩ ⟨(Nat.le_of_ble_eq_true rfl), (Nat.le_of_ble_eq_true rfl)⟩ dX12_readsLine_151 rfl (fun r1186 w1187 h1185 => ?_)
                        obtain ⟨hW1188, kq1189, e1190, x1191⟩ := h1185
                        refine x_top e1190 ?_
                        have k1192 : w1187[4]? = some (bA E (a 4) 260 tf) := keeps_at kq1189 k947 (by first | decide | omega | (dsimp only; omega))
                        have k1193 : w1187[19]? = some (iA E (a 19) 24 (upd f932 (nI lm).toNatClampNeg r61)) := keeps_at kq1189 k949 (by first | decide | omega | (dsimp only; omega))
                        have k1194 : w1187[20]? = some (iA E (a 20) 24 (fun j => nI ((updn g941 lm 0) j))) := keeps_at kq1189 k952 (by first | decide | omega | (dsimp only; omega))
                        have kp1195 := keeps_tr kp951 kq1189 (fun q hq => by first | omega | (dsimp only at *; omega))
                        obtain ⟨v1196, v1197, v1198, v1199, v1200, v1201, v1202, n1203, n1204, bo1205, bo1206, zb1207, k1208⟩ := x1191
                        exact x_zret C hr hlk rfl dX12_readsLine_154 ⟨hW1188, kp1195, (Or.inl rfl), ⟨((pl35 + 1)), lm, nu36, by omega, by omega, by omega, ⟨v1196, v1197, v1198, v1199, v1200, v1201, v1202, n1203, n1204, ⟨by omega, by omega, by omega, by omega, by omega, by omega, by omega⟩, ⟨by omega, by omega⟩, zb1207, k1208⟩⟩⟩
                · skip
                  refine x_aload_n C dX12_readsLine_86 rfl 2 rfl rfl ?_
                  refine x_iconst C (v := 1) dX12_readsLine_87 (by decide) rfl ?_
                  refine x_aload_n C dX12_readsLine_88 rfl 2 rfl rfl ?_
                  refine x_get C (ci := 11) (k := 5) 0 k53 rfl in_X12 (by decide) w_1123 rfl dX12_readsLine_89 rfl ?_
                  refine x_vi C (As := [.int 1, .int (nI pl35)]) (rest := []) (m_wrongAt E l a cd hG w29 hW30 (1 : Int32) ((nI pl35)) tp pl35 le cm wt sm lm nu36 ⟨v41, v42, v43, v44, v45, v46, v47, n48, n49, ⟨by omega, by omega, by omega, by omega, by omega, by omega, by omega⟩, ⟨by omega, by omega⟩, zb52, k53⟩) mf_X12_wrongAt w_1324 0 k53 rfl rfl rfl (Nat.le_of_ble_eq_true rfl) ⟨(Nat.le_of_ble_eq_true rfl), (Nat.le_of_ble_eq_true rfl)⟩ ⟨(Nat.le_of_ble_eq_true rfl), (Nat.le_of_ble_eq_true rfl)⟩ dX12_readsLine_92 rfl (fun r1210 w1211 h1209 => ?_)
                  obtain ⟨hW1212, kq1213, e1214, x1215⟩ := h1209
                  refine x_top e1214 ?_
                  have k1216 : w1211[4]? = some (bA E (a 4) 260 tf) := keeps_at kq1213 k33 (by first | decide | omega | (dsimp only; omega))
                  have kp1217 := keeps_tr kp34 kq1213 (fun q hq => by first | omega | (dsimp only at *; omega))
                  obtain ⟨v1218, v1219, v1220, v1221, v1222, v1223, v1224, n1225, n1226, bo1227, bo1228, zb1229, k1230⟩ := x1215
                  exact x_zret C hr hlk rfl dX12_readsLine_95 ⟨hW1212, kp1217, (Or.inl rfl), ⟨pl35, lm, nu36, by omega, by omega, by omega, ⟨v1218, v1219, v1220, v1221, v1222, v1223, v1224, n1225, n1226, ⟨by omega, by omega, by omega, by omega, by omega, by omega, by omega⟩, ⟨by omega, by omega⟩, zb1229, k1230⟩⟩⟩
        · skip
          refine x_iconst C (v := 0) dX12_readsLine_55 (by decide) rfl ?_
          exact x_zret C hr hlk rfl dX12_readsLine_56 ⟨hW30, kp34, (Or.inl rfl), ⟨pl35, lm, nu36, by omega, by omega, by omega, ⟨v41, v42, v43, v44, v45, v46, v47, n48, n49, ⟨by omega, by omega, by omega, by omega, by omega, by omega, by omega⟩, ⟨by omega, by omega⟩, zb52, k53⟩⟩⟩
    · skip
      have nf1231 : lm = 24 := (nI_eq (by omega) (by omega)).mp c25
      refine x_aload_n C dX12_readsLine_35 rfl 0 rfl rfl ?_
      refine x_iconst C (v := 4) dX12_readsLine_36 (by decide) rfl ?_
      refine x_aload_n C dX12_readsLine_37 rfl 0 rfl rfl ?_
      refine x_get C (ci := 11) (k := 5) 0 k13 rfl in_X12 (by decide) w_1123 rfl dX12_readsLine_38 rfl ?_
      refine x_vi C (As := [.int 4, .int (nI pl)]) (rest := []) (m_wrongAt E l a cd hG ws hW (4 : Int32) ((nI pl)) tp pl le cm wt sm lm nu ⟨v1, v2, v3, v4, v5, v6, v7, n8, n9, ⟨by omega, by omega, by omega, by omega, by omega, by omega, by omega⟩, ⟨by omega, by omega⟩, zb12, k13⟩) mf_X12_wrongAt w_1324 0 k13 rfl rfl rfl (Nat.le_of_ble_eq_true rfl) ⟨(Nat.le_of_ble_eq_true rfl), (Nat.le_of_ble_eq_true rfl)⟩ ⟨(Nat.le_of_ble_eq_true rfl), (Nat.le_of_ble_eq_true rfl)⟩ dX12_readsLine_41 rfl (fun r1233 w1234 h1232 => ?_)
      obtain ⟨hW1235, kq1236, e1237, x1238⟩ := h1232
      refine x_top e1237 ?_
      have k1239 : w1234[4]? = some (bA E (a 4) 260 tf) := keeps_at kq1236 htf (by first | decide | omega | (dsimp only; omega))
      have kp1240 := keeps_tr kp0 kq1236 (fun q hq => by first | omega | (dsimp only at *; omega))
      obtain ⟨v1241, v1242, v1243, v1244, v1245, v1246, v1247, n1248, n1249, bo1250, bo1251, zb1252, k1253⟩ := x1238
      exact x_zret C hr hlk rfl dX12_readsLine_44 ⟨hW1235, kp1240, (Or.inl rfl), ⟨pl, lm, nu, by omega, by omega, by omega, ⟨v1241, v1242, v1243, v1244, v1245, v1246, v1247, n1248, n1249, ⟨by omega, by omega, by omega, by omega, by omega, by omega, by omega⟩, ⟨by omega, by omega⟩, zb1252, k1253⟩⟩⟩
  · skip
    refine x_aload_n C dX12_readsLine_7 rfl 0 rfl rfl ?_
    refine x_vi C (As := []) (rest := []) (m_here E l a cd hG ws hW tp pl le cm wt sm lm nu ⟨v1, v2, v3, v4, v5, v6, v7, n8, n9, ⟨by omega, by omega, by omega, by omega, by omega, by omega, by omega⟩, ⟨by omega, by omega⟩, zb12, k13⟩ tf htf) mf_X12_here w_1317 0 k13 rfl rfl rfl (Nat.le_of_ble_eq_true rfl) ⟨(Nat.le_of_ble_eq_true rfl), (Nat.le_of_ble_eq_true rfl)⟩ ⟨(Nat.le_of_ble_eq_true rfl), (Nat.le_of_ble_eq_true rfl)⟩ dX12_readsLine_8 rfl (fun r1255 w1256 h1254 => ?_)
    obtain ⟨hW1257, x1258⟩ := h1254
    refine x_ws hW1257 ?_
    refine x_bipush C (v := 40) dX12_readsLine_11 (by decide) rfl ?_
    refine x_icmp_eq C (tgt := 26) dX12_readsLine_13 (by decide) rfl (fun c1259 => ?_) (fun c1259 => ?_)
    · skip
      have hp1260 := hv_lt (x1258.symm.trans c1259) (by decide)
      refine x_aload_n C dX12_readsLine_26 rfl 0 rfl rfl ?_
      refine x_get C (ci := 11) (k := 27) 0 k13 rfl in_X12 (by decide) w_1145 rfl dX12_readsLine_27 rfl ?_
      refine x_bipush C (v := 24) dX12_readsLine_30 (by decide) rfl ?_
      refine x_icmp_ne C (tgt := 45) dX12_readsLine_32 (by decide) rfl (fun c1261 => ?_) (fun c1261 => ?_)
      · skip
        have nf1262 : ¬ lm = 24 := fun q => c1261 (congrArg nI q)
        refine x_aload_n C dX12_readsLine_45 rfl 0 rfl rfl ?_
        refine x_vi C (As := []) (rest := []) (m_readsEggs E l a cd hG ws hW tp pl le cm wt sm lm nu ⟨v1, v2, v3, v4, v5, v6, v7, n8, n9, ⟨by omega, by omega, by omega, by omega, by omega, by omega, by omega⟩, ⟨by omega, by omega⟩, zb12, k13⟩ tf htf (by omega) (by omega)) mf_X12_readsEggs w_1407 0 k13 rfl rfl rfl (Nat.le_of_ble_eq_true rfl) ⟨(Nat.le_of_ble_eq_true rfl), (Nat.le_of_ble_eq_true rfl)⟩ ⟨(Nat.le_of_ble_eq_true rfl), (Nat.le_of_ble_eq_true rfl)⟩ dX12_readsLine_46 rfl (fun r1264 w1265 h1263 => ?_)
        obtain ⟨hW1266, kq1267, x1268⟩ := h1263
        have k1269 : w1265[4]? = some (bA E (a 4) 260 tf) := keeps_at kq1267 htf (by first | decide | omega | (dsimp only; omega))
        have kp1270 := keeps_tr kp0 kq1267 (fun q hq => by first | omega | (dsimp only at *; omega))
        obtain ⟨pl1271, nu1272, hp1273, hp1274, mo1275, hx1276⟩ := x1268
        obtain ⟨v1277, v1278, v1279, v1280, v1281, v1282, v1283, n1284, n1285, bo1286, bo1287, zb1288, k1289⟩ := mo1275
        rcases hx1276 with e1290 | ⟨mm1291, h1292, h1293, en1294⟩
        · refine x_top e1290 ?_
          refine x_istore_n C (lv' := [(1, .int (-1)), (0, .ref (a 0))]) dX12_readsLine_49 rfl (by decide) rfl rfl ?_
          refine x_iload_n C dX12_readsLine_50 rfl 0 rfl rfl ?_
          refine x_iconst C (v := (-1)) dX12_readsLine_51 (by decide) rfl ?_
          refine x_icmp_ne C (tgt := 57) dX12_readsLine_52 (by decide) rfl (fun h => absurd h (by decide)) (fun _ => ?_)
          refine x_iconst C (v := 0) dX12_readsLine_55 (by decide) rfl ?_
          exact x_zret C hr hlk rfl dX12_readsLine_56 ⟨hW1266, kp1270, (Or.inl rfl), ⟨pl1271, lm, nu1272, by omega, by omega, by omega, ⟨v1277, v1278, v1279, v1280, v1281, v1282, v1283, n1284, n1285, ⟨by omega, by omega, by omega, by omega, by omega, by omega, by omega⟩, ⟨by omega, by omega⟩, zb1288, k1289⟩⟩⟩
        · refine x_top en1294 ?_
          refine x_istore_n C (lv' := [(1, .int (nI mm1291)), (0, .ref (a 0))]) dX12_readsLine_49 rfl (by decide) rfl rfl ?_
          refine x_iload_n C dX12_readsLine_50 rfl 0 rfl rfl ?_
          refine x_iconst C (v := (-1)) dX12_readsLine_51 (by decide) rfl ?_
          refine x_icmp_ne C (tgt := 57) dX12_readsLine_52 (by decide) rfl (fun c1295 => ?_) (fun c1295 => ?_)
          · skip
            refine x_aload_n C dX12_readsLine_57 rfl 1 rfl rfl ?_
            refine x_vi C (As := []) (rest := []) (m_here E l a cd hG w1265 hW1266 tp pl1271 le cm wt sm lm nu1272 ⟨v1277, v1278, v1279, v1280, v1281, v1282, v1283, n1284, n1285, ⟨by omega, by omega, by omega, by omega, by omega, by omega, by omega⟩, ⟨by omega, by omega⟩, zb1288, k1289⟩ tf k1269) mf_X12_here w_1317 0 k1289 rfl rfl rfl (Nat.le_of_ble_eq_true rfl) ⟨(Nat.le_of_ble_eq_true rfl), (Nat.le_of_ble_eq_true rfl)⟩ ⟨(Nat.le_of_ble_eq_true rfl), (Nat.le_of_ble_eq_true rfl)⟩ dX12_readsLine_58 rfl (fun r1297 w1298 h1296 => ?_)
            obtain ⟨hW1299, x1300⟩ := h1296
            refine x_ws hW1299 ?_
            refine x_istore_n C (lv' := [(2, .int r1297), (1, .int (nI mm1291)), (0, .ref (a 0))]) dX12_readsLine_61 rfl (by decide) rfl rfl ?_
            refine x_iload_n C dX12_readsLine_62 rfl 0 rfl rfl ?_
            refine x_bipush C (v := 62) dX12_readsLine_63 (by decide) rfl ?_
            refine x_icmp_eq C (tgt := 96) dX12_readsLine_65 (by decide) rfl (fun c1301 => ?_) (fun c1301 => ?_)
            · skip
              have hp1302 := hv_lt (x1300.symm.trans c1301) (by decide)
              refine x_aload_n C dX12_readsLine_96 rfl 2 rfl rfl ?_
              refine x_aload_n C dX12_readsLine_97 rfl 2 rfl rfl ?_
              refine x_get C (ci := 11) (k := 5) 0 k1289 rfl in_X12 (by decide) w_1123 rfl dX12_readsLine_98 rfl ?_
              refine x_iconst C (v := 1) dX12_readsLine_101 (by decide) rfl ?_
              refine x_iadd C (v := (nI (pl1271 + 1))) dX12_readsLine_102 (nI_add pl1271 1) rfl ?_
              obtain ⟨w1303, hw1304⟩ : ∃ w : va_W, w = List.set w1265 0 (ob (a 0) 11 [.ref (a 1), .ref (a 2), .ref (a 3), .ref (a 4), .int (nI tp), .int (nI (pl1271 + 1)), .int (nI le), .int v1277, .int nu1272, .int v1278, .int (nI cm), .int (nI wt), .int (nI sm), .int (nI (cd.2.2.2.2.2)), .ref (a 5), .ref (a 6), .ref (a 7), .ref (a 8), .ref (a 9), .ref (a 10), .ref (a 11), .ref (a 12), .ref (a 13), .ref (a 14), .ref (a 15), .ref (a 16), .ref (a 17), .int (nI lm), .ref (a 18), .ref (a 19), .ref (a 20), .ref (a 21), .int v1279, .int v1280, .int v1281, .int v1282, .int (nI n1284), .int (nI n1285), .ref (a 22), .ref (a 23), .ref (a 24), .ref (a 25), .ref (a 26), .ref (a 27), .ref (a 28), .ref (a 29), .ref (a 30), .int v1283]) := ⟨_, rfl⟩
              refine x_put C (ci := 11) (k := 5) (ty := .int) 0 k1289 rfl in_X12 tyX12 tyX12_ok nmX12 (by decide) w_1123 rfl rfl rfl rfl (Nat.le_of_ble_eq_true rfl) hw1304.symm dX12_readsLine_103 rfl ?_
              have hW1305 : WX (okM E a cd) w1303 := by rw [hw1304]; exact hW1266.set (k := 0) rfl ⟨tp, (pl1271 + 1), le, v1277, nu1272, v1278, cm, wt, sm, lm, v1279, v1280, v1281, v1282, n1284, n1285, v1283, by omega, by omega, by omega, by omega, by omega, by omega, by omega, by omega, by omega, zb1288, rfl⟩
              have k1306 : w1303[4]? = some (bA E (a 4) 260 tf) := by rw [hw1304]; exact set_ne k1269 (by decide)
              have k1307 : w1303[0]? = some (ob (a 0) 11 [.ref (a 1), .ref (a 2), .ref (a 3), .ref (a 4), .int (nI tp), .int (nI (pl1271 + 1)), .int (nI le), .int v1277, .int nu1272, .int v1278, .int (nI cm), .int (nI wt), .int (nI sm), .int (nI (cd.2.2.2.2.2)), .ref (a 5), .ref (a 6), .ref (a 7), .ref (a 8), .ref (a 9), .ref (a 10), .ref (a 11), .ref (a 12), .ref (a 13), .ref (a 14), .ref (a 15), .ref (a 16), .ref (a 17), .int (nI lm), .ref (a 18), .ref (a 19), .ref (a 20), .ref (a 21), .int v1279, .int v1280, .int v1281, .int v1282, .int (nI n1284), .int (nI n1285), .ref (a 22), .ref (a 23), .ref (a 24), .ref (a 25), .ref (a 26), .ref (a 27), .ref (a 28), .ref (a 29), .ref (a 30), .int v1283]) := by rw [hw1304]; exact set_eq k1289
              have kp1308 := keeps_set kp1270 hw1304 (by first | exact rfl | decide | omega | (dsimp only; omega))
              refine x_aload_n C dX12_readsLine_106 rfl 2 rfl rfl ?_
              refine x_get C (ci := 11) (k := 29) 0 k1307 rfl in_X12 (by decide) w_1147 rfl dX12_readsLine_107 rfl ?_
              refine x_aload_n C dX12_readsLine_110 rfl 2 rfl rfl ?_
              refine x_get C (ci := 11) (k := 27) 0 k1307 rfl in_X12 (by decide) w_1145 rfl dX12_readsLine_111 rfl ?_
              refine x_iload_n C dX12_readsLine_114 rfl 0 rfl rfl ?_
              obtain ⟨_, k1309, f1310, rfl⟩ := hW1305 19 _ rfl
              obtain ⟨w1311, hw1312⟩ : ∃ w : va_W, w = List.set w1303 19 (iA E (a 19) 24 (upd f1310 (nI lm).toNatClampNeg r1297)) := ⟨_, rfl⟩
              refine x_iast C 19 k1309 (vp_in_nI (by omega) (by decide)) hw1312.symm dX12_readsLine_115 rfl ?_
              have hW1313 : WX (okM E a cd) w1311 := by rw [hw1312]; exact hW1305.set (k := 19) rfl ⟨_, rfl⟩
              have k1314 : w1311[4]? = some (bA E (a 4) 260 tf) := by rw [hw1312]; exact set_ne k1306 (by decide)
              have k1315 : w1311[0]? = some (ob (a 0) 11 [.ref (a 1), .ref (a 2), .ref (a 3), .ref (a 4), .int (nI tp), .int (nI (pl1271 + 1)), .int (nI le), .int v1277, .int nu1272, .int v1278, .int (nI cm), .int (nI wt), .int (nI sm), .int (nI (cd.2.2.2.2.2)), .ref (a 5), .ref (a 6), .ref (a 7), .ref (a 8), .ref (a 9), .ref (a 10), .ref (a 11), .ref (a 12), .ref (a 13), .ref (a 14), .ref (a 15), .ref (a 16), .ref (a 17), .int (nI lm), .ref (a 18), .ref (a 19), .ref (a 20), .ref (a 21), .int v1279, .int v1280, .int v1281, .int v1282, .int (nI n1284), .int (nI n1285), .ref (a 22), .ref (a 23), .ref (a 24), .ref (a 25), .ref (a 26), .ref (a 27), .ref (a 28), .ref (a 29), .ref (a 30), .int v1283]) := by rw [hw1312]; exact set_ne k1307 (by decide)
              have k1316 : w1311[19]? = some (iA E (a 19) 24 (upd f1310 (nI lm).toNatClampNeg r1297)) := by rw [hw1312]; exact set_eq k1309
              have kp1317 := keeps_set kp1308 hw1312 (by first | exact rfl | decide | omega | (dsimp only; omega))
              refine x_aload_n C dX12_readsLine_116 rfl 2 rfl rfl ?_
              refine x_get C (ci := 11) (k := 30) 0 k1315 rfl in_X12 (by decide) w_1148 rfl dX12_readsLine_117 rfl ?_
              refine x_aload_n C dX12_readsLine_120 rfl 2 rfl rfl ?_
              refine x_get C (ci := 11) (k := 27) 0 k1315 rfl in_X12 (by decide) w_1145 rfl dX12_readsLine_121 rfl ?_
              refine x_iconst C (v := 0) dX12_readsLine_124 (by decide) rfl ?_
              obtain ⟨_, k1318, g1319, gb1320, rfl⟩ := hW1313 20 _ rfl
              have gb1321 := updn_le (i := lm) (v := 0) gb1320 (by omega)
              obtain ⟨w1322, hw1323⟩ : ∃ w : va_W, w = List.set w1311 20 (iA E (a 20) 24 (upd (fun j => nI (g1319 j)) lm (nI 0))) := ⟨_, rfl⟩
              refine x_iask C lm (nI_clamp (by omega)) (nI_pos (by omega)) (by omega) 20 k1318 hw1323.symm dX12_readsLine_125 rfl ?_
              have hW1324 : WX (okM E a cd) w1322 := by rw [hw1323]; exact hW1313.set (k := 20) rfl ⟨_, gb1321, iA_n (upd_nI g1319 lm 0)⟩
              have k1325 : w1322[4]? = some (bA E (a 4) 260 tf) := by rw [hw1323]; exact set_ne k1314 (by decide)
              have k1326 : w1322[0]? = some (ob (a 0) 11 [.ref (a 1), .ref (a 2), .ref (a 3), .ref (a 4), .int (nI tp), .int (nI (pl1271 + 1)), .int (nI le), .int v1277, .int nu1272, .int v1278, .int (nI cm), .int (nI wt), .int (nI sm), .int (nI (cd.2.2.2.2.2)), .ref (a 5), .ref (a 6), .ref (a 7), .ref (a 8), .ref (a 9), .ref (a 10), .ref (a 11), .ref (a 12), .ref (a 13), .ref (a 14), .ref (a 15), .ref (a 16), .ref (a 17), .int (nI lm), .ref (a 18), .ref (a 19), .ref (a 20), .ref (a 21), .int v1279, .int v1280, .int v1281, .int v1282, .int (nI n1284), .int (nI n1285), .ref (a 22), .ref (a 23), .ref (a 24), .ref (a 25), .ref (a 26), .ref (a 27), .ref (a 28), .ref (a 29), .ref (a 30), .int v1283]) := by rw [hw1323]; exact set_ne k1315 (by decide)
              have k1327 : w1322[19]? = some (iA E (a 19) 24 (upd f1310 (nI lm).toNatClampNeg r1297)) := by rw [hw1323]; exact set_ne k1316 (by decide)
              have k1328 : w1322[20]? = some (iA E (a 20) 24 (upd (fun j => nI (g1319 j)) lm (nI 0))) := by rw [hw1323]; exact set_eq k1318
              have kp1329 := keeps_set kp1317 hw1323 (by first | exact rfl | decide | omega | (dsimp only; omega))
              have k1330 : w1322[20]? = some (iA E (a 20) 24 (fun j => nI ((updn g1319 lm 0) j))) := by rw [← upd_nI]; exact k1328
              refine x_iload_n C dX12_readsLine_126 rfl 0 rfl rfl ?_
              refine x_bipush C (v := 62) dX12_readsLine_127 (by decide) rfl ?_
              refine x_icmp_eq C (tgt := 138) dX12_readsLine_129 (by decide) rfl (fun c1331 => ?_) (fun c1331 => ?_)
              · skip
                have hp1332 := hv_lt (x1300.symm.trans c1331) (by decide)
                refine x_aload_n C dX12_readsLine_138 rfl 2 rfl rfl ?_
                refine x_vi C (As := []) (rest := []) (m_isDigit E l a cd hG w1322 hW1324 tp (pl1271 + 1) le cm wt sm lm nu1272 ⟨v1277, v1278, v1279, v1280, v1281, v1282, v1283, n1284, n1285, ⟨by omega, by omega, by omega, by omega, by omega, by omega, by omega⟩, ⟨by omega, by omega⟩, zb1288, k1326⟩ tf k1325) mf_X12_isDigit w_1341 0 k1326 rfl rfl rfl (Nat.le_of_ble_eq_true rfl) ⟨(Nat.le_of_ble_eq_true rfl), (Nat.le_of_ble_eq_true rfl)⟩ ⟨(Nat.le_of_ble_eq_true rfl), (Nat.le_of_ble_eq_true rfl)⟩ dX12_readsLine_139 rfl (fun r1334 w1335 h1333 => ?_)
                obtain ⟨hW1336, zb1337, x1338⟩ := h1333
                refine x_ws hW1336 ?_
                refine x_if_ne C (tgt := 155) dX12_readsLine_142 (by decide) rfl (fun c1339 => ?_) (fun c1339 => ?_)
                · skip
                  obtain ⟨d1340, hd1341, ed1342, hp1343⟩ := x1338 c1339
                  refine x_aload_n C dX12_readsLine_155 rfl 2 rfl rfl ?_
                  refine x_vi C (As := []) (rest := []) (m_here E l a cd hG w1322 hW1324 tp (pl1271 + 1) le cm wt sm lm nu1272 ⟨v1277, v1278, v1279, v1280, v1281, v1282, v1283, n1284, n1285, ⟨by omega, by omega, by omega, by omega, by omega, by omega, by omega⟩, ⟨by omega, by omega⟩, zb1288, k1326⟩ tf k1325) mf_X12_here w_1317 0 k1326 rfl rfl rfl (Nat.le_of_ble_eq_true rfl) ⟨(Nat.le_of_ble_eq_true rfl), (Nat.le_of_ble_eq_true rfl)⟩ ⟨(Nat.le_of_ble_eq_true rfl), (Nat.le_of_ble_eq_true rfl)⟩ dX12_readsLine_156 rfl (fun r1345 w1346 h1344 => ?_)
                  obtain ⟨hW1347, x1348⟩ := h1344
                  refine x_ws hW1347 ?_
                  refine x_top (x1348.trans ed1342) ?_
                  refine x_bipush C (v := 55) dX12_readsLine_159 (by decide) rfl ?_
                  refine x_icmp_le C (tgt := 174) dX12_readsLine_161 (by decide) rfl (fun c1349 => ?_) (fun c1349 => ?_)
                  · skip
                    have nf1350 := nI_le' (a := (48 + d1340)) (b := 55) c1349 (by omega) (by omega)
                    refine x_aload_n C dX12_readsLine_174 rfl 2 rfl rfl ?_
                    refine x_get C (ci := 11) (k := 30) 0 k1326 rfl in_X12 (by decide) w_1148 rfl dX12_readsLine_175 rfl ?_
                    refine x_aload_n C dX12_readsLine_178 rfl 2 rfl rfl ?_
                    refine x_get C (ci := 11) (k := 27) 0 k1326 rfl in_X12 (by decide) w_1145 rfl dX12_readsLine_179 rfl ?_
                    refine x_aload_n C dX12_readsLine_182 rfl 2 rfl rfl ?_
                    refine x_vi C (As := []) (rest := [.int (nI lm), .ref (a 20)]) (m_here E l a cd hG w1322 hW1324 tp (pl1271 + 1) le cm wt sm lm nu1272 ⟨v1277, v1278, v1279, v1280, v1281, v1282, v1283, n1284, n1285, ⟨by omega, by omega, by omega, by omega, by omega, by omega, by omega⟩, ⟨by omega, by omega⟩, zb1288, k1326⟩ tf k1325) mf_X12_here w_1317 0 k1326 rfl rfl rfl (Nat.le_of_ble_eq_true rfl) ⟨(Nat.le_of_ble_eq_true rfl), (Nat.le_of_ble_eq_true rfl)⟩ ⟨(Nat.le_of_ble_eq_true rfl), (Nat.le_of_ble_eq_true rfl)⟩ dX12_readsLine_183 rfl (fun r1352 w1353 h1351 => ?_)
                    obtain ⟨hW1354, x1355⟩ := h1351
                    refine x_ws hW1354 ?_
                    refine x_top (x1355.trans ed1342) ?_
                    refine x_bipush C (v := 48) dX12_readsLine_186 (by decide) rfl ?_
                    refine x_isub C (v := (nI ((48 + d1340) - 48))) dX12_readsLine_188 (pk_sub (a := (48 + d1340)) (b := 48) (by omega)) rfl ?_
                    have gb1356 := updn_le (i := lm) (v := ((48 + d1340) - 48)) gb1321 (by omega)
                    obtain ⟨w1357, hw1358⟩ : ∃ w : va_W, w = List.set w1322 20 (iA E (a 20) 24 (upd (fun j => nI ((updn g1319 lm 0) j)) lm (nI ((48 + d1340) - 48)))) := ⟨_, rfl⟩
                    refine x_iask C lm (nI_clamp (by omega)) (nI_pos (by omega)) (by omega) 20 k1330 hw1358.symm dX12_readsLine_189 rfl ?_
                    have hW1359 : WX (okM E a cd) w1357 := by rw [hw1358]; exact hW1324.set (k := 20) rfl ⟨_, gb1356, iA_n (upd_nI (updn g1319 lm 0) lm ((48 + d1340) - 48))⟩
                    have k1360 : w1357[4]? = some (bA E (a 4) 260 tf) := by rw [hw1358]; exact set_ne k1325 (by decide)
                    have k1361 : w1357[0]? = some (ob (a 0) 11 [.ref (a 1), .ref (a 2), .ref (a 3), .ref (a 4), .int (nI tp), .int (nI (pl1271 + 1)), .int (nI le), .int v1277, .int nu1272, .int v1278, .int (nI cm), .int (nI wt), .int (nI sm), .int (nI (cd.2.2.2.2.2)), .ref (a 5), .ref (a 6), .ref (a 7), .ref (a 8), .ref (a 9), .ref (a 10), .ref (a 11), .ref (a 12), .ref (a 13), .ref (a 14), .ref (a 15), .ref (a 16), .ref (a 17), .int (nI lm), .ref (a 18), .ref (a 19), .ref (a 20), .ref (a 21), .int v1279, .int v1280, .int v1281, .int v1282, .int (nI n1284), .int (nI n1285), .ref (a 22), .ref (a 23), .ref (a 24), .ref (a 25), .ref (a 26), .ref (a 27), .ref (a 28), .ref (a 29), .ref (a 30), .int v1283]) := by rw [hw1358]; exact set_ne k1326 (by decide)
                    have k1362 : w1357[19]? = some (iA E (a 19) 24 (upd f1310 (nI lm).toNatClampNeg r1297)) := by rw [hw1358]; exact set_ne k1327 (by decide)
                    have k1363 : w1357[20]? = some (iA E (a 20) 24 (upd (fun j => nI ((updn g1319 lm 0) j)) lm (nI ((48 + d1340) - 48)))) := by rw [hw1358]; exact set_eq k1330
                    have kp1364 := keeps_set kp1329 hw1358 (by first | exact rfl | decide | omega | (dsimp only; omega))
                    have k1365 : w1357[20]? = some (iA E (a 20) 24 (fun j => nI ((updn (updn g1319 lm 0) lm ((48 + d1340) - 48)) j))) := by rw [← upd_nI]; exact k1363
                    refine x_aload_n C dX12_readsLine_190 rfl 2 rfl rfl ?_
                    refine x_aload_n C dX12_readsLine_191 rfl 2 rfl rfl ?_
                    refine x_get C (ci := 11) (k := 5) 0 k1361 rfl in_X12 (by decide) w_1123 rfl dX12_readsLine_192 rfl ?_
                    refine x_iconst C (v := 1) dX12_readsLine_195 (by decide) rfl ?_
                    refine x_iadd C (v := (nI ((pl1271 + 1) + 1))) dX12_readsLine_196 (nI_add (pl1271 + 1) 1) rfl ?_
                    obtain ⟨w1366, hw1367⟩ : ∃ w : va_W, w = List.set w1357 0 (ob (a 0) 11 [.ref (a 1), .ref (a 2), .ref (a 3), .ref (a 4), .int (nI tp), .int (nI ((pl1271 + 1) + 1)), .int (nI le), .int v1277, .int nu1272, .int v1278, .int (nI cm), .int (nI wt), .int (nI sm), .int (nI (cd.2.2.2.2.2)), .ref (a 5), .ref (a 6), .ref (a 7), .ref (a 8), .ref (a 9), .ref (a 10), .ref (a 11), .ref (a 12), .ref (a 13), .ref (a 14), .ref (a 15), .ref (a 16), .ref (a 17), .int (nI lm), .ref (a 18), .ref (a 19), .ref (a 20), .ref (a 21), .int v1279, .int v1280, .int v1281, .int v1282, .int (nI n1284), .int (nI n1285), .ref (a 22), .ref (a 23), .ref (a 24), .ref (a 25), .ref (a 26), .ref (a 27), .ref (a 28), .ref (a 29), .ref (a 30), .int v1283]) := ⟨_, rfl⟩
                    refine x_put C (ci := 11) (k := 5) (ty := .int) 0 k1361 rfl in_X12 tyX12 tyX12_ok nmX12 (by decide) w_1123 rfl rfl rfl rfl (Nat.le_of_ble_eq_true rfl) hw1367.symm dX12_readsLine_197 rfl ?_
                    have hW1368 : WX (okM E a cd) w1366 := by rw [hw1367]; exact hW1359.set (k := 0) rfl ⟨tp, ((pl1271 + 1) + 1), le, v1277, nu1272, v1278, cm, wt, sm, lm, v1279, v1280, v1281, v1282, n1284, n1285, v1283, by omega, by omega, by omega, by omega, by omega, by omega, by omega, by omega, by omega, zb1288, rfl⟩
                    have k1369 : w1366[4]? = some (bA E (a 4) 260 tf) := by rw [hw1367]; exact set_ne k1360 (by decide)
                    have k1370 : w1366[0]? = some (ob (a 0) 11 [.ref (a 1), .ref (a 2), .ref (a 3), .ref (a 4), .int (nI tp), .int (nI ((pl1271 + 1) + 1)), .int (nI le), .int v1277, .int nu1272, .int v1278, .int (nI cm), .int (nI wt), .int (nI sm), .int (nI (cd.2.2.2.2.2)), .ref (a 5), .ref (a 6), .ref (a 7), .ref (a 8), .ref (a 9), .ref (a 10), .ref (a 11), .ref (a 12), .ref (a 13), .ref (a 14), .ref (a 15), .ref (a 16), .ref (a 17), .int (nI lm), .ref (a 18), .ref (a 19), .ref (a 20), .ref (a 21), .int v1279, .int v1280, .int v1281, .int v1282, .int (nI n1284), .int (nI n1285), .ref (a 22), .ref (a 23), .ref (a 24), .ref (a 25), .ref (a 26), .ref (a 27), .ref (a 28), .ref (a 29), .ref (a 30), .int v1283]) := by rw [hw1367]; exact set_eq k1361
                    have k1371 : w1366[19]? = some (iA E (a 19) 24 (upd f1310 (nI lm).toNatClampNeg r1297)) := by rw [hw1367]; exact set_ne k1362 (by decide)
                    have k1372 : w1366[20]? = some (iA E (a 20) 24 (fun j => nI ((updn (updn g1319 lm 0) lm ((48 + d1340) - 48)) j))) := by rw [hw1367]; exact set_ne k1365 (by decide)
                    have kp1373 := keeps_set kp1364 hw1367 (by first | exact rfl | decide | omega | (dsimp only; omega))
                    refine x_aload_n C dX12_readsLine_200 rfl 2 rfl rfl ?_
                    refine x_get C (ci := 11) (k := 28) 0 k1370 rfl in_X12 (by decide) w_1146 rfl dX12_readsLine_201 rfl ?_
                    refine x_aload_n C dX12_readsLine_204 rfl 2 rfl rfl ?_
                    refine x_get C (ci := 11) (k := 27) 0 k1370 rfl in_X12 (by decide) w_1145 rfl dX12_readsLine_205 rfl ?_
                    refine x_iconst C (v := 1) dX12_readsLine_208 (by decide) rfl ?_
                    refine x_iadd C (v := (nI (lm + 1))) dX12_readsLine_209 (nI_add lm 1) rfl ?_
                    refine x_aload_n C dX12_readsLine_210 rfl 2 rfl rfl ?_
                    refine x_get C (ci := 11) (k := 28) 0 k1370 rfl in_X12 (by decide) w_1146 rfl dX12_readsLine_211 rfl ?_
                    refine x_aload_n C dX12_readsLine_214 rfl 2 rfl rfl ?_
                    refine x_get C (ci := 11) (k := 27) 0 k1370 rfl in_X12 (by decide) w_1145 rfl dX12_readsLine_215 rfl ?_
                    obtain ⟨_, k1374, g1375, gb1376, rfl⟩ := hW1368 18 _ rfl
                    refine x_ialk C (v := nI (g1375 lm)) lm (nI_clamp (by omega)) (nI_pos (by omega)) (by omega) 18 k1374 rfl dX12_readsLine_218 rfl ?_
                    have bx1377 := gb1376 lm
                    refine x_iload_n C dX12_readsLine_219 rfl 1 rfl rfl ?_
                    refine x_iadd C (v := (nI ((g1375 lm) + mm1291))) dX12_readsLine_220 (nI_add (g1375 lm) mm1291) rfl ?_
                    have gb1378 := updn_leF (i := (lm + 1)) (v := ((g1375 lm) + mm1291)) gb1376 (by omega)
                    obtain ⟨w1379, hw1380⟩ : ∃ w : va_W, w = List.set w1366 18 (iA E (a 18) 25 (upd (fun j => nI (g1375 j)) (lm + 1) (nI ((g1375 lm) + mm1291)))) := ⟨_, rfl⟩
                    refine x_iask C (lm + 1) (nI_clamp (by omega)) (nI_pos (by omega)) (by omega) 18 k1374 hw1380.symm dX12_readsLine_221 rfl ?_
                    have hW1381 : WX (okM E a cd) w1379 := by rw [hw1380]; exact hW1368.set (k := 18) rfl ⟨_, gb1378, iA_n (upd_nI g1375 (lm + 1) ((g1375 lm) + mm1291))⟩
                    have k1382 : w1379[4]? = some (bA E (a 4) 260 tf) := by rw [hw1380]; exact set_ne k1369 (by decide)
                    have k1383 : w1379[0]? = some (ob (a 0) 11 [.ref (a 1), .ref (a 2), .ref (a 3), .ref (a 4), .int (nI tp), .int (nI ((pl1271 + 1) + 1)), .int (nI le), .int v1277, .int nu1272, .int v1278, .int (nI cm), .int (nI wt), .int (nI sm), .int (nI (cd.2.2.2.2.2)), .ref (a 5), .ref (a 6), .ref (a 7), .ref (a 8), .ref (a 9), .ref (a 10), .ref (a 11), .ref (a 12), .ref (a 13), .ref (a 14), .ref (a 15), .ref (a 16), .ref (a 17), .int (nI lm), .ref (a 18), .ref (a 19), .ref (a 20), .ref (a 21), .int v1279, .int v1280, .int v1281, .int v1282, .int (nI n1284), .int (nI n1285), .ref (a 22), .ref (a 23), .ref (a 24), .ref (a 25), .ref (a 26), .ref (a 27), .ref (a 28), .ref (a 29), .ref (a 30), .int v1283]) := by rw [hw1380]; exact set_ne k1370 (by decide)
                    have k1384 : w1379[19]? = some (iA E (a 19) 24 (upd f1310 (nI lm).toNatClampNeg r1297)) := by rw [hw1380]; exact set_ne k1371 (by decide)
                    have k1385 : w1379[20]? = some (iA E (a 20) 24 (fun j => nI ((updn (updn g1319 lm 0) lm ((48 + d1340) - 48)) j))) := by rw [hw1380]; exact set_ne k1372 (by decide)
                    have k1386 : w1379[18]? = some (iA E (a 18) 25 (upd (fun j => nI (g1375 j)) (lm + 1) (nI ((g1375 lm) + mm1291)))) := by rw [hw1380]; exact set_eq k1374
                    have kp1387 := keeps_set kp1373 hw1380 (by first | exact rfl | decide | omega | (dsimp only; omega))
                    have k1388 : w1379[18]? = some (iA E (a 18) 25 (fun j => nI ((updn g1375 (lm + 1) ((g1375 lm) + mm1291)) j))) := by rw [← upd_nI]; exact k1386
                    refine x_aload_n C dX12_readsLine_222 rfl 2 rfl rfl ?_
                    refine x_aload_n C dX12_readsLine_223 rfl 2 rfl rfl ?_
                    refine x_get C (ci := 11) (k := 27) 0 k1383 rfl in_X12 (by decide) w_1145 rfl dX12_readsLine_224 rfl ?_
                    refine x_iconst C (v := 1) dX12_readsLine_227 (by decide) rfl ?_
                    refine x_iadd C (v := (nI (lm + 1))) dX12_readsLine_228 (nI_add lm 1) rfl ?_
                    obtain ⟨w1389, hw1390⟩ : ∃ w : va_W, w = List.set w1379 0 (ob (a 0) 11 [.ref (a 1), .ref (a 2), .ref (a 3), .ref (a 4), .int (nI tp), .int (nI ((pl1271 + 1) + 1)), .int (nI le), .int v1277, .int nu1272, .int v1278, .int (nI cm), .int (nI wt), .int (nI sm), .int (nI (cd.2.2.2.2.2)), .ref (a 5), .ref (a 6), .ref (a 7), .ref (a 8), .ref (a 9), .ref (a 10), .ref (a 11), .ref (a 12), .ref (a 13), .ref (a 14), .ref (a 15), .ref (a 16), .ref (a 17), .int (nI (lm + 1)), .ref (a 18), .ref (a 19), .ref (a 20), .ref (a 21), .int v1279, .int v1280, .int v1281, .int v1282, .int (nI n1284), .int (nI n1285), .ref (a 22), .ref (a 23), .ref (a 24), .ref (a 25), .ref (a 26), .ref (a 27), .ref (a 28), .ref (a 29), .ref (a 30), .int v1283]) := ⟨_, rfl⟩
                    refine x_put C (ci := 11) (k := 27) (ty := .int) 0 k1383 rfl in_X12 tyX12 tyX12_ok nmX12 (by decide) w_1145 rfl rfl rfl rfl (Nat.le_of_ble_eq_true rfl) hw1390.symm dX12_readsLine_229 rfl ?_
                    have hW1391 : WX (okM E a cd) w1389 := by rw [hw1390]; exact hW1381.set (k := 0) rfl ⟨tp, ((pl1271 + 1) + 1), le, v1277, nu1272, v1278, cm, wt, sm, (lm + 1), v1279, v1280, v1281, v1282, n1284, n1285, v1283, by omega, by omega, by omega, by omega, by omega, by omega, by omega, by omega, by omega, zb1288, rfl⟩
                    have k1392 : w1389[4]? = some (bA E (a 4) 260 tf) := by rw [hw1390]; exact set_ne k1382 (by decide)
                    have k1393 : w1389[0]? = some (ob (a 0) 11 [.ref (a 1), .ref (a 2), .ref (a 3), .ref (a 4), .int (nI tp), .int (nI ((pl1271 + 1) + 1)), .int (nI le), .int v1277, .int nu1272, .int v1278, .int (nI cm), .int (nI wt), .int (nI sm), .int (nI (cd.2.2.2.2.2)), .ref (a 5), .ref (a 6), .ref (a 7), .ref (a 8), .ref (a 9), .ref (a 10), .ref (a 11), .ref (a 12), .ref (a 13), .ref (a 14), .ref (a 15), .ref (a 16), .ref (a 17), .int (nI (lm + 1)), .ref (a 18), .ref (a 19), .ref (a 20), .ref (a 21), .int v1279, .int v1280, .int v1281, .int v1282, .int (nI n1284), .int (nI n1285), .ref (a 22), .ref (a 23), .ref (a 24), .ref (a 25), .ref (a 26), .ref (a 27), .ref (a 28), .ref (a 29), .ref (a 30), .int v1283]) := by rw [hw1390]; exact set_eq k1383
                    have k1394 : w1389[19]? = some (iA E (a 19) 24 (upd f1310 (nI lm).toNatClampNeg r1297)) := by rw [hw1390]; exact set_ne k1384 (by decide)
                    have k1395 : w1389[20]? = some (iA E (a 20) 24 (fun j => nI ((updn (updn g1319 lm 0) lm ((48 + d1340) - 48)) j))) := by rw [hw1390]; exact set_ne k1385 (by decide)
                    have k1396 : w1389[18]? = some (iA E (a 18) 25 (fun j => nI ((updn g1375 (lm + 1) ((g1375 lm) + mm1291)) j))) := by rw [hw1390]; exact set_ne k1388 (by decide)
                    have kp1397 := keeps_set kp1387 hw1390 (by first | exact rfl | decide | omega | (dsimp only; omega))
                    refine x_iconst C (v := 1) dX12_readsLine_232 (by decide) rfl ?_
                    exact x_zret C hr hlk rfl dX12_readsLine_233 ⟨hW1391, kp1397, (Or.inr rfl), ⟨((pl1271 + 1) + 1), (lm + 1), nu1272, by omega, by omega, by omega, ⟨v1277, v1278, v1279, v1280, v1281, v1282, v1283, n1284, n1285, ⟨by omega, by omega, by omega, by omega, by omega, by omega, by omega⟩, ⟨by omega, by omega⟩, zb1288, k1393⟩⟩⟩
                  · skip
                    have nf1398 := nI_nle' (a := (48 + d1340)) (b := 55) c1349 (by omega) (by omega)
                    refine x_aload_n C dX12_readsLine_164 rfl 2 rfl rfl ?_
                    refine x_iconst C (v := 3) dX12_readsLine_165 (by decide) rfl ?_
                    refine x_aload_n C dX12_readsLine_166 rfl 2 rfl rfl ?_
                    refine x_get C (ci := 11) (k := 5) 0 k1326 rfl in_X12 (by decide) w_1123 rfl dX12_readsLine_167 rfl ?_
                    refine x_vi C (As := [.int 3, .int (nI (pl1271 + 1))]) (rest := []) (m_wrongAt E l a cd hG w1322 hW1324 (3 : Int32) ((nI (pl1271 + 1))) tp (pl1271 + 1) le cm wt sm lm nu1272 ⟨v1277, v1278, v1279, v1280, v1281, v1282, v1283, n1284, n1285, ⟨by omega, by omega, by omega, by omega, by omega, by omega, by omega⟩, ⟨by omega, by omega⟩, zb1288, k1326⟩) mf_X12_wrongAt w_1324 0 k1326 rfl rfl rfl (Nat.le_of_ble_eq_true rfl) ⟨(Nat.le_of_ble_eq_true rfl), (Nat.le_of_ble_eq_true rfl)⟩ ⟨(Nat.le_of_ble_eq_true rfl), (Nat.le_of_ble_eq_true rfl)⟩ dX12_readsLine_170 rfl (fun r1400 w1401 h1399 => ?_)
                    obtain ⟨hW1402, kq1403, e1404, x1405⟩ := h1399
                    refine x_top e1404 ?_
                    have k1406 : w1401[4]? = some (bA E (a 4) 260 tf) := keeps_at kq1403 k1325 (by first | decide | omega | (dsimp only; omega))
                    have k1407 : w1401[19]? = some (iA E (a 19) 24 (upd f1310 (nI lm).toNatClampNeg r1297)) := keeps_at kq1403 k1327 (by first | decide | omega | (dsimp only; omega))
                    have k1408 : w1401[20]? = some (iA E (a 20) 24 (fun j => nI ((updn g1319 lm 0) j))) := keeps_at kq1403 k1330 (by first | decide | omega | (dsimp only; omega))
                    have kp1409 := keeps_tr kp1329 kq1403 (fun q hq => by first | omega | (dsimp only at *; omega))
                    obtain ⟨v1410, v1411, v1412, v1413, v1414, v1415, v1416, n1417, n1418, bo1419, bo1420, zb1421, k1422⟩ := x1405
                    exact x_zret C hr hlk rfl dX12_readsLine_173 ⟨hW1402, kp1409, (Or.inl rfl), ⟨((pl1271 + 1)), lm, nu1272, by omega, by omega, by omega, ⟨v1410, v1411, v1412, v1413, v1414, v1415, v1416, n1417, n1418, ⟨by omega, by omega, by omega, by omega, by omega, by omega, by omega⟩, ⟨by omega, by omega⟩, zb1421, k1422⟩⟩⟩
                · skip
                  refine x_aload_n C dX12_readsLine_145 rfl 2 rfl rfl ?_
                  refine x_iconst C (v := 1) dX12_readsLine_146 (by decide) rfl ?_
                  refine x_aload_n C dX12_readsLine_147 rfl 2 rfl rfl ?_
                  refine x_get C (ci := 11) (k := 5) 0 k1326 rfl in_X12 (by decide) w_1123 rfl dX12_readsLine_148 rfl ?_
                  refine x_vi C (As := [.int 1, .int (nI (pl1271 + 1))]) (rest := []) (m_wrongAt E l a cd hG w1322 hW1324 (1 : Int32) ((nI (pl1271 + 1))) tp (pl1271 + 1) le cm wt sm lm nu1272 ⟨v1277, v1278, v1279, v1280, v1281, v1282, v1283, n1284, n1285, ⟨by omega, by omega, by omega, by omega, by omega, by omega, by omega⟩, ⟨by omega, by omega⟩, zb1288, k1326⟩) mf_X12_wrongAt w_1324 0 k1326 rfl rfl rfl (Nat.le_of_ble_eq_true rfl) ⟨(Nat.le_of_ble_eq_true rfl), (Nat.le_of_ble_eq_true rfl)⟩ ⟨(Nat.le_of_ble_eq_true rfl), (Nat.le_of_ble_eq_true rfl)⟩ dX12_readsLine_151 rfl (fun r1424 w1425 h1423 => ?_)
                  obtain ⟨hW1426, kq1427, e1428, x1429⟩ := h1423
                  refine x_top e1428 ?_
                  have k1430 : w1425[4]? = some (bA E (a 4) 260 tf) := keeps_at kq1427 k1325 (by first | decide | omega | (dsimp only; omega))
                  have k1431 : w1425[19]? = some (iA E (a 19) 24 (upd f1310 (nI lm).toNatClampNeg r1297)) := keeps_at kq1427 k1327 (by first | decide | omega | (dsimp only; omega))
                  have k1432 : w1425[20]? = some (iA E (a 20) 24 (fun j => nI ((updn g1319 lm 0) j))) := keeps_at kq1427 k1330 (by first | decide | omega | (dsimp only; omega))
                  have kp1433 := keeps_tr kp1329 kq1427 (fun q hq => by first | omega | (dsimp only at *; omega))
                  obtain ⟨v1434, v1435, v1436, v1437, v1438, v1439, v1440, n1441, n1442, bo1443, bo1444, zb1445, k1446⟩ := x1429
                  exact x_zret C hr hlk rfl dX12_readsLine_154 ⟨hW1426, kp1433, (Or.inl rfl), ⟨((pl1271 + 1)), lm, nu1272, by omega, by omega, by omega, ⟨v1434, v1435, v1436, v1437, v1438, v1439, v1440, n1441, n1442, ⟨by omega, by omega, by omega, by omega, by omega, by omega, by omega⟩, ⟨by omega, by omega⟩, zb1445, k1446⟩⟩⟩
              · skip
                refine x_iload_n C dX12_readsLine_132 rfl 0 rfl rfl ?_
                refine x_bipush C (v := 33) dX12_readsLine_133 (by decide) rfl ?_
                refine x_icmp_ne C (tgt := 200) dX12_readsLine_135 (by decide) rfl (fun c1447 => ?_) (fun c1447 => ?_)
                · skip
                  refine x_aload_n C dX12_readsLine_200 rfl 2 rfl rfl ?_
                  refine x_get C (ci := 11) (k := 28) 0 k1326 rfl in_X12 (by decide) w_1146 rfl dX12_readsLine_201 rfl ?_
                  refine x_aload_n C dX12_readsLine_204 rfl 2 rfl rfl ?_
                  refine x_get C (ci := 11) (k := 27) 0 k1326 rfl in_X12 (by decide) w_1145 rfl dX12_readsLine_205 rfl ?_
                  refine x_iconst C (v := 1) dX12_readsLine_208 (by decide) rfl ?_
                  refine x_iadd C (v := (nI (lm + 1))) dX12_readsLine_209 (nI_add lm 1) rfl ?_
                  refine x_aload_n C dX12_readsLine_210 rfl 2 rfl rfl ?_
                  refine x_get C (ci := 11) (k := 28) 0 k1326 rfl in_X12 (by decide) w_1146 rfl dX12_readsLine_211 rfl ?_
                  refine x_aload_n C dX12_readsLine_214 rfl 2 rfl rfl ?_
                  refine x_get C (ci := 11) (k := 27) 0 k1326 rfl in_X12 (by decide) w_1145 rfl dX12_readsLine_215 rfl ?_
                  obtain ⟨_, k1448, g1449, gb1450, rfl⟩ := hW1324 18 _ rfl
                  refine x_ialk C (v := nI (g1449 lm)) lm (nI_clamp (by omega)) (nI_pos (by omega)) (by omega) 18 k1448 rfl dX12_readsLine_218 rfl ?_
                  have bx1451 := gb1450 lm
                  refine x_iload_n C dX12_readsLine_219 rfl 1 rfl rfl ?_
                  refine x_iadd C (v := (nI ((g1449 lm) + mm1291))) dX12_readsLine_220 (nI_add (g1449 lm) mm1291) rfl ?_
                  have gb1452 := updn_leF (i := (lm + 1)) (v := ((g1449 lm) + mm1291)) gb1450 (by omega)
                  obtain ⟨w1453, hw1454⟩ : ∃ w : va_W, w = List.set w1322 18 (iA E (a 18) 25 (upd (fun j => nI (g1449 j)) (lm + 1) (nI ((g1449 lm) + mm1291)))) := ⟨_, rfl⟩
                  refine x_iask C (lm + 1) (nI_clamp (by omega)) (nI_pos (by omega)) (by omega) 18 k1448 hw1454.symm dX12_readsLine_221 rfl ?_
                  have hW1455 : WX (okM E a cd) w1453 := by rw [hw1454]; exact hW1324.set (k := 18) rfl ⟨_, gb1452, iA_n (upd_nI g1449 (lm + 1) ((g1449 lm) + mm1291))⟩
                  have k1456 : w1453[4]? = some (bA E (a 4) 260 tf) := by rw [hw1454]; exact set_ne k1325 (by decide)
                  have k1457 : w1453[0]? = some (ob (a 0) 11 [.ref (a 1), .ref (a 2), .ref (a 3), .ref (a 4), .int (nI tp), .int (nI (pl1271 + 1)), .int (nI le), .int v1277, .int nu1272, .int v1278, .int (nI cm), .int (nI wt), .int (nI sm), .int (nI (cd.2.2.2.2.2)), .ref (a 5), .ref (a 6), .ref (a 7), .ref (a 8), .ref (a 9), .ref (a 10), .ref (a 11), .ref (a 12), .ref (a 13), .ref (a 14), .ref (a 15), .ref (a 16), .ref (a 17), .int (nI lm), .ref (a 18), .ref (a 19), .ref (a 20), .ref (a 21), .int v1279, .int v1280, .int v1281, .int v1282, .int (nI n1284), .int (nI n1285), .ref (a 22), .ref (a 23), .ref (a 24), .ref (a 25), .ref (a 26), .ref (a 27), .ref (a 28), .ref (a 29), .ref (a 30), .int v1283]) := by rw [hw1454]; exact set_ne k1326 (by decide)
                  have k1458 : w1453[19]? = some (iA E (a 19) 24 (upd f1310 (nI lm).toNatClampNeg r1297)) := by rw [hw1454]; exact set_ne k1327 (by decide)
                  have k1459 : w1453[20]? = some (iA E (a 20) 24 (fun j => nI ((updn g1319 lm 0) j))) := by rw [hw1454]; exact set_ne k1330 (by decide)
                  have k1460 : w1453[18]? = some (iA E (a 18) 25 (upd (fun j => nI (g1449 j)) (lm + 1) (nI ((g1449 lm) + mm1291)))) := by rw [hw1454]; exact set_eq k1448
                  have kp1461 := keeps_set kp1329 hw1454 (by first | exact rfl | decide | omega | (dsimp only; omega))
                  have k1462 : w1453[18]? = some (iA E (a 18) 25 (fun j => nI ((updn g1449 (lm + 1) ((g1449 lm) + mm1291)) j))) := by rw [← upd_nI]; exact k1460
                  refine x_aload_n C dX12_readsLine_222 rfl 2 rfl rfl ?_
                  refine x_aload_n C dX12_readsLine_223 rfl 2 rfl rfl ?_
                  refine x_get C (ci := 11) (k := 27) 0 k1457 rfl in_X12 (by decide) w_1145 rfl dX12_readsLine_224 rfl ?_
                  refine x_iconst C (v := 1) dX12_readsLine_227 (by decide) rfl ?_
                  refine x_iadd C (v := (nI (lm + 1))) dX12_readsLine_228 (nI_add lm 1) rfl ?_
                  obtain ⟨w1463, hw1464⟩ : ∃ w : va_W, w = List.set w1453 0 (ob (a 0) 11 [.ref (a 1), .ref (a 2), .ref (a 3), .ref (a 4), .int (nI tp), .int (nI (pl1271 + 1)), .int (nI le), .int v1277, .int nu1272, .int v1278, .int (nI cm), .int (nI wt), .int (nI sm), .int (nI (cd.2.2.2.2.2)), .ref (a 5), .ref (a 6), .ref (a 7), .ref (a 8), .ref (a 9), .ref (a 10), .ref (a 11), .ref (a 12), .ref (a 13), .ref (a 14), .ref (a 15), .ref (a 16), .ref (a 17), .int (nI (lm + 1)), .ref (a 18), .ref (a 19), .ref (a 20), .ref (a 21), .int v1279, .int v1280, .int v1281, .int v1282, .int (nI n1284), .int (nI n1285), .ref (a 22), .ref (a 23), .ref (a 24), .ref (a 25), .ref (a 26), .ref (a 27), .ref (a 28), .ref (a 29), .ref (a 30), .int v1283]) := ⟨_, rfl⟩
                  refine x_put C (ci := 11) (k := 27) (ty := .int) 0 k1457 rfl in_X12 tyX12 tyX12_ok nmX12 (by decide) w_1145 rfl rfl rfl rfl (Nat.le_of_ble_eq_true rfl) hw1464.symm dX12_readsLine_229 rfl ?_
                  have hW1465 : WX (okM E a cd) w1463 := by rw [hw1464]; exact hW1455.set (k := 0) rfl ⟨tp, (pl1271 + 1), le, v1277, nu1272, v1278, cm, wt, sm, (lm + 1), v1279, v1280, v1281, v1282, n1284, n1285, v1283, by omega, by omega, by omega, by omega, by omega, by omega, by omega, by omega, by omega, zb1288, rfl⟩
                  have k1466 : w1463[4]? = some (bA E (a 4) 260 tf) := by rw [hw1464]; exact set_ne k1456 (by decide)
                  have k1467 : w1463[0]? = some (ob (a 0) 11 [.ref (a 1), .ref (a 2), .ref (a 3), .ref (a 4), .int (nI tp), .int (nI (pl1271 + 1)), .int (nI le), .int v1277, .int nu1272, .int v1278, .int (nI cm), .int (nI wt), .int (nI sm), .int (nI (cd.2.2.2.2.2)), .ref (a 5), .ref (a 6), .ref (a 7), .ref (a 8), .ref (a 9), .ref (a 10), .ref (a 11), .ref (a 12), .ref (a 13), .ref (a 14), .ref (a 15), .ref (a 16), .ref (a 17), .int (nI (lm + 1)), .ref (a 18), .ref (a 19), .ref (a 20), .ref (a 21), .int v1279, .int v1280, .int v1281, .int v1282, .int (nI n1284), .int (nI n1285), .ref (a 22), .ref (a 23), .ref (a 24), .ref (a 25), .ref (a 26), .ref (a 27), .ref (a 28), .ref (a 29), .ref (a 30), .int v1283]) := by rw [hw1464]; exact set_eq k1457
                  have k1468 : w1463[19]? = some (iA E (a 19) 24 (upd f1310 (nI lm).toNatClampNeg r1297)) := by rw [hw1464]; exact set_ne k1458 (by decide)
                  have k1469 : w1463[20]? = some (iA E (a 20) 24 (fun j => nI ((updn g1319 lm 0) j))) := by rw [hw1464]; exact set_ne k1459 (by decide)
                  have k1470 : w1463[18]? = some (iA E (a 18) 25 (fun j => nI ((updn g1449 (lm + 1) ((g1449 lm) + mm1291)) j))) := by rw [hw1464]; exact set_ne k1462 (by decide)
                  have kp1471 := keeps_set kp1461 hw1464 (by first | exact rfl | decide | omega | (dsimp only; omega))
                  refine x_iconst C (v := 1) dX12_readsLine_232 (by decide) rfl ?_
                  exact x_zret C hr hlk rfl dX12_readsLine_233 ⟨hW1465, kp1471, (Or.inr rfl), ⟨(pl1271 + 1), (lm + 1), nu1272, by omega, by omega, by omega, ⟨v1277, v1278, v1279, v1280, v1281, v1282, v1283, n1284, n1285, ⟨by omega, by omega, by omega, by omega, by omega, by omega, by omega⟩, ⟨by omega, by omega⟩, zb1288, k1467⟩⟩⟩
                · skip
                  have hp1472 := hv_lt (x1300.symm.trans c1447) (by decide)
                  refine x_aload_n C dX12_readsLine_138 rfl 2 rfl rfl ?_
                  refine x_vi C (As := []) (rest := []) (m_isDigit E l a cd hG w1322 hW1324 tp (pl1271 + 1) le cm wt sm lm nu1272 ⟨v1277, v1278, v1279, v1280, v1281, v1282, v1283, n1284, n1285, ⟨by omega, by omega, by omega, by omega, by omega, by omega, by omega⟩, ⟨by omega, by omega⟩, zb1288, k1326⟩ tf k1325) mf_X12_isDigit w_1341 0 k1326 rfl rfl rfl (Nat.le_of_ble_eq_true rfl) ⟨(Nat.le_of_ble_eq_true rfl), (Nat.le_of_ble_eq_true rfl)⟩ ⟨(Nat.le_of_ble_eq_true rfl), (Nat.le_of_ble_eq_true rfl)⟩ dX12_readsLine_139 rfl (fun r1474 w1475 h1473 => ?_)
                  obtain ⟨hW1476, zb1477, x1478⟩ := h1473
                  refine x_ws hW1476 ?_
                  refine x_if_ne C (tgt := 155) dX12_readsLine_142 (by decide) rfl (fun c1479 => ?_) (fun c1479 => ?_)
                  · skip
                    obtain ⟨d1480, hd1481, ed1482, hp1483⟩ := x1478 c1479
                    refine x_aload_n C dX12_readsLine_155 rfl 2 rfl rfl ?_
                    refine x_vi C (As := []) (rest := []) (m_here E l a cd hG w1322 hW1324 tp (pl1271 + 1) le cm wt sm lm nu1272 ⟨v1277, v1278, v1279, v1280, v1281, v1282, v1283, n1284, n1285, ⟨by omega, by omega, by omega, by omega, by omega, by omega, by omega⟩, ⟨by omega, by omega⟩, zb1288, k1326⟩ tf k1325) mf_X12_here w_1317 0 k1326 rfl rfl rfl (Nat.le_of_ble_eq_true rfl) ⟨(Nat.le_of_ble_eq_true rfl), (Nat.le_of_ble_eq_true rfl)⟩ ⟨(Nat.le_of_ble_eq_true rfl), (Nat.le_of_ble_eq_true rfl)⟩ dX12_readsLine_156 rfl (fun r1485 w1486 h1484 => ?_)
                    obtain ⟨hW1487, x1488⟩ := h1484
                    refine x_ws hW1487 ?_
                    refine x_top (x1488.trans ed1482) ?_
                    refine x_bipush C (v := 55) dX12_readsLine_159 (by decide) rfl ?_
                    refine x_icmp_le C (tgt := 174) dX12_readsLine_161 (by decide) rfl (fun c1489 => ?_) (fun c1489 => ?_)
                    · skip
                      have nf1490 := nI_le' (a := (48 + d1480)) (b := 55) c1489 (by omega) (by omega)
                      refine x_aload_n C dX12_readsLine_174 rfl 2 rfl rfl ?_
                      refine x_get C (ci := 11) (k := 30) 0 k1326 rfl in_X12 (by decide) w_1148 rfl dX12_readsLine_175 rfl ?_
                      refine x_aload_n C dX12_readsLine_178 rfl 2 rfl rfl ?_
                      refine x_get C (ci := 11) (k := 27) 0 k1326 rfl in_X12 (by decide) w_1145 rfl dX12_readsLine_179 rfl ?_
                      refine x_aload_n C dX12_readsLine_182 rfl 2 rfl rfl ?_
                      refine x_vi C (As := []) (rest := [.int (nI lm), .ref (a 20)]) (m_here E l a cd hG w1322 hW1324 tp (pl1271 + 1) le cm wt sm lm nu1272 ⟨v1277, v1278, v1279, v1280, v1281, v1282, v1283, n1284, n1285, ⟨by omega, by omega, by omega, by omega, by omega, by omega, by omega⟩, ⟨by omega, by omega⟩, zb1288, k1326⟩ tf k1325) mf_X12_here w_1317 0 k1326 rfl rfl rfl (Nat.le_of_ble_eq_true rfl) ⟨(Nat.le_of_ble_eq_true rfl), (Nat.le_of_ble_eq_true rfl)⟩ ⟨(Nat.le_of_ble_eq_true rfl), (Nat.le_of_ble_eq_true rfl)⟩ dX12_readsLine_183 rfl (fun r1492 w1493 h1491 => ?_)
                      obtain ⟨hW1494, x1495⟩ := h1491
                      refine x_ws hW1494 ?_
                      refine x_top (x1495.trans ed1482) ?_
                      refine x_bipush C (v := 48) dX12_readsLine_186 (by decide) rfl ?_
                      refine x_isub C (v := (nI ((48 + d1480) - 48))) dX12_readsLine_188 (pk_sub (a := (48 + d1480)) (b := 48) (by omega)) rfl ?_
                      have gb1496 := updn_le (i := lm) (v := ((48 + d1480) - 48)) gb1321 (by omega)
                      obtain ⟨w1497, hw1498⟩ : ∃ w : va_W, w = List.set w1322 20 (iA E (a 20) 24 (upd (fun j => nI ((updn g1319 lm 0) j)) lm (nI ((48 + d1480) - 48)))) := ⟨_, rfl⟩
                      refine x_iask C lm (nI_clamp (by omega)) (nI_pos (by omega)) (by omega) 20 k1330 hw1498.symm dX12_readsLine_189 rfl ?_
                      have hW1499 : WX (okM E a cd) w1497 := by rw [hw1498]; exact hW1324.set (k := 20) rfl ⟨_, gb1496, iA_n (upd_nI (updn g1319 lm 0) lm ((48 + d1480) - 48))⟩
                      have k1500 : w1497[4]? = some (bA E (a 4) 260 tf) := by rw [hw1498]; exact set_ne k1325 (by decide)
                      have k1501 : w1497[0]? = some (ob (a 0) 11 [.ref (a 1), .ref (a 2), .ref (a 3), .ref (a 4), .int (nI tp), .int (nI (pl1271 + 1)), .int (nI le), .int v1277, .int nu1272, .int v1278, .int (nI cm), .int (nI wt), .int (nI sm), .int (nI (cd.2.2.2.2.2)), .ref (a 5), .ref (a 6), .ref (a 7), .ref (a 8), .ref (a 9), .ref (a 10), .ref (a 11), .ref (a 12), .ref (a 13), .ref (a 14), .ref (a 15), .ref (a 16), .ref (a 17), .int (nI lm), .ref (a 18), .ref (a 19), .ref (a 20), .ref (a 21), .int v1279, .int v1280, .int v1281, .int v1282, .int (nI n1284), .int (nI n1285), .ref (a 22), .ref (a 23), .ref (a 24), .ref (a 25), .ref (a 26), .ref (a 27), .ref (a 28), .ref (a 29), .ref (a 30), .int v1283]) := by rw [hw1498]; exact set_ne k1326 (by decide)
                      have k1502 : w1497[19]? = some (iA E (a 19) 24 (upd f1310 (nI lm).toNatClampNeg r1297)) := by rw [hw1498]; exact set_ne k1327 (by decide)
                      have k1503 : w1497[20]? = some (iA E (a 20) 24 (upd (fun j => nI ((updn g1319 lm 0) j)) lm (nI ((48 + d1480) - 48)))) := by rw [hw1498]; exact set_eq k1330
                      have kp1504 := keeps_set kp1329 hw1498 (by first | exact rfl | decide | omega | (dsimp only; omega))
                      have k1505 : w1497[20]? = some (iA E (a 20) 24 (fun j => nI ((updn (updn g1319 lm 0) lm ((48 + d1480) - 48)) j))) := by rw [← upd_nI]; exact k1503
                      refine x_aload_n C dX12_readsLine_190 rfl 2 rfl rfl ?_
                      refine x_aload_n C dX12_readsLine_191 rfl 2 rfl rfl ?_
                      refine x_get C (ci := 11) (k := 5) 0 k1501 rfl in_X12 (by decide) w_1123 rfl dX12_readsLine_192 rfl ?_
                      refine x_iconst C (v := 1) dX12_readsLine_195 (by decide) rfl ?_
                      refine x_iadd C (v := (nI ((pl1271 + 1) + 1))) dX12_readsLine_196 (nI_add (pl1271 + 1) 1) rfl ?_
                      obtain ⟨w1506, hw1507⟩ : ∃ w : va_W, w = List.set w1497 0 (ob (a 0) 11 [.ref (a 1), .ref (a 2), .ref (a 3), .ref (a 4), .int (nI tp), .int (nI ((pl1271 + 1) + 1)), .int (nI le), .int v1277, .int nu1272, .int v1278, .int (nI cm), .int (nI wt), .int (nI sm), .int (nI (cd.2.2.2.2.2)), .ref (a 5), .ref (a 6), .ref (a 7), .ref (a 8), .ref (a 9), .ref (a 10), .ref (a 11), .ref (a 12), .ref (a 13), .ref (a 14), .ref (a 15), .ref (a 16), .ref (a 17), .int (nI lm), .ref (a 18), .ref (a 19), .ref (a 20), .ref (a 21), .int v1279, .int v1280, .int v1281, .int v1282, .int (nI n1284), .int (nI n1285), .ref (a 22), .ref (a 23), .ref (a 24), .ref (a 25), .ref (a 26), .ref (a 27), .ref (a 28), .ref (a 29), .ref (a 30), .int v1283]) := ⟨_, rfl⟩
                      refine x_put C (ci := 11) (k := 5) (ty := .int) 0 k1501 rfl in_X12 tyX12 tyX12_ok nmX12 (by decide) w_1123 rfl rfl rfl rfl (Nat.le_of_ble_eq_true rfl) hw1507.symm dX12_readsLine_197 rfl ?_
                      have hW1508 : WX (okM E a cd) w1506 := by rw [hw1507]; exact hW1499.set (k := 0) rfl ⟨tp, ((pl1271 + 1) + 1), le, v1277, nu1272, v1278, cm, wt, sm, lm, v1279, v1280, v1281, v1282, n1284, n1285, v1283, by omega, by omega, by omega, by omega, by omega, by omega, by omega, by omega, by omega, zb1288, rfl⟩
                      have k1509 : w1506[4]? = some (bA E (a 4) 260 tf) := by rw [hw1507]; exact set_ne k1500 (by decide)
                      have k1510 : w1506[0]? = some (ob (a 0) 11 [.ref (a 1), .ref (a 2), .ref (a 3), .ref (a 4), .int (nI tp), .int (nI ((pl1271 + 1) + 1)), .int (nI le), .int v1277, .int nu1272, .int v1278, .int (nI cm), .int (nI wt), .int (nI sm), .int (nI (cd.2.2.2.2.2)), .ref (a 5), .ref (a 6), .ref (a 7), .ref (a 8), .ref (a 9), .ref (a 10), .ref (a 11), .ref (a 12), .ref (a 13), .ref (a 14), .ref (a 15), .ref (a 16), .ref (a 17), .int (nI lm), .ref (a 18), .ref (a 19), .ref (a 20), .ref (a 21), .int v1279, .int v1280, .int v1281, .int v1282, .int (nI n1284), .int (nI n1285), .ref (a 22), .ref (a 23), .ref (a 24), .ref (a 25), .ref (a 26), .ref (a 27), .ref (a 28), .ref (a 29), .ref (a 30), .int v1283]) := by rw [hw1507]; exact set_eq k1501
                      have k1511 : w1506[19]? = some (iA E (a 19) 24 (upd f1310 (nI lm).toNatClampNeg r1297)) := by rw [hw1507]; exact set_ne k1502 (by decide)
                      have k1512 : w1506[20]? = some (iA E (a 20) 24 (fun j => nI ((updn (updn g1319 lm 0) lm ((48 + d1480) - 48)) j))) := by rw [hw1507]; exact set_ne k1505 (by decide)
                      have kp1513 := keeps_set kp1504 hw1507 (by first | exact rfl | decide | omega | (dsimp only; omega))
                      refine x_aload_n C dX12_readsLine_200 rfl 2 rfl rfl ?_
                      refine x_get C (ci := 11) (k := 28) 0 k1510 rfl in_X12 (by decide) w_1146 rfl dX12_readsLine_201 rfl ?_
                      refine x_aload_n C dX12_readsLine_204 rfl 2 rfl rfl ?_
                      refine x_get C (ci := 11) (k := 27) 0 k1510 rfl in_X12 (by decide) w_1145 rfl dX12_readsLine_205 rfl ?_
                      refine x_iconst C (v := 1) dX12_readsLine_208 (by decide) rfl ?_
                      refine x_iadd C (v := (nI (lm + 1))) dX12_readsLine_209 (nI_add lm 1) rfl ?_
                      refine x_aload_n C dX12_readsLine_210 rfl 2 rfl rfl ?_
                      refine x_get C (ci := 11) (k := 28) 0 k1510 rfl in_X12 (by decide) w_1146 rfl dX12_readsLine_211 rfl ?_
                      refine x_aload_n C dX12_readsLine_214 rfl 2 rfl rfl ?_
                      refine x_get C (ci := 11) (k := 27) 0 k1510 rfl in_X12 (by decide) w_1145 rfl dX12_readsLine_215 rfl ?_
                      obtain ⟨_, k1514, g1515, gb1516, rfl⟩ := hW1508 18 _ rfl
                      refine x_ialk C (v := nI (g1515 lm)) lm (nI_clamp (by omega)) (nI_pos (by omega)) (by omega) 18 k1514 rfl dX12_readsLine_218 rfl ?_
                      have bx1517 := gb1516 lm
                      refine x_iload_n C dX12_readsLine_219 rfl 1 rfl rfl ?_
                      refine x_iadd C (v := (nI ((g1515 lm) + mm1291))) dX12_readsLine_220 (nI_add (g1515 lm) mm1291) rfl ?_
                      have gb1518 := updn_leF (i := (lm + 1)) (v := ((g1515 lm) + mm1291)) gb1516 (by omega)
                      obtain ⟨w1519, hw1520⟩ : ∃ w : va_W, w = List.set w1506 18 (iA E (a 18) 25 (upd (fun j => nI (g1515 j)) (lm + 1) (nI ((g1515 lm) + mm1291)))) := ⟨_, rfl⟩
                      refine x_iask C (lm + 1) (nI_clamp (by omega)) (nI_pos (by omega)) (by omega) 18 k1514 hw1520.symm dX12_readsLine_221 rfl ?_
                      have hW1521 : WX (okM E a cd) w1519 := by rw [hw1520]; exact hW1508.set (k := 18) rfl ⟨_, gb1518, iA_n (upd_nI g1515 (lm + 1) ((g1515 lm) + mm1291))⟩
                      have k1522 : w1519[4]? = some (bA E (a 4) 260 tf) := by rw [hw1520]; exact set_ne k1509 (by decide)
                      have k1523 : w1519[0]? = some (ob (a 0) 11 [.ref (a 1), .ref (a 2), .ref (a 3), .ref (a 4), .int (nI tp), .int (nI ((pl1271 + 1) + 1)), .int (nI le), .int v1277, .int nu1272, .int v1278, .int (nI cm), .int (nI wt), .int (nI sm), .int (nI (cd.2.2.2.2.2)), .ref (a 5), .ref (a 6), .ref (a 7), .ref (a 8), .ref (a 9), .ref (a 10), .ref (a 11), .ref (a 12), .ref (a 13), .ref (a 14), .ref (a 15), .ref (a 16), .ref (a 17), .int (nI lm), .ref (a 18), .ref (a 19), .ref (a 20), .ref (a 21), .int v1279, .int v1280, .int v1281, .int v1282, .int (nI n1284), .int (nI n1285), .ref (a 22), .ref (a 23), .ref (a 24), .ref (a 25), .ref (a 26), .ref (a 27), .ref (a 28), .ref (a 29), .ref (a 30), .int v1283]) := by rw [hw1520]; exact set_ne k1510 (by decide)
                      have k1524 : w1519[19]? = some (iA E (a 19) 24 (upd f1310 (nI lm).toNatClampNeg r1297)) := by rw [hw1520]; exact set_ne k1511 (by decide)
                      have k1525 : w1519[20]? = some (iA E (a 20) 24 (fun j => nI ((updn (updn g1319 lm 0) lm ((48 + d1480) - 48)) j))) := by rw [hw1520]; exact set_ne k1512 (by decide)
                      have k1526 : w1519[18]? = some (iA E (a 18) 25 (upd (fun j => nI (g1515 j)) (lm + 1) (nI ((g1515 lm) + mm1291)))) := by rw [hw1520]; exact set_eq k1514
                      have kp1527 := keeps_set kp1513 hw1520 (by first | exact rfl | decide | omega | (dsimp only; omega))
                      have k1528 : w1519[18]? = some (iA E (a 18) 25 (fun j => nI ((updn g1515 (lm + 1) ((g1515 lm) + mm1291)) j))) := by rw [← upd_nI]; exact k1526
                      refine x_aload_n C dX12_readsLine_222 rfl 2 rfl rfl ?_
                      refine x_aload_n C dX12_readsLine_223 rfl 2 rfl rfl ?_
                      refine x_get C (ci := 11) (k := 27) 0 k1523 rfl in_X12 (by decide) w_1145 rfl dX12_readsLine_224 rfl ?_
                      refine x_iconst C (v := 1) dX12_readsLine_227 (by decide) rfl ?_
                      refine x_iadd C (v := (nI (lm + 1))) dX12_readsLine_228 (nI_add lm 1) rfl ?_
                      obtain ⟨w1529, hw1530⟩ : ∃ w : va_W, w = List.set w1519 0 (ob (a 0) 11 [.ref (a 1), .ref (a 2), .ref (a 3), .ref (a 4), .int (nI tp), .int (nI ((pl1271 + 1) + 1)), .int (nI le), .int v1277, .int nu1272, .int v1278, .int (nI cm), .int (nI wt), .int (nI sm), .int (nI (cd.2.2.2.2.2)), .ref (a 5), .ref (a 6), .ref (a 7), .ref (a 8), .ref (a 9), .ref (a 10), .ref (a 11), .ref (a 12), .ref (a 13), .ref (a 14), .ref (a 15), .ref (a 16), .ref (a 17), .int (nI (lm + 1)), .ref (a 18), .ref (a 19), .ref (a 20), .ref (a 21), .int v1279, .int v1280, .int v1281, .int v1282, .int (nI n1284), .int (nI n1285), .ref (a 22), .ref (a 23), .ref (a 24), .ref (a 25), .ref (a 26), .ref (a 27), .ref (a 28), .ref (a 29), .ref (a 30), .int v1283]) := ⟨_, rfl⟩
                      refine x_put C (ci := 11) (k := 27) (ty := .int) 0 k1523 rfl in_X12 tyX12 tyX12_ok nmX12 (by decide) w_1145 rfl rfl rfl rfl (Nat.le_of_ble_eq_true rfl) hw1530.symm dX12_readsLine_229 rfl ?_
                      have hW1531 : WX (okM E a cd) w1529 := by rw [hw1530]; exact hW1521.set (k := 0) rfl ⟨tp, ((pl1271 + 1) + 1), le, v1277, nu1272, v1278, cm, wt, sm, (lm + 1), v1279, v1280, v1281, v1282, n1284, n1285, v1283, by omega, by omega, by omega, by omega, by omega, by omega, by omega, by omega, by omega, zb1288, rfl⟩
                      have k1532 : w1529[4]? = some (bA E (a 4) 260 tf) := by rw [hw1530]; exact set_ne k1522 (by decide)
                      have k1533 : w1529[0]? = some (ob (a 0) 11 [.ref (a 1), .ref (a 2), .ref (a 3), .ref (a 4), .int (nI tp), .int (nI ((pl1271 + 1) + 1)), .int (nI le), .int v1277, .int nu1272, .int v1278, .int (nI cm), .int (nI wt), .int (nI sm), .int (nI (cd.2.2.2.2.2)), .ref (a 5), .ref (a 6), .ref (a 7), .ref (a 8), .ref (a 9), .ref (a 10), .ref (a 11), .ref (a 12), .ref (a 13), .ref (a 14), .ref (a 15), .ref (a 16), .ref (a 17), .int (nI (lm + 1)), .ref (a 18), .ref (a 19), .ref (a 20), .ref (a 21), .int v1279, .int v1280, .int v1281, .int v1282, .int (nI n1284), .int (nI n1285), .ref (a 22), .ref (a 23), .ref (a 24), .ref (a 25), .ref (a 26), .ref (a 27), .ref (a 28), .ref (a 29), .ref (a 30), .int v1283]) := by rw [hw1530]; exact set_eq k1523
                      have k1534 : w1529[19]? = some (iA E (a 19) 24 (upd f1310 (nI lm).toNatClampNeg r1297)) := by rw [hw1530]; exact set_ne k1524 (by decide)
                      have k1535 : w1529[20]? = some (iA E (a 20) 24 (fun j => nI ((updn (updn g1319 lm 0) lm ((48 + d1480) - 48)) j))) := by rw [hw1530]; exact set_ne k1525 (by decide)
                      have k1536 : w1529[18]? = some (iA E (a 18) 25 (fun j => nI ((updn g1515 (lm + 1) ((g1515 lm) + mm1291)) j))) := by rw [hw1530]; exact set_ne k1528 (by decide)
                      have kp1537 := keeps_set kp1527 hw1530 (by first | exact rfl | decide | omega | (dsimp only; omega))
                      refine x_iconst C (v := 1) dX12_readsLine_232 (by decide) rfl ?_
                      exact x_zret C hr hlk rfl dX12_readsLine_233 ⟨hW1531, kp1537, (Or.inr rfl), ⟨((pl1271 + 1) + 1), (lm + 1), nu1272, by omega, by omega, by omega, ⟨v1277, v1278, v1279, v1280, v1281, v1282, v1283, n1284, n1285, ⟨by omega, by omega, by omega, by omega, by omega, by omega, by omega⟩, ⟨by omega, by omega⟩, zb1288, k1533⟩⟩⟩
                    · skip
                      have nf1538 := nI_nle' (a := (48 + d1480)) (b := 55) c1489 (by omega) (by omega)
                      refine x_aload_n C dX12_readsLine_164 rfl 2 rfl rfl ?_
                      refine x_iconst C (v := 3) dX12_readsLine_165 (by decide) rfl ?_
                      refine x_aload_n C dX12_readsLine_166 rfl 2 rfl rfl ?_
                      refine x_get C (ci := 11) (k := 5) 0 k1326 rfl in_X12 (by decide) w_1123 rfl dX12_readsLine_167 rfl ?_
                      refine x_vi C (As := [.int 3, .int (nI (pl1271 + 1))]) (rest := []) (m_wrongAt E l a cd hG w1322 hW1324 (3 : Int32) ((nI (pl1271 + 1))) tp (pl1271 + 1) le cm wt sm lm nu1272 ⟨v1277, v1278, v1279, v1280, v1281, v1282, v1283, n1284, n1285, ⟨by omega, by omega, by omega, by omega, by omega, by omega, by omega⟩, ⟨by omega, by omega⟩, zb1288, k1326⟩) mf_X12_wrongAt w_1324 0 k1326 rfl rfl rfl (Nat.le_of_ble_eq_true rfl) ⟨(Nat.le_of_ble_eq_true rfl), (Nat.le_of_ble_eq_true rfl)⟩ ⟨(Nat.le_of_ble_eq_true rfl), (Nat.le_of_ble_eq_true rfl)⟩ dX12_readsLine_170 rfl (fun r1540 w1541 h1539 => ?_)
                      obtain ⟨hW1542, kq1543, e1544, x1545⟩ := h1539
                      refine x_top e1544 ?_
                      have k1546 : w1541[4]? = some (bA E (a 4) 260 tf) := keeps_at kq1543 k1325 (by first | decide | omega | (dsimp only; omega))
                      have k1547 : w1541[19]? = some (iA E (a 19) 24 (upd f1310 (nI lm).toNatClampNeg r1297)) := keeps_at kq1543 k1327 (by first | decide | omega | (dsimp only; omega))
                      have k1548 : w1541[20]? = some (iA E (a 20) 24 (fun j => nI ((updn g1319 lm 0) j))) := keeps_at kq1543 k1330 (by first | decide | omega | (dsimp only; omega))
                      have kp1549 := keeps_tr kp1329 kq1543 (fun q hq => by first | omega | (dsimp only at *; omega))
                      obtain ⟨v1550, v1551, v1552, v1553, v1554, v1555, v1556, n1557, n1558, bo1559, bo1560, zb1561, k1562⟩ := x1545
                      exact x_zret C hr hlk rfl dX12_readsLine_173 ⟨hW1542, kp1549, (Or.inl rfl), ⟨((pl1271 + 1)), lm, nu1272, by omega, by omega, by omega, ⟨v1550, v1551, v1552, v1553, v1554, v1555, v1556, n1557, n1558, ⟨by omega, by omega, by omega, by omega, by omega, by omega, by omega⟩, ⟨by omega, by omega⟩, zb1561, k1562⟩⟩⟩
                  · skip
                    refine x_aload_n C dX12_readsLine_145 rfl 2 rfl rfl ?_
                    refine x_iconst C (v := 1) dX12_readsLine_146 (by decide) rfl ?_
                    refine x_aload_n C dX12_readsLine_147 rfl 2 rfl rfl ?_
                    refine x_get C (ci := 11) (k := 5) 0 k1326 rfl in_X12 (by decide) w_1123 rfl dX12_readsLine_148 rfl ?_
                    refine x_vi C (As := [.int 1, .int (nI (pl1271 + 1))]) (rest := []) (m_wrongAt E l a cd hG w1322 hW1324 (1 : Int32) ((nI (pl1271 + 1))) tp (pl1271 + 1) le cm wt sm lm nu1272 ⟨v1277, v1278, v1279, v1280, v1281, v1282, v1283, n1284, n1285, ⟨by omega, by omega, by omega, by omega, by omega, by omega, by omega⟩, ⟨by omega, by omega⟩, zb1288, k1326⟩) mf_X12_wrongAt w_1324 0 k1326 rfl rfl rfl (Nat.le_of_ble_eq_true rfl) ⟨(Nat.le_of_ble_eq_true rfl), (Nat.le_of_ble_eq_true rfl)⟩ ⟨(Nat.le_of_ble_eq_true rfl), (Nat.le_of_ble_eq_true rfl)⟩ dX12_readsLine_151 rfl (fun r1564 w1565 h1563 => ?_)
                    obtain ⟨hW1566, kq1567, e1568, x1569⟩ := h1563
                    refine x_top e1568 ?_
                    have k1570 : w1565[4]? = some (bA E (a 4) 260 tf) := keeps_at kq1567 k1325 (by first | decide | omega | (dsimp only; omega))
                    have k1571 : w1565[19]? = some (iA E (a 19) 24 (upd f1310 (nI lm).toNatClampNeg r1297)) := keeps_at kq1567 k1327 (by first | decide | omega | (dsimp only; omega))
                    have k1572 : w1565[20]? = some (iA E (a 20) 24 (fun j => nI ((updn g1319 lm 0) j))) := keeps_at kq1567 k1330 (by first | decide | omega | (dsimp only; omega))
                    have kp1573 := keeps_tr kp1329 kq1567 (fun q hq => by first | omega | (dsimp only at *; omega))
                    obtain ⟨v1574, v1575, v1576, v1577, v1578, v1579, v1580, n1581, n1582, bo1583, bo1584, zb1585, k1586⟩ := x1569
                    exact x_zret C hr hlk rfl dX12_readsLine_154 ⟨hW1566, kp1573, (Or.inl rfl), ⟨((pl1271 + 1)), lm, nu1272, by omega, by omega, by omega, ⟨v1574, v1575, v1576, v1577, v1578, v1579, v1580, n1581, n1582, ⟨by omega, by omega, by omega, by omega, by omega, by omega, by omega⟩, ⟨by omega, by omega⟩, zb1585, k1586⟩⟩⟩
            · skip
              refine x_iload_n C dX12_readsLine_68 rfl 0 rfl rfl ?_
              refine x_bipush C (v := 33) dX12_readsLine_69 (by decide) rfl ?_
              refine x_icmp_eq C (tgt := 96) dX12_readsLine_71 (by decide) rfl (fun c1587 => ?_) (fun c1587 => ?_)
              · skip
                have hp1588 := hv_lt (x1300.symm.trans c1587) (by decide)
                refine x_aload_n C dX12_readsLine_96 rfl 2 rfl rfl ?_
                refine x_aload_n C dX12_readsLine_97 rfl 2 rfl rfl ?_
                refine x_get C (ci := 11) (k := 5) 0 k1289 rfl in_X12 (by decide) w_1123 rfl dX12_readsLine_98 rfl ?_
                refine x_iconst C (v := 1) dX12_readsLine_101 (by decide) rfl ?_
                refine x_iadd C (v := (nI (pl1271 + 1))) dX12_readsLine_102 (nI_add pl1271 1) rfl ?_
                obtain ⟨w1589, hw1590⟩ : ∃ w : va_W, w = List.set w1265 0 (ob (a 0) 11 [.ref (a 1), .ref (a 2), .ref (a 3), .ref (a 4), .int (nI tp), .int (nI (pl1271 + 1)), .int (nI le), .int v1277, .int nu1272, .int v1278, .int (nI cm), .int (nI wt), .int (nI sm), .int (nI (cd.2.2.2.2.2)), .ref (a 5), .ref (a 6), .ref (a 7), .ref (a 8), .ref (a 9), .ref (a 10), .ref (a 11), .ref (a 12), .ref (a 13), .ref (a 14), .ref (a 15), .ref (a 16), .ref (a 17), .int (nI lm), .ref (a 18), .ref (a 19), .ref (a 20), .ref (a 21), .int v1279, .int v1280, .int v1281, .int v1282, .int (nI n1284), .int (nI n1285), .ref (a 22), .ref (a 23), .ref (a 24), .ref (a 25), .ref (a 26), .ref (a 27), .ref (a 28), .ref (a 29), .ref (a 30), .int v1283]) := ⟨_, rfl⟩
                refine x_put C (ci := 11) (k := 5) (ty := .int) 0 k1289 rfl in_X12 tyX12 tyX12_ok nmX12 (by decide) w_1123 rfl rfl rfl rfl (Nat.le_of_ble_eq_true rfl) hw1590.symm dX12_readsLine_103 rfl ?_
                have hW1591 : WX (okM E a cd) w1589 := by rw [hw1590]; exact hW1266.set (k := 0) rfl ⟨tp, (pl1271 + 1), le, v1277, nu1272, v1278, cm, wt, sm, lm, v1279, v1280, v1281, v1282, n1284, n1285, v1283, by omega, by omega, by omega, by omega, by omega, by omega, by omega, by omega, by omega, zb1288, rfl⟩
                have k1592 : w1589[4]? = some (bA E (a 4) 260 tf) := by rw [hw1590]; exact set_ne k1269 (by decide)
                have k1593 : w1589[0]? = some (ob (a 0) 11 [.ref (a 1), .ref (a 2), .ref (a 3), .ref (a 4), .int (nI tp), .int (nI (pl1271 + 1)), .int (nI le), .int v1277, .int nu1272, .int v1278, .int (nI cm), .int (nI wt), .int (nI sm), .int (nI (cd.2.2.2.2.2)), .ref (a 5), .ref (a 6), .ref (a 7), .ref (a 8), .ref (a 9), .ref (a 10), .ref (a 11), .ref (a 12), .ref (a 13), .ref (a 14), .ref (a 15), .ref (a 16), .ref (a 17), .int (nI lm), .ref (a 18), .ref (a 19), .ref (a 20), .ref (a 21), .int v1279, .int v1280, .int v1281, .int v1282, .int (nI n1284), .int (nI n1285), .ref (a 22), .ref (a 23), .ref (a 24), .ref (a 25), .ref (a 26), .ref (a 27), .ref (a 28), .ref (a 29), .ref (a 30), .int v1283]) := by rw [hw1590]; exact set_eq k1289
                have kp1594 := keeps_set kp1270 hw1590 (by first | exact rfl | decide | omega | (dsimp only; omega))
                refine x_aload_n C dX12_readsLine_106 rfl 2 rfl rfl ?_
                refine x_get C (ci := 11) (k := 29) 0 k1593 rfl in_X12 (by decide) w_1147 rfl dX12_readsLine_107 rfl ?_
                refine x_aload_n C dX12_readsLine_110 rfl 2 rfl rfl ?_
                refine x_get C (ci := 11) (k := 27) 0 k1593 rfl in_X12 (by decide) w_1145 rfl dX12_readsLine_111 rfl ?_
                refine x_iload_n C dX12_readsLine_114 rfl 0 rfl rfl ?_
                obtain ⟨_, k1595, f1596, rfl⟩ := hW1591 19 _ rfl
                obtain ⟨w1597, hw1598⟩ : ∃ w : va_W, w = List.set w1589 19 (iA E (a 19) 24 (upd f1596 (nI lm).toNatClampNeg r1297)) := ⟨_, rfl⟩
                refine x_iast C 19 k1595 (vp_in_nI (by omega) (by decide)) hw1598.symm dX12_readsLine_115 rfl ?_
                have hW1599 : WX (okM E a cd) w1597 := by rw [hw1598]; exact hW1591.set (k := 19) rfl ⟨_, rfl⟩
                have k1600 : w1597[4]? = some (bA E (a 4) 260 tf) := by rw [hw1598]; exact set_ne k1592 (by decide)
                have k1601 : w1597[0]? = some (ob (a 0) 11 [.ref (a 1), .ref (a 2), .ref (a 3), .ref (a 4), .int (nI tp), .int (nI (pl1271 + 1)), .int (nI le), .int v1277, .int nu1272, .int v1278, .int (nI cm), .int (nI wt), .int (nI sm), .int (nI (cd.2.2.2.2.2)), .ref (a 5), .ref (a 6), .ref (a 7), .ref (a 8), .ref (a 9), .ref (a 10), .ref (a 11), .ref (a 12), .ref (a 13), .ref (a 14), .ref (a 15), .ref (a 16), .ref (a 17), .int (nI lm), .ref (a 18), .ref (a 19), .ref (a 20), .ref (a 21), .int v1279, .int v1280, .int v1281, .int v1282, .int (nI n1284), .int (nI n1285), .ref (a 22), .ref (a 23), .ref (a 24), .ref (a 25), .ref (a 26), .ref (a 27), .ref (a 28), .ref (a 29), .ref (a 30), .int v1283]) := by rw [hw1598]; exact set_ne k1593 (by decide)
                have k1602 : w1597[19]? = some (iA E (a 19) 24 (upd f1596 (nI lm).toNatClampNeg r1297)) := by rw [hw1598]; exact set_eq k1595
                have kp1603 := keeps_set kp1594 hw1598 (by first | exact rfl | decide | omega | (dsimp only; omega))
                refine x_aload_n C dX12_readsLine_116 rfl 2 rfl rfl ?_
                refine x_get C (ci := 11) (k := 30) 0 k1601 rfl in_X12 (by decide) w_1148 rfl dX12_readsLine_117 rfl ?_
                refine x_aload_n C dX12_readsLine_120 rfl 2 rfl rfl ?_
                refine x_get C (ci := 11) (k := 27) 0 k1601 rfl in_X12 (by decide) w_1145 rfl dX12_readsLine_121 rfl ?_
                refine x_iconst C (v := 0) dX12_readsLine_124 (by decide) rfl ?_
                obtain ⟨_, k1604, g1605, gb1606, rfl⟩ := hW1599 20 _ rfl
                have gb1607 := updn_le (i := lm) (v := 0) gb1606 (by omega)
                obtain ⟨w1608, hw1609⟩ : ∃ w : va_W, w = List.set w1597 20 (iA E (a 20) 24 (upd (fun j => nI (g1605 j)) lm (nI 0))) := ⟨_, rfl⟩
                refine x_iask C lm (nI_clamp (by omega)) (nI_pos (by omega)) (by omega) 20 k1604 hw1609.symm dX12_readsLine_125 rfl ?_
                have hW1610 : WX (okM E a cd) w1608 := by rw [hw1609]; exact hW1599.set (k := 20) rfl ⟨_, gb1607, iA_n (upd_nI g1605 lm 0)⟩
                have k1611 : w1608[4]? = some (bA E (a 4) 260 tf) := by rw [hw1609]; exact set_ne k1600 (by decide)
                have k1612 : w1608[0]? = some (ob (a 0) 11 [.ref (a 1), .ref (a 2), .ref (a 3), .ref (a 4), .int (nI tp), .int (nI (pl1271 + 1)), .int (nI le), .int v1277, .int nu1272, .int v1278, .int (nI cm), .int (nI wt), .int (nI sm), .int (nI (cd.2.2.2.2.2)), .ref (a 5), .ref (a 6), .ref (a 7), .ref (a 8), .ref (a 9), .ref (a 10), .ref (a 11), .ref (a 12), .ref (a 13), .ref (a 14), .ref (a 15), .ref (a 16), .ref (a 17), .int (nI lm), .ref (a 18), .ref (a 19), .ref (a 20), .ref (a 21), .int v1279, .int v1280, .int v1281, .int v1282, .int (nI n1284), .int (nI n1285), .ref (a 22), .ref (a 23), .ref (a 24), .ref (a 25), .ref (a 26), .ref (a 27), .ref (a 28), .ref (a 29), .ref (a 30), .int v1283]) := by rw [hw1609]; exact set_ne k1601 (by decide)
                have k1613 : w1608[19]? = some (iA E (a 19) 24 (upd f1596 (nI lm).toNatClampNeg r1297)) := by rw [hw1609]; exact set_ne k1602 (by decide)
                have k1614 : w1608[20]? = some (iA E (a 20) 24 (upd (fun j => nI (g1605 j)) lm (nI 0))) := by rw [hw1609]; exact set_eq k1604
                have kp1615 := keeps_set kp1603 hw1609 (by first | exact rfl | decide | omega | (dsimp only; omega))
                have k1616 : w1608[20]? = some (iA E (a 20) 24 (fun j => nI ((updn g1605 lm 0) j))) := by rw [← upd_nI]; exact k1614
                refine x_iload_n C dX12_readsLine_126 rfl 0 rfl rfl ?_
                refine x_bipush C (v := 62) dX12_readsLine_127 (by decide) rfl ?_
                refine x_icmp_eq C (tgt := 138) dX12_readsLine_129 (by decide) rfl (fun c1617 => ?_) (fun c1617 => ?_)
                · skip
                  have hp1618 := hv_lt (x1300.symm.trans c1617) (by decide)
                  refine x_aload_n C dX12_readsLine_138 rfl 2 rfl rfl ?_
                  refine x_vi C (As := []) (rest := []) (m_isDigit E l a cd hG w1608 hW1610 tp (pl1271 + 1) le cm wt sm lm nu1272 ⟨v1277, v1278, v1279, v1280, v1281, v1282, v1283, n1284, n1285, ⟨by omega, by omega, by omega, by omega, by omega, by omega, by omega⟩, ⟨by omega, by omega⟩, zb1288, k1612⟩ tf k1611) mf_X12_isDigit w_1341 0 k1612 rfl rfl rfl (Nat.le_of_ble_eq_true rfl) ⟨(Nat.le_of_ble_eq_true rfl), (Nat.le_of_ble_eq_true rfl)⟩ ⟨(Nat.le_of_ble_eq_true rfl), (Nat.le_of_ble_eq_true rfl)⟩ dX12_readsLine_139 rfl (fun r1620 w1621 h1619 => ?_)
                  obtain ⟨hW1622, zb1623, x1624⟩ := h1619
                  refine x_ws hW1622 ?_
                  refine x_if_ne C (tgt := 155) dX12_readsLine_142 (by decide) rfl (fun c1625 => ?_) (fun c1625 => ?_)
                  · skip
                    obtain ⟨d1626, hd1627, ed1628, hp1629⟩ := x1624 c1625
                    refine x_aload_n C dX12_readsLine_155 rfl 2 rfl rfl ?_
                    refine x_vi C (As := []) (rest := []) (m_here E l a cd hG w1608 hW1610 tp (pl1271 + 1) le cm wt sm lm nu1272 ⟨v1277, v1278, v1279, v1280, v1281, v1282, v1283, n1284, n1285, ⟨by omega, by omega, by omega, by omega, by omega, by omega, by omega⟩, ⟨by omega, by omega⟩, zb1288, k1612⟩ tf k1611) mf_X12_here w_1317 0 k1612 rfl rfl rfl (Nat.le_of_ble_eq_true rfl) ⟨(Nat.le_of_ble_eq_true rfl), (Nat.le_of_ble_eq_true rfl)⟩ ⟨(Nat.le_of_ble_eq_true rfl), (Nat.le_of_ble_eq_true rfl)⟩ dX12_readsLine_156 rfl (fun r1631 w1632 h1630 => ?_)
                    obtain ⟨hW1633, x1634⟩ := h1630
                    refine x_ws hW1633 ?_
                    refine x_top (x1634.trans ed1628) ?_
                    refine x_bipush C (v := 55) dX12_readsLine_159 (by decide) rfl ?_
                    refine x_icmp_le C (tgt := 174) dX12_readsLine_161 (by decide) rfl (fun c1635 => ?_) (fun c1635 => ?_)
                    · skip
                      have nf1636 := nI_le' (a := (48 + d1626)) (b := 55) c1635 (by omega) (by omega)
                      refine x_aload_n C dX12_readsLine_174 rfl 2 rfl rfl ?_
                      refine x_get C (ci := 11) (k := 30) 0 k1612 rfl in_X12 (by decide) w_1148 rfl dX12_readsLine_175 rfl ?_
                      refine x_aload_n C dX12_readsLine_178 rfl 2 rfl rfl ?_
                      refine x_get C (ci := 11) (k := 27) 0 k1612 rfl in_X12 (by decide) w_1145 rfl dX12_readsLine_179 rfl ?_
                      refine x_aload_n C dX12_readsLine_182 rfl 2 rfl rfl ?_
                      refine x_vi C (As := []) (rest := [.int (nI lm), .ref (a 20)]) (m_here E l a cd hG w1608 hW1610 tp (pl1271 + 1) le cm wt sm lm nu1272 ⟨v1277, v1278, v1279, v1280, v1281, v1282, v1283, n1284, n1285, ⟨by omega, by omega, by omega, by omega, by omega, by omega, by omega⟩, ⟨by omega, by omega⟩, zb1288, k1612⟩ tf k1611) mf_X12_here w_1317 0 k1612 rfl rfl rfl (Nat.le_of_ble_eq_true rfl) ⟨(Nat.le_of_ble_eq_true rfl), (Nat.le_of_ble_eq_true rfl)⟩ ⟨(Nat.le_of_ble_eq_true rfl), (Nat.le_of_ble_eq_true rfl)⟩ dX12_readsLine_183 rfl (fun r1638 w1639 h1637 => ?_)
                      obtain ⟨hW1640, x1641⟩ := h1637
                      refine x_ws hW1640 ?_
                      refine x_top (x1641.trans ed1628) ?_
                      refine x_bipush C (v := 48) dX12_readsLine_186 (by decide) rfl ?_
                      refine x_isub C (v := (nI ((48 + d1626) - 48))) dX12_readsLine_188 (pk_sub (a := (48 + d1626)) (b := 48) (by omega)) rfl ?_
                      have gb1642 := updn_le (i := lm) (v := ((48 + d1626) - 48)) gb1607 (by omega)
                      obtain ⟨w1643, hw1644⟩ : ∃ w : va_W, w = List.set w1608 20 (iA E (a 20) 24 (upd (fun j => nI ((updn g1605 lm 0) j)) lm (nI ((48 + d1626) - 48)))) := ⟨_, rfl⟩
                      refine x_iask C lm (nI_clamp (by omega)) (nI_pos (by omega)) (by omega) 20 k1616 hw1644.symm dX12_readsLine_189 rfl ?_
                      have hW1645 : WX (okM E a cd) w1643 := by rw [hw1644]; exact hW1610.set (k := 20) rfl ⟨_, gb1642, iA_n (upd_nI (updn g1605 lm 0) lm ((48 + d1626) - 48))⟩
                      have k1646 : w1643[4]? = some (bA E (a 4) 260 tf) := by rw [hw1644]; exact set_ne k1611 (by decide)
                      have k1647 : w1643[0]? = some (ob (a 0) 11 [.ref (a 1), .ref (a 2), .ref (a 3), .ref (a 4), .int (nI tp), .int (nI (pl1271 + 1)), .int (nI le), .int v1277, .int nu1272, .int v1278, .int (nI cm), .int (nI wt), .int (nI sm), .int (nI (cd.2.2.2.2.2)), .ref (a 5), .ref (a 6), .ref (a 7), .ref (a 8), .ref (a 9), .ref (a 10), .ref (a 11), .ref (a 12), .ref (a 13), .ref (a 14), .ref (a 15), .ref (a 16), .ref (a 17), .int (nI lm), .ref (a 18), .ref (a 19), .ref (a 20), .ref (a 21), .int v1279, .int v1280, .int v1281, .int v1282, .int (nI n1284), .int (nI n1285), .ref (a 22), .ref (a 23), .ref (a 24), .ref (a 25), .ref (a 26), .ref (a 27), .ref (a 28), .ref (a 29), .ref (a 30), .int v1283]) := by rw [hw1644]; exact set_ne k1612 (by decide)
                      have k1648 : w1643[19]? = some (iA E (a 19) 24 (upd f1596 (nI lm).toNatClampNeg r1297)) := by rw [hw1644]; exact set_ne k1613 (by decide)
                      have k1649 : w1643[20]? = some (iA E (a 20) 24 (upd (fun j => nI ((updn g1605 lm 0) j)) lm (nI ((48 + d1626) - 48)))) := by rw [hw1644]; exact set_eq k1616
                      have kp1650 := keeps_set kp1615 hw1644 (by first | exact rfl | decide | omega | (dsimp only; omega))
                      have k1651 : w1643[20]? = some (iA E (a 20) 24 (fun j => nI ((updn (updn g1605 lm 0) lm ((48 + d1626) - 48)) j))) := by rw [← upd_nI]; exact k1649
                      refine x_aload_n C dX12_readsLine_190 rfl 2 rfl rfl ?_
                      refine x_aload_n C dX12_readsLine_191 rfl 2 rfl rfl ?_
                      refine x_get C (ci := 11) (k := 5) 0 k1647 rfl in_X12 (by decide) w_1123 rfl dX12_readsLine_192 rfl ?_
                      refine x_iconst C (v := 1) dX12_readsLine_195 (by decide) rfl ?_
                      refine x_iadd C (v := (nI ((pl1271 + 1) + 1))) dX12_readsLine_196 (nI_add (pl1271 + 1) 1) rfl ?_
                      obtain ⟨w1652, hw1653⟩ : ∃ w : va_W, w = List.set w1643 0 (ob (a 0) 11 [.ref (a 1), .ref (a 2), .ref (a 3), .ref (a 4), .int (nI tp), .int (nI ((pl1271 + 1) + 1)), .int (nI le), .int v1277, .int nu1272, .int v1278, .int (nI cm), .int (nI wt), .int (nI sm), .int (nI (cd.2.2.2.2.2)), .ref (a 5), .ref (a 6), .ref (a 7), .ref (a 8), .ref (a 9), .ref (a 10), .ref (a 11), .ref (a 12), .ref (a 13), .ref (a 14), .ref (a 15), .ref (a 16), .ref (a 17), .int (nI lm), .ref (a 18), .ref (a 19), .ref (a 20), .ref (a 21), .int v1279, .int v1280, .int v1281, .int v1282, .int (nI n1284), .int (nI n1285), .ref (a 22), .ref (a 23), .ref (a 24), .ref (a 25), .ref (a 26), .ref (a 27), .ref (a 28), .ref (a 29), .ref (a 30), .int v1283]) := ⟨_, rfl⟩
                      refine x_put C (ci := 11) (k := 5) (ty := .int) 0 k1647 rfl in_X12 tyX12 tyX12_ok nmX12 (by decide) w_1123 rfl rfl rfl rfl (Nat.le_of_ble_eq_true rfl) hw1653.symm dX12_readsLine_197 rfl ?_
                      have hW1654 : WX (okM E a cd) w1652 := by rw [hw1653]; exact hW1645.set (k := 0) rfl ⟨tp, ((pl1271 + 1) + 1), le, v1277, nu1272, v1278, cm, wt, sm, lm, v1279, v1280, v1281, v1282, n1284, n1285, v1283, by omega, by omega, by omega, by omega, by omega, by omega, by omega, by omega, by omega, zb1288, rfl⟩
                      have k1655 : w1652[4]? = some (bA E (a 4) 260 tf) := by rw [hw1653]; exact set_ne k1646 (by decide)
                      have k1656 : w1652[0]? = some (ob (a 0) 11 [.ref (a 1), .ref (a 2), .ref (a 3), .ref (a 4), .int (nI tp), .int (nI ((pl1271 + 1) + 1)), .int (nI le), .int v1277, .int nu1272, .int v1278, .int (nI cm), .int (nI wt), .int (nI sm), .int (nI (cd.2.2.2.2.2)), .ref (a 5), .ref (a 6), .ref (a 7), .ref (a 8), .ref (a 9), .ref (a 10), .ref (a 11), .ref (a 12), .ref (a 13), .ref (a 14), .ref (a 15), .ref (a 16), .ref (a 17), .int (nI lm), .ref (a 18), .ref (a 19), .ref (a 20), .ref (a 21), .int v1279, .int v1280, .int v1281, .int v1282, .int (nI n1284), .int (nI n1285), .ref (a 22), .ref (a 23), .ref (a 24), .ref (a 25), .ref (a 26), .ref (a 27), .ref (a 28), .ref (a 29), .ref (a 30), .int v1283]) := by rw [hw1653]; exact set_eq k1647
                      have k1657 : w1652[19]? = some (iA E (a 19) 24 (upd f1596 (nI lm).toNatClampNeg r1297)) := by rw [hw1653]; exact set_ne k1648 (by decide)
                      have k1658 : w1652[20]? = some (iA E (a 20) 24 (fun j => nI ((updn (updn g1605 lm 0) lm ((48 + d1626) - 48)) j))) := by rw [hw1653]; exact set_ne k1651 (by decide)
                      have kp1659 := keeps_set kp1650 hw1653 (by first | exact rfl | decide | omega | (dsimp only; omega))
                      refine x_aload_n C dX12_readsLine_200 rfl 2 rfl rfl ?_
                      refine x_get C (ci := 11) (k := 28) 0 k1656 rfl in_X12 (by decide) w_1146 rfl dX12_readsLine_201 rfl ?_
                      refine x_aload_n C dX12_readsLine_204 rfl 2 rfl rfl ?_
                      refine x_get C (ci := 11) (k := 27) 0 k1656 rfl in_X12 (by decide) w_1145 rfl dX12_readsLine_205 rfl ?_
                      refine x_iconst C (v := 1) dX12_readsLine_208 (by decide) rfl ?_
                      refine x_iadd C (v := (nI (lm + 1))) dX12_readsLine_209 (nI_add lm 1) rfl ?_
                      refine x_aload_n C dX12_readsLine_210 rfl 2 rfl rfl ?_
                      refine x_get C (ci := 11) (k := 28) 0 k1656 rfl in_X12 (by decide) w_1146 rfl dX12_readsLine_211 rfl ?_
                      refine x_aload_n C dX12_readsLine_214 rfl 2 rfl rfl ?_
                      refine x_get C (ci := 11) (k := 27) 0 k1656 rfl in_X12 (by decide) w_1145 rfl dX12_readsLine_215 rfl ?_
                      obtain ⟨_, k1660, g1661, gb1662, rfl⟩ := hW1654 18 _ rfl
                      refine x_ialk C (v := nI (g1661 lm)) lm (nI_clamp (by omega)) (nI_pos (by omega)) (by omega) 18 k1660 rfl dX12_readsLine_218 rfl ?_
                      have bx1663 := gb1662 lm
                      refine x_iload_n C dX12_readsLine_219 rfl 1 rfl rfl ?_
                      refine x_iadd C (v := (nI ((g1661 lm) + mm1291))) dX12_readsLine_220 (nI_add (g1661 lm) mm1291) rfl ?_
                      have gb1664 := updn_leF (i := (lm + 1)) (v := ((g1661 lm) + mm1291)) gb1662 (by omega)
                      obtain ⟨w1665, hw1666⟩ : ∃ w : va_W, w = List.set w1652 18 (iA E (a 18) 25 (upd (fun j => nI (g1661 j)) (lm + 1) (nI ((g1661 lm) + mm1291)))) := ⟨_, rfl⟩
                      refine x_iask C (lm + 1) (nI_clamp (by omega)) (nI_pos (by omega)) (by omega) 18 k1660 hw1666.symm dX12_readsLine_221 rfl ?_
                      have hW1667 : WX (okM E a cd) w1665 := by rw [hw1666]; exact hW1654.set (k := 18) rfl ⟨_, gb1664, iA_n (upd_nI g1661 (lm + 1) ((g1661 lm) + mm1291))⟩
                      have k1668 : w1665[4]? = some (bA E (a 4) 260 tf) := by rw [hw1666]; exact set_ne k1655 (by decide)
                      have k1669 : w1665[0]? = some (ob (a 0) 11 [.ref (a 1), .ref (a 2), .ref (a 3), .ref (a 4), .int (nI tp), .int (nI ((pl1271 + 1) + 1)), .int (nI le), .int v1277, .int nu1272, .int v1278, .int (nI cm), .int (nI wt), .int (nI sm), .int (nI (cd.2.2.2.2.2)), .ref (a 5), .ref (a 6), .ref (a 7), .ref (a 8), .ref (a 9), .ref (a 10), .ref (a 11), .ref (a 12), .ref (a 13), .ref (a 14), .ref (a 15), .ref (a 16), .ref (a 17), .int (nI lm), .ref (a 18), .ref (a 19), .ref (a 20), .ref (a 21), .int v1279, .int v1280, .int v1281, .int v1282, .int (nI n1284), .int (nI n1285), .ref (a 22), .ref (a 23), .ref (a 24), .ref (a 25), .ref (a 26), .ref (a 27), .ref (a 28), .ref (a 29), .ref (a 30), .int v1283]) := by rw [hw1666]; exact set_ne k1656 (by decide)
                      have k1670 : w1665[19]? = some (iA E (a 19) 24 (upd f1596 (nI lm).toNatClampNeg r1297)) := by rw [hw1666]; exact set_ne k1657 (by decide)
                      have k1671 : w1665[20]? = some (iA E (a 20) 24 (fun j => nI ((updn (updn g1605 lm 0) lm ((48 + d1626) - 48)) j))) := by rw [hw1666]; exact set_ne k1658 (by decide)
                      have k1672 : w1665[18]? = some (iA E (a 18) 25 (upd (fun j => nI (g1661 j)) (lm + 1) (nI ((g1661 lm) + mm1291)))) := by rw [hw1666]; exact set_eq k1660
                      have kp1673 := keeps_set kp1659 hw1666 (by first | exact rfl | decide | omega | (dsimp only; omega))
                      have k1674 : w1665[18]? = some (iA E (a 18) 25 (fun j => nI ((updn g1661 (lm + 1) ((g1661 lm) + mm1291)) j))) := by rw [← upd_nI]; exact k1672
                      refine x_aload_n C dX12_readsLine_222 rfl 2 rfl rfl ?_
                      refine x_aload_n C dX12_readsLine_223 rfl 2 rfl rfl ?_
                      refine x_get C (ci := 11) (k := 27) 0 k1669 rfl in_X12 (by decide) w_1145 rfl dX12_readsLine_224 rfl ?_
                      refine x_iconst C (v := 1) dX12_readsLine_227 (by decide) rfl ?_
                      refine x_iadd C (v := (nI (lm + 1))) dX12_readsLine_228 (nI_add lm 1) rfl ?_
                      obtain ⟨w1675, hw1676⟩ : ∃ w : va_W, w = List.set w1665 0 (ob (a 0) 11 [.ref (a 1), .ref (a 2), .ref (a 3), .ref (a 4), .int (nI tp), .int (nI ((pl1271 + 1) + 1)), .int (nI le), .int v1277, .int nu1272, .int v1278, .int (nI cm), .int (nI wt), .int (nI sm), .int (nI (cd.2.2.2.2.2)), .ref (a 5), .ref (a 6), .ref (a 7), .ref (a 8), .ref (a 9), .ref (a 10), .ref (a 11), .ref (a 12), .ref (a 13), .ref (a 14), .ref (a 15), .ref (a 16), .ref (a 17), .int (nI (lm + 1)), .ref (a 18), .ref (a 19), .ref (a 20), .ref (a 21), .int v1279, .int v1280, .int v1281, .int v1282, .int (nI n1284), .int (nI n1285), .ref (a 22), .ref (a 23), .ref (a 24), .ref (a 25), .ref (a 26), .ref (a 27), .ref (a 28), .ref (a 29), .ref (a 30), .int v1283]) := ⟨_, rfl⟩
                      refine x_put C (ci := 11) (k := 27) (ty := .int) 0 k1669 rfl in_X12 tyX12 tyX12_ok nmX12 (by decide) w_1145 rfl rfl rfl rfl (Nat.le_of_ble_eq_true rfl) hw1676.symm dX12_readsLine_229 rfl ?_
                      have hW1677 : WX (okM E a cd) w1675 := by rw [hw1676]; exact hW1667.set (k := 0) rfl ⟨tp, ((pl1271 + 1) + 1), le, v1277, nu1272, v1278, cm, wt, sm, (lm + 1), v1279, v1280, v1281, v1282, n1284, n1285, v1283, by omega, by omega, by omega, by omega, by omega, by omega, by omega, by omega, by omega, zb1288, rfl⟩
                      have k1678 : w1675[4]? = some (bA E (a 4) 260 tf) := by rw [hw1676]; exact set_ne k1668 (by decide)
                      have k1679 : w1675[0]? = some (ob (a 0) 11 [.ref (a 1), .ref (a 2), .ref (a 3), .ref (a 4), .int (nI tp), .int (nI ((pl1271 + 1) + 1)), .int (nI le), .int v1277, .int nu1272, .int v1278, .int (nI cm), .int (nI wt), .int (nI sm), .int (nI (cd.2.2.2.2.2)), .ref (a 5), .ref (a 6), .ref (a 7), .ref (a 8), .ref (a 9), .ref (a 10), .ref (a 11), .ref (a 12), .ref (a 13), .ref (a 14), .ref (a 15), .ref (a 16), .ref (a 17), .int (nI (lm + 1)), .ref (a 18), .ref (a 19), .ref (a 20), .ref (a 21), .int v1279, .int v1280, .int v1281, .int v1282, .int (nI n1284), .int (nI n1285), .ref (a 22), .ref (a 23), .ref (a 24), .ref (a 25), .ref (a 26), .ref (a 27), .ref (a 28), .ref (a 29), .ref (a 30), .int v1283]) := by rw [hw1676]; exact set_eq k1669
                      have k1680 : w1675[19]? = some (iA E (a 19) 24 (upd f1596 (nI lm).toNatClampNeg r1297)) := by rw [hw1676]; exact set_ne k1670 (by decide)
                      have k1681 : w1675[20]? = some (iA E (a 20) 24 (fun j => nI ((updn (updn g1605 lm 0) lm ((48 + d1626) - 48)) j))) := by rw [hw1676]; exact set_ne k1671 (by decide)
                      have k1682 : w1675[18]? = some (iA E (a 18) 25 (fun j => nI ((updn g1661 (lm + 1) ((g1661 lm) + mm1291)) j))) := by rw [hw1676]; exact set_ne k1674 (by decide)
                      have kp1683 := keeps_set kp1673 hw1676 (by first | exact rfl | decide | omega | (dsimp only; omega))
                      refine x_iconst C (v := 1) dX12_readsLine_232 (by decide) rfl ?_
                      exact x_zret C hr hlk rfl dX12_readsLine_233 ⟨hW1677, kp1683, (Or.inr rfl), ⟨((pl1271 + 1) + 1), (lm + 1), nu1272, by omega, by omega, by omega, ⟨v1277, v1278, v1279, v1280, v1281, v1282, v1283, n1284, n1285, ⟨by omega, by omega, by omega, by omega, by omega, by omega, by omega⟩, ⟨by omega, by omega⟩, zb1288, k1679⟩⟩⟩
                    · skip
                      have nf1684 := nI_nle' (a := (48 + d1626)) (b := 55) c1635 (by omega) (by omega)
                      refine x_aload_n C dX12_readsLine_164 rfl 2 rfl rfl ?_
                      refine x_iconst C (v := 3) dX12_readsLine_165 (by decide) rfl ?_
                      refine x_aload_n C dX12_readsLine_166 rfl 2 rfl rfl ?_
                      refine x_get C (ci := 11) (k := 5) 0 k1612 rfl in_X12 (by decide) w_1123 rfl dX12_readsLine_167 rfl ?_
                      refine x_vi C (As := [.int 3, .int (nI (pl1271 + 1))]) (rest := []) (m_wrongAt E l a cd hG w1608 hW1610 (3 : Int32) ((nI (pl1271 + 1))) tp (pl1271 + 1) le cm wt sm lm nu1272 ⟨v1277, v1278, v1279, v1280, v1281, v1282, v1283, n1284, n1285, ⟨by omega, by omega, by omega, by omega, by omega, by omega, by omega⟩, ⟨by omega, by omega⟩, zb1288, k1612⟩) mf_X12_wrongAt w_1324 0 k1612 rfl rfl rfl (Nat.le_of_ble_eq_true rfl) ⟨(Nat.le_of_ble_eq_true rfl), (Nat.le_of_ble_eq_true rfl)⟩ ⟨(Nat.le_of_ble_eq_true rfl), (Nat.le_of_ble_eq_true rfl)⟩ dX12_readsLine_170 rfl (fun r1686 w1687 h1685 => ?_)
                      obtain ⟨hW1688, kq1689, e1690, x1691⟩ := h1685
                      refine x_top e1690 ?_
                      have k1692 : w1687[4]? = some (bA E (a 4) 260 tf) := keeps_at kq1689 k1611 (by first | decide | omega | (dsimp only; omega))
                      have k1693 : w1687[19]? = some (iA E (a 19) 24 (upd f1596 (nI lm).toNatClampNeg r1297)) := keeps_at kq1689 k1613 (by first | decide | omega | (dsimp only; omega))
                      have k1694 : w1687[20]? = some (iA E (a 20) 24 (fun j => nI ((updn g1605 lm 0) j))) := keeps_at kq1689 k1616 (by first | decide | omega | (dsimp only; omega))
                      have kp1695 := keeps_tr kp1615 kq1689 (fun q hq => by first | omega | (dsimp only at *; omega))
                      obtain ⟨v1696, v1697, v1698, v1699, v1700, v1701, v1702, n1703, n1704, bo1705, bo1706, zb1707, k1708⟩ := x1691
                      exact x_zret C hr hlk rfl dX12_readsLine_173 ⟨hW1688, kp1695, (Or.inl rfl), ⟨((pl1271 + 1)), lm, nu1272, by omega, by omega, by omega, ⟨v1696, v1697, v1698, v1699, v1700, v1701, v1702, n1703, n1704, ⟨by omega, by omega, by omega, by omega, by omega, by omega, by omega⟩, ⟨by omega, by omega⟩, zb1707, k1708⟩⟩⟩
                  · skip
                    refine x_aload_n C dX12_readsLine_145 rfl 2 rfl rfl ?_
                    refine x_iconst C (v := 1) dX12_readsLine_146 (by decide) rfl ?_
                    refine x_aload_n C dX12_readsLine_147 rfl 2 rfl rfl ?_
                    refine x_get C (ci := 11) (k := 5) 0 k1612 rfl in_X12 (by decide) w_1123 rfl dX12_readsLine_148 rfl ?_
                    refine x_vi C (As := [.int 1, .int (nI (pl1271 + 1))]) (rest := []) (m_wrongAt E l a cd hG w1608 hW1610 (1 : Int32) ((nI (pl1271 + 1))) tp (pl1271 + 1) le cm wt sm lm nu1272 ⟨v1277, v1278, v1279, v1280, v1281, v1282, v1283, n1284, n1285, ⟨by omega, by omega, by omega, by omega, by omega, by omega, by omega⟩, ⟨by omega, by omega⟩, zb1288, k1612⟩) mf_X12_wrongAt w_1324 0 k1612 rfl rfl rfl (Nat.le_of_ble_eq_true rfl) ⟨(Nat.le_of_ble_eq_true rfl), (Nat.le_of_ble_eq_true rfl)⟩ ⟨(Nat.le_of_ble_eq_true rfl), (Nat.le_of_ble_eq_true rfl)⟩ dX12_readsLine_151 rfl (fun r1710 w1711 h1709 => ?_)
                    obtain ⟨hW1712, kq1713, e1714, x1715⟩ := h1709
                    refine x_top e1714 ?_
                    have k1716 : w1711[4]? = some (bA E (a 4) 260 tf) := keeps_at kq1713 k1611 (by first | decide | omega | (dsimp only; omega))
                    have k1717 : w1711[19]? = some (iA E (a 19) 24 (upd f1596 (nI lm).toNatClampNeg r1297)) := keeps_at kq1713 k1613 (by first | decide | omega | (dsimp only; omega))
                    have k1718 : w1711[20]? = some (iA E (a 20) 24 (fun j => nI ((updn g1605 lm 0) j))) := keeps_at kq1713 k1616 (by first | decide | omega | (dsimp only; omega))
                    have kp1719 := keeps_tr kp1615 kq1713 (fun q hq => by first | omega | (dsimp only at *; omega))
                    obtain ⟨v1720, v1721, v1722, v1723, v1724, v1725, v1726, n1727, n1728, bo1729, bo1730, zb1731, k1732⟩ := x1715
                    exact x_zret C hr hlk rfl dX12_readsLine_154 ⟨hW1712, kp1719, (Or.inl rfl), ⟨((pl1271 + 1)), lm, nu1272, by omega, by omega, by omega, ⟨v1720, v1721, v1722, v1723, v1724, v1725, v1726, n1727, n1728, ⟨by omega, by omega, by omega, by omega, by omega, by omega, by omega⟩, ⟨by omega, by omega⟩, zb1731, k1732⟩⟩⟩
                · skip
                  refine x_iload_n C dX12_readsLine_132 rfl 0 rfl rfl ?_
                  refine x_bipush C (v := 33) dX12_readsLine_133 (by decide) rfl ?_
                  refine x_icmp_ne C (tgt := 200) dX12_readsLine_135 (by decide) rfl (fun c1733 => ?_) (fun c1733 => ?_)
                  · skip
                    refine x_aload_n C dX12_readsLine_200 rfl 2 rfl rfl ?_
                    refine x_get C (ci := 11) (k := 28) 0 k1612 rfl in_X12 (by decide) w_1146 rfl dX12_readsLine_201 rfl ?_
                    refine x_aload_n C dX12_readsLine_204 rfl 2 rfl rfl ?_
                    refine x_get C (ci := 11) (k := 27) 0 k1612 rfl in_X12 (by decide) w_1145 rfl dX12_readsLine_205 rfl ?_
                    refine x_iconst C (v := 1) dX12_readsLine_208 (by decide) rfl ?_
                    refine x_iadd C (v := (nI (lm + 1))) dX12_readsLine_209 (nI_add lm 1) rfl ?_
                    refine x_aload_n C dX12_readsLine_210 rfl 2 rfl rfl ?_
                    refine x_get C (ci := 11) (k := 28) 0 k1612 rfl in_X12 (by decide) w_1146 rfl dX12_readsLine_211 rfl ?_
                    refine x_aload_n C dX12_readsLine_214 rfl 2 rfl rfl ?_
                    refine x_get C (ci := 11) (k := 27) 0 k1612 rfl in_X12 (by decide) w_1145 rfl dX12_readsLine_215 rfl ?_
                    obtain ⟨_, k1734, g1735, gb1736, rfl⟩ := hW1610 18 _ rfl
                    refine x_ialk C (v := nI (g1735 lm)) lm (nI_clamp (by omega)) (nI_pos (by omega)) (by omega) 18 k1734 rfl dX12_readsLine_218 rfl ?_
                    have bx1737 := gb1736 lm
                    refine x_iload_n C dX12_readsLine_219 rfl 1 rfl rfl ?_
                    refine x_iadd C (v := (nI ((g1735 lm) + mm1291))) dX12_readsLine_220 (nI_add (g1735 lm) mm1291) rfl ?_
                    have gb1738 := updn_leF (i := (lm + 1)) (v := ((g1735 lm) + mm1291)) gb1736 (by omega)
                    obtain ⟨w1739, hw1740⟩ : ∃ w : va_W, w = List.set w1608 18 (iA E (a 18) 25 (upd (fun j => nI (g1735 j)) (lm + 1) (nI ((g1735 lm) + mm1291)))) := ⟨_, rfl⟩
                    refine x_iask C (lm + 1) (nI_clamp (by omega)) (nI_pos (by omega)) (by omega) 18 k1734 hw1740.symm dX12_readsLine_221 rfl ?_
                    have hW1741 : WX (okM E a cd) w1739 := by rw [hw1740]; exact hW1610.set (k := 18) rfl ⟨_, gb1738, iA_n (upd_nI g1735 (lm + 1) ((g1735 lm) + mm1291))⟩
                    have k1742 : w1739[4]? = some (bA E (a 4) 260 tf) := by rw [hw1740]; exact set_ne k1611 (by decide)
                    have k1743 : w1739[0]? = some (ob (a 0) 11 [.ref (a 1), .ref (a 2), .ref (a 3), .ref (a 4), .int (nI tp), .int (nI (pl1271 + 1)), .int (nI le), .int v1277, .int nu1272, .int v1278, .int (nI cm), .int (nI wt), .int (nI sm), .int (nI (cd.2.2.2.2.2)), .ref (a 5), .ref (a 6), .ref (a 7), .ref (a 8), .ref (a 9), .ref (a 10), .ref (a 11), .ref (a 12), .ref (a 13), .ref (a 14), .ref (a 15), .ref (a 16), .ref (a 17), .int (nI lm), .ref (a 18), .ref (a 19), .ref (a 20), .ref (a 21), .int v1279, .int v1280, .int v1281, .int v1282, .int (nI n1284), .int (nI n1285), .ref (a 22), .ref (a 23), .ref (a 24), .ref (a 25), .ref (a 26), .ref (a 27), .ref (a 28), .ref (a 29), .ref (a 30), .int v1283]) := by rw [hw1740]; exact set_ne k1612 (by decide)
                    have k1744 : w1739[19]? = some (iA E (a 19) 24 (upd f1596 (nI lm).toNatClampNeg r1297)) := by rw [hw1740]; exact set_ne k1613 (by decide)
                    have k1745 : w1739[20]? = some (iA E (a 20) 24 (fun j => nI ((updn g1605 lm 0) j))) := by rw [hw1740]; exact set_ne k1616 (by decide)
                    have k1746 : w1739[18]? = some (iA E (a 18) 25 (upd (fun j => nI (g1735 j)) (lm + 1) (nI ((g1735 lm) + mm1291)))) := by rw [hw1740]; exact set_eq k1734
                    have kp1747 := keeps_set kp1615 hw1740 (by first | exact rfl | decide | omega | (dsimp only; omega))
                    have k1748 : w1739[18]? = some (iA E (a 18) 25 (fun j => nI ((updn g1735 (lm + 1) ((g1735 lm) + mm1291)) j))) := by rw [← upd_nI]; exact k1746
                    refine x_aload_n C dX12_readsLine_222 rfl 2 rfl rfl ?_
                    refine x_aload_n C dX12_readsLine_223 rfl 2 rfl rfl ?_
                    refine x_get C (ci := 11) (k := 27) 0 k1743 rfl in_X12 (by decide) w_1145 rfl dX12_readsLine_224 rfl ?_
                    refine x_iconst C (v := 1) dX12_readsLine_227 (by decide) rfl ?_
                    refine x_iadd C (v := (nI (lm + 1))) dX12_readsLine_228 (nI_add lm 1) rfl ?_
                    obtain ⟨w1749, hw1750⟩ : ∃ w : va_W, w = List.set w1739 0 (ob (a 0) 11 [.ref (a 1), .ref (a 2), .ref (a 3), .ref (a 4), .int (nI tp), .int (nI (pl1271 + 1)), .int (nI le), .int v1277, .int nu1272, .int v1278, .int (nI cm), .int (nI wt), .int (nI sm), .int (nI (cd.2.2.2.2.2)), .ref (a 5), .ref (a 6), .ref (a 7), .ref (a 8), .ref (a 9), .ref (a 10), .ref (a 11), .ref (a 12), .ref (a 13), .ref (a 14), .ref (a 15), .ref (a 16), .ref (a 17), .int (nI (lm + 1)), .ref (a 18), .ref (a 19), .ref (a 20), .ref (a 21), .int v1279, .int v1280, .int v1281, .int v1282, .int (nI n1284), .int (nI n1285), .ref (a 22), .ref (a 23), .ref (a 24), .ref (a 25), .ref (a 26), .ref (a 27), .ref (a 28), .ref (a 29), .ref (a 30), .int v1283]) := ⟨_, rfl⟩
                    refine x_put C (ci := 11) (k := 27) (ty := .int) 0 k1743 rfl in_X12 tyX12 tyX12_ok nmX12 (by decide) w_1145 rfl rfl rfl rfl (Nat.le_of_ble_eq_true rfl) hw1750.symm dX12_readsLine_229 rfl ?_
                    have hW1751 : WX (okM E a cd) w1749 := by rw [hw1750]; exact hW1741.set (k := 0) rfl ⟨tp, (pl1271 + 1), le, v1277, nu1272, v1278, cm, wt, sm, (lm + 1), v1279, v1280, v1281, v1282, n1284, n1285, v1283, by omega, by omega, by omega, by omega, by omega, by omega, by omega, by omega, by omega, zb1288, rfl⟩
                    have k1752 : w1749[4]? = some (bA E (a 4) 260 tf) := by rw [hw1750]; exact set_ne k1742 (by decide)
                    have k1753 : w1749[0]? = some (ob (a 0) 11 [.ref (a 1), .ref (a 2), .ref (a 3), .ref (a 4), .int (nI tp), .int (nI (pl1271 + 1)), .int (nI le), .int v1277, .int nu1272, .int v1278, .int (nI cm), .int (nI wt), .int (nI sm), .int (nI (cd.2.2.2.2.2)), .ref (a 5), .ref (a 6), .ref (a 7), .ref (a 8), .ref (a 9), .ref (a 10), .ref (a 11), .ref (a 12), .ref (a 13), .ref (a 14), .ref (a 15), .ref (a 16), .ref (a 17), .int (nI (lm + 1)), .ref (a 18), .ref (a 19), .ref (a 20), .ref (a 21), .int v1279, .int v1280, .int v1281, .int v1282, .int (nI n1284), .int (nI n1285), .ref (a 22), .ref (a 23), .ref (a 24), .ref (a 25), .ref (a 26), .ref (a 27), .ref (a 28), .ref (a 29), .ref (a 30), .int v1283]) := by rw [hw1750]; exact set_eq k1743
                    have k1754 : w1749[19]? = some (iA E (a 19) 24 (upd f1596 (nI lm).toNatClampNeg r1297)) := by rw [hw1750]; exact set_ne k1744 (by decide)
                    have k1755 : w1749[20]? = some (iA E (a 20) 24 (fun j => nI ((updn g1605 lm 0) j))) := by rw [hw1750]; exact set_ne k1745 (by decide)
                    have k1756 : w1749[18]? = some (iA E (a 18) 25 (fun j => nI ((updn g1735 (lm + 1) ((g1735 lm) + mm1291)) j))) := by rw [hw1750]; exact set_ne k1748 (by decide)
                    have kp1757 := keeps_set kp1747 hw1750 (by first | exact rfl | decide | omega | (dsimp only; omega))
                    refine x_iconst C (v := 1) dX12_readsLine_232 (by decide) rfl ?_
                    exact x_zret C hr hlk rfl dX12_readsLine_233 ⟨hW1751, kp1757, (Or.inr rfl), ⟨(pl1271 + 1), (lm + 1), nu1272, by omega, by omega, by omega, ⟨v1277, v1278, v1279, v1280, v1281, v1282, v1283, n1284, n1285, ⟨by omega, by omega, by omega, by omega, by omega, by omega, by omega⟩, ⟨by omega, by omega⟩, zb1288, k1753⟩⟩⟩
                  · skip
                    have hp1758 := hv_lt (x1300.symm.trans c1733) (by decide)
                    refine x_aload_n C dX12_readsLine_138 rfl 2 rfl rfl ?_
                    refine x_vi C (As := []) (rest := []) (m_isDigit E l a cd hG w1608 hW1610 tp (pl1271 + 1) le cm wt sm lm nu1272 ⟨v1277, v1278, v1279, v1280, v1281, v1282, v1283, n1284, n1285, ⟨by omega, by omega, by omega, by omega, by omega, by omega, by omega⟩, ⟨by omega, by omega⟩, zb1288, k1612⟩ tf k1611) mf_X12_isDigit w_1341 0 k1612 rfl rfl rfl (Nat.le_of_ble_eq_true rfl) ⟨(Nat.le_of_ble_eq_true rfl), (Nat.le_of_ble_eq_true rfl)⟩ ⟨(Nat.le_of_ble_eq_true rfl), (Nat.le_of_ble_eq_true rfl)⟩ dX12_readsLine_139 rfl (fun r1760 w1761 h1759 => ?_)
                    obtain ⟨hW1762, zb1763, x1764⟩ := h1759
                    refine x_ws hW1762 ?_
                    refine x_if_ne C (tgt := 155) dX12_readsLine_142 (by decide) rfl (fun c1765 => ?_) (fun c1765 => ?_)
                    · skip
                      obtain ⟨d1766, hd1767, ed1768, hp1769⟩ := x1764 c1765
                      refine x_aload_n C dX12_readsLine_155 rfl 2 rfl rfl ?_
                      refine x_vi C (As := []) (rest := []) (m_here E l a cd hG w1608 hW1610 tp (pl1271 + 1) le cm wt sm lm nu1272 ⟨v1277, v1278, v1279, v1280, v1281, v1282, v1283, n1284, n1285, ⟨by omega, by omega, by omega, by omega, by omega, by omega, by omega⟩, ⟨by omega, by omega⟩, zb1288, k1612⟩ tf k1611) mf_X12_here w_1317 0 k1612 rfl rfl rfl (Nat.le_of_ble_eq_true rfl) ⟨(Nat.le_of_ble_eq_true rfl), (Nat.le_of_ble_eq_true rfl)⟩ ⟨(Nat.le_of_ble_eq_true rfl), (Nat.le_of_ble_eq_true rfl)⟩ dX12_readsLine_156 rfl (fun r1771 w1772 h1770 => ?_)
                      obtain ⟨hW1773, x1774⟩ := h1770
                      refine x_ws hW1773 ?_
                      refine x_top (x1774.trans ed1768) ?_
                      refine x_bipush C (v := 55) dX12_readsLine_159 (by decide) rfl ?_
                      refine x_icmp_le C (tgt := 174) dX12_readsLine_161 (by decide) rfl (fun c1775 => ?_) (fun c1775 => ?_)
                      · skip
                        have nf1776 := nI_le' (a := (48 + d1766)) (b := 55) c1775 (by omega) (by omega)
                        refine x_aload_n C dX12_readsLine_174 rfl 2 rfl rfl ?_
                        refine x_get C (ci := 11) (k := 30) 0 k1612 rfl in_X12 (by decide) w_1148 rfl dX12_readsLine_175 rfl ?_
                        refine x_aload_n C dX12_readsLine_178 rfl 2 rfl rfl ?_
                        refine x_get C (ci := 11) (k := 27) 0 k1612 rfl in_X12 (by decide) w_1145 rfl dX12_readsLine_179 rfl ?_
                        refine x_aload_n C dX12_readsLine_182 rfl 2 rfl rfl ?_
                        refine x_vi C (As := []) (rest := [.int (nI lm), .ref (a 20)]) (m_here E l a cd hG w1608 hW1610 tp (pl1271 + 1) le cm wt sm lm nu1272 ⟨v1277, v1278, v1279, v1280, v1281, v1282, v1283, n1284, n1285, ⟨by omega, by omega, by omega, by omega, by omega, by omega, by omega⟩, ⟨by omega, by omega⟩, zb1288, k1612⟩ tf k1611) mf_X12_here w_1317 0 k1612 rfl rfl rfl (Nat.le_of_ble_eq_true rfl) ⟨(Nat.le_of_ble_eq_true rfl), (Nat.le_of_ble_eq_true rfl)⟩ ⟨(Nat.le_of_ble_eq_true rfl), (Nat.le_of_ble_eq_true rfl)⟩ dX12_readsLine_183 rfl (fun r1778 w1779 h1777 => ?_)
                        obtain ⟨hW1780, x1781⟩ := h1777
                        refine x_ws hW1780 ?_
                        refine x_top (x1781.trans ed1768) ?_
                        refine x_bipush C (v := 48) dX12_readsLine_186 (by decide) rfl ?_
                        refine x_isub C (v := (nI ((48 + d1766) - 48))) dX12_readsLine_188 (pk_sub (a := (48 + d1766)) (b := 48) (by omega)) rfl ?_
                        have gb1782 := updn_le (i := lm) (v := ((48 + d1766) - 48)) gb1607 (by omega)
                        obtain ⟨w1783, hw1784⟩ : ∃ w : va_W, w = List.set w1608 20 (iA E (a 20) 24 (upd (fun j => nI ((updn g1605 lm 0) j)) lm (nI ((48 + d1766) - 48)))) := ⟨_, rfl⟩
                        refine x_iask C lm (nI_clamp (by omega)) (nI_pos (by omega)) (by omega) 20 k1616 hw1784.symm dX12_readsLine_189 rfl ?_
                        have hW1785 : WX (okM E a cd) w1783 := by rw [hw1784]; exact hW1610.set (k := 20) rfl ⟨_, gb1782, iA_n (upd_nI (updn g1605 lm 0) lm ((48 + d1766) - 48))⟩
                        have k1786 : w1783[4]? = some (bA E (a 4) 260 tf) := by rw [hw1784]; exact set_ne k1611 (by decide)
                        have k1787 : w1783[0]? = some (ob (a 0) 11 [.ref (a 1), .ref (a 2), .ref (a 3), .ref (a 4), .int (nI tp), .int (nI (pl1271 + 1)), .int (nI le), .int v1277, .int nu1272, .int v1278, .int (nI cm), .int (nI wt), .int (nI sm), .int (nI (cd.2.2.2.2.2)), .ref (a 5), .ref (a 6), .ref (a 7), .ref (a 8), .ref (a 9), .ref (a 10), .ref (a 11), .ref (a 12), .ref (a 13), .ref (a 14), .ref (a 15), .ref (a 16), .ref (a 17), .int (nI lm), .ref (a 18), .ref (a 19), .ref (a 20), .ref (a 21), .int v1279, .int v1280, .int v1281, .int v1282, .int (nI n1284), .int (nI n1285), .ref (a 22), .ref (a 23), .ref (a 24), .ref (a 25), .ref (a 26), .ref (a 27), .ref (a 28), .ref (a 29), .ref (a 30), .int v1283]) := by rw [hw1784]; exact set_ne k1612 (by decide)
                        have k1788 : w1783[19]? = some (iA E (a 19) 24 (upd f1596 (nI lm).toNatClampNeg r1297)) := by rw [hw1784]; exact set_ne k1613 (by decide)
                        have k1789 : w1783[20]? = some (iA E (a 20) 24 (upd (fun j => nI ((updn g1605 lm 0) j)) lm (nI ((48 + d1766) - 48)))) := by rw [hw1784]; exact set_eq k1616
                        have kp1790 := keeps_set kp1615 hw1784 (by first | exact rfl | decide | omega | (dsimp only; omega))
                        have k1791 : w1783[20]? = some (iA E (a 20) 24 (fun j => nI ((updn (updn g1605 lm 0) lm ((48 + d1766) - 48)) j))) := by rw [← upd_nI]; exact k1789
                        refine x_aload_n C dX12_readsLine_190 rfl 2 rfl rfl ?_
                        refine x_aload_n C dX12_readsLine_191 rfl 2 rfl rfl ?_
                        refine x_get C (ci := 11) (k := 5) 0 k1787 rfl in_X12 (by decide) w_1123 rfl dX12_readsLine_192 rfl ?_
                        refine x_iconst C (v := 1) dX12_readsLine_195 (by decide) rfl ?_
                        refine x_iadd C (v := (nI ((pl1271 + 1) + 1))) dX12_readsLine_196 (nI_add (pl1271 + 1) 1) rfl ?_
                        obtain ⟨w1792, hw1793⟩ : ∃ w : va_W, w = List.set w1783 0 (ob (a 0) 11 [.ref (a 1), .ref (a 2), .ref (a 3), .ref (a 4), .int (nI tp), .int (nI ((pl1271 + 1) + 1)), .int (nI le), .int v1277, .int nu1272, .int v1278, .int (nI cm), .int (nI wt), .int (nI sm), .int (nI (cd.2.2.2.2.2)), .ref (a 5), .ref (a 6), .ref (a 7), .ref (a 8), .ref (a 9), .ref (a 10), .ref (a 11), .ref (a 12), .ref (a 13), .ref (a 14), .ref (a 15), .ref (a 16), .ref (a 17), .int (nI lm), .ref (a 18), .ref (a 19), .ref (a 20), .ref (a 21), .int v1279, .int v1280, .int v1281, .int v1282, .int (nI n1284), .int (nI n1285), .ref (a 22), .ref (a 23), .ref (a 24), .ref (a 25), .ref (a 26), .ref (a 27), .ref (a 28), .ref (a 29), .ref (a 30), .int v1283]) := ⟨_, rfl⟩
                        refine x_put C (ci := 11) (k := 5) (ty := .int) 0 k1787 rfl in_X12 tyX12 tyX12_ok nmX12 (by decide) w_1123 rfl rfl rfl rfl (Nat.le_of_ble_eq_true rfl) hw1793.symm dX12_readsLine_197 rfl ?_
                        have hW1794 : WX (okM E a cd) w1792 := by rw [hw1793]; exact hW1785.set (k := 0) rfl ⟨tp, ((pl1271 + 1) + 1), le, v1277, nu1272, v1278, cm, wt, sm, lm, v1279, v1280, v1281, v1282, n1284, n1285, v1283, by omega, by omega, by omega, by omega, by omega, by omega, by omega, by omega, by omega, zb1288, rfl⟩
                        have k1795 : w1792[4]? = some (bA E (a 4) 260 tf) := by rw [hw1793]; exact set_ne k1786 (by decide)
                        have k1796 : w1792[0]? = some (ob (a 0) 11 [.ref (a 1), .ref (a 2), .ref (a 3), .ref (a 4), .int (nI tp), .int (nI ((pl1271 + 1) + 1)), .int (nI le), .int v1277, .int nu1272, .int v1278, .int (nI cm), .int (nI wt), .int (nI sm), .int (nI (cd.2.2.2.2.2)), .ref (a 5), .ref (a 6), .ref (a 7), .ref (a 8), .ref (a 9), .ref (a 10), .ref (a 11), .ref (a 12), .ref (a 13), .ref (a 14), .ref (a 15), .ref (a 16), .ref (a 17), .int (nI lm), .ref (a 18), .ref (a 19), .ref (a 20), .ref (a 21), .int v1279, .int v1280, .int v1281, .int v1282, .int (nI n1284), .int (nI n1285), .ref (a 22), .ref (a 23), .ref (a 24), .ref (a 25), .ref (a 26), .ref (a 27), .ref (a 28), .ref (a 29), .ref (a 30), .int v1283]) := by rw [hw1793]; exact set_eq k1787
                        have k1797 : w1792[19]? = some (iA E (a 19) 24 (upd f1596 (nI lm).toNatClampNeg r1297)) := by rw [hw1793]; exact set_ne k1788 (by decide)
                        have k1798 : w1792[20]? = some (iA E (a 20) 24 (fun j => nI ((updn (updn g1605 lm 0) lm ((48 + d1766) - 48)) j))) := by rw [hw1793]; exact set_ne k1791 (by decide)
                        have kp1799 := keeps_set kp1790 hw1793 (by first | exact rfl | decide | omega | (dsimp only; omega))
                        refine x_aload_n C dX12_readsLine_200 rfl 2 rfl rfl ?_
                        refine x_get C (ci := 11) (k := 28) 0 k1796 rfl in_X12 (by decide) w_1146 rfl dX12_readsLine_201 rfl ?_
                        refine x_aload_n C dX12_readsLine_204 rfl 2 rfl rfl ?_
                        refine x_get C (ci := 11) (k := 27) 0 k1796 rfl in_X12 (by decide) w_1145 rfl dX12_readsLine_205 rfl ?_
                        refine x_iconst C (v := 1) dX12_readsLine_208 (by decide) rfl ?_
                        refine x_iadd C (v := (nI (lm + 1))) dX12_readsLine_209 (nI_add lm 1) rfl ?_
                        refine x_aload_n C dX12_readsLine_210 rfl 2 rfl rfl ?_
                        refine x_get C (ci := 11) (k := 28) 0 k1796 rfl in_X12 (by decide) w_1146 rfl dX12_readsLine_211 rfl ?_
                        refine x_aload_n C dX12_readsLine_214 rfl 2 rfl rfl ?_
                        refine x_get C (ci := 11) (k := 27) 0 k1796 rfl in_X12 (by decide) w_1145 rfl dX12_readsLine_215 rfl ?_
                        obtain ⟨_, k1800, g1801, gb1802, rfl⟩ := hW1794 18 _ rfl
                        refine x_ialk C (v := nI (g1801 lm)) lm (nI_clamp (by omega)) (nI_pos (by omega)) (by omega) 18 k1800 rfl dX12_readsLine_218 rfl ?_
                        have bx1803 := gb1802 lm
                        refine x_iload_n C dX12_readsLine_219 rfl 1 rfl rfl ?_
                        refine x_iadd C (v := (nI ((g1801 lm) + mm1291))) dX12_readsLine_220 (nI_add (g1801 lm) mm1291) rfl ?_
                        have gb1804 := updn_leF (i := (lm + 1)) (v := ((g1801 lm) + mm1291)) gb1802 (by omega)
                        obtain ⟨w1805, hw1806⟩ : ∃ w : va_W, w = List.set w1792 18 (iA E (a 18) 25 (upd (fun j => nI (g1801 j)) (lm + 1) (nI ((g1801 lm) + mm1291)))) := ⟨_, rfl⟩
                        refine x_iask C (lm + 1) (nI_clamp (by omega)) (nI_pos (by omega)) (by omega) 18 k1800 hw1806.symm dX12_readsLine_221 rfl ?_
                        have hW1807 : WX (okM E a cd) w1805 := by rw [hw1806]; exact hW1794.set (k := 18) rfl ⟨_, gb1804, iA_n (upd_nI g1801 (lm + 1) ((g1801 lm) + mm1291))⟩
                        have k1808 : w1805[4]? = some (bA E (a 4) 260 tf) := by rw [hw1806]; exact set_ne k1795 (by decide)
                        have k1809 : w1805[0]? = some (ob (a 0) 11 [.ref (a 1), .ref (a 2), .ref (a 3), .ref (a 4), .int (nI tp), .int (nI ((pl1271 + 1) + 1)), .int (nI le), .int v1277, .int nu1272, .int v1278, .int (nI cm), .int (nI wt), .int (nI sm), .int (nI (cd.2.2.2.2.2)), .ref (a 5), .ref (a 6), .ref (a 7), .ref (a 8), .ref (a 9), .ref (a 10), .ref (a 11), .ref (a 12), .ref (a 13), .ref (a 14), .ref (a 15), .ref (a 16), .ref (a 17), .int (nI lm), .ref (a 18), .ref (a 19), .ref (a 20), .ref (a 21), .int v1279, .int v1280, .int v1281, .int v1282, .int (nI n1284), .int (nI n1285), .ref (a 22), .ref (a 23), .ref (a 24), .ref (a 25), .ref (a 26), .ref (a 27), .ref (a 28), .ref (a 29), .ref (a 30), .int v1283]) := by rw [hw1806]; exact set_ne k1796 (by decide)
                        have k1810 : w1805[19]? = some (iA E (a 19) 24 (upd f1596 (nI lm).toNatClampNeg r1297)) := by rw [hw1806]; exact set_ne k1797 (by decide)
                        have k1811 : w1805[20]? = some (iA E (a 20) 24 (fun j => nI ((updn (updn g1605 lm 0) lm ((48 + d1766) - 48)) j))) := by rw [hw1806]; exact set_ne k1798 (by decide)
                        have k1812 : w1805[18]? = some (iA E (a 18) 25 (upd (fun j => nI (g1801 j)) (lm + 1) (nI ((g1801 lm) + mm1291)))) := by rw [hw1806]; exact set_eq k1800
                        have kp1813 := keeps_set kp1799 hw1806 (by first | exact rfl | decide | omega | (dsimp only; omega))
                        have k1814 : w1805[18]? = some (iA E (a 18) 25 (fun j => nI ((updn g1801 (lm + 1) ((g1801 lm) + mm1291)) j))) := by rw [← upd_nI]; exact k1812
                        refine x_aload_n C dX12_readsLine_222 rfl 2 rfl rfl ?_
                        refine x_aload_n C dX12_readsLine_223 rfl 2 rfl rfl ?_
                        refine x_get C (ci := 11) (k := 27) 0 k1809 rfl in_X12 (by decide) w_1145 rfl dX12_readsLine_224 rfl ?_
                        refine x_iconst C (v := 1) dX12_readsLine_227 (by decide) rfl ?_
                        refine x_iadd C (v := (nI (lm + 1))) dX12_readsLine_228 (nI_add lm 1) rfl ?_
                        obtain ⟨w1815, hw1816⟩ : ∃ w : va_W, w = List.set w1805 0 (ob (a 0) 11 [.ref (a 1), .ref (a 2), .ref (a 3), .ref (a 4), .int (nI tp), .int (nI ((pl1271 + 1) + 1)), .int (nI le), .int v1277, .int nu1272, .int v1278, .int (nI cm), .int (nI wt), .int (nI sm), .int (nI (cd.2.2.2.2.2)), .ref (a 5), .ref (a 6), .ref (a 7), .ref (a 8), .ref (a 9), .ref (a 10), .ref (a 11), .ref (a 12), .ref (a 13), .ref (a 14), .ref (a 15), .ref (a 16), .ref (a 17), .int (nI (lm + 1)), .ref (a 18), .ref (a 19), .ref (a 20), .ref (a 21), .int v1279, .int v1280, .int v1281, .int v1282, .int (nI n1284), .int (nI n1285), .ref (a 22), .ref (a 23), .ref (a 24), .ref (a 25), .ref (a 26), .ref (a 27), .ref (a 28), .ref (a 29), .ref (a 30), .int v1283]) := ⟨_, rfl⟩
                        refine x_put C (ci := 11) (k := 27) (ty := .int) 0 k1809 rfl in_X12 tyX12 tyX12_ok nmX12 (by decide) w_1145 rfl rfl rfl rfl (Nat.le_of_ble_eq_true rfl) hw1816.symm dX12_readsLine_229 rfl ?_
                        have hW1817 : WX (okM E a cd) w1815 := by rw [hw1816]; exact hW1807.set (k := 0) rfl ⟨tp, ((pl1271 + 1) + 1), le, v1277, nu1272, v1278, cm, wt, sm, (lm + 1), v1279, v1280, v1281, v1282, n1284, n1285, v1283, by omega, by omega, by omega, by omega, by omega, by omega, by omega, by omega, by omega, zb1288, rfl⟩
                        have k1818 : w1815[4]? = some (bA E (a 4) 260 tf) := by rw [hw1816]; exact set_ne k1808 (by decide)
                        have k1819 : w1815[0]? = some (ob (a 0) 11 [.ref (a 1), .ref (a 2), .ref (a 3), .ref (a 4), .int (nI tp), .int (nI ((pl1271 + 1) + 1)), .int (nI le), .int v1277, .int nu1272, .int v1278, .int (nI cm), .int (nI wt), .int (nI sm), .int (nI (cd.2.2.2.2.2)), .ref (a 5), .ref (a 6), .ref (a 7), .ref (a 8), .ref (a 9), .ref (a 10), .ref (a 11), .ref (a 12), .ref (a 13), .ref (a 14), .ref (a 15), .ref (a 16), .ref (a 17), .int (nI (lm + 1)), .ref (a 18), .ref (a 19), .ref (a 20), .ref (a 21), .int v1279, .int v1280, .int v1281, .int v1282, .int (nI n1284), .int (nI n1285), .ref (a 22), .ref (a 23), .ref (a 24), .ref (a 25), .ref (a 26), .ref (a 27), .ref (a 28), .ref (a 29), .ref (a 30), .int v1283]) := by rw [hw1816]; exact set_eq k1809
                        have k1820 : w1815[19]? = some (iA E (a 19) 24 (upd f1596 (nI lm).toNatClampNeg r1297)) := by rw [hw1816]; exact set_ne k1810 (by decide)
                        have k1821 : w1815[20]? = some (iA E (a 20) 24 (fun j => nI ((updn (updn g1605 lm 0) lm ((48 + d1766) - 48)) j))) := by rw [hw1816]; exact set_ne k1811 (by decide)
                        have k1822 : w1815[18]? = some (iA E (a 18) 25 (fun j => nI ((updn g1801 (lm + 1) ((g1801 lm) + mm1291)) j))) := by rw [hw1816]; exact set_ne k1814 (by decide)
                        have kp1823 := keeps_set kp1813 hw1816 (by first | exact rfl | decide | omega | (dsimp only; omega))
                        refine x_iconst C (v := 1) dX12_readsLine_232 (by decide) rfl ?_
                        exact x_zret C hr hlk rfl dX12_readsLine_233 ⟨hW1817, kp1823, (Or.inr rfl), ⟨((pl1271 + 1) + 1), (lm + 1), nu1272, by omega, by omega, by omega, ⟨v1277, v1278, v1279, v1280, v1281, v1282, v1283, n1284, n1285, ⟨by omega, by omega, by omega, by omega, by omega, by omega, by omega⟩, ⟨by omega, by omega⟩, zb1288, k1819⟩⟩⟩
                      · skip
                        have nf1824 := nI_nle' (a := (48 + d1766)) (b := 55) c1775 (by omega) (by omega)
                        refine x_aload_n C dX12_readsLine_164 rfl 2 rfl rfl ?_
                        refine x_iconst C (v := 3) dX12_readsLine_165 (by decide) rfl ?_
                        refine x_aload_n C dX12_readsLine_166 rfl 2 rfl rfl ?_
                        refine x_get C (ci := 11) (k := 5) 0 k1612 rfl in_X12 (by decide) w_1123 rfl dX12_readsLine_167 rfl ?_
                        refine x_vi C (As := [.int 3, .int (nI (pl1271 + 1))]) (rest := []) (m_wrongAt E l a cd hG w1608 hW1610 (3 : Int32) ((nI (pl1271 + 1))) tp (pl1271 + 1) le cm wt sm lm nu1272 ⟨v1277, v1278, v1279, v1280, v1281, v1282, v1283, n1284, n1285, ⟨by omega, by omega, by omega, by omega, by omega, by omega, by omega⟩, ⟨by omega, by omega⟩, zb1288, k1612⟩) mf_X12_wrongAt w_1324 0 k1612 rfl rfl rfl (Nat.le_of_ble_eq_true rfl) ⟨(Nat.le_of_ble_eq_true rfl), (Nat.le_of_ble_eq_true rfl)⟩ ⟨(Nat.le_of_ble_eq_true rfl), (Nat.le_of_ble_eq_true rfl)⟩ dX12_readsLine_170 rfl (fun r1826 w1827 h1825 => ?_)
                        obtain ⟨hW1828, kq1829, e1830, x1831⟩ := h1825
                        refine x_top e1830 ?_
                        have k1832 : w1827[4]? = some (bA E (a 4) 260 tf) := keeps_at kq1829 k1611 (by first | decide | omega | (dsimp only; omega))
                        have k1833 : w1827[19]? = some (iA E (a 19) 24 (upd f1596 (nI lm).toNatClampNeg r1297)) := keeps_at kq1829 k1613 (by first | decide | omega | (dsimp only; omega))
                        have k1834 : w1827[20]? = some (iA E (a 20) 24 (fun j => nI ((updn g1605 lm 0) j))) := keeps_at kq1829 k1616 (by first | decide | omega | (dsimp only; omega))
                        have kp1835 := keeps_tr kp1615 kq1829 (fun q hq => by first | omega | (dsimp only at *; omega))
                        obtain ⟨v1836, v1837, v1838, v1839, v1840, v1841, v1842, n1843, n1844, bo1845, bo1846, zb1847, k1848⟩ := x1831
                        exact x_zret C hr hlk rfl dX12_readsLine_173 ⟨hW1828, kp1835, (Or.inl rfl), ⟨((pl1271 + 1)), lm, nu1272, by omega, by omega, by omega, ⟨v1836, v1837, v1838, v1839, v1840, v1841, v1842, n1843, n1844, ⟨by omega, by omega, by omega, by omega, by omega, by omega, by omega⟩, ⟨by omega, by omega⟩, zb1847, k1848⟩⟩⟩
                    · skip
                      refine x_aload_n C dX12_readsLine_145 rfl 2 rfl rfl ?_
                      refine x_iconst C (v := 1) dX12_readsLine_146 (by decide) rfl ?_
                      refine x_aload_n C dX12_readsLine_147 rfl 2 rfl rfl ?_
                      refine x_get C (ci := 11) (k := 5) 0 k1612 rfl in_X12 (by decide) w_1123 rfl dX12_readsLine_148 rfl ?_
                      refine x_vi C (As := [.int 1, .int (nI (pl1271 + 1))]) (rest := []) (m_wrongAt E l a cd hG w1608 hW1610 (1 : Int32) ((nI (pl1271 + 1))) tp (pl1271 + 1) le cm wt sm lm nu1272 ⟨v1277, v1278, v1279, v1280, v1281, v1282, v1283, n1284, n1285, ⟨by omega, by omega, by omega, by omega, by omega, by omega, by omega⟩, ⟨by omega, by omega⟩, zb1288, k1612⟩) mf_X12_wrongAt w_1324 0 k1612 rfl rfl rfl (Nat.le_of_ble_eq_true rfl) ⟨(Nat.le_of_ble_eq_true rfl), (Nat.le_of_ble_eq_true rfl)⟩ ⟨(Nat.le_of_ble_eq_true rfl), (Nat.le_of_ble_eq_true rfl)⟩ dX12_readsLine_151 rfl (fun r1850 w1851 h1849 => ?_)
                      obtain ⟨hW1852, kq1853, e1854, x1855⟩ := h1849
                      refine x_top e1854 ?_
                      have k1856 : w1851[4]? = some (bA E (a 4) 260 tf) := keeps_at kq1853 k1611 (by first | decide | omega | (dsimp only; omega))
                      have k1857 : w1851[19]? = some (iA E (a 19) 24 (upd f1596 (nI lm).toNatClampNeg r1297)) := keeps_at kq1853 k1613 (by first | decide | omega | (dsimp only; omega))
                      have k1858 : w1851[20]? = some (iA E (a 20) 24 (fun j => nI ((updn g1605 lm 0) j))) := keeps_at kq1853 k1616 (by first | decide | omega | (dsimp only; omega))
                      have kp1859 := keeps_tr kp1615 kq1853 (fun q hq => by first | omega | (dsimp only at *; omega))
                      obtain ⟨v1860, v1861, v1862, v1863, v1864, v1865, v1866, n1867, n1868, bo1869, bo1870, zb1871, k1872⟩ := x1855
                      exact x_zret C hr hlk rfl dX12_readsLine_154 ⟨hW1852, kp1859, (Or.inl rfl), ⟨((pl1271 + 1)), lm, nu1272, by omega, by omega, by omega, ⟨v1860, v1861, v1862, v1863, v1864, v1865, v1866, n1867, n1868, ⟨by omega, by omega, by omega, by omega, by omega, by omega, by omega⟩, ⟨by omega, by omega⟩, zb1871, k1872⟩⟩⟩
              · skip
                refine x_iload_n C dX12_readsLine_74 rfl 0 rfl rfl ?_
                refine x_bipush C (v := 46) dX12_readsLine_75 (by decide) rfl ?_
                refine x_icmp_eq C (tgt := 96) dX12_readsLine_77 (by decide) rfl (fun c1873 => ?_) (fun c1873 => ?_)
                · skip
                  have hp1874 := hv_lt (x1300.symm.trans c1873) (by decide)
                  refine x_aload_n C dX12_readsLine_96 rfl 2 rfl rfl ?_
                  refine x_aload_n C dX12_readsLine_97 rfl 2 rfl rfl ?_
                  refine x_get C (ci := 11) (k := 5) 0 k1289 rfl in_X12 (by decide) w_1123 rfl dX12_readsLine_98 rfl ?_
                  refine x_iconst C (v := 1) dX12_readsLine_101 (by decide) rfl ?_
                  refine x_iadd C (v := (nI (pl1271 + 1))) dX12_readsLine_102 (nI_add pl1271 1) rfl ?_
                  obtain ⟨w1875, hw1876⟩ : ∃ w : va_W, w = List.set w1265 0 (ob (a 0) 11 [.ref (a 1), .ref (a 2), .ref (a 3), .ref (a 4), .int (nI tp), .int (nI (pl1271 + 1)), .int (nI le), .int v1277, .int nu1272, .int v1278, .int (nI cm), .int (nI wt), .int (nI sm), .int (nI (cd.2.2.2.2.2)), .ref (a 5), .ref (a 6), .ref (a 7), .ref (a 8), .ref (a 9), .ref (a 10), .ref (a 11), .ref (a 12), .ref (a 13), .ref (a 14), .ref (a 15), .ref (a 16), .ref (a 17), .int (nI lm), .ref (a 18), .ref (a 19), .ref (a 20), .ref (a 21), .int v1279, .int v1280, .int v1281, .int v1282, .int (nI n1284), .int (nI n1285), .ref (a 22), .ref (a 23), .ref (a 24), .ref (a 25), .ref (a 26), .ref (a 27), .ref (a 28), .ref (a 29), .ref (a 30), .int v1283]) := ⟨_, rfl⟩
                  refine x_put C (ci := 11) (k := 5) (ty := .int) 0 k1289 rfl in_X12 tyX12 tyX12_ok nmX12 (by decide) w_1123 rfl rfl rfl rfl (Nat.le_of_ble_eq_true rfl) hw1876.symm dX12_readsLine_103 rfl ?_
                  have hW1877 : WX (okM E a cd) w1875 := by rw [hw1876]; exact hW1266.set (k := 0) rfl ⟨tp, (pl1271 + 1), le, v1277, nu1272, v1278, cm, wt, sm, lm, v1279, v1280, v1281, v1282, n1284, n1285, v1283, by omega, by omega, by omega, by omega, by omega, by omega, by omega, by omega, by omega, zb1288, rfl⟩
                  have k1878 : w1875[4]? = some (bA E (a 4) 260 tf) := by rw [hw1876]; exact set_ne k1269 (by decide)
                  have k1879 : w1875[0]? = some (ob (a 0) 11 [.ref (a 1), .ref (a 2), .ref (a 3), .ref (a 4), .int (nI tp), .int (nI (pl1271 + 1)), .int (nI le), .int v1277, .int nu1272, .int v1278, .int (nI cm), .int (nI wt), .int (nI sm), .int (nI (cd.2.2.2.2.2)), .ref (a 5), .ref (a 6), .ref (a 7), .ref (a 8), .ref (a 9), .ref (a 10), .ref (a 11), .ref (a 12), .ref (a 13), .ref (a 14), .ref (a 15), .ref (a 16), .ref (a 17), .int (nI lm), .ref (a 18), .ref (a 19), .ref (a 20), .ref (a 21), .int v1279, .int v1280, .int v1281, .int v1282, .int (nI n1284), .int (nI n1285), .ref (a 22), .ref (a 23), .ref (a 24), .ref (a 25), .ref (a 26), .ref (a 27), .ref (a 28), .ref (a 29), .ref (a 30), .int v1283]) := by rw [hw1876]; exact set_eq k1289
                  have kp1880 := keeps_set kp1270 hw1876 (by first | exact rfl | decide | omega | (dsimp only; omega))
                  refine x_aload_n C dX12_readsLine_106 rfl 2 rfl rfl ?_
                  refine x_get C (ci := 11) (k := 29) 0 k1879 rfl in_X12 (by decide) w_1147 rfl dX12_readsLine_107 rfl ?_
                  refine x_aload_n C dX12_readsLine_110 rfl 2 rfl rfl ?_
                  refine x_get C (ci := 11) (k := 27) 0 k1879 rfl in_X12 (by decide) w_1145 rfl dX12_readsLine_111 rfl ?_
                  refine x_iload_n C dX12_readsLine_114 rfl 0 rfl rfl ?_
                  obtain ⟨_, k1881, f1882, rfl⟩ := hW1877 19 _ rfl
                  obtain ⟨w1883, hw1884⟩ : ∃ w : va_W, w = List.set w1875 19 (iA E (a 19) 24 (upd f1882 (nI lm).toNatClampNeg r1297)) := ⟨_, rfl⟩
                  refine x_iast C 19 k1881 (vp_in_nI (by omega) (by decide)) hw1884.symm dX12_readsLine_115 rfl ?_
                  have hW1885 : WX (okM E a cd) w1883 := by rw [hw1884]; exact hW1877.set (k := 19) rfl ⟨_, rfl⟩
                  have k1886 : w1883[4]? = some (bA E (a 4) 260 tf) := by rw [hw1884]; exact set_ne k1878 (by decide)
                  have k1887 : w1883[0]? = some (ob (a 0) 11 [.ref (a 1), .ref (a 2), .ref (a 3), .ref (a 4), .int (nI tp), .int (nI (pl1271 + 1)), .int (nI le), .int v1277, .int nu1272, .int v1278, .int (nI cm), .int (nI wt), .int (nI sm), .int (nI (cd.2.2.2.2.2)), .ref (a 5), .ref (a 6), .ref (a 7), .ref (a 8), .ref (a 9), .ref (a 10), .ref (a 11), .ref (a 12), .ref (a 13), .ref (a 14), .ref (a 15), .ref (a 16), .ref (a 17), .int (nI lm), .ref (a 18), .ref (a 19), .ref (a 20), .ref (a 21), .int v1279, .int v1280, .int v1281, .int v1282, .int (nI n1284), .int (nI n1285), .ref (a 22), .ref (a 23), .ref (a 24), .ref (a 25), .ref (a 26), .ref (a 27), .ref (a 28), .ref (a 29), .ref (a 30), .int v1283]) := by rw [hw1884]; exact set_ne k1879 (by decide)
                  have k1888 : w1883[19]? = some (iA E (a 19) 24 (upd f1882 (nI lm).toNatClampNeg r1297)) := by rw [hw1884]; exact set_eq k1881
                  have kp1889 := keeps_set kp1880 hw1884 (by first | exact rfl | decide | omega | (dsimp only; omega))
                  refine x_aload_n C dX12_readsLine_116 rfl 2 rfl rfl ?_
                  refine x_get C (ci := 11) (k := 30) 0 k1887 rfl in_X12 (by decide) w_1148 rfl dX12_readsLine_117 rfl ?_
                  refine x_aload_n C dX12_readsLine_120 rfl 2 rfl rfl ?_
                  refine x_get C (ci := 11) (k := 27) 0 k1887 rfl in_X12 (by decide) w_1145 rfl dX12_readsLine_121 rfl ?_
                  refine x_iconst C (v := 0) dX12_readsLine_124 (by decide) rfl ?_
                  obtain ⟨_, k1890, g1891, gb1892, rfl⟩ := hW1885 20 _ rfl
                  have gb1893 := updn_le (i := lm) (v := 0) gb1892 (by omega)
                  obtain ⟨w1894, hw1895⟩ : ∃ w : va_W, w = List.set w1883 20 (iA E (a 20) 24 (upd (fun j => nI (g1891 j)) lm (nI 0))) := ⟨_, rfl⟩
                  refine x_iask C lm (nI_clamp (by omega)) (nI_pos (by omega)) (by omega) 20 k1890 hw1895.symm dX12_readsLine_125 rfl ?_
                  have hW1896 : WX (okM E a cd) w1894 := by rw [hw1895]; exact hW1885.set (k := 20) rfl ⟨_, gb1893, iA_n (upd_nI g1891 lm 0)⟩
                  have k1897 : w1894[4]? = some (bA E (a 4) 260 tf) := by rw [hw1895]; exact set_ne k1886 (by decide)
                  have k1898 : w1894[0]? = some (ob (a 0) 11 [.ref (a 1), .ref (a 2), .ref (a 3), .ref (a 4), .int (nI tp), .int (nI (pl1271 + 1)), .int (nI le), .int v1277, .int nu1272, .int v1278, .int (nI cm), .int (nI wt), .int (nI sm), .int (nI (cd.2.2.2.2.2)), .ref (a 5), .ref (a 6), .ref (a 7), .ref (a 8), .ref (a 9), .ref (a 10), .ref (a 11), .ref (a 12), .ref (a 13), .ref (a 14), .ref (a 15), .ref (a 16), .ref (a 17), .int (nI lm), .ref (a 18), .ref (a 19), .ref (a 20), .ref (a 21), .int v1279, .int v1280, .int v1281, .int v1282, .int (nI n1284), .int (nI n1285), .ref (a 22), .ref (a 23), .ref (a 24), .ref (a 25), .ref (a 26), .ref (a 27), .ref (a 28), .ref (a 29), .ref (a 30), .int v1283]) := by rw [hw1895]; exact set_ne k1887 (by decide)
                  have k1899 : w1894[19]? = some (iA E (a 19) 24 (upd f1882 (nI lm).toNatClampNeg r1297)) := by rw [hw1895]; exact set_ne k1888 (by decide)
                  have k1900 : w1894[20]? = some (iA E (a 20) 24 (upd (fun j => nI (g1891 j)) lm (nI 0))) := by rw [hw1895]; exact set_eq k1890
                  have kp1901 := keeps_set kp1889 hw1895 (by first | exact rfl | decide | omega | (dsimp only; omega))
                  have k1902 : w1894[20]? = some (iA E (a 20) 24 (fun j => nI ((updn g1891 lm 0) j))) := by rw [← upd_nI]; exact k1900
                  refine x_iload_n C dX12_readsLine_126 rfl 0 rfl rfl ?_
                  refine x_bipush C (v := 62) dX12_readsLine_127 (by decide) rfl ?_
                  refine x_icmp_eq C (tgt := 138) dX12_readsLine_129 (by decide) rfl (fun c1903 => ?_) (fun c1903 => ?_)
                  · skip
                    have hp1904 := hv_lt (x1300.symm.trans c1903) (by decide)
                    refine x_aload_n C dX12_readsLine_138 rfl 2 rfl rfl ?_
                    refine x_vi C (As := []) (rest := []) (m_isDigit E l a cd hG w1894 hW1896 tp (pl1271 + 1) le cm wt sm lm nu1272 ⟨v1277, v1278, v1279, v1280, v1281, v1282, v1283, n1284, n1285, ⟨by omega, by omega, by omega, by omega, by omega, by omega, by omega⟩, ⟨by omega, by omega⟩, zb1288, k1898⟩ tf k1897) mf_X12_isDigit w_1341 0 k1898 rfl rfl rfl (Nat.le_of_ble_eq_true rfl) ⟨(Nat.le_of_ble_eq_true rfl), (Nat.le_of_ble_eq_true rfl)⟩ ⟨(Nat.le_of_ble_eq_true rfl), (Nat.le_of_ble_eq_true rfl)⟩ dX12_readsLine_139 rfl (fun r1906 w1907 h1905 => ?_)
                    obtain ⟨hW1908, zb1909, x1910⟩ := h1905
                    refine x_ws hW1908 ?_
                    refine x_if_ne C (tgt := 155) dX12_readsLine_142 (by decide) rfl (fun c1911 => ?_) (fun c1911 => ?_)
                    · skip
                      obtain ⟨d1912, hd1913, ed1914, hp1915⟩ := x1910 c1911
                      refine x_aload_n C dX12_readsLine_155 rfl 2 rfl rfl ?_
                      refine x_vi C (As := []) (rest := []) (m_here E l a cd hG w1894 hW1896 tp (pl1271 + 1) le cm wt sm lm nu1272 ⟨v1277, v1278, v1279, v1280, v1281, v1282, v1283, n1284, n1285, ⟨by omega, by omega, by omega, by omega, by omega, by omega, by omega⟩, ⟨by omega, by omega⟩, zb1288, k1898⟩ tf k1897) mf_X12_here w_1317 0 k1898 rfl rfl rfl (Nat.le_of_ble_eq_true rfl) ⟨(Nat.le_of_ble_eq_true rfl), (Nat.le_of_ble_eq_true rfl)⟩ ⟨(Nat.le_of_ble_eq_true rfl), (Nat.le_of_ble_eq_true rfl)⟩ dX12_readsLine_156 rfl (fun r1917 w1918 h1916 => ?_)
                      obtain ⟨hW1919, x1920⟩ := h1916
                      refine x_ws hW1919 ?_
                      refine x_top (x1920.trans ed1914) ?_
                      refine x_bipush C (v := 55) dX12_readsLine_159 (by decide) rfl ?_
                      refine x_icmp_le C (tgt := 174) dX12_readsLine_161 (by decide) rfl (fun c1921 => ?_) (fun c1921 => ?_)
                      · skip
                        have nf1922 := nI_le' (a := (48 + d1912)) (b := 55) c1921 (by omega) (by omega)
                        refine x_aload_n C dX12_readsLine_174 rfl 2 rfl rfl ?_
                        refine x_get C (ci := 11) (k := 30) 0 k1898 rfl in_X12 (by decide) w_1148 rfl dX12_readsLine_175 rfl ?_
                        refine x_aload_n C dX12_readsLine_178 rfl 2 rfl rfl ?_
                        refine x_get C (ci := 11) (k := 27) 0 k1898 rfl in_X12 (by decide) w_1145 rfl dX12_readsLine_179 rfl ?_
                        refine x_aload_n C dX12_readsLine_182 rfl 2 rfl rfl ?_
                        refine x_vi C (As := []) (rest := [.int (nI lm), .ref (a 20)]) (m_here E l a cd hG w1894 hW1896 tp (pl1271 + 1) le cm wt sm lm nu1272 ⟨v1277, v1278, v1279, v1280, v1281, v1282, v1283, n1284, n1285, ⟨by omega, by omega, by omega, by omega, by omega, by omega, by omega⟩, ⟨by omega, by omega⟩, zb1288, k1898⟩ tf k1897) mf_X12_here w_1317 0 k1898 rfl rfl rfl (Nat.le_of_ble_eq_true rfl) ⟨(Nat.le_of_ble_eq_true rfl), (Nat.le_of_ble_eq_true rfl)⟩ ⟨(Nat.le_of_ble_eq_true rfl), (Nat.le_of_ble_eq_true rfl)⟩ dX12_readsLine_183 rfl (fun r1924 w1925 h1923 => ?_)
                        obtain ⟨hW1926, x1927⟩ := h1923
                        refine x_ws hW1926 ?_
                        refine x_top (x1927.trans ed1914) ?_
                        refine x_bipush C (v := 48) dX12_readsLine_186 (by decide) rfl ?_
                        refine x_isub C (v := (nI ((48 + d1912) - 48))) dX12_readsLine_188 (pk_sub (a := (48 + d1912)) (b := 48) (by omega)) rfl ?_
                        have gb1928 := updn_le (i := lm) (v := ((48 + d1912) - 48)) gb1893 (by omega)
                        obtain ⟨w1929, hw1930⟩ : ∃ w : va_W, w = List.set w1894 20 (iA E (a 20) 24 (upd (fun j => nI ((updn g1891 lm 0) j)) lm (nI ((48 + d1912) - 48)))) := ⟨_, rfl⟩
                        refine x_iask C lm (nI_clamp (by omega)) (nI_pos (by omega)) (by omega) 20 k1902 hw1930.symm dX12_readsLine_189 rfl ?_
                        have hW1931 : WX (okM E a cd) w1929 := by rw [hw1930]; exact hW1896.set (k := 20) rfl ⟨_, gb1928, iA_n (upd_nI (updn g1891 lm 0) lm ((48 + d1912) - 48))⟩
                        have k1932 : w1929[4]? = some (bA E (a 4) 260 tf) := by rw [hw1930]; exact set_ne k1897 (by decide)
                        have k1933 : w1929[0]? = some (ob (a 0) 11 [.ref (a 1), .ref (a 2), .ref (a 3), .ref (a 4), .int (nI tp), .int (nI (pl1271 + 1)), .int (nI le), .int v1277, .int nu1272, .int v1278, .int (nI cm), .int (nI wt), .int (nI sm), .int (nI (cd.2.2.2.2.2)), .ref (a 5), .ref (a 6), .ref (a 7), .ref (a 8), .ref (a 9), .ref (a 10), .ref (a 11), .ref (a 12), .ref (a 13), .ref (a 14), .ref (a 15), .ref (a 16), .ref (a 17), .int (nI lm), .ref (a 18), .ref (a 19), .ref (a 20), .ref (a 21), .int v1279, .int v1280, .int v1281, .int v1282, .int (nI n1284), .int (nI n1285), .ref (a 22), .ref (a 23), .ref (a 24), .ref (a 25), .ref (a 26), .ref (a 27), .ref (a 28), .ref (a 29), .ref (a 30), .int v1283]) := by rw [hw1930]; exact set_ne k1898 (by decide)
                        have k1934 : w1929[19]? = some (iA E (a 19) 24 (upd f1882 (nI lm).toNatClampNeg r1297)) := by rw [hw1930]; exact set_ne k1899 (by decide)
                        have k1935 : w1929[20]? = some (iA E (a 20) 24 (upd (fun j => nI ((updn g1891 lm 0) j)) lm (nI ((48 + d1912) - 48)))) := by rw [hw1930]; exact set_eq k1902
                        have kp1936 := keeps_set kp1901 hw1930 (by first | exact rfl | decide | omega | (dsimp only; omega))
                        have k1937 : w1929[20]? = some (iA E (a 20) 24 (fun j => nI ((updn (updn g1891 lm 0) lm ((48 + d1912) - 48)) j))) := by rw [← upd_nI]; exact k1935
                        refine x_aload_n C dX12_readsLine_190 rfl 2 rfl rfl ?_
                        refine x_aload_n C dX12_readsLine_191 rfl 2 rfl rfl ?_
                        refine x_get C (ci := 11) (k := 5) 0 k1933 rfl in_X12 (by decide) w_1123 rfl dX12_readsLine_192 rfl ?_
                        refine x_iconst C (v := 1) dX12_readsLine_195 (by decide) rfl ?_
                        refine x_iadd C (v := (nI ((pl1271 + 1) + 1))) dX12_readsLine_196 (nI_add (pl1271 + 1) 1) rfl ?_
                        obtain ⟨w1938, hw1939⟩ : ∃ w : va_W, w = List.set w1929 0 (ob (a 0) 11 [.ref (a 1), .ref (a 2), .ref (a 3), .ref (a 4), .int (nI tp), .int (nI ((pl1271 + 1) + 1)), .int (nI le), .int v1277, .int nu1272, .int v1278, .int (nI cm), .int (nI wt), .int (nI sm), .int (nI (cd.2.2.2.2.2)), .ref (a 5), .ref (a 6), .ref (a 7), .ref (a 8), .ref (a 9), .ref (a 10), .ref (a 11), .ref (a 12), .ref (a 13), .ref (a 14), .ref (a 15), .ref (a 16), .ref (a 17), .int (nI lm), .ref (a 18), .ref (a 19), .ref (a 20), .ref (a 21), .int v1279, .int v1280, .int v1281, .int v1282, .int (nI n1284), .int (nI n1285), .ref (a 22), .ref (a 23), .ref (a 24), .ref (a 25), .ref (a 26), .ref (a 27), .ref (a 28), .ref (a 29), .ref (a 30), .int v1283]) := ⟨_, rfl⟩
                        refine x_put C (ci := 11) (k := 5) (ty := .int) 0 k1933 rfl in_X12 tyX12 tyX12_ok nmX12 (by decide) w_1123 rfl rfl rfl rfl (Nat.le_of_ble_eq_true rfl) hw1939.symm dX12_readsLine_197 rfl ?_
                        have hW1940 : WX (okM E a cd) w1938 := by rw [hw1939]; exact hW1931.set (k := 0) rfl ⟨tp, ((pl1271 + 1) + 1), le, v1277, nu1272, v1278, cm, wt, sm, lm, v1279, v1280, v1281, v1282, n1284, n1285, v1283, by omega, by omega, by omega, by omega, by omega, by omega, by omega, by omega, by omega, zb1288, rfl⟩
                        have k1941 : w1938[4]? = some (bA E (a 4) 260 tf) := by rw [hw1939]; exact set_ne k1932 (by decide)
                        have k1942 : w1938[0]? = some (ob (a 0) 11 [.ref (a 1), .ref (a 2), .ref (a 3), .ref (a 4), .int (nI tp), .int (nI ((pl1271 + 1) + 1)), .int (nI le), .int v1277, .int nu1272, .int v1278, .int (nI cm), .int (nI wt), .int (nI sm), .int (nI (cd.2.2.2.2.2)), .ref (a 5), .ref (a 6), .ref (a 7), .ref (a 8), .ref (a 9), .ref (a 10), .ref (a 11), .ref (a 12), .ref (a 13), .ref (a 14), .ref (a 15), .ref (a 16), .ref (a 17), .int (nI lm), .ref (a 18), .ref (a 19), .ref (a 20), .ref (a 21), .int v1279, .int v1280, .int v1281, .int v1282, .int (nI n1284), .int (nI n1285), .ref (a 22), .ref (a 23), .ref (a 24), .ref (a 25), .ref (a 26), .ref (a 27), .ref (a 28), .ref (a 29), .ref (a 30), .int v1283]) := by rw [hw1939]; exact set_eq k1933
                        have k1943 : w1938[19]? = some (iA E (a 19) 24 (upd f1882 (nI lm).toNatClampNeg r1297)) := by rw [hw1939]; exact set_ne k1934 (by decide)
                        have k1944 : w1938[20]? = some (iA E (a 20) 24 (fun j => nI ((updn (updn g1891 lm 0) lm ((48 + d1912) - 48)) j))) := by rw [hw1939]; exact set_ne k1937 (by decide)
                        have kp1945 := keeps_set kp1936 hw1939 (by first | exact rfl | decide | omega | (dsimp only; omega))
                        refine x_aload_n C dX12_readsLine_200 rfl 2 rfl rfl ?_
                        refine x_get C (ci := 11) (k := 28) 0 k1942 rfl in_X12 (by decide) w_1146 rfl dX12_readsLine_201 rfl ?_
                        refine x_aload_n C dX12_readsLine_204 rfl 2 rfl rfl ?_
                        refine x_get C (ci := 11) (k := 27) 0 k1942 rfl in_X12 (by decide) w_1145 rfl dX12_readsLine_205 rfl ?_
                        refine x_iconst C (v := 1) dX12_readsLine_208 (by decide) rfl ?_
                        refine x_iadd C (v := (nI (lm + 1))) dX12_readsLine_209 (nI_add lm 1) rfl ?_
                        refine x_aload_n C dX12_readsLine_210 rfl 2 rfl rfl ?_
                        refine x_get C (ci := 11) (k := 28) 0 k1942 rfl in_X12 (by decide) w_1146 rfl dX12_readsLine_211 rfl ?_
                        refine x_aload_n C dX12_readsLine_214 rfl 2 rfl rfl ?_
                        refine x_get C (ci := 11) (k := 27) 0 k1942 rfl in_X12 (by decide) w_1145 rfl dX12_readsLine_215 rfl ?_
                        obtain ⟨_, k1946, g1947, gb1948, rfl⟩ := hW1940 18 _ rfl
                        refine x_ialk C (v := nI (g1947 lm)) lm (nI_clamp (by omega)) (nI_pos (by omega)) (by omega) 18 k1946 rfl dX12_readsLine_218 rfl ?_
                        have bx1949 := gb1948 lm
                        refine x_iload_n C dX12_readsLine_219 rfl 1 rfl rfl ?_
                        refine x_iadd C (v := (nI ((g1947 lm) + mm1291))) dX12_readsLine_220 (nI_add (g1947 lm) mm1291) rfl ?_
                        have gb1950 := updn_leF (i := (lm + 1)) (v := ((g1947 lm) + mm1291)) gb1948 (by omega)
                        obtain ⟨w1951, hw1952⟩ : ∃ w : va_W, w = List.set w1938 18 (iA E (a 18) 25 (upd (fun j => nI (g1947 j)) (lm + 1) (nI ((g1947 lm) + mm1291)))) := ⟨_, rfl⟩
                        refine x_iask C (lm + 1) (nI_clamp (by omega)) (nI_pos (by omega)) (by omega) 18 k1946 hw1952.symm dX12_readsLine_221 rfl ?_
                        have hW1953 : WX (okM E a cd) w1951 := by rw [hw1952]; exact hW1940.set (k := 18) rfl ⟨_, gb1950, iA_n (upd_nI g1947 (lm + 1) ((g1947 lm) + mm1291))⟩
                        have k1954 : w1951[4]? = some (bA E (a 4) 260 tf) := by rw [hw1952]; exact set_ne k1941 (by decide)
                        have k1955 : w1951[0]? = some (ob (a 0) 11 [.ref (a 1), .ref (a 2), .ref (a 3), .ref (a 4), .int (nI tp), .int (nI ((pl1271 + 1) + 1)), .int (nI le), .int v1277, .int nu1272, .int v1278, .int (nI cm), .int (nI wt), .int (nI sm), .int (nI (cd.2.2.2.2.2)), .ref (a 5), .ref (a 6), .ref (a 7), .ref (a 8), .ref (a 9), .ref (a 10), .ref (a 11), .ref (a 12), .ref (a 13), .ref (a 14), .ref (a 15), .ref (a 16), .ref (a 17), .int (nI lm), .ref (a 18), .ref (a 19), .ref (a 20), .ref (a 21), .int v1279, .int v1280, .int v1281, .int v1282, .int (nI n1284), .int (nI n1285), .ref (a 22), .ref (a 23), .ref (a 24), .ref (a 25), .ref (a 26), .ref (a 27), .ref (a 28), .ref (a 29), .ref (a 30), .int v1283]) := by rw [hw1952]; exact set_ne k1942 (by decide)
                        have k1956 : w1951[19]? = some (iA E (a 19) 24 (upd f1882 (nI lm).toNatClampNeg r1297)) := by rw [hw1952]; exact set_ne k1943 (by decide)
                        have k1957 : w1951[20]? = some (iA E (a 20) 24 (fun j => nI ((updn (updn g1891 lm 0) lm ((48 + d1912) - 48)) j))) := by rw [hw1952]; exact set_ne k1944 (by decide)
                        have k1958 : w1951[18]? = some (iA E (a 18) 25 (upd (fun j => nI (g1947 j)) (lm + 1) (nI ((g1947 lm) + mm1291)))) := by rw [hw1952]; exact set_eq k1946
                        have kp1959 := keeps_set kp1945 hw1952 (by first | exact rfl | decide | omega | (dsimp only; omega))
                        have k1960 : w1951[18]? = some (iA E (a 18) 25 (fun j => nI ((updn g1947 (lm + 1) ((g1947 lm) + mm1291)) j))) := by rw [← upd_nI]; exact k1958
                        refine x_aload_n C dX12_readsLine_222 rfl 2 rfl rfl ?_
                        refine x_aload_n C dX12_readsLine_223 rfl 2 rfl rfl ?_
                        refine x_get C (ci := 11) (k := 27) 0 k1955 rfl in_X12 (by decide) w_1145 rfl dX12_readsLine_224 rfl ?_
                        refine x_iconst C (v := 1) dX12_readsLine_227 (by decide) rfl ?_
                        refine x_iadd C (v := (nI (lm + 1))) dX12_readsLine_228 (nI_add lm 1) rfl ?_
                        obtain ⟨w1961, hw1962⟩ : ∃ w : va_W, w = List.set w1951 0 (ob (a 0) 11 [.ref (a 1), .ref (a 2), .ref (a 3), .ref (a 4), .int (nI tp), .int (nI ((pl1271 + 1) + 1)), .int (nI le), .int v1277, .int nu1272, .int v1278, .int (nI cm), .int (nI wt), .int (nI sm), .int (nI (cd.2.2.2.2.2)), .ref (a 5), .ref (a 6), .ref (a 7), .ref (a 8), .ref (a 9), .ref (a 10), .ref (a 11), .ref (a 12), .ref (a 13), .ref (a 14), .ref (a 15), .ref (a 16), .ref (a 17), .int (nI (lm + 1)), .ref (a 18), .ref (a 19), .ref (a 20), .ref (a 21), .int v1279, .int v1280, .int v1281, .int v1282, .int (nI n1284), .int (nI n1285), .ref (a 22), .ref (a 23), .ref (a 24), .ref (a 25), .ref (a 26), .ref (a 27), .ref (a 28), .ref (a 29), .ref (a 30), .int v1283]) := ⟨_, rfl⟩
                        refine x_put C (ci := 11) (k := 27) (ty := .int) 0 k1955 rfl in_X12 tyX12 tyX12_ok nmX12 (by decide) w_1145 rfl rfl rfl rfl (Nat.le_of_ble_eq_true rfl) hw1962.symm dX12_readsLine_229 rfl ?_
                        have hW1963 : WX (okM E a cd) w1961 := by rw [hw1962]; exact hW1953.set (k := 0) rfl ⟨tp, ((pl1271 + 1) + 1), le, v1277, nu1272, v1278, cm, wt, sm, (lm + 1), v1279, v1280, v1281, v1282, n1284, n1285, v1283, by omega, by omega, by omega, by omega, by omega, by omega, by omega, by omega, by omega, zb1288, rfl⟩
                        have k1964 : w1961[4]? = some (bA E (a 4) 260 tf) := by rw [hw1962]; exact set_ne k1954 (by decide)
                        have k1965 : w1961[0]? = some (ob (a 0) 11 [.ref (a 1), .ref (a 2), .ref (a 3), .ref (a 4), .int (nI tp), .int (nI ((pl1271 + 1) + 1)), .int (nI le), .int v1277, .int nu1272, .int v1278, .int (nI cm), .int (nI wt), .int (nI sm), .int (nI (cd.2.2.2.2.2)), .ref (a 5), .ref (a 6), .ref (a 7), .ref (a 8), .ref (a 9), .ref (a 10), .ref (a 11), .ref (a 12), .ref (a 13), .ref (a 14), .ref (a 15), .ref (a 16), .ref (a 17), .int (nI (lm + 1)), .ref (a 18), .ref (a 19), .ref (a 20), .ref (a 21), .int v1279, .int v1280, .int v1281, .int v1282, .int (nI n1284), .int (nI n1285), .ref (a 22), .ref (a 23), .ref (a 24), .ref (a 25), .ref (a 26), .ref (a 27), .ref (a 28), .ref (a 29), .ref (a 30), .int v1283]) := by rw [hw1962]; exact set_eq k1955
                        have k1966 : w1961[19]? = some (iA E (a 19) 24 (upd f1882 (nI lm).toNatClampNeg r1297)) := by rw [hw1962]; exact set_ne k1956 (by decide)
                        have k1967 : w1961[20]? = some (iA E (a 20) 24 (fun j => nI ((updn (updn g1891 lm 0) lm ((48 + d1912) - 48)) j))) := by rw [hw1962]; exact set_ne k1957 (by decide)
                        have k1968 : w1961[18]? = some (iA E (a 18) 25 (fun j => nI ((updn g1947 (lm + 1) ((g1947 lm) + mm1291)) j))) := by rw [hw1962]; exact set_ne k1960 (by decide)
                        have kp1969 := keeps_set kp1959 hw1962 (by first | exact rfl | decide | omega | (dsimp only; omega))
                        refine x_iconst C (v := 1) dX12_readsLine_232 (by decide) rfl ?_
                        exact x_zret C hr hlk rfl dX12_readsLine_233 ⟨hW1963, kp1969, (Or.inr rfl), ⟨((pl1271 + 1) + 1), (lm + 1), nu1272, by omega, by omega, by omega, ⟨v1277, v1278, v1279, v1280, v1281, v1282, v1283, n1284, n1285, ⟨by omega, by omega, by omega, by omega, by omega, by omega, by omega⟩, ⟨by omega, by omega⟩, zb1288, k1965⟩⟩⟩
                      · skip
                        have nf1970 := nI_nle' (a := (48 + d1912)) (b := 55) c1921 (by omega) (by omega)
                        refine x_aload_n C dX12_readsLine_164 rfl 2 rfl rfl ?_
                        refine x_iconst C (v := 3) dX12_readsLine_165 (by decide) rfl ?_
                        refine x_aload_n C dX12_readsLine_166 rfl 2 rfl rfl ?_
                        refine x_get C (ci := 11) (k := 5) 0 k1898 rfl in_X12 (by decide) w_1123 rfl dX12_readsLine_167 rfl ?_
                        refine x_vi C (As := [.int 3, .int (nI (pl1271 + 1))]) (rest := []) (m_wrongAt E l a cd hG w1894 hW1896 (3 : Int32) ((nI (pl1271 + 1))) tp (pl1271 + 1) le cm wt sm lm nu1272 ⟨v1277, v1278, v1279, v1280, v1281, v1282, v1283, n1284, n1285, ⟨by omega, by omega, by omega, by omega, by omega, by omega, by omega⟩, ⟨by omega, by omega⟩, zb1288, k1898⟩) mf_X12_wrongAt w_1324 0 k1898 rfl rfl rfl (Nat.le_of_ble_eq_true rfl) ⟨(Nat.le_of_ble_eq_true rfl), (Nat.le_of_ble_eq_true rfl)⟩ ⟨(Nat.le_of_ble_eq_true rfl), (Nat.le_of_ble_eq_true rfl)⟩ dX12_readsLine_170 rfl (fun r1972 w1973 h1971 => ?_)
                        obtain ⟨hW1974, kq1975, e1976, x1977⟩ := h1971
                        refine x_top e1976 ?_
                        have k1978 : w1973[4]? = some (bA E (a 4) 260 tf) := keeps_at kq1975 k1897 (by first | decide | omega | (dsimp only; omega))
                        have k1979 : w1973[19]? = some (iA E (a 19) 24 (upd f1882 (nI lm).toNatClampNeg r1297)) := keeps_at kq1975 k1899 (by first | decide | omega | (dsimp only; omega))
                        have k1980 : w1973[20]? = some (iA E (a 20) 24 (fun j => nI ((updn g1891 lm 0) j))) := keeps_at kq1975 k1902 (by first | decide | omega | (dsimp only; omega))
                        have kp1981 := keeps_tr kp1901 kq1975 (fun q hq => by first | omega | (dsimp only at *; omega))
                        obtain ⟨v1982, v1983, v1984, v1985, v1986, v1987, v1988, n1989, n1990, bo1991, bo1992, zb1993, k1994⟩ := x1977
                        exact x_zret C hr hlk rfl dX12_readsLine_173 ⟨hW1974, kp1981, (Or.inl rfl), ⟨((pl1271 + 1)), lm, nu1272, by omega, by omega, by omega, ⟨v1982, v1983, v1984, v1985, v1986, v1987, v1988, n1989, n1990, ⟨by omega, by omega, by omega, by omega, by omega, by omega, by omega⟩, ⟨by omega, by omega⟩, zb1993, k1994⟩⟩⟩
                    · skip
                      refine x_aload_n C dX12_readsLine_145 rfl 2 rfl rfl ?_
                      refine x_iconst C (v := 1) dX12_readsLine_146 (by decide) rfl ?_
                      refine x_aload_n C dX12_readsLine_147 rfl 2 rfl rfl ?_
                      refine x_get C (ci := 11) (k := 5) 0 k1898 rfl in_X12 (by decide) w_1123 rfl dX12_readsLine_148 rfl ?_
                      refine x_vi C (As := [.int 1, .int (nI (pl1271 + 1))]) (rest := []) (m_wrongAt E l a cd hG w1894 hW1896 (1 : Int32) ((nI (pl1271 + 1))) tp (pl1271 + 1) le cm wt sm lm nu1272 ⟨v1277, v1278, v1279, v1280, v1281, v1282, v1283, n1284, n1285, ⟨by omega, by omega, by omega, by omega, by omega, by omega, by omega⟩, ⟨by omega, by omega⟩, zb1288, k1898⟩) mf_X12_wrongAt w_1324 0 k1898 rfl rfl rfl (Nat.le_of_ble_eq_true rfl) ⟨(Nat.le_of_ble_eq_true rfl), (Nat.le_of_ble_eq_true rfl)⟩ ⟨(Nat.le_of_ble_eq_true rfl), (Nat.le_of_ble_eq_true rfl)⟩ dX12_readsLine_151 rfl (fun r1996 w1997 h1995 => ?_)
                      obtain ⟨hW1998, kq1999, e2000, x2001⟩ := h1995
                      refine x_top e2000 ?_
                      have k2002 : w1997[4]? = some (bA E (a 4) 260 tf) := keeps_at kq1999 k1897 (by first | decide | omega | (dsimp only; omega))
                      have k2003 : w1997[19]? = some (iA E (a 19) 24 (upd f1882 (nI lm).toNatClampNeg r1297)) := keeps_at kq1999 k1899 (by first | decide | omega | (dsimp only; omega))
                      have k2004 : w1997[20]? = some (iA E (a 20) 24 (fun j => nI ((updn g1891 lm 0) j))) := keeps_at kq1999 k1902 (by first | decide | omega | (dsimp only; omega))
                      have kp2005 := keeps_tr kp1901 kq1999 (fun q hq => by first | omega | (dsimp only at *; omega))
                      obtain ⟨v2006, v2007, v2008, v2009, v2010, v2011, v2012, n2013, n2014, bo2015, bo2016, zb2017, k2018⟩ := x2001
                      exact x_zret C hr hlk rfl dX12_readsLine_154 ⟨hW1998, kp2005, (Or.inl rfl), ⟨((pl1271 + 1)), lm, nu1272, by omega, by omega, by omega, ⟨v2006, v2007, v2008, v2009, v2010, v2011, v2012, n2013, n2014, ⟨by omega, by omega, by omega, by omega, by omega, by omega, by omega⟩, ⟨by omega, by omega⟩, zb2017, k2018⟩⟩⟩
                  · skip
                    refine x_iload_n C dX12_readsLine_132 rfl 0 rfl rfl ?_
                    refine x_bipush C (v := 33) dX12_readsLine_133 (by decide) rfl ?_
                    refine x_icmp_ne C (tgt := 200) dX12_readsLine_135 (by decide) rfl (fun c2019 => ?_) (fun c2019 => ?_)
                    · skip
                      refine x_aload_n C dX12_readsLine_200 rfl 2 rfl rfl ?_
                      refine x_get C (ci := 11) (k := 28) 0 k1898 rfl in_X12 (by decide) w_1146 rfl dX12_readsLine_201 rfl ?_
                      refine x_aload_n C dX12_readsLine_204 rfl 2 rfl rfl ?_
                      refine x_get C (ci := 11) (k := 27) 0 k1898 rfl in_X12 (by decide) w_1145 rfl dX12_readsLine_205 rfl ?_
                      refine x_iconst C (v := 1) dX12_readsLine_208 (by decide) rfl ?_
                      refine x_iadd C (v := (nI (lm + 1))) dX12_readsLine_209 (nI_add lm 1) rfl ?_
                      refine x_aload_n C dX12_readsLine_210 rfl 2 rfl rfl ?_
                      refine x_get C (ci := 11) (k := 28) 0 k1898 rfl in_X12 (by decide) w_1146 rfl dX12_readsLine_211 rfl ?_
                      refine x_aload_n C dX12_readsLine_214 rfl 2 rfl rfl ?_
                      refine x_get C (ci := 11) (k := 27) 0 k1898 rfl in_X12 (by decide) w_1145 rfl dX12_readsLine_215 rfl ?_
                      obtain ⟨_, k2020, g2021, gb2022, rfl⟩ := hW1896 18 _ rfl
                      refine x_ialk C (v := nI (g2021 lm)) lm (nI_clamp (by omega)) (nI_pos (by omega)) (by omega) 18 k2020 rfl dX12_readsLine_218 rfl ?_
                      have bx2023 := gb2022 lm
                      refine x_iload_n C dX12_readsLine_219 rfl 1 rfl rfl ?_
                      refine x_iadd C (v := (nI ((g2021 lm) + mm1291))) dX12_readsLine_220 (nI_add (g2021 lm) mm1291) rfl ?_
                      have gb2024 := updn_leF (i := (lm + 1)) (v := ((g2021 lm) + mm1291)) gb2022 (by omega)
                      obtain ⟨w2025, hw2026⟩ : ∃ w : va_W, w = List.set w1894 18 (iA E (a 18) 25 (upd (fun j => nI (g2021 j)) (lm + 1) (nI ((g2021 lm) + mm1291)))) := ⟨_, rfl⟩
                      refine x_iask C (lm + 1) (nI_clamp (by omega)) (nI_pos (by omega)) (by omega) 18 k2020 hw2026.symm dX12_readsLine_221 rfl ?_
                      have hW2027 : WX (okM E a cd) w2025 := by rw [hw2026]; exact hW1896.set (k := 18) rfl ⟨_, gb2024, iA_n (upd_nI g2021 (lm + 1) ((g2021 lm) + mm1291))⟩
                      have k2028 : w2025[4]? = some (bA E (a 4) 260 tf) := by rw [hw2026]; exact set_ne k1897 (by decide)
                      have k2029 : w2025[0]? = some (ob (a 0) 11 [.ref (a 1), .ref (a 2), .ref (a 3), .ref (a 4), .int (nI tp), .int (nI (pl1271 + 1)), .int (nI le), .int v1277, .int nu1272, .int v1278, .int (nI cm), .int (nI wt), .int (nI sm), .int (nI (cd.2.2.2.2.2)), .ref (a 5), .ref (a 6), .ref (a 7), .ref (a 8), .ref (a 9), .ref (a 10), .ref (a 11), .ref (a 12), .ref (a 13), .ref (a 14), .ref (a 15), .ref (a 16), .ref (a 17), .int (nI lm), .ref (a 18), .ref (a 19), .ref (a 20), .ref (a 21), .int v1279, .int v1280, .int v1281, .int v1282, .int (nI n1284), .int (nI n1285), .ref (a 22), .ref (a 23), .ref (a 24), .ref (a 25), .ref (a 26), .ref (a 27), .ref (a 28), .ref (a 29), .ref (a 30), .int v1283]) := by rw [hw2026]; exact set_ne k1898 (by decide)
                      have k2030 : w2025[19]? = some (iA E (a 19) 24 (upd f1882 (nI lm).toNatClampNeg r1297)) := by rw [hw2026]; exact set_ne k1899 (by decide)
                      have k2031 : w2025[20]? = some (iA E (a 20) 24 (fun j => nI ((updn g1891 lm 0) j))) := by rw [hw2026]; exact set_ne k1902 (by decide)
                      have k2032 : w2025[18]? = some (iA E (a 18) 25 (upd (fun j => nI (g2021 j)) (lm + 1) (nI ((g2021 lm) + mm1291)))) := by rw [hw2026]; exact set_eq k2020
                      have kp2033 := keeps_set kp1901 hw2026 (by first | exact rfl | decide | omega | (dsimp only; omega))
                      have k2034 : w2025[18]? = some (iA E (a 18) 25 (fun j => nI ((updn g2021 (lm + 1) ((g2021 lm) + mm1291)) j))) := by rw [← upd_nI]; exact k2032
                      refine x_aload_n C dX12_readsLine_222 rfl 2 rfl rfl ?_
                      refine x_aload_n C dX12_readsLine_223 rfl 2 rfl rfl ?_
                      refine x_get C (ci := 11) (k := 27) 0 k2029 rfl in_X12 (by decide) w_1145 rfl dX12_readsLine_224 rfl ?_
                      refine x_iconst C (v := 1) dX12_readsLine_227 (by decide) rfl ?_
                      refine x_iadd C (v := (nI (lm + 1))) dX12_readsLine_228 (nI_add lm 1) rfl ?_
                      obtain ⟨w2035, hw2036⟩ : ∃ w : va_W, w = List.set w2025 0 (ob (a 0) 11 [.ref (a 1), .ref (a 2), .ref (a 3), .ref (a 4), .int (nI tp), .int (nI (pl1271 + 1)), .int (nI le), .int v1277, .int nu1272, .int v1278, .int (nI cm), .int (nI wt), .int (nI sm), .int (nI (cd.2.2.2.2.2)), .ref (a 5), .ref (a 6), .ref (a 7), .ref (a 8), .ref (a 9), .ref (a 10), .ref (a 11), .ref (a 12), .ref (a 13), .ref (a 14), .ref (a 15), .ref (a 16), .ref (a 17), .int (nI (lm + 1)), .ref (a 18), .ref (a 19), .ref (a 20), .ref (a 21), .int v1279, .int v1280, .int v1281, .int v1282, .int (nI n1284), .int (nI n1285), .ref (a 22), .ref (a 23), .ref (a 24), .ref (a 25), .ref (a 26), .ref (a 27), .ref (a 28), .ref (a 29), .ref (a 30), .int v1283]) := ⟨_, rfl⟩
                      refine x_put C (ci := 11) (k := 27) (ty := .int) 0 k2029 rfl in_X12 tyX12 tyX12_ok nmX12 (by decide) w_1145 rfl rfl rfl rfl (Nat.le_of_ble_eq_true rfl) hw2036.symm dX12_readsLine_229 rfl ?_
                      have hW2037 : WX (okM E a cd) w2035 := by rw [hw2036]; exact hW2027.set (k := 0) rfl ⟨tp, (pl1271 + 1), le, v1277, nu1272, v1278, cm, wt, sm, (lm + 1), v1279, v1280, v1281, v1282, n1284, n1285, v1283, by omega, by omega, by omega, by omega, by omega, by omega, by omega, by omega, by omega, zb1288, rfl⟩
                      have k2038 : w2035[4]? = some (bA E (a 4) 260 tf) := by rw [hw2036]; exact set_ne k2028 (by decide)
                      have k2039 : w2035[0]? = some (ob (a 0) 11 [.ref (a 1), .ref (a 2), .ref (a 3), .ref (a 4), .int (nI tp), .int (nI (pl1271 + 1)), .int (nI le), .int v1277, .int nu1272, .int v1278, .int (nI cm), .int (nI wt), .int (nI sm), .int (nI (cd.2.2.2.2.2)), .ref (a 5), .ref (a 6), .ref (a 7), .ref (a 8), .ref (a 9), .ref (a 10), .ref (a 11), .ref (a 12), .ref (a 13), .ref (a 14), .ref (a 15), .ref (a 16), .ref (a 17), .int (nI (lm + 1)), .ref (a 18), .ref (a 19), .ref (a 20), .ref (a 21), .int v1279, .int v1280, .int v1281, .int v1282, .int (nI n1284), .int (nI n1285), .ref (a 22), .ref (a 23), .ref (a 24), .ref (a 25), .ref (a 26), .ref (a 27), .ref (a 28), .ref (a 29), .ref (a 30), .int v1283]) := by rw [hw2036]; exact set_eq k2029
                      have k2040 : w2035[19]? = some (iA E (a 19) 24 (upd f1882 (nI lm).toNatClampNeg r1297)) := by rw [hw2036]; exact set_ne k2030 (by decide)
                      have k2041 : w2035[20]? = some (iA E (a 20) 24 (fun j => nI ((updn g1891 lm 0) j))) := by rw [hw2036]; exact set_ne k2031 (by decide)
                      have k2042 : w2035[18]? = some (iA E (a 18) 25 (fun j => nI ((updn g2021 (lm + 1) ((g2021 lm) + mm1291)) j))) := by rw [hw2036]; exact set_ne k2034 (by decide)
                      have kp2043 := keeps_set kp2033 hw2036 (by first | exact rfl | decide | omega | (dsimp only; omega))
                      refine x_iconst C (v := 1) dX12_readsLine_232 (by decide) rfl ?_
                      exact x_zret C hr hlk rfl dX12_readsLine_233 ⟨hW2037, kp2043, (Or.inr rfl), ⟨(pl1271 + 1), (lm + 1), nu1272, by omega, by omega, by omega, ⟨v1277, v1278, v1279, v1280, v1281, v1282, v1283, n1284, n1285, ⟨by omega, by omega, by omega, by omega, by omega, by omega, by omega⟩, ⟨by omega, by omega⟩, zb1288, k2039⟩⟩⟩
                    · skip
                      have hp2044 := hv_lt (x1300.symm.trans c2019) (by decide)
                      refine x_aload_n C dX12_readsLine_138 rfl 2 rfl rfl ?_
                      refine x_vi C (As := []) (rest := []) (m_isDigit E l a cd hG w1894 hW1896 tp (pl1271 + 1) le cm wt sm lm nu1272 ⟨v1277, v1278, v1279, v1280, v1281, v1282, v1283, n1284, n1285, ⟨by omega, by omega, by omega, by omega, by omega, by omega, by omega⟩, ⟨by omega, by omega⟩, zb1288, k1898⟩ tf k1897) mf_X12_isDigit w_1341 0 k1898 rfl rfl rfl (Nat.le_of_ble_eq_true rfl) ⟨(Nat.le_of_ble_eq_true rfl), (Nat.le_of_ble_eq_true rfl)⟩ ⟨(Nat.le_of_ble_eq_true rfl), (Nat.le_of_ble_eq_true rfl)⟩ dX12_readsLine_139 rfl (fun r2046 w2047 h2045 => ?_)
                      obtain ⟨hW2048, zb2049, x2050⟩ := h2045
                      refine x_ws hW2048 ?_
                      refine x_if_ne C (tgt := 155) dX12_readsLine_142 (by decide) rfl (fun c2051 => ?_) (fun c2051 => ?_)
                      · skip
                        obtain ⟨d2052, hd2053, ed2054, hp2055⟩ := x2050 c2051
                        refine x_aload_n C dX12_readsLine_155 rfl 2 rfl rfl ?_
                        refine x_vi C (As := []) (rest := []) (m_here E l a cd hG w1894 hW1896 tp (pl1271 + 1) le cm wt sm lm nu1272 ⟨v1277, v1278, v1279, v1280, v1281, v1282, v1283, n1284, n1285, ⟨by omega, by omega, by omega, by omega, by omega, by omega, by omega⟩, ⟨by omega, by omega⟩, zb1288, k1898⟩ tf k1897) mf_X12_here w_1317 0 k1898 rfl rfl rfl (Nat.le_of_ble_eq_true rfl) ⟨(Nat.le_of_ble_eq_true rfl), (Nat.le_of_ble_eq_true rfl)⟩ ⟨(Nat.le_of_ble_eq_true rfl), (Nat.le_of_ble_eq_true rfl)⟩ dX12_readsLine_156 rfl (fun r2057 w2058 h2056 => ?_)
                        obtain ⟨hW2059, x2060⟩ := h2056
                        refine x_ws hW2059 ?_
                        refine x_top (x2060.trans ed2054) ?_
                        refine x_bipush C (v := 55) dX12_readsLine_159 (by decide) rfl ?_
                        refine x_icmp_le C (tgt := 174) dX12_readsLine_161 (by decide) rfl (fun c2061 => ?_) (fun c2061 => ?_)
                        · skip
                          have nf2062 := nI_le' (a := (48 + d2052)) (b := 55) c2061 (by omega) (by omega)
                          refine x_aload_n C dX12_readsLine_174 rfl 2 rfl rfl ?_
                          refine x_get C (ci := 11) (k := 30) 0 k1898 rfl in_X12 (by decide) w_1148 rfl dX12_readsLine_175 rfl ?_
                          refine x_aload_n C dX12_readsLine_178 rfl 2 rfl rfl ?_
                          refine x_get C (ci := 11) (k := 27) 0 k1898 rfl in_X12 (by decide) w_1145 rfl dX12_readsLine_179 rfl ?_
                          refine x_aload_n C dX12_readsLine_182 rfl 2 rfl rfl ?_
                          refine x_vi C (As := []) (rest := [.int (nI lm), .ref (a 20)]) (m_here E l a cd hG w1894 hW1896 tp (pl1271 + 1) le cm wt sm lm nu1272 ⟨v1277, v1278, v1279, v1280, v1281, v1282, v1283, n1284, n1285, ⟨by omega, by omega, by omega, by omega, by omega, by omega, by omega⟩, ⟨by omega, by omega⟩, zb1288, k1898⟩ tf k1897) mf_X12_here w_1317 0 k1898 rfl rfl rfl (Nat.le_of_ble_eq_true rfl) ⟨(Nat.le_of_ble_eq_true rfl), (Nat.le_of_ble_eq_true rfl)⟩ ⟨(Nat.le_of_ble_eq_true rfl), (Nat.le_of_ble_eq_true rfl)⟩ dX12_readsLine_183 rfl (fun r2064 w2065 h2063 => ?_)
                          obtain ⟨hW2066, x2067⟩ := h2063
                          refine x_ws hW2066 ?_
                          refine x_top (x2067.trans ed2054) ?_
                          refine x_bipush C (v := 48) dX12_readsLine_186 (by decide) rfl ?_
                          refine x_isub C (v := (nI ((48 + d2052) - 48))) dX12_readsLine_188 (pk_sub (a := (48 + d2052)) (b := 48) (by omega)) rfl ?_
                          have gb2068 := updn_le (i := lm) (v := ((48 + d2052) - 48)) gb1893 (by omega)
                          obtain ⟨w2069, hw2070⟩ : ∃ w : va_W, w = List.set w1894 20 (iA E (a 20) 24 (upd (fun j => nI ((updn g1891 lm 0) j)) lm (nI ((48 + d2052) - 48)))) := ⟨_, rfl⟩
                          refine x_iask C lm (nI_clamp (by omega)) (nI_pos (by omega)) (by omega) 20 k1902 hw2070.symm dX12_readsLine_189 rfl ?_
                          have hW2071 : WX (okM E a cd) w2069 := by rw [hw2070]; exact hW1896.set (k := 20) rfl ⟨_, gb2068, iA_n (upd_nI (updn g1891 lm 0) lm ((48 + d2052) - 48))⟩
                          have k2072 : w2069[4]? = some (bA E (a 4) 260 tf) := by rw [hw2070]; exact set_ne k1897 (by decide)
                          have k2073 : w2069[0]? = some (ob (a 0) 11 [.ref (a 1), .ref (a 2), .ref (a 3), .ref (a 4), .int (nI tp), .int (nI (pl1271 + 1)), .int (nI le), .int v1277, .int nu1272, .int v1278, .int (nI cm), .int (nI wt), .int (nI sm), .int (nI (cd.2.2.2.2.2)), .ref (a 5), .ref (a 6), .ref (a 7), .ref (a 8), .ref (a 9), .ref (a 10), .ref (a 11), .ref (a 12), .ref (a 13), .ref (a 14), .ref (a 15), .ref (a 16), .ref (a 17), .int (nI lm), .ref (a 18), .ref (a 19), .ref (a 20), .ref (a 21), .int v1279, .int v1280, .int v1281, .int v1282, .int (nI n1284), .int (nI n1285), .ref (a 22), .ref (a 23), .ref (a 24), .ref (a 25), .ref (a 26), .ref (a 27), .ref (a 28), .ref (a 29), .ref (a 30), .int v1283]) := by rw [hw2070]; exact set_ne k1898 (by decide)
                          have k2074 : w2069[19]? = some (iA E (a 19) 24 (upd f1882 (nI lm).toNatClampNeg r1297)) := by rw [hw2070]; exact set_ne k1899 (by decide)
                          have k2075 : w2069[20]? = some (iA E (a 20) 24 (upd (fun j => nI ((updn g1891 lm 0) j)) lm (nI ((48 + d2052) - 48)))) := by rw [hw2070]; exact set_eq k1902
                          have kp2076 := keeps_set kp1901 hw2070 (by first | exact rfl | decide | omega | (dsimp only; omega))
                          have k2077 : w2069[20]? = some (iA E (a 20) 24 (fun j => nI ((updn (updn g1891 lm 0) lm ((48 + d2052) - 48)) j))) := by rw [← upd_nI]; exact k2075
                          refine x_aload_n C dX12_readsLine_190 rfl 2 rfl rfl ?_
                          refine x_aload_n C dX12_readsLine_191 rfl 2 rfl rfl ?_
                          refine x_get C (ci := 11) (k := 5) 0 k2073 rfl in_X12 (by decide) w_1123 rfl dX12_readsLine_192 rfl ?_
                          refine x_iconst C (v := 1) dX12_readsLine_195 (by decide) rfl ?_
                          refine x_iadd C (v := (nI ((pl1271 + 1) + 1))) dX12_readsLine_196 (nI_add (pl1271 + 1) 1) rfl ?_
                          obtain ⟨w2078, hw2079⟩ : ∃ w : va_W, w = List.set w2069 0 (ob (a 0) 11 [.ref (a 1), .ref (a 2), .ref (a 3), .ref (a 4), .int (nI tp), .int (nI ((pl1271 + 1) + 1)), .int (nI le), .int v1277, .int nu1272, .int v1278, .int (nI cm), .int (nI wt), .int (nI sm), .int (nI (cd.2.2.2.2.2)), .ref (a 5), .ref (a 6), .ref (a 7), .ref (a 8), .ref (a 9), .ref (a 10), .ref (a 11), .ref (a 12), .ref (a 13), .ref (a 14), .ref (a 15), .ref (a 16), .ref (a 17), .int (nI lm), .ref (a 18), .ref (a 19), .ref (a 20), .ref (a 21), .int v1279, .int v1280, .int v1281, .int v1282, .int (nI n1284), .int (nI n1285), .ref (a 22), .ref (a 23), .ref (a 24), .ref (a 25), .ref (a 26), .ref (a 27), .ref (a 28), .ref (a 29), .ref (a 30), .int v1283]) := ⟨_, rfl⟩
                          refine x_put C (ci := 11) (k := 5) (ty := .int) 0 k2073 rfl in_X12 tyX12 tyX12_ok nmX12 (by decide) w_1123 rfl rfl rfl rfl (Nat.le_of_ble_eq_true rfl) hw2079.symm dX12_readsLine_197 rfl ?_
                          have hW2080 : WX (okM E a cd) w2078 := by rw [hw2079]; exact hW2071.set (k := 0) rfl ⟨tp, ((pl1271 + 1) + 1), le, v1277, nu1272, v1278, cm, wt, sm, lm, v1279, v1280, v1281, v1282, n1284, n1285, v1283, by omega, by omega, by omega, by omega, by omega, by omega, by omega, by omega, by omega, zb1288, rfl⟩
                          have k2081 : w2078[4]? = some (bA E (a 4) 260 tf) := by rw [hw2079]; exact set_ne k2072 (by decide)
                          have k2082 : w2078[0]? = some (ob (a 0) 11 [.ref (a 1), .ref (a 2), .ref (a 3), .ref (a 4), .int (nI tp), .int (nI ((pl1271 + 1) + 1)), .int (nI le), .int v1277, .int nu1272, .int v1278, .int (nI cm), .int (nI wt), .int (nI sm), .int (nI (cd.2.2.2.2.2)), .ref (a 5), .ref (a 6), .ref (a 7), .ref (a 8), .ref (a 9), .ref (a 10), .ref (a 11), .ref (a 12), .ref (a 13), .ref (a 14), .ref (a 15), .ref (a 16), .ref (a 17), .int (nI lm), .ref (a 18), .ref (a 19), .ref (a 20), .ref (a 21), .int v1279, .int v1280, .int v1281, .int v1282, .int (nI n1284), .int (nI n1285), .ref (a 22), .ref (a 23), .ref (a 24), .ref (a 25), .ref (a 26), .ref (a 27), .ref (a 28), .ref (a 29), .ref (a 30), .int v1283]) := by rw [hw2079]; exact set_eq k2073
                          have k2083 : w2078[19]? = some (iA E (a 19) 24 (upd f1882 (nI lm).toNatClampNeg r1297)) := by rw [hw2079]; exact set_ne k2074 (by decide)
                          have k2084 : w2078[20]? = some (iA E (a 20) 24 (fun j => nI ((updn (updn g1891 lm 0) lm ((48 + d2052) - 48)) j))) := by rw [hw2079]; exact set_ne k2077 (by decide)
                          have kp2085 := keeps_set kp2076 hw2079 (by first | exact rfl | decide | omega | (dsimp only; omega))
                          refine x_aload_n C dX12_readsLine_200 rfl 2 rfl rfl ?_
                          refine x_get C (ci := 11) (k := 28) 0 k2082 rfl in_X12 (by decide) w_1146 rfl dX12_readsLine_201 rfl ?_
                          refine x_aload_n C dX12_readsLine_204 rfl 2 rfl rfl ?_
                          refine x_get C (ci := 11) (k := 27) 0 k2082 rfl in_X12 (by decide) w_1145 rfl dX12_readsLine_205 rfl ?_
                          refine x_iconst C (v := 1) dX12_readsLine_208 (by decide) rfl ?_
                          refine x_iadd C (v := (nI (lm + 1))) dX12_readsLine_209 (nI_add lm 1) rfl ?_
                          refine x_aload_n C dX12_readsLine_210 rfl 2 rfl rfl ?_
                          refine x_get C (ci := 11) (k := 28) 0 k2082 rfl in_X12 (by decide) w_1146 rfl dX12_readsLine_211 rfl ?_
                          refine x_aload_n C dX12_readsLine_214 rfl 2 rfl rfl ?_
                          refine x_get C (ci := 11) (k := 27) 0 k2082 rfl in_X12 (by decide) w_1145 rfl dX12_readsLine_215 rfl ?_
                          obtain ⟨_, k2086, g2087, gb2088, rfl⟩ := hW2080 18 _ rfl
                          refine x_ialk C (v := nI (g2087 lm)) lm (nI_clamp (by omega)) (nI_pos (by omega)) (by omega) 18 k2086 rfl dX12_readsLine_218 rfl ?_
                          have bx2089 := gb2088 lm
                          refine x_iload_n C dX12_readsLine_219 rfl 1 rfl rfl ?_
                          refine x_iadd C (v := (nI ((g2087 lm) + mm1291))) dX12_readsLine_220 (nI_add (g2087 lm) mm1291) rfl ?_
                          have gb2090 := updn_leF (i := (lm + 1)) (v := ((g2087 lm) + mm1291)) gb2088 (by omega)
                          obtain ⟨w2091, hw2092⟩ : ∃ w : va_W, w = List.set w2078 18 (iA E (a 18) 25 (upd (fun j => nI (g2087 j)) (lm + 1) (nI ((g2087 lm) + mm1291)))) := ⟨_, rfl⟩
                          refine x_iask C (lm + 1) (nI_clamp (by omega)) (nI_pos (by omega)) (by omega) 18 k2086 hw2092.symm dX12_readsLine_221 rfl ?_
                          have hW2093 : WX (okM E a cd) w2091 := by rw [hw2092]; exact hW2080.set (k := 18) rfl ⟨_, gb2090, iA_n (upd_nI g2087 (lm + 1) ((g2087 lm) + mm1291))⟩
                          have k2094 : w2091[4]? = some (bA E (a 4) 260 tf) := by rw [hw2092]; exact set_ne k2081 (by decide)
                          have k2095 : w2091[0]? = some (ob (a 0) 11 [.ref (a 1), .ref (a 2), .ref (a 3), .ref (a 4), .int (nI tp), .int (nI ((pl1271 + 1) + 1)), .int (nI le), .int v1277, .int nu1272, .int v1278, .int (nI cm), .int (nI wt), .int (nI sm), .int (nI (cd.2.2.2.2.2)), .ref (a 5), .ref (a 6), .ref (a 7), .ref (a 8), .ref (a 9), .ref (a 10), .ref (a 11), .ref (a 12), .ref (a 13), .ref (a 14), .ref (a 15), .ref (a 16), .ref (a 17), .int (nI lm), .ref (a 18), .ref (a 19), .ref (a 20), .ref (a 21), .int v1279, .int v1280, .int v1281, .int v1282, .int (nI n1284), .int (nI n1285), .ref (a 22), .ref (a 23), .ref (a 24), .ref (a 25), .ref (a 26), .ref (a 27), .ref (a 28), .ref (a 29), .ref (a 30), .int v1283]) := by rw [hw2092]; exact set_ne k2082 (by decide)
                          have k2096 : w2091[19]? = some (iA E (a 19) 24 (upd f1882 (nI lm).toNatClampNeg r1297)) := by rw [hw2092]; exact set_ne k2083 (by decide)
                          have k2097 : w2091[20]? = some (iA E (a 20) 24 (fun j => nI ((updn (updn g1891 lm 0) lm ((48 + d2052) - 48)) j))) := by rw [hw2092]; exact set_ne k2084 (by decide)
                          have k2098 : w2091[18]? = some (iA E (a 18) 25 (upd (fun j => nI (g2087 j)) (lm + 1) (nI ((g2087 lm) + mm1291)))) := by rw [hw2092]; exact set_eq k2086
                          have kp2099 := keeps_set kp2085 hw2092 (by first | exact rfl | decide | omega | (dsimp only; omega))
                          have k2100 : w2091[18]? = some (iA E (a 18) 25 (fun j => nI ((updn g2087 (lm + 1) ((g2087 lm) + mm1291)) j))) := by rw [← upd_nI]; exact k2098
                          refine x_aload_n C dX12_readsLine_222 rfl 2 rfl rfl ?_
                          refine x_aload_n C dX12_readsLine_223 rfl 2 rfl rfl ?_
                          refine x_get C (ci := 11) (k := 27) 0 k2095 rfl in_X12 (by decide) w_1145 rfl dX12_readsLine_224 rfl ?_
                          refine x_iconst C (v := 1) dX12_readsLine_227 (by decide) rfl ?_
                          refine x_iadd C (v := (nI (lm + 1))) dX12_readsLine_228 (nI_add lm 1) rfl ?_
                          obtain ⟨w2101, hw2102⟩ : ∃ w : va_W, w = List.set w2091 0 (ob (a 0) 11 [.ref (a 1), .ref (a 2), .ref (a 3), .ref (a 4), .int (nI tp), .int (nI ((pl1271 + 1) + 1)), .int (nI le), .int v1277, .int nu1272, .int v1278, .int (nI cm), .int (nI wt), .int (nI sm), .int (nI (cd.2.2.2.2.2)), .ref (a 5), .ref (a 6), .ref (a 7), .ref (a 8), .ref (a 9), .ref (a 10), .ref (a 11), .ref (a 12), .ref (a 13), .ref (a 14), .ref (a 15), .ref (a 16), .ref (a 17), .int (nI (lm + 1)), .ref (a 18), .ref (a 19), .ref (a 20), .ref (a 21), .int v1279, .int v1280, .int v1281, .int v1282, .int (nI n1284), .int (nI n1285), .ref (a 22), .ref (a 23), .ref (a 24), .ref (a 25), .ref (a 26), .ref (a 27), .ref (a 28), .ref (a 29), .ref (a 30), .int v1283]) := ⟨_, rfl⟩
                          refine x_put C (ci := 11) (k := 27) (ty := .int) 0 k2095 rfl in_X12 tyX12 tyX12_ok nmX12 (by decide) w_1145 rfl rfl rfl rfl (Nat.le_of_ble_eq_true rfl) hw2102.symm dX12_readsLine_229 rfl ?_
                          have hW2103 : WX (okM E a cd) w2101 := by rw [hw2102]; exact hW2093.set (k := 0) rfl ⟨tp, ((pl1271 + 1) + 1), le, v1277, nu1272, v1278, cm, wt, sm, (lm + 1), v1279, v1280, v1281, v1282, n1284, n1285, v1283, by omega, by omega, by omega, by omega, by omega, by omega, by omega, by omega, by omega, zb1288, rfl⟩
                          have k2104 : w2101[4]? = some (bA E (a 4) 260 tf) := by rw [hw2102]; exact set_ne k2094 (by decide)
                          have k2105 : w2101[0]? = some (ob (a 0) 11 [.ref (a 1), .ref (a 2), .ref (a 3), .ref (a 4), .int (nI tp), .int (nI ((pl1271 + 1) + 1)), .int (nI le), .int v1277, .int nu1272, .int v1278, .int (nI cm), .int (nI wt), .int (nI sm), .int (nI (cd.2.2.2.2.2)), .ref (a 5), .ref (a 6), .ref (a 7), .ref (a 8), .ref (a 9), .ref (a 10), .ref (a 11), .ref (a 12), .ref (a 13), .ref (a 14), .ref (a 15), .ref (a 16), .ref (a 17), .int (nI (lm + 1)), .ref (a 18), .ref (a 19), .ref (a 20), .ref (a 21), .int v1279, .int v1280, .int v1281, .int v1282, .int (nI n1284), .int (nI n1285), .ref (a 22), .ref (a 23), .ref (a 24), .ref (a 25), .ref (a 26), .ref (a 27), .ref (a 28), .ref (a 29), .ref (a 30), .int v1283]) := by rw [hw2102]; exact set_eq k2095
                          have k2106 : w2101[19]? = some (iA E (a 19) 24 (upd f1882 (nI lm).toNatClampNeg r1297)) := by rw [hw2102]; exact set_ne k2096 (by decide)
                          have k2107 : w2101[20]? = some (iA E (a 20) 24 (fun j => nI ((updn (updn g1891 lm 0) lm ((48 + d2052) - 48)) j))) := by rw [hw2102]; exact set_ne k2097 (by decide)
                          have k2108 : w2101[18]? = some (iA E (a 18) 25 (fun j => nI ((updn g2087 (lm + 1) ((g2087 lm) + mm1291)) j))) := by rw [hw2102]; exact set_ne k2100 (by decide)
                          have kp2109 := keeps_set kp2099 hw2102 (by first | exact rfl | decide | omega | (dsimp only; omega))
                          refine x_iconst C (v := 1) dX12_readsLine_232 (by decide) rfl ?_
                          exact x_zret C hr hlk rfl dX12_readsLine_233 ⟨hW2103, kp2109, (Or.inr rfl), ⟨((pl1271 + 1) + 1), (lm + 1), nu1272, by omega, by omega, by omega, ⟨v1277, v1278, v1279, v1280, v1281, v1282, v1283, n1284, n1285, ⟨by omega, by omega, by omega, by omega, by omega, by omega, by omega⟩, ⟨by omega, by omega⟩, zb1288, k2105⟩⟩⟩
                        · skip
                          have nf2110 := nI_nle' (a := (48 + d2052)) (b := 55) c2061 (by omega) (by omega)
                          refine x_aload_n C dX12_readsLine_164 rfl 2 rfl rfl ?_
                          refine x_iconst C (v := 3) dX12_readsLine_165 (by decide) rfl ?_
                          refine x_aload_n C dX12_readsLine_166 rfl 2 rfl rfl ?_
                          refine x_get C (ci := 11) (k := 5) 0 k1898 rfl in_X12 (by decide) w_1123 rfl dX12_readsLine_167 rfl ?_
                          refine x_vi C (As := [.int 3, .int (nI (pl1271 + 1))]) (rest := []) (m_wrongAt E l a cd hG w1894 hW1896 (3 : Int32) ((nI (pl1271 + 1))) tp (pl1271 + 1) le cm wt sm lm nu1272 ⟨v1277, v1278, v1279, v1280, v1281, v1282, v1283, n1284, n1285, ⟨by omega, by omega, by omega, by omega, by omega, by omega, by omega⟩, ⟨by omega, by omega⟩, zb1288, k1898⟩) mf_X12_wrongAt w_1324 0 k1898 rfl rfl rfl (Nat.le_of_ble_eq_true rfl) ⟨(Nat.le_of_ble_eq_true rfl), (Nat.le_of_ble_eq_true rfl)⟩ ⟨(Nat.le_of_ble_eq_true rfl), (Nat.le_of_ble_eq_true rfl)⟩ dX12_readsLine_170 rfl (fun r2112 w2113 h2111 => ?_)
                          obtain ⟨hW2114, kq2115, e2116, x2117⟩ := h2111
                          refine x_top e2116 ?_
                          have k2118 : w2113[4]? = some (bA E (a 4) 260 tf) := keeps_at kq2115 k1897 (by first | decide | omega | (dsimp only; omega))
                          have k2119 : w2113[19]? = some (iA E (a 19) 24 (upd f1882 (nI lm).toNatClampNeg r1297)) := keeps_at kq2115 k1899 (by first | decide | omega | (dsimp only; omega))
                          have k2120 : w2113[20]? = some (iA E (a 20) 24 (fun j => nI ((updn g1891 lm 0) j))) := keeps_at kq2115 k1902 (by first | decide | omega | (dsimp only; omega))
                          have kp2121 := keeps_tr kp1901 kq2115 (fun q hq => by first | omega | (dsimp only at *; omega))
                          obtain ⟨v2122, v2123, v2124, v2125, v2126, v2127, v2128, n2129, n2130, bo2131, bo2132, zb2133, k2134⟩ := x2117
                          exact x_zret C hr hlk rfl dX12_readsLine_173 ⟨hW2114, kp2121, (Or.inl rfl), ⟨((pl1271 + 1)), lm, nu1272, by omega, by omega, by omega, ⟨v2122, v2123, v2124, v2125, v2126, v2127, v2128, n2129, n2130, ⟨by omega, by omega, by omega, by omega, by omega, by omega, by omega⟩, ⟨by omega, by omega⟩, zb2133, k2134⟩⟩⟩
                      · skip
                        refine x_aload_n C dX12_readsLine_145 rfl 2 rfl rfl ?_
                        refine x_iconst C (v := 1) dX12_readsLine_146 (by decide) rfl ?_
                        refine x_aload_n C dX12_readsLine_147 rfl 2 rfl rfl ?_
                        refine x_get C (ci := 11) (k := 5) 0 k1898 rfl in_X12 (by decide) w_1123 rfl dX12_readsLine_148 rfl ?_
                        refine x_vi C (As := [.int 1, .int (nI (pl1271 + 1))]) (rest := []) (m_wrongAt E l a cd hG w1894 hW1896 (1 : Int32) ((nI (pl1271 + 1))) tp (pl1271 + 1) le cm wt sm lm nu1272 ⟨v1277, v1278, v1279, v1280, v1281, v1282, v1283, n1284, n1285, ⟨by omega, by omega, by omega, by omega, by omega, by omega, by omega⟩, ⟨by omega, by omega⟩, zb1288, k1898⟩) mf_X12_wrongAt w_1324 0 k1898 rfl rfl rfl (Nat.le_of_ble_eq_true rfl) ⟨(Nat.le_of_ble_eq_true rfl), (Nat.le_of_ble_eq_true rfl)⟩ ⟨(Nat.le_of_ble_eq_true rfl), (Nat.le_of_ble_eq_true rfl)⟩ dX12_readsLine_151 rfl (fun r2136 w2137 h2135 => ?_)
                        obtain ⟨hW2138, kq2139, e2140, x2141⟩ := h2135
                        refine x_top e2140 ?_
                        have k2142 : w2137[4]? = some (bA E (a 4) 260 tf) := keeps_at kq2139 k1897 (by first | decide | omega | (dsimp only; omega))
                        have k2143 : w2137[19]? = some (iA E (a 19) 24 (upd f1882 (nI lm).toNatClampNeg r1297)) := keeps_at kq2139 k1899 (by first | decide | omega | (dsimp only; omega))
                        have k2144 : w2137[20]? = some (iA E (a 20) 24 (fun j => nI ((updn g1891 lm 0) j))) := keeps_at kq2139 k1902 (by first | decide | omega | (dsimp only; omega))
                        have kp2145 := keeps_tr kp1901 kq2139 (fun q hq => by first | omega | (dsimp only at *; omega))
                        obtain ⟨v2146, v2147, v2148, v2149, v2150, v2151, v2152, n2153, n2154, bo2155, bo2156, zb2157, k2158⟩ := x2141
                        exact x_zret C hr hlk rfl dX12_readsLine_154 ⟨hW2138, kp2145, (Or.inl rfl), ⟨((pl1271 + 1)), lm, nu1272, by omega, by omega, by omega, ⟨v2146, v2147, v2148, v2149, v2150, v2151, v2152, n2153, n2154, ⟨by omega, by omega, by omega, by omega, by omega, by omega, by omega⟩, ⟨by omega, by omega⟩, zb2157, k2158⟩⟩⟩
                · skip
                  refine x_iload_n C dX12_readsLine_80 rfl 0 rfl rfl ?_
                  refine x_bipush C (v := 42) dX12_readsLine_81 (by decide) rfl ?_
                  refine x_icmp_eq C (tgt := 96) dX12_readsLine_83 (by decide) rfl (fun c2159 => ?_) (fun c2159 => ?_)
                  · skip
                    have hp2160 := hv_lt (x1300.symm.trans c2159) (by decide)
                    refine x_aload_n C dX12_readsLine_96 rfl 2 rfl rfl ?_
                    refine x_aload_n C dX12_readsLine_97 rfl 2 rfl rfl ?_
                    refine x_get C (ci := 11) (k := 5) 0 k1289 rfl in_X12 (by decide) w_1123 rfl dX12_readsLine_98 rfl ?_
                    refine x_iconst C (v := 1) dX12_readsLine_101 (by decide) rfl ?_
                    refine x_iadd C (v := (nI (pl1271 + 1))) dX12_readsLine_102 (nI_add pl1271 1) rfl ?_
                    obtain ⟨w2161, hw2162⟩ : ∃ w : va_W, w = List.set w1265 0 (ob (a 0) 11 [.ref (a 1), .ref (a 2), .ref (a 3), .ref (a 4), .int (nI tp), .int (nI (pl1271 + 1)), .int (nI le), .int v1277, .int nu1272, .int v1278, .int (nI cm), .int (nI wt), .int (nI sm), .int (nI (cd.2.2.2.2.2)), .ref (a 5), .ref (a 6), .ref (a 7), .ref (a 8), .ref (a 9), .ref (a 10), .ref (a 11), .ref (a 12), .ref (a 13), .ref (a 14), .ref (a 15), .ref (a 16), .ref (a 17), .int (nI lm), .ref (a 18), .ref (a 19), .ref (a 20), .ref (a 21), .int v1279, .int v1280, .int v1281, .int v1282, .int (nI n1284), .int (nI n1285), .ref (a 22), .ref (a 23), .ref (a 24), .ref (a 25), .ref (a 26), .ref (a 27), .ref (a 28), .ref (a 29), .ref (a 30), .int v1283]) := ⟨_, rfl⟩
                    refine x_put C (ci := 11) (k := 5) (ty := .int) 0 k1289 rfl in_X12 tyX12 tyX12_ok nmX12 (by decide) w_1123 rfl rfl rfl rfl (Nat.le_of_ble_eq_true rfl) hw2162.symm dX12_readsLine_103 rfl ?_
                    have hW2163 : WX (okM E a cd) w2161 := by rw [hw2162]; exact hW1266.set (k := 0) rfl ⟨tp, (pl1271 + 1), le, v1277, nu1272, v1278, cm, wt, sm, lm, v1279, v1280, v1281, v1282, n1284, n1285, v1283, by omega, by omega, by omega, by omega, by omega, by omega, by omega, by omega, by omega, zb1288, rfl⟩
                    have k2164 : w2161[4]? = some (bA E (a 4) 260 tf) := by rw [hw2162]; exact set_ne k1269 (by decide)
                    have k2165 : w2161[0]? = some (ob (a 0) 11 [.ref (a 1), .ref (a 2), .ref (a 3), .ref (a 4), .int (nI tp), .int (nI (pl1271 + 1)), .int (nI le), .int v1277, .int nu1272, .int v1278, .int (nI cm), .int (nI wt), .int (nI sm), .int (nI (cd.2.2.2.2.2)), .ref (a 5), .ref (a 6), .ref (a 7), .ref (a 8), .ref (a 9), .ref (a 10), .ref (a 11), .ref (a 12), .ref (a 13), .ref (a 14), .ref (a 15), .ref (a 16), .ref (a 17), .int (nI lm), .ref (a 18), .ref (a 19), .ref (a 20), .ref (a 21), .int v1279, .int v1280, .int v1281, .int v1282, .int (nI n1284), .int (nI n1285), .ref (a 22), .ref (a 23), .ref (a 24), .ref (a 25), .ref (a 26), .ref (a 27), .ref (a 28), .ref (a 29), .ref (a 30), .int v1283]) := by rw [hw2162]; exact set_eq k1289
                    have kp2166 := keeps_set kp1270 hw2162 (by first | exact rfl | decide | omega | (dsimp only; omega))
                    refine x_aload_n C dX12_readsLine_106 rfl 2 rfl rfl ?_
                    refine x_get C (ci := 11) (k := 29) 0 k2165 rfl in_X12 (by decide) w_1147 rfl dX12_readsLine_107 rfl ?_
                    refine x_aload_n C dX12_readsLine_110 rfl 2 rfl rfl ?_
                    refine x_get C (ci := 11) (k := 27) 0 k2165 rfl in_X12 (by decide) w_1145 rfl dX12_readsLine_111 rfl ?_
                    refine x_iload_n C dX12_readsLine_114 rfl 0 rfl rfl ?_
                    obtain ⟨_, k2167, f2168, rfl⟩ := hW2163 19 _ rfl
                    obtain ⟨w2169, hw2170⟩ : ∃ w : va_W, w = List.set w2161 19 (iA E (a 19) 24 (upd f2168 (nI lm).toNatClampNeg r1297)) := ⟨_, rfl⟩
                    refine x_iast C 19 k2167 (vp_in_nI (by omega) (by decide)) hw2170.symm dX12_readsLine_115 rfl ?_
                    have hW2171 : WX (okM E a cd) w2169 := by rw [hw2170]; exact hW2163.set (k := 19) rfl ⟨_, rfl⟩
                    have k2172 : w2169[4]? = some (bA E (a 4) 260 tf) := by rw [hw2170]; exact set_ne k2164 (by decide)
                    have k2173 : w2169[0]? = some (ob (a 0) 11 [.ref (a 1), .ref (a 2), .ref (a 3), .ref (a 4), .int (nI tp), .int (nI (pl1271 + 1)), .int (nI le), .int v1277, .int nu1272, .int v1278, .int (nI cm), .int (nI wt), .int (nI sm), .int (nI (cd.2.2.2.2.2)), .ref (a 5), .ref (a 6), .ref (a 7), .ref (a 8), .ref (a 9), .ref (a 10), .ref (a 11), .ref (a 12), .ref (a 13), .ref (a 14), .ref (a 15), .ref (a 16), .ref (a 17), .int (nI lm), .ref (a 18), .ref (a 19), .ref (a 20), .ref (a 21), .int v1279, .int v1280, .int v1281, .int v1282, .int (nI n1284), .int (nI n1285), .ref (a 22), .ref (a 23), .ref (a 24), .ref (a 25), .ref (a 26), .ref (a 27), .ref (a 28), .ref (a 29), .ref (a 30), .int v1283]) := by rw [hw2170]; exact set_ne k2165 (by decide)
                    have k2174 : w2169[19]? = some (iA E (a 19) 24 (upd f2168 (nI lm).toNatClampNeg r1297)) := by rw [hw2170]; exact set_eq k2167
                    have kp2175 := keeps_set kp2166 hw2170 (by first | exact rfl | decide | omega | (dsimp only; omega))
                    refine x_aload_n C dX12_readsLine_116 rfl 2 rfl rfl ?_
                    refine x_get C (ci := 11) (k := 30) 0 k2173 rfl in_X12 (by decide) w_1148 rfl dX12_readsLine_117 rfl ?_
                    refine x_aload_n C dX12_readsLine_120 rfl 2 rfl rfl ?_
                    refine x_get C (ci := 11) (k := 27) 0 k2173 rfl in_X12 (by decide) w_1145 rfl dX12_readsLine_121 rfl ?_
                    refine x_iconst C (v := 0) dX12_readsLine_124 (by decide) rfl ?_
                    obtain ⟨_, k2176, g2177, gb2178, rfl⟩ := hW2171 20 _ rfl
                    have gb2179 := updn_le (i := lm) (v := 0) gb2178 (by omega)
                    obtain ⟨w2180, hw2181⟩ : ∃ w : va_W, w = List.set w2169 20 (iA E (a 20) 24 (upd (fun j => nI (g2177 j)) lm (nI 0))) := ⟨_, rfl⟩
                    refine x_iask C lm (nI_clamp (by omega)) (nI_pos (by omega)) (by omega) 20 k2176 hw2181.symm dX12_readsLine_125 rfl ?_
                    have hW2182 : WX (okM E a cd) w2180 := by rw [hw2181]; exact hW2171.set (k := 20) rfl ⟨_, gb2179, iA_n (upd_nI g2177 lm 0)⟩
                    have k2183 : w2180[4]? = some (bA E (a 4) 260 tf) := by rw [hw2181]; exact set_ne k2172 (by decide)
                    have k2184 : w2180[0]? = some (ob (a 0) 11 [.ref (a 1), .ref (a 2), .ref (a 3), .ref (a 4), .int (nI tp), .int (nI (pl1271 + 1)), .int (nI le), .int v1277, .int nu1272, .int v1278, .int (nI cm), .int (nI wt), .int (nI sm), .int (nI (cd.2.2.2.2.2)), .ref (a 5), .ref (a 6), .ref (a 7), .ref (a 8), .ref (a 9), .ref (a 10), .ref (a 11), .ref (a 12), .ref (a 13), .ref (a 14), .ref (a 15), .ref (a 16), .ref (a 17), .int (nI lm), .ref (a 18), .ref (a 19), .ref (a 20), .ref (a 21), .int v1279, .int v1280, .int v1281, .int v1282, .int (nI n1284), .int (nI n1285), .ref (a 22), .ref (a 23), .ref (a 24), .ref (a 25), .ref (a 26), .ref (a 27), .ref (a 28), .ref (a 29), .ref (a 30), .int v1283]) := by rw [hw2181]; exact set_ne k2173 (by decide)
                    have k2185 : w2180[19]? = some (iA E (a 19) 24 (upd f2168 (nI lm).toNatClampNeg r1297)) := by rw [hw2181]; exact set_ne k2174 (by decide)
                    have k2186 : w2180[20]? = some (iA E (a 20) 24 (upd (fun j => nI (g2177 j)) lm (nI 0))) := by rw [hw2181]; exact set_eq k2176
                    have kp2187 := keeps_set kp2175 hw2181 (by first | exact rfl | decide | omega | (dsimp only; omega))
                    have k2188 : w2180[20]? = some (iA E (a 20) 24 (fun j => nI ((updn g2177 lm 0) j))) := by rw [← upd_nI]; exact k2186
                    refine x_iload_n C dX12_readsLine_126 rfl 0 rfl rfl ?_
                    refine x_bipush C (v := 62) dX12_readsLine_127 (by decide) rfl ?_
                    refine x_icmp_eq C (tgt := 138) dX12_readsLine_129 (by decide) rfl (fun c2189 => ?_) (fun c2189 => ?_)
                    · skip
                      have hp2190 := hv_lt (x1300.symm.trans c2189) (by decide)
                      refine x_aload_n C dX12_readsLine_138 rfl 2 rfl rfl ?_
                      refine x_vi C (As := []) (rest := []) (m_isDigit E l a cd hG w2180 hW2182 tp (pl1271 + 1) le cm wt sm lm nu1272 ⟨v1277, v1278, v1279, v1280, v1281, v1282, v1283, n1284, n1285, ⟨by omega, by omega, by omega, by omega, by omega, by omega, by omega⟩, ⟨by omega, by omega⟩, zb1288, k2184⟩ tf k2183) mf_X12_isDigit w_1341 0 k2184 rfl rfl rfl (Nat.le_of_ble_eq_true rfl) ⟨(Nat.le_of_ble_eq_true rfl), (Nat.le_of_ble_eq_true rfl)⟩ ⟨(Nat.le_of_ble_eq_true rfl), (Nat.le_of_ble_eq_true rfl)⟩ dX12_readsLine_139 rfl (fun r2192 w2193 h2191 => ?_)
                      obtain ⟨hW2194, zb2195, x2196⟩ := h2191
                      refine x_ws hW2194 ?_
                      refine x_if_ne C (tgt := 155) dX12_readsLine_142 (by decide) rfl (fun c2197 => ?_) (fun c2197 => ?_)
                      · skip
                        obtain ⟨d2198, hd2199, ed2200, hp2201⟩ := x2196 c2197
                        refine x_aload_n C dX12_readsLine_155 rfl 2 rfl rfl ?_
                        refine x_vi C (As := []) (rest := []) (m_here E l a cd hG w2180 hW2182 tp (pl1271 + 1) le cm wt sm lm nu1272 ⟨v1277, v1278, v1279, v1280, v1281, v1282, v1283, n1284, n1285, ⟨by omega, by omega, by omega, by omega, by omega, by omega, by omega⟩, ⟨by omega, by omega⟩, zb1288, k2184⟩ tf k2183) mf_X12_here w_1317 0 k2184 rfl rfl rfl (Nat.le_of_ble_eq_true rfl) ⟨(Nat.le_of_ble_eq_true rfl), (Nat.le_of_ble_eq_true rfl)⟩ ⟨(Nat.le_of_ble_eq_true rfl), (Nat.le_of_ble_eq_true rfl)⟩ dX12_readsLine_156 rfl (fun r2203 w2204 h2202 => ?_)
                        obtain ⟨hW2205, x2206⟩ := h2202
                        refine x_ws hW2205 ?_
                        refine x_top (x2206.trans ed2200) ?_
                        refine x_bipush C (v := 55) dX12_readsLine_159 (by decide) rfl ?_
                        refine x_icmp_le C (tgt := 174) dX12_readsLine_161 (by decide) rfl (fun c2207 => ?_) (fun c2207 => ?_)
                        · skip
                          have nf2208 := nI_le' (a := (48 + d2198)) (b := 55) c2207 (by omega) (by omega)
                          refine x_aload_n C dX12_readsLine_174 rfl 2 rfl rfl ?_
                          refine x_get C (ci := 11) (k := 30) 0 k2184 rfl in_X12 (by decide) w_1148 rfl dX12_readsLine_175 rfl ?_
                          refine x_aload_n C dX12_readsLine_178 rfl 2 rfl rfl ?_
                          refine x_get C (ci := 11) (k := 27) 0 k2184 rfl in_X12 (by decide) w_1145 rfl dX12_readsLine_179 rfl ?_
                          refine x_aload_n C dX12_readsLine_182 rfl 2 rfl rfl ?_
                          refine x_vi C (As := []) (rest := [.int (nI lm), .ref (a 20)]) (m_here E l a cd hG w2180 hW2182 tp (pl1271 + 1) le cm wt sm lm nu1272 ⟨v1277, v1278, v1279, v1280, v1281, v1282, v1283, n1284, n1285, ⟨by omega, by omega, by omega, by omega, by omega, by omega, by omega⟩, ⟨by omega, by omega⟩, zb1288, k2184⟩ tf k2183) mf_X12_here w_1317 0 k2184 rfl rfl rfl (Nat.le_of_ble_eq_true rfl) ⟨(Nat.le_of_ble_eq_true rfl), (Nat.le_of_ble_eq_true rfl)⟩ ⟨(Nat.le_of_ble_eq_true rfl), (Nat.le_of_ble_eq_true rfl)⟩ dX12_readsLine_183 rfl (fun r2210 w2211 h2209 => ?_)
                          obtain ⟨hW2212, x2213⟩ := h2209
                          refine x_ws hW2212 ?_
                          refine x_top (x2213.trans ed2200) ?_
                          refine x_bipush C (v := 48) dX12_readsLine_186 (by decide) rfl ?_
                          refine x_isub C (v := (nI ((48 + d2198) - 48))) dX12_readsLine_188 (pk_sub (a := (48 + d2198)) (b := 48) (by omega)) rfl ?_
                          have gb2214 := updn_le (i := lm) (v := ((48 + d2198) - 48)) gb2179 (by omega)
                          obtain ⟨w2215, hw2216⟩ : ∃ w : va_W, w = List.set w2180 20 (iA E (a 20) 24 (upd (fun j => nI ((updn g2177 lm 0) j)) lm (nI ((48 + d2198) - 48)))) := ⟨_, rfl⟩
                          refine x_iask C lm (nI_clamp (by omega)) (nI_pos (by omega)) (by omega) 20 k2188 hw2216.symm dX12_readsLine_189 rfl ?_
                          have hW2217 : WX (okM E a cd) w2215 := by rw [hw2216]; exact hW2182.set (k := 20) rfl ⟨_, gb2214, iA_n (upd_nI (updn g2177 lm 0) lm ((48 + d2198) - 48))⟩
                          have k2218 : w2215[4]? = some (bA E (a 4) 260 tf) := by rw [hw2216]; exact set_ne k2183 (by decide)
                          have k2219 : w2215[0]? = some (ob (a 0) 11 [.ref (a 1), .ref (a 2), .ref (a 3), .ref (a 4), .int (nI tp), .int (nI (pl1271 + 1)), .int (nI le), .int v1277, .int nu1272, .int v1278, .int (nI cm), .int (nI wt), .int (nI sm), .int (nI (cd.2.2.2.2.2)), .ref (a 5), .ref (a 6), .ref (a 7), .ref (a 8), .ref (a 9), .ref (a 10), .ref (a 11), .ref (a 12), .ref (a 13), .ref (a 14), .ref (a 15), .ref (a 16), .ref (a 17), .int (nI lm), .ref (a 18), .ref (a 19), .ref (a 20), .ref (a 21), .int v1279, .int v1280, .int v1281, .int v1282, .int (nI n1284), .int (nI n1285), .ref (a 22), .ref (a 23), .ref (a 24), .ref (a 25), .ref (a 26), .ref (a 27), .ref (a 28), .ref (a 29), .ref (a 30), .int v1283]) := by rw [hw2216]; exact set_ne k2184 (by decide)
                          have k2220 : w2215[19]? = some (iA E (a 19) 24 (upd f2168 (nI lm).toNatClampNeg r1297)) := by rw [hw2216]; exact set_ne k2185 (by decide)
                          have k2221 : w2215[20]? = some (iA E (a 20) 24 (upd (fun j => nI ((updn g2177 lm 0) j)) lm (nI ((48 + d2198) - 48)))) := by rw [hw2216]; exact set_eq k2188
                          have kp2222 := keeps_set kp2187 hw2216 (by first | exact rfl | decide | omega | (dsimp only; omega))
                          have k2223 : w2215[20]? = some (iA E (a 20) 24 (fun j => nI ((updn (updn g2177 lm 0) lm ((48 + d2198) - 48)) j))) := by rw [← upd_nI]; exact k2221
                          refine x_aload_n C dX12_readsLine_190 rfl 2 rfl rfl ?_
                          refine x_aload_n C dX12_readsLine_191 rfl 2 rfl rfl ?_
                          refine x_get C (ci := 11) (k := 5) 0 k2219 rfl in_X12 (by decide) w_1123 rfl dX12_readsLine_192 rfl ?_
                          refine x_iconst C (v := 1) dX12_readsLine_195 (by decide) rfl ?_
                          refine x_iadd C (v := (nI ((pl1271 + 1) + 1))) dX12_readsLine_196 (nI_add (pl1271 + 1) 1) rfl ?_
                          obtain ⟨w2224, hw2225⟩ : ∃ w : va_W, w = List.set w2215 0 (ob (a 0) 11 [.ref (a 1), .ref (a 2), .ref (a 3), .ref (a 4), .int (nI tp), .int (nI ((pl1271 + 1) + 1)), .int (nI le), .int v1277, .int nu1272, .int v1278, .int (nI cm), .int (nI wt), .int (nI sm), .int (nI (cd.2.2.2.2.2)), .ref (a 5), .ref (a 6), .ref (a 7), .ref (a 8), .ref (a 9), .ref (a 10), .ref (a 11), .ref (a 12), .ref (a 13), .ref (a 14), .ref (a 15), .ref (a 16), .ref (a 17), .int (nI lm), .ref (a 18), .ref (a 19), .ref (a 20), .ref (a 21), .int v1279, .int v1280, .int v1281, .int v1282, .int (nI n1284), .int (nI n1285), .ref (a 22), .ref (a 23), .ref (a 24), .ref (a 25), .ref (a 26), .ref (a 27), .ref (a 28), .ref (a 29), .ref (a 30), .int v1283]) := ⟨_, rfl⟩
                          refine x_put C (ci := 11) (k := 5) (ty := .int) 0 k2219 rfl in_X12 tyX12 tyX12_ok nmX12 (by decide) w_1123 rfl rfl rfl rfl (Nat.le_of_ble_eq_true rfl) hw2225.symm dX12_readsLine_197 rfl ?_
                          have hW2226 : WX (okM E a cd) w2224 := by rw [hw2225]; exact hW2217.set (k := 0) rfl ⟨tp, ((pl1271 + 1) + 1), le, v1277, nu1272, v1278, cm, wt, sm, lm, v1279, v1280, v1281, v1282, n1284, n1285, v1283, by omega, by omega, by omega, by omega, by omega, by omega, by omega, by omega, by omega, zb1288, rfl⟩
                          have k2227 : w2224[4]? = some (bA E (a 4) 260 tf) := by rw [hw2225]; exact set_ne k2218 (by decide)
                          have k2228 : w2224[0]? = some (ob (a 0) 11 [.ref (a 1), .ref (a 2), .ref (a 3), .ref (a 4), .int (nI tp), .int (nI ((pl1271 + 1) + 1)), .int (nI le), .int v1277, .int nu1272, .int v1278, .int (nI cm), .int (nI wt), .int (nI sm), .int (nI (cd.2.2.2.2.2)), .ref (a 5), .ref (a 6), .ref (a 7), .ref (a 8), .ref (a 9), .ref (a 10), .ref (a 11), .ref (a 12), .ref (a 13), .ref (a 14), .ref (a 15), .ref (a 16), .ref (a 17), .int (nI lm), .ref (a 18), .ref (a 19), .ref (a 20), .ref (a 21), .int v1279, .int v1280, .int v1281, .int v1282, .int (nI n1284), .int (nI n1285), .ref (a 22), .ref (a 23), .ref (a 24), .ref (a 25), .ref (a 26), .ref (a 27), .ref (a 28), .ref (a 29), .ref (a 30), .int v1283]) := by rw [hw2225]; exact set_eq k2219
                          have k2229 : w2224[19]? = some (iA E (a 19) 24 (upd f2168 (nI lm).toNatClampNeg r1297)) := by rw [hw2225]; exact set_ne k2220 (by decide)
                          have k2230 : w2224[20]? = some (iA E (a 20) 24 (fun j => nI ((updn (updn g2177 lm 0) lm ((48 + d2198) - 48)) j))) := by rw [hw2225]; exact set_ne k2223 (by decide)
                          have kp2231 := keeps_set kp2222 hw2225 (by first | exact rfl | decide | omega | (dsimp only; omega))
                          refine x_aload_n C dX12_readsLine_200 rfl 2 rfl rfl ?_
                          refine x_get C (ci := 11) (k := 28) 0 k2228 rfl in_X12 (by decide) w_1146 rfl dX12_readsLine_201 rfl ?_
                          refine x_aload_n C dX12_readsLine_204 rfl 2 rfl rfl ?_
                          refine x_get C (ci := 11) (k := 27) 0 k2228 rfl in_X12 (by decide) w_1145 rfl dX12_readsLine_205 rfl ?_
                          refine x_iconst C (v := 1) dX12_readsLine_208 (by decide) rfl ?_
                          refine x_iadd C (v := (nI (lm + 1))) dX12_readsLine_209 (nI_add lm 1) rfl ?_
                          refine x_aload_n C dX12_readsLine_210 rfl 2 rfl rfl ?_
                          refine x_get C (ci := 11) (k := 28) 0 k2228 rfl in_X12 (by decide) w_1146 rfl dX12_readsLine_211 rfl ?_
                          refine x_aload_n C dX12_readsLine_214 rfl 2 rfl rfl ?_
                          refine x_get C (ci := 11) (k := 27) 0 k2228 rfl in_X12 (by decide) w_1145 rfl dX12_readsLine_215 rfl ?_
                          obtain ⟨_, k2232, g2233, gb2234, rfl⟩ := hW2226 18 _ rfl
                          refine x_ialk C (v := nI (g2233 lm)) lm (nI_clamp (by omega)) (nI_pos (by omega)) (by omega) 18 k2232 rfl dX12_readsLine_218 rfl ?_
                          have bx2235 := gb2234 lm
                          refine x_iload_n C dX12_readsLine_219 rfl 1 rfl rfl ?_
                          refine x_iadd C (v := (nI ((g2233 lm) + mm1291))) dX12_readsLine_220 (nI_add (g2233 lm) mm1291) rfl ?_
                          have gb2236 := updn_leF (i := (lm + 1)) (v := ((g2233 lm) + mm1291)) gb2234 (by omega)
                          obtain ⟨w2237, hw2238⟩ : ∃ w : va_W, w = List.set w2224 18 (iA E (a 18) 25 (upd (fun j => nI (g2233 j)) (lm + 1) (nI ((g2233 lm) + mm1291)))) := ⟨_, rfl⟩
                          refine x_iask C (lm + 1) (nI_clamp (by omega)) (nI_pos (by omega)) (by omega) 18 k2232 hw2238.symm dX12_readsLine_221 rfl ?_
                          have hW2239 : WX (okM E a cd) w2237 := by rw [hw2238]; exact hW2226.set (k := 18) rfl ⟨_, gb2236, iA_n (upd_nI g2233 (lm + 1) ((g2233 lm) + mm1291))⟩
                          have k2240 : w2237[4]? = some (bA E (a 4) 260 tf) := by rw [hw2238]; exact set_ne k2227 (by decide)
                          have k2241 : w2237[0]? = some (ob (a 0) 11 [.ref (a 1), .ref (a 2), .ref (a 3), .ref (a 4), .int (nI tp), .int (nI ((pl1271 + 1) + 1)), .int (nI le), .int v1277, .int nu1272, .int v1278, .int (nI cm), .int (nI wt), .int (nI sm), .int (nI (cd.2.2.2.2.2)), .ref (a 5), .ref (a 6), .ref (a 7), .ref (a 8), .ref (a 9), .ref (a 10), .ref (a 11), .ref (a 12), .ref (a 13), .ref (a 14), .ref (a 15), .ref (a 16), .ref (a 17), .int (nI lm), .ref (a 18), .ref (a 19), .ref (a 20), .ref (a 21), .int v1279, .int v1280, .int v1281, .int v1282, .int (nI n1284), .int (nI n1285), .ref (a 22), .ref (a 23), .ref (a 24), .ref (a 25), .ref (a 26), .ref (a 27), .ref (a 28), .ref (a 29), .ref (a 30), .int v1283]) := by rw [hw2238]; exact set_ne k2228 (by decide)
                          have k2242 : w2237[19]? = some (iA E (a 19) 24 (upd f2168 (nI lm).toNatClampNeg r1297)) := by rw [hw2238]; exact set_ne k2229 (by decide)
                          have k2243 : w2237[20]? = some (iA E (a 20) 24 (fun j => nI ((updn (updn g2177 lm 0) lm ((48 + d2198) - 48)) j))) := by rw [hw2238]; exact set_ne k2230 (by decide)
                          have k2244 : w2237[18]? = some (iA E (a 18) 25 (upd (fun j => nI (g2233 j)) (lm + 1) (nI ((g2233 lm) + mm1291)))) := by rw [hw2238]; exact set_eq k2232
                          have kp2245 := keeps_set kp2231 hw2238 (by first | exact rfl | decide | omega | (dsimp only; omega))
                          have k2246 : w2237[18]? = some (iA E (a 18) 25 (fun j => nI ((updn g2233 (lm + 1) ((g2233 lm) + mm1291)) j))) := by rw [← upd_nI]; exact k2244
                          refine x_aload_n C dX12_readsLine_222 rfl 2 rfl rfl ?_
                          refine x_aload_n C dX12_readsLine_223 rfl 2 rfl rfl ?_
                          refine x_get C (ci := 11) (k := 27) 0 k2241 rfl in_X12 (by decide) w_1145 rfl dX12_readsLine_224 rfl ?_
                          refine x_iconst C (v := 1) dX12_readsLine_227 (by decide) rfl ?_
                          refine x_iadd C (v := (nI (lm + 1))) dX12_readsLine_228 (nI_add lm 1) rfl ?_
                          obtain ⟨w2247, hw2248⟩ : ∃ w : va_W, w = List.set w2237 0 (ob (a 0) 11 [.ref (a 1), .ref (a 2), .ref (a 3), .ref (a 4), .int (nI tp), .int (nI ((pl1271 + 1) + 1)), .int (nI le), .int v1277, .int nu1272, .int v1278, .int (nI cm), .int (nI wt), .int (nI sm), .int (nI (cd.2.2.2.2.2)), .ref (a 5), .ref (a 6), .ref (a 7), .ref (a 8), .ref (a 9), .ref (a 10), .ref (a 11), .ref (a 12), .ref (a 13), .ref (a 14), .ref (a 15), .ref (a 16), .ref (a 17), .int (nI (lm + 1)), .ref (a 18), .ref (a 19), .ref (a 20), .ref (a 21), .int v1279, .int v1280, .int v1281, .int v1282, .int (nI n1284), .int (nI n1285), .ref (a 22), .ref (a 23), .ref (a 24), .ref (a 25), .ref (a 26), .ref (a 27), .ref (a 28), .ref (a 29), .ref (a 30), .int v1283]) := ⟨_, rfl⟩
                          refine x_put C (ci := 11) (k := 27) (ty := .int) 0 k2241 rfl in_X12 tyX12 tyX12_ok nmX12 (by decide) w_1145 rfl rfl rfl rfl (Nat.le_of_ble_eq_true rfl) hw2248.symm dX12_readsLine_229 rfl ?_
                          have hW2249 : WX (okM E a cd) w2247 := by rw [hw2248]; exact hW2239.set (k := 0) rfl ⟨tp, ((pl1271 + 1) + 1), le, v1277, nu1272, v1278, cm, wt, sm, (lm + 1), v1279, v1280, v1281, v1282, n1284, n1285, v1283, by omega, by omega, by omega, by omega, by omega, by omega, by omega, by omega, by omega, zb1288, rfl⟩
                          have k2250 : w2247[4]? = some (bA E (a 4) 260 tf) := by rw [hw2248]; exact set_ne k2240 (by decide)
                          have k2251 : w2247[0]? = some (ob (a 0) 11 [.ref (a 1), .ref (a 2), .ref (a 3), .ref (a 4), .int (nI tp), .int (nI ((pl1271 + 1) + 1)), .int (nI le), .int v1277, .int nu1272, .int v1278, .int (nI cm), .int (nI wt), .int (nI sm), .int (nI (cd.2.2.2.2.2)), .ref (a 5), .ref (a 6), .ref (a 7), .ref (a 8), .ref (a 9), .ref (a 10), .ref (a 11), .ref (a 12), .ref (a 13), .ref (a 14), .ref (a 15), .ref (a 16), .ref (a 17), .int (nI (lm + 1)), .ref (a 18), .ref (a 19), .ref (a 20), .ref (a 21), .int v1279, .int v1280, .int v1281, .int v1282, .int (nI n1284), .int (nI n1285), .ref (a 22), .ref (a 23), .ref (a 24), .ref (a 25), .ref (a 26), .ref (a 27), .ref (a 28), .ref (a 29), .ref (a 30), .int v1283]) := by rw [hw2248]; exact set_eq k2241
                          have k2252 : w2247[19]? = some (iA E (a 19) 24 (upd f2168 (nI lm).toNatClampNeg r1297)) := by rw [hw2248]; exact set_ne k2242 (by decide)
                          have k2253 : w2247[20]? = some (iA E (a 20) 24 (fun j => nI ((updn (updn g2177 lm 0) lm ((48 + d2198) - 48)) j))) := by rw [hw2248]; exact set_ne k2243 (by decide)
                          have k2254 : w2247[18]? = some (iA E (a 18) 25 (fun j => nI ((updn g2233 (lm + 1) ((g2233 lm) + mm1291)) j))) := by rw [hw2248]; exact set_ne k2246 (by decide)
                          have kp2255 := keeps_set kp2245 hw2248 (by first | exact rfl | decide | omega | (dsimp only; omega))
                          refine x_iconst C (v := 1) dX12_readsLine_232 (by decide) rfl ?_
                          exact x_zret C hr hlk rfl dX12_readsLine_233 ⟨hW2249, kp2255, (Or.inr rfl), ⟨((pl1271 + 1) + 1), (lm + 1), nu1272, by omega, by omega, by omega, ⟨v1277, v1278, v1279, v1280, v1281, v1282, v1283, n1284, n1285, ⟨by omega, by omega, by omega, by omega, by omega, by omega, by omega⟩, ⟨by omega, by omega⟩, zb1288, k2251⟩⟩⟩
                        · skip
                          have nf2256 := nI_nle' (a := (48 + d2198)) (b := 55) c2207 (by omega) (by omega)
                          refine x_aload_n C dX12_readsLine_164 rfl 2 rfl rfl ?_
                          refine x_iconst C (v := 3) dX12_readsLine_165 (by decide) rfl ?_
                          refine x_aload_n C dX12_readsLine_166 rfl 2 rfl rfl ?_
                          refine x_get C (ci := 11) (k := 5) 0 k2184 rfl in_X12 (by decide) w_1123 rfl dX12_readsLine_167 rfl ?_
                          refine x_vi C (As := [.int 3, .int (nI (pl1271 + 1))]) (rest := []) (m_wrongAt E l a cd hG w2180 hW2182 (3 : Int32) ((nI (pl1271 + 1))) tp (pl1271 + 1) le cm wt sm lm nu1272 ⟨v1277, v1278, v1279, v1280, v1281, v1282, v1283, n1284, n1285, ⟨by omega, by omega, by omega, by omega, by omega, by omega, by omega⟩, ⟨by omega, by omega⟩, zb1288, k2184⟩) mf_X12_wrongAt w_1324 0 k2184 rfl rfl rfl (Nat.le_of_ble_eq_true rfl) ⟨(Nat.le_of_ble_eq_true rfl), (Nat.le_of_ble_eq_true rfl)⟩ ⟨(Nat.le_of_ble_eq_true rfl), (Nat.le_of_ble_eq_true rfl)⟩ dX12_readsLine_170 rfl (fun r2258 w2259 h2257 => ?_)
                          obtain ⟨hW2260, kq2261, e2262, x2263⟩ := h2257
                          refine x_top e2262 ?_
                          have k2264 : w2259[4]? = some (bA E (a 4) 260 tf) := keeps_at kq2261 k2183 (by first | decide | omega | (dsimp only; omega))
                          have k2265 : w2259[19]? = some (iA E (a 19) 24 (upd f2168 (nI lm).toNatClampNeg r1297)) := keeps_at kq2261 k2185 (by first | decide | omega | (dsimp only; omega))
                          have k2266 : w2259[20]? = some (iA E (a 20) 24 (fun j => nI ((updn g2177 lm 0) j))) := keeps_at kq2261 k2188 (by first | decide | omega | (dsimp only; omega))
                          have kp2267 := keeps_tr kp2187 kq2261 (fun q hq => by first | omega | (dsimp only at *; omega))
                          obtain ⟨v2268, v2269, v2270, v2271, v2272, v2273, v2274, n2275, n2276, bo2277, bo2278, zb2279, k2280⟩ := x2263
                          exact x_zret C hr hlk rfl dX12_readsLine_173 ⟨hW2260, kp2267, (Or.inl rfl), ⟨((pl1271 + 1)), lm, nu1272, by omega, by omega, by omega, ⟨v2268, v2269, v2270, v2271, v2272, v2273, v2274, n2275, n2276, ⟨by omega, by omega, by omega, by omega, by omega, by omega, by omega⟩, ⟨by omega, by omega⟩, zb2279, k2280⟩⟩⟩
                      · skip
                        refine x_aload_n C dX12_readsLine_145 rfl 2 rfl rfl ?_
                        refine x_iconst C (v := 1) dX12_readsLine_146 (by decide) rfl ?_
                        refine x_aload_n C dX12_readsLine_147 rfl 2 rfl rfl ?_
                        refine x_get C (ci := 11) (k := 5) 0 k2184 rfl in_X12 (by decide) w_1123 rfl dX12_readsLine_148 rfl ?_
                        refine x_vi C (As := [.int 1, .int (nI (pl1271 + 1))]) (rest := []) (m_wrongAt E l a cd hG w2180 hW2182 (1 : Int32) ((nI (pl1271 + 1))) tp (pl1271 + 1) le cm wt sm lm nu1272 ⟨v1277, v1278, v1279, v1280, v1281, v1282, v1283, n1284, n1285, ⟨by omega, by omega, by omega, by omega, by omega, by omega, by omega⟩, ⟨by omega, by omega⟩, zb1288, k2184⟩) mf_X12_wrongAt w_1324 0 k2184 rfl rfl rfl (Nat.le_of_ble_eq_true rfl) ⟨(Nat.le_of_ble_eq_true rfl), (Nat.le_of_ble_eq_true rfl)⟩ ⟨(Nat.le_of_ble_eq_true rfl), (Nat.le_of_ble_eq_true rfl)⟩ dX12_readsLine_151 rfl (fun r2282 w2283 h2281 => ?_)
                        obtain ⟨hW2284, kq2285, e2286, x2287⟩ := h2281
                        refine x_top e2286 ?_
                        have k2288 : w2283[4]? = some (bA E (a 4) 260 tf) := keeps_at kq2285 k2183 (by first | decide | omega | (dsimp only; omega))
                        have k2289 : w2283[19]? = some (iA E (a 19) 24 (upd f2168 (nI lm).toNatClampNeg r1297)) := keeps_at kq2285 k2185 (by first | decide | omega | (dsimp only; omega))
                        have k2290 : w2283[20]? = some (iA E (a 20) 24 (fun j => nI ((updn g2177 lm 0) j))) := keeps_at kq2285 k2188 (by first | decide | omega | (dsimp only; omega))
                        have kp2291 := keeps_tr kp2187 kq2285 (fun q hq => by first | omega | (dsimp only at *; omega))
                        obtain ⟨v2292, v2293, v2294, v2295, v2296, v2297, v2298, n2299, n2300, bo2301, bo2302, zb2303, k2304⟩ := x2287
                        exact x_zret C hr hlk rfl dX12_readsLine_154 ⟨hW2284, kp2291, (Or.inl rfl), ⟨((pl1271 + 1)), lm, nu1272, by omega, by omega, by omega, ⟨v2292, v2293, v2294, v2295, v2296, v2297, v2298, n2299, n2300, ⟨by omega, by omega, by omega, by omega, by omega, by omega, by omega⟩, ⟨by omega, by omega⟩, zb2303, k2304⟩⟩⟩
                    · skip
                      refine x_iload_n C dX12_readsLine_132 rfl 0 rfl rfl ?_
                      refine x_bipush C (v := 33) dX12_readsLine_133 (by decide) rfl ?_
                      refine x_icmp_ne C (tgt := 200) dX12_readsLine_135 (by decide) rfl (fun c2305 => ?_) (fun c2305 => ?_)
                      · skip
                        refine x_aload_n C dX12_readsLine_200 rfl 2 rfl rfl ?_
                        refine x_get C (ci := 11) (k := 28) 0 k2184 rfl in_X12 (by decide) w_1146 rfl dX12_readsLine_201 rfl ?_
                        refine x_aload_n C dX12_readsLine_204 rfl 2 rfl rfl ?_
                        refine x_get C (ci := 11) (k := 27) 0 k2184 rfl in_X12 (by decide) w_1145 rfl dX12_readsLine_205 rfl ?_
                        refine x_iconst C (v := 1) dX12_readsLine_208 (by decide) rfl ?_
                        refine x_iadd C (v := (nI (lm + 1))) dX12_readsLine_209 (nI_add lm 1) rfl ?_
                        refine x_aload_n C dX12_readsLine_210 rfl 2 rfl rfl ?_
                        refine x_get C (ci := 11) (k := 28) 0 k2184 rfl in_X12 (by decide) w_1146 rfl dX12_readsLine_211 rfl ?_
                        refine x_aload_n C dX12_readsLine_214 rfl 2 rfl rfl ?_
                        refine x_get C (ci := 11) (k := 27) 0 k2184 rfl in_X12 (by decide) w_1145 rfl dX12_readsLine_215 rfl ?_
                        obtain ⟨_, k2306, g2307, gb2308, rfl⟩ := hW2182 18 _ rfl
                        refine x_ialk C (v := nI (g2307 lm)) lm (nI_clamp (by omega)) (nI_pos (by omega)) (by omega) 18 k2306 rfl dX12_readsLine_218 rfl ?_
                        have bx2309 := gb2308 lm
                        refine x_iload_n C dX12_readsLine_219 rfl 1 rfl rfl ?_
                        refine x_iadd C (v := (nI ((g2307 lm) + mm1291))) dX12_readsLine_220 (nI_add (g2307 lm) mm1291) rfl ?_
                        have gb2310 := updn_leF (i := (lm + 1)) (v := ((g2307 lm) + mm1291)) gb2308 (by omega)
                        obtain ⟨w2311, hw2312⟩ : ∃ w : va_W, w = List.set w2180 18 (iA E (a 18) 25 (upd (fun j => nI (g2307 j)) (lm + 1) (nI ((g2307 lm) + mm1291)))) := ⟨_, rfl⟩
                        refine x_iask C (lm + 1) (nI_clamp (by omega)) (nI_pos (by omega)) (by omega) 18 k2306 hw2312.symm dX12_readsLine_221 rfl ?_
                        have hW2313 : WX (okM E a cd) w2311 := by rw [hw2312]; exact hW2182.set (k := 18) rfl ⟨_, gb2310, iA_n (upd_nI g2307 (lm + 1) ((g2307 lm) + mm1291))⟩
                        have k2314 : w2311[4]? = some (bA E (a 4) 260 tf) := by rw [hw2312]; exact set_ne k2183 (by decide)
                        have k2315 : w2311[0]? = some (ob (a 0) 11 [.ref (a 1), .ref (a 2), .ref (a 3), .ref (a 4), .int (nI tp), .int (nI (pl1271 + 1)), .int (nI le), .int v1277, .int nu1272, .int v1278, .int (nI cm), .int (nI wt), .int (nI sm), .int (nI (cd.2.2.2.2.2)), .ref (a 5), .ref (a 6), .ref (a 7), .ref (a 8), .ref (a 9), .ref (a 10), .ref (a 11), .ref (a 12), .ref (a 13), .ref (a 14), .ref (a 15), .ref (a 16), .ref (a 17), .int (nI lm), .ref (a 18), .ref (a 19), .ref (a 20), .ref (a 21), .int v1279, .int v1280, .int v1281, .int v1282, .int (nI n1284), .int (nI n1285), .ref (a 22), .ref (a 23), .ref (a 24), .ref (a 25), .ref (a 26), .ref (a 27), .ref (a 28), .ref (a 29), .ref (a 30), .int v1283]) := by rw [hw2312]; exact set_ne k2184 (by decide)
                        have k2316 : w2311[19]? = some (iA E (a 19) 24 (upd f2168 (nI lm).toNatClampNeg r1297)) := by rw [hw2312]; exact set_ne k2185 (by decide)
                        have k2317 : w2311[20]? = some (iA E (a 20) 24 (fun j => nI ((updn g2177 lm 0) j))) := by rw [hw2312]; exact set_ne k2188 (by decide)
                        have k2318 : w2311[18]? = some (iA E (a 18) 25 (upd (fun j => nI (g2307 j)) (lm + 1) (nI ((g2307 lm) + mm1291)))) := by rw [hw2312]; exact set_eq k2306
                        have kp2319 := keeps_set kp2187 hw2312 (by first | exact rfl | decide | omega | (dsimp only; omega))
                        have k2320 : w2311[18]? = some (iA E (a 18) 25 (fun j => nI ((updn g2307 (lm + 1) ((g2307 lm) + mm1291)) j))) := by rw [← upd_nI]; exact k2318
                        refine x_aload_n C dX12_readsLine_222 rfl 2 rfl rfl ?_
                        refine x_aload_n C dX12_readsLine_223 rfl 2 rfl rfl ?_
                        refine x_get C (ci := 11) (k := 27) 0 k2315 rfl in_X12 (by decide) w_1145 rfl dX12_readsLine_224 rfl ?_
                        refine x_iconst C (v := 1) dX12_readsLine_227 (by decide) rfl ?_
                        refine x_iadd C (v := (nI (lm + 1))) dX12_readsLine_228 (nI_add lm 1) rfl ?_
                        obtain ⟨w2321, hw2322⟩ : ∃ w : va_W, w = List.set w2311 0 (ob (a 0) 11 [.ref (a 1), .ref (a 2), .ref (a 3), .ref (a 4), .int (nI tp), .int (nI (pl1271 + 1)), .int (nI le), .int v1277, .int nu1272, .int v1278, .int (nI cm), .int (nI wt), .int (nI sm), .int (nI (cd.2.2.2.2.2)), .ref (a 5), .ref (a 6), .ref (a 7), .ref (a 8), .ref (a 9), .ref (a 10), .ref (a 11), .ref (a 12), .ref (a 13), .ref (a 14), .ref (a 15), .ref (a 16), .ref (a 17), .int (nI (lm + 1)), .ref (a 18), .ref (a 19), .ref (a 20), .ref (a 21), .int v1279, .int v1280, .int v1281, .int v1282, .int (nI n1284), .int (nI n1285), .ref (a 22), .ref (a 23), .ref (a 24), .ref (a 25), .ref (a 26), .ref (a 27), .ref (a 28), .ref (a 29), .ref (a 30), .int v1283]) := ⟨_, rfl⟩
                        refine x_put C (ci := 11) (k := 27) (ty := .int) 0 k2315 rfl in_X12 tyX12 tyX12_ok nmX12 (by decide) w_1145 rfl rfl rfl rfl (Nat.le_of_ble_eq_true rfl) hw2322.symm dX12_readsLine_229 rfl ?_
                        have hW2323 : WX (okM E a cd) w2321 := by rw [hw2322]; exact hW2313.set (k := 0) rfl ⟨tp, (pl1271 + 1), le, v1277, nu1272, v1278, cm, wt, sm, (lm + 1), v1279, v1280, v1281, v1282, n1284, n1285, v1283, by omega, by omega, by omega, by omega, by omega, by omega, by omega, by omega, by omega, zb1288, rfl⟩
                        have k2324 : w2321[4]? = some (bA E (a 4) 260 tf) := by rw [hw2322]; exact set_ne k2314 (by decide)
                        have k2325 : w2321[0]? = some (ob (a 0) 11 [.ref (a 1), .ref (a 2), .ref (a 3), .ref (a 4), .int (nI tp), .int (nI (pl1271 + 1)), .int (nI le), .int v1277, .int nu1272, .int v1278, .int (nI cm), .int (nI wt), .int (nI sm), .int (nI (cd.2.2.2.2.2)), .ref (a 5), .ref (a 6), .ref (a 7), .ref (a 8), .ref (a 9), .ref (a 10), .ref (a 11), .ref (a 12), .ref (a 13), .ref (a 14), .ref (a 15), .ref (a 16), .ref (a 17), .int (nI (lm + 1)), .ref (a 18), .ref (a 19), .ref (a 20), .ref (a 21), .int v1279, .int v1280, .int v1281, .int v1282, .int (nI n1284), .int (nI n1285), .ref (a 22), .ref (a 23), .ref (a 24), .ref (a 25), .ref (a 26), .ref (a 27), .ref (a 28), .ref (a 29), .ref (a 30), .int v1283]) := by rw [hw2322]; exact set_eq k2315
                        have k2326 : w2321[19]? = some (iA E (a 19) 24 (upd f2168 (nI lm).toNatClampNeg r1297)) := by rw [hw2322]; exact set_ne k2316 (by decide)
                        have k2327 : w2321[20]? = some (iA E (a 20) 24 (fun j => nI ((updn g2177 lm 0) j))) := by rw [hw2322]; exact set_ne k2317 (by decide)
                        have k2328 : w2321[18]? = some (iA E (a 18) 25 (fun j => nI ((updn g2307 (lm + 1) ((g2307 lm) + mm1291)) j))) := by rw [hw2322]; exact set_ne k2320 (by decide)
                        have kp2329 := keeps_set kp2319 hw2322 (by first | exact rfl | decide | omega | (dsimp only; omega))
                        refine x_iconst C (v := 1) dX12_readsLine_232 (by decide) rfl ?_
                        exact x_zret C hr hlk rfl dX12_readsLine_233 ⟨hW2323, kp2329, (Or.inr rfl), ⟨(pl1271 + 1), (lm + 1), nu1272, by omega, by omega, by omega, ⟨v1277, v1278, v1279, v1280, v1281, v1282, v1283, n1284, n1285, ⟨by omega, by omega, by omega, by omega, by omega, by omega, by omega⟩, ⟨by omega, by omega⟩, zb1288, k2325⟩⟩⟩
                      · skip
                        have hp2330 := hv_lt (x1300.symm.trans c2305) (by decide)
                        refine x_aload_n C dX12_readsLine_138 rfl 2 rfl rfl ?_
                        refine x_vi C (As := []) (rest := []) (m_isDigit E l a cd hG w2180 hW2182 tp (pl1271 + 1) le cm wt sm lm nu1272 ⟨v1277, v1278, v1279, v1280, v1281, v1282, v1283, n1284, n1285, ⟨by omega, by omega, by omega, by omega, by omega, by omega, by omega⟩, ⟨by omega, by omega⟩, zb1288, k2184⟩ tf k2183) mf_X12_isDigit w_1341 0 k2184 rfl rfl rfl (Nat.le_of_ble_eq_true rfl) ⟨(Nat.le_of_ble_eq_true rfl), (Nat.le_of_ble_eq_true rfl)⟩ ⟨(Nat.le_of_ble_eq_true rfl), (Nat.le_of_ble_eq_true rfl)⟩ dX12_readsLine_139 rfl (fun r2332 w2333 h2331 => ?_)
                        obtain ⟨hW2334, zb2335, x2336⟩ := h2331
                        refine x_ws hW2334 ?_
                        refine x_if_ne C (tgt := 155) dX12_readsLine_142 (by decide) rfl (fun c2337 => ?_) (fun c2337 => ?_)
                        · skip
                          obtain ⟨d2338, hd2339, ed2340, hp2341⟩ := x2336 c2337
                          refine x_aload_n C dX12_readsLine_155 rfl 2 rfl rfl ?_
                          refine x_vi C (As := []) (rest := []) (m_here E l a cd hG w2180 hW2182 tp (pl1271 + 1) le cm wt sm lm nu1272 ⟨v1277, v1278, v1279, v1280, v1281, v1282, v1283, n1284, n1285, ⟨by omega, by omega, by omega, by omega, by omega, by omega, by omega⟩, ⟨by omega, by omega⟩, zb1288, k2184⟩ tf k2183) mf_X12_here w_1317 0 k2184 rfl rfl rfl (Nat.le_of_ble_eq_true rfl) ⟨(Nat.le_of_ble_eq_true rfl), (Nat.le_of_ble_eq_true rfl)⟩ ⟨(Nat.le_of_ble_eq_true rfl), (Nat.le_of_ble_eq_true rfl)⟩ dX12_readsLine_156 rfl (fun r2343 w2344 h2342 => ?_)
                          obtain ⟨hW2345, x2346⟩ := h2342
                          refine x_ws hW2345 ?_
                          refine x_top (x2346.trans ed2340) ?_
                          refine x_bipush C (v := 55) dX12_readsLine_159 (by decide) rfl ?_
                          refine x_icmp_le C (tgt := 174) dX12_readsLine_161 (by decide) rfl (fun c2347 => ?_) (fun c2347 => ?_)
                          · skip
                            have nf2348 := nI_le' (a := (48 + d2338)) (b := 55) c2347 (by omega) (by omega)
                            refine x_aload_n C dX12_readsLine_174 rfl 2 rfl rfl ?_
                            refine x_get C (ci := 11) (k := 30) 0 k2184 rfl in_X12 (by decide) w_1148 rfl dX12_readsLine_175 rfl ?_
                            refine x_aload_n C dX12_readsLine_178 rfl 2 rfl rfl ?_
                            refine x_get C (ci := 11) (k := 27) 0 k2184 rfl in_X12 (by decide) w_1145 rfl dX12_readsLine_179 rfl ?_
                            refine x_aload_n C dX12_readsLine_182 rfl 2 rfl rfl ?_
                            refine x_vi C (As := []) (rest := [.int (nI lm), .ref (a 20)]) (m_here E l a cd hG w2180 hW2182 tp (pl1271 + 1) le cm wt sm lm nu1272 ⟨v1277, v1278, v1279, v1280, v1281, v1282, v1283, n1284, n1285, ⟨by omega, by omega, by omega, by omega, by omega, by omega, by omega⟩, ⟨by omega, by omega⟩, zb1288, k2184⟩ tf k2183) mf_X12_here w_1317 0 k2184 rfl rfl rfl (Nat.le_of_ble_eq_true rfl) ⟨(Nat.le_of_ble_eq_true rfl), (Nat.le_of_ble_eq_true rfl)⟩ ⟨(Nat.le_of_ble_eq_true rfl), (Nat.le_of_ble_eq_true rfl)⟩ dX12_readsLine_183 rfl (fun r2350 w2351 h2349 => ?_)
                            obtain ⟨hW2352, x2353⟩ := h2349
                            refine x_ws hW2352 ?_
                            refine x_top (x2353.trans ed2340) ?_
                            refine x_bipush C (v := 48) dX12_readsLine_186 (by decide) rfl ?_
                            refine x_isub C (v := (nI ((48 + d2338) - 48))) dX12_readsLine_188 (pk_sub (a := (48 + d2338)) (b := 48) (by omega)) rfl ?_
                            have gb2354 := updn_le (i := lm) (v := ((48 + d2338) - 48)) gb2179 (by omega)
                            obtain ⟨w2355, hw2356⟩ : ∃ w : va_W, w = List.set w2180 20 (iA E (a 20) 24 (upd (fun j => nI ((updn g2177 lm 0) j)) lm (nI ((48 + d2338) - 48)))) := ⟨_, rfl⟩
                            refine x_iask C lm (nI_clamp (by omega)) (nI_pos (by omega)) (by omega) 20 k2188 hw2356.symm dX12_readsLine_189 rfl ?_
                            have hW2357 : WX (okM E a cd) w2355 := by rw [hw2356]; exact hW2182.set (k := 20) rfl ⟨_, gb2354, iA_n (upd_nI (updn g2177 lm 0) lm ((48 + d2338) - 48))⟩
                            have k2358 : w2355[4]? = some (bA E (a 4) 260 tf) := by rw [hw2356]; exact set_ne k2183 (by decide)
                            have k2359 : w2355[0]? = some (ob (a 0) 11 [.ref (a 1), .ref (a 2), .ref (a 3), .ref (a 4), .int (nI tp), .int (nI (pl1271 + 1)), .int (nI le), .int v1277, .int nu1272, .int v1278, .int (nI cm), .int (nI wt), .int (nI sm), .int (nI (cd.2.2.2.2.2)), .ref (a 5), .ref (a 6), .ref (a 7), .ref (a 8), .ref (a 9), .ref (a 10), .ref (a 11), .ref (a 12), .ref (a 13), .ref (a 14), .ref (a 15), .ref (a 16), .ref (a 17), .int (nI lm), .ref (a 18), .ref (a 19), .ref (a 20), .ref (a 21), .int v1279, .int v1280, .int v1281, .int v1282, .int (nI n1284), .int (nI n1285), .ref (a 22), .ref (a 23), .ref (a 24), .ref (a 25), .ref (a 26), .ref (a 27), .ref (a 28), .ref (a 29), .ref (a 30), .int v1283]) := by rw [hw2356]; exact set_ne k2184 (by decide)
                            have k2360 : w2355[19]? = some (iA E (a 19) 24 (upd f2168 (nI lm).toNatClampNeg r1297)) := by rw [hw2356]; exact set_ne k2185 (by decide)
                            have k2361 : w2355[20]? = some (iA E (a 20) 24 (upd (fun j => nI ((updn g2177 lm 0) j)) lm (nI ((48 + d2338) - 48)))) := by rw [hw2356]; exact set_eq k2188
                            have kp2362 := keeps_set kp2187 hw2356 (by first | exact rfl | decide | omega | (dsimp only; omega))
                            have k2363 : w2355[20]? = some (iA E (a 20) 24 (fun j => nI ((updn (updn g2177 lm 0) lm ((48 + d2338) - 48)) j))) := by rw [← upd_nI]; exact k2361
                            refine x_aload_n C dX12_readsLine_190 rfl 2 rfl rfl ?_
                            refine x_aload_n C dX12_readsLine_191 rfl 2 rfl rfl ?_
                            refine x_get C (ci := 11) (k := 5) 0 k2359 rfl in_X12 (by decide) w_1123 rfl dX12_readsLine_192 rfl ?_
                            refine x_iconst C (v := 1) dX12_readsLine_195 (by decide) rfl ?_
                            refine x_iadd C (v := (nI ((pl1271 + 1) + 1))) dX12_readsLine_196 (nI_add (pl1271 + 1) 1) rfl ?_
                            obtain ⟨w2364, hw2365⟩ : ∃ w : va_W, w = List.set w2355 0 (ob (a 0) 11 [.ref (a 1), .ref (a 2), .ref (a 3), .ref (a 4), .int (nI tp), .int (nI ((pl1271 + 1) + 1)), .int (nI le), .int v1277, .int nu1272, .int v1278, .int (nI cm), .int (nI wt), .int (nI sm), .int (nI (cd.2.2.2.2.2)), .ref (a 5), .ref (a 6), .ref (a 7), .ref (a 8), .ref (a 9), .ref (a 10), .ref (a 11), .ref (a 12), .ref (a 13), .ref (a 14), .ref (a 15), .ref (a 16), .ref (a 17), .int (nI lm), .ref (a 18), .ref (a 19), .ref (a 20), .ref (a 21), .int v1279, .int v1280, .int v1281, .int v1282, .int (nI n1284), .int (nI n1285), .ref (a 22), .ref (a 23), .ref (a 24), .ref (a 25), .ref (a 26), .ref (a 27), .ref (a 28), .ref (a 29), .ref (a 30), .int v1283]) := ⟨_, rfl⟩
                            refine x_put C (ci := 11) (k := 5) (ty := .int) 0 k2359 rfl in_X12 tyX12 tyX12_ok nmX12 (by decide) w_1123 rfl rfl rfl rfl (Nat.le_of_ble_eq_true rfl) hw2365.symm dX12_readsLine_197 rfl ?_
                            have hW2366 : WX (okM E a cd) w2364 := by rw [hw2365]; exact hW2357.set (k := 0) rfl ⟨tp, ((pl1271 + 1) + 1), le, v1277, nu1272, v1278, cm, wt, sm, lm, v1279, v1280, v1281, v1282, n1284, n1285, v1283, by omega, by omega, by omega, by omega, by omega, by omega, by omega, by omega, by omega, zb1288, rfl⟩
                            have k2367 : w2364[4]? = some (bA E (a 4) 260 tf) := by rw [hw2365]; exact set_ne k2358 (by decide)
                            have k2368 : w2364[0]? = some (ob (a 0) 11 [.ref (a 1), .ref (a 2), .ref (a 3), .ref (a 4), .int (nI tp), .int (nI ((pl1271 + 1) + 1)), .int (nI le), .int v1277, .int nu1272, .int v1278, .int (nI cm), .int (nI wt), .int (nI sm), .int (nI (cd.2.2.2.2.2)), .ref (a 5), .ref (a 6), .ref (a 7), .ref (a 8), .ref (a 9), .ref (a 10), .ref (a 11), .ref (a 12), .ref (a 13), .ref (a 14), .ref (a 15), .ref (a 16), .ref (a 17), .int (nI lm), .ref (a 18), .ref (a 19), .ref (a 20), .ref (a 21), .int v1279, .int v1280, .int v1281, .int v1282, .int (nI n1284), .int (nI n1285), .ref (a 22), .ref (a 23), .ref (a 24), .ref (a 25), .ref (a 26), .ref (a 27), .ref (a 28), .ref (a 29), .ref (a 30), .int v1283]) := by rw [hw2365]; exact set_eq k2359
                            have k2369 : w2364[19]? = some (iA E (a 19) 24 (upd f2168 (nI lm).toNatClampNeg r1297)) := by rw [hw2365]; exact set_ne k2360 (by decide)
                            have k2370 : w2364[20]? = some (iA E (a 20) 24 (fun j => nI ((updn (updn g2177 lm 0) lm ((48 + d2338) - 48)) j))) := by rw [hw2365]; exact set_ne k2363 (by decide)
                            have kp2371 := keeps_set kp2362 hw2365 (by first | exact rfl | decide | omega | (dsimp only; omega))
                            refine x_aload_n C dX12_readsLine_200 rfl 2 rfl rfl ?_
                            refine x_get C (ci := 11) (k := 28) 0 k2368 rfl in_X12 (by decide) w_1146 rfl dX12_readsLine_201 rfl ?_
                            refine x_aload_n C dX12_readsLine_204 rfl 2 rfl rfl ?_
                            refine x_get C (ci := 11) (k := 27) 0 k2368 rfl in_X12 (by decide) w_1145 rfl dX12_readsLine_205 rfl ?_
                            refine x_iconst C (v := 1) dX12_readsLine_208 (by decide) rfl ?_
                            refine x_iadd C (v := (nI (lm + 1))) dX12_readsLine_209 (nI_add lm 1) rfl ?_
                            refine x_aload_n C dX12_readsLine_210 rfl 2 rfl rfl ?_
                            refine x_get C (ci := 11) (k := 28) 0 k2368 rfl in_X12 (by decide) w_1146 rfl dX12_readsLine_211 rfl ?_
                            refine x_aload_n C dX12_readsLine_214 rfl 2 rfl rfl ?_
                            refine x_get C (ci := 11) (k := 27) 0 k2368 rfl in_X12 (by decide) w_1145 rfl dX12_readsLine_215 rfl ?_
                            obtain ⟨_, k2372, g2373, gb2374, rfl⟩ := hW2366 18 _ rfl
                            refine x_ialk C (v := nI (g2373 lm)) lm (nI_clamp (by omega)) (nI_pos (by omega)) (by omega) 18 k2372 rfl dX12_readsLine_218 rfl ?_
                            have bx2375 := gb2374 lm
                            refine x_iload_n C dX12_readsLine_219 rfl 1 rfl rfl ?_
                            refine x_iadd C (v := (nI ((g2373 lm) + mm1291))) dX12_readsLine_220 (nI_add (g2373 lm) mm1291) rfl ?_
                            have gb2376 := updn_leF (i := (lm + 1)) (v := ((g2373 lm) + mm1291)) gb2374 (by omega)
                            obtain ⟨w2377, hw2378⟩ : ∃ w : va_W, w = List.set w2364 18 (iA E (a 18) 25 (upd (fun j => nI (g2373 j)) (lm + 1) (nI ((g2373 lm) + mm1291)))) := ⟨_, rfl⟩
                            refine x_iask C (lm + 1) (nI_clamp (by omega)) (nI_pos (by omega)) (by omega) 18 k2372 hw2378.symm dX12_readsLine_221 rfl ?_
                            have hW2379 : WX (okM E a cd) w2377 := by rw [hw2378]; exact hW2366.set (k := 18) rfl ⟨_, gb2376, iA_n (upd_nI g2373 (lm + 1) ((g2373 lm) + mm1291))⟩
                            have k2380 : w2377[4]? = some (bA E (a 4) 260 tf) := by rw [hw2378]; exact set_ne k2367 (by decide)
                            have k2381 : w2377[0]? = some (ob (a 0) 11 [.ref (a 1), .ref (a 2), .ref (a 3), .ref (a 4), .int (nI tp), .int (nI ((pl1271 + 1) + 1)), .int (nI le), .int v1277, .int nu1272, .int v1278, .int (nI cm), .int (nI wt), .int (nI sm), .int (nI (cd.2.2.2.2.2)), .ref (a 5), .ref (a 6), .ref (a 7), .ref (a 8), .ref (a 9), .ref (a 10), .ref (a 11), .ref (a 12), .ref (a 13), .ref (a 14), .ref (a 15), .ref (a 16), .ref (a 17), .int (nI lm), .ref (a 18), .ref (a 19), .ref (a 20), .ref (a 21), .int v1279, .int v1280, .int v1281, .int v1282, .int (nI n1284), .int (nI n1285), .ref (a 22), .ref (a 23), .ref (a 24), .ref (a 25), .ref (a 26), .ref (a 27), .ref (a 28), .ref (a 29), .ref (a 30), .int v1283]) := by rw [hw2378]; exact set_ne k2368 (by decide)
                            have k2382 : w2377[19]? = some (iA E (a 19) 24 (upd f2168 (nI lm).toNatClampNeg r1297)) := by rw [hw2378]; exact set_ne k2369 (by decide)
                            have k2383 : w2377[20]? = some (iA E (a 20) 24 (fun j => nI ((updn (updn g2177 lm 0) lm ((48 + d2338) - 48)) j))) := by rw [hw2378]; exact set_ne k2370 (by decide)
                            have k2384 : w2377[18]? = some (iA E (a 18) 25 (upd (fun j => nI (g2373 j)) (lm + 1) (nI ((g2373 lm) + mm1291)))) := by rw [hw2378]; exact set_eq k2372
                            have kp2385 := keeps_set kp2371 hw2378 (by first | exact rfl | decide | omega | (dsimp only; omega))
                            have k2386 : w2377[18]? = some (iA E (a 18) 25 (fun j => nI ((updn g2373 (lm + 1) ((g2373 lm) + mm1291)) j))) := by rw [← upd_nI]; exact k2384
                            refine x_aload_n C dX12_readsLine_222 rfl 2 rfl rfl ?_
                            refine x_aload_n C dX12_readsLine_223 rfl 2 rfl rfl ?_
                            refine x_get C (ci := 11) (k := 27) 0 k2381 rfl in_X12 (by decide) w_1145 rfl dX12_readsLine_224 rfl ?_
                            refine x_iconst C (v := 1) dX12_readsLine_227 (by decide) rfl ?_
                            refine x_iadd C (v := (nI (lm + 1))) dX12_readsLine_228 (nI_add lm 1) rfl ?_
                            obtain ⟨w2387, hw2388⟩ : ∃ w : va_W, w = List.set w2377 0 (ob (a 0) 11 [.ref (a 1), .ref (a 2), .ref (a 3), .ref (a 4), .int (nI tp), .int (nI ((pl1271 + 1) + 1)), .int (nI le), .int v1277, .int nu1272, .int v1278, .int (nI cm), .int (nI wt), .int (nI sm), .int (nI (cd.2.2.2.2.2)), .ref (a 5), .ref (a 6), .ref (a 7), .ref (a 8), .ref (a 9), .ref (a 10), .ref (a 11), .ref (a 12), .ref (a 13), .ref (a 14), .ref (a 15), .ref (a 16), .ref (a 17), .int (nI (lm + 1)), .ref (a 18), .ref (a 19), .ref (a 20), .ref (a 21), .int v1279, .int v1280, .int v1281, .int v1282, .int (nI n1284), .int (nI n1285), .ref (a 22), .ref (a 23), .ref (a 24), .ref (a 25), .ref (a 26), .ref (a 27), .ref (a 28), .ref (a 29), .ref (a 30), .int v1283]) := ⟨_, rfl⟩
                            refine x_put C (ci := 11) (k := 27) (ty := .int) 0 k2381 rfl in_X12 tyX12 tyX12_ok nmX12 (by decide) w_1145 rfl rfl rfl rfl (Nat.le_of_ble_eq_true rfl) hw2388.symm dX12_readsLine_229 rfl ?_
                            have hW2389 : WX (okM E a cd) w2387 := by rw [hw2388]; exact hW2379.set (k := 0) rfl ⟨tp, ((pl1271 + 1) + 1), le, v1277, nu1272, v1278, cm, wt, sm, (lm + 1), v1279, v1280, v1281, v1282, n1284, n1285, v1283, by omega, by omega, by omega, by omega, by omega, by omega, by omega, by omega, by omega, zb1288, rfl⟩
                            have k2390 : w2387[4]? = some (bA E (a 4) 260 tf) := by rw [hw2388]; exact set_ne k2380 (by decide)
                            have k2391 : w2387[0]? = some (ob (a 0) 11 [.ref (a 1), .ref (a 2), .ref (a 3), .ref (a 4), .int (nI tp), .int (nI ((pl1271 + 1) + 1)), .int (nI le), .int v1277, .int nu1272, .int v1278, .int (nI cm), .int (nI wt), .int (nI sm), .int (nI (cd.2.2.2.2.2)), .ref (a 5), .ref (a 6), .ref (a 7), .ref (a 8), .ref (a 9), .ref (a 10), .ref (a 11), .ref (a 12), .ref (a 13), .ref (a 14), .ref (a 15), .ref (a 16), .ref (a 17), .int (nI (lm + 1)), .ref (a 18), .ref (a 19), .ref (a 20), .ref (a 21), .int v1279, .int v1280, .int v1281, .int v1282, .int (nI n1284), .int (nI n1285), .ref (a 22), .ref (a 23), .ref (a 24), .ref (a 25), .ref (a 26), .ref (a 27), .ref (a 28), .ref (a 29), .ref (a 30), .int v1283]) := by rw [hw2388]; exact set_eq k2381
                            have k2392 : w2387[19]? = some (iA E (a 19) 24 (upd f2168 (nI lm).toNatClampNeg r1297)) := by rw [hw2388]; exact set_ne k2382 (by decide)
                            have k2393 : w2387[20]? = some (iA E (a 20) 24 (fun j => nI ((updn (updn g2177 lm 0) lm ((48 + d2338) - 48)) j))) := by rw [hw2388]; exact set_ne k2383 (by decide)
                            have k2394 : w2387[18]? = some (iA E (a 18) 25 (fun j => nI ((updn g2373 (lm + 1) ((g2373 lm) + mm1291)) j))) := by rw [hw2388]; exact set_ne k2386 (by decide)
                            have kp2395 := keeps_set kp2385 hw2388 (by first | exact rfl | decide | omega | (dsimp only; omega))
                            refine x_iconst C (v := 1) dX12_readsLine_232 (by decide) rfl ?_
                            exact x_zret C hr hlk rfl dX12_readsLine_233 ⟨hW2389, kp2395, (Or.inr rfl), ⟨((pl1271 + 1) + 1), (lm + 1), nu1272, by omega, by omega, by omega, ⟨v1277, v1278, v1279, v1280, v1281, v1282, v1283, n1284, n1285, ⟨by omega, by omega, by omega, by omega, by omega, by omega, by omega⟩, ⟨by omega, by omega⟩, zb1288, k2391⟩⟩⟩
                          · skip
                            have nf2396 := nI_nle' (a := (48 + d2338)) (b := 55) c2347 (by omega) (by omega)
                            refine x_aload_n C dX12_readsLine_164 rfl 2 rfl rfl ?_
                            refine x_iconst C (v := 3) dX12_readsLine_165 (by decide) rfl ?_
                            refine x_aload_n C dX12_readsLine_166 rfl 2 rfl rfl ?_
                            refine x_get C (ci := 11) (k := 5) 0 k2184 rfl in_X12 (by decide) w_1123 rfl dX12_readsLine_167 rfl ?_
                            refine x_vi C (As := [.int 3, .int (nI (pl1271 + 1))]) (rest := []) (m_wrongAt E l a cd hG w2180 hW2182 (3 : Int32) ((nI (pl1271 + 1))) tp (pl1271 + 1) le cm wt sm lm nu1272 ⟨v1277, v1278, v1279, v1280, v1281, v1282, v1283, n1284, n1285, ⟨by omega, by omega, by omega, by omega, by omega, by omega, by omega⟩, ⟨by omega, by omega⟩, zb1288, k2184⟩) mf_X12_wrongAt w_1324 0 k2184 rfl rfl rfl (Nat.le_of_ble_eq_true rfl) ⟨(Nat.le_of_ble_eq_true rfl), (Nat.le_of_ble_eq_true rfl)⟩ ⟨(Nat.le_of_ble_eq_true rfl), (Nat.le_of_ble_eq_true rfl)⟩ dX12_readsLine_170 rfl (fun r2398 w2399 h2397 => ?_)
                            obtain ⟨hW2400, kq2401, e2402, x2403⟩ := h2397
                            refine x_top e2402 ?_
                            have k2404 : w2399[4]? = some (bA E (a 4) 260 tf) := keeps_at kq2401 k2183 (by first | decide | omega | (dsimp only; omega))
                            have k2405 : w2399[19]? = some (iA E (a 19) 24 (upd f2168 (nI lm).toNatClampNeg r1297)) := keeps_at kq2401 k2185 (by first | decide | omega | (dsimp only; omega))
                            have k2406 : w2399[20]? = some (iA E (a 20) 24 (fun j => nI ((updn g2177 lm 0) j))) := keeps_at kq2401 k2188 (by first | decide | omega | (dsimp only; omega))
                            have kp2407 := keeps_tr kp2187 kq2401 (fun q hq => by first | omega | (dsimp only at *; omega))
                            obtain ⟨v2408, v2409, v2410, v2411, v2412, v2413, v2414, n2415, n2416, bo2417, bo2418, zb2419, k2420⟩ := x2403
                            exact x_zret C hr hlk rfl dX12_readsLine_173 ⟨hW2400, kp2407, (Or.inl rfl), ⟨((pl1271 + 1)), lm, nu1272, by omega, by omega, by omega, ⟨v2408, v2409, v2410, v2411, v2412, v2413, v2414, n2415, n2416, ⟨by omega, by omega, by omega, by omega, by omega, by omega, by omega⟩, ⟨by omega, by omega⟩, zb2419, k2420⟩⟩⟩
                        · skip
                          refine x_aload_n C dX12_readsLine_145 rfl 2 rfl rfl ?_
                          refine x_iconst C (v := 1) dX12_readsLine_146 (by decide) rfl ?_
                          refine x_aload_n C dX12_readsLine_147 rfl 2 rfl rfl ?_
                          refine x_get C (ci := 11) (k := 5) 0 k2184 rfl in_X12 (by decide) w_1123 rfl dX12_readsLine_148 rfl ?_
                          refine x_vi C (As := [.int 1, .int (nI (pl1271 + 1))]) (rest := []) (m_wrongAt E l a cd hG w2180 hW2182 (1 : Int32) ((nI (pl1271 + 1))) tp (pl1271 + 1) le cm wt sm lm nu1272 ⟨v1277, v1278, v1279, v1280, v1281, v1282, v1283, n1284, n1285, ⟨by omega, by omega, by omega, by omega, by omega, by omega, by omega⟩, ⟨by omega, by omega⟩, zb1288, k2184⟩) mf_X12_wrongAt w_1324 0 k2184 rfl rfl rfl (Nat.le_of_ble_eq_true rfl) ⟨(Nat.le_of_ble_eq_true rfl), (Nat.le_of_ble_eq_true rfl)⟩ ⟨(Nat.le_of_ble_eq_true rfl), (Nat.le_of_ble_eq_true rfl)⟩ dX12_readsLine_151 rfl (fun r2422 w2423 h2421 => ?_)
                          obtain ⟨hW2424, kq2425, e2426, x2427⟩ := h2421
                          refine x_top e2426 ?_
                          have k2428 : w2423[4]? = some (bA E (a 4) 260 tf) := keeps_at kq2425 k2183 (by first | decide | omega | (dsimp only; omega))
                          have k2429 : w2423[19]? = some (iA E (a 19) 24 (upd f2168 (nI lm).toNatClampNeg r1297)) := keeps_at kq2425 k2185 (by first | decide | omega | (dsimp only; omega))
                          have k2430 : w2423[20]? = some (iA E (a 20) 24 (fun j => nI ((updn g2177 lm 0) j))) := keeps_at kq2425 k2188 (by first | decide | omega | (dsimp only; omega))
                          have kp2431 := keeps_tr kp2187 kq2425 (fun q hq => by first | omega | (dsimp only at *; omega))
                          obtain ⟨v2432, v2433, v2434, v2435, v2436, v2437, v2438, n2439, n2440, bo2441, bo2442, zb2443, k2444⟩ := x2427
                          exact x_zret C hr hlk rfl dX12_readsLine_154 ⟨hW2424, kp2431, (Or.inl rfl), ⟨((pl1271 + 1)), lm, nu1272, by omega, by omega, by omega, ⟨v2432, v2433, v2434, v2435, v2436, v2437, v2438, n2439, n2440, ⟨by omega, by omega, by omega, by omega, by omega, by omega, by omega⟩, ⟨by omega, by omega⟩, zb2443, k2444⟩⟩⟩
                  · skip
                    refine x_aload_n C dX12_readsLine_86 rfl 2 rfl rfl ?_
                    refine x_iconst C (v := 1) dX12_readsLine_87 (by decide) rfl ?_
                    refine x_aload_n C dX12_readsLine_88 rfl 2 rfl rfl ?_
                    refine x_get C (ci := 11) (k := 5) 0 k1289 rfl in_X12 (by decide) w_1123 rfl dX12_readsLine_89 rfl ?_
                    refine x_vi C (As := [.int 1, .int (nI pl1271)]) (rest := []) (m_wrongAt E l a cd hG w1265 hW1266 (1 : Int32) ((nI pl1271)) tp pl1271 le cm wt sm lm nu1272 ⟨v1277, v1278, v1279, v1280, v1281, v1282, v1283, n1284, n1285, ⟨by omega, by omega, by omega, by omega, by omega, by omega, by omega⟩, ⟨by omega, by omega⟩, zb1288, k1289⟩) mf_X12_wrongAt w_1324 0 k1289 rfl rfl rfl (Nat.le_of_ble_eq_true rfl) ⟨(Nat.le_of_ble_eq_true rfl), (Nat.le_of_ble_eq_true rfl)⟩ ⟨(Nat.le_of_ble_eq_true rfl), (Nat.le_of_ble_eq_true rfl)⟩ dX12_readsLine_92 rfl (fun r2446 w2447 h2445 => ?_)
                    obtain ⟨hW2448, kq2449, e2450, x2451⟩ := h2445
                    refine x_top e2450 ?_
                    have k2452 : w2447[4]? = some (bA E (a 4) 260 tf) := keeps_at kq2449 k1269 (by first | decide | omega | (dsimp only; omega))
                    have kp2453 := keeps_tr kp1270 kq2449 (fun q hq => by first | omega | (dsimp only at *; omega))
                    obtain ⟨v2454, v2455, v2456, v2457, v2458, v2459, v2460, n2461, n2462, bo2463, bo2464, zb2465, k2466⟩ := x2451
                    exact x_zret C hr hlk rfl dX12_readsLine_95 ⟨hW2448, kp2453, (Or.inl rfl), ⟨pl1271, lm, nu1272, by omega, by omega, by omega, ⟨v2454, v2455, v2456, v2457, v2458, v2459, v2460, n2461, n2462, ⟨by omega, by omega, by omega, by omega, by omega, by omega, by omega⟩, ⟨by omega, by omega⟩, zb2465, k2466⟩⟩⟩
          · skip
            refine x_iconst C (v := 0) dX12_readsLine_55 (by decide) rfl ?_
            exact x_zret C hr hlk rfl dX12_readsLine_56 ⟨hW1266, kp1270, (Or.inl rfl), ⟨pl1271, lm, nu1272, by omega, by omega, by omega, ⟨v1277, v1278, v1279, v1280, v1281, v1282, v1283, n1284, n1285, ⟨by omega, by omega, by omega, by omega, by omega, by omega, by omega⟩, ⟨by omega, by omega⟩, zb1288, k1289⟩⟩⟩
      · skip
        have nf2467 : lm = 24 := (nI_eq (by omega) (by omega)).mp c1261
        refine x_aload_n C dX12_readsLine_35 rfl 0 rfl rfl ?_
        refine x_iconst C (v := 4) dX12_readsLine_36 (by decide) rfl ?_
        refine x_aload_n C dX12_readsLine_37 rfl 0 rfl rfl ?_
        refine x_get C (ci := 11) (k := 5) 0 k13 rfl in_X12 (by decide) w_1123 rfl dX12_readsLine_38 rfl ?_
        refine x_vi C (As := [.int 4, .int (nI pl)]) (rest := []) (m_wrongAt E l a cd hG ws hW (4 : Int32) ((nI pl)) tp pl le cm wt sm lm nu ⟨v1, v2, v3, v4, v5, v6, v7, n8, n9, ⟨by omega, by omega, by omega, by omega, by omega, by omega, by omega⟩, ⟨by omega, by omega⟩, zb12, k13⟩) mf_X12_wrongAt w_1324 0 k13 rfl rfl rfl (Nat.le_of_ble_eq_true rfl) ⟨(Nat.le_of_ble_eq_true rfl), (Nat.le_of_ble_eq_true rfl)⟩ ⟨(Nat.le_of_ble_eq_true rfl), (Nat.le_of_ble_eq_true rfl)⟩ dX12_readsLine_41 rfl (fun r2469 w2470 h2468 => ?_)
        obtain ⟨hW2471, kq2472, e2473, x2474⟩ := h2468
        refine x_top e2473 ?_
        have k2475 : w2470[4]? = some (bA E (a 4) 260 tf) := keeps_at kq2472 htf (by first | decide | omega | (dsimp only; omega))
        have kp2476 := keeps_tr kp0 kq2472 (fun q hq => by first | omega | (dsimp only at *; omega))
        obtain ⟨v2477, v2478, v2479, v2480, v2481, v2482, v2483, n2484, n2485, bo2486, bo2487, zb2488, k2489⟩ := x2474
        exact x_zret C hr hlk rfl dX12_readsLine_44 ⟨hW2471, kp2476, (Or.inl rfl), ⟨pl, lm, nu, by omega, by omega, by omega, ⟨v2477, v2478, v2479, v2480, v2481, v2482, v2483, n2484, n2485, ⟨by omega, by omega, by omega, by omega, by omega, by omega, by omega⟩, ⟨by omega, by omega⟩, zb2488, k2489⟩⟩⟩
    · skip
      refine x_aload_n C dX12_readsLine_16 rfl 0 rfl rfl ?_
      refine x_iconst C (v := 1) dX12_readsLine_17 (by decide) rfl ?_
      refine x_aload_n C dX12_readsLine_18 rfl 0 rfl rfl ?_
      refine x_get C (ci := 11) (k := 5) 0 k13 rfl in_X12 (by decide) w_1123 rfl dX12_readsLine_19 rfl ?_
      refine x_vi C (As := [.int 1, .int (nI pl)]) (rest := []) (m_wrongAt E l a cd hG ws hW (1 : Int32) ((nI pl)) tp pl le cm wt sm lm nu ⟨v1, v2, v3, v4, v5, v6, v7, n8, n9, ⟨by omega, by omega, by omega, by omega, by omega, by omega, by omega⟩, ⟨by omega, by omega⟩, zb12, k13⟩) mf_X12_wrongAt w_1324 0 k13 rfl rfl rfl (Nat.le_of_ble_eq_true rfl) ⟨(Nat.le_of_ble_eq_true rfl), (Nat.le_of_ble_eq_true rfl)⟩ ⟨(Nat.le_of_ble_eq_true rfl), (Nat.le_of_ble_eq_true rfl)⟩ dX12_readsLine_22 rfl (fun r2491 w2492 h2490 => ?_)
      obtain ⟨hW2493, kq2494, e2495, x2496⟩ := h2490
      refine x_top e2495 ?_
      have k2497 : w2492[4]? = some (bA E (a 4) 260 tf) := keeps_at kq2494 htf (by first | decide | omega | (dsimp only; omega))
      have kp2498 := keeps_tr kp0 kq2494 (fun q hq => by first | omega | (dsimp only at *; omega))
      obtain ⟨v2499, v2500, v2501, v2502, v2503, v2504, v2505, n2506, n2507, bo2508, bo2509, zb2510, k2511⟩ := x2496
      exact x_zret C hr hlk rfl dX12_readsLine_25 ⟨hW2493, kp2498, (Or.inl rfl), ⟨pl, lm, nu, by omega, by omega, by omega, ⟨v2499, v2500, v2501, v2502, v2503, v2504, v2505, n2506, n2507, ⟨by omega, by omega, by omega, by omega, by omega, by omega, by omega⟩, ⟨by omega, by omega⟩, zb2510, k2511⟩⟩⟩
theorem dX12_readsLines_0 : decode cX12_readsLines 0 = .ok (.aload_n 0, 1) := by decide +kernel
theorem dX12_readsLines_1 : decode cX12_readsLines 1 = .ok (.iconst 0, 1) := by decide +kernel
theorem dX12_readsLines_2 : decode cX12_readsLines 2 = .ok (.putfield 131, 3) := by decide +kernel
theorem dX12_readsLines_5 : decode cX12_readsLines 5 = .ok (.aload_n 0, 1) := by decide +kernel
theorem dX12_readsLines_6 : decode cX12_readsLines 6 = .ok (.iload_n 1, 1) := by decide +kernel
theorem dX12_readsLines_7 : decode cX12_readsLines 7 = .ok (.putfield 134, 3) := by decide +kernel
theorem dX12_readsLines_10 : decode cX12_readsLines 10 = .ok (.aload_n 0, 1) := by decide +kernel
theorem dX12_readsLines_11 : decode cX12_readsLines 11 = .ok (.iconst 0, 1) := by decide +kernel
theorem dX12_readsLines_12 : decode cX12_readsLines 12 = .ok (.putfield 247, 3) := by decide +kernel
theorem dX12_readsLines_15 : decode cX12_readsLines 15 = .ok (.aload_n 0, 1) := by decide +kernel
theorem dX12_readsLines_16 : decode cX12_readsLines 16 = .ok (.getfield 62, 3) := by decide +kernel
theorem dX12_readsLines_19 : decode cX12_readsLines 19 = .ok (.iconst 0, 1) := by decide +kernel
theorem dX12_readsLines_20 : decode cX12_readsLines 20 = .ok (.iconst 0, 1) := by decide +kernel
theorem dX12_readsLines_21 : decode cX12_readsLines 21 = .ok (.iastore, 1) := by decide +kernel
theorem dX12_readsLines_22 : decode cX12_readsLines 22 = .ok (.aload_n 0, 1) := by decide +kernel
theorem dX12_readsLines_23 : decode cX12_readsLines 23 = .ok (.invokevirtual 259, 3) := by decide +kernel
theorem dX12_readsLines_26 : decode cX12_readsLines 26 = .ok (.istore_n 2, 1) := by decide +kernel
theorem dX12_readsLines_27 : decode cX12_readsLines 27 = .ok (.iload_n 2, 1) := by decide +kernel
theorem dX12_readsLines_28 : decode cX12_readsLines 28 = .ok (.ifCond .eq 39, 3) := by decide +kernel
theorem dX12_readsLines_31 : decode cX12_readsLines 31 = .ok (.aload_n 0, 1) := by decide +kernel
theorem dX12_readsLines_32 : decode cX12_readsLines 32 = .ok (.getfield 131, 3) := by decide +kernel
theorem dX12_readsLines_35 : decode cX12_readsLines 35 = .ok (.aload_n 0, 1) := by decide +kernel
theorem dX12_readsLines_36 : decode cX12_readsLines 36 = .ok (.getfield 134, 3) := by decide +kernel
theorem dX12_readsLines_39 : decode cX12_readsLines 39 = .ok (.if_icmp .ge 28, 3) := by decide +kernel
theorem dX12_readsLines_42 : decode cX12_readsLines 42 = .ok (.aload_n 0, 1) := by decide +kernel
theorem dX12_readsLines_43 : decode cX12_readsLines 43 = .ok (.bipush 44, 2) := by decide +kernel
theorem dX12_readsLines_45 : decode cX12_readsLines 45 = .ok (.invokevirtual 220, 3) := by decide +kernel
theorem dX12_readsLines_48 : decode cX12_readsLines 48 = .ok (.ifCond .eq 14, 3) := by decide +kernel
theorem dX12_readsLines_51 : decode cX12_readsLines 51 = .ok (.aload_n 0, 1) := by decide +kernel
theorem dX12_readsLines_52 : decode cX12_readsLines 52 = .ok (.invokevirtual 259, 3) := by decide +kernel
theorem dX12_readsLines_55 : decode cX12_readsLines 55 = .ok (.ifCond .eq 7, 3) := by decide +kernel
theorem dX12_readsLines_58 : decode cX12_readsLines 58 = .ok (.iconst 1, 1) := by decide +kernel
theorem dX12_readsLines_59 : decode cX12_readsLines 59 = .ok (.goto 4, 3) := by decide +kernel
theorem dX12_readsLines_62 : decode cX12_readsLines 62 = .ok (.iconst 0, 1) := by decide +kernel
theorem dX12_readsLines_63 : decode cX12_readsLines 63 = .ok (.istore_n 2, 1) := by decide +kernel
theorem dX12_readsLines_64 : decode cX12_readsLines 64 = .ok (.goto (-37), 3) := by decide +kernel
theorem dX12_readsLines_67 : decode cX12_readsLines 67 = .ok (.aload_n 0, 1) := by decide +kernel
theorem dX12_readsLines_68 : decode cX12_readsLines 68 = .ok (.iconst 0, 1) := by decide +kernel
theorem dX12_readsLines_69 : decode cX12_readsLines 69 = .ok (.putfield 123, 3) := by decide +kernel
theorem dX12_readsLines_72 : decode cX12_readsLines 72 = .ok (.iload_n 2, 1) := by decide +kernel
theorem dX12_readsLines_73 : decode cX12_readsLines 73 = .ok (.ireturn, 1) := by decide +kernel
set_option maxRecDepth 20000 in
set_option maxHeartbeats 4000000 in
theorem m_readsLines (E : xE) (l : Launch) (a : Nat → Nat) (cd : Cd) (hG : Good cd) (ws : va_W) (hW : WX (okM E a cd) ws) (n0 : Nat) (hn0 : 1 ≤ n0 ∧ n0 ≤ 140) : xI E l yX12_readsLines cX12_readsLines 3 (some .boolean) 5 [.ref (a 0), .int (nI n0)] ws (fun r w => WX (okM E a cd) w ∧ keeps ws w (fun q => q = 0 ∨ q = 18 ∨ q = 19 ∨ q = 20 ∨ q = 21) ∧ zb r) := by
  refine xI_start (lv := [(0, .ref (a 0)), (1, .int (nI n0))]) RX12 (by decide) rfl (Nat.le_of_ble_eq_true rfl) rfl (fun p e s m below meth c A C hr hlk => ?_)
  have kp0 : keeps ws ws (fun q => q = 0 ∨ q = 18 ∨ q = 19 ∨ q = 20 ∨ q = 21) := keeps_rf
  obtain ⟨_, k1, n2, n4, n6, v8, v9, v10, n11, n13, n15, n17, v19, v20, v21, v22, n23, n25, v27, bn3, bn5, bn7, bn12, bn14, bn16, bn18, bn24, bn26, zv28, rfl⟩ := hW 0 _ rfl
  obtain ⟨_, k29, f30, rfl⟩ := hW 4 _ rfl
  refine x_aload_n C dX12_readsLines_0 rfl 0 rfl rfl ?_
  refine x_iconst C (v := 0) dX12_readsLines_1 (by decide) rfl ?_
  obtain ⟨w31, hw32⟩ : ∃ w : va_W, w = List.set ws 0 (ob (a 0) 11 [.ref (a 1), .ref (a 2), .ref (a 3), .ref (a 4), .int (nI n2), .int 0, .int (nI n6), .int v8, .int v9, .int v10, .int (nI n11), .int (nI n13), .int (nI n15), .int (nI (cd.2.2.2.2.2)), .ref (a 5), .ref (a 6), .ref (a 7), .ref (a 8), .ref (a 9), .ref (a 10), .ref (a 11), .ref (a 12), .ref (a 13), .ref (a 14), .ref (a 15), .ref (a 16), .ref (a 17), .int (nI n17), .ref (a 18), .ref (a 19), .ref (a 20), .ref (a 21), .int v19, .int v20, .int v21, .int v22, .int (nI n23), .int (nI n25), .ref (a 22), .ref (a 23), .ref (a 24), .ref (a 25), .ref (a 26), .ref (a 27), .ref (a 28), .ref (a 29), .ref (a 30), .int v27]) := ⟨_, rfl⟩
  refine x_put C (ci := 11) (k := 5) (ty := .int) 0 k1 rfl in_X12 tyX12 tyX12_ok nmX12 (by decide) w_1123 rfl rfl rfl rfl (Nat.le_of_ble_eq_true rfl) hw32.symm dX12_readsLines_2 rfl ?_
  have hW33 : WX (okM E a cd) w31 := by rw [hw32]; exact hW.set (k := 0) rfl ⟨n2, 0, n6, v8, v9, v10, n11, n13, n15, n17, v19, v20, v21, v22, n23, n25, v27, by omega, by omega, by omega, by omega, by omega, by omega, by omega, by omega, by omega, zv28, rfl⟩
  have k34 : w31[0]? = some (ob (a 0) 11 [.ref (a 1), .ref (a 2), .ref (a 3), .ref (a 4), .int (nI n2), .int 0, .int (nI n6), .int v8, .int v9, .int v10, .int (nI n11), .int (nI n13), .int (nI n15), .int (nI (cd.2.2.2.2.2)), .ref (a 5), .ref (a 6), .ref (a 7), .ref (a 8), .ref (a 9), .ref (a 10), .ref (a 11), .ref (a 12), .ref (a 13), .ref (a 14), .ref (a 15), .ref (a 16), .ref (a 17), .int (nI n17), .ref (a 18), .ref (a 19), .ref (a 20), .ref (a 21), .int v19, .int v20, .int v21, .int v22, .int (nI n23), .int (nI n25), .ref (a 22), .ref (a 23), .ref (a 24), .ref (a 25), .ref (a 26), .ref (a 27), .ref (a 28), .ref (a 29), .ref (a 30), .int v27]) := by rw [hw32]; exact set_eq k1
  have k35 : w31[4]? = some (bA E (a 4) 260 f30) := by rw [hw32]; exact set_ne k29 (by decide)
  have kp36 := keeps_set kp0 hw32 (by first | exact rfl | decide | omega | (dsimp only; omega))
  refine x_aload_n C dX12_readsLines_5 rfl 0 rfl rfl ?_
  refine x_iload_n C dX12_readsLines_6 rfl 1 rfl rfl ?_
  obtain ⟨w37, hw38⟩ : ∃ w : va_W, w = List.set w31 0 (ob (a 0) 11 [.ref (a 1), .ref (a 2), .ref (a 3), .ref (a 4), .int (nI n2), .int 0, .int (nI n0), .int v8, .int v9, .int v10, .int (nI n11), .int (nI n13), .int (nI n15), .int (nI (cd.2.2.2.2.2)), .ref (a 5), .ref (a 6), .ref (a 7), .ref (a 8), .ref (a 9), .ref (a 10), .ref (a 11), .ref (a 12), .ref (a 13), .ref (a 14), .ref (a 15), .ref (a 16), .ref (a 17), .int (nI n17), .ref (a 18), .ref (a 19), .ref (a 20), .ref (a 21), .int v19, .int v20, .int v21, .int v22, .int (nI n23), .int (nI n25), .ref (a 22), .ref (a 23), .ref (a 24), .ref (a 25), .ref (a 26), .ref (a 27), .ref (a 28), .ref (a 29), .ref (a 30), .int v27]) := ⟨_, rfl⟩
  refine x_put C (ci := 11) (k := 6) (ty := .int) 0 k34 rfl in_X12 tyX12 tyX12_ok nmX12 (by decide) w_1124 rfl rfl rfl rfl (Nat.le_of_ble_eq_true rfl) hw38.symm dX12_readsLines_7 rfl ?_
  have hW39 : WX (okM E a cd) w37 := by rw [hw38]; exact hW33.set (k := 0) rfl ⟨n2, 0, n0, v8, v9, v10, n11, n13, n15, n17, v19, v20, v21, v22, n23, n25, v27, by omega, by omega, by omega, by omega, by omega, by omega, by omega, by omega, by omega, zv28, rfl⟩
  have k40 : w37[0]? = some (ob (a 0) 11 [.ref (a 1), .ref (a 2), .ref (a 3), .ref (a 4), .int (nI n2), .int 0, .int (nI n0), .int v8, .int v9, .int v10, .int (nI n11), .int (nI n13), .int (nI n15), .int (nI (cd.2.2.2.2.2)), .ref (a 5), .ref (a 6), .ref (a 7), .ref (a 8), .ref (a 9), .ref (a 10), .ref (a 11), .ref (a 12), .ref (a 13), .ref (a 14), .ref (a 15), .ref (a 16), .ref (a 17), .int (nI n17), .ref (a 18), .ref (a 19), .ref (a 20), .ref (a 21), .int v19, .int v20, .int v21, .int v22, .int (nI n23), .int (nI n25), .ref (a 22), .ref (a 23), .ref (a 24), .ref (a 25), .ref (a 26), .ref (a 27), .ref (a 28), .ref (a 29), .ref (a 30), .int v27]) := by rw [hw38]; exact set_eq k34
  have k41 : w37[4]? = some (bA E (a 4) 260 f30) := by rw [hw38]; exact set_ne k35 (by decide)
  have kp42 := keeps_set kp36 hw38 (by first | exact rfl | decide | omega | (dsimp only; omega))
  refine x_aload_n C dX12_readsLines_10 rfl 0 rfl rfl ?_
  refine x_iconst C (v := 0) dX12_readsLines_11 (by decide) rfl ?_
  obtain ⟨w43, hw44⟩ : ∃ w : va_W, w = List.set w37 0 (ob (a 0) 11 [.ref (a 1), .ref (a 2), .ref (a 3), .ref (a 4), .int (nI n2), .int 0, .int (nI n0), .int v8, .int v9, .int v10, .int (nI n11), .int (nI n13), .int (nI n15), .int (nI (cd.2.2.2.2.2)), .ref (a 5), .ref (a 6), .ref (a 7), .ref (a 8), .ref (a 9), .ref (a 10), .ref (a 11), .ref (a 12), .ref (a 13), .ref (a 14), .ref (a 15), .ref (a 16), .ref (a 17), .int 0, .ref (a 18), .ref (a 19), .ref (a 20), .ref (a 21), .int v19, .int v20, .int v21, .int v22, .int (nI n23), .int (nI n25), .ref (a 22), .ref (a 23), .ref (a 24), .ref (a 25), .ref (a 26), .ref (a 27), .ref (a 28), .ref (a 29), .ref (a 30), .int v27]) := ⟨_, rfl⟩
  refine x_put C (ci := 11) (k := 27) (ty := .int) 0 k40 rfl in_X12 tyX12 tyX12_ok nmX12 (by decide) w_1145 rfl rfl rfl rfl (Nat.le_of_ble_eq_true rfl) hw44.symm dX12_readsLines_12 rfl ?_
  have hW45 : WX (okM E a cd) w43 := by rw [hw44]; exact hW39.set (k := 0) rfl ⟨n2, 0, n0, v8, v9, v10, n11, n13, n15, 0, v19, v20, v21, v22, n23, n25, v27, by omega, by omega, by omega, by omega, by omega, by omega, by omega, by omega, by omega, zv28, rfl⟩
  have k46 : w43[0]? = some (ob (a 0) 11 [.ref (a 1), .ref (a 2), .ref (a 3), .ref (a 4), .int (nI n2), .int 0, .int (nI n0), .int v8, .int v9, .int v10, .int (nI n11), .int (nI n13), .int (nI n15), .int (nI (cd.2.2.2.2.2)), .ref (a 5), .ref (a 6), .ref (a 7), .ref (a 8), .ref (a 9), .ref (a 10), .ref (a 11), .ref (a 12), .ref (a 13), .ref (a 14), .ref (a 15), .ref (a 16), .ref (a 17), .int 0, .ref (a 18), .ref (a 19), .ref (a 20), .ref (a 21), .int v19, .int v20, .int v21, .int v22, .int (nI n23), .int (nI n25), .ref (a 22), .ref (a 23), .ref (a 24), .ref (a 25), .ref (a 26), .ref (a 27), .ref (a 28), .ref (a 29), .ref (a 30), .int v27]) := by rw [hw44]; exact set_eq k40
  have k47 : w43[4]? = some (bA E (a 4) 260 f30) := by rw [hw44]; exact set_ne k41 (by decide)
  have kp48 := keeps_set kp42 hw44 (by first | exact rfl | decide | omega | (dsimp only; omega))
  refine x_aload_n C dX12_readsLines_15 rfl 0 rfl rfl ?_
  refine x_get C (ci := 11) (k := 28) 0 k46 rfl in_X12 (by decide) w_1146 rfl dX12_readsLines_16 rfl ?_
  refine x_iconst C (v := 0) dX12_readsLines_19 (by decide) rfl ?_
  refine x_iconst C (v := 0) dX12_readsLines_20 (by decide) rfl ?_
  obtain ⟨_, k49, g50, gb51, rfl⟩ := hW45 18 _ rfl
  have gb52 := updn_leF (i := 0) (v := 0) gb51 (by omega)
  obtain ⟨w53, hw54⟩ : ∃ w : va_W, w = List.set w43 18 (iA E (a 18) 25 (upd (fun j => nI (g50 j)) 0 (nI 0))) := ⟨_, rfl⟩
  refine x_iask C 0 (by decide) (by decide) (by decide) 18 k49 hw54.symm dX12_readsLines_21 rfl ?_
  have hW55 : WX (okM E a cd) w53 := by rw [hw54]; exact hW45.set (k := 18) rfl ⟨_, gb52, iA_n (upd_nI g50 0 0)⟩
  have k56 : w53[0]? = some (ob (a 0) 11 [.ref (a 1), .ref (a 2), .ref (a 3), .ref (a 4), .int (nI n2), .int 0, .int (nI n0), .int v8, .int v9, .int v10, .int (nI n11), .int (nI n13), .int (nI n15), .int (nI (cd.2.2.2.2.2)), .ref (a 5), .ref (a 6), .ref (a 7), .ref (a 8), .ref (a 9), .ref (a 10), .ref (a 11), .ref (a 12), .ref (a 13), .ref (a 14), .ref (a 15), .ref (a 16), .ref (a 17), .int 0, .ref (a 18), .ref (a 19), .ref (a 20), .ref (a 21), .int v19, .int v20, .int v21, .int v22, .int (nI n23), .int (nI n25), .ref (a 22), .ref (a 23), .ref (a 24), .ref (a 25), .ref (a 26), .ref (a 27), .ref (a 28), .ref (a 29), .ref (a 30), .int v27]) := by rw [hw54]; exact set_ne k46 (by decide)
  have k57 : w53[4]? = some (bA E (a 4) 260 f30) := by rw [hw54]; exact set_ne k47 (by decide)
  have k58 : w53[18]? = some (iA E (a 18) 25 (upd (fun j => nI (g50 j)) 0 (nI 0))) := by rw [hw54]; exact set_eq k49
  have kp59 := keeps_set kp48 hw54 (by first | exact rfl | decide | omega | (dsimp only; omega))
  have k60 : w53[18]? = some (iA E (a 18) 25 (fun j => nI ((updn g50 0 0) j))) := by rw [← upd_nI]; exact k58
  refine x_aload_n C dX12_readsLines_22 rfl 0 rfl rfl ?_
  refine x_vi C (As := []) (rest := []) (m_readsLine E l a cd hG w53 hW55 n2 0 n0 n11 n13 n15 0 v9 ⟨v8, v10, v19, v20, v21, v22, v27, n23, n25, ⟨by omega, by omega, by omega, by omega, by omega, by omega, by omega⟩, ⟨by omega, by omega⟩, zv28, k56⟩ f30 k57 (by omega)) mf_X12_readsLine w_1403 0 k56 rfl rfl rfl (Nat.le_of_ble_eq_true rfl) ⟨(Nat.le_of_ble_eq_true rfl), (Nat.le_of_ble_eq_true rfl)⟩ ⟨(Nat.le_of_ble_eq_true rfl), (Nat.le_of_ble_eq_true rfl)⟩ dX12_readsLines_23 rfl (fun r62 w63 h61 => ?_)
  obtain ⟨hW64, kq65, zb66, x67⟩ := h61
  have k68 : w63[4]? = some (bA E (a 4) 260 f30) := keeps_at kq65 k57 (by first | decide | omega | (dsimp only; omega))
  have kp69 := keeps_tr kp59 kq65 (fun q hq => by first | omega | (dsimp only at *; omega))
  obtain ⟨pl70, lm71, nu72, hp73, hp74, hp75, mo76⟩ := x67
  obtain ⟨v77, v78, v79, v80, v81, v82, v83, n84, n85, bo86, bo87, zb88, k89⟩ := mo76
  refine x_istore_n C (lv' := [(2, .int r62), (0, .ref (a 0)), (1, .int (nI n0))]) dX12_readsLines_26 rfl (by decide) rfl rfl ?_
  have loop27 : ∀ (fu27 : Nat) (z27_2 : Int32) (tq : Nat) (px : Nat) (cq : Nat) (wq : Nat) (sq : Nat) (lq : Nat) (nz : Int32) (wl27 : va_W), WX (okM E a cd) wl27 → n0 - px < fu27 → MO a cd wl27 tq px n0 cq wq sq lq nz → wl27[4]? = some (bA E (a 4) 260 f30) → px ≤ n0 → zb z27_2 → keeps ws wl27 (fun q => q = 0 ∨ q = 18 ∨ q = 19 ∨ q = 20 ∨ q = 21) → X E p l e (xRm 5 0 0) s m ([.ref (a 0), .int (nI n0)] : List Value).toArray below meth c A 3 0 0 (MQ below (va_Qi (fun r w => WX (okM E a cd) w ∧ keeps ws w (fun q => q = 0 ∨ q = 18 ∨ q = 19 ∨ q = 20 ∨ q = 21) ∧ zb r) (xB E A) A) ([.ref (a 0), .int (nI n0)] : List Value).toArray s 0 0 A) wl27 27 [(0, .ref (a 0)), (1, .int (nI n0)), (2, .int z27_2)] [] := by
    intro fu27
    induction fu27 with
    | zero => intro z27_2 tq px cq wq sq lq nz wl27 _ q; omega
    | succ fu27 ih27 =>
      intro z27_2 tq px cq wq sq lq nz wl27 hWl27 me27 iv27_0 iv27_1 iv27_2 iv27_3 kq27
      obtain ⟨v90, v91, v92, v93, v94, v95, v96, n97, n98, bo99, bo100, zb101, k102⟩ := iv27_0
      refine x_iload_n C dX12_readsLines_27 rfl 2 rfl rfl ?_
      refine x_if_eq C (tgt := 67) dX12_readsLines_28 (by decide) rfl (fun c103 => ?_) (fun c103 => ?_)
      · skip
        refine x_aload_n C dX12_readsLines_67 rfl 0 rfl rfl ?_
        refine x_iconst C (v := 0) dX12_readsLines_68 (by decide) rfl ?_
        obtain ⟨w104, hw105⟩ : ∃ w : va_W, w = List.set wl27 0 (ob (a 0) 11 [.ref (a 1), .ref (a 2), .ref (a 3), .ref (a 4), .int 0, .int (nI px), .int (nI n0), .int v90, .int nz, .int v91, .int (nI cq), .int (nI wq), .int (nI sq), .int (nI (cd.2.2.2.2.2)), .ref (a 5), .ref (a 6), .ref (a 7), .ref (a 8), .ref (a 9), .ref (a 10), .ref (a 11), .ref (a 12), .ref (a 13), .ref (a 14), .ref (a 15), .ref (a 16), .ref (a 17), .int (nI lq), .ref (a 18), .ref (a 19), .ref (a 20), .ref (a 21), .int v92, .int v93, .int v94, .int v95, .int (nI n97), .int (nI n98), .ref (a 22), .ref (a 23), .ref (a 24), .ref (a 25), .ref (a 26), .ref (a 27), .ref (a 28), .ref (a 29), .ref (a 30), .int v96]) := ⟨_, rfl⟩
        refine x_put C (ci := 11) (k := 4) (ty := .int) 0 k102 rfl in_X12 tyX12 tyX12_ok nmX12 (by decide) w_1122 rfl rfl rfl rfl (Nat.le_of_ble_eq_true rfl) hw105.symm dX12_readsLines_69 rfl ?_
        have hW106 : WX (okM E a cd) w104 := by rw [hw105]; exact hWl27.set (k := 0) rfl ⟨0, px, n0, v90, nz, v91, cq, wq, sq, lq, v92, v93, v94, v95, n97, n98, v96, by omega, by omega, by omega, by omega, by omega, by omega, by omega, by omega, by omega, zb101, rfl⟩
        have k107 : w104[0]? = some (ob (a 0) 11 [.ref (a 1), .ref (a 2), .ref (a 3), .ref (a 4), .int 0, .int (nI px), .int (nI n0), .int v90, .int nz, .int v91, .int (nI cq), .int (nI wq), .int (nI sq), .int (nI (cd.2.2.2.2.2)), .ref (a 5), .ref (a 6), .ref (a 7), .ref (a 8), .ref (a 9), .ref (a 10), .ref (a 11), .ref (a 12), .ref (a 13), .ref (a 14), .ref (a 15), .ref (a 16), .ref (a 17), .int (nI lq), .ref (a 18), .ref (a 19), .ref (a 20), .ref (a 21), .int v92, .int v93, .int v94, .int v95, .int (nI n97), .int (nI n98), .ref (a 22), .ref (a 23), .ref (a 24), .ref (a 25), .ref (a 26), .ref (a 27), .ref (a 28), .ref (a 29), .ref (a 30), .int v96]) := by rw [hw105]; exact set_eq k102
        have k108 : w104[4]? = some (bA E (a 4) 260 f30) := by rw [hw105]; exact set_ne iv27_1 (by decide)
        have kp109 := keeps_set kq27 hw105 (by first | exact rfl | decide | omega | (dsimp only; omega))
        refine x_iload_n C dX12_readsLines_72 rfl 2 rfl rfl ?_
        exact x_zret C hr hlk (zb_nar iv27_3) dX12_readsLines_73 ⟨hW106, kp109, iv27_3⟩
      · skip
        refine x_aload_n C dX12_readsLines_31 rfl 0 rfl rfl ?_
        refine x_get C (ci := 11) (k := 5) 0 k102 rfl in_X12 (by decide) w_1123 rfl dX12_readsLines_32 rfl ?_
        refine x_aload_n C dX12_readsLines_35 rfl 0 rfl rfl ?_
        refine x_get C (ci := 11) (k := 6) 0 k102 rfl in_X12 (by decide) w_1124 rfl dX12_readsLines_36 rfl ?_
        refine x_icmp_ge C (tgt := 67) dX12_readsLines_39 (by decide) rfl (fun c110 => ?_) (fun c110 => ?_)
        · skip
          have nf111 := nI_le' (a := n0) (b := px) c110 (by omega) (by omega)
          refine x_aload_n C dX12_readsLines_67 rfl 0 rfl rfl ?_
          refine x_iconst C (v := 0) dX12_readsLines_68 (by decide) rfl ?_
          obtain ⟨w112, hw113⟩ : ∃ w : va_W, w = List.set wl27 0 (ob (a 0) 11 [.ref (a 1), .ref (a 2), .ref (a 3), .ref (a 4), .int 0, .int (nI px), .int (nI n0), .int v90, .int nz, .int v91, .int (nI cq), .int (nI wq), .int (nI sq), .int (nI (cd.2.2.2.2.2)), .ref (a 5), .ref (a 6), .ref (a 7), .ref (a 8), .ref (a 9), .ref (a 10), .ref (a 11), .ref (a 12), .ref (a 13), .ref (a 14), .ref (a 15), .ref (a 16), .ref (a 17), .int (nI lq), .ref (a 18), .ref (a 19), .ref (a 20), .ref (a 21), .int v92, .int v93, .int v94, .int v95, .int (nI n97), .int (nI n98), .ref (a 22), .ref (a 23), .ref (a 24), .ref (a 25), .ref (a 26), .ref (a 27), .ref (a 28), .ref (a 29), .ref (a 30), .int v96]) := ⟨_, rfl⟩
          refine x_put C (ci := 11) (k := 4) (ty := .int) 0 k102 rfl in_X12 tyX12 tyX12_ok nmX12 (by decide) w_1122 rfl rfl rfl rfl (Nat.le_of_ble_eq_true rfl) hw113.symm dX12_readsLines_69 rfl ?_
          have hW114 : WX (okM E a cd) w112 := by rw [hw113]; exact hWl27.set (k := 0) rfl ⟨0, px, n0, v90, nz, v91, cq, wq, sq, lq, v92, v93, v94, v95, n97, n98, v96, by omega, by omega, by omega, by omega, by omega, by omega, by omega, by omega, by omega, zb101, rfl⟩
          have k115 : w112[0]? = some (ob (a 0) 11 [.ref (a 1), .ref (a 2), .ref (a 3), .ref (a 4), .int 0, .int (nI px), .int (nI n0), .int v90, .int nz, .int v91, .int (nI cq), .int (nI wq), .int (nI sq), .int (nI (cd.2.2.2.2.2)), .ref (a 5), .ref (a 6), .ref (a 7), .ref (a 8), .ref (a 9), .ref (a 10), .ref (a 11), .ref (a 12), .ref (a 13), .ref (a 14), .ref (a 15), .ref (a 16), .ref (a 17), .int (nI lq), .ref (a 18), .ref (a 19), .ref (a 20), .ref (a 21), .int v92, .int v93, .int v94, .int v95, .int (nI n97), .int (nI n98), .ref (a 22), .ref (a 23), .ref (a 24), .ref (a 25), .ref (a 26), .ref (a 27), .ref (a 28), .ref (a 29), .ref (a 30), .int v96]) := by rw [hw113]; exact set_eq k102
          have k116 : w112[4]? = some (bA E (a 4) 260 f30) := by rw [hw113]; exact set_ne iv27_1 (by decide)
          have kp117 := keeps_set kq27 hw113 (by first | exact rfl | decide | omega | (dsimp only; omega))
          refine x_iload_n C dX12_readsLines_72 rfl 2 rfl rfl ?_
          exact x_zret C hr hlk (zb_nar iv27_3) dX12_readsLines_73 ⟨hW114, kp117, iv27_3⟩
        · skip
          have nf118 := nI_nle' (a := n0) (b := px) c110 (by omega) (by omega)
          refine x_aload_n C dX12_readsLines_42 rfl 0 rfl rfl ?_
          refine x_bipush C (v := 44) dX12_readsLines_43 (by decide) rfl ?_
          refine x_vi C (As := [.int 44]) (rest := []) (m_takes44 E l a cd hG wl27 hWl27 tq px n0 cq wq sq lq nz ⟨v90, v91, v92, v93, v94, v95, v96, n97, n98, ⟨by omega, by omega, by omega, by omega, by omega, by omega, by omega⟩, ⟨by omega, by omega⟩, zb101, k102⟩ f30 iv27_1) mf_X12_takes w_1391 0 k102 rfl rfl rfl (Nat.le_of_ble_eq_true rfl) ⟨(Nat.le_of_ble_eq_true rfl), (Nat.le_of_ble_eq_true rfl)⟩ ⟨(Nat.le_of_ble_eq_true rfl), (Nat.le_of_ble_eq_true rfl)⟩ dX12_readsLines_45 rfl (fun r120 w121 h119 => ?_)
          obtain ⟨hW122, kq123, zb124, x125⟩ := h119
          have k126 : w121[4]? = some (bA E (a 4) 260 f30) := keeps_at kq123 iv27_1 (by first | decide | omega | (dsimp only; omega))
          have kp127 := keeps_tr kq27 kq123 (fun q hq => by first | omega | (dsimp only at *; omega))
          rcases x125 with ⟨e128, mo129⟩ | ⟨e130, hp131, mo132⟩
          · refine x_top e128 ?_
            obtain ⟨v133, v134, v135, v136, v137, v138, v139, n140, n141, bo142, bo143, zb144, k145⟩ := mo129
            refine x_if_eq C (tgt := 62) dX12_readsLines_48 (by decide) rfl (fun _ => ?_) (fun h => absurd h (by decide))
            refine x_iconst C (v := 0) dX12_readsLines_62 (by decide) rfl ?_
            refine x_istore_n C (lv' := [(2, .int 0), (0, .ref (a 0)), (1, .int (nI n0))]) dX12_readsLines_63 rfl (by decide) rfl rfl ?_
            refine x_goto C (tgt := 27) dX12_readsLines_64 (by decide) ?_
            refine x_iload_n C dX12_readsLines_27 rfl 0 rfl rfl ?_
            refine x_if_eq C (tgt := 67) dX12_readsLines_28 (by decide) rfl (fun _ => ?_) (fun h => absurd h (by decide))
            refine x_aload_n C dX12_readsLines_67 rfl 1 rfl rfl ?_
            refine x_iconst C (v := 0) dX12_readsLines_68 (by decide) rfl ?_
            obtain ⟨w146, hw147⟩ : ∃ w : va_W, w = List.set w121 0 (ob (a 0) 11 [.ref (a 1), .ref (a 2), .ref (a 3), .ref (a 4), .int 0, .int (nI px), .int (nI n0), .int v133, .int nz, .int v134, .int (nI cq), .int (nI wq), .int (nI sq), .int (nI (cd.2.2.2.2.2)), .ref (a 5), .ref (a 6), .ref (a 7), .ref (a 8), .ref (a 9), .ref (a 10), .ref (a 11), .ref (a 12), .ref (a 13), .ref (a 14), .ref (a 15), .ref (a 16), .ref (a 17), .int (nI lq), .ref (a 18), .ref (a 19), .ref (a 20), .ref (a 21), .int v135, .int v136, .int v137, .int v138, .int (nI n140), .int (nI n141), .ref (a 22), .ref (a 23), .ref (a 24), .ref (a 25), .ref (a 26), .ref (a 27), .ref (a 28), .ref (a 29), .ref (a 30), .int v139]) := ⟨_, rfl⟩
            refine x_put C (ci := 11) (k := 4) (ty := .int) 0 k145 rfl in_X12 tyX12 tyX12_ok nmX12 (by decide) w_1122 rfl rfl rfl rfl (Nat.le_of_ble_eq_true rfl) hw147.symm dX12_readsLines_69 rfl ?_
            have hW148 : WX (okM E a cd) w146 := by rw [hw147]; exact hW122.set (k := 0) rfl ⟨0, px, n0, v133, nz, v134, cq, wq, sq, lq, v135, v136, v137, v138, n140, n141, v139, by omega, by omega, by omega, by omega, by omega, by omega, by omega, by omega, by omega, zb144, rfl⟩
            have k149 : w146[4]? = some (bA E (a 4) 260 f30) := by rw [hw147]; exact set_ne k126 (by decide)
            have k150 : w146[0]? = some (ob (a 0) 11 [.ref (a 1), .ref (a 2), .ref (a 3), .ref (a 4), .int 0, .int (nI px), .int (nI n0), .int v133, .int nz, .int v134, .int (nI cq), .int (nI wq), .int (nI sq), .int (nI (cd.2.2.2.2.2)), .ref (a 5), .ref (a 6), .ref (a 7), .ref (a 8), .ref (a 9), .ref (a 10), .ref (a 11), .ref (a 12), .ref (a 13), .ref (a 14), .ref (a 15), .ref (a 16), .ref (a 17), .int (nI lq), .ref (a 18), .ref (a 19), .ref (a 20), .ref (a 21), .int v135, .int v136, .int v137, .int v138, .int (nI n140), .int (nI n141), .ref (a 22), .ref (a 23), .ref (a 24), .ref (a 25), .ref (a 26), .ref (a 27), .ref (a 28), .ref (a 29), .ref (a 30), .int v139]) := by rw [hw147]; exact set_eq k145
            have kp151 := keeps_set kp127 hw147 (by first | exact rfl | decide | omega | (dsimp only; omega))
            refine x_iload_n C dX12_readsLines_72 rfl 0 rfl rfl ?_
            exact x_zret C hr hlk rfl dX12_readsLines_73 ⟨hW148, kp151, (Or.inl rfl)⟩
          · refine x_top e130 ?_
            obtain ⟨v152, v153, v154, v155, v156, v157, v158, n159, n160, bo161, bo162, zb163, k164⟩ := mo132
            refine x_if_eq C (tgt := 62) dX12_readsLines_48 (by decide) rfl (fun h => absurd h (by decide)) (fun _ => ?_)
            refine x_aload_n C dX12_readsLines_51 rfl 0 rfl rfl ?_
            refine x_vi C (As := []) (rest := []) (m_readsLine E l a cd hG w121 hW122 tq (px + 1) n0 cq wq sq lq nz ⟨v152, v153, v154, v155, v156, v157, v158, n159, n160, ⟨by omega, by omega, by omega, by omega, by omega, by omega, by omega⟩, ⟨by omega, by omega⟩, zb163, k164⟩ f30 k126 (by omega)) mf_X12_readsLine w_1403 0 k164 rfl rfl rfl (Nat.le_of_ble_eq_true rfl) ⟨(Nat.le_of_ble_eq_true rfl), (Nat.le_of_ble_eq_true rfl)⟩ ⟨(Nat.le_of_ble_eq_true rfl), (Nat.le_of_ble_eq_true rfl)⟩ dX12_readsLines_52 rfl (fun r166 w167 h165 => ?_)
            obtain ⟨hW168, kq169, zb170, x171⟩ := h165
            have k172 : w167[4]? = some (bA E (a 4) 260 f30) := keeps_at kq169 k126 (by first | decide | omega | (dsimp only; omega))
            have kp173 := keeps_tr kp127 kq169 (fun q hq => by first | omega | (dsimp only at *; omega))
            obtain ⟨pl174, lm175, nu176, hp177, hp178, hp179, mo180⟩ := x171
            obtain ⟨v181, v182, v183, v184, v185, v186, v187, n188, n189, bo190, bo191, zb192, k193⟩ := mo180
            refine x_if_eq C (tgt := 62) dX12_readsLines_55 (by decide) rfl (fun c194 => ?_) (fun c194 => ?_)
            · skip
              refine x_iconst C (v := 0) dX12_readsLines_62 (by decide) rfl ?_
              refine x_istore_n C (lv' := [(2, .int 0), (0, .ref (a 0)), (1, .int (nI n0))]) dX12_readsLines_63 rfl (by decide) rfl rfl ?_
              refine x_goto C (tgt := 27) dX12_readsLines_64 (by decide) ?_
              refine x_iload_n C dX12_readsLines_27 rfl 0 rfl rfl ?_
              refine x_if_eq C (tgt := 67) dX12_readsLines_28 (by decide) rfl (fun _ => ?_) (fun h => absurd h (by decide))
              refine x_aload_n C dX12_readsLines_67 rfl 1 rfl rfl ?_
              refine x_iconst C (v := 0) dX12_readsLines_68 (by decide) rfl ?_
              obtain ⟨w195, hw196⟩ : ∃ w : va_W, w = List.set w167 0 (ob (a 0) 11 [.ref (a 1), .ref (a 2), .ref (a 3), .ref (a 4), .int 0, .int (nI pl174), .int (nI n0), .int v181, .int nu176, .int v182, .int (nI cq), .int (nI wq), .int (nI sq), .int (nI (cd.2.2.2.2.2)), .ref (a 5), .ref (a 6), .ref (a 7), .ref (a 8), .ref (a 9), .ref (a 10), .ref (a 11), .ref (a 12), .ref (a 13), .ref (a 14), .ref (a 15), .ref (a 16), .ref (a 17), .int (nI lm175), .ref (a 18), .ref (a 19), .ref (a 20), .ref (a 21), .int v183, .int v184, .int v185, .int v186, .int (nI n188), .int (nI n189), .ref (a 22), .ref (a 23), .ref (a 24), .ref (a 25), .ref (a 26), .ref (a 27), .ref (a 28), .ref (a 29), .ref (a 30), .int v187]) := ⟨_, rfl⟩
              refine x_put C (ci := 11) (k := 4) (ty := .int) 0 k193 rfl in_X12 tyX12 tyX12_ok nmX12 (by decide) w_1122 rfl rfl rfl rfl (Nat.le_of_ble_eq_true rfl) hw196.symm dX12_readsLines_69 rfl ?_
              have hW197 : WX (okM E a cd) w195 := by rw [hw196]; exact hW168.set (k := 0) rfl ⟨0, pl174, n0, v181, nu176, v182, cq, wq, sq, lm175, v183, v184, v185, v186, n188, n189, v187, by omega, by omega, by omega, by omega, by omega, by omega, by omega, by omega, by omega, zb192, rfl⟩
              have k198 : w195[4]? = some (bA E (a 4) 260 f30) := by rw [hw196]; exact set_ne k172 (by decide)
              have k199 : w195[0]? = some (ob (a 0) 11 [.ref (a 1), .ref (a 2), .ref (a 3), .ref (a 4), .int 0, .int (nI pl174), .int (nI n0), .int v181, .int nu176, .int v182, .int (nI cq), .int (nI wq), .int (nI sq), .int (nI (cd.2.2.2.2.2)), .ref (a 5), .ref (a 6), .ref (a 7), .ref (a 8), .ref (a 9), .ref (a 10), .ref (a 11), .ref (a 12), .ref (a 13), .ref (a 14), .ref (a 15), .ref (a 16), .ref (a 17), .int (nI lm175), .ref (a 18), .ref (a 19), .ref (a 20), .ref (a 21), .int v183, .int v184, .int v185, .int v186, .int (nI n188), .int (nI n189), .ref (a 22), .ref (a 23), .ref (a 24), .ref (a 25), .ref (a 26), .ref (a 27), .ref (a 28), .ref (a 29), .ref (a 30), .int v187]) := by rw [hw196]; exact set_eq k193
              have kp200 := keeps_set kp173 hw196 (by first | exact rfl | decide | omega | (dsimp only; omega))
              refine x_iload_n C dX12_readsLines_72 rfl 0 rfl rfl ?_
              exact x_zret C hr hlk rfl dX12_readsLines_73 ⟨hW197, kp200, (Or.inl rfl)⟩
            · skip
              refine x_iconst C (v := 1) dX12_readsLines_58 (by decide) rfl ?_
              refine x_goto C (tgt := 63) dX12_readsLines_59 (by decide) ?_
              refine x_istore_n C (lv' := [(2, .int 1), (0, .ref (a 0)), (1, .int (nI n0))]) dX12_readsLines_63 rfl (by decide) rfl rfl ?_
              refine x_goto C (tgt := 27) dX12_readsLines_64 (by decide) ?_
              refine x_lv (lv1 := [(0, .ref (a 0)), (1, .int (nI n0)), (2, .int 1)]) [1, 2, 0] rfl ?_
              exact ih27 (1 : Int32) tq pl174 cq wq sq lm175 nu176 w167 hW168 (by omega) ⟨v181, v182, v183, v184, v185, v186, v187, n188, n189, ⟨by omega, by omega, by omega, by omega, by omega, by omega, by omega⟩, ⟨by omega, by omega⟩, zb192, k193⟩ k172 (by omega) (Or.inr rfl) kp173
  refine x_lv (lv1 := [(0, .ref (a 0)), (1, .int (nI n0)), (2, .int r62)]) [1, 2, 0] rfl ?_
  exact loop27 _ r62 n2 pl70 n11 n13 n15 lm71 nu72 w63 hW64 (Nat.lt_succ_self _) ⟨v77, v78, v79, v80, v81, v82, v83, n84, n85, ⟨by omega, by omega, by omega, by omega, by omega, by omega, by omega⟩, ⟨by omega, by omega⟩, zb88, k89⟩ k68 (by omega) zb66 kp69
theorem dX12_canBe_0 : decode cX12_canBe 0 = .ok (.aload_n 0, 1) := by decide +kernel
theorem dX12_canBe_1 : decode cX12_canBe 1 = .ok (.getfield 68, 3) := by decide +kernel
theorem dX12_canBe_4 : decode cX12_canBe 4 = .ok (.iload_n 1, 1) := by decide +kernel
theorem dX12_canBe_5 : decode cX12_canBe 5 = .ok (.iaload, 1) := by decide +kernel
theorem dX12_canBe_6 : decode cX12_canBe 6 = .ok (.istore_n 2, 1) := by decide +kernel
theorem dX12_canBe_7 : decode cX12_canBe 7 = .ok (.aload_n 0, 1) := by decide +kernel
theorem dX12_canBe_8 : decode cX12_canBe 8 = .ok (.getfield 65, 3) := by decide +kernel
theorem dX12_canBe_11 : decode cX12_canBe 11 = .ok (.iload_n 1, 1) := by decide +kernel
theorem dX12_canBe_12 : decode cX12_canBe 12 = .ok (.iaload, 1) := by decide +kernel
theorem dX12_canBe_13 : decode cX12_canBe 13 = .ok (.bipush 62, 2) := by decide +kernel
theorem dX12_canBe_15 : decode cX12_canBe 15 = .ok (.if_icmp .ne 11, 3) := by decide +kernel
theorem dX12_canBe_18 : decode cX12_canBe 18 = .ok (.aload_n 0, 1) := by decide +kernel
theorem dX12_canBe_19 : decode cX12_canBe 19 = .ok (.iload_n 2, 1) := by decide +kernel
theorem dX12_canBe_20 : decode cX12_canBe 20 = .ok (.invokevirtual 113, 3) := by decide +kernel
theorem dX12_canBe_23 : decode cX12_canBe 23 = .ok (.ifCond .eq 30, 3) := by decide +kernel
theorem dX12_canBe_26 : decode cX12_canBe 26 = .ok (.aload_n 0, 1) := by decide +kernel
theorem dX12_canBe_27 : decode cX12_canBe 27 = .ok (.getfield 65, 3) := by decide +kernel
theorem dX12_canBe_30 : decode cX12_canBe 30 = .ok (.iload_n 1, 1) := by decide +kernel
theorem dX12_canBe_31 : decode cX12_canBe 31 = .ok (.iaload, 1) := by decide +kernel
theorem dX12_canBe_32 : decode cX12_canBe 32 = .ok (.bipush 33, 2) := by decide +kernel
theorem dX12_canBe_34 : decode cX12_canBe 34 = .ok (.if_icmp .ne 21, 3) := by decide +kernel
theorem dX12_canBe_37 : decode cX12_canBe 37 = .ok (.aload_n 0, 1) := by decide +kernel
theorem dX12_canBe_38 : decode cX12_canBe 38 = .ok (.iload_n 2, 1) := by decide +kernel
theorem dX12_canBe_39 : decode cX12_canBe 39 = .ok (.invokevirtual 262, 3) := by decide +kernel
theorem dX12_canBe_42 : decode cX12_canBe 42 = .ok (.ifCond .eq 11, 3) := by decide +kernel
theorem dX12_canBe_45 : decode cX12_canBe 45 = .ok (.aload_n 0, 1) := by decide +kernel
theorem dX12_canBe_46 : decode cX12_canBe 46 = .ok (.iload_n 2, 1) := by decide +kernel
theorem dX12_canBe_47 : decode cX12_canBe 47 = .ok (.invokevirtual 265, 3) := by decide +kernel
theorem dX12_canBe_50 : decode cX12_canBe 50 = .ok (.ifCond .eq 5, 3) := by decide +kernel
theorem dX12_canBe_53 : decode cX12_canBe 53 = .ok (.iconst 0, 1) := by decide +kernel
theorem dX12_canBe_54 : decode cX12_canBe 54 = .ok (.ireturn, 1) := by decide +kernel
theorem dX12_canBe_55 : decode cX12_canBe 55 = .ok (.aload_n 0, 1) := by decide +kernel
theorem dX12_canBe_56 : decode cX12_canBe 56 = .ok (.getfield 62, 3) := by decide +kernel
theorem dX12_canBe_59 : decode cX12_canBe 59 = .ok (.iload_n 1, 1) := by decide +kernel
theorem dX12_canBe_60 : decode cX12_canBe 60 = .ok (.iaload, 1) := by decide +kernel
theorem dX12_canBe_61 : decode cX12_canBe 61 = .ok (.istore_n 3, 1) := by decide +kernel
theorem dX12_canBe_62 : decode cX12_canBe 62 = .ok (.iload_n 3, 1) := by decide +kernel
theorem dX12_canBe_63 : decode cX12_canBe 63 = .ok (.aload_n 0, 1) := by decide +kernel
theorem dX12_canBe_64 : decode cX12_canBe 64 = .ok (.getfield 62, 3) := by decide +kernel
theorem dX12_canBe_67 : decode cX12_canBe 67 = .ok (.iload_n 1, 1) := by decide +kernel
theorem dX12_canBe_68 : decode cX12_canBe 68 = .ok (.iconst 1, 1) := by decide +kernel
theorem dX12_canBe_69 : decode cX12_canBe 69 = .ok (.iadd, 1) := by decide +kernel
theorem dX12_canBe_70 : decode cX12_canBe 70 = .ok (.iaload, 1) := by decide +kernel
theorem dX12_canBe_71 : decode cX12_canBe 71 = .ok (.if_icmp .ge 83, 3) := by decide +kernel
theorem dX12_canBe_74 : decode cX12_canBe 74 = .ok (.aload_n 0, 1) := by decide +kernel
theorem dX12_canBe_75 : decode cX12_canBe 75 = .ok (.getfield 71, 3) := by decide +kernel
theorem dX12_canBe_78 : decode cX12_canBe 78 = .ok (.iload_n 3, 1) := by decide +kernel
theorem dX12_canBe_79 : decode cX12_canBe 79 = .ok (.iaload, 1) := by decide +kernel
theorem dX12_canBe_80 : decode cX12_canBe 80 = .ok (.istore 4, 2) := by decide +kernel
theorem dX12_canBe_82 : decode cX12_canBe 82 = .ok (.aload_n 0, 1) := by decide +kernel
theorem dX12_canBe_83 : decode cX12_canBe 83 = .ok (.iload 4, 2) := by decide +kernel
theorem dX12_canBe_85 : decode cX12_canBe 85 = .ok (.invokevirtual 268, 3) := by decide +kernel
theorem dX12_canBe_88 : decode cX12_canBe 88 = .ok (.ifCond .ne 5, 3) := by decide +kernel
theorem dX12_canBe_91 : decode cX12_canBe 91 = .ok (.iconst 0, 1) := by decide +kernel
theorem dX12_canBe_92 : decode cX12_canBe 92 = .ok (.ireturn, 1) := by decide +kernel
theorem dX12_canBe_93 : decode cX12_canBe 93 = .ok (.aload_n 0, 1) := by decide +kernel
theorem dX12_canBe_94 : decode cX12_canBe 94 = .ok (.getfield 65, 3) := by decide +kernel
theorem dX12_canBe_97 : decode cX12_canBe 97 = .ok (.iload_n 1, 1) := by decide +kernel
theorem dX12_canBe_98 : decode cX12_canBe 98 = .ok (.iaload, 1) := by decide +kernel
theorem dX12_canBe_99 : decode cX12_canBe 99 = .ok (.bipush 62, 2) := by decide +kernel
theorem dX12_canBe_101 : decode cX12_canBe 101 = .ok (.if_icmp .ne 18, 3) := by decide +kernel
theorem dX12_canBe_104 : decode cX12_canBe 104 = .ok (.aload_n 0, 1) := by decide +kernel
theorem dX12_canBe_105 : decode cX12_canBe 105 = .ok (.getfield 7, 3) := by decide +kernel
theorem dX12_canBe_108 : decode cX12_canBe 108 = .ok (.sipush 144, 3) := by decide +kernel
theorem dX12_canBe_111 : decode cX12_canBe 111 = .ok (.iload 4, 2) := by decide +kernel
theorem dX12_canBe_113 : decode cX12_canBe 113 = .ok (.iadd, 1) := by decide +kernel
theorem dX12_canBe_114 : decode cX12_canBe 114 = .ok (.iaload, 1) := by decide +kernel
theorem dX12_canBe_115 : decode cX12_canBe 115 = .ok (.iload_n 2, 1) := by decide +kernel
theorem dX12_canBe_116 : decode cX12_canBe 116 = .ok (.if_icmp .eq 30, 3) := by decide +kernel
theorem dX12_canBe_119 : decode cX12_canBe 119 = .ok (.aload_n 0, 1) := by decide +kernel
theorem dX12_canBe_120 : decode cX12_canBe 120 = .ok (.getfield 65, 3) := by decide +kernel
theorem dX12_canBe_123 : decode cX12_canBe 123 = .ok (.iload_n 1, 1) := by decide +kernel
theorem dX12_canBe_124 : decode cX12_canBe 124 = .ok (.iaload, 1) := by decide +kernel
theorem dX12_canBe_125 : decode cX12_canBe 125 = .ok (.bipush 42, 2) := by decide +kernel
theorem dX12_canBe_127 : decode cX12_canBe 127 = .ok (.if_icmp .ne 21, 3) := by decide +kernel
theorem dX12_canBe_130 : decode cX12_canBe 130 = .ok (.aload_n 0, 1) := by decide +kernel
theorem dX12_canBe_131 : decode cX12_canBe 131 = .ok (.getfield 7, 3) := by decide +kernel
theorem dX12_canBe_134 : decode cX12_canBe 134 = .ok (.sipush 192, 3) := by decide +kernel
theorem dX12_canBe_137 : decode cX12_canBe 137 = .ok (.iload 4, 2) := by decide +kernel
theorem dX12_canBe_139 : decode cX12_canBe 139 = .ok (.iadd, 1) := by decide +kernel
theorem dX12_canBe_140 : decode cX12_canBe 140 = .ok (.iaload, 1) := by decide +kernel
theorem dX12_canBe_141 : decode cX12_canBe 141 = .ok (.bipush 9, 2) := by decide +kernel
theorem dX12_canBe_143 : decode cX12_canBe 143 = .ok (.if_icmp .ne 5, 3) := by decide +kernel
theorem dX12_canBe_146 : decode cX12_canBe 146 = .ok (.iconst 0, 1) := by decide +kernel
theorem dX12_canBe_147 : decode cX12_canBe 147 = .ok (.ireturn, 1) := by decide +kernel
theorem dX12_canBe_148 : decode cX12_canBe 148 = .ok (.iinc 3 1, 3) := by decide +kernel
theorem dX12_canBe_151 : decode cX12_canBe 151 = .ok (.goto (-89), 3) := by decide +kernel
theorem dX12_canBe_154 : decode cX12_canBe 154 = .ok (.iconst 1, 1) := by decide +kernel
theorem dX12_canBe_155 : decode cX12_canBe 155 = .ok (.ireturn, 1) := by decide +kernel
set_option maxRecDepth 20000 in
set_option maxHeartbeats 4000000 in
theorem m_canBe (E : xE) (l : Launch) (a : Nat → Nat) (cd : Cd) (hG : Good cd) (ws : va_W) (hW : WX (okM E a cd) ws) (l0 : Nat) (hl0 : l0 ≤ 23) : xI E l yX12_canBe cX12_canBe 5 (some .boolean) 2 [.ref (a 0), .int (nI l0)] ws (fun r w => w = ws ∧ zb r) := by
  refine xI_start (lv := [(0, .ref (a 0)), (1, .int (nI l0))]) RX12 (by decide) rfl (Nat.le_of_ble_eq_true rfl) rfl (fun p e s m below meth c A C hr hlk => ?_)
  refine x_aload_n C dX12_canBe_0 rfl 0 rfl rfl ?_
  obtain ⟨_, k1, n2, n4, n6, v8, v9, v10, n11, n13, n15, n17, v19, v20, v21, v22, n23, n25, v27, bn3, bn5, bn7, bn12, bn14, bn16, bn18, bn24, bn26, zv28, rfl⟩ := hW 0 _ rfl
  refine x_get C (ci := 11) (k := 30) 0 k1 rfl in_X12 (by decide) w_1148 rfl dX12_canBe_1 rfl ?_
  refine x_iload_n C dX12_canBe_4 rfl 1 rfl rfl ?_
  obtain ⟨_, k29, g30, gb31, rfl⟩ := hW 20 _ rfl
  refine x_ialk C (v := nI (g30 l0)) l0 (nI_clamp (by omega)) (nI_pos (by omega)) (by omega) 20 k29 rfl dX12_canBe_5 rfl ?_
  have bx32 := gb31 l0
  refine x_istore_n C (lv' := [(2, .int (nI (g30 l0))), (0, .ref (a 0)), (1, .int (nI l0))]) dX12_canBe_6 rfl (by decide) rfl rfl ?_
  refine x_aload_n C dX12_canBe_7 rfl 1 rfl rfl ?_
  refine x_get C (ci := 11) (k := 29) 0 k1 rfl in_X12 (by decide) w_1147 rfl dX12_canBe_8 rfl ?_
  refine x_iload_n C dX12_canBe_11 rfl 2 rfl rfl ?_
  obtain ⟨_, k33, f34, rfl⟩ := hW 19 _ rfl
  refine x_iald C (v := (f34 (nI l0).toNatClampNeg)) 19 k33 (vp_in_nI (by omega) (by decide)) rfl dX12_canBe_12 rfl ?_
  refine x_any (fun v35 => ?_)
  refine x_bipush C (v := 62) dX12_canBe_13 (by decide) rfl ?_
  refine x_icmp_ne C (tgt := 26) dX12_canBe_15 (by decide) rfl (fun c36 => ?_) (fun c36 => ?_)
  · skip
    refine x_aload_n C dX12_canBe_26 rfl 1 rfl rfl ?_
    refine x_get C (ci := 11) (k := 29) 0 k1 rfl in_X12 (by decide) w_1147 rfl dX12_canBe_27 rfl ?_
    refine x_iload_n C dX12_canBe_30 rfl 2 rfl rfl ?_
    refine x_iald C (v := (f34 (nI l0).toNatClampNeg)) 19 k33 (vp_in_nI (by omega) (by decide)) rfl dX12_canBe_31 rfl ?_
    refine x_any (fun v37 => ?_)
    refine x_bipush C (v := 33) dX12_canBe_32 (by decide) rfl ?_
    refine x_icmp_ne C (tgt := 55) dX12_canBe_34 (by decide) rfl (fun c38 => ?_) (fun c38 => ?_)
    · skip
      refine x_aload_n C dX12_canBe_55 rfl 1 rfl rfl ?_
      refine x_get C (ci := 11) (k := 28) 0 k1 rfl in_X12 (by decide) w_1146 rfl dX12_canBe_56 rfl ?_
      refine x_iload_n C dX12_canBe_59 rfl 2 rfl rfl ?_
      obtain ⟨_, k39, g40, gb41, rfl⟩ := hW 18 _ rfl
      refine x_ialk C (v := nI (g40 l0)) l0 (nI_clamp (by omega)) (nI_pos (by omega)) (by omega) 18 k39 rfl dX12_canBe_60 rfl ?_
      have bx42 := gb41 l0
      refine x_istore_n C (lv' := [(3, .int (nI (g40 l0))), (2, .int (nI (g30 l0))), (0, .ref (a 0)), (1, .int (nI l0))]) dX12_canBe_61 rfl (by decide) rfl rfl ?_
      have loop62 : ∀ (fu62 : Nat) (k : Nat), True → 192 - k < fu62 → k ≤ 192 → X E p l e (xRm 2 0 0) s m ([.ref (a 0), .int (nI l0)] : List Value).toArray below meth c A 5 0 0 (MQ below (va_Qi (fun r w => w = ws ∧ zb r) (xB E A) A) ([.ref (a 0), .int (nI l0)] : List Value).toArray s 0 0 A) ws 62 [(0, .ref (a 0)), (1, .int (nI l0)), (2, .int (nI (g30 l0))), (3, .int (nI k))] [] := by
        intro fu62
        induction fu62 with
        | zero => intro k _ q; omega
        | succ fu62 ih62 =>
          intro k _ me62 iv62_0
          refine x_iload_n C dX12_canBe_62 rfl 3 rfl rfl ?_
          refine x_aload_n C dX12_canBe_63 rfl 0 rfl rfl ?_
          refine x_get C (ci := 11) (k := 28) 0 k1 rfl in_X12 (by decide) w_1146 rfl dX12_canBe_64 rfl ?_
          refine x_iload_n C dX12_canBe_67 rfl 1 rfl rfl ?_
          refine x_iconst C (v := 1) dX12_canBe_68 (by decide) rfl ?_
          refine x_iadd C (v := (nI (l0 + 1))) dX12_canBe_69 (nI_add l0 1) rfl ?_
          refine x_ialk C (v := nI (g40 (l0 + 1))) (l0 + 1) (nI_clamp (by omega)) (nI_pos (by omega)) (by omega) 18 k39 rfl dX12_canBe_70 rfl ?_
          have bx43 := gb41 (l0 + 1)
          refine x_icmp_ge C (tgt := 154) dX12_canBe_71 (by decide) rfl (fun c44 => ?_) (fun c44 => ?_)
          · skip
            have nf45 := nI_le' (a := (g40 (l0 + 1))) (b := k) c44 (by omega) (by omega)
            refine x_iconst C (v := 1) dX12_canBe_154 (by decide) rfl ?_
            exact x_zret C hr hlk rfl dX12_canBe_155 ⟨rfl, (Or.inr rfl)⟩
          · skip
            have nf46 := nI_nle' (a := (g40 (l0 + 1))) (b := k) c44 (by omega) (by omega)
            refine x_aload_n C dX12_canBe_74 rfl 0 rfl rfl ?_
            refine x_get C (ci := 11) (k := 31) 0 k1 rfl in_X12 (by decide) w_1149 rfl dX12_canBe_75 rfl ?_
            refine x_iload_n C dX12_canBe_78 rfl 3 rfl rfl ?_
            obtain ⟨_, k47, g48, gb49, rfl⟩ := hW 21 _ rfl
            refine x_ialk C (v := nI (g48 k)) k (nI_clamp (by omega)) (nI_pos (by omega)) (by omega) 21 k47 rfl dX12_canBe_79 rfl ?_
            have bx50 := gb49 k
            refine x_istore C (lv' := [(4, .int (nI (g48 k))), (0, .ref (a 0)), (1, .int (nI l0)), (2, .int (nI (g30 l0))), (3, .int (nI k))]) dX12_canBe_80 (by decide) rfl rfl ?_
            refine x_aload_n C dX12_canBe_82 rfl 1 rfl rfl ?_
            refine x_iload C dX12_canBe_83 0 rfl rfl ?_
            refine x_vi C (As := [.int (nI (g48 k))]) (rest := []) (m_isWhole E l a cd hG ws hW ((nI (g48 k)))) mf_X12_isWhole w_1435 0 k1 rfl rfl rfl (Nat.le_of_ble_eq_true rfl) ⟨(Nat.le_of_ble_eq_true rfl), (Nat.le_of_ble_eq_true rfl)⟩ ⟨(Nat.le_of_ble_eq_true rfl), (Nat.le_of_ble_eq_true rfl)⟩ dX12_canBe_85 rfl (fun r52 w53 h51 => ?_)
            obtain ⟨hW54, zb55, x56⟩ := h51
            refine x_ws hW54 ?_
            refine x_if_ne C (tgt := 93) dX12_canBe_88 (by decide) rfl (fun c57 => ?_) (fun c57 => ?_)
            · skip
              have wi58 := wth_le (a := 0) (b := 47) (j := (g48 k)) (x56 c57) (by omega) (by decide) (by decide)
              refine x_aload_n C dX12_canBe_93 rfl 1 rfl rfl ?_
              refine x_get C (ci := 11) (k := 29) 0 k1 rfl in_X12 (by decide) w_1147 rfl dX12_canBe_94 rfl ?_
              refine x_iload_n C dX12_canBe_97 rfl 2 rfl rfl ?_
              refine x_iald C (v := (f34 (nI l0).toNatClampNeg)) 19 k33 (vp_in_nI (by omega) (by decide)) rfl dX12_canBe_98 rfl ?_
              refine x_any (fun v59 => ?_)
              refine x_bipush C (v := 62) dX12_canBe_99 (by decide) rfl ?_
              refine x_icmp_ne C (tgt := 119) dX12_canBe_101 (by decide) rfl (fun c60 => ?_) (fun c60 => ?_)
              · skip
                refine x_aload_n C dX12_canBe_119 rfl 1 rfl rfl ?_
                refine x_get C (ci := 11) (k := 29) 0 k1 rfl in_X12 (by decide) w_1147 rfl dX12_canBe_120 rfl ?_
                refine x_iload_n C dX12_canBe_123 rfl 2 rfl rfl ?_
                refine x_iald C (v := (f34 (nI l0).toNatClampNeg)) 19 k33 (vp_in_nI (by omega) (by decide)) rfl dX12_canBe_124 rfl ?_
                refine x_any (fun v61 => ?_)
                refine x_bipush C (v := 42) dX12_canBe_125 (by decide) rfl ?_
                refine x_icmp_ne C (tgt := 148) dX12_canBe_127 (by decide) rfl (fun c62 => ?_) (fun c62 => ?_)
                · skip
                  refine x_iinc C (v := (nI (k + 1))) (lv' := [(3, .int (nI (k + 1))), (4, .int (nI (g48 k))), (0, .ref (a 0)), (1, .int (nI l0)), (2, .int (nI (g30 l0)))]) dX12_canBe_148 4 rfl (nI_add k 1) (by decide) rfl rfl ?_
                  refine x_goto C (tgt := 62) dX12_canBe_151 (by decide) ?_
                  refine x_lv (lv1 := [(0, .ref (a 0)), (1, .int (nI l0)), (2, .int (nI (g30 l0))), (3, .int (nI (k + 1)))]) [2, 3, 4, 0] rfl ?_
                  exact ih62 (k + 1) trivial (by omega) (by omega)
                · skip
                  refine x_aload_n C dX12_canBe_130 rfl 1 rfl rfl ?_
                  refine x_get C (ci := 11) (k := 0) 0 k1 rfl in_X12 (by decide) w_1118 rfl dX12_canBe_131 rfl ?_
                  refine x_sipush C (v := 192) dX12_canBe_134 (by decide) rfl ?_
                  refine x_iload C dX12_canBe_137 0 rfl rfl ?_
                  refine x_iadd C (v := (nI (192 + (g48 k)))) dX12_canBe_139 (nI_add 192 (g48 k)) rfl ?_
                  obtain ⟨_, k63, f64, pf65, rfl⟩ := hW 1 _ rfl
                  refine x_iald C (v := (f64 (nI (192 + (g48 k))).toNatClampNeg)) 1 k63 (vp_in_nI (by omega) (by decide)) rfl dX12_canBe_140 rfl ?_
                  refine x_any (fun v66 => ?_)
                  refine x_bipush C (v := 9) dX12_canBe_141 (by decide) rfl ?_
                  refine x_icmp_ne C (tgt := 148) dX12_canBe_143 (by decide) rfl (fun c67 => ?_) (fun c67 => ?_)
                  · skip
                    refine x_iinc C (v := (nI (k + 1))) (lv' := [(3, .int (nI (k + 1))), (4, .int (nI (g48 k))), (0, .ref (a 0)), (1, .int (nI l0)), (2, .int (nI (g30 l0)))]) dX12_canBe_148 4 rfl (nI_add k 1) (by decide) rfl rfl ?_
                    refine x_goto C (tgt := 62) dX12_canBe_151 (by decide) ?_
                    refine x_lv (lv1 := [(0, .ref (a 0)), (1, .int (nI l0)), (2, .int (nI (g30 l0))), (3, .int (nI (k + 1)))]) [2, 3, 4, 0] rfl ?_
                    exact ih62 (k + 1) trivial (by omega) (by omega)
                  · skip
                    refine x_iconst C (v := 0) dX12_canBe_146 (by decide) rfl ?_
                    exact x_zret C hr hlk rfl dX12_canBe_147 ⟨rfl, (Or.inl rfl)⟩
              · skip
                refine x_aload_n C dX12_canBe_104 rfl 1 rfl rfl ?_
                refine x_get C (ci := 11) (k := 0) 0 k1 rfl in_X12 (by decide) w_1118 rfl dX12_canBe_105 rfl ?_
                refine x_sipush C (v := 144) dX12_canBe_108 (by decide) rfl ?_
                refine x_iload C dX12_canBe_111 0 rfl rfl ?_
                refine x_iadd C (v := (nI (144 + (g48 k)))) dX12_canBe_113 (nI_add 144 (g48 k)) rfl ?_
                obtain ⟨_, k68, f69, pf70, rfl⟩ := hW 1 _ rfl
                obtain ⟨n71, hn72, en73⟩ := NB_own (j := (g48 k)) pf70 (by omega)
                refine x_ialk C (v := nI n71) (144 + (g48 k)) (nI_clamp (by omega)) (nI_pos (by omega)) (by omega) 1 k68 en73 dX12_canBe_114 rfl ?_
                refine x_iload_n C dX12_canBe_115 rfl 3 rfl rfl ?_
                refine x_icmp_eq C (tgt := 146) dX12_canBe_116 (by decide) rfl (fun c74 => ?_) (fun c74 => ?_)
                · skip
                  have nf75 : n71 = g30 l0 := (nI_eq (by omega) (by omega)).mp c74
                  refine x_iconst C (v := 0) dX12_canBe_146 (by decide) rfl ?_
                  exact x_zret C hr hlk rfl dX12_canBe_147 ⟨rfl, (Or.inl rfl)⟩
                · skip
                  have nf76 : ¬ n71 = g30 l0 := fun q => c74 (congrArg nI q)
                  refine x_aload_n C dX12_canBe_119 rfl 1 rfl rfl ?_
                  refine x_get C (ci := 11) (k := 29) 0 k1 rfl in_X12 (by decide) w_1147 rfl dX12_canBe_120 rfl ?_
                  refine x_iload_n C dX12_canBe_123 rfl 2 rfl rfl ?_
                  refine x_iald C (v := (f34 (nI l0).toNatClampNeg)) 19 k33 (vp_in_nI (by omega) (by decide)) rfl dX12_canBe_124 rfl ?_
                  refine x_any (fun v77 => ?_)
                  refine x_bipush C (v := 42) dX12_canBe_125 (by decide) rfl ?_
                  refine x_icmp_ne C (tgt := 148) dX12_canBe_127 (by decide) rfl (fun c78 => ?_) (fun c78 => ?_)
                  · skip
                    refine x_iinc C (v := (nI (k + 1))) (lv' := [(3, .int (nI (k + 1))), (4, .int (nI (g48 k))), (0, .ref (a 0)), (1, .int (nI l0)), (2, .int (nI (g30 l0)))]) dX12_canBe_148 4 rfl (nI_add k 1) (by decide) rfl rfl ?_
                    refine x_goto C (tgt := 62) dX12_canBe_151 (by decide) ?_
                    refine x_lv (lv1 := [(0, .ref (a 0)), (1, .int (nI l0)), (2, .int (nI (g30 l0))), (3, .int (nI (k + 1)))]) [2, 3, 4, 0] rfl ?_
                    exact ih62 (k + 1) trivial (by omega) (by omega)
                  · skip
                    refine x_aload_n C dX12_canBe_130 rfl 1 rfl rfl ?_
                    refine x_get C (ci := 11) (k := 0) 0 k1 rfl in_X12 (by decide) w_1118 rfl dX12_canBe_131 rfl ?_
                    refine x_sipush C (v := 192) dX12_canBe_134 (by decide) rfl ?_
                    refine x_iload C dX12_canBe_137 0 rfl rfl ?_
                    refine x_iadd C (v := (nI (192 + (g48 k)))) dX12_canBe_139 (nI_add 192 (g48 k)) rfl ?_
                    refine x_iald C (v := (f69 (nI (192 + (g48 k))).toNatClampNeg)) 1 k68 (vp_in_nI (by omega) (by decide)) rfl dX12_canBe_140 rfl ?_
                    refine x_any (fun v79 => ?_)
                    refine x_bipush C (v := 9) dX12_canBe_141 (by decide) rfl ?_
                    refine x_icmp_ne C (tgt := 148) dX12_canBe_143 (by decide) rfl (fun c80 => ?_) (fun c80 => ?_)
                    · skip
                      refine x_iinc C (v := (nI (k + 1))) (lv' := [(3, .int (nI (k + 1))), (4, .int (nI (g48 k))), (0, .ref (a 0)), (1, .int (nI l0)), (2, .int (nI (g30 l0)))]) dX12_canBe_148 4 rfl (nI_add k 1) (by decide) rfl rfl ?_
                      refine x_goto C (tgt := 62) dX12_canBe_151 (by decide) ?_
                      refine x_lv (lv1 := [(0, .ref (a 0)), (1, .int (nI l0)), (2, .int (nI (g30 l0))), (3, .int (nI (k + 1)))]) [2, 3, 4, 0] rfl ?_
                      exact ih62 (k + 1) trivial (by omega) (by omega)
                    · skip
                      refine x_iconst C (v := 0) dX12_canBe_146 (by decide) rfl ?_
                      exact x_zret C hr hlk rfl dX12_canBe_147 ⟨rfl, (Or.inl rfl)⟩
            · skip
              refine x_iconst C (v := 0) dX12_canBe_91 (by decide) rfl ?_
              exact x_zret C hr hlk rfl dX12_canBe_92 ⟨rfl, (Or.inl rfl)⟩
      refine x_lv (lv1 := [(0, .ref (a 0)), (1, .int (nI l0)), (2, .int (nI (g30 l0))), (3, .int (nI (g40 l0)))]) [2, 3, 1, 0] rfl ?_
      exact loop62 _ (g40 l0) trivial (Nat.lt_succ_self _) (by omega)
    · skip
      refine x_aload_n C dX12_canBe_37 rfl 1 rfl rfl ?_
      refine x_iload_n C dX12_canBe_38 rfl 0 rfl rfl ?_
      refine x_vi C (As := [.int (nI (g30 l0))]) (rest := []) (m_isWork E l a cd hG ws hW ((nI (g30 l0)))) mf_X12_isWork w_1427 0 k1 rfl rfl rfl (Nat.le_of_ble_eq_true rfl) ⟨(Nat.le_of_ble_eq_true rfl), (Nat.le_of_ble_eq_true rfl)⟩ ⟨(Nat.le_of_ble_eq_true rfl), (Nat.le_of_ble_eq_true rfl)⟩ dX12_canBe_39 rfl (fun r82 w83 h81 => ?_)
      obtain ⟨hW84, zb85, x86⟩ := h81
      refine x_ws hW84 ?_
      refine x_if_eq C (tgt := 53) dX12_canBe_42 (by decide) rfl (fun c87 => ?_) (fun c87 => ?_)
      · skip
        refine x_iconst C (v := 0) dX12_canBe_53 (by decide) rfl ?_
        exact x_zret C hr hlk rfl dX12_canBe_54 ⟨rfl, (Or.inl rfl)⟩
      · skip
        have wi88 := wth_le (a := 0) (b := 7) (j := (g30 l0)) (x86 c87) (by omega) (by decide) (by decide)
        refine x_aload_n C dX12_canBe_45 rfl 1 rfl rfl ?_
        refine x_iload_n C dX12_canBe_46 rfl 0 rfl rfl ?_
        refine x_vi C (As := [.int (nI (g30 l0))]) (rest := []) (m_isDone E l a cd hG ws hW (g30 l0) (by omega)) mf_X12_isDone w_1431 0 k1 rfl rfl rfl (Nat.le_of_ble_eq_true rfl) ⟨(Nat.le_of_ble_eq_true rfl), (Nat.le_of_ble_eq_true rfl)⟩ ⟨(Nat.le_of_ble_eq_true rfl), (Nat.le_of_ble_eq_true rfl)⟩ dX12_canBe_47 rfl (fun r90 w91 h89 => ?_)
        obtain ⟨hW92, zb93⟩ := h89
        refine x_ws hW92 ?_
        refine x_if_eq C (tgt := 55) dX12_canBe_50 (by decide) rfl (fun c94 => ?_) (fun c94 => ?_)
        · skip
          refine x_aload_n C dX12_canBe_55 rfl 1 rfl rfl ?_
          refine x_get C (ci := 11) (k := 28) 0 k1 rfl in_X12 (by decide) w_1146 rfl dX12_canBe_56 rfl ?_
          refine x_iload_n C dX12_canBe_59 rfl 2 rfl rfl ?_
          obtain ⟨_, k95, g96, gb97, rfl⟩ := hW 18 _ rfl
          refine x_ialk C (v := nI (g96 l0)) l0 (nI_clamp (by omega)) (nI_pos (by omega)) (by omega) 18 k95 rfl dX12_canBe_60 rfl ?_
          have bx98 := gb97 l0
          refine x_istore_n C (lv' := [(3, .int (nI (g96 l0))), (2, .int (nI (g30 l0))), (0, .ref (a 0)), (1, .int (nI l0))]) dX12_canBe_61 rfl (by decide) rfl rfl ?_
          have loop62 : ∀ (fu62 : Nat) (k : Nat), True → 192 - k < fu62 → k ≤ 192 → X E p l e (xRm 2 0 0) s m ([.ref (a 0), .int (nI l0)] : List Value).toArray below meth c A 5 0 0 (MQ below (va_Qi (fun r w => w = ws ∧ zb r) (xB E A) A) ([.ref (a 0), .int (nI l0)] : List Value).toArray s 0 0 A) ws 62 [(0, .ref (a 0)), (1, .int (nI l0)), (2, .int (nI (g30 l0))), (3, .int (nI k))] [] := by
            intro fu62
            induction fu62 with
            | zero => intro k _ q; omega
            | succ fu62 ih62 =>
              intro k _ me62 iv62_0
              refine x_iload_n C dX12_canBe_62 rfl 3 rfl rfl ?_
              refine x_aload_n C dX12_canBe_63 rfl 0 rfl rfl ?_
              refine x_get C (ci := 11) (k := 28) 0 k1 rfl in_X12 (by decide) w_1146 rfl dX12_canBe_64 rfl ?_
              refine x_iload_n C dX12_canBe_67 rfl 1 rfl rfl ?_
              refine x_iconst C (v := 1) dX12_canBe_68 (by decide) rfl ?_
              refine x_iadd C (v := (nI (l0 + 1))) dX12_canBe_69 (nI_add l0 1) rfl ?_
              refine x_ialk C (v := nI (g96 (l0 + 1))) (l0 + 1) (nI_clamp (by omega)) (nI_pos (by omega)) (by omega) 18 k95 rfl dX12_canBe_70 rfl ?_
              have bx99 := gb97 (l0 + 1)
              refine x_icmp_ge C (tgt := 154) dX12_canBe_71 (by decide) rfl (fun c100 => ?_) (fun c100 => ?_)
              · skip
                have nf101 := nI_le' (a := (g96 (l0 + 1))) (b := k) c100 (by omega) (by omega)
                refine x_iconst C (v := 1) dX12_canBe_154 (by decide) rfl ?_
                exact x_zret C hr hlk rfl dX12_canBe_155 ⟨rfl, (Or.inr rfl)⟩
              · skip
                have nf102 := nI_nle' (a := (g96 (l0 + 1))) (b := k) c100 (by omega) (by omega)
                refine x_aload_n C dX12_canBe_74 rfl 0 rfl rfl ?_
                refine x_get C (ci := 11) (k := 31) 0 k1 rfl in_X12 (by decide) w_1149 rfl dX12_canBe_75 rfl ?_
                refine x_iload_n C dX12_canBe_78 rfl 3 rfl rfl ?_
                obtain ⟨_, k103, g104, gb105, rfl⟩ := hW 21 _ rfl
                refine x_ialk C (v := nI (g104 k)) k (nI_clamp (by omega)) (nI_pos (by omega)) (by omega) 21 k103 rfl dX12_canBe_79 rfl ?_
                have bx106 := gb105 k
                refine x_istore C (lv' := [(4, .int (nI (g104 k))), (0, .ref (a 0)), (1, .int (nI l0)), (2, .int (nI (g30 l0))), (3, .int (nI k))]) dX12_canBe_80 (by decide) rfl rfl ?_
                refine x_aload_n C dX12_canBe_82 rfl 1 rfl rfl ?_
                refine x_iload C dX12_canBe_83 0 rfl rfl ?_
                refine x_vi C (As := [.int (nI (g104 k))]) (rest := []) (m_isWhole E l a cd hG ws hW ((nI (g104 k)))) mf_X12_isWhole w_1435 0 k1 rfl rfl rfl (Nat.le_of_ble_eq_true rfl) ⟨(Nat.le_of_ble_eq_true rfl), (Nat.le_of_ble_eq_true rfl)⟩ ⟨(Nat.le_of_ble_eq_true rfl), (Nat.le_of_ble_eq_true rfl)⟩ dX12_canBe_85 rfl (fun r108 w109 h107 => ?_)
                obtain ⟨hW110, zb111, x112⟩ := h107
                refine x_ws hW110 ?_
                refine x_if_ne C (tgt := 93) dX12_canBe_88 (by decide) rfl (fun c113 => ?_) (fun c113 => ?_)
                · skip
                  have wi114 := wth_le (a := 0) (b := 47) (j := (g104 k)) (x112 c113) (by omega) (by decide) (by decide)
                  refine x_aload_n C dX12_canBe_93 rfl 1 rfl rfl ?_
                  refine x_get C (ci := 11) (k := 29) 0 k1 rfl in_X12 (by decide) w_1147 rfl dX12_canBe_94 rfl ?_
                  refine x_iload_n C dX12_canBe_97 rfl 2 rfl rfl ?_
                  refine x_iald C (v := (f34 (nI l0).toNatClampNeg)) 19 k33 (vp_in_nI (by omega) (by decide)) rfl dX12_canBe_98 rfl ?_
                  refine x_any (fun v115 => ?_)
                  refine x_bipush C (v := 62) dX12_canBe_99 (by decide) rfl ?_
                  refine x_icmp_ne C (tgt := 119) dX12_canBe_101 (by decide) rfl (fun c116 => ?_) (fun c116 => ?_)
                  · skip
                    refine x_aload_n C dX12_canBe_119 rfl 1 rfl rfl ?_
                    refine x_get C (ci := 11) (k := 29) 0 k1 rfl in_X12 (by decide) w_1147 rfl dX12_canBe_120 rfl ?_
                    refine x_iload_n C dX12_canBe_123 rfl 2 rfl rfl ?_
                    refine x_iald C (v := (f34 (nI l0).toNatClampNeg)) 19 k33 (vp_in_nI (by omega) (by decide)) rfl dX12_canBe_124 rfl ?_
                    refine x_any (fun v117 => ?_)
                    refine x_bipush C (v := 42) dX12_canBe_125 (by decide) rfl ?_
                    refine x_icmp_ne C (tgt := 148) dX12_canBe_127 (by decide) rfl (fun c118 => ?_) (fun c118 => ?_)
                    · skip
                      refine x_iinc C (v := (nI (k + 1))) (lv' := [(3, .int (nI (k + 1))), (4, .int (nI (g104 k))), (0, .ref (a 0)), (1, .int (nI l0)), (2, .int (nI (g30 l0)))]) dX12_canBe_148 4 rfl (nI_add k 1) (by decide) rfl rfl ?_
                      refine x_goto C (tgt := 62) dX12_canBe_151 (by decide) ?_
                      refine x_lv (lv1 := [(0, .ref (a 0)), (1, .int (nI l0)), (2, .int (nI (g30 l0))), (3, .int (nI (k + 1)))]) [2, 3, 4, 0] rfl ?_
                      exact ih62 (k + 1) trivial (by omega) (by omega)
                    · skip
                      refine x_aload_n C dX12_canBe_130 rfl 1 rfl rfl ?_
                      refine x_get C (ci := 11) (k := 0) 0 k1 rfl in_X12 (by decide) w_1118 rfl dX12_canBe_131 rfl ?_
                      refine x_sipush C (v := 192) dX12_canBe_134 (by decide) rfl ?_
                      refine x_iload C dX12_canBe_137 0 rfl rfl ?_
                      refine x_iadd C (v := (nI (192 + (g104 k)))) dX12_canBe_139 (nI_add 192 (g104 k)) rfl ?_
                      obtain ⟨_, k119, f120, pf121, rfl⟩ := hW 1 _ rfl
                      refine x_iald C (v := (f120 (nI (192 + (g104 k))).toNatClampNeg)) 1 k119 (vp_in_nI (by omega) (by decide)) rfl dX12_canBe_140 rfl ?_
                      refine x_any (fun v122 => ?_)
                      refine x_bipush C (v := 9) dX12_canBe_141 (by decide) rfl ?_
                      refine x_icmp_ne C (tgt := 148) dX12_canBe_143 (by decide) rfl (fun c123 => ?_) (fun c123 => ?_)
                      · skip
                        refine x_iinc C (v := (nI (k + 1))) (lv' := [(3, .int (nI (k + 1))), (4, .int (nI (g104 k))), (0, .ref (a 0)), (1, .int (nI l0)), (2, .int (nI (g30 l0)))]) dX12_canBe_148 4 rfl (nI_add k 1) (by decide) rfl rfl ?_
                        refine x_goto C (tgt := 62) dX12_canBe_151 (by decide) ?_
                        refine x_lv (lv1 := [(0, .ref (a 0)), (1, .int (nI l0)), (2, .int (nI (g30 l0))), (3, .int (nI (k + 1)))]) [2, 3, 4, 0] rfl ?_
                        exact ih62 (k + 1) trivial (by omega) (by omega)
                      · skip
                        refine x_iconst C (v := 0) dX12_canBe_146 (by decide) rfl ?_
                        exact x_zret C hr hlk rfl dX12_canBe_147 ⟨rfl, (Or.inl rfl)⟩
                  · skip
                    refine x_aload_n C dX12_canBe_104 rfl 1 rfl rfl ?_
                    refine x_get C (ci := 11) (k := 0) 0 k1 rfl in_X12 (by decide) w_1118 rfl dX12_canBe_105 rfl ?_
                    refine x_sipush C (v := 144) dX12_canBe_108 (by decide) rfl ?_
                    refine x_iload C dX12_canBe_111 0 rfl rfl ?_
                    refine x_iadd C (v := (nI (144 + (g104 k)))) dX12_canBe_113 (nI_add 144 (g104 k)) rfl ?_
                    obtain ⟨_, k124, f125, pf126, rfl⟩ := hW 1 _ rfl
                    obtain ⟨n127, hn128, en129⟩ := NB_own (j := (g104 k)) pf126 (by omega)
                    refine x_ialk C (v := nI n127) (144 + (g104 k)) (nI_clamp (by omega)) (nI_pos (by omega)) (by omega) 1 k124 en129 dX12_canBe_114 rfl ?_
                    refine x_iload_n C dX12_canBe_115 rfl 3 rfl rfl ?_
                    refine x_icmp_eq C (tgt := 146) dX12_canBe_116 (by decide) rfl (fun c130 => ?_) (fun c130 => ?_)
                    · skip
                      have nf131 : n127 = g30 l0 := (nI_eq (by omega) (by omega)).mp c130
                      refine x_iconst C (v := 0) dX12_canBe_146 (by decide) rfl ?_
                      exact x_zret C hr hlk rfl dX12_canBe_147 ⟨rfl, (Or.inl rfl)⟩
                    · skip
                      have nf132 : ¬ n127 = g30 l0 := fun q => c130 (congrArg nI q)
                      refine x_aload_n C dX12_canBe_119 rfl 1 rfl rfl ?_
                      refine x_get C (ci := 11) (k := 29) 0 k1 rfl in_X12 (by decide) w_1147 rfl dX12_canBe_120 rfl ?_
                      refine x_iload_n C dX12_canBe_123 rfl 2 rfl rfl ?_
                      refine x_iald C (v := (f34 (nI l0).toNatClampNeg)) 19 k33 (vp_in_nI (by omega) (by decide)) rfl dX12_canBe_124 rfl ?_
                      refine x_any (fun v133 => ?_)
                      refine x_bipush C (v := 42) dX12_canBe_125 (by decide) rfl ?_
                      refine x_icmp_ne C (tgt := 148) dX12_canBe_127 (by decide) rfl (fun c134 => ?_) (fun c134 => ?_)
                      · skip
                        refine x_iinc C (v := (nI (k + 1))) (lv' := [(3, .int (nI (k + 1))), (4, .int (nI (g104 k))), (0, .ref (a 0)), (1, .int (nI l0)), (2, .int (nI (g30 l0)))]) dX12_canBe_148 4 rfl (nI_add k 1) (by decide) rfl rfl ?_
                        refine x_goto C (tgt := 62) dX12_canBe_151 (by decide) ?_
                        refine x_lv (lv1 := [(0, .ref (a 0)), (1, .int (nI l0)), (2, .int (nI (g30 l0))), (3, .int (nI (k + 1)))]) [2, 3, 4, 0] rfl ?_
                        exact ih62 (k + 1) trivial (by omega) (by omega)
                      · skip
                        refine x_aload_n C dX12_canBe_130 rfl 1 rfl rfl ?_
                        refine x_get C (ci := 11) (k := 0) 0 k1 rfl in_X12 (by decide) w_1118 rfl dX12_canBe_131 rfl ?_
                        refine x_sipush C (v := 192) dX12_canBe_134 (by decide) rfl ?_
                        refine x_iload C dX12_canBe_137 0 rfl rfl ?_
                        refine x_iadd C (v := (nI (192 + (g104 k)))) dX12_canBe_139 (nI_add 192 (g104 k)) rfl ?_
                        refine x_iald C (v := (f125 (nI (192 + (g104 k))).toNatClampNeg)) 1 k124 (vp_in_nI (by omega) (by decide)) rfl dX12_canBe_140 rfl ?_
                        refine x_any (fun v135 => ?_)
                        refine x_bipush C (v := 9) dX12_canBe_141 (by decide) rfl ?_
                        refine x_icmp_ne C (tgt := 148) dX12_canBe_143 (by decide) rfl (fun c136 => ?_) (fun c136 => ?_)
                        · skip
                          refine x_iinc C (v := (nI (k + 1))) (lv' := [(3, .int (nI (k + 1))), (4, .int (nI (g104 k))), (0, .ref (a 0)), (1, .int (nI l0)), (2, .int (nI (g30 l0)))]) dX12_canBe_148 4 rfl (nI_add k 1) (by decide) rfl rfl ?_
                          refine x_goto C (tgt := 62) dX12_canBe_151 (by decide) ?_
                          refine x_lv (lv1 := [(0, .ref (a 0)), (1, .int (nI l0)), (2, .int (nI (g30 l0))), (3, .int (nI (k + 1)))]) [2, 3, 4, 0] rfl ?_
                          exact ih62 (k + 1) trivial (by omega) (by omega)
                        · skip
                          refine x_iconst C (v := 0) dX12_canBe_146 (by decide) rfl ?_
                          exact x_zret C hr hlk rfl dX12_canBe_147 ⟨rfl, (Or.inl rfl)⟩
                · skip
                  refine x_iconst C (v := 0) dX12_canBe_91 (by decide) rfl ?_
                  exact x_zret C hr hlk rfl dX12_canBe_92 ⟨rfl, (Or.inl rfl)⟩
          refine x_lv (lv1 := [(0, .ref (a 0)), (1, .int (nI l0)), (2, .int (nI (g30 l0))), (3, .int (nI (g96 l0)))]) [2, 3, 1, 0] rfl ?_
          exact loop62 _ (g96 l0) trivial (Nat.lt_succ_self _) (by omega)
        · skip
          refine x_iconst C (v := 0) dX12_canBe_53 (by decide) rfl ?_
          exact x_zret C hr hlk rfl dX12_canBe_54 ⟨rfl, (Or.inl rfl)⟩
  · skip
    refine x_aload_n C dX12_canBe_18 rfl 1 rfl rfl ?_
    refine x_iload_n C dX12_canBe_19 rfl 0 rfl rfl ?_
    refine x_vi C (As := [.int (nI (g30 l0))]) (rest := []) (m_isPerson E l a cd hG ws hW ((nI (g30 l0)))) mf_X12_isPerson w_1270 0 k1 rfl rfl rfl (Nat.le_of_ble_eq_true rfl) ⟨(Nat.le_of_ble_eq_true rfl), (Nat.le_of_ble_eq_true rfl)⟩ ⟨(Nat.le_of_ble_eq_true rfl), (Nat.le_of_ble_eq_true rfl)⟩ dX12_canBe_20 rfl (fun r138 w139 h137 => ?_)
    obtain ⟨hW140, zb141, x142⟩ := h137
    refine x_ws hW140 ?_
    refine x_if_eq C (tgt := 53) dX12_canBe_23 (by decide) rfl (fun c143 => ?_) (fun c143 => ?_)
    · skip
      refine x_iconst C (v := 0) dX12_canBe_53 (by decide) rfl ?_
      exact x_zret C hr hlk rfl dX12_canBe_54 ⟨rfl, (Or.inl rfl)⟩
    · skip
      have wi144 := wth_le (a := 0) (b := 7) (j := (g30 l0)) (x142 c143) (by omega) (by decide) (by decide)
      refine x_aload_n C dX12_canBe_26 rfl 1 rfl rfl ?_
      refine x_get C (ci := 11) (k := 29) 0 k1 rfl in_X12 (by decide) w_1147 rfl dX12_canBe_27 rfl ?_
      refine x_iload_n C dX12_canBe_30 rfl 2 rfl rfl ?_
      refine x_iald C (v := (f34 (nI l0).toNatClampNeg)) 19 k33 (vp_in_nI (by omega) (by decide)) rfl dX12_canBe_31 rfl ?_
      refine x_any (fun v145 => ?_)
      refine x_bipush C (v := 33) dX12_canBe_32 (by decide) rfl ?_
      refine x_icmp_ne C (tgt := 55) dX12_canBe_34 (by decide) rfl (fun c146 => ?_) (fun c146 => ?_)
      · skip
        refine x_aload_n C dX12_canBe_55 rfl 1 rfl rfl ?_
        refine x_get C (ci := 11) (k := 28) 0 k1 rfl in_X12 (by decide) w_1146 rfl dX12_canBe_56 rfl ?_
        refine x_iload_n C dX12_canBe_59 rfl 2 rfl rfl ?_
        obtain ⟨_, k147, g148, gb149, rfl⟩ := hW 18 _ rfl
        refine x_ialk C (v := nI (g148 l0)) l0 (nI_clamp (by omega)) (nI_pos (by omega)) (by omega) 18 k147 rfl dX12_canBe_60 rfl ?_
        have bx150 := gb149 l0
        refine x_istore_n C (lv' := [(3, .int (nI (g148 l0))), (2, .int (nI (g30 l0))), (0, .ref (a 0)), (1, .int (nI l0))]) dX12_canBe_61 rfl (by decide) rfl rfl ?_
        have loop62 : ∀ (fu62 : Nat) (k : Nat), True → 192 - k < fu62 → k ≤ 192 → X E p l e (xRm 2 0 0) s m ([.ref (a 0), .int (nI l0)] : List Value).toArray below meth c A 5 0 0 (MQ below (va_Qi (fun r w => w = ws ∧ zb r) (xB E A) A) ([.ref (a 0), .int (nI l0)] : List Value).toArray s 0 0 A) ws 62 [(0, .ref (a 0)), (1, .int (nI l0)), (2, .int (nI (g30 l0))), (3, .int (nI k))] [] := by
          intro fu62
          induction fu62 with
          | zero => intro k _ q; omega
          | succ fu62 ih62 =>
            intro k _ me62 iv62_0
            refine x_iload_n C dX12_canBe_62 rfl 3 rfl rfl ?_
            refine x_aload_n C dX12_canBe_63 rfl 0 rfl rfl ?_
            refine x_get C (ci := 11) (k := 28) 0 k1 rfl in_X12 (by decide) w_1146 rfl dX12_canBe_64 rfl ?_
            refine x_iload_n C dX12_canBe_67 rfl 1 rfl rfl ?_
            refine x_iconst C (v := 1) dX12_canBe_68 (by decide) rfl ?_
            refine x_iadd C (v := (nI (l0 + 1))) dX12_canBe_69 (nI_add l0 1) rfl ?_
            refine x_ialk C (v := nI (g148 (l0 + 1))) (l0 + 1) (nI_clamp (by omega)) (nI_pos (by omega)) (by omega) 18 k147 rfl dX12_canBe_70 rfl ?_
            have bx151 := gb149 (l0 + 1)
            refine x_icmp_ge C (tgt := 154) dX12_canBe_71 (by decide) rfl (fun c152 => ?_) (fun c152 => ?_)
            · skip
              have nf153 := nI_le' (a := (g148 (l0 + 1))) (b := k) c152 (by omega) (by omega)
              refine x_iconst C (v := 1) dX12_canBe_154 (by decide) rfl ?_
              exact x_zret C hr hlk rfl dX12_canBe_155 ⟨rfl, (Or.inr rfl)⟩
            · skip
              have nf154 := nI_nle' (a := (g148 (l0 + 1))) (b := k) c152 (by omega) (by omega)
              refine x_aload_n C dX12_canBe_74 rfl 0 rfl rfl ?_
              refine x_get C (ci := 11) (k := 31) 0 k1 rfl in_X12 (by decide) w_1149 rfl dX12_canBe_75 rfl ?_
              refine x_iload_n C dX12_canBe_78 rfl 3 rfl rfl ?_
              obtain ⟨_, k155, g156, gb157, rfl⟩ := hW 21 _ rfl
              refine x_ialk C (v := nI (g156 k)) k (nI_clamp (by omega)) (nI_pos (by omega)) (by omega) 21 k155 rfl dX12_canBe_79 rfl ?_
              have bx158 := gb157 k
              refine x_istore C (lv' := [(4, .int (nI (g156 k))), (0, .ref (a 0)), (1, .int (nI l0)), (2, .int (nI (g30 l0))), (3, .int (nI k))]) dX12_canBe_80 (by decide) rfl rfl ?_
              refine x_aload_n C dX12_canBe_82 rfl 1 rfl rfl ?_
              refine x_iload C dX12_canBe_83 0 rfl rfl ?_
              refine x_vi C (As := [.int (nI (g156 k))]) (rest := []) (m_isWhole E l a cd hG ws hW ((nI (g156 k)))) mf_X12_isWhole w_1435 0 k1 rfl rfl rfl (Nat.le_of_ble_eq_true rfl) ⟨(Nat.le_of_ble_eq_true rfl), (Nat.le_of_ble_eq_true rfl)⟩ ⟨(Nat.le_of_ble_eq_true rfl), (Nat.le_of_ble_eq_true rfl)⟩ dX12_canBe_85 rfl (fun r160 w161 h159 => ?_)
              obtain ⟨hW162, zb163, x164⟩ := h159
              refine x_ws hW162 ?_
              refine x_if_ne C (tgt := 93) dX12_canBe_88 (by decide) rfl (fun c165 => ?_) (fun c165 => ?_)
              · skip
                have wi166 := wth_le (a := 0) (b := 47) (j := (g156 k)) (x164 c165) (by omega) (by decide) (by decide)
                refine x_aload_n C dX12_canBe_93 rfl 1 rfl rfl ?_
                refine x_get C (ci := 11) (k := 29) 0 k1 rfl in_X12 (by decide) w_1147 rfl dX12_canBe_94 rfl ?_
                refine x_iload_n C dX12_canBe_97 rfl 2 rfl rfl ?_
                refine x_iald C (v := (f34 (nI l0).toNatClampNeg)) 19 k33 (vp_in_nI (by omega) (by decide)) rfl dX12_canBe_98 rfl ?_
                refine x_any (fun v167 => ?_)
                refine x_bipush C (v := 62) dX12_canBe_99 (by decide) rfl ?_
                refine x_icmp_ne C (tgt := 119) dX12_canBe_101 (by decide) rfl (fun c168 => ?_) (fun c168 => ?_)
                · skip
                  refine x_aload_n C dX12_canBe_119 rfl 1 rfl rfl ?_
                  refine x_get C (ci := 11) (k := 29) 0 k1 rfl in_X12 (by decide) w_1147 rfl dX12_canBe_120 rfl ?_
                  refine x_iload_n C dX12_canBe_123 rfl 2 rfl rfl ?_
                  refine x_iald C (v := (f34 (nI l0).toNatClampNeg)) 19 k33 (vp_in_nI (by omega) (by decide)) rfl dX12_canBe_124 rfl ?_
                  refine x_any (fun v169 => ?_)
                  refine x_bipush C (v := 42) dX12_canBe_125 (by decide) rfl ?_
                  refine x_icmp_ne C (tgt := 148) dX12_canBe_127 (by decide) rfl (fun c170 => ?_) (fun c170 => ?_)
                  · skip
                    refine x_iinc C (v := (nI (k + 1))) (lv' := [(3, .int (nI (k + 1))), (4, .int (nI (g156 k))), (0, .ref (a 0)), (1, .int (nI l0)), (2, .int (nI (g30 l0)))]) dX12_canBe_148 4 rfl (nI_add k 1) (by decide) rfl rfl ?_
                    refine x_goto C (tgt := 62) dX12_canBe_151 (by decide) ?_
                    refine x_lv (lv1 := [(0, .ref (a 0)), (1, .int (nI l0)), (2, .int (nI (g30 l0))), (3, .int (nI (k + 1)))]) [2, 3, 4, 0] rfl ?_
                    exact ih62 (k + 1) trivial (by omega) (by omega)
                  · skip
                    refine x_aload_n C dX12_canBe_130 rfl 1 rfl rfl ?_
                    refine x_get C (ci := 11) (k := 0) 0 k1 rfl in_X12 (by decide) w_1118 rfl dX12_canBe_131 rfl ?_
                    refine x_sipush C (v := 192) dX12_canBe_134 (by decide) rfl ?_
                    refine x_iload C dX12_canBe_137 0 rfl rfl ?_
                    refine x_iadd C (v := (nI (192 + (g156 k)))) dX12_canBe_139 (nI_add 192 (g156 k)) rfl ?_
                    obtain ⟨_, k171, f172, pf173, rfl⟩ := hW 1 _ rfl
                    refine x_iald C (v := (f172 (nI (192 + (g156 k))).toNatClampNeg)) 1 k171 (vp_in_nI (by omega) (by decide)) rfl dX12_canBe_140 rfl ?_
                    refine x_any (fun v174 => ?_)
                    refine x_bipush C (v := 9) dX12_canBe_141 (by decide) rfl ?_
                    refine x_icmp_ne C (tgt := 148) dX12_canBe_143 (by decide) rfl (fun c175 => ?_) (fun c175 => ?_)
                    · skip
                      refine x_iinc C (v := (nI (k + 1))) (lv' := [(3, .int (nI (k + 1))), (4, .int (nI (g156 k))), (0, .ref (a 0)), (1, .int (nI l0)), (2, .int (nI (g30 l0)))]) dX12_canBe_148 4 rfl (nI_add k 1) (by decide) rfl rfl ?_
                      refine x_goto C (tgt := 62) dX12_canBe_151 (by decide) ?_
                      refine x_lv (lv1 := [(0, .ref (a 0)), (1, .int (nI l0)), (2, .int (nI (g30 l0))), (3, .int (nI (k + 1)))]) [2, 3, 4, 0] rfl ?_
                      exact ih62 (k + 1) trivial (by omega) (by omega)
                    · skip
                      refine x_iconst C (v := 0) dX12_canBe_146 (by decide) rfl ?_
                      exact x_zret C hr hlk rfl dX12_canBe_147 ⟨rfl, (Or.inl rfl)⟩
                · skip
                  refine x_aload_n C dX12_canBe_104 rfl 1 rfl rfl ?_
                  refine x_get C (ci := 11) (k := 0) 0 k1 rfl in_X12 (by decide) w_1118 rfl dX12_canBe_105 rfl ?_
                  refine x_sipush C (v := 144) dX12_canBe_108 (by decide) rfl ?_
                  refine x_iload C dX12_canBe_111 0 rfl rfl ?_
                  refine x_iadd C (v := (nI (144 + (g156 k)))) dX12_canBe_113 (nI_add 144 (g156 k)) rfl ?_
                  obtain ⟨_, k176, f177, pf178, rfl⟩ := hW 1 _ rfl
                  obtain ⟨n179, hn180, en181⟩ := NB_own (j := (g156 k)) pf178 (by omega)
                  refine x_ialk C (v := nI n179) (144 + (g156 k)) (nI_clamp (by omega)) (nI_pos (by omega)) (by omega) 1 k176 en181 dX12_canBe_114 rfl ?_
                  refine x_iload_n C dX12_canBe_115 rfl 3 rfl rfl ?_
                  refine x_icmp_eq C (tgt := 146) dX12_canBe_116 (by decide) rfl (fun c182 => ?_) (fun c182 => ?_)
                  · skip
                    have nf183 : n179 = g30 l0 := (nI_eq (by omega) (by omega)).mp c182
                    refine x_iconst C (v := 0) dX12_canBe_146 (by decide) rfl ?_
                    exact x_zret C hr hlk rfl dX12_canBe_147 ⟨rfl, (Or.inl rfl)⟩
                  · skip
                    have nf184 : ¬ n179 = g30 l0 := fun q => c182 (congrArg nI q)
                    refine x_aload_n C dX12_canBe_119 rfl 1 rfl rfl ?_
                    refine x_get C (ci := 11) (k := 29) 0 k1 rfl in_X12 (by decide) w_1147 rfl dX12_canBe_120 rfl ?_
                    refine x_iload_n C dX12_canBe_123 rfl 2 rfl rfl ?_
                    refine x_iald C (v := (f34 (nI l0).toNatClampNeg)) 19 k33 (vp_in_nI (by omega) (by decide)) rfl dX12_canBe_124 rfl ?_
                    refine x_any (fun v185 => ?_)
                    refine x_bipush C (v := 42) dX12_canBe_125 (by decide) rfl ?_
                    refine x_icmp_ne C (tgt := 148) dX12_canBe_127 (by decide) rfl (fun c186 => ?_) (fun c186 => ?_)
                    · skip
                      refine x_iinc C (v := (nI (k + 1))) (lv' := [(3, .int (nI (k + 1))), (4, .int (nI (g156 k))), (0, .ref (a 0)), (1, .int (nI l0)), (2, .int (nI (g30 l0)))]) dX12_canBe_148 4 rfl (nI_add k 1) (by decide) rfl rfl ?_
                      refine x_goto C (tgt := 62) dX12_canBe_151 (by decide) ?_
                      refine x_lv (lv1 := [(0, .ref (a 0)), (1, .int (nI l0)), (2, .int (nI (g30 l0))), (3, .int (nI (k + 1)))]) [2, 3, 4, 0] rfl ?_
                      exact ih62 (k + 1) trivial (by omega) (by omega)
                    · skip
                      refine x_aload_n C dX12_canBe_130 rfl 1 rfl rfl ?_
                      refine x_get C (ci := 11) (k := 0) 0 k1 rfl in_X12 (by decide) w_1118 rfl dX12_canBe_131 rfl ?_
                      refine x_sipush C (v := 192) dX12_canBe_134 (by decide) rfl ?_
                      refine x_iload C dX12_canBe_137 0 rfl rfl ?_
                      refine x_iadd C (v := (nI (192 + (g156 k)))) dX12_canBe_139 (nI_add 192 (g156 k)) rfl ?_
                      refine x_iald C (v := (f177 (nI (192 + (g156 k))).toNatClampNeg)) 1 k176 (vp_in_nI (by omega) (by decide)) rfl dX12_canBe_140 rfl ?_
                      refine x_any (fun v187 => ?_)
                      refine x_bipush C (v := 9) dX12_canBe_141 (by decide) rfl ?_
                      refine x_icmp_ne C (tgt := 148) dX12_canBe_143 (by decide) rfl (fun c188 => ?_) (fun c188 => ?_)
                      · skip
                        refine x_iinc C (v := (nI (k + 1))) (lv' := [(3, .int (nI (k + 1))), (4, .int (nI (g156 k))), (0, .ref (a 0)), (1, .int (nI l0)), (2, .int (nI (g30 l0)))]) dX12_canBe_148 4 rfl (nI_add k 1) (by decide) rfl rfl ?_
                        refine x_goto C (tgt := 62) dX12_canBe_151 (by decide) ?_
                        refine x_lv (lv1 := [(0, .ref (a 0)), (1, .int (nI l0)), (2, .int (nI (g30 l0))), (3, .int (nI (k + 1)))]) [2, 3, 4, 0] rfl ?_
                        exact ih62 (k + 1) trivial (by omega) (by omega)
                      · skip
                        refine x_iconst C (v := 0) dX12_canBe_146 (by decide) rfl ?_
                        exact x_zret C hr hlk rfl dX12_canBe_147 ⟨rfl, (Or.inl rfl)⟩
              · skip
                refine x_iconst C (v := 0) dX12_canBe_91 (by decide) rfl ?_
                exact x_zret C hr hlk rfl dX12_canBe_92 ⟨rfl, (Or.inl rfl)⟩
        refine x_lv (lv1 := [(0, .ref (a 0)), (1, .int (nI l0)), (2, .int (nI (g30 l0))), (3, .int (nI (g148 l0)))]) [2, 3, 1, 0] rfl ?_
        exact loop62 _ (g148 l0) trivial (Nat.lt_succ_self _) (by omega)
      · skip
        refine x_aload_n C dX12_canBe_37 rfl 1 rfl rfl ?_
        refine x_iload_n C dX12_canBe_38 rfl 0 rfl rfl ?_
        refine x_vi C (As := [.int (nI (g30 l0))]) (rest := []) (m_isWork E l a cd hG ws hW ((nI (g30 l0)))) mf_X12_isWork w_1427 0 k1 rfl rfl rfl (Nat.le_of_ble_eq_true rfl) ⟨(Nat.le_of_ble_eq_true rfl), (Nat.le_of_ble_eq_true rfl)⟩ ⟨(Nat.le_of_ble_eq_true rfl), (Nat.le_of_ble_eq_true rfl)⟩ dX12_canBe_39 rfl (fun r190 w191 h189 => ?_)
        obtain ⟨hW192, zb193, x194⟩ := h189
        refine x_ws hW192 ?_
        refine x_if_eq C (tgt := 53) dX12_canBe_42 (by decide) rfl (fun c195 => ?_) (fun c195 => ?_)
        · skip
          refine x_iconst C (v := 0) dX12_canBe_53 (by decide) rfl ?_
          exact x_zret C hr hlk rfl dX12_canBe_54 ⟨rfl, (Or.inl rfl)⟩
        · skip
          have wi196 := wth_le (a := 0) (b := 7) (j := (g30 l0)) (x194 c195) (by omega) (by decide) (by decide)
          refine x_aload_n C dX12_canBe_45 rfl 1 rfl rfl ?_
          refine x_iload_n C dX12_canBe_46 rfl 0 rfl rfl ?_
          refine x_vi C (As := [.int (nI (g30 l0))]) (rest := []) (m_isDone E l a cd hG ws hW (g30 l0) (by omega)) mf_X12_isDone w_1431 0 k1 rfl rfl rfl (Nat.le_of_ble_eq_true rfl) ⟨(Nat.le_of_ble_eq_true rfl), (Nat.le_of_ble_eq_true rfl)⟩ ⟨(Nat.le_of_ble_eq_true rfl), (Nat.le_of_ble_eq_true rfl)⟩ dX12_canBe_47 rfl (fun r198 w199 h197 => ?_)
          obtain ⟨hW200, zb201⟩ := h197
          refine x_ws hW200 ?_
          refine x_if_eq C (tgt := 55) dX12_canBe_50 (by decide) rfl (fun c202 => ?_) (fun c202 => ?_)
          · skip
            refine x_aload_n C dX12_canBe_55 rfl 1 rfl rfl ?_
            refine x_get C (ci := 11) (k := 28) 0 k1 rfl in_X12 (by decide) w_1146 rfl dX12_canBe_56 rfl ?_
            refine x_iload_n C dX12_canBe_59 rfl 2 rfl rfl ?_
            obtain ⟨_, k203, g204, gb205, rfl⟩ := hW 18 _ rfl
            refine x_ialk C (v := nI (g204 l0)) l0 (nI_clamp (by omega)) (nI_pos (by omega)) (by omega) 18 k203 rfl dX12_canBe_60 rfl ?_
            have bx206 := gb205 l0
            refine x_istore_n C (lv' := [(3, .int (nI (g204 l0))), (2, .int (nI (g30 l0))), (0, .ref (a 0)), (1, .int (nI l0))]) dX12_canBe_61 rfl (by decide) rfl rfl ?_
            have loop62 : ∀ (fu62 : Nat) (k : Nat), True → 192 - k < fu62 → k ≤ 192 → X E p l e (xRm 2 0 0) s m ([.ref (a 0), .int (nI l0)] : List Value).toArray below meth c A 5 0 0 (MQ below (va_Qi (fun r w => w = ws ∧ zb r) (xB E A) A) ([.ref (a 0), .int (nI l0)] : List Value).toArray s 0 0 A) ws 62 [(0, .ref (a 0)), (1, .int (nI l0)), (2, .int (nI (g30 l0))), (3, .int (nI k))] [] := by
              intro fu62
              induction fu62 with
              | zero => intro k _ q; omega
              | succ fu62 ih62 =>
                intro k _ me62 iv62_0
                refine x_iload_n C dX12_canBe_62 rfl 3 rfl rfl ?_
                refine x_aload_n C dX12_canBe_63 rfl 0 rfl rfl ?_
                refine x_get C (ci := 11) (k := 28) 0 k1 rfl in_X12 (by decide) w_1146 rfl dX12_canBe_64 rfl ?_
                refine x_iload_n C dX12_canBe_67 rfl 1 rfl rfl ?_
                refine x_iconst C (v := 1) dX12_canBe_68 (by decide) rfl ?_
                refine x_iadd C (v := (nI (l0 + 1))) dX12_canBe_69 (nI_add l0 1) rfl ?_
                refine x_ialk C (v := nI (g204 (l0 + 1))) (l0 + 1) (nI_clamp (by omega)) (nI_pos (by omega)) (by omega) 18 k203 rfl dX12_canBe_70 rfl ?_
                have bx207 := gb205 (l0 + 1)
                refine x_icmp_ge C (tgt := 154) dX12_canBe_71 (by decide) rfl (fun c208 => ?_) (fun c208 => ?_)
                · skip
                  have nf209 := nI_le' (a := (g204 (l0 + 1))) (b := k) c208 (by omega) (by omega)
                  refine x_iconst C (v := 1) dX12_canBe_154 (by decide) rfl ?_
                  exact x_zret C hr hlk rfl dX12_canBe_155 ⟨rfl, (Or.inr rfl)⟩
                · skip
                  have nf210 := nI_nle' (a := (g204 (l0 + 1))) (b := k) c208 (by omega) (by omega)
                  refine x_aload_n C dX12_canBe_74 rfl 0 rfl rfl ?_
                  refine x_get C (ci := 11) (k := 31) 0 k1 rfl in_X12 (by decide) w_1149 rfl dX12_canBe_75 rfl ?_
                  refine x_iload_n C dX12_canBe_78 rfl 3 rfl rfl ?_
                  obtain ⟨_, k211, g212, gb213, rfl⟩ := hW 21 _ rfl
                  refine x_ialk C (v := nI (g212 k)) k (nI_clamp (by omega)) (nI_pos (by omega)) (by omega) 21 k211 rfl dX12_canBe_79 rfl ?_
                  have bx214 := gb213 k
                  refine x_istore C (lv' := [(4, .int (nI (g212 k))), (0, .ref (a 0)), (1, .int (nI l0)), (2, .int (nI (g30 l0))), (3, .int (nI k))]) dX12_canBe_80 (by decide) rfl rfl ?_
                  refine x_aload_n C dX12_canBe_82 rfl 1 rfl rfl ?_
                  refine x_iload C dX12_canBe_83 0 rfl rfl ?_
                  refine x_vi C (As := [.int (nI (g212 k))]) (rest := []) (m_isWhole E l a cd hG ws hW ((nI (g212 k)))) mf_X12_isWhole w_1435 0 k1 rfl rfl rfl (Nat.le_of_ble_eq_true rfl) ⟨(Nat.le_of_ble_eq_true rfl), (Nat.le_of_ble_eq_true rfl)⟩ ⟨(Nat.le_of_ble_eq_true rfl), (Nat.le_of_ble_eq_true rfl)⟩ dX12_canBe_85 rfl (fun r216 w217 h215 => ?_)
                  obtain ⟨hW218, zb219, x220⟩ := h215
                  refine x_ws hW218 ?_
                  refine x_if_ne C (tgt := 93) dX12_canBe_88 (by decide) rfl (fun c221 => ?_) (fun c221 => ?_)
                  · skip
                    have wi222 := wth_le (a := 0) (b := 47) (j := (g212 k)) (x220 c221) (by omega) (by decide) (by decide)
                    refine x_aload_n C dX12_canBe_93 rfl 1 rfl rfl ?_
                    refine x_get C (ci := 11) (k := 29) 0 k1 rfl in_X12 (by decide) w_1147 rfl dX12_canBe_94 rfl ?_
                    refine x_iload_n C dX12_canBe_97 rfl 2 rfl rfl ?_
                    refine x_iald C (v := (f34 (nI l0).toNatClampNeg)) 19 k33 (vp_in_nI (by omega) (by decide)) rfl dX12_canBe_98 rfl ?_
                    refine x_any (fun v223 => ?_)
                    refine x_bipush C (v := 62) dX12_canBe_99 (by decide) rfl ?_
                    refine x_icmp_ne C (tgt := 119) dX12_canBe_101 (by decide) rfl (fun c224 => ?_) (fun c224 => ?_)
                    · skip
                      refine x_aload_n C dX12_canBe_119 rfl 1 rfl rfl ?_
                      refine x_get C (ci := 11) (k := 29) 0 k1 rfl in_X12 (by decide) w_1147 rfl dX12_canBe_120 rfl ?_
                      refine x_iload_n C dX12_canBe_123 rfl 2 rfl rfl ?_
                      refine x_iald C (v := (f34 (nI l0).toNatClampNeg)) 19 k33 (vp_in_nI (by omega) (by decide)) rfl dX12_canBe_124 rfl ?_
                      refine x_any (fun v225 => ?_)
                      refine x_bipush C (v := 42) dX12_canBe_125 (by decide) rfl ?_
                      refine x_icmp_ne C (tgt := 148) dX12_canBe_127 (by decide) rfl (fun c226 => ?_) (fun c226 => ?_)
                      · skip
                        refine x_iinc C (v := (nI (k + 1))) (lv' := [(3, .int (nI (k + 1))), (4, .int (nI (g212 k))), (0, .ref (a 0)), (1, .int (nI l0)), (2, .int (nI (g30 l0)))]) dX12_canBe_148 4 rfl (nI_add k 1) (by decide) rfl rfl ?_
                        refine x_goto C (tgt := 62) dX12_canBe_151 (by decide) ?_
                        refine x_lv (lv1 := [(0, .ref (a 0)), (1, .int (nI l0)), (2, .int (nI (g30 l0))), (3, .int (nI (k + 1)))]) [2, 3, 4, 0] rfl ?_
                        exact ih62 (k + 1) trivial (by omega) (by omega)
                      · skip
                        refine x_aload_n C dX12_canBe_130 rfl 1 rfl rfl ?_
                        refine x_get C (ci := 11) (k := 0) 0 k1 rfl in_X12 (by decide) w_1118 rfl dX12_canBe_131 rfl ?_
                        refine x_sipush C (v := 192) dX12_canBe_134 (by decide) rfl ?_
                        refine x_iload C dX12_canBe_137 0 rfl rfl ?_
                        refine x_iadd C (v := (nI (192 + (g212 k)))) dX12_canBe_139 (nI_add 192 (g212 k)) rfl ?_
                        obtain ⟨_, k227, f228, pf229, rfl⟩ := hW 1 _ rfl
                        refine x_iald C (v := (f228 (nI (192 + (g212 k))).toNatClampNeg)) 1 k227 (vp_in_nI (by omega) (by decide)) rfl dX12_canBe_140 rfl ?_
                        refine x_any (fun v230 => ?_)
                        refine x_bipush C (v := 9) dX12_canBe_141 (by decide) rfl ?_
                        refine x_icmp_ne C (tgt := 148) dX12_canBe_143 (by decide) rfl (fun c231 => ?_) (fun c231 => ?_)
                        · skip
                          refine x_iinc C (v := (nI (k + 1))) (lv' := [(3, .int (nI (k + 1))), (4, .int (nI (g212 k))), (0, .ref (a 0)), (1, .int (nI l0)), (2, .int (nI (g30 l0)))]) dX12_canBe_148 4 rfl (nI_add k 1) (by decide) rfl rfl ?_
                          refine x_goto C (tgt := 62) dX12_canBe_151 (by decide) ?_
                          refine x_lv (lv1 := [(0, .ref (a 0)), (1, .int (nI l0)), (2, .int (nI (g30 l0))), (3, .int (nI (k + 1)))]) [2, 3, 4, 0] rfl ?_
                          exact ih62 (k + 1) trivial (by omega) (by omega)
                        · skip
                          refine x_iconst C (v := 0) dX12_canBe_146 (by decide) rfl ?_
                          exact x_zret C hr hlk rfl dX12_canBe_147 ⟨rfl, (Or.inl rfl)⟩
                    · skip
                      refine x_aload_n C dX12_canBe_104 rfl 1 rfl rfl ?_
                      refine x_get C (ci := 11) (k := 0) 0 k1 rfl in_X12 (by decide) w_1118 rfl dX12_canBe_105 rfl ?_
                      refine x_sipush C (v := 144) dX12_canBe_108 (by decide) rfl ?_
                      refine x_iload C dX12_canBe_111 0 rfl rfl ?_
                      refine x_iadd C (v := (nI (144 + (g212 k)))) dX12_canBe_113 (nI_add 144 (g212 k)) rfl ?_
                      obtain ⟨_, k232, f233, pf234, rfl⟩ := hW 1 _ rfl
                      obtain ⟨n235, hn236, en237⟩ := NB_own (j := (g212 k)) pf234 (by omega)
                      refine x_ialk C (v := nI n235) (144 + (g212 k)) (nI_clamp (by omega)) (nI_pos (by omega)) (by omega) 1 k232 en237 dX12_canBe_114 rfl ?_
                      refine x_iload_n C dX12_canBe_115 rfl 3 rfl rfl ?_
                      refine x_icmp_eq C (tgt := 146) dX12_canBe_116 (by decide) rfl (fun c238 => ?_) (fun c238 => ?_)
                      · skip
                        have nf239 : n235 = g30 l0 := (nI_eq (by omega) (by omega)).mp c238
                        refine x_iconst C (v := 0) dX12_canBe_146 (by decide) rfl ?_
                        exact x_zret C hr hlk rfl dX12_canBe_147 ⟨rfl, (Or.inl rfl)⟩
                      · skip
                        have nf240 : ¬ n235 = g30 l0 := fun q => c238 (congrArg nI q)
                        refine x_aload_n C dX12_canBe_119 rfl 1 rfl rfl ?_
                        refine x_get C (ci := 11) (k := 29) 0 k1 rfl in_X12 (by decide) w_1147 rfl dX12_canBe_120 rfl ?_
                        refine x_iload_n C dX12_canBe_123 rfl 2 rfl rfl ?_
                        refine x_iald C (v := (f34 (nI l0).toNatClampNeg)) 19 k33 (vp_in_nI (by omega) (by decide)) rfl dX12_canBe_124 rfl ?_
                        refine x_any (fun v241 => ?_)
                        refine x_bipush C (v := 42) dX12_canBe_125 (by decide) rfl ?_
                        refine x_icmp_ne C (tgt := 148) dX12_canBe_127 (by decide) rfl (fun c242 => ?_) (fun c242 => ?_)
                        · skip
                          refine x_iinc C (v := (nI (k + 1))) (lv' := [(3, .int (nI (k + 1))), (4, .int (nI (g212 k))), (0, .ref (a 0)), (1, .int (nI l0)), (2, .int (nI (g30 l0)))]) dX12_canBe_148 4 rfl (nI_add k 1) (by decide) rfl rfl ?_
                          refine x_goto C (tgt := 62) dX12_canBe_151 (by decide) ?_
                          refine x_lv (lv1 := [(0, .ref (a 0)), (1, .int (nI l0)), (2, .int (nI (g30 l0))), (3, .int (nI (k + 1)))]) [2, 3, 4, 0] rfl ?_
                          exact ih62 (k + 1) trivial (by omega) (by omega)
                        · skip
                          refine x_aload_n C dX12_canBe_130 rfl 1 rfl rfl ?_
                          refine x_get C (ci := 11) (k := 0) 0 k1 rfl in_X12 (by decide) w_1118 rfl dX12_canBe_131 rfl ?_
                          refine x_sipush C (v := 192) dX12_canBe_134 (by decide) rfl ?_
                          refine x_iload C dX12_canBe_137 0 rfl rfl ?_
                          refine x_iadd C (v := (nI (192 + (g212 k)))) dX12_canBe_139 (nI_add 192 (g212 k)) rfl ?_
                          refine x_iald C (v := (f233 (nI (192 + (g212 k))).toNatClampNeg)) 1 k232 (vp_in_nI (by omega) (by decide)) rfl dX12_canBe_140 rfl ?_
                          refine x_any (fun v243 => ?_)
                          refine x_bipush C (v := 9) dX12_canBe_141 (by decide) rfl ?_
                          refine x_icmp_ne C (tgt := 148) dX12_canBe_143 (by decide) rfl (fun c244 => ?_) (fun c244 => ?_)
                          · skip
                            refine x_iinc C (v := (nI (k + 1))) (lv' := [(3, .int (nI (k + 1))), (4, .int (nI (g212 k))), (0, .ref (a 0)), (1, .int (nI l0)), (2, .int (nI (g30 l0)))]) dX12_canBe_148 4 rfl (nI_add k 1) (by decide) rfl rfl ?_
                            refine x_goto C (tgt := 62) dX12_canBe_151 (by decide) ?_
                            refine x_lv (lv1 := [(0, .ref (a 0)), (1, .int (nI l0)), (2, .int (nI (g30 l0))), (3, .int (nI (k + 1)))]) [2, 3, 4, 0] rfl ?_
                            exact ih62 (k + 1) trivial (by omega) (by omega)
                          · skip
                            refine x_iconst C (v := 0) dX12_canBe_146 (by decide) rfl ?_
                            exact x_zret C hr hlk rfl dX12_canBe_147 ⟨rfl, (Or.inl rfl)⟩
                  · skip
                    refine x_iconst C (v := 0) dX12_canBe_91 (by decide) rfl ?_
                    exact x_zret C hr hlk rfl dX12_canBe_92 ⟨rfl, (Or.inl rfl)⟩
            refine x_lv (lv1 := [(0, .ref (a 0)), (1, .int (nI l0)), (2, .int (nI (g30 l0))), (3, .int (nI (g204 l0)))]) [2, 3, 1, 0] rfl ?_
            exact loop62 _ (g204 l0) trivial (Nat.lt_succ_self _) (by omega)
          · skip
            refine x_iconst C (v := 0) dX12_canBe_53 (by decide) rfl ?_
            exact x_zret C hr hlk rfl dX12_canBe_54 ⟨rfl, (Or.inl rfl)⟩
theorem dX12_does_0 : decode cX12_does 0 = .ok (.aload_n 0, 1) := by decide +kernel
theorem dX12_does_1 : decode cX12_does 1 = .ok (.iload_n 1, 1) := by decide +kernel
theorem dX12_does_2 : decode cX12_does 2 = .ok (.invokevirtual 281, 3) := by decide +kernel
theorem dX12_does_5 : decode cX12_does 5 = .ok (.ifCond .ne 5, 3) := by decide +kernel
theorem dX12_does_8 : decode cX12_does 8 = .ok (.iconst 0, 1) := by decide +kernel
theorem dX12_does_9 : decode cX12_does 9 = .ok (.ireturn, 1) := by decide +kernel
theorem dX12_does_10 : decode cX12_does 10 = .ok (.aload_n 0, 1) := by decide +kernel
theorem dX12_does_11 : decode cX12_does 11 = .ok (.getfield 62, 3) := by decide +kernel
theorem dX12_does_14 : decode cX12_does 14 = .ok (.iload_n 1, 1) := by decide +kernel
theorem dX12_does_15 : decode cX12_does 15 = .ok (.iaload, 1) := by decide +kernel
theorem dX12_does_16 : decode cX12_does 16 = .ok (.istore_n 2, 1) := by decide +kernel
theorem dX12_does_17 : decode cX12_does 17 = .ok (.iload_n 2, 1) := by decide +kernel
theorem dX12_does_18 : decode cX12_does 18 = .ok (.aload_n 0, 1) := by decide +kernel
theorem dX12_does_19 : decode cX12_does 19 = .ok (.getfield 62, 3) := by decide +kernel
theorem dX12_does_22 : decode cX12_does 22 = .ok (.iload_n 1, 1) := by decide +kernel
theorem dX12_does_23 : decode cX12_does 23 = .ok (.iconst 1, 1) := by decide +kernel
theorem dX12_does_24 : decode cX12_does 24 = .ok (.iadd, 1) := by decide +kernel
theorem dX12_does_25 : decode cX12_does 25 = .ok (.iaload, 1) := by decide +kernel
theorem dX12_does_26 : decode cX12_does 26 = .ok (.if_icmp .ge 109, 3) := by decide +kernel
theorem dX12_does_29 : decode cX12_does 29 = .ok (.aload_n 0, 1) := by decide +kernel
theorem dX12_does_30 : decode cX12_does 30 = .ok (.getfield 65, 3) := by decide +kernel
theorem dX12_does_33 : decode cX12_does 33 = .ok (.iload_n 1, 1) := by decide +kernel
theorem dX12_does_34 : decode cX12_does 34 = .ok (.iaload, 1) := by decide +kernel
theorem dX12_does_35 : decode cX12_does 35 = .ok (.lookupswitch 84 #[(33, 52), (46, 71), (62, 33)], 33) := by decide +kernel
theorem dX12_does_68 : decode cX12_does 68 = .ok (.aload_n 0, 1) := by decide +kernel
theorem dX12_does_69 : decode cX12_does 69 = .ok (.aload_n 0, 1) := by decide +kernel
theorem dX12_does_70 : decode cX12_does 70 = .ok (.getfield 71, 3) := by decide +kernel
theorem dX12_does_73 : decode cX12_does 73 = .ok (.iload_n 2, 1) := by decide +kernel
theorem dX12_does_74 : decode cX12_does 74 = .ok (.iaload, 1) := by decide +kernel
theorem dX12_does_75 : decode cX12_does 75 = .ok (.aload_n 0, 1) := by decide +kernel
theorem dX12_does_76 : decode cX12_does 76 = .ok (.getfield 68, 3) := by decide +kernel
theorem dX12_does_79 : decode cX12_does 79 = .ok (.iload_n 1, 1) := by decide +kernel
theorem dX12_does_80 : decode cX12_does 80 = .ok (.iaload, 1) := by decide +kernel
theorem dX12_does_81 : decode cX12_does 81 = .ok (.invokevirtual 284, 3) := by decide +kernel
theorem dX12_does_84 : decode cX12_does 84 = .ok (.goto 45, 3) := by decide +kernel
theorem dX12_does_87 : decode cX12_does 87 = .ok (.aload_n 0, 1) := by decide +kernel
theorem dX12_does_88 : decode cX12_does 88 = .ok (.aload_n 0, 1) := by decide +kernel
theorem dX12_does_89 : decode cX12_does 89 = .ok (.getfield 71, 3) := by decide +kernel
theorem dX12_does_92 : decode cX12_does 92 = .ok (.iload_n 2, 1) := by decide +kernel
theorem dX12_does_93 : decode cX12_does 93 = .ok (.iaload, 1) := by decide +kernel
theorem dX12_does_94 : decode cX12_does 94 = .ok (.aload_n 0, 1) := by decide +kernel
theorem dX12_does_95 : decode cX12_does 95 = .ok (.getfield 68, 3) := by decide +kernel
theorem dX12_does_98 : decode cX12_does 98 = .ok (.iload_n 1, 1) := by decide +kernel
theorem dX12_does_99 : decode cX12_does 99 = .ok (.iaload, 1) := by decide +kernel
theorem dX12_does_100 : decode cX12_does 100 = .ok (.invokevirtual 287, 3) := by decide +kernel
theorem dX12_does_103 : decode cX12_does 103 = .ok (.goto 26, 3) := by decide +kernel
theorem dX12_does_106 : decode cX12_does 106 = .ok (.aload_n 0, 1) := by decide +kernel
theorem dX12_does_107 : decode cX12_does 107 = .ok (.aload_n 0, 1) := by decide +kernel
theorem dX12_does_108 : decode cX12_does 108 = .ok (.getfield 71, 3) := by decide +kernel
theorem dX12_does_111 : decode cX12_does 111 = .ok (.iload_n 2, 1) := by decide +kernel
theorem dX12_does_112 : decode cX12_does 112 = .ok (.iaload, 1) := by decide +kernel
theorem dX12_does_113 : decode cX12_does 113 = .ok (.invokevirtual 278, 3) := by decide +kernel
theorem dX12_does_116 : decode cX12_does 116 = .ok (.goto 13, 3) := by decide +kernel
theorem dX12_does_119 : decode cX12_does 119 = .ok (.aload_n 0, 1) := by decide +kernel
theorem dX12_does_120 : decode cX12_does 120 = .ok (.aload_n 0, 1) := by decide +kernel
theorem dX12_does_121 : decode cX12_does 121 = .ok (.getfield 71, 3) := by decide +kernel
theorem dX12_does_124 : decode cX12_does 124 = .ok (.iload_n 2, 1) := by decide +kernel
theorem dX12_does_125 : decode cX12_does 125 = .ok (.iaload, 1) := by decide +kernel
theorem dX12_does_126 : decode cX12_does 126 = .ok (.invokevirtual 290, 3) := by decide +kernel
theorem dX12_does_129 : decode cX12_does 129 = .ok (.iinc 2 1, 3) := by decide +kernel
theorem dX12_does_132 : decode cX12_does 132 = .ok (.goto (-115), 3) := by decide +kernel
theorem dX12_does_135 : decode cX12_does 135 = .ok (.iconst 1, 1) := by decide +kernel
theorem dX12_does_136 : decode cX12_does 136 = .ok (.ireturn, 1) := by decide +kernel
set_option maxRecDepth 20000 in
set_option maxHeartbeats 4000000 in
theorem m_does (E : xE) (l : Launch) (a : Nat → Nat) (cd : Cd) (hG : Good cd) (ws : va_W) (hW : WX (okM E a cd) ws) (l0 : Nat) (hl0 : l0 ≤ 23) : xI E l yX12_does cX12_does 3 (some .boolean) 5 [.ref (a 0), .int (nI l0)] ws (fun r w => WX (okM E a cd) w ∧ keeps ws w (fun q => q = 1 ∨ q = 16 ∨ q = 17) ∧ zb r) := by
  refine xI_start (lv := [(0, .ref (a 0)), (1, .int (nI l0))]) RX12 (by decide) rfl (Nat.le_of_ble_eq_true rfl) rfl (fun p e s m below meth c A C hr hlk => ?_)
  have kp0 : keeps ws ws (fun q => q = 1 ∨ q = 16 ∨ q = 17) := keeps_rf
  refine x_aload_n C dX12_does_0 rfl 0 rfl rfl ?_
  refine x_iload_n C dX12_does_1 rfl 1 rfl rfl ?_
  obtain ⟨_, k1, n2, n4, n6, v8, v9, v10, n11, n13, n15, n17, v19, v20, v21, v22, n23, n25, v27, bn3, bn5, bn7, bn12, bn14, bn16, bn18, bn24, bn26, zv28, rfl⟩ := hW 0 _ rfl
  refine x_vi C (As := [.int (nI l0)]) (rest := []) (m_canBe E l a cd hG ws hW l0 (by omega)) mf_X12_canBe w_1423 0 k1 rfl rfl rfl (Nat.le_of_ble_eq_true rfl) ⟨(Nat.le_of_ble_eq_true rfl), (Nat.le_of_ble_eq_true rfl)⟩ ⟨(Nat.le_of_ble_eq_true rfl), (Nat.le_of_ble_eq_true rfl)⟩ dX12_does_2 rfl (fun r30 w31 h29 => ?_)
  obtain ⟨hW32, zb33⟩ := h29
  refine x_ws hW32 ?_
  refine x_if_ne C (tgt := 10) dX12_does_5 (by decide) rfl (fun c34 => ?_) (fun c34 => ?_)
  · skip
    refine x_aload_n C dX12_does_10 rfl 0 rfl rfl ?_
    refine x_get C (ci := 11) (k := 28) 0 k1 rfl in_X12 (by decide) w_1146 rfl dX12_does_11 rfl ?_
    refine x_iload_n C dX12_does_14 rfl 1 rfl rfl ?_
    obtain ⟨_, k35, g36, gb37, rfl⟩ := hW 18 _ rfl
    refine x_ialk C (v := nI (g36 l0)) l0 (nI_clamp (by omega)) (nI_pos (by omega)) (by omega) 18 k35 rfl dX12_does_15 rfl ?_
    have bx38 := gb37 l0
    refine x_istore_n C (lv' := [(2, .int (nI (g36 l0))), (0, .ref (a 0)), (1, .int (nI l0))]) dX12_does_16 rfl (by decide) rfl rfl ?_
    have loop17 : ∀ (fu17 : Nat) (k : Nat) (wl17 : va_W), WX (okM E a cd) wl17 → 192 - k < fu17 → k ≤ 192 → keeps ws wl17 (fun q => q = 1 ∨ q = 16 ∨ q = 17) → X E p l e (xRm 5 0 0) s m ([.ref (a 0), .int (nI l0)] : List Value).toArray below meth c A 3 0 0 (MQ below (va_Qi (fun r w => WX (okM E a cd) w ∧ keeps ws w (fun q => q = 1 ∨ q = 16 ∨ q = 17) ∧ zb r) (xB E A) A) ([.ref (a 0), .int (nI l0)] : List Value).toArray s 0 0 A) wl17 17 [(0, .ref (a 0)), (1, .int (nI l0)), (2, .int (nI k))] [] := by
      intro fu17
      induction fu17 with
      | zero => intro k wl17 _ q; omega
      | succ fu17 ih17 =>
        intro k wl17 hWl17 me17 iv17_0 kq17
        refine x_iload_n C dX12_does_17 rfl 2 rfl rfl ?_
        refine x_aload_n C dX12_does_18 rfl 0 rfl rfl ?_
        obtain ⟨_, k39, n40, n42, n44, v46, v47, v48, n49, n51, n53, n55, v57, v58, v59, v60, n61, n63, v65, bn41, bn43, bn45, bn50, bn52, bn54, bn56, bn62, bn64, zv66, rfl⟩ := hWl17 0 _ rfl
        refine x_get C (ci := 11) (k := 28) 0 k39 rfl in_X12 (by decide) w_1146 rfl dX12_does_19 rfl ?_
        refine x_iload_n C dX12_does_22 rfl 1 rfl rfl ?_
        refine x_iconst C (v := 1) dX12_does_23 (by decide) rfl ?_
        refine x_iadd C (v := (nI (l0 + 1))) dX12_does_24 (nI_add l0 1) rfl ?_
        obtain ⟨_, k67, g68, gb69, rfl⟩ := hWl17 18 _ rfl
        refine x_ialk C (v := nI (g68 (l0 + 1))) (l0 + 1) (nI_clamp (by omega)) (nI_pos (by omega)) (by omega) 18 k67 rfl dX12_does_25 rfl ?_
        have bx70 := gb69 (l0 + 1)
        refine x_icmp_ge C (tgt := 135) dX12_does_26 (by decide) rfl (fun c71 => ?_) (fun c71 => ?_)
        · skip
          have nf72 := nI_le' (a := (g68 (l0 + 1))) (b := k) c71 (by omega) (by omega)
          refine x_iconst C (v := 1) dX12_does_135 (by decide) rfl ?_
          exact x_zret C hr hlk rfl dX12_does_136 ⟨hWl17, kq17, (Or.inr rfl)⟩
        · skip
          have nf73 := nI_nle' (a := (g68 (l0 + 1))) (b := k) c71 (by omega) (by omega)
          refine x_aload_n C dX12_does_29 rfl 0 rfl rfl ?_
          refine x_get C (ci := 11) (k := 29) 0 k39 rfl in_X12 (by decide) w_1147 rfl dX12_does_30 rfl ?_
          refine x_iload_n C dX12_does_33 rfl 1 rfl rfl ?_
          obtain ⟨_, k74, f75, rfl⟩ := hWl17 19 _ rfl
          refine x_iald C (v := (f75 (nI l0).toNatClampNeg)) 19 k74 (vp_in_nI (by omega) (by decide)) rfl dX12_does_34 rfl ?_
          refine x_any (fun v76 => ?_)
          by_cases e77 : v76 = 33
          · refine x_look C (off := 52) (tgt := 87) dX12_does_35 (by decide) (by rw [e77]; decide) (by decide) ?_
            refine x_aload_n C dX12_does_87 rfl 0 rfl rfl ?_
            refine x_aload_n C dX12_does_88 rfl 0 rfl rfl ?_
            refine x_get C (ci := 11) (k := 31) 0 k39 rfl in_X12 (by decide) w_1149 rfl dX12_does_89 rfl ?_
            refine x_iload_n C dX12_does_92 rfl 2 rfl rfl ?_
            obtain ⟨_, k78, g79, gb80, rfl⟩ := hWl17 21 _ rfl
            refine x_ialk C (v := nI (g79 k)) k (nI_clamp (by omega)) (nI_pos (by omega)) (by omega) 21 k78 rfl dX12_does_93 rfl ?_
            have bx81 := gb80 k
            refine x_aload_n C dX12_does_94 rfl 0 rfl rfl ?_
            refine x_get C (ci := 11) (k := 30) 0 k39 rfl in_X12 (by decide) w_1148 rfl dX12_does_95 rfl ?_
            refine x_iload_n C dX12_does_98 rfl 1 rfl rfl ?_
            obtain ⟨_, k82, g83, gb84, rfl⟩ := hWl17 20 _ rfl
            refine x_ialk C (v := nI (g83 l0)) l0 (nI_clamp (by omega)) (nI_pos (by omega)) (by omega) 20 k82 rfl dX12_does_99 rfl ?_
            have bx85 := gb84 l0
            refine x_vv C (As := [.int (nI (g79 k)), .int (nI (g83 l0))]) (rest := []) (m_worksBy E l a cd hG wl17 hWl17 (g79 k) (g83 l0) (by omega) (by omega)) mf_X12_worksBy w_1447 0 k39 rfl rfl rfl (Nat.le_of_ble_eq_true rfl) ⟨(Nat.le_of_ble_eq_true rfl), (Nat.le_of_ble_eq_true rfl)⟩ ⟨(Nat.le_of_ble_eq_true rfl), (Nat.le_of_ble_eq_true rfl)⟩ dX12_does_100 rfl (fun w88 h86 => ?_)
            obtain ⟨hW89, kq90⟩ := h86
            have k91 : w88[0]? = some (ob (a 0) 11 [.ref (a 1), .ref (a 2), .ref (a 3), .ref (a 4), .int (nI n40), .int (nI n42), .int (nI n44), .int v46, .int v47, .int v48, .int (nI n49), .int (nI n51), .int (nI n53), .int (nI (cd.2.2.2.2.2)), .ref (a 5), .ref (a 6), .ref (a 7), .ref (a 8), .ref (a 9), .ref (a 10), .ref (a 11), .ref (a 12), .ref (a 13), .ref (a 14), .ref (a 15), .ref (a 16), .ref (a 17), .int (nI n55), .ref (a 18), .ref (a 19), .ref (a 20), .ref (a 21), .int v57, .int v58, .int v59, .int v60, .int (nI n61), .int (nI n63), .ref (a 22), .ref (a 23), .ref (a 24), .ref (a 25), .ref (a 26), .ref (a 27), .ref (a 28), .ref (a 29), .ref (a 30), .int v65]) := keeps_at kq90 k39 (by first | decide | omega | (dsimp only; omega))
            have k92 : w88[18]? = some (iA E (a 18) 25 (fun j => nI (g68 j))) := keeps_at kq90 k67 (by first | decide | omega | (dsimp only; omega))
            have k93 : w88[19]? = some (iA E (a 19) 24 f75) := keeps_at kq90 k74 (by first | decide | omega | (dsimp only; omega))
            have k94 : w88[21]? = some (iA E (a 21) 192 (fun j => nI (g79 j))) := keeps_at kq90 k78 (by first | decide | omega | (dsimp only; omega))
            have k95 : w88[20]? = some (iA E (a 20) 24 (fun j => nI (g83 j))) := keeps_at kq90 k82 (by first | decide | omega | (dsimp only; omega))
            have kp96 := keeps_tr kq17 kq90 (fun q hq => by first | omega | (dsimp only at *; omega))
            refine x_goto C (tgt := 129) dX12_does_103 (by decide) ?_
            refine x_iinc C (v := (nI (k + 1))) (lv' := [(2, .int (nI (k + 1))), (0, .ref (a 0)), (1, .int (nI l0))]) dX12_does_129 2 rfl (nI_add k 1) (by decide) rfl rfl ?_
            refine x_goto C (tgt := 17) dX12_does_132 (by decide) ?_
            refine x_lv (lv1 := [(0, .ref (a 0)), (1, .int (nI l0)), (2, .int (nI (k + 1)))]) [1, 2, 0] rfl ?_
            exact ih17 (k + 1) w88 hW89 (by omega) (by omega) kp96
          by_cases e97 : v76 = 46
          · refine x_look C (off := 71) (tgt := 106) dX12_does_35 (by decide) (by rw [e97]; decide) (by decide) ?_
            refine x_aload_n C dX12_does_106 rfl 0 rfl rfl ?_
            refine x_aload_n C dX12_does_107 rfl 0 rfl rfl ?_
            refine x_get C (ci := 11) (k := 31) 0 k39 rfl in_X12 (by decide) w_1149 rfl dX12_does_108 rfl ?_
            refine x_iload_n C dX12_does_111 rfl 2 rfl rfl ?_
            obtain ⟨_, k98, g99, gb100, rfl⟩ := hWl17 21 _ rfl
            refine x_ialk C (v := nI (g99 k)) k (nI_clamp (by omega)) (nI_pos (by omega)) (by omega) 21 k98 rfl dX12_does_112 rfl ?_
            have bx101 := gb100 k
            refine x_vv C (As := [.int (nI (g99 k))]) (rest := []) (m_breaks E l a cd hG wl17 hWl17 (g99 k) (by omega)) mf_X12_breaks w_1474 0 k39 rfl rfl rfl (Nat.le_of_ble_eq_true rfl) ⟨(Nat.le_of_ble_eq_true rfl), (Nat.le_of_ble_eq_true rfl)⟩ ⟨(Nat.le_of_ble_eq_true rfl), (Nat.le_of_ble_eq_true rfl)⟩ dX12_does_113 rfl (fun w104 h102 => ?_)
            obtain ⟨hW105, kq106⟩ := h102
            have k107 : w104[0]? = some (ob (a 0) 11 [.ref (a 1), .ref (a 2), .ref (a 3), .ref (a 4), .int (nI n40), .int (nI n42), .int (nI n44), .int v46, .int v47, .int v48, .int (nI n49), .int (nI n51), .int (nI n53), .int (nI (cd.2.2.2.2.2)), .ref (a 5), .ref (a 6), .ref (a 7), .ref (a 8), .ref (a 9), .ref (a 10), .ref (a 11), .ref (a 12), .ref (a 13), .ref (a 14), .ref (a 15), .ref (a 16), .ref (a 17), .int (nI n55), .ref (a 18), .ref (a 19), .ref (a 20), .ref (a 21), .int v57, .int v58, .int v59, .int v60, .int (nI n61), .int (nI n63), .ref (a 22), .ref (a 23), .ref (a 24), .ref (a 25), .ref (a 26), .ref (a 27), .ref (a 28), .ref (a 29), .ref (a 30), .int v65]) := keeps_at kq106 k39 (by first | decide | omega | (dsimp only; omega))
            have k108 : w104[18]? = some (iA E (a 18) 25 (fun j => nI (g68 j))) := keeps_at kq106 k67 (by first | decide | omega | (dsimp only; omega))
            have k109 : w104[19]? = some (iA E (a 19) 24 f75) := keeps_at kq106 k74 (by first | decide | omega | (dsimp only; omega))
            have k110 : w104[21]? = some (iA E (a 21) 192 (fun j => nI (g99 j))) := keeps_at kq106 k98 (by first | decide | omega | (dsimp only; omega))
            have kp111 := keeps_tr kq17 kq106 (fun q hq => by first | omega | (dsimp only at *; omega))
            refine x_goto C (tgt := 129) dX12_does_116 (by decide) ?_
            refine x_iinc C (v := (nI (k + 1))) (lv' := [(2, .int (nI (k + 1))), (0, .ref (a 0)), (1, .int (nI l0))]) dX12_does_129 2 rfl (nI_add k 1) (by decide) rfl rfl ?_
            refine x_goto C (tgt := 17) dX12_does_132 (by decide) ?_
            refine x_lv (lv1 := [(0, .ref (a 0)), (1, .int (nI l0)), (2, .int (nI (k + 1)))]) [1, 2, 0] rfl ?_
            exact ih17 (k + 1) w104 hW105 (by omega) (by omega) kp111
          by_cases e112 : v76 = 62
          · refine x_look C (off := 33) (tgt := 68) dX12_does_35 (by decide) (by rw [e112]; decide) (by decide) ?_
            refine x_aload_n C dX12_does_68 rfl 0 rfl rfl ?_
            refine x_aload_n C dX12_does_69 rfl 0 rfl rfl ?_
            refine x_get C (ci := 11) (k := 31) 0 k39 rfl in_X12 (by decide) w_1149 rfl dX12_does_70 rfl ?_
            refine x_iload_n C dX12_does_73 rfl 2 rfl rfl ?_
            obtain ⟨_, k113, g114, gb115, rfl⟩ := hWl17 21 _ rfl
            refine x_ialk C (v := nI (g114 k)) k (nI_clamp (by omega)) (nI_pos (by omega)) (by omega) 21 k113 rfl dX12_does_74 rfl ?_
            have bx116 := gb115 k
            refine x_aload_n C dX12_does_75 rfl 0 rfl rfl ?_
            refine x_get C (ci := 11) (k := 30) 0 k39 rfl in_X12 (by decide) w_1148 rfl dX12_does_76 rfl ?_
            refine x_iload_n C dX12_does_79 rfl 1 rfl rfl ?_
            obtain ⟨_, k117, g118, gb119, rfl⟩ := hWl17 20 _ rfl
            refine x_ialk C (v := nI (g118 l0)) l0 (nI_clamp (by omega)) (nI_pos (by omega)) (by omega) 20 k117 rfl dX12_does_80 rfl ?_
            have bx120 := gb119 l0
            refine x_vv C (As := [.int (nI (g114 k)), .int (nI (g118 l0))]) (rest := []) (m_gives E l a cd hG wl17 hWl17 (g114 k) (g118 l0) (by omega) (by omega)) mf_X12_gives w_1443 0 k39 rfl rfl rfl (Nat.le_of_ble_eq_true rfl) ⟨(Nat.le_of_ble_eq_true rfl), (Nat.le_of_ble_eq_true rfl)⟩ ⟨(Nat.le_of_ble_eq_true rfl), (Nat.le_of_ble_eq_true rfl)⟩ dX12_does_81 rfl (fun w123 h121 => ?_)
            obtain ⟨hW124, kq125⟩ := h121
            have k126 : w123[0]? = some (ob (a 0) 11 [.ref (a 1), .ref (a 2), .ref (a 3), .ref (a 4), .int (nI n40), .int (nI n42), .int (nI n44), .int v46, .int v47, .int v48, .int (nI n49), .int (nI n51), .int (nI n53), .int (nI (cd.2.2.2.2.2)), .ref (a 5), .ref (a 6), .ref (a 7), .ref (a 8), .ref (a 9), .ref (a 10), .ref (a 11), .ref (a 12), .ref (a 13), .ref (a 14), .ref (a 15), .ref (a 16), .ref (a 17), .int (nI n55), .ref (a 18), .ref (a 19), .ref (a 20), .ref (a 21), .int v57, .int v58, .int v59, .int v60, .int (nI n61), .int (nI n63), .ref (a 22), .ref (a 23), .ref (a 24), .ref (a 25), .ref (a 26), .ref (a 27), .ref (a 28), .ref (a 29), .ref (a 30), .int v65]) := keeps_at kq125 k39 (by first | decide | omega | (dsimp only; omega))
            have k127 : w123[18]? = some (iA E (a 18) 25 (fun j => nI (g68 j))) := keeps_at kq125 k67 (by first | decide | omega | (dsimp only; omega))
            have k128 : w123[19]? = some (iA E (a 19) 24 f75) := keeps_at kq125 k74 (by first | decide | omega | (dsimp only; omega))
            have k129 : w123[21]? = some (iA E (a 21) 192 (fun j => nI (g114 j))) := keeps_at kq125 k113 (by first | decide | omega | (dsimp only; omega))
            have k130 : w123[20]? = some (iA E (a 20) 24 (fun j => nI (g118 j))) := keeps_at kq125 k117 (by first | decide | omega | (dsimp only; omega))
            have kp131 := keeps_tr kq17 kq125 (fun q hq => by first | omega | (dsimp only at *; omega))
            refine x_goto C (tgt := 129) dX12_does_84 (by decide) ?_
            refine x_iinc C (v := (nI (k + 1))) (lv' := [(2, .int (nI (k + 1))), (0, .ref (a 0)), (1, .int (nI l0))]) dX12_does_129 2 rfl (nI_add k 1) (by decide) rfl rfl ?_
            refine x_goto C (tgt := 17) dX12_does_132 (by decide) ?_
            refine x_lv (lv1 := [(0, .ref (a 0)), (1, .int (nI l0)), (2, .int (nI (k + 1)))]) [1, 2, 0] rfl ?_
            exact ih17 (k + 1) w123 hW124 (by omega) (by omega) kp131
          refine x_look C (off := 84) (tgt := 119) dX12_does_35 (by decide) ((lv_osw e77 (by decide)).trans ((lv_osw e97 (by decide)).trans ((lv_osw e112 (by decide)).trans rfl))) (by decide) ?_
          refine x_aload_n C dX12_does_119 rfl 0 rfl rfl ?_
          refine x_aload_n C dX12_does_120 rfl 0 rfl rfl ?_
          refine x_get C (ci := 11) (k := 31) 0 k39 rfl in_X12 (by decide) w_1149 rfl dX12_does_121 rfl ?_
          refine x_iload_n C dX12_does_124 rfl 2 rfl rfl ?_
          obtain ⟨_, k132, g133, gb134, rfl⟩ := hWl17 21 _ rfl
          refine x_ialk C (v := nI (g133 k)) k (nI_clamp (by omega)) (nI_pos (by omega)) (by omega) 21 k132 rfl dX12_does_125 rfl ?_
          have bx135 := gb134 k
          refine x_vv C (As := [.int (nI (g133 k))]) (rest := []) (m_broods E l a cd hG wl17 hWl17 (g133 k) (by omega)) mf_X12_broods w_1482 0 k39 rfl rfl rfl (Nat.le_of_ble_eq_true rfl) ⟨(Nat.le_of_ble_eq_true rfl), (Nat.le_of_ble_eq_true rfl)⟩ ⟨(Nat.le_of_ble_eq_true rfl), (Nat.le_of_ble_eq_true rfl)⟩ dX12_does_126 rfl (fun w138 h136 => ?_)
          obtain ⟨hW139, kq140⟩ := h136
          have k141 : w138[0]? = some (ob (a 0) 11 [.ref (a 1), .ref (a 2), .ref (a 3), .ref (a 4), .int (nI n40), .int (nI n42), .int (nI n44), .int v46, .int v47, .int v48, .int (nI n49), .int (nI n51), .int (nI n53), .int (nI (cd.2.2.2.2.2)), .ref (a 5), .ref (a 6), .ref (a 7), .ref (a 8), .ref (a 9), .ref (a 10), .ref (a 11), .ref (a 12), .ref (a 13), .ref (a 14), .ref (a 15), .ref (a 16), .ref (a 17), .int (nI n55), .ref (a 18), .ref (a 19), .ref (a 20), .ref (a 21), .int v57, .int v58, .int v59, .int v60, .int (nI n61), .int (nI n63), .ref (a 22), .ref (a 23), .ref (a 24), .ref (a 25), .ref (a 26), .ref (a 27), .ref (a 28), .ref (a 29), .ref (a 30), .int v65]) := keeps_at kq140 k39 (by first | decide | omega | (dsimp only; omega))
          have k142 : w138[18]? = some (iA E (a 18) 25 (fun j => nI (g68 j))) := keeps_at kq140 k67 (by first | decide | omega | (dsimp only; omega))
          have k143 : w138[19]? = some (iA E (a 19) 24 f75) := keeps_at kq140 k74 (by first | decide | omega | (dsimp only; omega))
          have k144 : w138[21]? = some (iA E (a 21) 192 (fun j => nI (g133 j))) := keeps_at kq140 k132 (by first | decide | omega | (dsimp only; omega))
          have kp145 := keeps_tr kq17 kq140 (fun q hq => by first | omega | (dsimp only at *; omega))
          refine x_iinc C (v := (nI (k + 1))) (lv' := [(2, .int (nI (k + 1))), (0, .ref (a 0)), (1, .int (nI l0))]) dX12_does_129 2 rfl (nI_add k 1) (by decide) rfl rfl ?_
          refine x_goto C (tgt := 17) dX12_does_132 (by decide) ?_
          refine x_lv (lv1 := [(0, .ref (a 0)), (1, .int (nI l0)), (2, .int (nI (k + 1)))]) [1, 2, 0] rfl ?_
          exact ih17 (k + 1) w138 hW139 (by omega) (by omega) kp145
    refine x_lv (lv1 := [(0, .ref (a 0)), (1, .int (nI l0)), (2, .int (nI (g36 l0)))]) [1, 2, 0] rfl ?_
    exact loop17 _ (g36 l0) ws hW (Nat.lt_succ_self _) (by omega) kp0
  · skip
    refine x_iconst C (v := 0) dX12_does_8 (by decide) rfl ?_
    exact x_zret C hr hlk rfl dX12_does_9 ⟨hW, kp0, (Or.inl rfl)⟩
theorem dX12_acts_0 : decode cX12_acts 0 = .ok (.iload_n 1, 1) := by decide +kernel
theorem dX12_acts_1 : decode cX12_acts 1 = .ok (.iconst 1, 1) := by decide +kernel
theorem dX12_acts_2 : decode cX12_acts 2 = .ok (.sipush 140, 3) := by decide +kernel
theorem dX12_acts_5 : decode cX12_acts 5 = .ok (.invokestatic 109, 3) := by decide +kernel
theorem dX12_acts_8 : decode cX12_acts 8 = .ok (.ifCond .eq 11, 3) := by decide +kernel
theorem dX12_acts_11 : decode cX12_acts 11 = .ok (.iload_n 1, 1) := by decide +kernel
theorem dX12_acts_12 : decode cX12_acts 12 = .ok (.aload_n 0, 1) := by decide +kernel
theorem dX12_acts_13 : decode cX12_acts 13 = .ok (.getfield 123, 3) := by decide +kernel
theorem dX12_acts_16 : decode cX12_acts 16 = .ok (.if_icmp .le 5, 3) := by decide +kernel
theorem dX12_acts_19 : decode cX12_acts 19 = .ok (.iconst (-1), 1) := by decide +kernel
theorem dX12_acts_20 : decode cX12_acts 20 = .ok (.ireturn, 1) := by decide +kernel
theorem dX12_acts_21 : decode cX12_acts 21 = .ok (.aload_n 0, 1) := by decide +kernel
theorem dX12_acts_22 : decode cX12_acts 22 = .ok (.iload_n 1, 1) := by decide +kernel
theorem dX12_acts_23 : decode cX12_acts 23 = .ok (.invokevirtual 293, 3) := by decide +kernel
theorem dX12_acts_26 : decode cX12_acts 26 = .ok (.ifCond .ne 8, 3) := by decide +kernel
theorem dX12_acts_29 : decode cX12_acts 29 = .ok (.aload_n 0, 1) := by decide +kernel
theorem dX12_acts_30 : decode cX12_acts 30 = .ok (.getfield 141, 3) := by decide +kernel
theorem dX12_acts_33 : decode cX12_acts 33 = .ok (.ireturn, 1) := by decide +kernel
theorem dX12_acts_34 : decode cX12_acts 34 = .ok (.iconst 0, 1) := by decide +kernel
theorem dX12_acts_35 : decode cX12_acts 35 = .ok (.istore_n 2, 1) := by decide +kernel
theorem dX12_acts_36 : decode cX12_acts 36 = .ok (.iconst 0, 1) := by decide +kernel
theorem dX12_acts_37 : decode cX12_acts 37 = .ok (.istore_n 3, 1) := by decide +kernel
theorem dX12_acts_38 : decode cX12_acts 38 = .ok (.iload_n 3, 1) := by decide +kernel
theorem dX12_acts_39 : decode cX12_acts 39 = .ok (.aload_n 0, 1) := by decide +kernel
theorem dX12_acts_40 : decode cX12_acts 40 = .ok (.getfield 247, 3) := by decide +kernel
theorem dX12_acts_43 : decode cX12_acts 43 = .ok (.if_icmp .ge 25, 3) := by decide +kernel
theorem dX12_acts_46 : decode cX12_acts 46 = .ok (.iload_n 2, 1) := by decide +kernel
theorem dX12_acts_47 : decode cX12_acts 47 = .ok (.aload_n 0, 1) := by decide +kernel
theorem dX12_acts_48 : decode cX12_acts 48 = .ok (.iload_n 3, 1) := by decide +kernel
theorem dX12_acts_49 : decode cX12_acts 49 = .ok (.invokevirtual 296, 3) := by decide +kernel
theorem dX12_acts_52 : decode cX12_acts 52 = .ok (.ifCond .eq 7, 3) := by decide +kernel
theorem dX12_acts_55 : decode cX12_acts 55 = .ok (.iconst 1, 1) := by decide +kernel
theorem dX12_acts_56 : decode cX12_acts 56 = .ok (.goto 4, 3) := by decide +kernel
theorem dX12_acts_59 : decode cX12_acts 59 = .ok (.iconst 0, 1) := by decide +kernel
theorem dX12_acts_60 : decode cX12_acts 60 = .ok (.iadd, 1) := by decide +kernel
theorem dX12_acts_61 : decode cX12_acts 61 = .ok (.istore_n 2, 1) := by decide +kernel
theorem dX12_acts_62 : decode cX12_acts 62 = .ok (.iinc 3 1, 3) := by decide +kernel
theorem dX12_acts_65 : decode cX12_acts 65 = .ok (.goto (-27), 3) := by decide +kernel
theorem dX12_acts_68 : decode cX12_acts 68 = .ok (.iload_n 2, 1) := by decide +kernel
theorem dX12_acts_69 : decode cX12_acts 69 = .ok (.ireturn, 1) := by decide +kernel
set_option maxRecDepth 20000 in
set_option maxHeartbeats 4000000 in
theorem m_acts (E : xE) (l : Launch) (a : Nat → Nat) (cd : Cd) (hG : Good cd) (ws : va_W) (hW : WX (okM E a cd) ws) (p0 : Int32) : xI E l yX12_acts cX12_acts 4 (some .int) 8 [.ref (a 0), .int p0] ws (fun r w => WX (okM E a cd) w) := by
  refine xI_start (lv := [(0, .ref (a 0)), (1, .int p0)]) RX12 (by decide) rfl (Nat.le_of_ble_eq_true rfl) rfl (fun p e s m below meth c A C hr hlk => ?_)
  refine x_iload_n C dX12_acts_0 rfl 1 rfl rfl ?_
  refine x_iconst C (v := 1) dX12_acts_1 (by decide) rfl ?_
  refine x_sipush C (v := 140) dX12_acts_2 (by decide) rfl ?_
  refine x_si C (As := [.int p0, .int 1, .int 140]) (rest := []) (m_in E l a cd hG ws hW p0 (1 : Int32) (140 : Int32)) mf_X12_in w_1267 rfl rfl (Nat.le_of_ble_eq_true rfl) ⟨(Nat.le_of_ble_eq_true rfl), (Nat.le_of_ble_eq_true rfl)⟩ ⟨(Nat.le_of_ble_eq_true rfl), (Nat.le_of_ble_eq_true rfl)⟩ dX12_acts_5 rfl (fun r2 w3 h1 => ?_)
  obtain ⟨hW4, zb5, x6⟩ := h1
  refine x_ws hW4 ?_
  refine x_if_eq C (tgt := 19) dX12_acts_8 (by decide) rfl (fun c7 => ?_) (fun c7 => ?_)
  · skip
    refine x_iconst C (v := (-1)) dX12_acts_19 (by decide) rfl ?_
    exact x_zret C hr hlk rfl dX12_acts_20 hW
  · skip
    obtain ⟨j8, hl9, hh10, ej11⟩ := w_nat (a := 1) (b := 140) (by decide) (by decide) (x6 c7)
    subst ej11
    refine x_iload_n C dX12_acts_11 rfl 1 rfl rfl ?_
    refine x_aload_n C dX12_acts_12 rfl 0 rfl rfl ?_
    obtain ⟨_, k12, n13, n15, n17, v19, v20, v21, n22, n24, n26, n28, v30, v31, v32, v33, n34, n36, v38, bn14, bn16, bn18, bn23, bn25, bn27, bn29, bn35, bn37, zv39, rfl⟩ := hW 0 _ rfl
    refine x_get C (ci := 11) (k := 4) 0 k12 rfl in_X12 (by decide) w_1122 rfl dX12_acts_13 rfl ?_
    refine x_icmp_le C (tgt := 21) dX12_acts_16 (by decide) rfl (fun c40 => ?_) (fun c40 => ?_)
    · skip
      have nf41 := nI_le' (a := j8) (b := n13) c40 (by omega) (by omega)
      refine x_aload_n C dX12_acts_21 rfl 0 rfl rfl ?_
      refine x_iload_n C dX12_acts_22 rfl 1 rfl rfl ?_
      refine x_vi C (As := [.int (nI j8)]) (rest := []) (m_readsLines E l a cd hG ws hW j8 (by omega)) mf_X12_readsLines w_1399 0 k12 rfl rfl rfl (Nat.le_of_ble_eq_true rfl) ⟨(Nat.le_of_ble_eq_true rfl), (Nat.le_of_ble_eq_true rfl)⟩ ⟨(Nat.le_of_ble_eq_true rfl), (Nat.le_of_ble_eq_true rfl)⟩ dX12_acts_23 rfl (fun r43 w44 h42 => ?_)
      obtain ⟨hW45, kq46, zb47⟩ := h42
      refine x_if_ne C (tgt := 34) dX12_acts_26 (by decide) rfl (fun c48 => ?_) (fun c48 => ?_)
      · skip
        refine x_iconst C (v := 0) dX12_acts_34 (by decide) rfl ?_
        refine x_istore_n C (lv' := [(2, .int 0), (0, .ref (a 0)), (1, .int (nI j8))]) dX12_acts_35 rfl (by decide) rfl rfl ?_
        refine x_iconst C (v := 0) dX12_acts_36 (by decide) rfl ?_
        refine x_istore_n C (lv' := [(3, .int 0), (2, .int 0), (0, .ref (a 0)), (1, .int (nI j8))]) dX12_acts_37 rfl (by decide) rfl rfl ?_
        have loop38 : ∀ (fu38 : Nat) (z38_2 : Int32) (l0 : Nat) (wl38 : va_W), WX (okM E a cd) wl38 → 24 - l0 < fu38 → l0 ≤ 24 → X E p l e (xRm 8 0 0) s m ([.ref (a 0), .int (nI j8)] : List Value).toArray below meth c A 4 0 0 (MQ below (va_Qi (fun r w => WX (okM E a cd) w) (xB E A) A) ([.ref (a 0), .int (nI j8)] : List Value).toArray s 0 0 A) wl38 38 [(0, .ref (a 0)), (1, .int (nI j8)), (2, .int z38_2), (3, .int (nI l0))] [] := by
          intro fu38
          induction fu38 with
          | zero => intro z38_2 l0 wl38 _ q; omega
          | succ fu38 ih38 =>
            intro z38_2 l0 wl38 hWl38 me38 iv38_0
            refine x_iload_n C dX12_acts_38 rfl 3 rfl rfl ?_
            refine x_aload_n C dX12_acts_39 rfl 0 rfl rfl ?_
            obtain ⟨_, k49, n50, n52, n54, v56, v57, v58, n59, n61, n63, n65, v67, v68, v69, v70, n71, n73, v75, bn51, bn53, bn55, bn60, bn62, bn64, bn66, bn72, bn74, zv76, rfl⟩ := hWl38 0 _ rfl
            refine x_get C (ci := 11) (k := 27) 0 k49 rfl in_X12 (by decide) w_1145 rfl dX12_acts_40 rfl ?_
            refine x_icmp_ge C (tgt := 68) dX12_acts_43 (by decide) rfl (fun c77 => ?_) (fun c77 => ?_)
            · skip
              have nf78 := nI_le' (a := n65) (b := l0) c77 (by omega) (by omega)
              refine x_iload_n C dX12_acts_68 rfl 2 rfl rfl ?_
              exact x_zret C hr hlk rfl dX12_acts_69 hWl38
            · skip
              have nf79 := nI_nle' (a := n65) (b := l0) c77 (by omega) (by omega)
              refine x_iload_n C dX12_acts_46 rfl 2 rfl rfl ?_
              refine x_aload_n C dX12_acts_47 rfl 0 rfl rfl ?_
              refine x_iload_n C dX12_acts_48 rfl 3 rfl rfl ?_
              refine x_vi C (As := [.int (nI l0)]) (rest := [.int z38_2]) (m_does E l a cd hG wl38 hWl38 l0 (by omega)) mf_X12_does w_1419 0 k49 rfl rfl rfl (Nat.le_of_ble_eq_true rfl) ⟨(Nat.le_of_ble_eq_true rfl), (Nat.le_of_ble_eq_true rfl)⟩ ⟨(Nat.le_of_ble_eq_true rfl), (Nat.le_of_ble_eq_true rfl)⟩ dX12_acts_49 rfl (fun r81 w82 h80 => ?_)
              obtain ⟨hW83, kq84, zb85⟩ := h80
              have k86 : w82[0]? = some (ob (a 0) 11 [.ref (a 1), .ref (a 2), .ref (a 3), .ref (a 4), .int (nI n50), .int (nI n52), .int (nI n54), .int v56, .int v57, .int v58, .int (nI n59), .int (nI n61), .int (nI n63), .int (nI (cd.2.2.2.2.2)), .ref (a 5), .ref (a 6), .ref (a 7), .ref (a 8), .ref (a 9), .ref (a 10), .ref (a 11), .ref (a 12), .ref (a 13), .ref (a 14), .ref (a 15), .ref (a 16), .ref (a 17), .int (nI n65), .ref (a 18), .ref (a 19), .ref (a 20), .ref (a 21), .int v67, .int v68, .int v69, .int v70, .int (nI n71), .int (nI n73), .ref (a 22), .ref (a 23), .ref (a 24), .ref (a 25), .ref (a 26), .ref (a 27), .ref (a 28), .ref (a 29), .ref (a 30), .int v75]) := keeps_at kq84 k49 (by first | decide | omega | (dsimp only; omega))
              refine x_if_eq C (tgt := 59) dX12_acts_52 (by decide) rfl (fun c87 => ?_) (fun c87 => ?_)
              · skip
                refine x_iconst C (v := 0) dX12_acts_59 (by decide) rfl ?_
                refine x_iadd C (v := (z38_2 + (0 : Int32))) dX12_acts_60 rfl rfl ?_
                refine x_any (fun v88 => ?_)
                refine x_istore_n C (lv' := [(2, .int v88), (0, .ref (a 0)), (1, .int (nI j8)), (3, .int (nI l0))]) dX12_acts_61 rfl (by decide) rfl rfl ?_
                refine x_iinc C (v := (nI (l0 + 1))) (lv' := [(3, .int (nI (l0 + 1))), (2, .int v88), (0, .ref (a 0)), (1, .int (nI j8))]) dX12_acts_62 3 rfl (nI_add l0 1) (by decide) rfl rfl ?_
                refine x_goto C (tgt := 38) dX12_acts_65 (by decide) ?_
                refine x_lv (lv1 := [(0, .ref (a 0)), (1, .int (nI j8)), (2, .int v88), (3, .int (nI (l0 + 1)))]) [2, 3, 1, 0] rfl ?_
                exact ih38 v88 (l0 + 1) w82 hW83 (by omega) (by omega)
              · skip
                refine x_iconst C (v := 1) dX12_acts_55 (by decide) rfl ?_
                refine x_goto C (tgt := 60) dX12_acts_56 (by decide) ?_
                refine x_iadd C (v := (z38_2 + (1 : Int32))) dX12_acts_60 rfl rfl ?_
                refine x_any (fun v89 => ?_)
                refine x_istore_n C (lv' := [(2, .int v89), (0, .ref (a 0)), (1, .int (nI j8)), (3, .int (nI l0))]) dX12_acts_61 rfl (by decide) rfl rfl ?_
                refine x_iinc C (v := (nI (l0 + 1))) (lv' := [(3, .int (nI (l0 + 1))), (2, .int v89), (0, .ref (a 0)), (1, .int (nI j8))]) dX12_acts_62 3 rfl (nI_add l0 1) (by decide) rfl rfl ?_
                refine x_goto C (tgt := 38) dX12_acts_65 (by decide) ?_
                refine x_lv (lv1 := [(0, .ref (a 0)), (1, .int (nI j8)), (2, .int v89), (3, .int (nI (l0 + 1)))]) [2, 3, 1, 0] rfl ?_
                exact ih38 v89 (l0 + 1) w82 hW83 (by omega) (by omega)
        refine x_lv (lv1 := [(0, .ref (a 0)), (1, .int (nI j8)), (2, .int 0), (3, .int 0)]) [2, 3, 1, 0] rfl ?_
        exact loop38 _ (0 : Int32) 0 w44 hW45 (Nat.lt_succ_self _) (by omega)
      · skip
        refine x_aload_n C dX12_acts_29 rfl 0 rfl rfl ?_
        obtain ⟨_, k90, n91, n93, n95, v97, v98, v99, n100, n102, n104, n106, v108, v109, v110, v111, n112, n114, v116, bn92, bn94, bn96, bn101, bn103, bn105, bn107, bn113, bn115, zv117, rfl⟩ := hW45 0 _ rfl
        refine x_get C (ci := 11) (k := 7) 0 k90 rfl in_X12 (by decide) w_1125 rfl dX12_acts_30 rfl ?_
        exact x_zret C hr hlk rfl dX12_acts_33 hW45
    · skip
      have nf118 := nI_nle' (a := j8) (b := n13) c40 (by omega) (by omega)
      refine x_iconst C (v := (-1)) dX12_acts_19 (by decide) rfl ?_
      exact x_zret C hr hlk rfl dX12_acts_20 hW
theorem dX12_judged_0 : decode cX12_judged 0 = .ok (.iload_n 1, 1) := by decide +kernel
theorem dX12_judged_1 : decode cX12_judged 1 = .ok (.iconst 1, 1) := by decide +kernel
theorem dX12_judged_2 : decode cX12_judged 2 = .ok (.sipush 140, 3) := by decide +kernel
theorem dX12_judged_5 : decode cX12_judged 5 = .ok (.invokestatic 109, 3) := by decide +kernel
theorem dX12_judged_8 : decode cX12_judged 8 = .ok (.ifCond .eq 11, 3) := by decide +kernel
theorem dX12_judged_11 : decode cX12_judged 11 = .ok (.iload_n 1, 1) := by decide +kernel
theorem dX12_judged_12 : decode cX12_judged 12 = .ok (.aload_n 0, 1) := by decide +kernel
theorem dX12_judged_13 : decode cX12_judged 13 = .ok (.getfield 123, 3) := by decide +kernel
theorem dX12_judged_16 : decode cX12_judged 16 = .ok (.if_icmp .le 5, 3) := by decide +kernel
theorem dX12_judged_19 : decode cX12_judged 19 = .ok (.iconst (-1), 1) := by decide +kernel
theorem dX12_judged_20 : decode cX12_judged 20 = .ok (.ireturn, 1) := by decide +kernel
theorem dX12_judged_21 : decode cX12_judged 21 = .ok (.aload_n 0, 1) := by decide +kernel
theorem dX12_judged_22 : decode cX12_judged 22 = .ok (.iload_n 1, 1) := by decide +kernel
theorem dX12_judged_23 : decode cX12_judged 23 = .ok (.invokevirtual 293, 3) := by decide +kernel
theorem dX12_judged_26 : decode cX12_judged 26 = .ok (.ifCond .ne 8, 3) := by decide +kernel
theorem dX12_judged_29 : decode cX12_judged 29 = .ok (.aload_n 0, 1) := by decide +kernel
theorem dX12_judged_30 : decode cX12_judged 30 = .ok (.getfield 141, 3) := by decide +kernel
theorem dX12_judged_33 : decode cX12_judged 33 = .ok (.ireturn, 1) := by decide +kernel
theorem dX12_judged_34 : decode cX12_judged 34 = .ok (.aload_n 0, 1) := by decide +kernel
theorem dX12_judged_35 : decode cX12_judged 35 = .ok (.getfield 7, 3) := by decide +kernel
theorem dX12_judged_38 : decode cX12_judged 38 = .ok (.aload_n 0, 1) := by decide +kernel
theorem dX12_judged_39 : decode cX12_judged 39 = .ok (.getfield 13, 3) := by decide +kernel
theorem dX12_judged_42 : decode cX12_judged 42 = .ok (.invokestatic 299, 3) := by decide +kernel
theorem dX12_judged_45 : decode cX12_judged 45 = .ok (.iconst 0, 1) := by decide +kernel
theorem dX12_judged_46 : decode cX12_judged 46 = .ok (.istore_n 2, 1) := by decide +kernel
theorem dX12_judged_47 : decode cX12_judged 47 = .ok (.iload_n 2, 1) := by decide +kernel
theorem dX12_judged_48 : decode cX12_judged 48 = .ok (.aload_n 0, 1) := by decide +kernel
theorem dX12_judged_49 : decode cX12_judged 49 = .ok (.getfield 247, 3) := by decide +kernel
theorem dX12_judged_52 : decode cX12_judged 52 = .ok (.if_icmp .ge 18, 3) := by decide +kernel
theorem dX12_judged_55 : decode cX12_judged 55 = .ok (.aload_n 0, 1) := by decide +kernel
theorem dX12_judged_56 : decode cX12_judged 56 = .ok (.iload_n 2, 1) := by decide +kernel
theorem dX12_judged_57 : decode cX12_judged 57 = .ok (.invokevirtual 296, 3) := by decide +kernel
theorem dX12_judged_60 : decode cX12_judged 60 = .ok (.ifCond .eq 10, 3) := by decide +kernel
theorem dX12_judged_63 : decode cX12_judged 63 = .ok (.iload_n 2, 1) := by decide +kernel
theorem dX12_judged_64 : decode cX12_judged 64 = .ok (.iconst 1, 1) := by decide +kernel
theorem dX12_judged_65 : decode cX12_judged 65 = .ok (.iadd, 1) := by decide +kernel
theorem dX12_judged_66 : decode cX12_judged 66 = .ok (.istore_n 2, 1) := by decide +kernel
theorem dX12_judged_67 : decode cX12_judged 67 = .ok (.goto (-20), 3) := by decide +kernel
theorem dX12_judged_70 : decode cX12_judged 70 = .ok (.aload_n 0, 1) := by decide +kernel
theorem dX12_judged_71 : decode cX12_judged 71 = .ok (.getfield 13, 3) := by decide +kernel
theorem dX12_judged_74 : decode cX12_judged 74 = .ok (.aload_n 0, 1) := by decide +kernel
theorem dX12_judged_75 : decode cX12_judged 75 = .ok (.getfield 7, 3) := by decide +kernel
theorem dX12_judged_78 : decode cX12_judged 78 = .ok (.invokestatic 299, 3) := by decide +kernel
theorem dX12_judged_81 : decode cX12_judged 81 = .ok (.iload_n 2, 1) := by decide +kernel
theorem dX12_judged_82 : decode cX12_judged 82 = .ok (.ireturn, 1) := by decide +kernel
set_option maxRecDepth 20000 in
set_option maxHeartbeats 4000000 in
theorem m_judged (E : xE) (l : Launch) (a : Nat → Nat) (cd : Cd) (hG : Good cd) (ws : va_W) (hW : WX (okM E a cd) ws) (p0 : Int32) : xI E l yX12_judged cX12_judged 3 (some .int) 8 [.ref (a 0), .int p0] ws (fun r w => WX (okM E a cd) w) := by
  refine xI_start (lv := [(0, .ref (a 0)), (1, .int p0)]) RX12 (by decide) rfl (Nat.le_of_ble_eq_true rfl) rfl (fun p e s m below meth c A C hr hlk => ?_)
  refine x_iload_n C dX12_judged_0 rfl 1 rfl rfl ?_
  refine x_iconst C (v := 1) dX12_judged_1 (by decide) rfl ?_
  refine x_sipush C (v := 140) dX12_judged_2 (by decide) rfl ?_
  refine x_si C (As := [.int p0, .int 1, .int 140]) (rest := []) (m_in E l a cd hG ws hW p0 (1 : Int32) (140 : Int32)) mf_X12_in w_1267 rfl rfl (Nat.le_of_ble_eq_true rfl) ⟨(Nat.le_of_ble_eq_true rfl), (Nat.le_of_ble_eq_true rfl)⟩ ⟨(Nat.le_of_ble_eq_true rfl), (Nat.le_of_ble_eq_true rfl)⟩ dX12_judged_5 rfl (fun r2 w3 h1 => ?_)
  obtain ⟨hW4, zb5, x6⟩ := h1
  refine x_ws hW4 ?_
  refine x_if_eq C (tgt := 19) dX12_judged_8 (by decide) rfl (fun c7 => ?_) (fun c7 => ?_)
  · skip
    refine x_iconst C (v := (-1)) dX12_judged_19 (by decide) rfl ?_
    exact x_zret C hr hlk rfl dX12_judged_20 hW
  · skip
    obtain ⟨j8, hl9, hh10, ej11⟩ := w_nat (a := 1) (b := 140) (by decide) (by decide) (x6 c7)
    subst ej11
    refine x_iload_n C dX12_judged_11 rfl 1 rfl rfl ?_
    refine x_aload_n C dX12_judged_12 rfl 0 rfl rfl ?_
    obtain ⟨_, k12, n13, n15, n17, v19, v20, v21, n22, n24, n26, n28, v30, v31, v32, v33, n34, n36, v38, bn14, bn16, bn18, bn23, bn25, bn27, bn29, bn35, bn37, zv39, rfl⟩ := hW 0 _ rfl
    refine x_get C (ci := 11) (k := 4) 0 k12 rfl in_X12 (by decide) w_1122 rfl dX12_judged_13 rfl ?_
    refine x_icmp_le C (tgt := 21) dX12_judged_16 (by decide) rfl (fun c40 => ?_) (fun c40 => ?_)
    · skip
      have nf41 := nI_le' (a := j8) (b := n13) c40 (by omega) (by omega)
      refine x_aload_n C dX12_judged_21 rfl 0 rfl rfl ?_
      refine x_iload_n C dX12_judged_22 rfl 1 rfl rfl ?_
      refine x_vi C (As := [.int (nI j8)]) (rest := []) (m_readsLines E l a cd hG ws hW j8 (by omega)) mf_X12_readsLines w_1399 0 k12 rfl rfl rfl (Nat.le_of_ble_eq_true rfl) ⟨(Nat.le_of_ble_eq_true rfl), (Nat.le_of_ble_eq_true rfl)⟩ ⟨(Nat.le_of_ble_eq_true rfl), (Nat.le_of_ble_eq_true rfl)⟩ dX12_judged_23 rfl (fun r43 w44 h42 => ?_)
      obtain ⟨hW45, kq46, zb47⟩ := h42
      refine x_if_ne C (tgt := 34) dX12_judged_26 (by decide) rfl (fun c48 => ?_) (fun c48 => ?_)
      · skip
        refine x_aload_n C dX12_judged_34 rfl 0 rfl rfl ?_
        obtain ⟨_, k49, n50, n52, n54, v56, v57, v58, n59, n61, n63, n65, v67, v68, v69, v70, n71, n73, v75, bn51, bn53, bn55, bn60, bn62, bn64, bn66, bn72, bn74, zv76, rfl⟩ := hW45 0 _ rfl
        refine x_get C (ci := 11) (k := 0) 0 k49 rfl in_X12 (by decide) w_1118 rfl dX12_judged_35 rfl ?_
        refine x_aload_n C dX12_judged_38 rfl 0 rfl rfl ?_
        refine x_get C (ci := 11) (k := 1) 0 k49 rfl in_X12 (by decide) w_1119 rfl dX12_judged_39 rfl ?_
        refine x_sv C (As := [.ref (a 1), .ref (a 2)]) (rest := []) (m_copies12 E l a cd hG w44 hW45) mf_X12_copies w_1490 rfl rfl (Nat.le_of_ble_eq_true rfl) ⟨(Nat.le_of_ble_eq_true rfl), (Nat.le_of_ble_eq_true rfl)⟩ ⟨(Nat.le_of_ble_eq_true rfl), (Nat.le_of_ble_eq_true rfl)⟩ dX12_judged_42 rfl (fun w79 h77 => ?_)
        obtain ⟨hW80, kq81⟩ := h77
        have k82 : w79[0]? = some (ob (a 0) 11 [.ref (a 1), .ref (a 2), .ref (a 3), .ref (a 4), .int (nI n50), .int (nI n52), .int (nI n54), .int v56, .int v57, .int v58, .int (nI n59), .int (nI n61), .int (nI n63), .int (nI (cd.2.2.2.2.2)), .ref (a 5), .ref (a 6), .ref (a 7), .ref (a 8), .ref (a 9), .ref (a 10), .ref (a 11), .ref (a 12), .ref (a 13), .ref (a 14), .ref (a 15), .ref (a 16), .ref (a 17), .int (nI n65), .ref (a 18), .ref (a 19), .ref (a 20), .ref (a 21), .int v67, .int v68, .int v69, .int v70, .int (nI n71), .int (nI n73), .ref (a 22), .ref (a 23), .ref (a 24), .ref (a 25), .ref (a 26), .ref (a 27), .ref (a 28), .ref (a 29), .ref (a 30), .int v75]) := keeps_at kq81 k49 (by first | decide | omega | (dsimp only; omega))
        refine x_iconst C (v := 0) dX12_judged_45 (by decide) rfl ?_
        refine x_istore_n C (lv' := [(2, .int 0), (0, .ref (a 0)), (1, .int (nI j8))]) dX12_judged_46 rfl (by decide) rfl rfl ?_
        have loop47 : ∀ (fu47 : Nat) (l0 : Nat) (wl47 : va_W), WX (okM E a cd) wl47 → 24 - l0 < fu47 → l0 ≤ 24 → X E p l e (xRm 8 0 0) s m ([.ref (a 0), .int (nI j8)] : List Value).toArray below meth c A 3 0 0 (MQ below (va_Qi (fun r w => WX (okM E a cd) w) (xB E A) A) ([.ref (a 0), .int (nI j8)] : List Value).toArray s 0 0 A) wl47 47 [(0, .ref (a 0)), (1, .int (nI j8)), (2, .int (nI l0))] [] := by
          intro fu47
          induction fu47 with
          | zero => intro l0 wl47 _ q; omega
          | succ fu47 ih47 =>
            intro l0 wl47 hWl47 me47 iv47_0
            refine x_iload_n C dX12_judged_47 rfl 2 rfl rfl ?_
            refine x_aload_n C dX12_judged_48 rfl 0 rfl rfl ?_
            obtain ⟨_, k83, n84, n86, n88, v90, v91, v92, n93, n95, n97, n99, v101, v102, v103, v104, n105, n107, v109, bn85, bn87, bn89, bn94, bn96, bn98, bn100, bn106, bn108, zv110, rfl⟩ := hWl47 0 _ rfl
            refine x_get C (ci := 11) (k := 27) 0 k83 rfl in_X12 (by decide) w_1145 rfl dX12_judged_49 rfl ?_
            refine x_icmp_ge C (tgt := 70) dX12_judged_52 (by decide) rfl (fun c111 => ?_) (fun c111 => ?_)
            · skip
              have nf112 := nI_le' (a := n99) (b := l0) c111 (by omega) (by omega)
              refine x_aload_n C dX12_judged_70 rfl 0 rfl rfl ?_
              refine x_get C (ci := 11) (k := 1) 0 k83 rfl in_X12 (by decide) w_1119 rfl dX12_judged_71 rfl ?_
              refine x_aload_n C dX12_judged_74 rfl 0 rfl rfl ?_
              refine x_get C (ci := 11) (k := 0) 0 k83 rfl in_X12 (by decide) w_1118 rfl dX12_judged_75 rfl ?_
              refine x_sv C (As := [.ref (a 2), .ref (a 1)]) (rest := []) (m_copies21 E l a cd hG wl47 hWl47) mf_X12_copies w_1490 rfl rfl (Nat.le_of_ble_eq_true rfl) ⟨(Nat.le_of_ble_eq_true rfl), (Nat.le_of_ble_eq_true rfl)⟩ ⟨(Nat.le_of_ble_eq_true rfl), (Nat.le_of_ble_eq_true rfl)⟩ dX12_judged_78 rfl (fun w115 h113 => ?_)
              obtain ⟨hW116, kq117⟩ := h113
              have k118 : w115[0]? = some (ob (a 0) 11 [.ref (a 1), .ref (a 2), .ref (a 3), .ref (a 4), .int (nI n84), .int (nI n86), .int (nI n88), .int v90, .int v91, .int v92, .int (nI n93), .int (nI n95), .int (nI n97), .int (nI (cd.2.2.2.2.2)), .ref (a 5), .ref (a 6), .ref (a 7), .ref (a 8), .ref (a 9), .ref (a 10), .ref (a 11), .ref (a 12), .ref (a 13), .ref (a 14), .ref (a 15), .ref (a 16), .ref (a 17), .int (nI n99), .ref (a 18), .ref (a 19), .ref (a 20), .ref (a 21), .int v101, .int v102, .int v103, .int v104, .int (nI n105), .int (nI n107), .ref (a 22), .ref (a 23), .ref (a 24), .ref (a 25), .ref (a 26), .ref (a 27), .ref (a 28), .ref (a 29), .ref (a 30), .int v109]) := keeps_at kq117 k83 (by first | decide | omega | (dsimp only; omega))
              refine x_iload_n C dX12_judged_81 rfl 2 rfl rfl ?_
              exact x_zret C hr hlk rfl dX12_judged_82 hW116
            · skip
              have nf119 := nI_nle' (a := n99) (b := l0) c111 (by omega) (by omega)
              refine x_aload_n C dX12_judged_55 rfl 0 rfl rfl ?_
              refine x_iload_n C dX12_judged_56 rfl 2 rfl rfl ?_
              refine x_vi C (As := [.int (nI l0)]) (rest := []) (m_does E l a cd hG wl47 hWl47 l0 (by omega)) mf_X12_does w_1419 0 k83 rfl rfl rfl (Nat.le_of_ble_eq_true rfl) ⟨(Nat.le_of_ble_eq_true rfl), (Nat.le_of_ble_eq_true rfl)⟩ ⟨(Nat.le_of_ble_eq_true rfl), (Nat.le_of_ble_eq_true rfl)⟩ dX12_judged_57 rfl (fun r121 w122 h120 => ?_)
              obtain ⟨hW123, kq124, zb125⟩ := h120
              have k126 : w122[0]? = some (ob (a 0) 11 [.ref (a 1), .ref (a 2), .ref (a 3), .ref (a 4), .int (nI n84), .int (nI n86), .int (nI n88), .int v90, .int v91, .int v92, .int (nI n93), .int (nI n95), .int (nI n97), .int (nI (cd.2.2.2.2.2)), .ref (a 5), .ref (a 6), .ref (a 7), .ref (a 8), .ref (a 9), .ref (a 10), .ref (a 11), .ref (a 12), .ref (a 13), .ref (a 14), .ref (a 15), .ref (a 16), .ref (a 17), .int (nI n99), .ref (a 18), .ref (a 19), .ref (a 20), .ref (a 21), .int v101, .int v102, .int v103, .int v104, .int (nI n105), .int (nI n107), .ref (a 22), .ref (a 23), .ref (a 24), .ref (a 25), .ref (a 26), .ref (a 27), .ref (a 28), .ref (a 29), .ref (a 30), .int v109]) := keeps_at kq124 k83 (by first | decide | omega | (dsimp only; omega))
              refine x_if_eq C (tgt := 70) dX12_judged_60 (by decide) rfl (fun c127 => ?_) (fun c127 => ?_)
              · skip
                refine x_aload_n C dX12_judged_70 rfl 0 rfl rfl ?_
                refine x_get C (ci := 11) (k := 1) 0 k126 rfl in_X12 (by decide) w_1119 rfl dX12_judged_71 rfl ?_
                refine x_aload_n C dX12_judged_74 rfl 0 rfl rfl ?_
                refine x_get C (ci := 11) (k := 0) 0 k126 rfl in_X12 (by decide) w_1118 rfl dX12_judged_75 rfl ?_
                refine x_sv C (As := [.ref (a 2), .ref (a 1)]) (rest := []) (m_copies21 E l a cd hG w122 hW123) mf_X12_copies w_1490 rfl rfl (Nat.le_of_ble_eq_true rfl) ⟨(Nat.le_of_ble_eq_true rfl), (Nat.le_of_ble_eq_true rfl)⟩ ⟨(Nat.le_of_ble_eq_true rfl), (Nat.le_of_ble_eq_true rfl)⟩ dX12_judged_78 rfl (fun w130 h128 => ?_)
                obtain ⟨hW131, kq132⟩ := h128
                have k133 : w130[0]? = some (ob (a 0) 11 [.ref (a 1), .ref (a 2), .ref (a 3), .ref (a 4), .int (nI n84), .int (nI n86), .int (nI n88), .int v90, .int v91, .int v92, .int (nI n93), .int (nI n95), .int (nI n97), .int (nI (cd.2.2.2.2.2)), .ref (a 5), .ref (a 6), .ref (a 7), .ref (a 8), .ref (a 9), .ref (a 10), .ref (a 11), .ref (a 12), .ref (a 13), .ref (a 14), .ref (a 15), .ref (a 16), .ref (a 17), .int (nI n99), .ref (a 18), .ref (a 19), .ref (a 20), .ref (a 21), .int v101, .int v102, .int v103, .int v104, .int (nI n105), .int (nI n107), .ref (a 22), .ref (a 23), .ref (a 24), .ref (a 25), .ref (a 26), .ref (a 27), .ref (a 28), .ref (a 29), .ref (a 30), .int v109]) := keeps_at kq132 k126 (by first | decide | omega | (dsimp only; omega))
                refine x_iload_n C dX12_judged_81 rfl 2 rfl rfl ?_
                exact x_zret C hr hlk rfl dX12_judged_82 hW131
              · skip
                refine x_iload_n C dX12_judged_63 rfl 2 rfl rfl ?_
                refine x_iconst C (v := 1) dX12_judged_64 (by decide) rfl ?_
                refine x_iadd C (v := (nI (l0 + 1))) dX12_judged_65 (nI_add l0 1) rfl ?_
                refine x_istore_n C (lv' := [(2, .int (nI (l0 + 1))), (0, .ref (a 0)), (1, .int (nI j8))]) dX12_judged_66 rfl (by decide) rfl rfl ?_
                refine x_goto C (tgt := 47) dX12_judged_67 (by decide) ?_
                refine x_lv (lv1 := [(0, .ref (a 0)), (1, .int (nI j8)), (2, .int (nI (l0 + 1)))]) [1, 2, 0] rfl ?_
                exact ih47 (l0 + 1) w122 hW123 (by omega) (by omega)
        refine x_lv (lv1 := [(0, .ref (a 0)), (1, .int (nI j8)), (2, .int 0)]) [1, 2, 0] rfl ?_
        exact loop47 _ 0 w79 hW80 (Nat.lt_succ_self _) (by omega)
      · skip
        refine x_aload_n C dX12_judged_29 rfl 0 rfl rfl ?_
        obtain ⟨_, k134, n135, n137, n139, v141, v142, v143, n144, n146, n148, n150, v152, v153, v154, v155, n156, n158, v160, bn136, bn138, bn140, bn145, bn147, bn149, bn151, bn157, bn159, zv161, rfl⟩ := hW45 0 _ rfl
        refine x_get C (ci := 11) (k := 7) 0 k134 rfl in_X12 (by decide) w_1125 rfl dX12_judged_30 rfl ?_
        exact x_zret C hr hlk rfl dX12_judged_33 hW45
    · skip
      have nf162 := nI_nle' (a := j8) (b := n13) c40 (by omega) (by omega)
      refine x_iconst C (v := (-1)) dX12_judged_19 (by decide) rfl ?_
      exact x_zret C hr hlk rfl dX12_judged_20 hW
