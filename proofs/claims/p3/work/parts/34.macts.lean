def MO (a : Nat → Nat) (cd : Cd) (kf : Int32) (w : va_W) (tp pl le cm wt sm lm : Nat) (nu : Int32) : Prop := ∃ (v7 v9 v32 v33 v34 v35 : Int32) (n36 n37 : Nat), (tp ≤ 260 ∧ pl ≤ 240 ∧ le ≤ 240 ∧ cm ≤ 260 ∧ wt ≤ 260 ∧ sm ≤ 16 ∧ lm ≤ 24) ∧ (n36 ≤ 12 ∧ n37 ≤ 4) ∧ w[0]? = some (ob (a 0) 11 [.ref (a 1), .ref (a 2), .ref (a 3), .ref (a 4), .int (nI tp), .int (nI pl), .int (nI le), .int v7, .int nu, .int v9, .int (nI cm), .int (nI wt), .int (nI sm), .int (nI cd.2.2.2.2.2), .ref (a 5), .ref (a 6), .ref (a 7), .ref (a 8), .ref (a 9), .ref (a 10), .ref (a 11), .ref (a 12), .ref (a 13), .ref (a 14), .ref (a 15), .ref (a 16), .ref (a 17), .int (nI lm), .ref (a 18), .ref (a 19), .ref (a 20), .ref (a 21), .int v32, .int v33, .int v34, .int v35, .int (nI n36), .int (nI n37), .ref (a 22), .ref (a 23), .ref (a 24), .ref (a 25), .ref (a 26), .ref (a 27), .ref (a 28), .ref (a 29), .ref (a 30), .int kf])
def hv (tf : Nat → Int32) (pl le : Nat) : Int32 := if pl < le then tf pl &&& 255 else -1
theorem and255 (v : Int32) : ∃ b : Nat, b ≤ 255 ∧ v &&& 255 = nI b := by
  obtain ⟨z, hz, e⟩ := and_low (f := 255) (by omega) v
  refine ⟨z, ?_, ?_⟩
  · have q : (255 : Int32) &&& v = nI z := e
    have h1 : ((255 : Int32) &&& v).toBitVec.toNat ≤ 255 := by
      rw [Int32.toBitVec_and, BitVec.toNat_and]; exact Nat.and_le_left
    rw [q] at h1
    have h2 : (nI z).toBitVec.toNat = z := pk_tn (by omega)
    omega
  · rw [Int32.and_comm]; exact e
theorem hv_lt {tf : Nat → Int32} {pl le : Nat} {v : Int32} (h : hv tf pl le = v) (hn : ¬ v = -1) : pl < le := by
  rcases Nat.lt_or_ge pl le with q | q
  · exact q
  · rw [hv, if_neg (by omega)] at h; exact absurd h.symm hn
theorem hv_dig {tf : Nat → Int32} {pl le : Nat} (h1 : ¬ hv tf pl le < 48) (h2 : ¬ 57 < hv tf pl le) : ∃ d : Nat, d ≤ 9 ∧ hv tf pl le = nI (48 + d) ∧ pl < le := by
  rcases Nat.lt_or_ge pl le with q | q
  · rw [hv, if_pos q] at h1 h2 ⊢
    obtain ⟨b, hb, e⟩ := and255 (tf pl)
    rw [e] at h1 h2 ⊢
    have a1 := nI_nlt' (a := b) (b := 48) h1 (by omega) (by omega)
    have a2 := nI_nlt' (a := 57) (b := b) h2 (by omega) (by omega)
    exact ⟨b - 48, by omega, congrArg nI (by omega), q⟩
  · rw [hv, if_neg (by omega)] at h1; exact absurd (by decide : (-1 : Int32) < 48) h1
theorem dX12_types_0 : decode cX12_types 0 = .ok (.iconst 3, 1) := by decide +kernel
theorem dX12_types_1 : decode cX12_types 1 = .ok (.istore_n 2, 1) := by decide +kernel
theorem dX12_types_2 : decode cX12_types 2 = .ok (.iload_n 2, 1) := by decide +kernel
theorem dX12_types_3 : decode cX12_types 3 = .ok (.ifCond .lt 35, 3) := by decide +kernel
theorem dX12_types_6 : decode cX12_types 6 = .ok (.aload_n 0, 1) := by decide +kernel
theorem dX12_types_7 : decode cX12_types 7 = .ok (.getfield 19, 3) := by decide +kernel
theorem dX12_types_10 : decode cX12_types 10 = .ok (.aload_n 0, 1) := by decide +kernel
theorem dX12_types_11 : decode cX12_types 11 = .ok (.getfield 123, 3) := by decide +kernel
theorem dX12_types_14 : decode cX12_types 14 = .ok (.iload_n 1, 1) := by decide +kernel
theorem dX12_types_15 : decode cX12_types 15 = .ok (.bipush 8, 2) := by decide +kernel
theorem dX12_types_17 : decode cX12_types 17 = .ok (.iload_n 2, 1) := by decide +kernel
theorem dX12_types_18 : decode cX12_types 18 = .ok (.imul, 1) := by decide +kernel
theorem dX12_types_19 : decode cX12_types 19 = .ok (.ishr, 1) := by decide +kernel
theorem dX12_types_20 : decode cX12_types 20 = .ok (.i2b, 1) := by decide +kernel
theorem dX12_types_21 : decode cX12_types 21 = .ok (.bastore, 1) := by decide +kernel
theorem dX12_types_22 : decode cX12_types 22 = .ok (.aload_n 0, 1) := by decide +kernel
theorem dX12_types_23 : decode cX12_types 23 = .ok (.aload_n 0, 1) := by decide +kernel
theorem dX12_types_24 : decode cX12_types 24 = .ok (.getfield 123, 3) := by decide +kernel
theorem dX12_types_27 : decode cX12_types 27 = .ok (.iconst 1, 1) := by decide +kernel
theorem dX12_types_28 : decode cX12_types 28 = .ok (.iadd, 1) := by decide +kernel
theorem dX12_types_29 : decode cX12_types 29 = .ok (.putfield 123, 3) := by decide +kernel
theorem dX12_types_32 : decode cX12_types 32 = .ok (.iinc 2 (-1), 3) := by decide +kernel
theorem dX12_types_35 : decode cX12_types 35 = .ok (.goto (-33), 3) := by decide +kernel
theorem dX12_types_38 : decode cX12_types 38 = .ok (.return_, 1) := by decide +kernel
set_option maxRecDepth 20000 in
set_option maxHeartbeats 4000000 in
theorem m_types (E : xE) (l : Launch) (a : Nat → Nat) (cd : Cd) (hG : Good cd) (kf : Int32) (jn js jq : Lb) (ws : va_W) (hW : WX (okM E a cd kf jn js jq) ws) (p0 : Int32) (tp pl le cm wt sm lm : Nat) (nu : Int32) (h0 : MO a cd kf ws tp pl le cm wt sm lm nu) (htp : tp ≤ 256) : xV E l yX12_types cX12_types 3 0 0 0 [.ref (a 0), .int p0] ws (fun w => WX (okM E a cd kf jn js jq) w ∧ keeps ws w (fun q => q = 0 ∨ q = 4) ∧ (MO a cd kf w (tp + 4) pl le cm wt sm lm nu)) := by
  refine xV_start (lv := [(0, .ref (a 0)), (1, .int p0)]) RX12 (by decide) rfl (Nat.le_of_ble_eq_true rfl) rfl (fun p e s m below meth c A C hr hlk hin => ?_)
  have kp0 : keeps ws ws (fun q => q = 0 ∨ q = 4) := keeps_rf
  obtain ⟨v1, v2, v3, v4, v5, v6, n7, n8, bo9, bo10, k11⟩ := h0
  refine x_iconst C (v := 3) dX12_types_0 (by decide) rfl ?_
  refine x_istore_n C (lv' := [(2, .int 3), (0, .ref (a 0)), (1, .int p0)]) dX12_types_1 rfl (by decide) rfl rfl ?_
  refine x_iload_n C dX12_types_2 rfl 0 rfl rfl ?_
  refine x_if_lt C (tgt := 38) dX12_types_3 (by decide) rfl (fun h => absurd h (by decide)) (fun _ => ?_)
  refine x_aload_n C dX12_types_6 rfl 1 rfl rfl ?_
  refine x_get C (ci := 11) (k := 3) 0 k11 rfl in_X12 (by decide) w_1121 rfl dX12_types_7 rfl ?_
  refine x_aload_n C dX12_types_10 rfl 1 rfl rfl ?_
  refine x_get C (ci := 11) (k := 4) 0 k11 rfl in_X12 (by decide) w_1122 rfl dX12_types_11 rfl ?_
  refine x_iload_n C dX12_types_14 rfl 2 rfl rfl ?_
  refine x_bipush C (v := 8) dX12_types_15 (by decide) rfl ?_
  refine x_iload_n C dX12_types_17 rfl 0 rfl rfl ?_
  refine x_imul C (v := 24) dX12_types_18 (by decide) rfl ?_
  refine x_ishr C (v := (p0 >>> ((24 : Int32) &&& 31))) dX12_types_19 rfl rfl ?_
  refine x_any (fun v12 => ?_)
  refine x_i2b C dX12_types_20 rfl rfl ?_
  refine x_any (fun v13 => ?_)
  obtain ⟨_, k14, f15, rfl⟩ := hW 4 _ rfl
  obtain ⟨w16, hw17⟩ : ∃ w : va_W, w = List.set ws 4 (bA E (a 4) 260 (upd f15 tp (vp_nar .byte v13))) := ⟨_, rfl⟩
  refine x_bask C tp (nI_clamp (by omega)) (nI_pos (by omega)) (by omega) 4 k14 hw17.symm dX12_types_21 rfl ?_
  have hW18 : WX (okM E a cd kf jn js jq) w16 := by rw [hw17]; exact hW.set (k := 4) rfl ⟨_, rfl⟩
  have k19 : w16[0]? = some (ob (a 0) 11 [.ref (a 1), .ref (a 2), .ref (a 3), .ref (a 4), .int (nI tp), .int (nI pl), .int (nI le), .int v1, .int nu, .int v2, .int (nI cm), .int (nI wt), .int (nI sm), .int (nI (cd.2.2.2.2.2)), .ref (a 5), .ref (a 6), .ref (a 7), .ref (a 8), .ref (a 9), .ref (a 10), .ref (a 11), .ref (a 12), .ref (a 13), .ref (a 14), .ref (a 15), .ref (a 16), .ref (a 17), .int (nI lm), .ref (a 18), .ref (a 19), .ref (a 20), .ref (a 21), .int v3, .int v4, .int v5, .int v6, .int (nI n7), .int (nI n8), .ref (a 22), .ref (a 23), .ref (a 24), .ref (a 25), .ref (a 26), .ref (a 27), .ref (a 28), .ref (a 29), .ref (a 30), .int kf]) := by rw [hw17]; exact set_ne k11 (by decide)
  have k20 : w16[4]? = some (bA E (a 4) 260 (upd f15 tp (vp_nar .byte v13))) := by rw [hw17]; exact set_eq k14
  have kp21 := keeps_set kp0 hw17 (by first | exact rfl | decide | omega | (dsimp only; omega))
  refine x_aload_n C dX12_types_22 rfl 1 rfl rfl ?_
  refine x_aload_n C dX12_types_23 rfl 1 rfl rfl ?_
  refine x_get C (ci := 11) (k := 4) 0 k19 rfl in_X12 (by decide) w_1122 rfl dX12_types_24 rfl ?_
  refine x_iconst C (v := 1) dX12_types_27 (by decide) rfl ?_
  refine x_iadd C (v := (nI (tp + 1))) dX12_types_28 (nI_add tp 1) rfl ?_
  obtain ⟨w22, hw23⟩ : ∃ w : va_W, w = List.set w16 0 (ob (a 0) 11 [.ref (a 1), .ref (a 2), .ref (a 3), .ref (a 4), .int (nI (tp + 1)), .int (nI pl), .int (nI le), .int v1, .int nu, .int v2, .int (nI cm), .int (nI wt), .int (nI sm), .int (nI (cd.2.2.2.2.2)), .ref (a 5), .ref (a 6), .ref (a 7), .ref (a 8), .ref (a 9), .ref (a 10), .ref (a 11), .ref (a 12), .ref (a 13), .ref (a 14), .ref (a 15), .ref (a 16), .ref (a 17), .int (nI lm), .ref (a 18), .ref (a 19), .ref (a 20), .ref (a 21), .int v3, .int v4, .int v5, .int v6, .int (nI n7), .int (nI n8), .ref (a 22), .ref (a 23), .ref (a 24), .ref (a 25), .ref (a 26), .ref (a 27), .ref (a 28), .ref (a 29), .ref (a 30), .int kf]) := ⟨_, rfl⟩
  refine x_put C (ci := 11) (k := 4) (ty := .int) 0 k19 rfl in_X12 tyX12 tyX12_ok nmX12 (by decide) w_1122 rfl rfl rfl rfl (Nat.le_of_ble_eq_true rfl) hw23.symm dX12_types_29 rfl ?_
  have hW24 : WX (okM E a cd kf jn js jq) w22 := by rw [hw23]; exact hW18.set (k := 0) rfl ⟨(tp + 1), pl, le, v1, nu, v2, cm, wt, sm, lm, v3, v4, v5, v6, n7, n8, by omega, by omega, by omega, by omega, by omega, by omega, by omega, by omega, by omega, rfl⟩
  have k25 : w22[0]? = some (ob (a 0) 11 [.ref (a 1), .ref (a 2), .ref (a 3), .ref (a 4), .int (nI (tp + 1)), .int (nI pl), .int (nI le), .int v1, .int nu, .int v2, .int (nI cm), .int (nI wt), .int (nI sm), .int (nI (cd.2.2.2.2.2)), .ref (a 5), .ref (a 6), .ref (a 7), .ref (a 8), .ref (a 9), .ref (a 10), .ref (a 11), .ref (a 12), .ref (a 13), .ref (a 14), .ref (a 15), .ref (a 16), .ref (a 17), .int (nI lm), .ref (a 18), .ref (a 19), .ref (a 20), .ref (a 21), .int v3, .int v4, .int v5, .int v6, .int (nI n7), .int (nI n8), .ref (a 22), .ref (a 23), .ref (a 24), .ref (a 25), .ref (a 26), .ref (a 27), .ref (a 28), .ref (a 29), .ref (a 30), .int kf]) := by rw [hw23]; exact set_eq k19
  have k26 : w22[4]? = some (bA E (a 4) 260 (upd f15 tp (vp_nar .byte v13))) := by rw [hw23]; exact set_ne k20 (by decide)
  have kp27 := keeps_set kp21 hw23 (by first | exact rfl | decide | omega | (dsimp only; omega))
  refine x_iinc C (v := 2) (lv' := [(2, .int 2), (0, .ref (a 0)), (1, .int p0)]) dX12_types_32 0 rfl (by decide) (by decide) rfl rfl ?_
  refine x_goto C (tgt := 2) dX12_types_35 (by decide) ?_
  refine x_iload_n C dX12_types_2 rfl 0 rfl rfl ?_
  refine x_if_lt C (tgt := 38) dX12_types_3 (by decide) rfl (fun h => absurd h (by decide)) (fun _ => ?_)
  refine x_aload_n C dX12_types_6 rfl 1 rfl rfl ?_
  refine x_get C (ci := 11) (k := 3) 0 k25 rfl in_X12 (by decide) w_1121 rfl dX12_types_7 rfl ?_
  refine x_aload_n C dX12_types_10 rfl 1 rfl rfl ?_
  refine x_get C (ci := 11) (k := 4) 0 k25 rfl in_X12 (by decide) w_1122 rfl dX12_types_11 rfl ?_
  refine x_iload_n C dX12_types_14 rfl 2 rfl rfl ?_
  refine x_bipush C (v := 8) dX12_types_15 (by decide) rfl ?_
  refine x_iload_n C dX12_types_17 rfl 0 rfl rfl ?_
  refine x_imul C (v := 16) dX12_types_18 (by decide) rfl ?_
  refine x_ishr C (v := (p0 >>> ((16 : Int32) &&& 31))) dX12_types_19 rfl rfl ?_
  refine x_any (fun v28 => ?_)
  refine x_i2b C dX12_types_20 rfl rfl ?_
  refine x_any (fun v29 => ?_)
  obtain ⟨w30, hw31⟩ : ∃ w : va_W, w = List.set w22 4 (bA E (a 4) 260 (upd (upd f15 tp (vp_nar .byte v13)) (tp + 1) (vp_nar .byte v29))) := ⟨_, rfl⟩
  refine x_bask C (tp + 1) (nI_clamp (by omega)) (nI_pos (by omega)) (by omega) 4 k26 hw31.symm dX12_types_21 rfl ?_
  have hW32 : WX (okM E a cd kf jn js jq) w30 := by rw [hw31]; exact hW24.set (k := 4) rfl ⟨_, rfl⟩
  have k33 : w30[0]? = some (ob (a 0) 11 [.ref (a 1), .ref (a 2), .ref (a 3), .ref (a 4), .int (nI (tp + 1)), .int (nI pl), .int (nI le), .int v1, .int nu, .int v2, .int (nI cm), .int (nI wt), .int (nI sm), .int (nI (cd.2.2.2.2.2)), .ref (a 5), .ref (a 6), .ref (a 7), .ref (a 8), .ref (a 9), .ref (a 10), .ref (a 11), .ref (a 12), .ref (a 13), .ref (a 14), .ref (a 15), .ref (a 16), .ref (a 17), .int (nI lm), .ref (a 18), .ref (a 19), .ref (a 20), .ref (a 21), .int v3, .int v4, .int v5, .int v6, .int (nI n7), .int (nI n8), .ref (a 22), .ref (a 23), .ref (a 24), .ref (a 25), .ref (a 26), .ref (a 27), .ref (a 28), .ref (a 29), .ref (a 30), .int kf]) := by rw [hw31]; exact set_ne k25 (by decide)
  have k34 : w30[4]? = some (bA E (a 4) 260 (upd (upd f15 tp (vp_nar .byte v13)) (tp + 1) (vp_nar .byte v29))) := by rw [hw31]; exact set_eq k26
  have kp35 := keeps_set kp27 hw31 (by first | exact rfl | decide | omega | (dsimp only; omega))
  refine x_aload_n C dX12_types_22 rfl 1 rfl rfl ?_
  refine x_aload_n C dX12_types_23 rfl 1 rfl rfl ?_
  refine x_get C (ci := 11) (k := 4) 0 k33 rfl in_X12 (by decide) w_1122 rfl dX12_types_24 rfl ?_
  refine x_iconst C (v := 1) dX12_types_27 (by decide) rfl ?_
  refine x_iadd C (v := (nI ((tp + 1) + 1))) dX12_types_28 (nI_add (tp + 1) 1) rfl ?_
  obtain ⟨w36, hw37⟩ : ∃ w : va_W, w = List.set w30 0 (ob (a 0) 11 [.ref (a 1), .ref (a 2), .ref (a 3), .ref (a 4), .int (nI ((tp + 1) + 1)), .int (nI pl), .int (nI le), .int v1, .int nu, .int v2, .int (nI cm), .int (nI wt), .int (nI sm), .int (nI (cd.2.2.2.2.2)), .ref (a 5), .ref (a 6), .ref (a 7), .ref (a 8), .ref (a 9), .ref (a 10), .ref (a 11), .ref (a 12), .ref (a 13), .ref (a 14), .ref (a 15), .ref (a 16), .ref (a 17), .int (nI lm), .ref (a 18), .ref (a 19), .ref (a 20), .ref (a 21), .int v3, .int v4, .int v5, .int v6, .int (nI n7), .int (nI n8), .ref (a 22), .ref (a 23), .ref (a 24), .ref (a 25), .ref (a 26), .ref (a 27), .ref (a 28), .ref (a 29), .ref (a 30), .int kf]) := ⟨_, rfl⟩
  refine x_put C (ci := 11) (k := 4) (ty := .int) 0 k33 rfl in_X12 tyX12 tyX12_ok nmX12 (by decide) w_1122 rfl rfl rfl rfl (Nat.le_of_ble_eq_true rfl) hw37.symm dX12_types_29 rfl ?_
  have hW38 : WX (okM E a cd kf jn js jq) w36 := by rw [hw37]; exact hW32.set (k := 0) rfl ⟨((tp + 1) + 1), pl, le, v1, nu, v2, cm, wt, sm, lm, v3, v4, v5, v6, n7, n8, by omega, by omega, by omega, by omega, by omega, by omega, by omega, by omega, by omega, rfl⟩
  have k39 : w36[0]? = some (ob (a 0) 11 [.ref (a 1), .ref (a 2), .ref (a 3), .ref (a 4), .int (nI ((tp + 1) + 1)), .int (nI pl), .int (nI le), .int v1, .int nu, .int v2, .int (nI cm), .int (nI wt), .int (nI sm), .int (nI (cd.2.2.2.2.2)), .ref (a 5), .ref (a 6), .ref (a 7), .ref (a 8), .ref (a 9), .ref (a 10), .ref (a 11), .ref (a 12), .ref (a 13), .ref (a 14), .ref (a 15), .ref (a 16), .ref (a 17), .int (nI lm), .ref (a 18), .ref (a 19), .ref (a 20), .ref (a 21), .int v3, .int v4, .int v5, .int v6, .int (nI n7), .int (nI n8), .ref (a 22), .ref (a 23), .ref (a 24), .ref (a 25), .ref (a 26), .ref (a 27), .ref (a 28), .ref (a 29), .ref (a 30), .int kf]) := by rw [hw37]; exact set_eq k33
  have k40 : w36[4]? = some (bA E (a 4) 260 (upd (upd f15 tp (vp_nar .byte v13)) (tp + 1) (vp_nar .byte v29))) := by rw [hw37]; exact set_ne k34 (by decide)
  have kp41 := keeps_set kp35 hw37 (by first | exact rfl | decide | omega | (dsimp only; omega))
  refine x_iinc C (v := 1) (lv' := [(2, .int 1), (0, .ref (a 0)), (1, .int p0)]) dX12_types_32 0 rfl (by decide) (by decide) rfl rfl ?_
  refine x_goto C (tgt := 2) dX12_types_35 (by decide) ?_
  refine x_iload_n C dX12_types_2 rfl 0 rfl rfl ?_
  refine x_if_lt C (tgt := 38) dX12_types_3 (by decide) rfl (fun h => absurd h (by decide)) (fun _ => ?_)
  refine x_aload_n C dX12_types_6 rfl 1 rfl rfl ?_
  refine x_get C (ci := 11) (k := 3) 0 k39 rfl in_X12 (by decide) w_1121 rfl dX12_types_7 rfl ?_
  refine x_aload_n C dX12_types_10 rfl 1 rfl rfl ?_
  refine x_get C (ci := 11) (k := 4) 0 k39 rfl in_X12 (by decide) w_1122 rfl dX12_types_11 rfl ?_
  refine x_iload_n C dX12_types_14 rfl 2 rfl rfl ?_
  refine x_bipush C (v := 8) dX12_types_15 (by decide) rfl ?_
  refine x_iload_n C dX12_types_17 rfl 0 rfl rfl ?_
  refine x_imul C (v := 8) dX12_types_18 (by decide) rfl ?_
  refine x_ishr C (v := (p0 >>> ((8 : Int32) &&& 31))) dX12_types_19 rfl rfl ?_
  refine x_any (fun v42 => ?_)
  refine x_i2b C dX12_types_20 rfl rfl ?_
  refine x_any (fun v43 => ?_)
  obtain ⟨w44, hw45⟩ : ∃ w : va_W, w = List.set w36 4 (bA E (a 4) 260 (upd (upd (upd f15 tp (vp_nar .byte v13)) (tp + 1) (vp_nar .byte v29)) ((tp + 1) + 1) (vp_nar .byte v43))) := ⟨_, rfl⟩
  refine x_bask C ((tp + 1) + 1) (nI_clamp (by omega)) (nI_pos (by omega)) (by omega) 4 k40 hw45.symm dX12_types_21 rfl ?_
  have hW46 : WX (okM E a cd kf jn js jq) w44 := by rw [hw45]; exact hW38.set (k := 4) rfl ⟨_, rfl⟩
  have k47 : w44[0]? = some (ob (a 0) 11 [.ref (a 1), .ref (a 2), .ref (a 3), .ref (a 4), .int (nI ((tp + 1) + 1)), .int (nI pl), .int (nI le), .int v1, .int nu, .int v2, .int (nI cm), .int (nI wt), .int (nI sm), .int (nI (cd.2.2.2.2.2)), .ref (a 5), .ref (a 6), .ref (a 7), .ref (a 8), .ref (a 9), .ref (a 10), .ref (a 11), .ref (a 12), .ref (a 13), .ref (a 14), .ref (a 15), .ref (a 16), .ref (a 17), .int (nI lm), .ref (a 18), .ref (a 19), .ref (a 20), .ref (a 21), .int v3, .int v4, .int v5, .int v6, .int (nI n7), .int (nI n8), .ref (a 22), .ref (a 23), .ref (a 24), .ref (a 25), .ref (a 26), .ref (a 27), .ref (a 28), .ref (a 29), .ref (a 30), .int kf]) := by rw [hw45]; exact set_ne k39 (by decide)
  have k48 : w44[4]? = some (bA E (a 4) 260 (upd (upd (upd f15 tp (vp_nar .byte v13)) (tp + 1) (vp_nar .byte v29)) ((tp + 1) + 1) (vp_nar .byte v43))) := by rw [hw45]; exact set_eq k40
  have kp49 := keeps_set kp41 hw45 (by first | exact rfl | decide | omega | (dsimp only; omega))
  refine x_aload_n C dX12_types_22 rfl 1 rfl rfl ?_
  refine x_aload_n C dX12_types_23 rfl 1 rfl rfl ?_
  refine x_get C (ci := 11) (k := 4) 0 k47 rfl in_X12 (by decide) w_1122 rfl dX12_types_24 rfl ?_
  refine x_iconst C (v := 1) dX12_types_27 (by decide) rfl ?_
  refine x_iadd C (v := (nI (((tp + 1) + 1) + 1))) dX12_types_28 (nI_add ((tp + 1) + 1) 1) rfl ?_
  obtain ⟨w50, hw51⟩ : ∃ w : va_W, w = List.set w44 0 (ob (a 0) 11 [.ref (a 1), .ref (a 2), .ref (a 3), .ref (a 4), .int (nI (((tp + 1) + 1) + 1)), .int (nI pl), .int (nI le), .int v1, .int nu, .int v2, .int (nI cm), .int (nI wt), .int (nI sm), .int (nI (cd.2.2.2.2.2)), .ref (a 5), .ref (a 6), .ref (a 7), .ref (a 8), .ref (a 9), .ref (a 10), .ref (a 11), .ref (a 12), .ref (a 13), .ref (a 14), .ref (a 15), .ref (a 16), .ref (a 17), .int (nI lm), .ref (a 18), .ref (a 19), .ref (a 20), .ref (a 21), .int v3, .int v4, .int v5, .int v6, .int (nI n7), .int (nI n8), .ref (a 22), .ref (a 23), .ref (a 24), .ref (a 25), .ref (a 26), .ref (a 27), .ref (a 28), .ref (a 29), .ref (a 30), .int kf]) := ⟨_, rfl⟩
  refine x_put C (ci := 11) (k := 4) (ty := .int) 0 k47 rfl in_X12 tyX12 tyX12_ok nmX12 (by decide) w_1122 rfl rfl rfl rfl (Nat.le_of_ble_eq_true rfl) hw51.symm dX12_types_29 rfl ?_
  have hW52 : WX (okM E a cd kf jn js jq) w50 := by rw [hw51]; exact hW46.set (k := 0) rfl ⟨(((tp + 1) + 1) + 1), pl, le, v1, nu, v2, cm, wt, sm, lm, v3, v4, v5, v6, n7, n8, by omega, by omega, by omega, by omega, by omega, by omega, by omega, by omega, by omega, rfl⟩
  have k53 : w50[0]? = some (ob (a 0) 11 [.ref (a 1), .ref (a 2), .ref (a 3), .ref (a 4), .int (nI (((tp + 1) + 1) + 1)), .int (nI pl), .int (nI le), .int v1, .int nu, .int v2, .int (nI cm), .int (nI wt), .int (nI sm), .int (nI (cd.2.2.2.2.2)), .ref (a 5), .ref (a 6), .ref (a 7), .ref (a 8), .ref (a 9), .ref (a 10), .ref (a 11), .ref (a 12), .ref (a 13), .ref (a 14), .ref (a 15), .ref (a 16), .ref (a 17), .int (nI lm), .ref (a 18), .ref (a 19), .ref (a 20), .ref (a 21), .int v3, .int v4, .int v5, .int v6, .int (nI n7), .int (nI n8), .ref (a 22), .ref (a 23), .ref (a 24), .ref (a 25), .ref (a 26), .ref (a 27), .ref (a 28), .ref (a 29), .ref (a 30), .int kf]) := by rw [hw51]; exact set_eq k47
  have k54 : w50[4]? = some (bA E (a 4) 260 (upd (upd (upd f15 tp (vp_nar .byte v13)) (tp + 1) (vp_nar .byte v29)) ((tp + 1) + 1) (vp_nar .byte v43))) := by rw [hw51]; exact set_ne k48 (by decide)
  have kp55 := keeps_set kp49 hw51 (by first | exact rfl | decide | omega | (dsimp only; omega))
  refine x_iinc C (v := 0) (lv' := [(2, .int 0), (0, .ref (a 0)), (1, .int p0)]) dX12_types_32 0 rfl (by decide) (by decide) rfl rfl ?_
  refine x_goto C (tgt := 2) dX12_types_35 (by decide) ?_
  refine x_iload_n C dX12_types_2 rfl 0 rfl rfl ?_
  refine x_if_lt C (tgt := 38) dX12_types_3 (by decide) rfl (fun h => absurd h (by decide)) (fun _ => ?_)
  refine x_aload_n C dX12_types_6 rfl 1 rfl rfl ?_
  refine x_get C (ci := 11) (k := 3) 0 k53 rfl in_X12 (by decide) w_1121 rfl dX12_types_7 rfl ?_
  refine x_aload_n C dX12_types_10 rfl 1 rfl rfl ?_
  refine x_get C (ci := 11) (k := 4) 0 k53 rfl in_X12 (by decide) w_1122 rfl dX12_types_11 rfl ?_
  refine x_iload_n C dX12_types_14 rfl 2 rfl rfl ?_
  refine x_bipush C (v := 8) dX12_types_15 (by decide) rfl ?_
  refine x_iload_n C dX12_types_17 rfl 0 rfl rfl ?_
  refine x_imul C (v := 0) dX12_types_18 (by decide) rfl ?_
  refine x_ishr C (v := (p0 >>> ((0 : Int32) &&& 31))) dX12_types_19 rfl rfl ?_
  refine x_any (fun v56 => ?_)
  refine x_i2b C dX12_types_20 rfl rfl ?_
  refine x_any (fun v57 => ?_)
  obtain ⟨w58, hw59⟩ : ∃ w : va_W, w = List.set w50 4 (bA E (a 4) 260 (upd (upd (upd (upd f15 tp (vp_nar .byte v13)) (tp + 1) (vp_nar .byte v29)) ((tp + 1) + 1) (vp_nar .byte v43)) (((tp + 1) + 1) + 1) (vp_nar .byte v57))) := ⟨_, rfl⟩
  refine x_bask C (((tp + 1) + 1) + 1) (nI_clamp (by omega)) (nI_pos (by omega)) (by omega) 4 k54 hw59.symm dX12_types_21 rfl ?_
  have hW60 : WX (okM E a cd kf jn js jq) w58 := by rw [hw59]; exact hW52.set (k := 4) rfl ⟨_, rfl⟩
  have k61 : w58[0]? = some (ob (a 0) 11 [.ref (a 1), .ref (a 2), .ref (a 3), .ref (a 4), .int (nI (((tp + 1) + 1) + 1)), .int (nI pl), .int (nI le), .int v1, .int nu, .int v2, .int (nI cm), .int (nI wt), .int (nI sm), .int (nI (cd.2.2.2.2.2)), .ref (a 5), .ref (a 6), .ref (a 7), .ref (a 8), .ref (a 9), .ref (a 10), .ref (a 11), .ref (a 12), .ref (a 13), .ref (a 14), .ref (a 15), .ref (a 16), .ref (a 17), .int (nI lm), .ref (a 18), .ref (a 19), .ref (a 20), .ref (a 21), .int v3, .int v4, .int v5, .int v6, .int (nI n7), .int (nI n8), .ref (a 22), .ref (a 23), .ref (a 24), .ref (a 25), .ref (a 26), .ref (a 27), .ref (a 28), .ref (a 29), .ref (a 30), .int kf]) := by rw [hw59]; exact set_ne k53 (by decide)
  have k62 : w58[4]? = some (bA E (a 4) 260 (upd (upd (upd (upd f15 tp (vp_nar .byte v13)) (tp + 1) (vp_nar .byte v29)) ((tp + 1) + 1) (vp_nar .byte v43)) (((tp + 1) + 1) + 1) (vp_nar .byte v57))) := by rw [hw59]; exact set_eq k54
  have kp63 := keeps_set kp55 hw59 (by first | exact rfl | decide | omega | (dsimp only; omega))
  refine x_aload_n C dX12_types_22 rfl 1 rfl rfl ?_
  refine x_aload_n C dX12_types_23 rfl 1 rfl rfl ?_
  refine x_get C (ci := 11) (k := 4) 0 k61 rfl in_X12 (by decide) w_1122 rfl dX12_types_24 rfl ?_
  refine x_iconst C (v := 1) dX12_types_27 (by decide) rfl ?_
  refine x_iadd C (v := (nI ((((tp + 1) + 1) + 1) + 1))) dX12_types_28 (nI_add (((tp + 1) + 1) + 1) 1) rfl ?_
  obtain ⟨w64, hw65⟩ : ∃ w : va_W, w = List.set w58 0 (ob (a 0) 11 [.ref (a 1), .ref (a 2), .ref (a 3), .ref (a 4), .int (nI ((((tp + 1) + 1) + 1) + 1)), .int (nI pl), .int (nI le), .int v1, .int nu, .int v2, .int (nI cm), .int (nI wt), .int (nI sm), .int (nI (cd.2.2.2.2.2)), .ref (a 5), .ref (a 6), .ref (a 7), .ref (a 8), .ref (a 9), .ref (a 10), .ref (a 11), .ref (a 12), .ref (a 13), .ref (a 14), .ref (a 15), .ref (a 16), .ref (a 17), .int (nI lm), .ref (a 18), .ref (a 19), .ref (a 20), .ref (a 21), .int v3, .int v4, .int v5, .int v6, .int (nI n7), .int (nI n8), .ref (a 22), .ref (a 23), .ref (a 24), .ref (a 25), .ref (a 26), .ref (a 27), .ref (a 28), .ref (a 29), .ref (a 30), .int kf]) := ⟨_, rfl⟩
  refine x_put C (ci := 11) (k := 4) (ty := .int) 0 k61 rfl in_X12 tyX12 tyX12_ok nmX12 (by decide) w_1122 rfl rfl rfl rfl (Nat.le_of_ble_eq_true rfl) hw65.symm dX12_types_29 rfl ?_
  have hW66 : WX (okM E a cd kf jn js jq) w64 := by rw [hw65]; exact hW60.set (k := 0) rfl ⟨((((tp + 1) + 1) + 1) + 1), pl, le, v1, nu, v2, cm, wt, sm, lm, v3, v4, v5, v6, n7, n8, by omega, by omega, by omega, by omega, by omega, by omega, by omega, by omega, by omega, rfl⟩
  have k67 : w64[0]? = some (ob (a 0) 11 [.ref (a 1), .ref (a 2), .ref (a 3), .ref (a 4), .int (nI ((((tp + 1) + 1) + 1) + 1)), .int (nI pl), .int (nI le), .int v1, .int nu, .int v2, .int (nI cm), .int (nI wt), .int (nI sm), .int (nI (cd.2.2.2.2.2)), .ref (a 5), .ref (a 6), .ref (a 7), .ref (a 8), .ref (a 9), .ref (a 10), .ref (a 11), .ref (a 12), .ref (a 13), .ref (a 14), .ref (a 15), .ref (a 16), .ref (a 17), .int (nI lm), .ref (a 18), .ref (a 19), .ref (a 20), .ref (a 21), .int v3, .int v4, .int v5, .int v6, .int (nI n7), .int (nI n8), .ref (a 22), .ref (a 23), .ref (a 24), .ref (a 25), .ref (a 26), .ref (a 27), .ref (a 28), .ref (a 29), .ref (a 30), .int kf]) := by rw [hw65]; exact set_eq k61
  have k68 : w64[4]? = some (bA E (a 4) 260 (upd (upd (upd (upd f15 tp (vp_nar .byte v13)) (tp + 1) (vp_nar .byte v29)) ((tp + 1) + 1) (vp_nar .byte v43)) (((tp + 1) + 1) + 1) (vp_nar .byte v57))) := by rw [hw65]; exact set_ne k62 (by decide)
  have kp69 := keeps_set kp63 hw65 (by first | exact rfl | decide | omega | (dsimp only; omega))
  refine x_iinc C (v := (-1)) (lv' := [(2, .int (-1)), (0, .ref (a 0)), (1, .int p0)]) dX12_types_32 0 rfl (by decide) (by decide) rfl rfl ?_
  refine x_goto C (tgt := 2) dX12_types_35 (by decide) ?_
  refine x_iload_n C dX12_types_2 rfl 0 rfl rfl ?_
  refine x_if_lt C (tgt := 38) dX12_types_3 (by decide) rfl (fun _ => ?_) (fun h => absurd h (by decide))
  exact x_vret C hr hlk dX12_types_38 ⟨hW66, kp69, (by have q9 := (show MO a cd kf w64 (tp + 4) pl le cm wt sm lm nu from ⟨v1, v2, v3, v4, v5, v6, n7, n8, ⟨by omega, by omega, by omega, by omega, by omega, by omega, by omega⟩, ⟨by omega, by omega⟩, (by rw [show tp + 4 = (((tp + 1) + 1) + 1) + 1 from by omega]; exact k67)⟩); exact q9)⟩
theorem dX12_feed_0 : decode cX12_feed 0 = .ok (.aload_n 0, 1) := by decide +kernel
theorem dX12_feed_1 : decode cX12_feed 1 = .ok (.getfield 123, 3) := by decide +kernel
theorem dX12_feed_4 : decode cX12_feed 4 = .ok (.bipush 20, 2) := by decide +kernel
theorem dX12_feed_6 : decode cX12_feed 6 = .ok (.iadd, 1) := by decide +kernel
theorem dX12_feed_7 : decode cX12_feed 7 = .ok (.sipush 260, 3) := by decide +kernel
theorem dX12_feed_10 : decode cX12_feed 10 = .ok (.if_icmp .le 5, 3) := by decide +kernel
theorem dX12_feed_13 : decode cX12_feed 13 = .ok (.iconst (-1), 1) := by decide +kernel
theorem dX12_feed_14 : decode cX12_feed 14 = .ok (.ireturn, 1) := by decide +kernel
theorem dX12_feed_15 : decode cX12_feed 15 = .ok (.aload_n 0, 1) := by decide +kernel
theorem dX12_feed_16 : decode cX12_feed 16 = .ok (.iload_n 1, 1) := by decide +kernel
theorem dX12_feed_17 : decode cX12_feed 17 = .ok (.invokevirtual 127, 3) := by decide +kernel
theorem dX12_feed_20 : decode cX12_feed 20 = .ok (.aload_n 0, 1) := by decide +kernel
theorem dX12_feed_21 : decode cX12_feed 21 = .ok (.iload_n 2, 1) := by decide +kernel
theorem dX12_feed_22 : decode cX12_feed 22 = .ok (.invokevirtual 127, 3) := by decide +kernel
theorem dX12_feed_25 : decode cX12_feed 25 = .ok (.aload_n 0, 1) := by decide +kernel
theorem dX12_feed_26 : decode cX12_feed 26 = .ok (.iload_n 3, 1) := by decide +kernel
theorem dX12_feed_27 : decode cX12_feed 27 = .ok (.invokevirtual 127, 3) := by decide +kernel
theorem dX12_feed_30 : decode cX12_feed 30 = .ok (.aload_n 0, 1) := by decide +kernel
theorem dX12_feed_31 : decode cX12_feed 31 = .ok (.iload 4, 2) := by decide +kernel
theorem dX12_feed_33 : decode cX12_feed 33 = .ok (.invokevirtual 127, 3) := by decide +kernel
theorem dX12_feed_36 : decode cX12_feed 36 = .ok (.aload_n 0, 1) := by decide +kernel
theorem dX12_feed_37 : decode cX12_feed 37 = .ok (.iload 5, 2) := by decide +kernel
theorem dX12_feed_39 : decode cX12_feed 39 = .ok (.invokevirtual 127, 3) := by decide +kernel
theorem dX12_feed_42 : decode cX12_feed 42 = .ok (.aload_n 0, 1) := by decide +kernel
theorem dX12_feed_43 : decode cX12_feed 43 = .ok (.getfield 123, 3) := by decide +kernel
theorem dX12_feed_46 : decode cX12_feed 46 = .ok (.ireturn, 1) := by decide +kernel
set_option maxRecDepth 20000 in
set_option maxHeartbeats 4000000 in
theorem m_feed (E : xE) (l : Launch) (a : Nat → Nat) (cd : Cd) (hG : Good cd) (kf : Int32) (jn js jq : Lb) (ws : va_W) (hW : WX (okM E a cd kf jn js jq) ws) (p0 : Int32) (p1 : Int32) (p2 : Int32) (p3 : Int32) (p4 : Int32) : xI E l yX12_feed cX12_feed 6 (some .int) 8 [.ref (a 0), .int p0, .int p1, .int p2, .int p3, .int p4] ws (fun r w => WX (okM E a cd kf jn js jq) w) := by
  refine xI_start (lv := [(0, .ref (a 0)), (1, .int p0), (2, .int p1), (3, .int p2), (4, .int p3), (5, .int p4)]) RX12 (by decide) rfl (Nat.le_of_ble_eq_true rfl) rfl (fun p e s m below meth c A C hr hlk => ?_)
  refine x_aload_n C dX12_feed_0 rfl 0 rfl rfl ?_
  obtain ⟨_, k1, n2, n4, n6, v8, v9, v10, n11, n13, n15, n17, v19, v20, v21, v22, n23, n25, bn3, bn5, bn7, bn12, bn14, bn16, bn18, bn24, bn26, rfl⟩ := hW 0 _ rfl
  refine x_get C (ci := 11) (k := 4) 0 k1 rfl in_X12 (by decide) w_1122 rfl dX12_feed_1 rfl ?_
  refine x_bipush C (v := 20) dX12_feed_4 (by decide) rfl ?_
  refine x_iadd C (v := (nI (n2 + 20))) dX12_feed_6 (nI_add n2 20) rfl ?_
  refine x_sipush C (v := 260) dX12_feed_7 (by decide) rfl ?_
  refine x_icmp_le C (tgt := 15) dX12_feed_10 (by decide) rfl (fun c27 => ?_) (fun c27 => ?_)
  · skip
    have nf28 := nI_le' (a := (n2 + 20)) (b := 260) c27 (by omega) (by omega)
    refine x_aload_n C dX12_feed_15 rfl 0 rfl rfl ?_
    refine x_iload_n C dX12_feed_16 rfl 1 rfl rfl ?_
    refine x_vv C (As := [.int p0]) (rest := []) (m_types E l a cd hG kf jn js jq ws hW p0 n2 n4 n6 n11 n13 n15 n17 v9 ⟨v8, v10, v19, v20, v21, v22, n23, n25, ⟨by omega, by omega, by omega, by omega, by omega, by omega, by omega⟩, ⟨by omega, by omega⟩, k1⟩ (by omega)) mf_X12_types w_1305 0 k1 rfl rfl rfl (Nat.le_of_ble_eq_true rfl) ⟨(Nat.le_of_ble_eq_true rfl), (Nat.le_of_ble_eq_true rfl)⟩ ⟨(Nat.le_of_ble_eq_true rfl), (Nat.le_of_ble_eq_true rfl)⟩ dX12_feed_17 rfl (fun w31 h29 => ?_)
    obtain ⟨hW32, kq33, x34⟩ := h29
    obtain ⟨v35, v36, v37, v38, v39, v40, n41, n42, bo43, bo44, k45⟩ := x34
    refine x_aload_n C dX12_feed_20 rfl 0 rfl rfl ?_
    refine x_iload_n C dX12_feed_21 rfl 2 rfl rfl ?_
    refine x_vv C (As := [.int p1]) (rest := []) (m_types E l a cd hG kf jn js jq w31 hW32 p1 (n2 + 4) n4 n6 n11 n13 n15 n17 v9 ⟨v35, v36, v37, v38, v39, v40, n41, n42, ⟨by omega, by omega, by omega, by omega, by omega, by omega, by omega⟩, ⟨by omega, by omega⟩, k45⟩ (by omega)) mf_X12_types w_1305 0 k45 rfl rfl rfl (Nat.le_of_ble_eq_true rfl) ⟨(Nat.le_of_ble_eq_true rfl), (Nat.le_of_ble_eq_true rfl)⟩ ⟨(Nat.le_of_ble_eq_true rfl), (Nat.le_of_ble_eq_true rfl)⟩ dX12_feed_22 rfl (fun w48 h46 => ?_)
    obtain ⟨hW49, kq50, x51⟩ := h46
    obtain ⟨v52, v53, v54, v55, v56, v57, n58, n59, bo60, bo61, k62⟩ := x51
    refine x_aload_n C dX12_feed_25 rfl 0 rfl rfl ?_
    refine x_iload_n C dX12_feed_26 rfl 3 rfl rfl ?_
    refine x_vv C (As := [.int p2]) (rest := []) (m_types E l a cd hG kf jn js jq w48 hW49 p2 ((n2 + 4) + 4) n4 n6 n11 n13 n15 n17 v9 ⟨v52, v53, v54, v55, v56, v57, n58, n59, ⟨by omega, by omega, by omega, by omega, by omega, by omega, by omega⟩, ⟨by omega, by omega⟩, k62⟩ (by omega)) mf_X12_types w_1305 0 k62 rfl rfl rfl (Nat.le_of_ble_eq_true rfl) ⟨(Nat.le_of_ble_eq_true rfl), (Nat.le_of_ble_eq_true rfl)⟩ ⟨(Nat.le_of_ble_eq_true rfl), (Nat.le_of_ble_eq_true rfl)⟩ dX12_feed_27 rfl (fun w65 h63 => ?_)
    obtain ⟨hW66, kq67, x68⟩ := h63
    obtain ⟨v69, v70, v71, v72, v73, v74, n75, n76, bo77, bo78, k79⟩ := x68
    refine x_aload_n C dX12_feed_30 rfl 0 rfl rfl ?_
    refine x_iload C dX12_feed_31 4 rfl rfl ?_
    refine x_vv C (As := [.int p3]) (rest := []) (m_types E l a cd hG kf jn js jq w65 hW66 p3 (((n2 + 4) + 4) + 4) n4 n6 n11 n13 n15 n17 v9 ⟨v69, v70, v71, v72, v73, v74, n75, n76, ⟨by omega, by omega, by omega, by omega, by omega, by omega, by omega⟩, ⟨by omega, by omega⟩, k79⟩ (by omega)) mf_X12_types w_1305 0 k79 rfl rfl rfl (Nat.le_of_ble_eq_true rfl) ⟨(Nat.le_of_ble_eq_true rfl), (Nat.le_of_ble_eq_true rfl)⟩ ⟨(Nat.le_of_ble_eq_true rfl), (Nat.le_of_ble_eq_true rfl)⟩ dX12_feed_33 rfl (fun w82 h80 => ?_)
    obtain ⟨hW83, kq84, x85⟩ := h80
    obtain ⟨v86, v87, v88, v89, v90, v91, n92, n93, bo94, bo95, k96⟩ := x85
    refine x_aload_n C dX12_feed_36 rfl 0 rfl rfl ?_
    refine x_iload C dX12_feed_37 5 rfl rfl ?_
    refine x_vv C (As := [.int p4]) (rest := []) (m_types E l a cd hG kf jn js jq w82 hW83 p4 ((((n2 + 4) + 4) + 4) + 4) n4 n6 n11 n13 n15 n17 v9 ⟨v86, v87, v88, v89, v90, v91, n92, n93, ⟨by omega, by omega, by omega, by omega, by omega, by omega, by omega⟩, ⟨by omega, by omega⟩, k96⟩ (by omega)) mf_X12_types w_1305 0 k96 rfl rfl rfl (Nat.le_of_ble_eq_true rfl) ⟨(Nat.le_of_ble_eq_true rfl), (Nat.le_of_ble_eq_true rfl)⟩ ⟨(Nat.le_of_ble_eq_true rfl), (Nat.le_of_ble_eq_true rfl)⟩ dX12_feed_39 rfl (fun w99 h97 => ?_)
    obtain ⟨hW100, kq101, x102⟩ := h97
    obtain ⟨v103, v104, v105, v106, v107, v108, n109, n110, bo111, bo112, k113⟩ := x102
    refine x_aload_n C dX12_feed_42 rfl 0 rfl rfl ?_
    refine x_get C (ci := 11) (k := 4) 0 k113 rfl in_X12 (by decide) w_1122 rfl dX12_feed_43 rfl ?_
    exact x_zret C hr hlk rfl dX12_feed_46 hW100
  · skip
    have nf114 := nI_nle' (a := (n2 + 20)) (b := 260) c27 (by omega) (by omega)
    refine x_iconst C (v := (-1)) dX12_feed_13 (by decide) rfl ?_
    exact x_zret C hr hlk rfl dX12_feed_14 hW
theorem dX12_here_0 : decode cX12_here 0 = .ok (.aload_n 0, 1) := by decide +kernel
theorem dX12_here_1 : decode cX12_here 1 = .ok (.getfield 131, 3) := by decide +kernel
theorem dX12_here_4 : decode cX12_here 4 = .ok (.aload_n 0, 1) := by decide +kernel
theorem dX12_here_5 : decode cX12_here 5 = .ok (.getfield 134, 3) := by decide +kernel
theorem dX12_here_8 : decode cX12_here 8 = .ok (.if_icmp .ge 19, 3) := by decide +kernel
theorem dX12_here_11 : decode cX12_here 11 = .ok (.aload_n 0, 1) := by decide +kernel
theorem dX12_here_12 : decode cX12_here 12 = .ok (.getfield 19, 3) := by decide +kernel
theorem dX12_here_15 : decode cX12_here 15 = .ok (.aload_n 0, 1) := by decide +kernel
theorem dX12_here_16 : decode cX12_here 16 = .ok (.getfield 131, 3) := by decide +kernel
theorem dX12_here_19 : decode cX12_here 19 = .ok (.baload, 1) := by decide +kernel
theorem dX12_here_20 : decode cX12_here 20 = .ok (.sipush 255, 3) := by decide +kernel
theorem dX12_here_23 : decode cX12_here 23 = .ok (.iand, 1) := by decide +kernel
theorem dX12_here_24 : decode cX12_here 24 = .ok (.goto 4, 3) := by decide +kernel
theorem dX12_here_27 : decode cX12_here 27 = .ok (.iconst (-1), 1) := by decide +kernel
theorem dX12_here_28 : decode cX12_here 28 = .ok (.ireturn, 1) := by decide +kernel
set_option maxRecDepth 20000 in
set_option maxHeartbeats 4000000 in
theorem m_here (E : xE) (l : Launch) (a : Nat → Nat) (cd : Cd) (hG : Good cd) (kf : Int32) (jn js jq : Lb) (ws : va_W) (hW : WX (okM E a cd kf jn js jq) ws) (tp pl le cm wt sm lm : Nat) (nu : Int32) (h0 : MO a cd kf ws tp pl le cm wt sm lm nu) (tf : Nat → Int32) (htf : ws[4]? = some (bA E (a 4) 260 tf)) : xI E l yX12_here cX12_here 1 (some .int) 0 [.ref (a 0)] ws (fun r w => w = ws ∧ (r = hv tf pl le)) := by
  refine xI_start (lv := [(0, .ref (a 0))]) RX12 (by decide) rfl (Nat.le_of_ble_eq_true rfl) rfl (fun p e s m below meth c A C hr hlk => ?_)
  obtain ⟨v1, v2, v3, v4, v5, v6, n7, n8, bo9, bo10, k11⟩ := h0
  refine x_aload_n C dX12_here_0 rfl 0 rfl rfl ?_
  refine x_get C (ci := 11) (k := 5) 0 k11 rfl in_X12 (by decide) w_1123 rfl dX12_here_1 rfl ?_
  refine x_aload_n C dX12_here_4 rfl 0 rfl rfl ?_
  refine x_get C (ci := 11) (k := 6) 0 k11 rfl in_X12 (by decide) w_1124 rfl dX12_here_5 rfl ?_
  refine x_icmp_ge C (tgt := 27) dX12_here_8 (by decide) rfl (fun c12 => ?_) (fun c12 => ?_)
  · skip
    have nf13 := nI_le' (a := le) (b := pl) c12 (by omega) (by omega)
    refine x_iconst C (v := (-1)) dX12_here_27 (by decide) rfl ?_
    exact x_zret C hr hlk rfl dX12_here_28 ⟨rfl, (if_neg (by omega)).symm⟩
  · skip
    have nf14 := nI_nle' (a := le) (b := pl) c12 (by omega) (by omega)
    refine x_aload_n C dX12_here_11 rfl 0 rfl rfl ?_
    refine x_get C (ci := 11) (k := 3) 0 k11 rfl in_X12 (by decide) w_1121 rfl dX12_here_12 rfl ?_
    refine x_aload_n C dX12_here_15 rfl 0 rfl rfl ?_
    refine x_get C (ci := 11) (k := 5) 0 k11 rfl in_X12 (by decide) w_1123 rfl dX12_here_16 rfl ?_
    refine x_bald C (v := (tf (nI pl).toNatClampNeg)) 4 htf (vp_in_nI (by omega) (by decide)) rfl dX12_here_19 rfl ?_
    refine x_top (show tf (nI pl).toNatClampNeg = tf pl from by rw [nI_clamp (by omega)]) ?_
    refine x_sipush C (v := 255) dX12_here_20 (by decide) rfl ?_
    refine x_iand C (v := ((tf pl) &&& (255 : Int32))) dX12_here_23 rfl rfl ?_
    refine x_goto C (tgt := 28) dX12_here_24 (by decide) ?_
    exact x_zret C hr hlk rfl dX12_here_28 ⟨rfl, (if_pos (by omega)).symm⟩
theorem dX12_isDigit_0 : decode cX12_isDigit 0 = .ok (.aload_n 0, 1) := by decide +kernel
theorem dX12_isDigit_1 : decode cX12_isDigit 1 = .ok (.invokevirtual 137, 3) := by decide +kernel
theorem dX12_isDigit_4 : decode cX12_isDigit 4 = .ok (.bipush 48, 2) := by decide +kernel
theorem dX12_isDigit_6 : decode cX12_isDigit 6 = .ok (.if_icmp .lt 16, 3) := by decide +kernel
theorem dX12_isDigit_9 : decode cX12_isDigit 9 = .ok (.aload_n 0, 1) := by decide +kernel
theorem dX12_isDigit_10 : decode cX12_isDigit 10 = .ok (.invokevirtual 137, 3) := by decide +kernel
theorem dX12_isDigit_13 : decode cX12_isDigit 13 = .ok (.bipush 57, 2) := by decide +kernel
theorem dX12_isDigit_15 : decode cX12_isDigit 15 = .ok (.if_icmp .gt 7, 3) := by decide +kernel
theorem dX12_isDigit_18 : decode cX12_isDigit 18 = .ok (.iconst 1, 1) := by decide +kernel
theorem dX12_isDigit_19 : decode cX12_isDigit 19 = .ok (.goto 4, 3) := by decide +kernel
theorem dX12_isDigit_22 : decode cX12_isDigit 22 = .ok (.iconst 0, 1) := by decide +kernel
theorem dX12_isDigit_23 : decode cX12_isDigit 23 = .ok (.ireturn, 1) := by decide +kernel
set_option maxRecDepth 20000 in
set_option maxHeartbeats 4000000 in
theorem m_isDigit (E : xE) (l : Launch) (a : Nat → Nat) (cd : Cd) (hG : Good cd) (kf : Int32) (jn js jq : Lb) (ws : va_W) (hW : WX (okM E a cd kf jn js jq) ws) (tp pl le cm wt sm lm : Nat) (nu : Int32) (h0 : MO a cd kf ws tp pl le cm wt sm lm nu) (tf : Nat → Int32) (htf : ws[4]? = some (bA E (a 4) 260 tf)) : xI E l yX12_isDigit cX12_isDigit 1 (some .boolean) 1 [.ref (a 0)] ws (fun r w => w = ws ∧ zb r ∧ (¬ r = 0 → ∃ d : Nat, d ≤ 9 ∧ hv tf pl le = nI (48 + d) ∧ pl < le)) := by
  refine xI_start (lv := [(0, .ref (a 0))]) RX12 (by decide) rfl (Nat.le_of_ble_eq_true rfl) rfl (fun p e s m below meth c A C hr hlk => ?_)
  obtain ⟨v1, v2, v3, v4, v5, v6, n7, n8, bo9, bo10, k11⟩ := h0
  refine x_aload_n C dX12_isDigit_0 rfl 0 rfl rfl ?_
  refine x_vi C (As := []) (rest := []) (m_here E l a cd hG kf jn js jq ws hW tp pl le cm wt sm lm nu ⟨v1, v2, v3, v4, v5, v6, n7, n8, ⟨by omega, by omega, by omega, by omega, by omega, by omega, by omega⟩, ⟨by omega, by omega⟩, k11⟩ tf htf) mf_X12_here w_1317 0 k11 rfl rfl rfl (Nat.le_of_ble_eq_true rfl) ⟨(Nat.le_of_ble_eq_true rfl), (Nat.le_of_ble_eq_true rfl)⟩ ⟨(Nat.le_of_ble_eq_true rfl), (Nat.le_of_ble_eq_true rfl)⟩ dX12_isDigit_1 rfl (fun r13 w14 h12 => ?_)
  obtain ⟨hW15, x16⟩ := h12
  refine x_ws hW15 ?_
  refine x_bipush C (v := 48) dX12_isDigit_4 (by decide) rfl ?_
  refine x_icmp_lt C (tgt := 22) dX12_isDigit_6 (by decide) rfl (fun c17 => ?_) (fun c17 => ?_)
  · skip
    refine x_iconst C (v := 0) dX12_isDigit_22 (by decide) rfl ?_
    exact x_zret C hr hlk rfl dX12_isDigit_23 ⟨rfl, (Or.inl rfl), (fun q => absurd rfl q)⟩
  · skip
    refine x_aload_n C dX12_isDigit_9 rfl 0 rfl rfl ?_
    refine x_vi C (As := []) (rest := []) (m_here E l a cd hG kf jn js jq ws hW tp pl le cm wt sm lm nu ⟨v1, v2, v3, v4, v5, v6, n7, n8, ⟨by omega, by omega, by omega, by omega, by omega, by omega, by omega⟩, ⟨by omega, by omega⟩, k11⟩ tf htf) mf_X12_here w_1317 0 k11 rfl rfl rfl (Nat.le_of_ble_eq_true rfl) ⟨(Nat.le_of_ble_eq_true rfl), (Nat.le_of_ble_eq_true rfl)⟩ ⟨(Nat.le_of_ble_eq_true rfl), (Nat.le_of_ble_eq_true rfl)⟩ dX12_isDigit_10 rfl (fun r19 w20 h18 => ?_)
    obtain ⟨hW21, x22⟩ := h18
    refine x_ws hW21 ?_
    refine x_bipush C (v := 57) dX12_isDigit_13 (by decide) rfl ?_
    refine x_icmp_gt C (tgt := 22) dX12_isDigit_15 (by decide) rfl (fun c23 => ?_) (fun c23 => ?_)
    · skip
      refine x_iconst C (v := 0) dX12_isDigit_22 (by decide) rfl ?_
      exact x_zret C hr hlk rfl dX12_isDigit_23 ⟨rfl, (Or.inl rfl), (fun q => absurd rfl q)⟩
    · skip
      refine x_iconst C (v := 1) dX12_isDigit_18 (by decide) rfl ?_
      refine x_goto C (tgt := 23) dX12_isDigit_19 (by decide) ?_
      exact x_zret C hr hlk rfl dX12_isDigit_23 ⟨rfl, (Or.inr rfl), (fun _ => hv_dig (fun q => c17 (by rw [x16]; exact q)) (fun q => c23 (by rw [x22]; exact q)))⟩
theorem dX12_wrongAt_0 : decode cX12_wrongAt 0 = .ok (.aload_n 0, 1) := by decide +kernel
theorem dX12_wrongAt_1 : decode cX12_wrongAt 1 = .ok (.sipush (-1000), 3) := by decide +kernel
theorem dX12_wrongAt_4 : decode cX12_wrongAt 4 = .ok (.iload_n 1, 1) := by decide +kernel
theorem dX12_wrongAt_5 : decode cX12_wrongAt 5 = .ok (.imul, 1) := by decide +kernel
theorem dX12_wrongAt_6 : decode cX12_wrongAt 6 = .ok (.iload_n 2, 1) := by decide +kernel
theorem dX12_wrongAt_7 : decode cX12_wrongAt 7 = .ok (.isub, 1) := by decide +kernel
theorem dX12_wrongAt_8 : decode cX12_wrongAt 8 = .ok (.putfield 141, 3) := by decide +kernel
theorem dX12_wrongAt_11 : decode cX12_wrongAt 11 = .ok (.iconst 0, 1) := by decide +kernel
theorem dX12_wrongAt_12 : decode cX12_wrongAt 12 = .ok (.ireturn, 1) := by decide +kernel
set_option maxRecDepth 20000 in
set_option maxHeartbeats 4000000 in
theorem m_wrongAt (E : xE) (l : Launch) (a : Nat → Nat) (cd : Cd) (hG : Good cd) (kf : Int32) (jn js jq : Lb) (ws : va_W) (hW : WX (okM E a cd kf jn js jq) ws) (p0 : Int32) (p1 : Int32) (tp pl le cm wt sm lm : Nat) (nu : Int32) (h0 : MO a cd kf ws tp pl le cm wt sm lm nu) : xI E l yX12_wrongAt cX12_wrongAt 3 (some .boolean) 0 [.ref (a 0), .int p0, .int p1] ws (fun r w => WX (okM E a cd kf jn js jq) w ∧ keeps ws w (fun q => q = 0) ∧ r = 0 ∧ (MO a cd kf w tp pl le cm wt sm lm nu)) := by
  refine xI_start (lv := [(0, .ref (a 0)), (1, .int p0), (2, .int p1)]) RX12 (by decide) rfl (Nat.le_of_ble_eq_true rfl) rfl (fun p e s m below meth c A C hr hlk => ?_)
  have kp0 : keeps ws ws (fun q => q = 0) := keeps_rf
  obtain ⟨v1, v2, v3, v4, v5, v6, n7, n8, bo9, bo10, k11⟩ := h0
  refine x_aload_n C dX12_wrongAt_0 rfl 0 rfl rfl ?_
  refine x_sipush C (v := (-1000)) dX12_wrongAt_1 (by decide) rfl ?_
  refine x_iload_n C dX12_wrongAt_4 rfl 1 rfl rfl ?_
  refine x_imul C (v := (((-1000) : Int32) * p0)) dX12_wrongAt_5 rfl rfl ?_
  refine x_any (fun v12 => ?_)
  refine x_iload_n C dX12_wrongAt_6 rfl 2 rfl rfl ?_
  refine x_isub C (v := (v12 - p1)) dX12_wrongAt_7 rfl rfl ?_
  refine x_any (fun v13 => ?_)
  obtain ⟨w14, hw15⟩ : ∃ w : va_W, w = List.set ws 0 (ob (a 0) 11 [.ref (a 1), .ref (a 2), .ref (a 3), .ref (a 4), .int (nI tp), .int (nI pl), .int (nI le), .int v13, .int nu, .int v2, .int (nI cm), .int (nI wt), .int (nI sm), .int (nI (cd.2.2.2.2.2)), .ref (a 5), .ref (a 6), .ref (a 7), .ref (a 8), .ref (a 9), .ref (a 10), .ref (a 11), .ref (a 12), .ref (a 13), .ref (a 14), .ref (a 15), .ref (a 16), .ref (a 17), .int (nI lm), .ref (a 18), .ref (a 19), .ref (a 20), .ref (a 21), .int v3, .int v4, .int v5, .int v6, .int (nI n7), .int (nI n8), .ref (a 22), .ref (a 23), .ref (a 24), .ref (a 25), .ref (a 26), .ref (a 27), .ref (a 28), .ref (a 29), .ref (a 30), .int kf]) := ⟨_, rfl⟩
  refine x_put C (ci := 11) (k := 7) (ty := .int) 0 k11 rfl in_X12 tyX12 tyX12_ok nmX12 (by decide) w_1125 rfl rfl rfl rfl (Nat.le_of_ble_eq_true rfl) hw15.symm dX12_wrongAt_8 rfl ?_
  have hW16 : WX (okM E a cd kf jn js jq) w14 := by rw [hw15]; exact hW.set (k := 0) rfl ⟨tp, pl, le, v13, nu, v2, cm, wt, sm, lm, v3, v4, v5, v6, n7, n8, by omega, by omega, by omega, by omega, by omega, by omega, by omega, by omega, by omega, rfl⟩
  have k17 : w14[0]? = some (ob (a 0) 11 [.ref (a 1), .ref (a 2), .ref (a 3), .ref (a 4), .int (nI tp), .int (nI pl), .int (nI le), .int v13, .int nu, .int v2, .int (nI cm), .int (nI wt), .int (nI sm), .int (nI (cd.2.2.2.2.2)), .ref (a 5), .ref (a 6), .ref (a 7), .ref (a 8), .ref (a 9), .ref (a 10), .ref (a 11), .ref (a 12), .ref (a 13), .ref (a 14), .ref (a 15), .ref (a 16), .ref (a 17), .int (nI lm), .ref (a 18), .ref (a 19), .ref (a 20), .ref (a 21), .int v3, .int v4, .int v5, .int v6, .int (nI n7), .int (nI n8), .ref (a 22), .ref (a 23), .ref (a 24), .ref (a 25), .ref (a 26), .ref (a 27), .ref (a 28), .ref (a 29), .ref (a 30), .int kf]) := by rw [hw15]; exact set_eq k11
  have kp18 := keeps_set kp0 hw15 (by first | exact rfl | decide | omega | (dsimp only; omega))
  refine x_iconst C (v := 0) dX12_wrongAt_11 (by decide) rfl ?_
  exact x_zret C hr hlk rfl dX12_wrongAt_12 ⟨hW16, kp18, rfl, ⟨v13, v2, v3, v4, v5, v6, n7, n8, ⟨by omega, by omega, by omega, by omega, by omega, by omega, by omega⟩, ⟨by omega, by omega⟩, k17⟩⟩
theorem dX12_takes_0 : decode cX12_takes 0 = .ok (.aload_n 0, 1) := by decide +kernel
theorem dX12_takes_1 : decode cX12_takes 1 = .ok (.invokevirtual 137, 3) := by decide +kernel
theorem dX12_takes_4 : decode cX12_takes 4 = .ok (.iload_n 1, 1) := by decide +kernel
theorem dX12_takes_5 : decode cX12_takes 5 = .ok (.if_icmp .eq 13, 3) := by decide +kernel
theorem dX12_takes_8 : decode cX12_takes 8 = .ok (.aload_n 0, 1) := by decide +kernel
theorem dX12_takes_9 : decode cX12_takes 9 = .ok (.iconst 1, 1) := by decide +kernel
theorem dX12_takes_10 : decode cX12_takes 10 = .ok (.aload_n 0, 1) := by decide +kernel
theorem dX12_takes_11 : decode cX12_takes 11 = .ok (.getfield 131, 3) := by decide +kernel
theorem dX12_takes_14 : decode cX12_takes 14 = .ok (.invokevirtual 144, 3) := by decide +kernel
theorem dX12_takes_17 : decode cX12_takes 17 = .ok (.ireturn, 1) := by decide +kernel
theorem dX12_takes_18 : decode cX12_takes 18 = .ok (.aload_n 0, 1) := by decide +kernel
theorem dX12_takes_19 : decode cX12_takes 19 = .ok (.aload_n 0, 1) := by decide +kernel
theorem dX12_takes_20 : decode cX12_takes 20 = .ok (.getfield 131, 3) := by decide +kernel
theorem dX12_takes_23 : decode cX12_takes 23 = .ok (.iconst 1, 1) := by decide +kernel
theorem dX12_takes_24 : decode cX12_takes 24 = .ok (.iadd, 1) := by decide +kernel
theorem dX12_takes_25 : decode cX12_takes 25 = .ok (.putfield 131, 3) := by decide +kernel
theorem dX12_takes_28 : decode cX12_takes 28 = .ok (.iconst 1, 1) := by decide +kernel
theorem dX12_takes_29 : decode cX12_takes 29 = .ok (.ireturn, 1) := by decide +kernel
set_option maxRecDepth 20000 in
set_option maxHeartbeats 4000000 in
theorem m_takes44 (E : xE) (l : Launch) (a : Nat → Nat) (cd : Cd) (hG : Good cd) (kf : Int32) (jn js jq : Lb) (ws : va_W) (hW : WX (okM E a cd kf jn js jq) ws) (tp pl le cm wt sm lm : Nat) (nu : Int32) (h0 : MO a cd kf ws tp pl le cm wt sm lm nu) (tf : Nat → Int32) (htf : ws[4]? = some (bA E (a 4) 260 tf)) : xI E l yX12_takes cX12_takes 2 (some .boolean) 1 [.ref (a 0), .int 44] ws (fun r w => WX (okM E a cd kf jn js jq) w ∧ keeps ws w (fun q => q = 0) ∧ zb r ∧ ((r = 0 ∧ MO a cd kf w tp pl le cm wt sm lm nu) ∨ (r = 1 ∧ pl < le ∧ MO a cd kf w tp (pl + 1) le cm wt sm lm nu))) := by
  refine xI_start (lv := [(0, .ref (a 0)), (1, .int 44)]) RX12 (by decide) rfl (Nat.le_of_ble_eq_true rfl) rfl (fun p e s m below meth c A C hr hlk => ?_)
  have kp0 : keeps ws ws (fun q => q = 0) := keeps_rf
  obtain ⟨v1, v2, v3, v4, v5, v6, n7, n8, bo9, bo10, k11⟩ := h0
  refine x_aload_n C dX12_takes_0 rfl 0 rfl rfl ?_
  refine x_vi C (As := []) (rest := []) (m_here E l a cd hG kf jn js jq ws hW tp pl le cm wt sm lm nu ⟨v1, v2, v3, v4, v5, v6, n7, n8, ⟨by omega, by omega, by omega, by omega, by omega, by omega, by omega⟩, ⟨by omega, by omega⟩, k11⟩ tf htf) mf_X12_here w_1317 0 k11 rfl rfl rfl (Nat.le_of_ble_eq_true rfl) ⟨(Nat.le_of_ble_eq_true rfl), (Nat.le_of_ble_eq_true rfl)⟩ ⟨(Nat.le_of_ble_eq_true rfl), (Nat.le_of_ble_eq_true rfl)⟩ dX12_takes_1 rfl (fun r13 w14 h12 => ?_)
  obtain ⟨hW15, x16⟩ := h12
  refine x_ws hW15 ?_
  refine x_iload_n C dX12_takes_4 rfl 1 rfl rfl ?_
  refine x_icmp_eq C (tgt := 18) dX12_takes_5 (by decide) rfl (fun c17 => ?_) (fun c17 => ?_)
  · skip
    have hp18 := hv_lt (x16.symm.trans c17) (by decide)
    refine x_aload_n C dX12_takes_18 rfl 0 rfl rfl ?_
    refine x_aload_n C dX12_takes_19 rfl 0 rfl rfl ?_
    refine x_get C (ci := 11) (k := 5) 0 k11 rfl in_X12 (by decide) w_1123 rfl dX12_takes_20 rfl ?_
    refine x_iconst C (v := 1) dX12_takes_23 (by decide) rfl ?_
    refine x_iadd C (v := (nI (pl + 1))) dX12_takes_24 (nI_add pl 1) rfl ?_
    obtain ⟨w19, hw20⟩ : ∃ w : va_W, w = List.set ws 0 (ob (a 0) 11 [.ref (a 1), .ref (a 2), .ref (a 3), .ref (a 4), .int (nI tp), .int (nI (pl + 1)), .int (nI le), .int v1, .int nu, .int v2, .int (nI cm), .int (nI wt), .int (nI sm), .int (nI (cd.2.2.2.2.2)), .ref (a 5), .ref (a 6), .ref (a 7), .ref (a 8), .ref (a 9), .ref (a 10), .ref (a 11), .ref (a 12), .ref (a 13), .ref (a 14), .ref (a 15), .ref (a 16), .ref (a 17), .int (nI lm), .ref (a 18), .ref (a 19), .ref (a 20), .ref (a 21), .int v3, .int v4, .int v5, .int v6, .int (nI n7), .int (nI n8), .ref (a 22), .ref (a 23), .ref (a 24), .ref (a 25), .ref (a 26), .ref (a 27), .ref (a 28), .ref (a 29), .ref (a 30), .int kf]) := ⟨_, rfl⟩
    refine x_put C (ci := 11) (k := 5) (ty := .int) 0 k11 rfl in_X12 tyX12 tyX12_ok nmX12 (by decide) w_1123 rfl rfl rfl rfl (Nat.le_of_ble_eq_true rfl) hw20.symm dX12_takes_25 rfl ?_
    have hW21 : WX (okM E a cd kf jn js jq) w19 := by rw [hw20]; exact hW.set (k := 0) rfl ⟨tp, (pl + 1), le, v1, nu, v2, cm, wt, sm, lm, v3, v4, v5, v6, n7, n8, by omega, by omega, by omega, by omega, by omega, by omega, by omega, by omega, by omega, rfl⟩
    have k22 : w19[0]? = some (ob (a 0) 11 [.ref (a 1), .ref (a 2), .ref (a 3), .ref (a 4), .int (nI tp), .int (nI (pl + 1)), .int (nI le), .int v1, .int nu, .int v2, .int (nI cm), .int (nI wt), .int (nI sm), .int (nI (cd.2.2.2.2.2)), .ref (a 5), .ref (a 6), .ref (a 7), .ref (a 8), .ref (a 9), .ref (a 10), .ref (a 11), .ref (a 12), .ref (a 13), .ref (a 14), .ref (a 15), .ref (a 16), .ref (a 17), .int (nI lm), .ref (a 18), .ref (a 19), .ref (a 20), .ref (a 21), .int v3, .int v4, .int v5, .int v6, .int (nI n7), .int (nI n8), .ref (a 22), .ref (a 23), .ref (a 24), .ref (a 25), .ref (a 26), .ref (a 27), .ref (a 28), .ref (a 29), .ref (a 30), .int kf]) := by rw [hw20]; exact set_eq k11
    have k23 : w19[4]? = some (bA E (a 4) 260 tf) := by rw [hw20]; exact set_ne htf (by decide)
    have kp24 := keeps_set kp0 hw20 (by first | exact rfl | decide | omega | (dsimp only; omega))
    refine x_iconst C (v := 1) dX12_takes_28 (by decide) rfl ?_
    exact x_zret C hr hlk rfl dX12_takes_29 ⟨hW21, kp24, (Or.inr rfl), (Or.inr ⟨rfl, by omega, ⟨v1, v2, v3, v4, v5, v6, n7, n8, ⟨by omega, by omega, by omega, by omega, by omega, by omega, by omega⟩, ⟨by omega, by omega⟩, k22⟩⟩)⟩
  · skip
    refine x_aload_n C dX12_takes_8 rfl 0 rfl rfl ?_
    refine x_iconst C (v := 1) dX12_takes_9 (by decide) rfl ?_
    refine x_aload_n C dX12_takes_10 rfl 0 rfl rfl ?_
    refine x_get C (ci := 11) (k := 5) 0 k11 rfl in_X12 (by decide) w_1123 rfl dX12_takes_11 rfl ?_
    refine x_vi C (As := [.int 1, .int (nI pl)]) (rest := []) (m_wrongAt E l a cd hG kf jn js jq ws hW (1 : Int32) ((nI pl)) tp pl le cm wt sm lm nu ⟨v1, v2, v3, v4, v5, v6, n7, n8, ⟨by omega, by omega, by omega, by omega, by omega, by omega, by omega⟩, ⟨by omega, by omega⟩, k11⟩) mf_X12_wrongAt w_1324 0 k11 rfl rfl rfl (Nat.le_of_ble_eq_true rfl) ⟨(Nat.le_of_ble_eq_true rfl), (Nat.le_of_ble_eq_true rfl)⟩ ⟨(Nat.le_of_ble_eq_true rfl), (Nat.le_of_ble_eq_true rfl)⟩ dX12_takes_14 rfl (fun r26 w27 h25 => ?_)
    obtain ⟨hW28, kq29, e30, x31⟩ := h25
    refine x_top e30 ?_
    have k32 : w27[4]? = some (bA E (a 4) 260 tf) := keeps_at kq29 htf (by first | decide | omega | (dsimp only; omega))
    have kp33 := keeps_tr kp0 kq29 (fun q hq => by first | omega | (dsimp only at *; omega))
    obtain ⟨v34, v35, v36, v37, v38, v39, n40, n41, bo42, bo43, k44⟩ := x31
    exact x_zret C hr hlk rfl dX12_takes_17 ⟨hW28, kp33, (Or.inl rfl), (Or.inl ⟨rfl, ⟨v34, v35, v36, v37, v38, v39, n40, n41, ⟨by omega, by omega, by omega, by omega, by omega, by omega, by omega⟩, ⟨by omega, by omega⟩, k44⟩⟩)⟩
set_option maxRecDepth 20000 in
set_option maxHeartbeats 4000000 in
theorem m_takes41 (E : xE) (l : Launch) (a : Nat → Nat) (cd : Cd) (hG : Good cd) (kf : Int32) (jn js jq : Lb) (ws : va_W) (hW : WX (okM E a cd kf jn js jq) ws) (tp pl le cm wt sm lm : Nat) (nu : Int32) (h0 : MO a cd kf ws tp pl le cm wt sm lm nu) (tf : Nat → Int32) (htf : ws[4]? = some (bA E (a 4) 260 tf)) : xI E l yX12_takes cX12_takes 2 (some .boolean) 1 [.ref (a 0), .int 41] ws (fun r w => WX (okM E a cd kf jn js jq) w ∧ keeps ws w (fun q => q = 0) ∧ zb r ∧ ((r = 0 ∧ MO a cd kf w tp pl le cm wt sm lm nu) ∨ (r = 1 ∧ pl < le ∧ MO a cd kf w tp (pl + 1) le cm wt sm lm nu))) := by
  refine xI_start (lv := [(0, .ref (a 0)), (1, .int 41)]) RX12 (by decide) rfl (Nat.le_of_ble_eq_true rfl) rfl (fun p e s m below meth c A C hr hlk => ?_)
  have kp0 : keeps ws ws (fun q => q = 0) := keeps_rf
  obtain ⟨v1, v2, v3, v4, v5, v6, n7, n8, bo9, bo10, k11⟩ := h0
  refine x_aload_n C dX12_takes_0 rfl 0 rfl rfl ?_
  refine x_vi C (As := []) (rest := []) (m_here E l a cd hG kf jn js jq ws hW tp pl le cm wt sm lm nu ⟨v1, v2, v3, v4, v5, v6, n7, n8, ⟨by omega, by omega, by omega, by omega, by omega, by omega, by omega⟩, ⟨by omega, by omega⟩, k11⟩ tf htf) mf_X12_here w_1317 0 k11 rfl rfl rfl (Nat.le_of_ble_eq_true rfl) ⟨(Nat.le_of_ble_eq_true rfl), (Nat.le_of_ble_eq_true rfl)⟩ ⟨(Nat.le_of_ble_eq_true rfl), (Nat.le_of_ble_eq_true rfl)⟩ dX12_takes_1 rfl (fun r13 w14 h12 => ?_)
  obtain ⟨hW15, x16⟩ := h12
  refine x_ws hW15 ?_
  refine x_iload_n C dX12_takes_4 rfl 1 rfl rfl ?_
  refine x_icmp_eq C (tgt := 18) dX12_takes_5 (by decide) rfl (fun c17 => ?_) (fun c17 => ?_)
  · skip
    have hp18 := hv_lt (x16.symm.trans c17) (by decide)
    refine x_aload_n C dX12_takes_18 rfl 0 rfl rfl ?_
    refine x_aload_n C dX12_takes_19 rfl 0 rfl rfl ?_
    refine x_get C (ci := 11) (k := 5) 0 k11 rfl in_X12 (by decide) w_1123 rfl dX12_takes_20 rfl ?_
    refine x_iconst C (v := 1) dX12_takes_23 (by decide) rfl ?_
    refine x_iadd C (v := (nI (pl + 1))) dX12_takes_24 (nI_add pl 1) rfl ?_
    obtain ⟨w19, hw20⟩ : ∃ w : va_W, w = List.set ws 0 (ob (a 0) 11 [.ref (a 1), .ref (a 2), .ref (a 3), .ref (a 4), .int (nI tp), .int (nI (pl + 1)), .int (nI le), .int v1, .int nu, .int v2, .int (nI cm), .int (nI wt), .int (nI sm), .int (nI (cd.2.2.2.2.2)), .ref (a 5), .ref (a 6), .ref (a 7), .ref (a 8), .ref (a 9), .ref (a 10), .ref (a 11), .ref (a 12), .ref (a 13), .ref (a 14), .ref (a 15), .ref (a 16), .ref (a 17), .int (nI lm), .ref (a 18), .ref (a 19), .ref (a 20), .ref (a 21), .int v3, .int v4, .int v5, .int v6, .int (nI n7), .int (nI n8), .ref (a 22), .ref (a 23), .ref (a 24), .ref (a 25), .ref (a 26), .ref (a 27), .ref (a 28), .ref (a 29), .ref (a 30), .int kf]) := ⟨_, rfl⟩
    refine x_put C (ci := 11) (k := 5) (ty := .int) 0 k11 rfl in_X12 tyX12 tyX12_ok nmX12 (by decide) w_1123 rfl rfl rfl rfl (Nat.le_of_ble_eq_true rfl) hw20.symm dX12_takes_25 rfl ?_
    have hW21 : WX (okM E a cd kf jn js jq) w19 := by rw [hw20]; exact hW.set (k := 0) rfl ⟨tp, (pl + 1), le, v1, nu, v2, cm, wt, sm, lm, v3, v4, v5, v6, n7, n8, by omega, by omega, by omega, by omega, by omega, by omega, by omega, by omega, by omega, rfl⟩
    have k22 : w19[0]? = some (ob (a 0) 11 [.ref (a 1), .ref (a 2), .ref (a 3), .ref (a 4), .int (nI tp), .int (nI (pl + 1)), .int (nI le), .int v1, .int nu, .int v2, .int (nI cm), .int (nI wt), .int (nI sm), .int (nI (cd.2.2.2.2.2)), .ref (a 5), .ref (a 6), .ref (a 7), .ref (a 8), .ref (a 9), .ref (a 10), .ref (a 11), .ref (a 12), .ref (a 13), .ref (a 14), .ref (a 15), .ref (a 16), .ref (a 17), .int (nI lm), .ref (a 18), .ref (a 19), .ref (a 20), .ref (a 21), .int v3, .int v4, .int v5, .int v6, .int (nI n7), .int (nI n8), .ref (a 22), .ref (a 23), .ref (a 24), .ref (a 25), .ref (a 26), .ref (a 27), .ref (a 28), .ref (a 29), .ref (a 30), .int kf]) := by rw [hw20]; exact set_eq k11
    have k23 : w19[4]? = some (bA E (a 4) 260 tf) := by rw [hw20]; exact set_ne htf (by decide)
    have kp24 := keeps_set kp0 hw20 (by first | exact rfl | decide | omega | (dsimp only; omega))
    refine x_iconst C (v := 1) dX12_takes_28 (by decide) rfl ?_
    exact x_zret C hr hlk rfl dX12_takes_29 ⟨hW21, kp24, (Or.inr rfl), (Or.inr ⟨rfl, by omega, ⟨v1, v2, v3, v4, v5, v6, n7, n8, ⟨by omega, by omega, by omega, by omega, by omega, by omega, by omega⟩, ⟨by omega, by omega⟩, k22⟩⟩)⟩
  · skip
    refine x_aload_n C dX12_takes_8 rfl 0 rfl rfl ?_
    refine x_iconst C (v := 1) dX12_takes_9 (by decide) rfl ?_
    refine x_aload_n C dX12_takes_10 rfl 0 rfl rfl ?_
    refine x_get C (ci := 11) (k := 5) 0 k11 rfl in_X12 (by decide) w_1123 rfl dX12_takes_11 rfl ?_
    refine x_vi C (As := [.int 1, .int (nI pl)]) (rest := []) (m_wrongAt E l a cd hG kf jn js jq ws hW (1 : Int32) ((nI pl)) tp pl le cm wt sm lm nu ⟨v1, v2, v3, v4, v5, v6, n7, n8, ⟨by omega, by omega, by omega, by omega, by omega, by omega, by omega⟩, ⟨by omega, by omega⟩, k11⟩) mf_X12_wrongAt w_1324 0 k11 rfl rfl rfl (Nat.le_of_ble_eq_true rfl) ⟨(Nat.le_of_ble_eq_true rfl), (Nat.le_of_ble_eq_true rfl)⟩ ⟨(Nat.le_of_ble_eq_true rfl), (Nat.le_of_ble_eq_true rfl)⟩ dX12_takes_14 rfl (fun r26 w27 h25 => ?_)
    obtain ⟨hW28, kq29, e30, x31⟩ := h25
    refine x_top e30 ?_
    have k32 : w27[4]? = some (bA E (a 4) 260 tf) := keeps_at kq29 htf (by first | decide | omega | (dsimp only; omega))
    have kp33 := keeps_tr kp0 kq29 (fun q hq => by first | omega | (dsimp only at *; omega))
    obtain ⟨v34, v35, v36, v37, v38, v39, n40, n41, bo42, bo43, k44⟩ := x31
    exact x_zret C hr hlk rfl dX12_takes_17 ⟨hW28, kp33, (Or.inl rfl), (Or.inl ⟨rfl, ⟨v34, v35, v36, v37, v38, v39, n40, n41, ⟨by omega, by omega, by omega, by omega, by omega, by omega, by omega⟩, ⟨by omega, by omega⟩, k44⟩⟩)⟩
set_option maxRecDepth 20000 in
set_option maxHeartbeats 4000000 in
theorem m_takes59 (E : xE) (l : Launch) (a : Nat → Nat) (cd : Cd) (hG : Good cd) (kf : Int32) (jn js jq : Lb) (ws : va_W) (hW : WX (okM E a cd kf jn js jq) ws) (tp pl le cm wt sm lm : Nat) (nu : Int32) (h0 : MO a cd kf ws tp pl le cm wt sm lm nu) (tf : Nat → Int32) (htf : ws[4]? = some (bA E (a 4) 260 tf)) : xI E l yX12_takes cX12_takes 2 (some .boolean) 1 [.ref (a 0), .int 59] ws (fun r w => WX (okM E a cd kf jn js jq) w ∧ keeps ws w (fun q => q = 0) ∧ zb r ∧ ((r = 0 ∧ MO a cd kf w tp pl le cm wt sm lm nu) ∨ (r = 1 ∧ pl < le ∧ MO a cd kf w tp (pl + 1) le cm wt sm lm nu))) := by
  refine xI_start (lv := [(0, .ref (a 0)), (1, .int 59)]) RX12 (by decide) rfl (Nat.le_of_ble_eq_true rfl) rfl (fun p e s m below meth c A C hr hlk => ?_)
  have kp0 : keeps ws ws (fun q => q = 0) := keeps_rf
  obtain ⟨v1, v2, v3, v4, v5, v6, n7, n8, bo9, bo10, k11⟩ := h0
  refine x_aload_n C dX12_takes_0 rfl 0 rfl rfl ?_
  refine x_vi C (As := []) (rest := []) (m_here E l a cd hG kf jn js jq ws hW tp pl le cm wt sm lm nu ⟨v1, v2, v3, v4, v5, v6, n7, n8, ⟨by omega, by omega, by omega, by omega, by omega, by omega, by omega⟩, ⟨by omega, by omega⟩, k11⟩ tf htf) mf_X12_here w_1317 0 k11 rfl rfl rfl (Nat.le_of_ble_eq_true rfl) ⟨(Nat.le_of_ble_eq_true rfl), (Nat.le_of_ble_eq_true rfl)⟩ ⟨(Nat.le_of_ble_eq_true rfl), (Nat.le_of_ble_eq_true rfl)⟩ dX12_takes_1 rfl (fun r13 w14 h12 => ?_)
  obtain ⟨hW15, x16⟩ := h12
  refine x_ws hW15 ?_
  refine x_iload_n C dX12_takes_4 rfl 1 rfl rfl ?_
  refine x_icmp_eq C (tgt := 18) dX12_takes_5 (by decide) rfl (fun c17 => ?_) (fun c17 => ?_)
  · skip
    have hp18 := hv_lt (x16.symm.trans c17) (by decide)
    refine x_aload_n C dX12_takes_18 rfl 0 rfl rfl ?_
    refine x_aload_n C dX12_takes_19 rfl 0 rfl rfl ?_
    refine x_get C (ci := 11) (k := 5) 0 k11 rfl in_X12 (by decide) w_1123 rfl dX12_takes_20 rfl ?_
    refine x_iconst C (v := 1) dX12_takes_23 (by decide) rfl ?_
    refine x_iadd C (v := (nI (pl + 1))) dX12_takes_24 (nI_add pl 1) rfl ?_
    obtain ⟨w19, hw20⟩ : ∃ w : va_W, w = List.set ws 0 (ob (a 0) 11 [.ref (a 1), .ref (a 2), .ref (a 3), .ref (a 4), .int (nI tp), .int (nI (pl + 1)), .int (nI le), .int v1, .int nu, .int v2, .int (nI cm), .int (nI wt), .int (nI sm), .int (nI (cd.2.2.2.2.2)), .ref (a 5), .ref (a 6), .ref (a 7), .ref (a 8), .ref (a 9), .ref (a 10), .ref (a 11), .ref (a 12), .ref (a 13), .ref (a 14), .ref (a 15), .ref (a 16), .ref (a 17), .int (nI lm), .ref (a 18), .ref (a 19), .ref (a 20), .ref (a 21), .int v3, .int v4, .int v5, .int v6, .int (nI n7), .int (nI n8), .ref (a 22), .ref (a 23), .ref (a 24), .ref (a 25), .ref (a 26), .ref (a 27), .ref (a 28), .ref (a 29), .ref (a 30), .int kf]) := ⟨_, rfl⟩
    refine x_put C (ci := 11) (k := 5) (ty := .int) 0 k11 rfl in_X12 tyX12 tyX12_ok nmX12 (by decide) w_1123 rfl rfl rfl rfl (Nat.le_of_ble_eq_true rfl) hw20.symm dX12_takes_25 rfl ?_
    have hW21 : WX (okM E a cd kf jn js jq) w19 := by rw [hw20]; exact hW.set (k := 0) rfl ⟨tp, (pl + 1), le, v1, nu, v2, cm, wt, sm, lm, v3, v4, v5, v6, n7, n8, by omega, by omega, by omega, by omega, by omega, by omega, by omega, by omega, by omega, rfl⟩
    have k22 : w19[0]? = some (ob (a 0) 11 [.ref (a 1), .ref (a 2), .ref (a 3), .ref (a 4), .int (nI tp), .int (nI (pl + 1)), .int (nI le), .int v1, .int nu, .int v2, .int (nI cm), .int (nI wt), .int (nI sm), .int (nI (cd.2.2.2.2.2)), .ref (a 5), .ref (a 6), .ref (a 7), .ref (a 8), .ref (a 9), .ref (a 10), .ref (a 11), .ref (a 12), .ref (a 13), .ref (a 14), .ref (a 15), .ref (a 16), .ref (a 17), .int (nI lm), .ref (a 18), .ref (a 19), .ref (a 20), .ref (a 21), .int v3, .int v4, .int v5, .int v6, .int (nI n7), .int (nI n8), .ref (a 22), .ref (a 23), .ref (a 24), .ref (a 25), .ref (a 26), .ref (a 27), .ref (a 28), .ref (a 29), .ref (a 30), .int kf]) := by rw [hw20]; exact set_eq k11
    have k23 : w19[4]? = some (bA E (a 4) 260 tf) := by rw [hw20]; exact set_ne htf (by decide)
    have kp24 := keeps_set kp0 hw20 (by first | exact rfl | decide | omega | (dsimp only; omega))
    refine x_iconst C (v := 1) dX12_takes_28 (by decide) rfl ?_
    exact x_zret C hr hlk rfl dX12_takes_29 ⟨hW21, kp24, (Or.inr rfl), (Or.inr ⟨rfl, by omega, ⟨v1, v2, v3, v4, v5, v6, n7, n8, ⟨by omega, by omega, by omega, by omega, by omega, by omega, by omega⟩, ⟨by omega, by omega⟩, k22⟩⟩)⟩
  · skip
    refine x_aload_n C dX12_takes_8 rfl 0 rfl rfl ?_
    refine x_iconst C (v := 1) dX12_takes_9 (by decide) rfl ?_
    refine x_aload_n C dX12_takes_10 rfl 0 rfl rfl ?_
    refine x_get C (ci := 11) (k := 5) 0 k11 rfl in_X12 (by decide) w_1123 rfl dX12_takes_11 rfl ?_
    refine x_vi C (As := [.int 1, .int (nI pl)]) (rest := []) (m_wrongAt E l a cd hG kf jn js jq ws hW (1 : Int32) ((nI pl)) tp pl le cm wt sm lm nu ⟨v1, v2, v3, v4, v5, v6, n7, n8, ⟨by omega, by omega, by omega, by omega, by omega, by omega, by omega⟩, ⟨by omega, by omega⟩, k11⟩) mf_X12_wrongAt w_1324 0 k11 rfl rfl rfl (Nat.le_of_ble_eq_true rfl) ⟨(Nat.le_of_ble_eq_true rfl), (Nat.le_of_ble_eq_true rfl)⟩ ⟨(Nat.le_of_ble_eq_true rfl), (Nat.le_of_ble_eq_true rfl)⟩ dX12_takes_14 rfl (fun r26 w27 h25 => ?_)
    obtain ⟨hW28, kq29, e30, x31⟩ := h25
    refine x_top e30 ?_
    have k32 : w27[4]? = some (bA E (a 4) 260 tf) := keeps_at kq29 htf (by first | decide | omega | (dsimp only; omega))
    have kp33 := keeps_tr kp0 kq29 (fun q hq => by first | omega | (dsimp only at *; omega))
    obtain ⟨v34, v35, v36, v37, v38, v39, n40, n41, bo42, bo43, k44⟩ := x31
    exact x_zret C hr hlk rfl dX12_takes_17 ⟨hW28, kp33, (Or.inl rfl), (Or.inl ⟨rfl, ⟨v34, v35, v36, v37, v38, v39, n40, n41, ⟨by omega, by omega, by omega, by omega, by omega, by omega, by omega⟩, ⟨by omega, by omega⟩, k44⟩⟩)⟩
theorem dX12_isInHandful_0 : decode cX12_isInHandful 0 = .ok (.aload_n 0, 1) := by decide +kernel
theorem dX12_isInHandful_1 : decode cX12_isInHandful 1 = .ok (.getfield 62, 3) := by decide +kernel
theorem dX12_isInHandful_4 : decode cX12_isInHandful 4 = .ok (.aload_n 0, 1) := by decide +kernel
theorem dX12_isInHandful_5 : decode cX12_isInHandful 5 = .ok (.getfield 247, 3) := by decide +kernel
theorem dX12_isInHandful_8 : decode cX12_isInHandful 8 = .ok (.iaload, 1) := by decide +kernel
theorem dX12_isInHandful_9 : decode cX12_isInHandful 9 = .ok (.istore_n 3, 1) := by decide +kernel
theorem dX12_isInHandful_10 : decode cX12_isInHandful 10 = .ok (.iload_n 3, 1) := by decide +kernel
theorem dX12_isInHandful_11 : decode cX12_isInHandful 11 = .ok (.aload_n 0, 1) := by decide +kernel
theorem dX12_isInHandful_12 : decode cX12_isInHandful 12 = .ok (.getfield 62, 3) := by decide +kernel
theorem dX12_isInHandful_15 : decode cX12_isInHandful 15 = .ok (.aload_n 0, 1) := by decide +kernel
theorem dX12_isInHandful_16 : decode cX12_isInHandful 16 = .ok (.getfield 247, 3) := by decide +kernel
theorem dX12_isInHandful_19 : decode cX12_isInHandful 19 = .ok (.iaload, 1) := by decide +kernel
theorem dX12_isInHandful_20 : decode cX12_isInHandful 20 = .ok (.iload_n 2, 1) := by decide +kernel
theorem dX12_isInHandful_21 : decode cX12_isInHandful 21 = .ok (.iadd, 1) := by decide +kernel
theorem dX12_isInHandful_22 : decode cX12_isInHandful 22 = .ok (.if_icmp .ge 21, 3) := by decide +kernel
theorem dX12_isInHandful_25 : decode cX12_isInHandful 25 = .ok (.aload_n 0, 1) := by decide +kernel
theorem dX12_isInHandful_26 : decode cX12_isInHandful 26 = .ok (.getfield 71, 3) := by decide +kernel
theorem dX12_isInHandful_29 : decode cX12_isInHandful 29 = .ok (.iload_n 3, 1) := by decide +kernel
theorem dX12_isInHandful_30 : decode cX12_isInHandful 30 = .ok (.iaload, 1) := by decide +kernel
theorem dX12_isInHandful_31 : decode cX12_isInHandful 31 = .ok (.iload_n 1, 1) := by decide +kernel
theorem dX12_isInHandful_32 : decode cX12_isInHandful 32 = .ok (.if_icmp .ne 5, 3) := by decide +kernel
theorem dX12_isInHandful_35 : decode cX12_isInHandful 35 = .ok (.iconst 1, 1) := by decide +kernel
theorem dX12_isInHandful_36 : decode cX12_isInHandful 36 = .ok (.ireturn, 1) := by decide +kernel
theorem dX12_isInHandful_37 : decode cX12_isInHandful 37 = .ok (.iinc 3 1, 3) := by decide +kernel
theorem dX12_isInHandful_40 : decode cX12_isInHandful 40 = .ok (.goto (-30), 3) := by decide +kernel
theorem dX12_isInHandful_43 : decode cX12_isInHandful 43 = .ok (.iconst 0, 1) := by decide +kernel
theorem dX12_isInHandful_44 : decode cX12_isInHandful 44 = .ok (.ireturn, 1) := by decide +kernel
set_option maxRecDepth 20000 in
set_option maxHeartbeats 4000000 in
theorem m_isInHandful (E : xE) (l : Launch) (a : Nat → Nat) (cd : Cd) (hG : Good cd) (kf : Int32) (jn js jq : Lb) (ws : va_W) (hW : WX (okM E a cd kf jn js jq) ws) (p0 : Int32) (n0 : Nat) (hn0 : n0 ≤ 7) (tp pl le cm wt sm lm : Nat) (nu : Int32) (h0 : MO a cd kf ws tp pl le cm wt sm lm nu) (hlm : lm ≤ 23) : xI E l yX12_isInHandful cX12_isInHandful 4 (some .boolean) 0 [.ref (a 0), .int p0, .int (nI n0)] ws (fun r w => w = ws ∧ zb r) := by
  refine xI_start (lv := [(0, .ref (a 0)), (1, .int p0), (2, .int (nI n0))]) RX12 (by decide) rfl (Nat.le_of_ble_eq_true rfl) rfl (fun p e s m below meth c A C hr hlk => ?_)
  obtain ⟨v1, v2, v3, v4, v5, v6, n7, n8, bo9, bo10, k11⟩ := h0
  refine x_aload_n C dX12_isInHandful_0 rfl 0 rfl rfl ?_
  refine x_get C (ci := 11) (k := 28) 0 k11 rfl in_X12 (by decide) w_1146 rfl dX12_isInHandful_1 rfl ?_
  refine x_aload_n C dX12_isInHandful_4 rfl 0 rfl rfl ?_
  refine x_get C (ci := 11) (k := 27) 0 k11 rfl in_X12 (by decide) w_1145 rfl dX12_isInHandful_5 rfl ?_
  obtain ⟨_, k12, g13, gb14, rfl⟩ := hW 18 _ rfl
  refine x_ialk C (v := nI (g13 lm)) lm (nI_clamp (by omega)) (nI_pos (by omega)) (by omega) 18 k12 rfl dX12_isInHandful_8 rfl ?_
  have bx15 := gb14 lm
  refine x_istore_n C (lv' := [(3, .int (nI (g13 lm))), (0, .ref (a 0)), (1, .int p0), (2, .int (nI n0))]) dX12_isInHandful_9 rfl (by decide) rfl rfl ?_
  have loop10 : ∀ (fu10 : Nat) (k : Nat), True → 191 - k < fu10 → k ≤ 191 → X E p l e (xRm 0 0 0) s m ([.ref (a 0), .int p0, .int (nI n0)] : List Value).toArray below meth c A 4 0 0 (MQ below (va_Qi (fun r w => w = ws ∧ zb r) (xB E A) A) ([.ref (a 0), .int p0, .int (nI n0)] : List Value).toArray s 0 0 A) ws 10 [(0, .ref (a 0)), (1, .int p0), (2, .int (nI n0)), (3, .int (nI k))] [] := by
    intro fu10
    induction fu10 with
    | zero => intro k _ q; omega
    | succ fu10 ih10 =>
      intro k _ me10 iv10_0
      refine x_iload_n C dX12_isInHandful_10 rfl 3 rfl rfl ?_
      refine x_aload_n C dX12_isInHandful_11 rfl 0 rfl rfl ?_
      refine x_get C (ci := 11) (k := 28) 0 k11 rfl in_X12 (by decide) w_1146 rfl dX12_isInHandful_12 rfl ?_
      refine x_aload_n C dX12_isInHandful_15 rfl 0 rfl rfl ?_
      refine x_get C (ci := 11) (k := 27) 0 k11 rfl in_X12 (by decide) w_1145 rfl dX12_isInHandful_16 rfl ?_
      refine x_ialk C (v := nI (g13 lm)) lm (nI_clamp (by omega)) (nI_pos (by omega)) (by omega) 18 k12 rfl dX12_isInHandful_19 rfl ?_
      have bx16 := gb14 lm
      refine x_iload_n C dX12_isInHandful_20 rfl 2 rfl rfl ?_
      refine x_iadd C (v := (nI ((g13 lm) + n0))) dX12_isInHandful_21 (nI_add (g13 lm) n0) rfl ?_
      refine x_icmp_ge C (tgt := 43) dX12_isInHandful_22 (by decide) rfl (fun c17 => ?_) (fun c17 => ?_)
      · skip
        have nf18 := nI_le' (a := ((g13 lm) + n0)) (b := k) c17 (by omega) (by omega)
        refine x_iconst C (v := 0) dX12_isInHandful_43 (by decide) rfl ?_
        exact x_zret C hr hlk rfl dX12_isInHandful_44 ⟨rfl, (Or.inl rfl)⟩
      · skip
        have nf19 := nI_nle' (a := ((g13 lm) + n0)) (b := k) c17 (by omega) (by omega)
        refine x_aload_n C dX12_isInHandful_25 rfl 0 rfl rfl ?_
        refine x_get C (ci := 11) (k := 31) 0 k11 rfl in_X12 (by decide) w_1149 rfl dX12_isInHandful_26 rfl ?_
        refine x_iload_n C dX12_isInHandful_29 rfl 3 rfl rfl ?_
        obtain ⟨_, k20, g21, gb22, rfl⟩ := hW 21 _ rfl
        refine x_ialk C (v := nI (g21 k)) k (nI_clamp (by omega)) (nI_pos (by omega)) (by omega) 21 k20 rfl dX12_isInHandful_30 rfl ?_
        have bx23 := gb22 k
        refine x_iload_n C dX12_isInHandful_31 rfl 1 rfl rfl ?_
        refine x_icmp_ne C (tgt := 37) dX12_isInHandful_32 (by decide) rfl (fun c24 => ?_) (fun c24 => ?_)
        · skip
          refine x_iinc C (v := (nI (k + 1))) (lv' := [(3, .int (nI (k + 1))), (0, .ref (a 0)), (1, .int p0), (2, .int (nI n0))]) dX12_isInHandful_37 3 rfl (nI_add k 1) (by decide) rfl rfl ?_
          refine x_goto C (tgt := 10) dX12_isInHandful_40 (by decide) ?_
          refine x_lv (lv1 := [(0, .ref (a 0)), (1, .int p0), (2, .int (nI n0)), (3, .int (nI (k + 1)))]) [1, 2, 3, 0] rfl ?_
          exact ih10 (k + 1) trivial (by omega) (by omega)
        · skip
          refine x_iconst C (v := 1) dX12_isInHandful_35 (by decide) rfl ?_
          exact x_zret C hr hlk rfl dX12_isInHandful_36 ⟨rfl, (Or.inr rfl)⟩
  refine x_lv (lv1 := [(0, .ref (a 0)), (1, .int p0), (2, .int (nI n0)), (3, .int (nI (g13 lm)))]) [1, 2, 3, 0] rfl ?_
  exact loop10 _ (g13 lm) trivial (Nat.lt_succ_self _) (by omega)
theorem dX12_readsEgg_0 : decode cX12_readsEgg 0 = .ok (.aload_n 0, 1) := by decide +kernel
theorem dX12_readsEgg_1 : decode cX12_readsEgg 1 = .ok (.getfield 131, 3) := by decide +kernel
theorem dX12_readsEgg_4 : decode cX12_readsEgg 4 = .ok (.istore_n 2, 1) := by decide +kernel
theorem dX12_readsEgg_5 : decode cX12_readsEgg 5 = .ok (.aload_n 0, 1) := by decide +kernel
theorem dX12_readsEgg_6 : decode cX12_readsEgg 6 = .ok (.invokevirtual 150, 3) := by decide +kernel
theorem dX12_readsEgg_9 : decode cX12_readsEgg 9 = .ok (.ifCond .ne 13, 3) := by decide +kernel
theorem dX12_readsEgg_12 : decode cX12_readsEgg 12 = .ok (.aload_n 0, 1) := by decide +kernel
theorem dX12_readsEgg_13 : decode cX12_readsEgg 13 = .ok (.iconst 1, 1) := by decide +kernel
theorem dX12_readsEgg_14 : decode cX12_readsEgg 14 = .ok (.aload_n 0, 1) := by decide +kernel
theorem dX12_readsEgg_15 : decode cX12_readsEgg 15 = .ok (.getfield 131, 3) := by decide +kernel
theorem dX12_readsEgg_18 : decode cX12_readsEgg 18 = .ok (.invokevirtual 144, 3) := by decide +kernel
theorem dX12_readsEgg_21 : decode cX12_readsEgg 21 = .ok (.ireturn, 1) := by decide +kernel
theorem dX12_readsEgg_22 : decode cX12_readsEgg 22 = .ok (.iload_n 1, 1) := by decide +kernel
theorem dX12_readsEgg_23 : decode cX12_readsEgg 23 = .ok (.bipush 8, 2) := by decide +kernel
theorem dX12_readsEgg_25 : decode cX12_readsEgg 25 = .ok (.if_icmp .ne 14, 3) := by decide +kernel
theorem dX12_readsEgg_28 : decode cX12_readsEgg 28 = .ok (.aload_n 0, 1) := by decide +kernel
theorem dX12_readsEgg_29 : decode cX12_readsEgg 29 = .ok (.bipush 6, 2) := by decide +kernel
theorem dX12_readsEgg_31 : decode cX12_readsEgg 31 = .ok (.aload_n 0, 1) := by decide +kernel
theorem dX12_readsEgg_32 : decode cX12_readsEgg 32 = .ok (.getfield 131, 3) := by decide +kernel
theorem dX12_readsEgg_35 : decode cX12_readsEgg 35 = .ok (.invokevirtual 144, 3) := by decide +kernel
theorem dX12_readsEgg_38 : decode cX12_readsEgg 38 = .ok (.ireturn, 1) := by decide +kernel
theorem dX12_readsEgg_39 : decode cX12_readsEgg 39 = .ok (.aload_n 0, 1) := by decide +kernel
theorem dX12_readsEgg_40 : decode cX12_readsEgg 40 = .ok (.iconst 0, 1) := by decide +kernel
theorem dX12_readsEgg_41 : decode cX12_readsEgg 41 = .ok (.putfield 147, 3) := by decide +kernel
theorem dX12_readsEgg_44 : decode cX12_readsEgg 44 = .ok (.aload_n 0, 1) := by decide +kernel
theorem dX12_readsEgg_45 : decode cX12_readsEgg 45 = .ok (.invokevirtual 150, 3) := by decide +kernel
theorem dX12_readsEgg_48 : decode cX12_readsEgg 48 = .ok (.ifCond .eq 45, 3) := by decide +kernel
theorem dX12_readsEgg_51 : decode cX12_readsEgg 51 = .ok (.aload_n 0, 1) := by decide +kernel
theorem dX12_readsEgg_52 : decode cX12_readsEgg 52 = .ok (.getfield 131, 3) := by decide +kernel
theorem dX12_readsEgg_55 : decode cX12_readsEgg 55 = .ok (.iload_n 2, 1) := by decide +kernel
theorem dX12_readsEgg_56 : decode cX12_readsEgg 56 = .ok (.iconst 2, 1) := by decide +kernel
theorem dX12_readsEgg_57 : decode cX12_readsEgg 57 = .ok (.iadd, 1) := by decide +kernel
theorem dX12_readsEgg_58 : decode cX12_readsEgg 58 = .ok (.if_icmp .ge 35, 3) := by decide +kernel
theorem dX12_readsEgg_61 : decode cX12_readsEgg 61 = .ok (.aload_n 0, 1) := by decide +kernel
theorem dX12_readsEgg_62 : decode cX12_readsEgg 62 = .ok (.bipush 10, 2) := by decide +kernel
theorem dX12_readsEgg_64 : decode cX12_readsEgg 64 = .ok (.aload_n 0, 1) := by decide +kernel
theorem dX12_readsEgg_65 : decode cX12_readsEgg 65 = .ok (.getfield 147, 3) := by decide +kernel
theorem dX12_readsEgg_68 : decode cX12_readsEgg 68 = .ok (.imul, 1) := by decide +kernel
theorem dX12_readsEgg_69 : decode cX12_readsEgg 69 = .ok (.aload_n 0, 1) := by decide +kernel
theorem dX12_readsEgg_70 : decode cX12_readsEgg 70 = .ok (.invokevirtual 137, 3) := by decide +kernel
theorem dX12_readsEgg_73 : decode cX12_readsEgg 73 = .ok (.iadd, 1) := by decide +kernel
theorem dX12_readsEgg_74 : decode cX12_readsEgg 74 = .ok (.bipush 48, 2) := by decide +kernel
theorem dX12_readsEgg_76 : decode cX12_readsEgg 76 = .ok (.isub, 1) := by decide +kernel
theorem dX12_readsEgg_77 : decode cX12_readsEgg 77 = .ok (.putfield 147, 3) := by decide +kernel
theorem dX12_readsEgg_80 : decode cX12_readsEgg 80 = .ok (.aload_n 0, 1) := by decide +kernel
theorem dX12_readsEgg_81 : decode cX12_readsEgg 81 = .ok (.aload_n 0, 1) := by decide +kernel
theorem dX12_readsEgg_82 : decode cX12_readsEgg 82 = .ok (.getfield 131, 3) := by decide +kernel
theorem dX12_readsEgg_85 : decode cX12_readsEgg 85 = .ok (.iconst 1, 1) := by decide +kernel
theorem dX12_readsEgg_86 : decode cX12_readsEgg 86 = .ok (.iadd, 1) := by decide +kernel
theorem dX12_readsEgg_87 : decode cX12_readsEgg 87 = .ok (.putfield 131, 3) := by decide +kernel
theorem dX12_readsEgg_90 : decode cX12_readsEgg 90 = .ok (.goto (-46), 3) := by decide +kernel
theorem dX12_readsEgg_93 : decode cX12_readsEgg 93 = .ok (.aload_n 0, 1) := by decide +kernel
theorem dX12_readsEgg_94 : decode cX12_readsEgg 94 = .ok (.getfield 147, 3) := by decide +kernel
theorem dX12_readsEgg_97 : decode cX12_readsEgg 97 = .ok (.bipush 48, 2) := by decide +kernel
theorem dX12_readsEgg_99 : decode cX12_readsEgg 99 = .ok (.if_icmp .lt 10, 3) := by decide +kernel
theorem dX12_readsEgg_102 : decode cX12_readsEgg 102 = .ok (.aload_n 0, 1) := by decide +kernel
theorem dX12_readsEgg_103 : decode cX12_readsEgg 103 = .ok (.iconst 3, 1) := by decide +kernel
theorem dX12_readsEgg_104 : decode cX12_readsEgg 104 = .ok (.iload_n 2, 1) := by decide +kernel
theorem dX12_readsEgg_105 : decode cX12_readsEgg 105 = .ok (.invokevirtual 144, 3) := by decide +kernel
theorem dX12_readsEgg_108 : decode cX12_readsEgg 108 = .ok (.ireturn, 1) := by decide +kernel
theorem dX12_readsEgg_109 : decode cX12_readsEgg 109 = .ok (.aload_n 0, 1) := by decide +kernel
theorem dX12_readsEgg_110 : decode cX12_readsEgg 110 = .ok (.aload_n 0, 1) := by decide +kernel
theorem dX12_readsEgg_111 : decode cX12_readsEgg 111 = .ok (.getfield 147, 3) := by decide +kernel
theorem dX12_readsEgg_114 : decode cX12_readsEgg 114 = .ok (.iload_n 1, 1) := by decide +kernel
theorem dX12_readsEgg_115 : decode cX12_readsEgg 115 = .ok (.invokevirtual 250, 3) := by decide +kernel
theorem dX12_readsEgg_118 : decode cX12_readsEgg 118 = .ok (.ifCond .eq 11, 3) := by decide +kernel
theorem dX12_readsEgg_121 : decode cX12_readsEgg 121 = .ok (.aload_n 0, 1) := by decide +kernel
theorem dX12_readsEgg_122 : decode cX12_readsEgg 122 = .ok (.bipush 7, 2) := by decide +kernel
theorem dX12_readsEgg_124 : decode cX12_readsEgg 124 = .ok (.iload_n 2, 1) := by decide +kernel
theorem dX12_readsEgg_125 : decode cX12_readsEgg 125 = .ok (.invokevirtual 144, 3) := by decide +kernel
theorem dX12_readsEgg_128 : decode cX12_readsEgg 128 = .ok (.ireturn, 1) := by decide +kernel
theorem dX12_readsEgg_129 : decode cX12_readsEgg 129 = .ok (.aload_n 0, 1) := by decide +kernel
theorem dX12_readsEgg_130 : decode cX12_readsEgg 130 = .ok (.getfield 71, 3) := by decide +kernel
theorem dX12_readsEgg_133 : decode cX12_readsEgg 133 = .ok (.aload_n 0, 1) := by decide +kernel
theorem dX12_readsEgg_134 : decode cX12_readsEgg 134 = .ok (.getfield 62, 3) := by decide +kernel
theorem dX12_readsEgg_137 : decode cX12_readsEgg 137 = .ok (.aload_n 0, 1) := by decide +kernel
theorem dX12_readsEgg_138 : decode cX12_readsEgg 138 = .ok (.getfield 247, 3) := by decide +kernel
theorem dX12_readsEgg_141 : decode cX12_readsEgg 141 = .ok (.iaload, 1) := by decide +kernel
theorem dX12_readsEgg_142 : decode cX12_readsEgg 142 = .ok (.iload_n 1, 1) := by decide +kernel
theorem dX12_readsEgg_143 : decode cX12_readsEgg 143 = .ok (.iadd, 1) := by decide +kernel
theorem dX12_readsEgg_144 : decode cX12_readsEgg 144 = .ok (.aload_n 0, 1) := by decide +kernel
theorem dX12_readsEgg_145 : decode cX12_readsEgg 145 = .ok (.getfield 147, 3) := by decide +kernel
theorem dX12_readsEgg_148 : decode cX12_readsEgg 148 = .ok (.iastore, 1) := by decide +kernel
theorem dX12_readsEgg_149 : decode cX12_readsEgg 149 = .ok (.iconst 1, 1) := by decide +kernel
theorem dX12_readsEgg_150 : decode cX12_readsEgg 150 = .ok (.ireturn, 1) := by decide +kernel
set_option maxRecDepth 20000 in
set_option maxHeartbeats 4000000 in
theorem m_readsEgg (E : xE) (l : Launch) (a : Nat → Nat) (cd : Cd) (hG : Good cd) (kf : Int32) (jn js jq : Lb) (ws : va_W) (hW : WX (okM E a cd kf jn js jq) ws) (n0 : Nat) (hn0 : n0 ≤ 8) (tp pl le cm wt sm lm : Nat) (nu : Int32) (h0 : MO a cd kf ws tp pl le cm wt sm lm nu) (tf : Nat → Int32) (htf : ws[4]? = some (bA E (a 4) 260 tf)) (hlm : lm ≤ 23) (hpl : pl ≤ le) : xI E l yX12_readsEgg cX12_readsEgg 3 (some .boolean) 2 [.ref (a 0), .int (nI n0)] ws (fun r w => WX (okM E a cd kf jn js jq) w ∧ keeps ws w (fun q => q = 0 ∨ q = 21) ∧ zb r ∧ (∃ (pl2 : Nat) (nu2 : Int32), pl ≤ pl2 ∧ pl2 ≤ le ∧ MO a cd kf w tp pl2 le cm wt sm lm nu2 ∧ (¬ r = 0 → n0 ≤ 7))) := by
  refine xI_start (lv := [(0, .ref (a 0)), (1, .int (nI n0))]) RX12 (by decide) rfl (Nat.le_of_ble_eq_true rfl) rfl (fun p e s m below meth c A C hr hlk => ?_)
  have kp0 : keeps ws ws (fun q => q = 0 ∨ q = 21) := keeps_rf
  obtain ⟨v1, v2, v3, v4, v5, v6, n7, n8, bo9, bo10, k11⟩ := h0
  refine x_aload_n C dX12_readsEgg_0 rfl 0 rfl rfl ?_
  refine x_get C (ci := 11) (k := 5) 0 k11 rfl in_X12 (by decide) w_1123 rfl dX12_readsEgg_1 rfl ?_
  refine x_istore_n C (lv' := [(2, .int (nI pl)), (0, .ref (a 0)), (1, .int (nI n0))]) dX12_readsEgg_4 rfl (by decide) rfl rfl ?_
  refine x_aload_n C dX12_readsEgg_5 rfl 1 rfl rfl ?_
  refine x_vi C (As := []) (rest := []) (m_isDigit E l a cd hG kf jn js jq ws hW tp pl le cm wt sm lm nu ⟨v1, v2, v3, v4, v5, v6, n7, n8, ⟨by omega, by omega, by omega, by omega, by omega, by omega, by omega⟩, ⟨by omega, by omega⟩, k11⟩ tf htf) mf_X12_isDigit w_1341 0 k11 rfl rfl rfl (Nat.le_of_ble_eq_true rfl) ⟨(Nat.le_of_ble_eq_true rfl), (Nat.le_of_ble_eq_true rfl)⟩ ⟨(Nat.le_of_ble_eq_true rfl), (Nat.le_of_ble_eq_true rfl)⟩ dX12_readsEgg_6 rfl (fun r13 w14 h12 => ?_)
  obtain ⟨hW15, zb16, x17⟩ := h12
  refine x_ws hW15 ?_
  refine x_if_ne C (tgt := 22) dX12_readsEgg_9 (by decide) rfl (fun c18 => ?_) (fun c18 => ?_)
  · skip
    obtain ⟨d19, hd20, ed21, hp22⟩ := x17 c18
    refine x_iload_n C dX12_readsEgg_22 rfl 2 rfl rfl ?_
    refine x_bipush C (v := 8) dX12_readsEgg_23 (by decide) rfl ?_
    refine x_icmp_ne C (tgt := 39) dX12_readsEgg_25 (by decide) rfl (fun c23 => ?_) (fun c23 => ?_)
    · skip
      have nf24 : ¬ n0 = 8 := fun q => c23 (congrArg nI q)
      refine x_aload_n C dX12_readsEgg_39 rfl 1 rfl rfl ?_
      refine x_iconst C (v := 0) dX12_readsEgg_40 (by decide) rfl ?_
      obtain ⟨w25, hw26⟩ : ∃ w : va_W, w = List.set ws 0 (ob (a 0) 11 [.ref (a 1), .ref (a 2), .ref (a 3), .ref (a 4), .int (nI tp), .int (nI pl), .int (nI le), .int v1, .int 0, .int v2, .int (nI cm), .int (nI wt), .int (nI sm), .int (nI (cd.2.2.2.2.2)), .ref (a 5), .ref (a 6), .ref (a 7), .ref (a 8), .ref (a 9), .ref (a 10), .ref (a 11), .ref (a 12), .ref (a 13), .ref (a 14), .ref (a 15), .ref (a 16), .ref (a 17), .int (nI lm), .ref (a 18), .ref (a 19), .ref (a 20), .ref (a 21), .int v3, .int v4, .int v5, .int v6, .int (nI n7), .int (nI n8), .ref (a 22), .ref (a 23), .ref (a 24), .ref (a 25), .ref (a 26), .ref (a 27), .ref (a 28), .ref (a 29), .ref (a 30), .int kf]) := ⟨_, rfl⟩
      refine x_put C (ci := 11) (k := 8) (ty := .int) 0 k11 rfl in_X12 tyX12 tyX12_ok nmX12 (by decide) w_1126 rfl rfl rfl rfl (Nat.le_of_ble_eq_true rfl) hw26.symm dX12_readsEgg_41 rfl ?_
      have hW27 : WX (okM E a cd kf jn js jq) w25 := by rw [hw26]; exact hW.set (k := 0) rfl ⟨tp, pl, le, v1, (0 : Int32), v2, cm, wt, sm, lm, v3, v4, v5, v6, n7, n8, by omega, by omega, by omega, by omega, by omega, by omega, by omega, by omega, by omega, rfl⟩
      have k28 : w25[0]? = some (ob (a 0) 11 [.ref (a 1), .ref (a 2), .ref (a 3), .ref (a 4), .int (nI tp), .int (nI pl), .int (nI le), .int v1, .int 0, .int v2, .int (nI cm), .int (nI wt), .int (nI sm), .int (nI (cd.2.2.2.2.2)), .ref (a 5), .ref (a 6), .ref (a 7), .ref (a 8), .ref (a 9), .ref (a 10), .ref (a 11), .ref (a 12), .ref (a 13), .ref (a 14), .ref (a 15), .ref (a 16), .ref (a 17), .int (nI lm), .ref (a 18), .ref (a 19), .ref (a 20), .ref (a 21), .int v3, .int v4, .int v5, .int v6, .int (nI n7), .int (nI n8), .ref (a 22), .ref (a 23), .ref (a 24), .ref (a 25), .ref (a 26), .ref (a 27), .ref (a 28), .ref (a 29), .ref (a 30), .int kf]) := by rw [hw26]; exact set_eq k11
      have k29 : w25[4]? = some (bA E (a 4) 260 tf) := by rw [hw26]; exact set_ne htf (by decide)
      have kp30 := keeps_set kp0 hw26 (by first | exact rfl | decide | omega | (dsimp only; omega))
      have loop44 : ∀ (fu44 : Nat) (px : Nat) (nm : Nat) (wl44 : va_W), WX (okM E a cd kf jn js jq) wl44 → pl + 2 - px < fu44 → MO a cd kf wl44 tp px le cm wt sm lm (nI nm) → wl44[4]? = some (bA E (a 4) 260 tf) → (px = pl ∧ nm = 0) ∨ (px = pl + 1 ∧ nm ≤ 9) ∨ (px = pl + 2 ∧ nm ≤ 99) → px ≤ le → keeps ws wl44 (fun q => q = 0 ∨ q = 21) → X E p l e (xRm 2 0 0) s m ([.ref (a 0), .int (nI n0)] : List Value).toArray below meth c A 3 0 0 (MQ below (va_Qi (fun r w => WX (okM E a cd kf jn js jq) w ∧ keeps ws w (fun q => q = 0 ∨ q = 21) ∧ zb r ∧ (∃ (pl2 : Nat) (nu2 : Int32), pl ≤ pl2 ∧ pl2 ≤ le ∧ MO a cd kf w tp pl2 le cm wt sm lm nu2 ∧ (¬ r = 0 → n0 ≤ 7))) (xB E A) A) ([.ref (a 0), .int (nI n0)] : List Value).toArray s 0 0 A) wl44 44 [(0, .ref (a 0)), (1, .int (nI n0)), (2, .int (nI pl))] [] := by
        intro fu44
        induction fu44 with
        | zero => intro px nm wl44 _ q; omega
        | succ fu44 ih44 =>
          intro px nm wl44 hWl44 me44 iv44_0 iv44_1 iv44_2 iv44_3 kq44
          obtain ⟨v31, v32, v33, v34, v35, v36, n37, n38, bo39, bo40, k41⟩ := iv44_0
          refine x_aload_n C dX12_readsEgg_44 rfl 0 rfl rfl ?_
          refine x_vi C (As := []) (rest := []) (m_isDigit E l a cd hG kf jn js jq wl44 hWl44 tp px le cm wt sm lm ((nI nm)) ⟨v31, v32, v33, v34, v35, v36, n37, n38, ⟨by omega, by omega, by omega, by omega, by omega, by omega, by omega⟩, ⟨by omega, by omega⟩, k41⟩ tf iv44_1) mf_X12_isDigit w_1341 0 k41 rfl rfl rfl (Nat.le_of_ble_eq_true rfl) ⟨(Nat.le_of_ble_eq_true rfl), (Nat.le_of_ble_eq_true rfl)⟩ ⟨(Nat.le_of_ble_eq_true rfl), (Nat.le_of_ble_eq_true rfl)⟩ dX12_readsEgg_45 rfl (fun r43 w44 h42 => ?_)
          obtain ⟨hW45, zb46, x47⟩ := h42
          refine x_ws hW45 ?_
          refine x_if_eq C (tgt := 93) dX12_readsEgg_48 (by decide) rfl (fun c48 => ?_) (fun c48 => ?_)
          · skip
            refine x_aload_n C dX12_readsEgg_93 rfl 0 rfl rfl ?_
            refine x_get C (ci := 11) (k := 8) 0 k41 rfl in_X12 (by decide) w_1126 rfl dX12_readsEgg_94 rfl ?_
            refine x_bipush C (v := 48) dX12_readsEgg_97 (by decide) rfl ?_
            refine x_icmp_lt C (tgt := 109) dX12_readsEgg_99 (by decide) rfl (fun c49 => ?_) (fun c49 => ?_)
            · skip
              have nf50 := nI_lt' (a := nm) (b := 48) c49 (by omega) (by omega)
              refine x_aload_n C dX12_readsEgg_109 rfl 0 rfl rfl ?_
              refine x_aload_n C dX12_readsEgg_110 rfl 0 rfl rfl ?_
              refine x_get C (ci := 11) (k := 8) 0 k41 rfl in_X12 (by decide) w_1126 rfl dX12_readsEgg_111 rfl ?_
              refine x_iload_n C dX12_readsEgg_114 rfl 1 rfl rfl ?_
              refine x_vi C (As := [.int (nI nm), .int (nI n0)]) (rest := []) (m_isInHandful E l a cd hG kf jn js jq wl44 hWl44 ((nI nm)) n0 (by omega) tp px le cm wt sm lm ((nI nm)) ⟨v31, v32, v33, v34, v35, v36, n37, n38, ⟨by omega, by omega, by omega, by omega, by omega, by omega, by omega⟩, ⟨by omega, by omega⟩, k41⟩ (by omega)) mf_X12_isInHandful w_1415 0 k41 rfl rfl rfl (Nat.le_of_ble_eq_true rfl) ⟨(Nat.le_of_ble_eq_true rfl), (Nat.le_of_ble_eq_true rfl)⟩ ⟨(Nat.le_of_ble_eq_true rfl), (Nat.le_of_ble_eq_true rfl)⟩ dX12_readsEgg_115 rfl (fun r52 w53 h51 => ?_)
              obtain ⟨hW54, zb55⟩ := h51
              refine x_ws hW54 ?_
              refine x_if_eq C (tgt := 129) dX12_readsEgg_118 (by decide) rfl (fun c56 => ?_) (fun c56 => ?_)
              · skip
                refine x_aload_n C dX12_readsEgg_129 rfl 0 rfl rfl ?_
                refine x_get C (ci := 11) (k := 31) 0 k41 rfl in_X12 (by decide) w_1149 rfl dX12_readsEgg_130 rfl ?_
                refine x_aload_n C dX12_readsEgg_133 rfl 0 rfl rfl ?_
                refine x_get C (ci := 11) (k := 28) 0 k41 rfl in_X12 (by decide) w_1146 rfl dX12_readsEgg_134 rfl ?_
                refine x_aload_n C dX12_readsEgg_137 rfl 0 rfl rfl ?_
                refine x_get C (ci := 11) (k := 27) 0 k41 rfl in_X12 (by decide) w_1145 rfl dX12_readsEgg_138 rfl ?_
                obtain ⟨_, k57, g58, gb59, rfl⟩ := hWl44 18 _ rfl
                refine x_ialk C (v := nI (g58 lm)) lm (nI_clamp (by omega)) (nI_pos (by omega)) (by omega) 18 k57 rfl dX12_readsEgg_141 rfl ?_
                have bx60 := gb59 lm
                refine x_iload_n C dX12_readsEgg_142 rfl 1 rfl rfl ?_
                refine x_iadd C (v := (nI ((g58 lm) + n0))) dX12_readsEgg_143 (nI_add (g58 lm) n0) rfl ?_
                refine x_aload_n C dX12_readsEgg_144 rfl 0 rfl rfl ?_
                refine x_get C (ci := 11) (k := 8) 0 k41 rfl in_X12 (by decide) w_1126 rfl dX12_readsEgg_145 rfl ?_
                obtain ⟨_, k61, g62, gb63, rfl⟩ := hWl44 21 _ rfl
                have gb64 := updn_le (i := ((g58 lm) + n0)) (v := nm) gb63 (by omega)
                obtain ⟨w65, hw66⟩ : ∃ w : va_W, w = List.set wl44 21 (iA E (a 21) 192 (upd (fun j => nI (g62 j)) ((g58 lm) + n0) (nI nm))) := ⟨_, rfl⟩
                refine x_iask C ((g58 lm) + n0) (nI_clamp (by omega)) (nI_pos (by omega)) (by omega) 21 k61 hw66.symm dX12_readsEgg_148 rfl ?_
                have hW67 : WX (okM E a cd kf jn js jq) w65 := by rw [hw66]; exact hWl44.set (k := 21) rfl ⟨_, gb64, iA_n (upd_nI g62 ((g58 lm) + n0) nm)⟩
                have k68 : w65[0]? = some (ob (a 0) 11 [.ref (a 1), .ref (a 2), .ref (a 3), .ref (a 4), .int (nI tp), .int (nI px), .int (nI le), .int v31, .int (nI nm), .int v32, .int (nI cm), .int (nI wt), .int (nI sm), .int (nI (cd.2.2.2.2.2)), .ref (a 5), .ref (a 6), .ref (a 7), .ref (a 8), .ref (a 9), .ref (a 10), .ref (a 11), .ref (a 12), .ref (a 13), .ref (a 14), .ref (a 15), .ref (a 16), .ref (a 17), .int (nI lm), .ref (a 18), .ref (a 19), .ref (a 20), .ref (a 21), .int v33, .int v34, .int v35, .int v36, .int (nI n37), .int (nI n38), .ref (a 22), .ref (a 23), .ref (a 24), .ref (a 25), .ref (a 26), .ref (a 27), .ref (a 28), .ref (a 29), .ref (a 30), .int kf]) := by rw [hw66]; exact set_ne k41 (by decide)
                have k69 : w65[4]? = some (bA E (a 4) 260 tf) := by rw [hw66]; exact set_ne iv44_1 (by decide)
                have k70 : w65[18]? = some (iA E (a 18) 25 (fun j => nI (g58 j))) := by rw [hw66]; exact set_ne k57 (by decide)
                have k71 : w65[21]? = some (iA E (a 21) 192 (upd (fun j => nI (g62 j)) ((g58 lm) + n0) (nI nm))) := by rw [hw66]; exact set_eq k61
                have kp72 := keeps_set kq44 hw66 (by first | exact rfl | decide | omega | (dsimp only; omega))
                have k73 : w65[21]? = some (iA E (a 21) 192 (fun j => nI ((updn g62 ((g58 lm) + n0) nm) j))) := by rw [← upd_nI]; exact k71
                refine x_iconst C (v := 1) dX12_readsEgg_149 (by decide) rfl ?_
                exact x_zret C hr hlk rfl dX12_readsEgg_150 ⟨hW67, kp72, (Or.inr rfl), ⟨px, ((nI nm)), by omega, by omega, ⟨v31, v32, v33, v34, v35, v36, n37, n38, ⟨by omega, by omega, by omega, by omega, by omega, by omega, by omega⟩, ⟨by omega, by omega⟩, k68⟩, fun _ => by omega⟩⟩
              · skip
                refine x_aload_n C dX12_readsEgg_121 rfl 0 rfl rfl ?_
                refine x_bipush C (v := 7) dX12_readsEgg_122 (by decide) rfl ?_
                refine x_iload_n C dX12_readsEgg_124 rfl 2 rfl rfl ?_
                refine x_vi C (As := [.int 7, .int (nI pl)]) (rest := []) (m_wrongAt E l a cd hG kf jn js jq wl44 hWl44 (7 : Int32) ((nI pl)) tp px le cm wt sm lm ((nI nm)) ⟨v31, v32, v33, v34, v35, v36, n37, n38, ⟨by omega, by omega, by omega, by omega, by omega, by omega, by omega⟩, ⟨by omega, by omega⟩, k41⟩) mf_X12_wrongAt w_1324 0 k41 rfl rfl rfl (Nat.le_of_ble_eq_true rfl) ⟨(Nat.le_of_ble_eq_true rfl), (Nat.le_of_ble_eq_true rfl)⟩ ⟨(Nat.le_of_ble_eq_true rfl), (Nat.le_of_ble_eq_true rfl)⟩ dX12_readsEgg_125 rfl (fun r75 w76 h74 => ?_)
                obtain ⟨hW77, kq78, e79, x80⟩ := h74
                refine x_top e79 ?_
                have k81 : w76[4]? = some (bA E (a 4) 260 tf) := keeps_at kq78 iv44_1 (by first | decide | omega | (dsimp only; omega))
                have kp82 := keeps_tr kq44 kq78 (fun q hq => by first | omega | (dsimp only at *; omega))
                obtain ⟨v83, v84, v85, v86, v87, v88, n89, n90, bo91, bo92, k93⟩ := x80
                exact x_zret C hr hlk rfl dX12_readsEgg_128 ⟨hW77, kp82, (Or.inl rfl), ⟨px, ((nI nm)), by omega, by omega, ⟨v83, v84, v85, v86, v87, v88, n89, n90, ⟨by omega, by omega, by omega, by omega, by omega, by omega, by omega⟩, ⟨by omega, by omega⟩, k93⟩, fun q => absurd rfl q⟩⟩
            · skip
              have nf94 := nI_nlt' (a := nm) (b := 48) c49 (by omega) (by omega)
              refine x_aload_n C dX12_readsEgg_102 rfl 0 rfl rfl ?_
              refine x_iconst C (v := 3) dX12_readsEgg_103 (by decide) rfl ?_
              refine x_iload_n C dX12_readsEgg_104 rfl 2 rfl rfl ?_
              refine x_vi C (As := [.int 3, .int (nI pl)]) (rest := []) (m_wrongAt E l a cd hG kf jn js jq wl44 hWl44 (3 : Int32) ((nI pl)) tp px le cm wt sm lm ((nI nm)) ⟨v31, v32, v33, v34, v35, v36, n37, n38, ⟨by omega, by omega, by omega, by omega, by omega, by omega, by omega⟩, ⟨by omega, by omega⟩, k41⟩) mf_X12_wrongAt w_1324 0 k41 rfl rfl rfl (Nat.le_of_ble_eq_true rfl) ⟨(Nat.le_of_ble_eq_true rfl), (Nat.le_of_ble_eq_true rfl)⟩ ⟨(Nat.le_of_ble_eq_true rfl), (Nat.le_of_ble_eq_true rfl)⟩ dX12_readsEgg_105 rfl (fun r96 w97 h95 => ?_)
              obtain ⟨hW98, kq99, e100, x101⟩ := h95
              refine x_top e100 ?_
              have k102 : w97[4]? = some (bA E (a 4) 260 tf) := keeps_at kq99 iv44_1 (by first | decide | omega | (dsimp only; omega))
              have kp103 := keeps_tr kq44 kq99 (fun q hq => by first | omega | (dsimp only at *; omega))
              obtain ⟨v104, v105, v106, v107, v108, v109, n110, n111, bo112, bo113, k114⟩ := x101
              exact x_zret C hr hlk rfl dX12_readsEgg_108 ⟨hW98, kp103, (Or.inl rfl), ⟨px, ((nI nm)), by omega, by omega, ⟨v104, v105, v106, v107, v108, v109, n110, n111, ⟨by omega, by omega, by omega, by omega, by omega, by omega, by omega⟩, ⟨by omega, by omega⟩, k114⟩, fun q => absurd rfl q⟩⟩
          · skip
            obtain ⟨d115, hd116, ed117, hp118⟩ := x47 c48
            refine x_aload_n C dX12_readsEgg_51 rfl 0 rfl rfl ?_
            refine x_get C (ci := 11) (k := 5) 0 k41 rfl in_X12 (by decide) w_1123 rfl dX12_readsEgg_52 rfl ?_
            refine x_iload_n C dX12_readsEgg_55 rfl 2 rfl rfl ?_
            refine x_iconst C (v := 2) dX12_readsEgg_56 (by decide) rfl ?_
            refine x_iadd C (v := (nI (pl + 2))) dX12_readsEgg_57 (nI_add pl 2) rfl ?_
            refine x_icmp_ge C (tgt := 93) dX12_readsEgg_58 (by decide) rfl (fun c119 => ?_) (fun c119 => ?_)
            · skip
              have nf120 := nI_le' (a := (pl + 2)) (b := px) c119 (by omega) (by omega)
              refine x_aload_n C dX12_readsEgg_93 rfl 0 rfl rfl ?_
              refine x_get C (ci := 11) (k := 8) 0 k41 rfl in_X12 (by decide) w_1126 rfl dX12_readsEgg_94 rfl ?_
              refine x_bipush C (v := 48) dX12_readsEgg_97 (by decide) rfl ?_
              refine x_icmp_lt C (tgt := 109) dX12_readsEgg_99 (by decide) rfl (fun c121 => ?_) (fun c121 => ?_)
              · skip
                have nf122 := nI_lt' (a := nm) (b := 48) c121 (by omega) (by omega)
                refine x_aload_n C dX12_readsEgg_109 rfl 0 rfl rfl ?_
                refine x_aload_n C dX12_readsEgg_110 rfl 0 rfl rfl ?_
                refine x_get C (ci := 11) (k := 8) 0 k41 rfl in_X12 (by decide) w_1126 rfl dX12_readsEgg_111 rfl ?_
                refine x_iload_n C dX12_readsEgg_114 rfl 1 rfl rfl ?_
                refine x_vi C (As := [.int (nI nm), .int (nI n0)]) (rest := []) (m_isInHandful E l a cd hG kf jn js jq wl44 hWl44 ((nI nm)) n0 (by omega) tp px le cm wt sm lm ((nI nm)) ⟨v31, v32, v33, v34, v35, v36, n37, n38, ⟨by omega, by omega, by omega, by omega, by omega, by omega, by omega⟩, ⟨by omega, by omega⟩, k41⟩ (by omega)) mf_X12_isInHandful w_1415 0 k41 rfl rfl rfl (Nat.le_of_ble_eq_true rfl) ⟨(Nat.le_of_ble_eq_true rfl), (Nat.le_of_ble_eq_true rfl)⟩ ⟨(Nat.le_of_ble_eq_true rfl), (Nat.le_of_ble_eq_true rfl)⟩ dX12_readsEgg_115 rfl (fun r124 w125 h123 => ?_)
                obtain ⟨hW126, zb127⟩ := h123
                refine x_ws hW126 ?_
                refine x_if_eq C (tgt := 129) dX12_readsEgg_118 (by decide) rfl (fun c128 => ?_) (fun c128 => ?_)
                · skip
                  refine x_aload_n C dX12_readsEgg_129 rfl 0 rfl rfl ?_
                  refine x_get C (ci := 11) (k := 31) 0 k41 rfl in_X12 (by decide) w_1149 rfl dX12_readsEgg_130 rfl ?_
                  refine x_aload_n C dX12_readsEgg_133 rfl 0 rfl rfl ?_
                  refine x_get C (ci := 11) (k := 28) 0 k41 rfl in_X12 (by decide) w_1146 rfl dX12_readsEgg_134 rfl ?_
                  refine x_aload_n C dX12_readsEgg_137 rfl 0 rfl rfl ?_
                  refine x_get C (ci := 11) (k := 27) 0 k41 rfl in_X12 (by decide) w_1145 rfl dX12_readsEgg_138 rfl ?_
                  obtain ⟨_, k129, g130, gb131, rfl⟩ := hWl44 18 _ rfl
                  refine x_ialk C (v := nI (g130 lm)) lm (nI_clamp (by omega)) (nI_pos (by omega)) (by omega) 18 k129 rfl dX12_readsEgg_141 rfl ?_
                  have bx132 := gb131 lm
                  refine x_iload_n C dX12_readsEgg_142 rfl 1 rfl rfl ?_
                  refine x_iadd C (v := (nI ((g130 lm) + n0))) dX12_readsEgg_143 (nI_add (g130 lm) n0) rfl ?_
                  refine x_aload_n C dX12_readsEgg_144 rfl 0 rfl rfl ?_
                  refine x_get C (ci := 11) (k := 8) 0 k41 rfl in_X12 (by decide) w_1126 rfl dX12_readsEgg_145 rfl ?_
                  obtain ⟨_, k133, g134, gb135, rfl⟩ := hWl44 21 _ rfl
                  have gb136 := updn_le (i := ((g130 lm) + n0)) (v := nm) gb135 (by omega)
                  obtain ⟨w137, hw138⟩ : ∃ w : va_W, w = List.set wl44 21 (iA E (a 21) 192 (upd (fun j => nI (g134 j)) ((g130 lm) + n0) (nI nm))) := ⟨_, rfl⟩
                  refine x_iask C ((g130 lm) + n0) (nI_clamp (by omega)) (nI_pos (by omega)) (by omega) 21 k133 hw138.symm dX12_readsEgg_148 rfl ?_
                  have hW139 : WX (okM E a cd kf jn js jq) w137 := by rw [hw138]; exact hWl44.set (k := 21) rfl ⟨_, gb136, iA_n (upd_nI g134 ((g130 lm) + n0) nm)⟩
                  have k140 : w137[0]? = some (ob (a 0) 11 [.ref (a 1), .ref (a 2), .ref (a 3), .ref (a 4), .int (nI tp), .int (nI px), .int (nI le), .int v31, .int (nI nm), .int v32, .int (nI cm), .int (nI wt), .int (nI sm), .int (nI (cd.2.2.2.2.2)), .ref (a 5), .ref (a 6), .ref (a 7), .ref (a 8), .ref (a 9), .ref (a 10), .ref (a 11), .ref (a 12), .ref (a 13), .ref (a 14), .ref (a 15), .ref (a 16), .ref (a 17), .int (nI lm), .ref (a 18), .ref (a 19), .ref (a 20), .ref (a 21), .int v33, .int v34, .int v35, .int v36, .int (nI n37), .int (nI n38), .ref (a 22), .ref (a 23), .ref (a 24), .ref (a 25), .ref (a 26), .ref (a 27), .ref (a 28), .ref (a 29), .ref (a 30), .int kf]) := by rw [hw138]; exact set_ne k41 (by decide)
                  have k141 : w137[4]? = some (bA E (a 4) 260 tf) := by rw [hw138]; exact set_ne iv44_1 (by decide)
                  have k142 : w137[18]? = some (iA E (a 18) 25 (fun j => nI (g130 j))) := by rw [hw138]; exact set_ne k129 (by decide)
                  have k143 : w137[21]? = some (iA E (a 21) 192 (upd (fun j => nI (g134 j)) ((g130 lm) + n0) (nI nm))) := by rw [hw138]; exact set_eq k133
                  have kp144 := keeps_set kq44 hw138 (by first | exact rfl | decide | omega | (dsimp only; omega))
                  have k145 : w137[21]? = some (iA E (a 21) 192 (fun j => nI ((updn g134 ((g130 lm) + n0) nm) j))) := by rw [← upd_nI]; exact k143
                  refine x_iconst C (v := 1) dX12_readsEgg_149 (by decide) rfl ?_
                  exact x_zret C hr hlk rfl dX12_readsEgg_150 ⟨hW139, kp144, (Or.inr rfl), ⟨px, ((nI nm)), by omega, by omega, ⟨v31, v32, v33, v34, v35, v36, n37, n38, ⟨by omega, by omega, by omega, by omega, by omega, by omega, by omega⟩, ⟨by omega, by omega⟩, k140⟩, fun _ => by omega⟩⟩
                · skip
                  refine x_aload_n C dX12_readsEgg_121 rfl 0 rfl rfl ?_
                  refine x_bipush C (v := 7) dX12_readsEgg_122 (by decide) rfl ?_
                  refine x_iload_n C dX12_readsEgg_124 rfl 2 rfl rfl ?_
                  refine x_vi C (As := [.int 7, .int (nI pl)]) (rest := []) (m_wrongAt E l a cd hG kf jn js jq wl44 hWl44 (7 : Int32) ((nI pl)) tp px le cm wt sm lm ((nI nm)) ⟨v31, v32, v33, v34, v35, v36, n37, n38, ⟨by omega, by omega, by omega, by omega, by omega, by omega, by omega⟩, ⟨by omega, by omega⟩, k41⟩) mf_X12_wrongAt w_1324 0 k41 rfl rfl rfl (Nat.le_of_ble_eq_true rfl) ⟨(Nat.le_of_ble_eq_true rfl), (Nat.le_of_ble_eq_true rfl)⟩ ⟨(Nat.le_of_ble_eq_true rfl), (Nat.le_of_ble_eq_true rfl)⟩ dX12_readsEgg_125 rfl (fun r147 w148 h146 => ?_)
                  obtain ⟨hW149, kq150, e151, x152⟩ := h146
                  refine x_top e151 ?_
                  have k153 : w148[4]? = some (bA E (a 4) 260 tf) := keeps_at kq150 iv44_1 (by first | decide | omega | (dsimp only; omega))
                  have kp154 := keeps_tr kq44 kq150 (fun q hq => by first | omega | (dsimp only at *; omega))
                  obtain ⟨v155, v156, v157, v158, v159, v160, n161, n162, bo163, bo164, k165⟩ := x152
                  exact x_zret C hr hlk rfl dX12_readsEgg_128 ⟨hW149, kp154, (Or.inl rfl), ⟨px, ((nI nm)), by omega, by omega, ⟨v155, v156, v157, v158, v159, v160, n161, n162, ⟨by omega, by omega, by omega, by omega, by omega, by omega, by omega⟩, ⟨by omega, by omega⟩, k165⟩, fun q => absurd rfl q⟩⟩
              · skip
                have nf166 := nI_nlt' (a := nm) (b := 48) c121 (by omega) (by omega)
                refine x_aload_n C dX12_readsEgg_102 rfl 0 rfl rfl ?_
                refine x_iconst C (v := 3) dX12_readsEgg_103 (by decide) rfl ?_
                refine x_iload_n C dX12_readsEgg_104 rfl 2 rfl rfl ?_
                refine x_vi C (As := [.int 3, .int (nI pl)]) (rest := []) (m_wrongAt E l a cd hG kf jn js jq wl44 hWl44 (3 : Int32) ((nI pl)) tp px le cm wt sm lm ((nI nm)) ⟨v31, v32, v33, v34, v35, v36, n37, n38, ⟨by omega, by omega, by omega, by omega, by omega, by omega, by omega⟩, ⟨by omega, by omega⟩, k41⟩) mf_X12_wrongAt w_1324 0 k41 rfl rfl rfl (Nat.le_of_ble_eq_true rfl) ⟨(Nat.le_of_ble_eq_true rfl), (Nat.le_of_ble_eq_true rfl)⟩ ⟨(Nat.le_of_ble_eq_true rfl), (Nat.le_of_ble_eq_true rfl)⟩ dX12_readsEgg_105 rfl (fun r168 w169 h167 => ?_)
                obtain ⟨hW170, kq171, e172, x173⟩ := h167
                refine x_top e172 ?_
                have k174 : w169[4]? = some (bA E (a 4) 260 tf) := keeps_at kq171 iv44_1 (by first | decide | omega | (dsimp only; omega))
                have kp175 := keeps_tr kq44 kq171 (fun q hq => by first | omega | (dsimp only at *; omega))
                obtain ⟨v176, v177, v178, v179, v180, v181, n182, n183, bo184, bo185, k186⟩ := x173
                exact x_zret C hr hlk rfl dX12_readsEgg_108 ⟨hW170, kp175, (Or.inl rfl), ⟨px, ((nI nm)), by omega, by omega, ⟨v176, v177, v178, v179, v180, v181, n182, n183, ⟨by omega, by omega, by omega, by omega, by omega, by omega, by omega⟩, ⟨by omega, by omega⟩, k186⟩, fun q => absurd rfl q⟩⟩
            · skip
              have nf187 := nI_nle' (a := (pl + 2)) (b := px) c119 (by omega) (by omega)
              refine x_aload_n C dX12_readsEgg_61 rfl 0 rfl rfl ?_
              refine x_bipush C (v := 10) dX12_readsEgg_62 (by decide) rfl ?_
              refine x_aload_n C dX12_readsEgg_64 rfl 0 rfl rfl ?_
              refine x_get C (ci := 11) (k := 8) 0 k41 rfl in_X12 (by decide) w_1126 rfl dX12_readsEgg_65 rfl ?_
              refine x_imul C (v := (nI (10 * nm))) dX12_readsEgg_68 (pk_mul 10 nm) rfl ?_
              refine x_aload_n C dX12_readsEgg_69 rfl 0 rfl rfl ?_
              refine x_vi C (As := []) (rest := [.int (nI (10 * nm)), .ref (a 0)]) (m_here E l a cd hG kf jn js jq wl44 hWl44 tp px le cm wt sm lm ((nI nm)) ⟨v31, v32, v33, v34, v35, v36, n37, n38, ⟨by omega, by omega, by omega, by omega, by omega, by omega, by omega⟩, ⟨by omega, by omega⟩, k41⟩ tf iv44_1) mf_X12_here w_1317 0 k41 rfl rfl rfl (Nat.le_of_ble_eq_true rfl) ⟨(Nat.le_of_ble_eq_true rfl), (Nat.le_of_ble_eq_true rfl)⟩ ⟨(Nat.le_of_ble_eq_true rfl), (Nat.le_of_ble_eq_true rfl)⟩ dX12_readsEgg_70 rfl (fun r189 w190 h188 => ?_)
              obtain ⟨hW191, x192⟩ := h188
              refine x_ws hW191 ?_
              refine x_top (x192.trans ed117) ?_
              refine x_iadd C (v := (nI ((10 * nm) + (48 + d115)))) dX12_readsEgg_73 (nI_add (10 * nm) (48 + d115)) rfl ?_
              refine x_bipush C (v := 48) dX12_readsEgg_74 (by decide) rfl ?_
              refine x_isub C (v := (nI (((10 * nm) + (48 + d115)) - 48))) dX12_readsEgg_76 (pk_sub (a := ((10 * nm) + (48 + d115))) (b := 48) (by omega)) rfl ?_
              obtain ⟨w193, hw194⟩ : ∃ w : va_W, w = List.set wl44 0 (ob (a 0) 11 [.ref (a 1), .ref (a 2), .ref (a 3), .ref (a 4), .int (nI tp), .int (nI px), .int (nI le), .int v31, .int (nI (((10 * nm) + (48 + d115)) - 48)), .int v32, .int (nI cm), .int (nI wt), .int (nI sm), .int (nI (cd.2.2.2.2.2)), .ref (a 5), .ref (a 6), .ref (a 7), .ref (a 8), .ref (a 9), .ref (a 10), .ref (a 11), .ref (a 12), .ref (a 13), .ref (a 14), .ref (a 15), .ref (a 16), .ref (a 17), .int (nI lm), .ref (a 18), .ref (a 19), .ref (a 20), .ref (a 21), .int v33, .int v34, .int v35, .int v36, .int (nI n37), .int (nI n38), .ref (a 22), .ref (a 23), .ref (a 24), .ref (a 25), .ref (a 26), .ref (a 27), .ref (a 28), .ref (a 29), .ref (a 30), .int kf]) := ⟨_, rfl⟩
              refine x_put C (ci := 11) (k := 8) (ty := .int) 0 k41 rfl in_X12 tyX12 tyX12_ok nmX12 (by decide) w_1126 rfl rfl rfl rfl (Nat.le_of_ble_eq_true rfl) hw194.symm dX12_readsEgg_77 rfl ?_
              have hW195 : WX (okM E a cd kf jn js jq) w193 := by rw [hw194]; exact hWl44.set (k := 0) rfl ⟨tp, px, le, v31, (nI (((10 * nm) + (48 + d115)) - 48)), v32, cm, wt, sm, lm, v33, v34, v35, v36, n37, n38, by omega, by omega, by omega, by omega, by omega, by omega, by omega, by omega, by omega, rfl⟩
              have k196 : w193[0]? = some (ob (a 0) 11 [.ref (a 1), .ref (a 2), .ref (a 3), .ref (a 4), .int (nI tp), .int (nI px), .int (nI le), .int v31, .int (nI (((10 * nm) + (48 + d115)) - 48)), .int v32, .int (nI cm), .int (nI wt), .int (nI sm), .int (nI (cd.2.2.2.2.2)), .ref (a 5), .ref (a 6), .ref (a 7), .ref (a 8), .ref (a 9), .ref (a 10), .ref (a 11), .ref (a 12), .ref (a 13), .ref (a 14), .ref (a 15), .ref (a 16), .ref (a 17), .int (nI lm), .ref (a 18), .ref (a 19), .ref (a 20), .ref (a 21), .int v33, .int v34, .int v35, .int v36, .int (nI n37), .int (nI n38), .ref (a 22), .ref (a 23), .ref (a 24), .ref (a 25), .ref (a 26), .ref (a 27), .ref (a 28), .ref (a 29), .ref (a 30), .int kf]) := by rw [hw194]; exact set_eq k41
              have k197 : w193[4]? = some (bA E (a 4) 260 tf) := by rw [hw194]; exact set_ne iv44_1 (by decide)
              have kp198 := keeps_set kq44 hw194 (by first | exact rfl | decide | omega | (dsimp only; omega))
              refine x_aload_n C dX12_readsEgg_80 rfl 0 rfl rfl ?_
              refine x_aload_n C dX12_readsEgg_81 rfl 0 rfl rfl ?_
              refine x_get C (ci := 11) (k := 5) 0 k196 rfl in_X12 (by decide) w_1123 rfl dX12_readsEgg_82 rfl ?_
              refine x_iconst C (v := 1) dX12_readsEgg_85 (by decide) rfl ?_
              refine x_iadd C (v := (nI (px + 1))) dX12_readsEgg_86 (nI_add px 1) rfl ?_
              obtain ⟨w199, hw200⟩ : ∃ w : va_W, w = List.set w193 0 (ob (a 0) 11 [.ref (a 1), .ref (a 2), .ref (a 3), .ref (a 4), .int (nI tp), .int (nI (px + 1)), .int (nI le), .int v31, .int (nI (((10 * nm) + (48 + d115)) - 48)), .int v32, .int (nI cm), .int (nI wt), .int (nI sm), .int (nI (cd.2.2.2.2.2)), .ref (a 5), .ref (a 6), .ref (a 7), .ref (a 8), .ref (a 9), .ref (a 10), .ref (a 11), .ref (a 12), .ref (a 13), .ref (a 14), .ref (a 15), .ref (a 16), .ref (a 17), .int (nI lm), .ref (a 18), .ref (a 19), .ref (a 20), .ref (a 21), .int v33, .int v34, .int v35, .int v36, .int (nI n37), .int (nI n38), .ref (a 22), .ref (a 23), .ref (a 24), .ref (a 25), .ref (a 26), .ref (a 27), .ref (a 28), .ref (a 29), .ref (a 30), .int kf]) := ⟨_, rfl⟩
              refine x_put C (ci := 11) (k := 5) (ty := .int) 0 k196 rfl in_X12 tyX12 tyX12_ok nmX12 (by decide) w_1123 rfl rfl rfl rfl (Nat.le_of_ble_eq_true rfl) hw200.symm dX12_readsEgg_87 rfl ?_
              have hW201 : WX (okM E a cd kf jn js jq) w199 := by rw [hw200]; exact hW195.set (k := 0) rfl ⟨tp, (px + 1), le, v31, (nI (((10 * nm) + (48 + d115)) - 48)), v32, cm, wt, sm, lm, v33, v34, v35, v36, n37, n38, by omega, by omega, by omega, by omega, by omega, by omega, by omega, by omega, by omega, rfl⟩
              have k202 : w199[0]? = some (ob (a 0) 11 [.ref (a 1), .ref (a 2), .ref (a 3), .ref (a 4), .int (nI tp), .int (nI (px + 1)), .int (nI le), .int v31, .int (nI (((10 * nm) + (48 + d115)) - 48)), .int v32, .int (nI cm), .int (nI wt), .int (nI sm), .int (nI (cd.2.2.2.2.2)), .ref (a 5), .ref (a 6), .ref (a 7), .ref (a 8), .ref (a 9), .ref (a 10), .ref (a 11), .ref (a 12), .ref (a 13), .ref (a 14), .ref (a 15), .ref (a 16), .ref (a 17), .int (nI lm), .ref (a 18), .ref (a 19), .ref (a 20), .ref (a 21), .int v33, .int v34, .int v35, .int v36, .int (nI n37), .int (nI n38), .ref (a 22), .ref (a 23), .ref (a 24), .ref (a 25), .ref (a 26), .ref (a 27), .ref (a 28), .ref (a 29), .ref (a 30), .int kf]) := by rw [hw200]; exact set_eq k196
              have k203 : w199[4]? = some (bA E (a 4) 260 tf) := by rw [hw200]; exact set_ne k197 (by decide)
              have kp204 := keeps_set kp198 hw200 (by first | exact rfl | decide | omega | (dsimp only; omega))
              refine x_goto C (tgt := 44) dX12_readsEgg_90 (by decide) ?_
              refine x_lv (lv1 := [(0, .ref (a 0)), (1, .int (nI n0)), (2, .int (nI pl))]) [0, 1, 2] rfl ?_
              exact ih44 (px + 1) (((10 * nm) + (48 + d115)) - 48) w199 hW201 (by omega) ⟨v31, v32, v33, v34, v35, v36, n37, n38, ⟨by omega, by omega, by omega, by omega, by omega, by omega, by omega⟩, ⟨by omega, by omega⟩, k202⟩ k203 (by omega) (by omega) kp204
      refine x_lv (lv1 := [(0, .ref (a 0)), (1, .int (nI n0)), (2, .int (nI pl))]) [1, 2, 0] rfl ?_
      exact loop44 _ pl 0 w25 hW27 (Nat.lt_succ_self _) ⟨v1, v2, v3, v4, v5, v6, n7, n8, ⟨by omega, by omega, by omega, by omega, by omega, by omega, by omega⟩, ⟨by omega, by omega⟩, k28⟩ k29 (by omega) (by omega) kp30
    · skip
      have nf205 : n0 = 8 := (nI_eq (by omega) (by omega)).mp c23
      refine x_aload_n C dX12_readsEgg_28 rfl 1 rfl rfl ?_
      refine x_bipush C (v := 6) dX12_readsEgg_29 (by decide) rfl ?_
      refine x_aload_n C dX12_readsEgg_31 rfl 1 rfl rfl ?_
      refine x_get C (ci := 11) (k := 5) 0 k11 rfl in_X12 (by decide) w_1123 rfl dX12_readsEgg_32 rfl ?_
      refine x_vi C (As := [.int 6, .int (nI pl)]) (rest := []) (m_wrongAt E l a cd hG kf jn js jq ws hW (6 : Int32) ((nI pl)) tp pl le cm wt sm lm nu ⟨v1, v2, v3, v4, v5, v6, n7, n8, ⟨by omega, by omega, by omega, by omega, by omega, by omega, by omega⟩, ⟨by omega, by omega⟩, k11⟩) mf_X12_wrongAt w_1324 0 k11 rfl rfl rfl (Nat.le_of_ble_eq_true rfl) ⟨(Nat.le_of_ble_eq_true rfl), (Nat.le_of_ble_eq_true rfl)⟩ ⟨(Nat.le_of_ble_eq_true rfl), (Nat.le_of_ble_eq_true rfl)⟩ dX12_readsEgg_35 rfl (fun r207 w208 h206 => ?_)
      obtain ⟨hW209, kq210, e211, x212⟩ := h206
      refine x_top e211 ?_
      have k213 : w208[4]? = some (bA E (a 4) 260 tf) := keeps_at kq210 htf (by first | decide | omega | (dsimp only; omega))
      have kp214 := keeps_tr kp0 kq210 (fun q hq => by first | omega | (dsimp only at *; omega))
      obtain ⟨v215, v216, v217, v218, v219, v220, n221, n222, bo223, bo224, k225⟩ := x212
      exact x_zret C hr hlk rfl dX12_readsEgg_38 ⟨hW209, kp214, (Or.inl rfl), ⟨pl, nu, by omega, by omega, ⟨v215, v216, v217, v218, v219, v220, n221, n222, ⟨by omega, by omega, by omega, by omega, by omega, by omega, by omega⟩, ⟨by omega, by omega⟩, k225⟩, fun q => absurd rfl q⟩⟩
  · skip
    refine x_aload_n C dX12_readsEgg_12 rfl 1 rfl rfl ?_
    refine x_iconst C (v := 1) dX12_readsEgg_13 (by decide) rfl ?_
    refine x_aload_n C dX12_readsEgg_14 rfl 1 rfl rfl ?_
    refine x_get C (ci := 11) (k := 5) 0 k11 rfl in_X12 (by decide) w_1123 rfl dX12_readsEgg_15 rfl ?_
    refine x_vi C (As := [.int 1, .int (nI pl)]) (rest := []) (m_wrongAt E l a cd hG kf jn js jq ws hW (1 : Int32) ((nI pl)) tp pl le cm wt sm lm nu ⟨v1, v2, v3, v4, v5, v6, n7, n8, ⟨by omega, by omega, by omega, by omega, by omega, by omega, by omega⟩, ⟨by omega, by omega⟩, k11⟩) mf_X12_wrongAt w_1324 0 k11 rfl rfl rfl (Nat.le_of_ble_eq_true rfl) ⟨(Nat.le_of_ble_eq_true rfl), (Nat.le_of_ble_eq_true rfl)⟩ ⟨(Nat.le_of_ble_eq_true rfl), (Nat.le_of_ble_eq_true rfl)⟩ dX12_readsEgg_18 rfl (fun r227 w228 h226 => ?_)
    obtain ⟨hW229, kq230, e231, x232⟩ := h226
    refine x_top e231 ?_
    have k233 : w228[4]? = some (bA E (a 4) 260 tf) := keeps_at kq230 htf (by first | decide | omega | (dsimp only; omega))
    have kp234 := keeps_tr kp0 kq230 (fun q hq => by first | omega | (dsimp only at *; omega))
    obtain ⟨v235, v236, v237, v238, v239, v240, n241, n242, bo243, bo244, k245⟩ := x232
    exact x_zret C hr hlk rfl dX12_readsEgg_21 ⟨hW229, kp234, (Or.inl rfl), ⟨pl, nu, by omega, by omega, ⟨v235, v236, v237, v238, v239, v240, n241, n242, ⟨by omega, by omega, by omega, by omega, by omega, by omega, by omega⟩, ⟨by omega, by omega⟩, k245⟩, fun q => absurd rfl q⟩⟩
theorem dX12_readsEggs_0 : decode cX12_readsEggs 0 = .ok (.aload_n 0, 1) := by decide +kernel
theorem dX12_readsEggs_1 : decode cX12_readsEggs 1 = .ok (.invokevirtual 137, 3) := by decide +kernel
theorem dX12_readsEggs_4 : decode cX12_readsEggs 4 = .ok (.bipush 40, 2) := by decide +kernel
theorem dX12_readsEggs_6 : decode cX12_readsEggs 6 = .ok (.if_icmp .eq 17, 3) := by decide +kernel
theorem dX12_readsEggs_9 : decode cX12_readsEggs 9 = .ok (.aload_n 0, 1) := by decide +kernel
theorem dX12_readsEggs_10 : decode cX12_readsEggs 10 = .ok (.iconst 0, 1) := by decide +kernel
theorem dX12_readsEggs_11 : decode cX12_readsEggs 11 = .ok (.invokevirtual 253, 3) := by decide +kernel
theorem dX12_readsEggs_14 : decode cX12_readsEggs 14 = .ok (.ifCond .eq 7, 3) := by decide +kernel
theorem dX12_readsEggs_17 : decode cX12_readsEggs 17 = .ok (.iconst 1, 1) := by decide +kernel
theorem dX12_readsEggs_18 : decode cX12_readsEggs 18 = .ok (.goto 4, 3) := by decide +kernel
theorem dX12_readsEggs_21 : decode cX12_readsEggs 21 = .ok (.iconst (-1), 1) := by decide +kernel
theorem dX12_readsEggs_22 : decode cX12_readsEggs 22 = .ok (.ireturn, 1) := by decide +kernel
theorem dX12_readsEggs_23 : decode cX12_readsEggs 23 = .ok (.aload_n 0, 1) := by decide +kernel
theorem dX12_readsEggs_24 : decode cX12_readsEggs 24 = .ok (.aload_n 0, 1) := by decide +kernel
theorem dX12_readsEggs_25 : decode cX12_readsEggs 25 = .ok (.getfield 131, 3) := by decide +kernel
theorem dX12_readsEggs_28 : decode cX12_readsEggs 28 = .ok (.iconst 1, 1) := by decide +kernel
theorem dX12_readsEggs_29 : decode cX12_readsEggs 29 = .ok (.iadd, 1) := by decide +kernel
theorem dX12_readsEggs_30 : decode cX12_readsEggs 30 = .ok (.putfield 131, 3) := by decide +kernel
theorem dX12_readsEggs_33 : decode cX12_readsEggs 33 = .ok (.aload_n 0, 1) := by decide +kernel
theorem dX12_readsEggs_34 : decode cX12_readsEggs 34 = .ok (.iconst 0, 1) := by decide +kernel
theorem dX12_readsEggs_35 : decode cX12_readsEggs 35 = .ok (.invokevirtual 253, 3) := by decide +kernel
theorem dX12_readsEggs_38 : decode cX12_readsEggs 38 = .ok (.ifCond .ne 5, 3) := by decide +kernel
theorem dX12_readsEggs_41 : decode cX12_readsEggs 41 = .ok (.iconst (-1), 1) := by decide +kernel
theorem dX12_readsEggs_42 : decode cX12_readsEggs 42 = .ok (.ireturn, 1) := by decide +kernel
theorem dX12_readsEggs_43 : decode cX12_readsEggs 43 = .ok (.iconst 1, 1) := by decide +kernel
theorem dX12_readsEggs_44 : decode cX12_readsEggs 44 = .ok (.istore_n 1, 1) := by decide +kernel
theorem dX12_readsEggs_45 : decode cX12_readsEggs 45 = .ok (.aload_n 0, 1) := by decide +kernel
theorem dX12_readsEggs_46 : decode cX12_readsEggs 46 = .ok (.invokevirtual 137, 3) := by decide +kernel
theorem dX12_readsEggs_49 : decode cX12_readsEggs 49 = .ok (.bipush 43, 2) := by decide +kernel
theorem dX12_readsEggs_51 : decode cX12_readsEggs 51 = .ok (.if_icmp .ne 30, 3) := by decide +kernel
theorem dX12_readsEggs_54 : decode cX12_readsEggs 54 = .ok (.aload_n 0, 1) := by decide +kernel
theorem dX12_readsEggs_55 : decode cX12_readsEggs 55 = .ok (.aload_n 0, 1) := by decide +kernel
theorem dX12_readsEggs_56 : decode cX12_readsEggs 56 = .ok (.getfield 131, 3) := by decide +kernel
theorem dX12_readsEggs_59 : decode cX12_readsEggs 59 = .ok (.iconst 1, 1) := by decide +kernel
theorem dX12_readsEggs_60 : decode cX12_readsEggs 60 = .ok (.iadd, 1) := by decide +kernel
theorem dX12_readsEggs_61 : decode cX12_readsEggs 61 = .ok (.putfield 131, 3) := by decide +kernel
theorem dX12_readsEggs_64 : decode cX12_readsEggs 64 = .ok (.aload_n 0, 1) := by decide +kernel
theorem dX12_readsEggs_65 : decode cX12_readsEggs 65 = .ok (.iload_n 1, 1) := by decide +kernel
theorem dX12_readsEggs_66 : decode cX12_readsEggs 66 = .ok (.invokevirtual 253, 3) := by decide +kernel
theorem dX12_readsEggs_69 : decode cX12_readsEggs 69 = .ok (.ifCond .ne 5, 3) := by decide +kernel
theorem dX12_readsEggs_72 : decode cX12_readsEggs 72 = .ok (.iconst (-1), 1) := by decide +kernel
theorem dX12_readsEggs_73 : decode cX12_readsEggs 73 = .ok (.ireturn, 1) := by decide +kernel
theorem dX12_readsEggs_74 : decode cX12_readsEggs 74 = .ok (.iload_n 1, 1) := by decide +kernel
theorem dX12_readsEggs_75 : decode cX12_readsEggs 75 = .ok (.iconst 1, 1) := by decide +kernel
theorem dX12_readsEggs_76 : decode cX12_readsEggs 76 = .ok (.iadd, 1) := by decide +kernel
theorem dX12_readsEggs_77 : decode cX12_readsEggs 77 = .ok (.istore_n 1, 1) := by decide +kernel
theorem dX12_readsEggs_78 : decode cX12_readsEggs 78 = .ok (.goto (-33), 3) := by decide +kernel
theorem dX12_readsEggs_81 : decode cX12_readsEggs 81 = .ok (.aload_n 0, 1) := by decide +kernel
theorem dX12_readsEggs_82 : decode cX12_readsEggs 82 = .ok (.bipush 41, 2) := by decide +kernel
theorem dX12_readsEggs_84 : decode cX12_readsEggs 84 = .ok (.invokevirtual 220, 3) := by decide +kernel
theorem dX12_readsEggs_87 : decode cX12_readsEggs 87 = .ok (.ifCond .eq 7, 3) := by decide +kernel
theorem dX12_readsEggs_90 : decode cX12_readsEggs 90 = .ok (.iload_n 1, 1) := by decide +kernel
theorem dX12_readsEggs_91 : decode cX12_readsEggs 91 = .ok (.goto 4, 3) := by decide +kernel
theorem dX12_readsEggs_94 : decode cX12_readsEggs 94 = .ok (.iconst (-1), 1) := by decide +kernel
theorem dX12_readsEggs_95 : decode cX12_readsEggs 95 = .ok (.ireturn, 1) := by decide +kernel
set_option maxRecDepth 20000 in
set_option maxHeartbeats 4000000 in
theorem m_readsEggs (E : xE) (l : Launch) (a : Nat → Nat) (cd : Cd) (hG : Good cd) (kf : Int32) (jn js jq : Lb) (ws : va_W) (hW : WX (okM E a cd kf jn js jq) ws) (tp pl le cm wt sm lm : Nat) (nu : Int32) (h0 : MO a cd kf ws tp pl le cm wt sm lm nu) (tf : Nat → Int32) (htf : ws[4]? = some (bA E (a 4) 260 tf)) (hlm : lm ≤ 23) (hpl : pl ≤ le) : xI E l yX12_readsEggs cX12_readsEggs 2 (some .int) 3 [.ref (a 0)] ws (fun r w => WX (okM E a cd kf jn js jq) w ∧ keeps ws w (fun q => q = 0 ∨ q = 21) ∧ (∃ (pl2 : Nat) (nu2 : Int32), pl ≤ pl2 ∧ pl2 ≤ le ∧ MO a cd kf w tp pl2 le cm wt sm lm nu2 ∧ (r = -1 ∨ ∃ mm : Nat, 1 ≤ mm ∧ mm ≤ 8 ∧ r = nI mm))) := by
  refine xI_start (lv := [(0, .ref (a 0))]) RX12 (by decide) rfl (Nat.le_of_ble_eq_true rfl) rfl (fun p e s m below meth c A C hr hlk => ?_)
  have kp0 : keeps ws ws (fun q => q = 0 ∨ q = 21) := keeps_rf
  obtain ⟨v1, v2, v3, v4, v5, v6, n7, n8, bo9, bo10, k11⟩ := h0
  refine x_aload_n C dX12_readsEggs_0 rfl 0 rfl rfl ?_
  refine x_vi C (As := []) (rest := []) (m_here E l a cd hG kf jn js jq ws hW tp pl le cm wt sm lm nu ⟨v1, v2, v3, v4, v5, v6, n7, n8, ⟨by omega, by omega, by omega, by omega, by omega, by omega, by omega⟩, ⟨by omega, by omega⟩, k11⟩ tf htf) mf_X12_here w_1317 0 k11 rfl rfl rfl (Nat.le_of_ble_eq_true rfl) ⟨(Nat.le_of_ble_eq_true rfl), (Nat.le_of_ble_eq_true rfl)⟩ ⟨(Nat.le_of_ble_eq_true rfl), (Nat.le_of_ble_eq_true rfl)⟩ dX12_readsEggs_1 rfl (fun r13 w14 h12 => ?_)
  obtain ⟨hW15, x16⟩ := h12
  refine x_ws hW15 ?_
  refine x_bipush C (v := 40) dX12_readsEggs_4 (by decide) rfl ?_
  refine x_icmp_eq C (tgt := 23) dX12_readsEggs_6 (by decide) rfl (fun c17 => ?_) (fun c17 => ?_)
  · skip
    have hp18 := hv_lt (x16.symm.trans c17) (by decide)
    refine x_aload_n C dX12_readsEggs_23 rfl 0 rfl rfl ?_
    refine x_aload_n C dX12_readsEggs_24 rfl 0 rfl rfl ?_
    refine x_get C (ci := 11) (k := 5) 0 k11 rfl in_X12 (by decide) w_1123 rfl dX12_readsEggs_25 rfl ?_
    refine x_iconst C (v := 1) dX12_readsEggs_28 (by decide) rfl ?_
    refine x_iadd C (v := (nI (pl + 1))) dX12_readsEggs_29 (nI_add pl 1) rfl ?_
    obtain ⟨w19, hw20⟩ : ∃ w : va_W, w = List.set ws 0 (ob (a 0) 11 [.ref (a 1), .ref (a 2), .ref (a 3), .ref (a 4), .int (nI tp), .int (nI (pl + 1)), .int (nI le), .int v1, .int nu, .int v2, .int (nI cm), .int (nI wt), .int (nI sm), .int (nI (cd.2.2.2.2.2)), .ref (a 5), .ref (a 6), .ref (a 7), .ref (a 8), .ref (a 9), .ref (a 10), .ref (a 11), .ref (a 12), .ref (a 13), .ref (a 14), .ref (a 15), .ref (a 16), .ref (a 17), .int (nI lm), .ref (a 18), .ref (a 19), .ref (a 20), .ref (a 21), .int v3, .int v4, .int v5, .int v6, .int (nI n7), .int (nI n8), .ref (a 22), .ref (a 23), .ref (a 24), .ref (a 25), .ref (a 26), .ref (a 27), .ref (a 28), .ref (a 29), .ref (a 30), .int kf]) := ⟨_, rfl⟩
    refine x_put C (ci := 11) (k := 5) (ty := .int) 0 k11 rfl in_X12 tyX12 tyX12_ok nmX12 (by decide) w_1123 rfl rfl rfl rfl (Nat.le_of_ble_eq_true rfl) hw20.symm dX12_readsEggs_30 rfl ?_
    have hW21 : WX (okM E a cd kf jn js jq) w19 := by rw [hw20]; exact hW.set (k := 0) rfl ⟨tp, (pl + 1), le, v1, nu, v2, cm, wt, sm, lm, v3, v4, v5, v6, n7, n8, by omega, by omega, by omega, by omega, by omega, by omega, by omega, by omega, by omega, rfl⟩
    have k22 : w19[0]? = some (ob (a 0) 11 [.ref (a 1), .ref (a 2), .ref (a 3), .ref (a 4), .int (nI tp), .int (nI (pl + 1)), .int (nI le), .int v1, .int nu, .int v2, .int (nI cm), .int (nI wt), .int (nI sm), .int (nI (cd.2.2.2.2.2)), .ref (a 5), .ref (a 6), .ref (a 7), .ref (a 8), .ref (a 9), .ref (a 10), .ref (a 11), .ref (a 12), .ref (a 13), .ref (a 14), .ref (a 15), .ref (a 16), .ref (a 17), .int (nI lm), .ref (a 18), .ref (a 19), .ref (a 20), .ref (a 21), .int v3, .int v4, .int v5, .int v6, .int (nI n7), .int (nI n8), .ref (a 22), .ref (a 23), .ref (a 24), .ref (a 25), .ref (a 26), .ref (a 27), .ref (a 28), .ref (a 29), .ref (a 30), .int kf]) := by rw [hw20]; exact set_eq k11
    have k23 : w19[4]? = some (bA E (a 4) 260 tf) := by rw [hw20]; exact set_ne htf (by decide)
    have kp24 := keeps_set kp0 hw20 (by first | exact rfl | decide | omega | (dsimp only; omega))
    refine x_aload_n C dX12_readsEggs_33 rfl 0 rfl rfl ?_
    refine x_iconst C (v := 0) dX12_readsEggs_34 (by decide) rfl ?_
    refine x_vi C (As := [.int 0]) (rest := []) (m_readsEgg E l a cd hG kf jn js jq w19 hW21 0 (by omega) tp (pl + 1) le cm wt sm lm nu ⟨v1, v2, v3, v4, v5, v6, n7, n8, ⟨by omega, by omega, by omega, by omega, by omega, by omega, by omega⟩, ⟨by omega, by omega⟩, k22⟩ tf k23 (by omega) (by omega)) mf_X12_readsEgg w_1411 0 k22 rfl rfl rfl (Nat.le_of_ble_eq_true rfl) ⟨(Nat.le_of_ble_eq_true rfl), (Nat.le_of_ble_eq_true rfl)⟩ ⟨(Nat.le_of_ble_eq_true rfl), (Nat.le_of_ble_eq_true rfl)⟩ dX12_readsEggs_35 rfl (fun r26 w27 h25 => ?_)
    obtain ⟨hW28, kq29, zb30, x31⟩ := h25
    have k32 : w27[4]? = some (bA E (a 4) 260 tf) := keeps_at kq29 k23 (by first | decide | omega | (dsimp only; omega))
    have kp33 := keeps_tr kp24 kq29 (fun q hq => by first | omega | (dsimp only at *; omega))
    obtain ⟨pl34, nu35, hp36, hp37, mo38, hx39⟩ := x31
    obtain ⟨v40, v41, v42, v43, v44, v45, n46, n47, bo48, bo49, k50⟩ := mo38
    refine x_if_ne C (tgt := 43) dX12_readsEggs_38 (by decide) rfl (fun c51 => ?_) (fun c51 => ?_)
    · skip
      refine x_iconst C (v := 1) dX12_readsEggs_43 (by decide) rfl ?_
      refine x_istore_n C (lv' := [(1, .int 1), (0, .ref (a 0))]) dX12_readsEggs_44 rfl (by decide) rfl rfl ?_
      have loop45 : ∀ (fu45 : Nat) (mm : Nat) (px : Nat) (nz : Int32) (wl45 : va_W), WX (okM E a cd kf jn js jq) wl45 → le - px < fu45 → MO a cd kf wl45 tp px le cm wt sm lm nz → wl45[4]? = some (bA E (a 4) 260 tf) → 1 ≤ mm ∧ mm ≤ 8 → pl ≤ px ∧ px ≤ le → keeps ws wl45 (fun q => q = 0 ∨ q = 21) → X E p l e (xRm 3 0 0) s m ([.ref (a 0)] : List Value).toArray below meth c A 2 0 0 (MQ below (va_Qi (fun r w => WX (okM E a cd kf jn js jq) w ∧ keeps ws w (fun q => q = 0 ∨ q = 21) ∧ (∃ (pl2 : Nat) (nu2 : Int32), pl ≤ pl2 ∧ pl2 ≤ le ∧ MO a cd kf w tp pl2 le cm wt sm lm nu2 ∧ (r = -1 ∨ ∃ mm : Nat, 1 ≤ mm ∧ mm ≤ 8 ∧ r = nI mm))) (xB E A) A) ([.ref (a 0)] : List Value).toArray s 0 0 A) wl45 45 [(0, .ref (a 0)), (1, .int (nI mm))] [] := by
        intro fu45
        induction fu45 with
        | zero => intro mm px nz wl45 _ q; omega
        | succ fu45 ih45 =>
          intro mm px nz wl45 hWl45 me45 iv45_0 iv45_1 iv45_2 iv45_3 kq45
          obtain ⟨v52, v53, v54, v55, v56, v57, n58, n59, bo60, bo61, k62⟩ := iv45_0
          refine x_aload_n C dX12_readsEggs_45 rfl 0 rfl rfl ?_
          refine x_vi C (As := []) (rest := []) (m_here E l a cd hG kf jn js jq wl45 hWl45 tp px le cm wt sm lm nz ⟨v52, v53, v54, v55, v56, v57, n58, n59, ⟨by omega, by omega, by omega, by omega, by omega, by omega, by omega⟩, ⟨by omega, by omega⟩, k62⟩ tf iv45_1) mf_X12_here w_1317 0 k62 rfl rfl rfl (Nat.le_of_ble_eq_true rfl) ⟨(Nat.le_of_ble_eq_true rfl), (Nat.le_of_ble_eq_true rfl)⟩ ⟨(Nat.le_of_ble_eq_true rfl), (Nat.le_of_ble_eq_true rfl)⟩ dX12_readsEggs_46 rfl (fun r64 w65 h63 => ?_)
          obtain ⟨hW66, x67⟩ := h63
          refine x_ws hW66 ?_
          refine x_bipush C (v := 43) dX12_readsEggs_49 (by decide) rfl ?_
          refine x_icmp_ne C (tgt := 81) dX12_readsEggs_51 (by decide) rfl (fun c68 => ?_) (fun c68 => ?_)
          · skip
            refine x_aload_n C dX12_readsEggs_81 rfl 0 rfl rfl ?_
            refine x_bipush C (v := 41) dX12_readsEggs_82 (by decide) rfl ?_
            refine x_vi C (As := [.int 41]) (rest := []) (m_takes41 E l a cd hG kf jn js jq wl45 hWl45 tp px le cm wt sm lm nz ⟨v52, v53, v54, v55, v56, v57, n58, n59, ⟨by omega, by omega, by omega, by omega, by omega, by omega, by omega⟩, ⟨by omega, by omega⟩, k62⟩ tf iv45_1) mf_X12_takes w_1391 0 k62 rfl rfl rfl (Nat.le_of_ble_eq_true rfl) ⟨(Nat.le_of_ble_eq_true rfl), (Nat.le_of_ble_eq_true rfl)⟩ ⟨(Nat.le_of_ble_eq_true rfl), (Nat.le_of_ble_eq_true rfl)⟩ dX12_readsEggs_84 rfl (fun r70 w71 h69 => ?_)
            obtain ⟨hW72, kq73, zb74, x75⟩ := h69
            have k76 : w71[4]? = some (bA E (a 4) 260 tf) := keeps_at kq73 iv45_1 (by first | decide | omega | (dsimp only; omega))
            have kp77 := keeps_tr kq45 kq73 (fun q hq => by first | omega | (dsimp only at *; omega))
            rcases x75 with ⟨e78, mo79⟩ | ⟨e80, hp81, mo82⟩
            · refine x_top e78 ?_
              obtain ⟨v83, v84, v85, v86, v87, v88, n89, n90, bo91, bo92, k93⟩ := mo79
              refine x_if_eq C (tgt := 94) dX12_readsEggs_87 (by decide) rfl (fun _ => ?_) (fun h => absurd h (by decide))
              refine x_iconst C (v := (-1)) dX12_readsEggs_94 (by decide) rfl ?_
              exact x_zret C hr hlk rfl dX12_readsEggs_95 ⟨hW72, kp77, ⟨px, nz, by omega, by omega, ⟨v83, v84, v85, v86, v87, v88, n89, n90, ⟨by omega, by omega, by omega, by omega, by omega, by omega, by omega⟩, ⟨by omega, by omega⟩, k93⟩, Or.inl rfl⟩⟩
            · refine x_top e80 ?_
              obtain ⟨v94, v95, v96, v97, v98, v99, n100, n101, bo102, bo103, k104⟩ := mo82
              refine x_if_eq C (tgt := 94) dX12_readsEggs_87 (by decide) rfl (fun h => absurd h (by decide)) (fun _ => ?_)
              refine x_iload_n C dX12_readsEggs_90 rfl 1 rfl rfl ?_
              refine x_goto C (tgt := 95) dX12_readsEggs_91 (by decide) ?_
              exact x_zret C hr hlk rfl dX12_readsEggs_95 ⟨hW72, kp77, ⟨(px + 1), nz, by omega, by omega, ⟨v94, v95, v96, v97, v98, v99, n100, n101, ⟨by omega, by omega, by omega, by omega, by omega, by omega, by omega⟩, ⟨by omega, by omega⟩, k104⟩, Or.inr ⟨mm, by omega, by omega, rfl⟩⟩⟩
          · skip
            have hp105 := hv_lt (x67.symm.trans c68) (by decide)
            refine x_aload_n C dX12_readsEggs_54 rfl 0 rfl rfl ?_
            refine x_aload_n C dX12_readsEggs_55 rfl 0 rfl rfl ?_
            refine x_get C (ci := 11) (k := 5) 0 k62 rfl in_X12 (by decide) w_1123 rfl dX12_readsEggs_56 rfl ?_
            refine x_iconst C (v := 1) dX12_readsEggs_59 (by decide) rfl ?_
            refine x_iadd C (v := (nI (px + 1))) dX12_readsEggs_60 (nI_add px 1) rfl ?_
            obtain ⟨w106, hw107⟩ : ∃ w : va_W, w = List.set wl45 0 (ob (a 0) 11 [.ref (a 1), .ref (a 2), .ref (a 3), .ref (a 4), .int (nI tp), .int (nI (px + 1)), .int (nI le), .int v52, .int nz, .int v53, .int (nI cm), .int (nI wt), .int (nI sm), .int (nI (cd.2.2.2.2.2)), .ref (a 5), .ref (a 6), .ref (a 7), .ref (a 8), .ref (a 9), .ref (a 10), .ref (a 11), .ref (a 12), .ref (a 13), .ref (a 14), .ref (a 15), .ref (a 16), .ref (a 17), .int (nI lm), .ref (a 18), .ref (a 19), .ref (a 20), .ref (a 21), .int v54, .int v55, .int v56, .int v57, .int (nI n58), .int (nI n59), .ref (a 22), .ref (a 23), .ref (a 24), .ref (a 25), .ref (a 26), .ref (a 27), .ref (a 28), .ref (a 29), .ref (a 30), .int kf]) := ⟨_, rfl⟩
            refine x_put C (ci := 11) (k := 5) (ty := .int) 0 k62 rfl in_X12 tyX12 tyX12_ok nmX12 (by decide) w_1123 rfl rfl rfl rfl (Nat.le_of_ble_eq_true rfl) hw107.symm dX12_readsEggs_61 rfl ?_
            have hW108 : WX (okM E a cd kf jn js jq) w106 := by rw [hw107]; exact hWl45.set (k := 0) rfl ⟨tp, (px + 1), le, v52, nz, v53, cm, wt, sm, lm, v54, v55, v56, v57, n58, n59, by omega, by omega, by omega, by omega, by omega, by omega, by omega, by omega, by omega, rfl⟩
            have k109 : w106[0]? = some (ob (a 0) 11 [.ref (a 1), .ref (a 2), .ref (a 3), .ref (a 4), .int (nI tp), .int (nI (px + 1)), .int (nI le), .int v52, .int nz, .int v53, .int (nI cm), .int (nI wt), .int (nI sm), .int (nI (cd.2.2.2.2.2)), .ref (a 5), .ref (a 6), .ref (a 7), .ref (a 8), .ref (a 9), .ref (a 10), .ref (a 11), .ref (a 12), .ref (a 13), .ref (a 14), .ref (a 15), .ref (a 16), .ref (a 17), .int (nI lm), .ref (a 18), .ref (a 19), .ref (a 20), .ref (a 21), .int v54, .int v55, .int v56, .int v57, .int (nI n58), .int (nI n59), .ref (a 22), .ref (a 23), .ref (a 24), .ref (a 25), .ref (a 26), .ref (a 27), .ref (a 28), .ref (a 29), .ref (a 30), .int kf]) := by rw [hw107]; exact set_eq k62
            have k110 : w106[4]? = some (bA E (a 4) 260 tf) := by rw [hw107]; exact set_ne iv45_1 (by decide)
            have kp111 := keeps_set kq45 hw107 (by first | exact rfl | decide | omega | (dsimp only; omega))
            refine x_aload_n C dX12_readsEggs_64 rfl 0 rfl rfl ?_
            refine x_iload_n C dX12_readsEggs_65 rfl 1 rfl rfl ?_
            refine x_vi C (As := [.int (nI mm)]) (rest := []) (m_readsEgg E l a cd hG kf jn js jq w106 hW108 mm (by omega) tp (px + 1) le cm wt sm lm nz ⟨v52, v53, v54, v55, v56, v57, n58, n59, ⟨by omega, by omega, by omega, by omega, by omega, by omega, by omega⟩, ⟨by omega, by omega⟩, k109⟩ tf k110 (by omega) (by omega)) mf_X12_readsEgg w_1411 0 k109 rfl rfl rfl (Nat.le_of_ble_eq_true rfl) ⟨(Nat.le_of_ble_eq_true rfl), (Nat.le_of_ble_eq_true rfl)⟩ ⟨(Nat.le_of_ble_eq_true rfl), (Nat.le_of_ble_eq_true rfl)⟩ dX12_readsEggs_66 rfl (fun r113 w114 h112 => ?_)
            obtain ⟨hW115, kq116, zb117, x118⟩ := h112
            have k119 : w114[4]? = some (bA E (a 4) 260 tf) := keeps_at kq116 k110 (by first | decide | omega | (dsimp only; omega))
            have kp120 := keeps_tr kp111 kq116 (fun q hq => by first | omega | (dsimp only at *; omega))
            obtain ⟨pl121, nu122, hp123, hp124, mo125, hx126⟩ := x118
            obtain ⟨v127, v128, v129, v130, v131, v132, n133, n134, bo135, bo136, k137⟩ := mo125
            refine x_if_ne C (tgt := 74) dX12_readsEggs_69 (by decide) rfl (fun c138 => ?_) (fun c138 => ?_)
            · skip
              have h7139 := hx126 c138
              refine x_iload_n C dX12_readsEggs_74 rfl 1 rfl rfl ?_
              refine x_iconst C (v := 1) dX12_readsEggs_75 (by decide) rfl ?_
              refine x_iadd C (v := (nI (mm + 1))) dX12_readsEggs_76 (nI_add mm 1) rfl ?_
              refine x_istore_n C (lv' := [(1, .int (nI (mm + 1))), (0, .ref (a 0))]) dX12_readsEggs_77 rfl (by decide) rfl rfl ?_
              refine x_goto C (tgt := 45) dX12_readsEggs_78 (by decide) ?_
              refine x_lv (lv1 := [(0, .ref (a 0)), (1, .int (nI (mm + 1)))]) [1, 0] rfl ?_
              exact ih45 (mm + 1) pl121 nu122 w114 hW115 (by omega) ⟨v127, v128, v129, v130, v131, v132, n133, n134, ⟨by omega, by omega, by omega, by omega, by omega, by omega, by omega⟩, ⟨by omega, by omega⟩, k137⟩ k119 (by omega) (by omega) kp120
            · skip
              refine x_iconst C (v := (-1)) dX12_readsEggs_72 (by decide) rfl ?_
              exact x_zret C hr hlk rfl dX12_readsEggs_73 ⟨hW115, kp120, ⟨pl121, nu122, by omega, by omega, ⟨v127, v128, v129, v130, v131, v132, n133, n134, ⟨by omega, by omega, by omega, by omega, by omega, by omega, by omega⟩, ⟨by omega, by omega⟩, k137⟩, Or.inl rfl⟩⟩
      refine x_lv (lv1 := [(0, .ref (a 0)), (1, .int 1)]) [1, 0] rfl ?_
      exact loop45 _ 1 pl34 nu35 w27 hW28 (Nat.lt_succ_self _) ⟨v40, v41, v42, v43, v44, v45, n46, n47, ⟨by omega, by omega, by omega, by omega, by omega, by omega, by omega⟩, ⟨by omega, by omega⟩, k50⟩ k32 (by omega) (by omega) kp33
    · skip
      refine x_iconst C (v := (-1)) dX12_readsEggs_41 (by decide) rfl ?_
      exact x_zret C hr hlk rfl dX12_readsEggs_42 ⟨hW28, kp33, ⟨pl34, nu35, by omega, by omega, ⟨v40, v41, v42, v43, v44, v45, n46, n47, ⟨by omega, by omega, by omega, by omega, by omega, by omega, by omega⟩, ⟨by omega, by omega⟩, k50⟩, Or.inl rfl⟩⟩
  · skip
    refine x_aload_n C dX12_readsEggs_9 rfl 0 rfl rfl ?_
    refine x_iconst C (v := 0) dX12_readsEggs_10 (by decide) rfl ?_
    refine x_vi C (As := [.int 0]) (rest := []) (m_readsEgg E l a cd hG kf jn js jq ws hW 0 (by omega) tp pl le cm wt sm lm nu ⟨v1, v2, v3, v4, v5, v6, n7, n8, ⟨by omega, by omega, by omega, by omega, by omega, by omega, by omega⟩, ⟨by omega, by omega⟩, k11⟩ tf htf (by omega) (by omega)) mf_X12_readsEgg w_1411 0 k11 rfl rfl rfl (Nat.le_of_ble_eq_true rfl) ⟨(Nat.le_of_ble_eq_true rfl), (Nat.le_of_ble_eq_true rfl)⟩ ⟨(Nat.le_of_ble_eq_true rfl), (Nat.le_of_ble_eq_true rfl)⟩ dX12_readsEggs_11 rfl (fun r141 w142 h140 => ?_)
    obtain ⟨hW143, kq144, zb145, x146⟩ := h140
    have k147 : w142[4]? = some (bA E (a 4) 260 tf) := keeps_at kq144 htf (by first | decide | omega | (dsimp only; omega))
    have kp148 := keeps_tr kp0 kq144 (fun q hq => by first | omega | (dsimp only at *; omega))
    obtain ⟨pl149, nu150, hp151, hp152, mo153, hx154⟩ := x146
    obtain ⟨v155, v156, v157, v158, v159, v160, n161, n162, bo163, bo164, k165⟩ := mo153
    refine x_if_eq C (tgt := 21) dX12_readsEggs_14 (by decide) rfl (fun c166 => ?_) (fun c166 => ?_)
    · skip
      refine x_iconst C (v := (-1)) dX12_readsEggs_21 (by decide) rfl ?_
      exact x_zret C hr hlk rfl dX12_readsEggs_22 ⟨hW143, kp148, ⟨pl149, nu150, by omega, by omega, ⟨v155, v156, v157, v158, v159, v160, n161, n162, ⟨by omega, by omega, by omega, by omega, by omega, by omega, by omega⟩, ⟨by omega, by omega⟩, k165⟩, Or.inl rfl⟩⟩
    · skip
      refine x_iconst C (v := 1) dX12_readsEggs_17 (by decide) rfl ?_
      refine x_goto C (tgt := 22) dX12_readsEggs_18 (by decide) ?_
      exact x_zret C hr hlk rfl dX12_readsEggs_22 ⟨hW143, kp148, ⟨pl149, nu150, by omega, by omega, ⟨v155, v156, v157, v158, v159, v160, n161, n162, ⟨by omega, by omega, by omega, by omega, by omega, by omega, by omega⟩, ⟨by omega, by omega⟩, k165⟩, Or.inr ⟨1, by omega, by omega, rfl⟩⟩⟩
theorem dX12_readsLine_0 : decode cX12_readsLine 0 = .ok (.aload_n 0, 1) := by decide +kernel
theorem dX12_readsLine_1 : decode cX12_readsLine 1 = .ok (.invokevirtual 150, 3) := by decide +kernel
theorem dX12_readsLine_4 : decode cX12_readsLine 4 = .ok (.ifCond .ne 22, 3) := by decide +kernel
theorem dX12_readsLine_7 : decode cX12_readsLine 7 = .ok (.aload_n 0, 1) := by decide +kernel
theorem dX12_readsLine_8 : decode cX12_readsLine 8 = .ok (.invokevirtual 137, 3) := by decide +kernel
theorem dX12_readsLine_11 : decode cX12_readsLine 11 = .ok (.bipush 40, 2) := by decide +kernel
theorem dX12_readsLine_13 : decode cX12_readsLine 13 = .ok (.if_icmp .eq 13, 3) := by decide +kernel
theorem dX12_readsLine_16 : decode cX12_readsLine 16 = .ok (.aload_n 0, 1) := by decide +kernel
theorem dX12_readsLine_17 : decode cX12_readsLine 17 = .ok (.iconst 1, 1) := by decide +kernel
theorem dX12_readsLine_18 : decode cX12_readsLine 18 = .ok (.aload_n 0, 1) := by decide +kernel
theorem dX12_readsLine_19 : decode cX12_readsLine 19 = .ok (.getfield 131, 3) := by decide +kernel
theorem dX12_readsLine_22 : decode cX12_readsLine 22 = .ok (.invokevirtual 144, 3) := by decide +kernel
theorem dX12_readsLine_25 : decode cX12_readsLine 25 = .ok (.ireturn, 1) := by decide +kernel
theorem dX12_readsLine_26 : decode cX12_readsLine 26 = .ok (.aload_n 0, 1) := by decide +kernel
theorem dX12_readsLine_27 : decode cX12_readsLine 27 = .ok (.getfield 247, 3) := by decide +kernel
theorem dX12_readsLine_30 : decode cX12_readsLine 30 = .ok (.bipush 24, 2) := by decide +kernel
theorem dX12_readsLine_32 : decode cX12_readsLine 32 = .ok (.if_icmp .ne 13, 3) := by decide +kernel
theorem dX12_readsLine_35 : decode cX12_readsLine 35 = .ok (.aload_n 0, 1) := by decide +kernel
theorem dX12_readsLine_36 : decode cX12_readsLine 36 = .ok (.iconst 4, 1) := by decide +kernel
theorem dX12_readsLine_37 : decode cX12_readsLine 37 = .ok (.aload_n 0, 1) := by decide +kernel
theorem dX12_readsLine_38 : decode cX12_readsLine 38 = .ok (.getfield 131, 3) := by decide +kernel
theorem dX12_readsLine_41 : decode cX12_readsLine 41 = .ok (.invokevirtual 144, 3) := by decide +kernel
theorem dX12_readsLine_44 : decode cX12_readsLine 44 = .ok (.ireturn, 1) := by decide +kernel
theorem dX12_readsLine_45 : decode cX12_readsLine 45 = .ok (.aload_n 0, 1) := by decide +kernel
theorem dX12_readsLine_46 : decode cX12_readsLine 46 = .ok (.invokevirtual 256, 3) := by decide +kernel
theorem dX12_readsLine_49 : decode cX12_readsLine 49 = .ok (.istore_n 1, 1) := by decide +kernel
theorem dX12_readsLine_50 : decode cX12_readsLine 50 = .ok (.iload_n 1, 1) := by decide +kernel
theorem dX12_readsLine_51 : decode cX12_readsLine 51 = .ok (.iconst (-1), 1) := by decide +kernel
theorem dX12_readsLine_52 : decode cX12_readsLine 52 = .ok (.if_icmp .ne 5, 3) := by decide +kernel
theorem dX12_readsLine_55 : decode cX12_readsLine 55 = .ok (.iconst 0, 1) := by decide +kernel
theorem dX12_readsLine_56 : decode cX12_readsLine 56 = .ok (.ireturn, 1) := by decide +kernel
theorem dX12_readsLine_57 : decode cX12_readsLine 57 = .ok (.aload_n 0, 1) := by decide +kernel
theorem dX12_readsLine_58 : decode cX12_readsLine 58 = .ok (.invokevirtual 137, 3) := by decide +kernel
theorem dX12_readsLine_61 : decode cX12_readsLine 61 = .ok (.istore_n 2, 1) := by decide +kernel
theorem dX12_readsLine_62 : decode cX12_readsLine 62 = .ok (.iload_n 2, 1) := by decide +kernel
theorem dX12_readsLine_63 : decode cX12_readsLine 63 = .ok (.bipush 62, 2) := by decide +kernel
theorem dX12_readsLine_65 : decode cX12_readsLine 65 = .ok (.if_icmp .eq 31, 3) := by decide +kernel
theorem dX12_readsLine_68 : decode cX12_readsLine 68 = .ok (.iload_n 2, 1) := by decide +kernel
theorem dX12_readsLine_69 : decode cX12_readsLine 69 = .ok (.bipush 33, 2) := by decide +kernel
theorem dX12_readsLine_71 : decode cX12_readsLine 71 = .ok (.if_icmp .eq 25, 3) := by decide +kernel
theorem dX12_readsLine_74 : decode cX12_readsLine 74 = .ok (.iload_n 2, 1) := by decide +kernel
theorem dX12_readsLine_75 : decode cX12_readsLine 75 = .ok (.bipush 46, 2) := by decide +kernel
theorem dX12_readsLine_77 : decode cX12_readsLine 77 = .ok (.if_icmp .eq 19, 3) := by decide +kernel
theorem dX12_readsLine_80 : decode cX12_readsLine 80 = .ok (.iload_n 2, 1) := by decide +kernel
theorem dX12_readsLine_81 : decode cX12_readsLine 81 = .ok (.bipush 42, 2) := by decide +kernel
theorem dX12_readsLine_83 : decode cX12_readsLine 83 = .ok (.if_icmp .eq 13, 3) := by decide +kernel
theorem dX12_readsLine_86 : decode cX12_readsLine 86 = .ok (.aload_n 0, 1) := by decide +kernel
theorem dX12_readsLine_87 : decode cX12_readsLine 87 = .ok (.iconst 1, 1) := by decide +kernel
theorem dX12_readsLine_88 : decode cX12_readsLine 88 = .ok (.aload_n 0, 1) := by decide +kernel
theorem dX12_readsLine_89 : decode cX12_readsLine 89 = .ok (.getfield 131, 3) := by decide +kernel
theorem dX12_readsLine_92 : decode cX12_readsLine 92 = .ok (.invokevirtual 144, 3) := by decide +kernel
theorem dX12_readsLine_95 : decode cX12_readsLine 95 = .ok (.ireturn, 1) := by decide +kernel
theorem dX12_readsLine_96 : decode cX12_readsLine 96 = .ok (.aload_n 0, 1) := by decide +kernel
theorem dX12_readsLine_97 : decode cX12_readsLine 97 = .ok (.aload_n 0, 1) := by decide +kernel
theorem dX12_readsLine_98 : decode cX12_readsLine 98 = .ok (.getfield 131, 3) := by decide +kernel
theorem dX12_readsLine_101 : decode cX12_readsLine 101 = .ok (.iconst 1, 1) := by decide +kernel
theorem dX12_readsLine_102 : decode cX12_readsLine 102 = .ok (.iadd, 1) := by decide +kernel
theorem dX12_readsLine_103 : decode cX12_readsLine 103 = .ok (.putfield 131, 3) := by decide +kernel
theorem dX12_readsLine_106 : decode cX12_readsLine 106 = .ok (.aload_n 0, 1) := by decide +kernel
theorem dX12_readsLine_107 : decode cX12_readsLine 107 = .ok (.getfield 65, 3) := by decide +kernel
theorem dX12_readsLine_110 : decode cX12_readsLine 110 = .ok (.aload_n 0, 1) := by decide +kernel
theorem dX12_readsLine_111 : decode cX12_readsLine 111 = .ok (.getfield 247, 3) := by decide +kernel
theorem dX12_readsLine_114 : decode cX12_readsLine 114 = .ok (.iload_n 2, 1) := by decide +kernel
theorem dX12_readsLine_115 : decode cX12_readsLine 115 = .ok (.iastore, 1) := by decide +kernel
theorem dX12_readsLine_116 : decode cX12_readsLine 116 = .ok (.aload_n 0, 1) := by decide +kernel
theorem dX12_readsLine_117 : decode cX12_readsLine 117 = .ok (.getfield 68, 3) := by decide +kernel
theorem dX12_readsLine_120 : decode cX12_readsLine 120 = .ok (.aload_n 0, 1) := by decide +kernel
theorem dX12_readsLine_121 : decode cX12_readsLine 121 = .ok (.getfield 247, 3) := by decide +kernel
theorem dX12_readsLine_124 : decode cX12_readsLine 124 = .ok (.iconst 0, 1) := by decide +kernel
theorem dX12_readsLine_125 : decode cX12_readsLine 125 = .ok (.iastore, 1) := by decide +kernel
theorem dX12_readsLine_126 : decode cX12_readsLine 126 = .ok (.iload_n 2, 1) := by decide +kernel
theorem dX12_readsLine_127 : decode cX12_readsLine 127 = .ok (.bipush 62, 2) := by decide +kernel
theorem dX12_readsLine_129 : decode cX12_readsLine 129 = .ok (.if_icmp .eq 9, 3) := by decide +kernel
theorem dX12_readsLine_132 : decode cX12_readsLine 132 = .ok (.iload_n 2, 1) := by decide +kernel
theorem dX12_readsLine_133 : decode cX12_readsLine 133 = .ok (.bipush 33, 2) := by decide +kernel
theorem dX12_readsLine_135 : decode cX12_readsLine 135 = .ok (.if_icmp .ne 65, 3) := by decide +kernel
theorem dX12_readsLine_138 : decode cX12_readsLine 138 = .ok (.aload_n 0, 1) := by decide +kernel
theorem dX12_readsLine_139 : decode cX12_readsLine 139 = .ok (.invokevirtual 150, 3) := by decide +kernel
theorem dX12_readsLine_142 : decode cX12_readsLine 142 = .ok (.ifCond .ne 13, 3) := by decide +kernel
theorem dX12_readsLine_145 : decode cX12_readsLine 145 = .ok (.aload_n 0, 1) := by decide +kernel
theorem dX12_readsLine_146 : decode cX12_readsLine 146 = .ok (.iconst 1, 1) := by decide +kernel
theorem dX12_readsLine_147 : decode cX12_readsLine 147 = .ok (.aload_n 0, 1) := by decide +kernel
theorem dX12_readsLine_148 : decode cX12_readsLine 148 = .ok (.getfield 131, 3) := by decide +kernel
theorem dX12_readsLine_151 : decode cX12_readsLine 151 = .ok (.invokevirtual 144, 3) := by decide +kernel
theorem dX12_readsLine_154 : decode cX12_readsLine 154 = .ok (.ireturn, 1) := by decide +kernel
theorem dX12_readsLine_155 : decode cX12_readsLine 155 = .ok (.aload_n 0, 1) := by decide +kernel
theorem dX12_readsLine_156 : decode cX12_readsLine 156 = .ok (.invokevirtual 137, 3) := by decide +kernel
theorem dX12_readsLine_159 : decode cX12_readsLine 159 = .ok (.bipush 55, 2) := by decide +kernel
theorem dX12_readsLine_161 : decode cX12_readsLine 161 = .ok (.if_icmp .le 13, 3) := by decide +kernel
theorem dX12_readsLine_164 : decode cX12_readsLine 164 = .ok (.aload_n 0, 1) := by decide +kernel
theorem dX12_readsLine_165 : decode cX12_readsLine 165 = .ok (.iconst 3, 1) := by decide +kernel
theorem dX12_readsLine_166 : decode cX12_readsLine 166 = .ok (.aload_n 0, 1) := by decide +kernel
theorem dX12_readsLine_167 : decode cX12_readsLine 167 = .ok (.getfield 131, 3) := by decide +kernel
theorem dX12_readsLine_170 : decode cX12_readsLine 170 = .ok (.invokevirtual 144, 3) := by decide +kernel
theorem dX12_readsLine_173 : decode cX12_readsLine 173 = .ok (.ireturn, 1) := by decide +kernel
theorem dX12_readsLine_174 : decode cX12_readsLine 174 = .ok (.aload_n 0, 1) := by decide +kernel
theorem dX12_readsLine_175 : decode cX12_readsLine 175 = .ok (.getfield 68, 3) := by decide +kernel
theorem dX12_readsLine_178 : decode cX12_readsLine 178 = .ok (.aload_n 0, 1) := by decide +kernel
theorem dX12_readsLine_179 : decode cX12_readsLine 179 = .ok (.getfield 247, 3) := by decide +kernel
theorem dX12_readsLine_182 : decode cX12_readsLine 182 = .ok (.aload_n 0, 1) := by decide +kernel
theorem dX12_readsLine_183 : decode cX12_readsLine 183 = .ok (.invokevirtual 137, 3) := by decide +kernel
theorem dX12_readsLine_186 : decode cX12_readsLine 186 = .ok (.bipush 48, 2) := by decide +kernel
theorem dX12_readsLine_188 : decode cX12_readsLine 188 = .ok (.isub, 1) := by decide +kernel
theorem dX12_readsLine_189 : decode cX12_readsLine 189 = .ok (.iastore, 1) := by decide +kernel
theorem dX12_readsLine_190 : decode cX12_readsLine 190 = .ok (.aload_n 0, 1) := by decide +kernel
theorem dX12_readsLine_191 : decode cX12_readsLine 191 = .ok (.aload_n 0, 1) := by decide +kernel
theorem dX12_readsLine_192 : decode cX12_readsLine 192 = .ok (.getfield 131, 3) := by decide +kernel
theorem dX12_readsLine_195 : decode cX12_readsLine 195 = .ok (.iconst 1, 1) := by decide +kernel
theorem dX12_readsLine_196 : decode cX12_readsLine 196 = .ok (.iadd, 1) := by decide +kernel
theorem dX12_readsLine_197 : decode cX12_readsLine 197 = .ok (.putfield 131, 3) := by decide +kernel
theorem dX12_readsLine_200 : decode cX12_readsLine 200 = .ok (.aload_n 0, 1) := by decide +kernel
theorem dX12_readsLine_201 : decode cX12_readsLine 201 = .ok (.getfield 62, 3) := by decide +kernel
theorem dX12_readsLine_204 : decode cX12_readsLine 204 = .ok (.aload_n 0, 1) := by decide +kernel
theorem dX12_readsLine_205 : decode cX12_readsLine 205 = .ok (.getfield 247, 3) := by decide +kernel
theorem dX12_readsLine_208 : decode cX12_readsLine 208 = .ok (.iconst 1, 1) := by decide +kernel
theorem dX12_readsLine_209 : decode cX12_readsLine 209 = .ok (.iadd, 1) := by decide +kernel
theorem dX12_readsLine_210 : decode cX12_readsLine 210 = .ok (.aload_n 0, 1) := by decide +kernel
theorem dX12_readsLine_211 : decode cX12_readsLine 211 = .ok (.getfield 62, 3) := by decide +kernel
theorem dX12_readsLine_214 : decode cX12_readsLine 214 = .ok (.aload_n 0, 1) := by decide +kernel
theorem dX12_readsLine_215 : decode cX12_readsLine 215 = .ok (.getfield 247, 3) := by decide +kernel
theorem dX12_readsLine_218 : decode cX12_readsLine 218 = .ok (.iaload, 1) := by decide +kernel
theorem dX12_readsLine_219 : decode cX12_readsLine 219 = .ok (.iload_n 1, 1) := by decide +kernel
theorem dX12_readsLine_220 : decode cX12_readsLine 220 = .ok (.iadd, 1) := by decide +kernel
theorem dX12_readsLine_221 : decode cX12_readsLine 221 = .ok (.iastore, 1) := by decide +kernel
theorem dX12_readsLine_222 : decode cX12_readsLine 222 = .ok (.aload_n 0, 1) := by decide +kernel
theorem dX12_readsLine_223 : decode cX12_readsLine 223 = .ok (.aload_n 0, 1) := by decide +kernel
theorem dX12_readsLine_224 : decode cX12_readsLine 224 = .ok (.getfield 247, 3) := by decide +kernel
theorem dX12_readsLine_227 : decode cX12_readsLine 227 = .ok (.iconst 1, 1) := by decide +kernel
theorem dX12_readsLine_228 : decode cX12_readsLine 228 = .ok (.iadd, 1) := by decide +kernel
theorem dX12_readsLine_229 : decode cX12_readsLine 229 = .ok (.putfield 247, 3) := by decide +kernel
theorem dX12_readsLine_232 : decode cX12_readsLine 232 = .ok (.iconst 1, 1) := by decide +kernel
theorem dX12_readsLine_233 : decode cX12_readsLine 233 = .ok (.ireturn, 1) := by decide +kernel
set_option maxRecDepth 20000 in
set_option maxHeartbeats 4000000 in
theorem m_readsLine (E : xE) (l : Launch) (a : Nat → Nat) (cd : Cd) (hG : Good cd) (kf : Int32) (jn js jq : Lb) (ws : va_W) (hW : WX (okM E a cd kf jn js jq) ws) (tp pl le cm wt sm lm : Nat) (nu : Int32) (h0 : MO a cd kf ws tp pl le cm wt sm lm nu) (tf : Nat → Int32) (htf : ws[4]? = some (bA E (a 4) 260 tf)) (hpl : pl ≤ le) : xI E l yX12_readsLine cX12_readsLine 3 (some .boolean) 4 [.ref (a 0)] ws (fun r w => WX (okM E a cd kf jn js jq) w ∧ keeps ws w (fun q => q = 0 ∨ q = 18 ∨ q = 19 ∨ q = 20 ∨ q = 21) ∧ zb r ∧ (∃ (pl2 lm2 : Nat) (nu2 : Int32), pl ≤ pl2 ∧ pl2 ≤ le ∧ lm2 ≤ 24 ∧ MO a cd kf w tp pl2 le cm wt sm lm2 nu2)) := by
  refine xI_start (lv := [(0, .ref (a 0))]) RX12 (by decide) rfl (Nat.le_of_ble_eq_true rfl) rfl (fun p e s m below meth c A C hr hlk => ?_)
  have kp0 : keeps ws ws (fun q => q = 0 ∨ q = 18 ∨ q = 19 ∨ q = 20 ∨ q = 21) := keeps_rf
  obtain ⟨v1, v2, v3, v4, v5, v6, n7, n8, bo9, bo10, k11⟩ := h0
  refine x_aload_n C dX12_readsLine_0 rfl 0 rfl rfl ?_
  refine x_vi C (As := []) (rest := []) (m_isDigit E l a cd hG kf jn js jq ws hW tp pl le cm wt sm lm nu ⟨v1, v2, v3, v4, v5, v6, n7, n8, ⟨by omega, by omega, by omega, by omega, by omega, by omega, by omega⟩, ⟨by omega, by omega⟩, k11⟩ tf htf) mf_X12_isDigit w_1341 0 k11 rfl rfl rfl (Nat.le_of_ble_eq_true rfl) ⟨(Nat.le_of_ble_eq_true rfl), (Nat.le_of_ble_eq_true rfl)⟩ ⟨(Nat.le_of_ble_eq_true rfl), (Nat.le_of_ble_eq_true rfl)⟩ dX12_readsLine_1 rfl (fun r13 w14 h12 => ?_)
  obtain ⟨hW15, zb16, x17⟩ := h12
  refine x_ws hW15 ?_
  refine x_if_ne C (tgt := 26) dX12_readsLine_4 (by decide) rfl (fun c18 => ?_) (fun c18 => ?_)
  · skip
    obtain ⟨d19, hd20, ed21, hp22⟩ := x17 c18
    refine x_aload_n C dX12_readsLine_26 rfl 0 rfl rfl ?_
    refine x_get C (ci := 11) (k := 27) 0 k11 rfl in_X12 (by decide) w_1145 rfl dX12_readsLine_27 rfl ?_
    refine x_bipush C (v := 24) dX12_readsLine_30 (by decide) rfl ?_
    refine x_icmp_ne C (tgt := 45) dX12_readsLine_32 (by decide) rfl (fun c23 => ?_) (fun c23 => ?_)
    · skip
      have nf24 : ¬ lm = 24 := fun q => c23 (congrArg nI q)
      refine x_aload_n C dX12_readsLine_45 rfl 0 rfl rfl ?_
      refine x_vi C (As := []) (rest := []) (m_readsEggs E l a cd hG kf jn js jq ws hW tp pl le cm wt sm lm nu ⟨v1, v2, v3, v4, v5, v6, n7, n8, ⟨by omega, by omega, by omega, by omega, by omega, by omega, by omega⟩, ⟨by omega, by omega⟩, k11⟩ tf htf (by omega) (by omega)) mf_X12_readsEggs w_1407 0 k11 rfl rfl rfl (Nat.le_of_ble_eq_true rfl) ⟨(Nat.le_of_ble_eq_true rfl), (Nat.le_of_ble_eq_true rfl)⟩ ⟨(Nat.le_of_ble_eq_true rfl), (Nat.le_of_ble_eq_true rfl)⟩ dX12_readsLine_46 rfl (fun r26 w27 h25 => ?_)
      obtain ⟨hW28, kq29, x30⟩ := h25
      have k31 : w27[4]? = some (bA E (a 4) 260 tf) := keeps_at kq29 htf (by first | decide | omega | (dsimp only; omega))
      have kp32 := keeps_tr kp0 kq29 (fun q hq => by first | omega | (dsimp only at *; omega))
      obtain ⟨pl33, nu34, hp35, hp36, mo37, hx38⟩ := x30
      obtain ⟨v39, v40, v41, v42, v43, v44, n45, n46, bo47, bo48, k49⟩ := mo37
      rcases hx38 with e50 | ⟨mm51, h52, h53, en54⟩
      · refine x_top e50 ?_
        refine x_istore_n C (lv' := [(1, .int (-1)), (0, .ref (a 0))]) dX12_readsLine_49 rfl (by decide) rfl rfl ?_
        refine x_iload_n C dX12_readsLine_50 rfl 0 rfl rfl ?_
        refine x_iconst C (v := (-1)) dX12_readsLine_51 (by decide) rfl ?_
        refine x_icmp_ne C (tgt := 57) dX12_readsLine_52 (by decide) rfl (fun h => absurd h (by decide)) (fun _ => ?_)
        refine x_iconst C (v := 0) dX12_readsLine_55 (by decide) rfl ?_
        exact x_zret C hr hlk rfl dX12_readsLine_56 ⟨hW28, kp32, (Or.inl rfl), ⟨pl33, lm, nu34, by omega, by omega, by omega, ⟨v39, v40, v41, v42, v43, v44, n45, n46, ⟨by omega, by omega, by omega, by omega, by omega, by omega, by omega⟩, ⟨by omega, by omega⟩, k49⟩⟩⟩
      · refine x_top en54 ?_
        refine x_istore_n C (lv' := [(1, .int (nI mm51)), (0, .ref (a 0))]) dX12_readsLine_49 rfl (by decide) rfl rfl ?_
        refine x_iload_n C dX12_readsLine_50 rfl 0 rfl rfl ?_
        refine x_iconst C (v := (-1)) dX12_readsLine_51 (by decide) rfl ?_
        refine x_icmp_ne C (tgt := 57) dX12_readsLine_52 (by decide) rfl (fun c55 => ?_) (fun c55 => ?_)
        · skip
          refine x_aload_n C dX12_readsLine_57 rfl 1 rfl rfl ?_
          refine x_vi C (As := []) (rest := []) (m_here E l a cd hG kf jn js jq w27 hW28 tp pl33 le cm wt sm lm nu34 ⟨v39, v40, v41, v42, v43, v44, n45, n46, ⟨by omega, by omega, by omega, by omega, by omega, by omega, by omega⟩, ⟨by omega, by omega⟩, k49⟩ tf k31) mf_X12_here w_1317 0 k49 rfl rfl rfl (Nat.le_of_ble_eq_true rfl) ⟨(Nat.le_of_ble_eq_true rfl), (Nat.le_of_ble_eq_true rfl)⟩ ⟨(Nat.le_of_ble_eq_true rfl), (Nat.le_of_ble_eq_true rfl)⟩ dX12_readsLine_58 rfl (fun r57 w58 h56 => ?_)
          obtain ⟨hW59, x60⟩ := h56
          refine x_ws hW59 ?_
          refine x_istore_n C (lv' := [(2, .int r57), (1, .int (nI mm51)), (0, .ref (a 0))]) dX12_readsLine_61 rfl (by decide) rfl rfl ?_
          refine x_iload_n C dX12_readsLine_62 rfl 0 rfl rfl ?_
          refine x_bipush C (v := 62) dX12_readsLine_63 (by decide) rfl ?_
          refine x_icmp_eq C (tgt := 96) dX12_readsLine_65 (by decide) rfl (fun c61 => ?_) (fun c61 => ?_)
          · skip
            have hp62 := hv_lt (x60.symm.trans c61) (by decide)
            refine x_aload_n C dX12_readsLine_96 rfl 2 rfl rfl ?_
            refine x_aload_n C dX12_readsLine_97 rfl 2 rfl rfl ?_
            refine x_get C (ci := 11) (k := 5) 0 k49 rfl in_X12 (by decide) w_1123 rfl dX12_readsLine_98 rfl ?_
            refine x_iconst C (v := 1) dX12_readsLine_101 (by decide) rfl ?_
            refine x_iadd C (v := (nI (pl33 + 1))) dX12_readsLine_102 (nI_add pl33 1) rfl ?_
            obtain ⟨w63, hw64⟩ : ∃ w : va_W, w = List.set w27 0 (ob (a 0) 11 [.ref (a 1), .ref (a 2), .ref (a 3), .ref (a 4), .int (nI tp), .int (nI (pl33 + 1)), .int (nI le), .int v39, .int nu34, .int v40, .int (nI cm), .int (nI wt), .int (nI sm), .int (nI (cd.2.2.2.2.2)), .ref (a 5), .ref (a 6), .ref (a 7), .ref (a 8), .ref (a 9), .ref (a 10), .ref (a 11), .ref (a 12), .ref (a 13), .ref (a 14), .ref (a 15), .ref (a 16), .ref (a 17), .int (nI lm), .ref (a 18), .ref (a 19), .ref (a 20), .ref (a 21), .int v41, .int v42, .int v43, .int v44, .int (nI n45), .int (nI n46), .ref (a 22), .ref (a 23), .ref (a 24), .ref (a 25), .ref (a 26), .ref (a 27), .ref (a 28), .ref (a 29), .ref (a 30), .int kf]) := ⟨_, rfl⟩
            refine x_put C (ci := 11) (k := 5) (ty := .int) 0 k49 rfl in_X12 tyX12 tyX12_ok nmX12 (by decide) w_1123 rfl rfl rfl rfl (Nat.le_of_ble_eq_true rfl) hw64.symm dX12_readsLine_103 rfl ?_
            have hW65 : WX (okM E a cd kf jn js jq) w63 := by rw [hw64]; exact hW28.set (k := 0) rfl ⟨tp, (pl33 + 1), le, v39, nu34, v40, cm, wt, sm, lm, v41, v42, v43, v44, n45, n46, by omega, by omega, by omega, by omega, by omega, by omega, by omega, by omega, by omega, rfl⟩
            have k66 : w63[4]? = some (bA E (a 4) 260 tf) := by rw [hw64]; exact set_ne k31 (by decide)
            have k67 : w63[0]? = some (ob (a 0) 11 [.ref (a 1), .ref (a 2), .ref (a 3), .ref (a 4), .int (nI tp), .int (nI (pl33 + 1)), .int (nI le), .int v39, .int nu34, .int v40, .int (nI cm), .int (nI wt), .int (nI sm), .int (nI (cd.2.2.2.2.2)), .ref (a 5), .ref (a 6), .ref (a 7), .ref (a 8), .ref (a 9), .ref (a 10), .ref (a 11), .ref (a 12), .ref (a 13), .ref (a 14), .ref (a 15), .ref (a 16), .ref (a 17), .int (nI lm), .ref (a 18), .ref (a 19), .ref (a 20), .ref (a 21), .int v41, .int v42, .int v43, .int v44, .int (nI n45), .int (nI n46), .ref (a 22), .ref (a 23), .ref (a 24), .ref (a 25), .ref (a 26), .ref (a 27), .ref (a 28), .ref (a 29), .ref (a 30), .int kf]) := by rw [hw64]; exact set_eq k49
            have kp68 := keeps_set kp32 hw64 (by first | exact rfl | decide | omega | (dsimp only; omega))
            refine x_aload_n C dX12_readsLine_106 rfl 2 rfl rfl ?_
            refine x_get C (ci := 11) (k := 29) 0 k67 rfl in_X12 (by decide) w_1147 rfl dX12_readsLine_107 rfl ?_
            refine x_aload_n C dX12_readsLine_110 rfl 2 rfl rfl ?_
            refine x_get C (ci := 11) (k := 27) 0 k67 rfl in_X12 (by decide) w_1145 rfl dX12_readsLine_111 rfl ?_
            refine x_iload_n C dX12_readsLine_114 rfl 0 rfl rfl ?_
            obtain ⟨_, k69, f70, rfl⟩ := hW65 19 _ rfl
            obtain ⟨w71, hw72⟩ : ∃ w : va_W, w = List.set w63 19 (iA E (a 19) 24 (upd f70 (nI lm).toNatClampNeg r57)) := ⟨_, rfl⟩
            refine x_iast C 19 k69 (vp_in_nI (by omega) (by decide)) hw72.symm dX12_readsLine_115 rfl ?_
            have hW73 : WX (okM E a cd kf jn js jq) w71 := by rw [hw72]; exact hW65.set (k := 19) rfl ⟨_, rfl⟩
            have k74 : w71[4]? = some (bA E (a 4) 260 tf) := by rw [hw72]; exact set_ne k66 (by decide)
            have k75 : w71[0]? = some (ob (a 0) 11 [.ref (a 1), .ref (a 2), .ref (a 3), .ref (a 4), .int (nI tp), .int (nI (pl33 + 1)), .int (nI le), .int v39, .int nu34, .int v40, .int (nI cm), .int (nI wt), .int (nI sm), .int (nI (cd.2.2.2.2.2)), .ref (a 5), .ref (a 6), .ref (a 7), .ref (a 8), .ref (a 9), .ref (a 10), .ref (a 11), .ref (a 12), .ref (a 13), .ref (a 14), .ref (a 15), .ref (a 16), .ref (a 17), .int (nI lm), .ref (a 18), .ref (a 19), .ref (a 20), .ref (a 21), .int v41, .int v42, .int v43, .int v44, .int (nI n45), .int (nI n46), .ref (a 22), .ref (a 23), .ref (a 24), .ref (a 25), .ref (a 26), .ref (a 27), .ref (a 28), .ref (a 29), .ref (a 30), .int kf]) := by rw [hw72]; exact set_ne k67 (by decide)
            have k76 : w71[19]? = some (iA E (a 19) 24 (upd f70 (nI lm).toNatClampNeg r57)) := by rw [hw72]; exact set_eq k69
            have kp77 := keeps_set kp68 hw72 (by first | exact rfl | decide | omega | (dsimp only; omega))
            refine x_aload_n C dX12_readsLine_116 rfl 2 rfl rfl ?_
            refine x_get C (ci := 11) (k := 30) 0 k75 rfl in_X12 (by decide) w_1148 rfl dX12_readsLine_117 rfl ?_
            refine x_aload_n C dX12_readsLine_120 rfl 2 rfl rfl ?_
            refine x_get C (ci := 11) (k := 27) 0 k75 rfl in_X12 (by decide) w_1145 rfl dX12_readsLine_121 rfl ?_
            refine x_iconst C (v := 0) dX12_readsLine_124 (by decide) rfl ?_
            obtain ⟨_, k78, g79, gb80, rfl⟩ := hW73 20 _ rfl
            have gb81 := updn_le (i := lm) (v := 0) gb80 (by omega)
            obtain ⟨w82, hw83⟩ : ∃ w : va_W, w = List.set w71 20 (iA E (a 20) 24 (upd (fun j => nI (g79 j)) lm (nI 0))) := ⟨_, rfl⟩
            refine x_iask C lm (nI_clamp (by omega)) (nI_pos (by omega)) (by omega) 20 k78 hw83.symm dX12_readsLine_125 rfl ?_
            have hW84 : WX (okM E a cd kf jn js jq) w82 := by rw [hw83]; exact hW73.set (k := 20) rfl ⟨_, gb81, iA_n (upd_nI g79 lm 0)⟩
            have k85 : w82[4]? = some (bA E (a 4) 260 tf) := by rw [hw83]; exact set_ne k74 (by decide)
            have k86 : w82[0]? = some (ob (a 0) 11 [.ref (a 1), .ref (a 2), .ref (a 3), .ref (a 4), .int (nI tp), .int (nI (pl33 + 1)), .int (nI le), .int v39, .int nu34, .int v40, .int (nI cm), .int (nI wt), .int (nI sm), .int (nI (cd.2.2.2.2.2)), .ref (a 5), .ref (a 6), .ref (a 7), .ref (a 8), .ref (a 9), .ref (a 10), .ref (a 11), .ref (a 12), .ref (a 13), .ref (a 14), .ref (a 15), .ref (a 16), .ref (a 17), .int (nI lm), .ref (a 18), .ref (a 19), .ref (a 20), .ref (a 21), .int v41, .int v42, .int v43, .int v44, .int (nI n45), .int (nI n46), .ref (a 22), .ref (a 23), .ref (a 24), .ref (a 25), .ref (a 26), .ref (a 27), .ref (a 28), .ref (a 29), .ref (a 30), .int kf]) := by rw [hw83]; exact set_ne k75 (by decide)
            have k87 : w82[19]? = some (iA E (a 19) 24 (upd f70 (nI lm).toNatClampNeg r57)) := by rw [hw83]; exact set_ne k76 (by decide)
            have k88 : w82[20]? = some (iA E (a 20) 24 (upd (fun j => nI (g79 j)) lm (nI 0))) := by rw [hw83]; exact set_eq k78
            have kp89 := keeps_set kp77 hw83 (by first | exact rfl | decide | omega | (dsimp only; omega))
            have k90 : w82[20]? = some (iA E (a 20) 24 (fun j => nI ((updn g79 lm 0) j))) := by rw [← upd_nI]; exact k88
            refine x_iload_n C dX12_readsLine_126 rfl 0 rfl rfl ?_
            refine x_bipush C (v := 62) dX12_readsLine_127 (by decide) rfl ?_
            refine x_icmp_eq C (tgt := 138) dX12_readsLine_129 (by decide) rfl (fun c91 => ?_) (fun c91 => ?_)
            · skip
              have hp92 := hv_lt (x60.symm.trans c91) (by decide)
              refine x_aload_n C dX12_readsLine_138 rfl 2 rfl rfl ?_
              refine x_vi C (As := []) (rest := []) (m_isDigit E l a cd hG kf jn js jq w82 hW84 tp (pl33 + 1) le cm wt sm lm nu34 ⟨v39, v40, v41, v42, v43, v44, n45, n46, ⟨by omega, by omega, by omega, by omega, by omega, by omega, by omega⟩, ⟨by omega, by omega⟩, k86⟩ tf k85) mf_X12_isDigit w_1341 0 k86 rfl rfl rfl (Nat.le_of_ble_eq_true rfl) ⟨(Nat.le_of_ble_eq_true rfl), (Nat.le_of_ble_eq_true rfl)⟩ ⟨(Nat.le_of_ble_eq_true rfl), (Nat.le_of_ble_eq_true rfl)⟩ dX12_readsLine_139 rfl (fun r94 w95 h93 => ?_)
              obtain ⟨hW96, zb97, x98⟩ := h93
              refine x_ws hW96 ?_
              refine x_if_ne C (tgt := 155) dX12_readsLine_142 (by decide) rfl (fun c99 => ?_) (fun c99 => ?_)
              · skip
                obtain ⟨d100, hd101, ed102, hp103⟩ := x98 c99
                refine x_aload_n C dX12_readsLine_155 rfl 2 rfl rfl ?_
                refine x_vi C (As := []) (rest := []) (m_here E l a cd hG kf jn js jq w82 hW84 tp (pl33 + 1) le cm wt sm lm nu34 ⟨v39, v40, v41, v42, v43, v44, n45, n46, ⟨by omega, by omega, by omega, by omega, by omega, by omega, by omega⟩, ⟨by omega, by omega⟩, k86⟩ tf k85) mf_X12_here w_1317 0 k86 rfl rfl rfl (Nat.le_of_ble_eq_true rfl) ⟨(Nat.le_of_ble_eq_true rfl), (Nat.le_of_ble_eq_true rfl)⟩ ⟨(Nat.le_of_ble_eq_true rfl), (Nat.le_of_ble_eq_true rfl)⟩ dX12_readsLine_156 rfl (fun r105 w106 h104 => ?_)
                obtain ⟨hW107, x108⟩ := h104
                refine x_ws hW107 ?_
                refine x_top (x108.trans ed102) ?_
                refine x_bipush C (v := 55) dX12_readsLine_159 (by decide) rfl ?_
                refine x_icmp_le C (tgt := 174) dX12_readsLine_161 (by decide) rfl (fun c109 => ?_) (fun c109 => ?_)
                · skip
                  have nf110 := nI_le' (a := (48 + d100)) (b := 55) c109 (by omega) (by omega)
                  refine x_aload_n C dX12_readsLine_174 rfl 2 rfl rfl ?_
                  refine x_get C (ci := 11) (k := 30) 0 k86 rfl in_X12 (by decide) w_1148 rfl dX12_readsLine_175 rfl ?_
                  refine x_aload_n C dX12_readsLine_178 rfl 2 rfl rfl ?_
                  refine x_get C (ci := 11) (k := 27) 0 k86 rfl in_X12 (by decide) w_1145 rfl dX12_readsLine_179 rfl ?_
                  refine x_aload_n C dX12_readsLine_182 rfl 2 rfl rfl ?_
                  refine x_vi C (As := []) (rest := [.int (nI lm), .ref (a 20)]) (m_here E l a cd hG kf jn js jq w82 hW84 tp (pl33 + 1) le cm wt sm lm nu34 ⟨v39, v40, v41, v42, v43, v44, n45, n46, ⟨by omega, by omega, by omega, by omega, by omega, by omega, by omega⟩, ⟨by omega, by omega⟩, k86⟩ tf k85) mf_X12_here w_1317 0 k86 rfl rfl rfl (Nat.le_of_ble_eq_true rfl) ⟨(Nat.le_of_ble_eq_true rfl), (Nat.le_of_ble_eq_true rfl)⟩ ⟨(Nat.le_of_ble_eq_true rfl), (Nat.le_of_ble_eq_true rfl)⟩ dX12_readsLine_183 rfl (fun r112 w113 h111 => ?_)
                  obtain ⟨hW114, x115⟩ := h111
                  refine x_ws hW114 ?_
                  refine x_top (x115.trans ed102) ?_
                  refine x_bipush C (v := 48) dX12_readsLine_186 (by decide) rfl ?_
                  refine x_isub C (v := (nI ((48 + d100) - 48))) dX12_readsLine_188 (pk_sub (a := (48 + d100)) (b := 48) (by omega)) rfl ?_
                  have gb116 := updn_le (i := lm) (v := ((48 + d100) - 48)) gb81 (by omega)
                  obtain ⟨w117, hw118⟩ : ∃ w : va_W, w = List.set w82 20 (iA E (a 20) 24 (upd (fun j => nI ((updn g79 lm 0) j)) lm (nI ((48 + d100) - 48)))) := ⟨_, rfl⟩
                  refine x_iask C lm (nI_clamp (by omega)) (nI_pos (by omega)) (by omega) 20 k90 hw118.symm dX12_readsLine_189 rfl ?_
                  have hW119 : WX (okM E a cd kf jn js jq) w117 := by rw [hw118]; exact hW84.set (k := 20) rfl ⟨_, gb116, iA_n (upd_nI (updn g79 lm 0) lm ((48 + d100) - 48))⟩
                  have k120 : w117[4]? = some (bA E (a 4) 260 tf) := by rw [hw118]; exact set_ne k85 (by decide)
                  have k121 : w117[0]? = some (ob (a 0) 11 [.ref (a 1), .ref (a 2), .ref (a 3), .ref (a 4), .int (nI tp), .int (nI (pl33 + 1)), .int (nI le), .int v39, .int nu34, .int v40, .int (nI cm), .int (nI wt), .int (nI sm), .int (nI (cd.2.2.2.2.2)), .ref (a 5), .ref (a 6), .ref (a 7), .ref (a 8), .ref (a 9), .ref (a 10), .ref (a 11), .ref (a 12), .ref (a 13), .ref (a 14), .ref (a 15), .ref (a 16), .ref (a 17), .int (nI lm), .ref (a 18), .ref (a 19), .ref (a 20), .ref (a 21), .int v41, .int v42, .int v43, .int v44, .int (nI n45), .int (nI n46), .ref (a 22), .ref (a 23), .ref (a 24), .ref (a 25), .ref (a 26), .ref (a 27), .ref (a 28), .ref (a 29), .ref (a 30), .int kf]) := by rw [hw118]; exact set_ne k86 (by decide)
                  have k122 : w117[19]? = some (iA E (a 19) 24 (upd f70 (nI lm).toNatClampNeg r57)) := by rw [hw118]; exact set_ne k87 (by decide)
                  have k123 : w117[20]? = some (iA E (a 20) 24 (upd (fun j => nI ((updn g79 lm 0) j)) lm (nI ((48 + d100) - 48)))) := by rw [hw118]; exact set_eq k90
                  have kp124 := keeps_set kp89 hw118 (by first | exact rfl | decide | omega | (dsimp only; omega))
                  have k125 : w117[20]? = some (iA E (a 20) 24 (fun j => nI ((updn (updn g79 lm 0) lm ((48 + d100) - 48)) j))) := by rw [← upd_nI]; exact k123
                  refine x_aload_n C dX12_readsLine_190 rfl 2 rfl rfl ?_
                  refine x_aload_n C dX12_readsLine_191 rfl 2 rfl rfl ?_
                  refine x_get C (ci := 11) (k := 5) 0 k121 rfl in_X12 (by decide) w_1123 rfl dX12_readsLine_192 rfl ?_
                  refine x_iconst C (v := 1) dX12_readsLine_195 (by decide) rfl ?_
                  refine x_iadd C (v := (nI ((pl33 + 1) + 1))) dX12_readsLine_196 (nI_add (pl33 + 1) 1) rfl ?_
                  obtain ⟨w126, hw127⟩ : ∃ w : va_W, w = List.set w117 0 (ob (a 0) 11 [.ref (a 1), .ref (a 2), .ref (a 3), .ref (a 4), .int (nI tp), .int (nI ((pl33 + 1) + 1)), .int (nI le), .int v39, .int nu34, .int v40, .int (nI cm), .int (nI wt), .int (nI sm), .int (nI (cd.2.2.2.2.2)), .ref (a 5), .ref (a 6), .ref (a 7), .ref (a 8), .ref (a 9), .ref (a 10), .ref (a 11), .ref (a 12), .ref (a 13), .ref (a 14), .ref (a 15), .ref (a 16), .ref (a 17), .int (nI lm), .ref (a 18), .ref (a 19), .ref (a 20), .ref (a 21), .int v41, .int v42, .int v43, .int v44, .int (nI n45), .int (nI n46), .ref (a 22), .ref (a 23), .ref (a 24), .ref (a 25), .ref (a 26), .ref (a 27), .ref (a 28), .ref (a 29), .ref (a 30), .int kf]) := ⟨_, rfl⟩
                  refine x_put C (ci := 11) (k := 5) (ty := .int) 0 k121 rfl in_X12 tyX12 tyX12_ok nmX12 (by decide) w_1123 rfl rfl rfl rfl (Nat.le_of_ble_eq_true rfl) hw127.symm dX12_readsLine_197 rfl ?_
                  have hW128 : WX (okM E a cd kf jn js jq) w126 := by rw [hw127]; exact hW119.set (k := 0) rfl ⟨tp, ((pl33 + 1) + 1), le, v39, nu34, v40, cm, wt, sm, lm, v41, v42, v43, v44, n45, n46, by omega, by omega, by omega, by omega, by omega, by omega, by omega, by omega, by omega, rfl⟩
                  have k129 : w126[4]? = some (bA E (a 4) 260 tf) := by rw [hw127]; exact set_ne k120 (by decide)
                  have k130 : w126[0]? = some (ob (a 0) 11 [.ref (a 1), .ref (a 2), .ref (a 3), .ref (a 4), .int (nI tp), .int (nI ((pl33 + 1) + 1)), .int (nI le), .int v39, .int nu34, .int v40, .int (nI cm), .int (nI wt), .int (nI sm), .int (nI (cd.2.2.2.2.2)), .ref (a 5), .ref (a 6), .ref (a 7), .ref (a 8), .ref (a 9), .ref (a 10), .ref (a 11), .ref (a 12), .ref (a 13), .ref (a 14), .ref (a 15), .ref (a 16), .ref (a 17), .int (nI lm), .ref (a 18), .ref (a 19), .ref (a 20), .ref (a 21), .int v41, .int v42, .int v43, .int v44, .int (nI n45), .int (nI n46), .ref (a 22), .ref (a 23), .ref (a 24), .ref (a 25), .ref (a 26), .ref (a 27), .ref (a 28), .ref (a 29), .ref (a 30), .int kf]) := by rw [hw127]; exact set_eq k121
                  have k131 : w126[19]? = some (iA E (a 19) 24 (upd f70 (nI lm).toNatClampNeg r57)) := by rw [hw127]; exact set_ne k122 (by decide)
                  have k132 : w126[20]? = some (iA E (a 20) 24 (fun j => nI ((updn (updn g79 lm 0) lm ((48 + d100) - 48)) j))) := by rw [hw127]; exact set_ne k125 (by decide)
                  have kp133 := keeps_set kp124 hw127 (by first | exact rfl | decide | omega | (dsimp only; omega))
                  refine x_aload_n C dX12_readsLine_200 rfl 2 rfl rfl ?_
                  refine x_get C (ci := 11) (k := 28) 0 k130 rfl in_X12 (by decide) w_1146 rfl dX12_readsLine_201 rfl ?_
                  refine x_aload_n C dX12_readsLine_204 rfl 2 rfl rfl ?_
                  refine x_get C (ci := 11) (k := 27) 0 k130 rfl in_X12 (by decide) w_1145 rfl dX12_readsLine_205 rfl ?_
                  refine x_iconst C (v := 1) dX12_readsLine_208 (by decide) rfl ?_
                  refine x_iadd C (v := (nI (lm + 1))) dX12_readsLine_209 (nI_add lm 1) rfl ?_
                  refine x_aload_n C dX12_readsLine_210 rfl 2 rfl rfl ?_
                  refine x_get C (ci := 11) (k := 28) 0 k130 rfl in_X12 (by decide) w_1146 rfl dX12_readsLine_211 rfl ?_
                  refine x_aload_n C dX12_readsLine_214 rfl 2 rfl rfl ?_
                  refine x_get C (ci := 11) (k := 27) 0 k130 rfl in_X12 (by decide) w_1145 rfl dX12_readsLine_215 rfl ?_
                  obtain ⟨_, k134, g135, gb136, rfl⟩ := hW128 18 _ rfl
                  refine x_ialk C (v := nI (g135 lm)) lm (nI_clamp (by omega)) (nI_pos (by omega)) (by omega) 18 k134 rfl dX12_readsLine_218 rfl ?_
                  have bx137 := gb136 lm
                  refine x_iload_n C dX12_readsLine_219 rfl 1 rfl rfl ?_
                  refine x_iadd C (v := (nI ((g135 lm) + mm51))) dX12_readsLine_220 (nI_add (g135 lm) mm51) rfl ?_
                  have gb138 := updn_leF (i := (lm + 1)) (v := ((g135 lm) + mm51)) gb136 (by omega)
                  obtain ⟨w139, hw140⟩ : ∃ w : va_W, w = List.set w126 18 (iA E (a 18) 25 (upd (fun j => nI (g135 j)) (lm + 1) (nI ((g135 lm) + mm51)))) := ⟨_, rfl⟩
                  refine x_iask C (lm + 1) (nI_clamp (by omega)) (nI_pos (by omega)) (by omega) 18 k134 hw140.symm dX12_readsLine_221 rfl ?_
                  have hW141 : WX (okM E a cd kf jn js jq) w139 := by rw [hw140]; exact hW128.set (k := 18) rfl ⟨_, gb138, iA_n (upd_nI g135 (lm + 1) ((g135 lm) + mm51))⟩
                  have k142 : w139[4]? = some (bA E (a 4) 260 tf) := by rw [hw140]; exact set_ne k129 (by decide)
                  have k143 : w139[0]? = some (ob (a 0) 11 [.ref (a 1), .ref (a 2), .ref (a 3), .ref (a 4), .int (nI tp), .int (nI ((pl33 + 1) + 1)), .int (nI le), .int v39, .int nu34, .int v40, .int (nI cm), .int (nI wt), .int (nI sm), .int (nI (cd.2.2.2.2.2)), .ref (a 5), .ref (a 6), .ref (a 7), .ref (a 8), .ref (a 9), .ref (a 10), .ref (a 11), .ref (a 12), .ref (a 13), .ref (a 14), .ref (a 15), .ref (a 16), .ref (a 17), .int (nI lm), .ref (a 18), .ref (a 19), .ref (a 20), .ref (a 21), .int v41, .int v42, .int v43, .int v44, .int (nI n45), .int (nI n46), .ref (a 22), .ref (a 23), .ref (a 24), .ref (a 25), .ref (a 26), .ref (a 27), .ref (a 28), .ref (a 29), .ref (a 30), .int kf]) := by rw [hw140]; exact set_ne k130 (by decide)
                  have k144 : w139[19]? = some (iA E (a 19) 24 (upd f70 (nI lm).toNatClampNeg r57)) := by rw [hw140]; exact set_ne k131 (by decide)
                  have k145 : w139[20]? = some (iA E (a 20) 24 (fun j => nI ((updn (updn g79 lm 0) lm ((48 + d100) - 48)) j))) := by rw [hw140]; exact set_ne k132 (by decide)
                  have k146 : w139[18]? = some (iA E (a 18) 25 (upd (fun j => nI (g135 j)) (lm + 1) (nI ((g135 lm) + mm51)))) := by rw [hw140]; exact set_eq k134
                  have kp147 := keeps_set kp133 hw140 (by first | exact rfl | decide | omega | (dsimp only; omega))
                  have k148 : w139[18]? = some (iA E (a 18) 25 (fun j => nI ((updn g135 (lm + 1) ((g135 lm) + mm51)) j))) := by rw [← upd_nI]; exact k146
                  refine x_aload_n C dX12_readsLine_222 rfl 2 rfl rfl ?_
                  refine x_aload_n C dX12_readsLine_223 rfl 2 rfl rfl ?_
                  refine x_get C (ci := 11) (k := 27) 0 k143 rfl in_X12 (by decide) w_1145 rfl dX12_readsLine_224 rfl ?_
                  refine x_iconst C (v := 1) dX12_readsLine_227 (by decide) rfl ?_
                  refine x_iadd C (v := (nI (lm + 1))) dX12_readsLine_228 (nI_add lm 1) rfl ?_
                  obtain ⟨w149, hw150⟩ : ∃ w : va_W, w = List.set w139 0 (ob (a 0) 11 [.ref (a 1), .ref (a 2), .ref (a 3), .ref (a 4), .int (nI tp), .int (nI ((pl33 + 1) + 1)), .int (nI le), .int v39, .int nu34, .int v40, .int (nI cm), .int (nI wt), .int (nI sm), .int (nI (cd.2.2.2.2.2)), .ref (a 5), .ref (a 6), .ref (a 7), .ref (a 8), .ref (a 9), .ref (a 10), .ref (a 11), .ref (a 12), .ref (a 13), .ref (a 14), .ref (a 15), .ref (a 16), .ref (a 17), .int (nI (lm + 1)), .ref (a 18), .ref (a 19), .ref (a 20), .ref (a 21), .int v41, .int v42, .int v43, .int v44, .int (nI n45), .int (nI n46), .ref (a 22), .ref (a 23), .ref (a 24), .ref (a 25), .ref (a 26), .ref (a 27), .ref (a 28), .ref (a 29), .ref (a 30), .int kf]) := ⟨_, rfl⟩
                  refine x_put C (ci := 11) (k := 27) (ty := .int) 0 k143 rfl in_X12 tyX12 tyX12_ok nmX12 (by decide) w_1145 rfl rfl rfl rfl (Nat.le_of_ble_eq_true rfl) hw150.symm dX12_readsLine_229 rfl ?_
                  have hW151 : WX (okM E a cd kf jn js jq) w149 := by rw [hw150]; exact hW141.set (k := 0) rfl ⟨tp, ((pl33 + 1) + 1), le, v39, nu34, v40, cm, wt, sm, (lm + 1), v41, v42, v43, v44, n45, n46, by omega, by omega, by omega, by omega, by omega, by omega, by omega, by omega, by omega, rfl⟩
                  have k152 : w149[4]? = some (bA E (a 4) 260 tf) := by rw [hw150]; exact set_ne k142 (by decide)
                  have k153 : w149[0]? = some (ob (a 0) 11 [.ref (a 1), .ref (a 2), .ref (a 3), .ref (a 4), .int (nI tp), .int (nI ((pl33 + 1) + 1)), .int (nI le), .int v39, .int nu34, .int v40, .int (nI cm), .int (nI wt), .int (nI sm), .int (nI (cd.2.2.2.2.2)), .ref (a 5), .ref (a 6), .ref (a 7), .ref (a 8), .ref (a 9), .ref (a 10), .ref (a 11), .ref (a 12), .ref (a 13), .ref (a 14), .ref (a 15), .ref (a 16), .ref (a 17), .int (nI (lm + 1)), .ref (a 18), .ref (a 19), .ref (a 20), .ref (a 21), .int v41, .int v42, .int v43, .int v44, .int (nI n45), .int (nI n46), .ref (a 22), .ref (a 23), .ref (a 24), .ref (a 25), .ref (a 26), .ref (a 27), .ref (a 28), .ref (a 29), .ref (a 30), .int kf]) := by rw [hw150]; exact set_eq k143
                  have k154 : w149[19]? = some (iA E (a 19) 24 (upd f70 (nI lm).toNatClampNeg r57)) := by rw [hw150]; exact set_ne k144 (by decide)
                  have k155 : w149[20]? = some (iA E (a 20) 24 (fun j => nI ((updn (updn g79 lm 0) lm ((48 + d100) - 48)) j))) := by rw [hw150]; exact set_ne k145 (by decide)
                  have k156 : w149[18]? = some (iA E (a 18) 25 (fun j => nI ((updn g135 (lm + 1) ((g135 lm) + mm51)) j))) := by rw [hw150]; exact set_ne k148 (by decide)
                  have kp157 := keeps_set kp147 hw150 (by first | exact rfl | decide | omega | (dsimp only; omega))
                  refine x_iconst C (v := 1) dX12_readsLine_232 (by decide) rfl ?_
                  exact x_zret C hr hlk rfl dX12_readsLine_233 ⟨hW151, kp157, (Or.inr rfl), ⟨((pl33 + 1) + 1), (lm + 1), nu34, by omega, by omega, by omega, ⟨v39, v40, v41, v42, v43, v44, n45, n46, ⟨by omega, by omega, by omega, by omega, by omega, by omega, by omega⟩, ⟨by omega, by omega⟩, k153⟩⟩⟩
                · skip
                  have nf158 := nI_nle' (a := (48 + d100)) (b := 55) c109 (by omega) (by omega)
                  refine x_aload_n C dX12_readsLine_164 rfl 2 rfl rfl ?_
                  refine x_iconst C (v := 3) dX12_readsLine_165 (by decide) rfl ?_
                  refine x_aload_n C dX12_readsLine_166 rfl 2 rfl rfl ?_
                  refine x_get C (ci := 11) (k := 5) 0 k86 rfl in_X12 (by decide) w_1123 rfl dX12_readsLine_167 rfl ?_
                  refine x_vi C (As := [.int 3, .int (nI (pl33 + 1))]) (rest := []) (m_wrongAt E l a cd hG kf jn js jq w82 hW84 (3 : Int32) ((nI (pl33 + 1))) tp (pl33 + 1) le cm wt sm lm nu34 ⟨v39, v40, v41, v42, v43, v44, n45, n46, ⟨by omega, by omega, by omega, by omega, by omega, by omega, by omega⟩, ⟨by omega, by omega⟩, k86⟩) mf_X12_wrongAt w_1324 0 k86 rfl rfl rfl (Nat.le_of_ble_eq_true rfl) ⟨(Nat.le_of_ble_eq_true rfl), (Nat.le_of_ble_eq_true rfl)⟩ ⟨(Nat.le_of_ble_eq_true rfl), (Nat.le_of_ble_eq_true rfl)⟩ dX12_readsLine_170 rfl (fun r160 w161 h159 => ?_)
                  obtain ⟨hW162, kq163, e164, x165⟩ := h159
                  refine x_top e164 ?_
                  have k166 : w161[4]? = some (bA E (a 4) 260 tf) := keeps_at kq163 k85 (by first | decide | omega | (dsimp only; omega))
                  have k167 : w161[19]? = some (iA E (a 19) 24 (upd f70 (nI lm).toNatClampNeg r57)) := keeps_at kq163 k87 (by first | decide | omega | (dsimp only; omega))
                  have k168 : w161[20]? = some (iA E (a 20) 24 (fun j => nI ((updn g79 lm 0) j))) := keeps_at kq163 k90 (by first | decide | omega | (dsimp only; omega))
                  have kp169 := keeps_tr kp89 kq163 (fun q hq => by first | omega | (dsimp only at *; omega))
                  obtain ⟨v170, v171, v172, v173, v174, v175, n176, n177, bo178, bo179, k180⟩ := x165
                  exact x_zret C hr hlk rfl dX12_readsLine_173 ⟨hW162, kp169, (Or.inl rfl), ⟨((pl33 + 1)), lm, nu34, by omega, by omega, by omega, ⟨v170, v171, v172, v173, v174, v175, n176, n177, ⟨by omega, by omega, by omega, by omega, by omega, by omega, by omega⟩, ⟨by omega, by omega⟩, k180⟩⟩⟩
              · skip
                refine x_aload_n C dX12_readsLine_145 rfl 2 rfl rfl ?_
                refine x_iconst C (v := 1) dX12_readsLine_146 (by decide) rfl ?_
                refine x_aload_n C dX12_readsLine_147 rfl 2 rfl rfl ?_
                refine x_get C (ci := 11) (k := 5) 0 k86 rfl in_X12 (by decide) w_1123 rfl dX12_readsLine_148 rfl ?_
                refine x_vi C (As := [.int 1, .int (nI (pl33 + 1))]) (rest := []) (m_wrongAt E l a cd hG kf jn js jq w82 hW84 (1 : Int32) ((nI (pl33 + 1))) tp (pl33 + 1) le cm wt sm lm nu34 ⟨v39, v40, v41, v42, v43, v44, n45, n46, ⟨by omega, by omega, by omega, by omega, by omega, by omega, by omega⟩, ⟨by omega, by omega⟩, k86⟩) mf_X12_wrongAt w_1324 0 k86 rfl rfl rfl (Nat.le_of_ble_eq_true rfl) ⟨(Nat.le_of_ble_eq_true rfl), (Nat.le_of_ble_eq_true rfl)⟩ ⟨(Nat.le_of_ble_eq_true rfl), (Nat.le_of_ble_eq_true rfl)⟩ dX12_readsLine_151 rfl (fun r182 w183 h181 => ?_)
                obtain ⟨hW184, kq185, e186, x187⟩ := h181
                refine x_top e186 ?_
                have k188 : w183[4]? = some (bA E (a 4) 260 tf) := keeps_at kq185 k85 (by first | decide | omega | (dsimp only; omega))
                have k189 : w183[19]? = some (iA E (a 19) 24 (upd f70 (nI lm).toNatClampNeg r57)) := keeps_at kq185 k87 (by first | decide | omega | (dsimp only; omega))
                have k190 : w183[20]? = some (iA E (a 20) 24 (fun j => nI ((updn g79 lm 0) j))) := keeps_at kq185 k90 (by first | decide | omega | (dsimp only; omega))
                have kp191 := keeps_tr kp89 kq185 (fun q hq => by first | omega | (dsimp only at *; omega))
                obtain ⟨v192, v193, v194, v195, v196, v197, n198, n199, bo200, bo201, k202⟩ := x187
                exact x_zret C hr hlk rfl dX12_readsLine_154 ⟨hW184, kp191, (Or.inl rfl), ⟨((pl33 + 1)), lm, nu34, by omega, by omega, by omega, ⟨v192, v193, v194, v195, v196, v197, n198, n199, ⟨by omega, by omega, by omega, by omega, by omega, by omega, by omega⟩, ⟨by omega, by omega⟩, k202⟩⟩⟩
            · skip
              refine x_iload_n C dX12_readsLine_132 rfl 0 rfl rfl ?_
              refine x_bipush C (v := 33) dX12_readsLine_133 (by decide) rfl ?_
              refine x_icmp_ne C (tgt := 200) dX12_readsLine_135 (by decide) rfl (fun c203 => ?_) (fun c203 => ?_)
              · skip
                refine x_aload_n C dX12_readsLine_200 rfl 2 rfl rfl ?_
                refine x_get C (ci := 11) (k := 28) 0 k86 rfl in_X12 (by decide) w_1146 rfl dX12_readsLine_201 rfl ?_
                refine x_aload_n C dX12_readsLine_204 rfl 2 rfl rfl ?_
                refine x_get C (ci := 11) (k := 27) 0 k86 rfl in_X12 (by decide) w_1145 rfl dX12_readsLine_205 rfl ?_
                refine x_iconst C (v := 1) dX12_readsLine_208 (by decide) rfl ?_
                refine x_iadd C (v := (nI (lm + 1))) dX12_readsLine_209 (nI_add lm 1) rfl ?_
                refine x_aload_n C dX12_readsLine_210 rfl 2 rfl rfl ?_
                refine x_get C (ci := 11) (k := 28) 0 k86 rfl in_X12 (by decide) w_1146 rfl dX12_readsLine_211 rfl ?_
                refine x_aload_n C dX12_readsLine_214 rfl 2 rfl rfl ?_
                refine x_get C (ci := 11) (k := 27) 0 k86 rfl in_X12 (by decide) w_1145 rfl dX12_readsLine_215 rfl ?_
                obtain ⟨_, k204, g205, gb206, rfl⟩ := hW84 18 _ rfl
                refine x_ialk C (v := nI (g205 lm)) lm (nI_clamp (by omega)) (nI_pos (by omega)) (by omega) 18 k204 rfl dX12_readsLine_218 rfl ?_
                have bx207 := gb206 lm
                refine x_iload_n C dX12_readsLine_219 rfl 1 rfl rfl ?_
                refine x_iadd C (v := (nI ((g205 lm) + mm51))) dX12_readsLine_220 (nI_add (g205 lm) mm51) rfl ?_
                have gb208 := updn_leF (i := (lm + 1)) (v := ((g205 lm) + mm51)) gb206 (by omega)
                obtain ⟨w209, hw210⟩ : ∃ w : va_W, w = List.set w82 18 (iA E (a 18) 25 (upd (fun j => nI (g205 j)) (lm + 1) (nI ((g205 lm) + mm51)))) := ⟨_, rfl⟩
                refine x_iask C (lm + 1) (nI_clamp (by omega)) (nI_pos (by omega)) (by omega) 18 k204 hw210.symm dX12_readsLine_221 rfl ?_
                have hW211 : WX (okM E a cd kf jn js jq) w209 := by rw [hw210]; exact hW84.set (k := 18) rfl ⟨_, gb208, iA_n (upd_nI g205 (lm + 1) ((g205 lm) + mm51))⟩
                have k212 : w209[4]? = some (bA E (a 4) 260 tf) := by rw [hw210]; exact set_ne k85 (by decide)
                have k213 : w209[0]? = some (ob (a 0) 11 [.ref (a 1), .ref (a 2), .ref (a 3), .ref (a 4), .int (nI tp), .int (nI (pl33 + 1)), .int (nI le), .int v39, .int nu34, .int v40, .int (nI cm), .int (nI wt), .int (nI sm), .int (nI (cd.2.2.2.2.2)), .ref (a 5), .ref (a 6), .ref (a 7), .ref (a 8), .ref (a 9), .ref (a 10), .ref (a 11), .ref (a 12), .ref (a 13), .ref (a 14), .ref (a 15), .ref (a 16), .ref (a 17), .int (nI lm), .ref (a 18), .ref (a 19), .ref (a 20), .ref (a 21), .int v41, .int v42, .int v43, .int v44, .int (nI n45), .int (nI n46), .ref (a 22), .ref (a 23), .ref (a 24), .ref (a 25), .ref (a 26), .ref (a 27), .ref (a 28), .ref (a 29), .ref (a 30), .int kf]) := by rw [hw210]; exact set_ne k86 (by decide)
                have k214 : w209[19]? = some (iA E (a 19) 24 (upd f70 (nI lm).toNatClampNeg r57)) := by rw [hw210]; exact set_ne k87 (by decide)
                have k215 : w209[20]? = some (iA E (a 20) 24 (fun j => nI ((updn g79 lm 0) j))) := by rw [hw210]; exact set_ne k90 (by decide)
                have k216 : w209[18]? = some (iA E (a 18) 25 (upd (fun j => nI (g205 j)) (lm + 1) (nI ((g205 lm) + mm51)))) := by rw [hw210]; exact set_eq k204
                have kp217 := keeps_set kp89 hw210 (by first | exact rfl | decide | omega | (dsimp only; omega))
                have k218 : w209[18]? = some (iA E (a 18) 25 (fun j => nI ((updn g205 (lm + 1) ((g205 lm) + mm51)) j))) := by rw [← upd_nI]; exact k216
                refine x_aload_n C dX12_readsLine_222 rfl 2 rfl rfl ?_
                refine x_aload_n C dX12_readsLine_223 rfl 2 rfl rfl ?_
                refine x_get C (ci := 11) (k := 27) 0 k213 rfl in_X12 (by decide) w_1145 rfl dX12_readsLine_224 rfl ?_
                refine x_iconst C (v := 1) dX12_readsLine_227 (by decide) rfl ?_
                refine x_iadd C (v := (nI (lm + 1))) dX12_readsLine_228 (nI_add lm 1) rfl ?_
                obtain ⟨w219, hw220⟩ : ∃ w : va_W, w = List.set w209 0 (ob (a 0) 11 [.ref (a 1), .ref (a 2), .ref (a 3), .ref (a 4), .int (nI tp), .int (nI (pl33 + 1)), .int (nI le), .int v39, .int nu34, .int v40, .int (nI cm), .int (nI wt), .int (nI sm), .int (nI (cd.2.2.2.2.2)), .ref (a 5), .ref (a 6), .ref (a 7), .ref (a 8), .ref (a 9), .ref (a 10), .ref (a 11), .ref (a 12), .ref (a 13), .ref (a 14), .ref (a 15), .ref (a 16), .ref (a 17), .int (nI (lm + 1)), .ref (a 18), .ref (a 19), .ref (a 20), .ref (a 21), .int v41, .int v42, .int v43, .int v44, .int (nI n45), .int (nI n46), .ref (a 22), .ref (a 23), .ref (a 24), .ref (a 25), .ref (a 26), .ref (a 27), .ref (a 28), .ref (a 29), .ref (a 30), .int kf]) := ⟨_, rfl⟩
                refine x_put C (ci := 11) (k := 27) (ty := .int) 0 k213 rfl in_X12 tyX12 tyX12_ok nmX12 (by decide) w_1145 rfl rfl rfl rfl (Nat.le_of_ble_eq_true rfl) hw220.symm dX12_readsLine_229 rfl ?_
                have hW221 : WX (okM E a cd kf jn js jq) w219 := by rw [hw220]; exact hW211.set (k := 0) rfl ⟨tp, (pl33 + 1), le, v39, nu34, v40, cm, wt, sm, (lm + 1), v41, v42, v43, v44, n45, n46, by omega, by omega, by omega, by omega, by omega, by omega, by omega, by omega, by omega, rfl⟩
                have k222 : w219[4]? = some (bA E (a 4) 260 tf) := by rw [hw220]; exact set_ne k212 (by decide)
                have k223 : w219[0]? = some (ob (a 0) 11 [.ref (a 1), .ref (a 2), .ref (a 3), .ref (a 4), .int (nI tp), .int (nI (pl33 + 1)), .int (nI le), .int v39, .int nu34, .int v40, .int (nI cm), .int (nI wt), .int (nI sm), .int (nI (cd.2.2.2.2.2)), .ref (a 5), .ref (a 6), .ref (a 7), .ref (a 8), .ref (a 9), .ref (a 10), .ref (a 11), .ref (a 12), .ref (a 13), .ref (a 14), .ref (a 15), .ref (a 16), .ref (a 17), .int (nI (lm + 1)), .ref (a 18), .ref (a 19), .ref (a 20), .ref (a 21), .int v41, .int v42, .int v43, .int v44, .int (nI n45), .int (nI n46), .ref (a 22), .ref (a 23), .ref (a 24), .ref (a 25), .ref (a 26), .ref (a 27), .ref (a 28), .ref (a 29), .ref (a 30), .int kf]) := by rw [hw220]; exact set_eq k213
                have k224 : w219[19]? = some (iA E (a 19) 24 (upd f70 (nI lm).toNatClampNeg r57)) := by rw [hw220]; exact set_ne k214 (by decide)
                have k225 : w219[20]? = some (iA E (a 20) 24 (fun j => nI ((updn g79 lm 0) j))) := by rw [hw220]; exact set_ne k215 (by decide)
                have k226 : w219[18]? = some (iA E (a 18) 25 (fun j => nI ((updn g205 (lm + 1) ((g205 lm) + mm51)) j))) := by rw [hw220]; exact set_ne k218 (by decide)
                have kp227 := keeps_set kp217 hw220 (by first | exact rfl | decide | omega | (dsimp only; omega))
                refine x_iconst C (v := 1) dX12_readsLine_232 (by decide) rfl ?_
                exact x_zret C hr hlk rfl dX12_readsLine_233 ⟨hW221, kp227, (Or.inr rfl), ⟨(pl33 + 1), (lm + 1), nu34, by omega, by omega, by omega, ⟨v39, v40, v41, v42, v43, v44, n45, n46, ⟨by omega, by omega, by omega, by omega, by omega, by omega, by omega⟩, ⟨by omega, by omega⟩, k223⟩⟩⟩
              · skip
                have hp228 := hv_lt (x60.symm.trans c203) (by decide)
                refine x_aload_n C dX12_readsLine_138 rfl 2 rfl rfl ?_
                refine x_vi C (As := []) (rest := []) (m_isDigit E l a cd hG kf jn js jq w82 hW84 tp (pl33 + 1) le cm wt sm lm nu34 ⟨v39, v40, v41, v42, v43, v44, n45, n46, ⟨by omega, by omega, by omega, by omega, by omega, by omega, by omega⟩, ⟨by omega, by omega⟩, k86⟩ tf k85) mf_X12_isDigit w_1341 0 k86 rfl rfl rfl (Nat.le_of_ble_eq_true rfl) ⟨(Nat.le_of_ble_eq_true rfl), (Nat.le_of_ble_eq_true rfl)⟩ ⟨(Nat.le_of_ble_eq_true rfl), (Nat.le_of_ble_eq_true rfl)⟩ dX12_readsLine_139 rfl (fun r230 w231 h229 => ?_)
                obtain ⟨hW232, zb233, x234⟩ := h229
                refine x_ws hW232 ?_
                refine x_if_ne C (tgt := 155) dX12_readsLine_142 (by decide) rfl (fun c235 => ?_) (fun c235 => ?_)
                · skip
                  obtain ⟨d236, hd237, ed238, hp239⟩ := x234 c235
                  refine x_aload_n C dX12_readsLine_155 rfl 2 rfl rfl ?_
                  refine x_vi C (As := []) (rest := []) (m_here E l a cd hG kf jn js jq w82 hW84 tp (pl33 + 1) le cm wt sm lm nu34 ⟨v39, v40, v41, v42, v43, v44, n45, n46, ⟨by omega, by omega, by omega, by omega, by omega, by omega, by omega⟩, ⟨by omega, by omega⟩, k86⟩ tf k85) mf_X12_here w_1317 0 k86 rfl rfl rfl (Nat.le_of_ble_eq_true rfl) ⟨(Nat.le_of_ble_eq_true rfl), (Nat.le_of_ble_eq_true rfl)⟩ ⟨(Nat.le_of_ble_eq_true rfl), (Nat.le_of_ble_eq_true rfl)⟩ dX12_readsLine_156 rfl (fun r241 w242 h240 => ?_)
                  obtain ⟨hW243, x244⟩ := h240
                  refine x_ws hW243 ?_
                  refine x_top (x244.trans ed238) ?_
                  refine x_bipush C (v := 55) dX12_readsLine_159 (by decide) rfl ?_
                  refine x_icmp_le C (tgt := 174) dX12_readsLine_161 (by decide) rfl (fun c245 => ?_) (fun c245 => ?_)
                  · skip
                    have nf246 := nI_le' (a := (48 + d236)) (b := 55) c245 (by omega) (by omega)
                    refine x_aload_n C dX12_readsLine_174 rfl 2 rfl rfl ?_
                    refine x_get C (ci := 11) (k := 30) 0 k86 rfl in_X12 (by decide) w_1148 rfl dX12_readsLine_175 rfl ?_
                    refine x_aload_n C dX12_readsLine_178 rfl 2 rfl rfl ?_
                    refine x_get C (ci := 11) (k := 27) 0 k86 rfl in_X12 (by decide) w_1145 rfl dX12_readsLine_179 rfl ?_
                    refine x_aload_n C dX12_readsLine_182 rfl 2 rfl rfl ?_
                    refine x_vi C (As := []) (rest := [.int (nI lm), .ref (a 20)]) (m_here E l a cd hG kf jn js jq w82 hW84 tp (pl33 + 1) le cm wt sm lm nu34 ⟨v39, v40, v41, v42, v43, v44, n45, n46, ⟨by omega, by omega, by omega, by omega, by omega, by omega, by omega⟩, ⟨by omega, by omega⟩, k86⟩ tf k85) mf_X12_here w_1317 0 k86 rfl rfl rfl (Nat.le_of_ble_eq_true rfl) ⟨(Nat.le_of_ble_eq_true rfl), (Nat.le_of_ble_eq_true rfl)⟩ ⟨(Nat.le_of_ble_eq_true rfl), (Nat.le_of_ble_eq_true rfl)⟩ dX12_readsLine_183 rfl (fun r248 w249 h247 => ?_)
                    obtain ⟨hW250, x251⟩ := h247
                    refine x_ws hW250 ?_
                    refine x_top (x251.trans ed238) ?_
                    refine x_bipush C (v := 48) dX12_readsLine_186 (by decide) rfl ?_
                    refine x_isub C (v := (nI ((48 + d236) - 48))) dX12_readsLine_188 (pk_sub (a := (48 + d236)) (b := 48) (by omega)) rfl ?_
                    have gb252 := updn_le (i := lm) (v := ((48 + d236) - 48)) gb81 (by omega)
                    obtain ⟨w253, hw254⟩ : ∃ w : va_W, w = List.set w82 20 (iA E (a 20) 24 (upd (fun j => nI ((updn g79 lm 0) j)) lm (nI ((48 + d236) - 48)))) := ⟨_, rfl⟩
                    refine x_iask C lm (nI_clamp (by omega)) (nI_pos (by omega)) (by omega) 20 k90 hw254.symm dX12_readsLine_189 rfl ?_
                    have hW255 : WX (okM E a cd kf jn js jq) w253 := by rw [hw254]; exact hW84.set (k := 20) rfl ⟨_, gb252, iA_n (upd_nI (updn g79 lm 0) lm ((48 + d236) - 48))⟩
                    have k256 : w253[4]? = some (bA E (a 4) 260 tf) := by rw [hw254]; exact set_ne k85 (by decide)
                    have k257 : w253[0]? = some (ob (a 0) 11 [.ref (a 1), .ref (a 2), .ref (a 3), .ref (a 4), .int (nI tp), .int (nI (pl33 + 1)), .int (nI le), .int v39, .int nu34, .int v40, .int (nI cm), .int (nI wt), .int (nI sm), .int (nI (cd.2.2.2.2.2)), .ref (a 5), .ref (a 6), .ref (a 7), .ref (a 8), .ref (a 9), .ref (a 10), .ref (a 11), .ref (a 12), .ref (a 13), .ref (a 14), .ref (a 15), .ref (a 16), .ref (a 17), .int (nI lm), .ref (a 18), .ref (a 19), .ref (a 20), .ref (a 21), .int v41, .int v42, .int v43, .int v44, .int (nI n45), .int (nI n46), .ref (a 22), .ref (a 23), .ref (a 24), .ref (a 25), .ref (a 26), .ref (a 27), .ref (a 28), .ref (a 29), .ref (a 30), .int kf]) := by rw [hw254]; exact set_ne k86 (by decide)
                    have k258 : w253[19]? = some (iA E (a 19) 24 (upd f70 (nI lm).toNatClampNeg r57)) := by rw [hw254]; exact set_ne k87 (by decide)
                    have k259 : w253[20]? = some (iA E (a 20) 24 (upd (fun j => nI ((updn g79 lm 0) j)) lm (nI ((48 + d236) - 48)))) := by rw [hw254]; exact set_eq k90
                    have kp260 := keeps_set kp89 hw254 (by first | exact rfl | decide | omega | (dsimp only; omega))
                    have k261 : w253[20]? = some (iA E (a 20) 24 (fun j => nI ((updn (updn g79 lm 0) lm ((48 + d236) - 48)) j))) := by rw [← upd_nI]; exact k259
                    refine x_aload_n C dX12_readsLine_190 rfl 2 rfl rfl ?_
                    refine x_aload_n C dX12_readsLine_191 rfl 2 rfl rfl ?_
                    refine x_get C (ci := 11) (k := 5) 0 k257 rfl in_X12 (by decide) w_1123 rfl dX12_readsLine_192 rfl ?_
                    refine x_iconst C (v := 1) dX12_readsLine_195 (by decide) rfl ?_
                    refine x_iadd C (v := (nI ((pl33 + 1) + 1))) dX12_readsLine_196 (nI_add (pl33 + 1) 1) rfl ?_
                    obtain ⟨w262, hw263⟩ : ∃ w : va_W, w = List.set w253 0 (ob (a 0) 11 [.ref (a 1), .ref (a 2), .ref (a 3), .ref (a 4), .int (nI tp), .int (nI ((pl33 + 1) + 1)), .int (nI le), .int v39, .int nu34, .int v40, .int (nI cm), .int (nI wt), .int (nI sm), .int (nI (cd.2.2.2.2.2)), .ref (a 5), .ref (a 6), .ref (a 7), .ref (a 8), .ref (a 9), .ref (a 10), .ref (a 11), .ref (a 12), .ref (a 13), .ref (a 14), .ref (a 15), .ref (a 16), .ref (a 17), .int (nI lm), .ref (a 18), .ref (a 19), .ref (a 20), .ref (a 21), .int v41, .int v42, .int v43, .int v44, .int (nI n45), .int (nI n46), .ref (a 22), .ref (a 23), .ref (a 24), .ref (a 25), .ref (a 26), .ref (a 27), .ref (a 28), .ref (a 29), .ref (a 30), .int kf]) := ⟨_, rfl⟩
                    refine x_put C (ci := 11) (k := 5) (ty := .int) 0 k257 rfl in_X12 tyX12 tyX12_ok nmX12 (by decide) w_1123 rfl rfl rfl rfl (Nat.le_of_ble_eq_true rfl) hw263.symm dX12_readsLine_197 rfl ?_
                    have hW264 : WX (okM E a cd kf jn js jq) w262 := by rw [hw263]; exact hW255.set (k := 0) rfl ⟨tp, ((pl33 + 1) + 1), le, v39, nu34, v40, cm, wt, sm, lm, v41, v42, v43, v44, n45, n46, by omega, by omega, by omega, by omega, by omega, by omega, by omega, by omega, by omega, rfl⟩
                    have k265 : w262[4]? = some (bA E (a 4) 260 tf) := by rw [hw263]; exact set_ne k256 (by decide)
                    have k266 : w262[0]? = some (ob (a 0) 11 [.ref (a 1), .ref (a 2), .ref (a 3), .ref (a 4), .int (nI tp), .int (nI ((pl33 + 1) + 1)), .int (nI le), .int v39, .int nu34, .int v40, .int (nI cm), .int (nI wt), .int (nI sm), .int (nI (cd.2.2.2.2.2)), .ref (a 5), .ref (a 6), .ref (a 7), .ref (a 8), .ref (a 9), .ref (a 10), .ref (a 11), .ref (a 12), .ref (a 13), .ref (a 14), .ref (a 15), .ref (a 16), .ref (a 17), .int (nI lm), .ref (a 18), .ref (a 19), .ref (a 20), .ref (a 21), .int v41, .int v42, .int v43, .int v44, .int (nI n45), .int (nI n46), .ref (a 22), .ref (a 23), .ref (a 24), .ref (a 25), .ref (a 26), .ref (a 27), .ref (a 28), .ref (a 29), .ref (a 30), .int kf]) := by rw [hw263]; exact set_eq k257
                    have k267 : w262[19]? = some (iA E (a 19) 24 (upd f70 (nI lm).toNatClampNeg r57)) := by rw [hw263]; exact set_ne k258 (by decide)
                    have k268 : w262[20]? = some (iA E (a 20) 24 (fun j => nI ((updn (updn g79 lm 0) lm ((48 + d236) - 48)) j))) := by rw [hw263]; exact set_ne k261 (by decide)
                    have kp269 := keeps_set kp260 hw263 (by first | exact rfl | decide | omega | (dsimp only; omega))
                    refine x_aload_n C dX12_readsLine_200 rfl 2 rfl rfl ?_
                    refine x_get C (ci := 11) (k := 28) 0 k266 rfl in_X12 (by decide) w_1146 rfl dX12_readsLine_201 rfl ?_
                    refine x_aload_n C dX12_readsLine_204 rfl 2 rfl rfl ?_
                    refine x_get C (ci := 11) (k := 27) 0 k266 rfl in_X12 (by decide) w_1145 rfl dX12_readsLine_205 rfl ?_
                    refine x_iconst C (v := 1) dX12_readsLine_208 (by decide) rfl ?_
                    refine x_iadd C (v := (nI (lm + 1))) dX12_readsLine_209 (nI_add lm 1) rfl ?_
                    refine x_aload_n C dX12_readsLine_210 rfl 2 rfl rfl ?_
                    refine x_get C (ci := 11) (k := 28) 0 k266 rfl in_X12 (by decide) w_1146 rfl dX12_readsLine_211 rfl ?_
                    refine x_aload_n C dX12_readsLine_214 rfl 2 rfl rfl ?_
                    refine x_get C (ci := 11) (k := 27) 0 k266 rfl in_X12 (by decide) w_1145 rfl dX12_readsLine_215 rfl ?_
                    obtain ⟨_, k270, g271, gb272, rfl⟩ := hW264 18 _ rfl
                    refine x_ialk C (v := nI (g271 lm)) lm (nI_clamp (by omega)) (nI_pos (by omega)) (by omega) 18 k270 rfl dX12_readsLine_218 rfl ?_
                    have bx273 := gb272 lm
                    refine x_iload_n C dX12_readsLine_219 rfl 1 rfl rfl ?_
                    refine x_iadd C (v := (nI ((g271 lm) + mm51))) dX12_readsLine_220 (nI_add (g271 lm) mm51) rfl ?_
                    have gb274 := updn_leF (i := (lm + 1)) (v := ((g271 lm) + mm51)) gb272 (by omega)
                    obtain ⟨w275, hw276⟩ : ∃ w : va_W, w = List.set w262 18 (iA E (a 18) 25 (upd (fun j => nI (g271 j)) (lm + 1) (nI ((g271 lm) + mm51)))) := ⟨_, rfl⟩
                    refine x_iask C (lm + 1) (nI_clamp (by omega)) (nI_pos (by omega)) (by omega) 18 k270 hw276.symm dX12_readsLine_221 rfl ?_
                    have hW277 : WX (okM E a cd kf jn js jq) w275 := by rw [hw276]; exact hW264.set (k := 18) rfl ⟨_, gb274, iA_n (upd_nI g271 (lm + 1) ((g271 lm) + mm51))⟩
                    have k278 : w275[4]? = some (bA E (a 4) 260 tf) := by rw [hw276]; exact set_ne k265 (by decide)
                    have k279 : w275[0]? = some (ob (a 0) 11 [.ref (a 1), .ref (a 2), .ref (a 3), .ref (a 4), .int (nI tp), .int (nI ((pl33 + 1) + 1)), .int (nI le), .int v39, .int nu34, .int v40, .int (nI cm), .int (nI wt), .int (nI sm), .int (nI (cd.2.2.2.2.2)), .ref (a 5), .ref (a 6), .ref (a 7), .ref (a 8), .ref (a 9), .ref (a 10), .ref (a 11), .ref (a 12), .ref (a 13), .ref (a 14), .ref (a 15), .ref (a 16), .ref (a 17), .int (nI lm), .ref (a 18), .ref (a 19), .ref (a 20), .ref (a 21), .int v41, .int v42, .int v43, .int v44, .int (nI n45), .int (nI n46), .ref (a 22), .ref (a 23), .ref (a 24), .ref (a 25), .ref (a 26), .ref (a 27), .ref (a 28), .ref (a 29), .ref (a 30), .int kf]) := by rw [hw276]; exact set_ne k266 (by decide)
                    have k280 : w275[19]? = some (iA E (a 19) 24 (upd f70 (nI lm).toNatClampNeg r57)) := by rw [hw276]; exact set_ne k267 (by decide)
                    have k281 : w275[20]? = some (iA E (a 20) 24 (fun j => nI ((updn (updn g79 lm 0) lm ((48 + d236) - 48)) j))) := by rw [hw276]; exact set_ne k268 (by decide)
                    have k282 : w275[18]? = some (iA E (a 18) 25 (upd (fun j => nI (g271 j)) (lm + 1) (nI ((g271 lm) + mm51)))) := by rw [hw276]; exact set_eq k270
                    have kp283 := keeps_set kp269 hw276 (by first | exact rfl | decide | omega | (dsimp only; omega))
                    have k284 : w275[18]? = some (iA E (a 18) 25 (fun j => nI ((updn g271 (lm + 1) ((g271 lm) + mm51)) j))) := by rw [← upd_nI]; exact k282
                    refine x_aload_n C dX12_readsLine_222 rfl 2 rfl rfl ?_
                    refine x_aload_n C dX12_readsLine_223 rfl 2 rfl rfl ?_
                    refine x_get C (ci := 11) (k := 27) 0 k279 rfl in_X12 (by decide) w_1145 rfl dX12_readsLine_224 rfl ?_
                    refine x_iconst C (v := 1) dX12_readsLine_227 (by decide) rfl ?_
                    refine x_iadd C (v := (nI (lm + 1))) dX12_readsLine_228 (nI_add lm 1) rfl ?_
                    obtain ⟨w285, hw286⟩ : ∃ w : va_W, w = List.set w275 0 (ob (a 0) 11 [.ref (a 1), .ref (a 2), .ref (a 3), .ref (a 4), .int (nI tp), .int (nI ((pl33 + 1) + 1)), .int (nI le), .int v39, .int nu34, .int v40, .int (nI cm), .int (nI wt), .int (nI sm), .int (nI (cd.2.2.2.2.2)), .ref (a 5), .ref (a 6), .ref (a 7), .ref (a 8), .ref (a 9), .ref (a 10), .ref (a 11), .ref (a 12), .ref (a 13), .ref (a 14), .ref (a 15), .ref (a 16), .ref (a 17), .int (nI (lm + 1)), .ref (a 18), .ref (a 19), .ref (a 20), .ref (a 21), .int v41, .int v42, .int v43, .int v44, .int (nI n45), .int (nI n46), .ref (a 22), .ref (a 23), .ref (a 24), .ref (a 25), .ref (a 26), .ref (a 27), .ref (a 28), .ref (a 29), .ref (a 30), .int kf]) := ⟨_, rfl⟩
                    refine x_put C (ci := 11) (k := 27) (ty := .int) 0 k279 rfl in_X12 tyX12 tyX12_ok nmX12 (by decide) w_1145 rfl rfl rfl rfl (Nat.le_of_ble_eq_true rfl) hw286.symm dX12_readsLine_229 rfl ?_
                    have hW287 : WX (okM E a cd kf jn js jq) w285 := by rw [hw286]; exact hW277.set (k := 0) rfl ⟨tp, ((pl33 + 1) + 1), le, v39, nu34, v40, cm, wt, sm, (lm + 1), v41, v42, v43, v44, n45, n46, by omega, by omega, by omega, by omega, by omega, by omega, by omega, by omega, by omega, rfl⟩
                    have k288 : w285[4]? = some (bA E (a 4) 260 tf) := by rw [hw286]; exact set_ne k278 (by decide)
                    have k289 : w285[0]? = some (ob (a 0) 11 [.ref (a 1), .ref (a 2), .ref (a 3), .ref (a 4), .int (nI tp), .int (nI ((pl33 + 1) + 1)), .int (nI le), .int v39, .int nu34, .int v40, .int (nI cm), .int (nI wt), .int (nI sm), .int (nI (cd.2.2.2.2.2)), .ref (a 5), .ref (a 6), .ref (a 7), .ref (a 8), .ref (a 9), .ref (a 10), .ref (a 11), .ref (a 12), .ref (a 13), .ref (a 14), .ref (a 15), .ref (a 16), .ref (a 17), .int (nI (lm + 1)), .ref (a 18), .ref (a 19), .ref (a 20), .ref (a 21), .int v41, .int v42, .int v43, .int v44, .int (nI n45), .int (nI n46), .ref (a 22), .ref (a 23), .ref (a 24), .ref (a 25), .ref (a 26), .ref (a 27), .ref (a 28), .ref (a 29), .ref (a 30), .int kf]) := by rw [hw286]; exact set_eq k279
                    have k290 : w285[19]? = some (iA E (a 19) 24 (upd f70 (nI lm).toNatClampNeg r57)) := by rw [hw286]; exact set_ne k280 (by decide)
                    have k291 : w285[20]? = some (iA E (a 20) 24 (fun j => nI ((updn (updn g79 lm 0) lm ((48 + d236) - 48)) j))) := by rw [hw286]; exact set_ne k281 (by decide)
                    have k292 : w285[18]? = some (iA E (a 18) 25 (fun j => nI ((updn g271 (lm + 1) ((g271 lm) + mm51)) j))) := by rw [hw286]; exact set_ne k284 (by decide)
                    have kp293 := keeps_set kp283 hw286 (by first | exact rfl | decide | omega | (dsimp only; omega))
                    refine x_iconst C (v := 1) dX12_readsLine_232 (by decide) rfl ?_
                    exact x_zret C hr hlk rfl dX12_readsLine_233 ⟨hW287, kp293, (Or.inr rfl), ⟨((pl33 + 1) + 1), (lm + 1), nu34, by omega, by omega, by omega, ⟨v39, v40, v41, v42, v43, v44, n45, n46, ⟨by omega, by omega, by omega, by omega, by omega, by omega, by omega⟩, ⟨by omega, by omega⟩, k289⟩⟩⟩
                  · skip
                    have nf294 := nI_nle' (a := (48 + d236)) (b := 55) c245 (by omega) (by omega)
                    refine x_aload_n C dX12_readsLine_164 rfl 2 rfl rfl ?_
                    refine x_iconst C (v := 3) dX12_readsLine_165 (by decide) rfl ?_
                    refine x_aload_n C dX12_readsLine_166 rfl 2 rfl rfl ?_
                    refine x_get C (ci := 11) (k := 5) 0 k86 rfl in_X12 (by decide) w_1123 rfl dX12_readsLine_167 rfl ?_
                    refine x_vi C (As := [.int 3, .int (nI (pl33 + 1))]) (rest := []) (m_wrongAt E l a cd hG kf jn js jq w82 hW84 (3 : Int32) ((nI (pl33 + 1))) tp (pl33 + 1) le cm wt sm lm nu34 ⟨v39, v40, v41, v42, v43, v44, n45, n46, ⟨by omega, by omega, by omega, by omega, by omega, by omega, by omega⟩, ⟨by omega, by omega⟩, k86⟩) mf_X12_wrongAt w_1324 0 k86 rfl rfl rfl (Nat.le_of_ble_eq_true rfl) ⟨(Nat.le_of_ble_eq_true rfl), (Nat.le_of_ble_eq_true rfl)⟩ ⟨(Nat.le_of_ble_eq_true rfl), (Nat.le_of_ble_eq_true rfl)⟩ dX12_readsLine_170 rfl (fun r296 w297 h295 => ?_)
                    obtain ⟨hW298, kq299, e300, x301⟩ := h295
                    refine x_top e300 ?_
                    have k302 : w297[4]? = some (bA E (a 4) 260 tf) := keeps_at kq299 k85 (by first | decide | omega | (dsimp only; omega))
                    have k303 : w297[19]? = some (iA E (a 19) 24 (upd f70 (nI lm).toNatClampNeg r57)) := keeps_at kq299 k87 (by first | decide | omega | (dsimp only; omega))
                    have k304 : w297[20]? = some (iA E (a 20) 24 (fun j => nI ((updn g79 lm 0) j))) := keeps_at kq299 k90 (by first | decide | omega | (dsimp only; omega))
                    have kp305 := keeps_tr kp89 kq299 (fun q hq => by first | omega | (dsimp only at *; omega))
                    obtain ⟨v306, v307, v308, v309, v310, v311, n312, n313, bo314, bo315, k316⟩ := x301
                    exact x_zret C hr hlk rfl dX12_readsLine_173 ⟨hW298, kp305, (Or.inl rfl), ⟨((pl33 + 1)), lm, nu34, by omega, by omega, by omega, ⟨v306, v307, v308, v309, v310, v311, n312, n313, ⟨by omega, by omega, by omega, by omega, by omega, by omega, by omega⟩, ⟨by omega, by omega⟩, k316⟩⟩⟩
                · skip
                  refine x_aload_n C dX12_readsLine_145 rfl 2 rfl rfl ?_
                  refine x_iconst C (v := 1) dX12_readsLine_146 (by decide) rfl ?_
                  refine x_aload_n C dX12_readsLine_147 rfl 2 rfl rfl ?_
                  refine x_get C (ci := 11) (k := 5) 0 k86 rfl in_X12 (by decide) w_1123 rfl dX12_readsLine_148 rfl ?_
                  refine x_vi C (As := [.int 1, .int (nI (pl33 + 1))]) (rest := []) (m_wrongAt E l a cd hG kf jn js jq w82 hW84 (1 : Int32) ((nI (pl33 + 1))) tp (pl33 + 1) le cm wt sm lm nu34 ⟨v39, v40, v41, v42, v43, v44, n45, n46, ⟨by omega, by omega, by omega, by omega, by omega, by omega, by omega⟩, ⟨by omega, by omega⟩, k86⟩) mf_X12_wrongAt w_1324 0 k86 rfl rfl rfl (Nat.le_of_ble_eq_true rfl) ⟨(Nat.le_of_ble_eq_true rfl), (Nat.le_of_ble_eq_true rfl)⟩ ⟨(Nat.le_of_ble_eq_true rfl), (Nat.le_of_ble_eq_true rfl)⟩ dX12_readsLine_151 rfl (fun r318 w319 h317 => ?_)
                  obtain ⟨hW320, kq321, e322, x323⟩ := h317
                  refine x_top e322 ?_
                  have k324 : w319[4]? = some (bA E (a 4) 260 tf) := keeps_at kq321 k85 (by first | decide | omega | (dsimp only; omega))
                  have k325 : w319[19]? = some (iA E (a 19) 24 (upd f70 (nI lm).toNatClampNeg r57)) := keeps_at kq321 k87 (by first | decide | omega | (dsimp only; omega))
                  have k326 : w319[20]? = some (iA E (a 20) 24 (fun j => nI ((updn g79 lm 0) j))) := keeps_at kq321 k90 (by first | decide | omega | (dsimp only; omega))
                  have kp327 := keeps_tr kp89 kq321 (fun q hq => by first | omega | (dsimp only at *; omega))
                  obtain ⟨v328, v329, v330, v331, v332, v333, n334, n335, bo336, bo337, k338⟩ := x323
                  exact x_zret C hr hlk rfl dX12_readsLine_154 ⟨hW320, kp327, (Or.inl rfl), ⟨((pl33 + 1)), lm, nu34, by omega, by omega, by omega, ⟨v328, v329, v330, v331, v332, v333, n334, n335, ⟨by omega, by omega, by omega, by omega, by omega, by omega, by omega⟩, ⟨by omega, by omega⟩, k338⟩⟩⟩
          · skip
            refine x_iload_n C dX12_readsLine_68 rfl 0 rfl rfl ?_
            refine x_bipush C (v := 33) dX12_readsLine_69 (by decide) rfl ?_
            refine x_icmp_eq C (tgt := 96) dX12_readsLine_71 (by decide) rfl (fun c339 => ?_) (fun c339 => ?_)
            · skip
              have hp340 := hv_lt (x60.symm.trans c339) (by decide)
              refine x_aload_n C dX12_readsLine_96 rfl 2 rfl rfl ?_
              refine x_aload_n C dX12_readsLine_97 rfl 2 rfl rfl ?_
              refine x_get C (ci := 11) (k := 5) 0 k49 rfl in_X12 (by decide) w_1123 rfl dX12_readsLine_98 rfl ?_
              refine x_iconst C (v := 1) dX12_readsLine_101 (by decide) rfl ?_
              refine x_iadd C (v := (nI (pl33 + 1))) dX12_readsLine_102 (nI_add pl33 1) rfl ?_
              obtain ⟨w341, hw342⟩ : ∃ w : va_W, w = List.set w27 0 (ob (a 0) 11 [.ref (a 1), .ref (a 2), .ref (a 3), .ref (a 4), .int (nI tp), .int (nI (pl33 + 1)), .int (nI le), .int v39, .int nu34, .int v40, .int (nI cm), .int (nI wt), .int (nI sm), .int (nI (cd.2.2.2.2.2)), .ref (a 5), .ref (a 6), .ref (a 7), .ref (a 8), .ref (a 9), .ref (a 10), .ref (a 11), .ref (a 12), .ref (a 13), .ref (a 14), .ref (a 15), .ref (a 16), .ref (a 17), .int (nI lm), .ref (a 18), .ref (a 19), .ref (a 20), .ref (a 21), .int v41, .int v42, .int v43, .int v44, .int (nI n45), .int (nI n46), .ref (a 22), .ref (a 23), .ref (a 24), .ref (a 25), .ref (a 26), .ref (a 27), .ref (a 28), .ref (a 29), .ref (a 30), .int kf]) := ⟨_, rfl⟩
              refine x_put C (ci := 11) (k := 5) (ty := .int) 0 k49 rfl in_X12 tyX12 tyX12_ok nmX12 (by decide) w_1123 rfl rfl rfl rfl (Nat.le_of_ble_eq_true rfl) hw342.symm dX12_readsLine_103 rfl ?_
              have hW343 : WX (okM E a cd kf jn js jq) w341 := by rw [hw342]; exact hW28.set (k := 0) rfl ⟨tp, (pl33 + 1), le, v39, nu34, v40, cm, wt, sm, lm, v41, v42, v43, v44, n45, n46, by omega, by omega, by omega, by omega, by omega, by omega, by omega, by omega, by omega, rfl⟩
              have k344 : w341[4]? = some (bA E (a 4) 260 tf) := by rw [hw342]; exact set_ne k31 (by decide)
              have k345 : w341[0]? = some (ob (a 0) 11 [.ref (a 1), .ref (a 2), .ref (a 3), .ref (a 4), .int (nI tp), .int (nI (pl33 + 1)), .int (nI le), .int v39, .int nu34, .int v40, .int (nI cm), .int (nI wt), .int (nI sm), .int (nI (cd.2.2.2.2.2)), .ref (a 5), .ref (a 6), .ref (a 7), .ref (a 8), .ref (a 9), .ref (a 10), .ref (a 11), .ref (a 12), .ref (a 13), .ref (a 14), .ref (a 15), .ref (a 16), .ref (a 17), .int (nI lm), .ref (a 18), .ref (a 19), .ref (a 20), .ref (a 21), .int v41, .int v42, .int v43, .int v44, .int (nI n45), .int (nI n46), .ref (a 22), .ref (a 23), .ref (a 24), .ref (a 25), .ref (a 26), .ref (a 27), .ref (a 28), .ref (a 29), .ref (a 30), .int kf]) := by rw [hw342]; exact set_eq k49
              have kp346 := keeps_set kp32 hw342 (by first | exact rfl | decide | omega | (dsimp only; omega))
              refine x_aload_n C dX12_readsLine_106 rfl 2 rfl rfl ?_
              refine x_get C (ci := 11) (k := 29) 0 k345 rfl in_X12 (by decide) w_1147 rfl dX12_readsLine_107 rfl ?_
              refine x_aload_n C dX12_readsLine_110 rfl 2 rfl rfl ?_
              refine x_get C (ci := 11) (k := 27) 0 k345 rfl in_X12 (by decide) w_1145 rfl dX12_readsLine_111 rfl ?_
              refine x_iload_n C dX12_readsLine_114 rfl 0 rfl rfl ?_
              obtain ⟨_, k347, f348, rfl⟩ := hW343 19 _ rfl
              obtain ⟨w349, hw350⟩ : ∃ w : va_W, w = List.set w341 19 (iA E (a 19) 24 (upd f348 (nI lm).toNatClampNeg r57)) := ⟨_, rfl⟩
              refine x_iast C 19 k347 (vp_in_nI (by omega) (by decide)) hw350.symm dX12_readsLine_115 rfl ?_
              have hW351 : WX (okM E a cd kf jn js jq) w349 := by rw [hw350]; exact hW343.set (k := 19) rfl ⟨_, rfl⟩
              have k352 : w349[4]? = some (bA E (a 4) 260 tf) := by rw [hw350]; exact set_ne k344 (by decide)
              have k353 : w349[0]? = some (ob (a 0) 11 [.ref (a 1), .ref (a 2), .ref (a 3), .ref (a 4), .int (nI tp), .int (nI (pl33 + 1)), .int (nI le), .int v39, .int nu34, .int v40, .int (nI cm), .int (nI wt), .int (nI sm), .int (nI (cd.2.2.2.2.2)), .ref (a 5), .ref (a 6), .ref (a 7), .ref (a 8), .ref (a 9), .ref (a 10), .ref (a 11), .ref (a 12), .ref (a 13), .ref (a 14), .ref (a 15), .ref (a 16), .ref (a 17), .int (nI lm), .ref (a 18), .ref (a 19), .ref (a 20), .ref (a 21), .int v41, .int v42, .int v43, .int v44, .int (nI n45), .int (nI n46), .ref (a 22), .ref (a 23), .ref (a 24), .ref (a 25), .ref (a 26), .ref (a 27), .ref (a 28), .ref (a 29), .ref (a 30), .int kf]) := by rw [hw350]; exact set_ne k345 (by decide)
              have k354 : w349[19]? = some (iA E (a 19) 24 (upd f348 (nI lm).toNatClampNeg r57)) := by rw [hw350]; exact set_eq k347
              have kp355 := keeps_set kp346 hw350 (by first | exact rfl | decide | omega | (dsimp only; omega))
              refine x_aload_n C dX12_readsLine_116 rfl 2 rfl rfl ?_
              refine x_get C (ci := 11) (k := 30) 0 k353 rfl in_X12 (by decide) w_1148 rfl dX12_readsLine_117 rfl ?_
              refine x_aload_n C dX12_readsLine_120 rfl 2 rfl rfl ?_
              refine x_get C (ci := 11) (k := 27) 0 k353 rfl in_X12 (by decide) w_1145 rfl dX12_readsLine_121 rfl ?_
              refine x_iconst C (v := 0) dX12_readsLine_124 (by decide) rfl ?_
              obtain ⟨_, k356, g357, gb358, rfl⟩ := hW351 20 _ rfl
              have gb359 := updn_le (i := lm) (v := 0) gb358 (by omega)
              obtain ⟨w360, hw361⟩ : ∃ w : va_W, w = List.set w349 20 (iA E (a 20) 24 (upd (fun j => nI (g357 j)) lm (nI 0))) := ⟨_, rfl⟩
              refine x_iask C lm (nI_clamp (by omega)) (nI_pos (by omega)) (by omega) 20 k356 hw361.symm dX12_readsLine_125 rfl ?_
              have hW362 : WX (okM E a cd kf jn js jq) w360 := by rw [hw361]; exact hW351.set (k := 20) rfl ⟨_, gb359, iA_n (upd_nI g357 lm 0)⟩
              have k363 : w360[4]? = some (bA E (a 4) 260 tf) := by rw [hw361]; exact set_ne k352 (by decide)
              have k364 : w360[0]? = some (ob (a 0) 11 [.ref (a 1), .ref (a 2), .ref (a 3), .ref (a 4), .int (nI tp), .int (nI (pl33 + 1)), .int (nI le), .int v39, .int nu34, .int v40, .int (nI cm), .int (nI wt), .int (nI sm), .int (nI (cd.2.2.2.2.2)), .ref (a 5), .ref (a 6), .ref (a 7), .ref (a 8), .ref (a 9), .ref (a 10), .ref (a 11), .ref (a 12), .ref (a 13), .ref (a 14), .ref (a 15), .ref (a 16), .ref (a 17), .int (nI lm), .ref (a 18), .ref (a 19), .ref (a 20), .ref (a 21), .int v41, .int v42, .int v43, .int v44, .int (nI n45), .int (nI n46), .ref (a 22), .ref (a 23), .ref (a 24), .ref (a 25), .ref (a 26), .ref (a 27), .ref (a 28), .ref (a 29), .ref (a 30), .int kf]) := by rw [hw361]; exact set_ne k353 (by decide)
              have k365 : w360[19]? = some (iA E (a 19) 24 (upd f348 (nI lm).toNatClampNeg r57)) := by rw [hw361]; exact set_ne k354 (by decide)
              have k366 : w360[20]? = some (iA E (a 20) 24 (upd (fun j => nI (g357 j)) lm (nI 0))) := by rw [hw361]; exact set_eq k356
              have kp367 := keeps_set kp355 hw361 (by first | exact rfl | decide | omega | (dsimp only; omega))
              have k368 : w360[20]? = some (iA E (a 20) 24 (fun j => nI ((updn g357 lm 0) j))) := by rw [← upd_nI]; exact k366
              refine x_iload_n C dX12_readsLine_126 rfl 0 rfl rfl ?_
              refine x_bipush C (v := 62) dX12_readsLine_127 (by decide) rfl ?_
              refine x_icmp_eq C (tgt := 138) dX12_readsLine_129 (by decide) rfl (fun c369 => ?_) (fun c369 => ?_)
              · skip
                have hp370 := hv_lt (x60.symm.trans c369) (by decide)
                refine x_aload_n C dX12_readsLine_138 rfl 2 rfl rfl ?_
                refine x_vi C (As := []) (rest := []) (m_isDigit E l a cd hG kf jn js jq w360 hW362 tp (pl33 + 1) le cm wt sm lm nu34 ⟨v39, v40, v41, v42, v43, v44, n45, n46, ⟨by omega, by omega, by omega, by omega, by omega, by omega, by omega⟩, ⟨by omega, by omega⟩, k364⟩ tf k363) mf_X12_isDigit w_1341 0 k364 rfl rfl rfl (Nat.le_of_ble_eq_true rfl) ⟨(Nat.le_of_ble_eq_true rfl), (Nat.le_of_ble_eq_true rfl)⟩ ⟨(Nat.le_of_ble_eq_true rfl), (Nat.le_of_ble_eq_true rfl)⟩ dX12_readsLine_139 rfl (fun r372 w373 h371 => ?_)
                obtain ⟨hW374, zb375, x376⟩ := h371
                refine x_ws hW374 ?_
                refine x_if_ne C (tgt := 155) dX12_readsLine_142 (by decide) rfl (fun c377 => ?_) (fun c377 => ?_)
                · skip
                  obtain ⟨d378, hd379, ed380, hp381⟩ := x376 c377
                  refine x_aload_n C dX12_readsLine_155 rfl 2 rfl rfl ?_
                  refine x_vi C (As := []) (rest := []) (m_here E l a cd hG kf jn js jq w360 hW362 tp (pl33 + 1) le cm wt sm lm nu34 ⟨v39, v40, v41, v42, v43, v44, n45, n46, ⟨by omega, by omega, by omega, by omega, by omega, by omega, by omega⟩, ⟨by omega, by omega⟩, k364⟩ tf k363) mf_X12_here w_1317 0 k364 rfl rfl rfl (Nat.le_of_ble_eq_true rfl) ⟨(Nat.le_of_ble_eq_true rfl), (Nat.le_of_ble_eq_true rfl)⟩ ⟨(Nat.le_of_ble_eq_true rfl), (Nat.le_of_ble_eq_true rfl)⟩ dX12_readsLine_156 rfl (fun r383 w384 h382 => ?_)
                  obtain ⟨hW385, x386⟩ := h382
                  refine x_ws hW385 ?_
                  refine x_top (x386.trans ed380) ?_
                  refine x_bipush C (v := 55) dX12_readsLine_159 (by decide) rfl ?_
                  refine x_icmp_le C (tgt := 174) dX12_readsLine_161 (by decide) rfl (fun c387 => ?_) (fun c387 => ?_)
                  · skip
                    have nf388 := nI_le' (a := (48 + d378)) (b := 55) c387 (by omega) (by omega)
                    refine x_aload_n C dX12_readsLine_174 rfl 2 rfl rfl ?_
                    refine x_get C (ci := 11) (k := 30) 0 k364 rfl in_X12 (by decide) w_1148 rfl dX12_readsLine_175 rfl ?_
                    refine x_aload_n C dX12_readsLine_178 rfl 2 rfl rfl ?_
                    refine x_get C (ci := 11) (k := 27) 0 k364 rfl in_X12 (by decide) w_1145 rfl dX12_readsLine_179 rfl ?_
                    refine x_aload_n C dX12_readsLine_182 rfl 2 rfl rfl ?_
                    refine x_vi C (As := []) (rest := [.int (nI lm), .ref (a 20)]) (m_here E l a cd hG kf jn js jq w360 hW362 tp (pl33 + 1) le cm wt sm lm nu34 ⟨v39, v40, v41, v42, v43, v44, n45, n46, ⟨by omega, by omega, by omega, by omega, by omega, by omega, by omega⟩, ⟨by omega, by omega⟩, k364⟩ tf k363) mf_X12_here w_1317 0 k364 rfl rfl rfl (Nat.le_of_ble_eq_true rfl) ⟨(Nat.le_of_ble_eq_true rfl), (Nat.le_of_ble_eq_true rfl)⟩ ⟨(Nat.le_of_ble_eq_true rfl), (Nat.le_of_ble_eq_true rfl)⟩ dX12_readsLine_183 rfl (fun r390 w391 h389 => ?_)
                    obtain ⟨hW392, x393⟩ := h389
                    refine x_ws hW392 ?_
                    refine x_top (x393.trans ed380) ?_
                    refine x_bipush C (v := 48) dX12_readsLine_186 (by decide) rfl ?_
                    refine x_isub C (v := (nI ((48 + d378) - 48))) dX12_readsLine_188 (pk_sub (a := (48 + d378)) (b := 48) (by omega)) rfl ?_
                    have gb394 := updn_le (i := lm) (v := ((48 + d378) - 48)) gb359 (by omega)
                    obtain ⟨w395, hw396⟩ : ∃ w : va_W, w = List.set w360 20 (iA E (a 20) 24 (upd (fun j => nI ((updn g357 lm 0) j)) lm (nI ((48 + d378) - 48)))) := ⟨_, rfl⟩
                    refine x_iask C lm (nI_clamp (by omega)) (nI_pos (by omega)) (by omega) 20 k368 hw396.symm dX12_readsLine_189 rfl ?_
                    have hW397 : WX (okM E a cd kf jn js jq) w395 := by rw [hw396]; exact hW362.set (k := 20) rfl ⟨_, gb394, iA_n (upd_nI (updn g357 lm 0) lm ((48 + d378) - 48))⟩
                    have k398 : w395[4]? = some (bA E (a 4) 260 tf) := by rw [hw396]; exact set_ne k363 (by decide)
                    have k399 : w395[0]? = some (ob (a 0) 11 [.ref (a 1), .ref (a 2), .ref (a 3), .ref (a 4), .int (nI tp), .int (nI (pl33 + 1)), .int (nI le), .int v39, .int nu34, .int v40, .int (nI cm), .int (nI wt), .int (nI sm), .int (nI (cd.2.2.2.2.2)), .ref (a 5), .ref (a 6), .ref (a 7), .ref (a 8), .ref (a 9), .ref (a 10), .ref (a 11), .ref (a 12), .ref (a 13), .ref (a 14), .ref (a 15), .ref (a 16), .ref (a 17), .int (nI lm), .ref (a 18), .ref (a 19), .ref (a 20), .ref (a 21), .int v41, .int v42, .int v43, .int v44, .int (nI n45), .int (nI n46), .ref (a 22), .ref (a 23), .ref (a 24), .ref (a 25), .ref (a 26), .ref (a 27), .ref (a 28), .ref (a 29), .ref (a 30), .int kf]) := by rw [hw396]; exact set_ne k364 (by decide)
                    have k400 : w395[19]? = some (iA E (a 19) 24 (upd f348 (nI lm).toNatClampNeg r57)) := by rw [hw396]; exact set_ne k365 (by decide)
                    have k401 : w395[20]? = some (iA E (a 20) 24 (upd (fun j => nI ((updn g357 lm 0) j)) lm (nI ((48 + d378) - 48)))) := by rw [hw396]; exact set_eq k368
                    have kp402 := keeps_set kp367 hw396 (by first | exact rfl | decide | omega | (dsimp only; omega))
                    have k403 : w395[20]? = some (iA E (a 20) 24 (fun j => nI ((updn (updn g357 lm 0) lm ((48 + d378) - 48)) j))) := by rw [← upd_nI]; exact k401
                    refine x_aload_n C dX12_readsLine_190 rfl 2 rfl rfl ?_
                    refine x_aload_n C dX12_readsLine_191 rfl 2 rfl rfl ?_
                    refine x_get C (ci := 11) (k := 5) 0 k399 rfl in_X12 (by decide) w_1123 rfl dX12_readsLine_192 rfl ?_
                    refine x_iconst C (v := 1) dX12_readsLine_195 (by decide) rfl ?_
                    refine x_iadd C (v := (nI ((pl33 + 1) + 1))) dX12_readsLine_196 (nI_add (pl33 + 1) 1) rfl ?_
                    obtain ⟨w404, hw405⟩ : ∃ w : va_W, w = List.set w395 0 (ob (a 0) 11 [.ref (a 1), .ref (a 2), .ref (a 3), .ref (a 4), .int (nI tp), .int (nI ((pl33 + 1) + 1)), .int (nI le), .int v39, .int nu34, .int v40, .int (nI cm), .int (nI wt), .int (nI sm), .int (nI (cd.2.2.2.2.2)), .ref (a 5), .ref (a 6), .ref (a 7), .ref (a 8), .ref (a 9), .ref (a 10), .ref (a 11), .ref (a 12), .ref (a 13), .ref (a 14), .ref (a 15), .ref (a 16), .ref (a 17), .int (nI lm), .ref (a 18), .ref (a 19), .ref (a 20), .ref (a 21), .int v41, .int v42, .int v43, .int v44, .int (nI n45), .int (nI n46), .ref (a 22), .ref (a 23), .ref (a 24), .ref (a 25), .ref (a 26), .ref (a 27), .ref (a 28), .ref (a 29), .ref (a 30), .int kf]) := ⟨_, rfl⟩
                    refine x_put C (ci := 11) (k := 5) (ty := .int) 0 k399 rfl in_X12 tyX12 tyX12_ok nmX12 (by decide) w_1123 rfl rfl rfl rfl (Nat.le_of_ble_eq_true rfl) hw405.symm dX12_readsLine_197 rfl ?_
                    have hW406 : WX (okM E a cd kf jn js jq) w404 := by rw [hw405]; exact hW397.set (k := 0) rfl ⟨tp, ((pl33 + 1) + 1), le, v39, nu34, v40, cm, wt, sm, lm, v41, v42, v43, v44, n45, n46, by omega, by omega, by omega, by omega, by omega, by omega, by omega, by omega, by omega, rfl⟩
                    have k407 : w404[4]? = some (bA E (a 4) 260 tf) := by rw [hw405]; exact set_ne k398 (by decide)
                    have k408 : w404[0]? = some (ob (a 0) 11 [.ref (a 1), .ref (a 2), .ref (a 3), .ref (a 4), .int (nI tp), .int (nI ((pl33 + 1) + 1)), .int (nI le), .int v39, .int nu34, .int v40, .int (nI cm), .int (nI wt), .int (nI sm), .int (nI (cd.2.2.2.2.2)), .ref (a 5), .ref (a 6), .ref (a 7), .ref (a 8), .ref (a 9), .ref (a 10), .ref (a 11), .ref (a 12), .ref (a 13), .ref (a 14), .ref (a 15), .ref (a 16), .ref (a 17), .int (nI lm), .ref (a 18), .ref (a 19), .ref (a 20), .ref (a 21), .int v41, .int v42, .int v43, .int v44, .int (nI n45), .int (nI n46), .ref (a 22), .ref (a 23), .ref (a 24), .ref (a 25), .ref (a 26), .ref (a 27), .ref (a 28), .ref (a 29), .ref (a 30), .int kf]) := by rw [hw405]; exact set_eq k399
                    have k409 : w404[19]? = some (iA E (a 19) 24 (upd f348 (nI lm).toNatClampNeg r57)) := by rw [hw405]; exact set_ne k400 (by decide)
                    have k410 : w404[20]? = some (iA E (a 20) 24 (fun j => nI ((updn (updn g357 lm 0) lm ((48 + d378) - 48)) j))) := by rw [hw405]; exact set_ne k403 (by decide)
                    have kp411 := keeps_set kp402 hw405 (by first | exact rfl | decide | omega | (dsimp only; omega))
                    refine x_aload_n C dX12_readsLine_200 rfl 2 rfl rfl ?_
                    refine x_get C (ci := 11) (k := 28) 0 k408 rfl in_X12 (by decide) w_1146 rfl dX12_readsLine_201 rfl ?_
                    refine x_aload_n C dX12_readsLine_204 rfl 2 rfl rfl ?_
                    refine x_get C (ci := 11) (k := 27) 0 k408 rfl in_X12 (by decide) w_1145 rfl dX12_readsLine_205 rfl ?_
                    refine x_iconst C (v := 1) dX12_readsLine_208 (by decide) rfl ?_
                    refine x_iadd C (v := (nI (lm + 1))) dX12_readsLine_209 (nI_add lm 1) rfl ?_
                    refine x_aload_n C dX12_readsLine_210 rfl 2 rfl rfl ?_
                    refine x_get C (ci := 11) (k := 28) 0 k408 rfl in_X12 (by decide) w_1146 rfl dX12_readsLine_211 rfl ?_
                    refine x_aload_n C dX12_readsLine_214 rfl 2 rfl rfl ?_
                    refine x_get C (ci := 11) (k := 27) 0 k408 rfl in_X12 (by decide) w_1145 rfl dX12_readsLine_215 rfl ?_
                    obtain ⟨_, k412, g413, gb414, rfl⟩ := hW406 18 _ rfl
                    refine x_ialk C (v := nI (g413 lm)) lm (nI_clamp (by omega)) (nI_pos (by omega)) (by omega) 18 k412 rfl dX12_readsLine_218 rfl ?_
                    have bx415 := gb414 lm
                    refine x_iload_n C dX12_readsLine_219 rfl 1 rfl rfl ?_
                    refine x_iadd C (v := (nI ((g413 lm) + mm51))) dX12_readsLine_220 (nI_add (g413 lm) mm51) rfl ?_
                    have gb416 := updn_leF (i := (lm + 1)) (v := ((g413 lm) + mm51)) gb414 (by omega)
                    obtain ⟨w417, hw418⟩ : ∃ w : va_W, w = List.set w404 18 (iA E (a 18) 25 (upd (fun j => nI (g413 j)) (lm + 1) (nI ((g413 lm) + mm51)))) := ⟨_, rfl⟩
                    refine x_iask C (lm + 1) (nI_clamp (by omega)) (nI_pos (by omega)) (by omega) 18 k412 hw418.symm dX12_readsLine_221 rfl ?_
                    have hW419 : WX (okM E a cd kf jn js jq) w417 := by rw [hw418]; exact hW406.set (k := 18) rfl ⟨_, gb416, iA_n (upd_nI g413 (lm + 1) ((g413 lm) + mm51))⟩
                    have k420 : w417[4]? = some (bA E (a 4) 260 tf) := by rw [hw418]; exact set_ne k407 (by decide)
                    have k421 : w417[0]? = some (ob (a 0) 11 [.ref (a 1), .ref (a 2), .ref (a 3), .ref (a 4), .int (nI tp), .int (nI ((pl33 + 1) + 1)), .int (nI le), .int v39, .int nu34, .int v40, .int (nI cm), .int (nI wt), .int (nI sm), .int (nI (cd.2.2.2.2.2)), .ref (a 5), .ref (a 6), .ref (a 7), .ref (a 8), .ref (a 9), .ref (a 10), .ref (a 11), .ref (a 12), .ref (a 13), .ref (a 14), .ref (a 15), .ref (a 16), .ref (a 17), .int (nI lm), .ref (a 18), .ref (a 19), .ref (a 20), .ref (a 21), .int v41, .int v42, .int v43, .int v44, .int (nI n45), .int (nI n46), .ref (a 22), .ref (a 23), .ref (a 24), .ref (a 25), .ref (a 26), .ref (a 27), .ref (a 28), .ref (a 29), .ref (a 30), .int kf]) := by rw [hw418]; exact set_ne k408 (by decide)
                    have k422 : w417[19]? = some (iA E (a 19) 24 (upd f348 (nI lm).toNatClampNeg r57)) := by rw [hw418]; exact set_ne k409 (by decide)
                    have k423 : w417[20]? = some (iA E (a 20) 24 (fun j => nI ((updn (updn g357 lm 0) lm ((48 + d378) - 48)) j))) := by rw [hw418]; exact set_ne k410 (by decide)
                    have k424 : w417[18]? = some (iA E (a 18) 25 (upd (fun j => nI (g413 j)) (lm + 1) (nI ((g413 lm) + mm51)))) := by rw [hw418]; exact set_eq k412
                    have kp425 := keeps_set kp411 hw418 (by first | exact rfl | decide | omega | (dsimp only; omega))
                    have k426 : w417[18]? = some (iA E (a 18) 25 (fun j => nI ((updn g413 (lm + 1) ((g413 lm) + mm51)) j))) := by rw [← upd_nI]; exact k424
                    refine x_aload_n C dX12_readsLine_222 rfl 2 rfl rfl ?_
                    refine x_aload_n C dX12_readsLine_223 rfl 2 rfl rfl ?_
                    refine x_get C (ci := 11) (k := 27) 0 k421 rfl in_X12 (by decide) w_1145 rfl dX12_readsLine_224 rfl ?_
                    refine x_iconst C (v := 1) dX12_readsLine_227 (by decide) rfl ?_
                    refine x_iadd C (v := (nI (lm + 1))) dX12_readsLine_228 (nI_add lm 1) rfl ?_
                    obtain ⟨w427, hw428⟩ : ∃ w : va_W, w = List.set w417 0 (ob (a 0) 11 [.ref (a 1), .ref (a 2), .ref (a 3), .ref (a 4), .int (nI tp), .int (nI ((pl33 + 1) + 1)), .int (nI le), .int v39, .int nu34, .int v40, .int (nI cm), .int (nI wt), .int (nI sm), .int (nI (cd.2.2.2.2.2)), .ref (a 5), .ref (a 6), .ref (a 7), .ref (a 8), .ref (a 9), .ref (a 10), .ref (a 11), .ref (a 12), .ref (a 13), .ref (a 14), .ref (a 15), .ref (a 16), .ref (a 17), .int (nI (lm + 1)), .ref (a 18), .ref (a 19), .ref (a 20), .ref (a 21), .int v41, .int v42, .int v43, .int v44, .int (nI n45), .int (nI n46), .ref (a 22), .ref (a 23), .ref (a 24), .ref (a 25), .ref (a 26), .ref (a 27), .ref (a 28), .ref (a 29), .ref (a 30), .int kf]) := ⟨_, rfl⟩
                    refine x_put C (ci := 11) (k := 27) (ty := .int) 0 k421 rfl in_X12 tyX12 tyX12_ok nmX12 (by decide) w_1145 rfl rfl rfl rfl (Nat.le_of_ble_eq_true rfl) hw428.symm dX12_readsLine_229 rfl ?_
                    have hW429 : WX (okM E a cd kf jn js jq) w427 := by rw [hw428]; exact hW419.set (k := 0) rfl ⟨tp, ((pl33 + 1) + 1), le, v39, nu34, v40, cm, wt, sm, (lm + 1), v41, v42, v43, v44, n45, n46, by omega, by omega, by omega, by omega, by omega, by omega, by omega, by omega, by omega, rfl⟩
                    have k430 : w427[4]? = some (bA E (a 4) 260 tf) := by rw [hw428]; exact set_ne k420 (by decide)
                    have k431 : w427[0]? = some (ob (a 0) 11 [.ref (a 1), .ref (a 2), .ref (a 3), .ref (a 4), .int (nI tp), .int (nI ((pl33 + 1) + 1)), .int (nI le), .int v39, .int nu34, .int v40, .int (nI cm), .int (nI wt), .int (nI sm), .int (nI (cd.2.2.2.2.2)), .ref (a 5), .ref (a 6), .ref (a 7), .ref (a 8), .ref (a 9), .ref (a 10), .ref (a 11), .ref (a 12), .ref (a 13), .ref (a 14), .ref (a 15), .ref (a 16), .ref (a 17), .int (nI (lm + 1)), .ref (a 18), .ref (a 19), .ref (a 20), .ref (a 21), .int v41, .int v42, .int v43, .int v44, .int (nI n45), .int (nI n46), .ref (a 22), .ref (a 23), .ref (a 24), .ref (a 25), .ref (a 26), .ref (a 27), .ref (a 28), .ref (a 29), .ref (a 30), .int kf]) := by rw [hw428]; exact set_eq k421
                    have k432 : w427[19]? = some (iA E (a 19) 24 (upd f348 (nI lm).toNatClampNeg r57)) := by rw [hw428]; exact set_ne k422 (by decide)
                    have k433 : w427[20]? = some (iA E (a 20) 24 (fun j => nI ((updn (updn g357 lm 0) lm ((48 + d378) - 48)) j))) := by rw [hw428]; exact set_ne k423 (by decide)
                    have k434 : w427[18]? = some (iA E (a 18) 25 (fun j => nI ((updn g413 (lm + 1) ((g413 lm) + mm51)) j))) := by rw [hw428]; exact set_ne k426 (by decide)
                    have kp435 := keeps_set kp425 hw428 (by first | exact rfl | decide | omega | (dsimp only; omega))
                    refine x_iconst C (v := 1) dX12_readsLine_232 (by decide) rfl ?_
                    exact x_zret C hr hlk rfl dX12_readsLine_233 ⟨hW429, kp435, (Or.inr rfl), ⟨((pl33 + 1) + 1), (lm + 1), nu34, by omega, by omega, by omega, ⟨v39, v40, v41, v42, v43, v44, n45, n46, ⟨by omega, by omega, by omega, by omega, by omega, by omega, by omega⟩, ⟨by omega, by omega⟩, k431⟩⟩⟩
                  · skip
                    have nf436 := nI_nle' (a := (48 + d378)) (b := 55) c387 (by omega) (by omega)
                    refine x_aload_n C dX12_readsLine_164 rfl 2 rfl rfl ?_
                    refine x_iconst C (v := 3) dX12_readsLine_165 (by decide) rfl ?_
                    refine x_aload_n C dX12_readsLine_166 rfl 2 rfl rfl ?_
                    refine x_get C (ci := 11) (k := 5) 0 k364 rfl in_X12 (by decide) w_1123 rfl dX12_readsLine_167 rfl ?_
                    refine x_vi C (As := [.int 3, .int (nI (pl33 + 1))]) (rest := []) (m_wrongAt E l a cd hG kf jn js jq w360 hW362 (3 : Int32) ((nI (pl33 + 1))) tp (pl33 + 1) le cm wt sm lm nu34 ⟨v39, v40, v41, v42, v43, v44, n45, n46, ⟨by omega, by omega, by omega, by omega, by omega, by omega, by omega⟩, ⟨by omega, by omega⟩, k364⟩) mf_X12_wrongAt w_1324 0 k364 rfl rfl rfl (Nat.le_of_ble_eq_true rfl) ⟨(Nat.le_of_ble_eq_true rfl), (Nat.le_of_ble_eq_true rfl)⟩ ⟨(Nat.le_of_ble_eq_true rfl), (Nat.le_of_ble_eq_true rfl)⟩ dX12_readsLine_170 rfl (fun r438 w439 h437 => ?_)
                    obtain ⟨hW440, kq441, e442, x443⟩ := h437
                    refine x_top e442 ?_
                    have k444 : w439[4]? = some (bA E (a 4) 260 tf) := keeps_at kq441 k363 (by first | decide | omega | (dsimp only; omega))
                    have k445 : w439[19]? = some (iA E (a 19) 24 (upd f348 (nI lm).toNatClampNeg r57)) := keeps_at kq441 k365 (by first | decide | omega | (dsimp only; omega))
                    have k446 : w439[20]? = some (iA E (a 20) 24 (fun j => nI ((updn g357 lm 0) j))) := keeps_at kq441 k368 (by first | decide | omega | (dsimp only; omega))
                    have kp447 := keeps_tr kp367 kq441 (fun q hq => by first | omega | (dsimp only at *; omega))
                    obtain ⟨v448, v449, v450, v451, v452, v453, n454, n455, bo456, bo457, k458⟩ := x443
                    exact x_zret C hr hlk rfl dX12_readsLine_173 ⟨hW440, kp447, (Or.inl rfl), ⟨((pl33 + 1)), lm, nu34, by omega, by omega, by omega, ⟨v448, v449, v450, v451, v452, v453, n454, n455, ⟨by omega, by omega, by omega, by omega, by omega, by omega, by omega⟩, ⟨by omega, by omega⟩, k458⟩⟩⟩
                · skip
                  refine x_aload_n C dX12_readsLine_145 rfl 2 rfl rfl ?_
                  refine x_iconst C (v := 1) dX12_readsLine_146 (by decide) rfl ?_
                  refine x_aload_n C dX12_readsLine_147 rfl 2 rfl rfl ?_
                  refine x_get C (ci := 11) (k := 5) 0 k364 rfl in_X12 (by decide) w_1123 rfl dX12_readsLine_148 rfl ?_
                  refine x_vi C (As := [.int 1, .int (nI (pl33 + 1))]) (rest := []) (m_wrongAt E l a cd hG kf jn js jq w360 hW362 (1 : Int32) ((nI (pl33 + 1))) tp (pl33 + 1) le cm wt sm lm nu34 ⟨v39, v40, v41, v42, v43, v44, n45, n46, ⟨by omega, by omega, by omega, by omega, by omega, by omega, by omega⟩, ⟨by omega, by omega⟩, k364⟩) mf_X12_wrongAt w_1324 0 k364 rfl rfl rfl (Nat.le_of_ble_eq_true rfl) ⟨(Nat.le_of_ble_eq_true rfl), (Nat.le_of_ble_eq_true rfl)⟩ ⟨(Nat.le_of_ble_eq_true rfl), (Nat.le_of_ble_eq_true rfl)⟩ dX12_readsLine_151 rfl (fun r460 w461 h459 => ?_)
                  obtain ⟨hW462, kq463, e464, x465⟩ := h459
                  refine x_top e464 ?_
                  have k466 : w461[4]? = some (bA E (a 4) 260 tf) := keeps_at kq463 k363 (by first | decide | omega | (dsimp only; omega))
                  have k467 : w461[19]? = some (iA E (a 19) 24 (upd f348 (nI lm).toNatClampNeg r57)) := keeps_at kq463 k365 (by first | decide | omega | (dsimp only; omega))
                  have k468 : w461[20]? = some (iA E (a 20) 24 (fun j => nI ((updn g357 lm 0) j))) := keeps_at kq463 k368 (by first | decide | omega | (dsimp only; omega))
                  have kp469 := keeps_tr kp367 kq463 (fun q hq => by first | omega | (dsimp only at *; omega))
                  obtain ⟨v470, v471, v472, v473, v474, v475, n476, n477, bo478, bo479, k480⟩ := x465
                  exact x_zret C hr hlk rfl dX12_readsLine_154 ⟨hW462, kp469, (Or.inl rfl), ⟨((pl33 + 1)), lm, nu34, by omega, by omega, by omega, ⟨v470, v471, v472, v473, v474, v475, n476, n477, ⟨by omega, by omega, by omega, by omega, by omega, by omega, by omega⟩, ⟨by omega, by omega⟩, k480⟩⟩⟩
              · skip
                refine x_iload_n C dX12_readsLine_132 rfl 0 rfl rfl ?_
                refine x_bipush C (v := 33) dX12_readsLine_133 (by decide) rfl ?_
                refine x_icmp_ne C (tgt := 200) dX12_readsLine_135 (by decide) rfl (fun c481 => ?_) (fun c481 => ?_)
                · skip
                  refine x_aload_n C dX12_readsLine_200 rfl 2 rfl rfl ?_
                  refine x_get C (ci := 11) (k := 28) 0 k364 rfl in_X12 (by decide) w_1146 rfl dX12_readsLine_201 rfl ?_
                  refine x_aload_n C dX12_readsLine_204 rfl 2 rfl rfl ?_
                  refine x_get C (ci := 11) (k := 27) 0 k364 rfl in_X12 (by decide) w_1145 rfl dX12_readsLine_205 rfl ?_
                  refine x_iconst C (v := 1) dX12_readsLine_208 (by decide) rfl ?_
                  refine x_iadd C (v := (nI (lm + 1))) dX12_readsLine_209 (nI_add lm 1) rfl ?_
                  refine x_aload_n C dX12_readsLine_210 rfl 2 rfl rfl ?_
                  refine x_get C (ci := 11) (k := 28) 0 k364 rfl in_X12 (by decide) w_1146 rfl dX12_readsLine_211 rfl ?_
                  refine x_aload_n C dX12_readsLine_214 rfl 2 rfl rfl ?_
                  refine x_get C (ci := 11) (k := 27) 0 k364 rfl in_X12 (by decide) w_1145 rfl dX12_readsLine_215 rfl ?_
                  obtain ⟨_, k482, g483, gb484, rfl⟩ := hW362 18 _ rfl
                  refine x_ialk C (v := nI (g483 lm)) lm (nI_clamp (by omega)) (nI_pos (by omega)) (by omega) 18 k482 rfl dX12_readsLine_218 rfl ?_
                  have bx485 := gb484 lm
                  refine x_iload_n C dX12_readsLine_219 rfl 1 rfl rfl ?_
                  refine x_iadd C (v := (nI ((g483 lm) + mm51))) dX12_readsLine_220 (nI_add (g483 lm) mm51) rfl ?_
                  have gb486 := updn_leF (i := (lm + 1)) (v := ((g483 lm) + mm51)) gb484 (by omega)
                  obtain ⟨w487, hw488⟩ : ∃ w : va_W, w = List.set w360 18 (iA E (a 18) 25 (upd (fun j => nI (g483 j)) (lm + 1) (nI ((g483 lm) + mm51)))) := ⟨_, rfl⟩
                  refine x_iask C (lm + 1) (nI_clamp (by omega)) (nI_pos (by omega)) (by omega) 18 k482 hw488.symm dX12_readsLine_221 rfl ?_
                  have hW489 : WX (okM E a cd kf jn js jq) w487 := by rw [hw488]; exact hW362.set (k := 18) rfl ⟨_, gb486, iA_n (upd_nI g483 (lm + 1) ((g483 lm) + mm51))⟩
                  have k490 : w487[4]? = some (bA E (a 4) 260 tf) := by rw [hw488]; exact set_ne k363 (by decide)
                  have k491 : w487[0]? = some (ob (a 0) 11 [.ref (a 1), .ref (a 2), .ref (a 3), .ref (a 4), .int (nI tp), .int (nI (pl33 + 1)), .int (nI le), .int v39, .int nu34, .int v40, .int (nI cm), .int (nI wt), .int (nI sm), .int (nI (cd.2.2.2.2.2)), .ref (a 5), .ref (a 6), .ref (a 7), .ref (a 8), .ref (a 9), .ref (a 10), .ref (a 11), .ref (a 12), .ref (a 13), .ref (a 14), .ref (a 15), .ref (a 16), .ref (a 17), .int (nI lm), .ref (a 18), .ref (a 19), .ref (a 20), .ref (a 21), .int v41, .int v42, .int v43, .int v44, .int (nI n45), .int (nI n46), .ref (a 22), .ref (a 23), .ref (a 24), .ref (a 25), .ref (a 26), .ref (a 27), .ref (a 28), .ref (a 29), .ref (a 30), .int kf]) := by rw [hw488]; exact set_ne k364 (by decide)
                  have k492 : w487[19]? = some (iA E (a 19) 24 (upd f348 (nI lm).toNatClampNeg r57)) := by rw [hw488]; exact set_ne k365 (by decide)
                  have k493 : w487[20]? = some (iA E (a 20) 24 (fun j => nI ((updn g357 lm 0) j))) := by rw [hw488]; exact set_ne k368 (by decide)
                  have k494 : w487[18]? = some (iA E (a 18) 25 (upd (fun j => nI (g483 j)) (lm + 1) (nI ((g483 lm) + mm51)))) := by rw [hw488]; exact set_eq k482
                  have kp495 := keeps_set kp367 hw488 (by first | exact rfl | decide | omega | (dsimp only; omega))
                  have k496 : w487[18]? = some (iA E (a 18) 25 (fun j => nI ((updn g483 (lm + 1) ((g483 lm) + mm51)) j))) := by rw [← upd_nI]; exact k494
                  refine x_aload_n C dX12_readsLine_222 rfl 2 rfl rfl ?_
                  refine x_aload_n C dX12_readsLine_223 rfl 2 rfl rfl ?_
                  refine x_get C (ci := 11) (k := 27) 0 k491 rfl in_X12 (by decide) w_1145 rfl dX12_readsLine_224 rfl ?_
                  refine x_iconst C (v := 1) dX12_readsLine_227 (by decide) rfl ?_
                  refine x_iadd C (v := (nI (lm + 1))) dX12_readsLine_228 (nI_add lm 1) rfl ?_
                  obtain ⟨w497, hw498⟩ : ∃ w : va_W, w = List.set w487 0 (ob (a 0) 11 [.ref (a 1), .ref (a 2), .ref (a 3), .ref (a 4), .int (nI tp), .int (nI (pl33 + 1)), .int (nI le), .int v39, .int nu34, .int v40, .int (nI cm), .int (nI wt), .int (nI sm), .int (nI (cd.2.2.2.2.2)), .ref (a 5), .ref (a 6), .ref (a 7), .ref (a 8), .ref (a 9), .ref (a 10), .ref (a 11), .ref (a 12), .ref (a 13), .ref (a 14), .ref (a 15), .ref (a 16), .ref (a 17), .int (nI (lm + 1)), .ref (a 18), .ref (a 19), .ref (a 20), .ref (a 21), .int v41, .int v42, .int v43, .int v44, .int (nI n45), .int (nI n46), .ref (a 22), .ref (a 23), .ref (a 24), .ref (a 25), .ref (a 26), .ref (a 27), .ref (a 28), .ref (a 29), .ref (a 30), .int kf]) := ⟨_, rfl⟩
                  refine x_put C (ci := 11) (k := 27) (ty := .int) 0 k491 rfl in_X12 tyX12 tyX12_ok nmX12 (by decide) w_1145 rfl rfl rfl rfl (Nat.le_of_ble_eq_true rfl) hw498.symm dX12_readsLine_229 rfl ?_
                  have hW499 : WX (okM E a cd kf jn js jq) w497 := by rw [hw498]; exact hW489.set (k := 0) rfl ⟨tp, (pl33 + 1), le, v39, nu34, v40, cm, wt, sm, (lm + 1), v41, v42, v43, v44, n45, n46, by omega, by omega, by omega, by omega, by omega, by omega, by omega, by omega, by omega, rfl⟩
                  have k500 : w497[4]? = some (bA E (a 4) 260 tf) := by rw [hw498]; exact set_ne k490 (by decide)
                  have k501 : w497[0]? = some (ob (a 0) 11 [.ref (a 1), .ref (a 2), .ref (a 3), .ref (a 4), .int (nI tp), .int (nI (pl33 + 1)), .int (nI le), .int v39, .int nu34, .int v40, .int (nI cm), .int (nI wt), .int (nI sm), .int (nI (cd.2.2.2.2.2)), .ref (a 5), .ref (a 6), .ref (a 7), .ref (a 8), .ref (a 9), .ref (a 10), .ref (a 11), .ref (a 12), .ref (a 13), .ref (a 14), .ref (a 15), .ref (a 16), .ref (a 17), .int (nI (lm + 1)), .ref (a 18), .ref (a 19), .ref (a 20), .ref (a 21), .int v41, .int v42, .int v43, .int v44, .int (nI n45), .int (nI n46), .ref (a 22), .ref (a 23), .ref (a 24), .ref (a 25), .ref (a 26), .ref (a 27), .ref (a 28), .ref (a 29), .ref (a 30), .int kf]) := by rw [hw498]; exact set_eq k491
                  have k502 : w497[19]? = some (iA E (a 19) 24 (upd f348 (nI lm).toNatClampNeg r57)) := by rw [hw498]; exact set_ne k492 (by decide)
                  have k503 : w497[20]? = some (iA E (a 20) 24 (fun j => nI ((updn g357 lm 0) j))) := by rw [hw498]; exact set_ne k493 (by decide)
                  have k504 : w497[18]? = some (iA E (a 18) 25 (fun j => nI ((updn g483 (lm + 1) ((g483 lm) + mm51)) j))) := by rw [hw498]; exact set_ne k496 (by decide)
                  have kp505 := keeps_set kp495 hw498 (by first | exact rfl | decide | omega | (dsimp only; omega))
                  refine x_iconst C (v := 1) dX12_readsLine_232 (by decide) rfl ?_
                  exact x_zret C hr hlk rfl dX12_readsLine_233 ⟨hW499, kp505, (Or.inr rfl), ⟨(pl33 + 1), (lm + 1), nu34, by omega, by omega, by omega, ⟨v39, v40, v41, v42, v43, v44, n45, n46, ⟨by omega, by omega, by omega, by omega, by omega, by omega, by omega⟩, ⟨by omega, by omega⟩, k501⟩⟩⟩
                · skip
                  have hp506 := hv_lt (x60.symm.trans c481) (by decide)
                  refine x_aload_n C dX12_readsLine_138 rfl 2 rfl rfl ?_
                  refine x_vi C (As := []) (rest := []) (m_isDigit E l a cd hG kf jn js jq w360 hW362 tp (pl33 + 1) le cm wt sm lm nu34 ⟨v39, v40, v41, v42, v43, v44, n45, n46, ⟨by omega, by omega, by omega, by omega, by omega, by omega, by omega⟩, ⟨by omega, by omega⟩, k364⟩ tf k363) mf_X12_isDigit w_1341 0 k364 rfl rfl rfl (Nat.le_of_ble_eq_true rfl) ⟨(Nat.le_of_ble_eq_true rfl), (Nat.le_of_ble_eq_true rfl)⟩ ⟨(Nat.le_of_ble_eq_true rfl), (Nat.le_of_ble_eq_true rfl)⟩ dX12_readsLine_139 rfl (fun r508 w509 h507 => ?_)
                  obtain ⟨hW510, zb511, x512⟩ := h507
                  refine x_ws hW510 ?_
                  refine x_if_ne C (tgt := 155) dX12_readsLine_142 (by decide) rfl (fun c513 => ?_) (fun c513 => ?_)
                  · skip
                    obtain ⟨d514, hd515, ed516, hp517⟩ := x512 c513
                    refine x_aload_n C dX12_readsLine_155 rfl 2 rfl rfl ?_
                    refine x_vi C (As := []) (rest := []) (m_here E l a cd hG kf jn js jq w360 hW362 tp (pl33 + 1) le cm wt sm lm nu34 ⟨v39, v40, v41, v42, v43, v44, n45, n46, ⟨by omega, by omega, by omega, by omega, by omega, by omega, by omega⟩, ⟨by omega, by omega⟩, k364⟩ tf k363) mf_X12_here w_1317 0 k364 rfl rfl rfl (Nat.le_of_ble_eq_true rfl) ⟨(Nat.le_of_ble_eq_true rfl), (Nat.le_of_ble_eq_true rfl)⟩ ⟨(Nat.le_of_ble_eq_true rfl), (Nat.le_of_ble_eq_true rfl)⟩ dX12_readsLine_156 rfl (fun r519 w520 h518 => ?_)
                    obtain ⟨hW521, x522⟩ := h518
                    refine x_ws hW521 ?_
                    refine x_top (x522.trans ed516) ?_
                    refine x_bipush C (v := 55) dX12_readsLine_159 (by decide) rfl ?_
                    refine x_icmp_le C (tgt := 174) dX12_readsLine_161 (by decide) rfl (fun c523 => ?_) (fun c523 => ?_)
                    · skip
                      have nf524 := nI_le' (a := (48 + d514)) (b := 55) c523 (by omega) (by omega)
                      refine x_aload_n C dX12_readsLine_174 rfl 2 rfl rfl ?_
                      refine x_get C (ci := 11) (k := 30) 0 k364 rfl in_X12 (by decide) w_1148 rfl dX12_readsLine_175 rfl ?_
                      refine x_aload_n C dX12_readsLine_178 rfl 2 rfl rfl ?_
                      refine x_get C (ci := 11) (k := 27) 0 k364 rfl in_X12 (by decide) w_1145 rfl dX12_readsLine_179 rfl ?_
                      refine x_aload_n C dX12_readsLine_182 rfl 2 rfl rfl ?_
                      refine x_vi C (As := []) (rest := [.int (nI lm), .ref (a 20)]) (m_here E l a cd hG kf jn js jq w360 hW362 tp (pl33 + 1) le cm wt sm lm nu34 ⟨v39, v40, v41, v42, v43, v44, n45, n46, ⟨by omega, by omega, by omega, by omega, by omega, by omega, by omega⟩, ⟨by omega, by omega⟩, k364⟩ tf k363) mf_X12_here w_1317 0 k364 rfl rfl rfl (Nat.le_of_ble_eq_true rfl) ⟨(Nat.le_of_ble_eq_true rfl), (Nat.le_of_ble_eq_true rfl)⟩ ⟨(Nat.le_of_ble_eq_true rfl), (Nat.le_of_ble_eq_true rfl)⟩ dX12_readsLine_183 rfl (fun r526 w527 h525 => ?_)
                      obtain ⟨hW528, x529⟩ := h525
                      refine x_ws hW528 ?_
                      refine x_top (x529.trans ed516) ?_
                      refine x_bipush C (v := 48) dX12_readsLine_186 (by decide) rfl ?_
                      refine x_isub C (v := (nI ((48 + d514) - 48))) dX12_readsLine_188 (pk_sub (a := (48 + d514)) (b := 48) (by omega)) rfl ?_
                      have gb530 := updn_le (i := lm) (v := ((48 + d514) - 48)) gb359 (by omega)
                      obtain ⟨w531, hw532⟩ : ∃ w : va_W, w = List.set w360 20 (iA E (a 20) 24 (upd (fun j => nI ((updn g357 lm 0) j)) lm (nI ((48 + d514) - 48)))) := ⟨_, rfl⟩
                      refine x_iask C lm (nI_clamp (by omega)) (nI_pos (by omega)) (by omega) 20 k368 hw532.symm dX12_readsLine_189 rfl ?_
                      have hW533 : WX (okM E a cd kf jn js jq) w531 := by rw [hw532]; exact hW362.set (k := 20) rfl ⟨_, gb530, iA_n (upd_nI (updn g357 lm 0) lm ((48 + d514) - 48))⟩
                      have k534 : w531[4]? = some (bA E (a 4) 260 tf) := by rw [hw532]; exact set_ne k363 (by decide)
                      have k535 : w531[0]? = some (ob (a 0) 11 [.ref (a 1), .ref (a 2), .ref (a 3), .ref (a 4), .int (nI tp), .int (nI (pl33 + 1)), .int (nI le), .int v39, .int nu34, .int v40, .int (nI cm), .int (nI wt), .int (nI sm), .int (nI (cd.2.2.2.2.2)), .ref (a 5), .ref (a 6), .ref (a 7), .ref (a 8), .ref (a 9), .ref (a 10), .ref (a 11), .ref (a 12), .ref (a 13), .ref (a 14), .ref (a 15), .ref (a 16), .ref (a 17), .int (nI lm), .ref (a 18), .ref (a 19), .ref (a 20), .ref (a 21), .int v41, .int v42, .int v43, .int v44, .int (nI n45), .int (nI n46), .ref (a 22), .ref (a 23), .ref (a 24), .ref (a 25), .ref (a 26), .ref (a 27), .ref (a 28), .ref (a 29), .ref (a 30), .int kf]) := by rw [hw532]; exact set_ne k364 (by decide)
                      have k536 : w531[19]? = some (iA E (a 19) 24 (upd f348 (nI lm).toNatClampNeg r57)) := by rw [hw532]; exact set_ne k365 (by decide)
                      have k537 : w531[20]? = some (iA E (a 20) 24 (upd (fun j => nI ((updn g357 lm 0) j)) lm (nI ((48 + d514) - 48)))) := by rw [hw532]; exact set_eq k368
                      have kp538 := keeps_set kp367 hw532 (by first | exact rfl | decide | omega | (dsimp only; omega))
                      have k539 : w531[20]? = some (iA E (a 20) 24 (fun j => nI ((updn (updn g357 lm 0) lm ((48 + d514) - 48)) j))) := by rw [← upd_nI]; exact k537
                      refine x_aload_n C dX12_readsLine_190 rfl 2 rfl rfl ?_
                      refine x_aload_n C dX12_readsLine_191 rfl 2 rfl rfl ?_
                      refine x_get C (ci := 11) (k := 5) 0 k535 rfl in_X12 (by decide) w_1123 rfl dX12_readsLine_192 rfl ?_
                      refine x_iconst C (v := 1) dX12_readsLine_195 (by decide) rfl ?_
                      refine x_iadd C (v := (nI ((pl33 + 1) + 1))) dX12_readsLine_196 (nI_add (pl33 + 1) 1) rfl ?_
                      obtain ⟨w540, hw541⟩ : ∃ w : va_W, w = List.set w531 0 (ob (a 0) 11 [.ref (a 1), .ref (a 2), .ref (a 3), .ref (a 4), .int (nI tp), .int (nI ((pl33 + 1) + 1)), .int (nI le), .int v39, .int nu34, .int v40, .int (nI cm), .int (nI wt), .int (nI sm), .int (nI (cd.2.2.2.2.2)), .ref (a 5), .ref (a 6), .ref (a 7), .ref (a 8), .ref (a 9), .ref (a 10), .ref (a 11), .ref (a 12), .ref (a 13), .ref (a 14), .ref (a 15), .ref (a 16), .ref (a 17), .int (nI lm), .ref (a 18), .ref (a 19), .ref (a 20), .ref (a 21), .int v41, .int v42, .int v43, .int v44, .int (nI n45), .int (nI n46), .ref (a 22), .ref (a 23), .ref (a 24), .ref (a 25), .ref (a 26), .ref (a 27), .ref (a 28), .ref (a 29), .ref (a 30), .int kf]) := ⟨_, rfl⟩
                      refine x_put C (ci := 11) (k := 5) (ty := .int) 0 k535 rfl in_X12 tyX12 tyX12_ok nmX12 (by decide) w_1123 rfl rfl rfl rfl (Nat.le_of_ble_eq_true rfl) hw541.symm dX12_readsLine_197 rfl ?_
                      have hW542 : WX (okM E a cd kf jn js jq) w540 := by rw [hw541]; exact hW533.set (k := 0) rfl ⟨tp, ((pl33 + 1) + 1), le, v39, nu34, v40, cm, wt, sm, lm, v41, v42, v43, v44, n45, n46, by omega, by omega, by omega, by omega, by omega, by omega, by omega, by omega, by omega, rfl⟩
                      have k543 : w540[4]? = some (bA E (a 4) 260 tf) := by rw [hw541]; exact set_ne k534 (by decide)
                      have k544 : w540[0]? = some (ob (a 0) 11 [.ref (a 1), .ref (a 2), .ref (a 3), .ref (a 4), .int (nI tp), .int (nI ((pl33 + 1) + 1)), .int (nI le), .int v39, .int nu34, .int v40, .int (nI cm), .int (nI wt), .int (nI sm), .int (nI (cd.2.2.2.2.2)), .ref (a 5), .ref (a 6), .ref (a 7), .ref (a 8), .ref (a 9), .ref (a 10), .ref (a 11), .ref (a 12), .ref (a 13), .ref (a 14), .ref (a 15), .ref (a 16), .ref (a 17), .int (nI lm), .ref (a 18), .ref (a 19), .ref (a 20), .ref (a 21), .int v41, .int v42, .int v43, .int v44, .int (nI n45), .int (nI n46), .ref (a 22), .ref (a 23), .ref (a 24), .ref (a 25), .ref (a 26), .ref (a 27), .ref (a 28), .ref (a 29), .ref (a 30), .int kf]) := by rw [hw541]; exact set_eq k535
                      have k545 : w540[19]? = some (iA E (a 19) 24 (upd f348 (nI lm).toNatClampNeg r57)) := by rw [hw541]; exact set_ne k536 (by decide)
                      have k546 : w540[20]? = some (iA E (a 20) 24 (fun j => nI ((updn (updn g357 lm 0) lm ((48 + d514) - 48)) j))) := by rw [hw541]; exact set_ne k539 (by decide)
                      have kp547 := keeps_set kp538 hw541 (by first | exact rfl | decide | omega | (dsimp only; omega))
                      refine x_aload_n C dX12_readsLine_200 rfl 2 rfl rfl ?_
                      refine x_get C (ci := 11) (k := 28) 0 k544 rfl in_X12 (by decide) w_1146 rfl dX12_readsLine_201 rfl ?_
                      refine x_aload_n C dX12_readsLine_204 rfl 2 rfl rfl ?_
                      refine x_get C (ci := 11) (k := 27) 0 k544 rfl in_X12 (by decide) w_1145 rfl dX12_readsLine_205 rfl ?_
                      refine x_iconst C (v := 1) dX12_readsLine_208 (by decide) rfl ?_
                      refine x_iadd C (v := (nI (lm + 1))) dX12_readsLine_209 (nI_add lm 1) rfl ?_
                      refine x_aload_n C dX12_readsLine_210 rfl 2 rfl rfl ?_
                      refine x_get C (ci := 11) (k := 28) 0 k544 rfl in_X12 (by decide) w_1146 rfl dX12_readsLine_211 rfl ?_
                      refine x_aload_n C dX12_readsLine_214 rfl 2 rfl rfl ?_
                      refine x_get C (ci := 11) (k := 27) 0 k544 rfl in_X12 (by decide) w_1145 rfl dX12_readsLine_215 rfl ?_
                      obtain ⟨_, k548, g549, gb550, rfl⟩ := hW542 18 _ rfl
                      refine x_ialk C (v := nI (g549 lm)) lm (nI_clamp (by omega)) (nI_pos (by omega)) (by omega) 18 k548 rfl dX12_readsLine_218 rfl ?_
                      have bx551 := gb550 lm
                      refine x_iload_n C dX12_readsLine_219 rfl 1 rfl rfl ?_
                      refine x_iadd C (v := (nI ((g549 lm) + mm51))) dX12_readsLine_220 (nI_add (g549 lm) mm51) rfl ?_
                      have gb552 := updn_leF (i := (lm + 1)) (v := ((g549 lm) + mm51)) gb550 (by omega)
                      obtain ⟨w553, hw554⟩ : ∃ w : va_W, w = List.set w540 18 (iA E (a 18) 25 (upd (fun j => nI (g549 j)) (lm + 1) (nI ((g549 lm) + mm51)))) := ⟨_, rfl⟩
                      refine x_iask C (lm + 1) (nI_clamp (by omega)) (nI_pos (by omega)) (by omega) 18 k548 hw554.symm dX12_readsLine_221 rfl ?_
                      have hW555 : WX (okM E a cd kf jn js jq) w553 := by rw [hw554]; exact hW542.set (k := 18) rfl ⟨_, gb552, iA_n (upd_nI g549 (lm + 1) ((g549 lm) + mm51))⟩
                      have k556 : w553[4]? = some (bA E (a 4) 260 tf) := by rw [hw554]; exact set_ne k543 (by decide)
                      have k557 : w553[0]? = some (ob (a 0) 11 [.ref (a 1), .ref (a 2), .ref (a 3), .ref (a 4), .int (nI tp), .int (nI ((pl33 + 1) + 1)), .int (nI le), .int v39, .int nu34, .int v40, .int (nI cm), .int (nI wt), .int (nI sm), .int (nI (cd.2.2.2.2.2)), .ref (a 5), .ref (a 6), .ref (a 7), .ref (a 8), .ref (a 9), .ref (a 10), .ref (a 11), .ref (a 12), .ref (a 13), .ref (a 14), .ref (a 15), .ref (a 16), .ref (a 17), .int (nI lm), .ref (a 18), .ref (a 19), .ref (a 20), .ref (a 21), .int v41, .int v42, .int v43, .int v44, .int (nI n45), .int (nI n46), .ref (a 22), .ref (a 23), .ref (a 24), .ref (a 25), .ref (a 26), .ref (a 27), .ref (a 28), .ref (a 29), .ref (a 30), .int kf]) := by rw [hw554]; exact set_ne k544 (by decide)
                      have k558 : w553[19]? = some (iA E (a 19) 24 (upd f348 (nI lm).toNatClampNeg r57)) := by rw [hw554]; exact set_ne k545 (by decide)
                      have k559 : w553[20]? = some (iA E (a 20) 24 (fun j => nI ((updn (updn g357 lm 0) lm ((48 + d514) - 48)) j))) := by rw [hw554]; exact set_ne k546 (by decide)
                      have k560 : w553[18]? = some (iA E (a 18) 25 (upd (fun j => nI (g549 j)) (lm + 1) (nI ((g549 lm) + mm51)))) := by rw [hw554]; exact set_eq k548
                      have kp561 := keeps_set kp547 hw554 (by first | exact rfl | decide | omega | (dsimp only; omega))
                      have k562 : w553[18]? = some (iA E (a 18) 25 (fun j => nI ((updn g549 (lm + 1) ((g549 lm) + mm51)) j))) := by rw [← upd_nI]; exact k560
                      refine x_aload_n C dX12_readsLine_222 rfl 2 rfl rfl ?_
                      refine x_aload_n C dX12_readsLine_223 rfl 2 rfl rfl ?_
                      refine x_get C (ci := 11) (k := 27) 0 k557 rfl in_X12 (by decide) w_1145 rfl dX12_readsLine_224 rfl ?_
                      refine x_iconst C (v := 1) dX12_readsLine_227 (by decide) rfl ?_
                      refine x_iadd C (v := (nI (lm + 1))) dX12_readsLine_228 (nI_add lm 1) rfl ?_
                      obtain ⟨w563, hw564⟩ : ∃ w : va_W, w = List.set w553 0 (ob (a 0) 11 [.ref (a 1), .ref (a 2), .ref (a 3), .ref (a 4), .int (nI tp), .int (nI ((pl33 + 1) + 1)), .int (nI le), .int v39, .int nu34, .int v40, .int (nI cm), .int (nI wt), .int (nI sm), .int (nI (cd.2.2.2.2.2)), .ref (a 5), .ref (a 6), .ref (a 7), .ref (a 8), .ref (a 9), .ref (a 10), .ref (a 11), .ref (a 12), .ref (a 13), .ref (a 14), .ref (a 15), .ref (a 16), .ref (a 17), .int (nI (lm + 1)), .ref (a 18), .ref (a 19), .ref (a 20), .ref (a 21), .int v41, .int v42, .int v43, .int v44, .int (nI n45), .int (nI n46), .ref (a 22), .ref (a 23), .ref (a 24), .ref (a 25), .ref (a 26), .ref (a 27), .ref (a 28), .ref (a 29), .ref (a 30), .int kf]) := ⟨_, rfl⟩
                      refine x_put C (ci := 11) (k := 27) (ty := .int) 0 k557 rfl in_X12 tyX12 tyX12_ok nmX12 (by decide) w_1145 rfl rfl rfl rfl (Nat.le_of_ble_eq_true rfl) hw564.symm dX12_readsLine_229 rfl ?_
                      have hW565 : WX (okM E a cd kf jn js jq) w563 := by rw [hw564]; exact hW555.set (k := 0) rfl ⟨tp, ((pl33 + 1) + 1), le, v39, nu34, v40, cm, wt, sm, (lm + 1), v41, v42, v43, v44, n45, n46, by omega, by omega, by omega, by omega, by omega, by omega, by omega, by omega, by omega, rfl⟩
                      have k566 : w563[4]? = some (bA E (a 4) 260 tf) := by rw [hw564]; exact set_ne k556 (by decide)
                      have k567 : w563[0]? = some (ob (a 0) 11 [.ref (a 1), .ref (a 2), .ref (a 3), .ref (a 4), .int (nI tp), .int (nI ((pl33 + 1) + 1)), .int (nI le), .int v39, .int nu34, .int v40, .int (nI cm), .int (nI wt), .int (nI sm), .int (nI (cd.2.2.2.2.2)), .ref (a 5), .ref (a 6), .ref (a 7), .ref (a 8), .ref (a 9), .ref (a 10), .ref (a 11), .ref (a 12), .ref (a 13), .ref (a 14), .ref (a 15), .ref (a 16), .ref (a 17), .int (nI (lm + 1)), .ref (a 18), .ref (a 19), .ref (a 20), .ref (a 21), .int v41, .int v42, .int v43, .int v44, .int (nI n45), .int (nI n46), .ref (a 22), .ref (a 23), .ref (a 24), .ref (a 25), .ref (a 26), .ref (a 27), .ref (a 28), .ref (a 29), .ref (a 30), .int kf]) := by rw [hw564]; exact set_eq k557
                      have k568 : w563[19]? = some (iA E (a 19) 24 (upd f348 (nI lm).toNatClampNeg r57)) := by rw [hw564]; exact set_ne k558 (by decide)
                      have k569 : w563[20]? = some (iA E (a 20) 24 (fun j => nI ((updn (updn g357 lm 0) lm ((48 + d514) - 48)) j))) := by rw [hw564]; exact set_ne k559 (by decide)
                      have k570 : w563[18]? = some (iA E (a 18) 25 (fun j => nI ((updn g549 (lm + 1) ((g549 lm) + mm51)) j))) := by rw [hw564]; exact set_ne k562 (by decide)
                      have kp571 := keeps_set kp561 hw564 (by first | exact rfl | decide | omega | (dsimp only; omega))
                      refine x_iconst C (v := 1) dX12_readsLine_232 (by decide) rfl ?_
                      exact x_zret C hr hlk rfl dX12_readsLine_233 ⟨hW565, kp571, (Or.inr rfl), ⟨((pl33 + 1) + 1), (lm + 1), nu34, by omega, by omega, by omega, ⟨v39, v40, v41, v42, v43, v44, n45, n46, ⟨by omega, by omega, by omega, by omega, by omega, by omega, by omega⟩, ⟨by omega, by omega⟩, k567⟩⟩⟩
                    · skip
                      have nf572 := nI_nle' (a := (48 + d514)) (b := 55) c523 (by omega) (by omega)
                      refine x_aload_n C dX12_readsLine_164 rfl 2 rfl rfl ?_
                      refine x_iconst C (v := 3) dX12_readsLine_165 (by decide) rfl ?_
                      refine x_aload_n C dX12_readsLine_166 rfl 2 rfl rfl ?_
                      refine x_get C (ci := 11) (k := 5) 0 k364 rfl in_X12 (by decide) w_1123 rfl dX12_readsLine_167 rfl ?_
                      refine x_vi C (As := [.int 3, .int (nI (pl33 + 1))]) (rest := []) (m_wrongAt E l a cd hG kf jn js jq w360 hW362 (3 : Int32) ((nI (pl33 + 1))) tp (pl33 + 1) le cm wt sm lm nu34 ⟨v39, v40, v41, v42, v43, v44, n45, n46, ⟨by omega, by omega, by omega, by omega, by omega, by omega, by omega⟩, ⟨by omega, by omega⟩, k364⟩) mf_X12_wrongAt w_1324 0 k364 rfl rfl rfl (Nat.le_of_ble_eq_true rfl) ⟨(Nat.le_of_ble_eq_true rfl), (Nat.le_of_ble_eq_true rfl)⟩ ⟨(Nat.le_of_ble_eq_true rfl), (Nat.le_of_ble_eq_true rfl)⟩ dX12_readsLine_170 rfl (fun r574 w575 h573 => ?_)
                      obtain ⟨hW576, kq577, e578, x579⟩ := h573
                      refine x_top e578 ?_
                      have k580 : w575[4]? = some (bA E (a 4) 260 tf) := keeps_at kq577 k363 (by first | decide | omega | (dsimp only; omega))
                      have k581 : w575[19]? = some (iA E (a 19) 24 (upd f348 (nI lm).toNatClampNeg r57)) := keeps_at kq577 k365 (by first | decide | omega | (dsimp only; omega))
                      have k582 : w575[20]? = some (iA E (a 20) 24 (fun j => nI ((updn g357 lm 0) j))) := keeps_at kq577 k368 (by first | decide | omega | (dsimp only; omega))
                      have kp583 := keeps_tr kp367 kq577 (fun q hq => by first | omega | (dsimp only at *; omega))
                      obtain ⟨v584, v585, v586, v587, v588, v589, n590, n591, bo592, bo593, k594⟩ := x579
                      exact x_zret C hr hlk rfl dX12_readsLine_173 ⟨hW576, kp583, (Or.inl rfl), ⟨((pl33 + 1)), lm, nu34, by omega, by omega, by omega, ⟨v584, v585, v586, v587, v588, v589, n590, n591, ⟨by omega, by omega, by omega, by omega, by omega, by omega, by omega⟩, ⟨by omega, by omega⟩, k594⟩⟩⟩
                  · skip
                    refine x_aload_n C dX12_readsLine_145 rfl 2 rfl rfl ?_
                    refine x_iconst C (v := 1) dX12_readsLine_146 (by decide) rfl ?_
                    refine x_aload_n C dX12_readsLine_147 rfl 2 rfl rfl ?_
                    refine x_get C (ci := 11) (k := 5) 0 k364 rfl in_X12 (by decide) w_1123 rfl dX12_readsLine_148 rfl ?_
                    refine x_vi C (As := [.int 1, .int (nI (pl33 + 1))]) (rest := []) (m_wrongAt E l a cd hG kf jn js jq w360 hW362 (1 : Int32) ((nI (pl33 + 1))) tp (pl33 + 1) le cm wt sm lm nu34 ⟨v39, v40, v41, v42, v43, v44, n45, n46, ⟨by omega, by omega, by omega, by omega, by omega, by omega, by omega⟩, ⟨by omega, by omega⟩, k364⟩) mf_X12_wrongAt w_1324 0 k364 rfl rfl rfl (Nat.le_of_ble_eq_true rfl) ⟨(Nat.le_of_ble_eq_true rfl), (Nat.le_of_ble_eq_true rfl)⟩ ⟨(Nat.le_of_ble_eq_true rfl), (Nat.le_of_ble_eq_true rfl)⟩ dX12_readsLine_151 rfl (fun r596 w597 h595 => ?_)
                    obtain ⟨hW598, kq599, e600, x601⟩ := h595
                    refine x_top e600 ?_
                    have k602 : w597[4]? = some (bA E (a 4) 260 tf) := keeps_at kq599 k363 (by first | decide | omega | (dsimp only; omega))
                    have k603 : w597[19]? = some (iA E (a 19) 24 (upd f348 (nI lm).toNatClampNeg r57)) := keeps_at kq599 k365 (by first | decide | omega | (dsimp only; omega))
                    have k604 : w597[20]? = some (iA E (a 20) 24 (fun j => nI ((updn g357 lm 0) j))) := keeps_at kq599 k368 (by first | decide | omega | (dsimp only; omega))
                    have kp605 := keeps_tr kp367 kq599 (fun q hq => by first | omega | (dsimp only at *; omega))
                    obtain ⟨v606, v607, v608, v609, v610, v611, n612, n613, bo614, bo615, k616⟩ := x601
                    exact x_zret C hr hlk rfl dX12_readsLine_154 ⟨hW598, kp605, (Or.inl rfl), ⟨((pl33 + 1)), lm, nu34, by omega, by omega, by omega, ⟨v606, v607, v608, v609, v610, v611, n612, n613, ⟨by omega, by omega, by omega, by omega, by omega, by omega, by omega⟩, ⟨by omega, by omega⟩, k616⟩⟩⟩
            · skip
              refine x_iload_n C dX12_readsLine_74 rfl 0 rfl rfl ?_
              refine x_bipush C (v := 46) dX12_readsLine_75 (by decide) rfl ?_
              refine x_icmp_eq C (tgt := 96) dX12_readsLine_77 (by decide) rfl (fun c617 => ?_) (fun c617 => ?_)
              · skip
                have hp618 := hv_lt (x60.symm.trans c617) (by decide)
                refine x_aload_n C dX12_readsLine_96 rfl 2 rfl rfl ?_
                refine x_aload_n C dX12_readsLine_97 rfl 2 rfl rfl ?_
                refine x_get C (ci := 11) (k := 5) 0 k49 rfl in_X12 (by decide) w_1123 rfl dX12_readsLine_98 rfl ?_
                refine x_iconst C (v := 1) dX12_readsLine_101 (by decide) rfl ?_
                refine x_iadd C (v := (nI (pl33 + 1))) dX12_readsLine_102 (nI_add pl33 1) rfl ?_
                obtain ⟨w619, hw620⟩ : ∃ w : va_W, w = List.set w27 0 (ob (a 0) 11 [.ref (a 1), .ref (a 2), .ref (a 3), .ref (a 4), .int (nI tp), .int (nI (pl33 + 1)), .int (nI le), .int v39, .int nu34, .int v40, .int (nI cm), .int (nI wt), .int (nI sm), .int (nI (cd.2.2.2.2.2)), .ref (a 5), .ref (a 6), .ref (a 7), .ref (a 8), .ref (a 9), .ref (a 10), .ref (a 11), .ref (a 12), .ref (a 13), .ref (a 14), .ref (a 15), .ref (a 16), .ref (a 17), .int (nI lm), .ref (a 18), .ref (a 19), .ref (a 20), .ref (a 21), .int v41, .int v42, .int v43, .int v44, .int (nI n45), .int (nI n46), .ref (a 22), .ref (a 23), .ref (a 24), .ref (a 25), .ref (a 26), .ref (a 27), .ref (a 28), .ref (a 29), .ref (a 30), .int kf]) := ⟨_, rfl⟩
                refine x_put C (ci := 11) (k := 5) (ty := .int) 0 k49 rfl in_X12 tyX12 tyX12_ok nmX12 (by decide) w_1123 rfl rfl rfl rfl (Nat.le_of_ble_eq_true rfl) hw620.symm dX12_readsLine_103 rfl ?_
                have hW621 : WX (okM E a cd kf jn js jq) w619 := by rw [hw620]; exact hW28.set (k := 0) rfl ⟨tp, (pl33 + 1), le, v39, nu34, v40, cm, wt, sm, lm, v41, v42, v43, v44, n45, n46, by omega, by omega, by omega, by omega, by omega, by omega, by omega, by omega, by omega, rfl⟩
                have k622 : w619[4]? = some (bA E (a 4) 260 tf) := by rw [hw620]; exact set_ne k31 (by decide)
                have k623 : w619[0]? = some (ob (a 0) 11 [.ref (a 1), .ref (a 2), .ref (a 3), .ref (a 4), .int (nI tp), .int (nI (pl33 + 1)), .int (nI le), .int v39, .int nu34, .int v40, .int (nI cm), .int (nI wt), .int (nI sm), .int (nI (cd.2.2.2.2.2)), .ref (a 5), .ref (a 6), .ref (a 7), .ref (a 8), .ref (a 9), .ref (a 10), .ref (a 11), .ref (a 12), .ref (a 13), .ref (a 14), .ref (a 15), .ref (a 16), .ref (a 17), .int (nI lm), .ref (a 18), .ref (a 19), .ref (a 20), .ref (a 21), .int v41, .int v42, .int v43, .int v44, .int (nI n45), .int (nI n46), .ref (a 22), .ref (a 23), .ref (a 24), .ref (a 25), .ref (a 26), .ref (a 27), .ref (a 28), .ref (a 29), .ref (a 30), .int kf]) := by rw [hw620]; exact set_eq k49
                have kp624 := keeps_set kp32 hw620 (by first | exact rfl | decide | omega | (dsimp only; omega))
                refine x_aload_n C dX12_readsLine_106 rfl 2 rfl rfl ?_
                refine x_get C (ci := 11) (k := 29) 0 k623 rfl in_X12 (by decide) w_1147 rfl dX12_readsLine_107 rfl ?_
                refine x_aload_n C dX12_readsLine_110 rfl 2 rfl rfl ?_
                refine x_get C (ci := 11) (k := 27) 0 k623 rfl in_X12 (by decide) w_1145 rfl dX12_readsLine_111 rfl ?_
                refine x_iload_n C dX12_readsLine_114 rfl 0 rfl rfl ?_
                obtain ⟨_, k625, f626, rfl⟩ := hW621 19 _ rfl
                obtain ⟨w627, hw628⟩ : ∃ w : va_W, w = List.set w619 19 (iA E (a 19) 24 (upd f626 (nI lm).toNatClampNeg r57)) := ⟨_, rfl⟩
                refine x_iast C 19 k625 (vp_in_nI (by omega) (by decide)) hw628.symm dX12_readsLine_115 rfl ?_
                have hW629 : WX (okM E a cd kf jn js jq) w627 := by rw [hw628]; exact hW621.set (k := 19) rfl ⟨_, rfl⟩
                have k630 : w627[4]? = some (bA E (a 4) 260 tf) := by rw [hw628]; exact set_ne k622 (by decide)
                have k631 : w627[0]? = some (ob (a 0) 11 [.ref (a 1), .ref (a 2), .ref (a 3), .ref (a 4), .int (nI tp), .int (nI (pl33 + 1)), .int (nI le), .int v39, .int nu34, .int v40, .int (nI cm), .int (nI wt), .int (nI sm), .int (nI (cd.2.2.2.2.2)), .ref (a 5), .ref (a 6), .ref (a 7), .ref (a 8), .ref (a 9), .ref (a 10), .ref (a 11), .ref (a 12), .ref (a 13), .ref (a 14), .ref (a 15), .ref (a 16), .ref (a 17), .int (nI lm), .ref (a 18), .ref (a 19), .ref (a 20), .ref (a 21), .int v41, .int v42, .int v43, .int v44, .int (nI n45), .int (nI n46), .ref (a 22), .ref (a 23), .ref (a 24), .ref (a 25), .ref (a 26), .ref (a 27), .ref (a 28), .ref (a 29), .ref (a 30), .int kf]) := by rw [hw628]; exact set_ne k623 (by decide)
                have k632 : w627[19]? = some (iA E (a 19) 24 (upd f626 (nI lm).toNatClampNeg r57)) := by rw [hw628]; exact set_eq k625
                have kp633 := keeps_set kp624 hw628 (by first | exact rfl | decide | omega | (dsimp only; omega))
                refine x_aload_n C dX12_readsLine_116 rfl 2 rfl rfl ?_
                refine x_get C (ci := 11) (k := 30) 0 k631 rfl in_X12 (by decide) w_1148 rfl dX12_readsLine_117 rfl ?_
                refine x_aload_n C dX12_readsLine_120 rfl 2 rfl rfl ?_
                refine x_get C (ci := 11) (k := 27) 0 k631 rfl in_X12 (by decide) w_1145 rfl dX12_readsLine_121 rfl ?_
                refine x_iconst C (v := 0) dX12_readsLine_124 (by decide) rfl ?_
                obtain ⟨_, k634, g635, gb636, rfl⟩ := hW629 20 _ rfl
                have gb637 := updn_le (i := lm) (v := 0) gb636 (by omega)
                obtain ⟨w638, hw639⟩ : ∃ w : va_W, w = List.set w627 20 (iA E (a 20) 24 (upd (fun j => nI (g635 j)) lm (nI 0))) := ⟨_, rfl⟩
                refine x_iask C lm (nI_clamp (by omega)) (nI_pos (by omega)) (by omega) 20 k634 hw639.symm dX12_readsLine_125 rfl ?_
                have hW640 : WX (okM E a cd kf jn js jq) w638 := by rw [hw639]; exact hW629.set (k := 20) rfl ⟨_, gb637, iA_n (upd_nI g635 lm 0)⟩
                have k641 : w638[4]? = some (bA E (a 4) 260 tf) := by rw [hw639]; exact set_ne k630 (by decide)
                have k642 : w638[0]? = some (ob (a 0) 11 [.ref (a 1), .ref (a 2), .ref (a 3), .ref (a 4), .int (nI tp), .int (nI (pl33 + 1)), .int (nI le), .int v39, .int nu34, .int v40, .int (nI cm), .int (nI wt), .int (nI sm), .int (nI (cd.2.2.2.2.2)), .ref (a 5), .ref (a 6), .ref (a 7), .ref (a 8), .ref (a 9), .ref (a 10), .ref (a 11), .ref (a 12), .ref (a 13), .ref (a 14), .ref (a 15), .ref (a 16), .ref (a 17), .int (nI lm), .ref (a 18), .ref (a 19), .ref (a 20), .ref (a 21), .int v41, .int v42, .int v43, .int v44, .int (nI n45), .int (nI n46), .ref (a 22), .ref (a 23), .ref (a 24), .ref (a 25), .ref (a 26), .ref (a 27), .ref (a 28), .ref (a 29), .ref (a 30), .int kf]) := by rw [hw639]; exact set_ne k631 (by decide)
                have k643 : w638[19]? = some (iA E (a 19) 24 (upd f626 (nI lm).toNatClampNeg r57)) := by rw [hw639]; exact set_ne k632 (by decide)
                have k644 : w638[20]? = some (iA E (a 20) 24 (upd (fun j => nI (g635 j)) lm (nI 0))) := by rw [hw639]; exact set_eq k634
                have kp645 := keeps_set kp633 hw639 (by first | exact rfl | decide | omega | (dsimp only; omega))
                have k646 : w638[20]? = some (iA E (a 20) 24 (fun j => nI ((updn g635 lm 0) j))) := by rw [← upd_nI]; exact k644
                refine x_iload_n C dX12_readsLine_126 rfl 0 rfl rfl ?_
                refine x_bipush C (v := 62) dX12_readsLine_127 (by decide) rfl ?_
                refine x_icmp_eq C (tgt := 138) dX12_readsLine_129 (by decide) rfl (fun c647 => ?_) (fun c647 => ?_)
                · skip
                  have hp648 := hv_lt (x60.symm.trans c647) (by decide)
                  refine x_aload_n C dX12_readsLine_138 rfl 2 rfl rfl ?_
                  refine x_vi C (As := []) (rest := []) (m_isDigit E l a cd hG kf jn js jq w638 hW640 tp (pl33 + 1) le cm wt sm lm nu34 ⟨v39, v40, v41, v42, v43, v44, n45, n46, ⟨by omega, by omega, by omega, by omega, by omega, by omega, by omega⟩, ⟨by omega, by omega⟩, k642⟩ tf k641) mf_X12_isDigit w_1341 0 k642 rfl rfl rfl (Nat.le_of_ble_eq_true rfl) ⟨(Nat.le_of_ble_eq_true rfl), (Nat.le_of_ble_eq_true rfl)⟩ ⟨(Nat.le_of_ble_eq_true rfl), (Nat.le_of_ble_eq_true rfl)⟩ dX12_readsLine_139 rfl (fun r650 w651 h649 => ?_)
                  obtain ⟨hW652, zb653, x654⟩ := h649
                  refine x_ws hW652 ?_
                  refine x_if_ne C (tgt := 155) dX12_readsLine_142 (by decide) rfl (fun c655 => ?_) (fun c655 => ?_)
                  · skip
                    obtain ⟨d656, hd657, ed658, hp659⟩ := x654 c655
                    refine x_aload_n C dX12_readsLine_155 rfl 2 rfl rfl ?_
                    refine x_vi C (As := []) (rest := []) (m_here E l a cd hG kf jn js jq w638 hW640 tp (pl33 + 1) le cm wt sm lm nu34 ⟨v39, v40, v41, v42, v43, v44, n45, n46, ⟨by omega, by omega, by omega, by omega, by omega, by omega, by omega⟩, ⟨by omega, by omega⟩, k642⟩ tf k641) mf_X12_here w_1317 0 k642 rfl rfl rfl (Nat.le_of_ble_eq_true rfl) ⟨(Nat.le_of_ble_eq_true rfl), (Nat.le_of_ble_eq_true rfl)⟩ ⟨(Nat.le_of_ble_eq_true rfl), (Nat.le_of_ble_eq_true rfl)⟩ dX12_readsLine_156 rfl (fun r661 w662 h660 => ?_)
                    obtain ⟨hW663, x664⟩ := h660
                    refine x_ws hW663 ?_
                    refine x_top (x664.trans ed658) ?_
                    refine x_bipush C (v := 55) dX12_readsLine_159 (by decide) rfl ?_
                    refine x_icmp_le C (tgt := 174) dX12_readsLine_161 (by decide) rfl (fun c665 => ?_) (fun c665 => ?_)
                    · skip
                      have nf666 := nI_le' (a := (48 + d656)) (b := 55) c665 (by omega) (by omega)
                      refine x_aload_n C dX12_readsLine_174 rfl 2 rfl rfl ?_
                      refine x_get C (ci := 11) (k := 30) 0 k642 rfl in_X12 (by decide) w_1148 rfl dX12_readsLine_175 rfl ?_
                      refine x_aload_n C dX12_readsLine_178 rfl 2 rfl rfl ?_
                      refine x_get C (ci := 11) (k := 27) 0 k642 rfl in_X12 (by decide) w_1145 rfl dX12_readsLine_179 rfl ?_
                      refine x_aload_n C dX12_readsLine_182 rfl 2 rfl rfl ?_
                      refine x_vi C (As := []) (rest := [.int (nI lm), .ref (a 20)]) (m_here E l a cd hG kf jn js jq w638 hW640 tp (pl33 + 1) le cm wt sm lm nu34 ⟨v39, v40, v41, v42, v43, v44, n45, n46, ⟨by omega, by omega, by omega, by omega, by omega, by omega, by omega⟩, ⟨by omega, by omega⟩, k642⟩ tf k641) mf_X12_here w_1317 0 k642 rfl rfl rfl (Nat.le_of_ble_eq_true rfl) ⟨(Nat.le_of_ble_eq_true rfl), (Nat.le_of_ble_eq_true rfl)⟩ ⟨(Nat.le_of_ble_eq_true rfl), (Nat.le_of_ble_eq_true rfl)⟩ dX12_readsLine_183 rfl (fun r668 w669 h667 => ?_)
                      obtain ⟨hW670, x671⟩ := h667
                      refine x_ws hW670 ?_
                      refine x_top (x671.trans ed658) ?_
                      refine x_bipush C (v := 48) dX12_readsLine_186 (by decide) rfl ?_
                      refine x_isub C (v := (nI ((48 + d656) - 48))) dX12_readsLine_188 (pk_sub (a := (48 + d656)) (b := 48) (by omega)) rfl ?_
                      have gb672 := updn_le (i := lm) (v := ((48 + d656) - 48)) gb637 (by omega)
                      obtain ⟨w673, hw674⟩ : ∃ w : va_W, w = List.set w638 20 (iA E (a 20) 24 (upd (fun j => nI ((updn g635 lm 0) j)) lm (nI ((48 + d656) - 48)))) := ⟨_, rfl⟩
                      refine x_iask C lm (nI_clamp (by omega)) (nI_pos (by omega)) (by omega) 20 k646 hw674.symm dX12_readsLine_189 rfl ?_
                      have hW675 : WX (okM E a cd kf jn js jq) w673 := by rw [hw674]; exact hW640.set (k := 20) rfl ⟨_, gb672, iA_n (upd_nI (updn g635 lm 0) lm ((48 + d656) - 48))⟩
                      have k676 : w673[4]? = some (bA E (a 4) 260 tf) := by rw [hw674]; exact set_ne k641 (by decide)
                      have k677 : w673[0]? = some (ob (a 0) 11 [.ref (a 1), .ref (a 2), .ref (a 3), .ref (a 4), .int (nI tp), .int (nI (pl33 + 1)), .int (nI le), .int v39, .int nu34, .int v40, .int (nI cm), .int (nI wt), .int (nI sm), .int (nI (cd.2.2.2.2.2)), .ref (a 5), .ref (a 6), .ref (a 7), .ref (a 8), .ref (a 9), .ref (a 10), .ref (a 11), .ref (a 12), .ref (a 13), .ref (a 14), .ref (a 15), .ref (a 16), .ref (a 17), .int (nI lm), .ref (a 18), .ref (a 19), .ref (a 20), .ref (a 21), .int v41, .int v42, .int v43, .int v44, .int (nI n45), .int (nI n46), .ref (a 22), .ref (a 23), .ref (a 24), .ref (a 25), .ref (a 26), .ref (a 27), .ref (a 28), .ref (a 29), .ref (a 30), .int kf]) := by rw [hw674]; exact set_ne k642 (by decide)
                      have k678 : w673[19]? = some (iA E (a 19) 24 (upd f626 (nI lm).toNatClampNeg r57)) := by rw [hw674]; exact set_ne k643 (by decide)
                      have k679 : w673[20]? = some (iA E (a 20) 24 (upd (fun j => nI ((updn g635 lm 0) j)) lm (nI ((48 + d656) - 48)))) := by rw [hw674]; exact set_eq k646
                      have kp680 := keeps_set kp645 hw674 (by first | exact rfl | decide | omega | (dsimp only; omega))
                      have k681 : w673[20]? = some (iA E (a 20) 24 (fun j => nI ((updn (updn g635 lm 0) lm ((48 + d656) - 48)) j))) := by rw [← upd_nI]; exact k679
                      refine x_aload_n C dX12_readsLine_190 rfl 2 rfl rfl ?_
                      refine x_aload_n C dX12_readsLine_191 rfl 2 rfl rfl ?_
                      refine x_get C (ci := 11) (k := 5) 0 k677 rfl in_X12 (by decide) w_1123 rfl dX12_readsLine_192 rfl ?_
                      refine x_iconst C (v := 1) dX12_readsLine_195 (by decide) rfl ?_
                      refine x_iadd C (v := (nI ((pl33 + 1) + 1))) dX12_readsLine_196 (nI_add (pl33 + 1) 1) rfl ?_
                      obtain ⟨w682, hw683⟩ : ∃ w : va_W, w = List.set w673 0 (ob (a 0) 11 [.ref (a 1), .ref (a 2), .ref (a 3), .ref (a 4), .int (nI tp), .int (nI ((pl33 + 1) + 1)), .int (nI le), .int v39, .int nu34, .int v40, .int (nI cm), .int (nI wt), .int (nI sm), .int (nI (cd.2.2.2.2.2)), .ref (a 5), .ref (a 6), .ref (a 7), .ref (a 8), .ref (a 9), .ref (a 10), .ref (a 11), .ref (a 12), .ref (a 13), .ref (a 14), .ref (a 15), .ref (a 16), .ref (a 17), .int (nI lm), .ref (a 18), .ref (a 19), .ref (a 20), .ref (a 21), .int v41, .int v42, .int v43, .int v44, .int (nI n45), .int (nI n46), .ref (a 22), .ref (a 23), .ref (a 24), .ref (a 25), .ref (a 26), .ref (a 27), .ref (a 28), .ref (a 29), .ref (a 30), .int kf]) := ⟨_, rfl⟩
                      refine x_put C (ci := 11) (k := 5) (ty := .int) 0 k677 rfl in_X12 tyX12 tyX12_ok nmX12 (by decide) w_1123 rfl rfl rfl rfl (Nat.le_of_ble_eq_true rfl) hw683.symm dX12_readsLine_197 rfl ?_
                      have hW684 : WX (okM E a cd kf jn js jq) w682 := by rw [hw683]; exact hW675.set (k := 0) rfl ⟨tp, ((pl33 + 1) + 1), le, v39, nu34, v40, cm, wt, sm, lm, v41, v42, v43, v44, n45, n46, by omega, by omega, by omega, by omega, by omega, by omega, by omega, by omega, by omega, rfl⟩
                      have k685 : w682[4]? = some (bA E (a 4) 260 tf) := by rw [hw683]; exact set_ne k676 (by decide)
                      have k686 : w682[0]? = some (ob (a 0) 11 [.ref (a 1), .ref (a 2), .ref (a 3), .ref (a 4), .int (nI tp), .int (nI ((pl33 + 1) + 1)), .int (nI le), .int v39, .int nu34, .int v40, .int (nI cm), .int (nI wt), .int (nI sm), .int (nI (cd.2.2.2.2.2)), .ref (a 5), .ref (a 6), .ref (a 7), .ref (a 8), .ref (a 9), .ref (a 10), .ref (a 11), .ref (a 12), .ref (a 13), .ref (a 14), .ref (a 15), .ref (a 16), .ref (a 17), .int (nI lm), .ref (a 18), .ref (a 19), .ref (a 20), .ref (a 21), .int v41, .int v42, .int v43, .int v44, .int (nI n45), .int (nI n46), .ref (a 22), .ref (a 23), .ref (a 24), .ref (a 25), .ref (a 26), .ref (a 27), .ref (a 28), .ref (a 29), .ref (a 30), .int kf]) := by rw [hw683]; exact set_eq k677
                      have k687 : w682[19]? = some (iA E (a 19) 24 (upd f626 (nI lm).toNatClampNeg r57)) := by rw [hw683]; exact set_ne k678 (by decide)
                      have k688 : w682[20]? = some (iA E (a 20) 24 (fun j => nI ((updn (updn g635 lm 0) lm ((48 + d656) - 48)) j))) := by rw [hw683]; exact set_ne k681 (by decide)
                      have kp689 := keeps_set kp680 hw683 (by first | exact rfl | decide | omega | (dsimp only; omega))
                      refine x_aload_n C dX12_readsLine_200 rfl 2 rfl rfl ?_
                      refine x_get C (ci := 11) (k := 28) 0 k686 rfl in_X12 (by decide) w_1146 rfl dX12_readsLine_201 rfl ?_
                      refine x_aload_n C dX12_readsLine_204 rfl 2 rfl rfl ?_
                      refine x_get C (ci := 11) (k := 27) 0 k686 rfl in_X12 (by decide) w_1145 rfl dX12_readsLine_205 rfl ?_
                      refine x_iconst C (v := 1) dX12_readsLine_208 (by decide) rfl ?_
                      refine x_iadd C (v := (nI (lm + 1))) dX12_readsLine_209 (nI_add lm 1) rfl ?_
                      refine x_aload_n C dX12_readsLine_210 rfl 2 rfl rfl ?_
                      refine x_get C (ci := 11) (k := 28) 0 k686 rfl in_X12 (by decide) w_1146 rfl dX12_readsLine_211 rfl ?_
                      refine x_aload_n C dX12_readsLine_214 rfl 2 rfl rfl ?_
                      refine x_get C (ci := 11) (k := 27) 0 k686 rfl in_X12 (by decide) w_1145 rfl dX12_readsLine_215 rfl ?_
                      obtain ⟨_, k690, g691, gb692, rfl⟩ := hW684 18 _ rfl
                      refine x_ialk C (v := nI (g691 lm)) lm (nI_clamp (by omega)) (nI_pos (by omega)) (by omega) 18 k690 rfl dX12_readsLine_218 rfl ?_
                      have bx693 := gb692 lm
                      refine x_iload_n C dX12_readsLine_219 rfl 1 rfl rfl ?_
                      refine x_iadd C (v := (nI ((g691 lm) + mm51))) dX12_readsLine_220 (nI_add (g691 lm) mm51) rfl ?_
                      have gb694 := updn_leF (i := (lm + 1)) (v := ((g691 lm) + mm51)) gb692 (by omega)
                      obtain ⟨w695, hw696⟩ : ∃ w : va_W, w = List.set w682 18 (iA E (a 18) 25 (upd (fun j => nI (g691 j)) (lm + 1) (nI ((g691 lm) + mm51)))) := ⟨_, rfl⟩
                      refine x_iask C (lm + 1) (nI_clamp (by omega)) (nI_pos (by omega)) (by omega) 18 k690 hw696.symm dX12_readsLine_221 rfl ?_
                      have hW697 : WX (okM E a cd kf jn js jq) w695 := by rw [hw696]; exact hW684.set (k := 18) rfl ⟨_, gb694, iA_n (upd_nI g691 (lm + 1) ((g691 lm) + mm51))⟩
                      have k698 : w695[4]? = some (bA E (a 4) 260 tf) := by rw [hw696]; exact set_ne k685 (by decide)
                      have k699 : w695[0]? = some (ob (a 0) 11 [.ref (a 1), .ref (a 2), .ref (a 3), .ref (a 4), .int (nI tp), .int (nI ((pl33 + 1) + 1)), .int (nI le), .int v39, .int nu34, .int v40, .int (nI cm), .int (nI wt), .int (nI sm), .int (nI (cd.2.2.2.2.2)), .ref (a 5), .ref (a 6), .ref (a 7), .ref (a 8), .ref (a 9), .ref (a 10), .ref (a 11), .ref (a 12), .ref (a 13), .ref (a 14), .ref (a 15), .ref (a 16), .ref (a 17), .int (nI lm), .ref (a 18), .ref (a 19), .ref (a 20), .ref (a 21), .int v41, .int v42, .int v43, .int v44, .int (nI n45), .int (nI n46), .ref (a 22), .ref (a 23), .ref (a 24), .ref (a 25), .ref (a 26), .ref (a 27), .ref (a 28), .ref (a 29), .ref (a 30), .int kf]) := by rw [hw696]; exact set_ne k686 (by decide)
                      have k700 : w695[19]? = some (iA E (a 19) 24 (upd f626 (nI lm).toNatClampNeg r57)) := by rw [hw696]; exact set_ne k687 (by decide)
                      have k701 : w695[20]? = some (iA E (a 20) 24 (fun j => nI ((updn (updn g635 lm 0) lm ((48 + d656) - 48)) j))) := by rw [hw696]; exact set_ne k688 (by decide)
                      have k702 : w695[18]? = some (iA E (a 18) 25 (upd (fun j => nI (g691 j)) (lm + 1) (nI ((g691 lm) + mm51)))) := by rw [hw696]; exact set_eq k690
                      have kp703 := keeps_set kp689 hw696 (by first | exact rfl | decide | omega | (dsimp only; omega))
                      have k704 : w695[18]? = some (iA E (a 18) 25 (fun j => nI ((updn g691 (lm + 1) ((g691 lm) + mm51)) j))) := by rw [← upd_nI]; exact k702
                      refine x_aload_n C dX12_readsLine_222 rfl 2 rfl rfl ?_
                      refine x_aload_n C dX12_readsLine_223 rfl 2 rfl rfl ?_
                      refine x_get C (ci := 11) (k := 27) 0 k699 rfl in_X12 (by decide) w_1145 rfl dX12_readsLine_224 rfl ?_
                      refine x_iconst C (v := 1) dX12_readsLine_227 (by decide) rfl ?_
                      refine x_iadd C (v := (nI (lm + 1))) dX12_readsLine_228 (nI_add lm 1) rfl ?_
                      obtain ⟨w705, hw706⟩ : ∃ w : va_W, w = List.set w695 0 (ob (a 0) 11 [.ref (a 1), .ref (a 2), .ref (a 3), .ref (a 4), .int (nI tp), .int (nI ((pl33 + 1) + 1)), .int (nI le), .int v39, .int nu34, .int v40, .int (nI cm), .int (nI wt), .int (nI sm), .int (nI (cd.2.2.2.2.2)), .ref (a 5), .ref (a 6), .ref (a 7), .ref (a 8), .ref (a 9), .ref (a 10), .ref (a 11), .ref (a 12), .ref (a 13), .ref (a 14), .ref (a 15), .ref (a 16), .ref (a 17), .int (nI (lm + 1)), .ref (a 18), .ref (a 19), .ref (a 20), .ref (a 21), .int v41, .int v42, .int v43, .int v44, .int (nI n45), .int (nI n46), .ref (a 22), .ref (a 23), .ref (a 24), .ref (a 25), .ref (a 26), .ref (a 27), .ref (a 28), .ref (a 29), .ref (a 30), .int kf]) := ⟨_, rfl⟩
                      refine x_put C (ci := 11) (k := 27) (ty := .int) 0 k699 rfl in_X12 tyX12 tyX12_ok nmX12 (by decide) w_1145 rfl rfl rfl rfl (Nat.le_of_ble_eq_true rfl) hw706.symm dX12_readsLine_229 rfl ?_
                      have hW707 : WX (okM E a cd kf jn js jq) w705 := by rw [hw706]; exact hW697.set (k := 0) rfl ⟨tp, ((pl33 + 1) + 1), le, v39, nu34, v40, cm, wt, sm, (lm + 1), v41, v42, v43, v44, n45, n46, by omega, by omega, by omega, by omega, by omega, by omega, by omega, by omega, by omega, rfl⟩
                      have k708 : w705[4]? = some (bA E (a 4) 260 tf) := by rw [hw706]; exact set_ne k698 (by decide)
                      have k709 : w705[0]? = some (ob (a 0) 11 [.ref (a 1), .ref (a 2), .ref (a 3), .ref (a 4), .int (nI tp), .int (nI ((pl33 + 1) + 1)), .int (nI le), .int v39, .int nu34, .int v40, .int (nI cm), .int (nI wt), .int (nI sm), .int (nI (cd.2.2.2.2.2)), .ref (a 5), .ref (a 6), .ref (a 7), .ref (a 8), .ref (a 9), .ref (a 10), .ref (a 11), .ref (a 12), .ref (a 13), .ref (a 14), .ref (a 15), .ref (a 16), .ref (a 17), .int (nI (lm + 1)), .ref (a 18), .ref (a 19), .ref (a 20), .ref (a 21), .int v41, .int v42, .int v43, .int v44, .int (nI n45), .int (nI n46), .ref (a 22), .ref (a 23), .ref (a 24), .ref (a 25), .ref (a 26), .ref (a 27), .ref (a 28), .ref (a 29), .ref (a 30), .int kf]) := by rw [hw706]; exact set_eq k699
                      have k710 : w705[19]? = some (iA E (a 19) 24 (upd f626 (nI lm).toNatClampNeg r57)) := by rw [hw706]; exact set_ne k700 (by decide)
                      have k711 : w705[20]? = some (iA E (a 20) 24 (fun j => nI ((updn (updn g635 lm 0) lm ((48 + d656) - 48)) j))) := by rw [hw706]; exact set_ne k701 (by decide)
                      have k712 : w705[18]? = some (iA E (a 18) 25 (fun j => nI ((updn g691 (lm + 1) ((g691 lm) + mm51)) j))) := by rw [hw706]; exact set_ne k704 (by decide)
                      have kp713 := keeps_set kp703 hw706 (by first | exact rfl | decide | omega | (dsimp only; omega))
                      refine x_iconst C (v := 1) dX12_readsLine_232 (by decide) rfl ?_
                      exact x_zret C hr hlk rfl dX12_readsLine_233 ⟨hW707, kp713, (Or.inr rfl), ⟨((pl33 + 1) + 1), (lm + 1), nu34, by omega, by omega, by omega, ⟨v39, v40, v41, v42, v43, v44, n45, n46, ⟨by omega, by omega, by omega, by omega, by omega, by omega, by omega⟩, ⟨by omega, by omega⟩, k709⟩⟩⟩
                    · skip
                      have nf714 := nI_nle' (a := (48 + d656)) (b := 55) c665 (by omega) (by omega)
                      refine x_aload_n C dX12_readsLine_164 rfl 2 rfl rfl ?_
                      refine x_iconst C (v := 3) dX12_readsLine_165 (by decide) rfl ?_
                      refine x_aload_n C dX12_readsLine_166 rfl 2 rfl rfl ?_
                      refine x_get C (ci := 11) (k := 5) 0 k642 rfl in_X12 (by decide) w_1123 rfl dX12_readsLine_167 rfl ?_
                      refine x_vi C (As := [.int 3, .int (nI (pl33 + 1))]) (rest := []) (m_wrongAt E l a cd hG kf jn js jq w638 hW640 (3 : Int32) ((nI (pl33 + 1))) tp (pl33 + 1) le cm wt sm lm nu34 ⟨v39, v40, v41, v42, v43, v44, n45, n46, ⟨by omega, by omega, by omega, by omega, by omega, by omega, by omega⟩, ⟨by omega, by omega⟩, k642⟩) mf_X12_wrongAt w_1324 0 k642 rfl rfl rfl (Nat.le_of_ble_eq_true rfl) ⟨(Nat.le_of_ble_eq_true rfl), (Nat.le_of_ble_eq_true rfl)⟩ ⟨(Nat.le_of_ble_eq_true rfl), (Nat.le_of_ble_eq_true rfl)⟩ dX12_readsLine_170 rfl (fun r716 w717 h715 => ?_)
                      obtain ⟨hW718, kq719, e720, x721⟩ := h715
                      refine x_top e720 ?_
                      have k722 : w717[4]? = some (bA E (a 4) 260 tf) := keeps_at kq719 k641 (by first | decide | omega | (dsimp only; omega))
                      have k723 : w717[19]? = some (iA E (a 19) 24 (upd f626 (nI lm).toNatClampNeg r57)) := keeps_at kq719 k643 (by first | decide | omega | (dsimp only; omega))
                      have k724 : w717[20]? = some (iA E (a 20) 24 (fun j => nI ((updn g635 lm 0) j))) := keeps_at kq719 k646 (by first | decide | omega | (dsimp only; omega))
                      have kp725 := keeps_tr kp645 kq719 (fun q hq => by first | omega | (dsimp only at *; omega))
                      obtain ⟨v726, v727, v728, v729, v730, v731, n732, n733, bo734, bo735, k736⟩ := x721
                      exact x_zret C hr hlk rfl dX12_readsLine_173 ⟨hW718, kp725, (Or.inl rfl), ⟨((pl33 + 1)), lm, nu34, by omega, by omega, by omega, ⟨v726, v727, v728, v729, v730, v731, n732, n733, ⟨by omega, by omega, by omega, by omega, by omega, by omega, by omega⟩, ⟨by omega, by omega⟩, k736⟩⟩⟩
                  · skip
                    refine x_aload_n C dX12_readsLine_145 rfl 2 rfl rfl ?_
                    refine x_iconst C (v := 1) dX12_readsLine_146 (by decide) rfl ?_
                    refine x_aload_n C dX12_readsLine_147 rfl 2 rfl rfl ?_
                    refine x_get C (ci := 11) (k := 5) 0 k642 rfl in_X12 (by decide) w_1123 rfl dX12_readsLine_148 rfl ?_
                    refine x_vi C (As := [.int 1, .int (nI (pl33 + 1))]) (rest := []) (m_wrongAt E l a cd hG kf jn js jq w638 hW640 (1 : Int32) ((nI (pl33 + 1))) tp (pl33 + 1) le cm wt sm lm nu34 ⟨v39, v40, v41, v42, v43, v44, n45, n46, ⟨by omega, by omega, by omega, by omega, by omega, by omega, by omega⟩, ⟨by omega, by omega⟩, k642⟩) mf_X12_wrongAt w_1324 0 k642 rfl rfl rfl (Nat.le_of_ble_eq_true rfl) ⟨(Nat.le_of_ble_eq_true rfl), (Nat.le_of_ble_eq_true rfl)⟩ ⟨(Nat.le_of_ble_eq_true rfl), (Nat.le_of_ble_eq_true rfl)⟩ dX12_readsLine_151 rfl (fun r738 w739 h737 => ?_)
                    obtain ⟨hW740, kq741, e742, x743⟩ := h737
                    refine x_top e742 ?_
                    have k744 : w739[4]? = some (bA E (a 4) 260 tf) := keeps_at kq741 k641 (by first | decide | omega | (dsimp only; omega))
                    have k745 : w739[19]? = some (iA E (a 19) 24 (upd f626 (nI lm).toNatClampNeg r57)) := keeps_at kq741 k643 (by first | decide | omega | (dsimp only; omega))
                    have k746 : w739[20]? = some (iA E (a 20) 24 (fun j => nI ((updn g635 lm 0) j))) := keeps_at kq741 k646 (by first | decide | omega | (dsimp only; omega))
                    have kp747 := keeps_tr kp645 kq741 (fun q hq => by first | omega | (dsimp only at *; omega))
                    obtain ⟨v748, v749, v750, v751, v752, v753, n754, n755, bo756, bo757, k758⟩ := x743
                    exact x_zret C hr hlk rfl dX12_readsLine_154 ⟨hW740, kp747, (Or.inl rfl), ⟨((pl33 + 1)), lm, nu34, by omega, by omega, by omega, ⟨v748, v749, v750, v751, v752, v753, n754, n755, ⟨by omega, by omega, by omega, by omega, by omega, by omega, by omega⟩, ⟨by omega, by omega⟩, k758⟩⟩⟩
                · skip
                  refine x_iload_n C dX12_readsLine_132 rfl 0 rfl rfl ?_
                  refine x_bipush C (v := 33) dX12_readsLine_133 (by decide) rfl ?_
                  refine x_icmp_ne C (tgt := 200) dX12_readsLine_135 (by decide) rfl (fun c759 => ?_) (fun c759 => ?_)
                  · skip
                    refine x_aload_n C dX12_readsLine_200 rfl 2 rfl rfl ?_
                    refine x_get C (ci := 11) (k := 28) 0 k642 rfl in_X12 (by decide) w_1146 rfl dX12_readsLine_201 rfl ?_
                    refine x_aload_n C dX12_readsLine_204 rfl 2 rfl rfl ?_
                    refine x_get C (ci := 11) (k := 27) 0 k642 rfl in_X12 (by decide) w_1145 rfl dX12_readsLine_205 rfl ?_
                    refine x_iconst C (v := 1) dX12_readsLine_208 (by decide) rfl ?_
                    refine x_iadd C (v := (nI (lm + 1))) dX12_readsLine_209 (nI_add lm 1) rfl ?_
                    refine x_aload_n C dX12_readsLine_210 rfl 2 rfl rfl ?_
                    refine x_get C (ci := 11) (k := 28) 0 k642 rfl in_X12 (by decide) w_1146 rfl dX12_readsLine_211 rfl ?_
                    refine x_aload_n C dX12_readsLine_214 rfl 2 rfl rfl ?_
                    refine x_get C (ci := 11) (k := 27) 0 k642 rfl in_X12 (by decide) w_1145 rfl dX12_readsLine_215 rfl ?_
                    obtain ⟨_, k760, g761, gb762, rfl⟩ := hW640 18 _ rfl
                    refine x_ialk C (v := nI (g761 lm)) lm (nI_clamp (by omega)) (nI_pos (by omega)) (by omega) 18 k760 rfl dX12_readsLine_218 rfl ?_
                    have bx763 := gb762 lm
                    refine x_iload_n C dX12_readsLine_219 rfl 1 rfl rfl ?_
                    refine x_iadd C (v := (nI ((g761 lm) + mm51))) dX12_readsLine_220 (nI_add (g761 lm) mm51) rfl ?_
                    have gb764 := updn_leF (i := (lm + 1)) (v := ((g761 lm) + mm51)) gb762 (by omega)
                    obtain ⟨w765, hw766⟩ : ∃ w : va_W, w = List.set w638 18 (iA E (a 18) 25 (upd (fun j => nI (g761 j)) (lm + 1) (nI ((g761 lm) + mm51)))) := ⟨_, rfl⟩
                    refine x_iask C (lm + 1) (nI_clamp (by omega)) (nI_pos (by omega)) (by omega) 18 k760 hw766.symm dX12_readsLine_221 rfl ?_
                    have hW767 : WX (okM E a cd kf jn js jq) w765 := by rw [hw766]; exact hW640.set (k := 18) rfl ⟨_, gb764, iA_n (upd_nI g761 (lm + 1) ((g761 lm) + mm51))⟩
                    have k768 : w765[4]? = some (bA E (a 4) 260 tf) := by rw [hw766]; exact set_ne k641 (by decide)
                    have k769 : w765[0]? = some (ob (a 0) 11 [.ref (a 1), .ref (a 2), .ref (a 3), .ref (a 4), .int (nI tp), .int (nI (pl33 + 1)), .int (nI le), .int v39, .int nu34, .int v40, .int (nI cm), .int (nI wt), .int (nI sm), .int (nI (cd.2.2.2.2.2)), .ref (a 5), .ref (a 6), .ref (a 7), .ref (a 8), .ref (a 9), .ref (a 10), .ref (a 11), .ref (a 12), .ref (a 13), .ref (a 14), .ref (a 15), .ref (a 16), .ref (a 17), .int (nI lm), .ref (a 18), .ref (a 19), .ref (a 20), .ref (a 21), .int v41, .int v42, .int v43, .int v44, .int (nI n45), .int (nI n46), .ref (a 22), .ref (a 23), .ref (a 24), .ref (a 25), .ref (a 26), .ref (a 27), .ref (a 28), .ref (a 29), .ref (a 30), .int kf]) := by rw [hw766]; exact set_ne k642 (by decide)
                    have k770 : w765[19]? = some (iA E (a 19) 24 (upd f626 (nI lm).toNatClampNeg r57)) := by rw [hw766]; exact set_ne k643 (by decide)
                    have k771 : w765[20]? = some (iA E (a 20) 24 (fun j => nI ((updn g635 lm 0) j))) := by rw [hw766]; exact set_ne k646 (by decide)
                    have k772 : w765[18]? = some (iA E (a 18) 25 (upd (fun j => nI (g761 j)) (lm + 1) (nI ((g761 lm) + mm51)))) := by rw [hw766]; exact set_eq k760
                    have kp773 := keeps_set kp645 hw766 (by first | exact rfl | decide | omega | (dsimp only; omega))
                    have k774 : w765[18]? = some (iA E (a 18) 25 (fun j => nI ((updn g761 (lm + 1) ((g761 lm) + mm51)) j))) := by rw [← upd_nI]; exact k772
                    refine x_aload_n C dX12_readsLine_222 rfl 2 rfl rfl ?_
                    refine x_aload_n C dX12_readsLine_223 rfl 2 rfl rfl ?_
                    refine x_get C (ci := 11) (k := 27) 0 k769 rfl in_X12 (by decide) w_1145 rfl dX12_readsLine_224 rfl ?_
                    refine x_iconst C (v := 1) dX12_readsLine_227 (by decide) rfl ?_
                    refine x_iadd C (v := (nI (lm + 1))) dX12_readsLine_228 (nI_add lm 1) rfl ?_
                    obtain ⟨w775, hw776⟩ : ∃ w : va_W, w = List.set w765 0 (ob (a 0) 11 [.ref (a 1), .ref (a 2), .ref (a 3), .ref (a 4), .int (nI tp), .int (nI (pl33 + 1)), .int (nI le), .int v39, .int nu34, .int v40, .int (nI cm), .int (nI wt), .int (nI sm), .int (nI (cd.2.2.2.2.2)), .ref (a 5), .ref (a 6), .ref (a 7), .ref (a 8), .ref (a 9), .ref (a 10), .ref (a 11), .ref (a 12), .ref (a 13), .ref (a 14), .ref (a 15), .ref (a 16), .ref (a 17), .int (nI (lm + 1)), .ref (a 18), .ref (a 19), .ref (a 20), .ref (a 21), .int v41, .int v42, .int v43, .int v44, .int (nI n45), .int (nI n46), .ref (a 22), .ref (a 23), .ref (a 24), .ref (a 25), .ref (a 26), .ref (a 27), .ref (a 28), .ref (a 29), .ref (a 30), .int kf]) := ⟨_, rfl⟩
                    refine x_put C (ci := 11) (k := 27) (ty := .int) 0 k769 rfl in_X12 tyX12 tyX12_ok nmX12 (by decide) w_1145 rfl rfl rfl rfl (Nat.le_of_ble_eq_true rfl) hw776.symm dX12_readsLine_229 rfl ?_
                    have hW777 : WX (okM E a cd kf jn js jq) w775 := by rw [hw776]; exact hW767.set (k := 0) rfl ⟨tp, (pl33 + 1), le, v39, nu34, v40, cm, wt, sm, (lm + 1), v41, v42, v43, v44, n45, n46, by omega, by omega, by omega, by omega, by omega, by omega, by omega, by omega, by omega, rfl⟩
                    have k778 : w775[4]? = some (bA E (a 4) 260 tf) := by rw [hw776]; exact set_ne k768 (by decide)
                    have k779 : w775[0]? = some (ob (a 0) 11 [.ref (a 1), .ref (a 2), .ref (a 3), .ref (a 4), .int (nI tp), .int (nI (pl33 + 1)), .int (nI le), .int v39, .int nu34, .int v40, .int (nI cm), .int (nI wt), .int (nI sm), .int (nI (cd.2.2.2.2.2)), .ref (a 5), .ref (a 6), .ref (a 7), .ref (a 8), .ref (a 9), .ref (a 10), .ref (a 11), .ref (a 12), .ref (a 13), .ref (a 14), .ref (a 15), .ref (a 16), .ref (a 17), .int (nI (lm + 1)), .ref (a 18), .ref (a 19), .ref (a 20), .ref (a 21), .int v41, .int v42, .int v43, .int v44, .int (nI n45), .int (nI n46), .ref (a 22), .ref (a 23), .ref (a 24), .ref (a 25), .ref (a 26), .ref (a 27), .ref (a 28), .ref (a 29), .ref (a 30), .int kf]) := by rw [hw776]; exact set_eq k769
                    have k780 : w775[19]? = some (iA E (a 19) 24 (upd f626 (nI lm).toNatClampNeg r57)) := by rw [hw776]; exact set_ne k770 (by decide)
                    have k781 : w775[20]? = some (iA E (a 20) 24 (fun j => nI ((updn g635 lm 0) j))) := by rw [hw776]; exact set_ne k771 (by decide)
                    have k782 : w775[18]? = some (iA E (a 18) 25 (fun j => nI ((updn g761 (lm + 1) ((g761 lm) + mm51)) j))) := by rw [hw776]; exact set_ne k774 (by decide)
                    have kp783 := keeps_set kp773 hw776 (by first | exact rfl | decide | omega | (dsimp only; omega))
                    refine x_iconst C (v := 1) dX12_readsLine_232 (by decide) rfl ?_
                    exact x_zret C hr hlk rfl dX12_readsLine_233 ⟨hW777, kp783, (Or.inr rfl), ⟨(pl33 + 1), (lm + 1), nu34, by omega, by omega, by omega, ⟨v39, v40, v41, v42, v43, v44, n45, n46, ⟨by omega, by omega, by omega, by omega, by omega, by omega, by omega⟩, ⟨by omega, by omega⟩, k779⟩⟩⟩
                  · skip
                    have hp784 := hv_lt (x60.symm.trans c759) (by decide)
                    refine x_aload_n C dX12_readsLine_138 rfl 2 rfl rfl ?_
                    refine x_vi C (As := []) (rest := []) (m_isDigit E l a cd hG kf jn js jq w638 hW640 tp (pl33 + 1) le cm wt sm lm nu34 ⟨v39, v40, v41, v42, v43, v44, n45, n46, ⟨by omega, by omega, by omega, by omega, by omega, by omega, by omega⟩, ⟨by omega, by omega⟩, k642⟩ tf k641) mf_X12_isDigit w_1341 0 k642 rfl rfl rfl (Nat.le_of_ble_eq_true rfl) ⟨(Nat.le_of_ble_eq_true rfl), (Nat.le_of_ble_eq_true rfl)⟩ ⟨(Nat.le_of_ble_eq_true rfl), (Nat.le_of_ble_eq_true rfl)⟩ dX12_readsLine_139 rfl (fun r786 w787 h785 => ?_)
                    obtain ⟨hW788, zb789, x790⟩ := h785
                    refine x_ws hW788 ?_
                    refine x_if_ne C (tgt := 155) dX12_readsLine_142 (by decide) rfl (fun c791 => ?_) (fun c791 => ?_)
                    · skip
                      obtain ⟨d792, hd793, ed794, hp795⟩ := x790 c791
                      refine x_aload_n C dX12_readsLine_155 rfl 2 rfl rfl ?_
                      refine x_vi C (As := []) (rest := []) (m_here E l a cd hG kf jn js jq w638 hW640 tp (pl33 + 1) le cm wt sm lm nu34 ⟨v39, v40, v41, v42, v43, v44, n45, n46, ⟨by omega, by omega, by omega, by omega, by omega, by omega, by omega⟩, ⟨by omega, by omega⟩, k642⟩ tf k641) mf_X12_here w_1317 0 k642 rfl rfl rfl (Nat.le_of_ble_eq_true rfl) ⟨(Nat.le_of_ble_eq_true rfl), (Nat.le_of_ble_eq_true rfl)⟩ ⟨(Nat.le_of_ble_eq_true rfl), (Nat.le_of_ble_eq_true rfl)⟩ dX12_readsLine_156 rfl (fun r797 w798 h796 => ?_)
                      obtain ⟨hW799, x800⟩ := h796
                      refine x_ws hW799 ?_
                      refine x_top (x800.trans ed794) ?_
                      refine x_bipush C (v := 55) dX12_readsLine_159 (by decide) rfl ?_
                      refine x_icmp_le C (tgt := 174) dX12_readsLine_161 (by decide) rfl (fun c801 => ?_) (fun c801 => ?_)
                      · skip
                        have nf802 := nI_le' (a := (48 + d792)) (b := 55) c801 (by omega) (by omega)
                        refine x_aload_n C dX12_readsLine_174 rfl 2 rfl rfl ?_
                        refine x_get C (ci := 11) (k := 30) 0 k642 rfl in_X12 (by decide) w_1148 rfl dX12_readsLine_175 rfl ?_
                        refine x_aload_n C dX12_readsLine_178 rfl 2 rfl rfl ?_
                        refine x_get C (ci := 11) (k := 27) 0 k642 rfl in_X12 (by decide) w_1145 rfl dX12_readsLine_179 rfl ?_
                        refine x_aload_n C dX12_readsLine_182 rfl 2 rfl rfl ?_
                        refine x_vi C (As := []) (rest := [.int (nI lm), .ref (a 20)]) (m_here E l a cd hG kf jn js jq w638 hW640 tp (pl33 + 1) le cm wt sm lm nu34 ⟨v39, v40, v41, v42, v43, v44, n45, n46, ⟨by omega, by omega, by omega, by omega, by omega, by omega, by omega⟩, ⟨by omega, by omega⟩, k642⟩ tf k641) mf_X12_here w_1317 0 k642 rfl rfl rfl (Nat.le_of_ble_eq_true rfl) ⟨(Nat.le_of_ble_eq_true rfl), (Nat.le_of_ble_eq_true rfl)⟩ ⟨(Nat.le_of_ble_eq_true rfl), (Nat.le_of_ble_eq_true rfl)⟩ dX12_readsLine_183 rfl (fun r804 w805 h803 => ?_)
                        obtain ⟨hW806, x807⟩ := h803
                        refine x_ws hW806 ?_
                        refine x_top (x807.trans ed794) ?_
                        refine x_bipush C (v := 48) dX12_readsLine_186 (by decide) rfl ?_
                        refine x_isub C (v := (nI ((48 + d792) - 48))) dX12_readsLine_188 (pk_sub (a := (48 + d792)) (b := 48) (by omega)) rfl ?_
                        have gb808 := updn_le (i := lm) (v := ((48 + d792) - 48)) gb637 (by omega)
                        obtain ⟨w809, hw810⟩ : ∃ w : va_W, w = List.set w638 20 (iA E (a 20) 24 (upd (fun j => nI ((updn g635 lm 0) j)) lm (nI ((48 + d792) - 48)))) := ⟨_, rfl⟩
                        refine x_iask C lm (nI_clamp (by omega)) (nI_pos (by omega)) (by omega) 20 k646 hw810.symm dX12_readsLine_189 rfl ?_
                        have hW811 : WX (okM E a cd kf jn js jq) w809 := by rw [hw810]; exact hW640.set (k := 20) rfl ⟨_, gb808, iA_n (upd_nI (updn g635 lm 0) lm ((48 + d792) - 48))⟩
                        have k812 : w809[4]? = some (bA E (a 4) 260 tf) := by rw [hw810]; exact set_ne k641 (by decide)
                        have k813 : w809[0]? = some (ob (a 0) 11 [.ref (a 1), .ref (a 2), .ref (a 3), .ref (a 4), .int (nI tp), .int (nI (pl33 + 1)), .int (nI le), .int v39, .int nu34, .int v40, .int (nI cm), .int (nI wt), .int (nI sm), .int (nI (cd.2.2.2.2.2)), .ref (a 5), .ref (a 6), .ref (a 7), .ref (a 8), .ref (a 9), .ref (a 10), .ref (a 11), .ref (a 12), .ref (a 13), .ref (a 14), .ref (a 15), .ref (a 16), .ref (a 17), .int (nI lm), .ref (a 18), .ref (a 19), .ref (a 20), .ref (a 21), .int v41, .int v42, .int v43, .int v44, .int (nI n45), .int (nI n46), .ref (a 22), .ref (a 23), .ref (a 24), .ref (a 25), .ref (a 26), .ref (a 27), .ref (a 28), .ref (a 29), .ref (a 30), .int kf]) := by rw [hw810]; exact set_ne k642 (by decide)
                        have k814 : w809[19]? = some (iA E (a 19) 24 (upd f626 (nI lm).toNatClampNeg r57)) := by rw [hw810]; exact set_ne k643 (by decide)
                        have k815 : w809[20]? = some (iA E (a 20) 24 (upd (fun j => nI ((updn g635 lm 0) j)) lm (nI ((48 + d792) - 48)))) := by rw [hw810]; exact set_eq k646
                        have kp816 := keeps_set kp645 hw810 (by first | exact rfl | decide | omega | (dsimp only; omega))
                        have k817 : w809[20]? = some (iA E (a 20) 24 (fun j => nI ((updn (updn g635 lm 0) lm ((48 + d792) - 48)) j))) := by rw [← upd_nI]; exact k815
                        refine x_aload_n C dX12_readsLine_190 rfl 2 rfl rfl ?_
                        refine x_aload_n C dX12_readsLine_191 rfl 2 rfl rfl ?_
                        refine x_get C (ci := 11) (k := 5) 0 k813 rfl in_X12 (by decide) w_1123 rfl dX12_readsLine_192 rfl ?_
                        refine x_iconst C (v := 1) dX12_readsLine_195 (by decide) rfl ?_
                        refine x_iadd C (v := (nI ((pl33 + 1) + 1))) dX12_readsLine_196 (nI_add (pl33 + 1) 1) rfl ?_
                        obtain ⟨w818, hw819⟩ : ∃ w : va_W, w = List.set w809 0 (ob (a 0) 11 [.ref (a 1), .ref (a 2), .ref (a 3), .ref (a 4), .int (nI tp), .int (nI ((pl33 + 1) + 1)), .int (nI le), .int v39, .int nu34, .int v40, .int (nI cm), .int (nI wt), .int (nI sm), .int (nI (cd.2.2.2.2.2)), .ref (a 5), .ref (a 6), .ref (a 7), .ref (a 8), .ref (a 9), .ref (a 10), .ref (a 11), .ref (a 12), .ref (a 13), .ref (a 14), .ref (a 15), .ref (a 16), .ref (a 17), .int (nI lm), .ref (a 18), .ref (a 19), .ref (a 20), .ref (a 21), .int v41, .int v42, .int v43, .int v44, .int (nI n45), .int (nI n46), .ref (a 22), .ref (a 23), .ref (a 24), .ref (a 25), .ref (a 26), .ref (a 27), .ref (a 28), .ref (a 29), .ref (a 30), .int kf]) := ⟨_, rfl⟩
                        refine x_put C (ci := 11) (k := 5) (ty := .int) 0 k813 rfl in_X12 tyX12 tyX12_ok nmX12 (by decide) w_1123 rfl rfl rfl rfl (Nat.le_of_ble_eq_true rfl) hw819.symm dX12_readsLine_197 rfl ?_
                        have hW820 : WX (okM E a cd kf jn js jq) w818 := by rw [hw819]; exact hW811.set (k := 0) rfl ⟨tp, ((pl33 + 1) + 1), le, v39, nu34, v40, cm, wt, sm, lm, v41, v42, v43, v44, n45, n46, by omega, by omega, by omega, by omega, by omega, by omega, by omega, by omega, by omega, rfl⟩
                        have k821 : w818[4]? = some (bA E (a 4) 260 tf) := by rw [hw819]; exact set_ne k812 (by decide)
                        have k822 : w818[0]? = some (ob (a 0) 11 [.ref (a 1), .ref (a 2), .ref (a 3), .ref (a 4), .int (nI tp), .int (nI ((pl33 + 1) + 1)), .int (nI le), .int v39, .int nu34, .int v40, .int (nI cm), .int (nI wt), .int (nI sm), .int (nI (cd.2.2.2.2.2)), .ref (a 5), .ref (a 6), .ref (a 7), .ref (a 8), .ref (a 9), .ref (a 10), .ref (a 11), .ref (a 12), .ref (a 13), .ref (a 14), .ref (a 15), .ref (a 16), .ref (a 17), .int (nI lm), .ref (a 18), .ref (a 19), .ref (a 20), .ref (a 21), .int v41, .int v42, .int v43, .int v44, .int (nI n45), .int (nI n46), .ref (a 22), .ref (a 23), .ref (a 24), .ref (a 25), .ref (a 26), .ref (a 27), .ref (a 28), .ref (a 29), .ref (a 30), .int kf]) := by rw [hw819]; exact set_eq k813
                        have k823 : w818[19]? = some (iA E (a 19) 24 (upd f626 (nI lm).toNatClampNeg r57)) := by rw [hw819]; exact set_ne k814 (by decide)
                        have k824 : w818[20]? = some (iA E (a 20) 24 (fun j => nI ((updn (updn g635 lm 0) lm ((48 + d792) - 48)) j))) := by rw [hw819]; exact set_ne k817 (by decide)
                        have kp825 := keeps_set kp816 hw819 (by first | exact rfl | decide | omega | (dsimp only; omega))
                        refine x_aload_n C dX12_readsLine_200 rfl 2 rfl rfl ?_
                        refine x_get C (ci := 11) (k := 28) 0 k822 rfl in_X12 (by decide) w_1146 rfl dX12_readsLine_201 rfl ?_
                        refine x_aload_n C dX12_readsLine_204 rfl 2 rfl rfl ?_
                        refine x_get C (ci := 11) (k := 27) 0 k822 rfl in_X12 (by decide) w_1145 rfl dX12_readsLine_205 rfl ?_
                        refine x_iconst C (v := 1) dX12_readsLine_208 (by decide) rfl ?_
                        refine x_iadd C (v := (nI (lm + 1))) dX12_readsLine_209 (nI_add lm 1) rfl ?_
                        refine x_aload_n C dX12_readsLine_210 rfl 2 rfl rfl ?_
                        refine x_get C (ci := 11) (k := 28) 0 k822 rfl in_X12 (by decide) w_1146 rfl dX12_readsLine_211 rfl ?_
                        refine x_aload_n C dX12_readsLine_214 rfl 2 rfl rfl ?_
                        refine x_get C (ci := 11) (k := 27) 0 k822 rfl in_X12 (by decide) w_1145 rfl dX12_readsLine_215 rfl ?_
                        obtain ⟨_, k826, g827, gb828, rfl⟩ := hW820 18 _ rfl
                        refine x_ialk C (v := nI (g827 lm)) lm (nI_clamp (by omega)) (nI_pos (by omega)) (by omega) 18 k826 rfl dX12_readsLine_218 rfl ?_
                        have bx829 := gb828 lm
                        refine x_iload_n C dX12_readsLine_219 rfl 1 rfl rfl ?_
                        refine x_iadd C (v := (nI ((g827 lm) + mm51))) dX12_readsLine_220 (nI_add (g827 lm) mm51) rfl ?_
                        have gb830 := updn_leF (i := (lm + 1)) (v := ((g827 lm) + mm51)) gb828 (by omega)
                        obtain ⟨w831, hw832⟩ : ∃ w : va_W, w = List.set w818 18 (iA E (a 18) 25 (upd (fun j => nI (g827 j)) (lm + 1) (nI ((g827 lm) + mm51)))) := ⟨_, rfl⟩
                        refine x_iask C (lm + 1) (nI_clamp (by omega)) (nI_pos (by omega)) (by omega) 18 k826 hw832.symm dX12_readsLine_221 rfl ?_
                        have hW833 : WX (okM E a cd kf jn js jq) w831 := by rw [hw832]; exact hW820.set (k := 18) rfl ⟨_, gb830, iA_n (upd_nI g827 (lm + 1) ((g827 lm) + mm51))⟩
                        have k834 : w831[4]? = some (bA E (a 4) 260 tf) := by rw [hw832]; exact set_ne k821 (by decide)
                        have k835 : w831[0]? = some (ob (a 0) 11 [.ref (a 1), .ref (a 2), .ref (a 3), .ref (a 4), .int (nI tp), .int (nI ((pl33 + 1) + 1)), .int (nI le), .int v39, .int nu34, .int v40, .int (nI cm), .int (nI wt), .int (nI sm), .int (nI (cd.2.2.2.2.2)), .ref (a 5), .ref (a 6), .ref (a 7), .ref (a 8), .ref (a 9), .ref (a 10), .ref (a 11), .ref (a 12), .ref (a 13), .ref (a 14), .ref (a 15), .ref (a 16), .ref (a 17), .int (nI lm), .ref (a 18), .ref (a 19), .ref (a 20), .ref (a 21), .int v41, .int v42, .int v43, .int v44, .int (nI n45), .int (nI n46), .ref (a 22), .ref (a 23), .ref (a 24), .ref (a 25), .ref (a 26), .ref (a 27), .ref (a 28), .ref (a 29), .ref (a 30), .int kf]) := by rw [hw832]; exact set_ne k822 (by decide)
                        have k836 : w831[19]? = some (iA E (a 19) 24 (upd f626 (nI lm).toNatClampNeg r57)) := by rw [hw832]; exact set_ne k823 (by decide)
                        have k837 : w831[20]? = some (iA E (a 20) 24 (fun j => nI ((updn (updn g635 lm 0) lm ((48 + d792) - 48)) j))) := by rw [hw832]; exact set_ne k824 (by decide)
                        have k838 : w831[18]? = some (iA E (a 18) 25 (upd (fun j => nI (g827 j)) (lm + 1) (nI ((g827 lm) + mm51)))) := by rw [hw832]; exact set_eq k826
                        have kp839 := keeps_set kp825 hw832 (by first | exact rfl | decide | omega | (dsimp only; omega))
                        have k840 : w831[18]? = some (iA E (a 18) 25 (fun j => nI ((updn g827 (lm + 1) ((g827 lm) + mm51)) j))) := by rw [← upd_nI]; exact k838
                        refine x_aload_n C dX12_readsLine_222 rfl 2 rfl rfl ?_
                        refine x_aload_n C dX12_readsLine_223 rfl 2 rfl rfl ?_
                        refine x_get C (ci := 11) (k := 27) 0 k835 rfl in_X12 (by decide) w_1145 rfl dX12_readsLine_224 rfl ?_
                        refine x_iconst C (v := 1) dX12_readsLine_227 (by decide) rfl ?_
                        refine x_iadd C (v := (nI (lm + 1))) dX12_readsLine_228 (nI_add lm 1) rfl ?_
                        obtain ⟨w841, hw842⟩ : ∃ w : va_W, w = List.set w831 0 (ob (a 0) 11 [.ref (a 1), .ref (a 2), .ref (a 3), .ref (a 4), .int (nI tp), .int (nI ((pl33 + 1) + 1)), .int (nI le), .int v39, .int nu34, .int v40, .int (nI cm), .int (nI wt), .int (nI sm), .int (nI (cd.2.2.2.2.2)), .ref (a 5), .ref (a 6), .ref (a 7), .ref (a 8), .ref (a 9), .ref (a 10), .ref (a 11), .ref (a 12), .ref (a 13), .ref (a 14), .ref (a 15), .ref (a 16), .ref (a 17), .int (nI (lm + 1)), .ref (a 18), .ref (a 19), .ref (a 20), .ref (a 21), .int v41, .int v42, .int v43, .int v44, .int (nI n45), .int (nI n46), .ref (a 22), .ref (a 23), .ref (a 24), .ref (a 25), .ref (a 26), .ref (a 27), .ref (a 28), .ref (a 29), .ref (a 30), .int kf]) := ⟨_, rfl⟩
                        refine x_put C (ci := 11) (k := 27) (ty := .int) 0 k835 rfl in_X12 tyX12 tyX12_ok nmX12 (by decide) w_1145 rfl rfl rfl rfl (Nat.le_of_ble_eq_true rfl) hw842.symm dX12_readsLine_229 rfl ?_
                        have hW843 : WX (okM E a cd kf jn js jq) w841 := by rw [hw842]; exact hW833.set (k := 0) rfl ⟨tp, ((pl33 + 1) + 1), le, v39, nu34, v40, cm, wt, sm, (lm + 1), v41, v42, v43, v44, n45, n46, by omega, by omega, by omega, by omega, by omega, by omega, by omega, by omega, by omega, rfl⟩
                        have k844 : w841[4]? = some (bA E (a 4) 260 tf) := by rw [hw842]; exact set_ne k834 (by decide)
                        have k845 : w841[0]? = some (ob (a 0) 11 [.ref (a 1), .ref (a 2), .ref (a 3), .ref (a 4), .int (nI tp), .int (nI ((pl33 + 1) + 1)), .int (nI le), .int v39, .int nu34, .int v40, .int (nI cm), .int (nI wt), .int (nI sm), .int (nI (cd.2.2.2.2.2)), .ref (a 5), .ref (a 6), .ref (a 7), .ref (a 8), .ref (a 9), .ref (a 10), .ref (a 11), .ref (a 12), .ref (a 13), .ref (a 14), .ref (a 15), .ref (a 16), .ref (a 17), .int (nI (lm + 1)), .ref (a 18), .ref (a 19), .ref (a 20), .ref (a 21), .int v41, .int v42, .int v43, .int v44, .int (nI n45), .int (nI n46), .ref (a 22), .ref (a 23), .ref (a 24), .ref (a 25), .ref (a 26), .ref (a 27), .ref (a 28), .ref (a 29), .ref (a 30), .int kf]) := by rw [hw842]; exact set_eq k835
                        have k846 : w841[19]? = some (iA E (a 19) 24 (upd f626 (nI lm).toNatClampNeg r57)) := by rw [hw842]; exact set_ne k836 (by decide)
                        have k847 : w841[20]? = some (iA E (a 20) 24 (fun j => nI ((updn (updn g635 lm 0) lm ((48 + d792) - 48)) j))) := by rw [hw842]; exact set_ne k837 (by decide)
                        have k848 : w841[18]? = some (iA E (a 18) 25 (fun j => nI ((updn g827 (lm + 1) ((g827 lm) + mm51)) j))) := by rw [hw842]; exact set_ne k840 (by decide)
                        have kp849 := keeps_set kp839 hw842 (by first | exact rfl | decide | omega | (dsimp only; omega))
                        refine x_iconst C (v := 1) dX12_readsLine_232 (by decide) rfl ?_
                        exact x_zret C hr hlk rfl dX12_readsLine_233 ⟨hW843, kp849, (Or.inr rfl), ⟨((pl33 + 1) + 1), (lm + 1), nu34, by omega, by omega, by omega, ⟨v39, v40, v41, v42, v43, v44, n45, n46, ⟨by omega, by omega, by omega, by omega, by omega, by omega, by omega⟩, ⟨by omega, by omega⟩, k845⟩⟩⟩
                      · skip
                        have nf850 := nI_nle' (a := (48 + d792)) (b := 55) c801 (by omega) (by omega)
                        refine x_aload_n C dX12_readsLine_164 rfl 2 rfl rfl ?_
                        refine x_iconst C (v := 3) dX12_readsLine_165 (by decide) rfl ?_
                        refine x_aload_n C dX12_readsLine_166 rfl 2 rfl rfl ?_
                        refine x_get C (ci := 11) (k := 5) 0 k642 rfl in_X12 (by decide) w_1123 rfl dX12_readsLine_167 rfl ?_
                        refine x_vi C (As := [.int 3, .int (nI (pl33 + 1))]) (rest := []) (m_wrongAt E l a cd hG kf jn js jq w638 hW640 (3 : Int32) ((nI (pl33 + 1))) tp (pl33 + 1) le cm wt sm lm nu34 ⟨v39, v40, v41, v42, v43, v44, n45, n46, ⟨by omega, by omega, by omega, by omega, by omega, by omega, by omega⟩, ⟨by omega, by omega⟩, k642⟩) mf_X12_wrongAt w_1324 0 k642 rfl rfl rfl (Nat.le_of_ble_eq_true rfl) ⟨(Nat.le_of_ble_eq_true rfl), (Nat.le_of_ble_eq_true rfl)⟩ ⟨(Nat.le_of_ble_eq_true rfl), (Nat.le_of_ble_eq_true rfl)⟩ dX12_readsLine_170 rfl (fun r852 w853 h851 => ?_)
                        obtain ⟨hW854, kq855, e856, x857⟩ := h851
                        refine x_top e856 ?_
                        have k858 : w853[4]? = some (bA E (a 4) 260 tf) := keeps_at kq855 k641 (by first | decide | omega | (dsimp only; omega))
                        have k859 : w853[19]? = some (iA E (a 19) 24 (upd f626 (nI lm).toNatClampNeg r57)) := keeps_at kq855 k643 (by first | decide | omega | (dsimp only; omega))
                        have k860 : w853[20]? = some (iA E (a 20) 24 (fun j => nI ((updn g635 lm 0) j))) := keeps_at kq855 k646 (by first | decide | omega | (dsimp only; omega))
                        have kp861 := keeps_tr kp645 kq855 (fun q hq => by first | omega | (dsimp only at *; omega))
                        obtain ⟨v862, v863, v864, v865, v866, v867, n868, n869, bo870, bo871, k872⟩ := x857
                        exact x_zret C hr hlk rfl dX12_readsLine_173 ⟨hW854, kp861, (Or.inl rfl), ⟨((pl33 + 1)), lm, nu34, by omega, by omega, by omega, ⟨v862, v863, v864, v865, v866, v867, n868, n869, ⟨by omega, by omega, by omega, by omega, by omega, by omega, by omega⟩, ⟨by omega, by omega⟩, k872⟩⟩⟩
                    · skip
                      refine x_aload_n C dX12_readsLine_145 rfl 2 rfl rfl ?_
                      refine x_iconst C (v := 1) dX12_readsLine_146 (by decide) rfl ?_
                      refine x_aload_n C dX12_readsLine_147 rfl 2 rfl rfl ?_
                      refine x_get C (ci := 11) (k := 5) 0 k642 rfl in_X12 (by decide) w_1123 rfl dX12_readsLine_148 rfl ?_
                      refine x_vi C (As := [.int 1, .int (nI (pl33 + 1))]) (rest := []) (m_wrongAt E l a cd hG kf jn js jq w638 hW640 (1 : Int32) ((nI (pl33 + 1))) tp (pl33 + 1) le cm wt sm lm nu34 ⟨v39, v40, v41, v42, v43, v44, n45, n46, ⟨by omega, by omega, by omega, by omega, by omega, by omega, by omega⟩, ⟨by omega, by omega⟩, k642⟩) mf_X12_wrongAt w_1324 0 k642 rfl rfl rfl (Nat.le_of_ble_eq_true rfl) ⟨(Nat.le_of_ble_eq_true rfl), (Nat.le_of_ble_eq_true rfl)⟩ ⟨(Nat.le_of_ble_eq_true rfl), (Nat.le_of_ble_eq_true rfl)⟩ dX12_readsLine_151 rfl (fun r874 w875 h873 => ?_)
                      obtain ⟨hW876, kq877, e878, x879⟩ := h873
                      refine x_top e878 ?_
                      have k880 : w875[4]? = some (bA E (a 4) 260 tf) := keeps_at kq877 k641 (by first | decide | omega | (dsimp only; omega))
                      have k881 : w875[19]? = some (iA E (a 19) 24 (upd f626 (nI lm).toNatClampNeg r57)) := keeps_at kq877 k643 (by first | decide | omega | (dsimp only; omega))
                      have k882 : w875[20]? = some (iA E (a 20) 24 (fun j => nI ((updn g635 lm 0) j))) := keeps_at kq877 k646 (by first | decide | omega | (dsimp only; omega))
                      have kp883 := keeps_tr kp645 kq877 (fun q hq => by first | omega | (dsimp only at *; omega))
                      obtain ⟨v884, v885, v886, v887, v888, v889, n890, n891, bo892, bo893, k894⟩ := x879
                      exact x_zret C hr hlk rfl dX12_readsLine_154 ⟨hW876, kp883, (Or.inl rfl), ⟨((pl33 + 1)), lm, nu34, by omega, by omega, by omega, ⟨v884, v885, v886, v887, v888, v889, n890, n891, ⟨by omega, by omega, by omega, by omega, by omega, by omega, by omega⟩, ⟨by omega, by omega⟩, k894⟩⟩⟩
              · skip
                refine x_iload_n C dX12_readsLine_80 rfl 0 rfl rfl ?_
                refine x_bipush C (v := 42) dX12_readsLine_81 (by decide) rfl ?_
                refine x_icmp_eq C (tgt := 96) dX12_readsLine_83 (by decide) rfl (fun c895 => ?_) (fun c895 => ?_)
                · skip
                  have hp896 := hv_lt (x60.symm.trans c895) (by decide)
                  refine x_aload_n C dX12_readsLine_96 rfl 2 rfl rfl ?_
                  refine x_aload_n C dX12_readsLine_97 rfl 2 rfl rfl ?_
                  refine x_get C (ci := 11) (k := 5) 0 k49 rfl in_X12 (by decide) w_1123 rfl dX12_readsLine_98 rfl ?_
                  refine x_iconst C (v := 1) dX12_readsLine_101 (by decide) rfl ?_
                  refine x_iadd C (v := (nI (pl33 + 1))) dX12_readsLine_102 (nI_add pl33 1) rfl ?_
                  obtain ⟨w897, hw898⟩ : ∃ w : va_W, w = List.set w27 0 (ob (a 0) 11 [.ref (a 1), .ref (a 2), .ref (a 3), .ref (a 4), .int (nI tp), .int (nI (pl33 + 1)), .int (nI le), .int v39, .int nu34, .int v40, .int (nI cm), .int (nI wt), .int (nI sm), .int (nI (cd.2.2.2.2.2)), .ref (a 5), .ref (a 6), .ref (a 7), .ref (a 8), .ref (a 9), .ref (a 10), .ref (a 11), .ref (a 12), .ref (a 13), .ref (a 14), .ref (a 15), .ref (a 16), .ref (a 17), .int (nI lm), .ref (a 18), .ref (a 19), .ref (a 20), .ref (a 21), .int v41, .int v42, .int v43, .int v44, .int (nI n45), .int (nI n46), .ref (a 22), .ref (a 23), .ref (a 24), .ref (a 25), .ref (a 26), .ref (a 27), .ref (a 28), .ref (a 29), .ref (a 30), .int kf]) := ⟨_, rfl⟩
                  refine x_put C (ci := 11) (k := 5) (ty := .int) 0 k49 rfl in_X12 tyX12 tyX12_ok nmX12 (by decide) w_1123 rfl rfl rfl rfl (Nat.le_of_ble_eq_true rfl) hw898.symm dX12_readsLine_103 rfl ?_
                  have hW899 : WX (okM E a cd kf jn js jq) w897 := by rw [hw898]; exact hW28.set (k := 0) rfl ⟨tp, (pl33 + 1), le, v39, nu34, v40, cm, wt, sm, lm, v41, v42, v43, v44, n45, n46, by omega, by omega, by omega, by omega, by omega, by omega, by omega, by omega, by omega, rfl⟩
                  have k900 : w897[4]? = some (bA E (a 4) 260 tf) := by rw [hw898]; exact set_ne k31 (by decide)
                  have k901 : w897[0]? = some (ob (a 0) 11 [.ref (a 1), .ref (a 2), .ref (a 3), .ref (a 4), .int (nI tp), .int (nI (pl33 + 1)), .int (nI le), .int v39, .int nu34, .int v40, .int (nI cm), .int (nI wt), .int (nI sm), .int (nI (cd.2.2.2.2.2)), .ref (a 5), .ref (a 6), .ref (a 7), .ref (a 8), .ref (a 9), .ref (a 10), .ref (a 11), .ref (a 12), .ref (a 13), .ref (a 14), .ref (a 15), .ref (a 16), .ref (a 17), .int (nI lm), .ref (a 18), .ref (a 19), .ref (a 20), .ref (a 21), .int v41, .int v42, .int v43, .int v44, .int (nI n45), .int (nI n46), .ref (a 22), .ref (a 23), .ref (a 24), .ref (a 25), .ref (a 26), .ref (a 27), .ref (a 28), .ref (a 29), .ref (a 30), .int kf]) := by rw [hw898]; exact set_eq k49
                  have kp902 := keeps_set kp32 hw898 (by first | exact rfl | decide | omega | (dsimp only; omega))
                  refine x_aload_n C dX12_readsLine_106 rfl 2 rfl rfl ?_
                  refine x_get C (ci := 11) (k := 29) 0 k901 rfl in_X12 (by decide) w_1147 rfl dX12_readsLine_107 rfl ?_
                  refine x_aload_n C dX12_readsLine_110 rfl 2 rfl rfl ?_
                  refine x_get C (ci := 11) (k := 27) 0 k901 rfl in_X12 (by decide) w_1145 rfl dX12_readsLine_111 rfl ?_
                  refine x_iload_n C dX12_readsLine_114 rfl 0 rfl rfl ?_
                  obtain ⟨_, k903, f904, rfl⟩ := hW899 19 _ rfl
                  obtain ⟨w905, hw906⟩ : ∃ w : va_W, w = List.set w897 19 (iA E (a 19) 24 (upd f904 (nI lm).toNatClampNeg r57)) := ⟨_, rfl⟩
                  refine x_iast C 19 k903 (vp_in_nI (by omega) (by decide)) hw906.symm dX12_readsLine_115 rfl ?_
                  have hW907 : WX (okM E a cd kf jn js jq) w905 := by rw [hw906]; exact hW899.set (k := 19) rfl ⟨_, rfl⟩
                  have k908 : w905[4]? = some (bA E (a 4) 260 tf) := by rw [hw906]; exact set_ne k900 (by decide)
                  have k909 : w905[0]? = some (ob (a 0) 11 [.ref (a 1), .ref (a 2), .ref (a 3), .ref (a 4), .int (nI tp), .int (nI (pl33 + 1)), .int (nI le), .int v39, .int nu34, .int v40, .int (nI cm), .int (nI wt), .int (nI sm), .int (nI (cd.2.2.2.2.2)), .ref (a 5), .ref (a 6), .ref (a 7), .ref (a 8), .ref (a 9), .ref (a 10), .ref (a 11), .ref (a 12), .ref (a 13), .ref (a 14), .ref (a 15), .ref (a 16), .ref (a 17), .int (nI lm), .ref (a 18), .ref (a 19), .ref (a 20), .ref (a 21), .int v41, .int v42, .int v43, .int v44, .int (nI n45), .int (nI n46), .ref (a 22), .ref (a 23), .ref (a 24), .ref (a 25), .ref (a 26), .ref (a 27), .ref (a 28), .ref (a 29), .ref (a 30), .int kf]) := by rw [hw906]; exact set_ne k901 (by decide)
                  have k910 : w905[19]? = some (iA E (a 19) 24 (upd f904 (nI lm).toNatClampNeg r57)) := by rw [hw906]; exact set_eq k903
                  have kp911 := keeps_set kp902 hw906 (by first | exact rfl | decide | omega | (dsimp only; omega))
                  refine x_aload_n C dX12_readsLine_116 rfl 2 rfl rfl ?_
                  refine x_get C (ci := 11) (k := 30) 0 k909 rfl in_X12 (by decide) w_1148 rfl dX12_readsLine_117 rfl ?_
                  refine x_aload_n C dX12_readsLine_120 rfl 2 rfl rfl ?_
                  refine x_get C (ci := 11) (k := 27) 0 k909 rfl in_X12 (by decide) w_1145 rfl dX12_readsLine_121 rfl ?_
                  refine x_iconst C (v := 0) dX12_readsLine_124 (by decide) rfl ?_
                  obtain ⟨_, k912, g913, gb914, rfl⟩ := hW907 20 _ rfl
                  have gb915 := updn_le (i := lm) (v := 0) gb914 (by omega)
                  obtain ⟨w916, hw917⟩ : ∃ w : va_W, w = List.set w905 20 (iA E (a 20) 24 (upd (fun j => nI (g913 j)) lm (nI 0))) := ⟨_, rfl⟩
                  refine x_iask C lm (nI_clamp (by omega)) (nI_pos (by omega)) (by omega) 20 k912 hw917.symm dX12_readsLine_125 rfl ?_
                  have hW918 : WX (okM E a cd kf jn js jq) w916 := by rw [hw917]; exact hW907.set (k := 20) rfl ⟨_, gb915, iA_n (upd_nI g913 lm 0)⟩
                  have k919 : w916[4]? = some (bA E (a 4) 260 tf) := by rw [hw917]; exact set_ne k908 (by decide)
                  have k920 : w916[0]? = some (ob (a 0) 11 [.ref (a 1), .ref (a 2), .ref (a 3), .ref (a 4), .int (nI tp), .int (nI (pl33 + 1)), .int (nI le), .int v39, .int nu34, .int v40, .int (nI cm), .int (nI wt), .int (nI sm), .int (nI (cd.2.2.2.2.2)), .ref (a 5), .ref (a 6), .ref (a 7), .ref (a 8), .ref (a 9), .ref (a 10), .ref (a 11), .ref (a 12), .ref (a 13), .ref (a 14), .ref (a 15), .ref (a 16), .ref (a 17), .int (nI lm), .ref (a 18), .ref (a 19), .ref (a 20), .ref (a 21), .int v41, .int v42, .int v43, .int v44, .int (nI n45), .int (nI n46), .ref (a 22), .ref (a 23), .ref (a 24), .ref (a 25), .ref (a 26), .ref (a 27), .ref (a 28), .ref (a 29), .ref (a 30), .int kf]) := by rw [hw917]; exact set_ne k909 (by decide)
                  have k921 : w916[19]? = some (iA E (a 19) 24 (upd f904 (nI lm).toNatClampNeg r57)) := by rw [hw917]; exact set_ne k910 (by decide)
                  have k922 : w916[20]? = some (iA E (a 20) 24 (upd (fun j => nI (g913 j)) lm (nI 0))) := by rw [hw917]; exact set_eq k912
                  have kp923 := keeps_set kp911 hw917 (by first | exact rfl | decide | omega | (dsimp only; omega))
                  have k924 : w916[20]? = some (iA E (a 20) 24 (fun j => nI ((updn g913 lm 0) j))) := by rw [← upd_nI]; exact k922
                  refine x_iload_n C dX12_readsLine_126 rfl 0 rfl rfl ?_
                  refine x_bipush C (v := 62) dX12_readsLine_127 (by decide) rfl ?_
                  refine x_icmp_eq C (tgt := 138) dX12_readsLine_129 (by decide) rfl (fun c925 => ?_) (fun c925 => ?_)
                  · skip
                    have hp926 := hv_lt (x60.symm.trans c925) (by decide)
                    refine x_aload_n C dX12_readsLine_138 rfl 2 rfl rfl ?_
                    refine x_vi C (As := []) (rest := []) (m_isDigit E l a cd hG kf jn js jq w916 hW918 tp (pl33 + 1) le cm wt sm lm nu34 ⟨v39, v40, v41, v42, v43, v44, n45, n46, ⟨by omega, by omega, by omega, by omega, by omega, by omega, by omega⟩, ⟨by omega, by omega⟩, k920⟩ tf k919) mf_X12_isDigit w_1341 0 k920 rfl rfl rfl (Nat.le_of_ble_eq_true rfl) ⟨(Nat.le_of_ble_eq_true rfl), (Nat.le_of_ble_eq_true rfl)⟩ ⟨(Nat.le_of_ble_eq_true rfl), (Nat.le_of_ble_eq_true rfl)⟩ dX12_readsLine_139 rfl (fun r928 w929 h927 => ?_)
                    obtain ⟨hW930, zb931, x932⟩ := h927
                    refine x_ws hW930 ?_
                    refine x_if_ne C (tgt := 155) dX12_readsLine_142 (by decide) rfl (fun c933 => ?_) (fun c933 => ?_)
                    · skip
                      obtain ⟨d934, hd935, ed936, hp937⟩ := x932 c933
                      refine x_aload_n C dX12_readsLine_155 rfl 2 rfl rfl ?_
                      refine x_vi C (As := []) (rest := []) (m_here E l a cd hG kf jn js jq w916 hW918 tp (pl33 + 1) le cm wt sm lm nu34 ⟨v39, v40, v41, v42, v43, v44, n45, n46, ⟨by omega, by omega, by omega, by omega, by omega, by omega, by omega⟩, ⟨by omega, by omega⟩, k920⟩ tf k919) mf_X12_here w_1317 0 k920 rfl rfl rfl (Nat.le_of_ble_eq_true rfl) ⟨(Nat.le_of_ble_eq_true rfl), (Nat.le_of_ble_eq_true rfl)⟩ ⟨(Nat.le_of_ble_eq_true rfl), (Nat.le_of_ble_eq_true rfl)⟩ dX12_readsLine_156 rfl (fun r939 w940 h938 => ?_)
                      obtain ⟨hW941, x942⟩ := h938
                      refine x_ws hW941 ?_
                      refine x_top (x942.trans ed936) ?_
                      refine x_bipush C (v := 55) dX12_readsLine_159 (by decide) rfl ?_
                      refine x_icmp_le C (tgt := 174) dX12_readsLine_161 (by decide) rfl (fun c943 => ?_) (fun c943 => ?_)
                      · skip
                        have nf944 := nI_le' (a := (48 + d934)) (b := 55) c943 (by omega) (by omega)
                        refine x_aload_n C dX12_readsLine_174 rfl 2 rfl rfl ?_
                        refine x_get C (ci := 11) (k := 30) 0 k920 rfl in_X12 (by decide) w_1148 rfl dX12_readsLine_175 rfl ?_
                        refine x_aload_n C dX12_readsLine_178 rfl 2 rfl rfl ?_
                        refine x_get C (ci := 11) (k := 27) 0 k920 rfl in_X12 (by decide) w_1145 rfl dX12_readsLine_179 rfl ?_
                        refine x_aload_n C dX12_readsLine_182 rfl 2 rfl rfl ?_
                        refine x_vi C (As := []) (rest := [.int (nI lm), .ref (a 20)]) (m_here E l a cd hG kf jn js jq w916 hW918 tp (pl33 + 1) le cm wt sm lm nu34 ⟨v39, v40, v41, v42, v43, v44, n45, n46, ⟨by omega, by omega, by omega, by omega, by omega, by omega, by omega⟩, ⟨by omega, by omega⟩, k920⟩ tf k919) mf_X12_here w_1317 0 k920 rfl rfl rfl (Nat.le_of_ble_eq_true rfl) ⟨(Nat.le_of_ble_eq_true rfl), (Nat.le_of_ble_eq_true rfl)⟩ ⟨(Nat.le_of_ble_eq_true rfl), (Nat.le_of_ble_eq_true rfl)⟩ dX12_readsLine_183 rfl (fun r946 w947 h945 => ?_)
                        obtain ⟨hW948, x949⟩ := h945
                        refine x_ws hW948 ?_
                        refine x_top (x949.trans ed936) ?_
                        refine x_bipush C (v := 48) dX12_readsLine_186 (by decide) rfl ?_
                        refine x_isub C (v := (nI ((48 + d934) - 48))) dX12_readsLine_188 (pk_sub (a := (48 + d934)) (b := 48) (by omega)) rfl ?_
                        have gb950 := updn_le (i := lm) (v := ((48 + d934) - 48)) gb915 (by omega)
                        obtain ⟨w951, hw952⟩ : ∃ w : va_W, w = List.set w916 20 (iA E (a 20) 24 (upd (fun j => nI ((updn g913 lm 0) j)) lm (nI ((48 + d934) - 48)))) := ⟨_, rfl⟩
                        refine x_iask C lm (nI_clamp (by omega)) (nI_pos (by omega)) (by omega) 20 k924 hw952.symm dX12_readsLine_189 rfl ?_
                        have hW953 : WX (okM E a cd kf jn js jq) w951 := by rw [hw952]; exact hW918.set (k := 20) rfl ⟨_, gb950, iA_n (upd_nI (updn g913 lm 0) lm ((48 + d934) - 48))⟩
                        have k954 : w951[4]? = some (bA E (a 4) 260 tf) := by rw [hw952]; exact set_ne k919 (by decide)
                        have k955 : w951[0]? = some (ob (a 0) 11 [.ref (a 1), .ref (a 2), .ref (a 3), .ref (a 4), .int (nI tp), .int (nI (pl33 + 1)), .int (nI le), .int v39, .int nu34, .int v40, .int (nI cm), .int (nI wt), .int (nI sm), .int (nI (cd.2.2.2.2.2)), .ref (a 5), .ref (a 6), .ref (a 7), .ref (a 8), .ref (a 9), .ref (a 10), .ref (a 11), .ref (a 12), .ref (a 13), .ref (a 14), .ref (a 15), .ref (a 16), .ref (a 17), .int (nI lm), .ref (a 18), .ref (a 19), .ref (a 20), .ref (a 21), .int v41, .int v42, .int v43, .int v44, .int (nI n45), .int (nI n46), .ref (a 22), .ref (a 23), .ref (a 24), .ref (a 25), .ref (a 26), .ref (a 27), .ref (a 28), .ref (a 29), .ref (a 30), .int kf]) := by rw [hw952]; exact set_ne k920 (by decide)
                        have k956 : w951[19]? = some (iA E (a 19) 24 (upd f904 (nI lm).toNatClampNeg r57)) := by rw [hw952]; exact set_ne k921 (by decide)
                        have k957 : w951[20]? = some (iA E (a 20) 24 (upd (fun j => nI ((updn g913 lm 0) j)) lm (nI ((48 + d934) - 48)))) := by rw [hw952]; exact set_eq k924
                        have kp958 := keeps_set kp923 hw952 (by first | exact rfl | decide | omega | (dsimp only; omega))
                        have k959 : w951[20]? = some (iA E (a 20) 24 (fun j => nI ((updn (updn g913 lm 0) lm ((48 + d934) - 48)) j))) := by rw [← upd_nI]; exact k957
                        refine x_aload_n C dX12_readsLine_190 rfl 2 rfl rfl ?_
                        refine x_aload_n C dX12_readsLine_191 rfl 2 rfl rfl ?_
                        refine x_get C (ci := 11) (k := 5) 0 k955 rfl in_X12 (by decide) w_1123 rfl dX12_readsLine_192 rfl ?_
                        refine x_iconst C (v := 1) dX12_readsLine_195 (by decide) rfl ?_
                        refine x_iadd C (v := (nI ((pl33 + 1) + 1))) dX12_readsLine_196 (nI_add (pl33 + 1) 1) rfl ?_
                        obtain ⟨w960, hw961⟩ : ∃ w : va_W, w = List.set w951 0 (ob (a 0) 11 [.ref (a 1), .ref (a 2), .ref (a 3), .ref (a 4), .int (nI tp), .int (nI ((pl33 + 1) + 1)), .int (nI le), .int v39, .int nu34, .int v40, .int (nI cm), .int (nI wt), .int (nI sm), .int (nI (cd.2.2.2.2.2)), .ref (a 5), .ref (a 6), .ref (a 7), .ref (a 8), .ref (a 9), .ref (a 10), .ref (a 11), .ref (a 12), .ref (a 13), .ref (a 14), .ref (a 15), .ref (a 16), .ref (a 17), .int (nI lm), .ref (a 18), .ref (a 19), .ref (a 20), .ref (a 21), .int v41, .int v42, .int v43, .int v44, .int (nI n45), .int (nI n46), .ref (a 22), .ref (a 23), .ref (a 24), .ref (a 25), .ref (a 26), .ref (a 27), .ref (a 28), .ref (a 29), .ref (a 30), .int kf]) := ⟨_, rfl⟩
                        refine x_put C (ci := 11) (k := 5) (ty := .int) 0 k955 rfl in_X12 tyX12 tyX12_ok nmX12 (by decide) w_1123 rfl rfl rfl rfl (Nat.le_of_ble_eq_true rfl) hw961.symm dX12_readsLine_197 rfl ?_
                        have hW962 : WX (okM E a cd kf jn js jq) w960 := by rw [hw961]; exact hW953.set (k := 0) rfl ⟨tp, ((pl33 + 1) + 1), le, v39, nu34, v40, cm, wt, sm, lm, v41, v42, v43, v44, n45, n46, by omega, by omega, by omega, by omega, by omega, by omega, by omega, by omega, by omega, rfl⟩
                        have k963 : w960[4]? = some (bA E (a 4) 260 tf) := by rw [hw961]; exact set_ne k954 (by decide)
                        have k964 : w960[0]? = some (ob (a 0) 11 [.ref (a 1), .ref (a 2), .ref (a 3), .ref (a 4), .int (nI tp), .int (nI ((pl33 + 1) + 1)), .int (nI le), .int v39, .int nu34, .int v40, .int (nI cm), .int (nI wt), .int (nI sm), .int (nI (cd.2.2.2.2.2)), .ref (a 5), .ref (a 6), .ref (a 7), .ref (a 8), .ref (a 9), .ref (a 10), .ref (a 11), .ref (a 12), .ref (a 13), .ref (a 14), .ref (a 15), .ref (a 16), .ref (a 17), .int (nI lm), .ref (a 18), .ref (a 19), .ref (a 20), .ref (a 21), .int v41, .int v42, .int v43, .int v44, .int (nI n45), .int (nI n46), .ref (a 22), .ref (a 23), .ref (a 24), .ref (a 25), .ref (a 26), .ref (a 27), .ref (a 28), .ref (a 29), .ref (a 30), .int kf]) := by rw [hw961]; exact set_eq k955
                        have k965 : w960[19]? = some (iA E (a 19) 24 (upd f904 (nI lm).toNatClampNeg r57)) := by rw [hw961]; exact set_ne k956 (by decide)
                        have k966 : w960[20]? = some (iA E (a 20) 24 (fun j => nI ((updn (updn g913 lm 0) lm ((48 + d934) - 48)) j))) := by rw [hw961]; exact set_ne k959 (by decide)
                        have kp967 := keeps_set kp958 hw961 (by first | exact rfl | decide | omega | (dsimp only; omega))
                        refine x_aload_n C dX12_readsLine_200 rfl 2 rfl rfl ?_
                        refine x_get C (ci := 11) (k := 28) 0 k964 rfl in_X12 (by decide) w_1146 rfl dX12_readsLine_201 rfl ?_
                        refine x_aload_n C dX12_readsLine_204 rfl 2 rfl rfl ?_
                        refine x_get C (ci := 11) (k := 27) 0 k964 rfl in_X12 (by decide) w_1145 rfl dX12_readsLine_205 rfl ?_
                        refine x_iconst C (v := 1) dX12_readsLine_208 (by decide) rfl ?_
                        refine x_iadd C (v := (nI (lm + 1))) dX12_readsLine_209 (nI_add lm 1) rfl ?_
                        refine x_aload_n C dX12_readsLine_210 rfl 2 rfl rfl ?_
                        refine x_get C (ci := 11) (k := 28) 0 k964 rfl in_X12 (by decide) w_1146 rfl dX12_readsLine_211 rfl ?_
                        refine x_aload_n C dX12_readsLine_214 rfl 2 rfl rfl ?_
                        refine x_get C (ci := 11) (k := 27) 0 k964 rfl in_X12 (by decide) w_1145 rfl dX12_readsLine_215 rfl ?_
                        obtain ⟨_, k968, g969, gb970, rfl⟩ := hW962 18 _ rfl
                        refine x_ialk C (v := nI (g969 lm)) lm (nI_clamp (by omega)) (nI_pos (by omega)) (by omega) 18 k968 rfl dX12_readsLine_218 rfl ?_
                        have bx971 := gb970 lm
                        refine x_iload_n C dX12_readsLine_219 rfl 1 rfl rfl ?_
                        refine x_iadd C (v := (nI ((g969 lm) + mm51))) dX12_readsLine_220 (nI_add (g969 lm) mm51) rfl ?_
                        have gb972 := updn_leF (i := (lm + 1)) (v := ((g969 lm) + mm51)) gb970 (by omega)
                        obtain ⟨w973, hw974⟩ : ∃ w : va_W, w = List.set w960 18 (iA E (a 18) 25 (upd (fun j => nI (g969 j)) (lm + 1) (nI ((g969 lm) + mm51)))) := ⟨_, rfl⟩
                        refine x_iask C (lm + 1) (nI_clamp (by omega)) (nI_pos (by omega)) (by omega) 18 k968 hw974.symm dX12_readsLine_221 rfl ?_
                        have hW975 : WX (okM E a cd kf jn js jq) w973 := by rw [hw974]; exact hW962.set (k := 18) rfl ⟨_, gb972, iA_n (upd_nI g969 (lm + 1) ((g969 lm) + mm51))⟩
                        have k976 : w973[4]? = some (bA E (a 4) 260 tf) := by rw [hw974]; exact set_ne k963 (by decide)
                        have k977 : w973[0]? = some (ob (a 0) 11 [.ref (a 1), .ref (a 2), .ref (a 3), .ref (a 4), .int (nI tp), .int (nI ((pl33 + 1) + 1)), .int (nI le), .int v39, .int nu34, .int v40, .int (nI cm), .int (nI wt), .int (nI sm), .int (nI (cd.2.2.2.2.2)), .ref (a 5), .ref (a 6), .ref (a 7), .ref (a 8), .ref (a 9), .ref (a 10), .ref (a 11), .ref (a 12), .ref (a 13), .ref (a 14), .ref (a 15), .ref (a 16), .ref (a 17), .int (nI lm), .ref (a 18), .ref (a 19), .ref (a 20), .ref (a 21), .int v41, .int v42, .int v43, .int v44, .int (nI n45), .int (nI n46), .ref (a 22), .ref (a 23), .ref (a 24), .ref (a 25), .ref (a 26), .ref (a 27), .ref (a 28), .ref (a 29), .ref (a 30), .int kf]) := by rw [hw974]; exact set_ne k964 (by decide)
                        have k978 : w973[19]? = some (iA E (a 19) 24 (upd f904 (nI lm).toNatClampNeg r57)) := by rw [hw974]; exact set_ne k965 (by decide)
                        have k979 : w973[20]? = some (iA E (a 20) 24 (fun j => nI ((updn (updn g913 lm 0) lm ((48 + d934) - 48)) j))) := by rw [hw974]; exact set_ne k966 (by decide)
                        have k980 : w973[18]? = some (iA E (a 18) 25 (upd (fun j => nI (g969 j)) (lm + 1) (nI ((g969 lm) + mm51)))) := by rw [hw974]; exact set_eq k968
                        have kp981 := keeps_set kp967 hw974 (by first | exact rfl | decide | omega | (dsimp only; omega))
                        have k982 : w973[18]? = some (iA E (a 18) 25 (fun j => nI ((updn g969 (lm + 1) ((g969 lm) + mm51)) j))) := by rw [← upd_nI]; exact k980
                        refine x_aload_n C dX12_readsLine_222 rfl 2 rfl rfl ?_
                        refine x_aload_n C dX12_readsLine_223 rfl 2 rfl rfl ?_
                        refine x_get C (ci := 11) (k := 27) 0 k977 rfl in_X12 (by decide) w_1145 rfl dX12_readsLine_224 rfl ?_
                        refine x_iconst C (v := 1) dX12_readsLine_227 (by decide) rfl ?_
                        refine x_iadd C (v := (nI (lm + 1))) dX12_readsLine_228 (nI_add lm 1) rfl ?_
                        obtain ⟨w983, hw984⟩ : ∃ w : va_W, w = List.set w973 0 (ob (a 0) 11 [.ref (a 1), .ref (a 2), .ref (a 3), .ref (a 4), .int (nI tp), .int (nI ((pl33 + 1) + 1)), .int (nI le), .int v39, .int nu34, .int v40, .int (nI cm), .int (nI wt), .int (nI sm), .int (nI (cd.2.2.2.2.2)), .ref (a 5), .ref (a 6), .ref (a 7), .ref (a 8), .ref (a 9), .ref (a 10), .ref (a 11), .ref (a 12), .ref (a 13), .ref (a 14), .ref (a 15), .ref (a 16), .ref (a 17), .int (nI (lm + 1)), .ref (a 18), .ref (a 19), .ref (a 20), .ref (a 21), .int v41, .int v42, .int v43, .int v44, .int (nI n45), .int (nI n46), .ref (a 22), .ref (a 23), .ref (a 24), .ref (a 25), .ref (a 26), .ref (a 27), .ref (a 28), .ref (a 29), .ref (a 30), .int kf]) := ⟨_, rfl⟩
                        refine x_put C (ci := 11) (k := 27) (ty := .int) 0 k977 rfl in_X12 tyX12 tyX12_ok nmX12 (by decide) w_1145 rfl rfl rfl rfl (Nat.le_of_ble_eq_true rfl) hw984.symm dX12_readsLine_229 rfl ?_
                        have hW985 : WX (okM E a cd kf jn js jq) w983 := by rw [hw984]; exact hW975.set (k := 0) rfl ⟨tp, ((pl33 + 1) + 1), le, v39, nu34, v40, cm, wt, sm, (lm + 1), v41, v42, v43, v44, n45, n46, by omega, by omega, by omega, by omega, by omega, by omega, by omega, by omega, by omega, rfl⟩
                        have k986 : w983[4]? = some (bA E (a 4) 260 tf) := by rw [hw984]; exact set_ne k976 (by decide)
                        have k987 : w983[0]? = some (ob (a 0) 11 [.ref (a 1), .ref (a 2), .ref (a 3), .ref (a 4), .int (nI tp), .int (nI ((pl33 + 1) + 1)), .int (nI le), .int v39, .int nu34, .int v40, .int (nI cm), .int (nI wt), .int (nI sm), .int (nI (cd.2.2.2.2.2)), .ref (a 5), .ref (a 6), .ref (a 7), .ref (a 8), .ref (a 9), .ref (a 10), .ref (a 11), .ref (a 12), .ref (a 13), .ref (a 14), .ref (a 15), .ref (a 16), .ref (a 17), .int (nI (lm + 1)), .ref (a 18), .ref (a 19), .ref (a 20), .ref (a 21), .int v41, .int v42, .int v43, .int v44, .int (nI n45), .int (nI n46), .ref (a 22), .ref (a 23), .ref (a 24), .ref (a 25), .ref (a 26), .ref (a 27), .ref (a 28), .ref (a 29), .ref (a 30), .int kf]) := by rw [hw984]; exact set_eq k977
                        have k988 : w983[19]? = some (iA E (a 19) 24 (upd f904 (nI lm).toNatClampNeg r57)) := by rw [hw984]; exact set_ne k978 (by decide)
                        have k989 : w983[20]? = some (iA E (a 20) 24 (fun j => nI ((updn (updn g913 lm 0) lm ((48 + d934) - 48)) j))) := by rw [hw984]; exact set_ne k979 (by decide)
                        have k990 : w983[18]? = some (iA E (a 18) 25 (fun j => nI ((updn g969 (lm + 1) ((g969 lm) + mm51)) j))) := by rw [hw984]; exact set_ne k982 (by decide)
                        have kp991 := keeps_set kp981 hw984 (by first | exact rfl | decide | omega | (dsimp only; omega))
                        refine x_iconst C (v := 1) dX12_readsLine_232 (by decide) rfl ?_
                        exact x_zret C hr hlk rfl dX12_readsLine_233 ⟨hW985, kp991, (Or.inr rfl), ⟨((pl33 + 1) + 1), (lm + 1), nu34, by omega, by omega, by omega, ⟨v39, v40, v41, v42, v43, v44, n45, n46, ⟨by omega, by omega, by omega, by omega, by omega, by omega, by omega⟩, ⟨by omega, by omega⟩, k987⟩⟩⟩
                      · skip
                        have nf992 := nI_nle' (a := (48 + d934)) (b := 55) c943 (by omega) (by omega)
                        refine x_aload_n C dX12_readsLine_164 rfl 2 rfl rfl ?_
                        refine x_iconst C (v := 3) dX12_readsLine_165 (by decide) rfl ?_
                        refine x_aload_n C dX12_readsLine_166 rfl 2 rfl rfl ?_
                        refine x_get C (ci := 11) (k := 5) 0 k920 rfl in_X12 (by decide) w_1123 rfl dX12_readsLine_167 rfl ?_
                        refine x_vi C (As := [.int 3, .int (nI (pl33 + 1))]) (rest := []) (m_wrongAt E l a cd hG kf jn js jq w916 hW918 (3 : Int32) ((nI (pl33 + 1))) tp (pl33 + 1) le cm wt sm lm nu34 ⟨v39, v40, v41, v42, v43, v44, n45, n46, ⟨by omega, by omega, by omega, by omega, by omega, by omega, by omega⟩, ⟨by omega, by omega⟩, k920⟩) mf_X12_wrongAt w_1324 0 k920 rfl rfl rfl (Nat.le_of_ble_eq_true rfl) ⟨(Nat.le_of_ble_eq_true rfl), (Nat.le_of_ble_eq_true rfl)⟩ ⟨(Nat.le_of_ble_eq_true rfl), (Nat.le_of_ble_eq_true rfl)⟩ dX12_readsLine_170 rfl (fun r994 w995 h993 => ?_)
                        obtain ⟨hW996, kq997, e998, x999⟩ := h993
                        refine x_top e998 ?_
                        have k1000 : w995[4]? = some (bA E (a 4) 260 tf) := keeps_at kq997 k919 (by first | decide | omega | (dsimp only; omega))
                        have k1001 : w995[19]? = some (iA E (a 19) 24 (upd f904 (nI lm).toNatClampNeg r57)) := keeps_at kq997 k921 (by first | decide | omega | (dsimp only; omega))
                        have k1002 : w995[20]? = some (iA E (a 20) 24 (fun j => nI ((updn g913 lm 0) j))) := keeps_at kq997 k924 (by first | decide | omega | (dsimp only; omega))
                        have kp1003 := keeps_tr kp923 kq997 (fun q hq => by first | omega | (dsimp only at *; omega))
                        obtain ⟨v1004, v1005, v1006, v1007, v1008, v1009, n1010, n1011, bo1012, bo1013, k1014⟩ := x999
                        exact x_zret C hr hlk rfl dX12_readsLine_173 ⟨hW996, kp1003, (Or.inl rfl), ⟨((pl33 + 1)), lm, nu34, by omega, by omega, by omega, ⟨v1004, v1005, v1006, v1007, v1008, v1009, n1010, n1011, ⟨by omega, by omega, by omega, by omega, by omega, by omega, by omega⟩, ⟨by omega, by omega⟩, k1014⟩⟩⟩
                    · skip
                      refine x_aload_n C dX12_readsLine_145 rfl 2 rfl rfl ?_
                      refine x_iconst C (v := 1) dX12_readsLine_146 (by decide) rfl ?_
                      refine x_aload_n C dX12_readsLine_147 rfl 2 rfl rfl ?_
                      refine x_get C (ci := 11) (k := 5) 0 k920 rfl in_X12 (by decide) w_1123 rfl dX12_readsLine_148 rfl ?_
                      refine x_vi C (As := [.int 1, .int (nI (pl33 + 1))]) (rest := []) (m_wrongAt E l a cd hG kf jn js jq w916 hW918 (1 : Int32) ((nI (pl33 + 1))) tp (pl33 + 1) le cm wt sm lm nu34 ⟨v39, v40, v41, v42, v43, v44, n45, n46, ⟨by omega, by omega, by omega, by omega, by omega, by omega, by omega⟩, ⟨by omega, by omega⟩, k920⟩) mf_X12_wrongAt w_1324 0 k920 rfl rfl rfl (Nat.le_of_ble_eq_true rfl) ⟨(Nat.le_of_ble_eq_true rfl), (Nat.le_of_ble_eq_true rfl)⟩ ⟨(Nat.le_of_ble_eq_true rfl), (Nat.le_of_ble_eq_true rfl)⟩ dX12_readsLine_151 rfl (fun r1016 w1017 h1015 => ?_)
                      obtain ⟨hW1018, kq1019, e1020, x1021⟩ := h1015
                      refine x_top e1020 ?_
                      have k1022 : w1017[4]? = some (bA E (a 4) 260 tf) := keeps_at kq1019 k919 (by first | decide | omega | (dsimp only; omega))
                      have k1023 : w1017[19]? = some (iA E (a 19) 24 (upd f904 (nI lm).toNatClampNeg r57)) := keeps_at kq1019 k921 (by first | decide | omega | (dsimp only; omega))
                      have k1024 : w1017[20]? = some (iA E (a 20) 24 (fun j => nI ((updn g913 lm 0) j))) := keeps_at kq1019 k924 (by first | decide | omega | (dsimp only; omega))
                      have kp1025 := keeps_tr kp923 kq1019 (fun q hq => by first | omega | (dsimp only at *; omega))
                      obtain ⟨v1026, v1027, v1028, v1029, v1030, v1031, n1032, n1033, bo1034, bo1035, k1036⟩ := x1021
                      exact x_zret C hr hlk rfl dX12_readsLine_154 ⟨hW1018, kp1025, (Or.inl rfl), ⟨((pl33 + 1)), lm, nu34, by omega, by omega, by omega, ⟨v1026, v1027, v1028, v1029, v1030, v1031, n1032, n1033, ⟨by omega, by omega, by omega, by omega, by omega, by omega, by omega⟩, ⟨by omega, by omega⟩, k1036⟩⟩⟩
                  · skip
                    refine x_iload_n C dX12_readsLine_132 rfl 0 rfl rfl ?_
                    refine x_bipush C (v := 33) dX12_readsLine_133 (by decide) rfl ?_
                    refine x_icmp_ne C (tgt := 200) dX12_readsLine_135 (by decide) rfl (fun c1037 => ?_) (fun c1037 => ?_)
                    · skip
                      refine x_aload_n C dX12_readsLine_200 rfl 2 rfl rfl ?_
                      refine x_get C (ci := 11) (k := 28) 0 k920 rfl in_X12 (by decide) w_1146 rfl dX12_readsLine_201 rfl ?_
                      refine x_aload_n C dX12_readsLine_204 rfl 2 rfl rfl ?_
                      refine x_get C (ci := 11) (k := 27) 0 k920 rfl in_X12 (by decide) w_1145 rfl dX12_readsLine_205 rfl ?_
                      refine x_iconst C (v := 1) dX12_readsLine_208 (by decide) rfl ?_
                      refine x_iadd C (v := (nI (lm + 1))) dX12_readsLine_209 (nI_add lm 1) rfl ?_
                      refine x_aload_n C dX12_readsLine_210 rfl 2 rfl rfl ?_
                      refine x_get C (ci := 11) (k := 28) 0 k920 rfl in_X12 (by decide) w_1146 rfl dX12_readsLine_211 rfl ?_
                      refine x_aload_n C dX12_readsLine_214 rfl 2 rfl rfl ?_
                      refine x_get C (ci := 11) (k := 27) 0 k920 rfl in_X12 (by decide) w_1145 rfl dX12_readsLine_215 rfl ?_
                      obtain ⟨_, k1038, g1039, gb1040, rfl⟩ := hW918 18 _ rfl
                      refine x_ialk C (v := nI (g1039 lm)) lm (nI_clamp (by omega)) (nI_pos (by omega)) (by omega) 18 k1038 rfl dX12_readsLine_218 rfl ?_
                      have bx1041 := gb1040 lm
                      refine x_iload_n C dX12_readsLine_219 rfl 1 rfl rfl ?_
                      refine x_iadd C (v := (nI ((g1039 lm) + mm51))) dX12_readsLine_220 (nI_add (g1039 lm) mm51) rfl ?_
                      have gb1042 := updn_leF (i := (lm + 1)) (v := ((g1039 lm) + mm51)) gb1040 (by omega)
                      obtain ⟨w1043, hw1044⟩ : ∃ w : va_W, w = List.set w916 18 (iA E (a 18) 25 (upd (fun j => nI (g1039 j)) (lm + 1) (nI ((g1039 lm) + mm51)))) := ⟨_, rfl⟩
                      refine x_iask C (lm + 1) (nI_clamp (by omega)) (nI_pos (by omega)) (by omega) 18 k1038 hw1044.symm dX12_readsLine_221 rfl ?_
                      have hW1045 : WX (okM E a cd kf jn js jq) w1043 := by rw [hw1044]; exact hW918.set (k := 18) rfl ⟨_, gb1042, iA_n (upd_nI g1039 (lm + 1) ((g1039 lm) + mm51))⟩
                      have k1046 : w1043[4]? = some (bA E (a 4) 260 tf) := by rw [hw1044]; exact set_ne k919 (by decide)
                      have k1047 : w1043[0]? = some (ob (a 0) 11 [.ref (a 1), .ref (a 2), .ref (a 3), .ref (a 4), .int (nI tp), .int (nI (pl33 + 1)), .int (nI le), .int v39, .int nu34, .int v40, .int (nI cm), .int (nI wt), .int (nI sm), .int (nI (cd.2.2.2.2.2)), .ref (a 5), .ref (a 6), .ref (a 7), .ref (a 8), .ref (a 9), .ref (a 10), .ref (a 11), .ref (a 12), .ref (a 13), .ref (a 14), .ref (a 15), .ref (a 16), .ref (a 17), .int (nI lm), .ref (a 18), .ref (a 19), .ref (a 20), .ref (a 21), .int v41, .int v42, .int v43, .int v44, .int (nI n45), .int (nI n46), .ref (a 22), .ref (a 23), .ref (a 24), .ref (a 25), .ref (a 26), .ref (a 27), .ref (a 28), .ref (a 29), .ref (a 30), .int kf]) := by rw [hw1044]; exact set_ne k920 (by decide)
                      have k1048 : w1043[19]? = some (iA E (a 19) 24 (upd f904 (nI lm).toNatClampNeg r57)) := by rw [hw1044]; exact set_ne k921 (by decide)
                      have k1049 : w1043[20]? = some (iA E (a 20) 24 (fun j => nI ((updn g913 lm 0) j))) := by rw [hw1044]; exact set_ne k924 (by decide)
                      have k1050 : w1043[18]? = some (iA E (a 18) 25 (upd (fun j => nI (g1039 j)) (lm + 1) (nI ((g1039 lm) + mm51)))) := by rw [hw1044]; exact set_eq k1038
                      have kp1051 := keeps_set kp923 hw1044 (by first | exact rfl | decide | omega | (dsimp only; omega))
                      have k1052 : w1043[18]? = some (iA E (a 18) 25 (fun j => nI ((updn g1039 (lm + 1) ((g1039 lm) + mm51)) j))) := by rw [← upd_nI]; exact k1050
                      refine x_aload_n C dX12_readsLine_222 rfl 2 rfl rfl ?_
                      refine x_aload_n C dX12_readsLine_223 rfl 2 rfl rfl ?_
                      refine x_get C (ci := 11) (k := 27) 0 k1047 rfl in_X12 (by decide) w_1145 rfl dX12_readsLine_224 rfl ?_
                      refine x_iconst C (v := 1) dX12_readsLine_227 (by decide) rfl ?_
                      refine x_iadd C (v := (nI (lm + 1))) dX12_readsLine_228 (nI_add lm 1) rfl ?_
                      obtain ⟨w1053, hw1054⟩ : ∃ w : va_W, w = List.set w1043 0 (ob (a 0) 11 [.ref (a 1), .ref (a 2), .ref (a 3), .ref (a 4), .int (nI tp), .int (nI (pl33 + 1)), .int (nI le), .int v39, .int nu34, .int v40, .int (nI cm), .int (nI wt), .int (nI sm), .int (nI (cd.2.2.2.2.2)), .ref (a 5), .ref (a 6), .ref (a 7), .ref (a 8), .ref (a 9), .ref (a 10), .ref (a 11), .ref (a 12), .ref (a 13), .ref (a 14), .ref (a 15), .ref (a 16), .ref (a 17), .int (nI (lm + 1)), .ref (a 18), .ref (a 19), .ref (a 20), .ref (a 21), .int v41, .int v42, .int v43, .int v44, .int (nI n45), .int (nI n46), .ref (a 22), .ref (a 23), .ref (a 24), .ref (a 25), .ref (a 26), .ref (a 27), .ref (a 28), .ref (a 29), .ref (a 30), .int kf]) := ⟨_, rfl⟩
                      refine x_put C (ci := 11) (k := 27) (ty := .int) 0 k1047 rfl in_X12 tyX12 tyX12_ok nmX12 (by decide) w_1145 rfl rfl rfl rfl (Nat.le_of_ble_eq_true rfl) hw1054.symm dX12_readsLine_229 rfl ?_
                      have hW1055 : WX (okM E a cd kf jn js jq) w1053 := by rw [hw1054]; exact hW1045.set (k := 0) rfl ⟨tp, (pl33 + 1), le, v39, nu34, v40, cm, wt, sm, (lm + 1), v41, v42, v43, v44, n45, n46, by omega, by omega, by omega, by omega, by omega, by omega, by omega, by omega, by omega, rfl⟩
                      have k1056 : w1053[4]? = some (bA E (a 4) 260 tf) := by rw [hw1054]; exact set_ne k1046 (by decide)
                      have k1057 : w1053[0]? = some (ob (a 0) 11 [.ref (a 1), .ref (a 2), .ref (a 3), .ref (a 4), .int (nI tp), .int (nI (pl33 + 1)), .int (nI le), .int v39, .int nu34, .int v40, .int (nI cm), .int (nI wt), .int (nI sm), .int (nI (cd.2.2.2.2.2)), .ref (a 5), .ref (a 6), .ref (a 7), .ref (a 8), .ref (a 9), .ref (a 10), .ref (a 11), .ref (a 12), .ref (a 13), .ref (a 14), .ref (a 15), .ref (a 16), .ref (a 17), .int (nI (lm + 1)), .ref (a 18), .ref (a 19), .ref (a 20), .ref (a 21), .int v41, .int v42, .int v43, .int v44, .int (nI n45), .int (nI n46), .ref (a 22), .ref (a 23), .ref (a 24), .ref (a 25), .ref (a 26), .ref (a 27), .ref (a 28), .ref (a 29), .ref (a 30), .int kf]) := by rw [hw1054]; exact set_eq k1047
                      have k1058 : w1053[19]? = some (iA E (a 19) 24 (upd f904 (nI lm).toNatClampNeg r57)) := by rw [hw1054]; exact set_ne k1048 (by decide)
                      have k1059 : w1053[20]? = some (iA E (a 20) 24 (fun j => nI ((updn g913 lm 0) j))) := by rw [hw1054]; exact set_ne k1049 (by decide)
                      have k1060 : w1053[18]? = some (iA E (a 18) 25 (fun j => nI ((updn g1039 (lm + 1) ((g1039 lm) + mm51)) j))) := by rw [hw1054]; exact set_ne k1052 (by decide)
                      have kp1061 := keeps_set kp1051 hw1054 (by first | exact rfl | decide | omega | (dsimp only; omega))
                      refine x_iconst C (v := 1) dX12_readsLine_232 (by decide) rfl ?_
                      exact x_zret C hr hlk rfl dX12_readsLine_233 ⟨hW1055, kp1061, (Or.inr rfl), ⟨(pl33 + 1), (lm + 1), nu34, by omega, by omega, by omega, ⟨v39, v40, v41, v42, v43, v44, n45, n46, ⟨by omega, by omega, by omega, by omega, by omega, by omega, by omega⟩, ⟨by omega, by omega⟩, k1057⟩⟩⟩
                    · skip
                      have hp1062 := hv_lt (x60.symm.trans c1037) (by decide)
                      refine x_aload_n C dX12_readsLine_138 rfl 2 rfl rfl ?_
                      refine x_vi C (As := []) (rest := []) (m_isDigit E l a cd hG kf jn js jq w916 hW918 tp (pl33 + 1) le cm wt sm lm nu34 ⟨v39, v40, v41, v42, v43, v44, n45, n46, ⟨by omega, by omega, by omega, by omega, by omega, by omega, by omega⟩, ⟨by omega, by omega⟩, k920⟩ tf k919) mf_X12_isDigit w_1341 0 k920 rfl rfl rfl (Nat.le_of_ble_eq_true rfl) ⟨(Nat.le_of_ble_eq_true rfl), (Nat.le_of_ble_eq_true rfl)⟩ ⟨(Nat.le_of_ble_eq_true rfl), (Nat.le_of_ble_eq_true rfl)⟩ dX12_readsLine_139 rfl (fun r1064 w1065 h1063 => ?_)
                      obtain ⟨hW1066, zb1067, x1068⟩ := h1063
                      refine x_ws hW1066 ?_
                      refine x_if_ne C (tgt := 155) dX12_readsLine_142 (by decide) rfl (fun c1069 => ?_) (fun c1069 => ?_)
                      · skip
                        obtain ⟨d1070, hd1071, ed1072, hp1073⟩ := x1068 c1069
                        refine x_aload_n C dX12_readsLine_155 rfl 2 rfl rfl ?_
                        refine x_vi C (As := []) (rest := []) (m_here E l a cd hG kf jn js jq w916 hW918 tp (pl33 + 1) le cm wt sm lm nu34 ⟨v39, v40, v41, v42, v43, v44, n45, n46, ⟨by omega, by omega, by omega, by omega, by omega, by omega, by omega⟩, ⟨by omega, by omega⟩, k920⟩ tf k919) mf_X12_here w_1317 0 k920 rfl rfl rfl (Nat.le_of_ble_eq_true rfl) ⟨(Nat.le_of_ble_eq_true rfl), (Nat.le_of_ble_eq_true rfl)⟩ ⟨(Nat.le_of_ble_eq_true rfl), (Nat.le_of_ble_eq_true rfl)⟩ dX12_readsLine_156 rfl (fun r1075 w1076 h1074 => ?_)
                        obtain ⟨hW1077, x1078⟩ := h1074
                        refine x_ws hW1077 ?_
                        refine x_top (x1078.trans ed1072) ?_
                        refine x_bipush C (v := 55) dX12_readsLine_159 (by decide) rfl ?_
                        refine x_icmp_le C (tgt := 174) dX12_readsLine_161 (by decide) rfl (fun c1079 => ?_) (fun c1079 => ?_)
                        · skip
                          have nf1080 := nI_le' (a := (48 + d1070)) (b := 55) c1079 (by omega) (by omega)
                          refine x_aload_n C dX12_readsLine_174 rfl 2 rfl rfl ?_
                          refine x_get C (ci := 11) (k := 30) 0 k920 rfl in_X12 (by decide) w_1148 rfl dX12_readsLine_175 rfl ?_
                          refine x_aload_n C dX12_readsLine_178 rfl 2 rfl rfl ?_
                          refine x_get C (ci := 11) (k := 27) 0 k920 rfl in_X12 (by decide) w_1145 rfl dX12_readsLine_179 rfl ?_
                          refine x_aload_n C dX12_readsLine_182 rfl 2 rfl rfl ?_
                          refine x_vi C (As := []) (rest := [.int (nI lm), .ref (a 20)]) (m_here E l a cd hG kf jn js jq w916 hW918 tp (pl33 + 1) le cm wt sm lm nu34 ⟨v39, v40, v41, v42, v43, v44, n45, n46, ⟨by omega, by omega, by omega, by omega, by omega, by omega, by omega⟩, ⟨by omega, by omega⟩, k920⟩ tf k919) mf_X12_here w_1317 0 k920 rfl rfl rfl (Nat.le_of_ble_eq_true rfl) ⟨(Nat.le_of_ble_eq_true rfl), (Nat.le_of_ble_eq_true rfl)⟩ ⟨(Nat.le_of_ble_eq_true rfl), (Nat.le_of_ble_eq_true rfl)⟩ dX12_readsLine_183 rfl (fun r1082 w1083 h1081 => ?_)
                          obtain ⟨hW1084, x1085⟩ := h1081
                          refine x_ws hW1084 ?_
                          refine x_top (x1085.trans ed1072) ?_
                          refine x_bipush C (v := 48) dX12_readsLine_186 (by decide) rfl ?_
                          refine x_isub C (v := (nI ((48 + d1070) - 48))) dX12_readsLine_188 (pk_sub (a := (48 + d1070)) (b := 48) (by omega)) rfl ?_
                          have gb1086 := updn_le (i := lm) (v := ((48 + d1070) - 48)) gb915 (by omega)
                          obtain ⟨w1087, hw1088⟩ : ∃ w : va_W, w = List.set w916 20 (iA E (a 20) 24 (upd (fun j => nI ((updn g913 lm 0) j)) lm (nI ((48 + d1070) - 48)))) := ⟨_, rfl⟩
                          refine x_iask C lm (nI_clamp (by omega)) (nI_pos (by omega)) (by omega) 20 k924 hw1088.symm dX12_readsLine_189 rfl ?_
                          have hW1089 : WX (okM E a cd kf jn js jq) w1087 := by rw [hw1088]; exact hW918.set (k := 20) rfl ⟨_, gb1086, iA_n (upd_nI (updn g913 lm 0) lm ((48 + d1070) - 48))⟩
                          have k1090 : w1087[4]? = some (bA E (a 4) 260 tf) := by rw [hw1088]; exact set_ne k919 (by decide)
                          have k1091 : w1087[0]? = some (ob (a 0) 11 [.ref (a 1), .ref (a 2), .ref (a 3), .ref (a 4), .int (nI tp), .int (nI (pl33 + 1)), .int (nI le), .int v39, .int nu34, .int v40, .int (nI cm), .int (nI wt), .int (nI sm), .int (nI (cd.2.2.2.2.2)), .ref (a 5), .ref (a 6), .ref (a 7), .ref (a 8), .ref (a 9), .ref (a 10), .ref (a 11), .ref (a 12), .ref (a 13), .ref (a 14), .ref (a 15), .ref (a 16), .ref (a 17), .int (nI lm), .ref (a 18), .ref (a 19), .ref (a 20), .ref (a 21), .int v41, .int v42, .int v43, .int v44, .int (nI n45), .int (nI n46), .ref (a 22), .ref (a 23), .ref (a 24), .ref (a 25), .ref (a 26), .ref (a 27), .ref (a 28), .ref (a 29), .ref (a 30), .int kf]) := by rw [hw1088]; exact set_ne k920 (by decide)
                          have k1092 : w1087[19]? = some (iA E (a 19) 24 (upd f904 (nI lm).toNatClampNeg r57)) := by rw [hw1088]; exact set_ne k921 (by decide)
                          have k1093 : w1087[20]? = some (iA E (a 20) 24 (upd (fun j => nI ((updn g913 lm 0) j)) lm (nI ((48 + d1070) - 48)))) := by rw [hw1088]; exact set_eq k924
                          have kp1094 := keeps_set kp923 hw1088 (by first | exact rfl | decide | omega | (dsimp only; omega))
                          have k1095 : w1087[20]? = some (iA E (a 20) 24 (fun j => nI ((updn (updn g913 lm 0) lm ((48 + d1070) - 48)) j))) := by rw [← upd_nI]; exact k1093
                          refine x_aload_n C dX12_readsLine_190 rfl 2 rfl rfl ?_
                          refine x_aload_n C dX12_readsLine_191 rfl 2 rfl rfl ?_
                          refine x_get C (ci := 11) (k := 5) 0 k1091 rfl in_X12 (by decide) w_1123 rfl dX12_readsLine_192 rfl ?_
                          refine x_iconst C (v := 1) dX12_readsLine_195 (by decide) rfl ?_
                          refine x_iadd C (v := (nI ((pl33 + 1) + 1))) dX12_readsLine_196 (nI_add (pl33 + 1) 1) rfl ?_
                          obtain ⟨w1096, hw1097⟩ : ∃ w : va_W, w = List.set w1087 0 (ob (a 0) 11 [.ref (a 1), .ref (a 2), .ref (a 3), .ref (a 4), .int (nI tp), .int (nI ((pl33 + 1) + 1)), .int (nI le), .int v39, .int nu34, .int v40, .int (nI cm), .int (nI wt), .int (nI sm), .int (nI (cd.2.2.2.2.2)), .ref (a 5), .ref (a 6), .ref (a 7), .ref (a 8), .ref (a 9), .ref (a 10), .ref (a 11), .ref (a 12), .ref (a 13), .ref (a 14), .ref (a 15), .ref (a 16), .ref (a 17), .int (nI lm), .ref (a 18), .ref (a 19), .ref (a 20), .ref (a 21), .int v41, .int v42, .int v43, .int v44, .int (nI n45), .int (nI n46), .ref (a 22), .ref (a 23), .ref (a 24), .ref (a 25), .ref (a 26), .ref (a 27), .ref (a 28), .ref (a 29), .ref (a 30), .int kf]) := ⟨_, rfl⟩
                          refine x_put C (ci := 11) (k := 5) (ty := .int) 0 k1091 rfl in_X12 tyX12 tyX12_ok nmX12 (by decide) w_1123 rfl rfl rfl rfl (Nat.le_of_ble_eq_true rfl) hw1097.symm dX12_readsLine_197 rfl ?_
                          have hW1098 : WX (okM E a cd kf jn js jq) w1096 := by rw [hw1097]; exact hW1089.set (k := 0) rfl ⟨tp, ((pl33 + 1) + 1), le, v39, nu34, v40, cm, wt, sm, lm, v41, v42, v43, v44, n45, n46, by omega, by omega, by omega, by omega, by omega, by omega, by omega, by omega, by omega, rfl⟩
                          have k1099 : w1096[4]? = some (bA E (a 4) 260 tf) := by rw [hw1097]; exact set_ne k1090 (by decide)
                          have k1100 : w1096[0]? = some (ob (a 0) 11 [.ref (a 1), .ref (a 2), .ref (a 3), .ref (a 4), .int (nI tp), .int (nI ((pl33 + 1) + 1)), .int (nI le), .int v39, .int nu34, .int v40, .int (nI cm), .int (nI wt), .int (nI sm), .int (nI (cd.2.2.2.2.2)), .ref (a 5), .ref (a 6), .ref (a 7), .ref (a 8), .ref (a 9), .ref (a 10), .ref (a 11), .ref (a 12), .ref (a 13), .ref (a 14), .ref (a 15), .ref (a 16), .ref (a 17), .int (nI lm), .ref (a 18), .ref (a 19), .ref (a 20), .ref (a 21), .int v41, .int v42, .int v43, .int v44, .int (nI n45), .int (nI n46), .ref (a 22), .ref (a 23), .ref (a 24), .ref (a 25), .ref (a 26), .ref (a 27), .ref (a 28), .ref (a 29), .ref (a 30), .int kf]) := by rw [hw1097]; exact set_eq k1091
                          have k1101 : w1096[19]? = some (iA E (a 19) 24 (upd f904 (nI lm).toNatClampNeg r57)) := by rw [hw1097]; exact set_ne k1092 (by decide)
                          have k1102 : w1096[20]? = some (iA E (a 20) 24 (fun j => nI ((updn (updn g913 lm 0) lm ((48 + d1070) - 48)) j))) := by rw [hw1097]; exact set_ne k1095 (by decide)
                          have kp1103 := keeps_set kp1094 hw1097 (by first | exact rfl | decide | omega | (dsimp only; omega))
                          refine x_aload_n C dX12_readsLine_200 rfl 2 rfl rfl ?_
                          refine x_get C (ci := 11) (k := 28) 0 k1100 rfl in_X12 (by decide) w_1146 rfl dX12_readsLine_201 rfl ?_
                          refine x_aload_n C dX12_readsLine_204 rfl 2 rfl rfl ?_
                          refine x_get C (ci := 11) (k := 27) 0 k1100 rfl in_X12 (by decide) w_1145 rfl dX12_readsLine_205 rfl ?_
                          refine x_iconst C (v := 1) dX12_readsLine_208 (by decide) rfl ?_
                          refine x_iadd C (v := (nI (lm + 1))) dX12_readsLine_209 (nI_add lm 1) rfl ?_
                          refine x_aload_n C dX12_readsLine_210 rfl 2 rfl rfl ?_
                          refine x_get C (ci := 11) (k := 28) 0 k1100 rfl in_X12 (by decide) w_1146 rfl dX12_readsLine_211 rfl ?_
                          refine x_aload_n C dX12_readsLine_214 rfl 2 rfl rfl ?_
                          refine x_get C (ci := 11) (k := 27) 0 k1100 rfl in_X12 (by decide) w_1145 rfl dX12_readsLine_215 rfl ?_
                          obtain ⟨_, k1104, g1105, gb1106, rfl⟩ := hW1098 18 _ rfl
                          refine x_ialk C (v := nI (g1105 lm)) lm (nI_clamp (by omega)) (nI_pos (by omega)) (by omega) 18 k1104 rfl dX12_readsLine_218 rfl ?_
                          have bx1107 := gb1106 lm
                          refine x_iload_n C dX12_readsLine_219 rfl 1 rfl rfl ?_
                          refine x_iadd C (v := (nI ((g1105 lm) + mm51))) dX12_readsLine_220 (nI_add (g1105 lm) mm51) rfl ?_
                          have gb1108 := updn_leF (i := (lm + 1)) (v := ((g1105 lm) + mm51)) gb1106 (by omega)
                          obtain ⟨w1109, hw1110⟩ : ∃ w : va_W, w = List.set w1096 18 (iA E (a 18) 25 (upd (fun j => nI (g1105 j)) (lm + 1) (nI ((g1105 lm) + mm51)))) := ⟨_, rfl⟩
                          refine x_iask C (lm + 1) (nI_clamp (by omega)) (nI_pos (by omega)) (by omega) 18 k1104 hw1110.symm dX12_readsLine_221 rfl ?_
                          have hW1111 : WX (okM E a cd kf jn js jq) w1109 := by rw [hw1110]; exact hW1098.set (k := 18) rfl ⟨_, gb1108, iA_n (upd_nI g1105 (lm + 1) ((g1105 lm) + mm51))⟩
                          have k1112 : w1109[4]? = some (bA E (a 4) 260 tf) := by rw [hw1110]; exact set_ne k1099 (by decide)
                          have k1113 : w1109[0]? = some (ob (a 0) 11 [.ref (a 1), .ref (a 2), .ref (a 3), .ref (a 4), .int (nI tp), .int (nI ((pl33 + 1) + 1)), .int (nI le), .int v39, .int nu34, .int v40, .int (nI cm), .int (nI wt), .int (nI sm), .int (nI (cd.2.2.2.2.2)), .ref (a 5), .ref (a 6), .ref (a 7), .ref (a 8), .ref (a 9), .ref (a 10), .ref (a 11), .ref (a 12), .ref (a 13), .ref (a 14), .ref (a 15), .ref (a 16), .ref (a 17), .int (nI lm), .ref (a 18), .ref (a 19), .ref (a 20), .ref (a 21), .int v41, .int v42, .int v43, .int v44, .int (nI n45), .int (nI n46), .ref (a 22), .ref (a 23), .ref (a 24), .ref (a 25), .ref (a 26), .ref (a 27), .ref (a 28), .ref (a 29), .ref (a 30), .int kf]) := by rw [hw1110]; exact set_ne k1100 (by decide)
                          have k1114 : w1109[19]? = some (iA E (a 19) 24 (upd f904 (nI lm).toNatClampNeg r57)) := by rw [hw1110]; exact set_ne k1101 (by decide)
                          have k1115 : w1109[20]? = some (iA E (a 20) 24 (fun j => nI ((updn (updn g913 lm 0) lm ((48 + d1070) - 48)) j))) := by rw [hw1110]; exact set_ne k1102 (by decide)
                          have k1116 : w1109[18]? = some (iA E (a 18) 25 (upd (fun j => nI (g1105 j)) (lm + 1) (nI ((g1105 lm) + mm51)))) := by rw [hw1110]; exact set_eq k1104
                          have kp1117 := keeps_set kp1103 hw1110 (by first | exact rfl | decide | omega | (dsimp only; omega))
                          have k1118 : w1109[18]? = some (iA E (a 18) 25 (fun j => nI ((updn g1105 (lm + 1) ((g1105 lm) + mm51)) j))) := by rw [← upd_nI]; exact k1116
                          refine x_aload_n C dX12_readsLine_222 rfl 2 rfl rfl ?_
                          refine x_aload_n C dX12_readsLine_223 rfl 2 rfl rfl ?_
                          refine x_get C (ci := 11) (k := 27) 0 k1113 rfl in_X12 (by decide) w_1145 rfl dX12_readsLine_224 rfl ?_
                          refine x_iconst C (v := 1) dX12_readsLine_227 (by decide) rfl ?_
                          refine x_iadd C (v := (nI (lm + 1))) dX12_readsLine_228 (nI_add lm 1) rfl ?_
                          obtain ⟨w1119, hw1120⟩ : ∃ w : va_W, w = List.set w1109 0 (ob (a 0) 11 [.ref (a 1), .ref (a 2), .ref (a 3), .ref (a 4), .int (nI tp), .int (nI ((pl33 + 1) + 1)), .int (nI le), .int v39, .int nu34, .int v40, .int (nI cm), .int (nI wt), .int (nI sm), .int (nI (cd.2.2.2.2.2)), .ref (a 5), .ref (a 6), .ref (a 7), .ref (a 8), .ref (a 9), .ref (a 10), .ref (a 11), .ref (a 12), .ref (a 13), .ref (a 14), .ref (a 15), .ref (a 16), .ref (a 17), .int (nI (lm + 1)), .ref (a 18), .ref (a 19), .ref (a 20), .ref (a 21), .int v41, .int v42, .int v43, .int v44, .int (nI n45), .int (nI n46), .ref (a 22), .ref (a 23), .ref (a 24), .ref (a 25), .ref (a 26), .ref (a 27), .ref (a 28), .ref (a 29), .ref (a 30), .int kf]) := ⟨_, rfl⟩
                          refine x_put C (ci := 11) (k := 27) (ty := .int) 0 k1113 rfl in_X12 tyX12 tyX12_ok nmX12 (by decide) w_1145 rfl rfl rfl rfl (Nat.le_of_ble_eq_true rfl) hw1120.symm dX12_readsLine_229 rfl ?_
                          have hW1121 : WX (okM E a cd kf jn js jq) w1119 := by rw [hw1120]; exact hW1111.set (k := 0) rfl ⟨tp, ((pl33 + 1) + 1), le, v39, nu34, v40, cm, wt, sm, (lm + 1), v41, v42, v43, v44, n45, n46, by omega, by omega, by omega, by omega, by omega, by omega, by omega, by omega, by omega, rfl⟩
                          have k1122 : w1119[4]? = some (bA E (a 4) 260 tf) := by rw [hw1120]; exact set_ne k1112 (by decide)
                          have k1123 : w1119[0]? = some (ob (a 0) 11 [.ref (a 1), .ref (a 2), .ref (a 3), .ref (a 4), .int (nI tp), .int (nI ((pl33 + 1) + 1)), .int (nI le), .int v39, .int nu34, .int v40, .int (nI cm), .int (nI wt), .int (nI sm), .int (nI (cd.2.2.2.2.2)), .ref (a 5), .ref (a 6), .ref (a 7), .ref (a 8), .ref (a 9), .ref (a 10), .ref (a 11), .ref (a 12), .ref (a 13), .ref (a 14), .ref (a 15), .ref (a 16), .ref (a 17), .int (nI (lm + 1)), .ref (a 18), .ref (a 19), .ref (a 20), .ref (a 21), .int v41, .int v42, .int v43, .int v44, .int (nI n45), .int (nI n46), .ref (a 22), .ref (a 23), .ref (a 24), .ref (a 25), .ref (a 26), .ref (a 27), .ref (a 28), .ref (a 29), .ref (a 30), .int kf]) := by rw [hw1120]; exact set_eq k1113
                          have k1124 : w1119[19]? = some (iA E (a 19) 24 (upd f904 (nI lm).toNatClampNeg r57)) := by rw [hw1120]; exact set_ne k1114 (by decide)
                          have k1125 : w1119[20]? = some (iA E (a 20) 24 (fun j => nI ((updn (updn g913 lm 0) lm ((48 + d1070) - 48)) j))) := by rw [hw1120]; exact set_ne k1115 (by decide)
                          have k1126 : w1119[18]? = some (iA E (a 18) 25 (fun j => nI ((updn g1105 (lm + 1) ((g1105 lm) + mm51)) j))) := by rw [hw1120]; exact set_ne k1118 (by decide)
                          have kp1127 := keeps_set kp1117 hw1120 (by first | exact rfl | decide | omega | (dsimp only; omega))
                          refine x_iconst C (v := 1) dX12_readsLine_232 (by decide) rfl ?_
                          exact x_zret C hr hlk rfl dX12_readsLine_233 ⟨hW1121, kp1127, (Or.inr rfl), ⟨((pl33 + 1) + 1), (lm + 1), nu34, by omega, by omega, by omega, ⟨v39, v40, v41, v42, v43, v44, n45, n46, ⟨by omega, by omega, by omega, by omega, by omega, by omega, by omega⟩, ⟨by omega, by omega⟩, k1123⟩⟩⟩
                        · skip
                          have nf1128 := nI_nle' (a := (48 + d1070)) (b := 55) c1079 (by omega) (by omega)
                          refine x_aload_n C dX12_readsLine_164 rfl 2 rfl rfl ?_
                          refine x_iconst C (v := 3) dX12_readsLine_165 (by decide) rfl ?_
                          refine x_aload_n C dX12_readsLine_166 rfl 2 rfl rfl ?_
                          refine x_get C (ci := 11) (k := 5) 0 k920 rfl in_X12 (by decide) w_1123 rfl dX12_readsLine_167 rfl ?_
                          refine x_vi C (As := [.int 3, .int (nI (pl33 + 1))]) (rest := []) (m_wrongAt E l a cd hG kf jn js jq w916 hW918 (3 : Int32) ((nI (pl33 + 1))) tp (pl33 + 1) le cm wt sm lm nu34 ⟨v39, v40, v41, v42, v43, v44, n45, n46, ⟨by omega, by omega, by omega, by omega, by omega, by omega, by omega⟩, ⟨by omega, by omega⟩, k920⟩) mf_X12_wrongAt w_1324 0 k920 rfl rfl rfl (Nat.le_of_ble_eq_true rfl) ⟨(Nat.le_of_ble_eq_true rfl), (Nat.le_of_ble_eq_true rfl)⟩ ⟨(Nat.le_of_ble_eq_true rfl), (Nat.le_of_ble_eq_true rfl)⟩ dX12_readsLine_170 rfl (fun r1130 w1131 h1129 => ?_)
                          obtain ⟨hW1132, kq1133, e1134, x1135⟩ := h1129
                          refine x_top e1134 ?_
                          have k1136 : w1131[4]? = some (bA E (a 4) 260 tf) := keeps_at kq1133 k919 (by first | decide | omega | (dsimp only; omega))
                          have k1137 : w1131[19]? = some (iA E (a 19) 24 (upd f904 (nI lm).toNatClampNeg r57)) := keeps_at kq1133 k921 (by first | decide | omega | (dsimp only; omega))
                          have k1138 : w1131[20]? = some (iA E (a 20) 24 (fun j => nI ((updn g913 lm 0) j))) := keeps_at kq1133 k924 (by first | decide | omega | (dsimp only; omega))
                          have kp1139 := keeps_tr kp923 kq1133 (fun q hq => by first | omega | (dsimp only at *; omega))
                          obtain ⟨v1140, v1141, v1142, v1143, v1144, v1145, n1146, n1147, bo1148, bo1149, k1150⟩ := x1135
                          exact x_zret C hr hlk rfl dX12_readsLine_173 ⟨hW1132, kp1139, (Or.inl rfl), ⟨((pl33 + 1)), lm, nu34, by omega, by omega, by omega, ⟨v1140, v1141, v1142, v1143, v1144, v1145, n1146, n1147, ⟨by omega, by omega, by omega, by omega, by omega, by omega, by omega⟩, ⟨by omega, by omega⟩, k1150⟩⟩⟩
                      · skip
                        refine x_aload_n C dX12_readsLine_145 rfl 2 rfl rfl ?_
                        refine x_iconst C (v := 1) dX12_readsLine_146 (by decide) rfl ?_
                        refine x_aload_n C dX12_readsLine_147 rfl 2 rfl rfl ?_
                        refine x_get C (ci := 11) (k := 5) 0 k920 rfl in_X12 (by decide) w_1123 rfl dX12_readsLine_148 rfl ?_
                        refine x_vi C (As := [.int 1, .int (nI (pl33 + 1))]) (rest := []) (m_wrongAt E l a cd hG kf jn js jq w916 hW918 (1 : Int32) ((nI (pl33 + 1))) tp (pl33 + 1) le cm wt sm lm nu34 ⟨v39, v40, v41, v42, v43, v44, n45, n46, ⟨by omega, by omega, by omega, by omega, by omega, by omega, by omega⟩, ⟨by omega, by omega⟩, k920⟩) mf_X12_wrongAt w_1324 0 k920 rfl rfl rfl (Nat.le_of_ble_eq_true rfl) ⟨(Nat.le_of_ble_eq_true rfl), (Nat.le_of_ble_eq_true rfl)⟩ ⟨(Nat.le_of_ble_eq_true rfl), (Nat.le_of_ble_eq_true rfl)⟩ dX12_readsLine_151 rfl (fun r1152 w1153 h1151 => ?_)
                        obtain ⟨hW1154, kq1155, e1156, x1157⟩ := h1151
                        refine x_top e1156 ?_
                        have k1158 : w1153[4]? = some (bA E (a 4) 260 tf) := keeps_at kq1155 k919 (by first | decide | omega | (dsimp only; omega))
                        have k1159 : w1153[19]? = some (iA E (a 19) 24 (upd f904 (nI lm).toNatClampNeg r57)) := keeps_at kq1155 k921 (by first | decide | omega | (dsimp only; omega))
                        have k1160 : w1153[20]? = some (iA E (a 20) 24 (fun j => nI ((updn g913 lm 0) j))) := keeps_at kq1155 k924 (by first | decide | omega | (dsimp only; omega))
                        have kp1161 := keeps_tr kp923 kq1155 (fun q hq => by first | omega | (dsimp only at *; omega))
                        obtain ⟨v1162, v1163, v1164, v1165, v1166, v1167, n1168, n1169, bo1170, bo1171, k1172⟩ := x1157
                        exact x_zret C hr hlk rfl dX12_readsLine_154 ⟨hW1154, kp1161, (Or.inl rfl), ⟨((pl33 + 1)), lm, nu34, by omega, by omega, by omega, ⟨v1162, v1163, v1164, v1165, v1166, v1167, n1168, n1169, ⟨by omega, by omega, by omega, by omega, by omega, by omega, by omega⟩, ⟨by omega, by omega⟩, k1172⟩⟩⟩
                · skip
                  refine x_aload_n C dX12_readsLine_86 rfl 2 rfl rfl ?_
                  refine x_iconst C (v := 1) dX12_readsLine_87 (by decide) rfl ?_
                  refine x_aload_n C dX12_readsLine_88 rfl 2 rfl rfl ?_
                  refine x_get C (ci := 11) (k := 5) 0 k49 rfl in_X12 (by decide) w_1123 rfl dX12_readsLine_89 rfl ?_
                  refine x_vi C (As := [.int 1, .int (nI pl33)]) (rest := []) (m_wrongAt E l a cd hG kf jn js jq w27 hW28 (1 : Int32) ((nI pl33)) tp pl33 le cm wt sm lm nu34 ⟨v39, v40, v41, v42, v43, v44, n45, n46, ⟨by omega, by omega, by omega, by omega, by omega, by omega, by omega⟩, ⟨by omega, by omega⟩, k49⟩) mf_X12_wrongAt w_1324 0 k49 rfl rfl rfl (Nat.le_of_ble_eq_true rfl) ⟨(Nat.le_of_ble_eq_true rfl), (Nat.le_of_ble_eq_true rfl)⟩ ⟨(Nat.le_of_ble_eq_true rfl), (Nat.le_of_ble_eq_true rfl)⟩ dX12_readsLine_92 rfl (fun r1174 w1175 h1173 => ?_)
                  obtain ⟨hW1176, kq1177, e1178, x1179⟩ := h1173
                  refine x_top e1178 ?_
                  have k1180 : w1175[4]? = some (bA E (a 4) 260 tf) := keeps_at kq1177 k31 (by first | decide | omega | (dsimp only; omega))
                  have kp1181 := keeps_tr kp32 kq1177 (fun q hq => by first | omega | (dsimp only at *; omega))
                  obtain ⟨v1182, v1183, v1184, v1185, v1186, v1187, n1188, n1189, bo1190, bo1191, k1192⟩ := x1179
                  exact x_zret C hr hlk rfl dX12_readsLine_95 ⟨hW1176, kp1181, (Or.inl rfl), ⟨pl33, lm, nu34, by omega, by omega, by omega, ⟨v1182, v1183, v1184, v1185, v1186, v1187, n1188, n1189, ⟨by omega, by omega, by omega, by omega, by omega, by omega, by omega⟩, ⟨by omega, by omega⟩, k1192⟩⟩⟩
        · skip
          refine x_iconst C (v := 0) dX12_readsLine_55 (by decide) rfl ?_
          exact x_zret C hr hlk rfl dX12_readsLine_56 ⟨hW28, kp32, (Or.inl rfl), ⟨pl33, lm, nu34, by omega, by omega, by omega, ⟨v39, v40, v41, v42, v43, v44, n45, n46, ⟨by omega, by omega, by omega, by omega, by omega, by omega, by omega⟩, ⟨by omega, by omega⟩, k49⟩⟩⟩
    · skip
      have nf1193 : lm = 24 := (nI_eq (by omega) (by omega)).mp c23
      refine x_aload_n C dX12_readsLine_35 rfl 0 rfl rfl ?_
      refine x_iconst C (v := 4) dX12_readsLine_36 (by decide) rfl ?_
      refine x_aload_n C dX12_readsLine_37 rfl 0 rfl rfl ?_
      refine x_get C (ci := 11) (k := 5) 0 k11 rfl in_X12 (by decide) w_1123 rfl dX12_readsLine_38 rfl ?_
      refine x_vi C (As := [.int 4, .int (nI pl)]) (rest := []) (m_wrongAt E l a cd hG kf jn js jq ws hW (4 : Int32) ((nI pl)) tp pl le cm wt sm lm nu ⟨v1, v2, v3, v4, v5, v6, n7, n8, ⟨by omega, by omega, by omega, by omega, by omega, by omega, by omega⟩, ⟨by omega, by omega⟩, k11⟩) mf_X12_wrongAt w_1324 0 k11 rfl rfl rfl (Nat.le_of_ble_eq_true rfl) ⟨(Nat.le_of_ble_eq_true rfl), (Nat.le_of_ble_eq_true rfl)⟩ ⟨(Nat.le_of_ble_eq_true rfl), (Nat.le_of_ble_eq_true rfl)⟩ dX12_readsLine_41 rfl (fun r1195 w1196 h1194 => ?_)
      obtain ⟨hW1197, kq1198, e1199, x1200⟩ := h1194
      refine x_top e1199 ?_
      have k1201 : w1196[4]? = some (bA E (a 4) 260 tf) := keeps_at kq1198 htf (by first | decide | omega | (dsimp only; omega))
      have kp1202 := keeps_tr kp0 kq1198 (fun q hq => by first | omega | (dsimp only at *; omega))
      obtain ⟨v1203, v1204, v1205, v1206, v1207, v1208, n1209, n1210, bo1211, bo1212, k1213⟩ := x1200
      exact x_zret C hr hlk rfl dX12_readsLine_44 ⟨hW1197, kp1202, (Or.inl rfl), ⟨pl, lm, nu, by omega, by omega, by omega, ⟨v1203, v1204, v1205, v1206, v1207, v1208, n1209, n1210, ⟨by omega, by omega, by omega, by omega, by omega, by omega, by omega⟩, ⟨by omega, by omega⟩, k1213⟩⟩⟩
  · skip
    refine x_aload_n C dX12_readsLine_7 rfl 0 rfl rfl ?_
    refine x_vi C (As := []) (rest := []) (m_here E l a cd hG kf jn js jq ws hW tp pl le cm wt sm lm nu ⟨v1, v2, v3, v4, v5, v6, n7, n8, ⟨by omega, by omega, by omega, by omega, by omega, by omega, by omega⟩, ⟨by omega, by omega⟩, k11⟩ tf htf) mf_X12_here w_1317 0 k11 rfl rfl rfl (Nat.le_of_ble_eq_true rfl) ⟨(Nat.le_of_ble_eq_true rfl), (Nat.le_of_ble_eq_true rfl)⟩ ⟨(Nat.le_of_ble_eq_true rfl), (Nat.le_of_ble_eq_true rfl)⟩ dX12_readsLine_8 rfl (fun r1215 w1216 h1214 => ?_)
    obtain ⟨hW1217, x1218⟩ := h1214
    refine x_ws hW1217 ?_
    refine x_bipush C (v := 40) dX12_readsLine_11 (by decide) rfl ?_
    refine x_icmp_eq C (tgt := 26) dX12_readsLine_13 (by decide) rfl (fun c1219 => ?_) (fun c1219 => ?_)
    · skip
      have hp1220 := hv_lt (x1218.symm.trans c1219) (by decide)
      refine x_aload_n C dX12_readsLine_26 rfl 0 rfl rfl ?_
      refine x_get C (ci := 11) (k := 27) 0 k11 rfl in_X12 (by decide) w_1145 rfl dX12_readsLine_27 rfl ?_
      refine x_bipush C (v := 24) dX12_readsLine_30 (by decide) rfl ?_
      refine x_icmp_ne C (tgt := 45) dX12_readsLine_32 (by decide) rfl (fun c1221 => ?_) (fun c1221 => ?_)
      · skip
        have nf1222 : ¬ lm = 24 := fun q => c1221 (congrArg nI q)
        refine x_aload_n C dX12_readsLine_45 rfl 0 rfl rfl ?_
        refine x_vi C (As := []) (rest := []) (m_readsEggs E l a cd hG kf jn js jq ws hW tp pl le cm wt sm lm nu ⟨v1, v2, v3, v4, v5, v6, n7, n8, ⟨by omega, by omega, by omega, by omega, by omega, by omega, by omega⟩, ⟨by omega, by omega⟩, k11⟩ tf htf (by omega) (by omega)) mf_X12_readsEggs w_1407 0 k11 rfl rfl rfl (Nat.le_of_ble_eq_true rfl) ⟨(Nat.le_of_ble_eq_true rfl), (Nat.le_of_ble_eq_true rfl)⟩ ⟨(Nat.le_of_ble_eq_true rfl), (Nat.le_of_ble_eq_true rfl)⟩ dX12_readsLine_46 rfl (fun r1224 w1225 h1223 => ?_)
        obtain ⟨hW1226, kq1227, x1228⟩ := h1223
        have k1229 : w1225[4]? = some (bA E (a 4) 260 tf) := keeps_at kq1227 htf (by first | decide | omega | (dsimp only; omega))
        have kp1230 := keeps_tr kp0 kq1227 (fun q hq => by first | omega | (dsimp only at *; omega))
        obtain ⟨pl1231, nu1232, hp1233, hp1234, mo1235, hx1236⟩ := x1228
        obtain ⟨v1237, v1238, v1239, v1240, v1241, v1242, n1243, n1244, bo1245, bo1246, k1247⟩ := mo1235
        rcases hx1236 with e1248 | ⟨mm1249, h1250, h1251, en1252⟩
        · refine x_top e1248 ?_
          refine x_istore_n C (lv' := [(1, .int (-1)), (0, .ref (a 0))]) dX12_readsLine_49 rfl (by decide) rfl rfl ?_
          refine x_iload_n C dX12_readsLine_50 rfl 0 rfl rfl ?_
          refine x_iconst C (v := (-1)) dX12_readsLine_51 (by decide) rfl ?_
          refine x_icmp_ne C (tgt := 57) dX12_readsLine_52 (by decide) rfl (fun h => absurd h (by decide)) (fun _ => ?_)
          refine x_iconst C (v := 0) dX12_readsLine_55 (by decide) rfl ?_
          exact x_zret C hr hlk rfl dX12_readsLine_56 ⟨hW1226, kp1230, (Or.inl rfl), ⟨pl1231, lm, nu1232, by omega, by omega, by omega, ⟨v1237, v1238, v1239, v1240, v1241, v1242, n1243, n1244, ⟨by omega, by omega, by omega, by omega, by omega, by omega, by omega⟩, ⟨by omega, by omega⟩, k1247⟩⟩⟩
        · refine x_top en1252 ?_
          refine x_istore_n C (lv' := [(1, .int (nI mm1249)), (0, .ref (a 0))]) dX12_readsLine_49 rfl (by decide) rfl rfl ?_
          refine x_iload_n C dX12_readsLine_50 rfl 0 rfl rfl ?_
          refine x_iconst C (v := (-1)) dX12_readsLine_51 (by decide) rfl ?_
          refine x_icmp_ne C (tgt := 57) dX12_readsLine_52 (by decide) rfl (fun c1253 => ?_) (fun c1253 => ?_)
          · skip
            refine x_aload_n C dX12_readsLine_57 rfl 1 rfl rfl ?_
            refine x_vi C (As := []) (rest := []) (m_here E l a cd hG kf jn js jq w1225 hW1226 tp pl1231 le cm wt sm lm nu1232 ⟨v1237, v1238, v1239, v1240, v1241, v1242, n1243, n1244, ⟨by omega, by omega, by omega, by omega, by omega, by omega, by omega⟩, ⟨by omega, by omega⟩, k1247⟩ tf k1229) mf_X12_here w_1317 0 k1247 rfl rfl rfl (Nat.le_of_ble_eq_true rfl) ⟨(Nat.le_of_ble_eq_true rfl), (Nat.le_of_ble_eq_true rfl)⟩ ⟨(Nat.le_of_ble_eq_true rfl), (Nat.le_of_ble_eq_true rfl)⟩ dX12_readsLine_58 rfl (fun r1255 w1256 h1254 => ?_)
            obtain ⟨hW1257, x1258⟩ := h1254
            refine x_ws hW1257 ?_
            refine x_istore_n C (lv' := [(2, .int r1255), (1, .int (nI mm1249)), (0, .ref (a 0))]) dX12_readsLine_61 rfl (by decide) rfl rfl ?_
            refine x_iload_n C dX12_readsLine_62 rfl 0 rfl rfl ?_
            refine x_bipush C (v := 62) dX12_readsLine_63 (by decide) rfl ?_
            refine x_icmp_eq C (tgt := 96) dX12_readsLine_65 (by decide) rfl (fun c1259 => ?_) (fun c1259 => ?_)
            · skip
              have hp1260 := hv_lt (x1258.symm.trans c1259) (by decide)
              refine x_aload_n C dX12_readsLine_96 rfl 2 rfl rfl ?_
              refine x_aload_n C dX12_readsLine_97 rfl 2 rfl rfl ?_
              refine x_get C (ci := 11) (k := 5) 0 k1247 rfl in_X12 (by decide) w_1123 rfl dX12_readsLine_98 rfl ?_
              refine x_iconst C (v := 1) dX12_readsLine_101 (by decide) rfl ?_
              refine x_iadd C (v := (nI (pl1231 + 1))) dX12_readsLine_102 (nI_add pl1231 1) rfl ?_
              obtain ⟨w1261, hw1262⟩ : ∃ w : va_W, w = List.set w1225 0 (ob (a 0) 11 [.ref (a 1), .ref (a 2), .ref (a 3), .ref (a 4), .int (nI tp), .int (nI (pl1231 + 1)), .int (nI le), .int v1237, .int nu1232, .int v1238, .int (nI cm), .int (nI wt), .int (nI sm), .int (nI (cd.2.2.2.2.2)), .ref (a 5), .ref (a 6), .ref (a 7), .ref (a 8), .ref (a 9), .ref (a 10), .ref (a 11), .ref (a 12), .ref (a 13), .ref (a 14), .ref (a 15), .ref (a 16), .ref (a 17), .int (nI lm), .ref (a 18), .ref (a 19), .ref (a 20), .ref (a 21), .int v1239, .int v1240, .int v1241, .int v1242, .int (nI n1243), .int (nI n1244), .ref (a 22), .ref (a 23), .ref (a 24), .ref (a 25), .ref (a 26), .ref (a 27), .ref (a 28), .ref (a 29), .ref (a 30), .int kf]) := ⟨_, rfl⟩
              refine x_put C (ci := 11) (k := 5) (ty := .int) 0 k1247 rfl in_X12 tyX12 tyX12_ok nmX12 (by decide) w_1123 rfl rfl rfl rfl (Nat.le_of_ble_eq_true rfl) hw1262.symm dX12_readsLine_103 rfl ?_
              have hW1263 : WX (okM E a cd kf jn js jq) w1261 := by rw [hw1262]; exact hW1226.set (k := 0) rfl ⟨tp, (pl1231 + 1), le, v1237, nu1232, v1238, cm, wt, sm, lm, v1239, v1240, v1241, v1242, n1243, n1244, by omega, by omega, by omega, by omega, by omega, by omega, by omega, by omega, by omega, rfl⟩
              have k1264 : w1261[4]? = some (bA E (a 4) 260 tf) := by rw [hw1262]; exact set_ne k1229 (by decide)
              have k1265 : w1261[0]? = some (ob (a 0) 11 [.ref (a 1), .ref (a 2), .ref (a 3), .ref (a 4), .int (nI tp), .int (nI (pl1231 + 1)), .int (nI le), .int v1237, .int nu1232, .int v1238, .int (nI cm), .int (nI wt), .int (nI sm), .int (nI (cd.2.2.2.2.2)), .ref (a 5), .ref (a 6), .ref (a 7), .ref (a 8), .ref (a 9), .ref (a 10), .ref (a 11), .ref (a 12), .ref (a 13), .ref (a 14), .ref (a 15), .ref (a 16), .ref (a 17), .int (nI lm), .ref (a 18), .ref (a 19), .ref (a 20), .ref (a 21), .int v1239, .int v1240, .int v1241, .int v1242, .int (nI n1243), .int (nI n1244), .ref (a 22), .ref (a 23), .ref (a 24), .ref (a 25), .ref (a 26), .ref (a 27), .ref (a 28), .ref (a 29), .ref (a 30), .int kf]) := by rw [hw1262]; exact set_eq k1247
              have kp1266 := keeps_set kp1230 hw1262 (by first | exact rfl | decide | omega | (dsimp only; omega))
              refine x_aload_n C dX12_readsLine_106 rfl 2 rfl rfl ?_
              refine x_get C (ci := 11) (k := 29) 0 k1265 rfl in_X12 (by decide) w_1147 rfl dX12_readsLine_107 rfl ?_
              refine x_aload_n C dX12_readsLine_110 rfl 2 rfl rfl ?_
              refine x_get C (ci := 11) (k := 27) 0 k1265 rfl in_X12 (by decide) w_1145 rfl dX12_readsLine_111 rfl ?_
              refine x_iload_n C dX12_readsLine_114 rfl 0 rfl rfl ?_
              obtain ⟨_, k1267, f1268, rfl⟩ := hW1263 19 _ rfl
              obtain ⟨w1269, hw1270⟩ : ∃ w : va_W, w = List.set w1261 19 (iA E (a 19) 24 (upd f1268 (nI lm).toNatClampNeg r1255)) := ⟨_, rfl⟩
              refine x_iast C 19 k1267 (vp_in_nI (by omega) (by decide)) hw1270.symm dX12_readsLine_115 rfl ?_
              have hW1271 : WX (okM E a cd kf jn js jq) w1269 := by rw [hw1270]; exact hW1263.set (k := 19) rfl ⟨_, rfl⟩
              have k1272 : w1269[4]? = some (bA E (a 4) 260 tf) := by rw [hw1270]; exact set_ne k1264 (by decide)
              have k1273 : w1269[0]? = some (ob (a 0) 11 [.ref (a 1), .ref (a 2), .ref (a 3), .ref (a 4), .int (nI tp), .int (nI (pl1231 + 1)), .int (nI le), .int v1237, .int nu1232, .int v1238, .int (nI cm), .int (nI wt), .int (nI sm), .int (nI (cd.2.2.2.2.2)), .ref (a 5), .ref (a 6), .ref (a 7), .ref (a 8), .ref (a 9), .ref (a 10), .ref (a 11), .ref (a 12), .ref (a 13), .ref (a 14), .ref (a 15), .ref (a 16), .ref (a 17), .int (nI lm), .ref (a 18), .ref (a 19), .ref (a 20), .ref (a 21), .int v1239, .int v1240, .int v1241, .int v1242, .int (nI n1243), .int (nI n1244), .ref (a 22), .ref (a 23), .ref (a 24), .ref (a 25), .ref (a 26), .ref (a 27), .ref (a 28), .ref (a 29), .ref (a 30), .int kf]) := by rw [hw1270]; exact set_ne k1265 (by decide)
              have k1274 : w1269[19]? = some (iA E (a 19) 24 (upd f1268 (nI lm).toNatClampNeg r1255)) := by rw [hw1270]; exact set_eq k1267
              have kp1275 := keeps_set kp1266 hw1270 (by first | exact rfl | decide | omega | (dsimp only; omega))
              refine x_aload_n C dX12_readsLine_116 rfl 2 rfl rfl ?_
              refine x_get C (ci := 11) (k := 30) 0 k1273 rfl in_X12 (by decide) w_1148 rfl dX12_readsLine_117 rfl ?_
              refine x_aload_n C dX12_readsLine_120 rfl 2 rfl rfl ?_
              refine x_get C (ci := 11) (k := 27) 0 k1273 rfl in_X12 (by decide) w_1145 rfl dX12_readsLine_121 rfl ?_
              refine x_iconst C (v := 0) dX12_readsLine_124 (by decide) rfl ?_
              obtain ⟨_, k1276, g1277, gb1278, rfl⟩ := hW1271 20 _ rfl
              have gb1279 := updn_le (i := lm) (v := 0) gb1278 (by omega)
              obtain ⟨w1280, hw1281⟩ : ∃ w : va_W, w = List.set w1269 20 (iA E (a 20) 24 (upd (fun j => nI (g1277 j)) lm (nI 0))) := ⟨_, rfl⟩
              refine x_iask C lm (nI_clamp (by omega)) (nI_pos (by omega)) (by omega) 20 k1276 hw1281.symm dX12_readsLine_125 rfl ?_
              have hW1282 : WX (okM E a cd kf jn js jq) w1280 := by rw [hw1281]; exact hW1271.set (k := 20) rfl ⟨_, gb1279, iA_n (upd_nI g1277 lm 0)⟩
              have k1283 : w1280[4]? = some (bA E (a 4) 260 tf) := by rw [hw1281]; exact set_ne k1272 (by decide)
              have k1284 : w1280[0]? = some (ob (a 0) 11 [.ref (a 1), .ref (a 2), .ref (a 3), .ref (a 4), .int (nI tp), .int (nI (pl1231 + 1)), .int (nI le), .int v1237, .int nu1232, .int v1238, .int (nI cm), .int (nI wt), .int (nI sm), .int (nI (cd.2.2.2.2.2)), .ref (a 5), .ref (a 6), .ref (a 7), .ref (a 8), .ref (a 9), .ref (a 10), .ref (a 11), .ref (a 12), .ref (a 13), .ref (a 14), .ref (a 15), .ref (a 16), .ref (a 17), .int (nI lm), .ref (a 18), .ref (a 19), .ref (a 20), .ref (a 21), .int v1239, .int v1240, .int v1241, .int v1242, .int (nI n1243), .int (nI n1244), .ref (a 22), .ref (a 23), .ref (a 24), .ref (a 25), .ref (a 26), .ref (a 27), .ref (a 28), .ref (a 29), .ref (a 30), .int kf]) := by rw [hw1281]; exact set_ne k1273 (by decide)
              have k1285 : w1280[19]? = some (iA E (a 19) 24 (upd f1268 (nI lm).toNatClampNeg r1255)) := by rw [hw1281]; exact set_ne k1274 (by decide)
              have k1286 : w1280[20]? = some (iA E (a 20) 24 (upd (fun j => nI (g1277 j)) lm (nI 0))) := by rw [hw1281]; exact set_eq k1276
              have kp1287 := keeps_set kp1275 hw1281 (by first | exact rfl | decide | omega | (dsimp only; omega))
              have k1288 : w1280[20]? = some (iA E (a 20) 24 (fun j => nI ((updn g1277 lm 0) j))) := by rw [← upd_nI]; exact k1286
              refine x_iload_n C dX12_readsLine_126 rfl 0 rfl rfl ?_
              refine x_bipush C (v := 62) dX12_readsLine_127 (by decide) rfl ?_
              refine x_icmp_eq C (tgt := 138) dX12_readsLine_129 (by decide) rfl (fun c1289 => ?_) (fun c1289 => ?_)
              · skip
                have hp1290 := hv_lt (x1258.symm.trans c1289) (by decide)
                refine x_aload_n C dX12_readsLine_138 rfl 2 rfl rfl ?_
                refine x_vi C (As := []) (rest := []) (m_isDigit E l a cd hG kf jn js jq w1280 hW1282 tp (pl1231 + 1) le cm wt sm lm nu1232 ⟨v1237, v1238, v1239, v1240, v1241, v1242, n1243, n1244, ⟨by omega, by omega, by omega, by omega, by omega, by omega, by omega⟩, ⟨by omega, by omega⟩, k1284⟩ tf k1283) mf_X12_isDigit w_1341 0 k1284 rfl rfl rfl (Nat.le_of_ble_eq_true rfl) ⟨(Nat.le_of_ble_eq_true rfl), (Nat.le_of_ble_eq_true rfl)⟩ ⟨(Nat.le_of_ble_eq_true rfl), (Nat.le_of_ble_eq_true rfl)⟩ dX12_readsLine_139 rfl (fun r1292 w1293 h1291 => ?_)
                obtain ⟨hW1294, zb1295, x1296⟩ := h1291
                refine x_ws hW1294 ?_
                refine x_if_ne C (tgt := 155) dX12_readsLine_142 (by decide) rfl (fun c1297 => ?_) (fun c1297 => ?_)
                · skip
                  obtain ⟨d1298, hd1299, ed1300, hp1301⟩ := x1296 c1297
                  refine x_aload_n C dX12_readsLine_155 rfl 2 rfl rfl ?_
                  refine x_vi C (As := []) (rest := []) (m_here E l a cd hG kf jn js jq w1280 hW1282 tp (pl1231 + 1) le cm wt sm lm nu1232 ⟨v1237, v1238, v1239, v1240, v1241, v1242, n1243, n1244, ⟨by omega, by omega, by omega, by omega, by omega, by omega, by omega⟩, ⟨by omega, by omega⟩, k1284⟩ tf k1283) mf_X12_here w_1317 0 k1284 rfl rfl rfl (Nat.le_of_ble_eq_true rfl) ⟨(Nat.le_of_ble_eq_true rfl), (Nat.le_of_ble_eq_true rfl)⟩ ⟨(Nat.le_of_ble_eq_true rfl), (Nat.le_of_ble_eq_true rfl)⟩ dX12_readsLine_156 rfl (fun r1303 w1304 h1302 => ?_)
                  obtain ⟨hW1305, x1306⟩ := h1302
                  refine x_ws hW1305 ?_
                  refine x_top (x1306.trans ed1300) ?_
                  refine x_bipush C (v := 55) dX12_readsLine_159 (by decide) rfl ?_
                  refine x_icmp_le C (tgt := 174) dX12_readsLine_161 (by decide) rfl (fun c1307 => ?_) (fun c1307 => ?_)
                  · skip
                    have nf1308 := nI_le' (a := (48 + d1298)) (b := 55) c1307 (by omega) (by omega)
                    refine x_aload_n C dX12_readsLine_174 rfl 2 rfl rfl ?_
                    refine x_get C (ci := 11) (k := 30) 0 k1284 rfl in_X12 (by decide) w_1148 rfl dX12_readsLine_175 rfl ?_
                    refine x_aload_n C dX12_readsLine_178 rfl 2 rfl rfl ?_
                    refine x_get C (ci := 11) (k := 27) 0 k1284 rfl in_X12 (by decide) w_1145 rfl dX12_readsLine_179 rfl ?_
                    refine x_aload_n C dX12_readsLine_182 rfl 2 rfl rfl ?_
                    refine x_vi C (As := []) (rest := [.int (nI lm), .ref (a 20)]) (m_here E l a cd hG kf jn js jq w1280 hW1282 tp (pl1231 + 1) le cm wt sm lm nu1232 ⟨v1237, v1238, v1239, v1240, v1241, v1242, n1243, n1244, ⟨by omega, by omega, by omega, by omega, by omega, by omega, by omega⟩, ⟨by omega, by omega⟩, k1284⟩ tf k1283) mf_X12_here w_1317 0 k1284 rfl rfl rfl (Nat.le_of_ble_eq_true rfl) ⟨(Nat.le_of_ble_eq_true rfl), (Nat.le_of_ble_eq_true rfl)⟩ ⟨(Nat.le_of_ble_eq_true rfl), (Nat.le_of_ble_eq_true rfl)⟩ dX12_readsLine_183 rfl (fun r1310 w1311 h1309 => ?_)
                    obtain ⟨hW1312, x1313⟩ := h1309
                    refine x_ws hW1312 ?_
                    refine x_top (x1313.trans ed1300) ?_
                    refine x_bipush C (v := 48) dX12_readsLine_186 (by decide) rfl ?_
                    refine x_isub C (v := (nI ((48 + d1298) - 48))) dX12_readsLine_188 (pk_sub (a := (48 + d1298)) (b := 48) (by omega)) rfl ?_
                    have gb1314 := updn_le (i := lm) (v := ((48 + d1298) - 48)) gb1279 (by omega)
                    obtain ⟨w1315, hw1316⟩ : ∃ w : va_W, w = List.set w1280 20 (iA E (a 20) 24 (upd (fun j => nI ((updn g1277 lm 0) j)) lm (nI ((48 + d1298) - 48)))) := ⟨_, rfl⟩
                    refine x_iask C lm (nI_clamp (by omega)) (nI_pos (by omega)) (by omega) 20 k1288 hw1316.symm dX12_readsLine_189 rfl ?_
                    have hW1317 : WX (okM E a cd kf jn js jq) w1315 := by rw [hw1316]; exact hW1282.set (k := 20) rfl ⟨_, gb1314, iA_n (upd_nI (updn g1277 lm 0) lm ((48 + d1298) - 48))⟩
                    have k1318 : w1315[4]? = some (bA E (a 4) 260 tf) := by rw [hw1316]; exact set_ne k1283 (by decide)
                    have k1319 : w1315[0]? = some (ob (a 0) 11 [.ref (a 1), .ref (a 2), .ref (a 3), .ref (a 4), .int (nI tp), .int (nI (pl1231 + 1)), .int (nI le), .int v1237, .int nu1232, .int v1238, .int (nI cm), .int (nI wt), .int (nI sm), .int (nI (cd.2.2.2.2.2)), .ref (a 5), .ref (a 6), .ref (a 7), .ref (a 8), .ref (a 9), .ref (a 10), .ref (a 11), .ref (a 12), .ref (a 13), .ref (a 14), .ref (a 15), .ref (a 16), .ref (a 17), .int (nI lm), .ref (a 18), .ref (a 19), .ref (a 20), .ref (a 21), .int v1239, .int v1240, .int v1241, .int v1242, .int (nI n1243), .int (nI n1244), .ref (a 22), .ref (a 23), .ref (a 24), .ref (a 25), .ref (a 26), .ref (a 27), .ref (a 28), .ref (a 29), .ref (a 30), .int kf]) := by rw [hw1316]; exact set_ne k1284 (by decide)
                    have k1320 : w1315[19]? = some (iA E (a 19) 24 (upd f1268 (nI lm).toNatClampNeg r1255)) := by rw [hw1316]; exact set_ne k1285 (by decide)
                    have k1321 : w1315[20]? = some (iA E (a 20) 24 (upd (fun j => nI ((updn g1277 lm 0) j)) lm (nI ((48 + d1298) - 48)))) := by rw [hw1316]; exact set_eq k1288
                    have kp1322 := keeps_set kp1287 hw1316 (by first | exact rfl | decide | omega | (dsimp only; omega))
                    have k1323 : w1315[20]? = some (iA E (a 20) 24 (fun j => nI ((updn (updn g1277 lm 0) lm ((48 + d1298) - 48)) j))) := by rw [← upd_nI]; exact k1321
                    refine x_aload_n C dX12_readsLine_190 rfl 2 rfl rfl ?_
                    refine x_aload_n C dX12_readsLine_191 rfl 2 rfl rfl ?_
                    refine x_get C (ci := 11) (k := 5) 0 k1319 rfl in_X12 (by decide) w_1123 rfl dX12_readsLine_192 rfl ?_
                    refine x_iconst C (v := 1) dX12_readsLine_195 (by decide) rfl ?_
                    refine x_iadd C (v := (nI ((pl1231 + 1) + 1))) dX12_readsLine_196 (nI_add (pl1231 + 1) 1) rfl ?_
                    obtain ⟨w1324, hw1325⟩ : ∃ w : va_W, w = List.set w1315 0 (ob (a 0) 11 [.ref (a 1), .ref (a 2), .ref (a 3), .ref (a 4), .int (nI tp), .int (nI ((pl1231 + 1) + 1)), .int (nI le), .int v1237, .int nu1232, .int v1238, .int (nI cm), .int (nI wt), .int (nI sm), .int (nI (cd.2.2.2.2.2)), .ref (a 5), .ref (a 6), .ref (a 7), .ref (a 8), .ref (a 9), .ref (a 10), .ref (a 11), .ref (a 12), .ref (a 13), .ref (a 14), .ref (a 15), .ref (a 16), .ref (a 17), .int (nI lm), .ref (a 18), .ref (a 19), .ref (a 20), .ref (a 21), .int v1239, .int v1240, .int v1241, .int v1242, .int (nI n1243), .int (nI n1244), .ref (a 22), .ref (a 23), .ref (a 24), .ref (a 25), .ref (a 26), .ref (a 27), .ref (a 28), .ref (a 29), .ref (a 30), .int kf]) := ⟨_, rfl⟩
                    refine x_put C (ci := 11) (k := 5) (ty := .int) 0 k1319 rfl in_X12 tyX12 tyX12_ok nmX12 (by decide) w_1123 rfl rfl rfl rfl (Nat.le_of_ble_eq_true rfl) hw1325.symm dX12_readsLine_197 rfl ?_
                    have hW1326 : WX (okM E a cd kf jn js jq) w1324 := by rw [hw1325]; exact hW1317.set (k := 0) rfl ⟨tp, ((pl1231 + 1) + 1), le, v1237, nu1232, v1238, cm, wt, sm, lm, v1239, v1240, v1241, v1242, n1243, n1244, by omega, by omega, by omega, by omega, by omega, by omega, by omega, by omega, by omega, rfl⟩
                    have k1327 : w1324[4]? = some (bA E (a 4) 260 tf) := by rw [hw1325]; exact set_ne k1318 (by decide)
                    have k1328 : w1324[0]? = some (ob (a 0) 11 [.ref (a 1), .ref (a 2), .ref (a 3), .ref (a 4), .int (nI tp), .int (nI ((pl1231 + 1) + 1)), .int (nI le), .int v1237, .int nu1232, .int v1238, .int (nI cm), .int (nI wt), .int (nI sm), .int (nI (cd.2.2.2.2.2)), .ref (a 5), .ref (a 6), .ref (a 7), .ref (a 8), .ref (a 9), .ref (a 10), .ref (a 11), .ref (a 12), .ref (a 13), .ref (a 14), .ref (a 15), .ref (a 16), .ref (a 17), .int (nI lm), .ref (a 18), .ref (a 19), .ref (a 20), .ref (a 21), .int v1239, .int v1240, .int v1241, .int v1242, .int (nI n1243), .int (nI n1244), .ref (a 22), .ref (a 23), .ref (a 24), .ref (a 25), .ref (a 26), .ref (a 27), .ref (a 28), .ref (a 29), .ref (a 30), .int kf]) := by rw [hw1325]; exact set_eq k1319
                    have k1329 : w1324[19]? = some (iA E (a 19) 24 (upd f1268 (nI lm).toNatClampNeg r1255)) := by rw [hw1325]; exact set_ne k1320 (by decide)
                    have k1330 : w1324[20]? = some (iA E (a 20) 24 (fun j => nI ((updn (updn g1277 lm 0) lm ((48 + d1298) - 48)) j))) := by rw [hw1325]; exact set_ne k1323 (by decide)
                    have kp1331 := keeps_set kp1322 hw1325 (by first | exact rfl | decide | omega | (dsimp only; omega))
                    refine x_aload_n C dX12_readsLine_200 rfl 2 rfl rfl ?_
                    refine x_get C (ci := 11) (k := 28) 0 k1328 rfl in_X12 (by decide) w_1146 rfl dX12_readsLine_201 rfl ?_
                    refine x_aload_n C dX12_readsLine_204 rfl 2 rfl rfl ?_
                    refine x_get C (ci := 11) (k := 27) 0 k1328 rfl in_X12 (by decide) w_1145 rfl dX12_readsLine_205 rfl ?_
                    refine x_iconst C (v := 1) dX12_readsLine_208 (by decide) rfl ?_
                    refine x_iadd C (v := (nI (lm + 1))) dX12_readsLine_209 (nI_add lm 1) rfl ?_
                    refine x_aload_n C dX12_readsLine_210 rfl 2 rfl rfl ?_
                    refine x_get C (ci := 11) (k := 28) 0 k1328 rfl in_X12 (by decide) w_1146 rfl dX12_readsLine_211 rfl ?_
                    refine x_aload_n C dX12_readsLine_214 rfl 2 rfl rfl ?_
                    refine x_get C (ci := 11) (k := 27) 0 k1328 rfl in_X12 (by decide) w_1145 rfl dX12_readsLine_215 rfl ?_
                    obtain ⟨_, k1332, g1333, gb1334, rfl⟩ := hW1326 18 _ rfl
                    refine x_ialk C (v := nI (g1333 lm)) lm (nI_clamp (by omega)) (nI_pos (by omega)) (by omega) 18 k1332 rfl dX12_readsLine_218 rfl ?_
                    have bx1335 := gb1334 lm
                    refine x_iload_n C dX12_readsLine_219 rfl 1 rfl rfl ?_
                    refine x_iadd C (v := (nI ((g1333 lm) + mm1249))) dX12_readsLine_220 (nI_add (g1333 lm) mm1249) rfl ?_
                    have gb1336 := updn_leF (i := (lm + 1)) (v := ((g1333 lm) + mm1249)) gb1334 (by omega)
                    obtain ⟨w1337, hw1338⟩ : ∃ w : va_W, w = List.set w1324 18 (iA E (a 18) 25 (upd (fun j => nI (g1333 j)) (lm + 1) (nI ((g1333 lm) + mm1249)))) := ⟨_, rfl⟩
                    refine x_iask C (lm + 1) (nI_clamp (by omega)) (nI_pos (by omega)) (by omega) 18 k1332 hw1338.symm dX12_readsLine_221 rfl ?_
                    have hW1339 : WX (okM E a cd kf jn js jq) w1337 := by rw [hw1338]; exact hW1326.set (k := 18) rfl ⟨_, gb1336, iA_n (upd_nI g1333 (lm + 1) ((g1333 lm) + mm1249))⟩
                    have k1340 : w1337[4]? = some (bA E (a 4) 260 tf) := by rw [hw1338]; exact set_ne k1327 (by decide)
                    have k1341 : w1337[0]? = some (ob (a 0) 11 [.ref (a 1), .ref (a 2), .ref (a 3), .ref (a 4), .int (nI tp), .int (nI ((pl1231 + 1) + 1)), .int (nI le), .int v1237, .int nu1232, .int v1238, .int (nI cm), .int (nI wt), .int (nI sm), .int (nI (cd.2.2.2.2.2)), .ref (a 5), .ref (a 6), .ref (a 7), .ref (a 8), .ref (a 9), .ref (a 10), .ref (a 11), .ref (a 12), .ref (a 13), .ref (a 14), .ref (a 15), .ref (a 16), .ref (a 17), .int (nI lm), .ref (a 18), .ref (a 19), .ref (a 20), .ref (a 21), .int v1239, .int v1240, .int v1241, .int v1242, .int (nI n1243), .int (nI n1244), .ref (a 22), .ref (a 23), .ref (a 24), .ref (a 25), .ref (a 26), .ref (a 27), .ref (a 28), .ref (a 29), .ref (a 30), .int kf]) := by rw [hw1338]; exact set_ne k1328 (by decide)
                    have k1342 : w1337[19]? = some (iA E (a 19) 24 (upd f1268 (nI lm).toNatClampNeg r1255)) := by rw [hw1338]; exact set_ne k1329 (by decide)
                    have k1343 : w1337[20]? = some (iA E (a 20) 24 (fun j => nI ((updn (updn g1277 lm 0) lm ((48 + d1298) - 48)) j))) := by rw [hw1338]; exact set_ne k1330 (by decide)
                    have k1344 : w1337[18]? = some (iA E (a 18) 25 (upd (fun j => nI (g1333 j)) (lm + 1) (nI ((g1333 lm) + mm1249)))) := by rw [hw1338]; exact set_eq k1332
                    have kp1345 := keeps_set kp1331 hw1338 (by first | exact rfl | decide | omega | (dsimp only; omega))
                    have k1346 : w1337[18]? = some (iA E (a 18) 25 (fun j => nI ((updn g1333 (lm + 1) ((g1333 lm) + mm1249)) j))) := by rw [← upd_nI]; exact k1344
                    refine x_aload_n C dX12_readsLine_222 rfl 2 rfl rfl ?_
                    refine x_aload_n C dX12_readsLine_223 rfl 2 rfl rfl ?_
                    refine x_get C (ci := 11) (k := 27) 0 k1341 rfl in_X12 (by decide) w_1145 rfl dX12_readsLine_224 rfl ?_
                    refine x_iconst C (v := 1) dX12_readsLine_227 (by decide) rfl ?_
                    refine x_iadd C (v := (nI (lm + 1))) dX12_readsLine_228 (nI_add lm 1) rfl ?_
                    obtain ⟨w1347, hw1348⟩ : ∃ w : va_W, w = List.set w1337 0 (ob (a 0) 11 [.ref (a 1), .ref (a 2), .ref (a 3), .ref (a 4), .int (nI tp), .int (nI ((pl1231 + 1) + 1)), .int (nI le), .int v1237, .int nu1232, .int v1238, .int (nI cm), .int (nI wt), .int (nI sm), .int (nI (cd.2.2.2.2.2)), .ref (a 5), .ref (a 6), .ref (a 7), .ref (a 8), .ref (a 9), .ref (a 10), .ref (a 11), .ref (a 12), .ref (a 13), .ref (a 14), .ref (a 15), .ref (a 16), .ref (a 17), .int (nI (lm + 1)), .ref (a 18), .ref (a 19), .ref (a 20), .ref (a 21), .int v1239, .int v1240, .int v1241, .int v1242, .int (nI n1243), .int (nI n1244), .ref (a 22), .ref (a 23), .ref (a 24), .ref (a 25), .ref (a 26), .ref (a 27), .ref (a 28), .ref (a 29), .ref (a 30), .int kf]) := ⟨_, rfl⟩
                    refine x_put C (ci := 11) (k := 27) (ty := .int) 0 k1341 rfl in_X12 tyX12 tyX12_ok nmX12 (by decide) w_1145 rfl rfl rfl rfl (Nat.le_of_ble_eq_true rfl) hw1348.symm dX12_readsLine_229 rfl ?_
                    have hW1349 : WX (okM E a cd kf jn js jq) w1347 := by rw [hw1348]; exact hW1339.set (k := 0) rfl ⟨tp, ((pl1231 + 1) + 1), le, v1237, nu1232, v1238, cm, wt, sm, (lm + 1), v1239, v1240, v1241, v1242, n1243, n1244, by omega, by omega, by omega, by omega, by omega, by omega, by omega, by omega, by omega, rfl⟩
                    have k1350 : w1347[4]? = some (bA E (a 4) 260 tf) := by rw [hw1348]; exact set_ne k1340 (by decide)
                    have k1351 : w1347[0]? = some (ob (a 0) 11 [.ref (a 1), .ref (a 2), .ref (a 3), .ref (a 4), .int (nI tp), .int (nI ((pl1231 + 1) + 1)), .int (nI le), .int v1237, .int nu1232, .int v1238, .int (nI cm), .int (nI wt), .int (nI sm), .int (nI (cd.2.2.2.2.2)), .ref (a 5), .ref (a 6), .ref (a 7), .ref (a 8), .ref (a 9), .ref (a 10), .ref (a 11), .ref (a 12), .ref (a 13), .ref (a 14), .ref (a 15), .ref (a 16), .ref (a 17), .int (nI (lm + 1)), .ref (a 18), .ref (a 19), .ref (a 20), .ref (a 21), .int v1239, .int v1240, .int v1241, .int v1242, .int (nI n1243), .int (nI n1244), .ref (a 22), .ref (a 23), .ref (a 24), .ref (a 25), .ref (a 26), .ref (a 27), .ref (a 28), .ref (a 29), .ref (a 30), .int kf]) := by rw [hw1348]; exact set_eq k1341
                    have k1352 : w1347[19]? = some (iA E (a 19) 24 (upd f1268 (nI lm).toNatClampNeg r1255)) := by rw [hw1348]; exact set_ne k1342 (by decide)
                    have k1353 : w1347[20]? = some (iA E (a 20) 24 (fun j => nI ((updn (updn g1277 lm 0) lm ((48 + d1298) - 48)) j))) := by rw [hw1348]; exact set_ne k1343 (by decide)
                    have k1354 : w1347[18]? = some (iA E (a 18) 25 (fun j => nI ((updn g1333 (lm + 1) ((g1333 lm) + mm1249)) j))) := by rw [hw1348]; exact set_ne k1346 (by decide)
                    have kp1355 := keeps_set kp1345 hw1348 (by first | exact rfl | decide | omega | (dsimp only; omega))
                    refine x_iconst C (v := 1) dX12_readsLine_232 (by decide) rfl ?_
                    exact x_zret C hr hlk rfl dX12_readsLine_233 ⟨hW1349, kp1355, (Or.inr rfl), ⟨((pl1231 + 1) + 1), (lm + 1), nu1232, by omega, by omega, by omega, ⟨v1237, v1238, v1239, v1240, v1241, v1242, n1243, n1244, ⟨by omega, by omega, by omega, by omega, by omega, by omega, by omega⟩, ⟨by omega, by omega⟩, k1351⟩⟩⟩
                  · skip
                    have nf1356 := nI_nle' (a := (48 + d1298)) (b := 55) c1307 (by omega) (by omega)
                    refine x_aload_n C dX12_readsLine_164 rfl 2 rfl rfl ?_
                    refine x_iconst C (v := 3) dX12_readsLine_165 (by decide) rfl ?_
                    refine x_aload_n C dX12_readsLine_166 rfl 2 rfl rfl ?_
                    refine x_get C (ci := 11) (k := 5) 0 k1284 rfl in_X12 (by decide) w_1123 rfl dX12_readsLine_167 rfl ?_
                    refine x_vi C (As := [.int 3, .int (nI (pl1231 + 1))]) (rest := []) (m_wrongAt E l a cd hG kf jn js jq w1280 hW1282 (3 : Int32) ((nI (pl1231 + 1))) tp (pl1231 + 1) le cm wt sm lm nu1232 ⟨v1237, v1238, v1239, v1240, v1241, v1242, n1243, n1244, ⟨by omega, by omega, by omega, by omega, by omega, by omega, by omega⟩, ⟨by omega, by omega⟩, k1284⟩) mf_X12_wrongAt w_1324 0 k1284 rfl rfl rfl (Nat.le_of_ble_eq_true rfl) ⟨(Nat.le_of_ble_eq_true rfl), (Nat.le_of_ble_eq_true rfl)⟩ ⟨(Nat.le_of_ble_eq_true rfl), (Nat.le_of_ble_eq_true rfl)⟩ dX12_readsLine_170 rfl (fun r1358 w1359 h1357 => ?_)
                    obtain ⟨hW1360, kq1361, e1362, x1363⟩ := h1357
                    refine x_top e1362 ?_
                    have k1364 : w1359[4]? = some (bA E (a 4) 260 tf) := keeps_at kq1361 k1283 (by first | decide | omega | (dsimp only; omega))
                    have k1365 : w1359[19]? = some (iA E (a 19) 24 (upd f1268 (nI lm).toNatClampNeg r1255)) := keeps_at kq1361 k1285 (by first | decide | omega | (dsimp only; omega))
                    have k1366 : w1359[20]? = some (iA E (a 20) 24 (fun j => nI ((updn g1277 lm 0) j))) := keeps_at kq1361 k1288 (by first | decide | omega | (dsimp only; omega))
                    have kp1367 := keeps_tr kp1287 kq1361 (fun q hq => by first | omega | (dsimp only at *; omega))
                    obtain ⟨v1368, v1369, v1370, v1371, v1372, v1373, n1374, n1375, bo1376, bo1377, k1378⟩ := x1363
                    exact x_zret C hr hlk rfl dX12_readsLine_173 ⟨hW1360, kp1367, (Or.inl rfl), ⟨((pl1231 + 1)), lm, nu1232, by omega, by omega, by omega, ⟨v1368, v1369, v1370, v1371, v1372, v1373, n1374, n1375, ⟨by omega, by omega, by omega, by omega, by omega, by omega, by omega⟩, ⟨by omega, by omega⟩, k1378⟩⟩⟩
                · skip
                  refine x_aload_n C dX12_readsLine_145 rfl 2 rfl rfl ?_
                  refine x_iconst C (v := 1) dX12_readsLine_146 (by decide) rfl ?_
                  refine x_aload_n C dX12_readsLine_147 rfl 2 rfl rfl ?_
                  refine x_get C (ci := 11) (k := 5) 0 k1284 rfl in_X12 (by decide) w_1123 rfl dX12_readsLine_148 rfl ?_
                  refine x_vi C (As := [.int 1, .int (nI (pl1231 + 1))]) (rest := []) (m_wrongAt E l a cd hG kf jn js jq w1280 hW1282 (1 : Int32) ((nI (pl1231 + 1))) tp (pl1231 + 1) le cm wt sm lm nu1232 ⟨v1237, v1238, v1239, v1240, v1241, v1242, n1243, n1244, ⟨by omega, by omega, by omega, by omega, by omega, by omega, by omega⟩, ⟨by omega, by omega⟩, k1284⟩) mf_X12_wrongAt w_1324 0 k1284 rfl rfl rfl (Nat.le_of_ble_eq_true rfl) ⟨(Nat.le_of_ble_eq_true rfl), (Nat.le_of_ble_eq_true rfl)⟩ ⟨(Nat.le_of_ble_eq_true rfl), (Nat.le_of_ble_eq_true rfl)⟩ dX12_readsLine_151 rfl (fun r1380 w1381 h1379 => ?_)
                  obtain ⟨hW1382, kq1383, e1384, x1385⟩ := h1379
                  refine x_top e1384 ?_
                  have k1386 : w1381[4]? = some (bA E (a 4) 260 tf) := keeps_at kq1383 k1283 (by first | decide | omega | (dsimp only; omega))
                  have k1387 : w1381[19]? = some (iA E (a 19) 24 (upd f1268 (nI lm).toNatClampNeg r1255)) := keeps_at kq1383 k1285 (by first | decide | omega | (dsimp only; omega))
                  have k1388 : w1381[20]? = some (iA E (a 20) 24 (fun j => nI ((updn g1277 lm 0) j))) := keeps_at kq1383 k1288 (by first | decide | omega | (dsimp only; omega))
                  have kp1389 := keeps_tr kp1287 kq1383 (fun q hq => by first | omega | (dsimp only at *; omega))
                  obtain ⟨v1390, v1391, v1392, v1393, v1394, v1395, n1396, n1397, bo1398, bo1399, k1400⟩ := x1385
                  exact x_zret C hr hlk rfl dX12_readsLine_154 ⟨hW1382, kp1389, (Or.inl rfl), ⟨((pl1231 + 1)), lm, nu1232, by omega, by omega, by omega, ⟨v1390, v1391, v1392, v1393, v1394, v1395, n1396, n1397, ⟨by omega, by omega, by omega, by omega, by omega, by omega, by omega⟩, ⟨by omega, by omega⟩, k1400⟩⟩⟩
              · skip
                refine x_iload_n C dX12_readsLine_132 rfl 0 rfl rfl ?_
                refine x_bipush C (v := 33) dX12_readsLine_133 (by decide) rfl ?_
                refine x_icmp_ne C (tgt := 200) dX12_readsLine_135 (by decide) rfl (fun c1401 => ?_) (fun c1401 => ?_)
                · skip
                  refine x_aload_n C dX12_readsLine_200 rfl 2 rfl rfl ?_
                  refine x_get C (ci := 11) (k := 28) 0 k1284 rfl in_X12 (by decide) w_1146 rfl dX12_readsLine_201 rfl ?_
                  refine x_aload_n C dX12_readsLine_204 rfl 2 rfl rfl ?_
                  refine x_get C (ci := 11) (k := 27) 0 k1284 rfl in_X12 (by decide) w_1145 rfl dX12_readsLine_205 rfl ?_
                  refine x_iconst C (v := 1) dX12_readsLine_208 (by decide) rfl ?_
                  refine x_iadd C (v := (nI (lm + 1))) dX12_readsLine_209 (nI_add lm 1) rfl ?_
                  refine x_aload_n C dX12_readsLine_210 rfl 2 rfl rfl ?_
                  refine x_get C (ci := 11) (k := 28) 0 k1284 rfl in_X12 (by decide) w_1146 rfl dX12_readsLine_211 rfl ?_
                  refine x_aload_n C dX12_readsLine_214 rfl 2 rfl rfl ?_
                  refine x_get C (ci := 11) (k := 27) 0 k1284 rfl in_X12 (by decide) w_1145 rfl dX12_readsLine_215 rfl ?_
                  obtain ⟨_, k1402, g1403, gb1404, rfl⟩ := hW1282 18 _ rfl
                  refine x_ialk C (v := nI (g1403 lm)) lm (nI_clamp (by omega)) (nI_pos (by omega)) (by omega) 18 k1402 rfl dX12_readsLine_218 rfl ?_
                  have bx1405 := gb1404 lm
                  refine x_iload_n C dX12_readsLine_219 rfl 1 rfl rfl ?_
                  refine x_iadd C (v := (nI ((g1403 lm) + mm1249))) dX12_readsLine_220 (nI_add (g1403 lm) mm1249) rfl ?_
                  have gb1406 := updn_leF (i := (lm + 1)) (v := ((g1403 lm) + mm1249)) gb1404 (by omega)
                  obtain ⟨w1407, hw1408⟩ : ∃ w : va_W, w = List.set w1280 18 (iA E (a 18) 25 (upd (fun j => nI (g1403 j)) (lm + 1) (nI ((g1403 lm) + mm1249)))) := ⟨_, rfl⟩
                  refine x_iask C (lm + 1) (nI_clamp (by omega)) (nI_pos (by omega)) (by omega) 18 k1402 hw1408.symm dX12_readsLine_221 rfl ?_
                  have hW1409 : WX (okM E a cd kf jn js jq) w1407 := by rw [hw1408]; exact hW1282.set (k := 18) rfl ⟨_, gb1406, iA_n (upd_nI g1403 (lm + 1) ((g1403 lm) + mm1249))⟩
                  have k1410 : w1407[4]? = some (bA E (a 4) 260 tf) := by rw [hw1408]; exact set_ne k1283 (by decide)
                  have k1411 : w1407[0]? = some (ob (a 0) 11 [.ref (a 1), .ref (a 2), .ref (a 3), .ref (a 4), .int (nI tp), .int (nI (pl1231 + 1)), .int (nI le), .int v1237, .int nu1232, .int v1238, .int (nI cm), .int (nI wt), .int (nI sm), .int (nI (cd.2.2.2.2.2)), .ref (a 5), .ref (a 6), .ref (a 7), .ref (a 8), .ref (a 9), .ref (a 10), .ref (a 11), .ref (a 12), .ref (a 13), .ref (a 14), .ref (a 15), .ref (a 16), .ref (a 17), .int (nI lm), .ref (a 18), .ref (a 19), .ref (a 20), .ref (a 21), .int v1239, .int v1240, .int v1241, .int v1242, .int (nI n1243), .int (nI n1244), .ref (a 22), .ref (a 23), .ref (a 24), .ref (a 25), .ref (a 26), .ref (a 27), .ref (a 28), .ref (a 29), .ref (a 30), .int kf]) := by rw [hw1408]; exact set_ne k1284 (by decide)
                  have k1412 : w1407[19]? = some (iA E (a 19) 24 (upd f1268 (nI lm).toNatClampNeg r1255)) := by rw [hw1408]; exact set_ne k1285 (by decide)
                  have k1413 : w1407[20]? = some (iA E (a 20) 24 (fun j => nI ((updn g1277 lm 0) j))) := by rw [hw1408]; exact set_ne k1288 (by decide)
                  have k1414 : w1407[18]? = some (iA E (a 18) 25 (upd (fun j => nI (g1403 j)) (lm + 1) (nI ((g1403 lm) + mm1249)))) := by rw [hw1408]; exact set_eq k1402
                  have kp1415 := keeps_set kp1287 hw1408 (by first | exact rfl | decide | omega | (dsimp only; omega))
                  have k1416 : w1407[18]? = some (iA E (a 18) 25 (fun j => nI ((updn g1403 (lm + 1) ((g1403 lm) + mm1249)) j))) := by rw [← upd_nI]; exact k1414
                  refine x_aload_n C dX12_readsLine_222 rfl 2 rfl rfl ?_
                  refine x_aload_n C dX12_readsLine_223 rfl 2 rfl rfl ?_
                  refine x_get C (ci := 11) (k := 27) 0 k1411 rfl in_X12 (by decide) w_1145 rfl dX12_readsLine_224 rfl ?_
                  refine x_iconst C (v := 1) dX12_readsLine_227 (by decide) rfl ?_
                  refine x_iadd C (v := (nI (lm + 1))) dX12_readsLine_228 (nI_add lm 1) rfl ?_
                  obtain ⟨w1417, hw1418⟩ : ∃ w : va_W, w = List.set w1407 0 (ob (a 0) 11 [.ref (a 1), .ref (a 2), .ref (a 3), .ref (a 4), .int (nI tp), .int (nI (pl1231 + 1)), .int (nI le), .int v1237, .int nu1232, .int v1238, .int (nI cm), .int (nI wt), .int (nI sm), .int (nI (cd.2.2.2.2.2)), .ref (a 5), .ref (a 6), .ref (a 7), .ref (a 8), .ref (a 9), .ref (a 10), .ref (a 11), .ref (a 12), .ref (a 13), .ref (a 14), .ref (a 15), .ref (a 16), .ref (a 17), .int (nI (lm + 1)), .ref (a 18), .ref (a 19), .ref (a 20), .ref (a 21), .int v1239, .int v1240, .int v1241, .int v1242, .int (nI n1243), .int (nI n1244), .ref (a 22), .ref (a 23), .ref (a 24), .ref (a 25), .ref (a 26), .ref (a 27), .ref (a 28), .ref (a 29), .ref (a 30), .int kf]) := ⟨_, rfl⟩
                  refine x_put C (ci := 11) (k := 27) (ty := .int) 0 k1411 rfl in_X12 tyX12 tyX12_ok nmX12 (by decide) w_1145 rfl rfl rfl rfl (Nat.le_of_ble_eq_true rfl) hw1418.symm dX12_readsLine_229 rfl ?_
                  have hW1419 : WX (okM E a cd kf jn js jq) w1417 := by rw [hw1418]; exact hW1409.set (k := 0) rfl ⟨tp, (pl1231 + 1), le, v1237, nu1232, v1238, cm, wt, sm, (lm + 1), v1239, v1240, v1241, v1242, n1243, n1244, by omega, by omega, by omega, by omega, by omega, by omega, by omega, by omega, by omega, rfl⟩
                  have k1420 : w1417[4]? = some (bA E (a 4) 260 tf) := by rw [hw1418]; exact set_ne k1410 (by decide)
                  have k1421 : w1417[0]? = some (ob (a 0) 11 [.ref (a 1), .ref (a 2), .ref (a 3), .ref (a 4), .int (nI tp), .int (nI (pl1231 + 1)), .int (nI le), .int v1237, .int nu1232, .int v1238, .int (nI cm), .int (nI wt), .int (nI sm), .int (nI (cd.2.2.2.2.2)), .ref (a 5), .ref (a 6), .ref (a 7), .ref (a 8), .ref (a 9), .ref (a 10), .ref (a 11), .ref (a 12), .ref (a 13), .ref (a 14), .ref (a 15), .ref (a 16), .ref (a 17), .int (nI (lm + 1)), .ref (a 18), .ref (a 19), .ref (a 20), .ref (a 21), .int v1239, .int v1240, .int v1241, .int v1242, .int (nI n1243), .int (nI n1244), .ref (a 22), .ref (a 23), .ref (a 24), .ref (a 25), .ref (a 26), .ref (a 27), .ref (a 28), .ref (a 29), .ref (a 30), .int kf]) := by rw [hw1418]; exact set_eq k1411
                  have k1422 : w1417[19]? = some (iA E (a 19) 24 (upd f1268 (nI lm).toNatClampNeg r1255)) := by rw [hw1418]; exact set_ne k1412 (by decide)
                  have k1423 : w1417[20]? = some (iA E (a 20) 24 (fun j => nI ((updn g1277 lm 0) j))) := by rw [hw1418]; exact set_ne k1413 (by decide)
                  have k1424 : w1417[18]? = some (iA E (a 18) 25 (fun j => nI ((updn g1403 (lm + 1) ((g1403 lm) + mm1249)) j))) := by rw [hw1418]; exact set_ne k1416 (by decide)
                  have kp1425 := keeps_set kp1415 hw1418 (by first | exact rfl | decide | omega | (dsimp only; omega))
                  refine x_iconst C (v := 1) dX12_readsLine_232 (by decide) rfl ?_
                  exact x_zret C hr hlk rfl dX12_readsLine_233 ⟨hW1419, kp1425, (Or.inr rfl), ⟨(pl1231 + 1), (lm + 1), nu1232, by omega, by omega, by omega, ⟨v1237, v1238, v1239, v1240, v1241, v1242, n1243, n1244, ⟨by omega, by omega, by omega, by omega, by omega, by omega, by omega⟩, ⟨by omega, by omega⟩, k1421⟩⟩⟩
                · skip
                  have hp1426 := hv_lt (x1258.symm.trans c1401) (by decide)
                  refine x_aload_n C dX12_readsLine_138 rfl 2 rfl rfl ?_
                  refine x_vi C (As := []) (rest := []) (m_isDigit E l a cd hG kf jn js jq w1280 hW1282 tp (pl1231 + 1) le cm wt sm lm nu1232 ⟨v1237, v1238, v1239, v1240, v1241, v1242, n1243, n1244, ⟨by omega, by omega, by omega, by omega, by omega, by omega, by omega⟩, ⟨by omega, by omega⟩, k1284⟩ tf k1283) mf_X12_isDigit w_1341 0 k1284 rfl rfl rfl (Nat.le_of_ble_eq_true rfl) ⟨(Nat.le_of_ble_eq_true rfl), (Nat.le_of_ble_eq_true rfl)⟩ ⟨(Nat.le_of_ble_eq_true rfl), (Nat.le_of_ble_eq_true rfl)⟩ dX12_readsLine_139 rfl (fun r1428 w1429 h1427 => ?_)
                  obtain ⟨hW1430, zb1431, x1432⟩ := h1427
                  refine x_ws hW1430 ?_
                  refine x_if_ne C (tgt := 155) dX12_readsLine_142 (by decide) rfl (fun c1433 => ?_) (fun c1433 => ?_)
                  · skip
                    obtain ⟨d1434, hd1435, ed1436, hp1437⟩ := x1432 c1433
                    refine x_aload_n C dX12_readsLine_155 rfl 2 rfl rfl ?_
                    refine x_vi C (As := []) (rest := []) (m_here E l a cd hG kf jn js jq w1280 hW1282 tp (pl1231 + 1) le cm wt sm lm nu1232 ⟨v1237, v1238, v1239, v1240, v1241, v1242, n1243, n1244, ⟨by omega, by omega, by omega, by omega, by omega, by omega, by omega⟩, ⟨by omega, by omega⟩, k1284⟩ tf k1283) mf_X12_here w_1317 0 k1284 rfl rfl rfl (Nat.le_of_ble_eq_true rfl) ⟨(Nat.le_of_ble_eq_true rfl), (Nat.le_of_ble_eq_true rfl)⟩ ⟨(Nat.le_of_ble_eq_true rfl), (Nat.le_of_ble_eq_true rfl)⟩ dX12_readsLine_156 rfl (fun r1439 w1440 h1438 => ?_)
                    obtain ⟨hW1441, x1442⟩ := h1438
                    refine x_ws hW1441 ?_
                    refine x_top (x1442.trans ed1436) ?_
                    refine x_bipush C (v := 55) dX12_readsLine_159 (by decide) rfl ?_
                    refine x_icmp_le C (tgt := 174) dX12_readsLine_161 (by decide) rfl (fun c1443 => ?_) (fun c1443 => ?_)
                    · skip
                      have nf1444 := nI_le' (a := (48 + d1434)) (b := 55) c1443 (by omega) (by omega)
                      refine x_aload_n C dX12_readsLine_174 rfl 2 rfl rfl ?_
                      refine x_get C (ci := 11) (k := 30) 0 k1284 rfl in_X12 (by decide) w_1148 rfl dX12_readsLine_175 rfl ?_
                      refine x_aload_n C dX12_readsLine_178 rfl 2 rfl rfl ?_
                      refine x_get C (ci := 11) (k := 27) 0 k1284 rfl in_X12 (by decide) w_1145 rfl dX12_readsLine_179 rfl ?_
                      refine x_aload_n C dX12_readsLine_182 rfl 2 rfl rfl ?_
                      refine x_vi C (As := []) (rest := [.int (nI lm), .ref (a 20)]) (m_here E l a cd hG kf jn js jq w1280 hW1282 tp (pl1231 + 1) le cm wt sm lm nu1232 ⟨v1237, v1238, v1239, v1240, v1241, v1242, n1243, n1244, ⟨by omega, by omega, by omega, by omega, by omega, by omega, by omega⟩, ⟨by omega, by omega⟩, k1284⟩ tf k1283) mf_X12_here w_1317 0 k1284 rfl rfl rfl (Nat.le_of_ble_eq_true rfl) ⟨(Nat.le_of_ble_eq_true rfl), (Nat.le_of_ble_eq_true rfl)⟩ ⟨(Nat.le_of_ble_eq_true rfl), (Nat.le_of_ble_eq_true rfl)⟩ dX12_readsLine_183 rfl (fun r1446 w1447 h1445 => ?_)
                      obtain ⟨hW1448, x1449⟩ := h1445
                      refine x_ws hW1448 ?_
                      refine x_top (x1449.trans ed1436) ?_
                      refine x_bipush C (v := 48) dX12_readsLine_186 (by decide) rfl ?_
                      refine x_isub C (v := (nI ((48 + d1434) - 48))) dX12_readsLine_188 (pk_sub (a := (48 + d1434)) (b := 48) (by omega)) rfl ?_
                      have gb1450 := updn_le (i := lm) (v := ((48 + d1434) - 48)) gb1279 (by omega)
                      obtain ⟨w1451, hw1452⟩ : ∃ w : va_W, w = List.set w1280 20 (iA E (a 20) 24 (upd (fun j => nI ((updn g1277 lm 0) j)) lm (nI ((48 + d1434) - 48)))) := ⟨_, rfl⟩
                      refine x_iask C lm (nI_clamp (by omega)) (nI_pos (by omega)) (by omega) 20 k1288 hw1452.symm dX12_readsLine_189 rfl ?_
                      have hW1453 : WX (okM E a cd kf jn js jq) w1451 := by rw [hw1452]; exact hW1282.set (k := 20) rfl ⟨_, gb1450, iA_n (upd_nI (updn g1277 lm 0) lm ((48 + d1434) - 48))⟩
                      have k1454 : w1451[4]? = some (bA E (a 4) 260 tf) := by rw [hw1452]; exact set_ne k1283 (by decide)
                      have k1455 : w1451[0]? = some (ob (a 0) 11 [.ref (a 1), .ref (a 2), .ref (a 3), .ref (a 4), .int (nI tp), .int (nI (pl1231 + 1)), .int (nI le), .int v1237, .int nu1232, .int v1238, .int (nI cm), .int (nI wt), .int (nI sm), .int (nI (cd.2.2.2.2.2)), .ref (a 5), .ref (a 6), .ref (a 7), .ref (a 8), .ref (a 9), .ref (a 10), .ref (a 11), .ref (a 12), .ref (a 13), .ref (a 14), .ref (a 15), .ref (a 16), .ref (a 17), .int (nI lm), .ref (a 18), .ref (a 19), .ref (a 20), .ref (a 21), .int v1239, .int v1240, .int v1241, .int v1242, .int (nI n1243), .int (nI n1244), .ref (a 22), .ref (a 23), .ref (a 24), .ref (a 25), .ref (a 26), .ref (a 27), .ref (a 28), .ref (a 29), .ref (a 30), .int kf]) := by rw [hw1452]; exact set_ne k1284 (by decide)
                      have k1456 : w1451[19]? = some (iA E (a 19) 24 (upd f1268 (nI lm).toNatClampNeg r1255)) := by rw [hw1452]; exact set_ne k1285 (by decide)
                      have k1457 : w1451[20]? = some (iA E (a 20) 24 (upd (fun j => nI ((updn g1277 lm 0) j)) lm (nI ((48 + d1434) - 48)))) := by rw [hw1452]; exact set_eq k1288
                      have kp1458 := keeps_set kp1287 hw1452 (by first | exact rfl | decide | omega | (dsimp only; omega))
                      have k1459 : w1451[20]? = some (iA E (a 20) 24 (fun j => nI ((updn (updn g1277 lm 0) lm ((48 + d1434) - 48)) j))) := by rw [← upd_nI]; exact k1457
                      refine x_aload_n C dX12_readsLine_190 rfl 2 rfl rfl ?_
                      refine x_aload_n C dX12_readsLine_191 rfl 2 rfl rfl ?_
                      refine x_get C (ci := 11) (k := 5) 0 k1455 rfl in_X12 (by decide) w_1123 rfl dX12_readsLine_192 rfl ?_
                      refine x_iconst C (v := 1) dX12_readsLine_195 (by decide) rfl ?_
                      refine x_iadd C (v := (nI ((pl1231 + 1) + 1))) dX12_readsLine_196 (nI_add (pl1231 + 1) 1) rfl ?_
                      obtain ⟨w1460, hw1461⟩ : ∃ w : va_W, w = List.set w1451 0 (ob (a 0) 11 [.ref (a 1), .ref (a 2), .ref (a 3), .ref (a 4), .int (nI tp), .int (nI ((pl1231 + 1) + 1)), .int (nI le), .int v1237, .int nu1232, .int v1238, .int (nI cm), .int (nI wt), .int (nI sm), .int (nI (cd.2.2.2.2.2)), .ref (a 5), .ref (a 6), .ref (a 7), .ref (a 8), .ref (a 9), .ref (a 10), .ref (a 11), .ref (a 12), .ref (a 13), .ref (a 14), .ref (a 15), .ref (a 16), .ref (a 17), .int (nI lm), .ref (a 18), .ref (a 19), .ref (a 20), .ref (a 21), .int v1239, .int v1240, .int v1241, .int v1242, .int (nI n1243), .int (nI n1244), .ref (a 22), .ref (a 23), .ref (a 24), .ref (a 25), .ref (a 26), .ref (a 27), .ref (a 28), .ref (a 29), .ref (a 30), .int kf]) := ⟨_, rfl⟩
                      refine x_put C (ci := 11) (k := 5) (ty := .int) 0 k1455 rfl in_X12 tyX12 tyX12_ok nmX12 (by decide) w_1123 rfl rfl rfl rfl (Nat.le_of_ble_eq_true rfl) hw1461.symm dX12_readsLine_197 rfl ?_
                      have hW1462 : WX (okM E a cd kf jn js jq) w1460 := by rw [hw1461]; exact hW1453.set (k := 0) rfl ⟨tp, ((pl1231 + 1) + 1), le, v1237, nu1232, v1238, cm, wt, sm, lm, v1239, v1240, v1241, v1242, n1243, n1244, by omega, by omega, by omega, by omega, by omega, by omega, by omega, by omega, by omega, rfl⟩
                      have k1463 : w1460[4]? = some (bA E (a 4) 260 tf) := by rw [hw1461]; exact set_ne k1454 (by decide)
                      have k1464 : w1460[0]? = some (ob (a 0) 11 [.ref (a 1), .ref (a 2), .ref (a 3), .ref (a 4), .int (nI tp), .int (nI ((pl1231 + 1) + 1)), .int (nI le), .int v1237, .int nu1232, .int v1238, .int (nI cm), .int (nI wt), .int (nI sm), .int (nI (cd.2.2.2.2.2)), .ref (a 5), .ref (a 6), .ref (a 7), .ref (a 8), .ref (a 9), .ref (a 10), .ref (a 11), .ref (a 12), .ref (a 13), .ref (a 14), .ref (a 15), .ref (a 16), .ref (a 17), .int (nI lm), .ref (a 18), .ref (a 19), .ref (a 20), .ref (a 21), .int v1239, .int v1240, .int v1241, .int v1242, .int (nI n1243), .int (nI n1244), .ref (a 22), .ref (a 23), .ref (a 24), .ref (a 25), .ref (a 26), .ref (a 27), .ref (a 28), .ref (a 29), .ref (a 30), .int kf]) := by rw [hw1461]; exact set_eq k1455
                      have k1465 : w1460[19]? = some (iA E (a 19) 24 (upd f1268 (nI lm).toNatClampNeg r1255)) := by rw [hw1461]; exact set_ne k1456 (by decide)
                      have k1466 : w1460[20]? = some (iA E (a 20) 24 (fun j => nI ((updn (updn g1277 lm 0) lm ((48 + d1434) - 48)) j))) := by rw [hw1461]; exact set_ne k1459 (by decide)
                      have kp1467 := keeps_set kp1458 hw1461 (by first | exact rfl | decide | omega | (dsimp only; omega))
                      refine x_aload_n C dX12_readsLine_200 rfl 2 rfl rfl ?_
                      refine x_get C (ci := 11) (k := 28) 0 k1464 rfl in_X12 (by decide) w_1146 rfl dX12_readsLine_201 rfl ?_
                      refine x_aload_n C dX12_readsLine_204 rfl 2 rfl rfl ?_
                      refine x_get C (ci := 11) (k := 27) 0 k1464 rfl in_X12 (by decide) w_1145 rfl dX12_readsLine_205 rfl ?_
                      refine x_iconst C (v := 1) dX12_readsLine_208 (by decide) rfl ?_
                      refine x_iadd C (v := (nI (lm + 1))) dX12_readsLine_209 (nI_add lm 1) rfl ?_
                      refine x_aload_n C dX12_readsLine_210 rfl 2 rfl rfl ?_
                      refine x_get C (ci := 11) (k := 28) 0 k1464 rfl in_X12 (by decide) w_1146 rfl dX12_readsLine_211 rfl ?_
                      refine x_aload_n C dX12_readsLine_214 rfl 2 rfl rfl ?_
                      refine x_get C (ci := 11) (k := 27) 0 k1464 rfl in_X12 (by decide) w_1145 rfl dX12_readsLine_215 rfl ?_
                      obtain ⟨_, k1468, g1469, gb1470, rfl⟩ := hW1462 18 _ rfl
                      refine x_ialk C (v := nI (g1469 lm)) lm (nI_clamp (by omega)) (nI_pos (by omega)) (by omega) 18 k1468 rfl dX12_readsLine_218 rfl ?_
                      have bx1471 := gb1470 lm
                      refine x_iload_n C dX12_readsLine_219 rfl 1 rfl rfl ?_
                      refine x_iadd C (v := (nI ((g1469 lm) + mm1249))) dX12_readsLine_220 (nI_add (g1469 lm) mm1249) rfl ?_
                      have gb1472 := updn_leF (i := (lm + 1)) (v := ((g1469 lm) + mm1249)) gb1470 (by omega)
                      obtain ⟨w1473, hw1474⟩ : ∃ w : va_W, w = List.set w1460 18 (iA E (a 18) 25 (upd (fun j => nI (g1469 j)) (lm + 1) (nI ((g1469 lm) + mm1249)))) := ⟨_, rfl⟩
                      refine x_iask C (lm + 1) (nI_clamp (by omega)) (nI_pos (by omega)) (by omega) 18 k1468 hw1474.symm dX12_readsLine_221 rfl ?_
                      have hW1475 : WX (okM E a cd kf jn js jq) w1473 := by rw [hw1474]; exact hW1462.set (k := 18) rfl ⟨_, gb1472, iA_n (upd_nI g1469 (lm + 1) ((g1469 lm) + mm1249))⟩
                      have k1476 : w1473[4]? = some (bA E (a 4) 260 tf) := by rw [hw1474]; exact set_ne k1463 (by decide)
                      have k1477 : w1473[0]? = some (ob (a 0) 11 [.ref (a 1), .ref (a 2), .ref (a 3), .ref (a 4), .int (nI tp), .int (nI ((pl1231 + 1) + 1)), .int (nI le), .int v1237, .int nu1232, .int v1238, .int (nI cm), .int (nI wt), .int (nI sm), .int (nI (cd.2.2.2.2.2)), .ref (a 5), .ref (a 6), .ref (a 7), .ref (a 8), .ref (a 9), .ref (a 10), .ref (a 11), .ref (a 12), .ref (a 13), .ref (a 14), .ref (a 15), .ref (a 16), .ref (a 17), .int (nI lm), .ref (a 18), .ref (a 19), .ref (a 20), .ref (a 21), .int v1239, .int v1240, .int v1241, .int v1242, .int (nI n1243), .int (nI n1244), .ref (a 22), .ref (a 23), .ref (a 24), .ref (a 25), .ref (a 26), .ref (a 27), .ref (a 28), .ref (a 29), .ref (a 30), .int kf]) := by rw [hw1474]; exact set_ne k1464 (by decide)
                      have k1478 : w1473[19]? = some (iA E (a 19) 24 (upd f1268 (nI lm).toNatClampNeg r1255)) := by rw [hw1474]; exact set_ne k1465 (by decide)
                      have k1479 : w1473[20]? = some (iA E (a 20) 24 (fun j => nI ((updn (updn g1277 lm 0) lm ((48 + d1434) - 48)) j))) := by rw [hw1474]; exact set_ne k1466 (by decide)
                      have k1480 : w1473[18]? = some (iA E (a 18) 25 (upd (fun j => nI (g1469 j)) (lm + 1) (nI ((g1469 lm) + mm1249)))) := by rw [hw1474]; exact set_eq k1468
                      have kp1481 := keeps_set kp1467 hw1474 (by first | exact rfl | decide | omega | (dsimp only; omega))
                      have k1482 : w1473[18]? = some (iA E (a 18) 25 (fun j => nI ((updn g1469 (lm + 1) ((g1469 lm) + mm1249)) j))) := by rw [← upd_nI]; exact k1480
                      refine x_aload_n C dX12_readsLine_222 rfl 2 rfl rfl ?_
                      refine x_aload_n C dX12_readsLine_223 rfl 2 rfl rfl ?_
                      refine x_get C (ci := 11) (k := 27) 0 k1477 rfl in_X12 (by decide) w_1145 rfl dX12_readsLine_224 rfl ?_
                      refine x_iconst C (v := 1) dX12_readsLine_227 (by decide) rfl ?_
                      refine x_iadd C (v := (nI (lm + 1))) dX12_readsLine_228 (nI_add lm 1) rfl ?_
                      obtain ⟨w1483, hw1484⟩ : ∃ w : va_W, w = List.set w1473 0 (ob (a 0) 11 [.ref (a 1), .ref (a 2), .ref (a 3), .ref (a 4), .int (nI tp), .int (nI ((pl1231 + 1) + 1)), .int (nI le), .int v1237, .int nu1232, .int v1238, .int (nI cm), .int (nI wt), .int (nI sm), .int (nI (cd.2.2.2.2.2)), .ref (a 5), .ref (a 6), .ref (a 7), .ref (a 8), .ref (a 9), .ref (a 10), .ref (a 11), .ref (a 12), .ref (a 13), .ref (a 14), .ref (a 15), .ref (a 16), .ref (a 17), .int (nI (lm + 1)), .ref (a 18), .ref (a 19), .ref (a 20), .ref (a 21), .int v1239, .int v1240, .int v1241, .int v1242, .int (nI n1243), .int (nI n1244), .ref (a 22), .ref (a 23), .ref (a 24), .ref (a 25), .ref (a 26), .ref (a 27), .ref (a 28), .ref (a 29), .ref (a 30), .int kf]) := ⟨_, rfl⟩
                      refine x_put C (ci := 11) (k := 27) (ty := .int) 0 k1477 rfl in_X12 tyX12 tyX12_ok nmX12 (by decide) w_1145 rfl rfl rfl rfl (Nat.le_of_ble_eq_true rfl) hw1484.symm dX12_readsLine_229 rfl ?_
                      have hW1485 : WX (okM E a cd kf jn js jq) w1483 := by rw [hw1484]; exact hW1475.set (k := 0) rfl ⟨tp, ((pl1231 + 1) + 1), le, v1237, nu1232, v1238, cm, wt, sm, (lm + 1), v1239, v1240, v1241, v1242, n1243, n1244, by omega, by omega, by omega, by omega, by omega, by omega, by omega, by omega, by omega, rfl⟩
                      have k1486 : w1483[4]? = some (bA E (a 4) 260 tf) := by rw [hw1484]; exact set_ne k1476 (by decide)
                      have k1487 : w1483[0]? = some (ob (a 0) 11 [.ref (a 1), .ref (a 2), .ref (a 3), .ref (a 4), .int (nI tp), .int (nI ((pl1231 + 1) + 1)), .int (nI le), .int v1237, .int nu1232, .int v1238, .int (nI cm), .int (nI wt), .int (nI sm), .int (nI (cd.2.2.2.2.2)), .ref (a 5), .ref (a 6), .ref (a 7), .ref (a 8), .ref (a 9), .ref (a 10), .ref (a 11), .ref (a 12), .ref (a 13), .ref (a 14), .ref (a 15), .ref (a 16), .ref (a 17), .int (nI (lm + 1)), .ref (a 18), .ref (a 19), .ref (a 20), .ref (a 21), .int v1239, .int v1240, .int v1241, .int v1242, .int (nI n1243), .int (nI n1244), .ref (a 22), .ref (a 23), .ref (a 24), .ref (a 25), .ref (a 26), .ref (a 27), .ref (a 28), .ref (a 29), .ref (a 30), .int kf]) := by rw [hw1484]; exact set_eq k1477
                      have k1488 : w1483[19]? = some (iA E (a 19) 24 (upd f1268 (nI lm).toNatClampNeg r1255)) := by rw [hw1484]; exact set_ne k1478 (by decide)
                      have k1489 : w1483[20]? = some (iA E (a 20) 24 (fun j => nI ((updn (updn g1277 lm 0) lm ((48 + d1434) - 48)) j))) := by rw [hw1484]; exact set_ne k1479 (by decide)
                      have k1490 : w1483[18]? = some (iA E (a 18) 25 (fun j => nI ((updn g1469 (lm + 1) ((g1469 lm) + mm1249)) j))) := by rw [hw1484]; exact set_ne k1482 (by decide)
                      have kp1491 := keeps_set kp1481 hw1484 (by first | exact rfl | decide | omega | (dsimp only; omega))
                      refine x_iconst C (v := 1) dX12_readsLine_232 (by decide) rfl ?_
                      exact x_zret C hr hlk rfl dX12_readsLine_233 ⟨hW1485, kp1491, (Or.inr rfl), ⟨((pl1231 + 1) + 1), (lm + 1), nu1232, by omega, by omega, by omega, ⟨v1237, v1238, v1239, v1240, v1241, v1242, n1243, n1244, ⟨by omega, by omega, by omega, by omega, by omega, by omega, by omega⟩, ⟨by omega, by omega⟩, k1487⟩⟩⟩
                    · skip
                      have nf1492 := nI_nle' (a := (48 + d1434)) (b := 55) c1443 (by omega) (by omega)
                      refine x_aload_n C dX12_readsLine_164 rfl 2 rfl rfl ?_
                      refine x_iconst C (v := 3) dX12_readsLine_165 (by decide) rfl ?_
                      refine x_aload_n C dX12_readsLine_166 rfl 2 rfl rfl ?_
                      refine x_get C (ci := 11) (k := 5) 0 k1284 rfl in_X12 (by decide) w_1123 rfl dX12_readsLine_167 rfl ?_
                      refine x_vi C (As := [.int 3, .int (nI (pl1231 + 1))]) (rest := []) (m_wrongAt E l a cd hG kf jn js jq w1280 hW1282 (3 : Int32) ((nI (pl1231 + 1))) tp (pl1231 + 1) le cm wt sm lm nu1232 ⟨v1237, v1238, v1239, v1240, v1241, v1242, n1243, n1244, ⟨by omega, by omega, by omega, by omega, by omega, by omega, by omega⟩, ⟨by omega, by omega⟩, k1284⟩) mf_X12_wrongAt w_1324 0 k1284 rfl rfl rfl (Nat.le_of_ble_eq_true rfl) ⟨(Nat.le_of_ble_eq_true rfl), (Nat.le_of_ble_eq_true rfl)⟩ ⟨(Nat.le_of_ble_eq_true rfl), (Nat.le_of_ble_eq_true rfl)⟩ dX12_readsLine_170 rfl (fun r1494 w1495 h1493 => ?_)
                      obtain ⟨hW1496, kq1497, e1498, x1499⟩ := h1493
                      refine x_top e1498 ?_
                      have k1500 : w1495[4]? = some (bA E (a 4) 260 tf) := keeps_at kq1497 k1283 (by first | decide | omega | (dsimp only; omega))
                      have k1501 : w1495[19]? = some (iA E (a 19) 24 (upd f1268 (nI lm).toNatClampNeg r1255)) := keeps_at kq1497 k1285 (by first | decide | omega | (dsimp only; omega))
                      have k1502 : w1495[20]? = some (iA E (a 20) 24 (fun j => nI ((updn g1277 lm 0) j))) := keeps_at kq1497 k1288 (by first | decide | omega | (dsimp only; omega))
                      have kp1503 := keeps_tr kp1287 kq1497 (fun q hq => by first | omega | (dsimp only at *; omega))
                      obtain ⟨v1504, v1505, v1506, v1507, v1508, v1509, n1510, n1511, bo1512, bo1513, k1514⟩ := x1499
                      exact x_zret C hr hlk rfl dX12_readsLine_173 ⟨hW1496, kp1503, (Or.inl rfl), ⟨((pl1231 + 1)), lm, nu1232, by omega, by omega, by omega, ⟨v1504, v1505, v1506, v1507, v1508, v1509, n1510, n1511, ⟨by omega, by omega, by omega, by omega, by omega, by omega, by omega⟩, ⟨by omega, by omega⟩, k1514⟩⟩⟩
                  · skip
                    refine x_aload_n C dX12_readsLine_145 rfl 2 rfl rfl ?_
                    refine x_iconst C (v := 1) dX12_readsLine_146 (by decide) rfl ?_
                    refine x_aload_n C dX12_readsLine_147 rfl 2 rfl rfl ?_
                    refine x_get C (ci := 11) (k := 5) 0 k1284 rfl in_X12 (by decide) w_1123 rfl dX12_readsLine_148 rfl ?_
                    refine x_vi C (As := [.int 1, .int (nI (pl1231 + 1))]) (rest := []) (m_wrongAt E l a cd hG kf jn js jq w1280 hW1282 (1 : Int32) ((nI (pl1231 + 1))) tp (pl1231 + 1) le cm wt sm lm nu1232 ⟨v1237, v1238, v1239, v1240, v1241, v1242, n1243, n1244, ⟨by omega, by omega, by omega, by omega, by omega, by omega, by omega⟩, ⟨by omega, by omega⟩, k1284⟩) mf_X12_wrongAt w_1324 0 k1284 rfl rfl rfl (Nat.le_of_ble_eq_true rfl) ⟨(Nat.le_of_ble_eq_true rfl), (Nat.le_of_ble_eq_true rfl)⟩ ⟨(Nat.le_of_ble_eq_true rfl), (Nat.le_of_ble_eq_true rfl)⟩ dX12_readsLine_151 rfl (fun r1516 w1517 h1515 => ?_)
                    obtain ⟨hW1518, kq1519, e1520, x1521⟩ := h1515
                    refine x_top e1520 ?_
                    have k1522 : w1517[4]? = some (bA E (a 4) 260 tf) := keeps_at kq1519 k1283 (by first | decide | omega | (dsimp only; omega))
                    have k1523 : w1517[19]? = some (iA E (a 19) 24 (upd f1268 (nI lm).toNatClampNeg r1255)) := keeps_at kq1519 k1285 (by first | decide | omega | (dsimp only; omega))
                    have k1524 : w1517[20]? = some (iA E (a 20) 24 (fun j => nI ((updn g1277 lm 0) j))) := keeps_at kq1519 k1288 (by first | decide | omega | (dsimp only; omega))
                    have kp1525 := keeps_tr kp1287 kq1519 (fun q hq => by first | omega | (dsimp only at *; omega))
                    obtain ⟨v1526, v1527, v1528, v1529, v1530, v1531, n1532, n1533, bo1534, bo1535, k1536⟩ := x1521
                    exact x_zret C hr hlk rfl dX12_readsLine_154 ⟨hW1518, kp1525, (Or.inl rfl), ⟨((pl1231 + 1)), lm, nu1232, by omega, by omega, by omega, ⟨v1526, v1527, v1528, v1529, v1530, v1531, n1532, n1533, ⟨by omega, by omega, by omega, by omega, by omega, by omega, by omega⟩, ⟨by omega, by omega⟩, k1536⟩⟩⟩
            · skip
              refine x_iload_n C dX12_readsLine_68 rfl 0 rfl rfl ?_
              refine x_bipush C (v := 33) dX12_readsLine_69 (by decide) rfl ?_
              refine x_icmp_eq C (tgt := 96) dX12_readsLine_71 (by decide) rfl (fun c1537 => ?_) (fun c1537 => ?_)
              · skip
                have hp1538 := hv_lt (x1258.symm.trans c1537) (by decide)
                refine x_aload_n C dX12_readsLine_96 rfl 2 rfl rfl ?_
                refine x_aload_n C dX12_readsLine_97 rfl 2 rfl rfl ?_
                refine x_get C (ci := 11) (k := 5) 0 k1247 rfl in_X12 (by decide) w_1123 rfl dX12_readsLine_98 rfl ?_
                refine x_iconst C (v := 1) dX12_readsLine_101 (by decide) rfl ?_
                refine x_iadd C (v := (nI (pl1231 + 1))) dX12_readsLine_102 (nI_add pl1231 1) rfl ?_
                obtain ⟨w1539, hw1540⟩ : ∃ w : va_W, w = List.set w1225 0 (ob (a 0) 11 [.ref (a 1), .ref (a 2), .ref (a 3), .ref (a 4), .int (nI tp), .int (nI (pl1231 + 1)), .int (nI le), .int v1237, .int nu1232, .int v1238, .int (nI cm), .int (nI wt), .int (nI sm), .int (nI (cd.2.2.2.2.2)), .ref (a 5), .ref (a 6), .ref (a 7), .ref (a 8), .ref (a 9), .ref (a 10), .ref (a 11), .ref (a 12), .ref (a 13), .ref (a 14), .ref (a 15), .ref (a 16), .ref (a 17), .int (nI lm), .ref (a 18), .ref (a 19), .ref (a 20), .ref (a 21), .int v1239, .int v1240, .int v1241, .int v1242, .int (nI n1243), .int (nI n1244), .ref (a 22), .ref (a 23), .ref (a 24), .ref (a 25), .ref (a 26), .ref (a 27), .ref (a 28), .ref (a 29), .ref (a 30), .int kf]) := ⟨_, rfl⟩
                refine x_put C (ci := 11) (k := 5) (ty := .int) 0 k1247 rfl in_X12 tyX12 tyX12_ok nmX12 (by decide) w_1123 rfl rfl rfl rfl (Nat.le_of_ble_eq_true rfl) hw1540.symm dX12_readsLine_103 rfl ?_
                have hW1541 : WX (okM E a cd kf jn js jq) w1539 := by rw [hw1540]; exact hW1226.set (k := 0) rfl ⟨tp, (pl1231 + 1), le, v1237, nu1232, v1238, cm, wt, sm, lm, v1239, v1240, v1241, v1242, n1243, n1244, by omega, by omega, by omega, by omega, by omega, by omega, by omega, by omega, by omega, rfl⟩
                have k1542 : w1539[4]? = some (bA E (a 4) 260 tf) := by rw [hw1540]; exact set_ne k1229 (by decide)
                have k1543 : w1539[0]? = some (ob (a 0) 11 [.ref (a 1), .ref (a 2), .ref (a 3), .ref (a 4), .int (nI tp), .int (nI (pl1231 + 1)), .int (nI le), .int v1237, .int nu1232, .int v1238, .int (nI cm), .int (nI wt), .int (nI sm), .int (nI (cd.2.2.2.2.2)), .ref (a 5), .ref (a 6), .ref (a 7), .ref (a 8), .ref (a 9), .ref (a 10), .ref (a 11), .ref (a 12), .ref (a 13), .ref (a 14), .ref (a 15), .ref (a 16), .ref (a 17), .int (nI lm), .ref (a 18), .ref (a 19), .ref (a 20), .ref (a 21), .int v1239, .int v1240, .int v1241, .int v1242, .int (nI n1243), .int (nI n1244), .ref (a 22), .ref (a 23), .ref (a 24), .ref (a 25), .ref (a 26), .ref (a 27), .ref (a 28), .ref (a 29), .ref (a 30), .int kf]) := by rw [hw1540]; exact set_eq k1247
                have kp1544 := keeps_set kp1230 hw1540 (by first | exact rfl | decide | omega | (dsimp only; omega))
                refine x_aload_n C dX12_readsLine_106 rfl 2 rfl rfl ?_
                refine x_get C (ci := 11) (k := 29) 0 k1543 rfl in_X12 (by decide) w_1147 rfl dX12_readsLine_107 rfl ?_
                refine x_aload_n C dX12_readsLine_110 rfl 2 rfl rfl ?_
                refine x_get C (ci := 11) (k := 27) 0 k1543 rfl in_X12 (by decide) w_1145 rfl dX12_readsLine_111 rfl ?_
                refine x_iload_n C dX12_readsLine_114 rfl 0 rfl rfl ?_
                obtain ⟨_, k1545, f1546, rfl⟩ := hW1541 19 _ rfl
                obtain ⟨w1547, hw1548⟩ : ∃ w : va_W, w = List.set w1539 19 (iA E (a 19) 24 (upd f1546 (nI lm).toNatClampNeg r1255)) := ⟨_, rfl⟩
                refine x_iast C 19 k1545 (vp_in_nI (by omega) (by decide)) hw1548.symm dX12_readsLine_115 rfl ?_
                have hW1549 : WX (okM E a cd kf jn js jq) w1547 := by rw [hw1548]; exact hW1541.set (k := 19) rfl ⟨_, rfl⟩
                have k1550 : w1547[4]? = some (bA E (a 4) 260 tf) := by rw [hw1548]; exact set_ne k1542 (by decide)
                have k1551 : w1547[0]? = some (ob (a 0) 11 [.ref (a 1), .ref (a 2), .ref (a 3), .ref (a 4), .int (nI tp), .int (nI (pl1231 + 1)), .int (nI le), .int v1237, .int nu1232, .int v1238, .int (nI cm), .int (nI wt), .int (nI sm), .int (nI (cd.2.2.2.2.2)), .ref (a 5), .ref (a 6), .ref (a 7), .ref (a 8), .ref (a 9), .ref (a 10), .ref (a 11), .ref (a 12), .ref (a 13), .ref (a 14), .ref (a 15), .ref (a 16), .ref (a 17), .int (nI lm), .ref (a 18), .ref (a 19), .ref (a 20), .ref (a 21), .int v1239, .int v1240, .int v1241, .int v1242, .int (nI n1243), .int (nI n1244), .ref (a 22), .ref (a 23), .ref (a 24), .ref (a 25), .ref (a 26), .ref (a 27), .ref (a 28), .ref (a 29), .ref (a 30), .int kf]) := by rw [hw1548]; exact set_ne k1543 (by decide)
                have k1552 : w1547[19]? = some (iA E (a 19) 24 (upd f1546 (nI lm).toNatClampNeg r1255)) := by rw [hw1548]; exact set_eq k1545
                have kp1553 := keeps_set kp1544 hw1548 (by first | exact rfl | decide | omega | (dsimp only; omega))
                refine x_aload_n C dX12_readsLine_116 rfl 2 rfl rfl ?_
                refine x_get C (ci := 11) (k := 30) 0 k1551 rfl in_X12 (by decide) w_1148 rfl dX12_readsLine_117 rfl ?_
                refine x_aload_n C dX12_readsLine_120 rfl 2 rfl rfl ?_
                refine x_get C (ci := 11) (k := 27) 0 k1551 rfl in_X12 (by decide) w_1145 rfl dX12_readsLine_121 rfl ?_
                refine x_iconst C (v := 0) dX12_readsLine_124 (by decide) rfl ?_
                obtain ⟨_, k1554, g1555, gb1556, rfl⟩ := hW1549 20 _ rfl
                have gb1557 := updn_le (i := lm) (v := 0) gb1556 (by omega)
                obtain ⟨w1558, hw1559⟩ : ∃ w : va_W, w = List.set w1547 20 (iA E (a 20) 24 (upd (fun j => nI (g1555 j)) lm (nI 0))) := ⟨_, rfl⟩
                refine x_iask C lm (nI_clamp (by omega)) (nI_pos (by omega)) (by omega) 20 k1554 hw1559.symm dX12_readsLine_125 rfl ?_
                have hW1560 : WX (okM E a cd kf jn js jq) w1558 := by rw [hw1559]; exact hW1549.set (k := 20) rfl ⟨_, gb1557, iA_n (upd_nI g1555 lm 0)⟩
                have k1561 : w1558[4]? = some (bA E (a 4) 260 tf) := by rw [hw1559]; exact set_ne k1550 (by decide)
                have k1562 : w1558[0]? = some (ob (a 0) 11 [.ref (a 1), .ref (a 2), .ref (a 3), .ref (a 4), .int (nI tp), .int (nI (pl1231 + 1)), .int (nI le), .int v1237, .int nu1232, .int v1238, .int (nI cm), .int (nI wt), .int (nI sm), .int (nI (cd.2.2.2.2.2)), .ref (a 5), .ref (a 6), .ref (a 7), .ref (a 8), .ref (a 9), .ref (a 10), .ref (a 11), .ref (a 12), .ref (a 13), .ref (a 14), .ref (a 15), .ref (a 16), .ref (a 17), .int (nI lm), .ref (a 18), .ref (a 19), .ref (a 20), .ref (a 21), .int v1239, .int v1240, .int v1241, .int v1242, .int (nI n1243), .int (nI n1244), .ref (a 22), .ref (a 23), .ref (a 24), .ref (a 25), .ref (a 26), .ref (a 27), .ref (a 28), .ref (a 29), .ref (a 30), .int kf]) := by rw [hw1559]; exact set_ne k1551 (by decide)
                have k1563 : w1558[19]? = some (iA E (a 19) 24 (upd f1546 (nI lm).toNatClampNeg r1255)) := by rw [hw1559]; exact set_ne k1552 (by decide)
                have k1564 : w1558[20]? = some (iA E (a 20) 24 (upd (fun j => nI (g1555 j)) lm (nI 0))) := by rw [hw1559]; exact set_eq k1554
                have kp1565 := keeps_set kp1553 hw1559 (by first | exact rfl | decide | omega | (dsimp only; omega))
                have k1566 : w1558[20]? = some (iA E (a 20) 24 (fun j => nI ((updn g1555 lm 0) j))) := by rw [← upd_nI]; exact k1564
                refine x_iload_n C dX12_readsLine_126 rfl 0 rfl rfl ?_
                refine x_bipush C (v := 62) dX12_readsLine_127 (by decide) rfl ?_
                refine x_icmp_eq C (tgt := 138) dX12_readsLine_129 (by decide) rfl (fun c1567 => ?_) (fun c1567 => ?_)
                · skip
                  have hp1568 := hv_lt (x1258.symm.trans c1567) (by decide)
                  refine x_aload_n C dX12_readsLine_138 rfl 2 rfl rfl ?_
                  refine x_vi C (As := []) (rest := []) (m_isDigit E l a cd hG kf jn js jq w1558 hW1560 tp (pl1231 + 1) le cm wt sm lm nu1232 ⟨v1237, v1238, v1239, v1240, v1241, v1242, n1243, n1244, ⟨by omega, by omega, by omega, by omega, by omega, by omega, by omega⟩, ⟨by omega, by omega⟩, k1562⟩ tf k1561) mf_X12_isDigit w_1341 0 k1562 rfl rfl rfl (Nat.le_of_ble_eq_true rfl) ⟨(Nat.le_of_ble_eq_true rfl), (Nat.le_of_ble_eq_true rfl)⟩ ⟨(Nat.le_of_ble_eq_true rfl), (Nat.le_of_ble_eq_true rfl)⟩ dX12_readsLine_139 rfl (fun r1570 w1571 h1569 => ?_)
                  obtain ⟨hW1572, zb1573, x1574⟩ := h1569
                  refine x_ws hW1572 ?_
                  refine x_if_ne C (tgt := 155) dX12_readsLine_142 (by decide) rfl (fun c1575 => ?_) (fun c1575 => ?_)
                  · skip
                    obtain ⟨d1576, hd1577, ed1578, hp1579⟩ := x1574 c1575
                    refine x_aload_n C dX12_readsLine_155 rfl 2 rfl rfl ?_
                    refine x_vi C (As := []) (rest := []) (m_here E l a cd hG kf jn js jq w1558 hW1560 tp (pl1231 + 1) le cm wt sm lm nu1232 ⟨v1237, v1238, v1239, v1240, v1241, v1242, n1243, n1244, ⟨by omega, by omega, by omega, by omega, by omega, by omega, by omega⟩, ⟨by omega, by omega⟩, k1562⟩ tf k1561) mf_X12_here w_1317 0 k1562 rfl rfl rfl (Nat.le_of_ble_eq_true rfl) ⟨(Nat.le_of_ble_eq_true rfl), (Nat.le_of_ble_eq_true rfl)⟩ ⟨(Nat.le_of_ble_eq_true rfl), (Nat.le_of_ble_eq_true rfl)⟩ dX12_readsLine_156 rfl (fun r1581 w1582 h1580 => ?_)
                    obtain ⟨hW1583, x1584⟩ := h1580
                    refine x_ws hW1583 ?_
                    refine x_top (x1584.trans ed1578) ?_
                    refine x_bipush C (v := 55) dX12_readsLine_159 (by decide) rfl ?_
                    refine x_icmp_le C (tgt := 174) dX12_readsLine_161 (by decide) rfl (fun c1585 => ?_) (fun c1585 => ?_)
                    · skip
                      have nf1586 := nI_le' (a := (48 + d1576)) (b := 55) c1585 (by omega) (by omega)
                      refine x_aload_n C dX12_readsLine_174 rfl 2 rfl rfl ?_
                      refine x_get C (ci := 11) (k := 30) 0 k1562 rfl in_X12 (by decide) w_1148 rfl dX12_readsLine_175 rfl ?_
                      refine x_aload_n C dX12_readsLine_178 rfl 2 rfl rfl ?_
                      refine x_get C (ci := 11) (k := 27) 0 k1562 rfl in_X12 (by decide) w_1145 rfl dX12_readsLine_179 rfl ?_
                      refine x_aload_n C dX12_readsLine_182 rfl 2 rfl rfl ?_
                      refine x_vi C (As := []) (rest := [.int (nI lm), .ref (a 20)]) (m_here E l a cd hG kf jn js jq w1558 hW1560 tp (pl1231 + 1) le cm wt sm lm nu1232 ⟨v1237, v1238, v1239, v1240, v1241, v1242, n1243, n1244, ⟨by omega, by omega, by omega, by omega, by omega, by omega, by omega⟩, ⟨by omega, by omega⟩, k1562⟩ tf k1561) mf_X12_here w_1317 0 k1562 rfl rfl rfl (Nat.le_of_ble_eq_true rfl) ⟨(Nat.le_of_ble_eq_true rfl), (Nat.le_of_ble_eq_true rfl)⟩ ⟨(Nat.le_of_ble_eq_true rfl), (Nat.le_of_ble_eq_true rfl)⟩ dX12_readsLine_183 rfl (fun r1588 w1589 h1587 => ?_)
                      obtain ⟨hW1590, x1591⟩ := h1587
                      refine x_ws hW1590 ?_
                      refine x_top (x1591.trans ed1578) ?_
                      refine x_bipush C (v := 48) dX12_readsLine_186 (by decide) rfl ?_
                      refine x_isub C (v := (nI ((48 + d1576) - 48))) dX12_readsLine_188 (pk_sub (a := (48 + d1576)) (b := 48) (by omega)) rfl ?_
                      have gb1592 := updn_le (i := lm) (v := ((48 + d1576) - 48)) gb1557 (by omega)
                      obtain ⟨w1593, hw1594⟩ : ∃ w : va_W, w = List.set w1558 20 (iA E (a 20) 24 (upd (fun j => nI ((updn g1555 lm 0) j)) lm (nI ((48 + d1576) - 48)))) := ⟨_, rfl⟩
                      refine x_iask C lm (nI_clamp (by omega)) (nI_pos (by omega)) (by omega) 20 k1566 hw1594.symm dX12_readsLine_189 rfl ?_
                      have hW1595 : WX (okM E a cd kf jn js jq) w1593 := by rw [hw1594]; exact hW1560.set (k := 20) rfl ⟨_, gb1592, iA_n (upd_nI (updn g1555 lm 0) lm ((48 + d1576) - 48))⟩
                      have k1596 : w1593[4]? = some (bA E (a 4) 260 tf) := by rw [hw1594]; exact set_ne k1561 (by decide)
                      have k1597 : w1593[0]? = some (ob (a 0) 11 [.ref (a 1), .ref (a 2), .ref (a 3), .ref (a 4), .int (nI tp), .int (nI (pl1231 + 1)), .int (nI le), .int v1237, .int nu1232, .int v1238, .int (nI cm), .int (nI wt), .int (nI sm), .int (nI (cd.2.2.2.2.2)), .ref (a 5), .ref (a 6), .ref (a 7), .ref (a 8), .ref (a 9), .ref (a 10), .ref (a 11), .ref (a 12), .ref (a 13), .ref (a 14), .ref (a 15), .ref (a 16), .ref (a 17), .int (nI lm), .ref (a 18), .ref (a 19), .ref (a 20), .ref (a 21), .int v1239, .int v1240, .int v1241, .int v1242, .int (nI n1243), .int (nI n1244), .ref (a 22), .ref (a 23), .ref (a 24), .ref (a 25), .ref (a 26), .ref (a 27), .ref (a 28), .ref (a 29), .ref (a 30), .int kf]) := by rw [hw1594]; exact set_ne k1562 (by decide)
                      have k1598 : w1593[19]? = some (iA E (a 19) 24 (upd f1546 (nI lm).toNatClampNeg r1255)) := by rw [hw1594]; exact set_ne k1563 (by decide)
                      have k1599 : w1593[20]? = some (iA E (a 20) 24 (upd (fun j => nI ((updn g1555 lm 0) j)) lm (nI ((48 + d1576) - 48)))) := by rw [hw1594]; exact set_eq k1566
                      have kp1600 := keeps_set kp1565 hw1594 (by first | exact rfl | decide | omega | (dsimp only; omega))
                      have k1601 : w1593[20]? = some (iA E (a 20) 24 (fun j => nI ((updn (updn g1555 lm 0) lm ((48 + d1576) - 48)) j))) := by rw [← upd_nI]; exact k1599
                      refine x_aload_n C dX12_readsLine_190 rfl 2 rfl rfl ?_
                      refine x_aload_n C dX12_readsLine_191 rfl 2 rfl rfl ?_
                      refine x_get C (ci := 11) (k := 5) 0 k1597 rfl in_X12 (by decide) w_1123 rfl dX12_readsLine_192 rfl ?_
                      refine x_iconst C (v := 1) dX12_readsLine_195 (by decide) rfl ?_
                      refine x_iadd C (v := (nI ((pl1231 + 1) + 1))) dX12_readsLine_196 (nI_add (pl1231 + 1) 1) rfl ?_
                      obtain ⟨w1602, hw1603⟩ : ∃ w : va_W, w = List.set w1593 0 (ob (a 0) 11 [.ref (a 1), .ref (a 2), .ref (a 3), .ref (a 4), .int (nI tp), .int (nI ((pl1231 + 1) + 1)), .int (nI le), .int v1237, .int nu1232, .int v1238, .int (nI cm), .int (nI wt), .int (nI sm), .int (nI (cd.2.2.2.2.2)), .ref (a 5), .ref (a 6), .ref (a 7), .ref (a 8), .ref (a 9), .ref (a 10), .ref (a 11), .ref (a 12), .ref (a 13), .ref (a 14), .ref (a 15), .ref (a 16), .ref (a 17), .int (nI lm), .ref (a 18), .ref (a 19), .ref (a 20), .ref (a 21), .int v1239, .int v1240, .int v1241, .int v1242, .int (nI n1243), .int (nI n1244), .ref (a 22), .ref (a 23), .ref (a 24), .ref (a 25), .ref (a 26), .ref (a 27), .ref (a 28), .ref (a 29), .ref (a 30), .int kf]) := ⟨_, rfl⟩
                      refine x_put C (ci := 11) (k := 5) (ty := .int) 0 k1597 rfl in_X12 tyX12 tyX12_ok nmX12 (by decide) w_1123 rfl rfl rfl rfl (Nat.le_of_ble_eq_true rfl) hw1603.symm dX12_readsLine_197 rfl ?_
                      have hW1604 : WX (okM E a cd kf jn js jq) w1602 := by rw [hw1603]; exact hW1595.set (k := 0) rfl ⟨tp, ((pl1231 + 1) + 1), le, v1237, nu1232, v1238, cm, wt, sm, lm, v1239, v1240, v1241, v1242, n1243, n1244, by omega, by omega, by omega, by omega, by omega, by omega, by omega, by omega, by omega, rfl⟩
                      have k1605 : w1602[4]? = some (bA E (a 4) 260 tf) := by rw [hw1603]; exact set_ne k1596 (by decide)
                      have k1606 : w1602[0]? = some (ob (a 0) 11 [.ref (a 1), .ref (a 2), .ref (a 3), .ref (a 4), .int (nI tp), .int (nI ((pl1231 + 1) + 1)), .int (nI le), .int v1237, .int nu1232, .int v1238, .int (nI cm), .int (nI wt), .int (nI sm), .int (nI (cd.2.2.2.2.2)), .ref (a 5), .ref (a 6), .ref (a 7), .ref (a 8), .ref (a 9), .ref (a 10), .ref (a 11), .ref (a 12), .ref (a 13), .ref (a 14), .ref (a 15), .ref (a 16), .ref (a 17), .int (nI lm), .ref (a 18), .ref (a 19), .ref (a 20), .ref (a 21), .int v1239, .int v1240, .int v1241, .int v1242, .int (nI n1243), .int (nI n1244), .ref (a 22), .ref (a 23), .ref (a 24), .ref (a 25), .ref (a 26), .ref (a 27), .ref (a 28), .ref (a 29), .ref (a 30), .int kf]) := by rw [hw1603]; exact set_eq k1597
                      have k1607 : w1602[19]? = some (iA E (a 19) 24 (upd f1546 (nI lm).toNatClampNeg r1255)) := by rw [hw1603]; exact set_ne k1598 (by decide)
                      have k1608 : w1602[20]? = some (iA E (a 20) 24 (fun j => nI ((updn (updn g1555 lm 0) lm ((48 + d1576) - 48)) j))) := by rw [hw1603]; exact set_ne k1601 (by decide)
                      have kp1609 := keeps_set kp1600 hw1603 (by first | exact rfl | decide | omega | (dsimp only; omega))
                      refine x_aload_n C dX12_readsLine_200 rfl 2 rfl rfl ?_
                      refine x_get C (ci := 11) (k := 28) 0 k1606 rfl in_X12 (by decide) w_1146 rfl dX12_readsLine_201 rfl ?_
                      refine x_aload_n C dX12_readsLine_204 rfl 2 rfl rfl ?_
                      refine x_get C (ci := 11) (k := 27) 0 k1606 rfl in_X12 (by decide) w_1145 rfl dX12_readsLine_205 rfl ?_
                      refine x_iconst C (v := 1) dX12_readsLine_208 (by decide) rfl ?_
                      refine x_iadd C (v := (nI (lm + 1))) dX12_readsLine_209 (nI_add lm 1) rfl ?_
                      refine x_aload_n C dX12_readsLine_210 rfl 2 rfl rfl ?_
                      refine x_get C (ci := 11) (k := 28) 0 k1606 rfl in_X12 (by decide) w_1146 rfl dX12_readsLine_211 rfl ?_
                      refine x_aload_n C dX12_readsLine_214 rfl 2 rfl rfl ?_
                      refine x_get C (ci := 11) (k := 27) 0 k1606 rfl in_X12 (by decide) w_1145 rfl dX12_readsLine_215 rfl ?_
                      obtain ⟨_, k1610, g1611, gb1612, rfl⟩ := hW1604 18 _ rfl
                      refine x_ialk C (v := nI (g1611 lm)) lm (nI_clamp (by omega)) (nI_pos (by omega)) (by omega) 18 k1610 rfl dX12_readsLine_218 rfl ?_
                      have bx1613 := gb1612 lm
                      refine x_iload_n C dX12_readsLine_219 rfl 1 rfl rfl ?_
                      refine x_iadd C (v := (nI ((g1611 lm) + mm1249))) dX12_readsLine_220 (nI_add (g1611 lm) mm1249) rfl ?_
                      have gb1614 := updn_leF (i := (lm + 1)) (v := ((g1611 lm) + mm1249)) gb1612 (by omega)
                      obtain ⟨w1615, hw1616⟩ : ∃ w : va_W, w = List.set w1602 18 (iA E (a 18) 25 (upd (fun j => nI (g1611 j)) (lm + 1) (nI ((g1611 lm) + mm1249)))) := ⟨_, rfl⟩
                      refine x_iask C (lm + 1) (nI_clamp (by omega)) (nI_pos (by omega)) (by omega) 18 k1610 hw1616.symm dX12_readsLine_221 rfl ?_
                      have hW1617 : WX (okM E a cd kf jn js jq) w1615 := by rw [hw1616]; exact hW1604.set (k := 18) rfl ⟨_, gb1614, iA_n (upd_nI g1611 (lm + 1) ((g1611 lm) + mm1249))⟩
                      have k1618 : w1615[4]? = some (bA E (a 4) 260 tf) := by rw [hw1616]; exact set_ne k1605 (by decide)
                      have k1619 : w1615[0]? = some (ob (a 0) 11 [.ref (a 1), .ref (a 2), .ref (a 3), .ref (a 4), .int (nI tp), .int (nI ((pl1231 + 1) + 1)), .int (nI le), .int v1237, .int nu1232, .int v1238, .int (nI cm), .int (nI wt), .int (nI sm), .int (nI (cd.2.2.2.2.2)), .ref (a 5), .ref (a 6), .ref (a 7), .ref (a 8), .ref (a 9), .ref (a 10), .ref (a 11), .ref (a 12), .ref (a 13), .ref (a 14), .ref (a 15), .ref (a 16), .ref (a 17), .int (nI lm), .ref (a 18), .ref (a 19), .ref (a 20), .ref (a 21), .int v1239, .int v1240, .int v1241, .int v1242, .int (nI n1243), .int (nI n1244), .ref (a 22), .ref (a 23), .ref (a 24), .ref (a 25), .ref (a 26), .ref (a 27), .ref (a 28), .ref (a 29), .ref (a 30), .int kf]) := by rw [hw1616]; exact set_ne k1606 (by decide)
                      have k1620 : w1615[19]? = some (iA E (a 19) 24 (upd f1546 (nI lm).toNatClampNeg r1255)) := by rw [hw1616]; exact set_ne k1607 (by decide)
                      have k1621 : w1615[20]? = some (iA E (a 20) 24 (fun j => nI ((updn (updn g1555 lm 0) lm ((48 + d1576) - 48)) j))) := by rw [hw1616]; exact set_ne k1608 (by decide)
                      have k1622 : w1615[18]? = some (iA E (a 18) 25 (upd (fun j => nI (g1611 j)) (lm + 1) (nI ((g1611 lm) + mm1249)))) := by rw [hw1616]; exact set_eq k1610
                      have kp1623 := keeps_set kp1609 hw1616 (by first | exact rfl | decide | omega | (dsimp only; omega))
                      have k1624 : w1615[18]? = some (iA E (a 18) 25 (fun j => nI ((updn g1611 (lm + 1) ((g1611 lm) + mm1249)) j))) := by rw [← upd_nI]; exact k1622
                      refine x_aload_n C dX12_readsLine_222 rfl 2 rfl rfl ?_
                      refine x_aload_n C dX12_readsLine_223 rfl 2 rfl rfl ?_
                      refine x_get C (ci := 11) (k := 27) 0 k1619 rfl in_X12 (by decide) w_1145 rfl dX12_readsLine_224 rfl ?_
                      refine x_iconst C (v := 1) dX12_readsLine_227 (by decide) rfl ?_
                      refine x_iadd C (v := (nI (lm + 1))) dX12_readsLine_228 (nI_add lm 1) rfl ?_
                      obtain ⟨w1625, hw1626⟩ : ∃ w : va_W, w = List.set w1615 0 (ob (a 0) 11 [.ref (a 1), .ref (a 2), .ref (a 3), .ref (a 4), .int (nI tp), .int (nI ((pl1231 + 1) + 1)), .int (nI le), .int v1237, .int nu1232, .int v1238, .int (nI cm), .int (nI wt), .int (nI sm), .int (nI (cd.2.2.2.2.2)), .ref (a 5), .ref (a 6), .ref (a 7), .ref (a 8), .ref (a 9), .ref (a 10), .ref (a 11), .ref (a 12), .ref (a 13), .ref (a 14), .ref (a 15), .ref (a 16), .ref (a 17), .int (nI (lm + 1)), .ref (a 18), .ref (a 19), .ref (a 20), .ref (a 21), .int v1239, .int v1240, .int v1241, .int v1242, .int (nI n1243), .int (nI n1244), .ref (a 22), .ref (a 23), .ref (a 24), .ref (a 25), .ref (a 26), .ref (a 27), .ref (a 28), .ref (a 29), .ref (a 30), .int kf]) := ⟨_, rfl⟩
                      refine x_put C (ci := 11) (k := 27) (ty := .int) 0 k1619 rfl in_X12 tyX12 tyX12_ok nmX12 (by decide) w_1145 rfl rfl rfl rfl (Nat.le_of_ble_eq_true rfl) hw1626.symm dX12_readsLine_229 rfl ?_
                      have hW1627 : WX (okM E a cd kf jn js jq) w1625 := by rw [hw1626]; exact hW1617.set (k := 0) rfl ⟨tp, ((pl1231 + 1) + 1), le, v1237, nu1232, v1238, cm, wt, sm, (lm + 1), v1239, v1240, v1241, v1242, n1243, n1244, by omega, by omega, by omega, by omega, by omega, by omega, by omega, by omega, by omega, rfl⟩
                      have k1628 : w1625[4]? = some (bA E (a 4) 260 tf) := by rw [hw1626]; exact set_ne k1618 (by decide)
                      have k1629 : w1625[0]? = some (ob (a 0) 11 [.ref (a 1), .ref (a 2), .ref (a 3), .ref (a 4), .int (nI tp), .int (nI ((pl1231 + 1) + 1)), .int (nI le), .int v1237, .int nu1232, .int v1238, .int (nI cm), .int (nI wt), .int (nI sm), .int (nI (cd.2.2.2.2.2)), .ref (a 5), .ref (a 6), .ref (a 7), .ref (a 8), .ref (a 9), .ref (a 10), .ref (a 11), .ref (a 12), .ref (a 13), .ref (a 14), .ref (a 15), .ref (a 16), .ref (a 17), .int (nI (lm + 1)), .ref (a 18), .ref (a 19), .ref (a 20), .ref (a 21), .int v1239, .int v1240, .int v1241, .int v1242, .int (nI n1243), .int (nI n1244), .ref (a 22), .ref (a 23), .ref (a 24), .ref (a 25), .ref (a 26), .ref (a 27), .ref (a 28), .ref (a 29), .ref (a 30), .int kf]) := by rw [hw1626]; exact set_eq k1619
                      have k1630 : w1625[19]? = some (iA E (a 19) 24 (upd f1546 (nI lm).toNatClampNeg r1255)) := by rw [hw1626]; exact set_ne k1620 (by decide)
                      have k1631 : w1625[20]? = some (iA E (a 20) 24 (fun j => nI ((updn (updn g1555 lm 0) lm ((48 + d1576) - 48)) j))) := by rw [hw1626]; exact set_ne k1621 (by decide)
                      have k1632 : w1625[18]? = some (iA E (a 18) 25 (fun j => nI ((updn g1611 (lm + 1) ((g1611 lm) + mm1249)) j))) := by rw [hw1626]; exact set_ne k1624 (by decide)
                      have kp1633 := keeps_set kp1623 hw1626 (by first | exact rfl | decide | omega | (dsimp only; omega))
                      refine x_iconst C (v := 1) dX12_readsLine_232 (by decide) rfl ?_
                      exact x_zret C hr hlk rfl dX12_readsLine_233 ⟨hW1627, kp1633, (Or.inr rfl), ⟨((pl1231 + 1) + 1), (lm + 1), nu1232, by omega, by omega, by omega, ⟨v1237, v1238, v1239, v1240, v1241, v1242, n1243, n1244, ⟨by omega, by omega, by omega, by omega, by omega, by omega, by omega⟩, ⟨by omega, by omega⟩, k1629⟩⟩⟩
                    · skip
                      have nf1634 := nI_nle' (a := (48 + d1576)) (b := 55) c1585 (by omega) (by omega)
                      refine x_aload_n C dX12_readsLine_164 rfl 2 rfl rfl ?_
                      refine x_iconst C (v := 3) dX12_readsLine_165 (by decide) rfl ?_
                      refine x_aload_n C dX12_readsLine_166 rfl 2 rfl rfl ?_
                      refine x_get C (ci := 11) (k := 5) 0 k1562 rfl in_X12 (by decide) w_1123 rfl dX12_readsLine_167 rfl ?_
                      refine x_vi C (As := [.int 3, .int (nI (pl1231 + 1))]) (rest := []) (m_wrongAt E l a cd hG kf jn js jq w1558 hW1560 (3 : Int32) ((nI (pl1231 + 1))) tp (pl1231 + 1) le cm wt sm lm nu1232 ⟨v1237, v1238, v1239, v1240, v1241, v1242, n1243, n1244, ⟨by omega, by omega, by omega, by omega, by omega, by omega, by omega⟩, ⟨by omega, by omega⟩, k1562⟩) mf_X12_wrongAt w_1324 0 k1562 rfl rfl rfl (Nat.le_of_ble_eq_true rfl) ⟨(Nat.le_of_ble_eq_true rfl), (Nat.le_of_ble_eq_true rfl)⟩ ⟨(Nat.le_of_ble_eq_true rfl), (Nat.le_of_ble_eq_true rfl)⟩ dX12_readsLine_170 rfl (fun r1636 w1637 h1635 => ?_)
                      obtain ⟨hW1638, kq1639, e1640, x1641⟩ := h1635
                      refine x_top e1640 ?_
                      have k1642 : w1637[4]? = some (bA E (a 4) 260 tf) := keeps_at kq1639 k1561 (by first | decide | omega | (dsimp only; omega))
                      have k1643 : w1637[19]? = some (iA E (a 19) 24 (upd f1546 (nI lm).toNatClampNeg r1255)) := keeps_at kq1639 k1563 (by first | decide | omega | (dsimp only; omega))
                      have k1644 : w1637[20]? = some (iA E (a 20) 24 (fun j => nI ((updn g1555 lm 0) j))) := keeps_at kq1639 k1566 (by first | decide | omega | (dsimp only; omega))
                      have kp1645 := keeps_tr kp1565 kq1639 (fun q hq => by first | omega | (dsimp only at *; omega))
                      obtain ⟨v1646, v1647, v1648, v1649, v1650, v1651, n1652, n1653, bo1654, bo1655, k1656⟩ := x1641
                      exact x_zret C hr hlk rfl dX12_readsLine_173 ⟨hW1638, kp1645, (Or.inl rfl), ⟨((pl1231 + 1)), lm, nu1232, by omega, by omega, by omega, ⟨v1646, v1647, v1648, v1649, v1650, v1651, n1652, n1653, ⟨by omega, by omega, by omega, by omega, by omega, by omega, by omega⟩, ⟨by omega, by omega⟩, k1656⟩⟩⟩
                  · skip
                    refine x_aload_n C dX12_readsLine_145 rfl 2 rfl rfl ?_
                    refine x_iconst C (v := 1) dX12_readsLine_146 (by decide) rfl ?_
                    refine x_aload_n C dX12_readsLine_147 rfl 2 rfl rfl ?_
                    refine x_get C (ci := 11) (k := 5) 0 k1562 rfl in_X12 (by decide) w_1123 rfl dX12_readsLine_148 rfl ?_
                    refine x_vi C (As := [.int 1, .int (nI (pl1231 + 1))]) (rest := []) (m_wrongAt E l a cd hG kf jn js jq w1558 hW1560 (1 : Int32) ((nI (pl1231 + 1))) tp (pl1231 + 1) le cm wt sm lm nu1232 ⟨v1237, v1238, v1239, v1240, v1241, v1242, n1243, n1244, ⟨by omega, by omega, by omega, by omega, by omega, by omega, by omega⟩, ⟨by omega, by omega⟩, k1562⟩) mf_X12_wrongAt w_1324 0 k1562 rfl rfl rfl (Nat.le_of_ble_eq_true rfl) ⟨(Nat.le_of_ble_eq_true rfl), (Nat.le_of_ble_eq_true rfl)⟩ ⟨(Nat.le_of_ble_eq_true rfl), (Nat.le_of_ble_eq_true rfl)⟩ dX12_readsLine_151 rfl (fun r1658 w1659 h1657 => ?_)
                    obtain ⟨hW1660, kq1661, e1662, x1663⟩ := h1657
                    refine x_top e1662 ?_
                    have k1664 : w1659[4]? = some (bA E (a 4) 260 tf) := keeps_at kq1661 k1561 (by first | decide | omega | (dsimp only; omega))
                    have k1665 : w1659[19]? = some (iA E (a 19) 24 (upd f1546 (nI lm).toNatClampNeg r1255)) := keeps_at kq1661 k1563 (by first | decide | omega | (dsimp only; omega))
                    have k1666 : w1659[20]? = some (iA E (a 20) 24 (fun j => nI ((updn g1555 lm 0) j))) := keeps_at kq1661 k1566 (by first | decide | omega | (dsimp only; omega))
                    have kp1667 := keeps_tr kp1565 kq1661 (fun q hq => by first | omega | (dsimp only at *; omega))
                    obtain ⟨v1668, v1669, v1670, v1671, v1672, v1673, n1674, n1675, bo1676, bo1677, k1678⟩ := x1663
                    exact x_zret C hr hlk rfl dX12_readsLine_154 ⟨hW1660, kp1667, (Or.inl rfl), ⟨((pl1231 + 1)), lm, nu1232, by omega, by omega, by omega, ⟨v1668, v1669, v1670, v1671, v1672, v1673, n1674, n1675, ⟨by omega, by omega, by omega, by omega, by omega, by omega, by omega⟩, ⟨by omega, by omega⟩, k1678⟩⟩⟩
                · skip
                  refine x_iload_n C dX12_readsLine_132 rfl 0 rfl rfl ?_
                  refine x_bipush C (v := 33) dX12_readsLine_133 (by decide) rfl ?_
                  refine x_icmp_ne C (tgt := 200) dX12_readsLine_135 (by decide) rfl (fun c1679 => ?_) (fun c1679 => ?_)
                  · skip
                    refine x_aload_n C dX12_readsLine_200 rfl 2 rfl rfl ?_
                    refine x_get C (ci := 11) (k := 28) 0 k1562 rfl in_X12 (by decide) w_1146 rfl dX12_readsLine_201 rfl ?_
                    refine x_aload_n C dX12_readsLine_204 rfl 2 rfl rfl ?_
                    refine x_get C (ci := 11) (k := 27) 0 k1562 rfl in_X12 (by decide) w_1145 rfl dX12_readsLine_205 rfl ?_
                    refine x_iconst C (v := 1) dX12_readsLine_208 (by decide) rfl ?_
                    refine x_iadd C (v := (nI (lm + 1))) dX12_readsLine_209 (nI_add lm 1) rfl ?_
                    refine x_aload_n C dX12_readsLine_210 rfl 2 rfl rfl ?_
                    refine x_get C (ci := 11) (k := 28) 0 k1562 rfl in_X12 (by decide) w_1146 rfl dX12_readsLine_211 rfl ?_
                    refine x_aload_n C dX12_readsLine_214 rfl 2 rfl rfl ?_
                    refine x_get C (ci := 11) (k := 27) 0 k1562 rfl in_X12 (by decide) w_1145 rfl dX12_readsLine_215 rfl ?_
                    obtain ⟨_, k1680, g1681, gb1682, rfl⟩ := hW1560 18 _ rfl
                    refine x_ialk C (v := nI (g1681 lm)) lm (nI_clamp (by omega)) (nI_pos (by omega)) (by omega) 18 k1680 rfl dX12_readsLine_218 rfl ?_
                    have bx1683 := gb1682 lm
                    refine x_iload_n C dX12_readsLine_219 rfl 1 rfl rfl ?_
                    refine x_iadd C (v := (nI ((g1681 lm) + mm1249))) dX12_readsLine_220 (nI_add (g1681 lm) mm1249) rfl ?_
                    have gb1684 := updn_leF (i := (lm + 1)) (v := ((g1681 lm) + mm1249)) gb1682 (by omega)
                    obtain ⟨w1685, hw1686⟩ : ∃ w : va_W, w = List.set w1558 18 (iA E (a 18) 25 (upd (fun j => nI (g1681 j)) (lm + 1) (nI ((g1681 lm) + mm1249)))) := ⟨_, rfl⟩
                    refine x_iask C (lm + 1) (nI_clamp (by omega)) (nI_pos (by omega)) (by omega) 18 k1680 hw1686.symm dX12_readsLine_221 rfl ?_
                    have hW1687 : WX (okM E a cd kf jn js jq) w1685 := by rw [hw1686]; exact hW1560.set (k := 18) rfl ⟨_, gb1684, iA_n (upd_nI g1681 (lm + 1) ((g1681 lm) + mm1249))⟩
                    have k1688 : w1685[4]? = some (bA E (a 4) 260 tf) := by rw [hw1686]; exact set_ne k1561 (by decide)
                    have k1689 : w1685[0]? = some (ob (a 0) 11 [.ref (a 1), .ref (a 2), .ref (a 3), .ref (a 4), .int (nI tp), .int (nI (pl1231 + 1)), .int (nI le), .int v1237, .int nu1232, .int v1238, .int (nI cm), .int (nI wt), .int (nI sm), .int (nI (cd.2.2.2.2.2)), .ref (a 5), .ref (a 6), .ref (a 7), .ref (a 8), .ref (a 9), .ref (a 10), .ref (a 11), .ref (a 12), .ref (a 13), .ref (a 14), .ref (a 15), .ref (a 16), .ref (a 17), .int (nI lm), .ref (a 18), .ref (a 19), .ref (a 20), .ref (a 21), .int v1239, .int v1240, .int v1241, .int v1242, .int (nI n1243), .int (nI n1244), .ref (a 22), .ref (a 23), .ref (a 24), .ref (a 25), .ref (a 26), .ref (a 27), .ref (a 28), .ref (a 29), .ref (a 30), .int kf]) := by rw [hw1686]; exact set_ne k1562 (by decide)
                    have k1690 : w1685[19]? = some (iA E (a 19) 24 (upd f1546 (nI lm).toNatClampNeg r1255)) := by rw [hw1686]; exact set_ne k1563 (by decide)
                    have k1691 : w1685[20]? = some (iA E (a 20) 24 (fun j => nI ((updn g1555 lm 0) j))) := by rw [hw1686]; exact set_ne k1566 (by decide)
                    have k1692 : w1685[18]? = some (iA E (a 18) 25 (upd (fun j => nI (g1681 j)) (lm + 1) (nI ((g1681 lm) + mm1249)))) := by rw [hw1686]; exact set_eq k1680
                    have kp1693 := keeps_set kp1565 hw1686 (by first | exact rfl | decide | omega | (dsimp only; omega))
                    have k1694 : w1685[18]? = some (iA E (a 18) 25 (fun j => nI ((updn g1681 (lm + 1) ((g1681 lm) + mm1249)) j))) := by rw [← upd_nI]; exact k1692
                    refine x_aload_n C dX12_readsLine_222 rfl 2 rfl rfl ?_
                    refine x_aload_n C dX12_readsLine_223 rfl 2 rfl rfl ?_
                    refine x_get C (ci := 11) (k := 27) 0 k1689 rfl in_X12 (by decide) w_1145 rfl dX12_readsLine_224 rfl ?_
                    refine x_iconst C (v := 1) dX12_readsLine_227 (by decide) rfl ?_
                    refine x_iadd C (v := (nI (lm + 1))) dX12_readsLine_228 (nI_add lm 1) rfl ?_
                    obtain ⟨w1695, hw1696⟩ : ∃ w : va_W, w = List.set w1685 0 (ob (a 0) 11 [.ref (a 1), .ref (a 2), .ref (a 3), .ref (a 4), .int (nI tp), .int (nI (pl1231 + 1)), .int (nI le), .int v1237, .int nu1232, .int v1238, .int (nI cm), .int (nI wt), .int (nI sm), .int (nI (cd.2.2.2.2.2)), .ref (a 5), .ref (a 6), .ref (a 7), .ref (a 8), .ref (a 9), .ref (a 10), .ref (a 11), .ref (a 12), .ref (a 13), .ref (a 14), .ref (a 15), .ref (a 16), .ref (a 17), .int (nI (lm + 1)), .ref (a 18), .ref (a 19), .ref (a 20), .ref (a 21), .int v1239, .int v1240, .int v1241, .int v1242, .int (nI n1243), .int (nI n1244), .ref (a 22), .ref (a 23), .ref (a 24), .ref (a 25), .ref (a 26), .ref (a 27), .ref (a 28), .ref (a 29), .ref (a 30), .int kf]) := ⟨_, rfl⟩
                    refine x_put C (ci := 11) (k := 27) (ty := .int) 0 k1689 rfl in_X12 tyX12 tyX12_ok nmX12 (by decide) w_1145 rfl rfl rfl rfl (Nat.le_of_ble_eq_true rfl) hw1696.symm dX12_readsLine_229 rfl ?_
                    have hW1697 : WX (okM E a cd kf jn js jq) w1695 := by rw [hw1696]; exact hW1687.set (k := 0) rfl ⟨tp, (pl1231 + 1), le, v1237, nu1232, v1238, cm, wt, sm, (lm + 1), v1239, v1240, v1241, v1242, n1243, n1244, by omega, by omega, by omega, by omega, by omega, by omega, by omega, by omega, by omega, rfl⟩
                    have k1698 : w1695[4]? = some (bA E (a 4) 260 tf) := by rw [hw1696]; exact set_ne k1688 (by decide)
                    have k1699 : w1695[0]? = some (ob (a 0) 11 [.ref (a 1), .ref (a 2), .ref (a 3), .ref (a 4), .int (nI tp), .int (nI (pl1231 + 1)), .int (nI le), .int v1237, .int nu1232, .int v1238, .int (nI cm), .int (nI wt), .int (nI sm), .int (nI (cd.2.2.2.2.2)), .ref (a 5), .ref (a 6), .ref (a 7), .ref (a 8), .ref (a 9), .ref (a 10), .ref (a 11), .ref (a 12), .ref (a 13), .ref (a 14), .ref (a 15), .ref (a 16), .ref (a 17), .int (nI (lm + 1)), .ref (a 18), .ref (a 19), .ref (a 20), .ref (a 21), .int v1239, .int v1240, .int v1241, .int v1242, .int (nI n1243), .int (nI n1244), .ref (a 22), .ref (a 23), .ref (a 24), .ref (a 25), .ref (a 26), .ref (a 27), .ref (a 28), .ref (a 29), .ref (a 30), .int kf]) := by rw [hw1696]; exact set_eq k1689
                    have k1700 : w1695[19]? = some (iA E (a 19) 24 (upd f1546 (nI lm).toNatClampNeg r1255)) := by rw [hw1696]; exact set_ne k1690 (by decide)
                    have k1701 : w1695[20]? = some (iA E (a 20) 24 (fun j => nI ((updn g1555 lm 0) j))) := by rw [hw1696]; exact set_ne k1691 (by decide)
                    have k1702 : w1695[18]? = some (iA E (a 18) 25 (fun j => nI ((updn g1681 (lm + 1) ((g1681 lm) + mm1249)) j))) := by rw [hw1696]; exact set_ne k1694 (by decide)
                    have kp1703 := keeps_set kp1693 hw1696 (by first | exact rfl | decide | omega | (dsimp only; omega))
                    refine x_iconst C (v := 1) dX12_readsLine_232 (by decide) rfl ?_
                    exact x_zret C hr hlk rfl dX12_readsLine_233 ⟨hW1697, kp1703, (Or.inr rfl), ⟨(pl1231 + 1), (lm + 1), nu1232, by omega, by omega, by omega, ⟨v1237, v1238, v1239, v1240, v1241, v1242, n1243, n1244, ⟨by omega, by omega, by omega, by omega, by omega, by omega, by omega⟩, ⟨by omega, by omega⟩, k1699⟩⟩⟩
                  · skip
                    have hp1704 := hv_lt (x1258.symm.trans c1679) (by decide)
                    refine x_aload_n C dX12_readsLine_138 rfl 2 rfl rfl ?_
                    refine x_vi C (As := []) (rest := []) (m_isDigit E l a cd hG kf jn js jq w1558 hW1560 tp (pl1231 + 1) le cm wt sm lm nu1232 ⟨v1237, v1238, v1239, v1240, v1241, v1242, n1243, n1244, ⟨by omega, by omega, by omega, by omega, by omega, by omega, by omega⟩, ⟨by omega, by omega⟩, k1562⟩ tf k1561) mf_X12_isDigit w_1341 0 k1562 rfl rfl rfl (Nat.le_of_ble_eq_true rfl) ⟨(Nat.le_of_ble_eq_true rfl), (Nat.le_of_ble_eq_true rfl)⟩ ⟨(Nat.le_of_ble_eq_true rfl), (Nat.le_of_ble_eq_true rfl)⟩ dX12_readsLine_139 rfl (fun r1706 w1707 h1705 => ?_)
                    obtain ⟨hW1708, zb1709, x1710⟩ := h1705
                    refine x_ws hW1708 ?_
                    refine x_if_ne C (tgt := 155) dX12_readsLine_142 (by decide) rfl (fun c1711 => ?_) (fun c1711 => ?_)
                    · skip
                      obtain ⟨d1712, hd1713, ed1714, hp1715⟩ := x1710 c1711
                      refine x_aload_n C dX12_readsLine_155 rfl 2 rfl rfl ?_
                      refine x_vi C (As := []) (rest := []) (m_here E l a cd hG kf jn js jq w1558 hW1560 tp (pl1231 + 1) le cm wt sm lm nu1232 ⟨v1237, v1238, v1239, v1240, v1241, v1242, n1243, n1244, ⟨by omega, by omega, by omega, by omega, by omega, by omega, by omega⟩, ⟨by omega, by omega⟩, k1562⟩ tf k1561) mf_X12_here w_1317 0 k1562 rfl rfl rfl (Nat.le_of_ble_eq_true rfl) ⟨(Nat.le_of_ble_eq_true rfl), (Nat.le_of_ble_eq_true rfl)⟩ ⟨(Nat.le_of_ble_eq_true rfl), (Nat.le_of_ble_eq_true rfl)⟩ dX12_readsLine_156 rfl (fun r1717 w1718 h1716 => ?_)
                      obtain ⟨hW1719, x1720⟩ := h1716
                      refine x_ws hW1719 ?_
                      refine x_top (x1720.trans ed1714) ?_
                      refine x_bipush C (v := 55) dX12_readsLine_159 (by decide) rfl ?_
                      refine x_icmp_le C (tgt := 174) dX12_readsLine_161 (by decide) rfl (fun c1721 => ?_) (fun c1721 => ?_)
                      · skip
                        have nf1722 := nI_le' (a := (48 + d1712)) (b := 55) c1721 (by omega) (by omega)
                        refine x_aload_n C dX12_readsLine_174 rfl 2 rfl rfl ?_
                        refine x_get C (ci := 11) (k := 30) 0 k1562 rfl in_X12 (by decide) w_1148 rfl dX12_readsLine_175 rfl ?_
                        refine x_aload_n C dX12_readsLine_178 rfl 2 rfl rfl ?_
                        refine x_get C (ci := 11) (k := 27) 0 k1562 rfl in_X12 (by decide) w_1145 rfl dX12_readsLine_179 rfl ?_
                        refine x_aload_n C dX12_readsLine_182 rfl 2 rfl rfl ?_
                        refine x_vi C (As := []) (rest := [.int (nI lm), .ref (a 20)]) (m_here E l a cd hG kf jn js jq w1558 hW1560 tp (pl1231 + 1) le cm wt sm lm nu1232 ⟨v1237, v1238, v1239, v1240, v1241, v1242, n1243, n1244, ⟨by omega, by omega, by omega, by omega, by omega, by omega, by omega⟩, ⟨by omega, by omega⟩, k1562⟩ tf k1561) mf_X12_here w_1317 0 k1562 rfl rfl rfl (Nat.le_of_ble_eq_true rfl) ⟨(Nat.le_of_ble_eq_true rfl), (Nat.le_of_ble_eq_true rfl)⟩ ⟨(Nat.le_of_ble_eq_true rfl), (Nat.le_of_ble_eq_true rfl)⟩ dX12_readsLine_183 rfl (fun r1724 w1725 h1723 => ?_)
                        obtain ⟨hW1726, x1727⟩ := h1723
                        refine x_ws hW1726 ?_
                        refine x_top (x1727.trans ed1714) ?_
                        refine x_bipush C (v := 48) dX12_readsLine_186 (by decide) rfl ?_
                        refine x_isub C (v := (nI ((48 + d1712) - 48))) dX12_readsLine_188 (pk_sub (a := (48 + d1712)) (b := 48) (by omega)) rfl ?_
                        have gb1728 := updn_le (i := lm) (v := ((48 + d1712) - 48)) gb1557 (by omega)
                        obtain ⟨w1729, hw1730⟩ : ∃ w : va_W, w = List.set w1558 20 (iA E (a 20) 24 (upd (fun j => nI ((updn g1555 lm 0) j)) lm (nI ((48 + d1712) - 48)))) := ⟨_, rfl⟩
                        refine x_iask C lm (nI_clamp (by omega)) (nI_pos (by omega)) (by omega) 20 k1566 hw1730.symm dX12_readsLine_189 rfl ?_
                        have hW1731 : WX (okM E a cd kf jn js jq) w1729 := by rw [hw1730]; exact hW1560.set (k := 20) rfl ⟨_, gb1728, iA_n (upd_nI (updn g1555 lm 0) lm ((48 + d1712) - 48))⟩
                        have k1732 : w1729[4]? = some (bA E (a 4) 260 tf) := by rw [hw1730]; exact set_ne k1561 (by decide)
                        have k1733 : w1729[0]? = some (ob (a 0) 11 [.ref (a 1), .ref (a 2), .ref (a 3), .ref (a 4), .int (nI tp), .int (nI (pl1231 + 1)), .int (nI le), .int v1237, .int nu1232, .int v1238, .int (nI cm), .int (nI wt), .int (nI sm), .int (nI (cd.2.2.2.2.2)), .ref (a 5), .ref (a 6), .ref (a 7), .ref (a 8), .ref (a 9), .ref (a 10), .ref (a 11), .ref (a 12), .ref (a 13), .ref (a 14), .ref (a 15), .ref (a 16), .ref (a 17), .int (nI lm), .ref (a 18), .ref (a 19), .ref (a 20), .ref (a 21), .int v1239, .int v1240, .int v1241, .int v1242, .int (nI n1243), .int (nI n1244), .ref (a 22), .ref (a 23), .ref (a 24), .ref (a 25), .ref (a 26), .ref (a 27), .ref (a 28), .ref (a 29), .ref (a 30), .int kf]) := by rw [hw1730]; exact set_ne k1562 (by decide)
                        have k1734 : w1729[19]? = some (iA E (a 19) 24 (upd f1546 (nI lm).toNatClampNeg r1255)) := by rw [hw1730]; exact set_ne k1563 (by decide)
                        have k1735 : w1729[20]? = some (iA E (a 20) 24 (upd (fun j => nI ((updn g1555 lm 0) j)) lm (nI ((48 + d1712) - 48)))) := by rw [hw1730]; exact set_eq k1566
                        have kp1736 := keeps_set kp1565 hw1730 (by first | exact rfl | decide | omega | (dsimp only; omega))
                        have k1737 : w1729[20]? = some (iA E (a 20) 24 (fun j => nI ((updn (updn g1555 lm 0) lm ((48 + d1712) - 48)) j))) := by rw [← upd_nI]; exact k1735
                        refine x_aload_n C dX12_readsLine_190 rfl 2 rfl rfl ?_
                        refine x_aload_n C dX12_readsLine_191 rfl 2 rfl rfl ?_
                        refine x_get C (ci := 11) (k := 5) 0 k1733 rfl in_X12 (by decide) w_1123 rfl dX12_readsLine_192 rfl ?_
                        refine x_iconst C (v := 1) dX12_readsLine_195 (by decide) rfl ?_
                        refine x_iadd C (v := (nI ((pl1231 + 1) + 1))) dX12_readsLine_196 (nI_add (pl1231 + 1) 1) rfl ?_
                        obtain ⟨w1738, hw1739⟩ : ∃ w : va_W, w = List.set w1729 0 (ob (a 0) 11 [.ref (a 1), .ref (a 2), .ref (a 3), .ref (a 4), .int (nI tp), .int (nI ((pl1231 + 1) + 1)), .int (nI le), .int v1237, .int nu1232, .int v1238, .int (nI cm), .int (nI wt), .int (nI sm), .int (nI (cd.2.2.2.2.2)), .ref (a 5), .ref (a 6), .ref (a 7), .ref (a 8), .ref (a 9), .ref (a 10), .ref (a 11), .ref (a 12), .ref (a 13), .ref (a 14), .ref (a 15), .ref (a 16), .ref (a 17), .int (nI lm), .ref (a 18), .ref (a 19), .ref (a 20), .ref (a 21), .int v1239, .int v1240, .int v1241, .int v1242, .int (nI n1243), .int (nI n1244), .ref (a 22), .ref (a 23), .ref (a 24), .ref (a 25), .ref (a 26), .ref (a 27), .ref (a 28), .ref (a 29), .ref (a 30), .int kf]) := ⟨_, rfl⟩
                        refine x_put C (ci := 11) (k := 5) (ty := .int) 0 k1733 rfl in_X12 tyX12 tyX12_ok nmX12 (by decide) w_1123 rfl rfl rfl rfl (Nat.le_of_ble_eq_true rfl) hw1739.symm dX12_readsLine_197 rfl ?_
                        have hW1740 : WX (okM E a cd kf jn js jq) w1738 := by rw [hw1739]; exact hW1731.set (k := 0) rfl ⟨tp, ((pl1231 + 1) + 1), le, v1237, nu1232, v1238, cm, wt, sm, lm, v1239, v1240, v1241, v1242, n1243, n1244, by omega, by omega, by omega, by omega, by omega, by omega, by omega, by omega, by omega, rfl⟩
                        have k1741 : w1738[4]? = some (bA E (a 4) 260 tf) := by rw [hw1739]; exact set_ne k1732 (by decide)
                        have k1742 : w1738[0]? = some (ob (a 0) 11 [.ref (a 1), .ref (a 2), .ref (a 3), .ref (a 4), .int (nI tp), .int (nI ((pl1231 + 1) + 1)), .int (nI le), .int v1237, .int nu1232, .int v1238, .int (nI cm), .int (nI wt), .int (nI sm), .int (nI (cd.2.2.2.2.2)), .ref (a 5), .ref (a 6), .ref (a 7), .ref (a 8), .ref (a 9), .ref (a 10), .ref (a 11), .ref (a 12), .ref (a 13), .ref (a 14), .ref (a 15), .ref (a 16), .ref (a 17), .int (nI lm), .ref (a 18), .ref (a 19), .ref (a 20), .ref (a 21), .int v1239, .int v1240, .int v1241, .int v1242, .int (nI n1243), .int (nI n1244), .ref (a 22), .ref (a 23), .ref (a 24), .ref (a 25), .ref (a 26), .ref (a 27), .ref (a 28), .ref (a 29), .ref (a 30), .int kf]) := by rw [hw1739]; exact set_eq k1733
                        have k1743 : w1738[19]? = some (iA E (a 19) 24 (upd f1546 (nI lm).toNatClampNeg r1255)) := by rw [hw1739]; exact set_ne k1734 (by decide)
                        have k1744 : w1738[20]? = some (iA E (a 20) 24 (fun j => nI ((updn (updn g1555 lm 0) lm ((48 + d1712) - 48)) j))) := by rw [hw1739]; exact set_ne k1737 (by decide)
                        have kp1745 := keeps_set kp1736 hw1739 (by first | exact rfl | decide | omega | (dsimp only; omega))
                        refine x_aload_n C dX12_readsLine_200 rfl 2 rfl rfl ?_
                        refine x_get C (ci := 11) (k := 28) 0 k1742 rfl in_X12 (by decide) w_1146 rfl dX12_readsLine_201 rfl ?_
                        refine x_aload_n C dX12_readsLine_204 rfl 2 rfl rfl ?_
                        refine x_get C (ci := 11) (k := 27) 0 k1742 rfl in_X12 (by decide) w_1145 rfl dX12_readsLine_205 rfl ?_
                        refine x_iconst C (v := 1) dX12_readsLine_208 (by decide) rfl ?_
                        refine x_iadd C (v := (nI (lm + 1))) dX12_readsLine_209 (nI_add lm 1) rfl ?_
                        refine x_aload_n C dX12_readsLine_210 rfl 2 rfl rfl ?_
                        refine x_get C (ci := 11) (k := 28) 0 k1742 rfl in_X12 (by decide) w_1146 rfl dX12_readsLine_211 rfl ?_
                        refine x_aload_n C dX12_readsLine_214 rfl 2 rfl rfl ?_
                        refine x_get C (ci := 11) (k := 27) 0 k1742 rfl in_X12 (by decide) w_1145 rfl dX12_readsLine_215 rfl ?_
                        obtain ⟨_, k1746, g1747, gb1748, rfl⟩ := hW1740 18 _ rfl
                        refine x_ialk C (v := nI (g1747 lm)) lm (nI_clamp (by omega)) (nI_pos (by omega)) (by omega) 18 k1746 rfl dX12_readsLine_218 rfl ?_
                        have bx1749 := gb1748 lm
                        refine x_iload_n C dX12_readsLine_219 rfl 1 rfl rfl ?_
                        refine x_iadd C (v := (nI ((g1747 lm) + mm1249))) dX12_readsLine_220 (nI_add (g1747 lm) mm1249) rfl ?_
                        have gb1750 := updn_leF (i := (lm + 1)) (v := ((g1747 lm) + mm1249)) gb1748 (by omega)
                        obtain ⟨w1751, hw1752⟩ : ∃ w : va_W, w = List.set w1738 18 (iA E (a 18) 25 (upd (fun j => nI (g1747 j)) (lm + 1) (nI ((g1747 lm) + mm1249)))) := ⟨_, rfl⟩
                        refine x_iask C (lm + 1) (nI_clamp (by omega)) (nI_pos (by omega)) (by omega) 18 k1746 hw1752.symm dX12_readsLine_221 rfl ?_
                        have hW1753 : WX (okM E a cd kf jn js jq) w1751 := by rw [hw1752]; exact hW1740.set (k := 18) rfl ⟨_, gb1750, iA_n (upd_nI g1747 (lm + 1) ((g1747 lm) + mm1249))⟩
                        have k1754 : w1751[4]? = some (bA E (a 4) 260 tf) := by rw [hw1752]; exact set_ne k1741 (by decide)
                        have k1755 : w1751[0]? = some (ob (a 0) 11 [.ref (a 1), .ref (a 2), .ref (a 3), .ref (a 4), .int (nI tp), .int (nI ((pl1231 + 1) + 1)), .int (nI le), .int v1237, .int nu1232, .int v1238, .int (nI cm), .int (nI wt), .int (nI sm), .int (nI (cd.2.2.2.2.2)), .ref (a 5), .ref (a 6), .ref (a 7), .ref (a 8), .ref (a 9), .ref (a 10), .ref (a 11), .ref (a 12), .ref (a 13), .ref (a 14), .ref (a 15), .ref (a 16), .ref (a 17), .int (nI lm), .ref (a 18), .ref (a 19), .ref (a 20), .ref (a 21), .int v1239, .int v1240, .int v1241, .int v1242, .int (nI n1243), .int (nI n1244), .ref (a 22), .ref (a 23), .ref (a 24), .ref (a 25), .ref (a 26), .ref (a 27), .ref (a 28), .ref (a 29), .ref (a 30), .int kf]) := by rw [hw1752]; exact set_ne k1742 (by decide)
                        have k1756 : w1751[19]? = some (iA E (a 19) 24 (upd f1546 (nI lm).toNatClampNeg r1255)) := by rw [hw1752]; exact set_ne k1743 (by decide)
                        have k1757 : w1751[20]? = some (iA E (a 20) 24 (fun j => nI ((updn (updn g1555 lm 0) lm ((48 + d1712) - 48)) j))) := by rw [hw1752]; exact set_ne k1744 (by decide)
                        have k1758 : w1751[18]? = some (iA E (a 18) 25 (upd (fun j => nI (g1747 j)) (lm + 1) (nI ((g1747 lm) + mm1249)))) := by rw [hw1752]; exact set_eq k1746
                        have kp1759 := keeps_set kp1745 hw1752 (by first | exact rfl | decide | omega | (dsimp only; omega))
                        have k1760 : w1751[18]? = some (iA E (a 18) 25 (fun j => nI ((updn g1747 (lm + 1) ((g1747 lm) + mm1249)) j))) := by rw [← upd_nI]; exact k1758
                        refine x_aload_n C dX12_readsLine_222 rfl 2 rfl rfl ?_
                        refine x_aload_n C dX12_readsLine_223 rfl 2 rfl rfl ?_
                        refine x_get C (ci := 11) (k := 27) 0 k1755 rfl in_X12 (by decide) w_1145 rfl dX12_readsLine_224 rfl ?_
                        refine x_iconst C (v := 1) dX12_readsLine_227 (by decide) rfl ?_
                        refine x_iadd C (v := (nI (lm + 1))) dX12_readsLine_228 (nI_add lm 1) rfl ?_
                        obtain ⟨w1761, hw1762⟩ : ∃ w : va_W, w = List.set w1751 0 (ob (a 0) 11 [.ref (a 1), .ref (a 2), .ref (a 3), .ref (a 4), .int (nI tp), .int (nI ((pl1231 + 1) + 1)), .int (nI le), .int v1237, .int nu1232, .int v1238, .int (nI cm), .int (nI wt), .int (nI sm), .int (nI (cd.2.2.2.2.2)), .ref (a 5), .ref (a 6), .ref (a 7), .ref (a 8), .ref (a 9), .ref (a 10), .ref (a 11), .ref (a 12), .ref (a 13), .ref (a 14), .ref (a 15), .ref (a 16), .ref (a 17), .int (nI (lm + 1)), .ref (a 18), .ref (a 19), .ref (a 20), .ref (a 21), .int v1239, .int v1240, .int v1241, .int v1242, .int (nI n1243), .int (nI n1244), .ref (a 22), .ref (a 23), .ref (a 24), .ref (a 25), .ref (a 26), .ref (a 27), .ref (a 28), .ref (a 29), .ref (a 30), .int kf]) := ⟨_, rfl⟩
                        refine x_put C (ci := 11) (k := 27) (ty := .int) 0 k1755 rfl in_X12 tyX12 tyX12_ok nmX12 (by decide) w_1145 rfl rfl rfl rfl (Nat.le_of_ble_eq_true rfl) hw1762.symm dX12_readsLine_229 rfl ?_
                        have hW1763 : WX (okM E a cd kf jn js jq) w1761 := by rw [hw1762]; exact hW1753.set (k := 0) rfl ⟨tp, ((pl1231 + 1) + 1), le, v1237, nu1232, v1238, cm, wt, sm, (lm + 1), v1239, v1240, v1241, v1242, n1243, n1244, by omega, by omega, by omega, by omega, by omega, by omega, by omega, by omega, by omega, rfl⟩
                        have k1764 : w1761[4]? = some (bA E (a 4) 260 tf) := by rw [hw1762]; exact set_ne k1754 (by decide)
                        have k1765 : w1761[0]? = some (ob (a 0) 11 [.ref (a 1), .ref (a 2), .ref (a 3), .ref (a 4), .int (nI tp), .int (nI ((pl1231 + 1) + 1)), .int (nI le), .int v1237, .int nu1232, .int v1238, .int (nI cm), .int (nI wt), .int (nI sm), .int (nI (cd.2.2.2.2.2)), .ref (a 5), .ref (a 6), .ref (a 7), .ref (a 8), .ref (a 9), .ref (a 10), .ref (a 11), .ref (a 12), .ref (a 13), .ref (a 14), .ref (a 15), .ref (a 16), .ref (a 17), .int (nI (lm + 1)), .ref (a 18), .ref (a 19), .ref (a 20), .ref (a 21), .int v1239, .int v1240, .int v1241, .int v1242, .int (nI n1243), .int (nI n1244), .ref (a 22), .ref (a 23), .ref (a 24), .ref (a 25), .ref (a 26), .ref (a 27), .ref (a 28), .ref (a 29), .ref (a 30), .int kf]) := by rw [hw1762]; exact set_eq k1755
                        have k1766 : w1761[19]? = some (iA E (a 19) 24 (upd f1546 (nI lm).toNatClampNeg r1255)) := by rw [hw1762]; exact set_ne k1756 (by decide)
                        have k1767 : w1761[20]? = some (iA E (a 20) 24 (fun j => nI ((updn (updn g1555 lm 0) lm ((48 + d1712) - 48)) j))) := by rw [hw1762]; exact set_ne k1757 (by decide)
                        have k1768 : w1761[18]? = some (iA E (a 18) 25 (fun j => nI ((updn g1747 (lm + 1) ((g1747 lm) + mm1249)) j))) := by rw [hw1762]; exact set_ne k1760 (by decide)
                        have kp1769 := keeps_set kp1759 hw1762 (by first | exact rfl | decide | omega | (dsimp only; omega))
                        refine x_iconst C (v := 1) dX12_readsLine_232 (by decide) rfl ?_
                        exact x_zret C hr hlk rfl dX12_readsLine_233 ⟨hW1763, kp1769, (Or.inr rfl), ⟨((pl1231 + 1) + 1), (lm + 1), nu1232, by omega, by omega, by omega, ⟨v1237, v1238, v1239, v1240, v1241, v1242, n1243, n1244, ⟨by omega, by omega, by omega, by omega, by omega, by omega, by omega⟩, ⟨by omega, by omega⟩, k1765⟩⟩⟩
                      · skip
                        have nf1770 := nI_nle' (a := (48 + d1712)) (b := 55) c1721 (by omega) (by omega)
                        refine x_aload_n C dX12_readsLine_164 rfl 2 rfl rfl ?_
                        refine x_iconst C (v := 3) dX12_readsLine_165 (by decide) rfl ?_
                        refine x_aload_n C dX12_readsLine_166 rfl 2 rfl rfl ?_
                        refine x_get C (ci := 11) (k := 5) 0 k1562 rfl in_X12 (by decide) w_1123 rfl dX12_readsLine_167 rfl ?_
                        refine x_vi C (As := [.int 3, .int (nI (pl1231 + 1))]) (rest := []) (m_wrongAt E l a cd hG kf jn js jq w1558 hW1560 (3 : Int32) ((nI (pl1231 + 1))) tp (pl1231 + 1) le cm wt sm lm nu1232 ⟨v1237, v1238, v1239, v1240, v1241, v1242, n1243, n1244, ⟨by omega, by omega, by omega, by omega, by omega, by omega, by omega⟩, ⟨by omega, by omega⟩, k1562⟩) mf_X12_wrongAt w_1324 0 k1562 rfl rfl rfl (Nat.le_of_ble_eq_true rfl) ⟨(Nat.le_of_ble_eq_true rfl), (Nat.le_of_ble_eq_true rfl)⟩ ⟨(Nat.le_of_ble_eq_true rfl), (Nat.le_of_ble_eq_true rfl)⟩ dX12_readsLine_170 rfl (fun r1772 w1773 h1771 => ?_)
                        obtain ⟨hW1774, kq1775, e1776, x1777⟩ := h1771
                        refine x_top e1776 ?_
                        have k1778 : w1773[4]? = some (bA E (a 4) 260 tf) := keeps_at kq1775 k1561 (by first | decide | omega | (dsimp only; omega))
                        have k1779 : w1773[19]? = some (iA E (a 19) 24 (upd f1546 (nI lm).toNatClampNeg r1255)) := keeps_at kq1775 k1563 (by first | decide | omega | (dsimp only; omega))
                        have k1780 : w1773[20]? = some (iA E (a 20) 24 (fun j => nI ((updn g1555 lm 0) j))) := keeps_at kq1775 k1566 (by first | decide | omega | (dsimp only; omega))
                        have kp1781 := keeps_tr kp1565 kq1775 (fun q hq => by first | omega | (dsimp only at *; omega))
                        obtain ⟨v1782, v1783, v1784, v1785, v1786, v1787, n1788, n1789, bo1790, bo1791, k1792⟩ := x1777
                        exact x_zret C hr hlk rfl dX12_readsLine_173 ⟨hW1774, kp1781, (Or.inl rfl), ⟨((pl1231 + 1)), lm, nu1232, by omega, by omega, by omega, ⟨v1782, v1783, v1784, v1785, v1786, v1787, n1788, n1789, ⟨by omega, by omega, by omega, by omega, by omega, by omega, by omega⟩, ⟨by omega, by omega⟩, k1792⟩⟩⟩
                    · skip
                      refine x_aload_n C dX12_readsLine_145 rfl 2 rfl rfl ?_
                      refine x_iconst C (v := 1) dX12_readsLine_146 (by decide) rfl ?_
                      refine x_aload_n C dX12_readsLine_147 rfl 2 rfl rfl ?_
                      refine x_get C (ci := 11) (k := 5) 0 k1562 rfl in_X12 (by decide) w_1123 rfl dX12_readsLine_148 rfl ?_
                      refine x_vi C (As := [.int 1, .int (nI (pl1231 + 1))]) (rest := []) (m_wrongAt E l a cd hG kf jn js jq w1558 hW1560 (1 : Int32) ((nI (pl1231 + 1))) tp (pl1231 + 1) le cm wt sm lm nu1232 ⟨v1237, v1238, v1239, v1240, v1241, v1242, n1243, n1244, ⟨by omega, by omega, by omega, by omega, by omega, by omega, by omega⟩, ⟨by omega, by omega⟩, k1562⟩) mf_X12_wrongAt w_1324 0 k1562 rfl rfl rfl (Nat.le_of_ble_eq_true rfl) ⟨(Nat.le_of_ble_eq_true rfl), (Nat.le_of_ble_eq_true rfl)⟩ ⟨(Nat.le_of_ble_eq_true rfl), (Nat.le_of_ble_eq_true rfl)⟩ dX12_readsLine_151 rfl (fun r1794 w1795 h1793 => ?_)
                      obtain ⟨hW1796, kq1797, e1798, x1799⟩ := h1793
                      refine x_top e1798 ?_
                      have k1800 : w1795[4]? = some (bA E (a 4) 260 tf) := keeps_at kq1797 k1561 (by first | decide | omega | (dsimp only; omega))
                      have k1801 : w1795[19]? = some (iA E (a 19) 24 (upd f1546 (nI lm).toNatClampNeg r1255)) := keeps_at kq1797 k1563 (by first | decide | omega | (dsimp only; omega))
                      have k1802 : w1795[20]? = some (iA E (a 20) 24 (fun j => nI ((updn g1555 lm 0) j))) := keeps_at kq1797 k1566 (by first | decide | omega | (dsimp only; omega))
                      have kp1803 := keeps_tr kp1565 kq1797 (fun q hq => by first | omega | (dsimp only at *; omega))
                      obtain ⟨v1804, v1805, v1806, v1807, v1808, v1809, n1810, n1811, bo1812, bo1813, k1814⟩ := x1799
                      exact x_zret C hr hlk rfl dX12_readsLine_154 ⟨hW1796, kp1803, (Or.inl rfl), ⟨((pl1231 + 1)), lm, nu1232, by omega, by omega, by omega, ⟨v1804, v1805, v1806, v1807, v1808, v1809, n1810, n1811, ⟨by omega, by omega, by omega, by omega, by omega, by omega, by omega⟩, ⟨by omega, by omega⟩, k1814⟩⟩⟩
              · skip
                refine x_iload_n C dX12_readsLine_74 rfl 0 rfl rfl ?_
                refine x_bipush C (v := 46) dX12_readsLine_75 (by decide) rfl ?_
                refine x_icmp_eq C (tgt := 96) dX12_readsLine_77 (by decide) rfl (fun c1815 => ?_) (fun c1815 => ?_)
                · skip
                  have hp1816 := hv_lt (x1258.symm.trans c1815) (by decide)
                  refine x_aload_n C dX12_readsLine_96 rfl 2 rfl rfl ?_
                  refine x_aload_n C dX12_readsLine_97 rfl 2 rfl rfl ?_
                  refine x_get C (ci := 11) (k := 5) 0 k1247 rfl in_X12 (by decide) w_1123 rfl dX12_readsLine_98 rfl ?_
                  refine x_iconst C (v := 1) dX12_readsLine_101 (by decide) rfl ?_
                  refine x_iadd C (v := (nI (pl1231 + 1))) dX12_readsLine_102 (nI_add pl1231 1) rfl ?_
                  obtain ⟨w1817, hw1818⟩ : ∃ w : va_W, w = List.set w1225 0 (ob (a 0) 11 [.ref (a 1), .ref (a 2), .ref (a 3), .ref (a 4), .int (nI tp), .int (nI (pl1231 + 1)), .int (nI le), .int v1237, .int nu1232, .int v1238, .int (nI cm), .int (nI wt), .int (nI sm), .int (nI (cd.2.2.2.2.2)), .ref (a 5), .ref (a 6), .ref (a 7), .ref (a 8), .ref (a 9), .ref (a 10), .ref (a 11), .ref (a 12), .ref (a 13), .ref (a 14), .ref (a 15), .ref (a 16), .ref (a 17), .int (nI lm), .ref (a 18), .ref (a 19), .ref (a 20), .ref (a 21), .int v1239, .int v1240, .int v1241, .int v1242, .int (nI n1243), .int (nI n1244), .ref (a 22), .ref (a 23), .ref (a 24), .ref (a 25), .ref (a 26), .ref (a 27), .ref (a 28), .ref (a 29), .ref (a 30), .int kf]) := ⟨_, rfl⟩
                  refine x_put C (ci := 11) (k := 5) (ty := .int) 0 k1247 rfl in_X12 tyX12 tyX12_ok nmX12 (by decide) w_1123 rfl rfl rfl rfl (Nat.le_of_ble_eq_true rfl) hw1818.symm dX12_readsLine_103 rfl ?_
                  have hW1819 : WX (okM E a cd kf jn js jq) w1817 := by rw [hw1818]; exact hW1226.set (k := 0) rfl ⟨tp, (pl1231 + 1), le, v1237, nu1232, v1238, cm, wt, sm, lm, v1239, v1240, v1241, v1242, n1243, n1244, by omega, by omega, by omega, by omega, by omega, by omega, by omega, by omega, by omega, rfl⟩
                  have k1820 : w1817[4]? = some (bA E (a 4) 260 tf) := by rw [hw1818]; exact set_ne k1229 (by decide)
                  have k1821 : w1817[0]? = some (ob (a 0) 11 [.ref (a 1), .ref (a 2), .ref (a 3), .ref (a 4), .int (nI tp), .int (nI (pl1231 + 1)), .int (nI le), .int v1237, .int nu1232, .int v1238, .int (nI cm), .int (nI wt), .int (nI sm), .int (nI (cd.2.2.2.2.2)), .ref (a 5), .ref (a 6), .ref (a 7), .ref (a 8), .ref (a 9), .ref (a 10), .ref (a 11), .ref (a 12), .ref (a 13), .ref (a 14), .ref (a 15), .ref (a 16), .ref (a 17), .int (nI lm), .ref (a 18), .ref (a 19), .ref (a 20), .ref (a 21), .int v1239, .int v1240, .int v1241, .int v1242, .int (nI n1243), .int (nI n1244), .ref (a 22), .ref (a 23), .ref (a 24), .ref (a 25), .ref (a 26), .ref (a 27), .ref (a 28), .ref (a 29), .ref (a 30), .int kf]) := by rw [hw1818]; exact set_eq k1247
                  have kp1822 := keeps_set kp1230 hw1818 (by first | exact rfl | decide | omega | (dsimp only; omega))
                  refine x_aload_n C dX12_readsLine_106 rfl 2 rfl rfl ?_
                  refine x_get C (ci := 11) (k := 29) 0 k1821 rfl in_X12 (by decide) w_1147 rfl dX12_readsLine_107 rfl ?_
                  refine x_aload_n C dX12_readsLine_110 rfl 2 rfl rfl ?_
                  refine x_get C (ci := 11) (k := 27) 0 k1821 rfl in_X12 (by decide) w_1145 rfl dX12_readsLine_111 rfl ?_
                  refine x_iload_n C dX12_readsLine_114 rfl 0 rfl rfl ?_
                  obtain ⟨_, k1823, f1824, rfl⟩ := hW1819 19 _ rfl
                  obtain ⟨w1825, hw1826⟩ : ∃ w : va_W, w = List.set w1817 19 (iA E (a 19) 24 (upd f1824 (nI lm).toNatClampNeg r1255)) := ⟨_, rfl⟩
                  refine x_iast C 19 k1823 (vp_in_nI (by omega) (by decide)) hw1826.symm dX12_readsLine_115 rfl ?_
                  have hW1827 : WX (okM E a cd kf jn js jq) w1825 := by rw [hw1826]; exact hW1819.set (k := 19) rfl ⟨_, rfl⟩
                  have k1828 : w1825[4]? = some (bA E (a 4) 260 tf) := by rw [hw1826]; exact set_ne k1820 (by decide)
                  have k1829 : w1825[0]? = some (ob (a 0) 11 [.ref (a 1), .ref (a 2), .ref (a 3), .ref (a 4), .int (nI tp), .int (nI (pl1231 + 1)), .int (nI le), .int v1237, .int nu1232, .int v1238, .int (nI cm), .int (nI wt), .int (nI sm), .int (nI (cd.2.2.2.2.2)), .ref (a 5), .ref (a 6), .ref (a 7), .ref (a 8), .ref (a 9), .ref (a 10), .ref (a 11), .ref (a 12), .ref (a 13), .ref (a 14), .ref (a 15), .ref (a 16), .ref (a 17), .int (nI lm), .ref (a 18), .ref (a 19), .ref (a 20), .ref (a 21), .int v1239, .int v1240, .int v1241, .int v1242, .int (nI n1243), .int (nI n1244), .ref (a 22), .ref (a 23), .ref (a 24), .ref (a 25), .ref (a 26), .ref (a 27), .ref (a 28), .ref (a 29), .ref (a 30), .int kf]) := by rw [hw1826]; exact set_ne k1821 (by decide)
                  have k1830 : w1825[19]? = some (iA E (a 19) 24 (upd f1824 (nI lm).toNatClampNeg r1255)) := by rw [hw1826]; exact set_eq k1823
                  have kp1831 := keeps_set kp1822 hw1826 (by first | exact rfl | decide | omega | (dsimp only; omega))
                  refine x_aload_n C dX12_readsLine_116 rfl 2 rfl rfl ?_
                  refine x_get C (ci := 11) (k := 30) 0 k1829 rfl in_X12 (by decide) w_1148 rfl dX12_readsLine_117 rfl ?_
                  refine x_aload_n C dX12_readsLine_120 rfl 2 rfl rfl ?_
                  refine x_get C (ci := 11) (k := 27) 0 k1829 rfl in_X12 (by decide) w_1145 rfl dX12_readsLine_121 rfl ?_
                  refine x_iconst C (v := 0) dX12_readsLine_124 (by decide) rfl ?_
                  obtain ⟨_, k1832, g1833, gb1834, rfl⟩ := hW1827 20 _ rfl
                  have gb1835 := updn_le (i := lm) (v := 0) gb1834 (by omega)
                  obtain ⟨w1836, hw1837⟩ : ∃ w : va_W, w = List.set w1825 20 (iA E (a 20) 24 (upd (fun j => nI (g1833 j)) lm (nI 0))) := ⟨_, rfl⟩
                  refine x_iask C lm (nI_clamp (by omega)) (nI_pos (by omega)) (by omega) 20 k1832 hw1837.symm dX12_readsLine_125 rfl ?_
                  have hW1838 : WX (okM E a cd kf jn js jq) w1836 := by rw [hw1837]; exact hW1827.set (k := 20) rfl ⟨_, gb1835, iA_n (upd_nI g1833 lm 0)⟩
                  have k1839 : w1836[4]? = some (bA E (a 4) 260 tf) := by rw [hw1837]; exact set_ne k1828 (by decide)
                  have k1840 : w1836[0]? = some (ob (a 0) 11 [.ref (a 1), .ref (a 2), .ref (a 3), .ref (a 4), .int (nI tp), .int (nI (pl1231 + 1)), .int (nI le), .int v1237, .int nu1232, .int v1238, .int (nI cm), .int (nI wt), .int (nI sm), .int (nI (cd.2.2.2.2.2)), .ref (a 5), .ref (a 6), .ref (a 7), .ref (a 8), .ref (a 9), .ref (a 10), .ref (a 11), .ref (a 12), .ref (a 13), .ref (a 14), .ref (a 15), .ref (a 16), .ref (a 17), .int (nI lm), .ref (a 18), .ref (a 19), .ref (a 20), .ref (a 21), .int v1239, .int v1240, .int v1241, .int v1242, .int (nI n1243), .int (nI n1244), .ref (a 22), .ref (a 23), .ref (a 24), .ref (a 25), .ref (a 26), .ref (a 27), .ref (a 28), .ref (a 29), .ref (a 30), .int kf]) := by rw [hw1837]; exact set_ne k1829 (by decide)
                  have k1841 : w1836[19]? = some (iA E (a 19) 24 (upd f1824 (nI lm).toNatClampNeg r1255)) := by rw [hw1837]; exact set_ne k1830 (by decide)
                  have k1842 : w1836[20]? = some (iA E (a 20) 24 (upd (fun j => nI (g1833 j)) lm (nI 0))) := by rw [hw1837]; exact set_eq k1832
                  have kp1843 := keeps_set kp1831 hw1837 (by first | exact rfl | decide | omega | (dsimp only; omega))
                  have k1844 : w1836[20]? = some (iA E (a 20) 24 (fun j => nI ((updn g1833 lm 0) j))) := by rw [← upd_nI]; exact k1842
                  refine x_iload_n C dX12_readsLine_126 rfl 0 rfl rfl ?_
                  refine x_bipush C (v := 62) dX12_readsLine_127 (by decide) rfl ?_
                  refine x_icmp_eq C (tgt := 138) dX12_readsLine_129 (by decide) rfl (fun c1845 => ?_) (fun c1845 => ?_)
                  · skip
                    have hp1846 := hv_lt (x1258.symm.trans c1845) (by decide)
                    refine x_aload_n C dX12_readsLine_138 rfl 2 rfl rfl ?_
                    refine x_vi C (As := []) (rest := []) (m_isDigit E l a cd hG kf jn js jq w1836 hW1838 tp (pl1231 + 1) le cm wt sm lm nu1232 ⟨v1237, v1238, v1239, v1240, v1241, v1242, n1243, n1244, ⟨by omega, by omega, by omega, by omega, by omega, by omega, by omega⟩, ⟨by omega, by omega⟩, k1840⟩ tf k1839) mf_X12_isDigit w_1341 0 k1840 rfl rfl rfl (Nat.le_of_ble_eq_true rfl) ⟨(Nat.le_of_ble_eq_true rfl), (Nat.le_of_ble_eq_true rfl)⟩ ⟨(Nat.le_of_ble_eq_true rfl), (Nat.le_of_ble_eq_true rfl)⟩ dX12_readsLine_139 rfl (fun r1848 w1849 h1847 => ?_)
                    obtain ⟨hW1850, zb1851, x1852⟩ := h1847
                    refine x_ws hW1850 ?_
                    refine x_if_ne C (tgt := 155) dX12_readsLine_142 (by decide) rfl (fun c1853 => ?_) (fun c1853 => ?_)
                    · skip
                      obtain ⟨d1854, hd1855, ed1856, hp1857⟩ := x1852 c1853
                      refine x_aload_n C dX12_readsLine_155 rfl 2 rfl rfl ?_
                      refine x_vi C (As := []) (rest := []) (m_here E l a cd hG kf jn js jq w1836 hW1838 tp (pl1231 + 1) le cm wt sm lm nu1232 ⟨v1237, v1238, v1239, v1240, v1241, v1242, n1243, n1244, ⟨by omega, by omega, by omega, by omega, by omega, by omega, by omega⟩, ⟨by omega, by omega⟩, k1840⟩ tf k1839) mf_X12_here w_1317 0 k1840 rfl rfl rfl (Nat.le_of_ble_eq_true rfl) ⟨(Nat.le_of_ble_eq_true rfl), (Nat.le_of_ble_eq_true rfl)⟩ ⟨(Nat.le_of_ble_eq_true rfl), (Nat.le_of_ble_eq_true rfl)⟩ dX12_readsLine_156 rfl (fun r1859 w1860 h1858 => ?_)
                      obtain ⟨hW1861, x1862⟩ := h1858
                      refine x_ws hW1861 ?_
                      refine x_top (x1862.trans ed1856) ?_
                      refine x_bipush C (v := 55) dX12_readsLine_159 (by decide) rfl ?_
                      refine x_icmp_le C (tgt := 174) dX12_readsLine_161 (by decide) rfl (fun c1863 => ?_) (fun c1863 => ?_)
                      · skip
                        have nf1864 := nI_le' (a := (48 + d1854)) (b := 55) c1863 (by omega) (by omega)
                        refine x_aload_n C dX12_readsLine_174 rfl 2 rfl rfl ?_
                        refine x_get C (ci := 11) (k := 30) 0 k1840 rfl in_X12 (by decide) w_1148 rfl dX12_readsLine_175 rfl ?_
                        refine x_aload_n C dX12_readsLine_178 rfl 2 rfl rfl ?_
                        refine x_get C (ci := 11) (k := 27) 0 k1840 rfl in_X12 (by decide) w_1145 rfl dX12_readsLine_179 rfl ?_
                        refine x_aload_n C dX12_readsLine_182 rfl 2 rfl rfl ?_
                        refine x_vi C (As := []) (rest := [.int (nI lm), .ref (a 20)]) (m_here E l a cd hG kf jn js jq w1836 hW1838 tp (pl1231 + 1) le cm wt sm lm nu1232 ⟨v1237, v1238, v1239, v1240, v1241, v1242, n1243, n1244, ⟨by omega, by omega, by omega, by omega, by omega, by omega, by omega⟩, ⟨by omega, by omega⟩, k1840⟩ tf k1839) mf_X12_here w_1317 0 k1840 rfl rfl rfl (Nat.le_of_ble_eq_true rfl) ⟨(Nat.le_of_ble_eq_true rfl), (Nat.le_of_ble_eq_true rfl)⟩ ⟨(Nat.le_of_ble_eq_true rfl), (Nat.le_of_ble_eq_true rfl)⟩ dX12_readsLine_183 rfl (fun r1866 w1867 h1865 => ?_)
                        obtain ⟨hW1868, x1869⟩ := h1865
                        refine x_ws hW1868 ?_
                        refine x_top (x1869.trans ed1856) ?_
                        refine x_bipush C (v := 48) dX12_readsLine_186 (by decide) rfl ?_
                        refine x_isub C (v := (nI ((48 + d1854) - 48))) dX12_readsLine_188 (pk_sub (a := (48 + d1854)) (b := 48) (by omega)) rfl ?_
                        have gb1870 := updn_le (i := lm) (v := ((48 + d1854) - 48)) gb1835 (by omega)
                        obtain ⟨w1871, hw1872⟩ : ∃ w : va_W, w = List.set w1836 20 (iA E (a 20) 24 (upd (fun j => nI ((updn g1833 lm 0) j)) lm (nI ((48 + d1854) - 48)))) := ⟨_, rfl⟩
                        refine x_iask C lm (nI_clamp (by omega)) (nI_pos (by omega)) (by omega) 20 k1844 hw1872.symm dX12_readsLine_189 rfl ?_
                        have hW1873 : WX (okM E a cd kf jn js jq) w1871 := by rw [hw1872]; exact hW1838.set (k := 20) rfl ⟨_, gb1870, iA_n (upd_nI (updn g1833 lm 0) lm ((48 + d1854) - 48))⟩
                        have k1874 : w1871[4]? = some (bA E (a 4) 260 tf) := by rw [hw1872]; exact set_ne k1839 (by decide)
                        have k1875 : w1871[0]? = some (ob (a 0) 11 [.ref (a 1), .ref (a 2), .ref (a 3), .ref (a 4), .int (nI tp), .int (nI (pl1231 + 1)), .int (nI le), .int v1237, .int nu1232, .int v1238, .int (nI cm), .int (nI wt), .int (nI sm), .int (nI (cd.2.2.2.2.2)), .ref (a 5), .ref (a 6), .ref (a 7), .ref (a 8), .ref (a 9), .ref (a 10), .ref (a 11), .ref (a 12), .ref (a 13), .ref (a 14), .ref (a 15), .ref (a 16), .ref (a 17), .int (nI lm), .ref (a 18), .ref (a 19), .ref (a 20), .ref (a 21), .int v1239, .int v1240, .int v1241, .int v1242, .int (nI n1243), .int (nI n1244), .ref (a 22), .ref (a 23), .ref (a 24), .ref (a 25), .ref (a 26), .ref (a 27), .ref (a 28), .ref (a 29), .ref (a 30), .int kf]) := by rw [hw1872]; exact set_ne k1840 (by decide)
                        have k1876 : w1871[19]? = some (iA E (a 19) 24 (upd f1824 (nI lm).toNatClampNeg r1255)) := by rw [hw1872]; exact set_ne k1841 (by decide)
                        have k1877 : w1871[20]? = some (iA E (a 20) 24 (upd (fun j => nI ((updn g1833 lm 0) j)) lm (nI ((48 + d1854) - 48)))) := by rw [hw1872]; exact set_eq k1844
                        have kp1878 := keeps_set kp1843 hw1872 (by first | exact rfl | decide | omega | (dsimp only; omega))
                        have k1879 : w1871[20]? = some (iA E (a 20) 24 (fun j => nI ((updn (updn g1833 lm 0) lm ((48 + d1854) - 48)) j))) := by rw [← upd_nI]; exact k1877
                        refine x_aload_n C dX12_readsLine_190 rfl 2 rfl rfl ?_
                        refine x_aload_n C dX12_readsLine_191 rfl 2 rfl rfl ?_
                        refine x_get C (ci := 11) (k := 5) 0 k1875 rfl in_X12 (by decide) w_1123 rfl dX12_readsLine_192 rfl ?_
                        refine x_iconst C (v := 1) dX12_readsLine_195 (by decide) rfl ?_
                        refine x_iadd C (v := (nI ((pl1231 + 1) + 1))) dX12_readsLine_196 (nI_add (pl1231 + 1) 1) rfl ?_
                        obtain ⟨w1880, hw1881⟩ : ∃ w : va_W, w = List.set w1871 0 (ob (a 0) 11 [.ref (a 1), .ref (a 2), .ref (a 3), .ref (a 4), .int (nI tp), .int (nI ((pl1231 + 1) + 1)), .int (nI le), .int v1237, .int nu1232, .int v1238, .int (nI cm), .int (nI wt), .int (nI sm), .int (nI (cd.2.2.2.2.2)), .ref (a 5), .ref (a 6), .ref (a 7), .ref (a 8), .ref (a 9), .ref (a 10), .ref (a 11), .ref (a 12), .ref (a 13), .ref (a 14), .ref (a 15), .ref (a 16), .ref (a 17), .int (nI lm), .ref (a 18), .ref (a 19), .ref (a 20), .ref (a 21), .int v1239, .int v1240, .int v1241, .int v1242, .int (nI n1243), .int (nI n1244), .ref (a 22), .ref (a 23), .ref (a 24), .ref (a 25), .ref (a 26), .ref (a 27), .ref (a 28), .ref (a 29), .ref (a 30), .int kf]) := ⟨_, rfl⟩
                        refine x_put C (ci := 11) (k := 5) (ty := .int) 0 k1875 rfl in_X12 tyX12 tyX12_ok nmX12 (by decide) w_1123 rfl rfl rfl rfl (Nat.le_of_ble_eq_true rfl) hw1881.symm dX12_readsLine_197 rfl ?_
                        have hW1882 : WX (okM E a cd kf jn js jq) w1880 := by rw [hw1881]; exact hW1873.set (k := 0) rfl ⟨tp, ((pl1231 + 1) + 1), le, v1237, nu1232, v1238, cm, wt, sm, lm, v1239, v1240, v1241, v1242, n1243, n1244, by omega, by omega, by omega, by omega, by omega, by omega, by omega, by omega, by omega, rfl⟩
                        have k1883 : w1880[4]? = some (bA E (a 4) 260 tf) := by rw [hw1881]; exact set_ne k1874 (by decide)
                        have k1884 : w1880[0]? = some (ob (a 0) 11 [.ref (a 1), .ref (a 2), .ref (a 3), .ref (a 4), .int (nI tp), .int (nI ((pl1231 + 1) + 1)), .int (nI le), .int v1237, .int nu1232, .int v1238, .int (nI cm), .int (nI wt), .int (nI sm), .int (nI (cd.2.2.2.2.2)), .ref (a 5), .ref (a 6), .ref (a 7), .ref (a 8), .ref (a 9), .ref (a 10), .ref (a 11), .ref (a 12), .ref (a 13), .ref (a 14), .ref (a 15), .ref (a 16), .ref (a 17), .int (nI lm), .ref (a 18), .ref (a 19), .ref (a 20), .ref (a 21), .int v1239, .int v1240, .int v1241, .int v1242, .int (nI n1243), .int (nI n1244), .ref (a 22), .ref (a 23), .ref (a 24), .ref (a 25), .ref (a 26), .ref (a 27), .ref (a 28), .ref (a 29), .ref (a 30), .int kf]) := by rw [hw1881]; exact set_eq k1875
                        have k1885 : w1880[19]? = some (iA E (a 19) 24 (upd f1824 (nI lm).toNatClampNeg r1255)) := by rw [hw1881]; exact set_ne k1876 (by decide)
                        have k1886 : w1880[20]? = some (iA E (a 20) 24 (fun j => nI ((updn (updn g1833 lm 0) lm ((48 + d1854) - 48)) j))) := by rw [hw1881]; exact set_ne k1879 (by decide)
                        have kp1887 := keeps_set kp1878 hw1881 (by first | exact rfl | decide | omega | (dsimp only; omega))
                        refine x_aload_n C dX12_readsLine_200 rfl 2 rfl rfl ?_
                        refine x_get C (ci := 11) (k := 28) 0 k1884 rfl in_X12 (by decide) w_1146 rfl dX12_readsLine_201 rfl ?_
                        refine x_aload_n C dX12_readsLine_204 rfl 2 rfl rfl ?_
                        refine x_get C (ci := 11) (k := 27) 0 k1884 rfl in_X12 (by decide) w_1145 rfl dX12_readsLine_205 rfl ?_
                        refine x_iconst C (v := 1) dX12_readsLine_208 (by decide) rfl ?_
                        refine x_iadd C (v := (nI (lm + 1))) dX12_readsLine_209 (nI_add lm 1) rfl ?_
                        refine x_aload_n C dX12_readsLine_210 rfl 2 rfl rfl ?_
                        refine x_get C (ci := 11) (k := 28) 0 k1884 rfl in_X12 (by decide) w_1146 rfl dX12_readsLine_211 rfl ?_
                        refine x_aload_n C dX12_readsLine_214 rfl 2 rfl rfl ?_
                        refine x_get C (ci := 11) (k := 27) 0 k1884 rfl in_X12 (by decide) w_1145 rfl dX12_readsLine_215 rfl ?_
                        obtain ⟨_, k1888, g1889, gb1890, rfl⟩ := hW1882 18 _ rfl
                        refine x_ialk C (v := nI (g1889 lm)) lm (nI_clamp (by omega)) (nI_pos (by omega)) (by omega) 18 k1888 rfl dX12_readsLine_218 rfl ?_
                        have bx1891 := gb1890 lm
                        refine x_iload_n C dX12_readsLine_219 rfl 1 rfl rfl ?_
                        refine x_iadd C (v := (nI ((g1889 lm) + mm1249))) dX12_readsLine_220 (nI_add (g1889 lm) mm1249) rfl ?_
                        have gb1892 := updn_leF (i := (lm + 1)) (v := ((g1889 lm) + mm1249)) gb1890 (by omega)
                        obtain ⟨w1893, hw1894⟩ : ∃ w : va_W, w = List.set w1880 18 (iA E (a 18) 25 (upd (fun j => nI (g1889 j)) (lm + 1) (nI ((g1889 lm) + mm1249)))) := ⟨_, rfl⟩
                        refine x_iask C (lm + 1) (nI_clamp (by omega)) (nI_pos (by omega)) (by omega) 18 k1888 hw1894.symm dX12_readsLine_221 rfl ?_
                        have hW1895 : WX (okM E a cd kf jn js jq) w1893 := by rw [hw1894]; exact hW1882.set (k := 18) rfl ⟨_, gb1892, iA_n (upd_nI g1889 (lm + 1) ((g1889 lm) + mm1249))⟩
                        have k1896 : w1893[4]? = some (bA E (a 4) 260 tf) := by rw [hw1894]; exact set_ne k1883 (by decide)
                        have k1897 : w1893[0]? = some (ob (a 0) 11 [.ref (a 1), .ref (a 2), .ref (a 3), .ref (a 4), .int (nI tp), .int (nI ((pl1231 + 1) + 1)), .int (nI le), .int v1237, .int nu1232, .int v1238, .int (nI cm), .int (nI wt), .int (nI sm), .int (nI (cd.2.2.2.2.2)), .ref (a 5), .ref (a 6), .ref (a 7), .ref (a 8), .ref (a 9), .ref (a 10), .ref (a 11), .ref (a 12), .ref (a 13), .ref (a 14), .ref (a 15), .ref (a 16), .ref (a 17), .int (nI lm), .ref (a 18), .ref (a 19), .ref (a 20), .ref (a 21), .int v1239, .int v1240, .int v1241, .int v1242, .int (nI n1243), .int (nI n1244), .ref (a 22), .ref (a 23), .ref (a 24), .ref (a 25), .ref (a 26), .ref (a 27), .ref (a 28), .ref (a 29), .ref (a 30), .int kf]) := by rw [hw1894]; exact set_ne k1884 (by decide)
                        have k1898 : w1893[19]? = some (iA E (a 19) 24 (upd f1824 (nI lm).toNatClampNeg r1255)) := by rw [hw1894]; exact set_ne k1885 (by decide)
                        have k1899 : w1893[20]? = some (iA E (a 20) 24 (fun j => nI ((updn (updn g1833 lm 0) lm ((48 + d1854) - 48)) j))) := by rw [hw1894]; exact set_ne k1886 (by decide)
                        have k1900 : w1893[18]? = some (iA E (a 18) 25 (upd (fun j => nI (g1889 j)) (lm + 1) (nI ((g1889 lm) + mm1249)))) := by rw [hw1894]; exact set_eq k1888
                        have kp1901 := keeps_set kp1887 hw1894 (by first | exact rfl | decide | omega | (dsimp only; omega))
                        have k1902 : w1893[18]? = some (iA E (a 18) 25 (fun j => nI ((updn g1889 (lm + 1) ((g1889 lm) + mm1249)) j))) := by rw [← upd_nI]; exact k1900
                        refine x_aload_n C dX12_readsLine_222 rfl 2 rfl rfl ?_
                        refine x_aload_n C dX12_readsLine_223 rfl 2 rfl rfl ?_
                        refine x_get C (ci := 11) (k := 27) 0 k1897 rfl in_X12 (by decide) w_1145 rfl dX12_readsLine_224 rfl ?_
                        refine x_iconst C (v := 1) dX12_readsLine_227 (by decide) rfl ?_
                        refine x_iadd C (v := (nI (lm + 1))) dX12_readsLine_228 (nI_add lm 1) rfl ?_
                        obtain ⟨w1903, hw1904⟩ : ∃ w : va_W, w = List.set w1893 0 (ob (a 0) 11 [.ref (a 1), .ref (a 2), .ref (a 3), .ref (a 4), .int (nI tp), .int (nI ((pl1231 + 1) + 1)), .int (nI le), .int v1237, .int nu1232, .int v1238, .int (nI cm), .int (nI wt), .int (nI sm), .int (nI (cd.2.2.2.2.2)), .ref (a 5), .ref (a 6), .ref (a 7), .ref (a 8), .ref (a 9), .ref (a 10), .ref (a 11), .ref (a 12), .ref (a 13), .ref (a 14), .ref (a 15), .ref (a 16), .ref (a 17), .int (nI (lm + 1)), .ref (a 18), .ref (a 19), .ref (a 20), .ref (a 21), .int v1239, .int v1240, .int v1241, .int v1242, .int (nI n1243), .int (nI n1244), .ref (a 22), .ref (a 23), .ref (a 24), .ref (a 25), .ref (a 26), .ref (a 27), .ref (a 28), .ref (a 29), .ref (a 30), .int kf]) := ⟨_, rfl⟩
                        refine x_put C (ci := 11) (k := 27) (ty := .int) 0 k1897 rfl in_X12 tyX12 tyX12_ok nmX12 (by decide) w_1145 rfl rfl rfl rfl (Nat.le_of_ble_eq_true rfl) hw1904.symm dX12_readsLine_229 rfl ?_
                        have hW1905 : WX (okM E a cd kf jn js jq) w1903 := by rw [hw1904]; exact hW1895.set (k := 0) rfl ⟨tp, ((pl1231 + 1) + 1), le, v1237, nu1232, v1238, cm, wt, sm, (lm + 1), v1239, v1240, v1241, v1242, n1243, n1244, by omega, by omega, by omega, by omega, by omega, by omega, by omega, by omega, by omega, rfl⟩
                        have k1906 : w1903[4]? = some (bA E (a 4) 260 tf) := by rw [hw1904]; exact set_ne k1896 (by decide)
                        have k1907 : w1903[0]? = some (ob (a 0) 11 [.ref (a 1), .ref (a 2), .ref (a 3), .ref (a 4), .int (nI tp), .int (nI ((pl1231 + 1) + 1)), .int (nI le), .int v1237, .int nu1232, .int v1238, .int (nI cm), .int (nI wt), .int (nI sm), .int (nI (cd.2.2.2.2.2)), .ref (a 5), .ref (a 6), .ref (a 7), .ref (a 8), .ref (a 9), .ref (a 10), .ref (a 11), .ref (a 12), .ref (a 13), .ref (a 14), .ref (a 15), .ref (a 16), .ref (a 17), .int (nI (lm + 1)), .ref (a 18), .ref (a 19), .ref (a 20), .ref (a 21), .int v1239, .int v1240, .int v1241, .int v1242, .int (nI n1243), .int (nI n1244), .ref (a 22), .ref (a 23), .ref (a 24), .ref (a 25), .ref (a 26), .ref (a 27), .ref (a 28), .ref (a 29), .ref (a 30), .int kf]) := by rw [hw1904]; exact set_eq k1897
                        have k1908 : w1903[19]? = some (iA E (a 19) 24 (upd f1824 (nI lm).toNatClampNeg r1255)) := by rw [hw1904]; exact set_ne k1898 (by decide)
                        have k1909 : w1903[20]? = some (iA E (a 20) 24 (fun j => nI ((updn (updn g1833 lm 0) lm ((48 + d1854) - 48)) j))) := by rw [hw1904]; exact set_ne k1899 (by decide)
                        have k1910 : w1903[18]? = some (iA E (a 18) 25 (fun j => nI ((updn g1889 (lm + 1) ((g1889 lm) + mm1249)) j))) := by rw [hw1904]; exact set_ne k1902 (by decide)
                        have kp1911 := keeps_set kp1901 hw1904 (by first | exact rfl | decide | omega | (dsimp only; omega))
                        refine x_iconst C (v := 1) dX12_readsLine_232 (by decide) rfl ?_
                        exact x_zret C hr hlk rfl dX12_readsLine_233 ⟨hW1905, kp1911, (Or.inr rfl), ⟨((pl1231 + 1) + 1), (lm + 1), nu1232, by omega, by omega, by omega, ⟨v1237, v1238, v1239, v1240, v1241, v1242, n1243, n1244, ⟨by omega, by omega, by omega, by omega, by omega, by omega, by omega⟩, ⟨by omega, by omega⟩, k1907⟩⟩⟩
                      · skip
                        have nf1912 := nI_nle' (a := (48 + d1854)) (b := 55) c1863 (by omega) (by omega)
                        refine x_aload_n C dX12_readsLine_164 rfl 2 rfl rfl ?_
                        refine x_iconst C (v := 3) dX12_readsLine_165 (by decide) rfl ?_
                        refine x_aload_n C dX12_readsLine_166 rfl 2 rfl rfl ?_
                        refine x_get C (ci := 11) (k := 5) 0 k1840 rfl in_X12 (by decide) w_1123 rfl dX12_readsLine_167 rfl ?_
                        refine x_vi C (As := [.int 3, .int (nI (pl1231 + 1))]) (rest := []) (m_wrongAt E l a cd hG kf jn js jq w1836 hW1838 (3 : Int32) ((nI (pl1231 + 1))) tp (pl1231 + 1) le cm wt sm lm nu1232 ⟨v1237, v1238, v1239, v1240, v1241, v1242, n1243, n1244, ⟨by omega, by omega, by omega, by omega, by omega, by omega, by omega⟩, ⟨by omega, by omega⟩, k1840⟩) mf_X12_wrongAt w_1324 0 k1840 rfl rfl rfl (Nat.le_of_ble_eq_true rfl) ⟨(Nat.le_of_ble_eq_true rfl), (Nat.le_of_ble_eq_true rfl)⟩ ⟨(Nat.le_of_ble_eq_true rfl), (Nat.le_of_ble_eq_true rfl)⟩ dX12_readsLine_170 rfl (fun r1914 w1915 h1913 => ?_)
                        obtain ⟨hW1916, kq1917, e1918, x1919⟩ := h1913
                        refine x_top e1918 ?_
                        have k1920 : w1915[4]? = some (bA E (a 4) 260 tf) := keeps_at kq1917 k1839 (by first | decide | omega | (dsimp only; omega))
                        have k1921 : w1915[19]? = some (iA E (a 19) 24 (upd f1824 (nI lm).toNatClampNeg r1255)) := keeps_at kq1917 k1841 (by first | decide | omega | (dsimp only; omega))
                        have k1922 : w1915[20]? = some (iA E (a 20) 24 (fun j => nI ((updn g1833 lm 0) j))) := keeps_at kq1917 k1844 (by first | decide | omega | (dsimp only; omega))
                        have kp1923 := keeps_tr kp1843 kq1917 (fun q hq => by first | omega | (dsimp only at *; omega))
                        obtain ⟨v1924, v1925, v1926, v1927, v1928, v1929, n1930, n1931, bo1932, bo1933, k1934⟩ := x1919
                        exact x_zret C hr hlk rfl dX12_readsLine_173 ⟨hW1916, kp1923, (Or.inl rfl), ⟨((pl1231 + 1)), lm, nu1232, by omega, by omega, by omega, ⟨v1924, v1925, v1926, v1927, v1928, v1929, n1930, n1931, ⟨by omega, by omega, by omega, by omega, by omega, by omega, by omega⟩, ⟨by omega, by omega⟩, k1934⟩⟩⟩
                    · skip
                      refine x_aload_n C dX12_readsLine_145 rfl 2 rfl rfl ?_
                      refine x_iconst C (v := 1) dX12_readsLine_146 (by decide) rfl ?_
                      refine x_aload_n C dX12_readsLine_147 rfl 2 rfl rfl ?_
                      refine x_get C (ci := 11) (k := 5) 0 k1840 rfl in_X12 (by decide) w_1123 rfl dX12_readsLine_148 rfl ?_
                      refine x_vi C (As := [.int 1, .int (nI (pl1231 + 1))]) (rest := []) (m_wrongAt E l a cd hG kf jn js jq w1836 hW1838 (1 : Int32) ((nI (pl1231 + 1))) tp (pl1231 + 1) le cm wt sm lm nu1232 ⟨v1237, v1238, v1239, v1240, v1241, v1242, n1243, n1244, ⟨by omega, by omega, by omega, by omega, by omega, by omega, by omega⟩, ⟨by omega, by omega⟩, k1840⟩) mf_X12_wrongAt w_1324 0 k1840 rfl rfl rfl (Nat.le_of_ble_eq_true rfl) ⟨(Nat.le_of_ble_eq_true rfl), (Nat.le_of_ble_eq_true rfl)⟩ ⟨(Nat.le_of_ble_eq_true rfl), (Nat.le_of_ble_eq_true rfl)⟩ dX12_readsLine_151 rfl (fun r1936 w1937 h1935 => ?_)
                      obtain ⟨hW1938, kq1939, e1940, x1941⟩ := h1935
                      refine x_top e1940 ?_
                      have k1942 : w1937[4]? = some (bA E (a 4) 260 tf) := keeps_at kq1939 k1839 (by first | decide | omega | (dsimp only; omega))
                      have k1943 : w1937[19]? = some (iA E (a 19) 24 (upd f1824 (nI lm).toNatClampNeg r1255)) := keeps_at kq1939 k1841 (by first | decide | omega | (dsimp only; omega))
                      have k1944 : w1937[20]? = some (iA E (a 20) 24 (fun j => nI ((updn g1833 lm 0) j))) := keeps_at kq1939 k1844 (by first | decide | omega | (dsimp only; omega))
                      have kp1945 := keeps_tr kp1843 kq1939 (fun q hq => by first | omega | (dsimp only at *; omega))
                      obtain ⟨v1946, v1947, v1948, v1949, v1950, v1951, n1952, n1953, bo1954, bo1955, k1956⟩ := x1941
                      exact x_zret C hr hlk rfl dX12_readsLine_154 ⟨hW1938, kp1945, (Or.inl rfl), ⟨((pl1231 + 1)), lm, nu1232, by omega, by omega, by omega, ⟨v1946, v1947, v1948, v1949, v1950, v1951, n1952, n1953, ⟨by omega, by omega, by omega, by omega, by omega, by omega, by omega⟩, ⟨by omega, by omega⟩, k1956⟩⟩⟩
                  · skip
                    refine x_iload_n C dX12_readsLine_132 rfl 0 rfl rfl ?_
                    refine x_bipush C (v := 33) dX12_readsLine_133 (by decide) rfl ?_
                    refine x_icmp_ne C (tgt := 200) dX12_readsLine_135 (by decide) rfl (fun c1957 => ?_) (fun c1957 => ?_)
                    · skip
                      refine x_aload_n C dX12_readsLine_200 rfl 2 rfl rfl ?_
                      refine x_get C (ci := 11) (k := 28) 0 k1840 rfl in_X12 (by decide) w_1146 rfl dX12_readsLine_201 rfl ?_
                      refine x_aload_n C dX12_readsLine_204 rfl 2 rfl rfl ?_
                      refine x_get C (ci := 11) (k := 27) 0 k1840 rfl in_X12 (by decide) w_1145 rfl dX12_readsLine_205 rfl ?_
                      refine x_iconst C (v := 1) dX12_readsLine_208 (by decide) rfl ?_
                      refine x_iadd C (v := (nI (lm + 1))) dX12_readsLine_209 (nI_add lm 1) rfl ?_
                      refine x_aload_n C dX12_readsLine_210 rfl 2 rfl rfl ?_
                      refine x_get C (ci := 11) (k := 28) 0 k1840 rfl in_X12 (by decide) w_1146 rfl dX12_readsLine_211 rfl ?_
                      refine x_aload_n C dX12_readsLine_214 rfl 2 rfl rfl ?_
                      refine x_get C (ci := 11) (k := 27) 0 k1840 rfl in_X12 (by decide) w_1145 rfl dX12_readsLine_215 rfl ?_
                      obtain ⟨_, k1958, g1959, gb1960, rfl⟩ := hW1838 18 _ rfl
                      refine x_ialk C (v := nI (g1959 lm)) lm (nI_clamp (by omega)) (nI_pos (by omega)) (by omega) 18 k1958 rfl dX12_readsLine_218 rfl ?_
                      have bx1961 := gb1960 lm
                      refine x_iload_n C dX12_readsLine_219 rfl 1 rfl rfl ?_
                      refine x_iadd C (v := (nI ((g1959 lm) + mm1249))) dX12_readsLine_220 (nI_add (g1959 lm) mm1249) rfl ?_
                      have gb1962 := updn_leF (i := (lm + 1)) (v := ((g1959 lm) + mm1249)) gb1960 (by omega)
                      obtain ⟨w1963, hw1964⟩ : ∃ w : va_W, w = List.set w1836 18 (iA E (a 18) 25 (upd (fun j => nI (g1959 j)) (lm + 1) (nI ((g1959 lm) + mm1249)))) := ⟨_, rfl⟩
                      refine x_iask C (lm + 1) (nI_clamp (by omega)) (nI_pos (by omega)) (by omega) 18 k1958 hw1964.symm dX12_readsLine_221 rfl ?_
                      have hW1965 : WX (okM E a cd kf jn js jq) w1963 := by rw [hw1964]; exact hW1838.set (k := 18) rfl ⟨_, gb1962, iA_n (upd_nI g1959 (lm + 1) ((g1959 lm) + mm1249))⟩
                      have k1966 : w1963[4]? = some (bA E (a 4) 260 tf) := by rw [hw1964]; exact set_ne k1839 (by decide)
                      have k1967 : w1963[0]? = some (ob (a 0) 11 [.ref (a 1), .ref (a 2), .ref (a 3), .ref (a 4), .int (nI tp), .int (nI (pl1231 + 1)), .int (nI le), .int v1237, .int nu1232, .int v1238, .int (nI cm), .int (nI wt), .int (nI sm), .int (nI (cd.2.2.2.2.2)), .ref (a 5), .ref (a 6), .ref (a 7), .ref (a 8), .ref (a 9), .ref (a 10), .ref (a 11), .ref (a 12), .ref (a 13), .ref (a 14), .ref (a 15), .ref (a 16), .ref (a 17), .int (nI lm), .ref (a 18), .ref (a 19), .ref (a 20), .ref (a 21), .int v1239, .int v1240, .int v1241, .int v1242, .int (nI n1243), .int (nI n1244), .ref (a 22), .ref (a 23), .ref (a 24), .ref (a 25), .ref (a 26), .ref (a 27), .ref (a 28), .ref (a 29), .ref (a 30), .int kf]) := by rw [hw1964]; exact set_ne k1840 (by decide)
                      have k1968 : w1963[19]? = some (iA E (a 19) 24 (upd f1824 (nI lm).toNatClampNeg r1255)) := by rw [hw1964]; exact set_ne k1841 (by decide)
                      have k1969 : w1963[20]? = some (iA E (a 20) 24 (fun j => nI ((updn g1833 lm 0) j))) := by rw [hw1964]; exact set_ne k1844 (by decide)
                      have k1970 : w1963[18]? = some (iA E (a 18) 25 (upd (fun j => nI (g1959 j)) (lm + 1) (nI ((g1959 lm) + mm1249)))) := by rw [hw1964]; exact set_eq k1958
                      have kp1971 := keeps_set kp1843 hw1964 (by first | exact rfl | decide | omega | (dsimp only; omega))
                      have k1972 : w1963[18]? = some (iA E (a 18) 25 (fun j => nI ((updn g1959 (lm + 1) ((g1959 lm) + mm1249)) j))) := by rw [← upd_nI]; exact k1970
                      refine x_aload_n C dX12_readsLine_222 rfl 2 rfl rfl ?_
                      refine x_aload_n C dX12_readsLine_223 rfl 2 rfl rfl ?_
                      refine x_get C (ci := 11) (k := 27) 0 k1967 rfl in_X12 (by decide) w_1145 rfl dX12_readsLine_224 rfl ?_
                      refine x_iconst C (v := 1) dX12_readsLine_227 (by decide) rfl ?_
                      refine x_iadd C (v := (nI (lm + 1))) dX12_readsLine_228 (nI_add lm 1) rfl ?_
                      obtain ⟨w1973, hw1974⟩ : ∃ w : va_W, w = List.set w1963 0 (ob (a 0) 11 [.ref (a 1), .ref (a 2), .ref (a 3), .ref (a 4), .int (nI tp), .int (nI (pl1231 + 1)), .int (nI le), .int v1237, .int nu1232, .int v1238, .int (nI cm), .int (nI wt), .int (nI sm), .int (nI (cd.2.2.2.2.2)), .ref (a 5), .ref (a 6), .ref (a 7), .ref (a 8), .ref (a 9), .ref (a 10), .ref (a 11), .ref (a 12), .ref (a 13), .ref (a 14), .ref (a 15), .ref (a 16), .ref (a 17), .int (nI (lm + 1)), .ref (a 18), .ref (a 19), .ref (a 20), .ref (a 21), .int v1239, .int v1240, .int v1241, .int v1242, .int (nI n1243), .int (nI n1244), .ref (a 22), .ref (a 23), .ref (a 24), .ref (a 25), .ref (a 26), .ref (a 27), .ref (a 28), .ref (a 29), .ref (a 30), .int kf]) := ⟨_, rfl⟩
                      refine x_put C (ci := 11) (k := 27) (ty := .int) 0 k1967 rfl in_X12 tyX12 tyX12_ok nmX12 (by decide) w_1145 rfl rfl rfl rfl (Nat.le_of_ble_eq_true rfl) hw1974.symm dX12_readsLine_229 rfl ?_
                      have hW1975 : WX (okM E a cd kf jn js jq) w1973 := by rw [hw1974]; exact hW1965.set (k := 0) rfl ⟨tp, (pl1231 + 1), le, v1237, nu1232, v1238, cm, wt, sm, (lm + 1), v1239, v1240, v1241, v1242, n1243, n1244, by omega, by omega, by omega, by omega, by omega, by omega, by omega, by omega, by omega, rfl⟩
                      have k1976 : w1973[4]? = some (bA E (a 4) 260 tf) := by rw [hw1974]; exact set_ne k1966 (by decide)
                      have k1977 : w1973[0]? = some (ob (a 0) 11 [.ref (a 1), .ref (a 2), .ref (a 3), .ref (a 4), .int (nI tp), .int (nI (pl1231 + 1)), .int (nI le), .int v1237, .int nu1232, .int v1238, .int (nI cm), .int (nI wt), .int (nI sm), .int (nI (cd.2.2.2.2.2)), .ref (a 5), .ref (a 6), .ref (a 7), .ref (a 8), .ref (a 9), .ref (a 10), .ref (a 11), .ref (a 12), .ref (a 13), .ref (a 14), .ref (a 15), .ref (a 16), .ref (a 17), .int (nI (lm + 1)), .ref (a 18), .ref (a 19), .ref (a 20), .ref (a 21), .int v1239, .int v1240, .int v1241, .int v1242, .int (nI n1243), .int (nI n1244), .ref (a 22), .ref (a 23), .ref (a 24), .ref (a 25), .ref (a 26), .ref (a 27), .ref (a 28), .ref (a 29), .ref (a 30), .int kf]) := by rw [hw1974]; exact set_eq k1967
                      have k1978 : w1973[19]? = some (iA E (a 19) 24 (upd f1824 (nI lm).toNatClampNeg r1255)) := by rw [hw1974]; exact set_ne k1968 (by decide)
                      have k1979 : w1973[20]? = some (iA E (a 20) 24 (fun j => nI ((updn g1833 lm 0) j))) := by rw [hw1974]; exact set_ne k1969 (by decide)
                      have k1980 : w1973[18]? = some (iA E (a 18) 25 (fun j => nI ((updn g1959 (lm + 1) ((g1959 lm) + mm1249)) j))) := by rw [hw1974]; exact set_ne k1972 (by decide)
                      have kp1981 := keeps_set kp1971 hw1974 (by first | exact rfl | decide | omega | (dsimp only; omega))
                      refine x_iconst C (v := 1) dX12_readsLine_232 (by decide) rfl ?_
                      exact x_zret C hr hlk rfl dX12_readsLine_233 ⟨hW1975, kp1981, (Or.inr rfl), ⟨(pl1231 + 1), (lm + 1), nu1232, by omega, by omega, by omega, ⟨v1237, v1238, v1239, v1240, v1241, v1242, n1243, n1244, ⟨by omega, by omega, by omega, by omega, by omega, by omega, by omega⟩, ⟨by omega, by omega⟩, k1977⟩⟩⟩
                    · skip
                      have hp1982 := hv_lt (x1258.symm.trans c1957) (by decide)
                      refine x_aload_n C dX12_readsLine_138 rfl 2 rfl rfl ?_
                      refine x_vi C (As := []) (rest := []) (m_isDigit E l a cd hG kf jn js jq w1836 hW1838 tp (pl1231 + 1) le cm wt sm lm nu1232 ⟨v1237, v1238, v1239, v1240, v1241, v1242, n1243, n1244, ⟨by omega, by omega, by omega, by omega, by omega, by omega, by omega⟩, ⟨by omega, by omega⟩, k1840⟩ tf k1839) mf_X12_isDigit w_1341 0 k1840 rfl rfl rfl (Nat.le_of_ble_eq_true rfl) ⟨(Nat.le_of_ble_eq_true rfl), (Nat.le_of_ble_eq_true rfl)⟩ ⟨(Nat.le_of_ble_eq_true rfl), (Nat.le_of_ble_eq_true rfl)⟩ dX12_readsLine_139 rfl (fun r1984 w1985 h1983 => ?_)
                      obtain ⟨hW1986, zb1987, x1988⟩ := h1983
                      refine x_ws hW1986 ?_
                      refine x_if_ne C (tgt := 155) dX12_readsLine_142 (by decide) rfl (fun c1989 => ?_) (fun c1989 => ?_)
                      · skip
                        obtain ⟨d1990, hd1991, ed1992, hp1993⟩ := x1988 c1989
                        refine x_aload_n C dX12_readsLine_155 rfl 2 rfl rfl ?_
                        refine x_vi C (As := []) (rest := []) (m_here E l a cd hG kf jn js jq w1836 hW1838 tp (pl1231 + 1) le cm wt sm lm nu1232 ⟨v1237, v1238, v1239, v1240, v1241, v1242, n1243, n1244, ⟨by omega, by omega, by omega, by omega, by omega, by omega, by omega⟩, ⟨by omega, by omega⟩, k1840⟩ tf k1839) mf_X12_here w_1317 0 k1840 rfl rfl rfl (Nat.le_of_ble_eq_true rfl) ⟨(Nat.le_of_ble_eq_true rfl), (Nat.le_of_ble_eq_true rfl)⟩ ⟨(Nat.le_of_ble_eq_true rfl), (Nat.le_of_ble_eq_true rfl)⟩ dX12_readsLine_156 rfl (fun r1995 w1996 h1994 => ?_)
                        obtain ⟨hW1997, x1998⟩ := h1994
                        refine x_ws hW1997 ?_
                        refine x_top (x1998.trans ed1992) ?_
                        refine x_bipush C (v := 55) dX12_readsLine_159 (by decide) rfl ?_
                        refine x_icmp_le C (tgt := 174) dX12_readsLine_161 (by decide) rfl (fun c1999 => ?_) (fun c1999 => ?_)
                        · skip
                          have nf2000 := nI_le' (a := (48 + d1990)) (b := 55) c1999 (by omega) (by omega)
                          refine x_aload_n C dX12_readsLine_174 rfl 2 rfl rfl ?_
                          refine x_get C (ci := 11) (k := 30) 0 k1840 rfl in_X12 (by decide) w_1148 rfl dX12_readsLine_175 rfl ?_
                          refine x_aload_n C dX12_readsLine_178 rfl 2 rfl rfl ?_
                          refine x_get C (ci := 11) (k := 27) 0 k1840 rfl in_X12 (by decide) w_1145 rfl dX12_readsLine_179 rfl ?_
                          refine x_aload_n C dX12_readsLine_182 rfl 2 rfl rfl ?_
                          refine x_vi C (As := []) (rest := [.int (nI lm), .ref (a 20)]) (m_here E l a cd hG kf jn js jq w1836 hW1838 tp (pl1231 + 1) le cm wt sm lm nu1232 ⟨v1237, v1238, v1239, v1240, v1241, v1242, n1243, n1244, ⟨by omega, by omega, by omega, by omega, by omega, by omega, by omega⟩, ⟨by omega, by omega⟩, k1840⟩ tf k1839) mf_X12_here w_1317 0 k1840 rfl rfl rfl (Nat.le_of_ble_eq_true rfl) ⟨(Nat.le_of_ble_eq_true rfl), (Nat.le_of_ble_eq_true rfl)⟩ ⟨(Nat.le_of_ble_eq_true rfl), (Nat.le_of_ble_eq_true rfl)⟩ dX12_readsLine_183 rfl (fun r2002 w2003 h2001 => ?_)
                          obtain ⟨hW2004, x2005⟩ := h2001
                          refine x_ws hW2004 ?_
                          refine x_top (x2005.trans ed1992) ?_
                          refine x_bipush C (v := 48) dX12_readsLine_186 (by decide) rfl ?_
                          refine x_isub C (v := (nI ((48 + d1990) - 48))) dX12_readsLine_188 (pk_sub (a := (48 + d1990)) (b := 48) (by omega)) rfl ?_
                          have gb2006 := updn_le (i := lm) (v := ((48 + d1990) - 48)) gb1835 (by omega)
                          obtain ⟨w2007, hw2008⟩ : ∃ w : va_W, w = List.set w1836 20 (iA E (a 20) 24 (upd (fun j => nI ((updn g1833 lm 0) j)) lm (nI ((48 + d1990) - 48)))) := ⟨_, rfl⟩
                          refine x_iask C lm (nI_clamp (by omega)) (nI_pos (by omega)) (by omega) 20 k1844 hw2008.symm dX12_readsLine_189 rfl ?_
                          have hW2009 : WX (okM E a cd kf jn js jq) w2007 := by rw [hw2008]; exact hW1838.set (k := 20) rfl ⟨_, gb2006, iA_n (upd_nI (updn g1833 lm 0) lm ((48 + d1990) - 48))⟩
                          have k2010 : w2007[4]? = some (bA E (a 4) 260 tf) := by rw [hw2008]; exact set_ne k1839 (by decide)
                          have k2011 : w2007[0]? = some (ob (a 0) 11 [.ref (a 1), .ref (a 2), .ref (a 3), .ref (a 4), .int (nI tp), .int (nI (pl1231 + 1)), .int (nI le), .int v1237, .int nu1232, .int v1238, .int (nI cm), .int (nI wt), .int (nI sm), .int (nI (cd.2.2.2.2.2)), .ref (a 5), .ref (a 6), .ref (a 7), .ref (a 8), .ref (a 9), .ref (a 10), .ref (a 11), .ref (a 12), .ref (a 13), .ref (a 14), .ref (a 15), .ref (a 16), .ref (a 17), .int (nI lm), .ref (a 18), .ref (a 19), .ref (a 20), .ref (a 21), .int v1239, .int v1240, .int v1241, .int v1242, .int (nI n1243), .int (nI n1244), .ref (a 22), .ref (a 23), .ref (a 24), .ref (a 25), .ref (a 26), .ref (a 27), .ref (a 28), .ref (a 29), .ref (a 30), .int kf]) := by rw [hw2008]; exact set_ne k1840 (by decide)
                          have k2012 : w2007[19]? = some (iA E (a 19) 24 (upd f1824 (nI lm).toNatClampNeg r1255)) := by rw [hw2008]; exact set_ne k1841 (by decide)
                          have k2013 : w2007[20]? = some (iA E (a 20) 24 (upd (fun j => nI ((updn g1833 lm 0) j)) lm (nI ((48 + d1990) - 48)))) := by rw [hw2008]; exact set_eq k1844
                          have kp2014 := keeps_set kp1843 hw2008 (by first | exact rfl | decide | omega | (dsimp only; omega))
                          have k2015 : w2007[20]? = some (iA E (a 20) 24 (fun j => nI ((updn (updn g1833 lm 0) lm ((48 + d1990) - 48)) j))) := by rw [← upd_nI]; exact k2013
                          refine x_aload_n C dX12_readsLine_190 rfl 2 rfl rfl ?_
                          refine x_aload_n C dX12_readsLine_191 rfl 2 rfl rfl ?_
                          refine x_get C (ci := 11) (k := 5) 0 k2011 rfl in_X12 (by decide) w_1123 rfl dX12_readsLine_192 rfl ?_
                          refine x_iconst C (v := 1) dX12_readsLine_195 (by decide) rfl ?_
                          refine x_iadd C (v := (nI ((pl1231 + 1) + 1))) dX12_readsLine_196 (nI_add (pl1231 + 1) 1) rfl ?_
                          obtain ⟨w2016, hw2017⟩ : ∃ w : va_W, w = List.set w2007 0 (ob (a 0) 11 [.ref (a 1), .ref (a 2), .ref (a 3), .ref (a 4), .int (nI tp), .int (nI ((pl1231 + 1) + 1)), .int (nI le), .int v1237, .int nu1232, .int v1238, .int (nI cm), .int (nI wt), .int (nI sm), .int (nI (cd.2.2.2.2.2)), .ref (a 5), .ref (a 6), .ref (a 7), .ref (a 8), .ref (a 9), .ref (a 10), .ref (a 11), .ref (a 12), .ref (a 13), .ref (a 14), .ref (a 15), .ref (a 16), .ref (a 17), .int (nI lm), .ref (a 18), .ref (a 19), .ref (a 20), .ref (a 21), .int v1239, .int v1240, .int v1241, .int v1242, .int (nI n1243), .int (nI n1244), .ref (a 22), .ref (a 23), .ref (a 24), .ref (a 25), .ref (a 26), .ref (a 27), .ref (a 28), .ref (a 29), .ref (a 30), .int kf]) := ⟨_, rfl⟩
                          refine x_put C (ci := 11) (k := 5) (ty := .int) 0 k2011 rfl in_X12 tyX12 tyX12_ok nmX12 (by decide) w_1123 rfl rfl rfl rfl (Nat.le_of_ble_eq_true rfl) hw2017.symm dX12_readsLine_197 rfl ?_
                          have hW2018 : WX (okM E a cd kf jn js jq) w2016 := by rw [hw2017]; exact hW2009.set (k := 0) rfl ⟨tp, ((pl1231 + 1) + 1), le, v1237, nu1232, v1238, cm, wt, sm, lm, v1239, v1240, v1241, v1242, n1243, n1244, by omega, by omega, by omega, by omega, by omega, by omega, by omega, by omega, by omega, rfl⟩
                          have k2019 : w2016[4]? = some (bA E (a 4) 260 tf) := by rw [hw2017]; exact set_ne k2010 (by decide)
                          have k2020 : w2016[0]? = some (ob (a 0) 11 [.ref (a 1), .ref (a 2), .ref (a 3), .ref (a 4), .int (nI tp), .int (nI ((pl1231 + 1) + 1)), .int (nI le), .int v1237, .int nu1232, .int v1238, .int (nI cm), .int (nI wt), .int (nI sm), .int (nI (cd.2.2.2.2.2)), .ref (a 5), .ref (a 6), .ref (a 7), .ref (a 8), .ref (a 9), .ref (a 10), .ref (a 11), .ref (a 12), .ref (a 13), .ref (a 14), .ref (a 15), .ref (a 16), .ref (a 17), .int (nI lm), .ref (a 18), .ref (a 19), .ref (a 20), .ref (a 21), .int v1239, .int v1240, .int v1241, .int v1242, .int (nI n1243), .int (nI n1244), .ref (a 22), .ref (a 23), .ref (a 24), .ref (a 25), .ref (a 26), .ref (a 27), .ref (a 28), .ref (a 29), .ref (a 30), .int kf]) := by rw [hw2017]; exact set_eq k2011
                          have k2021 : w2016[19]? = some (iA E (a 19) 24 (upd f1824 (nI lm).toNatClampNeg r1255)) := by rw [hw2017]; exact set_ne k2012 (by decide)
                          have k2022 : w2016[20]? = some (iA E (a 20) 24 (fun j => nI ((updn (updn g1833 lm 0) lm ((48 + d1990) - 48)) j))) := by rw [hw2017]; exact set_ne k2015 (by decide)
                          have kp2023 := keeps_set kp2014 hw2017 (by first | exact rfl | decide | omega | (dsimp only; omega))
                          refine x_aload_n C dX12_readsLine_200 rfl 2 rfl rfl ?_
                          refine x_get C (ci := 11) (k := 28) 0 k2020 rfl in_X12 (by decide) w_1146 rfl dX12_readsLine_201 rfl ?_
                          refine x_aload_n C dX12_readsLine_204 rfl 2 rfl rfl ?_
                          refine x_get C (ci := 11) (k := 27) 0 k2020 rfl in_X12 (by decide) w_1145 rfl dX12_readsLine_205 rfl ?_
                          refine x_iconst C (v := 1) dX12_readsLine_208 (by decide) rfl ?_
                          refine x_iadd C (v := (nI (lm + 1))) dX12_readsLine_209 (nI_add lm 1) rfl ?_
                          refine x_aload_n C dX12_readsLine_210 rfl 2 rfl rfl ?_
                          refine x_get C (ci := 11) (k := 28) 0 k2020 rfl in_X12 (by decide) w_1146 rfl dX12_readsLine_211 rfl ?_
                          refine x_aload_n C dX12_readsLine_214 rfl 2 rfl rfl ?_
                          refine x_get C (ci := 11) (k := 27) 0 k2020 rfl in_X12 (by decide) w_1145 rfl dX12_readsLine_215 rfl ?_
                          obtain ⟨_, k2024, g2025, gb2026, rfl⟩ := hW2018 18 _ rfl
                          refine x_ialk C (v := nI (g2025 lm)) lm (nI_clamp (by omega)) (nI_pos (by omega)) (by omega) 18 k2024 rfl dX12_readsLine_218 rfl ?_
                          have bx2027 := gb2026 lm
                          refine x_iload_n C dX12_readsLine_219 rfl 1 rfl rfl ?_
                          refine x_iadd C (v := (nI ((g2025 lm) + mm1249))) dX12_readsLine_220 (nI_add (g2025 lm) mm1249) rfl ?_
                          have gb2028 := updn_leF (i := (lm + 1)) (v := ((g2025 lm) + mm1249)) gb2026 (by omega)
                          obtain ⟨w2029, hw2030⟩ : ∃ w : va_W, w = List.set w2016 18 (iA E (a 18) 25 (upd (fun j => nI (g2025 j)) (lm + 1) (nI ((g2025 lm) + mm1249)))) := ⟨_, rfl⟩
                          refine x_iask C (lm + 1) (nI_clamp (by omega)) (nI_pos (by omega)) (by omega) 18 k2024 hw2030.symm dX12_readsLine_221 rfl ?_
                          have hW2031 : WX (okM E a cd kf jn js jq) w2029 := by rw [hw2030]; exact hW2018.set (k := 18) rfl ⟨_, gb2028, iA_n (upd_nI g2025 (lm + 1) ((g2025 lm) + mm1249))⟩
                          have k2032 : w2029[4]? = some (bA E (a 4) 260 tf) := by rw [hw2030]; exact set_ne k2019 (by decide)
                          have k2033 : w2029[0]? = some (ob (a 0) 11 [.ref (a 1), .ref (a 2), .ref (a 3), .ref (a 4), .int (nI tp), .int (nI ((pl1231 + 1) + 1)), .int (nI le), .int v1237, .int nu1232, .int v1238, .int (nI cm), .int (nI wt), .int (nI sm), .int (nI (cd.2.2.2.2.2)), .ref (a 5), .ref (a 6), .ref (a 7), .ref (a 8), .ref (a 9), .ref (a 10), .ref (a 11), .ref (a 12), .ref (a 13), .ref (a 14), .ref (a 15), .ref (a 16), .ref (a 17), .int (nI lm), .ref (a 18), .ref (a 19), .ref (a 20), .ref (a 21), .int v1239, .int v1240, .int v1241, .int v1242, .int (nI n1243), .int (nI n1244), .ref (a 22), .ref (a 23), .ref (a 24), .ref (a 25), .ref (a 26), .ref (a 27), .ref (a 28), .ref (a 29), .ref (a 30), .int kf]) := by rw [hw2030]; exact set_ne k2020 (by decide)
                          have k2034 : w2029[19]? = some (iA E (a 19) 24 (upd f1824 (nI lm).toNatClampNeg r1255)) := by rw [hw2030]; exact set_ne k2021 (by decide)
                          have k2035 : w2029[20]? = some (iA E (a 20) 24 (fun j => nI ((updn (updn g1833 lm 0) lm ((48 + d1990) - 48)) j))) := by rw [hw2030]; exact set_ne k2022 (by decide)
                          have k2036 : w2029[18]? = some (iA E (a 18) 25 (upd (fun j => nI (g2025 j)) (lm + 1) (nI ((g2025 lm) + mm1249)))) := by rw [hw2030]; exact set_eq k2024
                          have kp2037 := keeps_set kp2023 hw2030 (by first | exact rfl | decide | omega | (dsimp only; omega))
                          have k2038 : w2029[18]? = some (iA E (a 18) 25 (fun j => nI ((updn g2025 (lm + 1) ((g2025 lm) + mm1249)) j))) := by rw [← upd_nI]; exact k2036
                          refine x_aload_n C dX12_readsLine_222 rfl 2 rfl rfl ?_
                          refine x_aload_n C dX12_readsLine_223 rfl 2 rfl rfl ?_
                          refine x_get C (ci := 11) (k := 27) 0 k2033 rfl in_X12 (by decide) w_1145 rfl dX12_readsLine_224 rfl ?_
                          refine x_iconst C (v := 1) dX12_readsLine_227 (by decide) rfl ?_
                          refine x_iadd C (v := (nI (lm + 1))) dX12_readsLine_228 (nI_add lm 1) rfl ?_
                          obtain ⟨w2039, hw2040⟩ : ∃ w : va_W, w = List.set w2029 0 (ob (a 0) 11 [.ref (a 1), .ref (a 2), .ref (a 3), .ref (a 4), .int (nI tp), .int (nI ((pl1231 + 1) + 1)), .int (nI le), .int v1237, .int nu1232, .int v1238, .int (nI cm), .int (nI wt), .int (nI sm), .int (nI (cd.2.2.2.2.2)), .ref (a 5), .ref (a 6), .ref (a 7), .ref (a 8), .ref (a 9), .ref (a 10), .ref (a 11), .ref (a 12), .ref (a 13), .ref (a 14), .ref (a 15), .ref (a 16), .ref (a 17), .int (nI (lm + 1)), .ref (a 18), .ref (a 19), .ref (a 20), .ref (a 21), .int v1239, .int v1240, .int v1241, .int v1242, .int (nI n1243), .int (nI n1244), .ref (a 22), .ref (a 23), .ref (a 24), .ref (a 25), .ref (a 26), .ref (a 27), .ref (a 28), .ref (a 29), .ref (a 30), .int kf]) := ⟨_, rfl⟩
                          refine x_put C (ci := 11) (k := 27) (ty := .int) 0 k2033 rfl in_X12 tyX12 tyX12_ok nmX12 (by decide) w_1145 rfl rfl rfl rfl (Nat.le_of_ble_eq_true rfl) hw2040.symm dX12_readsLine_229 rfl ?_
                          have hW2041 : WX (okM E a cd kf jn js jq) w2039 := by rw [hw2040]; exact hW2031.set (k := 0) rfl ⟨tp, ((pl1231 + 1) + 1), le, v1237, nu1232, v1238, cm, wt, sm, (lm + 1), v1239, v1240, v1241, v1242, n1243, n1244, by omega, by omega, by omega, by omega, by omega, by omega, by omega, by omega, by omega, rfl⟩
                          have k2042 : w2039[4]? = some (bA E (a 4) 260 tf) := by rw [hw2040]; exact set_ne k2032 (by decide)
                          have k2043 : w2039[0]? = some (ob (a 0) 11 [.ref (a 1), .ref (a 2), .ref (a 3), .ref (a 4), .int (nI tp), .int (nI ((pl1231 + 1) + 1)), .int (nI le), .int v1237, .int nu1232, .int v1238, .int (nI cm), .int (nI wt), .int (nI sm), .int (nI (cd.2.2.2.2.2)), .ref (a 5), .ref (a 6), .ref (a 7), .ref (a 8), .ref (a 9), .ref (a 10), .ref (a 11), .ref (a 12), .ref (a 13), .ref (a 14), .ref (a 15), .ref (a 16), .ref (a 17), .int (nI (lm + 1)), .ref (a 18), .ref (a 19), .ref (a 20), .ref (a 21), .int v1239, .int v1240, .int v1241, .int v1242, .int (nI n1243), .int (nI n1244), .ref (a 22), .ref (a 23), .ref (a 24), .ref (a 25), .ref (a 26), .ref (a 27), .ref (a 28), .ref (a 29), .ref (a 30), .int kf]) := by rw [hw2040]; exact set_eq k2033
                          have k2044 : w2039[19]? = some (iA E (a 19) 24 (upd f1824 (nI lm).toNatClampNeg r1255)) := by rw [hw2040]; exact set_ne k2034 (by decide)
                          have k2045 : w2039[20]? = some (iA E (a 20) 24 (fun j => nI ((updn (updn g1833 lm 0) lm ((48 + d1990) - 48)) j))) := by rw [hw2040]; exact set_ne k2035 (by decide)
                          have k2046 : w2039[18]? = some (iA E (a 18) 25 (fun j => nI ((updn g2025 (lm + 1) ((g2025 lm) + mm1249)) j))) := by rw [hw2040]; exact set_ne k2038 (by decide)
                          have kp2047 := keeps_set kp2037 hw2040 (by first | exact rfl | decide | omega | (dsimp only; omega))
                          refine x_iconst C (v := 1) dX12_readsLine_232 (by decide) rfl ?_
                          exact x_zret C hr hlk rfl dX12_readsLine_233 ⟨hW2041, kp2047, (Or.inr rfl), ⟨((pl1231 + 1) + 1), (lm + 1), nu1232, by omega, by omega, by omega, ⟨v1237, v1238, v1239, v1240, v1241, v1242, n1243, n1244, ⟨by omega, by omega, by omega, by omega, by omega, by omega, by omega⟩, ⟨by omega, by omega⟩, k2043⟩⟩⟩
                        · skip
                          have nf2048 := nI_nle' (a := (48 + d1990)) (b := 55) c1999 (by omega) (by omega)
                          refine x_aload_n C dX12_readsLine_164 rfl 2 rfl rfl ?_
                          refine x_iconst C (v := 3) dX12_readsLine_165 (by decide) rfl ?_
                          refine x_aload_n C dX12_readsLine_166 rfl 2 rfl rfl ?_
                          refine x_get C (ci := 11) (k := 5) 0 k1840 rfl in_X12 (by decide) w_1123 rfl dX12_readsLine_167 rfl ?_
                          refine x_vi C (As := [.int 3, .int (nI (pl1231 + 1))]) (rest := []) (m_wrongAt E l a cd hG kf jn js jq w1836 hW1838 (3 : Int32) ((nI (pl1231 + 1))) tp (pl1231 + 1) le cm wt sm lm nu1232 ⟨v1237, v1238, v1239, v1240, v1241, v1242, n1243, n1244, ⟨by omega, by omega, by omega, by omega, by omega, by omega, by omega⟩, ⟨by omega, by omega⟩, k1840⟩) mf_X12_wrongAt w_1324 0 k1840 rfl rfl rfl (Nat.le_of_ble_eq_true rfl) ⟨(Nat.le_of_ble_eq_true rfl), (Nat.le_of_ble_eq_true rfl)⟩ ⟨(Nat.le_of_ble_eq_true rfl), (Nat.le_of_ble_eq_true rfl)⟩ dX12_readsLine_170 rfl (fun r2050 w2051 h2049 => ?_)
                          obtain ⟨hW2052, kq2053, e2054, x2055⟩ := h2049
                          refine x_top e2054 ?_
                          have k2056 : w2051[4]? = some (bA E (a 4) 260 tf) := keeps_at kq2053 k1839 (by first | decide | omega | (dsimp only; omega))
                          have k2057 : w2051[19]? = some (iA E (a 19) 24 (upd f1824 (nI lm).toNatClampNeg r1255)) := keeps_at kq2053 k1841 (by first | decide | omega | (dsimp only; omega))
                          have k2058 : w2051[20]? = some (iA E (a 20) 24 (fun j => nI ((updn g1833 lm 0) j))) := keeps_at kq2053 k1844 (by first | decide | omega | (dsimp only; omega))
                          have kp2059 := keeps_tr kp1843 kq2053 (fun q hq => by first | omega | (dsimp only at *; omega))
                          obtain ⟨v2060, v2061, v2062, v2063, v2064, v2065, n2066, n2067, bo2068, bo2069, k2070⟩ := x2055
                          exact x_zret C hr hlk rfl dX12_readsLine_173 ⟨hW2052, kp2059, (Or.inl rfl), ⟨((pl1231 + 1)), lm, nu1232, by omega, by omega, by omega, ⟨v2060, v2061, v2062, v2063, v2064, v2065, n2066, n2067, ⟨by omega, by omega, by omega, by omega, by omega, by omega, by omega⟩, ⟨by omega, by omega⟩, k2070⟩⟩⟩
                      · skip
                        refine x_aload_n C dX12_readsLine_145 rfl 2 rfl rfl ?_
                        refine x_iconst C (v := 1) dX12_readsLine_146 (by decide) rfl ?_
                        refine x_aload_n C dX12_readsLine_147 rfl 2 rfl rfl ?_
                        refine x_get C (ci := 11) (k := 5) 0 k1840 rfl in_X12 (by decide) w_1123 rfl dX12_readsLine_148 rfl ?_
                        refine x_vi C (As := [.int 1, .int (nI (pl1231 + 1))]) (rest := []) (m_wrongAt E l a cd hG kf jn js jq w1836 hW1838 (1 : Int32) ((nI (pl1231 + 1))) tp (pl1231 + 1) le cm wt sm lm nu1232 ⟨v1237, v1238, v1239, v1240, v1241, v1242, n1243, n1244, ⟨by omega, by omega, by omega, by omega, by omega, by omega, by omega⟩, ⟨by omega, by omega⟩, k1840⟩) mf_X12_wrongAt w_1324 0 k1840 rfl rfl rfl (Nat.le_of_ble_eq_true rfl) ⟨(Nat.le_of_ble_eq_true rfl), (Nat.le_of_ble_eq_true rfl)⟩ ⟨(Nat.le_of_ble_eq_true rfl), (Nat.le_of_ble_eq_true rfl)⟩ dX12_readsLine_151 rfl (fun r2072 w2073 h2071 => ?_)
                        obtain ⟨hW2074, kq2075, e2076, x2077⟩ := h2071
                        refine x_top e2076 ?_
                        have k2078 : w2073[4]? = some (bA E (a 4) 260 tf) := keeps_at kq2075 k1839 (by first | decide | omega | (dsimp only; omega))
                        have k2079 : w2073[19]? = some (iA E (a 19) 24 (upd f1824 (nI lm).toNatClampNeg r1255)) := keeps_at kq2075 k1841 (by first | decide | omega | (dsimp only; omega))
                        have k2080 : w2073[20]? = some (iA E (a 20) 24 (fun j => nI ((updn g1833 lm 0) j))) := keeps_at kq2075 k1844 (by first | decide | omega | (dsimp only; omega))
                        have kp2081 := keeps_tr kp1843 kq2075 (fun q hq => by first | omega | (dsimp only at *; omega))
                        obtain ⟨v2082, v2083, v2084, v2085, v2086, v2087, n2088, n2089, bo2090, bo2091, k2092⟩ := x2077
                        exact x_zret C hr hlk rfl dX12_readsLine_154 ⟨hW2074, kp2081, (Or.inl rfl), ⟨((pl1231 + 1)), lm, nu1232, by omega, by omega, by omega, ⟨v2082, v2083, v2084, v2085, v2086, v2087, n2088, n2089, ⟨by omega, by omega, by omega, by omega, by omega, by omega, by omega⟩, ⟨by omega, by omega⟩, k2092⟩⟩⟩
                · skip
                  refine x_iload_n C dX12_readsLine_80 rfl 0 rfl rfl ?_
                  refine x_bipush C (v := 42) dX12_readsLine_81 (by decide) rfl ?_
                  refine x_icmp_eq C (tgt := 96) dX12_readsLine_83 (by decide) rfl (fun c2093 => ?_) (fun c2093 => ?_)
                  · skip
                    have hp2094 := hv_lt (x1258.symm.trans c2093) (by decide)
                    refine x_aload_n C dX12_readsLine_96 rfl 2 rfl rfl ?_
                    refine x_aload_n C dX12_readsLine_97 rfl 2 rfl rfl ?_
                    refine x_get C (ci := 11) (k := 5) 0 k1247 rfl in_X12 (by decide) w_1123 rfl dX12_readsLine_98 rfl ?_
                    refine x_iconst C (v := 1) dX12_readsLine_101 (by decide) rfl ?_
                    refine x_iadd C (v := (nI (pl1231 + 1))) dX12_readsLine_102 (nI_add pl1231 1) rfl ?_
                    obtain ⟨w2095, hw2096⟩ : ∃ w : va_W, w = List.set w1225 0 (ob (a 0) 11 [.ref (a 1), .ref (a 2), .ref (a 3), .ref (a 4), .int (nI tp), .int (nI (pl1231 + 1)), .int (nI le), .int v1237, .int nu1232, .int v1238, .int (nI cm), .int (nI wt), .int (nI sm), .int (nI (cd.2.2.2.2.2)), .ref (a 5), .ref (a 6), .ref (a 7), .ref (a 8), .ref (a 9), .ref (a 10), .ref (a 11), .ref (a 12), .ref (a 13), .ref (a 14), .ref (a 15), .ref (a 16), .ref (a 17), .int (nI lm), .ref (a 18), .ref (a 19), .ref (a 20), .ref (a 21), .int v1239, .int v1240, .int v1241, .int v1242, .int (nI n1243), .int (nI n1244), .ref (a 22), .ref (a 23), .ref (a 24), .ref (a 25), .ref (a 26), .ref (a 27), .ref (a 28), .ref (a 29), .ref (a 30), .int kf]) := ⟨_, rfl⟩
                    refine x_put C (ci := 11) (k := 5) (ty := .int) 0 k1247 rfl in_X12 tyX12 tyX12_ok nmX12 (by decide) w_1123 rfl rfl rfl rfl (Nat.le_of_ble_eq_true rfl) hw2096.symm dX12_readsLine_103 rfl ?_
                    have hW2097 : WX (okM E a cd kf jn js jq) w2095 := by rw [hw2096]; exact hW1226.set (k := 0) rfl ⟨tp, (pl1231 + 1), le, v1237, nu1232, v1238, cm, wt, sm, lm, v1239, v1240, v1241, v1242, n1243, n1244, by omega, by omega, by omega, by omega, by omega, by omega, by omega, by omega, by omega, rfl⟩
                    have k2098 : w2095[4]? = some (bA E (a 4) 260 tf) := by rw [hw2096]; exact set_ne k1229 (by decide)
                    have k2099 : w2095[0]? = some (ob (a 0) 11 [.ref (a 1), .ref (a 2), .ref (a 3), .ref (a 4), .int (nI tp), .int (nI (pl1231 + 1)), .int (nI le), .int v1237, .int nu1232, .int v1238, .int (nI cm), .int (nI wt), .int (nI sm), .int (nI (cd.2.2.2.2.2)), .ref (a 5), .ref (a 6), .ref (a 7), .ref (a 8), .ref (a 9), .ref (a 10), .ref (a 11), .ref (a 12), .ref (a 13), .ref (a 14), .ref (a 15), .ref (a 16), .ref (a 17), .int (nI lm), .ref (a 18), .ref (a 19), .ref (a 20), .ref (a 21), .int v1239, .int v1240, .int v1241, .int v1242, .int (nI n1243), .int (nI n1244), .ref (a 22), .ref (a 23), .ref (a 24), .ref (a 25), .ref (a 26), .ref (a 27), .ref (a 28), .ref (a 29), .ref (a 30), .int kf]) := by rw [hw2096]; exact set_eq k1247
                    have kp2100 := keeps_set kp1230 hw2096 (by first | exact rfl | decide | omega | (dsimp only; omega))
                    refine x_aload_n C dX12_readsLine_106 rfl 2 rfl rfl ?_
                    refine x_get C (ci := 11) (k := 29) 0 k2099 rfl in_X12 (by decide) w_1147 rfl dX12_readsLine_107 rfl ?_
                    refine x_aload_n C dX12_readsLine_110 rfl 2 rfl rfl ?_
                    refine x_get C (ci := 11) (k := 27) 0 k2099 rfl in_X12 (by decide) w_1145 rfl dX12_readsLine_111 rfl ?_
                    refine x_iload_n C dX12_readsLine_114 rfl 0 rfl rfl ?_
                    obtain ⟨_, k2101, f2102, rfl⟩ := hW2097 19 _ rfl
                    obtain ⟨w2103, hw2104⟩ : ∃ w : va_W, w = List.set w2095 19 (iA E (a 19) 24 (upd f2102 (nI lm).toNatClampNeg r1255)) := ⟨_, rfl⟩
                    refine x_iast C 19 k2101 (vp_in_nI (by omega) (by decide)) hw2104.symm dX12_readsLine_115 rfl ?_
                    have hW2105 : WX (okM E a cd kf jn js jq) w2103 := by rw [hw2104]; exact hW2097.set (k := 19) rfl ⟨_, rfl⟩
                    have k2106 : w2103[4]? = some (bA E (a 4) 260 tf) := by rw [hw2104]; exact set_ne k2098 (by decide)
                    have k2107 : w2103[0]? = some (ob (a 0) 11 [.ref (a 1), .ref (a 2), .ref (a 3), .ref (a 4), .int (nI tp), .int (nI (pl1231 + 1)), .int (nI le), .int v1237, .int nu1232, .int v1238, .int (nI cm), .int (nI wt), .int (nI sm), .int (nI (cd.2.2.2.2.2)), .ref (a 5), .ref (a 6), .ref (a 7), .ref (a 8), .ref (a 9), .ref (a 10), .ref (a 11), .ref (a 12), .ref (a 13), .ref (a 14), .ref (a 15), .ref (a 16), .ref (a 17), .int (nI lm), .ref (a 18), .ref (a 19), .ref (a 20), .ref (a 21), .int v1239, .int v1240, .int v1241, .int v1242, .int (nI n1243), .int (nI n1244), .ref (a 22), .ref (a 23), .ref (a 24), .ref (a 25), .ref (a 26), .ref (a 27), .ref (a 28), .ref (a 29), .ref (a 30), .int kf]) := by rw [hw2104]; exact set_ne k2099 (by decide)
                    have k2108 : w2103[19]? = some (iA E (a 19) 24 (upd f2102 (nI lm).toNatClampNeg r1255)) := by rw [hw2104]; exact set_eq k2101
                    have kp2109 := keeps_set kp2100 hw2104 (by first | exact rfl | decide | omega | (dsimp only; omega))
                    refine x_aload_n C dX12_readsLine_116 rfl 2 rfl rfl ?_
                    refine x_get C (ci := 11) (k := 30) 0 k2107 rfl in_X12 (by decide) w_1148 rfl dX12_readsLine_117 rfl ?_
                    refine x_aload_n C dX12_readsLine_120 rfl 2 rfl rfl ?_
                    refine x_get C (ci := 11) (k := 27) 0 k2107 rfl in_X12 (by decide) w_1145 rfl dX12_readsLine_121 rfl ?_
                    refine x_iconst C (v := 0) dX12_readsLine_124 (by decide) rfl ?_
                    obtain ⟨_, k2110, g2111, gb2112, rfl⟩ := hW2105 20 _ rfl
                    have gb2113 := updn_le (i := lm) (v := 0) gb2112 (by omega)
                    obtain ⟨w2114, hw2115⟩ : ∃ w : va_W, w = List.set w2103 20 (iA E (a 20) 24 (upd (fun j => nI (g2111 j)) lm (nI 0))) := ⟨_, rfl⟩
                    refine x_iask C lm (nI_clamp (by omega)) (nI_pos (by omega)) (by omega) 20 k2110 hw2115.symm dX12_readsLine_125 rfl ?_
                    have hW2116 : WX (okM E a cd kf jn js jq) w2114 := by rw [hw2115]; exact hW2105.set (k := 20) rfl ⟨_, gb2113, iA_n (upd_nI g2111 lm 0)⟩
                    have k2117 : w2114[4]? = some (bA E (a 4) 260 tf) := by rw [hw2115]; exact set_ne k2106 (by decide)
                    have k2118 : w2114[0]? = some (ob (a 0) 11 [.ref (a 1), .ref (a 2), .ref (a 3), .ref (a 4), .int (nI tp), .int (nI (pl1231 + 1)), .int (nI le), .int v1237, .int nu1232, .int v1238, .int (nI cm), .int (nI wt), .int (nI sm), .int (nI (cd.2.2.2.2.2)), .ref (a 5), .ref (a 6), .ref (a 7), .ref (a 8), .ref (a 9), .ref (a 10), .ref (a 11), .ref (a 12), .ref (a 13), .ref (a 14), .ref (a 15), .ref (a 16), .ref (a 17), .int (nI lm), .ref (a 18), .ref (a 19), .ref (a 20), .ref (a 21), .int v1239, .int v1240, .int v1241, .int v1242, .int (nI n1243), .int (nI n1244), .ref (a 22), .ref (a 23), .ref (a 24), .ref (a 25), .ref (a 26), .ref (a 27), .ref (a 28), .ref (a 29), .ref (a 30), .int kf]) := by rw [hw2115]; exact set_ne k2107 (by decide)
                    have k2119 : w2114[19]? = some (iA E (a 19) 24 (upd f2102 (nI lm).toNatClampNeg r1255)) := by rw [hw2115]; exact set_ne k2108 (by decide)
                    have k2120 : w2114[20]? = some (iA E (a 20) 24 (upd (fun j => nI (g2111 j)) lm (nI 0))) := by rw [hw2115]; exact set_eq k2110
                    have kp2121 := keeps_set kp2109 hw2115 (by first | exact rfl | decide | omega | (dsimp only; omega))
                    have k2122 : w2114[20]? = some (iA E (a 20) 24 (fun j => nI ((updn g2111 lm 0) j))) := by rw [← upd_nI]; exact k2120
                    refine x_iload_n C dX12_readsLine_126 rfl 0 rfl rfl ?_
                    refine x_bipush C (v := 62) dX12_readsLine_127 (by decide) rfl ?_
                    refine x_icmp_eq C (tgt := 138) dX12_readsLine_129 (by decide) rfl (fun c2123 => ?_) (fun c2123 => ?_)
                    · skip
                      have hp2124 := hv_lt (x1258.symm.trans c2123) (by decide)
                      refine x_aload_n C dX12_readsLine_138 rfl 2 rfl rfl ?_
                      refine x_vi C (As := []) (rest := []) (m_isDigit E l a cd hG kf jn js jq w2114 hW2116 tp (pl1231 + 1) le cm wt sm lm nu1232 ⟨v1237, v1238, v1239, v1240, v1241, v1242, n1243, n1244, ⟨by omega, by omega, by omega, by omega, by omega, by omega, by omega⟩, ⟨by omega, by omega⟩, k2118⟩ tf k2117) mf_X12_isDigit w_1341 0 k2118 rfl rfl rfl (Nat.le_of_ble_eq_true rfl) ⟨(Nat.le_of_ble_eq_true rfl), (Nat.le_of_ble_eq_true rfl)⟩ ⟨(Nat.le_of_ble_eq_true rfl), (Nat.le_of_ble_eq_true rfl)⟩ dX12_readsLine_139 rfl (fun r2126 w2127 h2125 => ?_)
                      obtain ⟨hW2128, zb2129, x2130⟩ := h2125
                      refine x_ws hW2128 ?_
                      refine x_if_ne C (tgt := 155) dX12_readsLine_142 (by decide) rfl (fun c2131 => ?_) (fun c2131 => ?_)
                      · skip
                        obtain ⟨d2132, hd2133, ed2134, hp2135⟩ := x2130 c2131
                        refine x_aload_n C dX12_readsLine_155 rfl 2 rfl rfl ?_
                        refine x_vi C (As := []) (rest := []) (m_here E l a cd hG kf jn js jq w2114 hW2116 tp (pl1231 + 1) le cm wt sm lm nu1232 ⟨v1237, v1238, v1239, v1240, v1241, v1242, n1243, n1244, ⟨by omega, by omega, by omega, by omega, by omega, by omega, by omega⟩, ⟨by omega, by omega⟩, k2118⟩ tf k2117) mf_X12_here w_1317 0 k2118 rfl rfl rfl (Nat.le_of_ble_eq_true rfl) ⟨(Nat.le_of_ble_eq_true rfl), (Nat.le_of_ble_eq_true rfl)⟩ ⟨(Nat.le_of_ble_eq_true rfl), (Nat.le_of_ble_eq_true rfl)⟩ dX12_readsLine_156 rfl (fun r2137 w2138 h2136 => ?_)
                        obtain ⟨hW2139, x2140⟩ := h2136
                        refine x_ws hW2139 ?_
                        refine x_top (x2140.trans ed2134) ?_
                        refine x_bipush C (v := 55) dX12_readsLine_159 (by decide) rfl ?_
                        refine x_icmp_le C (tgt := 174) dX12_readsLine_161 (by decide) rfl (fun c2141 => ?_) (fun c2141 => ?_)
                        · skip
                          have nf2142 := nI_le' (a := (48 + d2132)) (b := 55) c2141 (by omega) (by omega)
                          refine x_aload_n C dX12_readsLine_174 rfl 2 rfl rfl ?_
                          refine x_get C (ci := 11) (k := 30) 0 k2118 rfl in_X12 (by decide) w_1148 rfl dX12_readsLine_175 rfl ?_
                          refine x_aload_n C dX12_readsLine_178 rfl 2 rfl rfl ?_
                          refine x_get C (ci := 11) (k := 27) 0 k2118 rfl in_X12 (by decide) w_1145 rfl dX12_readsLine_179 rfl ?_
                          refine x_aload_n C dX12_readsLine_182 rfl 2 rfl rfl ?_
                          refine x_vi C (As := []) (rest := [.int (nI lm), .ref (a 20)]) (m_here E l a cd hG kf jn js jq w2114 hW2116 tp (pl1231 + 1) le cm wt sm lm nu1232 ⟨v1237, v1238, v1239, v1240, v1241, v1242, n1243, n1244, ⟨by omega, by omega, by omega, by omega, by omega, by omega, by omega⟩, ⟨by omega, by omega⟩, k2118⟩ tf k2117) mf_X12_here w_1317 0 k2118 rfl rfl rfl (Nat.le_of_ble_eq_true rfl) ⟨(Nat.le_of_ble_eq_true rfl), (Nat.le_of_ble_eq_true rfl)⟩ ⟨(Nat.le_of_ble_eq_true rfl), (Nat.le_of_ble_eq_true rfl)⟩ dX12_readsLine_183 rfl (fun r2144 w2145 h2143 => ?_)
                          obtain ⟨hW2146, x2147⟩ := h2143
                          refine x_ws hW2146 ?_
                          refine x_top (x2147.trans ed2134) ?_
                          refine x_bipush C (v := 48) dX12_readsLine_186 (by decide) rfl ?_
                          refine x_isub C (v := (nI ((48 + d2132) - 48))) dX12_readsLine_188 (pk_sub (a := (48 + d2132)) (b := 48) (by omega)) rfl ?_
                          have gb2148 := updn_le (i := lm) (v := ((48 + d2132) - 48)) gb2113 (by omega)
                          obtain ⟨w2149, hw2150⟩ : ∃ w : va_W, w = List.set w2114 20 (iA E (a 20) 24 (upd (fun j => nI ((updn g2111 lm 0) j)) lm (nI ((48 + d2132) - 48)))) := ⟨_, rfl⟩
                          refine x_iask C lm (nI_clamp (by omega)) (nI_pos (by omega)) (by omega) 20 k2122 hw2150.symm dX12_readsLine_189 rfl ?_
                          have hW2151 : WX (okM E a cd kf jn js jq) w2149 := by rw [hw2150]; exact hW2116.set (k := 20) rfl ⟨_, gb2148, iA_n (upd_nI (updn g2111 lm 0) lm ((48 + d2132) - 48))⟩
                          have k2152 : w2149[4]? = some (bA E (a 4) 260 tf) := by rw [hw2150]; exact set_ne k2117 (by decide)
                          have k2153 : w2149[0]? = some (ob (a 0) 11 [.ref (a 1), .ref (a 2), .ref (a 3), .ref (a 4), .int (nI tp), .int (nI (pl1231 + 1)), .int (nI le), .int v1237, .int nu1232, .int v1238, .int (nI cm), .int (nI wt), .int (nI sm), .int (nI (cd.2.2.2.2.2)), .ref (a 5), .ref (a 6), .ref (a 7), .ref (a 8), .ref (a 9), .ref (a 10), .ref (a 11), .ref (a 12), .ref (a 13), .ref (a 14), .ref (a 15), .ref (a 16), .ref (a 17), .int (nI lm), .ref (a 18), .ref (a 19), .ref (a 20), .ref (a 21), .int v1239, .int v1240, .int v1241, .int v1242, .int (nI n1243), .int (nI n1244), .ref (a 22), .ref (a 23), .ref (a 24), .ref (a 25), .ref (a 26), .ref (a 27), .ref (a 28), .ref (a 29), .ref (a 30), .int kf]) := by rw [hw2150]; exact set_ne k2118 (by decide)
                          have k2154 : w2149[19]? = some (iA E (a 19) 24 (upd f2102 (nI lm).toNatClampNeg r1255)) := by rw [hw2150]; exact set_ne k2119 (by decide)
                          have k2155 : w2149[20]? = some (iA E (a 20) 24 (upd (fun j => nI ((updn g2111 lm 0) j)) lm (nI ((48 + d2132) - 48)))) := by rw [hw2150]; exact set_eq k2122
                          have kp2156 := keeps_set kp2121 hw2150 (by first | exact rfl | decide | omega | (dsimp only; omega))
                          have k2157 : w2149[20]? = some (iA E (a 20) 24 (fun j => nI ((updn (updn g2111 lm 0) lm ((48 + d2132) - 48)) j))) := by rw [← upd_nI]; exact k2155
                          refine x_aload_n C dX12_readsLine_190 rfl 2 rfl rfl ?_
                          refine x_aload_n C dX12_readsLine_191 rfl 2 rfl rfl ?_
                          refine x_get C (ci := 11) (k := 5) 0 k2153 rfl in_X12 (by decide) w_1123 rfl dX12_readsLine_192 rfl ?_
                          refine x_iconst C (v := 1) dX12_readsLine_195 (by decide) rfl ?_
                          refine x_iadd C (v := (nI ((pl1231 + 1) + 1))) dX12_readsLine_196 (nI_add (pl1231 + 1) 1) rfl ?_
                          obtain ⟨w2158, hw2159⟩ : ∃ w : va_W, w = List.set w2149 0 (ob (a 0) 11 [.ref (a 1), .ref (a 2), .ref (a 3), .ref (a 4), .int (nI tp), .int (nI ((pl1231 + 1) + 1)), .int (nI le), .int v1237, .int nu1232, .int v1238, .int (nI cm), .int (nI wt), .int (nI sm), .int (nI (cd.2.2.2.2.2)), .ref (a 5), .ref (a 6), .ref (a 7), .ref (a 8), .ref (a 9), .ref (a 10), .ref (a 11), .ref (a 12), .ref (a 13), .ref (a 14), .ref (a 15), .ref (a 16), .ref (a 17), .int (nI lm), .ref (a 18), .ref (a 19), .ref (a 20), .ref (a 21), .int v1239, .int v1240, .int v1241, .int v1242, .int (nI n1243), .int (nI n1244), .ref (a 22), .ref (a 23), .ref (a 24), .ref (a 25), .ref (a 26), .ref (a 27), .ref (a 28), .ref (a 29), .ref (a 30), .int kf]) := ⟨_, rfl⟩
                          refine x_put C (ci := 11) (k := 5) (ty := .int) 0 k2153 rfl in_X12 tyX12 tyX12_ok nmX12 (by decide) w_1123 rfl rfl rfl rfl (Nat.le_of_ble_eq_true rfl) hw2159.symm dX12_readsLine_197 rfl ?_
                          have hW2160 : WX (okM E a cd kf jn js jq) w2158 := by rw [hw2159]; exact hW2151.set (k := 0) rfl ⟨tp, ((pl1231 + 1) + 1), le, v1237, nu1232, v1238, cm, wt, sm, lm, v1239, v1240, v1241, v1242, n1243, n1244, by omega, by omega, by omega, by omega, by omega, by omega, by omega, by omega, by omega, rfl⟩
                          have k2161 : w2158[4]? = some (bA E (a 4) 260 tf) := by rw [hw2159]; exact set_ne k2152 (by decide)
                          have k2162 : w2158[0]? = some (ob (a 0) 11 [.ref (a 1), .ref (a 2), .ref (a 3), .ref (a 4), .int (nI tp), .int (nI ((pl1231 + 1) + 1)), .int (nI le), .int v1237, .int nu1232, .int v1238, .int (nI cm), .int (nI wt), .int (nI sm), .int (nI (cd.2.2.2.2.2)), .ref (a 5), .ref (a 6), .ref (a 7), .ref (a 8), .ref (a 9), .ref (a 10), .ref (a 11), .ref (a 12), .ref (a 13), .ref (a 14), .ref (a 15), .ref (a 16), .ref (a 17), .int (nI lm), .ref (a 18), .ref (a 19), .ref (a 20), .ref (a 21), .int v1239, .int v1240, .int v1241, .int v1242, .int (nI n1243), .int (nI n1244), .ref (a 22), .ref (a 23), .ref (a 24), .ref (a 25), .ref (a 26), .ref (a 27), .ref (a 28), .ref (a 29), .ref (a 30), .int kf]) := by rw [hw2159]; exact set_eq k2153
                          have k2163 : w2158[19]? = some (iA E (a 19) 24 (upd f2102 (nI lm).toNatClampNeg r1255)) := by rw [hw2159]; exact set_ne k2154 (by decide)
                          have k2164 : w2158[20]? = some (iA E (a 20) 24 (fun j => nI ((updn (updn g2111 lm 0) lm ((48 + d2132) - 48)) j))) := by rw [hw2159]; exact set_ne k2157 (by decide)
                          have kp2165 := keeps_set kp2156 hw2159 (by first | exact rfl | decide | omega | (dsimp only; omega))
                          refine x_aload_n C dX12_readsLine_200 rfl 2 rfl rfl ?_
                          refine x_get C (ci := 11) (k := 28) 0 k2162 rfl in_X12 (by decide) w_1146 rfl dX12_readsLine_201 rfl ?_
                          refine x_aload_n C dX12_readsLine_204 rfl 2 rfl rfl ?_
                          refine x_get C (ci := 11) (k := 27) 0 k2162 rfl in_X12 (by decide) w_1145 rfl dX12_readsLine_205 rfl ?_
                          refine x_iconst C (v := 1) dX12_readsLine_208 (by decide) rfl ?_
                          refine x_iadd C (v := (nI (lm + 1))) dX12_readsLine_209 (nI_add lm 1) rfl ?_
                          refine x_aload_n C dX12_readsLine_210 rfl 2 rfl rfl ?_
                          refine x_get C (ci := 11) (k := 28) 0 k2162 rfl in_X12 (by decide) w_1146 rfl dX12_readsLine_211 rfl ?_
                          refine x_aload_n C dX12_readsLine_214 rfl 2 rfl rfl ?_
                          refine x_get C (ci := 11) (k := 27) 0 k2162 rfl in_X12 (by decide) w_1145 rfl dX12_readsLine_215 rfl ?_
                          obtain ⟨_, k2166, g2167, gb2168, rfl⟩ := hW2160 18 _ rfl
                          refine x_ialk C (v := nI (g2167 lm)) lm (nI_clamp (by omega)) (nI_pos (by omega)) (by omega) 18 k2166 rfl dX12_readsLine_218 rfl ?_
                          have bx2169 := gb2168 lm
                          refine x_iload_n C dX12_readsLine_219 rfl 1 rfl rfl ?_
                          refine x_iadd C (v := (nI ((g2167 lm) + mm1249))) dX12_readsLine_220 (nI_add (g2167 lm) mm1249) rfl ?_
                          have gb2170 := updn_leF (i := (lm + 1)) (v := ((g2167 lm) + mm1249)) gb2168 (by omega)
                          obtain ⟨w2171, hw2172⟩ : ∃ w : va_W, w = List.set w2158 18 (iA E (a 18) 25 (upd (fun j => nI (g2167 j)) (lm + 1) (nI ((g2167 lm) + mm1249)))) := ⟨_, rfl⟩
                          refine x_iask C (lm + 1) (nI_clamp (by omega)) (nI_pos (by omega)) (by omega) 18 k2166 hw2172.symm dX12_readsLine_221 rfl ?_
                          have hW2173 : WX (okM E a cd kf jn js jq) w2171 := by rw [hw2172]; exact hW2160.set (k := 18) rfl ⟨_, gb2170, iA_n (upd_nI g2167 (lm + 1) ((g2167 lm) + mm1249))⟩
                          have k2174 : w2171[4]? = some (bA E (a 4) 260 tf) := by rw [hw2172]; exact set_ne k2161 (by decide)
                          have k2175 : w2171[0]? = some (ob (a 0) 11 [.ref (a 1), .ref (a 2), .ref (a 3), .ref (a 4), .int (nI tp), .int (nI ((pl1231 + 1) + 1)), .int (nI le), .int v1237, .int nu1232, .int v1238, .int (nI cm), .int (nI wt), .int (nI sm), .int (nI (cd.2.2.2.2.2)), .ref (a 5), .ref (a 6), .ref (a 7), .ref (a 8), .ref (a 9), .ref (a 10), .ref (a 11), .ref (a 12), .ref (a 13), .ref (a 14), .ref (a 15), .ref (a 16), .ref (a 17), .int (nI lm), .ref (a 18), .ref (a 19), .ref (a 20), .ref (a 21), .int v1239, .int v1240, .int v1241, .int v1242, .int (nI n1243), .int (nI n1244), .ref (a 22), .ref (a 23), .ref (a 24), .ref (a 25), .ref (a 26), .ref (a 27), .ref (a 28), .ref (a 29), .ref (a 30), .int kf]) := by rw [hw2172]; exact set_ne k2162 (by decide)
                          have k2176 : w2171[19]? = some (iA E (a 19) 24 (upd f2102 (nI lm).toNatClampNeg r1255)) := by rw [hw2172]; exact set_ne k2163 (by decide)
                          have k2177 : w2171[20]? = some (iA E (a 20) 24 (fun j => nI ((updn (updn g2111 lm 0) lm ((48 + d2132) - 48)) j))) := by rw [hw2172]; exact set_ne k2164 (by decide)
                          have k2178 : w2171[18]? = some (iA E (a 18) 25 (upd (fun j => nI (g2167 j)) (lm + 1) (nI ((g2167 lm) + mm1249)))) := by rw [hw2172]; exact set_eq k2166
                          have kp2179 := keeps_set kp2165 hw2172 (by first | exact rfl | decide | omega | (dsimp only; omega))
                          have k2180 : w2171[18]? = some (iA E (a 18) 25 (fun j => nI ((updn g2167 (lm + 1) ((g2167 lm) + mm1249)) j))) := by rw [← upd_nI]; exact k2178
                          refine x_aload_n C dX12_readsLine_222 rfl 2 rfl rfl ?_
                          refine x_aload_n C dX12_readsLine_223 rfl 2 rfl rfl ?_
                          refine x_get C (ci := 11) (k := 27) 0 k2175 rfl in_X12 (by decide) w_1145 rfl dX12_readsLine_224 rfl ?_
                          refine x_iconst C (v := 1) dX12_readsLine_227 (by decide) rfl ?_
                          refine x_iadd C (v := (nI (lm + 1))) dX12_readsLine_228 (nI_add lm 1) rfl ?_
                          obtain ⟨w2181, hw2182⟩ : ∃ w : va_W, w = List.set w2171 0 (ob (a 0) 11 [.ref (a 1), .ref (a 2), .ref (a 3), .ref (a 4), .int (nI tp), .int (nI ((pl1231 + 1) + 1)), .int (nI le), .int v1237, .int nu1232, .int v1238, .int (nI cm), .int (nI wt), .int (nI sm), .int (nI (cd.2.2.2.2.2)), .ref (a 5), .ref (a 6), .ref (a 7), .ref (a 8), .ref (a 9), .ref (a 10), .ref (a 11), .ref (a 12), .ref (a 13), .ref (a 14), .ref (a 15), .ref (a 16), .ref (a 17), .int (nI (lm + 1)), .ref (a 18), .ref (a 19), .ref (a 20), .ref (a 21), .int v1239, .int v1240, .int v1241, .int v1242, .int (nI n1243), .int (nI n1244), .ref (a 22), .ref (a 23), .ref (a 24), .ref (a 25), .ref (a 26), .ref (a 27), .ref (a 28), .ref (a 29), .ref (a 30), .int kf]) := ⟨_, rfl⟩
                          refine x_put C (ci := 11) (k := 27) (ty := .int) 0 k2175 rfl in_X12 tyX12 tyX12_ok nmX12 (by decide) w_1145 rfl rfl rfl rfl (Nat.le_of_ble_eq_true rfl) hw2182.symm dX12_readsLine_229 rfl ?_
                          have hW2183 : WX (okM E a cd kf jn js jq) w2181 := by rw [hw2182]; exact hW2173.set (k := 0) rfl ⟨tp, ((pl1231 + 1) + 1), le, v1237, nu1232, v1238, cm, wt, sm, (lm + 1), v1239, v1240, v1241, v1242, n1243, n1244, by omega, by omega, by omega, by omega, by omega, by omega, by omega, by omega, by omega, rfl⟩
                          have k2184 : w2181[4]? = some (bA E (a 4) 260 tf) := by rw [hw2182]; exact set_ne k2174 (by decide)
                          have k2185 : w2181[0]? = some (ob (a 0) 11 [.ref (a 1), .ref (a 2), .ref (a 3), .ref (a 4), .int (nI tp), .int (nI ((pl1231 + 1) + 1)), .int (nI le), .int v1237, .int nu1232, .int v1238, .int (nI cm), .int (nI wt), .int (nI sm), .int (nI (cd.2.2.2.2.2)), .ref (a 5), .ref (a 6), .ref (a 7), .ref (a 8), .ref (a 9), .ref (a 10), .ref (a 11), .ref (a 12), .ref (a 13), .ref (a 14), .ref (a 15), .ref (a 16), .ref (a 17), .int (nI (lm + 1)), .ref (a 18), .ref (a 19), .ref (a 20), .ref (a 21), .int v1239, .int v1240, .int v1241, .int v1242, .int (nI n1243), .int (nI n1244), .ref (a 22), .ref (a 23), .ref (a 24), .ref (a 25), .ref (a 26), .ref (a 27), .ref (a 28), .ref (a 29), .ref (a 30), .int kf]) := by rw [hw2182]; exact set_eq k2175
                          have k2186 : w2181[19]? = some (iA E (a 19) 24 (upd f2102 (nI lm).toNatClampNeg r1255)) := by rw [hw2182]; exact set_ne k2176 (by decide)
                          have k2187 : w2181[20]? = some (iA E (a 20) 24 (fun j => nI ((updn (updn g2111 lm 0) lm ((48 + d2132) - 48)) j))) := by rw [hw2182]; exact set_ne k2177 (by decide)
                          have k2188 : w2181[18]? = some (iA E (a 18) 25 (fun j => nI ((updn g2167 (lm + 1) ((g2167 lm) + mm1249)) j))) := by rw [hw2182]; exact set_ne k2180 (by decide)
                          have kp2189 := keeps_set kp2179 hw2182 (by first | exact rfl | decide | omega | (dsimp only; omega))
                          refine x_iconst C (v := 1) dX12_readsLine_232 (by decide) rfl ?_
                          exact x_zret C hr hlk rfl dX12_readsLine_233 ⟨hW2183, kp2189, (Or.inr rfl), ⟨((pl1231 + 1) + 1), (lm + 1), nu1232, by omega, by omega, by omega, ⟨v1237, v1238, v1239, v1240, v1241, v1242, n1243, n1244, ⟨by omega, by omega, by omega, by omega, by omega, by omega, by omega⟩, ⟨by omega, by omega⟩, k2185⟩⟩⟩
                        · skip
                          have nf2190 := nI_nle' (a := (48 + d2132)) (b := 55) c2141 (by omega) (by omega)
                          refine x_aload_n C dX12_readsLine_164 rfl 2 rfl rfl ?_
                          refine x_iconst C (v := 3) dX12_readsLine_165 (by decide) rfl ?_
                          refine x_aload_n C dX12_readsLine_166 rfl 2 rfl rfl ?_
                          refine x_get C (ci := 11) (k := 5) 0 k2118 rfl in_X12 (by decide) w_1123 rfl dX12_readsLine_167 rfl ?_
                          refine x_vi C (As := [.int 3, .int (nI (pl1231 + 1))]) (rest := []) (m_wrongAt E l a cd hG kf jn js jq w2114 hW2116 (3 : Int32) ((nI (pl1231 + 1))) tp (pl1231 + 1) le cm wt sm lm nu1232 ⟨v1237, v1238, v1239, v1240, v1241, v1242, n1243, n1244, ⟨by omega, by omega, by omega, by omega, by omega, by omega, by omega⟩, ⟨by omega, by omega⟩, k2118⟩) mf_X12_wrongAt w_1324 0 k2118 rfl rfl rfl (Nat.le_of_ble_eq_true rfl) ⟨(Nat.le_of_ble_eq_true rfl), (Nat.le_of_ble_eq_true rfl)⟩ ⟨(Nat.le_of_ble_eq_true rfl), (Nat.le_of_ble_eq_true rfl)⟩ dX12_readsLine_170 rfl (fun r2192 w2193 h2191 => ?_)
                          obtain ⟨hW2194, kq2195, e2196, x2197⟩ := h2191
                          refine x_top e2196 ?_
                          have k2198 : w2193[4]? = some (bA E (a 4) 260 tf) := keeps_at kq2195 k2117 (by first | decide | omega | (dsimp only; omega))
                          have k2199 : w2193[19]? = some (iA E (a 19) 24 (upd f2102 (nI lm).toNatClampNeg r1255)) := keeps_at kq2195 k2119 (by first | decide | omega | (dsimp only; omega))
                          have k2200 : w2193[20]? = some (iA E (a 20) 24 (fun j => nI ((updn g2111 lm 0) j))) := keeps_at kq2195 k2122 (by first | decide | omega | (dsimp only; omega))
                          have kp2201 := keeps_tr kp2121 kq2195 (fun q hq => by first | omega | (dsimp only at *; omega))
                          obtain ⟨v2202, v2203, v2204, v2205, v2206, v2207, n2208, n2209, bo2210, bo2211, k2212⟩ := x2197
                          exact x_zret C hr hlk rfl dX12_readsLine_173 ⟨hW2194, kp2201, (Or.inl rfl), ⟨((pl1231 + 1)), lm, nu1232, by omega, by omega, by omega, ⟨v2202, v2203, v2204, v2205, v2206, v2207, n2208, n2209, ⟨by omega, by omega, by omega, by omega, by omega, by omega, by omega⟩, ⟨by omega, by omega⟩, k2212⟩⟩⟩
                      · skip
                        refine x_aload_n C dX12_readsLine_145 rfl 2 rfl rfl ?_
                        refine x_iconst C (v := 1) dX12_readsLine_146 (by decide) rfl ?_
                        refine x_aload_n C dX12_readsLine_147 rfl 2 rfl rfl ?_
                        refine x_get C (ci := 11) (k := 5) 0 k2118 rfl in_X12 (by decide) w_1123 rfl dX12_readsLine_148 rfl ?_
                        refine x_vi C (As := [.int 1, .int (nI (pl1231 + 1))]) (rest := []) (m_wrongAt E l a cd hG kf jn js jq w2114 hW2116 (1 : Int32) ((nI (pl1231 + 1))) tp (pl1231 + 1) le cm wt sm lm nu1232 ⟨v1237, v1238, v1239, v1240, v1241, v1242, n1243, n1244, ⟨by omega, by omega, by omega, by omega, by omega, by omega, by omega⟩, ⟨by omega, by omega⟩, k2118⟩) mf_X12_wrongAt w_1324 0 k2118 rfl rfl rfl (Nat.le_of_ble_eq_true rfl) ⟨(Nat.le_of_ble_eq_true rfl), (Nat.le_of_ble_eq_true rfl)⟩ ⟨(Nat.le_of_ble_eq_true rfl), (Nat.le_of_ble_eq_true rfl)⟩ dX12_readsLine_151 rfl (fun r2214 w2215 h2213 => ?_)
                        obtain ⟨hW2216, kq2217, e2218, x2219⟩ := h2213
                        refine x_top e2218 ?_
                        have k2220 : w2215[4]? = some (bA E (a 4) 260 tf) := keeps_at kq2217 k2117 (by first | decide | omega | (dsimp only; omega))
                        have k2221 : w2215[19]? = some (iA E (a 19) 24 (upd f2102 (nI lm).toNatClampNeg r1255)) := keeps_at kq2217 k2119 (by first | decide | omega | (dsimp only; omega))
                        have k2222 : w2215[20]? = some (iA E (a 20) 24 (fun j => nI ((updn g2111 lm 0) j))) := keeps_at kq2217 k2122 (by first | decide | omega | (dsimp only; omega))
                        have kp2223 := keeps_tr kp2121 kq2217 (fun q hq => by first | omega | (dsimp only at *; omega))
                        obtain ⟨v2224, v2225, v2226, v2227, v2228, v2229, n2230, n2231, bo2232, bo2233, k2234⟩ := x2219
                        exact x_zret C hr hlk rfl dX12_readsLine_154 ⟨hW2216, kp2223, (Or.inl rfl), ⟨((pl1231 + 1)), lm, nu1232, by omega, by omega, by omega, ⟨v2224, v2225, v2226, v2227, v2228, v2229, n2230, n2231, ⟨by omega, by omega, by omega, by omega, by omega, by omega, by omega⟩, ⟨by omega, by omega⟩, k2234⟩⟩⟩
                    · skip
                      refine x_iload_n C dX12_readsLine_132 rfl 0 rfl rfl ?_
                      refine x_bipush C (v := 33) dX12_readsLine_133 (by decide) rfl ?_
                      refine x_icmp_ne C (tgt := 200) dX12_readsLine_135 (by decide) rfl (fun c2235 => ?_) (fun c2235 => ?_)
                      · skip
                        refine x_aload_n C dX12_readsLine_200 rfl 2 rfl rfl ?_
                        refine x_get C (ci := 11) (k := 28) 0 k2118 rfl in_X12 (by decide) w_1146 rfl dX12_readsLine_201 rfl ?_
                        refine x_aload_n C dX12_readsLine_204 rfl 2 rfl rfl ?_
                        refine x_get C (ci := 11) (k := 27) 0 k2118 rfl in_X12 (by decide) w_1145 rfl dX12_readsLine_205 rfl ?_
                        refine x_iconst C (v := 1) dX12_readsLine_208 (by decide) rfl ?_
                        refine x_iadd C (v := (nI (lm + 1))) dX12_readsLine_209 (nI_add lm 1) rfl ?_
                        refine x_aload_n C dX12_readsLine_210 rfl 2 rfl rfl ?_
                        refine x_get C (ci := 11) (k := 28) 0 k2118 rfl in_X12 (by decide) w_1146 rfl dX12_readsLine_211 rfl ?_
                        refine x_aload_n C dX12_readsLine_214 rfl 2 rfl rfl ?_
                        refine x_get C (ci := 11) (k := 27) 0 k2118 rfl in_X12 (by decide) w_1145 rfl dX12_readsLine_215 rfl ?_
                        obtain ⟨_, k2236, g2237, gb2238, rfl⟩ := hW2116 18 _ rfl
                        refine x_ialk C (v := nI (g2237 lm)) lm (nI_clamp (by omega)) (nI_pos (by omega)) (by omega) 18 k2236 rfl dX12_readsLine_218 rfl ?_
                        have bx2239 := gb2238 lm
                        refine x_iload_n C dX12_readsLine_219 rfl 1 rfl rfl ?_
                        refine x_iadd C (v := (nI ((g2237 lm) + mm1249))) dX12_readsLine_220 (nI_add (g2237 lm) mm1249) rfl ?_
                        have gb2240 := updn_leF (i := (lm + 1)) (v := ((g2237 lm) + mm1249)) gb2238 (by omega)
                        obtain ⟨w2241, hw2242⟩ : ∃ w : va_W, w = List.set w2114 18 (iA E (a 18) 25 (upd (fun j => nI (g2237 j)) (lm + 1) (nI ((g2237 lm) + mm1249)))) := ⟨_, rfl⟩
                        refine x_iask C (lm + 1) (nI_clamp (by omega)) (nI_pos (by omega)) (by omega) 18 k2236 hw2242.symm dX12_readsLine_221 rfl ?_
                        have hW2243 : WX (okM E a cd kf jn js jq) w2241 := by rw [hw2242]; exact hW2116.set (k := 18) rfl ⟨_, gb2240, iA_n (upd_nI g2237 (lm + 1) ((g2237 lm) + mm1249))⟩
                        have k2244 : w2241[4]? = some (bA E (a 4) 260 tf) := by rw [hw2242]; exact set_ne k2117 (by decide)
                        have k2245 : w2241[0]? = some (ob (a 0) 11 [.ref (a 1), .ref (a 2), .ref (a 3), .ref (a 4), .int (nI tp), .int (nI (pl1231 + 1)), .int (nI le), .int v1237, .int nu1232, .int v1238, .int (nI cm), .int (nI wt), .int (nI sm), .int (nI (cd.2.2.2.2.2)), .ref (a 5), .ref (a 6), .ref (a 7), .ref (a 8), .ref (a 9), .ref (a 10), .ref (a 11), .ref (a 12), .ref (a 13), .ref (a 14), .ref (a 15), .ref (a 16), .ref (a 17), .int (nI lm), .ref (a 18), .ref (a 19), .ref (a 20), .ref (a 21), .int v1239, .int v1240, .int v1241, .int v1242, .int (nI n1243), .int (nI n1244), .ref (a 22), .ref (a 23), .ref (a 24), .ref (a 25), .ref (a 26), .ref (a 27), .ref (a 28), .ref (a 29), .ref (a 30), .int kf]) := by rw [hw2242]; exact set_ne k2118 (by decide)
                        have k2246 : w2241[19]? = some (iA E (a 19) 24 (upd f2102 (nI lm).toNatClampNeg r1255)) := by rw [hw2242]; exact set_ne k2119 (by decide)
                        have k2247 : w2241[20]? = some (iA E (a 20) 24 (fun j => nI ((updn g2111 lm 0) j))) := by rw [hw2242]; exact set_ne k2122 (by decide)
                        have k2248 : w2241[18]? = some (iA E (a 18) 25 (upd (fun j => nI (g2237 j)) (lm + 1) (nI ((g2237 lm) + mm1249)))) := by rw [hw2242]; exact set_eq k2236
                        have kp2249 := keeps_set kp2121 hw2242 (by first | exact rfl | decide | omega | (dsimp only; omega))
                        have k2250 : w2241[18]? = some (iA E (a 18) 25 (fun j => nI ((updn g2237 (lm + 1) ((g2237 lm) + mm1249)) j))) := by rw [← upd_nI]; exact k2248
                        refine x_aload_n C dX12_readsLine_222 rfl 2 rfl rfl ?_
                        refine x_aload_n C dX12_readsLine_223 rfl 2 rfl rfl ?_
                        refine x_get C (ci := 11) (k := 27) 0 k2245 rfl in_X12 (by decide) w_1145 rfl dX12_readsLine_224 rfl ?_
                        refine x_iconst C (v := 1) dX12_readsLine_227 (by decide) rfl ?_
                        refine x_iadd C (v := (nI (lm + 1))) dX12_readsLine_228 (nI_add lm 1) rfl ?_
                        obtain ⟨w2251, hw2252⟩ : ∃ w : va_W, w = List.set w2241 0 (ob (a 0) 11 [.ref (a 1), .ref (a 2), .ref (a 3), .ref (a 4), .int (nI tp), .int (nI (pl1231 + 1)), .int (nI le), .int v1237, .int nu1232, .int v1238, .int (nI cm), .int (nI wt), .int (nI sm), .int (nI (cd.2.2.2.2.2)), .ref (a 5), .ref (a 6), .ref (a 7), .ref (a 8), .ref (a 9), .ref (a 10), .ref (a 11), .ref (a 12), .ref (a 13), .ref (a 14), .ref (a 15), .ref (a 16), .ref (a 17), .int (nI (lm + 1)), .ref (a 18), .ref (a 19), .ref (a 20), .ref (a 21), .int v1239, .int v1240, .int v1241, .int v1242, .int (nI n1243), .int (nI n1244), .ref (a 22), .ref (a 23), .ref (a 24), .ref (a 25), .ref (a 26), .ref (a 27), .ref (a 28), .ref (a 29), .ref (a 30), .int kf]) := ⟨_, rfl⟩
                        refine x_put C (ci := 11) (k := 27) (ty := .int) 0 k2245 rfl in_X12 tyX12 tyX12_ok nmX12 (by decide) w_1145 rfl rfl rfl rfl (Nat.le_of_ble_eq_true rfl) hw2252.symm dX12_readsLine_229 rfl ?_
                        have hW2253 : WX (okM E a cd kf jn js jq) w2251 := by rw [hw2252]; exact hW2243.set (k := 0) rfl ⟨tp, (pl1231 + 1), le, v1237, nu1232, v1238, cm, wt, sm, (lm + 1), v1239, v1240, v1241, v1242, n1243, n1244, by omega, by omega, by omega, by omega, by omega, by omega, by omega, by omega, by omega, rfl⟩
                        have k2254 : w2251[4]? = some (bA E (a 4) 260 tf) := by rw [hw2252]; exact set_ne k2244 (by decide)
                        have k2255 : w2251[0]? = some (ob (a 0) 11 [.ref (a 1), .ref (a 2), .ref (a 3), .ref (a 4), .int (nI tp), .int (nI (pl1231 + 1)), .int (nI le), .int v1237, .int nu1232, .int v1238, .int (nI cm), .int (nI wt), .int (nI sm), .int (nI (cd.2.2.2.2.2)), .ref (a 5), .ref (a 6), .ref (a 7), .ref (a 8), .ref (a 9), .ref (a 10), .ref (a 11), .ref (a 12), .ref (a 13), .ref (a 14), .ref (a 15), .ref (a 16), .ref (a 17), .int (nI (lm + 1)), .ref (a 18), .ref (a 19), .ref (a 20), .ref (a 21), .int v1239, .int v1240, .int v1241, .int v1242, .int (nI n1243), .int (nI n1244), .ref (a 22), .ref (a 23), .ref (a 24), .ref (a 25), .ref (a 26), .ref (a 27), .ref (a 28), .ref (a 29), .ref (a 30), .int kf]) := by rw [hw2252]; exact set_eq k2245
                        have k2256 : w2251[19]? = some (iA E (a 19) 24 (upd f2102 (nI lm).toNatClampNeg r1255)) := by rw [hw2252]; exact set_ne k2246 (by decide)
                        have k2257 : w2251[20]? = some (iA E (a 20) 24 (fun j => nI ((updn g2111 lm 0) j))) := by rw [hw2252]; exact set_ne k2247 (by decide)
                        have k2258 : w2251[18]? = some (iA E (a 18) 25 (fun j => nI ((updn g2237 (lm + 1) ((g2237 lm) + mm1249)) j))) := by rw [hw2252]; exact set_ne k2250 (by decide)
                        have kp2259 := keeps_set kp2249 hw2252 (by first | exact rfl | decide | omega | (dsimp only; omega))
                        refine x_iconst C (v := 1) dX12_readsLine_232 (by decide) rfl ?_
                        exact x_zret C hr hlk rfl dX12_readsLine_233 ⟨hW2253, kp2259, (Or.inr rfl), ⟨(pl1231 + 1), (lm + 1), nu1232, by omega, by omega, by omega, ⟨v1237, v1238, v1239, v1240, v1241, v1242, n1243, n1244, ⟨by omega, by omega, by omega, by omega, by omega, by omega, by omega⟩, ⟨by omega, by omega⟩, k2255⟩⟩⟩
                      · skip
                        have hp2260 := hv_lt (x1258.symm.trans c2235) (by decide)
                        refine x_aload_n C dX12_readsLine_138 rfl 2 rfl rfl ?_
                        refine x_vi C (As := []) (rest := []) (m_isDigit E l a cd hG kf jn js jq w2114 hW2116 tp (pl1231 + 1) le cm wt sm lm nu1232 ⟨v1237, v1238, v1239, v1240, v1241, v1242, n1243, n1244, ⟨by omega, by omega, by omega, by omega, by omega, by omega, by omega⟩, ⟨by omega, by omega⟩, k2118⟩ tf k2117) mf_X12_isDigit w_1341 0 k2118 rfl rfl rfl (Nat.le_of_ble_eq_true rfl) ⟨(Nat.le_of_ble_eq_true rfl), (Nat.le_of_ble_eq_true rfl)⟩ ⟨(Nat.le_of_ble_eq_true rfl), (Nat.le_of_ble_eq_true rfl)⟩ dX12_readsLine_139 rfl (fun r2262 w2263 h2261 => ?_)
                        obtain ⟨hW2264, zb2265, x2266⟩ := h2261
                        refine x_ws hW2264 ?_
                        refine x_if_ne C (tgt := 155) dX12_readsLine_142 (by decide) rfl (fun c2267 => ?_) (fun c2267 => ?_)
                        · skip
                          obtain ⟨d2268, hd2269, ed2270, hp2271⟩ := x2266 c2267
                          refine x_aload_n C dX12_readsLine_155 rfl 2 rfl rfl ?_
                          refine x_vi C (As := []) (rest := []) (m_here E l a cd hG kf jn js jq w2114 hW2116 tp (pl1231 + 1) le cm wt sm lm nu1232 ⟨v1237, v1238, v1239, v1240, v1241, v1242, n1243, n1244, ⟨by omega, by omega, by omega, by omega, by omega, by omega, by omega⟩, ⟨by omega, by omega⟩, k2118⟩ tf k2117) mf_X12_here w_1317 0 k2118 rfl rfl rfl (Nat.le_of_ble_eq_true rfl) ⟨(Nat.le_of_ble_eq_true rfl), (Nat.le_of_ble_eq_true rfl)⟩ ⟨(Nat.le_of_ble_eq_true rfl), (Nat.le_of_ble_eq_true rfl)⟩ dX12_readsLine_156 rfl (fun r2273 w2274 h2272 => ?_)
                          obtain ⟨hW2275, x2276⟩ := h2272
                          refine x_ws hW2275 ?_
                          refine x_top (x2276.trans ed2270) ?_
                          refine x_bipush C (v := 55) dX12_readsLine_159 (by decide) rfl ?_
                          refine x_icmp_le C (tgt := 174) dX12_readsLine_161 (by decide) rfl (fun c2277 => ?_) (fun c2277 => ?_)
                          · skip
                            have nf2278 := nI_le' (a := (48 + d2268)) (b := 55) c2277 (by omega) (by omega)
                            refine x_aload_n C dX12_readsLine_174 rfl 2 rfl rfl ?_
                            refine x_get C (ci := 11) (k := 30) 0 k2118 rfl in_X12 (by decide) w_1148 rfl dX12_readsLine_175 rfl ?_
                            refine x_aload_n C dX12_readsLine_178 rfl 2 rfl rfl ?_
                            refine x_get C (ci := 11) (k := 27) 0 k2118 rfl in_X12 (by decide) w_1145 rfl dX12_readsLine_179 rfl ?_
                            refine x_aload_n C dX12_readsLine_182 rfl 2 rfl rfl ?_
                            refine x_vi C (As := []) (rest := [.int (nI lm), .ref (a 20)]) (m_here E l a cd hG kf jn js jq w2114 hW2116 tp (pl1231 + 1) le cm wt sm lm nu1232 ⟨v1237, v1238, v1239, v1240, v1241, v1242, n1243, n1244, ⟨by omega, by omega, by omega, by omega, by omega, by omega, by omega⟩, ⟨by omega, by omega⟩, k2118⟩ tf k2117) mf_X12_here w_1317 0 k2118 rfl rfl rfl (Nat.le_of_ble_eq_true rfl) ⟨(Nat.le_of_ble_eq_true rfl), (Nat.le_of_ble_eq_true rfl)⟩ ⟨(Nat.le_of_ble_eq_true rfl), (Nat.le_of_ble_eq_true rfl)⟩ dX12_readsLine_183 rfl (fun r2280 w2281 h2279 => ?_)
                            obtain ⟨hW2282, x2283⟩ := h2279
                            refine x_ws hW2282 ?_
                            refine x_top (x2283.trans ed2270) ?_
                            refine x_bipush C (v := 48) dX12_readsLine_186 (by decide) rfl ?_
                            refine x_isub C (v := (nI ((48 + d2268) - 48))) dX12_readsLine_188 (pk_sub (a := (48 + d2268)) (b := 48) (by omega)) rfl ?_
                            have gb2284 := updn_le (i := lm) (v := ((48 + d2268) - 48)) gb2113 (by omega)
                            obtain ⟨w2285, hw2286⟩ : ∃ w : va_W, w = List.set w2114 20 (iA E (a 20) 24 (upd (fun j => nI ((updn g2111 lm 0) j)) lm (nI ((48 + d2268) - 48)))) := ⟨_, rfl⟩
                            refine x_iask C lm (nI_clamp (by omega)) (nI_pos (by omega)) (by omega) 20 k2122 hw2286.symm dX12_readsLine_189 rfl ?_
                            have hW2287 : WX (okM E a cd kf jn js jq) w2285 := by rw [hw2286]; exact hW2116.set (k := 20) rfl ⟨_, gb2284, iA_n (upd_nI (updn g2111 lm 0) lm ((48 + d2268) - 48))⟩
                            have k2288 : w2285[4]? = some (bA E (a 4) 260 tf) := by rw [hw2286]; exact set_ne k2117 (by decide)
                            have k2289 : w2285[0]? = some (ob (a 0) 11 [.ref (a 1), .ref (a 2), .ref (a 3), .ref (a 4), .int (nI tp), .int (nI (pl1231 + 1)), .int (nI le), .int v1237, .int nu1232, .int v1238, .int (nI cm), .int (nI wt), .int (nI sm), .int (nI (cd.2.2.2.2.2)), .ref (a 5), .ref (a 6), .ref (a 7), .ref (a 8), .ref (a 9), .ref (a 10), .ref (a 11), .ref (a 12), .ref (a 13), .ref (a 14), .ref (a 15), .ref (a 16), .ref (a 17), .int (nI lm), .ref (a 18), .ref (a 19), .ref (a 20), .ref (a 21), .int v1239, .int v1240, .int v1241, .int v1242, .int (nI n1243), .int (nI n1244), .ref (a 22), .ref (a 23), .ref (a 24), .ref (a 25), .ref (a 26), .ref (a 27), .ref (a 28), .ref (a 29), .ref (a 30), .int kf]) := by rw [hw2286]; exact set_ne k2118 (by decide)
                            have k2290 : w2285[19]? = some (iA E (a 19) 24 (upd f2102 (nI lm).toNatClampNeg r1255)) := by rw [hw2286]; exact set_ne k2119 (by decide)
                            have k2291 : w2285[20]? = some (iA E (a 20) 24 (upd (fun j => nI ((updn g2111 lm 0) j)) lm (nI ((48 + d2268) - 48)))) := by rw [hw2286]; exact set_eq k2122
                            have kp2292 := keeps_set kp2121 hw2286 (by first | exact rfl | decide | omega | (dsimp only; omega))
                            have k2293 : w2285[20]? = some (iA E (a 20) 24 (fun j => nI ((updn (updn g2111 lm 0) lm ((48 + d2268) - 48)) j))) := by rw [← upd_nI]; exact k2291
                            refine x_aload_n C dX12_readsLine_190 rfl 2 rfl rfl ?_
                            refine x_aload_n C dX12_readsLine_191 rfl 2 rfl rfl ?_
                            refine x_get C (ci := 11) (k := 5) 0 k2289 rfl in_X12 (by decide) w_1123 rfl dX12_readsLine_192 rfl ?_
                            refine x_iconst C (v := 1) dX12_readsLine_195 (by decide) rfl ?_
                            refine x_iadd C (v := (nI ((pl1231 + 1) + 1))) dX12_readsLine_196 (nI_add (pl1231 + 1) 1) rfl ?_
                            obtain ⟨w2294, hw2295⟩ : ∃ w : va_W, w = List.set w2285 0 (ob (a 0) 11 [.ref (a 1), .ref (a 2), .ref (a 3), .ref (a 4), .int (nI tp), .int (nI ((pl1231 + 1) + 1)), .int (nI le), .int v1237, .int nu1232, .int v1238, .int (nI cm), .int (nI wt), .int (nI sm), .int (nI (cd.2.2.2.2.2)), .ref (a 5), .ref (a 6), .ref (a 7), .ref (a 8), .ref (a 9), .ref (a 10), .ref (a 11), .ref (a 12), .ref (a 13), .ref (a 14), .ref (a 15), .ref (a 16), .ref (a 17), .int (nI lm), .ref (a 18), .ref (a 19), .ref (a 20), .ref (a 21), .int v1239, .int v1240, .int v1241, .int v1242, .int (nI n1243), .int (nI n1244), .ref (a 22), .ref (a 23), .ref (a 24), .ref (a 25), .ref (a 26), .ref (a 27), .ref (a 28), .ref (a 29), .ref (a 30), .int kf]) := ⟨_, rfl⟩
                            refine x_put C (ci := 11) (k := 5) (ty := .int) 0 k2289 rfl in_X12 tyX12 tyX12_ok nmX12 (by decide) w_1123 rfl rfl rfl rfl (Nat.le_of_ble_eq_true rfl) hw2295.symm dX12_readsLine_197 rfl ?_
                            have hW2296 : WX (okM E a cd kf jn js jq) w2294 := by rw [hw2295]; exact hW2287.set (k := 0) rfl ⟨tp, ((pl1231 + 1) + 1), le, v1237, nu1232, v1238, cm, wt, sm, lm, v1239, v1240, v1241, v1242, n1243, n1244, by omega, by omega, by omega, by omega, by omega, by omega, by omega, by omega, by omega, rfl⟩
                            have k2297 : w2294[4]? = some (bA E (a 4) 260 tf) := by rw [hw2295]; exact set_ne k2288 (by decide)
                            have k2298 : w2294[0]? = some (ob (a 0) 11 [.ref (a 1), .ref (a 2), .ref (a 3), .ref (a 4), .int (nI tp), .int (nI ((pl1231 + 1) + 1)), .int (nI le), .int v1237, .int nu1232, .int v1238, .int (nI cm), .int (nI wt), .int (nI sm), .int (nI (cd.2.2.2.2.2)), .ref (a 5), .ref (a 6), .ref (a 7), .ref (a 8), .ref (a 9), .ref (a 10), .ref (a 11), .ref (a 12), .ref (a 13), .ref (a 14), .ref (a 15), .ref (a 16), .ref (a 17), .int (nI lm), .ref (a 18), .ref (a 19), .ref (a 20), .ref (a 21), .int v1239, .int v1240, .int v1241, .int v1242, .int (nI n1243), .int (nI n1244), .ref (a 22), .ref (a 23), .ref (a 24), .ref (a 25), .ref (a 26), .ref (a 27), .ref (a 28), .ref (a 29), .ref (a 30), .int kf]) := by rw [hw2295]; exact set_eq k2289
                            have k2299 : w2294[19]? = some (iA E (a 19) 24 (upd f2102 (nI lm).toNatClampNeg r1255)) := by rw [hw2295]; exact set_ne k2290 (by decide)
                            have k2300 : w2294[20]? = some (iA E (a 20) 24 (fun j => nI ((updn (updn g2111 lm 0) lm ((48 + d2268) - 48)) j))) := by rw [hw2295]; exact set_ne k2293 (by decide)
                            have kp2301 := keeps_set kp2292 hw2295 (by first | exact rfl | decide | omega | (dsimp only; omega))
                            refine x_aload_n C dX12_readsLine_200 rfl 2 rfl rfl ?_
                            refine x_get C (ci := 11) (k := 28) 0 k2298 rfl in_X12 (by decide) w_1146 rfl dX12_readsLine_201 rfl ?_
                            refine x_aload_n C dX12_readsLine_204 rfl 2 rfl rfl ?_
                            refine x_get C (ci := 11) (k := 27) 0 k2298 rfl in_X12 (by decide) w_1145 rfl dX12_readsLine_205 rfl ?_
                            refine x_iconst C (v := 1) dX12_readsLine_208 (by decide) rfl ?_
                            refine x_iadd C (v := (nI (lm + 1))) dX12_readsLine_209 (nI_add lm 1) rfl ?_
                            refine x_aload_n C dX12_readsLine_210 rfl 2 rfl rfl ?_
                            refine x_get C (ci := 11) (k := 28) 0 k2298 rfl in_X12 (by decide) w_1146 rfl dX12_readsLine_211 rfl ?_
                            refine x_aload_n C dX12_readsLine_214 rfl 2 rfl rfl ?_
                            refine x_get C (ci := 11) (k := 27) 0 k2298 rfl in_X12 (by decide) w_1145 rfl dX12_readsLine_215 rfl ?_
                            obtain ⟨_, k2302, g2303, gb2304, rfl⟩ := hW2296 18 _ rfl
                            refine x_ialk C (v := nI (g2303 lm)) lm (nI_clamp (by omega)) (nI_pos (by omega)) (by omega) 18 k2302 rfl dX12_readsLine_218 rfl ?_
                            have bx2305 := gb2304 lm
                            refine x_iload_n C dX12_readsLine_219 rfl 1 rfl rfl ?_
                            refine x_iadd C (v := (nI ((g2303 lm) + mm1249))) dX12_readsLine_220 (nI_add (g2303 lm) mm1249) rfl ?_
                            have gb2306 := updn_leF (i := (lm + 1)) (v := ((g2303 lm) + mm1249)) gb2304 (by omega)
                            obtain ⟨w2307, hw2308⟩ : ∃ w : va_W, w = List.set w2294 18 (iA E (a 18) 25 (upd (fun j => nI (g2303 j)) (lm + 1) (nI ((g2303 lm) + mm1249)))) := ⟨_, rfl⟩
                            refine x_iask C (lm + 1) (nI_clamp (by omega)) (nI_pos (by omega)) (by omega) 18 k2302 hw2308.symm dX12_readsLine_221 rfl ?_
                            have hW2309 : WX (okM E a cd kf jn js jq) w2307 := by rw [hw2308]; exact hW2296.set (k := 18) rfl ⟨_, gb2306, iA_n (upd_nI g2303 (lm + 1) ((g2303 lm) + mm1249))⟩
                            have k2310 : w2307[4]? = some (bA E (a 4) 260 tf) := by rw [hw2308]; exact set_ne k2297 (by decide)
                            have k2311 : w2307[0]? = some (ob (a 0) 11 [.ref (a 1), .ref (a 2), .ref (a 3), .ref (a 4), .int (nI tp), .int (nI ((pl1231 + 1) + 1)), .int (nI le), .int v1237, .int nu1232, .int v1238, .int (nI cm), .int (nI wt), .int (nI sm), .int (nI (cd.2.2.2.2.2)), .ref (a 5), .ref (a 6), .ref (a 7), .ref (a 8), .ref (a 9), .ref (a 10), .ref (a 11), .ref (a 12), .ref (a 13), .ref (a 14), .ref (a 15), .ref (a 16), .ref (a 17), .int (nI lm), .ref (a 18), .ref (a 19), .ref (a 20), .ref (a 21), .int v1239, .int v1240, .int v1241, .int v1242, .int (nI n1243), .int (nI n1244), .ref (a 22), .ref (a 23), .ref (a 24), .ref (a 25), .ref (a 26), .ref (a 27), .ref (a 28), .ref (a 29), .ref (a 30), .int kf]) := by rw [hw2308]; exact set_ne k2298 (by decide)
                            have k2312 : w2307[19]? = some (iA E (a 19) 24 (upd f2102 (nI lm).toNatClampNeg r1255)) := by rw [hw2308]; exact set_ne k2299 (by decide)
                            have k2313 : w2307[20]? = some (iA E (a 20) 24 (fun j => nI ((updn (updn g2111 lm 0) lm ((48 + d2268) - 48)) j))) := by rw [hw2308]; exact set_ne k2300 (by decide)
                            have k2314 : w2307[18]? = some (iA E (a 18) 25 (upd (fun j => nI (g2303 j)) (lm + 1) (nI ((g2303 lm) + mm1249)))) := by rw [hw2308]; exact set_eq k2302
                            have kp2315 := keeps_set kp2301 hw2308 (by first | exact rfl | decide | omega | (dsimp only; omega))
                            have k2316 : w2307[18]? = some (iA E (a 18) 25 (fun j => nI ((updn g2303 (lm + 1) ((g2303 lm) + mm1249)) j))) := by rw [← upd_nI]; exact k2314
                            refine x_aload_n C dX12_readsLine_222 rfl 2 rfl rfl ?_
                            refine x_aload_n C dX12_readsLine_223 rfl 2 rfl rfl ?_
                            refine x_get C (ci := 11) (k := 27) 0 k2311 rfl in_X12 (by decide) w_1145 rfl dX12_readsLine_224 rfl ?_
                            refine x_iconst C (v := 1) dX12_readsLine_227 (by decide) rfl ?_
                            refine x_iadd C (v := (nI (lm + 1))) dX12_readsLine_228 (nI_add lm 1) rfl ?_
                            obtain ⟨w2317, hw2318⟩ : ∃ w : va_W, w = List.set w2307 0 (ob (a 0) 11 [.ref (a 1), .ref (a 2), .ref (a 3), .ref (a 4), .int (nI tp), .int (nI ((pl1231 + 1) + 1)), .int (nI le), .int v1237, .int nu1232, .int v1238, .int (nI cm), .int (nI wt), .int (nI sm), .int (nI (cd.2.2.2.2.2)), .ref (a 5), .ref (a 6), .ref (a 7), .ref (a 8), .ref (a 9), .ref (a 10), .ref (a 11), .ref (a 12), .ref (a 13), .ref (a 14), .ref (a 15), .ref (a 16), .ref (a 17), .int (nI (lm + 1)), .ref (a 18), .ref (a 19), .ref (a 20), .ref (a 21), .int v1239, .int v1240, .int v1241, .int v1242, .int (nI n1243), .int (nI n1244), .ref (a 22), .ref (a 23), .ref (a 24), .ref (a 25), .ref (a 26), .ref (a 27), .ref (a 28), .ref (a 29), .ref (a 30), .int kf]) := ⟨_, rfl⟩
                            refine x_put C (ci := 11) (k := 27) (ty := .int) 0 k2311 rfl in_X12 tyX12 tyX12_ok nmX12 (by decide) w_1145 rfl rfl rfl rfl (Nat.le_of_ble_eq_true rfl) hw2318.symm dX12_readsLine_229 rfl ?_
                            have hW2319 : WX (okM E a cd kf jn js jq) w2317 := by rw [hw2318]; exact hW2309.set (k := 0) rfl ⟨tp, ((pl1231 + 1) + 1), le, v1237, nu1232, v1238, cm, wt, sm, (lm + 1), v1239, v1240, v1241, v1242, n1243, n1244, by omega, by omega, by omega, by omega, by omega, by omega, by omega, by omega, by omega, rfl⟩
                            have k2320 : w2317[4]? = some (bA E (a 4) 260 tf) := by rw [hw2318]; exact set_ne k2310 (by decide)
                            have k2321 : w2317[0]? = some (ob (a 0) 11 [.ref (a 1), .ref (a 2), .ref (a 3), .ref (a 4), .int (nI tp), .int (nI ((pl1231 + 1) + 1)), .int (nI le), .int v1237, .int nu1232, .int v1238, .int (nI cm), .int (nI wt), .int (nI sm), .int (nI (cd.2.2.2.2.2)), .ref (a 5), .ref (a 6), .ref (a 7), .ref (a 8), .ref (a 9), .ref (a 10), .ref (a 11), .ref (a 12), .ref (a 13), .ref (a 14), .ref (a 15), .ref (a 16), .ref (a 17), .int (nI (lm + 1)), .ref (a 18), .ref (a 19), .ref (a 20), .ref (a 21), .int v1239, .int v1240, .int v1241, .int v1242, .int (nI n1243), .int (nI n1244), .ref (a 22), .ref (a 23), .ref (a 24), .ref (a 25), .ref (a 26), .ref (a 27), .ref (a 28), .ref (a 29), .ref (a 30), .int kf]) := by rw [hw2318]; exact set_eq k2311
                            have k2322 : w2317[19]? = some (iA E (a 19) 24 (upd f2102 (nI lm).toNatClampNeg r1255)) := by rw [hw2318]; exact set_ne k2312 (by decide)
                            have k2323 : w2317[20]? = some (iA E (a 20) 24 (fun j => nI ((updn (updn g2111 lm 0) lm ((48 + d2268) - 48)) j))) := by rw [hw2318]; exact set_ne k2313 (by decide)
                            have k2324 : w2317[18]? = some (iA E (a 18) 25 (fun j => nI ((updn g2303 (lm + 1) ((g2303 lm) + mm1249)) j))) := by rw [hw2318]; exact set_ne k2316 (by decide)
                            have kp2325 := keeps_set kp2315 hw2318 (by first | exact rfl | decide | omega | (dsimp only; omega))
                            refine x_iconst C (v := 1) dX12_readsLine_232 (by decide) rfl ?_
                            exact x_zret C hr hlk rfl dX12_readsLine_233 ⟨hW2319, kp2325, (Or.inr rfl), ⟨((pl1231 + 1) + 1), (lm + 1), nu1232, by omega, by omega, by omega, ⟨v1237, v1238, v1239, v1240, v1241, v1242, n1243, n1244, ⟨by omega, by omega, by omega, by omega, by omega, by omega, by omega⟩, ⟨by omega, by omega⟩, k2321⟩⟩⟩
                          · skip
                            have nf2326 := nI_nle' (a := (48 + d2268)) (b := 55) c2277 (by omega) (by omega)
                            refine x_aload_n C dX12_readsLine_164 rfl 2 rfl rfl ?_
                            refine x_iconst C (v := 3) dX12_readsLine_165 (by decide) rfl ?_
                            refine x_aload_n C dX12_readsLine_166 rfl 2 rfl rfl ?_
                            refine x_get C (ci := 11) (k := 5) 0 k2118 rfl in_X12 (by decide) w_1123 rfl dX12_readsLine_167 rfl ?_
                            refine x_vi C (As := [.int 3, .int (nI (pl1231 + 1))]) (rest := []) (m_wrongAt E l a cd hG kf jn js jq w2114 hW2116 (3 : Int32) ((nI (pl1231 + 1))) tp (pl1231 + 1) le cm wt sm lm nu1232 ⟨v1237, v1238, v1239, v1240, v1241, v1242, n1243, n1244, ⟨by omega, by omega, by omega, by omega, by omega, by omega, by omega⟩, ⟨by omega, by omega⟩, k2118⟩) mf_X12_wrongAt w_1324 0 k2118 rfl rfl rfl (Nat.le_of_ble_eq_true rfl) ⟨(Nat.le_of_ble_eq_true rfl), (Nat.le_of_ble_eq_true rfl)⟩ ⟨(Nat.le_of_ble_eq_true rfl), (Nat.le_of_ble_eq_true rfl)⟩ dX12_readsLine_170 rfl (fun r2328 w2329 h2327 => ?_)
                            obtain ⟨hW2330, kq2331, e2332, x2333⟩ := h2327
                            refine x_top e2332 ?_
                            have k2334 : w2329[4]? = some (bA E (a 4) 260 tf) := keeps_at kq2331 k2117 (by first | decide | omega | (dsimp only; omega))
                            have k2335 : w2329[19]? = some (iA E (a 19) 24 (upd f2102 (nI lm).toNatClampNeg r1255)) := keeps_at kq2331 k2119 (by first | decide | omega | (dsimp only; omega))
                            have k2336 : w2329[20]? = some (iA E (a 20) 24 (fun j => nI ((updn g2111 lm 0) j))) := keeps_at kq2331 k2122 (by first | decide | omega | (dsimp only; omega))
                            have kp2337 := keeps_tr kp2121 kq2331 (fun q hq => by first | omega | (dsimp only at *; omega))
                            obtain ⟨v2338, v2339, v2340, v2341, v2342, v2343, n2344, n2345, bo2346, bo2347, k2348⟩ := x2333
                            exact x_zret C hr hlk rfl dX12_readsLine_173 ⟨hW2330, kp2337, (Or.inl rfl), ⟨((pl1231 + 1)), lm, nu1232, by omega, by omega, by omega, ⟨v2338, v2339, v2340, v2341, v2342, v2343, n2344, n2345, ⟨by omega, by omega, by omega, by omega, by omega, by omega, by omega⟩, ⟨by omega, by omega⟩, k2348⟩⟩⟩
                        · skip
                          refine x_aload_n C dX12_readsLine_145 rfl 2 rfl rfl ?_
                          refine x_iconst C (v := 1) dX12_readsLine_146 (by decide) rfl ?_
                          refine x_aload_n C dX12_readsLine_147 rfl 2 rfl rfl ?_
                          refine x_get C (ci := 11) (k := 5) 0 k2118 rfl in_X12 (by decide) w_1123 rfl dX12_readsLine_148 rfl ?_
                          refine x_vi C (As := [.int 1, .int (nI (pl1231 + 1))]) (rest := []) (m_wrongAt E l a cd hG kf jn js jq w2114 hW2116 (1 : Int32) ((nI (pl1231 + 1))) tp (pl1231 + 1) le cm wt sm lm nu1232 ⟨v1237, v1238, v1239, v1240, v1241, v1242, n1243, n1244, ⟨by omega, by omega, by omega, by omega, by omega, by omega, by omega⟩, ⟨by omega, by omega⟩, k2118⟩) mf_X12_wrongAt w_1324 0 k2118 rfl rfl rfl (Nat.le_of_ble_eq_true rfl) ⟨(Nat.le_of_ble_eq_true rfl), (Nat.le_of_ble_eq_true rfl)⟩ ⟨(Nat.le_of_ble_eq_true rfl), (Nat.le_of_ble_eq_true rfl)⟩ dX12_readsLine_151 rfl (fun r2350 w2351 h2349 => ?_)
                          obtain ⟨hW2352, kq2353, e2354, x2355⟩ := h2349
                          refine x_top e2354 ?_
                          have k2356 : w2351[4]? = some (bA E (a 4) 260 tf) := keeps_at kq2353 k2117 (by first | decide | omega | (dsimp only; omega))
                          have k2357 : w2351[19]? = some (iA E (a 19) 24 (upd f2102 (nI lm).toNatClampNeg r1255)) := keeps_at kq2353 k2119 (by first | decide | omega | (dsimp only; omega))
                          have k2358 : w2351[20]? = some (iA E (a 20) 24 (fun j => nI ((updn g2111 lm 0) j))) := keeps_at kq2353 k2122 (by first | decide | omega | (dsimp only; omega))
                          have kp2359 := keeps_tr kp2121 kq2353 (fun q hq => by first | omega | (dsimp only at *; omega))
                          obtain ⟨v2360, v2361, v2362, v2363, v2364, v2365, n2366, n2367, bo2368, bo2369, k2370⟩ := x2355
                          exact x_zret C hr hlk rfl dX12_readsLine_154 ⟨hW2352, kp2359, (Or.inl rfl), ⟨((pl1231 + 1)), lm, nu1232, by omega, by omega, by omega, ⟨v2360, v2361, v2362, v2363, v2364, v2365, n2366, n2367, ⟨by omega, by omega, by omega, by omega, by omega, by omega, by omega⟩, ⟨by omega, by omega⟩, k2370⟩⟩⟩
                  · skip
                    refine x_aload_n C dX12_readsLine_86 rfl 2 rfl rfl ?_
                    refine x_iconst C (v := 1) dX12_readsLine_87 (by decide) rfl ?_
                    refine x_aload_n C dX12_readsLine_88 rfl 2 rfl rfl ?_
                    refine x_get C (ci := 11) (k := 5) 0 k1247 rfl in_X12 (by decide) w_1123 rfl dX12_readsLine_89 rfl ?_
                    refine x_vi C (As := [.int 1, .int (nI pl1231)]) (rest := []) (m_wrongAt E l a cd hG kf jn js jq w1225 hW1226 (1 : Int32) ((nI pl1231)) tp pl1231 le cm wt sm lm nu1232 ⟨v1237, v1238, v1239, v1240, v1241, v1242, n1243, n1244, ⟨by omega, by omega, by omega, by omega, by omega, by omega, by omega⟩, ⟨by omega, by omega⟩, k1247⟩) mf_X12_wrongAt w_1324 0 k1247 rfl rfl rfl (Nat.le_of_ble_eq_true rfl) ⟨(Nat.le_of_ble_eq_true rfl), (Nat.le_of_ble_eq_true rfl)⟩ ⟨(Nat.le_of_ble_eq_true rfl), (Nat.le_of_ble_eq_true rfl)⟩ dX12_readsLine_92 rfl (fun r2372 w2373 h2371 => ?_)
                    obtain ⟨hW2374, kq2375, e2376, x2377⟩ := h2371
                    refine x_top e2376 ?_
                    have k2378 : w2373[4]? = some (bA E (a 4) 260 tf) := keeps_at kq2375 k1229 (by first | decide | omega | (dsimp only; omega))
                    have kp2379 := keeps_tr kp1230 kq2375 (fun q hq => by first | omega | (dsimp only at *; omega))
                    obtain ⟨v2380, v2381, v2382, v2383, v2384, v2385, n2386, n2387, bo2388, bo2389, k2390⟩ := x2377
                    exact x_zret C hr hlk rfl dX12_readsLine_95 ⟨hW2374, kp2379, (Or.inl rfl), ⟨pl1231, lm, nu1232, by omega, by omega, by omega, ⟨v2380, v2381, v2382, v2383, v2384, v2385, n2386, n2387, ⟨by omega, by omega, by omega, by omega, by omega, by omega, by omega⟩, ⟨by omega, by omega⟩, k2390⟩⟩⟩
          · skip
            refine x_iconst C (v := 0) dX12_readsLine_55 (by decide) rfl ?_
            exact x_zret C hr hlk rfl dX12_readsLine_56 ⟨hW1226, kp1230, (Or.inl rfl), ⟨pl1231, lm, nu1232, by omega, by omega, by omega, ⟨v1237, v1238, v1239, v1240, v1241, v1242, n1243, n1244, ⟨by omega, by omega, by omega, by omega, by omega, by omega, by omega⟩, ⟨by omega, by omega⟩, k1247⟩⟩⟩
      · skip
        have nf2391 : lm = 24 := (nI_eq (by omega) (by omega)).mp c1221
        refine x_aload_n C dX12_readsLine_35 rfl 0 rfl rfl ?_
        refine x_iconst C (v := 4) dX12_readsLine_36 (by decide) rfl ?_
        refine x_aload_n C dX12_readsLine_37 rfl 0 rfl rfl ?_
        refine x_get C (ci := 11) (k := 5) 0 k11 rfl in_X12 (by decide) w_1123 rfl dX12_readsLine_38 rfl ?_
        refine x_vi C (As := [.int 4, .int (nI pl)]) (rest := []) (m_wrongAt E l a cd hG kf jn js jq ws hW (4 : Int32) ((nI pl)) tp pl le cm wt sm lm nu ⟨v1, v2, v3, v4, v5, v6, n7, n8, ⟨by omega, by omega, by omega, by omega, by omega, by omega, by omega⟩, ⟨by omega, by omega⟩, k11⟩) mf_X12_wrongAt w_1324 0 k11 rfl rfl rfl (Nat.le_of_ble_eq_true rfl) ⟨(Nat.le_of_ble_eq_true rfl), (Nat.le_of_ble_eq_true rfl)⟩ ⟨(Nat.le_of_ble_eq_true rfl), (Nat.le_of_ble_eq_true rfl)⟩ dX12_readsLine_41 rfl (fun r2393 w2394 h2392 => ?_)
        obtain ⟨hW2395, kq2396, e2397, x2398⟩ := h2392
        refine x_top e2397 ?_
        have k2399 : w2394[4]? = some (bA E (a 4) 260 tf) := keeps_at kq2396 htf (by first | decide | omega | (dsimp only; omega))
        have kp2400 := keeps_tr kp0 kq2396 (fun q hq => by first | omega | (dsimp only at *; omega))
        obtain ⟨v2401, v2402, v2403, v2404, v2405, v2406, n2407, n2408, bo2409, bo2410, k2411⟩ := x2398
        exact x_zret C hr hlk rfl dX12_readsLine_44 ⟨hW2395, kp2400, (Or.inl rfl), ⟨pl, lm, nu, by omega, by omega, by omega, ⟨v2401, v2402, v2403, v2404, v2405, v2406, n2407, n2408, ⟨by omega, by omega, by omega, by omega, by omega, by omega, by omega⟩, ⟨by omega, by omega⟩, k2411⟩⟩⟩
    · skip
      refine x_aload_n C dX12_readsLine_16 rfl 0 rfl rfl ?_
      refine x_iconst C (v := 1) dX12_readsLine_17 (by decide) rfl ?_
      refine x_aload_n C dX12_readsLine_18 rfl 0 rfl rfl ?_
      refine x_get C (ci := 11) (k := 5) 0 k11 rfl in_X12 (by decide) w_1123 rfl dX12_readsLine_19 rfl ?_
      refine x_vi C (As := [.int 1, .int (nI pl)]) (rest := []) (m_wrongAt E l a cd hG kf jn js jq ws hW (1 : Int32) ((nI pl)) tp pl le cm wt sm lm nu ⟨v1, v2, v3, v4, v5, v6, n7, n8, ⟨by omega, by omega, by omega, by omega, by omega, by omega, by omega⟩, ⟨by omega, by omega⟩, k11⟩) mf_X12_wrongAt w_1324 0 k11 rfl rfl rfl (Nat.le_of_ble_eq_true rfl) ⟨(Nat.le_of_ble_eq_true rfl), (Nat.le_of_ble_eq_true rfl)⟩ ⟨(Nat.le_of_ble_eq_true rfl), (Nat.le_of_ble_eq_true rfl)⟩ dX12_readsLine_22 rfl (fun r2413 w2414 h2412 => ?_)
      obtain ⟨hW2415, kq2416, e2417, x2418⟩ := h2412
      refine x_top e2417 ?_
      have k2419 : w2414[4]? = some (bA E (a 4) 260 tf) := keeps_at kq2416 htf (by first | decide | omega | (dsimp only; omega))
      have kp2420 := keeps_tr kp0 kq2416 (fun q hq => by first | omega | (dsimp only at *; omega))
      obtain ⟨v2421, v2422, v2423, v2424, v2425, v2426, n2427, n2428, bo2429, bo2430, k2431⟩ := x2418
      exact x_zret C hr hlk rfl dX12_readsLine_25 ⟨hW2415, kp2420, (Or.inl rfl), ⟨pl, lm, nu, by omega, by omega, by omega, ⟨v2421, v2422, v2423, v2424, v2425, v2426, n2427, n2428, ⟨by omega, by omega, by omega, by omega, by omega, by omega, by omega⟩, ⟨by omega, by omega⟩, k2431⟩⟩⟩
theorem dX12_readsLines_0 : decode cX12_readsLines 0 = .ok (.aload_n 0, 1) := by decide +kernel
theorem dX12_readsLines_1 : decode cX12_readsLines 1 = .ok (.iconst 0, 1) := by decide +kernel
theorem dX12_readsLines_2 : decode cX12_readsLines 2 = .ok (.putfield 131, 3) := by decide +kernel
theorem dX12_readsLines_5 : decode cX12_readsLines 5 = .ok (.aload_n 0, 1) := by decide +kernel
theorem dX12_readsLines_6 : decode cX12_readsLines 6 = .ok (.iload_n 1, 1) := by decide +kernel
theorem dX12_readsLines_7 : decode cX12_readsLines 7 = .ok (.putfield 134, 3) := by decide +kernel
theorem dX12_readsLines_10 : decode cX12_readsLines 10 = .ok (.aload_n 0, 1) := by decide +kernel
theorem dX12_readsLines_11 : decode cX12_readsLines 11 = .ok (.iconst 0, 1) := by decide +kernel
theorem dX12_readsLines_12 : decode cX12_readsLines 12 = .ok (.putfield 247, 3) := by decide +kernel
theorem dX12_readsLines_15 : decode cX12_readsLines 15 = .ok (.aload_n 0, 1) := by decide +kernel
theorem dX12_readsLines_16 : decode cX12_readsLines 16 = .ok (.getfield 62, 3) := by decide +kernel
theorem dX12_readsLines_19 : decode cX12_readsLines 19 = .ok (.iconst 0, 1) := by decide +kernel
theorem dX12_readsLines_20 : decode cX12_readsLines 20 = .ok (.iconst 0, 1) := by decide +kernel
theorem dX12_readsLines_21 : decode cX12_readsLines 21 = .ok (.iastore, 1) := by decide +kernel
theorem dX12_readsLines_22 : decode cX12_readsLines 22 = .ok (.aload_n 0, 1) := by decide +kernel
theorem dX12_readsLines_23 : decode cX12_readsLines 23 = .ok (.invokevirtual 259, 3) := by decide +kernel
theorem dX12_readsLines_26 : decode cX12_readsLines 26 = .ok (.istore_n 2, 1) := by decide +kernel
theorem dX12_readsLines_27 : decode cX12_readsLines 27 = .ok (.iload_n 2, 1) := by decide +kernel
theorem dX12_readsLines_28 : decode cX12_readsLines 28 = .ok (.ifCond .eq 39, 3) := by decide +kernel
theorem dX12_readsLines_31 : decode cX12_readsLines 31 = .ok (.aload_n 0, 1) := by decide +kernel
theorem dX12_readsLines_32 : decode cX12_readsLines 32 = .ok (.getfield 131, 3) := by decide +kernel
theorem dX12_readsLines_35 : decode cX12_readsLines 35 = .ok (.aload_n 0, 1) := by decide +kernel
theorem dX12_readsLines_36 : decode cX12_readsLines 36 = .ok (.getfield 134, 3) := by decide +kernel
theorem dX12_readsLines_39 : decode cX12_readsLines 39 = .ok (.if_icmp .ge 28, 3) := by decide +kernel
theorem dX12_readsLines_42 : decode cX12_readsLines 42 = .ok (.aload_n 0, 1) := by decide +kernel
theorem dX12_readsLines_43 : decode cX12_readsLines 43 = .ok (.bipush 44, 2) := by decide +kernel
theorem dX12_readsLines_45 : decode cX12_readsLines 45 = .ok (.invokevirtual 220, 3) := by decide +kernel
theorem dX12_readsLines_48 : decode cX12_readsLines 48 = .ok (.ifCond .eq 14, 3) := by decide +kernel
theorem dX12_readsLines_51 : decode cX12_readsLines 51 = .ok (.aload_n 0, 1) := by decide +kernel
theorem dX12_readsLines_52 : decode cX12_readsLines 52 = .ok (.invokevirtual 259, 3) := by decide +kernel
theorem dX12_readsLines_55 : decode cX12_readsLines 55 = .ok (.ifCond .eq 7, 3) := by decide +kernel
theorem dX12_readsLines_58 : decode cX12_readsLines 58 = .ok (.iconst 1, 1) := by decide +kernel
theorem dX12_readsLines_59 : decode cX12_readsLines 59 = .ok (.goto 4, 3) := by decide +kernel
theorem dX12_readsLines_62 : decode cX12_readsLines 62 = .ok (.iconst 0, 1) := by decide +kernel
theorem dX12_readsLines_63 : decode cX12_readsLines 63 = .ok (.istore_n 2, 1) := by decide +kernel
theorem dX12_readsLines_64 : decode cX12_readsLines 64 = .ok (.goto (-37), 3) := by decide +kernel
theorem dX12_readsLines_67 : decode cX12_readsLines 67 = .ok (.aload_n 0, 1) := by decide +kernel
theorem dX12_readsLines_68 : decode cX12_readsLines 68 = .ok (.iconst 0, 1) := by decide +kernel
theorem dX12_readsLines_69 : decode cX12_readsLines 69 = .ok (.putfield 123, 3) := by decide +kernel
theorem dX12_readsLines_72 : decode cX12_readsLines 72 = .ok (.iload_n 2, 1) := by decide +kernel
theorem dX12_readsLines_73 : decode cX12_readsLines 73 = .ok (.ireturn, 1) := by decide +kernel
set_option maxRecDepth 20000 in
set_option maxHeartbeats 4000000 in
theorem m_readsLines (E : xE) (l : Launch) (a : Nat → Nat) (cd : Cd) (hG : Good cd) (kf : Int32) (jn js jq : Lb) (ws : va_W) (hW : WX (okM E a cd kf jn js jq) ws) (n0 : Nat) (hn0 : 1 ≤ n0 ∧ n0 ≤ 140) : xI E l yX12_readsLines cX12_readsLines 3 (some .boolean) 5 [.ref (a 0), .int (nI n0)] ws (fun r w => WX (okM E a cd kf jn js jq) w ∧ keeps ws w (fun q => q = 0 ∨ q = 18 ∨ q = 19 ∨ q = 20 ∨ q = 21) ∧ zb r) := by
  refine xI_start (lv := [(0, .ref (a 0)), (1, .int (nI n0))]) RX12 (by decide) rfl (Nat.le_of_ble_eq_true rfl) rfl (fun p e s m below meth c A C hr hlk => ?_)
  have kp0 : keeps ws ws (fun q => q = 0 ∨ q = 18 ∨ q = 19 ∨ q = 20 ∨ q = 21) := keeps_rf
  obtain ⟨_, k1, n2, n4, n6, v8, v9, v10, n11, n13, n15, n17, v19, v20, v21, v22, n23, n25, bn3, bn5, bn7, bn12, bn14, bn16, bn18, bn24, bn26, rfl⟩ := hW 0 _ rfl
  obtain ⟨_, k27, f28, rfl⟩ := hW 4 _ rfl
  refine x_aload_n C dX12_readsLines_0 rfl 0 rfl rfl ?_
  refine x_iconst C (v := 0) dX12_readsLines_1 (by decide) rfl ?_
  obtain ⟨w29, hw30⟩ : ∃ w : va_W, w = List.set ws 0 (ob (a 0) 11 [.ref (a 1), .ref (a 2), .ref (a 3), .ref (a 4), .int (nI n2), .int 0, .int (nI n6), .int v8, .int v9, .int v10, .int (nI n11), .int (nI n13), .int (nI n15), .int (nI (cd.2.2.2.2.2)), .ref (a 5), .ref (a 6), .ref (a 7), .ref (a 8), .ref (a 9), .ref (a 10), .ref (a 11), .ref (a 12), .ref (a 13), .ref (a 14), .ref (a 15), .ref (a 16), .ref (a 17), .int (nI n17), .ref (a 18), .ref (a 19), .ref (a 20), .ref (a 21), .int v19, .int v20, .int v21, .int v22, .int (nI n23), .int (nI n25), .ref (a 22), .ref (a 23), .ref (a 24), .ref (a 25), .ref (a 26), .ref (a 27), .ref (a 28), .ref (a 29), .ref (a 30), .int kf]) := ⟨_, rfl⟩
  refine x_put C (ci := 11) (k := 5) (ty := .int) 0 k1 rfl in_X12 tyX12 tyX12_ok nmX12 (by decide) w_1123 rfl rfl rfl rfl (Nat.le_of_ble_eq_true rfl) hw30.symm dX12_readsLines_2 rfl ?_
  have hW31 : WX (okM E a cd kf jn js jq) w29 := by rw [hw30]; exact hW.set (k := 0) rfl ⟨n2, 0, n6, v8, v9, v10, n11, n13, n15, n17, v19, v20, v21, v22, n23, n25, by omega, by omega, by omega, by omega, by omega, by omega, by omega, by omega, by omega, rfl⟩
  have k32 : w29[0]? = some (ob (a 0) 11 [.ref (a 1), .ref (a 2), .ref (a 3), .ref (a 4), .int (nI n2), .int 0, .int (nI n6), .int v8, .int v9, .int v10, .int (nI n11), .int (nI n13), .int (nI n15), .int (nI (cd.2.2.2.2.2)), .ref (a 5), .ref (a 6), .ref (a 7), .ref (a 8), .ref (a 9), .ref (a 10), .ref (a 11), .ref (a 12), .ref (a 13), .ref (a 14), .ref (a 15), .ref (a 16), .ref (a 17), .int (nI n17), .ref (a 18), .ref (a 19), .ref (a 20), .ref (a 21), .int v19, .int v20, .int v21, .int v22, .int (nI n23), .int (nI n25), .ref (a 22), .ref (a 23), .ref (a 24), .ref (a 25), .ref (a 26), .ref (a 27), .ref (a 28), .ref (a 29), .ref (a 30), .int kf]) := by rw [hw30]; exact set_eq k1
  have k33 : w29[4]? = some (bA E (a 4) 260 f28) := by rw [hw30]; exact set_ne k27 (by decide)
  have kp34 := keeps_set kp0 hw30 (by first | exact rfl | decide | omega | (dsimp only; omega))
  refine x_aload_n C dX12_readsLines_5 rfl 0 rfl rfl ?_
  refine x_iload_n C dX12_readsLines_6 rfl 1 rfl rfl ?_
  obtain ⟨w35, hw36⟩ : ∃ w : va_W, w = List.set w29 0 (ob (a 0) 11 [.ref (a 1), .ref (a 2), .ref (a 3), .ref (a 4), .int (nI n2), .int 0, .int (nI n0), .int v8, .int v9, .int v10, .int (nI n11), .int (nI n13), .int (nI n15), .int (nI (cd.2.2.2.2.2)), .ref (a 5), .ref (a 6), .ref (a 7), .ref (a 8), .ref (a 9), .ref (a 10), .ref (a 11), .ref (a 12), .ref (a 13), .ref (a 14), .ref (a 15), .ref (a 16), .ref (a 17), .int (nI n17), .ref (a 18), .ref (a 19), .ref (a 20), .ref (a 21), .int v19, .int v20, .int v21, .int v22, .int (nI n23), .int (nI n25), .ref (a 22), .ref (a 23), .ref (a 24), .ref (a 25), .ref (a 26), .ref (a 27), .ref (a 28), .ref (a 29), .ref (a 30), .int kf]) := ⟨_, rfl⟩
  refine x_put C (ci := 11) (k := 6) (ty := .int) 0 k32 rfl in_X12 tyX12 tyX12_ok nmX12 (by decide) w_1124 rfl rfl rfl rfl (Nat.le_of_ble_eq_true rfl) hw36.symm dX12_readsLines_7 rfl ?_
  have hW37 : WX (okM E a cd kf jn js jq) w35 := by rw [hw36]; exact hW31.set (k := 0) rfl ⟨n2, 0, n0, v8, v9, v10, n11, n13, n15, n17, v19, v20, v21, v22, n23, n25, by omega, by omega, by omega, by omega, by omega, by omega, by omega, by omega, by omega, rfl⟩
  have k38 : w35[0]? = some (ob (a 0) 11 [.ref (a 1), .ref (a 2), .ref (a 3), .ref (a 4), .int (nI n2), .int 0, .int (nI n0), .int v8, .int v9, .int v10, .int (nI n11), .int (nI n13), .int (nI n15), .int (nI (cd.2.2.2.2.2)), .ref (a 5), .ref (a 6), .ref (a 7), .ref (a 8), .ref (a 9), .ref (a 10), .ref (a 11), .ref (a 12), .ref (a 13), .ref (a 14), .ref (a 15), .ref (a 16), .ref (a 17), .int (nI n17), .ref (a 18), .ref (a 19), .ref (a 20), .ref (a 21), .int v19, .int v20, .int v21, .int v22, .int (nI n23), .int (nI n25), .ref (a 22), .ref (a 23), .ref (a 24), .ref (a 25), .ref (a 26), .ref (a 27), .ref (a 28), .ref (a 29), .ref (a 30), .int kf]) := by rw [hw36]; exact set_eq k32
  have k39 : w35[4]? = some (bA E (a 4) 260 f28) := by rw [hw36]; exact set_ne k33 (by decide)
  have kp40 := keeps_set kp34 hw36 (by first | exact rfl | decide | omega | (dsimp only; omega))
  refine x_aload_n C dX12_readsLines_10 rfl 0 rfl rfl ?_
  refine x_iconst C (v := 0) dX12_readsLines_11 (by decide) rfl ?_
  obtain ⟨w41, hw42⟩ : ∃ w : va_W, w = List.set w35 0 (ob (a 0) 11 [.ref (a 1), .ref (a 2), .ref (a 3), .ref (a 4), .int (nI n2), .int 0, .int (nI n0), .int v8, .int v9, .int v10, .int (nI n11), .int (nI n13), .int (nI n15), .int (nI (cd.2.2.2.2.2)), .ref (a 5), .ref (a 6), .ref (a 7), .ref (a 8), .ref (a 9), .ref (a 10), .ref (a 11), .ref (a 12), .ref (a 13), .ref (a 14), .ref (a 15), .ref (a 16), .ref (a 17), .int 0, .ref (a 18), .ref (a 19), .ref (a 20), .ref (a 21), .int v19, .int v20, .int v21, .int v22, .int (nI n23), .int (nI n25), .ref (a 22), .ref (a 23), .ref (a 24), .ref (a 25), .ref (a 26), .ref (a 27), .ref (a 28), .ref (a 29), .ref (a 30), .int kf]) := ⟨_, rfl⟩
  refine x_put C (ci := 11) (k := 27) (ty := .int) 0 k38 rfl in_X12 tyX12 tyX12_ok nmX12 (by decide) w_1145 rfl rfl rfl rfl (Nat.le_of_ble_eq_true rfl) hw42.symm dX12_readsLines_12 rfl ?_
  have hW43 : WX (okM E a cd kf jn js jq) w41 := by rw [hw42]; exact hW37.set (k := 0) rfl ⟨n2, 0, n0, v8, v9, v10, n11, n13, n15, 0, v19, v20, v21, v22, n23, n25, by omega, by omega, by omega, by omega, by omega, by omega, by omega, by omega, by omega, rfl⟩
  have k44 : w41[0]? = some (ob (a 0) 11 [.ref (a 1), .ref (a 2), .ref (a 3), .ref (a 4), .int (nI n2), .int 0, .int (nI n0), .int v8, .int v9, .int v10, .int (nI n11), .int (nI n13), .int (nI n15), .int (nI (cd.2.2.2.2.2)), .ref (a 5), .ref (a 6), .ref (a 7), .ref (a 8), .ref (a 9), .ref (a 10), .ref (a 11), .ref (a 12), .ref (a 13), .ref (a 14), .ref (a 15), .ref (a 16), .ref (a 17), .int 0, .ref (a 18), .ref (a 19), .ref (a 20), .ref (a 21), .int v19, .int v20, .int v21, .int v22, .int (nI n23), .int (nI n25), .ref (a 22), .ref (a 23), .ref (a 24), .ref (a 25), .ref (a 26), .ref (a 27), .ref (a 28), .ref (a 29), .ref (a 30), .int kf]) := by rw [hw42]; exact set_eq k38
  have k45 : w41[4]? = some (bA E (a 4) 260 f28) := by rw [hw42]; exact set_ne k39 (by decide)
  have kp46 := keeps_set kp40 hw42 (by first | exact rfl | decide | omega | (dsimp only; omega))
  refine x_aload_n C dX12_readsLines_15 rfl 0 rfl rfl ?_
  refine x_get C (ci := 11) (k := 28) 0 k44 rfl in_X12 (by decide) w_1146 rfl dX12_readsLines_16 rfl ?_
  refine x_iconst C (v := 0) dX12_readsLines_19 (by decide) rfl ?_
  refine x_iconst C (v := 0) dX12_readsLines_20 (by decide) rfl ?_
  obtain ⟨_, k47, g48, gb49, rfl⟩ := hW43 18 _ rfl
  have gb50 := updn_leF (i := 0) (v := 0) gb49 (by omega)
  obtain ⟨w51, hw52⟩ : ∃ w : va_W, w = List.set w41 18 (iA E (a 18) 25 (upd (fun j => nI (g48 j)) 0 (nI 0))) := ⟨_, rfl⟩
  refine x_iask C 0 (by decide) (by decide) (by decide) 18 k47 hw52.symm dX12_readsLines_21 rfl ?_
  have hW53 : WX (okM E a cd kf jn js jq) w51 := by rw [hw52]; exact hW43.set (k := 18) rfl ⟨_, gb50, iA_n (upd_nI g48 0 0)⟩
  have k54 : w51[0]? = some (ob (a 0) 11 [.ref (a 1), .ref (a 2), .ref (a 3), .ref (a 4), .int (nI n2), .int 0, .int (nI n0), .int v8, .int v9, .int v10, .int (nI n11), .int (nI n13), .int (nI n15), .int (nI (cd.2.2.2.2.2)), .ref (a 5), .ref (a 6), .ref (a 7), .ref (a 8), .ref (a 9), .ref (a 10), .ref (a 11), .ref (a 12), .ref (a 13), .ref (a 14), .ref (a 15), .ref (a 16), .ref (a 17), .int 0, .ref (a 18), .ref (a 19), .ref (a 20), .ref (a 21), .int v19, .int v20, .int v21, .int v22, .int (nI n23), .int (nI n25), .ref (a 22), .ref (a 23), .ref (a 24), .ref (a 25), .ref (a 26), .ref (a 27), .ref (a 28), .ref (a 29), .ref (a 30), .int kf]) := by rw [hw52]; exact set_ne k44 (by decide)
  have k55 : w51[4]? = some (bA E (a 4) 260 f28) := by rw [hw52]; exact set_ne k45 (by decide)
  have k56 : w51[18]? = some (iA E (a 18) 25 (upd (fun j => nI (g48 j)) 0 (nI 0))) := by rw [hw52]; exact set_eq k47
  have kp57 := keeps_set kp46 hw52 (by first | exact rfl | decide | omega | (dsimp only; omega))
  have k58 : w51[18]? = some (iA E (a 18) 25 (fun j => nI ((updn g48 0 0) j))) := by rw [← upd_nI]; exact k56
  refine x_aload_n C dX12_readsLines_22 rfl 0 rfl rfl ?_
  refine x_vi C (As := []) (rest := []) (m_readsLine E l a cd hG kf jn js jq w51 hW53 n2 0 n0 n11 n13 n15 0 v9 ⟨v8, v10, v19, v20, v21, v22, n23, n25, ⟨by omega, by omega, by omega, by omega, by omega, by omega, by omega⟩, ⟨by omega, by omega⟩, k54⟩ f28 k55 (by omega)) mf_X12_readsLine w_1403 0 k54 rfl rfl rfl (Nat.le_of_ble_eq_true rfl) ⟨(Nat.le_of_ble_eq_true rfl), (Nat.le_of_ble_eq_true rfl)⟩ ⟨(Nat.le_of_ble_eq_true rfl), (Nat.le_of_ble_eq_true rfl)⟩ dX12_readsLines_23 rfl (fun r60 w61 h59 => ?_)
  obtain ⟨hW62, kq63, zb64, x65⟩ := h59
  have k66 : w61[4]? = some (bA E (a 4) 260 f28) := keeps_at kq63 k55 (by first | decide | omega | (dsimp only; omega))
  have kp67 := keeps_tr kp57 kq63 (fun q hq => by first | omega | (dsimp only at *; omega))
  obtain ⟨pl68, lm69, nu70, hp71, hp72, hp73, mo74⟩ := x65
  obtain ⟨v75, v76, v77, v78, v79, v80, n81, n82, bo83, bo84, k85⟩ := mo74
  refine x_istore_n C (lv' := [(2, .int r60), (0, .ref (a 0)), (1, .int (nI n0))]) dX12_readsLines_26 rfl (by decide) rfl rfl ?_
  have loop27 : ∀ (fu27 : Nat) (z27_2 : Int32) (tq : Nat) (px : Nat) (cq : Nat) (wq : Nat) (sq : Nat) (lq : Nat) (nz : Int32) (wl27 : va_W), WX (okM E a cd kf jn js jq) wl27 → n0 - px < fu27 → MO a cd kf wl27 tq px n0 cq wq sq lq nz → wl27[4]? = some (bA E (a 4) 260 f28) → px ≤ n0 → zb z27_2 → keeps ws wl27 (fun q => q = 0 ∨ q = 18 ∨ q = 19 ∨ q = 20 ∨ q = 21) → X E p l e (xRm 5 0 0) s m ([.ref (a 0), .int (nI n0)] : List Value).toArray below meth c A 3 0 0 (MQ below (va_Qi (fun r w => WX (okM E a cd kf jn js jq) w ∧ keeps ws w (fun q => q = 0 ∨ q = 18 ∨ q = 19 ∨ q = 20 ∨ q = 21) ∧ zb r) (xB E A) A) ([.ref (a 0), .int (nI n0)] : List Value).toArray s 0 0 A) wl27 27 [(0, .ref (a 0)), (1, .int (nI n0)), (2, .int z27_2)] [] := by
    intro fu27
    induction fu27 with
    | zero => intro z27_2 tq px cq wq sq lq nz wl27 _ q; omega
    | succ fu27 ih27 =>
      intro z27_2 tq px cq wq sq lq nz wl27 hWl27 me27 iv27_0 iv27_1 iv27_2 iv27_3 kq27
      obtain ⟨v86, v87, v88, v89, v90, v91, n92, n93, bo94, bo95, k96⟩ := iv27_0
      refine x_iload_n C dX12_readsLines_27 rfl 2 rfl rfl ?_
      refine x_if_eq C (tgt := 67) dX12_readsLines_28 (by decide) rfl (fun c97 => ?_) (fun c97 => ?_)
      · skip
        refine x_aload_n C dX12_readsLines_67 rfl 0 rfl rfl ?_
        refine x_iconst C (v := 0) dX12_readsLines_68 (by decide) rfl ?_
        obtain ⟨w98, hw99⟩ : ∃ w : va_W, w = List.set wl27 0 (ob (a 0) 11 [.ref (a 1), .ref (a 2), .ref (a 3), .ref (a 4), .int 0, .int (nI px), .int (nI n0), .int v86, .int nz, .int v87, .int (nI cq), .int (nI wq), .int (nI sq), .int (nI (cd.2.2.2.2.2)), .ref (a 5), .ref (a 6), .ref (a 7), .ref (a 8), .ref (a 9), .ref (a 10), .ref (a 11), .ref (a 12), .ref (a 13), .ref (a 14), .ref (a 15), .ref (a 16), .ref (a 17), .int (nI lq), .ref (a 18), .ref (a 19), .ref (a 20), .ref (a 21), .int v88, .int v89, .int v90, .int v91, .int (nI n92), .int (nI n93), .ref (a 22), .ref (a 23), .ref (a 24), .ref (a 25), .ref (a 26), .ref (a 27), .ref (a 28), .ref (a 29), .ref (a 30), .int kf]) := ⟨_, rfl⟩
        refine x_put C (ci := 11) (k := 4) (ty := .int) 0 k96 rfl in_X12 tyX12 tyX12_ok nmX12 (by decide) w_1122 rfl rfl rfl rfl (Nat.le_of_ble_eq_true rfl) hw99.symm dX12_readsLines_69 rfl ?_
        have hW100 : WX (okM E a cd kf jn js jq) w98 := by rw [hw99]; exact hWl27.set (k := 0) rfl ⟨0, px, n0, v86, nz, v87, cq, wq, sq, lq, v88, v89, v90, v91, n92, n93, by omega, by omega, by omega, by omega, by omega, by omega, by omega, by omega, by omega, rfl⟩
        have k101 : w98[0]? = some (ob (a 0) 11 [.ref (a 1), .ref (a 2), .ref (a 3), .ref (a 4), .int 0, .int (nI px), .int (nI n0), .int v86, .int nz, .int v87, .int (nI cq), .int (nI wq), .int (nI sq), .int (nI (cd.2.2.2.2.2)), .ref (a 5), .ref (a 6), .ref (a 7), .ref (a 8), .ref (a 9), .ref (a 10), .ref (a 11), .ref (a 12), .ref (a 13), .ref (a 14), .ref (a 15), .ref (a 16), .ref (a 17), .int (nI lq), .ref (a 18), .ref (a 19), .ref (a 20), .ref (a 21), .int v88, .int v89, .int v90, .int v91, .int (nI n92), .int (nI n93), .ref (a 22), .ref (a 23), .ref (a 24), .ref (a 25), .ref (a 26), .ref (a 27), .ref (a 28), .ref (a 29), .ref (a 30), .int kf]) := by rw [hw99]; exact set_eq k96
        have k102 : w98[4]? = some (bA E (a 4) 260 f28) := by rw [hw99]; exact set_ne iv27_1 (by decide)
        have kp103 := keeps_set kq27 hw99 (by first | exact rfl | decide | omega | (dsimp only; omega))
        refine x_iload_n C dX12_readsLines_72 rfl 2 rfl rfl ?_
        exact x_zret C hr hlk (zb_nar iv27_3) dX12_readsLines_73 ⟨hW100, kp103, iv27_3⟩
      · skip
        refine x_aload_n C dX12_readsLines_31 rfl 0 rfl rfl ?_
        refine x_get C (ci := 11) (k := 5) 0 k96 rfl in_X12 (by decide) w_1123 rfl dX12_readsLines_32 rfl ?_
        refine x_aload_n C dX12_readsLines_35 rfl 0 rfl rfl ?_
        refine x_get C (ci := 11) (k := 6) 0 k96 rfl in_X12 (by decide) w_1124 rfl dX12_readsLines_36 rfl ?_
        refine x_icmp_ge C (tgt := 67) dX12_readsLines_39 (by decide) rfl (fun c104 => ?_) (fun c104 => ?_)
        · skip
          have nf105 := nI_le' (a := n0) (b := px) c104 (by omega) (by omega)
          refine x_aload_n C dX12_readsLines_67 rfl 0 rfl rfl ?_
          refine x_iconst C (v := 0) dX12_readsLines_68 (by decide) rfl ?_
          obtain ⟨w106, hw107⟩ : ∃ w : va_W, w = List.set wl27 0 (ob (a 0) 11 [.ref (a 1), .ref (a 2), .ref (a 3), .ref (a 4), .int 0, .int (nI px), .int (nI n0), .int v86, .int nz, .int v87, .int (nI cq), .int (nI wq), .int (nI sq), .int (nI (cd.2.2.2.2.2)), .ref (a 5), .ref (a 6), .ref (a 7), .ref (a 8), .ref (a 9), .ref (a 10), .ref (a 11), .ref (a 12), .ref (a 13), .ref (a 14), .ref (a 15), .ref (a 16), .ref (a 17), .int (nI lq), .ref (a 18), .ref (a 19), .ref (a 20), .ref (a 21), .int v88, .int v89, .int v90, .int v91, .int (nI n92), .int (nI n93), .ref (a 22), .ref (a 23), .ref (a 24), .ref (a 25), .ref (a 26), .ref (a 27), .ref (a 28), .ref (a 29), .ref (a 30), .int kf]) := ⟨_, rfl⟩
          refine x_put C (ci := 11) (k := 4) (ty := .int) 0 k96 rfl in_X12 tyX12 tyX12_ok nmX12 (by decide) w_1122 rfl rfl rfl rfl (Nat.le_of_ble_eq_true rfl) hw107.symm dX12_readsLines_69 rfl ?_
          have hW108 : WX (okM E a cd kf jn js jq) w106 := by rw [hw107]; exact hWl27.set (k := 0) rfl ⟨0, px, n0, v86, nz, v87, cq, wq, sq, lq, v88, v89, v90, v91, n92, n93, by omega, by omega, by omega, by omega, by omega, by omega, by omega, by omega, by omega, rfl⟩
          have k109 : w106[0]? = some (ob (a 0) 11 [.ref (a 1), .ref (a 2), .ref (a 3), .ref (a 4), .int 0, .int (nI px), .int (nI n0), .int v86, .int nz, .int v87, .int (nI cq), .int (nI wq), .int (nI sq), .int (nI (cd.2.2.2.2.2)), .ref (a 5), .ref (a 6), .ref (a 7), .ref (a 8), .ref (a 9), .ref (a 10), .ref (a 11), .ref (a 12), .ref (a 13), .ref (a 14), .ref (a 15), .ref (a 16), .ref (a 17), .int (nI lq), .ref (a 18), .ref (a 19), .ref (a 20), .ref (a 21), .int v88, .int v89, .int v90, .int v91, .int (nI n92), .int (nI n93), .ref (a 22), .ref (a 23), .ref (a 24), .ref (a 25), .ref (a 26), .ref (a 27), .ref (a 28), .ref (a 29), .ref (a 30), .int kf]) := by rw [hw107]; exact set_eq k96
          have k110 : w106[4]? = some (bA E (a 4) 260 f28) := by rw [hw107]; exact set_ne iv27_1 (by decide)
          have kp111 := keeps_set kq27 hw107 (by first | exact rfl | decide | omega | (dsimp only; omega))
          refine x_iload_n C dX12_readsLines_72 rfl 2 rfl rfl ?_
          exact x_zret C hr hlk (zb_nar iv27_3) dX12_readsLines_73 ⟨hW108, kp111, iv27_3⟩
        · skip
          have nf112 := nI_nle' (a := n0) (b := px) c104 (by omega) (by omega)
          refine x_aload_n C dX12_readsLines_42 rfl 0 rfl rfl ?_
          refine x_bipush C (v := 44) dX12_readsLines_43 (by decide) rfl ?_
          refine x_vi C (As := [.int 44]) (rest := []) (m_takes44 E l a cd hG kf jn js jq wl27 hWl27 tq px n0 cq wq sq lq nz ⟨v86, v87, v88, v89, v90, v91, n92, n93, ⟨by omega, by omega, by omega, by omega, by omega, by omega, by omega⟩, ⟨by omega, by omega⟩, k96⟩ f28 iv27_1) mf_X12_takes w_1391 0 k96 rfl rfl rfl (Nat.le_of_ble_eq_true rfl) ⟨(Nat.le_of_ble_eq_true rfl), (Nat.le_of_ble_eq_true rfl)⟩ ⟨(Nat.le_of_ble_eq_true rfl), (Nat.le_of_ble_eq_true rfl)⟩ dX12_readsLines_45 rfl (fun r114 w115 h113 => ?_)
          obtain ⟨hW116, kq117, zb118, x119⟩ := h113
          have k120 : w115[4]? = some (bA E (a 4) 260 f28) := keeps_at kq117 iv27_1 (by first | decide | omega | (dsimp only; omega))
          have kp121 := keeps_tr kq27 kq117 (fun q hq => by first | omega | (dsimp only at *; omega))
          rcases x119 with ⟨e122, mo123⟩ | ⟨e124, hp125, mo126⟩
          · refine x_top e122 ?_
            obtain ⟨v127, v128, v129, v130, v131, v132, n133, n134, bo135, bo136, k137⟩ := mo123
            refine x_if_eq C (tgt := 62) dX12_readsLines_48 (by decide) rfl (fun _ => ?_) (fun h => absurd h (by decide))
            refine x_iconst C (v := 0) dX12_readsLines_62 (by decide) rfl ?_
            refine x_istore_n C (lv' := [(2, .int 0), (0, .ref (a 0)), (1, .int (nI n0))]) dX12_readsLines_63 rfl (by decide) rfl rfl ?_
            refine x_goto C (tgt := 27) dX12_readsLines_64 (by decide) ?_
            refine x_iload_n C dX12_readsLines_27 rfl 0 rfl rfl ?_
            refine x_if_eq C (tgt := 67) dX12_readsLines_28 (by decide) rfl (fun _ => ?_) (fun h => absurd h (by decide))
            refine x_aload_n C dX12_readsLines_67 rfl 1 rfl rfl ?_
            refine x_iconst C (v := 0) dX12_readsLines_68 (by decide) rfl ?_
            obtain ⟨w138, hw139⟩ : ∃ w : va_W, w = List.set w115 0 (ob (a 0) 11 [.ref (a 1), .ref (a 2), .ref (a 3), .ref (a 4), .int 0, .int (nI px), .int (nI n0), .int v127, .int nz, .int v128, .int (nI cq), .int (nI wq), .int (nI sq), .int (nI (cd.2.2.2.2.2)), .ref (a 5), .ref (a 6), .ref (a 7), .ref (a 8), .ref (a 9), .ref (a 10), .ref (a 11), .ref (a 12), .ref (a 13), .ref (a 14), .ref (a 15), .ref (a 16), .ref (a 17), .int (nI lq), .ref (a 18), .ref (a 19), .ref (a 20), .ref (a 21), .int v129, .int v130, .int v131, .int v132, .int (nI n133), .int (nI n134), .ref (a 22), .ref (a 23), .ref (a 24), .ref (a 25), .ref (a 26), .ref (a 27), .ref (a 28), .ref (a 29), .ref (a 30), .int kf]) := ⟨_, rfl⟩
            refine x_put C (ci := 11) (k := 4) (ty := .int) 0 k137 rfl in_X12 tyX12 tyX12_ok nmX12 (by decide) w_1122 rfl rfl rfl rfl (Nat.le_of_ble_eq_true rfl) hw139.symm dX12_readsLines_69 rfl ?_
            have hW140 : WX (okM E a cd kf jn js jq) w138 := by rw [hw139]; exact hW116.set (k := 0) rfl ⟨0, px, n0, v127, nz, v128, cq, wq, sq, lq, v129, v130, v131, v132, n133, n134, by omega, by omega, by omega, by omega, by omega, by omega, by omega, by omega, by omega, rfl⟩
            have k141 : w138[4]? = some (bA E (a 4) 260 f28) := by rw [hw139]; exact set_ne k120 (by decide)
            have k142 : w138[0]? = some (ob (a 0) 11 [.ref (a 1), .ref (a 2), .ref (a 3), .ref (a 4), .int 0, .int (nI px), .int (nI n0), .int v127, .int nz, .int v128, .int (nI cq), .int (nI wq), .int (nI sq), .int (nI (cd.2.2.2.2.2)), .ref (a 5), .ref (a 6), .ref (a 7), .ref (a 8), .ref (a 9), .ref (a 10), .ref (a 11), .ref (a 12), .ref (a 13), .ref (a 14), .ref (a 15), .ref (a 16), .ref (a 17), .int (nI lq), .ref (a 18), .ref (a 19), .ref (a 20), .ref (a 21), .int v129, .int v130, .int v131, .int v132, .int (nI n133), .int (nI n134), .ref (a 22), .ref (a 23), .ref (a 24), .ref (a 25), .ref (a 26), .ref (a 27), .ref (a 28), .ref (a 29), .ref (a 30), .int kf]) := by rw [hw139]; exact set_eq k137
            have kp143 := keeps_set kp121 hw139 (by first | exact rfl | decide | omega | (dsimp only; omega))
            refine x_iload_n C dX12_readsLines_72 rfl 0 rfl rfl ?_
            exact x_zret C hr hlk rfl dX12_readsLines_73 ⟨hW140, kp143, (Or.inl rfl)⟩
          · refine x_top e124 ?_
            obtain ⟨v144, v145, v146, v147, v148, v149, n150, n151, bo152, bo153, k154⟩ := mo126
            refine x_if_eq C (tgt := 62) dX12_readsLines_48 (by decide) rfl (fun h => absurd h (by decide)) (fun _ => ?_)
            refine x_aload_n C dX12_readsLines_51 rfl 0 rfl rfl ?_
            refine x_vi C (As := []) (rest := []) (m_readsLine E l a cd hG kf jn js jq w115 hW116 tq (px + 1) n0 cq wq sq lq nz ⟨v144, v145, v146, v147, v148, v149, n150, n151, ⟨by omega, by omega, by omega, by omega, by omega, by omega, by omega⟩, ⟨by omega, by omega⟩, k154⟩ f28 k120 (by omega)) mf_X12_readsLine w_1403 0 k154 rfl rfl rfl (Nat.le_of_ble_eq_true rfl) ⟨(Nat.le_of_ble_eq_true rfl), (Nat.le_of_ble_eq_true rfl)⟩ ⟨(Nat.le_of_ble_eq_true rfl), (Nat.le_of_ble_eq_true rfl)⟩ dX12_readsLines_52 rfl (fun r156 w157 h155 => ?_)
            obtain ⟨hW158, kq159, zb160, x161⟩ := h155
            have k162 : w157[4]? = some (bA E (a 4) 260 f28) := keeps_at kq159 k120 (by first | decide | omega | (dsimp only; omega))
            have kp163 := keeps_tr kp121 kq159 (fun q hq => by first | omega | (dsimp only at *; omega))
            obtain ⟨pl164, lm165, nu166, hp167, hp168, hp169, mo170⟩ := x161
            obtain ⟨v171, v172, v173, v174, v175, v176, n177, n178, bo179, bo180, k181⟩ := mo170
            refine x_if_eq C (tgt := 62) dX12_readsLines_55 (by decide) rfl (fun c182 => ?_) (fun c182 => ?_)
            · skip
              refine x_iconst C (v := 0) dX12_readsLines_62 (by decide) rfl ?_
              refine x_istore_n C (lv' := [(2, .int 0), (0, .ref (a 0)), (1, .int (nI n0))]) dX12_readsLines_63 rfl (by decide) rfl rfl ?_
              refine x_goto C (tgt := 27) dX12_readsLines_64 (by decide) ?_
              refine x_iload_n C dX12_readsLines_27 rfl 0 rfl rfl ?_
              refine x_if_eq C (tgt := 67) dX12_readsLines_28 (by decide) rfl (fun _ => ?_) (fun h => absurd h (by decide))
              refine x_aload_n C dX12_readsLines_67 rfl 1 rfl rfl ?_
              refine x_iconst C (v := 0) dX12_readsLines_68 (by decide) rfl ?_
              obtain ⟨w183, hw184⟩ : ∃ w : va_W, w = List.set w157 0 (ob (a 0) 11 [.ref (a 1), .ref (a 2), .ref (a 3), .ref (a 4), .int 0, .int (nI pl164), .int (nI n0), .int v171, .int nu166, .int v172, .int (nI cq), .int (nI wq), .int (nI sq), .int (nI (cd.2.2.2.2.2)), .ref (a 5), .ref (a 6), .ref (a 7), .ref (a 8), .ref (a 9), .ref (a 10), .ref (a 11), .ref (a 12), .ref (a 13), .ref (a 14), .ref (a 15), .ref (a 16), .ref (a 17), .int (nI lm165), .ref (a 18), .ref (a 19), .ref (a 20), .ref (a 21), .int v173, .int v174, .int v175, .int v176, .int (nI n177), .int (nI n178), .ref (a 22), .ref (a 23), .ref (a 24), .ref (a 25), .ref (a 26), .ref (a 27), .ref (a 28), .ref (a 29), .ref (a 30), .int kf]) := ⟨_, rfl⟩
              refine x_put C (ci := 11) (k := 4) (ty := .int) 0 k181 rfl in_X12 tyX12 tyX12_ok nmX12 (by decide) w_1122 rfl rfl rfl rfl (Nat.le_of_ble_eq_true rfl) hw184.symm dX12_readsLines_69 rfl ?_
              have hW185 : WX (okM E a cd kf jn js jq) w183 := by rw [hw184]; exact hW158.set (k := 0) rfl ⟨0, pl164, n0, v171, nu166, v172, cq, wq, sq, lm165, v173, v174, v175, v176, n177, n178, by omega, by omega, by omega, by omega, by omega, by omega, by omega, by omega, by omega, rfl⟩
              have k186 : w183[4]? = some (bA E (a 4) 260 f28) := by rw [hw184]; exact set_ne k162 (by decide)
              have k187 : w183[0]? = some (ob (a 0) 11 [.ref (a 1), .ref (a 2), .ref (a 3), .ref (a 4), .int 0, .int (nI pl164), .int (nI n0), .int v171, .int nu166, .int v172, .int (nI cq), .int (nI wq), .int (nI sq), .int (nI (cd.2.2.2.2.2)), .ref (a 5), .ref (a 6), .ref (a 7), .ref (a 8), .ref (a 9), .ref (a 10), .ref (a 11), .ref (a 12), .ref (a 13), .ref (a 14), .ref (a 15), .ref (a 16), .ref (a 17), .int (nI lm165), .ref (a 18), .ref (a 19), .ref (a 20), .ref (a 21), .int v173, .int v174, .int v175, .int v176, .int (nI n177), .int (nI n178), .ref (a 22), .ref (a 23), .ref (a 24), .ref (a 25), .ref (a 26), .ref (a 27), .ref (a 28), .ref (a 29), .ref (a 30), .int kf]) := by rw [hw184]; exact set_eq k181
              have kp188 := keeps_set kp163 hw184 (by first | exact rfl | decide | omega | (dsimp only; omega))
              refine x_iload_n C dX12_readsLines_72 rfl 0 rfl rfl ?_
              exact x_zret C hr hlk rfl dX12_readsLines_73 ⟨hW185, kp188, (Or.inl rfl)⟩
            · skip
              refine x_iconst C (v := 1) dX12_readsLines_58 (by decide) rfl ?_
              refine x_goto C (tgt := 63) dX12_readsLines_59 (by decide) ?_
              refine x_istore_n C (lv' := [(2, .int 1), (0, .ref (a 0)), (1, .int (nI n0))]) dX12_readsLines_63 rfl (by decide) rfl rfl ?_
              refine x_goto C (tgt := 27) dX12_readsLines_64 (by decide) ?_
              refine x_lv (lv1 := [(0, .ref (a 0)), (1, .int (nI n0)), (2, .int 1)]) [1, 2, 0] rfl ?_
              exact ih27 (1 : Int32) tq pl164 cq wq sq lm165 nu166 w157 hW158 (by omega) ⟨v171, v172, v173, v174, v175, v176, n177, n178, ⟨by omega, by omega, by omega, by omega, by omega, by omega, by omega⟩, ⟨by omega, by omega⟩, k181⟩ k162 (by omega) (Or.inr rfl) kp163
  refine x_lv (lv1 := [(0, .ref (a 0)), (1, .int (nI n0)), (2, .int r60)]) [1, 2, 0] rfl ?_
  exact loop27 _ r60 n2 pl68 n11 n13 n15 lm69 nu70 w61 hW62 (Nat.lt_succ_self _) ⟨v75, v76, v77, v78, v79, v80, n81, n82, ⟨by omega, by omega, by omega, by omega, by omega, by omega, by omega⟩, ⟨by omega, by omega⟩, k85⟩ k66 (by omega) zb64 kp67
theorem dX12_canBe_0 : decode cX12_canBe 0 = .ok (.aload_n 0, 1) := by decide +kernel
theorem dX12_canBe_1 : decode cX12_canBe 1 = .ok (.getfield 68, 3) := by decide +kernel
theorem dX12_canBe_4 : decode cX12_canBe 4 = .ok (.iload_n 1, 1) := by decide +kernel
theorem dX12_canBe_5 : decode cX12_canBe 5 = .ok (.iaload, 1) := by decide +kernel
theorem dX12_canBe_6 : decode cX12_canBe 6 = .ok (.istore_n 2, 1) := by decide +kernel
theorem dX12_canBe_7 : decode cX12_canBe 7 = .ok (.aload_n 0, 1) := by decide +kernel
theorem dX12_canBe_8 : decode cX12_canBe 8 = .ok (.getfield 65, 3) := by decide +kernel
theorem dX12_canBe_11 : decode cX12_canBe 11 = .ok (.iload_n 1, 1) := by decide +kernel
theorem dX12_canBe_12 : decode cX12_canBe 12 = .ok (.iaload, 1) := by decide +kernel
theorem dX12_canBe_13 : decode cX12_canBe 13 = .ok (.bipush 62, 2) := by decide +kernel
theorem dX12_canBe_15 : decode cX12_canBe 15 = .ok (.if_icmp .ne 11, 3) := by decide +kernel
theorem dX12_canBe_18 : decode cX12_canBe 18 = .ok (.aload_n 0, 1) := by decide +kernel
theorem dX12_canBe_19 : decode cX12_canBe 19 = .ok (.iload_n 2, 1) := by decide +kernel
theorem dX12_canBe_20 : decode cX12_canBe 20 = .ok (.invokevirtual 113, 3) := by decide +kernel
theorem dX12_canBe_23 : decode cX12_canBe 23 = .ok (.ifCond .eq 30, 3) := by decide +kernel
theorem dX12_canBe_26 : decode cX12_canBe 26 = .ok (.aload_n 0, 1) := by decide +kernel
theorem dX12_canBe_27 : decode cX12_canBe 27 = .ok (.getfield 65, 3) := by decide +kernel
theorem dX12_canBe_30 : decode cX12_canBe 30 = .ok (.iload_n 1, 1) := by decide +kernel
theorem dX12_canBe_31 : decode cX12_canBe 31 = .ok (.iaload, 1) := by decide +kernel
theorem dX12_canBe_32 : decode cX12_canBe 32 = .ok (.bipush 33, 2) := by decide +kernel
theorem dX12_canBe_34 : decode cX12_canBe 34 = .ok (.if_icmp .ne 21, 3) := by decide +kernel
theorem dX12_canBe_37 : decode cX12_canBe 37 = .ok (.aload_n 0, 1) := by decide +kernel
theorem dX12_canBe_38 : decode cX12_canBe 38 = .ok (.iload_n 2, 1) := by decide +kernel
theorem dX12_canBe_39 : decode cX12_canBe 39 = .ok (.invokevirtual 262, 3) := by decide +kernel
theorem dX12_canBe_42 : decode cX12_canBe 42 = .ok (.ifCond .eq 11, 3) := by decide +kernel
theorem dX12_canBe_45 : decode cX12_canBe 45 = .ok (.aload_n 0, 1) := by decide +kernel
theorem dX12_canBe_46 : decode cX12_canBe 46 = .ok (.iload_n 2, 1) := by decide +kernel
theorem dX12_canBe_47 : decode cX12_canBe 47 = .ok (.invokevirtual 265, 3) := by decide +kernel
theorem dX12_canBe_50 : decode cX12_canBe 50 = .ok (.ifCond .eq 5, 3) := by decide +kernel
theorem dX12_canBe_53 : decode cX12_canBe 53 = .ok (.iconst 0, 1) := by decide +kernel
theorem dX12_canBe_54 : decode cX12_canBe 54 = .ok (.ireturn, 1) := by decide +kernel
theorem dX12_canBe_55 : decode cX12_canBe 55 = .ok (.aload_n 0, 1) := by decide +kernel
theorem dX12_canBe_56 : decode cX12_canBe 56 = .ok (.getfield 62, 3) := by decide +kernel
theorem dX12_canBe_59 : decode cX12_canBe 59 = .ok (.iload_n 1, 1) := by decide +kernel
theorem dX12_canBe_60 : decode cX12_canBe 60 = .ok (.iaload, 1) := by decide +kernel
theorem dX12_canBe_61 : decode cX12_canBe 61 = .ok (.istore_n 3, 1) := by decide +kernel
theorem dX12_canBe_62 : decode cX12_canBe 62 = .ok (.iload_n 3, 1) := by decide +kernel
theorem dX12_canBe_63 : decode cX12_canBe 63 = .ok (.aload_n 0, 1) := by decide +kernel
theorem dX12_canBe_64 : decode cX12_canBe 64 = .ok (.getfield 62, 3) := by decide +kernel
theorem dX12_canBe_67 : decode cX12_canBe 67 = .ok (.iload_n 1, 1) := by decide +kernel
theorem dX12_canBe_68 : decode cX12_canBe 68 = .ok (.iconst 1, 1) := by decide +kernel
theorem dX12_canBe_69 : decode cX12_canBe 69 = .ok (.iadd, 1) := by decide +kernel
theorem dX12_canBe_70 : decode cX12_canBe 70 = .ok (.iaload, 1) := by decide +kernel
theorem dX12_canBe_71 : decode cX12_canBe 71 = .ok (.if_icmp .ge 83, 3) := by decide +kernel
theorem dX12_canBe_74 : decode cX12_canBe 74 = .ok (.aload_n 0, 1) := by decide +kernel
theorem dX12_canBe_75 : decode cX12_canBe 75 = .ok (.getfield 71, 3) := by decide +kernel
theorem dX12_canBe_78 : decode cX12_canBe 78 = .ok (.iload_n 3, 1) := by decide +kernel
theorem dX12_canBe_79 : decode cX12_canBe 79 = .ok (.iaload, 1) := by decide +kernel
theorem dX12_canBe_80 : decode cX12_canBe 80 = .ok (.istore 4, 2) := by decide +kernel
theorem dX12_canBe_82 : decode cX12_canBe 82 = .ok (.aload_n 0, 1) := by decide +kernel
theorem dX12_canBe_83 : decode cX12_canBe 83 = .ok (.iload 4, 2) := by decide +kernel
theorem dX12_canBe_85 : decode cX12_canBe 85 = .ok (.invokevirtual 268, 3) := by decide +kernel
theorem dX12_canBe_88 : decode cX12_canBe 88 = .ok (.ifCond .ne 5, 3) := by decide +kernel
theorem dX12_canBe_91 : decode cX12_canBe 91 = .ok (.iconst 0, 1) := by decide +kernel
theorem dX12_canBe_92 : decode cX12_canBe 92 = .ok (.ireturn, 1) := by decide +kernel
theorem dX12_canBe_93 : decode cX12_canBe 93 = .ok (.aload_n 0, 1) := by decide +kernel
theorem dX12_canBe_94 : decode cX12_canBe 94 = .ok (.getfield 65, 3) := by decide +kernel
theorem dX12_canBe_97 : decode cX12_canBe 97 = .ok (.iload_n 1, 1) := by decide +kernel
theorem dX12_canBe_98 : decode cX12_canBe 98 = .ok (.iaload, 1) := by decide +kernel
theorem dX12_canBe_99 : decode cX12_canBe 99 = .ok (.bipush 62, 2) := by decide +kernel
theorem dX12_canBe_101 : decode cX12_canBe 101 = .ok (.if_icmp .ne 18, 3) := by decide +kernel
theorem dX12_canBe_104 : decode cX12_canBe 104 = .ok (.aload_n 0, 1) := by decide +kernel
theorem dX12_canBe_105 : decode cX12_canBe 105 = .ok (.getfield 7, 3) := by decide +kernel
theorem dX12_canBe_108 : decode cX12_canBe 108 = .ok (.sipush 144, 3) := by decide +kernel
theorem dX12_canBe_111 : decode cX12_canBe 111 = .ok (.iload 4, 2) := by decide +kernel
theorem dX12_canBe_113 : decode cX12_canBe 113 = .ok (.iadd, 1) := by decide +kernel
theorem dX12_canBe_114 : decode cX12_canBe 114 = .ok (.iaload, 1) := by decide +kernel
theorem dX12_canBe_115 : decode cX12_canBe 115 = .ok (.iload_n 2, 1) := by decide +kernel
theorem dX12_canBe_116 : decode cX12_canBe 116 = .ok (.if_icmp .eq 30, 3) := by decide +kernel
theorem dX12_canBe_119 : decode cX12_canBe 119 = .ok (.aload_n 0, 1) := by decide +kernel
theorem dX12_canBe_120 : decode cX12_canBe 120 = .ok (.getfield 65, 3) := by decide +kernel
theorem dX12_canBe_123 : decode cX12_canBe 123 = .ok (.iload_n 1, 1) := by decide +kernel
theorem dX12_canBe_124 : decode cX12_canBe 124 = .ok (.iaload, 1) := by decide +kernel
theorem dX12_canBe_125 : decode cX12_canBe 125 = .ok (.bipush 42, 2) := by decide +kernel
theorem dX12_canBe_127 : decode cX12_canBe 127 = .ok (.if_icmp .ne 21, 3) := by decide +kernel
theorem dX12_canBe_130 : decode cX12_canBe 130 = .ok (.aload_n 0, 1) := by decide +kernel
theorem dX12_canBe_131 : decode cX12_canBe 131 = .ok (.getfield 7, 3) := by decide +kernel
theorem dX12_canBe_134 : decode cX12_canBe 134 = .ok (.sipush 192, 3) := by decide +kernel
theorem dX12_canBe_137 : decode cX12_canBe 137 = .ok (.iload 4, 2) := by decide +kernel
theorem dX12_canBe_139 : decode cX12_canBe 139 = .ok (.iadd, 1) := by decide +kernel
theorem dX12_canBe_140 : decode cX12_canBe 140 = .ok (.iaload, 1) := by decide +kernel
theorem dX12_canBe_141 : decode cX12_canBe 141 = .ok (.bipush 9, 2) := by decide +kernel
theorem dX12_canBe_143 : decode cX12_canBe 143 = .ok (.if_icmp .ne 5, 3) := by decide +kernel
theorem dX12_canBe_146 : decode cX12_canBe 146 = .ok (.iconst 0, 1) := by decide +kernel
theorem dX12_canBe_147 : decode cX12_canBe 147 = .ok (.ireturn, 1) := by decide +kernel
theorem dX12_canBe_148 : decode cX12_canBe 148 = .ok (.iinc 3 1, 3) := by decide +kernel
theorem dX12_canBe_151 : decode cX12_canBe 151 = .ok (.goto (-89), 3) := by decide +kernel
theorem dX12_canBe_154 : decode cX12_canBe 154 = .ok (.iconst 1, 1) := by decide +kernel
theorem dX12_canBe_155 : decode cX12_canBe 155 = .ok (.ireturn, 1) := by decide +kernel
set_option maxRecDepth 20000 in
set_option maxHeartbeats 4000000 in
theorem m_canBe (E : xE) (l : Launch) (a : Nat → Nat) (cd : Cd) (hG : Good cd) (kf : Int32) (jn js jq : Lb) (ws : va_W) (hW : WX (okM E a cd kf jn js jq) ws) (l0 : Nat) (hl0 : l0 ≤ 23) : xI E l yX12_canBe cX12_canBe 5 (some .boolean) 2 [.ref (a 0), .int (nI l0)] ws (fun r w => w = ws ∧ zb r) := by
  refine xI_start (lv := [(0, .ref (a 0)), (1, .int (nI l0))]) RX12 (by decide) rfl (Nat.le_of_ble_eq_true rfl) rfl (fun p e s m below meth c A C hr hlk => ?_)
  refine x_aload_n C dX12_canBe_0 rfl 0 rfl rfl ?_
  obtain ⟨_, k1, n2, n4, n6, v8, v9, v10, n11, n13, n15, n17, v19, v20, v21, v22, n23, n25, bn3, bn5, bn7, bn12, bn14, bn16, bn18, bn24, bn26, rfl⟩ := hW 0 _ rfl
  refine x_get C (ci := 11) (k := 30) 0 k1 rfl in_X12 (by decide) w_1148 rfl dX12_canBe_1 rfl ?_
  refine x_iload_n C dX12_canBe_4 rfl 1 rfl rfl ?_
  obtain ⟨_, k27, g28, gb29, rfl⟩ := hW 20 _ rfl
  refine x_ialk C (v := nI (g28 l0)) l0 (nI_clamp (by omega)) (nI_pos (by omega)) (by omega) 20 k27 rfl dX12_canBe_5 rfl ?_
  have bx30 := gb29 l0
  refine x_istore_n C (lv' := [(2, .int (nI (g28 l0))), (0, .ref (a 0)), (1, .int (nI l0))]) dX12_canBe_6 rfl (by decide) rfl rfl ?_
  refine x_aload_n C dX12_canBe_7 rfl 1 rfl rfl ?_
  refine x_get C (ci := 11) (k := 29) 0 k1 rfl in_X12 (by decide) w_1147 rfl dX12_canBe_8 rfl ?_
  refine x_iload_n C dX12_canBe_11 rfl 2 rfl rfl ?_
  obtain ⟨_, k31, f32, rfl⟩ := hW 19 _ rfl
  refine x_iald C (v := (f32 (nI l0).toNatClampNeg)) 19 k31 (vp_in_nI (by omega) (by decide)) rfl dX12_canBe_12 rfl ?_
  refine x_any (fun v33 => ?_)
  refine x_bipush C (v := 62) dX12_canBe_13 (by decide) rfl ?_
  refine x_icmp_ne C (tgt := 26) dX12_canBe_15 (by decide) rfl (fun c34 => ?_) (fun c34 => ?_)
  · skip
    refine x_aload_n C dX12_canBe_26 rfl 1 rfl rfl ?_
    refine x_get C (ci := 11) (k := 29) 0 k1 rfl in_X12 (by decide) w_1147 rfl dX12_canBe_27 rfl ?_
    refine x_iload_n C dX12_canBe_30 rfl 2 rfl rfl ?_
    refine x_iald C (v := (f32 (nI l0).toNatClampNeg)) 19 k31 (vp_in_nI (by omega) (by decide)) rfl dX12_canBe_31 rfl ?_
    refine x_any (fun v35 => ?_)
    refine x_bipush C (v := 33) dX12_canBe_32 (by decide) rfl ?_
    refine x_icmp_ne C (tgt := 55) dX12_canBe_34 (by decide) rfl (fun c36 => ?_) (fun c36 => ?_)
    · skip
      refine x_aload_n C dX12_canBe_55 rfl 1 rfl rfl ?_
      refine x_get C (ci := 11) (k := 28) 0 k1 rfl in_X12 (by decide) w_1146 rfl dX12_canBe_56 rfl ?_
      refine x_iload_n C dX12_canBe_59 rfl 2 rfl rfl ?_
      obtain ⟨_, k37, g38, gb39, rfl⟩ := hW 18 _ rfl
      refine x_ialk C (v := nI (g38 l0)) l0 (nI_clamp (by omega)) (nI_pos (by omega)) (by omega) 18 k37 rfl dX12_canBe_60 rfl ?_
      have bx40 := gb39 l0
      refine x_istore_n C (lv' := [(3, .int (nI (g38 l0))), (2, .int (nI (g28 l0))), (0, .ref (a 0)), (1, .int (nI l0))]) dX12_canBe_61 rfl (by decide) rfl rfl ?_
      have loop62 : ∀ (fu62 : Nat) (k : Nat), True → 192 - k < fu62 → k ≤ 192 → X E p l e (xRm 2 0 0) s m ([.ref (a 0), .int (nI l0)] : List Value).toArray below meth c A 5 0 0 (MQ below (va_Qi (fun r w => w = ws ∧ zb r) (xB E A) A) ([.ref (a 0), .int (nI l0)] : List Value).toArray s 0 0 A) ws 62 [(0, .ref (a 0)), (1, .int (nI l0)), (2, .int (nI (g28 l0))), (3, .int (nI k))] [] := by
        intro fu62
        induction fu62 with
        | zero => intro k _ q; omega
        | succ fu62 ih62 =>
          intro k _ me62 iv62_0
          refine x_iload_n C dX12_canBe_62 rfl 3 rfl rfl ?_
          refine x_aload_n C dX12_canBe_63 rfl 0 rfl rfl ?_
          refine x_get C (ci := 11) (k := 28) 0 k1 rfl in_X12 (by decide) w_1146 rfl dX12_canBe_64 rfl ?_
          refine x_iload_n C dX12_canBe_67 rfl 1 rfl rfl ?_
          refine x_iconst C (v := 1) dX12_canBe_68 (by decide) rfl ?_
          refine x_iadd C (v := (nI (l0 + 1))) dX12_canBe_69 (nI_add l0 1) rfl ?_
          refine x_ialk C (v := nI (g38 (l0 + 1))) (l0 + 1) (nI_clamp (by omega)) (nI_pos (by omega)) (by omega) 18 k37 rfl dX12_canBe_70 rfl ?_
          have bx41 := gb39 (l0 + 1)
          refine x_icmp_ge C (tgt := 154) dX12_canBe_71 (by decide) rfl (fun c42 => ?_) (fun c42 => ?_)
          · skip
            have nf43 := nI_le' (a := (g38 (l0 + 1))) (b := k) c42 (by omega) (by omega)
            refine x_iconst C (v := 1) dX12_canBe_154 (by decide) rfl ?_
            exact x_zret C hr hlk rfl dX12_canBe_155 ⟨rfl, (Or.inr rfl)⟩
          · skip
            have nf44 := nI_nle' (a := (g38 (l0 + 1))) (b := k) c42 (by omega) (by omega)
            refine x_aload_n C dX12_canBe_74 rfl 0 rfl rfl ?_
            refine x_get C (ci := 11) (k := 31) 0 k1 rfl in_X12 (by decide) w_1149 rfl dX12_canBe_75 rfl ?_
            refine x_iload_n C dX12_canBe_78 rfl 3 rfl rfl ?_
            obtain ⟨_, k45, g46, gb47, rfl⟩ := hW 21 _ rfl
            refine x_ialk C (v := nI (g46 k)) k (nI_clamp (by omega)) (nI_pos (by omega)) (by omega) 21 k45 rfl dX12_canBe_79 rfl ?_
            have bx48 := gb47 k
            refine x_istore C (lv' := [(4, .int (nI (g46 k))), (0, .ref (a 0)), (1, .int (nI l0)), (2, .int (nI (g28 l0))), (3, .int (nI k))]) dX12_canBe_80 (by decide) rfl rfl ?_
            refine x_aload_n C dX12_canBe_82 rfl 1 rfl rfl ?_
            refine x_iload C dX12_canBe_83 0 rfl rfl ?_
            refine x_vi C (As := [.int (nI (g46 k))]) (rest := []) (m_isWhole E l a cd hG kf jn js jq ws hW ((nI (g46 k)))) mf_X12_isWhole w_1435 0 k1 rfl rfl rfl (Nat.le_of_ble_eq_true rfl) ⟨(Nat.le_of_ble_eq_true rfl), (Nat.le_of_ble_eq_true rfl)⟩ ⟨(Nat.le_of_ble_eq_true rfl), (Nat.le_of_ble_eq_true rfl)⟩ dX12_canBe_85 rfl (fun r50 w51 h49 => ?_)
            obtain ⟨hW52, zb53, x54⟩ := h49
            refine x_ws hW52 ?_
            refine x_if_ne C (tgt := 93) dX12_canBe_88 (by decide) rfl (fun c55 => ?_) (fun c55 => ?_)
            · skip
              have wi56 := wth_le (a := 0) (b := 47) (j := (g46 k)) (x54 c55) (by omega) (by decide) (by decide)
              refine x_aload_n C dX12_canBe_93 rfl 1 rfl rfl ?_
              refine x_get C (ci := 11) (k := 29) 0 k1 rfl in_X12 (by decide) w_1147 rfl dX12_canBe_94 rfl ?_
              refine x_iload_n C dX12_canBe_97 rfl 2 rfl rfl ?_
              refine x_iald C (v := (f32 (nI l0).toNatClampNeg)) 19 k31 (vp_in_nI (by omega) (by decide)) rfl dX12_canBe_98 rfl ?_
              refine x_any (fun v57 => ?_)
              refine x_bipush C (v := 62) dX12_canBe_99 (by decide) rfl ?_
              refine x_icmp_ne C (tgt := 119) dX12_canBe_101 (by decide) rfl (fun c58 => ?_) (fun c58 => ?_)
              · skip
                refine x_aload_n C dX12_canBe_119 rfl 1 rfl rfl ?_
                refine x_get C (ci := 11) (k := 29) 0 k1 rfl in_X12 (by decide) w_1147 rfl dX12_canBe_120 rfl ?_
                refine x_iload_n C dX12_canBe_123 rfl 2 rfl rfl ?_
                refine x_iald C (v := (f32 (nI l0).toNatClampNeg)) 19 k31 (vp_in_nI (by omega) (by decide)) rfl dX12_canBe_124 rfl ?_
                refine x_any (fun v59 => ?_)
                refine x_bipush C (v := 42) dX12_canBe_125 (by decide) rfl ?_
                refine x_icmp_ne C (tgt := 148) dX12_canBe_127 (by decide) rfl (fun c60 => ?_) (fun c60 => ?_)
                · skip
                  refine x_iinc C (v := (nI (k + 1))) (lv' := [(3, .int (nI (k + 1))), (4, .int (nI (g46 k))), (0, .ref (a 0)), (1, .int (nI l0)), (2, .int (nI (g28 l0)))]) dX12_canBe_148 4 rfl (nI_add k 1) (by decide) rfl rfl ?_
                  refine x_goto C (tgt := 62) dX12_canBe_151 (by decide) ?_
                  refine x_lv (lv1 := [(0, .ref (a 0)), (1, .int (nI l0)), (2, .int (nI (g28 l0))), (3, .int (nI (k + 1)))]) [2, 3, 4, 0] rfl ?_
                  exact ih62 (k + 1) trivial (by omega) (by omega)
                · skip
                  refine x_aload_n C dX12_canBe_130 rfl 1 rfl rfl ?_
                  refine x_get C (ci := 11) (k := 0) 0 k1 rfl in_X12 (by decide) w_1118 rfl dX12_canBe_131 rfl ?_
                  refine x_sipush C (v := 192) dX12_canBe_134 (by decide) rfl ?_
                  refine x_iload C dX12_canBe_137 0 rfl rfl ?_
                  refine x_iadd C (v := (nI (192 + (g46 k)))) dX12_canBe_139 (nI_add 192 (g46 k)) rfl ?_
                  obtain ⟨_, k61, f62, pf63, rfl⟩ := hW 1 _ rfl
                  refine x_iald C (v := (f62 (nI (192 + (g46 k))).toNatClampNeg)) 1 k61 (vp_in_nI (by omega) (by decide)) rfl dX12_canBe_140 rfl ?_
                  refine x_any (fun v64 => ?_)
                  refine x_bipush C (v := 9) dX12_canBe_141 (by decide) rfl ?_
                  refine x_icmp_ne C (tgt := 148) dX12_canBe_143 (by decide) rfl (fun c65 => ?_) (fun c65 => ?_)
                  · skip
                    refine x_iinc C (v := (nI (k + 1))) (lv' := [(3, .int (nI (k + 1))), (4, .int (nI (g46 k))), (0, .ref (a 0)), (1, .int (nI l0)), (2, .int (nI (g28 l0)))]) dX12_canBe_148 4 rfl (nI_add k 1) (by decide) rfl rfl ?_
                    refine x_goto C (tgt := 62) dX12_canBe_151 (by decide) ?_
                    refine x_lv (lv1 := [(0, .ref (a 0)), (1, .int (nI l0)), (2, .int (nI (g28 l0))), (3, .int (nI (k + 1)))]) [2, 3, 4, 0] rfl ?_
                    exact ih62 (k + 1) trivial (by omega) (by omega)
                  · skip
                    refine x_iconst C (v := 0) dX12_canBe_146 (by decide) rfl ?_
                    exact x_zret C hr hlk rfl dX12_canBe_147 ⟨rfl, (Or.inl rfl)⟩
              · skip
                refine x_aload_n C dX12_canBe_104 rfl 1 rfl rfl ?_
                refine x_get C (ci := 11) (k := 0) 0 k1 rfl in_X12 (by decide) w_1118 rfl dX12_canBe_105 rfl ?_
                refine x_sipush C (v := 144) dX12_canBe_108 (by decide) rfl ?_
                refine x_iload C dX12_canBe_111 0 rfl rfl ?_
                refine x_iadd C (v := (nI (144 + (g46 k)))) dX12_canBe_113 (nI_add 144 (g46 k)) rfl ?_
                obtain ⟨_, k66, f67, pf68, rfl⟩ := hW 1 _ rfl
                obtain ⟨n69, hn70, en71⟩ := NB_own (j := (g46 k)) pf68 (by omega)
                refine x_ialk C (v := nI n69) (144 + (g46 k)) (nI_clamp (by omega)) (nI_pos (by omega)) (by omega) 1 k66 en71 dX12_canBe_114 rfl ?_
                refine x_iload_n C dX12_canBe_115 rfl 3 rfl rfl ?_
                refine x_icmp_eq C (tgt := 146) dX12_canBe_116 (by decide) rfl (fun c72 => ?_) (fun c72 => ?_)
                · skip
                  have nf73 : n69 = g28 l0 := (nI_eq (by omega) (by omega)).mp c72
                  refine x_iconst C (v := 0) dX12_canBe_146 (by decide) rfl ?_
                  exact x_zret C hr hlk rfl dX12_canBe_147 ⟨rfl, (Or.inl rfl)⟩
                · skip
                  have nf74 : ¬ n69 = g28 l0 := fun q => c72 (congrArg nI q)
                  refine x_aload_n C dX12_canBe_119 rfl 1 rfl rfl ?_
                  refine x_get C (ci := 11) (k := 29) 0 k1 rfl in_X12 (by decide) w_1147 rfl dX12_canBe_120 rfl ?_
                  refine x_iload_n C dX12_canBe_123 rfl 2 rfl rfl ?_
                  refine x_iald C (v := (f32 (nI l0).toNatClampNeg)) 19 k31 (vp_in_nI (by omega) (by decide)) rfl dX12_canBe_124 rfl ?_
                  refine x_any (fun v75 => ?_)
                  refine x_bipush C (v := 42) dX12_canBe_125 (by decide) rfl ?_
                  refine x_icmp_ne C (tgt := 148) dX12_canBe_127 (by decide) rfl (fun c76 => ?_) (fun c76 => ?_)
                  · skip
                    refine x_iinc C (v := (nI (k + 1))) (lv' := [(3, .int (nI (k + 1))), (4, .int (nI (g46 k))), (0, .ref (a 0)), (1, .int (nI l0)), (2, .int (nI (g28 l0)))]) dX12_canBe_148 4 rfl (nI_add k 1) (by decide) rfl rfl ?_
                    refine x_goto C (tgt := 62) dX12_canBe_151 (by decide) ?_
                    refine x_lv (lv1 := [(0, .ref (a 0)), (1, .int (nI l0)), (2, .int (nI (g28 l0))), (3, .int (nI (k + 1)))]) [2, 3, 4, 0] rfl ?_
                    exact ih62 (k + 1) trivial (by omega) (by omega)
                  · skip
                    refine x_aload_n C dX12_canBe_130 rfl 1 rfl rfl ?_
                    refine x_get C (ci := 11) (k := 0) 0 k1 rfl in_X12 (by decide) w_1118 rfl dX12_canBe_131 rfl ?_
                    refine x_sipush C (v := 192) dX12_canBe_134 (by decide) rfl ?_
                    refine x_iload C dX12_canBe_137 0 rfl rfl ?_
                    refine x_iadd C (v := (nI (192 + (g46 k)))) dX12_canBe_139 (nI_add 192 (g46 k)) rfl ?_
                    refine x_iald C (v := (f67 (nI (192 + (g46 k))).toNatClampNeg)) 1 k66 (vp_in_nI (by omega) (by decide)) rfl dX12_canBe_140 rfl ?_
                    refine x_any (fun v77 => ?_)
                    refine x_bipush C (v := 9) dX12_canBe_141 (by decide) rfl ?_
                    refine x_icmp_ne C (tgt := 148) dX12_canBe_143 (by decide) rfl (fun c78 => ?_) (fun c78 => ?_)
                    · skip
                      refine x_iinc C (v := (nI (k + 1))) (lv' := [(3, .int (nI (k + 1))), (4, .int (nI (g46 k))), (0, .ref (a 0)), (1, .int (nI l0)), (2, .int (nI (g28 l0)))]) dX12_canBe_148 4 rfl (nI_add k 1) (by decide) rfl rfl ?_
                      refine x_goto C (tgt := 62) dX12_canBe_151 (by decide) ?_
                      refine x_lv (lv1 := [(0, .ref (a 0)), (1, .int (nI l0)), (2, .int (nI (g28 l0))), (3, .int (nI (k + 1)))]) [2, 3, 4, 0] rfl ?_
                      exact ih62 (k + 1) trivial (by omega) (by omega)
                    · skip
                      refine x_iconst C (v := 0) dX12_canBe_146 (by decide) rfl ?_
                      exact x_zret C hr hlk rfl dX12_canBe_147 ⟨rfl, (Or.inl rfl)⟩
            · skip
              refine x_iconst C (v := 0) dX12_canBe_91 (by decide) rfl ?_
              exact x_zret C hr hlk rfl dX12_canBe_92 ⟨rfl, (Or.inl rfl)⟩
      refine x_lv (lv1 := [(0, .ref (a 0)), (1, .int (nI l0)), (2, .int (nI (g28 l0))), (3, .int (nI (g38 l0)))]) [2, 3, 1, 0] rfl ?_
      exact loop62 _ (g38 l0) trivial (Nat.lt_succ_self _) (by omega)
    · skip
      refine x_aload_n C dX12_canBe_37 rfl 1 rfl rfl ?_
      refine x_iload_n C dX12_canBe_38 rfl 0 rfl rfl ?_
      refine x_vi C (As := [.int (nI (g28 l0))]) (rest := []) (m_isWork E l a cd hG kf jn js jq ws hW ((nI (g28 l0)))) mf_X12_isWork w_1427 0 k1 rfl rfl rfl (Nat.le_of_ble_eq_true rfl) ⟨(Nat.le_of_ble_eq_true rfl), (Nat.le_of_ble_eq_true rfl)⟩ ⟨(Nat.le_of_ble_eq_true rfl), (Nat.le_of_ble_eq_true rfl)⟩ dX12_canBe_39 rfl (fun r80 w81 h79 => ?_)
      obtain ⟨hW82, zb83, x84⟩ := h79
      refine x_ws hW82 ?_
      refine x_if_eq C (tgt := 53) dX12_canBe_42 (by decide) rfl (fun c85 => ?_) (fun c85 => ?_)
      · skip
        refine x_iconst C (v := 0) dX12_canBe_53 (by decide) rfl ?_
        exact x_zret C hr hlk rfl dX12_canBe_54 ⟨rfl, (Or.inl rfl)⟩
      · skip
        have wi86 := wth_le (a := 0) (b := 7) (j := (g28 l0)) (x84 c85) (by omega) (by decide) (by decide)
        refine x_aload_n C dX12_canBe_45 rfl 1 rfl rfl ?_
        refine x_iload_n C dX12_canBe_46 rfl 0 rfl rfl ?_
        refine x_vi C (As := [.int (nI (g28 l0))]) (rest := []) (m_isDone E l a cd hG kf jn js jq ws hW (g28 l0) (by omega)) mf_X12_isDone w_1431 0 k1 rfl rfl rfl (Nat.le_of_ble_eq_true rfl) ⟨(Nat.le_of_ble_eq_true rfl), (Nat.le_of_ble_eq_true rfl)⟩ ⟨(Nat.le_of_ble_eq_true rfl), (Nat.le_of_ble_eq_true rfl)⟩ dX12_canBe_47 rfl (fun r88 w89 h87 => ?_)
        obtain ⟨hW90, zb91⟩ := h87
        refine x_ws hW90 ?_
        refine x_if_eq C (tgt := 55) dX12_canBe_50 (by decide) rfl (fun c92 => ?_) (fun c92 => ?_)
        · skip
          refine x_aload_n C dX12_canBe_55 rfl 1 rfl rfl ?_
          refine x_get C (ci := 11) (k := 28) 0 k1 rfl in_X12 (by decide) w_1146 rfl dX12_canBe_56 rfl ?_
          refine x_iload_n C dX12_canBe_59 rfl 2 rfl rfl ?_
          obtain ⟨_, k93, g94, gb95, rfl⟩ := hW 18 _ rfl
          refine x_ialk C (v := nI (g94 l0)) l0 (nI_clamp (by omega)) (nI_pos (by omega)) (by omega) 18 k93 rfl dX12_canBe_60 rfl ?_
          have bx96 := gb95 l0
          refine x_istore_n C (lv' := [(3, .int (nI (g94 l0))), (2, .int (nI (g28 l0))), (0, .ref (a 0)), (1, .int (nI l0))]) dX12_canBe_61 rfl (by decide) rfl rfl ?_
          have loop62 : ∀ (fu62 : Nat) (k : Nat), True → 192 - k < fu62 → k ≤ 192 → X E p l e (xRm 2 0 0) s m ([.ref (a 0), .int (nI l0)] : List Value).toArray below meth c A 5 0 0 (MQ below (va_Qi (fun r w => w = ws ∧ zb r) (xB E A) A) ([.ref (a 0), .int (nI l0)] : List Value).toArray s 0 0 A) ws 62 [(0, .ref (a 0)), (1, .int (nI l0)), (2, .int (nI (g28 l0))), (3, .int (nI k))] [] := by
            intro fu62
            induction fu62 with
            | zero => intro k _ q; omega
            | succ fu62 ih62 =>
              intro k _ me62 iv62_0
              refine x_iload_n C dX12_canBe_62 rfl 3 rfl rfl ?_
              refine x_aload_n C dX12_canBe_63 rfl 0 rfl rfl ?_
              refine x_get C (ci := 11) (k := 28) 0 k1 rfl in_X12 (by decide) w_1146 rfl dX12_canBe_64 rfl ?_
              refine x_iload_n C dX12_canBe_67 rfl 1 rfl rfl ?_
              refine x_iconst C (v := 1) dX12_canBe_68 (by decide) rfl ?_
              refine x_iadd C (v := (nI (l0 + 1))) dX12_canBe_69 (nI_add l0 1) rfl ?_
              refine x_ialk C (v := nI (g94 (l0 + 1))) (l0 + 1) (nI_clamp (by omega)) (nI_pos (by omega)) (by omega) 18 k93 rfl dX12_canBe_70 rfl ?_
              have bx97 := gb95 (l0 + 1)
              refine x_icmp_ge C (tgt := 154) dX12_canBe_71 (by decide) rfl (fun c98 => ?_) (fun c98 => ?_)
              · skip
                have nf99 := nI_le' (a := (g94 (l0 + 1))) (b := k) c98 (by omega) (by omega)
                refine x_iconst C (v := 1) dX12_canBe_154 (by decide) rfl ?_
                exact x_zret C hr hlk rfl dX12_canBe_155 ⟨rfl, (Or.inr rfl)⟩
              · skip
                have nf100 := nI_nle' (a := (g94 (l0 + 1))) (b := k) c98 (by omega) (by omega)
                refine x_aload_n C dX12_canBe_74 rfl 0 rfl rfl ?_
                refine x_get C (ci := 11) (k := 31) 0 k1 rfl in_X12 (by decide) w_1149 rfl dX12_canBe_75 rfl ?_
                refine x_iload_n C dX12_canBe_78 rfl 3 rfl rfl ?_
                obtain ⟨_, k101, g102, gb103, rfl⟩ := hW 21 _ rfl
                refine x_ialk C (v := nI (g102 k)) k (nI_clamp (by omega)) (nI_pos (by omega)) (by omega) 21 k101 rfl dX12_canBe_79 rfl ?_
                have bx104 := gb103 k
                refine x_istore C (lv' := [(4, .int (nI (g102 k))), (0, .ref (a 0)), (1, .int (nI l0)), (2, .int (nI (g28 l0))), (3, .int (nI k))]) dX12_canBe_80 (by decide) rfl rfl ?_
                refine x_aload_n C dX12_canBe_82 rfl 1 rfl rfl ?_
                refine x_iload C dX12_canBe_83 0 rfl rfl ?_
                refine x_vi C (As := [.int (nI (g102 k))]) (rest := []) (m_isWhole E l a cd hG kf jn js jq ws hW ((nI (g102 k)))) mf_X12_isWhole w_1435 0 k1 rfl rfl rfl (Nat.le_of_ble_eq_true rfl) ⟨(Nat.le_of_ble_eq_true rfl), (Nat.le_of_ble_eq_true rfl)⟩ ⟨(Nat.le_of_ble_eq_true rfl), (Nat.le_of_ble_eq_true rfl)⟩ dX12_canBe_85 rfl (fun r106 w107 h105 => ?_)
                obtain ⟨hW108, zb109, x110⟩ := h105
                refine x_ws hW108 ?_
                refine x_if_ne C (tgt := 93) dX12_canBe_88 (by decide) rfl (fun c111 => ?_) (fun c111 => ?_)
                · skip
                  have wi112 := wth_le (a := 0) (b := 47) (j := (g102 k)) (x110 c111) (by omega) (by decide) (by decide)
                  refine x_aload_n C dX12_canBe_93 rfl 1 rfl rfl ?_
                  refine x_get C (ci := 11) (k := 29) 0 k1 rfl in_X12 (by decide) w_1147 rfl dX12_canBe_94 rfl ?_
                  refine x_iload_n C dX12_canBe_97 rfl 2 rfl rfl ?_
                  refine x_iald C (v := (f32 (nI l0).toNatClampNeg)) 19 k31 (vp_in_nI (by omega) (by decide)) rfl dX12_canBe_98 rfl ?_
                  refine x_any (fun v113 => ?_)
                  refine x_bipush C (v := 62) dX12_canBe_99 (by decide) rfl ?_
                  refine x_icmp_ne C (tgt := 119) dX12_canBe_101 (by decide) rfl (fun c114 => ?_) (fun c114 => ?_)
                  · skip
                    refine x_aload_n C dX12_canBe_119 rfl 1 rfl rfl ?_
                    refine x_get C (ci := 11) (k := 29) 0 k1 rfl in_X12 (by decide) w_1147 rfl dX12_canBe_120 rfl ?_
                    refine x_iload_n C dX12_canBe_123 rfl 2 rfl rfl ?_
                    refine x_iald C (v := (f32 (nI l0).toNatClampNeg)) 19 k31 (vp_in_nI (by omega) (by decide)) rfl dX12_canBe_124 rfl ?_
                    refine x_any (fun v115 => ?_)
                    refine x_bipush C (v := 42) dX12_canBe_125 (by decide) rfl ?_
                    refine x_icmp_ne C (tgt := 148) dX12_canBe_127 (by decide) rfl (fun c116 => ?_) (fun c116 => ?_)
                    · skip
                      refine x_iinc C (v := (nI (k + 1))) (lv' := [(3, .int (nI (k + 1))), (4, .int (nI (g102 k))), (0, .ref (a 0)), (1, .int (nI l0)), (2, .int (nI (g28 l0)))]) dX12_canBe_148 4 rfl (nI_add k 1) (by decide) rfl rfl ?_
                      refine x_goto C (tgt := 62) dX12_canBe_151 (by decide) ?_
                      refine x_lv (lv1 := [(0, .ref (a 0)), (1, .int (nI l0)), (2, .int (nI (g28 l0))), (3, .int (nI (k + 1)))]) [2, 3, 4, 0] rfl ?_
                      exact ih62 (k + 1) trivial (by omega) (by omega)
                    · skip
                      refine x_aload_n C dX12_canBe_130 rfl 1 rfl rfl ?_
                      refine x_get C (ci := 11) (k := 0) 0 k1 rfl in_X12 (by decide) w_1118 rfl dX12_canBe_131 rfl ?_
                      refine x_sipush C (v := 192) dX12_canBe_134 (by decide) rfl ?_
                      refine x_iload C dX12_canBe_137 0 rfl rfl ?_
                      refine x_iadd C (v := (nI (192 + (g102 k)))) dX12_canBe_139 (nI_add 192 (g102 k)) rfl ?_
                      obtain ⟨_, k117, f118, pf119, rfl⟩ := hW 1 _ rfl
                      refine x_iald C (v := (f118 (nI (192 + (g102 k))).toNatClampNeg)) 1 k117 (vp_in_nI (by omega) (by decide)) rfl dX12_canBe_140 rfl ?_
                      refine x_any (fun v120 => ?_)
                      refine x_bipush C (v := 9) dX12_canBe_141 (by decide) rfl ?_
                      refine x_icmp_ne C (tgt := 148) dX12_canBe_143 (by decide) rfl (fun c121 => ?_) (fun c121 => ?_)
                      · skip
                        refine x_iinc C (v := (nI (k + 1))) (lv' := [(3, .int (nI (k + 1))), (4, .int (nI (g102 k))), (0, .ref (a 0)), (1, .int (nI l0)), (2, .int (nI (g28 l0)))]) dX12_canBe_148 4 rfl (nI_add k 1) (by decide) rfl rfl ?_
                        refine x_goto C (tgt := 62) dX12_canBe_151 (by decide) ?_
                        refine x_lv (lv1 := [(0, .ref (a 0)), (1, .int (nI l0)), (2, .int (nI (g28 l0))), (3, .int (nI (k + 1)))]) [2, 3, 4, 0] rfl ?_
                        exact ih62 (k + 1) trivial (by omega) (by omega)
                      · skip
                        refine x_iconst C (v := 0) dX12_canBe_146 (by decide) rfl ?_
                        exact x_zret C hr hlk rfl dX12_canBe_147 ⟨rfl, (Or.inl rfl)⟩
                  · skip
                    refine x_aload_n C dX12_canBe_104 rfl 1 rfl rfl ?_
                    refine x_get C (ci := 11) (k := 0) 0 k1 rfl in_X12 (by decide) w_1118 rfl dX12_canBe_105 rfl ?_
                    refine x_sipush C (v := 144) dX12_canBe_108 (by decide) rfl ?_
                    refine x_iload C dX12_canBe_111 0 rfl rfl ?_
                    refine x_iadd C (v := (nI (144 + (g102 k)))) dX12_canBe_113 (nI_add 144 (g102 k)) rfl ?_
                    obtain ⟨_, k122, f123, pf124, rfl⟩ := hW 1 _ rfl
                    obtain ⟨n125, hn126, en127⟩ := NB_own (j := (g102 k)) pf124 (by omega)
                    refine x_ialk C (v := nI n125) (144 + (g102 k)) (nI_clamp (by omega)) (nI_pos (by omega)) (by omega) 1 k122 en127 dX12_canBe_114 rfl ?_
                    refine x_iload_n C dX12_canBe_115 rfl 3 rfl rfl ?_
                    refine x_icmp_eq C (tgt := 146) dX12_canBe_116 (by decide) rfl (fun c128 => ?_) (fun c128 => ?_)
                    · skip
                      have nf129 : n125 = g28 l0 := (nI_eq (by omega) (by omega)).mp c128
                      refine x_iconst C (v := 0) dX12_canBe_146 (by decide) rfl ?_
                      exact x_zret C hr hlk rfl dX12_canBe_147 ⟨rfl, (Or.inl rfl)⟩
                    · skip
                      have nf130 : ¬ n125 = g28 l0 := fun q => c128 (congrArg nI q)
                      refine x_aload_n C dX12_canBe_119 rfl 1 rfl rfl ?_
                      refine x_get C (ci := 11) (k := 29) 0 k1 rfl in_X12 (by decide) w_1147 rfl dX12_canBe_120 rfl ?_
                      refine x_iload_n C dX12_canBe_123 rfl 2 rfl rfl ?_
                      refine x_iald C (v := (f32 (nI l0).toNatClampNeg)) 19 k31 (vp_in_nI (by omega) (by decide)) rfl dX12_canBe_124 rfl ?_
                      refine x_any (fun v131 => ?_)
                      refine x_bipush C (v := 42) dX12_canBe_125 (by decide) rfl ?_
                      refine x_icmp_ne C (tgt := 148) dX12_canBe_127 (by decide) rfl (fun c132 => ?_) (fun c132 => ?_)
                      · skip
                        refine x_iinc C (v := (nI (k + 1))) (lv' := [(3, .int (nI (k + 1))), (4, .int (nI (g102 k))), (0, .ref (a 0)), (1, .int (nI l0)), (2, .int (nI (g28 l0)))]) dX12_canBe_148 4 rfl (nI_add k 1) (by decide) rfl rfl ?_
                        refine x_goto C (tgt := 62) dX12_canBe_151 (by decide) ?_
                        refine x_lv (lv1 := [(0, .ref (a 0)), (1, .int (nI l0)), (2, .int (nI (g28 l0))), (3, .int (nI (k + 1)))]) [2, 3, 4, 0] rfl ?_
                        exact ih62 (k + 1) trivial (by omega) (by omega)
                      · skip
                        refine x_aload_n C dX12_canBe_130 rfl 1 rfl rfl ?_
                        refine x_get C (ci := 11) (k := 0) 0 k1 rfl in_X12 (by decide) w_1118 rfl dX12_canBe_131 rfl ?_
                        refine x_sipush C (v := 192) dX12_canBe_134 (by decide) rfl ?_
                        refine x_iload C dX12_canBe_137 0 rfl rfl ?_
                        refine x_iadd C (v := (nI (192 + (g102 k)))) dX12_canBe_139 (nI_add 192 (g102 k)) rfl ?_
                        refine x_iald C (v := (f123 (nI (192 + (g102 k))).toNatClampNeg)) 1 k122 (vp_in_nI (by omega) (by decide)) rfl dX12_canBe_140 rfl ?_
                        refine x_any (fun v133 => ?_)
                        refine x_bipush C (v := 9) dX12_canBe_141 (by decide) rfl ?_
                        refine x_icmp_ne C (tgt := 148) dX12_canBe_143 (by decide) rfl (fun c134 => ?_) (fun c134 => ?_)
                        · skip
                          refine x_iinc C (v := (nI (k + 1))) (lv' := [(3, .int (nI (k + 1))), (4, .int (nI (g102 k))), (0, .ref (a 0)), (1, .int (nI l0)), (2, .int (nI (g28 l0)))]) dX12_canBe_148 4 rfl (nI_add k 1) (by decide) rfl rfl ?_
                          refine x_goto C (tgt := 62) dX12_canBe_151 (by decide) ?_
                          refine x_lv (lv1 := [(0, .ref (a 0)), (1, .int (nI l0)), (2, .int (nI (g28 l0))), (3, .int (nI (k + 1)))]) [2, 3, 4, 0] rfl ?_
                          exact ih62 (k + 1) trivial (by omega) (by omega)
                        · skip
                          refine x_iconst C (v := 0) dX12_canBe_146 (by decide) rfl ?_
                          exact x_zret C hr hlk rfl dX12_canBe_147 ⟨rfl, (Or.inl rfl)⟩
                · skip
                  refine x_iconst C (v := 0) dX12_canBe_91 (by decide) rfl ?_
                  exact x_zret C hr hlk rfl dX12_canBe_92 ⟨rfl, (Or.inl rfl)⟩
          refine x_lv (lv1 := [(0, .ref (a 0)), (1, .int (nI l0)), (2, .int (nI (g28 l0))), (3, .int (nI (g94 l0)))]) [2, 3, 1, 0] rfl ?_
          exact loop62 _ (g94 l0) trivial (Nat.lt_succ_self _) (by omega)
        · skip
          refine x_iconst C (v := 0) dX12_canBe_53 (by decide) rfl ?_
          exact x_zret C hr hlk rfl dX12_canBe_54 ⟨rfl, (Or.inl rfl)⟩
  · skip
    refine x_aload_n C dX12_canBe_18 rfl 1 rfl rfl ?_
    refine x_iload_n C dX12_canBe_19 rfl 0 rfl rfl ?_
    refine x_vi C (As := [.int (nI (g28 l0))]) (rest := []) (m_isPerson E l a cd hG kf jn js jq ws hW ((nI (g28 l0)))) mf_X12_isPerson w_1270 0 k1 rfl rfl rfl (Nat.le_of_ble_eq_true rfl) ⟨(Nat.le_of_ble_eq_true rfl), (Nat.le_of_ble_eq_true rfl)⟩ ⟨(Nat.le_of_ble_eq_true rfl), (Nat.le_of_ble_eq_true rfl)⟩ dX12_canBe_20 rfl (fun r136 w137 h135 => ?_)
    obtain ⟨hW138, zb139, x140⟩ := h135
    refine x_ws hW138 ?_
    refine x_if_eq C (tgt := 53) dX12_canBe_23 (by decide) rfl (fun c141 => ?_) (fun c141 => ?_)
    · skip
      refine x_iconst C (v := 0) dX12_canBe_53 (by decide) rfl ?_
      exact x_zret C hr hlk rfl dX12_canBe_54 ⟨rfl, (Or.inl rfl)⟩
    · skip
      have wi142 := wth_le (a := 0) (b := 7) (j := (g28 l0)) (x140 c141) (by omega) (by decide) (by decide)
      refine x_aload_n C dX12_canBe_26 rfl 1 rfl rfl ?_
      refine x_get C (ci := 11) (k := 29) 0 k1 rfl in_X12 (by decide) w_1147 rfl dX12_canBe_27 rfl ?_
      refine x_iload_n C dX12_canBe_30 rfl 2 rfl rfl ?_
      refine x_iald C (v := (f32 (nI l0).toNatClampNeg)) 19 k31 (vp_in_nI (by omega) (by decide)) rfl dX12_canBe_31 rfl ?_
      refine x_any (fun v143 => ?_)
      refine x_bipush C (v := 33) dX12_canBe_32 (by decide) rfl ?_
      refine x_icmp_ne C (tgt := 55) dX12_canBe_34 (by decide) rfl (fun c144 => ?_) (fun c144 => ?_)
      · skip
        refine x_aload_n C dX12_canBe_55 rfl 1 rfl rfl ?_
        refine x_get C (ci := 11) (k := 28) 0 k1 rfl in_X12 (by decide) w_1146 rfl dX12_canBe_56 rfl ?_
        refine x_iload_n C dX12_canBe_59 rfl 2 rfl rfl ?_
        obtain ⟨_, k145, g146, gb147, rfl⟩ := hW 18 _ rfl
        refine x_ialk C (v := nI (g146 l0)) l0 (nI_clamp (by omega)) (nI_pos (by omega)) (by omega) 18 k145 rfl dX12_canBe_60 rfl ?_
        have bx148 := gb147 l0
        refine x_istore_n C (lv' := [(3, .int (nI (g146 l0))), (2, .int (nI (g28 l0))), (0, .ref (a 0)), (1, .int (nI l0))]) dX12_canBe_61 rfl (by decide) rfl rfl ?_
        have loop62 : ∀ (fu62 : Nat) (k : Nat), True → 192 - k < fu62 → k ≤ 192 → X E p l e (xRm 2 0 0) s m ([.ref (a 0), .int (nI l0)] : List Value).toArray below meth c A 5 0 0 (MQ below (va_Qi (fun r w => w = ws ∧ zb r) (xB E A) A) ([.ref (a 0), .int (nI l0)] : List Value).toArray s 0 0 A) ws 62 [(0, .ref (a 0)), (1, .int (nI l0)), (2, .int (nI (g28 l0))), (3, .int (nI k))] [] := by
          intro fu62
          induction fu62 with
          | zero => intro k _ q; omega
          | succ fu62 ih62 =>
            intro k _ me62 iv62_0
            refine x_iload_n C dX12_canBe_62 rfl 3 rfl rfl ?_
            refine x_aload_n C dX12_canBe_63 rfl 0 rfl rfl ?_
            refine x_get C (ci := 11) (k := 28) 0 k1 rfl in_X12 (by decide) w_1146 rfl dX12_canBe_64 rfl ?_
            refine x_iload_n C dX12_canBe_67 rfl 1 rfl rfl ?_
            refine x_iconst C (v := 1) dX12_canBe_68 (by decide) rfl ?_
            refine x_iadd C (v := (nI (l0 + 1))) dX12_canBe_69 (nI_add l0 1) rfl ?_
            refine x_ialk C (v := nI (g146 (l0 + 1))) (l0 + 1) (nI_clamp (by omega)) (nI_pos (by omega)) (by omega) 18 k145 rfl dX12_canBe_70 rfl ?_
            have bx149 := gb147 (l0 + 1)
            refine x_icmp_ge C (tgt := 154) dX12_canBe_71 (by decide) rfl (fun c150 => ?_) (fun c150 => ?_)
            · skip
              have nf151 := nI_le' (a := (g146 (l0 + 1))) (b := k) c150 (by omega) (by omega)
              refine x_iconst C (v := 1) dX12_canBe_154 (by decide) rfl ?_
              exact x_zret C hr hlk rfl dX12_canBe_155 ⟨rfl, (Or.inr rfl)⟩
            · skip
              have nf152 := nI_nle' (a := (g146 (l0 + 1))) (b := k) c150 (by omega) (by omega)
              refine x_aload_n C dX12_canBe_74 rfl 0 rfl rfl ?_
              refine x_get C (ci := 11) (k := 31) 0 k1 rfl in_X12 (by decide) w_1149 rfl dX12_canBe_75 rfl ?_
              refine x_iload_n C dX12_canBe_78 rfl 3 rfl rfl ?_
              obtain ⟨_, k153, g154, gb155, rfl⟩ := hW 21 _ rfl
              refine x_ialk C (v := nI (g154 k)) k (nI_clamp (by omega)) (nI_pos (by omega)) (by omega) 21 k153 rfl dX12_canBe_79 rfl ?_
              have bx156 := gb155 k
              refine x_istore C (lv' := [(4, .int (nI (g154 k))), (0, .ref (a 0)), (1, .int (nI l0)), (2, .int (nI (g28 l0))), (3, .int (nI k))]) dX12_canBe_80 (by decide) rfl rfl ?_
              refine x_aload_n C dX12_canBe_82 rfl 1 rfl rfl ?_
              refine x_iload C dX12_canBe_83 0 rfl rfl ?_
              refine x_vi C (As := [.int (nI (g154 k))]) (rest := []) (m_isWhole E l a cd hG kf jn js jq ws hW ((nI (g154 k)))) mf_X12_isWhole w_1435 0 k1 rfl rfl rfl (Nat.le_of_ble_eq_true rfl) ⟨(Nat.le_of_ble_eq_true rfl), (Nat.le_of_ble_eq_true rfl)⟩ ⟨(Nat.le_of_ble_eq_true rfl), (Nat.le_of_ble_eq_true rfl)⟩ dX12_canBe_85 rfl (fun r158 w159 h157 => ?_)
              obtain ⟨hW160, zb161, x162⟩ := h157
              refine x_ws hW160 ?_
              refine x_if_ne C (tgt := 93) dX12_canBe_88 (by decide) rfl (fun c163 => ?_) (fun c163 => ?_)
              · skip
                have wi164 := wth_le (a := 0) (b := 47) (j := (g154 k)) (x162 c163) (by omega) (by decide) (by decide)
                refine x_aload_n C dX12_canBe_93 rfl 1 rfl rfl ?_
                refine x_get C (ci := 11) (k := 29) 0 k1 rfl in_X12 (by decide) w_1147 rfl dX12_canBe_94 rfl ?_
                refine x_iload_n C dX12_canBe_97 rfl 2 rfl rfl ?_
                refine x_iald C (v := (f32 (nI l0).toNatClampNeg)) 19 k31 (vp_in_nI (by omega) (by decide)) rfl dX12_canBe_98 rfl ?_
                refine x_any (fun v165 => ?_)
                refine x_bipush C (v := 62) dX12_canBe_99 (by decide) rfl ?_
                refine x_icmp_ne C (tgt := 119) dX12_canBe_101 (by decide) rfl (fun c166 => ?_) (fun c166 => ?_)
                · skip
                  refine x_aload_n C dX12_canBe_119 rfl 1 rfl rfl ?_
                  refine x_get C (ci := 11) (k := 29) 0 k1 rfl in_X12 (by decide) w_1147 rfl dX12_canBe_120 rfl ?_
                  refine x_iload_n C dX12_canBe_123 rfl 2 rfl rfl ?_
                  refine x_iald C (v := (f32 (nI l0).toNatClampNeg)) 19 k31 (vp_in_nI (by omega) (by decide)) rfl dX12_canBe_124 rfl ?_
                  refine x_any (fun v167 => ?_)
                  refine x_bipush C (v := 42) dX12_canBe_125 (by decide) rfl ?_
                  refine x_icmp_ne C (tgt := 148) dX12_canBe_127 (by decide) rfl (fun c168 => ?_) (fun c168 => ?_)
                  · skip
                    refine x_iinc C (v := (nI (k + 1))) (lv' := [(3, .int (nI (k + 1))), (4, .int (nI (g154 k))), (0, .ref (a 0)), (1, .int (nI l0)), (2, .int (nI (g28 l0)))]) dX12_canBe_148 4 rfl (nI_add k 1) (by decide) rfl rfl ?_
                    refine x_goto C (tgt := 62) dX12_canBe_151 (by decide) ?_
                    refine x_lv (lv1 := [(0, .ref (a 0)), (1, .int (nI l0)), (2, .int (nI (g28 l0))), (3, .int (nI (k + 1)))]) [2, 3, 4, 0] rfl ?_
                    exact ih62 (k + 1) trivial (by omega) (by omega)
                  · skip
                    refine x_aload_n C dX12_canBe_130 rfl 1 rfl rfl ?_
                    refine x_get C (ci := 11) (k := 0) 0 k1 rfl in_X12 (by decide) w_1118 rfl dX12_canBe_131 rfl ?_
                    refine x_sipush C (v := 192) dX12_canBe_134 (by decide) rfl ?_
                    refine x_iload C dX12_canBe_137 0 rfl rfl ?_
                    refine x_iadd C (v := (nI (192 + (g154 k)))) dX12_canBe_139 (nI_add 192 (g154 k)) rfl ?_
                    obtain ⟨_, k169, f170, pf171, rfl⟩ := hW 1 _ rfl
                    refine x_iald C (v := (f170 (nI (192 + (g154 k))).toNatClampNeg)) 1 k169 (vp_in_nI (by omega) (by decide)) rfl dX12_canBe_140 rfl ?_
                    refine x_any (fun v172 => ?_)
                    refine x_bipush C (v := 9) dX12_canBe_141 (by decide) rfl ?_
                    refine x_icmp_ne C (tgt := 148) dX12_canBe_143 (by decide) rfl (fun c173 => ?_) (fun c173 => ?_)
                    · skip
                      refine x_iinc C (v := (nI (k + 1))) (lv' := [(3, .int (nI (k + 1))), (4, .int (nI (g154 k))), (0, .ref (a 0)), (1, .int (nI l0)), (2, .int (nI (g28 l0)))]) dX12_canBe_148 4 rfl (nI_add k 1) (by decide) rfl rfl ?_
                      refine x_goto C (tgt := 62) dX12_canBe_151 (by decide) ?_
                      refine x_lv (lv1 := [(0, .ref (a 0)), (1, .int (nI l0)), (2, .int (nI (g28 l0))), (3, .int (nI (k + 1)))]) [2, 3, 4, 0] rfl ?_
                      exact ih62 (k + 1) trivial (by omega) (by omega)
                    · skip
                      refine x_iconst C (v := 0) dX12_canBe_146 (by decide) rfl ?_
                      exact x_zret C hr hlk rfl dX12_canBe_147 ⟨rfl, (Or.inl rfl)⟩
                · skip
                  refine x_aload_n C dX12_canBe_104 rfl 1 rfl rfl ?_
                  refine x_get C (ci := 11) (k := 0) 0 k1 rfl in_X12 (by decide) w_1118 rfl dX12_canBe_105 rfl ?_
                  refine x_sipush C (v := 144) dX12_canBe_108 (by decide) rfl ?_
                  refine x_iload C dX12_canBe_111 0 rfl rfl ?_
                  refine x_iadd C (v := (nI (144 + (g154 k)))) dX12_canBe_113 (nI_add 144 (g154 k)) rfl ?_
                  obtain ⟨_, k174, f175, pf176, rfl⟩ := hW 1 _ rfl
                  obtain ⟨n177, hn178, en179⟩ := NB_own (j := (g154 k)) pf176 (by omega)
                  refine x_ialk C (v := nI n177) (144 + (g154 k)) (nI_clamp (by omega)) (nI_pos (by omega)) (by omega) 1 k174 en179 dX12_canBe_114 rfl ?_
                  refine x_iload_n C dX12_canBe_115 rfl 3 rfl rfl ?_
                  refine x_icmp_eq C (tgt := 146) dX12_canBe_116 (by decide) rfl (fun c180 => ?_) (fun c180 => ?_)
                  · skip
                    have nf181 : n177 = g28 l0 := (nI_eq (by omega) (by omega)).mp c180
                    refine x_iconst C (v := 0) dX12_canBe_146 (by decide) rfl ?_
                    exact x_zret C hr hlk rfl dX12_canBe_147 ⟨rfl, (Or.inl rfl)⟩
                  · skip
                    have nf182 : ¬ n177 = g28 l0 := fun q => c180 (congrArg nI q)
                    refine x_aload_n C dX12_canBe_119 rfl 1 rfl rfl ?_
                    refine x_get C (ci := 11) (k := 29) 0 k1 rfl in_X12 (by decide) w_1147 rfl dX12_canBe_120 rfl ?_
                    refine x_iload_n C dX12_canBe_123 rfl 2 rfl rfl ?_
                    refine x_iald C (v := (f32 (nI l0).toNatClampNeg)) 19 k31 (vp_in_nI (by omega) (by decide)) rfl dX12_canBe_124 rfl ?_
                    refine x_any (fun v183 => ?_)
                    refine x_bipush C (v := 42) dX12_canBe_125 (by decide) rfl ?_
                    refine x_icmp_ne C (tgt := 148) dX12_canBe_127 (by decide) rfl (fun c184 => ?_) (fun c184 => ?_)
                    · skip
                      refine x_iinc C (v := (nI (k + 1))) (lv' := [(3, .int (nI (k + 1))), (4, .int (nI (g154 k))), (0, .ref (a 0)), (1, .int (nI l0)), (2, .int (nI (g28 l0)))]) dX12_canBe_148 4 rfl (nI_add k 1) (by decide) rfl rfl ?_
                      refine x_goto C (tgt := 62) dX12_canBe_151 (by decide) ?_
                      refine x_lv (lv1 := [(0, .ref (a 0)), (1, .int (nI l0)), (2, .int (nI (g28 l0))), (3, .int (nI (k + 1)))]) [2, 3, 4, 0] rfl ?_
                      exact ih62 (k + 1) trivial (by omega) (by omega)
                    · skip
                      refine x_aload_n C dX12_canBe_130 rfl 1 rfl rfl ?_
                      refine x_get C (ci := 11) (k := 0) 0 k1 rfl in_X12 (by decide) w_1118 rfl dX12_canBe_131 rfl ?_
                      refine x_sipush C (v := 192) dX12_canBe_134 (by decide) rfl ?_
                      refine x_iload C dX12_canBe_137 0 rfl rfl ?_
                      refine x_iadd C (v := (nI (192 + (g154 k)))) dX12_canBe_139 (nI_add 192 (g154 k)) rfl ?_
                      refine x_iald C (v := (f175 (nI (192 + (g154 k))).toNatClampNeg)) 1 k174 (vp_in_nI (by omega) (by decide)) rfl dX12_canBe_140 rfl ?_
                      refine x_any (fun v185 => ?_)
                      refine x_bipush C (v := 9) dX12_canBe_141 (by decide) rfl ?_
                      refine x_icmp_ne C (tgt := 148) dX12_canBe_143 (by decide) rfl (fun c186 => ?_) (fun c186 => ?_)
                      · skip
                        refine x_iinc C (v := (nI (k + 1))) (lv' := [(3, .int (nI (k + 1))), (4, .int (nI (g154 k))), (0, .ref (a 0)), (1, .int (nI l0)), (2, .int (nI (g28 l0)))]) dX12_canBe_148 4 rfl (nI_add k 1) (by decide) rfl rfl ?_
                        refine x_goto C (tgt := 62) dX12_canBe_151 (by decide) ?_
                        refine x_lv (lv1 := [(0, .ref (a 0)), (1, .int (nI l0)), (2, .int (nI (g28 l0))), (3, .int (nI (k + 1)))]) [2, 3, 4, 0] rfl ?_
                        exact ih62 (k + 1) trivial (by omega) (by omega)
                      · skip
                        refine x_iconst C (v := 0) dX12_canBe_146 (by decide) rfl ?_
                        exact x_zret C hr hlk rfl dX12_canBe_147 ⟨rfl, (Or.inl rfl)⟩
              · skip
                refine x_iconst C (v := 0) dX12_canBe_91 (by decide) rfl ?_
                exact x_zret C hr hlk rfl dX12_canBe_92 ⟨rfl, (Or.inl rfl)⟩
        refine x_lv (lv1 := [(0, .ref (a 0)), (1, .int (nI l0)), (2, .int (nI (g28 l0))), (3, .int (nI (g146 l0)))]) [2, 3, 1, 0] rfl ?_
        exact loop62 _ (g146 l0) trivial (Nat.lt_succ_self _) (by omega)
      · skip
        refine x_aload_n C dX12_canBe_37 rfl 1 rfl rfl ?_
        refine x_iload_n C dX12_canBe_38 rfl 0 rfl rfl ?_
        refine x_vi C (As := [.int (nI (g28 l0))]) (rest := []) (m_isWork E l a cd hG kf jn js jq ws hW ((nI (g28 l0)))) mf_X12_isWork w_1427 0 k1 rfl rfl rfl (Nat.le_of_ble_eq_true rfl) ⟨(Nat.le_of_ble_eq_true rfl), (Nat.le_of_ble_eq_true rfl)⟩ ⟨(Nat.le_of_ble_eq_true rfl), (Nat.le_of_ble_eq_true rfl)⟩ dX12_canBe_39 rfl (fun r188 w189 h187 => ?_)
        obtain ⟨hW190, zb191, x192⟩ := h187
        refine x_ws hW190 ?_
        refine x_if_eq C (tgt := 53) dX12_canBe_42 (by decide) rfl (fun c193 => ?_) (fun c193 => ?_)
        · skip
          refine x_iconst C (v := 0) dX12_canBe_53 (by decide) rfl ?_
          exact x_zret C hr hlk rfl dX12_canBe_54 ⟨rfl, (Or.inl rfl)⟩
        · skip
          have wi194 := wth_le (a := 0) (b := 7) (j := (g28 l0)) (x192 c193) (by omega) (by decide) (by decide)
          refine x_aload_n C dX12_canBe_45 rfl 1 rfl rfl ?_
          refine x_iload_n C dX12_canBe_46 rfl 0 rfl rfl ?_
          refine x_vi C (As := [.int (nI (g28 l0))]) (rest := []) (m_isDone E l a cd hG kf jn js jq ws hW (g28 l0) (by omega)) mf_X12_isDone w_1431 0 k1 rfl rfl rfl (Nat.le_of_ble_eq_true rfl) ⟨(Nat.le_of_ble_eq_true rfl), (Nat.le_of_ble_eq_true rfl)⟩ ⟨(Nat.le_of_ble_eq_true rfl), (Nat.le_of_ble_eq_true rfl)⟩ dX12_canBe_47 rfl (fun r196 w197 h195 => ?_)
          obtain ⟨hW198, zb199⟩ := h195
          refine x_ws hW198 ?_
          refine x_if_eq C (tgt := 55) dX12_canBe_50 (by decide) rfl (fun c200 => ?_) (fun c200 => ?_)
          · skip
            refine x_aload_n C dX12_canBe_55 rfl 1 rfl rfl ?_
            refine x_get C (ci := 11) (k := 28) 0 k1 rfl in_X12 (by decide) w_1146 rfl dX12_canBe_56 rfl ?_
            refine x_iload_n C dX12_canBe_59 rfl 2 rfl rfl ?_
            obtain ⟨_, k201, g202, gb203, rfl⟩ := hW 18 _ rfl
            refine x_ialk C (v := nI (g202 l0)) l0 (nI_clamp (by omega)) (nI_pos (by omega)) (by omega) 18 k201 rfl dX12_canBe_60 rfl ?_
            have bx204 := gb203 l0
            refine x_istore_n C (lv' := [(3, .int (nI (g202 l0))), (2, .int (nI (g28 l0))), (0, .ref (a 0)), (1, .int (nI l0))]) dX12_canBe_61 rfl (by decide) rfl rfl ?_
            have loop62 : ∀ (fu62 : Nat) (k : Nat), True → 192 - k < fu62 → k ≤ 192 → X E p l e (xRm 2 0 0) s m ([.ref (a 0), .int (nI l0)] : List Value).toArray below meth c A 5 0 0 (MQ below (va_Qi (fun r w => w = ws ∧ zb r) (xB E A) A) ([.ref (a 0), .int (nI l0)] : List Value).toArray s 0 0 A) ws 62 [(0, .ref (a 0)), (1, .int (nI l0)), (2, .int (nI (g28 l0))), (3, .int (nI k))] [] := by
              intro fu62
              induction fu62 with
              | zero => intro k _ q; omega
              | succ fu62 ih62 =>
                intro k _ me62 iv62_0
                refine x_iload_n C dX12_canBe_62 rfl 3 rfl rfl ?_
                refine x_aload_n C dX12_canBe_63 rfl 0 rfl rfl ?_
                refine x_get C (ci := 11) (k := 28) 0 k1 rfl in_X12 (by decide) w_1146 rfl dX12_canBe_64 rfl ?_
                refine x_iload_n C dX12_canBe_67 rfl 1 rfl rfl ?_
                refine x_iconst C (v := 1) dX12_canBe_68 (by decide) rfl ?_
                refine x_iadd C (v := (nI (l0 + 1))) dX12_canBe_69 (nI_add l0 1) rfl ?_
                refine x_ialk C (v := nI (g202 (l0 + 1))) (l0 + 1) (nI_clamp (by omega)) (nI_pos (by omega)) (by omega) 18 k201 rfl dX12_canBe_70 rfl ?_
                have bx205 := gb203 (l0 + 1)
                refine x_icmp_ge C (tgt := 154) dX12_canBe_71 (by decide) rfl (fun c206 => ?_) (fun c206 => ?_)
                · skip
                  have nf207 := nI_le' (a := (g202 (l0 + 1))) (b := k) c206 (by omega) (by omega)
                  refine x_iconst C (v := 1) dX12_canBe_154 (by decide) rfl ?_
                  exact x_zret C hr hlk rfl dX12_canBe_155 ⟨rfl, (Or.inr rfl)⟩
                · skip
                  have nf208 := nI_nle' (a := (g202 (l0 + 1))) (b := k) c206 (by omega) (by omega)
                  refine x_aload_n C dX12_canBe_74 rfl 0 rfl rfl ?_
                  refine x_get C (ci := 11) (k := 31) 0 k1 rfl in_X12 (by decide) w_1149 rfl dX12_canBe_75 rfl ?_
                  refine x_iload_n C dX12_canBe_78 rfl 3 rfl rfl ?_
                  obtain ⟨_, k209, g210, gb211, rfl⟩ := hW 21 _ rfl
                  refine x_ialk C (v := nI (g210 k)) k (nI_clamp (by omega)) (nI_pos (by omega)) (by omega) 21 k209 rfl dX12_canBe_79 rfl ?_
                  have bx212 := gb211 k
                  refine x_istore C (lv' := [(4, .int (nI (g210 k))), (0, .ref (a 0)), (1, .int (nI l0)), (2, .int (nI (g28 l0))), (3, .int (nI k))]) dX12_canBe_80 (by decide) rfl rfl ?_
                  refine x_aload_n C dX12_canBe_82 rfl 1 rfl rfl ?_
                  refine x_iload C dX12_canBe_83 0 rfl rfl ?_
                  refine x_vi C (As := [.int (nI (g210 k))]) (rest := []) (m_isWhole E l a cd hG kf jn js jq ws hW ((nI (g210 k)))) mf_X12_isWhole w_1435 0 k1 rfl rfl rfl (Nat.le_of_ble_eq_true rfl) ⟨(Nat.le_of_ble_eq_true rfl), (Nat.le_of_ble_eq_true rfl)⟩ ⟨(Nat.le_of_ble_eq_true rfl), (Nat.le_of_ble_eq_true rfl)⟩ dX12_canBe_85 rfl (fun r214 w215 h213 => ?_)
                  obtain ⟨hW216, zb217, x218⟩ := h213
                  refine x_ws hW216 ?_
                  refine x_if_ne C (tgt := 93) dX12_canBe_88 (by decide) rfl (fun c219 => ?_) (fun c219 => ?_)
                  · skip
                    have wi220 := wth_le (a := 0) (b := 47) (j := (g210 k)) (x218 c219) (by omega) (by decide) (by decide)
                    refine x_aload_n C dX12_canBe_93 rfl 1 rfl rfl ?_
                    refine x_get C (ci := 11) (k := 29) 0 k1 rfl in_X12 (by decide) w_1147 rfl dX12_canBe_94 rfl ?_
                    refine x_iload_n C dX12_canBe_97 rfl 2 rfl rfl ?_
                    refine x_iald C (v := (f32 (nI l0).toNatClampNeg)) 19 k31 (vp_in_nI (by omega) (by decide)) rfl dX12_canBe_98 rfl ?_
                    refine x_any (fun v221 => ?_)
                    refine x_bipush C (v := 62) dX12_canBe_99 (by decide) rfl ?_
                    refine x_icmp_ne C (tgt := 119) dX12_canBe_101 (by decide) rfl (fun c222 => ?_) (fun c222 => ?_)
                    · skip
                      refine x_aload_n C dX12_canBe_119 rfl 1 rfl rfl ?_
                      refine x_get C (ci := 11) (k := 29) 0 k1 rfl in_X12 (by decide) w_1147 rfl dX12_canBe_120 rfl ?_
                      refine x_iload_n C dX12_canBe_123 rfl 2 rfl rfl ?_
                      refine x_iald C (v := (f32 (nI l0).toNatClampNeg)) 19 k31 (vp_in_nI (by omega) (by decide)) rfl dX12_canBe_124 rfl ?_
                      refine x_any (fun v223 => ?_)
                      refine x_bipush C (v := 42) dX12_canBe_125 (by decide) rfl ?_
                      refine x_icmp_ne C (tgt := 148) dX12_canBe_127 (by decide) rfl (fun c224 => ?_) (fun c224 => ?_)
                      · skip
                        refine x_iinc C (v := (nI (k + 1))) (lv' := [(3, .int (nI (k + 1))), (4, .int (nI (g210 k))), (0, .ref (a 0)), (1, .int (nI l0)), (2, .int (nI (g28 l0)))]) dX12_canBe_148 4 rfl (nI_add k 1) (by decide) rfl rfl ?_
                        refine x_goto C (tgt := 62) dX12_canBe_151 (by decide) ?_
                        refine x_lv (lv1 := [(0, .ref (a 0)), (1, .int (nI l0)), (2, .int (nI (g28 l0))), (3, .int (nI (k + 1)))]) [2, 3, 4, 0] rfl ?_
                        exact ih62 (k + 1) trivial (by omega) (by omega)
                      · skip
                        refine x_aload_n C dX12_canBe_130 rfl 1 rfl rfl ?_
                        refine x_get C (ci := 11) (k := 0) 0 k1 rfl in_X12 (by decide) w_1118 rfl dX12_canBe_131 rfl ?_
                        refine x_sipush C (v := 192) dX12_canBe_134 (by decide) rfl ?_
                        refine x_iload C dX12_canBe_137 0 rfl rfl ?_
                        refine x_iadd C (v := (nI (192 + (g210 k)))) dX12_canBe_139 (nI_add 192 (g210 k)) rfl ?_
                        obtain ⟨_, k225, f226, pf227, rfl⟩ := hW 1 _ rfl
                        refine x_iald C (v := (f226 (nI (192 + (g210 k))).toNatClampNeg)) 1 k225 (vp_in_nI (by omega) (by decide)) rfl dX12_canBe_140 rfl ?_
                        refine x_any (fun v228 => ?_)
                        refine x_bipush C (v := 9) dX12_canBe_141 (by decide) rfl ?_
                        refine x_icmp_ne C (tgt := 148) dX12_canBe_143 (by decide) rfl (fun c229 => ?_) (fun c229 => ?_)
                        · skip
                          refine x_iinc C (v := (nI (k + 1))) (lv' := [(3, .int (nI (k + 1))), (4, .int (nI (g210 k))), (0, .ref (a 0)), (1, .int (nI l0)), (2, .int (nI (g28 l0)))]) dX12_canBe_148 4 rfl (nI_add k 1) (by decide) rfl rfl ?_
                          refine x_goto C (tgt := 62) dX12_canBe_151 (by decide) ?_
                          refine x_lv (lv1 := [(0, .ref (a 0)), (1, .int (nI l0)), (2, .int (nI (g28 l0))), (3, .int (nI (k + 1)))]) [2, 3, 4, 0] rfl ?_
                          exact ih62 (k + 1) trivial (by omega) (by omega)
                        · skip
                          refine x_iconst C (v := 0) dX12_canBe_146 (by decide) rfl ?_
                          exact x_zret C hr hlk rfl dX12_canBe_147 ⟨rfl, (Or.inl rfl)⟩
                    · skip
                      refine x_aload_n C dX12_canBe_104 rfl 1 rfl rfl ?_
                      refine x_get C (ci := 11) (k := 0) 0 k1 rfl in_X12 (by decide) w_1118 rfl dX12_canBe_105 rfl ?_
                      refine x_sipush C (v := 144) dX12_canBe_108 (by decide) rfl ?_
                      refine x_iload C dX12_canBe_111 0 rfl rfl ?_
                      refine x_iadd C (v := (nI (144 + (g210 k)))) dX12_canBe_113 (nI_add 144 (g210 k)) rfl ?_
                      obtain ⟨_, k230, f231, pf232, rfl⟩ := hW 1 _ rfl
                      obtain ⟨n233, hn234, en235⟩ := NB_own (j := (g210 k)) pf232 (by omega)
                      refine x_ialk C (v := nI n233) (144 + (g210 k)) (nI_clamp (by omega)) (nI_pos (by omega)) (by omega) 1 k230 en235 dX12_canBe_114 rfl ?_
                      refine x_iload_n C dX12_canBe_115 rfl 3 rfl rfl ?_
                      refine x_icmp_eq C (tgt := 146) dX12_canBe_116 (by decide) rfl (fun c236 => ?_) (fun c236 => ?_)
                      · skip
                        have nf237 : n233 = g28 l0 := (nI_eq (by omega) (by omega)).mp c236
                        refine x_iconst C (v := 0) dX12_canBe_146 (by decide) rfl ?_
                        exact x_zret C hr hlk rfl dX12_canBe_147 ⟨rfl, (Or.inl rfl)⟩
                      · skip
                        have nf238 : ¬ n233 = g28 l0 := fun q => c236 (congrArg nI q)
                        refine x_aload_n C dX12_canBe_119 rfl 1 rfl rfl ?_
                        refine x_get C (ci := 11) (k := 29) 0 k1 rfl in_X12 (by decide) w_1147 rfl dX12_canBe_120 rfl ?_
                        refine x_iload_n C dX12_canBe_123 rfl 2 rfl rfl ?_
                        refine x_iald C (v := (f32 (nI l0).toNatClampNeg)) 19 k31 (vp_in_nI (by omega) (by decide)) rfl dX12_canBe_124 rfl ?_
                        refine x_any (fun v239 => ?_)
                        refine x_bipush C (v := 42) dX12_canBe_125 (by decide) rfl ?_
                        refine x_icmp_ne C (tgt := 148) dX12_canBe_127 (by decide) rfl (fun c240 => ?_) (fun c240 => ?_)
                        · skip
                          refine x_iinc C (v := (nI (k + 1))) (lv' := [(3, .int (nI (k + 1))), (4, .int (nI (g210 k))), (0, .ref (a 0)), (1, .int (nI l0)), (2, .int (nI (g28 l0)))]) dX12_canBe_148 4 rfl (nI_add k 1) (by decide) rfl rfl ?_
                          refine x_goto C (tgt := 62) dX12_canBe_151 (by decide) ?_
                          refine x_lv (lv1 := [(0, .ref (a 0)), (1, .int (nI l0)), (2, .int (nI (g28 l0))), (3, .int (nI (k + 1)))]) [2, 3, 4, 0] rfl ?_
                          exact ih62 (k + 1) trivial (by omega) (by omega)
                        · skip
                          refine x_aload_n C dX12_canBe_130 rfl 1 rfl rfl ?_
                          refine x_get C (ci := 11) (k := 0) 0 k1 rfl in_X12 (by decide) w_1118 rfl dX12_canBe_131 rfl ?_
                          refine x_sipush C (v := 192) dX12_canBe_134 (by decide) rfl ?_
                          refine x_iload C dX12_canBe_137 0 rfl rfl ?_
                          refine x_iadd C (v := (nI (192 + (g210 k)))) dX12_canBe_139 (nI_add 192 (g210 k)) rfl ?_
                          refine x_iald C (v := (f231 (nI (192 + (g210 k))).toNatClampNeg)) 1 k230 (vp_in_nI (by omega) (by decide)) rfl dX12_canBe_140 rfl ?_
                          refine x_any (fun v241 => ?_)
                          refine x_bipush C (v := 9) dX12_canBe_141 (by decide) rfl ?_
                          refine x_icmp_ne C (tgt := 148) dX12_canBe_143 (by decide) rfl (fun c242 => ?_) (fun c242 => ?_)
                          · skip
                            refine x_iinc C (v := (nI (k + 1))) (lv' := [(3, .int (nI (k + 1))), (4, .int (nI (g210 k))), (0, .ref (a 0)), (1, .int (nI l0)), (2, .int (nI (g28 l0)))]) dX12_canBe_148 4 rfl (nI_add k 1) (by decide) rfl rfl ?_
                            refine x_goto C (tgt := 62) dX12_canBe_151 (by decide) ?_
                            refine x_lv (lv1 := [(0, .ref (a 0)), (1, .int (nI l0)), (2, .int (nI (g28 l0))), (3, .int (nI (k + 1)))]) [2, 3, 4, 0] rfl ?_
                            exact ih62 (k + 1) trivial (by omega) (by omega)
                          · skip
                            refine x_iconst C (v := 0) dX12_canBe_146 (by decide) rfl ?_
                            exact x_zret C hr hlk rfl dX12_canBe_147 ⟨rfl, (Or.inl rfl)⟩
                  · skip
                    refine x_iconst C (v := 0) dX12_canBe_91 (by decide) rfl ?_
                    exact x_zret C hr hlk rfl dX12_canBe_92 ⟨rfl, (Or.inl rfl)⟩
            refine x_lv (lv1 := [(0, .ref (a 0)), (1, .int (nI l0)), (2, .int (nI (g28 l0))), (3, .int (nI (g202 l0)))]) [2, 3, 1, 0] rfl ?_
            exact loop62 _ (g202 l0) trivial (Nat.lt_succ_self _) (by omega)
          · skip
            refine x_iconst C (v := 0) dX12_canBe_53 (by decide) rfl ?_
            exact x_zret C hr hlk rfl dX12_canBe_54 ⟨rfl, (Or.inl rfl)⟩
theorem dX12_does_0 : decode cX12_does 0 = .ok (.aload_n 0, 1) := by decide +kernel
theorem dX12_does_1 : decode cX12_does 1 = .ok (.iload_n 1, 1) := by decide +kernel
theorem dX12_does_2 : decode cX12_does 2 = .ok (.invokevirtual 281, 3) := by decide +kernel
theorem dX12_does_5 : decode cX12_does 5 = .ok (.ifCond .ne 5, 3) := by decide +kernel
theorem dX12_does_8 : decode cX12_does 8 = .ok (.iconst 0, 1) := by decide +kernel
theorem dX12_does_9 : decode cX12_does 9 = .ok (.ireturn, 1) := by decide +kernel
theorem dX12_does_10 : decode cX12_does 10 = .ok (.aload_n 0, 1) := by decide +kernel
theorem dX12_does_11 : decode cX12_does 11 = .ok (.getfield 62, 3) := by decide +kernel
theorem dX12_does_14 : decode cX12_does 14 = .ok (.iload_n 1, 1) := by decide +kernel
theorem dX12_does_15 : decode cX12_does 15 = .ok (.iaload, 1) := by decide +kernel
theorem dX12_does_16 : decode cX12_does 16 = .ok (.istore_n 2, 1) := by decide +kernel
theorem dX12_does_17 : decode cX12_does 17 = .ok (.iload_n 2, 1) := by decide +kernel
theorem dX12_does_18 : decode cX12_does 18 = .ok (.aload_n 0, 1) := by decide +kernel
theorem dX12_does_19 : decode cX12_does 19 = .ok (.getfield 62, 3) := by decide +kernel
theorem dX12_does_22 : decode cX12_does 22 = .ok (.iload_n 1, 1) := by decide +kernel
theorem dX12_does_23 : decode cX12_does 23 = .ok (.iconst 1, 1) := by decide +kernel
theorem dX12_does_24 : decode cX12_does 24 = .ok (.iadd, 1) := by decide +kernel
theorem dX12_does_25 : decode cX12_does 25 = .ok (.iaload, 1) := by decide +kernel
theorem dX12_does_26 : decode cX12_does 26 = .ok (.if_icmp .ge 109, 3) := by decide +kernel
theorem dX12_does_29 : decode cX12_does 29 = .ok (.aload_n 0, 1) := by decide +kernel
theorem dX12_does_30 : decode cX12_does 30 = .ok (.getfield 65, 3) := by decide +kernel
theorem dX12_does_33 : decode cX12_does 33 = .ok (.iload_n 1, 1) := by decide +kernel
theorem dX12_does_34 : decode cX12_does 34 = .ok (.iaload, 1) := by decide +kernel
theorem dX12_does_35 : decode cX12_does 35 = .ok (.lookupswitch 84 #[(33, 52), (46, 71), (62, 33)], 33) := by decide +kernel
theorem dX12_does_68 : decode cX12_does 68 = .ok (.aload_n 0, 1) := by decide +kernel
theorem dX12_does_69 : decode cX12_does 69 = .ok (.aload_n 0, 1) := by decide +kernel
theorem dX12_does_70 : decode cX12_does 70 = .ok (.getfield 71, 3) := by decide +kernel
theorem dX12_does_73 : decode cX12_does 73 = .ok (.iload_n 2, 1) := by decide +kernel
theorem dX12_does_74 : decode cX12_does 74 = .ok (.iaload, 1) := by decide +kernel
theorem dX12_does_75 : decode cX12_does 75 = .ok (.aload_n 0, 1) := by decide +kernel
theorem dX12_does_76 : decode cX12_does 76 = .ok (.getfield 68, 3) := by decide +kernel
theorem dX12_does_79 : decode cX12_does 79 = .ok (.iload_n 1, 1) := by decide +kernel
theorem dX12_does_80 : decode cX12_does 80 = .ok (.iaload, 1) := by decide +kernel
theorem dX12_does_81 : decode cX12_does 81 = .ok (.invokevirtual 284, 3) := by decide +kernel
theorem dX12_does_84 : decode cX12_does 84 = .ok (.goto 45, 3) := by decide +kernel
theorem dX12_does_87 : decode cX12_does 87 = .ok (.aload_n 0, 1) := by decide +kernel
theorem dX12_does_88 : decode cX12_does 88 = .ok (.aload_n 0, 1) := by decide +kernel
theorem dX12_does_89 : decode cX12_does 89 = .ok (.getfield 71, 3) := by decide +kernel
theorem dX12_does_92 : decode cX12_does 92 = .ok (.iload_n 2, 1) := by decide +kernel
theorem dX12_does_93 : decode cX12_does 93 = .ok (.iaload, 1) := by decide +kernel
theorem dX12_does_94 : decode cX12_does 94 = .ok (.aload_n 0, 1) := by decide +kernel
theorem dX12_does_95 : decode cX12_does 95 = .ok (.getfield 68, 3) := by decide +kernel
theorem dX12_does_98 : decode cX12_does 98 = .ok (.iload_n 1, 1) := by decide +kernel
theorem dX12_does_99 : decode cX12_does 99 = .ok (.iaload, 1) := by decide +kernel
theorem dX12_does_100 : decode cX12_does 100 = .ok (.invokevirtual 287, 3) := by decide +kernel
theorem dX12_does_103 : decode cX12_does 103 = .ok (.goto 26, 3) := by decide +kernel
theorem dX12_does_106 : decode cX12_does 106 = .ok (.aload_n 0, 1) := by decide +kernel
theorem dX12_does_107 : decode cX12_does 107 = .ok (.aload_n 0, 1) := by decide +kernel
theorem dX12_does_108 : decode cX12_does 108 = .ok (.getfield 71, 3) := by decide +kernel
theorem dX12_does_111 : decode cX12_does 111 = .ok (.iload_n 2, 1) := by decide +kernel
theorem dX12_does_112 : decode cX12_does 112 = .ok (.iaload, 1) := by decide +kernel
theorem dX12_does_113 : decode cX12_does 113 = .ok (.invokevirtual 278, 3) := by decide +kernel
theorem dX12_does_116 : decode cX12_does 116 = .ok (.goto 13, 3) := by decide +kernel
theorem dX12_does_119 : decode cX12_does 119 = .ok (.aload_n 0, 1) := by decide +kernel
theorem dX12_does_120 : decode cX12_does 120 = .ok (.aload_n 0, 1) := by decide +kernel
theorem dX12_does_121 : decode cX12_does 121 = .ok (.getfield 71, 3) := by decide +kernel
theorem dX12_does_124 : decode cX12_does 124 = .ok (.iload_n 2, 1) := by decide +kernel
theorem dX12_does_125 : decode cX12_does 125 = .ok (.iaload, 1) := by decide +kernel
theorem dX12_does_126 : decode cX12_does 126 = .ok (.invokevirtual 290, 3) := by decide +kernel
theorem dX12_does_129 : decode cX12_does 129 = .ok (.iinc 2 1, 3) := by decide +kernel
theorem dX12_does_132 : decode cX12_does 132 = .ok (.goto (-115), 3) := by decide +kernel
theorem dX12_does_135 : decode cX12_does 135 = .ok (.iconst 1, 1) := by decide +kernel
theorem dX12_does_136 : decode cX12_does 136 = .ok (.ireturn, 1) := by decide +kernel
set_option maxRecDepth 20000 in
set_option maxHeartbeats 4000000 in
theorem m_does (E : xE) (l : Launch) (a : Nat → Nat) (cd : Cd) (hG : Good cd) (kf : Int32) (jn js jq : Lb) (ws : va_W) (hW : WX (okM E a cd kf jn js jq) ws) (l0 : Nat) (hl0 : l0 ≤ 23) : xI E l yX12_does cX12_does 3 (some .boolean) 5 [.ref (a 0), .int (nI l0)] ws (fun r w => WX (okM E a cd kf jn js jq) w ∧ keeps ws w (fun q => q = 1 ∨ q = 16 ∨ q = 17) ∧ zb r) := by
  refine xI_start (lv := [(0, .ref (a 0)), (1, .int (nI l0))]) RX12 (by decide) rfl (Nat.le_of_ble_eq_true rfl) rfl (fun p e s m below meth c A C hr hlk => ?_)
  have kp0 : keeps ws ws (fun q => q = 1 ∨ q = 16 ∨ q = 17) := keeps_rf
  refine x_aload_n C dX12_does_0 rfl 0 rfl rfl ?_
  refine x_iload_n C dX12_does_1 rfl 1 rfl rfl ?_
  obtain ⟨_, k1, n2, n4, n6, v8, v9, v10, n11, n13, n15, n17, v19, v20, v21, v22, n23, n25, bn3, bn5, bn7, bn12, bn14, bn16, bn18, bn24, bn26, rfl⟩ := hW 0 _ rfl
  refine x_vi C (As := [.int (nI l0)]) (rest := []) (m_canBe E l a cd hG kf jn js jq ws hW l0 (by omega)) mf_X12_canBe w_1423 0 k1 rfl rfl rfl (Nat.le_of_ble_eq_true rfl) ⟨(Nat.le_of_ble_eq_true rfl), (Nat.le_of_ble_eq_true rfl)⟩ ⟨(Nat.le_of_ble_eq_true rfl), (Nat.le_of_ble_eq_true rfl)⟩ dX12_does_2 rfl (fun r28 w29 h27 => ?_)
  obtain ⟨hW30, zb31⟩ := h27
  refine x_ws hW30 ?_
  refine x_if_ne C (tgt := 10) dX12_does_5 (by decide) rfl (fun c32 => ?_) (fun c32 => ?_)
  · skip
    refine x_aload_n C dX12_does_10 rfl 0 rfl rfl ?_
    refine x_get C (ci := 11) (k := 28) 0 k1 rfl in_X12 (by decide) w_1146 rfl dX12_does_11 rfl ?_
    refine x_iload_n C dX12_does_14 rfl 1 rfl rfl ?_
    obtain ⟨_, k33, g34, gb35, rfl⟩ := hW 18 _ rfl
    refine x_ialk C (v := nI (g34 l0)) l0 (nI_clamp (by omega)) (nI_pos (by omega)) (by omega) 18 k33 rfl dX12_does_15 rfl ?_
    have bx36 := gb35 l0
    refine x_istore_n C (lv' := [(2, .int (nI (g34 l0))), (0, .ref (a 0)), (1, .int (nI l0))]) dX12_does_16 rfl (by decide) rfl rfl ?_
    have loop17 : ∀ (fu17 : Nat) (k : Nat) (wl17 : va_W), WX (okM E a cd kf jn js jq) wl17 → 192 - k < fu17 → k ≤ 192 → keeps ws wl17 (fun q => q = 1 ∨ q = 16 ∨ q = 17) → X E p l e (xRm 5 0 0) s m ([.ref (a 0), .int (nI l0)] : List Value).toArray below meth c A 3 0 0 (MQ below (va_Qi (fun r w => WX (okM E a cd kf jn js jq) w ∧ keeps ws w (fun q => q = 1 ∨ q = 16 ∨ q = 17) ∧ zb r) (xB E A) A) ([.ref (a 0), .int (nI l0)] : List Value).toArray s 0 0 A) wl17 17 [(0, .ref (a 0)), (1, .int (nI l0)), (2, .int (nI k))] [] := by
      intro fu17
      induction fu17 with
      | zero => intro k wl17 _ q; omega
      | succ fu17 ih17 =>
        intro k wl17 hWl17 me17 iv17_0 kq17
        refine x_iload_n C dX12_does_17 rfl 2 rfl rfl ?_
        refine x_aload_n C dX12_does_18 rfl 0 rfl rfl ?_
        obtain ⟨_, k37, n38, n40, n42, v44, v45, v46, n47, n49, n51, n53, v55, v56, v57, v58, n59, n61, bn39, bn41, bn43, bn48, bn50, bn52, bn54, bn60, bn62, rfl⟩ := hWl17 0 _ rfl
        refine x_get C (ci := 11) (k := 28) 0 k37 rfl in_X12 (by decide) w_1146 rfl dX12_does_19 rfl ?_
        refine x_iload_n C dX12_does_22 rfl 1 rfl rfl ?_
        refine x_iconst C (v := 1) dX12_does_23 (by decide) rfl ?_
        refine x_iadd C (v := (nI (l0 + 1))) dX12_does_24 (nI_add l0 1) rfl ?_
        obtain ⟨_, k63, g64, gb65, rfl⟩ := hWl17 18 _ rfl
        refine x_ialk C (v := nI (g64 (l0 + 1))) (l0 + 1) (nI_clamp (by omega)) (nI_pos (by omega)) (by omega) 18 k63 rfl dX12_does_25 rfl ?_
        have bx66 := gb65 (l0 + 1)
        refine x_icmp_ge C (tgt := 135) dX12_does_26 (by decide) rfl (fun c67 => ?_) (fun c67 => ?_)
        · skip
          have nf68 := nI_le' (a := (g64 (l0 + 1))) (b := k) c67 (by omega) (by omega)
          refine x_iconst C (v := 1) dX12_does_135 (by decide) rfl ?_
          exact x_zret C hr hlk rfl dX12_does_136 ⟨hWl17, kq17, (Or.inr rfl)⟩
        · skip
          have nf69 := nI_nle' (a := (g64 (l0 + 1))) (b := k) c67 (by omega) (by omega)
          refine x_aload_n C dX12_does_29 rfl 0 rfl rfl ?_
          refine x_get C (ci := 11) (k := 29) 0 k37 rfl in_X12 (by decide) w_1147 rfl dX12_does_30 rfl ?_
          refine x_iload_n C dX12_does_33 rfl 1 rfl rfl ?_
          obtain ⟨_, k70, f71, rfl⟩ := hWl17 19 _ rfl
          refine x_iald C (v := (f71 (nI l0).toNatClampNeg)) 19 k70 (vp_in_nI (by omega) (by decide)) rfl dX12_does_34 rfl ?_
          refine x_any (fun v72 => ?_)
          by_cases e73 : v72 = 33
          · refine x_look C (off := 52) (tgt := 87) dX12_does_35 (by decide) (by rw [e73]; decide) (by decide) ?_
            refine x_aload_n C dX12_does_87 rfl 0 rfl rfl ?_
            refine x_aload_n C dX12_does_88 rfl 0 rfl rfl ?_
            refine x_get C (ci := 11) (k := 31) 0 k37 rfl in_X12 (by decide) w_1149 rfl dX12_does_89 rfl ?_
            refine x_iload_n C dX12_does_92 rfl 2 rfl rfl ?_
            obtain ⟨_, k74, g75, gb76, rfl⟩ := hWl17 21 _ rfl
            refine x_ialk C (v := nI (g75 k)) k (nI_clamp (by omega)) (nI_pos (by omega)) (by omega) 21 k74 rfl dX12_does_93 rfl ?_
            have bx77 := gb76 k
            refine x_aload_n C dX12_does_94 rfl 0 rfl rfl ?_
            refine x_get C (ci := 11) (k := 30) 0 k37 rfl in_X12 (by decide) w_1148 rfl dX12_does_95 rfl ?_
            refine x_iload_n C dX12_does_98 rfl 1 rfl rfl ?_
            obtain ⟨_, k78, g79, gb80, rfl⟩ := hWl17 20 _ rfl
            refine x_ialk C (v := nI (g79 l0)) l0 (nI_clamp (by omega)) (nI_pos (by omega)) (by omega) 20 k78 rfl dX12_does_99 rfl ?_
            have bx81 := gb80 l0
            refine x_vv C (As := [.int (nI (g75 k)), .int (nI (g79 l0))]) (rest := []) (m_worksBy E l a cd hG kf jn js jq wl17 hWl17 (g75 k) (g79 l0) (by omega) (by omega)) mf_X12_worksBy w_1447 0 k37 rfl rfl rfl (Nat.le_of_ble_eq_true rfl) ⟨(Nat.le_of_ble_eq_true rfl), (Nat.le_of_ble_eq_true rfl)⟩ ⟨(Nat.le_of_ble_eq_true rfl), (Nat.le_of_ble_eq_true rfl)⟩ dX12_does_100 rfl (fun w84 h82 => ?_)
            obtain ⟨hW85, kq86⟩ := h82
            have k87 : w84[0]? = some (ob (a 0) 11 [.ref (a 1), .ref (a 2), .ref (a 3), .ref (a 4), .int (nI n38), .int (nI n40), .int (nI n42), .int v44, .int v45, .int v46, .int (nI n47), .int (nI n49), .int (nI n51), .int (nI (cd.2.2.2.2.2)), .ref (a 5), .ref (a 6), .ref (a 7), .ref (a 8), .ref (a 9), .ref (a 10), .ref (a 11), .ref (a 12), .ref (a 13), .ref (a 14), .ref (a 15), .ref (a 16), .ref (a 17), .int (nI n53), .ref (a 18), .ref (a 19), .ref (a 20), .ref (a 21), .int v55, .int v56, .int v57, .int v58, .int (nI n59), .int (nI n61), .ref (a 22), .ref (a 23), .ref (a 24), .ref (a 25), .ref (a 26), .ref (a 27), .ref (a 28), .ref (a 29), .ref (a 30), .int kf]) := keeps_at kq86 k37 (by first | decide | omega | (dsimp only; omega))
            have k88 : w84[18]? = some (iA E (a 18) 25 (fun j => nI (g64 j))) := keeps_at kq86 k63 (by first | decide | omega | (dsimp only; omega))
            have k89 : w84[19]? = some (iA E (a 19) 24 f71) := keeps_at kq86 k70 (by first | decide | omega | (dsimp only; omega))
            have k90 : w84[21]? = some (iA E (a 21) 192 (fun j => nI (g75 j))) := keeps_at kq86 k74 (by first | decide | omega | (dsimp only; omega))
            have k91 : w84[20]? = some (iA E (a 20) 24 (fun j => nI (g79 j))) := keeps_at kq86 k78 (by first | decide | omega | (dsimp only; omega))
            have kp92 := keeps_tr kq17 kq86 (fun q hq => by first | omega | (dsimp only at *; omega))
            refine x_goto C (tgt := 129) dX12_does_103 (by decide) ?_
            refine x_iinc C (v := (nI (k + 1))) (lv' := [(2, .int (nI (k + 1))), (0, .ref (a 0)), (1, .int (nI l0))]) dX12_does_129 2 rfl (nI_add k 1) (by decide) rfl rfl ?_
            refine x_goto C (tgt := 17) dX12_does_132 (by decide) ?_
            refine x_lv (lv1 := [(0, .ref (a 0)), (1, .int (nI l0)), (2, .int (nI (k + 1)))]) [1, 2, 0] rfl ?_
            exact ih17 (k + 1) w84 hW85 (by omega) (by omega) kp92
          by_cases e93 : v72 = 46
          · refine x_look C (off := 71) (tgt := 106) dX12_does_35 (by decide) (by rw [e93]; decide) (by decide) ?_
            refine x_aload_n C dX12_does_106 rfl 0 rfl rfl ?_
            refine x_aload_n C dX12_does_107 rfl 0 rfl rfl ?_
            refine x_get C (ci := 11) (k := 31) 0 k37 rfl in_X12 (by decide) w_1149 rfl dX12_does_108 rfl ?_
            refine x_iload_n C dX12_does_111 rfl 2 rfl rfl ?_
            obtain ⟨_, k94, g95, gb96, rfl⟩ := hWl17 21 _ rfl
            refine x_ialk C (v := nI (g95 k)) k (nI_clamp (by omega)) (nI_pos (by omega)) (by omega) 21 k94 rfl dX12_does_112 rfl ?_
            have bx97 := gb96 k
            refine x_vv C (As := [.int (nI (g95 k))]) (rest := []) (m_breaks E l a cd hG kf jn js jq wl17 hWl17 (g95 k) (by omega)) mf_X12_breaks w_1474 0 k37 rfl rfl rfl (Nat.le_of_ble_eq_true rfl) ⟨(Nat.le_of_ble_eq_true rfl), (Nat.le_of_ble_eq_true rfl)⟩ ⟨(Nat.le_of_ble_eq_true rfl), (Nat.le_of_ble_eq_true rfl)⟩ dX12_does_113 rfl (fun w100 h98 => ?_)
            obtain ⟨hW101, kq102⟩ := h98
            have k103 : w100[0]? = some (ob (a 0) 11 [.ref (a 1), .ref (a 2), .ref (a 3), .ref (a 4), .int (nI n38), .int (nI n40), .int (nI n42), .int v44, .int v45, .int v46, .int (nI n47), .int (nI n49), .int (nI n51), .int (nI (cd.2.2.2.2.2)), .ref (a 5), .ref (a 6), .ref (a 7), .ref (a 8), .ref (a 9), .ref (a 10), .ref (a 11), .ref (a 12), .ref (a 13), .ref (a 14), .ref (a 15), .ref (a 16), .ref (a 17), .int (nI n53), .ref (a 18), .ref (a 19), .ref (a 20), .ref (a 21), .int v55, .int v56, .int v57, .int v58, .int (nI n59), .int (nI n61), .ref (a 22), .ref (a 23), .ref (a 24), .ref (a 25), .ref (a 26), .ref (a 27), .ref (a 28), .ref (a 29), .ref (a 30), .int kf]) := keeps_at kq102 k37 (by first | decide | omega | (dsimp only; omega))
            have k104 : w100[18]? = some (iA E (a 18) 25 (fun j => nI (g64 j))) := keeps_at kq102 k63 (by first | decide | omega | (dsimp only; omega))
            have k105 : w100[19]? = some (iA E (a 19) 24 f71) := keeps_at kq102 k70 (by first | decide | omega | (dsimp only; omega))
            have k106 : w100[21]? = some (iA E (a 21) 192 (fun j => nI (g95 j))) := keeps_at kq102 k94 (by first | decide | omega | (dsimp only; omega))
            have kp107 := keeps_tr kq17 kq102 (fun q hq => by first | omega | (dsimp only at *; omega))
            refine x_goto C (tgt := 129) dX12_does_116 (by decide) ?_
            refine x_iinc C (v := (nI (k + 1))) (lv' := [(2, .int (nI (k + 1))), (0, .ref (a 0)), (1, .int (nI l0))]) dX12_does_129 2 rfl (nI_add k 1) (by decide) rfl rfl ?_
            refine x_goto C (tgt := 17) dX12_does_132 (by decide) ?_
            refine x_lv (lv1 := [(0, .ref (a 0)), (1, .int (nI l0)), (2, .int (nI (k + 1)))]) [1, 2, 0] rfl ?_
            exact ih17 (k + 1) w100 hW101 (by omega) (by omega) kp107
          by_cases e108 : v72 = 62
          · refine x_look C (off := 33) (tgt := 68) dX12_does_35 (by decide) (by rw [e108]; decide) (by decide) ?_
            refine x_aload_n C dX12_does_68 rfl 0 rfl rfl ?_
            refine x_aload_n C dX12_does_69 rfl 0 rfl rfl ?_
            refine x_get C (ci := 11) (k := 31) 0 k37 rfl in_X12 (by decide) w_1149 rfl dX12_does_70 rfl ?_
            refine x_iload_n C dX12_does_73 rfl 2 rfl rfl ?_
            obtain ⟨_, k109, g110, gb111, rfl⟩ := hWl17 21 _ rfl
            refine x_ialk C (v := nI (g110 k)) k (nI_clamp (by omega)) (nI_pos (by omega)) (by omega) 21 k109 rfl dX12_does_74 rfl ?_
            have bx112 := gb111 k
            refine x_aload_n C dX12_does_75 rfl 0 rfl rfl ?_
            refine x_get C (ci := 11) (k := 30) 0 k37 rfl in_X12 (by decide) w_1148 rfl dX12_does_76 rfl ?_
            refine x_iload_n C dX12_does_79 rfl 1 rfl rfl ?_
            obtain ⟨_, k113, g114, gb115, rfl⟩ := hWl17 20 _ rfl
            refine x_ialk C (v := nI (g114 l0)) l0 (nI_clamp (by omega)) (nI_pos (by omega)) (by omega) 20 k113 rfl dX12_does_80 rfl ?_
            have bx116 := gb115 l0
            refine x_vv C (As := [.int (nI (g110 k)), .int (nI (g114 l0))]) (rest := []) (m_gives E l a cd hG kf jn js jq wl17 hWl17 (g110 k) (g114 l0) (by omega) (by omega)) mf_X12_gives w_1443 0 k37 rfl rfl rfl (Nat.le_of_ble_eq_true rfl) ⟨(Nat.le_of_ble_eq_true rfl), (Nat.le_of_ble_eq_true rfl)⟩ ⟨(Nat.le_of_ble_eq_true rfl), (Nat.le_of_ble_eq_true rfl)⟩ dX12_does_81 rfl (fun w119 h117 => ?_)
            obtain ⟨hW120, kq121⟩ := h117
            have k122 : w119[0]? = some (ob (a 0) 11 [.ref (a 1), .ref (a 2), .ref (a 3), .ref (a 4), .int (nI n38), .int (nI n40), .int (nI n42), .int v44, .int v45, .int v46, .int (nI n47), .int (nI n49), .int (nI n51), .int (nI (cd.2.2.2.2.2)), .ref (a 5), .ref (a 6), .ref (a 7), .ref (a 8), .ref (a 9), .ref (a 10), .ref (a 11), .ref (a 12), .ref (a 13), .ref (a 14), .ref (a 15), .ref (a 16), .ref (a 17), .int (nI n53), .ref (a 18), .ref (a 19), .ref (a 20), .ref (a 21), .int v55, .int v56, .int v57, .int v58, .int (nI n59), .int (nI n61), .ref (a 22), .ref (a 23), .ref (a 24), .ref (a 25), .ref (a 26), .ref (a 27), .ref (a 28), .ref (a 29), .ref (a 30), .int kf]) := keeps_at kq121 k37 (by first | decide | omega | (dsimp only; omega))
            have k123 : w119[18]? = some (iA E (a 18) 25 (fun j => nI (g64 j))) := keeps_at kq121 k63 (by first | decide | omega | (dsimp only; omega))
            have k124 : w119[19]? = some (iA E (a 19) 24 f71) := keeps_at kq121 k70 (by first | decide | omega | (dsimp only; omega))
            have k125 : w119[21]? = some (iA E (a 21) 192 (fun j => nI (g110 j))) := keeps_at kq121 k109 (by first | decide | omega | (dsimp only; omega))
            have k126 : w119[20]? = some (iA E (a 20) 24 (fun j => nI (g114 j))) := keeps_at kq121 k113 (by first | decide | omega | (dsimp only; omega))
            have kp127 := keeps_tr kq17 kq121 (fun q hq => by first | omega | (dsimp only at *; omega))
            refine x_goto C (tgt := 129) dX12_does_84 (by decide) ?_
            refine x_iinc C (v := (nI (k + 1))) (lv' := [(2, .int (nI (k + 1))), (0, .ref (a 0)), (1, .int (nI l0))]) dX12_does_129 2 rfl (nI_add k 1) (by decide) rfl rfl ?_
            refine x_goto C (tgt := 17) dX12_does_132 (by decide) ?_
            refine x_lv (lv1 := [(0, .ref (a 0)), (1, .int (nI l0)), (2, .int (nI (k + 1)))]) [1, 2, 0] rfl ?_
            exact ih17 (k + 1) w119 hW120 (by omega) (by omega) kp127
          refine x_look C (off := 84) (tgt := 119) dX12_does_35 (by decide) ((lv_osw e73 (by decide)).trans ((lv_osw e93 (by decide)).trans ((lv_osw e108 (by decide)).trans rfl))) (by decide) ?_
          refine x_aload_n C dX12_does_119 rfl 0 rfl rfl ?_
          refine x_aload_n C dX12_does_120 rfl 0 rfl rfl ?_
          refine x_get C (ci := 11) (k := 31) 0 k37 rfl in_X12 (by decide) w_1149 rfl dX12_does_121 rfl ?_
          refine x_iload_n C dX12_does_124 rfl 2 rfl rfl ?_
          obtain ⟨_, k128, g129, gb130, rfl⟩ := hWl17 21 _ rfl
          refine x_ialk C (v := nI (g129 k)) k (nI_clamp (by omega)) (nI_pos (by omega)) (by omega) 21 k128 rfl dX12_does_125 rfl ?_
          have bx131 := gb130 k
          refine x_vv C (As := [.int (nI (g129 k))]) (rest := []) (m_broods E l a cd hG kf jn js jq wl17 hWl17 (g129 k) (by omega)) mf_X12_broods w_1482 0 k37 rfl rfl rfl (Nat.le_of_ble_eq_true rfl) ⟨(Nat.le_of_ble_eq_true rfl), (Nat.le_of_ble_eq_true rfl)⟩ ⟨(Nat.le_of_ble_eq_true rfl), (Nat.le_of_ble_eq_true rfl)⟩ dX12_does_126 rfl (fun w134 h132 => ?_)
          obtain ⟨hW135, kq136⟩ := h132
          have k137 : w134[0]? = some (ob (a 0) 11 [.ref (a 1), .ref (a 2), .ref (a 3), .ref (a 4), .int (nI n38), .int (nI n40), .int (nI n42), .int v44, .int v45, .int v46, .int (nI n47), .int (nI n49), .int (nI n51), .int (nI (cd.2.2.2.2.2)), .ref (a 5), .ref (a 6), .ref (a 7), .ref (a 8), .ref (a 9), .ref (a 10), .ref (a 11), .ref (a 12), .ref (a 13), .ref (a 14), .ref (a 15), .ref (a 16), .ref (a 17), .int (nI n53), .ref (a 18), .ref (a 19), .ref (a 20), .ref (a 21), .int v55, .int v56, .int v57, .int v58, .int (nI n59), .int (nI n61), .ref (a 22), .ref (a 23), .ref (a 24), .ref (a 25), .ref (a 26), .ref (a 27), .ref (a 28), .ref (a 29), .ref (a 30), .int kf]) := keeps_at kq136 k37 (by first | decide | omega | (dsimp only; omega))
          have k138 : w134[18]? = some (iA E (a 18) 25 (fun j => nI (g64 j))) := keeps_at kq136 k63 (by first | decide | omega | (dsimp only; omega))
          have k139 : w134[19]? = some (iA E (a 19) 24 f71) := keeps_at kq136 k70 (by first | decide | omega | (dsimp only; omega))
          have k140 : w134[21]? = some (iA E (a 21) 192 (fun j => nI (g129 j))) := keeps_at kq136 k128 (by first | decide | omega | (dsimp only; omega))
          have kp141 := keeps_tr kq17 kq136 (fun q hq => by first | omega | (dsimp only at *; omega))
          refine x_iinc C (v := (nI (k + 1))) (lv' := [(2, .int (nI (k + 1))), (0, .ref (a 0)), (1, .int (nI l0))]) dX12_does_129 2 rfl (nI_add k 1) (by decide) rfl rfl ?_
          refine x_goto C (tgt := 17) dX12_does_132 (by decide) ?_
          refine x_lv (lv1 := [(0, .ref (a 0)), (1, .int (nI l0)), (2, .int (nI (k + 1)))]) [1, 2, 0] rfl ?_
          exact ih17 (k + 1) w134 hW135 (by omega) (by omega) kp141
    refine x_lv (lv1 := [(0, .ref (a 0)), (1, .int (nI l0)), (2, .int (nI (g34 l0)))]) [1, 2, 0] rfl ?_
    exact loop17 _ (g34 l0) ws hW (Nat.lt_succ_self _) (by omega) kp0
  · skip
    refine x_iconst C (v := 0) dX12_does_8 (by decide) rfl ?_
    exact x_zret C hr hlk rfl dX12_does_9 ⟨hW, kp0, (Or.inl rfl)⟩
theorem dX12_acts_0 : decode cX12_acts 0 = .ok (.iload_n 1, 1) := by decide +kernel
theorem dX12_acts_1 : decode cX12_acts 1 = .ok (.iconst 1, 1) := by decide +kernel
theorem dX12_acts_2 : decode cX12_acts 2 = .ok (.sipush 140, 3) := by decide +kernel
theorem dX12_acts_5 : decode cX12_acts 5 = .ok (.invokestatic 109, 3) := by decide +kernel
theorem dX12_acts_8 : decode cX12_acts 8 = .ok (.ifCond .eq 11, 3) := by decide +kernel
theorem dX12_acts_11 : decode cX12_acts 11 = .ok (.iload_n 1, 1) := by decide +kernel
theorem dX12_acts_12 : decode cX12_acts 12 = .ok (.aload_n 0, 1) := by decide +kernel
theorem dX12_acts_13 : decode cX12_acts 13 = .ok (.getfield 123, 3) := by decide +kernel
theorem dX12_acts_16 : decode cX12_acts 16 = .ok (.if_icmp .le 5, 3) := by decide +kernel
theorem dX12_acts_19 : decode cX12_acts 19 = .ok (.iconst (-1), 1) := by decide +kernel
theorem dX12_acts_20 : decode cX12_acts 20 = .ok (.ireturn, 1) := by decide +kernel
theorem dX12_acts_21 : decode cX12_acts 21 = .ok (.aload_n 0, 1) := by decide +kernel
theorem dX12_acts_22 : decode cX12_acts 22 = .ok (.iload_n 1, 1) := by decide +kernel
theorem dX12_acts_23 : decode cX12_acts 23 = .ok (.invokevirtual 293, 3) := by decide +kernel
theorem dX12_acts_26 : decode cX12_acts 26 = .ok (.ifCond .ne 8, 3) := by decide +kernel
theorem dX12_acts_29 : decode cX12_acts 29 = .ok (.aload_n 0, 1) := by decide +kernel
theorem dX12_acts_30 : decode cX12_acts 30 = .ok (.getfield 141, 3) := by decide +kernel
theorem dX12_acts_33 : decode cX12_acts 33 = .ok (.ireturn, 1) := by decide +kernel
theorem dX12_acts_34 : decode cX12_acts 34 = .ok (.iconst 0, 1) := by decide +kernel
theorem dX12_acts_35 : decode cX12_acts 35 = .ok (.istore_n 2, 1) := by decide +kernel
theorem dX12_acts_36 : decode cX12_acts 36 = .ok (.iconst 0, 1) := by decide +kernel
theorem dX12_acts_37 : decode cX12_acts 37 = .ok (.istore_n 3, 1) := by decide +kernel
theorem dX12_acts_38 : decode cX12_acts 38 = .ok (.iload_n 3, 1) := by decide +kernel
theorem dX12_acts_39 : decode cX12_acts 39 = .ok (.aload_n 0, 1) := by decide +kernel
theorem dX12_acts_40 : decode cX12_acts 40 = .ok (.getfield 247, 3) := by decide +kernel
theorem dX12_acts_43 : decode cX12_acts 43 = .ok (.if_icmp .ge 25, 3) := by decide +kernel
theorem dX12_acts_46 : decode cX12_acts 46 = .ok (.iload_n 2, 1) := by decide +kernel
theorem dX12_acts_47 : decode cX12_acts 47 = .ok (.aload_n 0, 1) := by decide +kernel
theorem dX12_acts_48 : decode cX12_acts 48 = .ok (.iload_n 3, 1) := by decide +kernel
theorem dX12_acts_49 : decode cX12_acts 49 = .ok (.invokevirtual 296, 3) := by decide +kernel
theorem dX12_acts_52 : decode cX12_acts 52 = .ok (.ifCond .eq 7, 3) := by decide +kernel
theorem dX12_acts_55 : decode cX12_acts 55 = .ok (.iconst 1, 1) := by decide +kernel
theorem dX12_acts_56 : decode cX12_acts 56 = .ok (.goto 4, 3) := by decide +kernel
theorem dX12_acts_59 : decode cX12_acts 59 = .ok (.iconst 0, 1) := by decide +kernel
theorem dX12_acts_60 : decode cX12_acts 60 = .ok (.iadd, 1) := by decide +kernel
theorem dX12_acts_61 : decode cX12_acts 61 = .ok (.istore_n 2, 1) := by decide +kernel
theorem dX12_acts_62 : decode cX12_acts 62 = .ok (.iinc 3 1, 3) := by decide +kernel
theorem dX12_acts_65 : decode cX12_acts 65 = .ok (.goto (-27), 3) := by decide +kernel
theorem dX12_acts_68 : decode cX12_acts 68 = .ok (.iload_n 2, 1) := by decide +kernel
theorem dX12_acts_69 : decode cX12_acts 69 = .ok (.ireturn, 1) := by decide +kernel
set_option maxRecDepth 20000 in
set_option maxHeartbeats 4000000 in
theorem m_acts (E : xE) (l : Launch) (a : Nat → Nat) (cd : Cd) (hG : Good cd) (kf : Int32) (jn js jq : Lb) (ws : va_W) (hW : WX (okM E a cd kf jn js jq) ws) (p0 : Int32) : xI E l yX12_acts cX12_acts 4 (some .int) 8 [.ref (a 0), .int p0] ws (fun r w => WX (okM E a cd kf jn js jq) w) := by
  refine xI_start (lv := [(0, .ref (a 0)), (1, .int p0)]) RX12 (by decide) rfl (Nat.le_of_ble_eq_true rfl) rfl (fun p e s m below meth c A C hr hlk => ?_)
  refine x_iload_n C dX12_acts_0 rfl 1 rfl rfl ?_
  refine x_iconst C (v := 1) dX12_acts_1 (by decide) rfl ?_
  refine x_sipush C (v := 140) dX12_acts_2 (by decide) rfl ?_
  refine x_si C (As := [.int p0, .int 1, .int 140]) (rest := []) (m_in E l a cd hG kf jn js jq ws hW p0 (1 : Int32) (140 : Int32)) mf_X12_in w_1267 rfl rfl (Nat.le_of_ble_eq_true rfl) ⟨(Nat.le_of_ble_eq_true rfl), (Nat.le_of_ble_eq_true rfl)⟩ ⟨(Nat.le_of_ble_eq_true rfl), (Nat.le_of_ble_eq_true rfl)⟩ dX12_acts_5 rfl (fun r2 w3 h1 => ?_)
  obtain ⟨hW4, zb5, x6⟩ := h1
  refine x_ws hW4 ?_
  refine x_if_eq C (tgt := 19) dX12_acts_8 (by decide) rfl (fun c7 => ?_) (fun c7 => ?_)
  · skip
    refine x_iconst C (v := (-1)) dX12_acts_19 (by decide) rfl ?_
    exact x_zret C hr hlk rfl dX12_acts_20 hW
  · skip
    obtain ⟨j8, hl9, hh10, ej11⟩ := w_nat (a := 1) (b := 140) (by decide) (by decide) (x6 c7)
    subst ej11
    refine x_iload_n C dX12_acts_11 rfl 1 rfl rfl ?_
    refine x_aload_n C dX12_acts_12 rfl 0 rfl rfl ?_
    obtain ⟨_, k12, n13, n15, n17, v19, v20, v21, n22, n24, n26, n28, v30, v31, v32, v33, n34, n36, bn14, bn16, bn18, bn23, bn25, bn27, bn29, bn35, bn37, rfl⟩ := hW 0 _ rfl
    refine x_get C (ci := 11) (k := 4) 0 k12 rfl in_X12 (by decide) w_1122 rfl dX12_acts_13 rfl ?_
    refine x_icmp_le C (tgt := 21) dX12_acts_16 (by decide) rfl (fun c38 => ?_) (fun c38 => ?_)
    · skip
      have nf39 := nI_le' (a := j8) (b := n13) c38 (by omega) (by omega)
      refine x_aload_n C dX12_acts_21 rfl 0 rfl rfl ?_
      refine x_iload_n C dX12_acts_22 rfl 1 rfl rfl ?_
      refine x_vi C (As := [.int (nI j8)]) (rest := []) (m_readsLines E l a cd hG kf jn js jq ws hW j8 (by omega)) mf_X12_readsLines w_1399 0 k12 rfl rfl rfl (Nat.le_of_ble_eq_true rfl) ⟨(Nat.le_of_ble_eq_true rfl), (Nat.le_of_ble_eq_true rfl)⟩ ⟨(Nat.le_of_ble_eq_true rfl), (Nat.le_of_ble_eq_true rfl)⟩ dX12_acts_23 rfl (fun r41 w42 h40 => ?_)
      obtain ⟨hW43, kq44, zb45⟩ := h40
      refine x_if_ne C (tgt := 34) dX12_acts_26 (by decide) rfl (fun c46 => ?_) (fun c46 => ?_)
      · skip
        refine x_iconst C (v := 0) dX12_acts_34 (by decide) rfl ?_
        refine x_istore_n C (lv' := [(2, .int 0), (0, .ref (a 0)), (1, .int (nI j8))]) dX12_acts_35 rfl (by decide) rfl rfl ?_
        refine x_iconst C (v := 0) dX12_acts_36 (by decide) rfl ?_
        refine x_istore_n C (lv' := [(3, .int 0), (2, .int 0), (0, .ref (a 0)), (1, .int (nI j8))]) dX12_acts_37 rfl (by decide) rfl rfl ?_
        have loop38 : ∀ (fu38 : Nat) (z38_2 : Int32) (l0 : Nat) (wl38 : va_W), WX (okM E a cd kf jn js jq) wl38 → 24 - l0 < fu38 → l0 ≤ 24 → X E p l e (xRm 8 0 0) s m ([.ref (a 0), .int (nI j8)] : List Value).toArray below meth c A 4 0 0 (MQ below (va_Qi (fun r w => WX (okM E a cd kf jn js jq) w) (xB E A) A) ([.ref (a 0), .int (nI j8)] : List Value).toArray s 0 0 A) wl38 38 [(0, .ref (a 0)), (1, .int (nI j8)), (2, .int z38_2), (3, .int (nI l0))] [] := by
          intro fu38
          induction fu38 with
          | zero => intro z38_2 l0 wl38 _ q; omega
          | succ fu38 ih38 =>
            intro z38_2 l0 wl38 hWl38 me38 iv38_0
            refine x_iload_n C dX12_acts_38 rfl 3 rfl rfl ?_
            refine x_aload_n C dX12_acts_39 rfl 0 rfl rfl ?_
            obtain ⟨_, k47, n48, n50, n52, v54, v55, v56, n57, n59, n61, n63, v65, v66, v67, v68, n69, n71, bn49, bn51, bn53, bn58, bn60, bn62, bn64, bn70, bn72, rfl⟩ := hWl38 0 _ rfl
            refine x_get C (ci := 11) (k := 27) 0 k47 rfl in_X12 (by decide) w_1145 rfl dX12_acts_40 rfl ?_
            refine x_icmp_ge C (tgt := 68) dX12_acts_43 (by decide) rfl (fun c73 => ?_) (fun c73 => ?_)
            · skip
              have nf74 := nI_le' (a := n63) (b := l0) c73 (by omega) (by omega)
              refine x_iload_n C dX12_acts_68 rfl 2 rfl rfl ?_
              exact x_zret C hr hlk rfl dX12_acts_69 hWl38
            · skip
              have nf75 := nI_nle' (a := n63) (b := l0) c73 (by omega) (by omega)
              refine x_iload_n C dX12_acts_46 rfl 2 rfl rfl ?_
              refine x_aload_n C dX12_acts_47 rfl 0 rfl rfl ?_
              refine x_iload_n C dX12_acts_48 rfl 3 rfl rfl ?_
              refine x_vi C (As := [.int (nI l0)]) (rest := [.int z38_2]) (m_does E l a cd hG kf jn js jq wl38 hWl38 l0 (by omega)) mf_X12_does w_1419 0 k47 rfl rfl rfl (Nat.le_of_ble_eq_true rfl) ⟨(Nat.le_of_ble_eq_true rfl), (Nat.le_of_ble_eq_true rfl)⟩ ⟨(Nat.le_of_ble_eq_true rfl), (Nat.le_of_ble_eq_true rfl)⟩ dX12_acts_49 rfl (fun r77 w78 h76 => ?_)
              obtain ⟨hW79, kq80, zb81⟩ := h76
              have k82 : w78[0]? = some (ob (a 0) 11 [.ref (a 1), .ref (a 2), .ref (a 3), .ref (a 4), .int (nI n48), .int (nI n50), .int (nI n52), .int v54, .int v55, .int v56, .int (nI n57), .int (nI n59), .int (nI n61), .int (nI (cd.2.2.2.2.2)), .ref (a 5), .ref (a 6), .ref (a 7), .ref (a 8), .ref (a 9), .ref (a 10), .ref (a 11), .ref (a 12), .ref (a 13), .ref (a 14), .ref (a 15), .ref (a 16), .ref (a 17), .int (nI n63), .ref (a 18), .ref (a 19), .ref (a 20), .ref (a 21), .int v65, .int v66, .int v67, .int v68, .int (nI n69), .int (nI n71), .ref (a 22), .ref (a 23), .ref (a 24), .ref (a 25), .ref (a 26), .ref (a 27), .ref (a 28), .ref (a 29), .ref (a 30), .int kf]) := keeps_at kq80 k47 (by first | decide | omega | (dsimp only; omega))
              refine x_if_eq C (tgt := 59) dX12_acts_52 (by decide) rfl (fun c83 => ?_) (fun c83 => ?_)
              · skip
                refine x_iconst C (v := 0) dX12_acts_59 (by decide) rfl ?_
                refine x_iadd C (v := (z38_2 + (0 : Int32))) dX12_acts_60 rfl rfl ?_
                refine x_any (fun v84 => ?_)
                refine x_istore_n C (lv' := [(2, .int v84), (0, .ref (a 0)), (1, .int (nI j8)), (3, .int (nI l0))]) dX12_acts_61 rfl (by decide) rfl rfl ?_
                refine x_iinc C (v := (nI (l0 + 1))) (lv' := [(3, .int (nI (l0 + 1))), (2, .int v84), (0, .ref (a 0)), (1, .int (nI j8))]) dX12_acts_62 3 rfl (nI_add l0 1) (by decide) rfl rfl ?_
                refine x_goto C (tgt := 38) dX12_acts_65 (by decide) ?_
                refine x_lv (lv1 := [(0, .ref (a 0)), (1, .int (nI j8)), (2, .int v84), (3, .int (nI (l0 + 1)))]) [2, 3, 1, 0] rfl ?_
                exact ih38 v84 (l0 + 1) w78 hW79 (by omega) (by omega)
              · skip
                refine x_iconst C (v := 1) dX12_acts_55 (by decide) rfl ?_
                refine x_goto C (tgt := 60) dX12_acts_56 (by decide) ?_
                refine x_iadd C (v := (z38_2 + (1 : Int32))) dX12_acts_60 rfl rfl ?_
                refine x_any (fun v85 => ?_)
                refine x_istore_n C (lv' := [(2, .int v85), (0, .ref (a 0)), (1, .int (nI j8)), (3, .int (nI l0))]) dX12_acts_61 rfl (by decide) rfl rfl ?_
                refine x_iinc C (v := (nI (l0 + 1))) (lv' := [(3, .int (nI (l0 + 1))), (2, .int v85), (0, .ref (a 0)), (1, .int (nI j8))]) dX12_acts_62 3 rfl (nI_add l0 1) (by decide) rfl rfl ?_
                refine x_goto C (tgt := 38) dX12_acts_65 (by decide) ?_
                refine x_lv (lv1 := [(0, .ref (a 0)), (1, .int (nI j8)), (2, .int v85), (3, .int (nI (l0 + 1)))]) [2, 3, 1, 0] rfl ?_
                exact ih38 v85 (l0 + 1) w78 hW79 (by omega) (by omega)
        refine x_lv (lv1 := [(0, .ref (a 0)), (1, .int (nI j8)), (2, .int 0), (3, .int 0)]) [2, 3, 1, 0] rfl ?_
        exact loop38 _ (0 : Int32) 0 w42 hW43 (Nat.lt_succ_self _) (by omega)
      · skip
        refine x_aload_n C dX12_acts_29 rfl 0 rfl rfl ?_
        obtain ⟨_, k86, n87, n89, n91, v93, v94, v95, n96, n98, n100, n102, v104, v105, v106, v107, n108, n110, bn88, bn90, bn92, bn97, bn99, bn101, bn103, bn109, bn111, rfl⟩ := hW43 0 _ rfl
        refine x_get C (ci := 11) (k := 7) 0 k86 rfl in_X12 (by decide) w_1125 rfl dX12_acts_30 rfl ?_
        exact x_zret C hr hlk rfl dX12_acts_33 hW43
    · skip
      have nf112 := nI_nle' (a := j8) (b := n13) c38 (by omega) (by omega)
      refine x_iconst C (v := (-1)) dX12_acts_19 (by decide) rfl ?_
      exact x_zret C hr hlk rfl dX12_acts_20 hW
theorem dX12_judged_0 : decode cX12_judged 0 = .ok (.iload_n 1, 1) := by decide +kernel
theorem dX12_judged_1 : decode cX12_judged 1 = .ok (.iconst 1, 1) := by decide +kernel
theorem dX12_judged_2 : decode cX12_judged 2 = .ok (.sipush 140, 3) := by decide +kernel
theorem dX12_judged_5 : decode cX12_judged 5 = .ok (.invokestatic 109, 3) := by decide +kernel
theorem dX12_judged_8 : decode cX12_judged 8 = .ok (.ifCond .eq 11, 3) := by decide +kernel
theorem dX12_judged_11 : decode cX12_judged 11 = .ok (.iload_n 1, 1) := by decide +kernel
theorem dX12_judged_12 : decode cX12_judged 12 = .ok (.aload_n 0, 1) := by decide +kernel
theorem dX12_judged_13 : decode cX12_judged 13 = .ok (.getfield 123, 3) := by decide +kernel
theorem dX12_judged_16 : decode cX12_judged 16 = .ok (.if_icmp .le 5, 3) := by decide +kernel
theorem dX12_judged_19 : decode cX12_judged 19 = .ok (.iconst (-1), 1) := by decide +kernel
theorem dX12_judged_20 : decode cX12_judged 20 = .ok (.ireturn, 1) := by decide +kernel
theorem dX12_judged_21 : decode cX12_judged 21 = .ok (.aload_n 0, 1) := by decide +kernel
theorem dX12_judged_22 : decode cX12_judged 22 = .ok (.iload_n 1, 1) := by decide +kernel
theorem dX12_judged_23 : decode cX12_judged 23 = .ok (.invokevirtual 293, 3) := by decide +kernel
theorem dX12_judged_26 : decode cX12_judged 26 = .ok (.ifCond .ne 8, 3) := by decide +kernel
theorem dX12_judged_29 : decode cX12_judged 29 = .ok (.aload_n 0, 1) := by decide +kernel
theorem dX12_judged_30 : decode cX12_judged 30 = .ok (.getfield 141, 3) := by decide +kernel
theorem dX12_judged_33 : decode cX12_judged 33 = .ok (.ireturn, 1) := by decide +kernel
theorem dX12_judged_34 : decode cX12_judged 34 = .ok (.aload_n 0, 1) := by decide +kernel
theorem dX12_judged_35 : decode cX12_judged 35 = .ok (.getfield 7, 3) := by decide +kernel
theorem dX12_judged_38 : decode cX12_judged 38 = .ok (.aload_n 0, 1) := by decide +kernel
theorem dX12_judged_39 : decode cX12_judged 39 = .ok (.getfield 13, 3) := by decide +kernel
theorem dX12_judged_42 : decode cX12_judged 42 = .ok (.invokestatic 299, 3) := by decide +kernel
theorem dX12_judged_45 : decode cX12_judged 45 = .ok (.iconst 0, 1) := by decide +kernel
theorem dX12_judged_46 : decode cX12_judged 46 = .ok (.istore_n 2, 1) := by decide +kernel
theorem dX12_judged_47 : decode cX12_judged 47 = .ok (.iload_n 2, 1) := by decide +kernel
theorem dX12_judged_48 : decode cX12_judged 48 = .ok (.aload_n 0, 1) := by decide +kernel
theorem dX12_judged_49 : decode cX12_judged 49 = .ok (.getfield 247, 3) := by decide +kernel
theorem dX12_judged_52 : decode cX12_judged 52 = .ok (.if_icmp .ge 18, 3) := by decide +kernel
theorem dX12_judged_55 : decode cX12_judged 55 = .ok (.aload_n 0, 1) := by decide +kernel
theorem dX12_judged_56 : decode cX12_judged 56 = .ok (.iload_n 2, 1) := by decide +kernel
theorem dX12_judged_57 : decode cX12_judged 57 = .ok (.invokevirtual 296, 3) := by decide +kernel
theorem dX12_judged_60 : decode cX12_judged 60 = .ok (.ifCond .eq 10, 3) := by decide +kernel
theorem dX12_judged_63 : decode cX12_judged 63 = .ok (.iload_n 2, 1) := by decide +kernel
theorem dX12_judged_64 : decode cX12_judged 64 = .ok (.iconst 1, 1) := by decide +kernel
theorem dX12_judged_65 : decode cX12_judged 65 = .ok (.iadd, 1) := by decide +kernel
theorem dX12_judged_66 : decode cX12_judged 66 = .ok (.istore_n 2, 1) := by decide +kernel
theorem dX12_judged_67 : decode cX12_judged 67 = .ok (.goto (-20), 3) := by decide +kernel
theorem dX12_judged_70 : decode cX12_judged 70 = .ok (.aload_n 0, 1) := by decide +kernel
theorem dX12_judged_71 : decode cX12_judged 71 = .ok (.getfield 13, 3) := by decide +kernel
theorem dX12_judged_74 : decode cX12_judged 74 = .ok (.aload_n 0, 1) := by decide +kernel
theorem dX12_judged_75 : decode cX12_judged 75 = .ok (.getfield 7, 3) := by decide +kernel
theorem dX12_judged_78 : decode cX12_judged 78 = .ok (.invokestatic 299, 3) := by decide +kernel
theorem dX12_judged_81 : decode cX12_judged 81 = .ok (.iload_n 2, 1) := by decide +kernel
theorem dX12_judged_82 : decode cX12_judged 82 = .ok (.ireturn, 1) := by decide +kernel
set_option maxRecDepth 20000 in
set_option maxHeartbeats 4000000 in
theorem m_judged (E : xE) (l : Launch) (a : Nat → Nat) (cd : Cd) (hG : Good cd) (kf : Int32) (jn js jq : Lb) (ws : va_W) (hW : WX (okM E a cd kf jn none jq) ws) (p0 : Int32) : xI E l yX12_judged cX12_judged 3 (some .int) 8 [.ref (a 0), .int p0] ws (fun r w => WX (okM E a cd kf jn none jq) w) := by
  refine xI_start (lv := [(0, .ref (a 0)), (1, .int p0)]) RX12 (by decide) rfl (Nat.le_of_ble_eq_true rfl) rfl (fun p e s m below meth c A C hr hlk => ?_)
  refine x_iload_n C dX12_judged_0 rfl 1 rfl rfl ?_
  refine x_iconst C (v := 1) dX12_judged_1 (by decide) rfl ?_
  refine x_sipush C (v := 140) dX12_judged_2 (by decide) rfl ?_
  refine x_si C (As := [.int p0, .int 1, .int 140]) (rest := []) (m_in E l a cd hG kf jn none jq ws hW p0 (1 : Int32) (140 : Int32)) mf_X12_in w_1267 rfl rfl (Nat.le_of_ble_eq_true rfl) ⟨(Nat.le_of_ble_eq_true rfl), (Nat.le_of_ble_eq_true rfl)⟩ ⟨(Nat.le_of_ble_eq_true rfl), (Nat.le_of_ble_eq_true rfl)⟩ dX12_judged_5 rfl (fun r2 w3 h1 => ?_)
  obtain ⟨hW4, zb5, x6⟩ := h1
  refine x_ws hW4 ?_
  refine x_if_eq C (tgt := 19) dX12_judged_8 (by decide) rfl (fun c7 => ?_) (fun c7 => ?_)
  · skip
    refine x_iconst C (v := (-1)) dX12_judged_19 (by decide) rfl ?_
    exact x_zret C hr hlk rfl dX12_judged_20 hW
  · skip
    obtain ⟨j8, hl9, hh10, ej11⟩ := w_nat (a := 1) (b := 140) (by decide) (by decide) (x6 c7)
    subst ej11
    refine x_iload_n C dX12_judged_11 rfl 1 rfl rfl ?_
    refine x_aload_n C dX12_judged_12 rfl 0 rfl rfl ?_
    obtain ⟨_, k12, n13, n15, n17, v19, v20, v21, n22, n24, n26, n28, v30, v31, v32, v33, n34, n36, bn14, bn16, bn18, bn23, bn25, bn27, bn29, bn35, bn37, rfl⟩ := hW 0 _ rfl
    refine x_get C (ci := 11) (k := 4) 0 k12 rfl in_X12 (by decide) w_1122 rfl dX12_judged_13 rfl ?_
    refine x_icmp_le C (tgt := 21) dX12_judged_16 (by decide) rfl (fun c38 => ?_) (fun c38 => ?_)
    · skip
      have nf39 := nI_le' (a := j8) (b := n13) c38 (by omega) (by omega)
      refine x_aload_n C dX12_judged_21 rfl 0 rfl rfl ?_
      refine x_iload_n C dX12_judged_22 rfl 1 rfl rfl ?_
      refine x_vi C (As := [.int (nI j8)]) (rest := []) (m_readsLines E l a cd hG kf jn none jq ws hW j8 (by omega)) mf_X12_readsLines w_1399 0 k12 rfl rfl rfl (Nat.le_of_ble_eq_true rfl) ⟨(Nat.le_of_ble_eq_true rfl), (Nat.le_of_ble_eq_true rfl)⟩ ⟨(Nat.le_of_ble_eq_true rfl), (Nat.le_of_ble_eq_true rfl)⟩ dX12_judged_23 rfl (fun r41 w42 h40 => ?_)
      obtain ⟨hW43, kq44, zb45⟩ := h40
      refine x_if_ne C (tgt := 34) dX12_judged_26 (by decide) rfl (fun c46 => ?_) (fun c46 => ?_)
      · skip
        refine x_aload_n C dX12_judged_34 rfl 0 rfl rfl ?_
        obtain ⟨_, k47, n48, n50, n52, v54, v55, v56, n57, n59, n61, n63, v65, v66, v67, v68, n69, n71, bn49, bn51, bn53, bn58, bn60, bn62, bn64, bn70, bn72, rfl⟩ := hW43 0 _ rfl
        refine x_get C (ci := 11) (k := 0) 0 k47 rfl in_X12 (by decide) w_1118 rfl dX12_judged_35 rfl ?_
        refine x_aload_n C dX12_judged_38 rfl 0 rfl rfl ?_
        refine x_get C (ci := 11) (k := 1) 0 k47 rfl in_X12 (by decide) w_1119 rfl dX12_judged_39 rfl ?_
        refine x_sv C (As := [.ref (a 1), .ref (a 2)]) (rest := []) (m_copies12 E l a cd hG kf jn none jq w42 hW43) mf_X12_copies w_1490 rfl rfl (Nat.le_of_ble_eq_true rfl) ⟨(Nat.le_of_ble_eq_true rfl), (Nat.le_of_ble_eq_true rfl)⟩ ⟨(Nat.le_of_ble_eq_true rfl), (Nat.le_of_ble_eq_true rfl)⟩ dX12_judged_42 rfl (fun w75 h73 => ?_)
        obtain ⟨hW76, kq77⟩ := h73
        have k78 : w75[0]? = some (ob (a 0) 11 [.ref (a 1), .ref (a 2), .ref (a 3), .ref (a 4), .int (nI n48), .int (nI n50), .int (nI n52), .int v54, .int v55, .int v56, .int (nI n57), .int (nI n59), .int (nI n61), .int (nI (cd.2.2.2.2.2)), .ref (a 5), .ref (a 6), .ref (a 7), .ref (a 8), .ref (a 9), .ref (a 10), .ref (a 11), .ref (a 12), .ref (a 13), .ref (a 14), .ref (a 15), .ref (a 16), .ref (a 17), .int (nI n63), .ref (a 18), .ref (a 19), .ref (a 20), .ref (a 21), .int v65, .int v66, .int v67, .int v68, .int (nI n69), .int (nI n71), .ref (a 22), .ref (a 23), .ref (a 24), .ref (a 25), .ref (a 26), .ref (a 27), .ref (a 28), .ref (a 29), .ref (a 30), .int kf]) := keeps_at kq77 k47 (by first | decide | omega | (dsimp only; omega))
        refine x_iconst C (v := 0) dX12_judged_45 (by decide) rfl ?_
        refine x_istore_n C (lv' := [(2, .int 0), (0, .ref (a 0)), (1, .int (nI j8))]) dX12_judged_46 rfl (by decide) rfl rfl ?_
        have loop47 : ∀ (fu47 : Nat) (l0 : Nat) (wl47 : va_W), WX (okM E a cd kf jn jn jq) wl47 → 24 - l0 < fu47 → l0 ≤ 24 → X E p l e (xRm 8 0 0) s m ([.ref (a 0), .int (nI j8)] : List Value).toArray below meth c A 3 0 0 (MQ below (va_Qi (fun r w => WX (okM E a cd kf jn none jq) w) (xB E A) A) ([.ref (a 0), .int (nI j8)] : List Value).toArray s 0 0 A) wl47 47 [(0, .ref (a 0)), (1, .int (nI j8)), (2, .int (nI l0))] [] := by
          intro fu47
          induction fu47 with
          | zero => intro l0 wl47 _ q; omega
          | succ fu47 ih47 =>
            intro l0 wl47 hWl47 me47 iv47_0
            refine x_iload_n C dX12_judged_47 rfl 2 rfl rfl ?_
            refine x_aload_n C dX12_judged_48 rfl 0 rfl rfl ?_
            obtain ⟨_, k79, n80, n82, n84, v86, v87, v88, n89, n91, n93, n95, v97, v98, v99, v100, n101, n103, bn81, bn83, bn85, bn90, bn92, bn94, bn96, bn102, bn104, rfl⟩ := hWl47 0 _ rfl
            refine x_get C (ci := 11) (k := 27) 0 k79 rfl in_X12 (by decide) w_1145 rfl dX12_judged_49 rfl ?_
            refine x_icmp_ge C (tgt := 70) dX12_judged_52 (by decide) rfl (fun c105 => ?_) (fun c105 => ?_)
            · skip
              have nf106 := nI_le' (a := n95) (b := l0) c105 (by omega) (by omega)
              refine x_aload_n C dX12_judged_70 rfl 0 rfl rfl ?_
              refine x_get C (ci := 11) (k := 1) 0 k79 rfl in_X12 (by decide) w_1119 rfl dX12_judged_71 rfl ?_
              refine x_aload_n C dX12_judged_74 rfl 0 rfl rfl ?_
              refine x_get C (ci := 11) (k := 0) 0 k79 rfl in_X12 (by decide) w_1118 rfl dX12_judged_75 rfl ?_
              refine x_sv C (As := [.ref (a 2), .ref (a 1)]) (rest := []) (m_copies21 E l a cd hG kf jn jn jq wl47 hWl47) mf_X12_copies w_1490 rfl rfl (Nat.le_of_ble_eq_true rfl) ⟨(Nat.le_of_ble_eq_true rfl), (Nat.le_of_ble_eq_true rfl)⟩ ⟨(Nat.le_of_ble_eq_true rfl), (Nat.le_of_ble_eq_true rfl)⟩ dX12_judged_78 rfl (fun w109 h107 => ?_)
              obtain ⟨hW110, kq111⟩ := h107
              have k112 : w109[0]? = some (ob (a 0) 11 [.ref (a 1), .ref (a 2), .ref (a 3), .ref (a 4), .int (nI n80), .int (nI n82), .int (nI n84), .int v86, .int v87, .int v88, .int (nI n89), .int (nI n91), .int (nI n93), .int (nI (cd.2.2.2.2.2)), .ref (a 5), .ref (a 6), .ref (a 7), .ref (a 8), .ref (a 9), .ref (a 10), .ref (a 11), .ref (a 12), .ref (a 13), .ref (a 14), .ref (a 15), .ref (a 16), .ref (a 17), .int (nI n95), .ref (a 18), .ref (a 19), .ref (a 20), .ref (a 21), .int v97, .int v98, .int v99, .int v100, .int (nI n101), .int (nI n103), .ref (a 22), .ref (a 23), .ref (a 24), .ref (a 25), .ref (a 26), .ref (a 27), .ref (a 28), .ref (a 29), .ref (a 30), .int kf]) := keeps_at kq111 k79 (by first | decide | omega | (dsimp only; omega))
              refine x_iload_n C dX12_judged_81 rfl 2 rfl rfl ?_
              exact x_zret C hr hlk rfl dX12_judged_82 (wxW_s hW110)
            · skip
              have nf113 := nI_nle' (a := n95) (b := l0) c105 (by omega) (by omega)
              refine x_aload_n C dX12_judged_55 rfl 0 rfl rfl ?_
              refine x_iload_n C dX12_judged_56 rfl 2 rfl rfl ?_
              refine x_vi C (As := [.int (nI l0)]) (rest := []) (m_does E l a cd hG kf jn jn jq wl47 hWl47 l0 (by omega)) mf_X12_does w_1419 0 k79 rfl rfl rfl (Nat.le_of_ble_eq_true rfl) ⟨(Nat.le_of_ble_eq_true rfl), (Nat.le_of_ble_eq_true rfl)⟩ ⟨(Nat.le_of_ble_eq_true rfl), (Nat.le_of_ble_eq_true rfl)⟩ dX12_judged_57 rfl (fun r115 w116 h114 => ?_)
              obtain ⟨hW117, kq118, zb119⟩ := h114
              have k120 : w116[0]? = some (ob (a 0) 11 [.ref (a 1), .ref (a 2), .ref (a 3), .ref (a 4), .int (nI n80), .int (nI n82), .int (nI n84), .int v86, .int v87, .int v88, .int (nI n89), .int (nI n91), .int (nI n93), .int (nI (cd.2.2.2.2.2)), .ref (a 5), .ref (a 6), .ref (a 7), .ref (a 8), .ref (a 9), .ref (a 10), .ref (a 11), .ref (a 12), .ref (a 13), .ref (a 14), .ref (a 15), .ref (a 16), .ref (a 17), .int (nI n95), .ref (a 18), .ref (a 19), .ref (a 20), .ref (a 21), .int v97, .int v98, .int v99, .int v100, .int (nI n101), .int (nI n103), .ref (a 22), .ref (a 23), .ref (a 24), .ref (a 25), .ref (a 26), .ref (a 27), .ref (a 28), .ref (a 29), .ref (a 30), .int kf]) := keeps_at kq118 k79 (by first | decide | omega | (dsimp only; omega))
              refine x_if_eq C (tgt := 70) dX12_judged_60 (by decide) rfl (fun c121 => ?_) (fun c121 => ?_)
              · skip
                refine x_aload_n C dX12_judged_70 rfl 0 rfl rfl ?_
                refine x_get C (ci := 11) (k := 1) 0 k120 rfl in_X12 (by decide) w_1119 rfl dX12_judged_71 rfl ?_
                refine x_aload_n C dX12_judged_74 rfl 0 rfl rfl ?_
                refine x_get C (ci := 11) (k := 0) 0 k120 rfl in_X12 (by decide) w_1118 rfl dX12_judged_75 rfl ?_
                refine x_sv C (As := [.ref (a 2), .ref (a 1)]) (rest := []) (m_copies21 E l a cd hG kf jn jn jq w116 hW117) mf_X12_copies w_1490 rfl rfl (Nat.le_of_ble_eq_true rfl) ⟨(Nat.le_of_ble_eq_true rfl), (Nat.le_of_ble_eq_true rfl)⟩ ⟨(Nat.le_of_ble_eq_true rfl), (Nat.le_of_ble_eq_true rfl)⟩ dX12_judged_78 rfl (fun w124 h122 => ?_)
                obtain ⟨hW125, kq126⟩ := h122
                have k127 : w124[0]? = some (ob (a 0) 11 [.ref (a 1), .ref (a 2), .ref (a 3), .ref (a 4), .int (nI n80), .int (nI n82), .int (nI n84), .int v86, .int v87, .int v88, .int (nI n89), .int (nI n91), .int (nI n93), .int (nI (cd.2.2.2.2.2)), .ref (a 5), .ref (a 6), .ref (a 7), .ref (a 8), .ref (a 9), .ref (a 10), .ref (a 11), .ref (a 12), .ref (a 13), .ref (a 14), .ref (a 15), .ref (a 16), .ref (a 17), .int (nI n95), .ref (a 18), .ref (a 19), .ref (a 20), .ref (a 21), .int v97, .int v98, .int v99, .int v100, .int (nI n101), .int (nI n103), .ref (a 22), .ref (a 23), .ref (a 24), .ref (a 25), .ref (a 26), .ref (a 27), .ref (a 28), .ref (a 29), .ref (a 30), .int kf]) := keeps_at kq126 k120 (by first | decide | omega | (dsimp only; omega))
                refine x_iload_n C dX12_judged_81 rfl 2 rfl rfl ?_
                exact x_zret C hr hlk rfl dX12_judged_82 (wxW_s hW125)
              · skip
                refine x_iload_n C dX12_judged_63 rfl 2 rfl rfl ?_
                refine x_iconst C (v := 1) dX12_judged_64 (by decide) rfl ?_
                refine x_iadd C (v := (nI (l0 + 1))) dX12_judged_65 (nI_add l0 1) rfl ?_
                refine x_istore_n C (lv' := [(2, .int (nI (l0 + 1))), (0, .ref (a 0)), (1, .int (nI j8))]) dX12_judged_66 rfl (by decide) rfl rfl ?_
                refine x_goto C (tgt := 47) dX12_judged_67 (by decide) ?_
                refine x_lv (lv1 := [(0, .ref (a 0)), (1, .int (nI j8)), (2, .int (nI (l0 + 1)))]) [1, 2, 0] rfl ?_
                exact ih47 (l0 + 1) w116 hW117 (by omega) (by omega)
        refine x_lv (lv1 := [(0, .ref (a 0)), (1, .int (nI j8)), (2, .int 0)]) [1, 2, 0] rfl ?_
        exact loop47 _ 0 w75 hW76 (Nat.lt_succ_self _) (by omega)
      · skip
        refine x_aload_n C dX12_judged_29 rfl 0 rfl rfl ?_
        obtain ⟨_, k128, n129, n131, n133, v135, v136, v137, n138, n140, n142, n144, v146, v147, v148, v149, n150, n152, bn130, bn132, bn134, bn139, bn141, bn143, bn145, bn151, bn153, rfl⟩ := hW43 0 _ rfl
        refine x_get C (ci := 11) (k := 7) 0 k128 rfl in_X12 (by decide) w_1125 rfl dX12_judged_30 rfl ?_
        exact x_zret C hr hlk rfl dX12_judged_33 hW43
    · skip
      have nf154 := nI_nle' (a := j8) (b := n13) c38 (by omega) (by omega)
      refine x_iconst C (v := (-1)) dX12_judged_19 (by decide) rfl ?_
      exact x_zret C hr hlk rfl dX12_judged_20 hW
