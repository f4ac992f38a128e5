theorem dX12_copies_0 : decode cX12_copies 0 = .ok (.iconst 0, 1) := by decide +kernel
theorem dX12_copies_1 : decode cX12_copies 1 = .ok (.istore_n 2, 1) := by decide +kernel
theorem dX12_copies_2 : decode cX12_copies 2 = .ok (.iload_n 2, 1) := by decide +kernel
theorem dX12_copies_3 : decode cX12_copies 3 = .ok (.sipush 382, 3) := by decide +kernel
theorem dX12_copies_6 : decode cX12_copies 6 = .ok (.if_icmp .ge 15, 3) := by decide +kernel
theorem dX12_copies_9 : decode cX12_copies 9 = .ok (.aload_n 1, 1) := by decide +kernel
theorem dX12_copies_10 : decode cX12_copies 10 = .ok (.iload_n 2, 1) := by decide +kernel
theorem dX12_copies_11 : decode cX12_copies 11 = .ok (.aload_n 0, 1) := by decide +kernel
theorem dX12_copies_12 : decode cX12_copies 12 = .ok (.iload_n 2, 1) := by decide +kernel
theorem dX12_copies_13 : decode cX12_copies 13 = .ok (.iaload, 1) := by decide +kernel
theorem dX12_copies_14 : decode cX12_copies 14 = .ok (.iastore, 1) := by decide +kernel
theorem dX12_copies_15 : decode cX12_copies 15 = .ok (.iinc 2 1, 3) := by decide +kernel
theorem dX12_copies_18 : decode cX12_copies 18 = .ok (.goto (-16), 3) := by decide +kernel
theorem dX12_copies_21 : decode cX12_copies 21 = .ok (.return_, 1) := by decide +kernel
set_option maxRecDepth 20000 in
set_option maxHeartbeats 4000000 in
theorem e_copies (E : xE) (l : Launch) (ws : va_W) {sa ta : Nat} {fs ft : Nat → Int32} (a : Nat) (k_0 : ws[a]? = some (iA E sa 382 fs)) (b : Nat) (k_1 : ws[b]? = some (iA E ta 382 ft)) (hab : a ≠ b) : xV E l yX12_copies cX12_copies 3 0 0 0 [.ref sa, .ref ta] ws (fun w => keeps ws w (fun q => q = b) ∧ (∃ fg : Nat → Int32, w[b]? = some (iA E ta 382 fg))) := by
  refine xV_start (lv := [(0, .ref sa), (1, .ref ta)]) RX12 (by decide) rfl (Nat.le_of_ble_eq_true rfl) rfl (fun p e s m below meth c A C hr hlk hin => ?_)
  have kp0 : keeps ws ws (fun q => q = b) := keeps_rf
  refine x_iconst C (v := 0) dX12_copies_0 (by decide) rfl ?_
  refine x_istore_n C (lv' := [(2, .int 0), (0, .ref sa), (1, .ref ta)]) dX12_copies_1 rfl (by decide) rfl rfl ?_
  have loop : ∀ (n i : Nat) (wl : va_W) (gg : Nat → Int32), i ≤ 382 → 382 - i < n → keeps ws wl (fun q => q = b) → wl[b]? = some (iA E ta 382 gg) → X E p l e (xRm 0 0 0) s m ([.ref sa, .ref ta] : List Value).toArray below meth c A 3 0 0 (MQ below (va_Qv (fun w => keeps ws w (fun q => q = b) ∧ (∃ fg : Nat → Int32, w[b]? = some (iA E ta 382 fg))) (xB E A) A) ([.ref sa, .ref ta] : List Value).toArray s 0 0 A) wl 2 [(2, .int (nI i)), (0, .ref sa), (1, .ref ta)] [] := by
    intro n
    induction n with
    | zero => intro i w _ _ h; omega
    | succ n ih =>
      intro i wl gg h1 h2 kq z1
      have z0 : wl[a]? = some (iA E sa 382 fs) := keeps_at kq k_0 (fun e => hab e)
      refine x_iload_n C dX12_copies_2 rfl 0 rfl rfl ?_
      refine x_sipush C (v := 382) dX12_copies_3 (by decide) rfl ?_
      refine x_icmp_ge C (tgt := 21) dX12_copies_6 (by decide) rfl (fun c1 => ?_) (fun c1 => ?_)
      · skip
        exact x_vret C hr hlk dX12_copies_21 ⟨kq, ⟨_, z1⟩⟩
      · skip
        have hlt : i + 1 ≤ 382 := by
          rcases Nat.lt_or_ge i 382 with q | q
          · exact q
          · exact absurd (nI_le (a := 382) q (by omega)) c1
        have hin2 : vp_in (nI i) 382 := vp_in_nI hlt (by decide)
        refine x_aload_n C dX12_copies_9 rfl 2 rfl rfl ?_
        refine x_iload_n C dX12_copies_10 rfl 0 rfl rfl ?_
        refine x_aload_n C dX12_copies_11 rfl 1 rfl rfl ?_
        refine x_iload_n C dX12_copies_12 rfl 0 rfl rfl ?_
        refine x_iald C (v := fs (nI i).toNatClampNeg) a z0 hin2 rfl dX12_copies_13 rfl ?_
        obtain ⟨w2, hw3⟩ : ∃ w : va_W, w = List.set wl b (iA E ta 382 (upd gg (nI i).toNatClampNeg (fs (nI i).toNatClampNeg))) := ⟨_, rfl⟩
        refine x_iast C b z1 hin2 hw3.symm dX12_copies_14 rfl ?_
        have k4 : w2[a]? = some (iA E sa 382 fs) := by rw [hw3]; exact set_ne z0 (by omega)
        have k5 : w2[b]? = some (iA E ta 382 (upd gg (nI i).toNatClampNeg (fs (nI i).toNatClampNeg))) := by rw [hw3]; exact set_eq z1
        have kp6 := keeps_set kq hw3 (by first | exact rfl | decide | omega | (dsimp only; omega))
        refine x_iinc C (v := ((nI i) + 1)) (lv' := [(2, .int ((nI i) + 1)), (0, .ref sa), (1, .ref ta)]) dX12_copies_15 0 rfl rfl (by decide) rfl rfl ?_
        refine x_goto C (tgt := 2) dX12_copies_18 (by decide) ?_
        have ei : nI i + 1 = nI (i + 1) := nI_1 i
        rw [ei]
        exact ih (i + 1) w2 _ hlt (by omega) kp6 k5
  exact loop 383 0 ws _ (by omega) (by omega) kp0 k_1
theorem dX12_dayGoes_0 : decode cX12_dayGoes 0 = .ok (.iconst 0, 1) := by decide +kernel
theorem dX12_dayGoes_1 : decode cX12_dayGoes 1 = .ok (.istore_n 1, 1) := by decide +kernel
theorem dX12_dayGoes_2 : decode cX12_dayGoes 2 = .ok (.iload_n 1, 1) := by decide +kernel
theorem dX12_dayGoes_3 : decode cX12_dayGoes 3 = .ok (.bipush 8, 2) := by decide +kernel
theorem dX12_dayGoes_5 : decode cX12_dayGoes 5 = .ok (.if_icmp .ge 74, 3) := by decide +kernel
theorem dX12_dayGoes_8 : decode cX12_dayGoes 8 = .ok (.aload_n 0, 1) := by decide +kernel
theorem dX12_dayGoes_9 : decode cX12_dayGoes 9 = .ok (.iload_n 1, 1) := by decide +kernel
theorem dX12_dayGoes_10 : decode cX12_dayGoes 10 = .ok (.invokevirtual 116, 3) := by decide +kernel
theorem dX12_dayGoes_13 : decode cX12_dayGoes 13 = .ok (.ifCond .ne 6, 3) := by decide +kernel
theorem dX12_dayGoes_16 : decode cX12_dayGoes 16 = .ok (.goto 57, 3) := by decide +kernel
theorem dX12_dayGoes_73 : decode cX12_dayGoes 73 = .ok (.iinc 1 1, 3) := by decide +kernel
theorem dX12_dayGoes_76 : decode cX12_dayGoes 76 = .ok (.goto (-74), 3) := by decide +kernel
theorem dX12_dayGoes_79 : decode cX12_dayGoes 79 = .ok (.iconst 0, 1) := by decide +kernel
theorem dX12_dayGoes_80 : decode cX12_dayGoes 80 = .ok (.istore_n 1, 1) := by decide +kernel
theorem dX12_dayGoes_81 : decode cX12_dayGoes 81 = .ok (.iload_n 1, 1) := by decide +kernel
theorem dX12_dayGoes_82 : decode cX12_dayGoes 82 = .ok (.aload_n 0, 1) := by decide +kernel
theorem dX12_dayGoes_83 : decode cX12_dayGoes 83 = .ok (.getfield 7, 3) := by decide +kernel
theorem dX12_dayGoes_86 : decode cX12_dayGoes 86 = .ok (.sipush 381, 3) := by decide +kernel
theorem dX12_dayGoes_89 : decode cX12_dayGoes 89 = .ok (.iaload, 1) := by decide +kernel
theorem dX12_dayGoes_90 : decode cX12_dayGoes 90 = .ok (.if_icmp .ge 76, 3) := by decide +kernel
theorem dX12_dayGoes_166 : decode cX12_dayGoes 166 = .ok (.aload_n 0, 1) := by decide +kernel
theorem dX12_dayGoes_167 : decode cX12_dayGoes 167 = .ok (.getfield 7, 3) := by decide +kernel
theorem dX12_dayGoes_170 : decode cX12_dayGoes 170 = .ok (.sipush 379, 3) := by decide +kernel
theorem dX12_dayGoes_173 : decode cX12_dayGoes 173 = .ok (.aload_n 0, 1) := by decide +kernel
theorem dX12_dayGoes_174 : decode cX12_dayGoes 174 = .ok (.getfield 7, 3) := by decide +kernel
theorem dX12_dayGoes_177 : decode cX12_dayGoes 177 = .ok (.sipush 379, 3) := by decide +kernel
theorem dX12_dayGoes_180 : decode cX12_dayGoes 180 = .ok (.iaload, 1) := by decide +kernel
theorem dX12_dayGoes_181 : decode cX12_dayGoes 181 = .ok (.iconst 1, 1) := by decide +kernel
theorem dX12_dayGoes_182 : decode cX12_dayGoes 182 = .ok (.iadd, 1) := by decide +kernel
theorem dX12_dayGoes_183 : decode cX12_dayGoes 183 = .ok (.iastore, 1) := by decide +kernel
theorem dX12_dayGoes_184 : decode cX12_dayGoes 184 = .ok (.return_, 1) := by decide +kernel
set_option maxRecDepth 20000 in
set_option maxHeartbeats 4000000 in
theorem e_dayGoes (E : xE) (l : Launch) (ws : va_W) {mm m0 m1 m2 m3 m14 m15 m16 m17 m18 m19 m20 m21 m22 m23 m24 m25 m26 m28 m29 m30 m31 m38 m39 m40 m41 m42 m43 m44 m45 m46 : Nat} {fn : Nat → Int32} (p_0 : Nat) (k_0 : ws[0]? = some (ob mm 11 [.ref m0, .ref m1, .ref m2, .ref m3, .int 0, .int 0, .int 0, .int 0, .int 0, .int 0, .int 0, .int 0, .int 0, .int 0, .ref m14, .ref m15, .ref m16, .ref m17, .ref m18, .ref m19, .ref m20, .ref m21, .ref m22, .ref m23, .ref m24, .ref m25, .ref m26, .int 0, .ref m28, .ref m29, .ref m30, .ref m31, .int 0, .int 0, .int 0, .int 0, .int 0, .int 0, .ref m38, .ref m39, .ref m40, .ref m41, .ref m42, .ref m43, .ref m44, .ref m45, .ref m46, .int 0])) (p_1 : Nat) (k_1 : ws[1]? = some (iA E m0 382 fn)) (h337 : fn 337 = 0) (h381 : fn 381 = 0) (dv : Int32) (h379 : fn 379 = dv) : xV E l yX12_dayGoes cX12_dayGoes 3 2 0 0 [.ref mm] ws (fun w => w = ws.set 1 (iA E m0 382 (upd fn 379 (dv + 1)))) := by
  refine xV_start (lv := [(0, .ref mm)]) RX12 (by decide) rfl (Nat.le_of_ble_eq_true rfl) rfl (fun p e s m below meth c A C hr hlk hin => ?_)
  refine x_iconst C (v := 0) dX12_dayGoes_0 (by decide) rfl ?_
  refine x_istore_n C (lv' := [(1, .int 0), (0, .ref mm)]) dX12_dayGoes_1 rfl (by decide) rfl rfl ?_
  refine x_iload_n C dX12_dayGoes_2 rfl 0 rfl rfl ?_
  refine x_bipush C (v := 8) dX12_dayGoes_3 (by decide) rfl ?_
  refine x_icmp_ge C (tgt := 79) dX12_dayGoes_5 (by decide) rfl (fun h => absurd h (by decide)) (fun _ => ?_)
  refine x_aload_n C dX12_dayGoes_8 rfl 1 rfl rfl ?_
  refine x_iload_n C dX12_dayGoes_9 rfl 0 rfl rfl ?_
  refine x_vi C (As := [.int 0]) (rest := []) (e_isHen E l ws 0 k_0 1 k_1 0 h337) mf_X12_isHen w_1285 0 k_0 rfl rfl rfl (Nat.le_of_ble_eq_true rfl) ⟨(Nat.le_of_ble_eq_true rfl), (Nat.le_of_ble_eq_true rfl)⟩ ⟨(Nat.le_of_ble_eq_true rfl), (Nat.le_of_ble_eq_true rfl)⟩ dX12_dayGoes_10 rfl (fun r2 w3 h1 => ?_)
  obtain ⟨e4, g5⟩ := h1
  refine x_top e4 ?_
  refine x_ws g5 ?_
  refine x_if_ne C (tgt := 19) dX12_dayGoes_13 (by decide) rfl (fun h => absurd h (by decide)) (fun _ => ?_)
  refine x_goto C (tgt := 73) dX12_dayGoes_16 (by decide) ?_
  refine x_iinc C (v := 1) (lv' := [(1, .int 1), (0, .ref mm)]) dX12_dayGoes_73 0 rfl (by decide) (by decide) rfl rfl ?_
  refine x_goto C (tgt := 2) dX12_dayGoes_76 (by decide) ?_
  refine x_iload_n C dX12_dayGoes_2 rfl 0 rfl rfl ?_
  refine x_bipush C (v := 8) dX12_dayGoes_3 (by decide) rfl ?_
  refine x_icmp_ge C (tgt := 79) dX12_dayGoes_5 (by decide) rfl (fun h => absurd h (by decide)) (fun _ => ?_)
  refine x_aload_n C dX12_dayGoes_8 rfl 1 rfl rfl ?_
  refine x_iload_n C dX12_dayGoes_9 rfl 0 rfl rfl ?_
  refine x_vi C (As := [.int 1]) (rest := []) (e_isHen E l ws 0 k_0 1 k_1 1 h337) mf_X12_isHen w_1285 0 k_0 rfl rfl rfl (Nat.le_of_ble_eq_true rfl) ⟨(Nat.le_of_ble_eq_true rfl), (Nat.le_of_ble_eq_true rfl)⟩ ⟨(Nat.le_of_ble_eq_true rfl), (Nat.le_of_ble_eq_true rfl)⟩ dX12_dayGoes_10 rfl (fun r7 w8 h6 => ?_)
  obtain ⟨e9, g10⟩ := h6
  refine x_top e9 ?_
  refine x_ws g10 ?_
  refine x_if_ne C (tgt := 19) dX12_dayGoes_13 (by decide) rfl (fun h => absurd h (by decide)) (fun _ => ?_)
  refine x_goto C (tgt := 73) dX12_dayGoes_16 (by decide) ?_
  refine x_iinc C (v := 2) (lv' := [(1, .int 2), (0, .ref mm)]) dX12_dayGoes_73 0 rfl (by decide) (by decide) rfl rfl ?_
  refine x_goto C (tgt := 2) dX12_dayGoes_76 (by decide) ?_
  refine x_iload_n C dX12_dayGoes_2 rfl 0 rfl rfl ?_
  refine x_bipush C (v := 8) dX12_dayGoes_3 (by decide) rfl ?_
  refine x_icmp_ge C (tgt := 79) dX12_dayGoes_5 (by decide) rfl (fun h => absurd h (by decide)) (fun _ => ?_)
  refine x_aload_n C dX12_dayGoes_8 rfl 1 rfl rfl ?_
  refine x_iload_n C dX12_dayGoes_9 rfl 0 rfl rfl ?_
  refine x_vi C (As := [.int 2]) (rest := []) (e_isHen E l ws 0 k_0 1 k_1 2 h337) mf_X12_isHen w_1285 0 k_0 rfl rfl rfl (Nat.le_of_ble_eq_true rfl) ⟨(Nat.le_of_ble_eq_true rfl), (Nat.le_of_ble_eq_true rfl)⟩ ⟨(Nat.le_of_ble_eq_true rfl), (Nat.le_of_ble_eq_true rfl)⟩ dX12_dayGoes_10 rfl (fun r12 w13 h11 => ?_)
  obtain ⟨e14, g15⟩ := h11
  refine x_top e14 ?_
  refine x_ws g15 ?_
  refine x_if_ne C (tgt := 19) dX12_dayGoes_13 (by decide) rfl (fun h => absurd h (by decide)) (fun _ => ?_)
  refine x_goto C (tgt := 73) dX12_dayGoes_16 (by decide) ?_
  refine x_iinc C (v := 3) (lv' := [(1, .int 3), (0, .ref mm)]) dX12_dayGoes_73 0 rfl (by decide) (by decide) rfl rfl ?_
  refine x_goto C (tgt := 2) dX12_dayGoes_76 (by decide) ?_
  refine x_iload_n C dX12_dayGoes_2 rfl 0 rfl rfl ?_
  refine x_bipush C (v := 8) dX12_dayGoes_3 (by decide) rfl ?_
  refine x_icmp_ge C (tgt := 79) dX12_dayGoes_5 (by decide) rfl (fun h => absurd h (by decide)) (fun _ => ?_)
  refine x_aload_n C dX12_dayGoes_8 rfl 1 rfl rfl ?_
  refine x_iload_n C dX12_dayGoes_9 rfl 0 rfl rfl ?_
  refine x_vi C (As := [.int 3]) (rest := []) (e_isHen E l ws 0 k_0 1 k_1 3 h337) mf_X12_isHen w_1285 0 k_0 rfl rfl rfl (Nat.le_of_ble_eq_true rfl) ⟨(Nat.le_of_ble_eq_true rfl), (Nat.le_of_ble_eq_true rfl)⟩ ⟨(Nat.le_of_ble_eq_true rfl), (Nat.le_of_ble_eq_true rfl)⟩ dX12_dayGoes_10 rfl (fun r17 w18 h16 => ?_)
  obtain ⟨e19, g20⟩ := h16
  refine x_top e19 ?_
  refine x_ws g20 ?_
  refine x_if_ne C (tgt := 19) dX12_dayGoes_13 (by decide) rfl (fun h => absurd h (by decide)) (fun _ => ?_)
  refine x_goto C (tgt := 73) dX12_dayGoes_16 (by decide) ?_
  refine x_iinc C (v := 4) (lv' := [(1, .int 4), (0, .ref mm)]) dX12_dayGoes_73 0 rfl (by decide) (by decide) rfl rfl ?_
  refine x_goto C (tgt := 2) dX12_dayGoes_76 (by decide) ?_
  refine x_iload_n C dX12_dayGoes_2 rfl 0 rfl rfl ?_
  refine x_bipush C (v := 8) dX12_dayGoes_3 (by decide) rfl ?_
  refine x_icmp_ge C (tgt := 79) dX12_dayGoes_5 (by decide) rfl (fun h => absurd h (by decide)) (fun _ => ?_)
  refine x_aload_n C dX12_dayGoes_8 rfl 1 rfl rfl ?_
  refine x_iload_n C dX12_dayGoes_9 rfl 0 rfl rfl ?_
  refine x_vi C (As := [.int 4]) (rest := []) (e_isHen E l ws 0 k_0 1 k_1 4 h337) mf_X12_isHen w_1285 0 k_0 rfl rfl rfl (Nat.le_of_ble_eq_true rfl) ⟨(Nat.le_of_ble_eq_true rfl), (Nat.le_of_ble_eq_true rfl)⟩ ⟨(Nat.le_of_ble_eq_true rfl), (Nat.le_of_ble_eq_true rfl)⟩ dX12_dayGoes_10 rfl (fun r22 w23 h21 => ?_)
  obtain ⟨e24, g25⟩ := h21
  refine x_top e24 ?_
  refine x_ws g25 ?_
  refine x_if_ne C (tgt := 19) dX12_dayGoes_13 (by decide) rfl (fun h => absurd h (by decide)) (fun _ => ?_)
  refine x_goto C (tgt := 73) dX12_dayGoes_16 (by decide) ?_
  refine x_iinc C (v := 5) (lv' := [(1, .int 5), (0, .ref mm)]) dX12_dayGoes_73 0 rfl (by decide) (by decide) rfl rfl ?_
  refine x_goto C (tgt := 2) dX12_dayGoes_76 (by decide) ?_
  refine x_iload_n C dX12_dayGoes_2 rfl 0 rfl rfl ?_
  refine x_bipush C (v := 8) dX12_dayGoes_3 (by decide) rfl ?_
  refine x_icmp_ge C (tgt := 79) dX12_dayGoes_5 (by decide) rfl (fun h => absurd h (by decide)) (fun _ => ?_)
  refine x_aload_n C dX12_dayGoes_8 rfl 1 rfl rfl ?_
  refine x_iload_n C dX12_dayGoes_9 rfl 0 rfl rfl ?_
  refine x_vi C (As := [.int 5]) (rest := []) (e_isHen E l ws 0 k_0 1 k_1 5 h337) mf_X12_isHen w_1285 0 k_0 rfl rfl rfl (Nat.le_of_ble_eq_true rfl) ⟨(Nat.le_of_ble_eq_true rfl), (Nat.le_of_ble_eq_true rfl)⟩ ⟨(Nat.le_of_ble_eq_true rfl), (Nat.le_of_ble_eq_true rfl)⟩ dX12_dayGoes_10 rfl (fun r27 w28 h26 => ?_)
  obtain ⟨e29, g30⟩ := h26
  refine x_top e29 ?_
  refine x_ws g30 ?_
  refine x_if_ne C (tgt := 19) dX12_dayGoes_13 (by decide) rfl (fun h => absurd h (by decide)) (fun _ => ?_)
  refine x_goto C (tgt := 73) dX12_dayGoes_16 (by decide) ?_
  refine x_iinc C (v := 6) (lv' := [(1, .int 6), (0, .ref mm)]) dX12_dayGoes_73 0 rfl (by decide) (by decide) rfl rfl ?_
  refine x_goto C (tgt := 2) dX12_dayGoes_76 (by decide) ?_
  refine x_iload_n C dX12_dayGoes_2 rfl 0 rfl rfl ?_
  refine x_bipush C (v := 8) dX12_dayGoes_3 (by decide) rfl ?_
  refine x_icmp_ge C (tgt := 79) dX12_dayGoes_5 (by decide) rfl (fun h => absurd h (by decide)) (fun _ => ?_)
  refine x_aload_n C dX12_dayGoes_8 rfl 1 rfl rfl ?_
  refine x_iload_n C dX12_dayGoes_9 rfl 0 rfl rfl ?_
  refine x_vi C (As := [.int 6]) (rest := []) (e_isHen E l ws 0 k_0 1 k_1 6 h337) mf_X12_isHen w_1285 0 k_0 rfl rfl rfl (Nat.le_of_ble_eq_true rfl) ⟨(Nat.le_of_ble_eq_true rfl), (Nat.le_of_ble_eq_true rfl)⟩ ⟨(Nat.le_of_ble_eq_true rfl), (Nat.le_of_ble_eq_true rfl)⟩ dX12_dayGoes_10 rfl (fun r32 w33 h31 => ?_)
  obtain ⟨e34, g35⟩ := h31
  refine x_top e34 ?_
  refine x_ws g35 ?_
  refine x_if_ne C (tgt := 19) dX12_dayGoes_13 (by decide) rfl (fun h => absurd h (by decide)) (fun _ => ?_)
  refine x_goto C (tgt := 73) dX12_dayGoes_16 (by decide) ?_
  refine x_iinc C (v := 7) (lv' := [(1, .int 7), (0, .ref mm)]) dX12_dayGoes_73 0 rfl (by decide) (by decide) rfl rfl ?_
  refine x_goto C (tgt := 2) dX12_dayGoes_76 (by decide) ?_
  refine x_iload_n C dX12_dayGoes_2 rfl 0 rfl rfl ?_
  refine x_bipush C (v := 8) dX12_dayGoes_3 (by decide) rfl ?_
  refine x_icmp_ge C (tgt := 79) dX12_dayGoes_5 (by decide) rfl (fun h => absurd h (by decide)) (fun _ => ?_)
  refine x_aload_n C dX12_dayGoes_8 rfl 1 rfl rfl ?_
  refine x_iload_n C dX12_dayGoes_9 rfl 0 rfl rfl ?_
  refine x_vi C (As := [.int 7]) (rest := []) (e_isHen E l ws 0 k_0 1 k_1 7 h337) mf_X12_isHen w_1285 0 k_0 rfl rfl rfl (Nat.le_of_ble_eq_true rfl) ⟨(Nat.le_of_ble_eq_true rfl), (Nat.le_of_ble_eq_true rfl)⟩ ⟨(Nat.le_of_ble_eq_true rfl), (Nat.le_of_ble_eq_true rfl)⟩ dX12_dayGoes_10 rfl (fun r37 w38 h36 => ?_)
  obtain ⟨e39, g40⟩ := h36
  refine x_top e39 ?_
  refine x_ws g40 ?_
  refine x_if_ne C (tgt := 19) dX12_dayGoes_13 (by decide) rfl (fun h => absurd h (by decide)) (fun _ => ?_)
  refine x_goto C (tgt := 73) dX12_dayGoes_16 (by decide) ?_
  refine x_iinc C (v := 8) (lv' := [(1, .int 8), (0, .ref mm)]) dX12_dayGoes_73 0 rfl (by decide) (by decide) rfl rfl ?_
  refine x_goto C (tgt := 2) dX12_dayGoes_76 (by decide) ?_
  refine x_iload_n C dX12_dayGoes_2 rfl 0 rfl rfl ?_
  refine x_bipush C (v := 8) dX12_dayGoes_3 (by decide) rfl ?_
  refine x_icmp_ge C (tgt := 79) dX12_dayGoes_5 (by decide) rfl (fun _ => ?_) (fun h => absurd h (by decide))
  refine x_iconst C (v := 0) dX12_dayGoes_79 (by decide) rfl ?_
  refine x_istore_n C (lv' := [(1, .int 0), (0, .ref mm)]) dX12_dayGoes_80 rfl (by decide) rfl rfl ?_
  refine x_iload_n C dX12_dayGoes_81 rfl 0 rfl rfl ?_
  refine x_aload_n C dX12_dayGoes_82 rfl 1 rfl rfl ?_
  refine x_get C (ci := 11) (k := 0) 0 k_0 rfl in_X12 (by decide) w_1118 rfl dX12_dayGoes_83 rfl ?_
  refine x_sipush C (v := 381) dX12_dayGoes_86 (by decide) rfl ?_
  refine x_ialk C (v := 0) 381 (by decide) (by decide) (by decide) 1 k_1 h381 dX12_dayGoes_89 rfl ?_
  refine x_icmp_ge C (tgt := 166) dX12_dayGoes_90 (by decide) rfl (fun _ => ?_) (fun h => absurd h (by decide))
  refine x_aload_n C dX12_dayGoes_166 rfl 1 rfl rfl ?_
  refine x_get C (ci := 11) (k := 0) 0 k_0 rfl in_X12 (by decide) w_1118 rfl dX12_dayGoes_167 rfl ?_
  refine x_sipush C (v := 379) dX12_dayGoes_170 (by decide) rfl ?_
  refine x_aload_n C dX12_dayGoes_173 rfl 1 rfl rfl ?_
  refine x_get C (ci := 11) (k := 0) 0 k_0 rfl in_X12 (by decide) w_1118 rfl dX12_dayGoes_174 rfl ?_
  refine x_sipush C (v := 379) dX12_dayGoes_177 (by decide) rfl ?_
  refine x_ialk C (v := dv) 379 (by decide) (by decide) (by decide) 1 k_1 h379 dX12_dayGoes_180 rfl ?_
  refine x_iconst C (v := 1) dX12_dayGoes_181 (by decide) rfl ?_
  refine x_iadd C (v := (dv + (1 : Int32))) dX12_dayGoes_182 rfl rfl ?_
  obtain ⟨w41, hw42⟩ : ∃ w : va_W, w = List.set ws 1 (iA E m0 382 (upd fn 379 (dv + (1 : Int32)))) := ⟨_, rfl⟩
  refine x_iask C 379 (by decide) (by decide) (by decide) 1 k_1 hw42.symm dX12_dayGoes_183 rfl ?_
  have k43 : w41[0]? = some (ob mm 11 [.ref m0, .ref m1, .ref m2, .ref m3, .int 0, .int 0, .int 0, .int 0, .int 0, .int 0, .int 0, .int 0, .int 0, .int 0, .ref m14, .ref m15, .ref m16, .ref m17, .ref m18, .ref m19, .ref m20, .ref m21, .ref m22, .ref m23, .ref m24, .ref m25, .ref m26, .int 0, .ref m28, .ref m29, .ref m30, .ref m31, .int 0, .int 0, .int 0, .int 0, .int 0, .int 0, .ref m38, .ref m39, .ref m40, .ref m41, .ref m42, .ref m43, .ref m44, .ref m45, .ref m46, .int 0]) := by rw [hw42]; exact set_ne k_0 (by decide)
  have k44 : w41[1]? = some (iA E m0 382 (upd fn 379 (dv + (1 : Int32)))) := by rw [hw42]; exact set_eq k_1
  exact x_vret C hr hlk dX12_dayGoes_184 (by rw [hw42])
theorem dX12_daysGo_0 : decode cX12_daysGo 0 = .ok (.aload_n 0, 1) := by decide +kernel
theorem dX12_daysGo_1 : decode cX12_daysGo 1 = .ok (.iconst 0, 1) := by decide +kernel
theorem dX12_daysGo_2 : decode cX12_daysGo 2 = .ok (.putfield 310, 3) := by decide +kernel
theorem dX12_daysGo_5 : decode cX12_daysGo 5 = .ok (.aload_n 0, 1) := by decide +kernel
theorem dX12_daysGo_6 : decode cX12_daysGo 6 = .ok (.iconst 0, 1) := by decide +kernel
theorem dX12_daysGo_7 : decode cX12_daysGo 7 = .ok (.putfield 313, 3) := by decide +kernel
theorem dX12_daysGo_10 : decode cX12_daysGo 10 = .ok (.aload_n 0, 1) := by decide +kernel
theorem dX12_daysGo_11 : decode cX12_daysGo 11 = .ok (.iconst 0, 1) := by decide +kernel
theorem dX12_daysGo_12 : decode cX12_daysGo 12 = .ok (.putfield 322, 3) := by decide +kernel
theorem dX12_daysGo_15 : decode cX12_daysGo 15 = .ok (.aload_n 0, 1) := by decide +kernel
theorem dX12_daysGo_16 : decode cX12_daysGo 16 = .ok (.iconst 0, 1) := by decide +kernel
theorem dX12_daysGo_17 : decode cX12_daysGo 17 = .ok (.putfield 316, 3) := by decide +kernel
theorem dX12_daysGo_20 : decode cX12_daysGo 20 = .ok (.iconst 0, 1) := by decide +kernel
theorem dX12_daysGo_21 : decode cX12_daysGo 21 = .ok (.istore_n 2, 1) := by decide +kernel
theorem dX12_daysGo_22 : decode cX12_daysGo 22 = .ok (.iload_n 2, 1) := by decide +kernel
theorem dX12_daysGo_23 : decode cX12_daysGo 23 = .ok (.iload_n 1, 1) := by decide +kernel
theorem dX12_daysGo_24 : decode cX12_daysGo 24 = .ok (.if_icmp .ge 27, 3) := by decide +kernel
theorem dX12_daysGo_27 : decode cX12_daysGo 27 = .ok (.aload_n 0, 1) := by decide +kernel
theorem dX12_daysGo_28 : decode cX12_daysGo 28 = .ok (.getfield 7, 3) := by decide +kernel
theorem dX12_daysGo_31 : decode cX12_daysGo 31 = .ok (.sipush 379, 3) := by decide +kernel
theorem dX12_daysGo_34 : decode cX12_daysGo 34 = .ok (.iaload, 1) := by decide +kernel
theorem dX12_daysGo_35 : decode cX12_daysGo 35 = .ok (.sipush 9999, 3) := by decide +kernel
theorem dX12_daysGo_38 : decode cX12_daysGo 38 = .ok (.if_icmp .ge 13, 3) := by decide +kernel
theorem dX12_daysGo_41 : decode cX12_daysGo 41 = .ok (.aload_n 0, 1) := by decide +kernel
theorem dX12_daysGo_42 : decode cX12_daysGo 42 = .ok (.invokevirtual 325, 3) := by decide +kernel
theorem dX12_daysGo_45 : decode cX12_daysGo 45 = .ok (.iinc 2 1, 3) := by decide +kernel
theorem dX12_daysGo_48 : decode cX12_daysGo 48 = .ok (.goto (-26), 3) := by decide +kernel
theorem dX12_daysGo_51 : decode cX12_daysGo 51 = .ok (.return_, 1) := by decide +kernel
set_option maxRecDepth 20000 in
set_option maxHeartbeats 4000000 in
theorem e_daysGo (E : xE) (l : Launch) (ws : va_W) {mm m0 m1 m2 m3 m14 m15 m16 m17 m18 m19 m20 m21 m22 m23 m24 m25 m26 m28 m29 m30 m31 m38 m39 m40 m41 m42 m43 m44 m45 m46 : Nat} {fn : Nat → Int32} (p_0 : Nat) (k_0 : ws[0]? = some (ob mm 11 [.ref m0, .ref m1, .ref m2, .ref m3, .int 0, .int 0, .int 0, .int 0, .int 0, .int 0, .int 0, .int 0, .int 0, .int 0, .ref m14, .ref m15, .ref m16, .ref m17, .ref m18, .ref m19, .ref m20, .ref m21, .ref m22, .ref m23, .ref m24, .ref m25, .ref m26, .int 0, .ref m28, .ref m29, .ref m30, .ref m31, .int 0, .int 0, .int 0, .int 0, .int 0, .int 0, .ref m38, .ref m39, .ref m40, .ref m41, .ref m42, .ref m43, .ref m44, .ref m45, .ref m46, .int 0])) (p_1 : Nat) (k_1 : ws[1]? = some (iA E m0 382 fn)) (h337 : fn 337 = 0) (h381 : fn 381 = 0) (h379 : fn 379 = 0) (j : Nat) (hj : j ≤ 60) : xV E l yX12_daysGo cX12_daysGo 3 3 0 0 [.ref mm, .int (nI j)] ws (fun w => keeps ws w (fun q => q = 0 ∨ q = 1) ∧ w[0]? = some (ob mm 11 [.ref m0, .ref m1, .ref m2, .ref m3, .int 0, .int 0, .int 0, .int 0, .int 0, .int 0, .int 0, .int 0, .int 0, .int 0, .ref m14, .ref m15, .ref m16, .ref m17, .ref m18, .ref m19, .ref m20, .ref m21, .ref m22, .ref m23, .ref m24, .ref m25, .ref m26, .int 0, .ref m28, .ref m29, .ref m30, .ref m31, .int 0, .int 0, .int 0, .int 0, .int 0, .int 0, .ref m38, .ref m39, .ref m40, .ref m41, .ref m42, .ref m43, .ref m44, .ref m45, .ref m46, .int 0]) ∧ ∃ gf : Nat → Int32, gf 381 = 0 ∧ w[1]? = some (iA E m0 382 gf)) := by
  refine xV_start (lv := [(0, .ref mm), (1, .int (nI j))]) RX12 (by decide) rfl (Nat.le_of_ble_eq_true rfl) rfl (fun p e s m below meth c A C hr hlk hin => ?_)
  have kp0 : keeps ws ws (fun q => q = 0 ∨ q = 1) := keeps_rf
  refine x_aload_n C dX12_daysGo_0 rfl 0 rfl rfl ?_
  refine x_iconst C (v := 0) dX12_daysGo_1 (by decide) rfl ?_
  obtain ⟨w1, hw2⟩ : ∃ w : va_W, w = List.set ws 0 (ob mm 11 [.ref m0, .ref m1, .ref m2, .ref m3, .int 0, .int 0, .int 0, .int 0, .int 0, .int 0, .int 0, .int 0, .int 0, .int 0, .ref m14, .ref m15, .ref m16, .ref m17, .ref m18, .ref m19, .ref m20, .ref m21, .ref m22, .ref m23, .ref m24, .ref m25, .ref m26, .int 0, .ref m28, .ref m29, .ref m30, .ref m31, .int 0, .int 0, .int 0, .int 0, .int 0, .int 0, .ref m38, .ref m39, .ref m40, .ref m41, .ref m42, .ref m43, .ref m44, .ref m45, .ref m46, .int 0]) := ⟨_, rfl⟩
  refine x_put C (ci := 11) (k := 32) (ty := .int) 0 k_0 rfl in_X12 tyX12 tyX12_ok nmX12 (by decide) w_1150 rfl rfl rfl rfl (Nat.le_of_ble_eq_true rfl) hw2.symm dX12_daysGo_2 rfl ?_
  have k3 : w1[0]? = some (ob mm 11 [.ref m0, .ref m1, .ref m2, .ref m3, .int 0, .int 0, .int 0, .int 0, .int 0, .int 0, .int 0, .int 0, .int 0, .int 0, .ref m14, .ref m15, .ref m16, .ref m17, .ref m18, .ref m19, .ref m20, .ref m21, .ref m22, .ref m23, .ref m24, .ref m25, .ref m26, .int 0, .ref m28, .ref m29, .ref m30, .ref m31, .int 0, .int 0, .int 0, .int 0, .int 0, .int 0, .ref m38, .ref m39, .ref m40, .ref m41, .ref m42, .ref m43, .ref m44, .ref m45, .ref m46, .int 0]) := by rw [hw2]; exact set_eq k_0
  have k4 : w1[1]? = some (iA E m0 382 fn) := by rw [hw2]; exact set_ne k_1 (by decide)
  have kp5 := keeps_set kp0 hw2 (by first | exact rfl | decide | omega | (dsimp only; omega))
  refine x_aload_n C dX12_daysGo_5 rfl 0 rfl rfl ?_
  refine x_iconst C (v := 0) dX12_daysGo_6 (by decide) rfl ?_
  obtain ⟨w6, hw7⟩ : ∃ w : va_W, w = List.set w1 0 (ob mm 11 [.ref m0, .ref m1, .ref m2, .ref m3, .int 0, .int 0, .int 0, .int 0, .int 0, .int 0, .int 0, .int 0, .int 0, .int 0, .ref m14, .ref m15, .ref m16, .ref m17, .ref m18, .ref m19, .ref m20, .ref m21, .ref m22, .ref m23, .ref m24, .ref m25, .ref m26, .int 0, .ref m28, .ref m29, .ref m30, .ref m31, .int 0, .int 0, .int 0, .int 0, .int 0, .int 0, .ref m38, .ref m39, .ref m40, .ref m41, .ref m42, .ref m43, .ref m44, .ref m45, .ref m46, .int 0]) := ⟨_, rfl⟩
  refine x_put C (ci := 11) (k := 33) (ty := .int) 0 k3 rfl in_X12 tyX12 tyX12_ok nmX12 (by decide) w_1151 rfl rfl rfl rfl (Nat.le_of_ble_eq_true rfl) hw7.symm dX12_daysGo_7 rfl ?_
  have k8 : w6[0]? = some (ob mm 11 [.ref m0, .ref m1, .ref m2, .ref m3, .int 0, .int 0, .int 0, .int 0, .int 0, .int 0, .int 0, .int 0, .int 0, .int 0, .ref m14, .ref m15, .ref m16, .ref m17, .ref m18, .ref m19, .ref m20, .ref m21, .ref m22, .ref m23, .ref m24, .ref m25, .ref m26, .int 0, .ref m28, .ref m29, .ref m30, .ref m31, .int 0, .int 0, .int 0, .int 0, .int 0, .int 0, .ref m38, .ref m39, .ref m40, .ref m41, .ref m42, .ref m43, .ref m44, .ref m45, .ref m46, .int 0]) := by rw [hw7]; exact set_eq k3
  have k9 : w6[1]? = some (iA E m0 382 fn) := by rw [hw7]; exact set_ne k4 (by decide)
  have kp10 := keeps_set kp5 hw7 (by first | exact rfl | decide | omega | (dsimp only; omega))
  refine x_aload_n C dX12_daysGo_10 rfl 0 rfl rfl ?_
  refine x_iconst C (v := 0) dX12_daysGo_11 (by decide) rfl ?_
  obtain ⟨w11, hw12⟩ : ∃ w : va_W, w = List.set w6 0 (ob mm 11 [.ref m0, .ref m1, .ref m2, .ref m3, .int 0, .int 0, .int 0, .int 0, .int 0, .int 0, .int 0, .int 0, .int 0, .int 0, .ref m14, .ref m15, .ref m16, .ref m17, .ref m18, .ref m19, .ref m20, .ref m21, .ref m22, .ref m23, .ref m24, .ref m25, .ref m26, .int 0, .ref m28, .ref m29, .ref m30, .ref m31, .int 0, .int 0, .int 0, .int 0, .int 0, .int 0, .ref m38, .ref m39, .ref m40, .ref m41, .ref m42, .ref m43, .ref m44, .ref m45, .ref m46, .int 0]) := ⟨_, rfl⟩
  refine x_put C (ci := 11) (k := 34) (ty := .int) 0 k8 rfl in_X12 tyX12 tyX12_ok nmX12 (by decide) w_1152 rfl rfl rfl rfl (Nat.le_of_ble_eq_true rfl) hw12.symm dX12_daysGo_12 rfl ?_
  have k13 : w11[0]? = some (ob mm 11 [.ref m0, .ref m1, .ref m2, .ref m3, .int 0, .int 0, .int 0, .int 0, .int 0, .int 0, .int 0, .int 0, .int 0, .int 0, .ref m14, .ref m15, .ref m16, .ref m17, .ref m18, .ref m19, .ref m20, .ref m21, .ref m22, .ref m23, .ref m24, .ref m25, .ref m26, .int 0, .ref m28, .ref m29, .ref m30, .ref m31, .int 0, .int 0, .int 0, .int 0, .int 0, .int 0, .ref m38, .ref m39, .ref m40, .ref m41, .ref m42, .ref m43, .ref m44, .ref m45, .ref m46, .int 0]) := by rw [hw12]; exact set_eq k8
  have k14 : w11[1]? = some (iA E m0 382 fn) := by rw [hw12]; exact set_ne k9 (by decide)
  have kp15 := keeps_set kp10 hw12 (by first | exact rfl | decide | omega | (dsimp only; omega))
  refine x_aload_n C dX12_daysGo_15 rfl 0 rfl rfl ?_
  refine x_iconst C (v := 0) dX12_daysGo_16 (by decide) rfl ?_
  obtain ⟨w16, hw17⟩ : ∃ w : va_W, w = List.set w11 0 (ob mm 11 [.ref m0, .ref m1, .ref m2, .ref m3, .int 0, .int 0, .int 0, .int 0, .int 0, .int 0, .int 0, .int 0, .int 0, .int 0, .ref m14, .ref m15, .ref m16, .ref m17, .ref m18, .ref m19, .ref m20, .ref m21, .ref m22, .ref m23, .ref m24, .ref m25, .ref m26, .int 0, .ref m28, .ref m29, .ref m30, .ref m31, .int 0, .int 0, .int 0, .int 0, .int 0, .int 0, .ref m38, .ref m39, .ref m40, .ref m41, .ref m42, .ref m43, .ref m44, .ref m45, .ref m46, .int 0]) := ⟨_, rfl⟩
  refine x_put C (ci := 11) (k := 35) (ty := .int) 0 k13 rfl in_X12 tyX12 tyX12_ok nmX12 (by decide) w_1153 rfl rfl rfl rfl (Nat.le_of_ble_eq_true rfl) hw17.symm dX12_daysGo_17 rfl ?_
  have k18 : w16[0]? = some (ob mm 11 [.ref m0, .ref m1, .ref m2, .ref m3, .int 0, .int 0, .int 0, .int 0, .int 0, .int 0, .int 0, .int 0, .int 0, .int 0, .ref m14, .ref m15, .ref m16, .ref m17, .ref m18, .ref m19, .ref m20, .ref m21, .ref m22, .ref m23, .ref m24, .ref m25, .ref m26, .int 0, .ref m28, .ref m29, .ref m30, .ref m31, .int 0, .int 0, .int 0, .int 0, .int 0, .int 0, .ref m38, .ref m39, .ref m40, .ref m41, .ref m42, .ref m43, .ref m44, .ref m45, .ref m46, .int 0]) := by rw [hw17]; exact set_eq k13
  have k19 : w16[1]? = some (iA E m0 382 fn) := by rw [hw17]; exact set_ne k14 (by decide)
  have kp20 := keeps_set kp15 hw17 (by first | exact rfl | decide | omega | (dsimp only; omega))
  refine x_iconst C (v := 0) dX12_daysGo_20 (by decide) rfl ?_
  refine x_istore_n C (lv' := [(2, .int 0), (0, .ref mm), (1, .int (nI j))]) dX12_daysGo_21 rfl (by decide) rfl rfl ?_
  have loop : ∀ (n i : Nat) (wl : va_W) (gf : Nat → Int32), i ≤ j → j - i < n → keeps ws wl (fun q => q = 0 ∨ q = 1) → wl[0]? = some (ob mm 11 [.ref m0, .ref m1, .ref m2, .ref m3, .int 0, .int 0, .int 0, .int 0, .int 0, .int 0, .int 0, .int 0, .int 0, .int 0, .ref m14, .ref m15, .ref m16, .ref m17, .ref m18, .ref m19, .ref m20, .ref m21, .ref m22, .ref m23, .ref m24, .ref m25, .ref m26, .int 0, .ref m28, .ref m29, .ref m30, .ref m31, .int 0, .int 0, .int 0, .int 0, .int 0, .int 0, .ref m38, .ref m39, .ref m40, .ref m41, .ref m42, .ref m43, .ref m44, .ref m45, .ref m46, .int 0]) → wl[1]? = some (iA E m0 382 gf) → gf 337 = 0 → gf 381 = 0 → gf 379 = nI i → X E p l e (xRm 3 0 0) s m ([.ref mm, .int (nI j)] : List Value).toArray below meth c A 3 0 0 (MQ below (va_Qv (fun w => keeps ws w (fun q => q = 0 ∨ q = 1) ∧ w[0]? = some (ob mm 11 [.ref m0, .ref m1, .ref m2, .ref m3, .int 0, .int 0, .int 0, .int 0, .int 0, .int 0, .int 0, .int 0, .int 0, .int 0, .ref m14, .ref m15, .ref m16, .ref m17, .ref m18, .ref m19, .ref m20, .ref m21, .ref m22, .ref m23, .ref m24, .ref m25, .ref m26, .int 0, .ref m28, .ref m29, .ref m30, .ref m31, .int 0, .int 0, .int 0, .int 0, .int 0, .int 0, .ref m38, .ref m39, .ref m40, .ref m41, .ref m42, .ref m43, .ref m44, .ref m45, .ref m46, .int 0]) ∧ ∃ gf : Nat → Int32, gf 381 = 0 ∧ w[1]? = some (iA E m0 382 gf)) (xB E A) A) ([.ref mm, .int (nI j)] : List Value).toArray s 0 0 A) wl 22 [(2, .int (nI i)), (0, .ref mm), (1, .int (nI j))] [] := by
    intro n
    induction n with
    | zero => intro i w _ _ h; omega
    | succ n ih =>
      intro i wl gf h1 h2 kq z0 z1 hf337 hf381 hf379
      refine x_iload_n C dX12_daysGo_22 rfl 0 rfl rfl ?_
      refine x_iload_n C dX12_daysGo_23 rfl 2 rfl rfl ?_
      refine x_icmp_ge C (tgt := 51) dX12_daysGo_24 (by decide) rfl (fun c21 => ?_) (fun c21 => ?_)
      · skip
        exact x_vret C hr hlk dX12_daysGo_51 ⟨kq, z0, _, hf381, z1⟩
      · skip
        have hlt : i + 1 ≤ j := by
          rcases Nat.lt_or_ge i j with q | q
          · exact q
          · exact absurd (nI_le q (by omega)) c21
        refine x_aload_n C dX12_daysGo_27 rfl 1 rfl rfl ?_
        refine x_get C (ci := 11) (k := 0) 0 z0 rfl in_X12 (by decide) w_1118 rfl dX12_daysGo_28 rfl ?_
        refine x_sipush C (v := 379) dX12_daysGo_31 (by decide) rfl ?_
        refine x_ialk C (v := (nI i)) 379 (by decide) (by decide) (by decide) 1 z1 hf379 dX12_daysGo_34 rfl ?_
        refine x_sipush C (v := 9999) dX12_daysGo_35 (by decide) rfl ?_
        refine x_icmp_ge C (tgt := 51) dX12_daysGo_38 (by decide) rfl (fun h => absurd h (nI_ge (a := i) (b := 9999) (by omega) (by decide))) (fun _ => ?_)
        refine x_aload_n C dX12_daysGo_41 rfl 1 rfl rfl ?_
        refine x_vv C (As := []) (rest := []) (e_dayGoes E l wl 0 z0 1 z1 hf337 hf381 (nI i) hf379) mf_X12_dayGoes w_1501 0 z0 rfl rfl rfl (Nat.le_of_ble_eq_true rfl) ⟨(Nat.le_of_ble_eq_true rfl), (Nat.le_of_ble_eq_true rfl)⟩ ⟨(Nat.le_of_ble_eq_true rfl), (Nat.le_of_ble_eq_true rfl)⟩ dX12_daysGo_42 rfl (fun w24 h22 => ?_)
        have k25 : w24[0]? = some (ob mm 11 [.ref m0, .ref m1, .ref m2, .ref m3, .int 0, .int 0, .int 0, .int 0, .int 0, .int 0, .int 0, .int 0, .int 0, .int 0, .ref m14, .ref m15, .ref m16, .ref m17, .ref m18, .ref m19, .ref m20, .ref m21, .ref m22, .ref m23, .ref m24, .ref m25, .ref m26, .int 0, .ref m28, .ref m29, .ref m30, .ref m31, .int 0, .int 0, .int 0, .int 0, .int 0, .int 0, .ref m38, .ref m39, .ref m40, .ref m41, .ref m42, .ref m43, .ref m44, .ref m45, .ref m46, .int 0]) := by rw [h22]; exact (set_ne z0 (by decide))
        have k26 : w24[1]? = some (iA E m0 382 (upd gf 379 (nI i + 1))) := by rw [h22]; exact (set_eq z1)
        have kp27 := keeps_set kq h22 (by first | exact rfl | decide | omega | (dsimp only; omega))
        refine x_iinc C (v := ((nI i) + 1)) (lv' := [(2, .int ((nI i) + 1)), (0, .ref mm), (1, .int (nI j))]) dX12_daysGo_45 0 rfl rfl (by decide) rfl rfl ?_
        refine x_goto C (tgt := 22) dX12_daysGo_48 (by decide) ?_
        have ei : nI i + 1 = nI (i + 1) := nI_1 i
        rw [ei]
        exact ih (i + 1) w24 _ hlt (by omega) kp27 k25 k26 ((pk_un (by decide)).trans hf337) ((pk_un (by decide)).trans hf381) (pk_us.trans ei)
  exact loop (j + 1) 0 w16 _ (Nat.zero_le _) (by omega) kp20 k18 k19 h337 h381 (h379.trans nI_0.symm)
theorem dX12_days_0 : decode cX12_days 0 = .ok (.iload_n 1, 1) := by decide +kernel
theorem dX12_days_1 : decode cX12_days 1 = .ok (.iconst 1, 1) := by decide +kernel
theorem dX12_days_2 : decode cX12_days 2 = .ok (.bipush 60, 2) := by decide +kernel
theorem dX12_days_4 : decode cX12_days 4 = .ok (.invokestatic 109, 3) := by decide +kernel
theorem dX12_days_7 : decode cX12_days 7 = .ok (.ifCond .ne 5, 3) := by decide +kernel
theorem dX12_days_10 : decode cX12_days 10 = .ok (.iconst (-1), 1) := by decide +kernel
theorem dX12_days_11 : decode cX12_days 11 = .ok (.ireturn, 1) := by decide +kernel
theorem dX12_days_12 : decode cX12_days 12 = .ok (.aload_n 0, 1) := by decide +kernel
theorem dX12_days_13 : decode cX12_days 13 = .ok (.iload_n 1, 1) := by decide +kernel
theorem dX12_days_14 : decode cX12_days 14 = .ok (.invokevirtual 328, 3) := by decide +kernel
theorem dX12_days_17 : decode cX12_days 17 = .ok (.aload_n 0, 1) := by decide +kernel
theorem dX12_days_18 : decode cX12_days 18 = .ok (.getfield 310, 3) := by decide +kernel
theorem dX12_days_21 : decode cX12_days 21 = .ok (.ireturn, 1) := by decide +kernel
set_option maxRecDepth 20000 in
set_option maxHeartbeats 4000000 in
theorem e_days (E : xE) (l : Launch) (ws : va_W) {mm m0 m1 m2 m3 m14 m15 m16 m17 m18 m19 m20 m21 m22 m23 m24 m25 m26 m28 m29 m30 m31 m38 m39 m40 m41 m42 m43 m44 m45 m46 : Nat} {fn : Nat → Int32} (p_0 : Nat) (k_0 : ws[0]? = some (ob mm 11 [.ref m0, .ref m1, .ref m2, .ref m3, .int 0, .int 0, .int 0, .int 0, .int 0, .int 0, .int 0, .int 0, .int 0, .int 0, .ref m14, .ref m15, .ref m16, .ref m17, .ref m18, .ref m19, .ref m20, .ref m21, .ref m22, .ref m23, .ref m24, .ref m25, .ref m26, .int 0, .ref m28, .ref m29, .ref m30, .ref m31, .int 0, .int 0, .int 0, .int 0, .int 0, .int 0, .ref m38, .ref m39, .ref m40, .ref m41, .ref m42, .ref m43, .ref m44, .ref m45, .ref m46, .int 0])) (p_1 : Nat) (k_1 : ws[1]? = some (iA E m0 382 fn)) (n : Int32) (h337 : fn 337 = 0) (h379 : fn 379 = 0) (h381 : fn 381 = 0) : xI E l yX12_days cX12_days 2 (some .int) 4 [.ref mm, .int n] ws (fun r w => r = if wth n 1 60 then 0 else -1) := by
  refine xI_start (lv := [(0, .ref mm), (1, .int n)]) RX12 (by decide) rfl (Nat.le_of_ble_eq_true rfl) rfl (fun p e s m below meth c A C hr hlk => ?_)
  refine x_iload_n C dX12_days_0 rfl 1 rfl rfl ?_
  refine x_iconst C (v := 1) dX12_days_1 (by decide) rfl ?_
  refine x_bipush C (v := 60) dX12_days_2 (by decide) rfl ?_
  refine x_si C (As := [.int n, .int 1, .int 60]) (rest := []) (e_in E l ws n 1 60) mf_X12_in w_1267 rfl rfl (Nat.le_of_ble_eq_true rfl) ⟨(Nat.le_of_ble_eq_true rfl), (Nat.le_of_ble_eq_true rfl)⟩ ⟨(Nat.le_of_ble_eq_true rfl), (Nat.le_of_ble_eq_true rfl)⟩ dX12_days_4 rfl (fun r2 w3 h1 => ?_)
  obtain ⟨e4, g5⟩ := h1
  refine x_top e4 ?_
  refine x_ws g5 ?_
  refine x_if_ne C (tgt := 12) dX12_days_7 (by decide) rfl (fun c6 => ?_) (fun c6 => ?_)
  · skip
    have b7 := bI_n0 c6
    obtain ⟨j, hj1, hj, hjn⟩ := w_nat (a := 1) (b := 60) (by decide) (by decide) b7
    subst hjn
    refine x_aload_n C dX12_days_12 rfl 0 rfl rfl ?_
    refine x_iload_n C dX12_days_13 rfl 1 rfl rfl ?_
    refine x_vv C (As := [.int (nI j)]) (rest := []) (e_daysGo E l ws 0 k_0 1 k_1 h337 h381 h379 j hj) mf_X12_daysGo w_1497 0 k_0 rfl rfl rfl (Nat.le_of_ble_eq_true rfl) ⟨(Nat.le_of_ble_eq_true rfl), (Nat.le_of_ble_eq_true rfl)⟩ ⟨(Nat.le_of_ble_eq_true rfl), (Nat.le_of_ble_eq_true rfl)⟩ dX12_days_14 rfl (fun w8 h9 => ?_)
    obtain ⟨kq10, k13, gf11, hg12, k14⟩ := h9
    refine x_aload_n C dX12_days_17 rfl 0 rfl rfl ?_
    refine x_get C (ci := 11) (k := 32) 0 k13 rfl in_X12 (by decide) w_1150 rfl dX12_days_18 rfl ?_
    exact x_zret C hr hlk rfl dX12_days_21 (by rw [if_pos b7])
  · skip
    have b15 := bI_e0 c6
    refine x_iconst C (v := (-1)) dX12_days_10 (by decide) rfl ?_
    exact x_zret C hr hlk rfl dX12_days_11 (by simp [b15])
theorem dX12_tried_0 : decode cX12_tried 0 = .ok (.iload_n 1, 1) := by decide +kernel
theorem dX12_tried_1 : decode cX12_tried 1 = .ok (.iconst 1, 1) := by decide +kernel
theorem dX12_tried_2 : decode cX12_tried 2 = .ok (.bipush 60, 2) := by decide +kernel
theorem dX12_tried_4 : decode cX12_tried 4 = .ok (.invokestatic 109, 3) := by decide +kernel
theorem dX12_tried_7 : decode cX12_tried 7 = .ok (.ifCond .eq 12, 3) := by decide +kernel
theorem dX12_tried_10 : decode cX12_tried 10 = .ok (.iload_n 2, 1) := by decide +kernel
theorem dX12_tried_11 : decode cX12_tried 11 = .ok (.iconst 0, 1) := by decide +kernel
theorem dX12_tried_12 : decode cX12_tried 12 = .ok (.iconst 4, 1) := by decide +kernel
theorem dX12_tried_13 : decode cX12_tried 13 = .ok (.invokestatic 109, 3) := by decide +kernel
theorem dX12_tried_16 : decode cX12_tried 16 = .ok (.ifCond .ne 5, 3) := by decide +kernel
theorem dX12_tried_19 : decode cX12_tried 19 = .ok (.iconst (-1), 1) := by decide +kernel
theorem dX12_tried_20 : decode cX12_tried 20 = .ok (.ireturn, 1) := by decide +kernel
theorem dX12_tried_21 : decode cX12_tried 21 = .ok (.aload_n 0, 1) := by decide +kernel
theorem dX12_tried_22 : decode cX12_tried 22 = .ok (.getfield 7, 3) := by decide +kernel
theorem dX12_tried_25 : decode cX12_tried 25 = .ok (.aload_n 0, 1) := by decide +kernel
theorem dX12_tried_26 : decode cX12_tried 26 = .ok (.getfield 13, 3) := by decide +kernel
theorem dX12_tried_29 : decode cX12_tried 29 = .ok (.invokestatic 299, 3) := by decide +kernel
theorem dX12_tried_32 : decode cX12_tried 32 = .ok (.aload_n 0, 1) := by decide +kernel
theorem dX12_tried_33 : decode cX12_tried 33 = .ok (.iload_n 1, 1) := by decide +kernel
theorem dX12_tried_34 : decode cX12_tried 34 = .ok (.invokevirtual 328, 3) := by decide +kernel
theorem dX12_tried_37 : decode cX12_tried 37 = .ok (.iload_n 2, 1) := by decide +kernel
theorem dX12_tried_38 : decode cX12_tried 38 = .ok (.ifCond .ne 10, 3) := by decide +kernel
theorem dX12_tried_41 : decode cX12_tried 41 = .ok (.aload_n 0, 1) := by decide +kernel
theorem dX12_tried_42 : decode cX12_tried 42 = .ok (.getfield 310, 3) := by decide +kernel
theorem dX12_tried_45 : decode cX12_tried 45 = .ok (.goto 44, 3) := by decide +kernel
theorem dX12_tried_48 : decode cX12_tried 48 = .ok (.iload_n 2, 1) := by decide +kernel
theorem dX12_tried_49 : decode cX12_tried 49 = .ok (.iconst 1, 1) := by decide +kernel
theorem dX12_tried_50 : decode cX12_tried 50 = .ok (.if_icmp .ne 10, 3) := by decide +kernel
theorem dX12_tried_53 : decode cX12_tried 53 = .ok (.aload_n 0, 1) := by decide +kernel
theorem dX12_tried_54 : decode cX12_tried 54 = .ok (.getfield 313, 3) := by decide +kernel
theorem dX12_tried_57 : decode cX12_tried 57 = .ok (.goto 32, 3) := by decide +kernel
theorem dX12_tried_60 : decode cX12_tried 60 = .ok (.iload_n 2, 1) := by decide +kernel
theorem dX12_tried_61 : decode cX12_tried 61 = .ok (.iconst 2, 1) := by decide +kernel
theorem dX12_tried_62 : decode cX12_tried 62 = .ok (.if_icmp .ne 10, 3) := by decide +kernel
theorem dX12_tried_65 : decode cX12_tried 65 = .ok (.aload_n 0, 1) := by decide +kernel
theorem dX12_tried_66 : decode cX12_tried 66 = .ok (.getfield 322, 3) := by decide +kernel
theorem dX12_tried_69 : decode cX12_tried 69 = .ok (.goto 20, 3) := by decide +kernel
theorem dX12_tried_72 : decode cX12_tried 72 = .ok (.iload_n 2, 1) := by decide +kernel
theorem dX12_tried_73 : decode cX12_tried 73 = .ok (.iconst 3, 1) := by decide +kernel
theorem dX12_tried_74 : decode cX12_tried 74 = .ok (.if_icmp .ne 10, 3) := by decide +kernel
theorem dX12_tried_77 : decode cX12_tried 77 = .ok (.aload_n 0, 1) := by decide +kernel
theorem dX12_tried_78 : decode cX12_tried 78 = .ok (.getfield 316, 3) := by decide +kernel
theorem dX12_tried_81 : decode cX12_tried 81 = .ok (.goto 8, 3) := by decide +kernel
theorem dX12_tried_84 : decode cX12_tried 84 = .ok (.aload_n 0, 1) := by decide +kernel
theorem dX12_tried_85 : decode cX12_tried 85 = .ok (.iconst 0, 1) := by decide +kernel
theorem dX12_tried_86 : decode cX12_tried 86 = .ok (.invokevirtual 331, 3) := by decide +kernel
theorem dX12_tried_89 : decode cX12_tried 89 = .ok (.istore_n 3, 1) := by decide +kernel
theorem dX12_tried_90 : decode cX12_tried 90 = .ok (.aload_n 0, 1) := by decide +kernel
theorem dX12_tried_91 : decode cX12_tried 91 = .ok (.getfield 13, 3) := by decide +kernel
theorem dX12_tried_94 : decode cX12_tried 94 = .ok (.aload_n 0, 1) := by decide +kernel
theorem dX12_tried_95 : decode cX12_tried 95 = .ok (.getfield 7, 3) := by decide +kernel
theorem dX12_tried_98 : decode cX12_tried 98 = .ok (.invokestatic 299, 3) := by decide +kernel
theorem dX12_tried_101 : decode cX12_tried 101 = .ok (.iload_n 3, 1) := by decide +kernel
theorem dX12_tried_102 : decode cX12_tried 102 = .ok (.ireturn, 1) := by decide +kernel
set_option maxRecDepth 20000 in
set_option maxHeartbeats 4000000 in
theorem e_tried (E : xE) (l : Launch) (ws : va_W) {mm m0 m1 m2 m3 m14 m15 m16 m17 m18 m19 m20 m21 m22 m23 m24 m25 m26 m28 m29 m30 m31 m38 m39 m40 m41 m42 m43 m44 m45 m46 : Nat} {fn fa : Nat → Int32} (p_0 : Nat) (k_0 : ws[0]? = some (ob mm 11 [.ref m0, .ref m1, .ref m2, .ref m3, .int 0, .int 0, .int 0, .int 0, .int 0, .int 0, .int 0, .int 0, .int 0, .int 0, .ref m14, .ref m15, .ref m16, .ref m17, .ref m18, .ref m19, .ref m20, .ref m21, .ref m22, .ref m23, .ref m24, .ref m25, .ref m26, .int 0, .ref m28, .ref m29, .ref m30, .ref m31, .int 0, .int 0, .int 0, .int 0, .int 0, .int 0, .ref m38, .ref m39, .ref m40, .ref m41, .ref m42, .ref m43, .ref m44, .ref m45, .ref m46, .int 0])) (p_1 : Nat) (k_1 : ws[1]? = some (iA E m0 382 fn)) (p_2 : Nat) (k_2 : ws[2]? = some (iA E m1 382 fa)) (n wh : Int32) (h337 : fn 337 = 0) (h379 : fn 379 = 0) (h381 : fn 381 = 0) : xI E l yX12_tried cX12_tried 4 (some .int) 4 [.ref mm, .int n, .int wh] ws (fun r w => r = if wth n 1 60 ∧ wth wh 0 4 then 0 else -1) := by
  refine xI_start (lv := [(0, .ref mm), (1, .int n), (2, .int wh)]) RX12 (by decide) rfl (Nat.le_of_ble_eq_true rfl) rfl (fun p e s m below meth c A C hr hlk => ?_)
  refine x_iload_n C dX12_tried_0 rfl 1 rfl rfl ?_
  refine x_iconst C (v := 1) dX12_tried_1 (by decide) rfl ?_
  refine x_bipush C (v := 60) dX12_tried_2 (by decide) rfl ?_
  refine x_si C (As := [.int n, .int 1, .int 60]) (rest := []) (e_in E l ws n 1 60) mf_X12_in w_1267 rfl rfl (Nat.le_of_ble_eq_true rfl) ⟨(Nat.le_of_ble_eq_true rfl), (Nat.le_of_ble_eq_true rfl)⟩ ⟨(Nat.le_of_ble_eq_true rfl), (Nat.le_of_ble_eq_true rfl)⟩ dX12_tried_4 rfl (fun r2 w3 h1 => ?_)
  obtain ⟨e4, g5⟩ := h1
  refine x_top e4 ?_
  refine x_ws g5 ?_
  refine x_if_eq C (tgt := 19) dX12_tried_7 (by decide) rfl (fun c6 => ?_) (fun c6 => ?_)
  · skip
    have b7 := bI_e0 c6
    refine x_iconst C (v := (-1)) dX12_tried_19 (by decide) rfl ?_
    exact x_zret C hr hlk rfl dX12_tried_20 (by simp [b7])
  · skip
    have b8 := bI_n0 c6
    refine x_iload_n C dX12_tried_10 rfl 2 rfl rfl ?_
    refine x_iconst C (v := 0) dX12_tried_11 (by decide) rfl ?_
    refine x_iconst C (v := 4) dX12_tried_12 (by decide) rfl ?_
    refine x_si C (As := [.int wh, .int 0, .int 4]) (rest := []) (e_in E l ws wh 0 4) mf_X12_in w_1267 rfl rfl (Nat.le_of_ble_eq_true rfl) ⟨(Nat.le_of_ble_eq_true rfl), (Nat.le_of_ble_eq_true rfl)⟩ ⟨(Nat.le_of_ble_eq_true rfl), (Nat.le_of_ble_eq_true rfl)⟩ dX12_tried_13 rfl (fun r10 w11 h9 => ?_)
    obtain ⟨e12, g13⟩ := h9
    refine x_top e12 ?_
    refine x_ws g13 ?_
    refine x_if_ne C (tgt := 21) dX12_tried_16 (by decide) rfl (fun c14 => ?_) (fun c14 => ?_)
    · skip
      have b15 := bI_n0 c14
      obtain ⟨j, hj1, hj, hjn⟩ := w_nat (a := 1) (b := 60) (by decide) (by decide) b8
      subst hjn
      refine x_aload_n C dX12_tried_21 rfl 0 rfl rfl ?_
      refine x_get C (ci := 11) (k := 0) 0 k_0 rfl in_X12 (by decide) w_1118 rfl dX12_tried_22 rfl ?_
      refine x_aload_n C dX12_tried_25 rfl 0 rfl rfl ?_
      refine x_get C (ci := 11) (k := 1) 0 k_0 rfl in_X12 (by decide) w_1119 rfl dX12_tried_26 rfl ?_
      refine x_sv C (As := [.ref m0, .ref m1]) (rest := []) (e_copies E l ws 1 k_1 2 k_2 (by decide)) mf_X12_copies w_1490 rfl rfl (Nat.le_of_ble_eq_true rfl) ⟨(Nat.le_of_ble_eq_true rfl), (Nat.le_of_ble_eq_true rfl)⟩ ⟨(Nat.le_of_ble_eq_true rfl), (Nat.le_of_ble_eq_true rfl)⟩ dX12_tried_29 rfl (fun w18 h16 => ?_)
      obtain ⟨g19, ⟨fx22, g20⟩⟩ := h16
      have k23 : w18[0]? = some (ob mm 11 [.ref m0, .ref m1, .ref m2, .ref m3, .int 0, .int 0, .int 0, .int 0, .int 0, .int 0, .int 0, .int 0, .int 0, .int 0, .ref m14, .ref m15, .ref m16, .ref m17, .ref m18, .ref m19, .ref m20, .ref m21, .ref m22, .ref m23, .ref m24, .ref m25, .ref m26, .int 0, .ref m28, .ref m29, .ref m30, .ref m31, .int 0, .int 0, .int 0, .int 0, .int 0, .int 0, .ref m38, .ref m39, .ref m40, .ref m41, .ref m42, .ref m43, .ref m44, .ref m45, .ref m46, .int 0]) := keeps_at g19 k_0 (by first | decide | omega | (dsimp only; omega))
      have k24 : w18[1]? = some (iA E m0 382 fn) := keeps_at g19 k_1 (by first | decide | omega | (dsimp only; omega))
      refine x_aload_n C dX12_tried_32 rfl 0 rfl rfl ?_
      refine x_iload_n C dX12_tried_33 rfl 1 rfl rfl ?_
      refine x_vv C (As := [.int (nI j)]) (rest := []) (e_daysGo E l w18 0 k23 1 k24 h337 h381 h379 j hj) mf_X12_daysGo w_1497 0 k23 rfl rfl rfl (Nat.le_of_ble_eq_true rfl) ⟨(Nat.le_of_ble_eq_true rfl), (Nat.le_of_ble_eq_true rfl)⟩ ⟨(Nat.le_of_ble_eq_true rfl), (Nat.le_of_ble_eq_true rfl)⟩ dX12_tried_34 rfl (fun w25 h26 => ?_)
      obtain ⟨kq27, k30, gf28, hg29, k31⟩ := h26
      have k32 : w25[2]? = some (iA E m1 382 fx22) := keeps_at kq27 g20 (by first | decide | omega | (dsimp only; omega))
      refine x_iload_n C dX12_tried_37 rfl 2 rfl rfl ?_
      refine x_if_ne C (tgt := 48) dX12_tried_38 (by decide) rfl (fun c33 => ?_) (fun c33 => ?_)
      · skip
        refine x_iload_n C dX12_tried_48 rfl 2 rfl rfl ?_
        refine x_iconst C (v := 1) dX12_tried_49 (by decide) rfl ?_
        refine x_icmp_ne C (tgt := 60) dX12_tried_50 (by decide) rfl (fun c34 => ?_) (fun c34 => ?_)
        · skip
          refine x_iload_n C dX12_tried_60 rfl 2 rfl rfl ?_
          refine x_iconst C (v := 2) dX12_tried_61 (by decide) rfl ?_
          refine x_icmp_ne C (tgt := 72) dX12_tried_62 (by decide) rfl (fun c35 => ?_) (fun c35 => ?_)
          · skip
            refine x_iload_n C dX12_tried_72 rfl 2 rfl rfl ?_
            refine x_iconst C (v := 3) dX12_tried_73 (by decide) rfl ?_
            refine x_icmp_ne C (tgt := 84) dX12_tried_74 (by decide) rfl (fun c36 => ?_) (fun c36 => ?_)
            · skip
              refine x_aload_n C dX12_tried_84 rfl 0 rfl rfl ?_
              refine x_iconst C (v := 0) dX12_tried_85 (by decide) rfl ?_
              refine x_vi C (As := [.int 0]) (rest := []) (e_howMany E l w25 0 k30 1 k31 0 hg29) mf_X12_howMany w_1526 0 k30 rfl rfl rfl (Nat.le_of_ble_eq_true rfl) ⟨(Nat.le_of_ble_eq_true rfl), (Nat.le_of_ble_eq_true rfl)⟩ ⟨(Nat.le_of_ble_eq_true rfl), (Nat.le_of_ble_eq_true rfl)⟩ dX12_tried_86 rfl (fun r38 w39 h37 => ?_)
              obtain ⟨e40, g41⟩ := h37
              refine x_top e40 ?_
              refine x_ws g41 ?_
              refine x_istore_n C (lv' := [(3, .int 0), (0, .ref mm), (1, .int (nI j)), (2, .int wh)]) dX12_tried_89 rfl (by decide) rfl rfl ?_
              refine x_aload_n C dX12_tried_90 rfl 1 rfl rfl ?_
              refine x_get C (ci := 11) (k := 1) 0 k30 rfl in_X12 (by decide) w_1119 rfl dX12_tried_91 rfl ?_
              refine x_aload_n C dX12_tried_94 rfl 1 rfl rfl ?_
              refine x_get C (ci := 11) (k := 0) 0 k30 rfl in_X12 (by decide) w_1118 rfl dX12_tried_95 rfl ?_
              refine x_sv C (As := [.ref m1, .ref m0]) (rest := []) (e_copies E l w25 2 k32 1 k31 (by decide)) mf_X12_copies w_1490 rfl rfl (Nat.le_of_ble_eq_true rfl) ⟨(Nat.le_of_ble_eq_true rfl), (Nat.le_of_ble_eq_true rfl)⟩ ⟨(Nat.le_of_ble_eq_true rfl), (Nat.le_of_ble_eq_true rfl)⟩ dX12_tried_98 rfl (fun w44 h42 => ?_)
              obtain ⟨g45, ⟨fx48, g46⟩⟩ := h42
              have k49 : w44[0]? = some (ob mm 11 [.ref m0, .ref m1, .ref m2, .ref m3, .int 0, .int 0, .int 0, .int 0, .int 0, .int 0, .int 0, .int 0, .int 0, .int 0, .ref m14, .ref m15, .ref m16, .ref m17, .ref m18, .ref m19, .ref m20, .ref m21, .ref m22, .ref m23, .ref m24, .ref m25, .ref m26, .int 0, .ref m28, .ref m29, .ref m30, .ref m31, .int 0, .int 0, .int 0, .int 0, .int 0, .int 0, .ref m38, .ref m39, .ref m40, .ref m41, .ref m42, .ref m43, .ref m44, .ref m45, .ref m46, .int 0]) := keeps_at g45 k30 (by first | decide | omega | (dsimp only; omega))
              have k50 : w44[2]? = some (iA E m1 382 fx22) := keeps_at g45 k32 (by first | decide | omega | (dsimp only; omega))
              refine x_iload_n C dX12_tried_101 rfl 0 rfl rfl ?_
              exact x_zret C hr hlk rfl dX12_tried_102 (by rw [if_pos ⟨b8, b15⟩])
            · skip
              refine x_aload_n C dX12_tried_77 rfl 0 rfl rfl ?_
              refine x_get C (ci := 11) (k := 35) 0 k30 rfl in_X12 (by decide) w_1153 rfl dX12_tried_78 rfl ?_
              refine x_goto C (tgt := 89) dX12_tried_81 (by decide) ?_
              refine x_istore_n C (lv' := [(3, .int 0), (0, .ref mm), (1, .int (nI j)), (2, .int wh)]) dX12_tried_89 rfl (by decide) rfl rfl ?_
              refine x_aload_n C dX12_tried_90 rfl 1 rfl rfl ?_
              refine x_get C (ci := 11) (k := 1) 0 k30 rfl in_X12 (by decide) w_1119 rfl dX12_tried_91 rfl ?_
              refine x_aload_n C dX12_tried_94 rfl 1 rfl rfl ?_
              refine x_get C (ci := 11) (k := 0) 0 k30 rfl in_X12 (by decide) w_1118 rfl dX12_tried_95 rfl ?_
              refine x_sv C (As := [.ref m1, .ref m0]) (rest := []) (e_copies E l w25 2 k32 1 k31 (by decide)) mf_X12_copies w_1490 rfl rfl (Nat.le_of_ble_eq_true rfl) ⟨(Nat.le_of_ble_eq_true rfl), (Nat.le_of_ble_eq_true rfl)⟩ ⟨(Nat.le_of_ble_eq_true rfl), (Nat.le_of_ble_eq_true rfl)⟩ dX12_tried_98 rfl (fun w53 h51 => ?_)
              obtain ⟨g54, ⟨fx57, g55⟩⟩ := h51
              have k58 : w53[0]? = some (ob mm 11 [.ref m0, .ref m1, .ref m2, .ref m3, .int 0, .int 0, .int 0, .int 0, .int 0, .int 0, .int 0, .int 0, .int 0, .int 0, .ref m14, .ref m15, .ref m16, .ref m17, .ref m18, .ref m19, .ref m20, .ref m21, .ref m22, .ref m23, .ref m24, .ref m25, .ref m26, .int 0, .ref m28, .ref m29, .ref m30, .ref m31, .int 0, .int 0, .int 0, .int 0, .int 0, .int 0, .ref m38, .ref m39, .ref m40, .ref m41, .ref m42, .ref m43, .ref m44, .ref m45, .ref m46, .int 0]) := keeps_at g54 k30 (by first | decide | omega | (dsimp only; omega))
              have k59 : w53[2]? = some (iA E m1 382 fx22) := keeps_at g54 k32 (by first | decide | omega | (dsimp only; omega))
              refine x_iload_n C dX12_tried_101 rfl 0 rfl rfl ?_
              exact x_zret C hr hlk rfl dX12_tried_102 (by rw [if_pos ⟨b8, b15⟩])
          · skip
            refine x_aload_n C dX12_tried_65 rfl 0 rfl rfl ?_
            refine x_get C (ci := 11) (k := 34) 0 k30 rfl in_X12 (by decide) w_1152 rfl dX12_tried_66 rfl ?_
            refine x_goto C (tgt := 89) dX12_tried_69 (by decide) ?_
            refine x_istore_n C (lv' := [(3, .int 0), (0, .ref mm), (1, .int (nI j)), (2, .int wh)]) dX12_tried_89 rfl (by decide) rfl rfl ?_
            refine x_aload_n C dX12_tried_90 rfl 1 rfl rfl ?_
            refine x_get C (ci := 11) (k := 1) 0 k30 rfl in_X12 (by decide) w_1119 rfl dX12_tried_91 rfl ?_
            refine x_aload_n C dX12_tried_94 rfl 1 rfl rfl ?_
            refine x_get C (ci := 11) (k := 0) 0 k30 rfl in_X12 (by decide) w_1118 rfl dX12_tried_95 rfl ?_
            refine x_sv C (As := [.ref m1, .ref m0]) (rest := []) (e_copies E l w25 2 k32 1 k31 (by decide)) mf_X12_copies w_1490 rfl rfl (Nat.le_of_ble_eq_true rfl) ⟨(Nat.le_of_ble_eq_true rfl), (Nat.le_of_ble_eq_true rfl)⟩ ⟨(Nat.le_of_ble_eq_true rfl), (Nat.le_of_ble_eq_true rfl)⟩ dX12_tried_98 rfl (fun w62 h60 => ?_)
            obtain ⟨g63, ⟨fx66, g64⟩⟩ := h60
            have k67 : w62[0]? = some (ob mm 11 [.ref m0, .ref m1, .ref m2, .ref m3, .int 0, .int 0, .int 0, .int 0, .int 0, .int 0, .int 0, .int 0, .int 0, .int 0, .ref m14, .ref m15, .ref m16, .ref m17, .ref m18, .ref m19, .ref m20, .ref m21, .ref m22, .ref m23, .ref m24, .ref m25, .ref m26, .int 0, .ref m28, .ref m29, .ref m30, .ref m31, .int 0, .int 0, .int 0, .int 0, .int 0, .int 0, .ref m38, .ref m39, .ref m40, .ref m41, .ref m42, .ref m43, .ref m44, .ref m45, .ref m46, .int 0]) := keeps_at g63 k30 (by first | decide | omega | (dsimp only; omega))
            have k68 : w62[2]? = some (iA E m1 382 fx22) := keeps_at g63 k32 (by first | decide | omega | (dsimp only; omega))
            refine x_iload_n C dX12_tried_101 rfl 0 rfl rfl ?_
            exact x_zret C hr hlk rfl dX12_tried_102 (by rw [if_pos ⟨b8, b15⟩])
        · skip
          refine x_aload_n C dX12_tried_53 rfl 0 rfl rfl ?_
          refine x_get C (ci := 11) (k := 33) 0 k30 rfl in_X12 (by decide) w_1151 rfl dX12_tried_54 rfl ?_
          refine x_goto C (tgt := 89) dX12_tried_57 (by decide) ?_
          refine x_istore_n C (lv' := [(3, .int 0), (0, .ref mm), (1, .int (nI j)), (2, .int wh)]) dX12_tried_89 rfl (by decide) rfl rfl ?_
          refine x_aload_n C dX12_tried_90 rfl 1 rfl rfl ?_
          refine x_get C (ci := 11) (k := 1) 0 k30 rfl in_X12 (by decide) w_1119 rfl dX12_tried_91 rfl ?_
          refine x_aload_n C dX12_tried_94 rfl 1 rfl rfl ?_
          refine x_get C (ci := 11) (k := 0) 0 k30 rfl in_X12 (by decide) w_1118 rfl dX12_tried_95 rfl ?_
          refine x_sv C (As := [.ref m1, .ref m0]) (rest := []) (e_copies E l w25 2 k32 1 k31 (by decide)) mf_X12_copies w_1490 rfl rfl (Nat.le_of_ble_eq_true rfl) ⟨(Nat.le_of_ble_eq_true rfl), (Nat.le_of_ble_eq_true rfl)⟩ ⟨(Nat.le_of_ble_eq_true rfl), (Nat.le_of_ble_eq_true rfl)⟩ dX12_tried_98 rfl (fun w71 h69 => ?_)
          obtain ⟨g72, ⟨fx75, g73⟩⟩ := h69
          have k76 : w71[0]? = some (ob mm 11 [.ref m0, .ref m1, .ref m2, .ref m3, .int 0, .int 0, .int 0, .int 0, .int 0, .int 0, .int 0, .int 0, .int 0, .int 0, .ref m14, .ref m15, .ref m16, .ref m17, .ref m18, .ref m19, .ref m20, .ref m21, .ref m22, .ref m23, .ref m24, .ref m25, .ref m26, .int 0, .ref m28, .ref m29, .ref m30, .ref m31, .int 0, .int 0, .int 0, .int 0, .int 0, .int 0, .ref m38, .ref m39, .ref m40, .ref m41, .ref m42, .ref m43, .ref m44, .ref m45, .ref m46, .int 0]) := keeps_at g72 k30 (by first | decide | omega | (dsimp only; omega))
          have k77 : w71[2]? = some (iA E m1 382 fx22) := keeps_at g72 k32 (by first | decide | omega | (dsimp only; omega))
          refine x_iload_n C dX12_tried_101 rfl 0 rfl rfl ?_
          exact x_zret C hr hlk rfl dX12_tried_102 (by rw [if_pos ⟨b8, b15⟩])
      · skip
        refine x_aload_n C dX12_tried_41 rfl 0 rfl rfl ?_
        refine x_get C (ci := 11) (k := 32) 0 k30 rfl in_X12 (by decide) w_1150 rfl dX12_tried_42 rfl ?_
        refine x_goto C (tgt := 89) dX12_tried_45 (by decide) ?_
        refine x_istore_n C (lv' := [(3, .int 0), (0, .ref mm), (1, .int (nI j)), (2, .int wh)]) dX12_tried_89 rfl (by decide) rfl rfl ?_
        refine x_aload_n C dX12_tried_90 rfl 1 rfl rfl ?_
        refine x_get C (ci := 11) (k := 1) 0 k30 rfl in_X12 (by decide) w_1119 rfl dX12_tried_91 rfl ?_
        refine x_aload_n C dX12_tried_94 rfl 1 rfl rfl ?_
        refine x_get C (ci := 11) (k := 0) 0 k30 rfl in_X12 (by decide) w_1118 rfl dX12_tried_95 rfl ?_
        refine x_sv C (As := [.ref m1, .ref m0]) (rest := []) (e_copies E l w25 2 k32 1 k31 (by decide)) mf_X12_copies w_1490 rfl rfl (Nat.le_of_ble_eq_true rfl) ⟨(Nat.le_of_ble_eq_true rfl), (Nat.le_of_ble_eq_true rfl)⟩ ⟨(Nat.le_of_ble_eq_true rfl), (Nat.le_of_ble_eq_true rfl)⟩ dX12_tried_98 rfl (fun w80 h78 => ?_)
        obtain ⟨g81, ⟨fx84, g82⟩⟩ := h78
        have k85 : w80[0]? = some (ob mm 11 [.ref m0, .ref m1, .ref m2, .ref m3, .int 0, .int 0, .int 0, .int 0, .int 0, .int 0, .int 0, .int 0, .int 0, .int 0, .ref m14, .ref m15, .ref m16, .ref m17, .ref m18, .ref m19, .ref m20, .ref m21, .ref m22, .ref m23, .ref m24, .ref m25, .ref m26, .int 0, .ref m28, .ref m29, .ref m30, .ref m31, .int 0, .int 0, .int 0, .int 0, .int 0, .int 0, .ref m38, .ref m39, .ref m40, .ref m41, .ref m42, .ref m43, .ref m44, .ref m45, .ref m46, .int 0]) := keeps_at g81 k30 (by first | decide | omega | (dsimp only; omega))
        have k86 : w80[2]? = some (iA E m1 382 fx22) := keeps_at g81 k32 (by first | decide | omega | (dsimp only; omega))
        refine x_iload_n C dX12_tried_101 rfl 0 rfl rfl ?_
        exact x_zret C hr hlk rfl dX12_tried_102 (by rw [if_pos ⟨b8, b15⟩])
    · skip
      have b87 := bI_e0 c14
      refine x_iconst C (v := (-1)) dX12_tried_19 (by decide) rfl ?_
      exact x_zret C hr hlk rfl dX12_tried_20 (by simp [b8, b87])
theorem dX12_keep_0 : decode cX12_keep 0 = .ok (.aload_n 0, 1) := by decide +kernel
theorem dX12_keep_1 : decode cX12_keep 1 = .ok (.iconst 1, 1) := by decide +kernel
theorem dX12_keep_2 : decode cX12_keep 2 = .ok (.putfield 403, 3) := by decide +kernel
theorem dX12_keep_5 : decode cX12_keep 5 = .ok (.aload_n 0, 1) := by decide +kernel
theorem dX12_keep_6 : decode cX12_keep 6 = .ok (.getfield 7, 3) := by decide +kernel
theorem dX12_keep_9 : decode cX12_keep 9 = .ok (.aload_n 0, 1) := by decide +kernel
theorem dX12_keep_10 : decode cX12_keep 10 = .ok (.getfield 16, 3) := by decide +kernel
theorem dX12_keep_13 : decode cX12_keep 13 = .ok (.invokestatic 299, 3) := by decide +kernel
theorem dX12_keep_16 : decode cX12_keep 16 = .ok (.aload_n 0, 1) := by decide +kernel
theorem dX12_keep_17 : decode cX12_keep 17 = .ok (.iconst 0, 1) := by decide +kernel
theorem dX12_keep_18 : decode cX12_keep 18 = .ok (.invokevirtual 331, 3) := by decide +kernel
theorem dX12_keep_21 : decode cX12_keep 21 = .ok (.ireturn, 1) := by decide +kernel
set_option maxRecDepth 20000 in
set_option maxHeartbeats 4000000 in
theorem e_keep (E : xE) (l : Launch) (ws : va_W) {mm m0 m1 m2 m3 m14 m15 m16 m17 m18 m19 m20 m21 m22 m23 m24 m25 m26 m28 m29 m30 m31 m38 m39 m40 m41 m42 m43 m44 m45 m46 : Nat} {fn fk : Nat → Int32} (p_0 : Nat) (k_0 : ws[0]? = some (ob mm 11 [.ref m0, .ref m1, .ref m2, .ref m3, .int 0, .int 0, .int 0, .int 0, .int 0, .int 0, .int 0, .int 0, .int 0, .int 0, .ref m14, .ref m15, .ref m16, .ref m17, .ref m18, .ref m19, .ref m20, .ref m21, .ref m22, .ref m23, .ref m24, .ref m25, .ref m26, .int 0, .ref m28, .ref m29, .ref m30, .ref m31, .int 0, .int 0, .int 0, .int 0, .int 0, .int 0, .ref m38, .ref m39, .ref m40, .ref m41, .ref m42, .ref m43, .ref m44, .ref m45, .ref m46, .int 0])) (p_1 : Nat) (k_1 : ws[1]? = some (iA E m0 382 fn)) (p_2 : Nat) (k_2 : ws[3]? = some (iA E m2 382 fk)) (h381 : fn 381 = 0) : xI E l yX12_keep cX12_keep 1 (some .int) 1 [.ref mm] ws (fun r w => r = 0) := by
  refine xI_start (lv := [(0, .ref mm)]) RX12 (by decide) rfl (Nat.le_of_ble_eq_true rfl) rfl (fun p e s m below meth c A C hr hlk => ?_)
  refine x_aload_n C dX12_keep_0 rfl 0 rfl rfl ?_
  refine x_iconst C (v := 1) dX12_keep_1 (by decide) rfl ?_
  obtain ⟨w1, hw2⟩ : ∃ w : va_W, w = List.set ws 0 (ob mm 11 [.ref m0, .ref m1, .ref m2, .ref m3, .int 0, .int 0, .int 0, .int 0, .int 0, .int 0, .int 0, .int 0, .int 0, .int 0, .ref m14, .ref m15, .ref m16, .ref m17, .ref m18, .ref m19, .ref m20, .ref m21, .ref m22, .ref m23, .ref m24, .ref m25, .ref m26, .int 0, .ref m28, .ref m29, .ref m30, .ref m31, .int 0, .int 0, .int 0, .int 0, .int 0, .int 0, .ref m38, .ref m39, .ref m40, .ref m41, .ref m42, .ref m43, .ref m44, .ref m45, .ref m46, .int 1]) := ⟨_, rfl⟩
  refine x_put C (ci := 11) (k := 47) (ty := .boolean) 0 k_0 rfl in_X12 tyX12 tyX12_ok nmX12 (by decide) w_1165 rfl rfl rfl rfl (Nat.le_of_ble_eq_true rfl) hw2.symm dX12_keep_2 rfl ?_
  have k3 : w1[0]? = some (ob mm 11 [.ref m0, .ref m1, .ref m2, .ref m3, .int 0, .int 0, .int 0, .int 0, .int 0, .int 0, .int 0, .int 0, .int 0, .int 0, .ref m14, .ref m15, .ref m16, .ref m17, .ref m18, .ref m19, .ref m20, .ref m21, .ref m22, .ref m23, .ref m24, .ref m25, .ref m26, .int 0, .ref m28, .ref m29, .ref m30, .ref m31, .int 0, .int 0, .int 0, .int 0, .int 0, .int 0, .ref m38, .ref m39, .ref m40, .ref m41, .ref m42, .ref m43, .ref m44, .ref m45, .ref m46, .int 1]) := by rw [hw2]; exact set_eq k_0
  have k4 : w1[1]? = some (iA E m0 382 fn) := by rw [hw2]; exact set_ne k_1 (by decide)
  have k5 : w1[3]? = some (iA E m2 382 fk) := by rw [hw2]; exact set_ne k_2 (by decide)
  refine x_aload_n C dX12_keep_5 rfl 0 rfl rfl ?_
  refine x_get C (ci := 11) (k := 0) 0 k3 rfl in_X12 (by decide) w_1118 rfl dX12_keep_6 rfl ?_
  refine x_aload_n C dX12_keep_9 rfl 0 rfl rfl ?_
  refine x_get C (ci := 11) (k := 2) 0 k3 rfl in_X12 (by decide) w_1120 rfl dX12_keep_10 rfl ?_
  refine x_sv C (As := [.ref m0, .ref m2]) (rest := []) (e_copies E l w1 1 k4 3 k5 (by decide)) mf_X12_copies w_1490 rfl rfl (Nat.le_of_ble_eq_true rfl) ⟨(Nat.le_of_ble_eq_true rfl), (Nat.le_of_ble_eq_true rfl)⟩ ⟨(Nat.le_of_ble_eq_true rfl), (Nat.le_of_ble_eq_true rfl)⟩ dX12_keep_13 rfl (fun w8 h6 => ?_)
  obtain ⟨g9, ⟨fx12, g10⟩⟩ := h6
  have k13 : w8[0]? = some (ob mm 11 [.ref m0, .ref m1, .ref m2, .ref m3, .int 0, .int 0, .int 0, .int 0, .int 0, .int 0, .int 0, .int 0, .int 0, .int 0, .ref m14, .ref m15, .ref m16, .ref m17, .ref m18, .ref m19, .ref m20, .ref m21, .ref m22, .ref m23, .ref m24, .ref m25, .ref m26, .int 0, .ref m28, .ref m29, .ref m30, .ref m31, .int 0, .int 0, .int 0, .int 0, .int 0, .int 0, .ref m38, .ref m39, .ref m40, .ref m41, .ref m42, .ref m43, .ref m44, .ref m45, .ref m46, .int 1]) := keeps_at g9 k3 (by first | decide | omega | (dsimp only; omega))
  have k14 : w8[1]? = some (iA E m0 382 fn) := keeps_at g9 k4 (by first | decide | omega | (dsimp only; omega))
  refine x_aload_n C dX12_keep_16 rfl 0 rfl rfl ?_
  refine x_iconst C (v := 0) dX12_keep_17 (by decide) rfl ?_
  refine x_vi C (As := [.int 0]) (rest := []) (e_howMany E l w8 0 k13 1 k14 0 h381) mf_X12_howMany w_1526 0 k13 rfl rfl rfl (Nat.le_of_ble_eq_true rfl) ⟨(Nat.le_of_ble_eq_true rfl), (Nat.le_of_ble_eq_true rfl)⟩ ⟨(Nat.le_of_ble_eq_true rfl), (Nat.le_of_ble_eq_true rfl)⟩ dX12_keep_18 rfl (fun r16 w17 h15 => ?_)
  obtain ⟨e18, g19⟩ := h15
  refine x_top e18 ?_
  refine x_ws g19 ?_
  exact x_zret C hr hlk rfl dX12_keep_21 (by first | rfl | trivial | (simp [bI]; done) | (simp_all [bI]; done))
